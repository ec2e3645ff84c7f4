def wp_X12_in (p1 : Int32) (p2 : Int32) (p3 : Int32) (Q : Int32 → Prop) : Prop := (p1 < p2 → Q 0) ∧ (¬ p1 < p2 → (p3 < p1 → Q 0) ∧ (¬ p3 < p1 → Q 1))
set_option maxRecDepth 100000 in
set_option maxHeartbeats 4000000 in
theorem c_X12_in (l : Launch) (D : va_G) (kc : Nat → ClassId)   (p1 : Int32) (p2 : Int32) (p3 : Int32) (Q : Int32 → Prop) (h : wp_X12_in p1 p2 p3 Q) : kCi l D (tyL kc) yX12_in wsX12_in ({ frames := 0, cells := 0, slots := 0, locals := 0 } : Room) [.int p1, .int p2, .int p3] ([] : va_W) (fun _ : Unit => ([] : va_W)) 0 0 (fun r _ => Q r) := by
  intro sz
  refine k_begin (cc := cX12_in) (maxL := 3) (ret := (some .boolean)) (by decide +kernel) rfl rfl (fun p e s m args below meth c hsz E G ls hl => ?_)
  subst hsz
  have hl : lv_has ls 3 [(0, .int p1), (1, .int p2), (2, .int p3)] := hl
  refine lv_iload_n E.ex E.by dX12_in_0 rfl (lv_at hl 0 rfl) ?_
  refine lv_iload_n E.ex E.by dX12_in_1 rfl (lv_at hl 1 rfl) ?_
  refine lv_icmp_lt (tgt := 14) E.ex E.by dX12_in_2 (by decide) (fun hc2 => ?_) (fun hc2 => ?_)
  · have h := h.1 hc2
    refine lv_iconst (v := 0) E.ex E.by dX12_in_14 (by decide) ?_
    exact k_ret (wof := (fun _ : Unit => ([] : va_W))) (u := ()) E G rfl h (Nat.le_of_ble_eq_true rfl) (Nat.le_of_ble_eq_true rfl) dX12_in_15
  · have h := h.2 hc2
    refine lv_iload_n E.ex E.by dX12_in_5 rfl (lv_at hl 0 rfl) ?_
    refine lv_iload_n E.ex E.by dX12_in_6 rfl (lv_at hl 2 rfl) ?_
    refine lv_icmp_gt (tgt := 14) E.ex E.by dX12_in_7 (by decide) (fun hc1 => ?_) (fun hc1 => ?_)
    · have h := h.1 hc1
      refine lv_iconst (v := 0) E.ex E.by dX12_in_14 (by decide) ?_
      exact k_ret (wof := (fun _ : Unit => ([] : va_W))) (u := ()) E G rfl h (Nat.le_of_ble_eq_true rfl) (Nat.le_of_ble_eq_true rfl) dX12_in_15
    · have h := h.2 hc1
      refine lv_iconst (v := 1) E.ex E.by dX12_in_10 (by decide) ?_
      refine lv_goto (tgt := 15) E.ex E.by dX12_in_11 (by decide) ?_
      exact k_ret (wof := (fun _ : Unit => ([] : va_W))) (u := ()) E G rfl h (Nat.le_of_ble_eq_true rfl) (Nat.le_of_ble_eq_true rfl) dX12_in_15
theorem wi_X12_isState_X12 : ∀ w ∈ wsX120, w ∈ wsX12_isState := fun w h => List.mem_cons_of_mem _ (List.mem_append_right _ (h))
theorem fl_X12_isState_X12_0 : Cond.fieldLink RX12 9 (TX12 0).1 (TX12 0).2.1 (TX12 0).2.2.1 ∈ wsX12_isState := List.mem_of_getElem? (i := 1) (by decide +kernel)
theorem hd_X12_in_v : yX12_in.cls = RX12 ∧ yX12_in.cls ≠ "java/lang/invoke/MethodHandle" ∧ yX12_in.cls ≠ "java/lang/invoke/VarHandle" ∧ (parseMethodDescriptor yX12_in.desc).map (fun d => d.parameters.length) = some 3 := by decide +kernel
def wp_X12_isState (p1 : Int32) (σ : US) (Q : Int32 → Prop) : Prop := vp_in 0 81 ∧ (wp_X12_in p1 0 ((aA σ 0 (0 : Int32).toNatClampNeg) - 1) (fun (r1 : Int32) => kbo r1 ∧ Q r1))
set_option maxRecDepth 100000 in
set_option maxHeartbeats 4000000 in
theorem c_X12_isState (l : Launch) (D : va_G) (kc : Nat → ClassId) (a : Nat → Nat)  (p1 : Int32) (σ : US) (Q : Int32 → Prop) (h : wp_X12_isState p1 σ Q) : kCi l D (tyL kc) yX12_isState wsX12_isState ({ frames := 1, cells := 0, slots := 0, locals := 22 } : Room) [.ref (a 0), .int p1] (wM kc a σ) (fun _ : Unit => (wM kc a σ)) 0 0 (fun r _ => Q r) := by
  intro sz
  refine k_begin (cc := cX12_isState) (maxL := 2) (ret := (some .boolean)) (by decide +kernel) rfl rfl (fun p e s m args below meth c hsz E G ls hl => ?_)
  subst hsz
  have hl : lv_has ls 2 [(0, .ref (a 0)), (1, .int p1)] := hl
  refine lv_iload_n E.ex E.by dX12_isState_0 rfl (lv_at hl 1 rfl) ?_
  refine lv_iconst (v := 0) E.ex E.by dX12_isState_1 (by decide) ?_
  refine lv_aload_n E.ex E.by dX12_isState_2 rfl (lv_at hl 0 rfl) ?_
  refine k_get E G wi_X12_isState_X12 0 (gM_0 _ _ _) rfl 0 rfl fl_X12_isState_X12_0 (v := .ref (a 1)) rfl dX12_isState_3 ?_
  refine lv_iconst (v := 0) E.ex E.by dX12_isState_6 (by decide) ?_
  refine k_iald E G 1 (gM_1 _ _ _) 0 rfl h.1 dX12_isState_7 ?_
  have h := h.2
  refine lv_iconst (v := 1) E.ex E.by dX12_isState_8 (by decide) ?_
  refine lv_isub E.ex E.by dX12_isState_9 ?_
  refine k_cSi (X := (wM kc a σ)) (w := []) (Z := []) (wnew := (fun _ : Unit => (wM kc a σ))) (As := [.int p1, .int 0, .int ((aA σ 0 (0 : Int32).toNatClampNeg) - 1)]) (rest := []) E (List.append_nil _).symm G (c_X12_in l D kc _ _ _ _ h) gX12_isState_X12_in rfl ⟨rfl, rfl⟩ hd_X12_in_v ⟨rfl, rfl⟩ rfl hl rfl rfl dX12_isState_10 ⟨rfl, rfl⟩ (fun _ => (List.append_nil _).symm) (fun r1 _u10 hq H locs G => ?_)
  have h := hq
  exact k_ret (wof := (fun _ : Unit => (wM kc a σ))) (u := ()) E G h.1 h.2 (Nat.le_of_ble_eq_true rfl) (Nat.le_of_ble_eq_true rfl) dX12_isState_13
def wp_X12_has (p1 : Int32) (p2 : Int32) (Q : Int32 → Prop) : Prop := (¬ ((p1 >>> (p2 &&& 31)) &&& 1) = 1 → Q 0) ∧ (((p1 >>> (p2 &&& 31)) &&& 1) = 1 → Q 1)
set_option maxRecDepth 100000 in
set_option maxHeartbeats 4000000 in
theorem c_X12_has (l : Launch) (D : va_G) (kc : Nat → ClassId)   (p1 : Int32) (p2 : Int32) (Q : Int32 → Prop) (h : wp_X12_has p1 p2 Q) : kCi l D (tyL kc) yX12_has wsX12_has ({ frames := 0, cells := 0, slots := 0, locals := 0 } : Room) [.int p1, .int p2] ([] : va_W) (fun _ : Unit => ([] : va_W)) 0 0 (fun r _ => Q r) := by
  intro sz
  refine k_begin (cc := cX12_has) (maxL := 2) (ret := (some .boolean)) (by decide +kernel) rfl rfl (fun p e s m args below meth c hsz E G ls hl => ?_)
  subst hsz
  have hl : lv_has ls 2 [(0, .int p1), (1, .int p2)] := hl
  refine lv_iload_n E.ex E.by dX12_has_0 rfl (lv_at hl 0 rfl) ?_
  refine lv_iload_n E.ex E.by dX12_has_1 rfl (lv_at hl 1 rfl) ?_
  refine lv_ishr E.ex E.by dX12_has_2 ?_
  refine lv_iconst (v := 1) E.ex E.by dX12_has_3 (by decide) ?_
  refine lv_iand E.ex E.by dX12_has_4 ?_
  refine lv_iconst (v := 1) E.ex E.by dX12_has_5 (by decide) ?_
  refine lv_icmp_ne (tgt := 13) E.ex E.by dX12_has_6 (by decide) (fun hc1 => ?_) (fun hc1 => ?_)
  · have h := h.1 hc1
    refine lv_iconst (v := 0) E.ex E.by dX12_has_13 (by decide) ?_
    exact k_ret (wof := (fun _ : Unit => ([] : va_W))) (u := ()) E G rfl h (Nat.le_of_ble_eq_true rfl) (Nat.le_of_ble_eq_true rfl) dX12_has_14
  · have h := h.2 hc1
    refine lv_iconst (v := 1) E.ex E.by dX12_has_9 (by decide) ?_
    refine lv_goto (tgt := 14) E.ex E.by dX12_has_10 (by decide) ?_
    exact k_ret (wof := (fun _ : Unit => ([] : va_W))) (u := ()) E G rfl h (Nat.le_of_ble_eq_true rfl) (Nat.le_of_ble_eq_true rfl) dX12_has_14
theorem wi_X12_all_X12 : ∀ w ∈ wsX120, w ∈ wsX12_all := fun w h => List.mem_cons_of_mem _ (List.mem_append_right _ (h))
theorem fl_X12_all_X12_0 : Cond.fieldLink RX12 9 (TX12 0).1 (TX12 0).2.1 (TX12 0).2.2.1 ∈ wsX12_all := List.mem_of_getElem? (i := 1) (by decide +kernel)
def wp_X12_all (σ : US) (Q : Int32 → Prop) : Prop := vp_in 0 81 ∧ (Q ((1 <<< ((aA σ 0 (0 : Int32).toNatClampNeg) &&& 31)) - 1))
set_option maxRecDepth 100000 in
set_option maxHeartbeats 4000000 in
theorem c_X12_all (l : Launch) (D : va_G) (kc : Nat → ClassId) (a : Nat → Nat)  (σ : US) (Q : Int32 → Prop) (h : wp_X12_all σ Q) : kCi l D (tyL kc) yX12_all wsX12_all ({ frames := 0, cells := 0, slots := 0, locals := 0 } : Room) [.ref (a 0)] (wM kc a σ) (fun _ : Unit => (wM kc a σ)) 0 0 (fun r _ => Q r) := by
  intro sz
  refine k_begin (cc := cX12_all) (maxL := 1) (ret := (some .int)) (by decide +kernel) rfl rfl (fun p e s m args below meth c hsz E G ls hl => ?_)
  subst hsz
  have hl : lv_has ls 1 [(0, .ref (a 0))] := hl
  refine lv_iconst (v := 1) E.ex E.by dX12_all_0 (by decide) ?_
  refine lv_aload_n E.ex E.by dX12_all_1 rfl (lv_at hl 0 rfl) ?_
  refine k_get E G wi_X12_all_X12 0 (gM_0 _ _ _) rfl 0 rfl fl_X12_all_X12_0 (v := .ref (a 1)) rfl dX12_all_2 ?_
  refine lv_iconst (v := 0) E.ex E.by dX12_all_5 (by decide) ?_
  refine k_iald E G 1 (gM_1 _ _ _) 0 rfl h.1 dX12_all_6 ?_
  have h := h.2
  refine lv_ishl E.ex E.by dX12_all_7 ?_
  refine lv_iconst (v := 1) E.ex E.by dX12_all_8 (by decide) ?_
  refine lv_isub E.ex E.by dX12_all_9 ?_
  exact k_ret (wof := (fun _ : Unit => (wM kc a σ))) (u := ()) E G rfl h (Nat.le_of_ble_eq_true rfl) (Nat.le_of_ble_eq_true rfl) dX12_all_10
theorem wi_X12_change_X12 : ∀ w ∈ wsX120, w ∈ wsX12_change := fun w h => List.mem_cons_of_mem _ (List.mem_append_right _ (h))
theorem fl_X12_change_X12_4 : Cond.fieldLink RX12 90 (TX12 4).1 (TX12 4).2.1 (TX12 4).2.2.1 ∈ wsX12_change := List.mem_of_getElem? (i := 1) (by decide +kernel)
theorem fl_X12_change_X12_0 : Cond.fieldLink RX12 9 (TX12 0).1 (TX12 0).2.1 (TX12 0).2.2.1 ∈ wsX12_change := List.mem_of_getElem? (i := 7) (by decide +kernel)
theorem fl_X12_change_X12_3 : Cond.fieldLink RX12 16 (TX12 3).1 (TX12 3).2.1 (TX12 3).2.2.1 ∈ wsX12_change := List.mem_of_getElem? (i := 2) (by decide +kernel)
theorem la_X12_change_94 : Cond.methodLink RX12 94 arraycopyName ∈ wsX12_change := List.mem_of_getElem? (i := 3) (by decide +kernel)
theorem lan_X12_change : Cond.native arraycopyName ∈ wsX12_change := List.mem_of_getElem? (i := 4) (by decide +kernel)
theorem las_X12_change : Cond.static arraycopyName ∈ wsX12_change := List.mem_of_getElem? (i := 5) (by decide +kernel)
theorem lai_X12_change : Cond.initialized "java/lang/System" ∈ wsX12_change := List.mem_of_getElem? (i := 6) (by decide +kernel)
def wp_X12_change_J36 (σ'j36 : US) (Q : US → Prop) : Prop := (¬ (0 : Int32) < 0) ∧ (¬ (81 * (iI σ'j36 1)) < 0) ∧ (¬ (81 : Int32) < 0) ∧ (0 : Int32).toNatClampNeg + (81 : Int32).toNatClampNeg ≤ 81 ∧ (81 * (iI σ'j36 1)).toNatClampNeg + (81 : Int32).toNatClampNeg ≤ 648 ∧ (∀ z1 : US, z1 = sA σ'j36 2 (va_cpy (aA σ'j36 0) (aA σ'j36 2) (0 : Int32).toNatClampNeg (81 * (iI σ'j36 1)).toNatClampNeg (81 : Int32).toNatClampNeg) → (∀ z2 : US, z2 = uI z1 1 ((iI z1 1) + 1) → Q z2))
def wp_X12_change (σ : US) (Q : US → Prop) : Prop := (¬ (iI σ 1) = 8 → wp_X12_change_J36 σ Q) ∧ ((iI σ 1) = 8 → (¬ (81 : Int32) < 0) ∧ (¬ (0 : Int32) < 0) ∧ (¬ (567 : Int32) < 0) ∧ (81 : Int32).toNatClampNeg + (567 : Int32).toNatClampNeg ≤ 648 ∧ (0 : Int32).toNatClampNeg + (567 : Int32).toNatClampNeg ≤ 648 ∧ (∀ z3 : US, z3 = sA σ 2 (va_cpy (aA σ 2) (aA σ 2) (81 : Int32).toNatClampNeg (0 : Int32).toNatClampNeg (567 : Int32).toNatClampNeg) → (∀ z4 : US, z4 = uI z3 1 ((iI z3 1) - 1) → wp_X12_change_J36 z4 Q)))
set_option maxRecDepth 100000 in
set_option maxHeartbeats 4000000 in
theorem c_X12_change (l : Launch) (D : va_G) (kc : Nat → ClassId) (a : Nat → Nat)  (σ : US) (Q : US → Prop) (h : wp_X12_change σ Q) : kCv l D (tyL kc) yX12_change wsX12_change ({ frames := 1, cells := 0, slots := 0, locals := 60 } : Room) [.ref (a 0)] (wM kc a σ) (fun u : US => (wM kc a u)) 0 0 (fun u => Q u) := by
  intro sz
  refine k_begin (cc := cX12_change) (maxL := 1) (ret := none) (by decide +kernel) rfl rfl (fun p e s m args below meth c hsz E G ls hl => ?_)
  subst hsz
  have hl : lv_has ls 1 [(0, .ref (a 0))] := hl
  have K36 : ∀ (σ'j36 : US) (H : Heap) (locs : List Loc) (ls : Array Slot), kG D (va_A (wM kc a σ) s.heap.size) s (wM kc a σ'j36) H locs → lv_has ls 1 [(0, .ref (a 0))] → wp_X12_change_J36 σ'j36 Q → W p l e ({ frames := 1, cells := 0, slots := 0, locals := 60 } : Room) s m args below meth c H locs 0 0 (MQ below (va_Qv (fun u => Q u) (kB D (wM kc a σ) s.heap.size (fun u : US => (wM kc a u))) (va_A (wM kc a σ) s.heap.size)) args s 0 0 (va_A (wM kc a σ) s.heap.size)) (F0 m 36 ls []) := by
    intro σ'j36 H locs ls G hl h
    refine lv_aload_n E.ex E.by dX12_change_36 rfl (lv_at hl 0 rfl) ?_
    refine k_get E G wi_X12_change_X12 0 (gM_0 _ _ _) rfl 0 rfl fl_X12_change_X12_0 (v := .ref (a 1)) rfl dX12_change_37 ?_
    refine lv_iconst (v := 0) E.ex E.by dX12_change_40 (by decide) ?_
    refine lv_aload_n E.ex E.by dX12_change_41 rfl (lv_at hl 0 rfl) ?_
    refine k_get E G wi_X12_change_X12 0 (gM_0 _ _ _) rfl 3 rfl fl_X12_change_X12_3 (v := .ref (a 3)) rfl dX12_change_42 ?_
    refine lv_bipush (v := 81) E.ex E.by dX12_change_45 (by decide) ?_
    refine lv_aload_n E.ex E.by dX12_change_47 rfl (lv_at hl 0 rfl) ?_
    refine k_get E G wi_X12_change_X12 0 (gM_0 _ _ _) rfl 4 rfl fl_X12_change_X12_4 (v := .int (iI σ'j36 1)) rfl dX12_change_48 ?_
    refine lv_imul E.ex E.by dX12_change_51 ?_
    refine lv_bipush (v := 81) E.ex E.by dX12_change_52 (by decide) ?_
    refine k_copyi (fun z => (wM kc a z)) E G la_X12_change_94 lan_X12_change las_X12_change lai_X12_change 1 3 (gM_1 _ _ _) (gM_3 _ _ _) 0 ⟨rfl, rfl⟩ hl h.1 h.2.1 h.2.2.1 h.2.2.2.1 h.2.2.2.2.1 rfl ⟨rfl, rfl⟩ dX12_change_54 (sA σ'j36 2 (va_cpy (aA σ'j36 0) (aA σ'j36 2) (0 : Int32).toNatClampNeg (81 * (iI σ'j36 1)).toNatClampNeg (81 : Int32).toNatClampNeg)) (sM_3 _ _ _ _) (fun z4 ez4 H locs G => ?_)
    have h := h.2.2.2.2.2 z4 ez4
    refine lv_aload_n E.ex E.by dX12_change_57 rfl (lv_at hl 0 rfl) ?_
    refine lv_dup E.ex E.by dX12_change_58 rfl ?_
    refine k_get E G wi_X12_change_X12 0 (gM_0 _ _ _) rfl 4 rfl fl_X12_change_X12_4 (v := .int (iI z4 1)) rfl dX12_change_59 ?_
    refine lv_iconst (v := 1) E.ex E.by dX12_change_62 (by decide) ?_
    refine lv_iadd E.ex E.by dX12_change_63 ?_
    refine k_put (fun z => (wM kc a z)) E G wi_X12_change_X12 tyX12_ok nmX12 0 (gM_0 _ _ _) rfl 4 rfl fl_X12_change_X12_4 rfl rfl rfl rfl (uI z4 1 ((iI z4 1) + 1)) (pM_0_4 _ _ _ _) dX12_change_64 (fun z5 ez5 H locs G => ?_)
    have h := h z5 ez5
    exact k_retv (wof := (fun u : US => (wM kc a u))) (u := z5) E G h (Nat.le_of_ble_eq_true rfl) (Nat.le_of_ble_eq_true rfl) dX12_change_67
  refine lv_aload_n E.ex E.by dX12_change_0 rfl (lv_at hl 0 rfl) ?_
  refine k_get E G wi_X12_change_X12 0 (gM_0 _ _ _) rfl 4 rfl fl_X12_change_X12_4 (v := .int (iI σ 1)) rfl dX12_change_1 ?_
  refine lv_bipush (v := 8) E.ex E.by dX12_change_4 (by decide) ?_
  refine lv_icmp_ne (tgt := 36) E.ex E.by dX12_change_6 (by decide) (fun hc3 => ?_) (fun hc3 => ?_)
  · have h := h.1 hc3
    exact K36 _ _ _ _ G (lv_sub hl [0] rfl) h
  · have h := h.2 hc3
    refine lv_aload_n E.ex E.by dX12_change_9 rfl (lv_at hl 0 rfl) ?_
    refine k_get E G wi_X12_change_X12 0 (gM_0 _ _ _) rfl 3 rfl fl_X12_change_X12_3 (v := .ref (a 3)) rfl dX12_change_10 ?_
    refine lv_bipush (v := 81) E.ex E.by dX12_change_13 (by decide) ?_
    refine lv_aload_n E.ex E.by dX12_change_15 rfl (lv_at hl 0 rfl) ?_
    refine k_get E G wi_X12_change_X12 0 (gM_0 _ _ _) rfl 3 rfl fl_X12_change_X12_3 (v := .ref (a 3)) rfl dX12_change_16 ?_
    refine lv_iconst (v := 0) E.ex E.by dX12_change_19 (by decide) ?_
    refine lv_sipush (v := 567) E.ex E.by dX12_change_20 (by decide) ?_
    refine k_copyi (fun z => (wM kc a z)) E G la_X12_change_94 lan_X12_change las_X12_change lai_X12_change 3 3 (gM_3 _ _ _) (gM_3 _ _ _) 0 ⟨rfl, rfl⟩ hl h.1 h.2.1 h.2.2.1 h.2.2.2.1 h.2.2.2.2.1 rfl ⟨rfl, rfl⟩ dX12_change_23 (sA σ 2 (va_cpy (aA σ 2) (aA σ 2) (81 : Int32).toNatClampNeg (0 : Int32).toNatClampNeg (567 : Int32).toNatClampNeg)) (sM_3 _ _ _ _) (fun z1 ez1 H locs G => ?_)
    have h := h.2.2.2.2.2 z1 ez1
    refine lv_aload_n E.ex E.by dX12_change_26 rfl (lv_at hl 0 rfl) ?_
    refine lv_dup E.ex E.by dX12_change_27 rfl ?_
    refine k_get E G wi_X12_change_X12 0 (gM_0 _ _ _) rfl 4 rfl fl_X12_change_X12_4 (v := .int (iI z1 1)) rfl dX12_change_28 ?_
    refine lv_iconst (v := 1) E.ex E.by dX12_change_31 (by decide) ?_
    refine lv_isub E.ex E.by dX12_change_32 ?_
    refine k_put (fun z => (wM kc a z)) E G wi_X12_change_X12 tyX12_ok nmX12 0 (gM_0 _ _ _) rfl 4 rfl fl_X12_change_X12_4 rfl rfl rfl rfl (uI z1 1 ((iI z1 1) - 1)) (pM_0_4 _ _ _ _) dX12_change_33 (fun z2 ez2 H locs G => ?_)
    have h := h z2 ez2
    exact K36 _ _ _ _ G (lv_sub hl [0] rfl) h
theorem wi_X12_addState_X12 : ∀ w ∈ wsX120, w ∈ wsX12_addState := fun w h => List.mem_cons_of_mem _ (List.mem_append_right _ (h))
theorem fl_X12_addState_X12_0 : Cond.fieldLink RX12 9 (TX12 0).1 (TX12 0).2.1 (TX12 0).2.2.1 ∈ wsX12_addState := List.mem_of_getElem? (i := 1) (by decide +kernel)
theorem hd_X12_change_v : yX12_change.cls = RX12 ∧ yX12_change.cls ≠ "java/lang/invoke/MethodHandle" ∧ yX12_change.cls ≠ "java/lang/invoke/VarHandle" ∧ (parseMethodDescriptor yX12_change.desc).map (fun d => d.parameters.length) = some 0 := by decide +kernel
def wp_X12_addState (σ : US) (Q : Int32 → US → Prop) : Prop := vp_in 0 81 ∧ ((¬ (aA σ 0 (0 : Int32).toNatClampNeg) = 8 → wp_X12_change σ (fun (u1 : US) => vp_in 0 81 ∧ (vp_in 0 81 ∧ (∀ z2 : US, z2 = uA u1 0 (0 : Int32).toNatClampNeg ((aA u1 0 (0 : Int32).toNatClampNeg) + 1) → vp_in 0 81 ∧ (Q ((aA z2 0 (0 : Int32).toNatClampNeg) - 1) z2))))) ∧ ((aA σ 0 (0 : Int32).toNatClampNeg) = 8 → Q (-3) σ))
set_option maxRecDepth 100000 in
set_option maxHeartbeats 4000000 in
theorem c_X12_addState (l : Launch) (D : va_G) (kc : Nat → ClassId) (a : Nat → Nat)  (σ : US) (Q : Int32 → US → Prop) (h : wp_X12_addState σ Q) : kCi l D (tyL kc) yX12_addState wsX12_addState ({ frames := 2, cells := 0, slots := 0, locals := 80 } : Room) [.ref (a 0)] (wM kc a σ) (fun u : US => (wM kc a u)) 0 0 (fun r u => Q r u) := by
  intro sz
  refine k_begin (cc := cX12_addState) (maxL := 1) (ret := (some .int)) (by decide +kernel) rfl rfl (fun p e s m args below meth c hsz E G ls hl => ?_)
  subst hsz
  have hl : lv_has ls 1 [(0, .ref (a 0))] := hl
  refine lv_aload_n E.ex E.by dX12_addState_0 rfl (lv_at hl 0 rfl) ?_
  refine k_get E G wi_X12_addState_X12 0 (gM_0 _ _ _) rfl 0 rfl fl_X12_addState_X12_0 (v := .ref (a 1)) rfl dX12_addState_1 ?_
  refine lv_iconst (v := 0) E.ex E.by dX12_addState_4 (by decide) ?_
  refine k_iald E G 1 (gM_1 _ _ _) 0 rfl h.1 dX12_addState_5 ?_
  have h := h.2
  refine lv_bipush (v := 8) E.ex E.by dX12_addState_6 (by decide) ?_
  refine lv_icmp_ne (tgt := 14) E.ex E.by dX12_addState_8 (by decide) (fun hc3 => ?_) (fun hc3 => ?_)
  · have h := h.1 hc3
    refine lv_aload_n E.ex E.by dX12_addState_14 rfl (lv_at hl 0 rfl) ?_
    refine k_cVv (X := []) (w := (wM kc a σ)) (Z := []) (wnew := (fun u : US => (wM kc a u))) (As := []) (rest := []) E (List.append_nil _).symm G (c_X12_change l D kc _ _ _ h) gX12_addState_X12_change rfl ⟨rfl, rfl⟩ hd_X12_change_v ⟨rfl, rfl⟩ 0 (gM_0 _ _ _) rfl rfl hl rfl rfl dX12_addState_15 ⟨rfl, rfl⟩ (fun _ => (List.append_nil _).symm) (fun u1 hq H locs G => ?_)
    have h := hq
    refine lv_aload_n E.ex E.by dX12_addState_18 rfl (lv_at hl 0 rfl) ?_
    refine k_get E G wi_X12_addState_X12 0 (gM_0 _ _ _) rfl 0 rfl fl_X12_addState_X12_0 (v := .ref (a 1)) rfl dX12_addState_19 ?_
    refine lv_iconst (v := 0) E.ex E.by dX12_addState_22 (by decide) ?_
    refine lv_dup2_11 E.ex E.by dX12_addState_23 rfl rfl ?_
    refine k_iald E G 1 (gM_1 _ _ _) 0 rfl h.1 dX12_addState_24 ?_
    have h := h.2
    refine lv_iconst (v := 1) E.ex E.by dX12_addState_25 (by decide) ?_
    refine lv_iadd E.ex E.by dX12_addState_26 ?_
    refine k_iast (fun z => (wM kc a z)) E G 1 (gM_1 _ _ _) 0 rfl h.1 (uA u1 0 (0 : Int32).toNatClampNeg ((aA u1 0 (0 : Int32).toNatClampNeg) + 1)) (sM_1 _ _ _ _) dX12_addState_27 (fun z2 ez2 H locs G => ?_)
    have h := h.2 z2 ez2
    refine lv_aload_n E.ex E.by dX12_addState_28 rfl (lv_at hl 0 rfl) ?_
    refine k_get E G wi_X12_addState_X12 0 (gM_0 _ _ _) rfl 0 rfl fl_X12_addState_X12_0 (v := .ref (a 1)) rfl dX12_addState_29 ?_
    refine lv_iconst (v := 0) E.ex E.by dX12_addState_32 (by decide) ?_
    refine k_iald E G 1 (gM_1 _ _ _) 0 rfl h.1 dX12_addState_33 ?_
    have h := h.2
    refine lv_iconst (v := 1) E.ex E.by dX12_addState_34 (by decide) ?_
    refine lv_isub E.ex E.by dX12_addState_35 ?_
    exact k_ret (wof := (fun u : US => (wM kc a u))) (u := z2) E G rfl h (Nat.le_of_ble_eq_true rfl) (Nat.le_of_ble_eq_true rfl) dX12_addState_36
  · have h := h.2 hc3
    refine lv_bipush (v := (-3)) E.ex E.by dX12_addState_11 (by decide) ?_
    exact k_ret (wof := (fun u : US => (wM kc a u))) (u := σ) E G rfl h (Nat.le_of_ble_eq_true rfl) (Nat.le_of_ble_eq_true rfl) dX12_addState_13
theorem wi_X12_removeState_X12 : ∀ w ∈ wsX120, w ∈ wsX12_removeState := fun w h => List.mem_cons_of_mem _ (List.mem_append_right _ (h))
theorem fl_X12_removeState_X12_0 : Cond.fieldLink RX12 9 (TX12 0).1 (TX12 0).2.1 (TX12 0).2.2.1 ∈ wsX12_removeState := List.mem_of_getElem? (i := 1) (by decide +kernel)
def wp_X12_removeState_L35 (v1 : Int32) (Q : Int32 → US → Prop) (P35 : (Int32 × US) → Prop) (t35 : Int32 × US) : Prop := (8 ≤ t35.1 → vp_in (65 + v1) 81 ∧ (∀ z4 : US, z4 = uA t35.2 0 (65 + v1).toNatClampNeg 0 → vp_in (73 + v1) 81 ∧ (∀ z5 : US, z5 = uA z4 0 (73 + v1).toNatClampNeg 0 → Q v1 z5))) ∧ (¬ 8 ≤ t35.1 → vp_in ((1 + (8 * t35.1)) + v1) 81 ∧ (∀ z6 : US, z6 = uA t35.2 0 ((1 + (8 * t35.1)) + v1).toNatClampNeg 0 → vp_in ((1 + (8 * v1)) + t35.1) 81 ∧ (∀ z7 : US, z7 = uA z6 0 ((1 + (8 * v1)) + t35.1).toNatClampNeg 0 → P35 (t35.1 + 1, z7))))
def wp_X12_removeState (σ : US) (Q : Int32 → US → Prop) : Prop := vp_in 0 81 ∧ ((¬ (aA σ 0 (0 : Int32).toNatClampNeg) = 0 → wp_X12_change σ (fun (u1 : US) => vp_in 0 81 ∧ (vp_in 0 81 ∧ (∀ z2 : US, z2 = uA u1 0 (0 : Int32).toNatClampNeg ((aA u1 0 (0 : Int32).toNatClampNeg) - 1) → vp_in 0 81 ∧ (∀ x3 : Int32, x3 = aA z2 0 (0 : Int32).toNatClampNeg → lpW (wp_X12_removeState_L35 x3 Q) (0, z2)))))) ∧ ((aA σ 0 (0 : Int32).toNatClampNeg) = 0 → Q (-2) σ))
set_option maxRecDepth 100000 in
set_option maxHeartbeats 4000000 in
theorem c_X12_removeState (l : Launch) (D : va_G) (kc : Nat → ClassId) (a : Nat → Nat)  (σ : US) (Q : Int32 → US → Prop) (h : wp_X12_removeState σ Q) : kCi l D (tyL kc) yX12_removeState wsX12_removeState ({ frames := 2, cells := 0, slots := 0, locals := 80 } : Room) [.ref (a 0)] (wM kc a σ) (fun u : US => (wM kc a u)) 0 0 (fun r u => Q r u) := by
  intro sz
  refine k_begin (cc := cX12_removeState) (maxL := 3) (ret := (some .int)) (by decide +kernel) rfl rfl (fun p e s m args below meth c hsz E G ls hl => ?_)
  subst hsz
  have hl : lv_has ls 3 [(0, .ref (a 0))] := hl
  refine lv_aload_n E.ex E.by dX12_removeState_0 rfl (lv_at hl 0 rfl) ?_
  refine k_get E G wi_X12_removeState_X12 0 (gM_0 _ _ _) rfl 0 rfl fl_X12_removeState_X12_0 (v := .ref (a 1)) rfl dX12_removeState_1 ?_
  refine lv_iconst (v := 0) E.ex E.by dX12_removeState_4 (by decide) ?_
  refine k_iald E G 1 (gM_1 _ _ _) 0 rfl h.1 dX12_removeState_5 ?_
  have h := h.2
  refine lv_if_ne (tgt := 12) E.ex E.by dX12_removeState_6 (by decide) (fun hc10 => ?_) (fun hc10 => ?_)
  · have h := h.1 hc10
    refine lv_aload_n E.ex E.by dX12_removeState_12 rfl (lv_at hl 0 rfl) ?_
    refine k_cVv (X := []) (w := (wM kc a σ)) (Z := []) (wnew := (fun u : US => (wM kc a u))) (As := []) (rest := []) E (List.append_nil _).symm G (c_X12_change l D kc _ _ _ h) gX12_removeState_X12_change rfl ⟨rfl, rfl⟩ hd_X12_change_v ⟨rfl, rfl⟩ 0 (gM_0 _ _ _) rfl rfl hl rfl rfl dX12_removeState_13 ⟨rfl, rfl⟩ (fun _ => (List.append_nil _).symm) (fun u1 hq H locs G => ?_)
    have h := hq
    refine lv_aload_n E.ex E.by dX12_removeState_16 rfl (lv_at hl 0 rfl) ?_
    refine k_get E G wi_X12_removeState_X12 0 (gM_0 _ _ _) rfl 0 rfl fl_X12_removeState_X12_0 (v := .ref (a 1)) rfl dX12_removeState_17 ?_
    refine lv_iconst (v := 0) E.ex E.by dX12_removeState_20 (by decide) ?_
    refine lv_dup2_11 E.ex E.by dX12_removeState_21 rfl rfl ?_
    refine k_iald E G 1 (gM_1 _ _ _) 0 rfl h.1 dX12_removeState_22 ?_
    have h := h.2
    refine lv_iconst (v := 1) E.ex E.by dX12_removeState_23 (by decide) ?_
    refine lv_isub E.ex E.by dX12_removeState_24 ?_
    refine k_iast (fun z => (wM kc a z)) E G 1 (gM_1 _ _ _) 0 rfl h.1 (uA u1 0 (0 : Int32).toNatClampNeg ((aA u1 0 (0 : Int32).toNatClampNeg) - 1)) (sM_1 _ _ _ _) dX12_removeState_25 (fun z2 ez2 H locs G => ?_)
    have h := h.2 z2 ez2
    refine lv_aload_n E.ex E.by dX12_removeState_26 rfl (lv_at hl 0 rfl) ?_
    refine k_get E G wi_X12_removeState_X12 0 (gM_0 _ _ _) rfl 0 rfl fl_X12_removeState_X12_0 (v := .ref (a 1)) rfl dX12_removeState_27 ?_
    refine lv_iconst (v := 0) E.ex E.by dX12_removeState_30 (by decide) ?_
    refine k_iald E G 1 (gM_1 _ _ _) 0 rfl h.1 dX12_removeState_31 ?_
    have h := h.2
    refine lv_topi (fun x3 ex3 => ?_)
    have h := h x3 ex3
    refine lv_istore_n (lv' := [(1, .int x3), (0, .ref (a 0))]) E.ex E.by dX12_removeState_32 rfl hl (by decide) rfl (fun ls hl => ?_)
    refine lv_iconst (v := 0) E.ex E.by dX12_removeState_33 (by decide) ?_
    refine lv_istore_n (lv' := [(2, .int 0), (1, .int x3), (0, .ref (a 0))]) E.ex E.by dX12_removeState_34 rfl hl (by decide) rfl (fun ls hl => ?_)
    refine lpW_ind (fun t4 : Int32 × US => ∀ (H : Heap) (locs : List Loc) (ls : Array Slot), kG D (va_A (wM kc a σ) s.heap.size) s (wM kc a t4.2) H locs → lv_has ls 3 [(0, .ref (a 0)), (1, .int x3), (2, .int t4.1)] → W p l e _ s m args below meth c H locs _ _ _ (F0 m 35 ls [])) (fun P35 IH35 t4 h H locs ls G hl => ?_) _ h _ _ _ G (lv_sub hl [2, 1, 0] rfl)
    refine lv_iload_n E.ex E.by dX12_removeState_35 rfl (lv_at hl 2 rfl) ?_
    refine lv_bipush (v := 8) E.ex E.by dX12_removeState_36 (by decide) ?_
    refine lv_icmp_ge (tgt := 75) E.ex E.by dX12_removeState_38 (by decide) (fun hc9 => ?_) (fun hc9 => ?_)
    · have h := h.1 hc9
      refine lv_aload_n E.ex E.by dX12_removeState_75 rfl (lv_at hl 0 rfl) ?_
      refine k_get E G wi_X12_removeState_X12 0 (gM_0 _ _ _) rfl 0 rfl fl_X12_removeState_X12_0 (v := .ref (a 1)) rfl dX12_removeState_76 ?_
      refine lv_bipush (v := 65) E.ex E.by dX12_removeState_79 (by decide) ?_
      refine lv_iload_n E.ex E.by dX12_removeState_81 rfl (lv_at hl 1 rfl) ?_
      refine lv_iadd E.ex E.by dX12_removeState_82 ?_
      refine lv_iconst (v := 0) E.ex E.by dX12_removeState_83 (by decide) ?_
      refine k_iast (fun z => (wM kc a z)) E G 1 (gM_1 _ _ _) 0 rfl h.1 (uA t4.2 0 (65 + x3).toNatClampNeg 0) (sM_1 _ _ _ _) dX12_removeState_84 (fun z5 ez5 H locs G => ?_)
      have h := h.2 z5 ez5
      refine lv_aload_n E.ex E.by dX12_removeState_85 rfl (lv_at hl 0 rfl) ?_
      refine k_get E G wi_X12_removeState_X12 0 (gM_0 _ _ _) rfl 0 rfl fl_X12_removeState_X12_0 (v := .ref (a 1)) rfl dX12_removeState_86 ?_
      refine lv_bipush (v := 73) E.ex E.by dX12_removeState_89 (by decide) ?_
      refine lv_iload_n E.ex E.by dX12_removeState_91 rfl (lv_at hl 1 rfl) ?_
      refine lv_iadd E.ex E.by dX12_removeState_92 ?_
      refine lv_iconst (v := 0) E.ex E.by dX12_removeState_93 (by decide) ?_
      refine k_iast (fun z => (wM kc a z)) E G 1 (gM_1 _ _ _) 0 rfl h.1 (uA z5 0 (73 + x3).toNatClampNeg 0) (sM_1 _ _ _ _) dX12_removeState_94 (fun z6 ez6 H locs G => ?_)
      have h := h.2 z6 ez6
      refine lv_iload_n E.ex E.by dX12_removeState_95 rfl (lv_at hl 1 rfl) ?_
      exact k_ret (wof := (fun u : US => (wM kc a u))) (u := z6) E G rfl h (Nat.le_of_ble_eq_true rfl) (Nat.le_of_ble_eq_true rfl) dX12_removeState_96
    · have h := h.2 hc9
      refine lv_aload_n E.ex E.by dX12_removeState_41 rfl (lv_at hl 0 rfl) ?_
      refine k_get E G wi_X12_removeState_X12 0 (gM_0 _ _ _) rfl 0 rfl fl_X12_removeState_X12_0 (v := .ref (a 1)) rfl dX12_removeState_42 ?_
      refine lv_iconst (v := 1) E.ex E.by dX12_removeState_45 (by decide) ?_
      refine lv_bipush (v := 8) E.ex E.by dX12_removeState_46 (by decide) ?_
      refine lv_iload_n E.ex E.by dX12_removeState_48 rfl (lv_at hl 2 rfl) ?_
      refine lv_imul E.ex E.by dX12_removeState_49 ?_
      refine lv_iadd E.ex E.by dX12_removeState_50 ?_
      refine lv_iload_n E.ex E.by dX12_removeState_51 rfl (lv_at hl 1 rfl) ?_
      refine lv_iadd E.ex E.by dX12_removeState_52 ?_
      refine lv_iconst (v := 0) E.ex E.by dX12_removeState_53 (by decide) ?_
      refine k_iast (fun z => (wM kc a z)) E G 1 (gM_1 _ _ _) 0 rfl h.1 (uA t4.2 0 ((1 + (8 * t4.1)) + x3).toNatClampNeg 0) (sM_1 _ _ _ _) dX12_removeState_54 (fun z7 ez7 H locs G => ?_)
      have h := h.2 z7 ez7
      refine lv_aload_n E.ex E.by dX12_removeState_55 rfl (lv_at hl 0 rfl) ?_
      refine k_get E G wi_X12_removeState_X12 0 (gM_0 _ _ _) rfl 0 rfl fl_X12_removeState_X12_0 (v := .ref (a 1)) rfl dX12_removeState_56 ?_
      refine lv_iconst (v := 1) E.ex E.by dX12_removeState_59 (by decide) ?_
      refine lv_bipush (v := 8) E.ex E.by dX12_removeState_60 (by decide) ?_
      refine lv_iload_n E.ex E.by dX12_removeState_62 rfl (lv_at hl 1 rfl) ?_
      refine lv_imul E.ex E.by dX12_removeState_63 ?_
      refine lv_iadd E.ex E.by dX12_removeState_64 ?_
      refine lv_iload_n E.ex E.by dX12_removeState_65 rfl (lv_at hl 2 rfl) ?_
      refine lv_iadd E.ex E.by dX12_removeState_66 ?_
      refine lv_iconst (v := 0) E.ex E.by dX12_removeState_67 (by decide) ?_
      refine k_iast (fun z => (wM kc a z)) E G 1 (gM_1 _ _ _) 0 rfl h.1 (uA z7 0 ((1 + (8 * x3)) + t4.1).toNatClampNeg 0) (sM_1 _ _ _ _) dX12_removeState_68 (fun z8 ez8 H locs G => ?_)
      have h := h.2 z8 ez8
      refine lv_iinc (k := 2) (v := t4.1 + 1) (lv' := [(2, .int (t4.1 + 1)), (0, .ref (a 0)), (1, .int x3)]) E.ex E.by dX12_removeState_69 hl rfl (k_inc1 _) (by decide) rfl (fun ls hl => ?_)
      refine lv_goto (tgt := 35) E.ex E.by dX12_removeState_72 (by decide) ?_
      exact IH35 _ h _ _ _ G (lv_sub hl [1, 2, 0] rfl)
  · have h := h.2 hc10
    refine lv_bipush (v := (-2)) E.ex E.by dX12_removeState_9 (by decide) ?_
    exact k_ret (wof := (fun u : US => (wM kc a u))) (u := σ) E G rfl h (Nat.le_of_ble_eq_true rfl) (Nat.le_of_ble_eq_true rfl) dX12_removeState_11
theorem wi_X12_stateCount_X12 : ∀ w ∈ wsX120, w ∈ wsX12_stateCount := fun w h => List.mem_cons_of_mem _ (List.mem_append_right _ (h))
theorem fl_X12_stateCount_X12_0 : Cond.fieldLink RX12 9 (TX12 0).1 (TX12 0).2.1 (TX12 0).2.2.1 ∈ wsX12_stateCount := List.mem_of_getElem? (i := 1) (by decide +kernel)
def wp_X12_stateCount (σ : US) (Q : Int32 → Prop) : Prop := vp_in 0 81 ∧ (Q (aA σ 0 (0 : Int32).toNatClampNeg))
set_option maxRecDepth 100000 in
set_option maxHeartbeats 4000000 in
theorem c_X12_stateCount (l : Launch) (D : va_G) (kc : Nat → ClassId) (a : Nat → Nat)  (σ : US) (Q : Int32 → Prop) (h : wp_X12_stateCount σ Q) : kCi l D (tyL kc) yX12_stateCount wsX12_stateCount ({ frames := 0, cells := 0, slots := 0, locals := 0 } : Room) [.ref (a 0)] (wM kc a σ) (fun _ : Unit => (wM kc a σ)) 0 0 (fun r _ => Q r) := by
  intro sz
  refine k_begin (cc := cX12_stateCount) (maxL := 1) (ret := (some .int)) (by decide +kernel) rfl rfl (fun p e s m args below meth c hsz E G ls hl => ?_)
  subst hsz
  have hl : lv_has ls 1 [(0, .ref (a 0))] := hl
  refine lv_aload_n E.ex E.by dX12_stateCount_0 rfl (lv_at hl 0 rfl) ?_
  refine k_get E G wi_X12_stateCount_X12 0 (gM_0 _ _ _) rfl 0 rfl fl_X12_stateCount_X12_0 (v := .ref (a 1)) rfl dX12_stateCount_1 ?_
  refine lv_iconst (v := 0) E.ex E.by dX12_stateCount_4 (by decide) ?_
  refine k_iald E G 1 (gM_1 _ _ _) 0 rfl h.1 dX12_stateCount_5 ?_
  have h := h.2
  exact k_ret (wof := (fun _ : Unit => (wM kc a σ))) (u := ()) E G rfl h (Nat.le_of_ble_eq_true rfl) (Nat.le_of_ble_eq_true rfl) dX12_stateCount_6
theorem wi_X12_toldSum_X12 : ∀ w ∈ wsX120, w ∈ wsX12_toldSum := fun w h => List.mem_cons_of_mem _ (List.mem_append_right _ (h))
theorem fl_X12_toldSum_X12_0 : Cond.fieldLink RX12 9 (TX12 0).1 (TX12 0).2.1 (TX12 0).2.2.1 ∈ wsX12_toldSum := List.mem_of_getElem? (i := 1) (by decide +kernel)
def wp_X12_toldSum_L4 (v1 : Int32) (σ : US) (Q : Int32 → Prop) (P4 : (Int32 × Int32) → Prop) (t4 : Int32 × Int32) : Prop := (8 ≤ t4.2 → Q t4.1) ∧ (¬ 8 ≤ t4.2 → vp_in ((1 + (8 * v1)) + t4.2) 81 ∧ (∀ x1 : Int32, x1 = t4.1 + (aA σ 0 ((1 + (8 * v1)) + t4.2).toNatClampNeg) → P4 (x1, t4.2 + 1)))
def wp_X12_toldSum (p1 : Int32) (σ : US) (Q : Int32 → Prop) : Prop := lpW (wp_X12_toldSum_L4 p1 σ Q) (0, 0)
set_option maxRecDepth 100000 in
set_option maxHeartbeats 4000000 in
theorem c_X12_toldSum (l : Launch) (D : va_G) (kc : Nat → ClassId) (a : Nat → Nat)  (p1 : Int32) (σ : US) (Q : Int32 → Prop) (h : wp_X12_toldSum p1 σ Q) : kCi l D (tyL kc) yX12_toldSum wsX12_toldSum ({ frames := 0, cells := 0, slots := 0, locals := 0 } : Room) [.ref (a 0), .int p1] (wM kc a σ) (fun _ : Unit => (wM kc a σ)) 0 0 (fun r _ => Q r) := by
  intro sz
  refine k_begin (cc := cX12_toldSum) (maxL := 4) (ret := (some .int)) (by decide +kernel) rfl rfl (fun p e s m args below meth c hsz E G ls hl => ?_)
  subst hsz
  have hl : lv_has ls 4 [(0, .ref (a 0)), (1, .int p1)] := hl
  refine lv_iconst (v := 0) E.ex E.by dX12_toldSum_0 (by decide) ?_
  refine lv_istore_n (lv' := [(2, .int 0), (0, .ref (a 0)), (1, .int p1)]) E.ex E.by dX12_toldSum_1 rfl hl (by decide) rfl (fun ls hl => ?_)
  refine lv_iconst (v := 0) E.ex E.by dX12_toldSum_2 (by decide) ?_
  refine lv_istore_n (lv' := [(3, .int 0), (2, .int 0), (0, .ref (a 0)), (1, .int p1)]) E.ex E.by dX12_toldSum_3 rfl hl (by decide) rfl (fun ls hl => ?_)
  refine lpW_ind (fun t1 : Int32 × Int32 => ∀ (H : Heap) (locs : List Loc) (ls : Array Slot), kG D (va_A (wM kc a σ) s.heap.size) s (wM kc a σ) H locs → lv_has ls 4 [(0, .ref (a 0)), (1, .int p1), (2, .int t1.1), (3, .int t1.2)] → W p l e _ s m args below meth c H locs _ _ _ (F0 m 4 ls [])) (fun P4 IH4 t1 h H locs ls G hl => ?_) _ h _ _ _ G (lv_sub hl [2, 3, 1, 0] rfl)
  refine lv_iload_n E.ex E.by dX12_toldSum_4 rfl (lv_at hl 3 rfl) ?_
  refine lv_bipush (v := 8) E.ex E.by dX12_toldSum_5 (by decide) ?_
  refine lv_icmp_ge (tgt := 32) E.ex E.by dX12_toldSum_7 (by decide) (fun hc3 => ?_) (fun hc3 => ?_)
  · have h := h.1 hc3
    refine lv_iload_n E.ex E.by dX12_toldSum_32 rfl (lv_at hl 2 rfl) ?_
    exact k_ret (wof := (fun _ : Unit => (wM kc a σ))) (u := ()) E G rfl h (Nat.le_of_ble_eq_true rfl) (Nat.le_of_ble_eq_true rfl) dX12_toldSum_33
  · have h := h.2 hc3
    refine lv_iload_n E.ex E.by dX12_toldSum_10 rfl (lv_at hl 2 rfl) ?_
    refine lv_aload_n E.ex E.by dX12_toldSum_11 rfl (lv_at hl 0 rfl) ?_
    refine k_get E G wi_X12_toldSum_X12 0 (gM_0 _ _ _) rfl 0 rfl fl_X12_toldSum_X12_0 (v := .ref (a 1)) rfl dX12_toldSum_12 ?_
    refine lv_iconst (v := 1) E.ex E.by dX12_toldSum_15 (by decide) ?_
    refine lv_bipush (v := 8) E.ex E.by dX12_toldSum_16 (by decide) ?_
    refine lv_iload_n E.ex E.by dX12_toldSum_18 rfl (lv_at hl 1 rfl) ?_
    refine lv_imul E.ex E.by dX12_toldSum_19 ?_
    refine lv_iadd E.ex E.by dX12_toldSum_20 ?_
    refine lv_iload_n E.ex E.by dX12_toldSum_21 rfl (lv_at hl 3 rfl) ?_
    refine lv_iadd E.ex E.by dX12_toldSum_22 ?_
    refine k_iald E G 1 (gM_1 _ _ _) 0 rfl h.1 dX12_toldSum_23 ?_
    have h := h.2
    refine lv_iadd E.ex E.by dX12_toldSum_24 ?_
    refine lv_topi (fun x2 ex2 => ?_)
    have h := h x2 ex2
    refine lv_istore_n (lv' := [(2, .int x2), (0, .ref (a 0)), (1, .int p1), (3, .int t1.2)]) E.ex E.by dX12_toldSum_25 rfl hl (by decide) rfl (fun ls hl => ?_)
    refine lv_iinc (k := 3) (v := t1.2 + 1) (lv' := [(3, .int (t1.2 + 1)), (2, .int x2), (0, .ref (a 0)), (1, .int p1)]) E.ex E.by dX12_toldSum_26 hl rfl (k_inc1 _) (by decide) rfl (fun ls hl => ?_)
    refine lv_goto (tgt := 4) E.ex E.by dX12_toldSum_29 (by decide) ?_
    exact IH4 _ h _ _ _ G (lv_sub hl [2, 3, 1, 0] rfl)
theorem wi_X12_setWeight_X12 : ∀ w ∈ wsX120, w ∈ wsX12_setWeight := fun w h => List.mem_cons_of_mem _ (List.mem_append_right _ (h))
theorem fl_X12_setWeight_X12_0 : Cond.fieldLink RX12 9 (TX12 0).1 (TX12 0).2.1 (TX12 0).2.2.1 ∈ wsX12_setWeight := List.mem_of_getElem? (i := 1) (by decide +kernel)
theorem hd_X12_toldSum_v : yX12_toldSum.cls = RX12 ∧ yX12_toldSum.cls ≠ "java/lang/invoke/MethodHandle" ∧ yX12_toldSum.cls ≠ "java/lang/invoke/VarHandle" ∧ (parseMethodDescriptor yX12_toldSum.desc).map (fun d => d.parameters.length) = some 1 := by decide +kernel
theorem hd_X12_isState_v : yX12_isState.cls = RX12 ∧ yX12_isState.cls ≠ "java/lang/invoke/MethodHandle" ∧ yX12_isState.cls ≠ "java/lang/invoke/VarHandle" ∧ (parseMethodDescriptor yX12_isState.desc).map (fun d => d.parameters.length) = some 1 := by decide +kernel
def wp_X12_setWeight (p1 : Int32) (p2 : Int32) (p3 : Int32) (σ : US) (Q : Int32 → US → Prop) : Prop := wp_X12_isState p1 σ (fun (r1 : Int32) => (r1 = 0 → Q (-1) σ) ∧ (¬ r1 = 0 → wp_X12_isState p2 σ (fun (r2 : Int32) => (r2 = 0 → Q (-1) σ) ∧ (¬ r2 = 0 → wp_X12_in p3 0 9 (fun (r3 : Int32) => (¬ r3 = 0 → vp_in ((1 + (8 * p1)) + p2) 81 ∧ (∀ x4 : Int32, x4 = aA σ 0 ((1 + (8 * p1)) + p2).toNatClampNeg → wp_X12_toldSum p1 σ (fun (r5 : Int32) => (((r5 - x4) + p3) ≤ 10 → wp_X12_change σ (fun (u6 : US) => vp_in ((1 + (8 * p1)) + p2) 81 ∧ (∀ z7 : US, z7 = uA u6 0 ((1 + (8 * p1)) + p2).toNatClampNeg p3 → Q x4 z7))) ∧ (¬ ((r5 - x4) + p3) ≤ 10 → Q (-3) σ)))) ∧ (r3 = 0 → Q (-1) σ))))))
set_option maxRecDepth 100000 in
set_option maxHeartbeats 4000000 in
theorem c_X12_setWeight (l : Launch) (D : va_G) (kc : Nat → ClassId) (a : Nat → Nat)  (p1 : Int32) (p2 : Int32) (p3 : Int32) (σ : US) (Q : Int32 → US → Prop) (h : wp_X12_setWeight p1 p2 p3 σ Q) : kCi l D (tyL kc) yX12_setWeight wsX12_setWeight ({ frames := 2, cells := 0, slots := 0, locals := 80 } : Room) [.ref (a 0), .int p1, .int p2, .int p3] (wM kc a σ) (fun u : US => (wM kc a u)) 0 0 (fun r u => Q r u) := by
  intro sz
  refine k_begin (cc := cX12_setWeight) (maxL := 5) (ret := (some .int)) (by decide +kernel) rfl rfl (fun p e s m args below meth c hsz E G ls hl => ?_)
  subst hsz
  have hl : lv_has ls 5 [(0, .ref (a 0)), (1, .int p1), (2, .int p2), (3, .int p3)] := hl
  refine lv_aload_n E.ex E.by dX12_setWeight_0 rfl (lv_at hl 0 rfl) ?_
  refine lv_iload_n E.ex E.by dX12_setWeight_1 rfl (lv_at hl 1 rfl) ?_
  refine k_cVi (X := []) (w := (wM kc a σ)) (Z := []) (wnew := (fun _ : Unit => (wM kc a σ))) (As := [.int p1]) (rest := []) E (List.append_nil _).symm G (c_X12_isState l D kc _ _ _ _ h) gX12_setWeight_X12_isState rfl ⟨rfl, rfl⟩ hd_X12_isState_v ⟨rfl, rfl⟩ 0 (gM_0 _ _ _) rfl rfl hl rfl rfl dX12_setWeight_2 ⟨rfl, rfl⟩ (fun _ => (List.append_nil _).symm) (fun r1 _u2 hq H locs G => ?_)
  have h := hq
  refine lv_if_eq (tgt := 26) E.ex E.by dX12_setWeight_5 (by decide) (fun hc11 => ?_) (fun hc11 => ?_)
  · have h := h.1 hc11
    refine lv_iconst (v := (-1)) E.ex E.by dX12_setWeight_26 (by decide) ?_
    exact k_ret (wof := (fun u : US => (wM kc a u))) (u := σ) E G rfl h (Nat.le_of_ble_eq_true rfl) (Nat.le_of_ble_eq_true rfl) dX12_setWeight_27
  · have h := h.2 hc11
    refine lv_aload_n E.ex E.by dX12_setWeight_8 rfl (lv_at hl 0 rfl) ?_
    refine lv_iload_n E.ex E.by dX12_setWeight_9 rfl (lv_at hl 2 rfl) ?_
    refine k_cVi (X := []) (w := (wM kc a σ)) (Z := []) (wnew := (fun _ : Unit => (wM kc a σ))) (As := [.int p2]) (rest := []) E (List.append_nil _).symm G (c_X12_isState l D kc _ _ _ _ h) gX12_setWeight_X12_isState rfl ⟨rfl, rfl⟩ hd_X12_isState_v ⟨rfl, rfl⟩ 0 (gM_0 _ _ _) rfl rfl hl rfl rfl dX12_setWeight_10 ⟨rfl, rfl⟩ (fun _ => (List.append_nil _).symm) (fun r2 _u10 hq H locs G => ?_)
    have h := hq
    refine lv_if_eq (tgt := 26) E.ex E.by dX12_setWeight_13 (by decide) (fun hc10 => ?_) (fun hc10 => ?_)
    · have h := h.1 hc10
      refine lv_iconst (v := (-1)) E.ex E.by dX12_setWeight_26 (by decide) ?_
      exact k_ret (wof := (fun u : US => (wM kc a u))) (u := σ) E G rfl h (Nat.le_of_ble_eq_true rfl) (Nat.le_of_ble_eq_true rfl) dX12_setWeight_27
    · have h := h.2 hc10
      refine lv_iload_n E.ex E.by dX12_setWeight_16 rfl (lv_at hl 3 rfl) ?_
      refine lv_iconst (v := 0) E.ex E.by dX12_setWeight_17 (by decide) ?_
      refine lv_bipush (v := 9) E.ex E.by dX12_setWeight_18 (by decide) ?_
      refine k_cSi (X := (wM kc a σ)) (w := []) (Z := []) (wnew := (fun _ : Unit => (wM kc a σ))) (As := [.int p3, .int 0, .int 9]) (rest := []) E (List.append_nil _).symm G (c_X12_in l D kc _ _ _ _ h) gX12_setWeight_X12_in rfl ⟨rfl, rfl⟩ hd_X12_in_v ⟨rfl, rfl⟩ rfl hl rfl rfl dX12_setWeight_20 ⟨rfl, rfl⟩ (fun _ => (List.append_nil _).symm) (fun r3 _u20 hq H locs G => ?_)
      have h := hq
      refine lv_if_ne (tgt := 28) E.ex E.by dX12_setWeight_23 (by decide) (fun hc9 => ?_) (fun hc9 => ?_)
      · have h := h.1 hc9
        refine lv_aload_n E.ex E.by dX12_setWeight_28 rfl (lv_at hl 0 rfl) ?_
        refine k_get E G wi_X12_setWeight_X12 0 (gM_0 _ _ _) rfl 0 rfl fl_X12_setWeight_X12_0 (v := .ref (a 1)) rfl dX12_setWeight_29 ?_
        refine lv_iconst (v := 1) E.ex E.by dX12_setWeight_32 (by decide) ?_
        refine lv_bipush (v := 8) E.ex E.by dX12_setWeight_33 (by decide) ?_
        refine lv_iload_n E.ex E.by dX12_setWeight_35 rfl (lv_at hl 1 rfl) ?_
        refine lv_imul E.ex E.by dX12_setWeight_36 ?_
        refine lv_iadd E.ex E.by dX12_setWeight_37 ?_
        refine lv_iload_n E.ex E.by dX12_setWeight_38 rfl (lv_at hl 2 rfl) ?_
        refine lv_iadd E.ex E.by dX12_setWeight_39 ?_
        refine k_iald E G 1 (gM_1 _ _ _) 0 rfl h.1 dX12_setWeight_40 ?_
        have h := h.2
        refine lv_topi (fun x4 ex4 => ?_)
        have h := h x4 ex4
        refine lv_istore (lv' := [(4, .int x4), (0, .ref (a 0)), (1, .int p1), (2, .int p2), (3, .int p3)]) E.ex E.by dX12_setWeight_41 hl (by decide) rfl (fun ls hl => ?_)
        refine lv_aload_n E.ex E.by dX12_setWeight_43 rfl (lv_at hl 1 rfl) ?_
        refine lv_iload_n E.ex E.by dX12_setWeight_44 rfl (lv_at hl 2 rfl) ?_
        refine k_cVi (X := []) (w := (wM kc a σ)) (Z := []) (wnew := (fun _ : Unit => (wM kc a σ))) (As := [.int p1]) (rest := []) E (List.append_nil _).symm G (c_X12_toldSum l D kc _ _ _ _ h) gX12_setWeight_X12_toldSum rfl ⟨rfl, rfl⟩ hd_X12_toldSum_v ⟨rfl, rfl⟩ 0 (gM_0 _ _ _) rfl rfl hl rfl rfl dX12_setWeight_45 ⟨rfl, rfl⟩ (fun _ => (List.append_nil _).symm) (fun r5 _u45 hq H locs G => ?_)
        have h := hq
        refine lv_iload E.ex E.by dX12_setWeight_48 (lv_at hl 0 rfl) ?_
        refine lv_isub E.ex E.by dX12_setWeight_50 ?_
        refine lv_iload_n E.ex E.by dX12_setWeight_51 rfl (lv_at hl 4 rfl) ?_
        refine lv_iadd E.ex E.by dX12_setWeight_52 ?_
        refine lv_bipush (v := 10) E.ex E.by dX12_setWeight_53 (by decide) ?_
        refine lv_icmp_le (tgt := 61) E.ex E.by dX12_setWeight_55 (by decide) (fun hc8 => ?_) (fun hc8 => ?_)
        · have h := h.1 hc8
          refine lv_aload_n E.ex E.by dX12_setWeight_61 rfl (lv_at hl 1 rfl) ?_
          refine k_cVv (X := []) (w := (wM kc a σ)) (Z := []) (wnew := (fun u : US => (wM kc a u))) (As := []) (rest := []) E (List.append_nil _).symm G (c_X12_change l D kc _ _ _ h) gX12_setWeight_X12_change rfl ⟨rfl, rfl⟩ hd_X12_change_v ⟨rfl, rfl⟩ 0 (gM_0 _ _ _) rfl rfl hl rfl rfl dX12_setWeight_62 ⟨rfl, rfl⟩ (fun _ => (List.append_nil _).symm) (fun u6 hq H locs G => ?_)
          have h := hq
          refine lv_aload_n E.ex E.by dX12_setWeight_65 rfl (lv_at hl 1 rfl) ?_
          refine k_get E G wi_X12_setWeight_X12 0 (gM_0 _ _ _) rfl 0 rfl fl_X12_setWeight_X12_0 (v := .ref (a 1)) rfl dX12_setWeight_66 ?_
          refine lv_iconst (v := 1) E.ex E.by dX12_setWeight_69 (by decide) ?_
          refine lv_bipush (v := 8) E.ex E.by dX12_setWeight_70 (by decide) ?_
          refine lv_iload_n E.ex E.by dX12_setWeight_72 rfl (lv_at hl 2 rfl) ?_
          refine lv_imul E.ex E.by dX12_setWeight_73 ?_
          refine lv_iadd E.ex E.by dX12_setWeight_74 ?_
          refine lv_iload_n E.ex E.by dX12_setWeight_75 rfl (lv_at hl 3 rfl) ?_
          refine lv_iadd E.ex E.by dX12_setWeight_76 ?_
          refine lv_iload_n E.ex E.by dX12_setWeight_77 rfl (lv_at hl 4 rfl) ?_
          refine k_iast (fun z => (wM kc a z)) E G 1 (gM_1 _ _ _) 0 rfl h.1 (uA u6 0 ((1 + (8 * p1)) + p2).toNatClampNeg p3) (sM_1 _ _ _ _) dX12_setWeight_78 (fun z7 ez7 H locs G => ?_)
          have h := h.2 z7 ez7
          refine lv_iload E.ex E.by dX12_setWeight_79 (lv_at hl 0 rfl) ?_
          exact k_ret (wof := (fun u : US => (wM kc a u))) (u := z7) E G rfl h (Nat.le_of_ble_eq_true rfl) (Nat.le_of_ble_eq_true rfl) dX12_setWeight_81
        · have h := h.2 hc8
          refine lv_bipush (v := (-3)) E.ex E.by dX12_setWeight_58 (by decide) ?_
          exact k_ret (wof := (fun u : US => (wM kc a u))) (u := σ) E G rfl h (Nat.le_of_ble_eq_true rfl) (Nat.le_of_ble_eq_true rfl) dX12_setWeight_60
      · have h := h.2 hc9
        refine lv_iconst (v := (-1)) E.ex E.by dX12_setWeight_26 (by decide) ?_
        exact k_ret (wof := (fun u : US => (wM kc a u))) (u := σ) E G rfl h (Nat.le_of_ble_eq_true rfl) (Nat.le_of_ble_eq_true rfl) dX12_setWeight_27
theorem wi_X12_weight_X12 : ∀ w ∈ wsX120, w ∈ wsX12_weight := fun w h => List.mem_cons_of_mem _ (List.mem_append_right _ (h))
theorem fl_X12_weight_X12_0 : Cond.fieldLink RX12 9 (TX12 0).1 (TX12 0).2.1 (TX12 0).2.2.1 ∈ wsX12_weight := List.mem_of_getElem? (i := 1) (by decide +kernel)
def wp_X12_weight (p1 : Int32) (p2 : Int32) (σ : US) (Q : Int32 → Prop) : Prop := wp_X12_isState p1 σ (fun (r1 : Int32) => (r1 = 0 → Q (-1)) ∧ (¬ r1 = 0 → wp_X12_isState p2 σ (fun (r2 : Int32) => (r2 = 0 → Q (-1)) ∧ (¬ r2 = 0 → vp_in ((1 + (8 * p1)) + p2) 81 ∧ (Q (aA σ 0 ((1 + (8 * p1)) + p2).toNatClampNeg))))))
set_option maxRecDepth 100000 in
set_option maxHeartbeats 4000000 in
theorem c_X12_weight (l : Launch) (D : va_G) (kc : Nat → ClassId) (a : Nat → Nat)  (p1 : Int32) (p2 : Int32) (σ : US) (Q : Int32 → Prop) (h : wp_X12_weight p1 p2 σ Q) : kCi l D (tyL kc) yX12_weight wsX12_weight ({ frames := 2, cells := 0, slots := 0, locals := 43 } : Room) [.ref (a 0), .int p1, .int p2] (wM kc a σ) (fun _ : Unit => (wM kc a σ)) 0 0 (fun r _ => Q r) := by
  intro sz
  refine k_begin (cc := cX12_weight) (maxL := 3) (ret := (some .int)) (by decide +kernel) rfl rfl (fun p e s m args below meth c hsz E G ls hl => ?_)
  subst hsz
  have hl : lv_has ls 3 [(0, .ref (a 0)), (1, .int p1), (2, .int p2)] := hl
  refine lv_aload_n E.ex E.by dX12_weight_0 rfl (lv_at hl 0 rfl) ?_
  refine lv_iload_n E.ex E.by dX12_weight_1 rfl (lv_at hl 1 rfl) ?_
  refine k_cVi (X := []) (w := (wM kc a σ)) (Z := []) (wnew := (fun _ : Unit => (wM kc a σ))) (As := [.int p1]) (rest := []) E (List.append_nil _).symm G (c_X12_isState l D kc _ _ _ _ h) gX12_weight_X12_isState rfl ⟨rfl, rfl⟩ hd_X12_isState_v ⟨rfl, rfl⟩ 0 (gM_0 _ _ _) rfl rfl hl rfl rfl dX12_weight_2 ⟨rfl, rfl⟩ (fun _ => (List.append_nil _).symm) (fun r1 _u2 hq H locs G => ?_)
  have h := hq
  refine lv_if_eq (tgt := 32) E.ex E.by dX12_weight_5 (by decide) (fun hc4 => ?_) (fun hc4 => ?_)
  · have h := h.1 hc4
    refine lv_iconst (v := (-1)) E.ex E.by dX12_weight_32 (by decide) ?_
    exact k_ret (wof := (fun _ : Unit => (wM kc a σ))) (u := ()) E G rfl h (Nat.le_of_ble_eq_true rfl) (Nat.le_of_ble_eq_true rfl) dX12_weight_33
  · have h := h.2 hc4
    refine lv_aload_n E.ex E.by dX12_weight_8 rfl (lv_at hl 0 rfl) ?_
    refine lv_iload_n E.ex E.by dX12_weight_9 rfl (lv_at hl 2 rfl) ?_
    refine k_cVi (X := []) (w := (wM kc a σ)) (Z := []) (wnew := (fun _ : Unit => (wM kc a σ))) (As := [.int p2]) (rest := []) E (List.append_nil _).symm G (c_X12_isState l D kc _ _ _ _ h) gX12_weight_X12_isState rfl ⟨rfl, rfl⟩ hd_X12_isState_v ⟨rfl, rfl⟩ 0 (gM_0 _ _ _) rfl rfl hl rfl rfl dX12_weight_10 ⟨rfl, rfl⟩ (fun _ => (List.append_nil _).symm) (fun r2 _u10 hq H locs G => ?_)
    have h := hq
    refine lv_if_eq (tgt := 32) E.ex E.by dX12_weight_13 (by decide) (fun hc3 => ?_) (fun hc3 => ?_)
    · have h := h.1 hc3
      refine lv_iconst (v := (-1)) E.ex E.by dX12_weight_32 (by decide) ?_
      exact k_ret (wof := (fun _ : Unit => (wM kc a σ))) (u := ()) E G rfl h (Nat.le_of_ble_eq_true rfl) (Nat.le_of_ble_eq_true rfl) dX12_weight_33
    · have h := h.2 hc3
      refine lv_aload_n E.ex E.by dX12_weight_16 rfl (lv_at hl 0 rfl) ?_
      refine k_get E G wi_X12_weight_X12 0 (gM_0 _ _ _) rfl 0 rfl fl_X12_weight_X12_0 (v := .ref (a 1)) rfl dX12_weight_17 ?_
      refine lv_iconst (v := 1) E.ex E.by dX12_weight_20 (by decide) ?_
      refine lv_bipush (v := 8) E.ex E.by dX12_weight_21 (by decide) ?_
      refine lv_iload_n E.ex E.by dX12_weight_23 rfl (lv_at hl 1 rfl) ?_
      refine lv_imul E.ex E.by dX12_weight_24 ?_
      refine lv_iadd E.ex E.by dX12_weight_25 ?_
      refine lv_iload_n E.ex E.by dX12_weight_26 rfl (lv_at hl 2 rfl) ?_
      refine lv_iadd E.ex E.by dX12_weight_27 ?_
      refine k_iald E G 1 (gM_1 _ _ _) 0 rfl h.1 dX12_weight_28 ?_
      have h := h.2
      refine lv_goto (tgt := 33) E.ex E.by dX12_weight_29 (by decide) ?_
      exact k_ret (wof := (fun _ : Unit => (wM kc a σ))) (u := ()) E G rfl h (Nat.le_of_ble_eq_true rfl) (Nat.le_of_ble_eq_true rfl) dX12_weight_33
def wp_X12_sum (p1 : Int32) (σ : US) (Q : Int32 → Prop) : Prop := wp_X12_isState p1 σ (fun (r1 : Int32) => (r1 = 0 → Q (-1)) ∧ (¬ r1 = 0 → wp_X12_toldSum p1 σ (fun (r2 : Int32) => Q r2)))
set_option maxRecDepth 100000 in
set_option maxHeartbeats 4000000 in
theorem c_X12_sum (l : Launch) (D : va_G) (kc : Nat → ClassId) (a : Nat → Nat)  (p1 : Int32) (σ : US) (Q : Int32 → Prop) (h : wp_X12_sum p1 σ Q) : kCi l D (tyL kc) yX12_sum wsX12_sum ({ frames := 2, cells := 0, slots := 0, locals := 43 } : Room) [.ref (a 0), .int p1] (wM kc a σ) (fun _ : Unit => (wM kc a σ)) 0 0 (fun r _ => Q r) := by
  intro sz
  refine k_begin (cc := cX12_sum) (maxL := 2) (ret := (some .int)) (by decide +kernel) rfl rfl (fun p e s m args below meth c hsz E G ls hl => ?_)
  subst hsz
  have hl : lv_has ls 2 [(0, .ref (a 0)), (1, .int p1)] := hl
  refine lv_aload_n E.ex E.by dX12_sum_0 rfl (lv_at hl 0 rfl) ?_
  refine lv_iload_n E.ex E.by dX12_sum_1 rfl (lv_at hl 1 rfl) ?_
  refine k_cVi (X := []) (w := (wM kc a σ)) (Z := []) (wnew := (fun _ : Unit => (wM kc a σ))) (As := [.int p1]) (rest := []) E (List.append_nil _).symm G (c_X12_isState l D kc _ _ _ _ h) gX12_sum_X12_isState rfl ⟨rfl, rfl⟩ hd_X12_isState_v ⟨rfl, rfl⟩ 0 (gM_0 _ _ _) rfl rfl hl rfl rfl dX12_sum_2 ⟨rfl, rfl⟩ (fun _ => (List.append_nil _).symm) (fun r1 _u2 hq H locs G => ?_)
  have h := hq
  refine lv_if_eq (tgt := 16) E.ex E.by dX12_sum_5 (by decide) (fun hc3 => ?_) (fun hc3 => ?_)
  · have h := h.1 hc3
    refine lv_iconst (v := (-1)) E.ex E.by dX12_sum_16 (by decide) ?_
    exact k_ret (wof := (fun _ : Unit => (wM kc a σ))) (u := ()) E G rfl h (Nat.le_of_ble_eq_true rfl) (Nat.le_of_ble_eq_true rfl) dX12_sum_17
  · have h := h.2 hc3
    refine lv_aload_n E.ex E.by dX12_sum_8 rfl (lv_at hl 0 rfl) ?_
    refine lv_iload_n E.ex E.by dX12_sum_9 rfl (lv_at hl 1 rfl) ?_
    refine k_cVi (X := []) (w := (wM kc a σ)) (Z := []) (wnew := (fun _ : Unit => (wM kc a σ))) (As := [.int p1]) (rest := []) E (List.append_nil _).symm G (c_X12_toldSum l D kc _ _ _ _ h) gX12_sum_X12_toldSum rfl ⟨rfl, rfl⟩ hd_X12_toldSum_v ⟨rfl, rfl⟩ 0 (gM_0 _ _ _) rfl rfl hl rfl rfl dX12_sum_10 ⟨rfl, rfl⟩ (fun _ => (List.append_nil _).symm) (fun r2 _u10 hq H locs G => ?_)
    have h := hq
    refine lv_goto (tgt := 17) E.ex E.by dX12_sum_13 (by decide) ?_
    exact k_ret (wof := (fun _ : Unit => (wM kc a σ))) (u := ()) E G rfl h (Nat.le_of_ble_eq_true rfl) (Nat.le_of_ble_eq_true rfl) dX12_sum_17
theorem wi_X12_setLabels_X12 : ∀ w ∈ wsX120, w ∈ wsX12_setLabels := fun w h => List.mem_cons_of_mem _ (List.mem_append_right _ (h))
theorem fl_X12_setLabels_X12_0 : Cond.fieldLink RX12 9 (TX12 0).1 (TX12 0).2.1 (TX12 0).2.2.1 ∈ wsX12_setLabels := List.mem_of_getElem? (i := 1) (by decide +kernel)
def wp_X12_setLabels (p1 : Int32) (p2 : Int32) (σ : US) (Q : Int32 → US → Prop) : Prop := wp_X12_isState p1 σ (fun (r1 : Int32) => (r1 = 0 → Q (-1) σ) ∧ (¬ r1 = 0 → wp_X12_in p2 0 15 (fun (r2 : Int32) => (¬ r2 = 0 → wp_X12_change σ (fun (u3 : US) => vp_in (65 + p1) 81 ∧ (∀ x4 : Int32, x4 = aA u3 0 (65 + p1).toNatClampNeg → vp_in (65 + p1) 81 ∧ (∀ z5 : US, z5 = uA u3 0 (65 + p1).toNatClampNeg p2 → Q x4 z5)))) ∧ (r2 = 0 → Q (-1) σ))))
set_option maxRecDepth 100000 in
set_option maxHeartbeats 4000000 in
theorem c_X12_setLabels (l : Launch) (D : va_G) (kc : Nat → ClassId) (a : Nat → Nat)  (p1 : Int32) (p2 : Int32) (σ : US) (Q : Int32 → US → Prop) (h : wp_X12_setLabels p1 p2 σ Q) : kCi l D (tyL kc) yX12_setLabels wsX12_setLabels ({ frames := 2, cells := 0, slots := 0, locals := 80 } : Room) [.ref (a 0), .int p1, .int p2] (wM kc a σ) (fun u : US => (wM kc a u)) 0 0 (fun r u => Q r u) := by
  intro sz
  refine k_begin (cc := cX12_setLabels) (maxL := 4) (ret := (some .int)) (by decide +kernel) rfl rfl (fun p e s m args below meth c hsz E G ls hl => ?_)
  subst hsz
  have hl : lv_has ls 4 [(0, .ref (a 0)), (1, .int p1), (2, .int p2)] := hl
  refine lv_aload_n E.ex E.by dX12_setLabels_0 rfl (lv_at hl 0 rfl) ?_
  refine lv_iload_n E.ex E.by dX12_setLabels_1 rfl (lv_at hl 1 rfl) ?_
  refine k_cVi (X := []) (w := (wM kc a σ)) (Z := []) (wnew := (fun _ : Unit => (wM kc a σ))) (As := [.int p1]) (rest := []) E (List.append_nil _).symm G (c_X12_isState l D kc _ _ _ _ h) gX12_setLabels_X12_isState rfl ⟨rfl, rfl⟩ hd_X12_isState_v ⟨rfl, rfl⟩ 0 (gM_0 _ _ _) rfl rfl hl rfl rfl dX12_setLabels_2 ⟨rfl, rfl⟩ (fun _ => (List.append_nil _).symm) (fun r1 _u2 hq H locs G => ?_)
  have h := hq
  refine lv_if_eq (tgt := 18) E.ex E.by dX12_setLabels_5 (by decide) (fun hc7 => ?_) (fun hc7 => ?_)
  · have h := h.1 hc7
    refine lv_iconst (v := (-1)) E.ex E.by dX12_setLabels_18 (by decide) ?_
    exact k_ret (wof := (fun u : US => (wM kc a u))) (u := σ) E G rfl h (Nat.le_of_ble_eq_true rfl) (Nat.le_of_ble_eq_true rfl) dX12_setLabels_19
  · have h := h.2 hc7
    refine lv_iload_n E.ex E.by dX12_setLabels_8 rfl (lv_at hl 2 rfl) ?_
    refine lv_iconst (v := 0) E.ex E.by dX12_setLabels_9 (by decide) ?_
    refine lv_bipush (v := 15) E.ex E.by dX12_setLabels_10 (by decide) ?_
    refine k_cSi (X := (wM kc a σ)) (w := []) (Z := []) (wnew := (fun _ : Unit => (wM kc a σ))) (As := [.int p2, .int 0, .int 15]) (rest := []) E (List.append_nil _).symm G (c_X12_in l D kc _ _ _ _ h) gX12_setLabels_X12_in rfl ⟨rfl, rfl⟩ hd_X12_in_v ⟨rfl, rfl⟩ rfl hl rfl rfl dX12_setLabels_12 ⟨rfl, rfl⟩ (fun _ => (List.append_nil _).symm) (fun r2 _u12 hq H locs G => ?_)
    have h := hq
    refine lv_if_ne (tgt := 20) E.ex E.by dX12_setLabels_15 (by decide) (fun hc6 => ?_) (fun hc6 => ?_)
    · have h := h.1 hc6
      refine lv_aload_n E.ex E.by dX12_setLabels_20 rfl (lv_at hl 0 rfl) ?_
      refine k_cVv (X := []) (w := (wM kc a σ)) (Z := []) (wnew := (fun u : US => (wM kc a u))) (As := []) (rest := []) E (List.append_nil _).symm G (c_X12_change l D kc _ _ _ h) gX12_setLabels_X12_change rfl ⟨rfl, rfl⟩ hd_X12_change_v ⟨rfl, rfl⟩ 0 (gM_0 _ _ _) rfl rfl hl rfl rfl dX12_setLabels_21 ⟨rfl, rfl⟩ (fun _ => (List.append_nil _).symm) (fun u3 hq H locs G => ?_)
      have h := hq
      refine lv_aload_n E.ex E.by dX12_setLabels_24 rfl (lv_at hl 0 rfl) ?_
      refine k_get E G wi_X12_setLabels_X12 0 (gM_0 _ _ _) rfl 0 rfl fl_X12_setLabels_X12_0 (v := .ref (a 1)) rfl dX12_setLabels_25 ?_
      refine lv_bipush (v := 65) E.ex E.by dX12_setLabels_28 (by decide) ?_
      refine lv_iload_n E.ex E.by dX12_setLabels_30 rfl (lv_at hl 1 rfl) ?_
      refine lv_iadd E.ex E.by dX12_setLabels_31 ?_
      refine k_iald E G 1 (gM_1 _ _ _) 0 rfl h.1 dX12_setLabels_32 ?_
      have h := h.2
      refine lv_topi (fun x4 ex4 => ?_)
      have h := h x4 ex4
      refine lv_istore_n (lv' := [(3, .int x4), (0, .ref (a 0)), (1, .int p1), (2, .int p2)]) E.ex E.by dX12_setLabels_33 rfl hl (by decide) rfl (fun ls hl => ?_)
      refine lv_aload_n E.ex E.by dX12_setLabels_34 rfl (lv_at hl 1 rfl) ?_
      refine k_get E G wi_X12_setLabels_X12 0 (gM_0 _ _ _) rfl 0 rfl fl_X12_setLabels_X12_0 (v := .ref (a 1)) rfl dX12_setLabels_35 ?_
      refine lv_bipush (v := 65) E.ex E.by dX12_setLabels_38 (by decide) ?_
      refine lv_iload_n E.ex E.by dX12_setLabels_40 rfl (lv_at hl 2 rfl) ?_
      refine lv_iadd E.ex E.by dX12_setLabels_41 ?_
      refine lv_iload_n E.ex E.by dX12_setLabels_42 rfl (lv_at hl 3 rfl) ?_
      refine k_iast (fun z => (wM kc a z)) E G 1 (gM_1 _ _ _) 0 rfl h.1 (uA u3 0 (65 + p1).toNatClampNeg p2) (sM_1 _ _ _ _) dX12_setLabels_43 (fun z5 ez5 H locs G => ?_)
      have h := h.2 z5 ez5
      refine lv_iload_n E.ex E.by dX12_setLabels_44 rfl (lv_at hl 0 rfl) ?_
      exact k_ret (wof := (fun u : US => (wM kc a u))) (u := z5) E G rfl h (Nat.le_of_ble_eq_true rfl) (Nat.le_of_ble_eq_true rfl) dX12_setLabels_45
    · have h := h.2 hc6
      refine lv_iconst (v := (-1)) E.ex E.by dX12_setLabels_18 (by decide) ?_
      exact k_ret (wof := (fun u : US => (wM kc a u))) (u := σ) E G rfl h (Nat.le_of_ble_eq_true rfl) (Nat.le_of_ble_eq_true rfl) dX12_setLabels_19
theorem wi_X12_labels_X12 : ∀ w ∈ wsX120, w ∈ wsX12_labels := fun w h => List.mem_cons_of_mem _ (List.mem_append_right _ (h))
theorem fl_X12_labels_X12_0 : Cond.fieldLink RX12 9 (TX12 0).1 (TX12 0).2.1 (TX12 0).2.2.1 ∈ wsX12_labels := List.mem_of_getElem? (i := 1) (by decide +kernel)
def wp_X12_labels (p1 : Int32) (σ : US) (Q : Int32 → Prop) : Prop := wp_X12_isState p1 σ (fun (r1 : Int32) => (r1 = 0 → Q (-1)) ∧ (¬ r1 = 0 → vp_in (65 + p1) 81 ∧ (Q (aA σ 0 (65 + p1).toNatClampNeg))))
set_option maxRecDepth 100000 in
set_option maxHeartbeats 4000000 in
theorem c_X12_labels (l : Launch) (D : va_G) (kc : Nat → ClassId) (a : Nat → Nat)  (p1 : Int32) (σ : US) (Q : Int32 → Prop) (h : wp_X12_labels p1 σ Q) : kCi l D (tyL kc) yX12_labels wsX12_labels ({ frames := 2, cells := 0, slots := 0, locals := 43 } : Room) [.ref (a 0), .int p1] (wM kc a σ) (fun _ : Unit => (wM kc a σ)) 0 0 (fun r _ => Q r) := by
  intro sz
  refine k_begin (cc := cX12_labels) (maxL := 2) (ret := (some .int)) (by decide +kernel) rfl rfl (fun p e s m args below meth c hsz E G ls hl => ?_)
  subst hsz
  have hl : lv_has ls 2 [(0, .ref (a 0)), (1, .int p1)] := hl
  refine lv_aload_n E.ex E.by dX12_labels_0 rfl (lv_at hl 0 rfl) ?_
  refine lv_iload_n E.ex E.by dX12_labels_1 rfl (lv_at hl 1 rfl) ?_
  refine k_cVi (X := []) (w := (wM kc a σ)) (Z := []) (wnew := (fun _ : Unit => (wM kc a σ))) (As := [.int p1]) (rest := []) E (List.append_nil _).symm G (c_X12_isState l D kc _ _ _ _ h) gX12_labels_X12_isState rfl ⟨rfl, rfl⟩ hd_X12_isState_v ⟨rfl, rfl⟩ 0 (gM_0 _ _ _) rfl rfl hl rfl rfl dX12_labels_2 ⟨rfl, rfl⟩ (fun _ => (List.append_nil _).symm) (fun r1 _u2 hq H locs G => ?_)
  have h := hq
  refine lv_if_eq (tgt := 20) E.ex E.by dX12_labels_5 (by decide) (fun hc2 => ?_) (fun hc2 => ?_)
  · have h := h.1 hc2
    refine lv_iconst (v := (-1)) E.ex E.by dX12_labels_20 (by decide) ?_
    exact k_ret (wof := (fun _ : Unit => (wM kc a σ))) (u := ()) E G rfl h (Nat.le_of_ble_eq_true rfl) (Nat.le_of_ble_eq_true rfl) dX12_labels_21
  · have h := h.2 hc2
    refine lv_aload_n E.ex E.by dX12_labels_8 rfl (lv_at hl 0 rfl) ?_
    refine k_get E G wi_X12_labels_X12 0 (gM_0 _ _ _) rfl 0 rfl fl_X12_labels_X12_0 (v := .ref (a 1)) rfl dX12_labels_9 ?_
    refine lv_bipush (v := 65) E.ex E.by dX12_labels_12 (by decide) ?_
    refine lv_iload_n E.ex E.by dX12_labels_14 rfl (lv_at hl 1 rfl) ?_
    refine lv_iadd E.ex E.by dX12_labels_15 ?_
    refine k_iald E G 1 (gM_1 _ _ _) 0 rfl h.1 dX12_labels_16 ?_
    have h := h.2
    refine lv_goto (tgt := 21) E.ex E.by dX12_labels_17 (by decide) ?_
    exact k_ret (wof := (fun _ : Unit => (wM kc a σ))) (u := ()) E G rfl h (Nat.le_of_ble_eq_true rfl) (Nat.le_of_ble_eq_true rfl) dX12_labels_21
theorem wi_X12_setReward_X12 : ∀ w ∈ wsX120, w ∈ wsX12_setReward := fun w h => List.mem_cons_of_mem _ (List.mem_append_right _ (h))
theorem fl_X12_setReward_X12_0 : Cond.fieldLink RX12 9 (TX12 0).1 (TX12 0).2.1 (TX12 0).2.2.1 ∈ wsX12_setReward := List.mem_of_getElem? (i := 1) (by decide +kernel)
def wp_X12_setReward (p1 : Int32) (p2 : Int32) (σ : US) (Q : Int32 → US → Prop) : Prop := wp_X12_isState p1 σ (fun (r1 : Int32) => (r1 = 0 → Q (-1) σ) ∧ (¬ r1 = 0 → wp_X12_in p2 0 9 (fun (r2 : Int32) => (¬ r2 = 0 → wp_X12_change σ (fun (u3 : US) => vp_in (73 + p1) 81 ∧ (∀ x4 : Int32, x4 = aA u3 0 (73 + p1).toNatClampNeg → vp_in (73 + p1) 81 ∧ (∀ z5 : US, z5 = uA u3 0 (73 + p1).toNatClampNeg p2 → Q x4 z5)))) ∧ (r2 = 0 → Q (-1) σ))))
set_option maxRecDepth 100000 in
set_option maxHeartbeats 4000000 in
theorem c_X12_setReward (l : Launch) (D : va_G) (kc : Nat → ClassId) (a : Nat → Nat)  (p1 : Int32) (p2 : Int32) (σ : US) (Q : Int32 → US → Prop) (h : wp_X12_setReward p1 p2 σ Q) : kCi l D (tyL kc) yX12_setReward wsX12_setReward ({ frames := 2, cells := 0, slots := 0, locals := 80 } : Room) [.ref (a 0), .int p1, .int p2] (wM kc a σ) (fun u : US => (wM kc a u)) 0 0 (fun r u => Q r u) := by
  intro sz
  refine k_begin (cc := cX12_setReward) (maxL := 4) (ret := (some .int)) (by decide +kernel) rfl rfl (fun p e s m args below meth c hsz E G ls hl => ?_)
  subst hsz
  have hl : lv_has ls 4 [(0, .ref (a 0)), (1, .int p1), (2, .int p2)] := hl
  refine lv_aload_n E.ex E.by dX12_setReward_0 rfl (lv_at hl 0 rfl) ?_
  refine lv_iload_n E.ex E.by dX12_setReward_1 rfl (lv_at hl 1 rfl) ?_
  refine k_cVi (X := []) (w := (wM kc a σ)) (Z := []) (wnew := (fun _ : Unit => (wM kc a σ))) (As := [.int p1]) (rest := []) E (List.append_nil _).symm G (c_X12_isState l D kc _ _ _ _ h) gX12_setReward_X12_isState rfl ⟨rfl, rfl⟩ hd_X12_isState_v ⟨rfl, rfl⟩ 0 (gM_0 _ _ _) rfl rfl hl rfl rfl dX12_setReward_2 ⟨rfl, rfl⟩ (fun _ => (List.append_nil _).symm) (fun r1 _u2 hq H locs G => ?_)
  have h := hq
  refine lv_if_eq (tgt := 18) E.ex E.by dX12_setReward_5 (by decide) (fun hc7 => ?_) (fun hc7 => ?_)
  · have h := h.1 hc7
    refine lv_iconst (v := (-1)) E.ex E.by dX12_setReward_18 (by decide) ?_
    exact k_ret (wof := (fun u : US => (wM kc a u))) (u := σ) E G rfl h (Nat.le_of_ble_eq_true rfl) (Nat.le_of_ble_eq_true rfl) dX12_setReward_19
  · have h := h.2 hc7
    refine lv_iload_n E.ex E.by dX12_setReward_8 rfl (lv_at hl 2 rfl) ?_
    refine lv_iconst (v := 0) E.ex E.by dX12_setReward_9 (by decide) ?_
    refine lv_bipush (v := 9) E.ex E.by dX12_setReward_10 (by decide) ?_
    refine k_cSi (X := (wM kc a σ)) (w := []) (Z := []) (wnew := (fun _ : Unit => (wM kc a σ))) (As := [.int p2, .int 0, .int 9]) (rest := []) E (List.append_nil _).symm G (c_X12_in l D kc _ _ _ _ h) gX12_setReward_X12_in rfl ⟨rfl, rfl⟩ hd_X12_in_v ⟨rfl, rfl⟩ rfl hl rfl rfl dX12_setReward_12 ⟨rfl, rfl⟩ (fun _ => (List.append_nil _).symm) (fun r2 _u12 hq H locs G => ?_)
    have h := hq
    refine lv_if_ne (tgt := 20) E.ex E.by dX12_setReward_15 (by decide) (fun hc6 => ?_) (fun hc6 => ?_)
    · have h := h.1 hc6
      refine lv_aload_n E.ex E.by dX12_setReward_20 rfl (lv_at hl 0 rfl) ?_
      refine k_cVv (X := []) (w := (wM kc a σ)) (Z := []) (wnew := (fun u : US => (wM kc a u))) (As := []) (rest := []) E (List.append_nil _).symm G (c_X12_change l D kc _ _ _ h) gX12_setReward_X12_change rfl ⟨rfl, rfl⟩ hd_X12_change_v ⟨rfl, rfl⟩ 0 (gM_0 _ _ _) rfl rfl hl rfl rfl dX12_setReward_21 ⟨rfl, rfl⟩ (fun _ => (List.append_nil _).symm) (fun u3 hq H locs G => ?_)
      have h := hq
      refine lv_aload_n E.ex E.by dX12_setReward_24 rfl (lv_at hl 0 rfl) ?_
      refine k_get E G wi_X12_setReward_X12 0 (gM_0 _ _ _) rfl 0 rfl fl_X12_setReward_X12_0 (v := .ref (a 1)) rfl dX12_setReward_25 ?_
      refine lv_bipush (v := 73) E.ex E.by dX12_setReward_28 (by decide) ?_
      refine lv_iload_n E.ex E.by dX12_setReward_30 rfl (lv_at hl 1 rfl) ?_
      refine lv_iadd E.ex E.by dX12_setReward_31 ?_
      refine k_iald E G 1 (gM_1 _ _ _) 0 rfl h.1 dX12_setReward_32 ?_
      have h := h.2
      refine lv_topi (fun x4 ex4 => ?_)
      have h := h x4 ex4
      refine lv_istore_n (lv' := [(3, .int x4), (0, .ref (a 0)), (1, .int p1), (2, .int p2)]) E.ex E.by dX12_setReward_33 rfl hl (by decide) rfl (fun ls hl => ?_)
      refine lv_aload_n E.ex E.by dX12_setReward_34 rfl (lv_at hl 1 rfl) ?_
      refine k_get E G wi_X12_setReward_X12 0 (gM_0 _ _ _) rfl 0 rfl fl_X12_setReward_X12_0 (v := .ref (a 1)) rfl dX12_setReward_35 ?_
      refine lv_bipush (v := 73) E.ex E.by dX12_setReward_38 (by decide) ?_
      refine lv_iload_n E.ex E.by dX12_setReward_40 rfl (lv_at hl 2 rfl) ?_
      refine lv_iadd E.ex E.by dX12_setReward_41 ?_
      refine lv_iload_n E.ex E.by dX12_setReward_42 rfl (lv_at hl 3 rfl) ?_
      refine k_iast (fun z => (wM kc a z)) E G 1 (gM_1 _ _ _) 0 rfl h.1 (uA u3 0 (73 + p1).toNatClampNeg p2) (sM_1 _ _ _ _) dX12_setReward_43 (fun z5 ez5 H locs G => ?_)
      have h := h.2 z5 ez5
      refine lv_iload_n E.ex E.by dX12_setReward_44 rfl (lv_at hl 0 rfl) ?_
      exact k_ret (wof := (fun u : US => (wM kc a u))) (u := z5) E G rfl h (Nat.le_of_ble_eq_true rfl) (Nat.le_of_ble_eq_true rfl) dX12_setReward_45
    · have h := h.2 hc6
      refine lv_iconst (v := (-1)) E.ex E.by dX12_setReward_18 (by decide) ?_
      exact k_ret (wof := (fun u : US => (wM kc a u))) (u := σ) E G rfl h (Nat.le_of_ble_eq_true rfl) (Nat.le_of_ble_eq_true rfl) dX12_setReward_19
theorem wi_X12_reward_X12 : ∀ w ∈ wsX120, w ∈ wsX12_reward := fun w h => List.mem_cons_of_mem _ (List.mem_append_right _ (h))
theorem fl_X12_reward_X12_0 : Cond.fieldLink RX12 9 (TX12 0).1 (TX12 0).2.1 (TX12 0).2.2.1 ∈ wsX12_reward := List.mem_of_getElem? (i := 1) (by decide +kernel)
def wp_X12_reward (p1 : Int32) (σ : US) (Q : Int32 → Prop) : Prop := wp_X12_isState p1 σ (fun (r1 : Int32) => (r1 = 0 → Q (-1)) ∧ (¬ r1 = 0 → vp_in (73 + p1) 81 ∧ (Q (aA σ 0 (73 + p1).toNatClampNeg))))
set_option maxRecDepth 100000 in
set_option maxHeartbeats 4000000 in
theorem c_X12_reward (l : Launch) (D : va_G) (kc : Nat → ClassId) (a : Nat → Nat)  (p1 : Int32) (σ : US) (Q : Int32 → Prop) (h : wp_X12_reward p1 σ Q) : kCi l D (tyL kc) yX12_reward wsX12_reward ({ frames := 2, cells := 0, slots := 0, locals := 43 } : Room) [.ref (a 0), .int p1] (wM kc a σ) (fun _ : Unit => (wM kc a σ)) 0 0 (fun r _ => Q r) := by
  intro sz
  refine k_begin (cc := cX12_reward) (maxL := 2) (ret := (some .int)) (by decide +kernel) rfl rfl (fun p e s m args below meth c hsz E G ls hl => ?_)
  subst hsz
  have hl : lv_has ls 2 [(0, .ref (a 0)), (1, .int p1)] := hl
  refine lv_aload_n E.ex E.by dX12_reward_0 rfl (lv_at hl 0 rfl) ?_
  refine lv_iload_n E.ex E.by dX12_reward_1 rfl (lv_at hl 1 rfl) ?_
  refine k_cVi (X := []) (w := (wM kc a σ)) (Z := []) (wnew := (fun _ : Unit => (wM kc a σ))) (As := [.int p1]) (rest := []) E (List.append_nil _).symm G (c_X12_isState l D kc _ _ _ _ h) gX12_reward_X12_isState rfl ⟨rfl, rfl⟩ hd_X12_isState_v ⟨rfl, rfl⟩ 0 (gM_0 _ _ _) rfl rfl hl rfl rfl dX12_reward_2 ⟨rfl, rfl⟩ (fun _ => (List.append_nil _).symm) (fun r1 _u2 hq H locs G => ?_)
  have h := hq
  refine lv_if_eq (tgt := 20) E.ex E.by dX12_reward_5 (by decide) (fun hc2 => ?_) (fun hc2 => ?_)
  · have h := h.1 hc2
    refine lv_iconst (v := (-1)) E.ex E.by dX12_reward_20 (by decide) ?_
    exact k_ret (wof := (fun _ : Unit => (wM kc a σ))) (u := ()) E G rfl h (Nat.le_of_ble_eq_true rfl) (Nat.le_of_ble_eq_true rfl) dX12_reward_21
  · have h := h.2 hc2
    refine lv_aload_n E.ex E.by dX12_reward_8 rfl (lv_at hl 0 rfl) ?_
    refine k_get E G wi_X12_reward_X12 0 (gM_0 _ _ _) rfl 0 rfl fl_X12_reward_X12_0 (v := .ref (a 1)) rfl dX12_reward_9 ?_
    refine lv_bipush (v := 73) E.ex E.by dX12_reward_12 (by decide) ?_
    refine lv_iload_n E.ex E.by dX12_reward_14 rfl (lv_at hl 1 rfl) ?_
    refine lv_iadd E.ex E.by dX12_reward_15 ?_
    refine k_iald E G 1 (gM_1 _ _ _) 0 rfl h.1 dX12_reward_16 ?_
    have h := h.2
    refine lv_goto (tgt := 21) E.ex E.by dX12_reward_17 (by decide) ?_
    exact k_ret (wof := (fun _ : Unit => (wM kc a σ))) (u := ()) E G rfl h (Nat.le_of_ble_eq_true rfl) (Nat.le_of_ble_eq_true rfl) dX12_reward_21
theorem wi_X12_save_X12 : ∀ w ∈ wsX120, w ∈ wsX12_save := fun w h => List.mem_cons_of_mem _ (List.mem_append_right _ (h))
theorem fl_X12_save_X12_0 : Cond.fieldLink RX12 9 (TX12 0).1 (TX12 0).2.1 (TX12 0).2.2.1 ∈ wsX12_save := List.mem_of_getElem? (i := 1) (by decide +kernel)
theorem fl_X12_save_X12_1 : Cond.fieldLink RX12 13 (TX12 1).1 (TX12 1).2.1 (TX12 1).2.2.1 ∈ wsX12_save := List.mem_of_getElem? (i := 2) (by decide +kernel)
theorem fl_X12_save_X12_2 : Cond.fieldLink RX12 111 (TX12 2).1 (TX12 2).2.1 (TX12 2).2.2.1 ∈ wsX12_save := List.mem_of_getElem? (i := 7) (by decide +kernel)
theorem la_X12_save_94 : Cond.methodLink RX12 94 arraycopyName ∈ wsX12_save := List.mem_of_getElem? (i := 3) (by decide +kernel)
theorem lan_X12_save : Cond.native arraycopyName ∈ wsX12_save := List.mem_of_getElem? (i := 4) (by decide +kernel)
theorem las_X12_save : Cond.static arraycopyName ∈ wsX12_save := List.mem_of_getElem? (i := 5) (by decide +kernel)
theorem lai_X12_save : Cond.initialized "java/lang/System" ∈ wsX12_save := List.mem_of_getElem? (i := 6) (by decide +kernel)
def wp_X12_save (σ : US) (Q : Int32 → US → Prop) : Prop := (¬ (0 : Int32) < 0) ∧ (¬ (0 : Int32) < 0) ∧ (¬ (81 : Int32) < 0) ∧ (0 : Int32).toNatClampNeg + (81 : Int32).toNatClampNeg ≤ 81 ∧ (0 : Int32).toNatClampNeg + (81 : Int32).toNatClampNeg ≤ 81 ∧ (∀ z1 : US, z1 = sA σ 1 (va_cpy (aA σ 0) (aA σ 1) (0 : Int32).toNatClampNeg (0 : Int32).toNatClampNeg (81 : Int32).toNatClampNeg) → (∀ z2 : US, z2 = uI z1 0 1 → vp_in 0 81 ∧ (Q (aA z2 0 (0 : Int32).toNatClampNeg) z2)))
set_option maxRecDepth 100000 in
set_option maxHeartbeats 4000000 in
theorem c_X12_save (l : Launch) (D : va_G) (kc : Nat → ClassId) (a : Nat → Nat)  (σ : US) (Q : Int32 → US → Prop) (h : wp_X12_save σ Q) : kCi l D (tyL kc) yX12_save wsX12_save ({ frames := 1, cells := 0, slots := 0, locals := 60 } : Room) [.ref (a 0)] (wM kc a σ) (fun u : US => (wM kc a u)) 0 0 (fun r u => Q r u) := by
  intro sz
  refine k_begin (cc := cX12_save) (maxL := 1) (ret := (some .int)) (by decide +kernel) rfl rfl (fun p e s m args below meth c hsz E G ls hl => ?_)
  subst hsz
  have hl : lv_has ls 1 [(0, .ref (a 0))] := hl
  refine lv_aload_n E.ex E.by dX12_save_0 rfl (lv_at hl 0 rfl) ?_
  refine k_get E G wi_X12_save_X12 0 (gM_0 _ _ _) rfl 0 rfl fl_X12_save_X12_0 (v := .ref (a 1)) rfl dX12_save_1 ?_
  refine lv_iconst (v := 0) E.ex E.by dX12_save_4 (by decide) ?_
  refine lv_aload_n E.ex E.by dX12_save_5 rfl (lv_at hl 0 rfl) ?_
  refine k_get E G wi_X12_save_X12 0 (gM_0 _ _ _) rfl 1 rfl fl_X12_save_X12_1 (v := .ref (a 2)) rfl dX12_save_6 ?_
  refine lv_iconst (v := 0) E.ex E.by dX12_save_9 (by decide) ?_
  refine lv_bipush (v := 81) E.ex E.by dX12_save_10 (by decide) ?_
  refine k_copyi (fun z => (wM kc a z)) E G la_X12_save_94 lan_X12_save las_X12_save lai_X12_save 1 2 (gM_1 _ _ _) (gM_2 _ _ _) 0 ⟨rfl, rfl⟩ hl h.1 h.2.1 h.2.2.1 h.2.2.2.1 h.2.2.2.2.1 rfl ⟨rfl, rfl⟩ dX12_save_12 (sA σ 1 (va_cpy (aA σ 0) (aA σ 1) (0 : Int32).toNatClampNeg (0 : Int32).toNatClampNeg (81 : Int32).toNatClampNeg)) (sM_2 _ _ _ _) (fun z1 ez1 H locs G => ?_)
  have h := h.2.2.2.2.2 z1 ez1
  refine lv_aload_n E.ex E.by dX12_save_15 rfl (lv_at hl 0 rfl) ?_
  refine lv_iconst (v := 1) E.ex E.by dX12_save_16 (by decide) ?_
  refine k_put (fun z => (wM kc a z)) E G wi_X12_save_X12 tyX12_ok nmX12 0 (gM_0 _ _ _) rfl 2 rfl fl_X12_save_X12_2 rfl rfl rfl rfl (uI z1 0 1) (pM_0_2 _ _ _ _) dX12_save_17 (fun z2 ez2 H locs G => ?_)
  have h := h z2 ez2
  refine lv_aload_n E.ex E.by dX12_save_20 rfl (lv_at hl 0 rfl) ?_
  refine k_get E G wi_X12_save_X12 0 (gM_0 _ _ _) rfl 0 rfl fl_X12_save_X12_0 (v := .ref (a 1)) rfl dX12_save_21 ?_
  refine lv_iconst (v := 0) E.ex E.by dX12_save_24 (by decide) ?_
  refine k_iald E G 1 (gM_1 _ _ _) 0 rfl h.1 dX12_save_25 ?_
  have h := h.2
  exact k_ret (wof := (fun u : US => (wM kc a u))) (u := z2) E G rfl h (Nat.le_of_ble_eq_true rfl) (Nat.le_of_ble_eq_true rfl) dX12_save_26
theorem wi_X12_restore_X12 : ∀ w ∈ wsX120, w ∈ wsX12_restore := fun w h => List.mem_cons_of_mem _ (List.mem_append_right _ (h))
theorem fl_X12_restore_X12_2 : Cond.fieldLink RX12 111 (TX12 2).1 (TX12 2).2.1 (TX12 2).2.2.1 ∈ wsX12_restore := List.mem_of_getElem? (i := 1) (by decide +kernel)
theorem fl_X12_restore_X12_1 : Cond.fieldLink RX12 13 (TX12 1).1 (TX12 1).2.1 (TX12 1).2.2.1 ∈ wsX12_restore := List.mem_of_getElem? (i := 2) (by decide +kernel)
theorem fl_X12_restore_X12_0 : Cond.fieldLink RX12 9 (TX12 0).1 (TX12 0).2.1 (TX12 0).2.2.1 ∈ wsX12_restore := List.mem_of_getElem? (i := 3) (by decide +kernel)
theorem la_X12_restore_94 : Cond.methodLink RX12 94 arraycopyName ∈ wsX12_restore := List.mem_of_getElem? (i := 4) (by decide +kernel)
theorem lan_X12_restore : Cond.native arraycopyName ∈ wsX12_restore := List.mem_of_getElem? (i := 5) (by decide +kernel)
theorem las_X12_restore : Cond.static arraycopyName ∈ wsX12_restore := List.mem_of_getElem? (i := 6) (by decide +kernel)
theorem lai_X12_restore : Cond.initialized "java/lang/System" ∈ wsX12_restore := List.mem_of_getElem? (i := 7) (by decide +kernel)
def wp_X12_restore (σ : US) (Q : Int32 → US → Prop) : Prop := (¬ (iI σ 0) = 0 → wp_X12_change σ (fun (u1 : US) => (¬ (0 : Int32) < 0) ∧ (¬ (0 : Int32) < 0) ∧ (¬ (81 : Int32) < 0) ∧ (0 : Int32).toNatClampNeg + (81 : Int32).toNatClampNeg ≤ 81 ∧ (0 : Int32).toNatClampNeg + (81 : Int32).toNatClampNeg ≤ 81 ∧ (∀ z2 : US, z2 = sA u1 0 (va_cpy (aA u1 1) (aA u1 0) (0 : Int32).toNatClampNeg (0 : Int32).toNatClampNeg (81 : Int32).toNatClampNeg) → vp_in 0 81 ∧ (Q (aA z2 0 (0 : Int32).toNatClampNeg) z2)))) ∧ ((iI σ 0) = 0 → Q (-2) σ)
set_option maxRecDepth 100000 in
set_option maxHeartbeats 4000000 in
theorem c_X12_restore (l : Launch) (D : va_G) (kc : Nat → ClassId) (a : Nat → Nat)  (σ : US) (Q : Int32 → US → Prop) (h : wp_X12_restore σ Q) : kCi l D (tyL kc) yX12_restore wsX12_restore ({ frames := 2, cells := 0, slots := 0, locals := 80 } : Room) [.ref (a 0)] (wM kc a σ) (fun u : US => (wM kc a u)) 0 0 (fun r u => Q r u) := by
  intro sz
  refine k_begin (cc := cX12_restore) (maxL := 1) (ret := (some .int)) (by decide +kernel) rfl rfl (fun p e s m args below meth c hsz E G ls hl => ?_)
  subst hsz
  have hl : lv_has ls 1 [(0, .ref (a 0))] := hl
  refine lv_aload_n E.ex E.by dX12_restore_0 rfl (lv_at hl 0 rfl) ?_
  refine k_get E G wi_X12_restore_X12 0 (gM_0 _ _ _) rfl 2 rfl fl_X12_restore_X12_2 (v := .int (iI σ 0)) rfl dX12_restore_1 ?_
  refine lv_if_ne (tgt := 10) E.ex E.by dX12_restore_4 (by decide) (fun hc3 => ?_) (fun hc3 => ?_)
  · have h := h.1 hc3
    refine lv_aload_n E.ex E.by dX12_restore_10 rfl (lv_at hl 0 rfl) ?_
    refine k_cVv (X := []) (w := (wM kc a σ)) (Z := []) (wnew := (fun u : US => (wM kc a u))) (As := []) (rest := []) E (List.append_nil _).symm G (c_X12_change l D kc _ _ _ h) gX12_restore_X12_change rfl ⟨rfl, rfl⟩ hd_X12_change_v ⟨rfl, rfl⟩ 0 (gM_0 _ _ _) rfl rfl hl rfl rfl dX12_restore_11 ⟨rfl, rfl⟩ (fun _ => (List.append_nil _).symm) (fun u1 hq H locs G => ?_)
    have h := hq
    refine lv_aload_n E.ex E.by dX12_restore_14 rfl (lv_at hl 0 rfl) ?_
    refine k_get E G wi_X12_restore_X12 0 (gM_0 _ _ _) rfl 1 rfl fl_X12_restore_X12_1 (v := .ref (a 2)) rfl dX12_restore_15 ?_
    refine lv_iconst (v := 0) E.ex E.by dX12_restore_18 (by decide) ?_
    refine lv_aload_n E.ex E.by dX12_restore_19 rfl (lv_at hl 0 rfl) ?_
    refine k_get E G wi_X12_restore_X12 0 (gM_0 _ _ _) rfl 0 rfl fl_X12_restore_X12_0 (v := .ref (a 1)) rfl dX12_restore_20 ?_
    refine lv_iconst (v := 0) E.ex E.by dX12_restore_23 (by decide) ?_
    refine lv_bipush (v := 81) E.ex E.by dX12_restore_24 (by decide) ?_
    refine k_copyi (fun z => (wM kc a z)) E G la_X12_restore_94 lan_X12_restore las_X12_restore lai_X12_restore 2 1 (gM_2 _ _ _) (gM_1 _ _ _) 0 ⟨rfl, rfl⟩ hl h.1 h.2.1 h.2.2.1 h.2.2.2.1 h.2.2.2.2.1 rfl ⟨rfl, rfl⟩ dX12_restore_26 (sA u1 0 (va_cpy (aA u1 1) (aA u1 0) (0 : Int32).toNatClampNeg (0 : Int32).toNatClampNeg (81 : Int32).toNatClampNeg)) (sM_1 _ _ _ _) (fun z2 ez2 H locs G => ?_)
    have h := h.2.2.2.2.2 z2 ez2
    refine lv_aload_n E.ex E.by dX12_restore_29 rfl (lv_at hl 0 rfl) ?_
    refine k_get E G wi_X12_restore_X12 0 (gM_0 _ _ _) rfl 0 rfl fl_X12_restore_X12_0 (v := .ref (a 1)) rfl dX12_restore_30 ?_
    refine lv_iconst (v := 0) E.ex E.by dX12_restore_33 (by decide) ?_
    refine k_iald E G 1 (gM_1 _ _ _) 0 rfl h.1 dX12_restore_34 ?_
    have h := h.2
    exact k_ret (wof := (fun u : US => (wM kc a u))) (u := z2) E G rfl h (Nat.le_of_ble_eq_true rfl) (Nat.le_of_ble_eq_true rfl) dX12_restore_35
  · have h := h.2 hc3
    refine lv_bipush (v := (-2)) E.ex E.by dX12_restore_7 (by decide) ?_
    exact k_ret (wof := (fun u : US => (wM kc a u))) (u := σ) E G rfl h (Nat.le_of_ble_eq_true rfl) (Nat.le_of_ble_eq_true rfl) dX12_restore_9
theorem wi_X12_undo_X12 : ∀ w ∈ wsX120, w ∈ wsX12_undo := fun w h => List.mem_cons_of_mem _ (List.mem_append_right _ (h))
theorem fl_X12_undo_X12_4 : Cond.fieldLink RX12 90 (TX12 4).1 (TX12 4).2.1 (TX12 4).2.2.1 ∈ wsX12_undo := List.mem_of_getElem? (i := 1) (by decide +kernel)
theorem fl_X12_undo_X12_3 : Cond.fieldLink RX12 16 (TX12 3).1 (TX12 3).2.1 (TX12 3).2.2.1 ∈ wsX12_undo := List.mem_of_getElem? (i := 2) (by decide +kernel)
theorem fl_X12_undo_X12_0 : Cond.fieldLink RX12 9 (TX12 0).1 (TX12 0).2.1 (TX12 0).2.2.1 ∈ wsX12_undo := List.mem_of_getElem? (i := 3) (by decide +kernel)
theorem la_X12_undo_94 : Cond.methodLink RX12 94 arraycopyName ∈ wsX12_undo := List.mem_of_getElem? (i := 4) (by decide +kernel)
theorem lan_X12_undo : Cond.native arraycopyName ∈ wsX12_undo := List.mem_of_getElem? (i := 5) (by decide +kernel)
theorem las_X12_undo : Cond.static arraycopyName ∈ wsX12_undo := List.mem_of_getElem? (i := 6) (by decide +kernel)
theorem lai_X12_undo : Cond.initialized "java/lang/System" ∈ wsX12_undo := List.mem_of_getElem? (i := 7) (by decide +kernel)
def wp_X12_undo (σ : US) (Q : Int32 → US → Prop) : Prop := (¬ (iI σ 1) = 0 → (∀ z1 : US, z1 = uI σ 1 ((iI σ 1) - 1) → (¬ (81 * (iI z1 1)) < 0) ∧ (¬ (0 : Int32) < 0) ∧ (¬ (81 : Int32) < 0) ∧ (81 * (iI z1 1)).toNatClampNeg + (81 : Int32).toNatClampNeg ≤ 648 ∧ (0 : Int32).toNatClampNeg + (81 : Int32).toNatClampNeg ≤ 81 ∧ (∀ z2 : US, z2 = sA z1 0 (va_cpy (aA z1 2) (aA z1 0) (81 * (iI z1 1)).toNatClampNeg (0 : Int32).toNatClampNeg (81 : Int32).toNatClampNeg) → Q (iI z2 1) z2))) ∧ ((iI σ 1) = 0 → Q (-2) σ)
set_option maxRecDepth 100000 in
set_option maxHeartbeats 4000000 in
theorem c_X12_undo (l : Launch) (D : va_G) (kc : Nat → ClassId) (a : Nat → Nat)  (σ : US) (Q : Int32 → US → Prop) (h : wp_X12_undo σ Q) : kCi l D (tyL kc) yX12_undo wsX12_undo ({ frames := 1, cells := 0, slots := 0, locals := 60 } : Room) [.ref (a 0)] (wM kc a σ) (fun u : US => (wM kc a u)) 0 0 (fun r u => Q r u) := by
  intro sz
  refine k_begin (cc := cX12_undo) (maxL := 1) (ret := (some .int)) (by decide +kernel) rfl rfl (fun p e s m args below meth c hsz E G ls hl => ?_)
  subst hsz
  have hl : lv_has ls 1 [(0, .ref (a 0))] := hl
  refine lv_aload_n E.ex E.by dX12_undo_0 rfl (lv_at hl 0 rfl) ?_
  refine k_get E G wi_X12_undo_X12 0 (gM_0 _ _ _) rfl 4 rfl fl_X12_undo_X12_4 (v := .int (iI σ 1)) rfl dX12_undo_1 ?_
  refine lv_if_ne (tgt := 10) E.ex E.by dX12_undo_4 (by decide) (fun hc3 => ?_) (fun hc3 => ?_)
  · have h := h.1 hc3
    refine lv_aload_n E.ex E.by dX12_undo_10 rfl (lv_at hl 0 rfl) ?_
    refine lv_dup E.ex E.by dX12_undo_11 rfl ?_
    refine k_get E G wi_X12_undo_X12 0 (gM_0 _ _ _) rfl 4 rfl fl_X12_undo_X12_4 (v := .int (iI σ 1)) rfl dX12_undo_12 ?_
    refine lv_iconst (v := 1) E.ex E.by dX12_undo_15 (by decide) ?_
    refine lv_isub E.ex E.by dX12_undo_16 ?_
    refine k_put (fun z => (wM kc a z)) E G wi_X12_undo_X12 tyX12_ok nmX12 0 (gM_0 _ _ _) rfl 4 rfl fl_X12_undo_X12_4 rfl rfl rfl rfl (uI σ 1 ((iI σ 1) - 1)) (pM_0_4 _ _ _ _) dX12_undo_17 (fun z1 ez1 H locs G => ?_)
    have h := h z1 ez1
    refine lv_aload_n E.ex E.by dX12_undo_20 rfl (lv_at hl 0 rfl) ?_
    refine k_get E G wi_X12_undo_X12 0 (gM_0 _ _ _) rfl 3 rfl fl_X12_undo_X12_3 (v := .ref (a 3)) rfl dX12_undo_21 ?_
    refine lv_bipush (v := 81) E.ex E.by dX12_undo_24 (by decide) ?_
    refine lv_aload_n E.ex E.by dX12_undo_26 rfl (lv_at hl 0 rfl) ?_
    refine k_get E G wi_X12_undo_X12 0 (gM_0 _ _ _) rfl 4 rfl fl_X12_undo_X12_4 (v := .int (iI z1 1)) rfl dX12_undo_27 ?_
    refine lv_imul E.ex E.by dX12_undo_30 ?_
    refine lv_aload_n E.ex E.by dX12_undo_31 rfl (lv_at hl 0 rfl) ?_
    refine k_get E G wi_X12_undo_X12 0 (gM_0 _ _ _) rfl 0 rfl fl_X12_undo_X12_0 (v := .ref (a 1)) rfl dX12_undo_32 ?_
    refine lv_iconst (v := 0) E.ex E.by dX12_undo_35 (by decide) ?_
    refine lv_bipush (v := 81) E.ex E.by dX12_undo_36 (by decide) ?_
    refine k_copyi (fun z => (wM kc a z)) E G la_X12_undo_94 lan_X12_undo las_X12_undo lai_X12_undo 3 1 (gM_3 _ _ _) (gM_1 _ _ _) 0 ⟨rfl, rfl⟩ hl h.1 h.2.1 h.2.2.1 h.2.2.2.1 h.2.2.2.2.1 rfl ⟨rfl, rfl⟩ dX12_undo_38 (sA z1 0 (va_cpy (aA z1 2) (aA z1 0) (81 * (iI z1 1)).toNatClampNeg (0 : Int32).toNatClampNeg (81 : Int32).toNatClampNeg)) (sM_1 _ _ _ _) (fun z2 ez2 H locs G => ?_)
    have h := h.2.2.2.2.2 z2 ez2
    refine lv_aload_n E.ex E.by dX12_undo_41 rfl (lv_at hl 0 rfl) ?_
    refine k_get E G wi_X12_undo_X12 0 (gM_0 _ _ _) rfl 4 rfl fl_X12_undo_X12_4 (v := .int (iI z2 1)) rfl dX12_undo_42 ?_
    exact k_ret (wof := (fun u : US => (wM kc a u))) (u := z2) E G rfl h (Nat.le_of_ble_eq_true rfl) (Nat.le_of_ble_eq_true rfl) dX12_undo_45
  · have h := h.2 hc3
    refine lv_bipush (v := (-2)) E.ex E.by dX12_undo_7 (by decide) ?_
    exact k_ret (wof := (fun u : US => (wM kc a u))) (u := σ) E G rfl h (Nat.le_of_ble_eq_true rfl) (Nat.le_of_ble_eq_true rfl) dX12_undo_9
theorem lm_X12_sumOf_115 : Cond.methodLink RX12 115 Lib.Math.max.name ∈ wsX12_sumOf := List.mem_of_getElem? (i := 1) (by decide +kernel)
theorem lms_X12_sumOf : Cond.static Lib.Math.max.name ∈ wsX12_sumOf := List.mem_of_getElem? (i := 2) (by decide +kernel)
theorem lmi_X12_sumOf : Cond.initialized "java/lang/Math" ∈ wsX12_sumOf := List.mem_of_getElem? (i := 3) (by decide +kernel)
theorem lmc_X12_sumOf : Cond.code Lib.Math.max.name Lib.Math.max.code 2 (some .int) ∈ wsX12_sumOf := List.mem_of_getElem? (i := 4) (by decide +kernel)
def wp_X12_sumOf (p1 : Int32) (σ : US) (Q : Int32 → Prop) : Prop := wp_X12_toldSum p1 σ (fun (r1 : Int32) => Q (if (1 : Int32) < r1 then r1 else 1))
set_option maxRecDepth 100000 in
set_option maxHeartbeats 4000000 in
theorem c_X12_sumOf (l : Launch) (D : va_G) (kc : Nat → ClassId) (a : Nat → Nat)  (p1 : Int32) (σ : US) (Q : Int32 → Prop) (h : wp_X12_sumOf p1 σ Q) : kCi l D (tyL kc) yX12_sumOf wsX12_sumOf ({ frames := 1, cells := 0, slots := 0, locals := 30 } : Room) [.ref (a 0), .int p1] (wM kc a σ) (fun _ : Unit => (wM kc a σ)) 0 0 (fun r _ => Q r) := by
  intro sz
  refine k_begin (cc := cX12_sumOf) (maxL := 2) (ret := (some .int)) (by decide +kernel) rfl rfl (fun p e s m args below meth c hsz E G ls hl => ?_)
  subst hsz
  have hl : lv_has ls 2 [(0, .ref (a 0)), (1, .int p1)] := hl
  refine lv_iconst (v := 1) E.ex E.by dX12_sumOf_0 (by decide) ?_
  refine lv_aload_n E.ex E.by dX12_sumOf_1 rfl (lv_at hl 0 rfl) ?_
  refine lv_iload_n E.ex E.by dX12_sumOf_2 rfl (lv_at hl 1 rfl) ?_
  refine k_cVi (X := []) (w := (wM kc a σ)) (Z := []) (wnew := (fun _ : Unit => (wM kc a σ))) (As := [.int p1]) (rest := [.int 1]) E (List.append_nil _).symm G (c_X12_toldSum l D kc _ _ _ _ h) gX12_sumOf_X12_toldSum rfl ⟨rfl, rfl⟩ hd_X12_toldSum_v ⟨rfl, rfl⟩ 0 (gM_0 _ _ _) rfl rfl hl rfl rfl dX12_sumOf_3 ⟨rfl, rfl⟩ (fun _ => (List.append_nil _).symm) (fun r1 _u3 hq H locs G => ?_)
  have h := hq
  refine va_mmax E.ex E.by (E.nl.trans hl.1.symm) E.ow (E.ts _ lm_X12_sumOf_115) (E.ts _ lms_X12_sumOf) (E.ts _ lmi_X12_sumOf) (E.ts _ lmc_X12_sumOf) (Nat.le_of_ble_eq_true rfl) (Nat.le_of_ble_eq_true rfl) (Nat.le_of_ble_eq_true rfl) (Nat.le_of_ble_eq_true rfl) dX12_sumOf_6 ?_
  exact k_ret (wof := (fun _ : Unit => (wM kc a σ))) (u := ()) E G rfl h (Nat.le_of_ble_eq_true rfl) (Nat.le_of_ble_eq_true rfl) dX12_sumOf_9
theorem wi_X12_weightOf_X12 : ∀ w ∈ wsX120, w ∈ wsX12_weightOf := fun w h => List.mem_cons_of_mem _ (List.mem_append_right _ (h))
theorem fl_X12_weightOf_X12_0 : Cond.fieldLink RX12 9 (TX12 0).1 (TX12 0).2.1 (TX12 0).2.2.1 ∈ wsX12_weightOf := List.mem_of_getElem? (i := 1) (by decide +kernel)
def wp_X12_weightOf_J17 (v1j17 : Int32) (v2j17 : Int32) (σ : US) (Q : Int32 → Prop) : Prop := vp_in ((1 + (8 * v1j17)) + v2j17) 81 ∧ (Q (aA σ 0 ((1 + (8 * v1j17)) + v2j17).toNatClampNeg))
def wp_X12_weightOf (p1 : Int32) (p2 : Int32) (σ : US) (Q : Int32 → Prop) : Prop := (¬ p1 = p2 → wp_X12_weightOf_J17 p1 p2 σ Q) ∧ (p1 = p2 → wp_X12_toldSum p1 σ (fun (r1 : Int32) => (¬ r1 = 0 → wp_X12_weightOf_J17 p1 p2 σ Q) ∧ (r1 = 0 → Q 1)))
set_option maxRecDepth 100000 in
set_option maxHeartbeats 4000000 in
theorem c_X12_weightOf (l : Launch) (D : va_G) (kc : Nat → ClassId) (a : Nat → Nat)  (p1 : Int32) (p2 : Int32) (σ : US) (Q : Int32 → Prop) (h : wp_X12_weightOf p1 p2 σ Q) : kCi l D (tyL kc) yX12_weightOf wsX12_weightOf ({ frames := 1, cells := 0, slots := 0, locals := 23 } : Room) [.ref (a 0), .int p1, .int p2] (wM kc a σ) (fun _ : Unit => (wM kc a σ)) 0 0 (fun r _ => Q r) := by
  intro sz
  refine k_begin (cc := cX12_weightOf) (maxL := 3) (ret := (some .int)) (by decide +kernel) rfl rfl (fun p e s m args below meth c hsz E G ls hl => ?_)
  subst hsz
  have hl : lv_has ls 3 [(0, .ref (a 0)), (1, .int p1), (2, .int p2)] := hl
  have K17 : ∀  (H : Heap) (locs : List Loc) (ls : Array Slot), kG D (va_A (wM kc a σ) s.heap.size) s (wM kc a σ) H locs → lv_has ls 3 [(0, .ref (a 0)), (1, .int p1), (2, .int p2)] → wp_X12_weightOf_J17 p1 p2 σ Q → W p l e ({ frames := 1, cells := 0, slots := 0, locals := 23 } : Room) s m args below meth c H locs 0 0 (MQ below (va_Qi (fun r _ => Q r) (kB D (wM kc a σ) s.heap.size (fun _ : Unit => (wM kc a σ))) (va_A (wM kc a σ) s.heap.size)) args s 0 0 (va_A (wM kc a σ) s.heap.size)) (F0 m 17 ls []) := by
    intro  H locs ls G hl h
    refine lv_aload_n E.ex E.by dX12_weightOf_17 rfl (lv_at hl 0 rfl) ?_
    refine k_get E G wi_X12_weightOf_X12 0 (gM_0 _ _ _) rfl 0 rfl fl_X12_weightOf_X12_0 (v := .ref (a 1)) rfl dX12_weightOf_18 ?_
    refine lv_iconst (v := 1) E.ex E.by dX12_weightOf_21 (by decide) ?_
    refine lv_bipush (v := 8) E.ex E.by dX12_weightOf_22 (by decide) ?_
    refine lv_iload_n E.ex E.by dX12_weightOf_24 rfl (lv_at hl 1 rfl) ?_
    refine lv_imul E.ex E.by dX12_weightOf_25 ?_
    refine lv_iadd E.ex E.by dX12_weightOf_26 ?_
    refine lv_iload_n E.ex E.by dX12_weightOf_27 rfl (lv_at hl 2 rfl) ?_
    refine lv_iadd E.ex E.by dX12_weightOf_28 ?_
    refine k_iald E G 1 (gM_1 _ _ _) 0 rfl h.1 dX12_weightOf_29 ?_
    have h := h.2
    exact k_ret (wof := (fun _ : Unit => (wM kc a σ))) (u := ()) E G rfl h (Nat.le_of_ble_eq_true rfl) (Nat.le_of_ble_eq_true rfl) dX12_weightOf_30
  refine lv_iload_n E.ex E.by dX12_weightOf_0 rfl (lv_at hl 1 rfl) ?_
  refine lv_iload_n E.ex E.by dX12_weightOf_1 rfl (lv_at hl 2 rfl) ?_
  refine lv_icmp_ne (tgt := 17) E.ex E.by dX12_weightOf_2 (by decide) (fun hc3 => ?_) (fun hc3 => ?_)
  · have h := h.1 hc3
    exact K17  _ _ _ G (lv_sub hl [0, 1, 2] rfl) h
  · have h := h.2 hc3
    refine lv_aload_n E.ex E.by dX12_weightOf_5 rfl (lv_at hl 0 rfl) ?_
    refine lv_iload_n E.ex E.by dX12_weightOf_6 rfl (lv_at hl 1 rfl) ?_
    refine k_cVi (X := []) (w := (wM kc a σ)) (Z := []) (wnew := (fun _ : Unit => (wM kc a σ))) (As := [.int p1]) (rest := []) E (List.append_nil _).symm G (c_X12_toldSum l D kc _ _ _ _ h) gX12_weightOf_X12_toldSum rfl ⟨rfl, rfl⟩ hd_X12_toldSum_v ⟨rfl, rfl⟩ 0 (gM_0 _ _ _) rfl rfl hl rfl rfl dX12_weightOf_7 ⟨rfl, rfl⟩ (fun _ => (List.append_nil _).symm) (fun r1 _u7 hq H locs G => ?_)
    have h := hq
    refine lv_if_ne (tgt := 17) E.ex E.by dX12_weightOf_10 (by decide) (fun hc2 => ?_) (fun hc2 => ?_)
    · have h := h.1 hc2
      exact K17  _ _ _ G (lv_sub hl [0, 1, 2] rfl) h
    · have h := h.2 hc2
      refine lv_iconst (v := 1) E.ex E.by dX12_weightOf_13 (by decide) ?_
      refine lv_goto (tgt := 30) E.ex E.by dX12_weightOf_14 (by decide) ?_
      exact k_ret (wof := (fun _ : Unit => (wM kc a σ))) (u := ()) E G rfl h (Nat.le_of_ble_eq_true rfl) (Nat.le_of_ble_eq_true rfl) dX12_weightOf_30
theorem wi_X12_weightInto_X12 : ∀ w ∈ wsX120, w ∈ wsX12_weightInto := fun w h => List.mem_cons_of_mem _ (List.mem_append_right _ (h))
theorem fl_X12_weightInto_X12_0 : Cond.fieldLink RX12 9 (TX12 0).1 (TX12 0).2.1 (TX12 0).2.2.1 ∈ wsX12_weightInto := List.mem_of_getElem? (i := 1) (by decide +kernel)
theorem hd_X12_weightOf_v : yX12_weightOf.cls = RX12 ∧ yX12_weightOf.cls ≠ "java/lang/invoke/MethodHandle" ∧ yX12_weightOf.cls ≠ "java/lang/invoke/VarHandle" ∧ (parseMethodDescriptor yX12_weightOf.desc).map (fun d => d.parameters.length) = some 2 := by decide +kernel
theorem hd_X12_has_v : yX12_has.cls = RX12 ∧ yX12_has.cls ≠ "java/lang/invoke/MethodHandle" ∧ yX12_has.cls ≠ "java/lang/invoke/VarHandle" ∧ (parseMethodDescriptor yX12_has.desc).map (fun d => d.parameters.length) = some 2 := by decide +kernel
def wp_X12_weightInto_L5 (v1 : Int32) (v2 : Int32) (σ : US) (Q : Int32 → Prop) (P5 : (Int32 × Int32) → Prop) (t5 : Int32 × Int32) : Prop := vp_in 0 81 ∧ (((aA σ 0 (0 : Int32).toNatClampNeg) ≤ t5.2 → Q t5.1) ∧ (¬ (aA σ 0 (0 : Int32).toNatClampNeg) ≤ t5.2 → wp_X12_has v2 t5.2 (fun (r1 : Int32) => (r1 = 0 → ∀ x2 : Int32, x2 = t5.1 + 0 → P5 (x2, t5.2 + 1)) ∧ (¬ r1 = 0 → wp_X12_weightOf v1 t5.2 σ (fun (r3 : Int32) => ∀ x4 : Int32, x4 = t5.1 + r3 → P5 (x4, t5.2 + 1))))))
def wp_X12_weightInto (p1 : Int32) (p2 : Int32) (σ : US) (Q : Int32 → Prop) : Prop := lpW (wp_X12_weightInto_L5 p1 p2 σ Q) (0, 0)
set_option maxRecDepth 100000 in
set_option maxHeartbeats 4000000 in
theorem c_X12_weightInto (l : Launch) (D : va_G) (kc : Nat → ClassId) (a : Nat → Nat)  (p1 : Int32) (p2 : Int32) (σ : US) (Q : Int32 → Prop) (h : wp_X12_weightInto p1 p2 σ Q) : kCi l D (tyL kc) yX12_weightInto wsX12_weightInto ({ frames := 2, cells := 0, slots := 0, locals := 45 } : Room) [.ref (a 0), .int p1, .int p2] (wM kc a σ) (fun _ : Unit => (wM kc a σ)) 0 0 (fun r _ => Q r) := by
  intro sz
  refine k_begin (cc := cX12_weightInto) (maxL := 5) (ret := (some .int)) (by decide +kernel) rfl rfl (fun p e s m args below meth c hsz E G ls hl => ?_)
  subst hsz
  have hl : lv_has ls 5 [(0, .ref (a 0)), (1, .int p1), (2, .int p2)] := hl
  refine lv_iconst (v := 0) E.ex E.by dX12_weightInto_0 (by decide) ?_
  refine lv_istore_n (lv' := [(3, .int 0), (0, .ref (a 0)), (1, .int p1), (2, .int p2)]) E.ex E.by dX12_weightInto_1 rfl hl (by decide) rfl (fun ls hl => ?_)
  refine lv_iconst (v := 0) E.ex E.by dX12_weightInto_2 (by decide) ?_
  refine lv_istore (lv' := [(4, .int 0), (3, .int 0), (0, .ref (a 0)), (1, .int p1), (2, .int p2)]) E.ex E.by dX12_weightInto_3 hl (by decide) rfl (fun ls hl => ?_)
  refine lpW_ind (fun t1 : Int32 × Int32 => ∀ (H : Heap) (locs : List Loc) (ls : Array Slot), kG D (va_A (wM kc a σ) s.heap.size) s (wM kc a σ) H locs → lv_has ls 5 [(0, .ref (a 0)), (1, .int p1), (2, .int p2), (3, .int t1.1), (4, .int t1.2)] → W p l e _ s m args below meth c H locs _ _ _ (F0 m 5 ls [])) (fun P5 IH5 t1 h H locs ls G hl => ?_) _ h _ _ _ G (lv_sub hl [2, 3, 4, 1, 0] rfl)
  refine lv_iload E.ex E.by dX12_weightInto_5 (lv_at hl 4 rfl) ?_
  refine lv_aload_n E.ex E.by dX12_weightInto_7 rfl (lv_at hl 0 rfl) ?_
  refine k_get E G wi_X12_weightInto_X12 0 (gM_0 _ _ _) rfl 0 rfl fl_X12_weightInto_X12_0 (v := .ref (a 1)) rfl dX12_weightInto_8 ?_
  refine lv_iconst (v := 0) E.ex E.by dX12_weightInto_11 (by decide) ?_
  refine k_iald E G 1 (gM_1 _ _ _) 0 rfl h.1 dX12_weightInto_12 ?_
  have h := h.2
  refine lv_icmp_ge (tgt := 45) E.ex E.by dX12_weightInto_13 (by decide) (fun hc7 => ?_) (fun hc7 => ?_)
  · have h := h.1 hc7
    refine lv_iload_n E.ex E.by dX12_weightInto_45 rfl (lv_at hl 3 rfl) ?_
    exact k_ret (wof := (fun _ : Unit => (wM kc a σ))) (u := ()) E G rfl h (Nat.le_of_ble_eq_true rfl) (Nat.le_of_ble_eq_true rfl) dX12_weightInto_46
  · have h := h.2 hc7
    refine lv_iload_n E.ex E.by dX12_weightInto_16 rfl (lv_at hl 3 rfl) ?_
    refine lv_iload_n E.ex E.by dX12_weightInto_17 rfl (lv_at hl 2 rfl) ?_
    refine lv_iload E.ex E.by dX12_weightInto_18 (lv_at hl 4 rfl) ?_
    refine k_cSi (X := (wM kc a σ)) (w := []) (Z := []) (wnew := (fun _ : Unit => (wM kc a σ))) (As := [.int p2, .int t1.2]) (rest := [.int t1.1]) E (List.append_nil _).symm G (c_X12_has l D kc _ _ _ h) gX12_weightInto_X12_has rfl ⟨rfl, rfl⟩ hd_X12_has_v ⟨rfl, rfl⟩ rfl hl rfl rfl dX12_weightInto_20 ⟨rfl, rfl⟩ (fun _ => (List.append_nil _).symm) (fun r2 _u20 hq H locs G => ?_)
    have h := hq
    refine lv_if_eq (tgt := 36) E.ex E.by dX12_weightInto_23 (by decide) (fun hc6 => ?_) (fun hc6 => ?_)
    · have h := h.1 hc6
      refine lv_iconst (v := 0) E.ex E.by dX12_weightInto_36 (by decide) ?_
      refine lv_iadd E.ex E.by dX12_weightInto_37 ?_
      refine lv_topi (fun x3 ex3 => ?_)
      have h := h x3 ex3
      refine lv_istore_n (lv' := [(3, .int x3), (0, .ref (a 0)), (1, .int p1), (2, .int p2), (4, .int t1.2)]) E.ex E.by dX12_weightInto_38 rfl hl (by decide) rfl (fun ls hl => ?_)
      refine lv_iinc (k := 4) (v := t1.2 + 1) (lv' := [(4, .int (t1.2 + 1)), (3, .int x3), (0, .ref (a 0)), (1, .int p1), (2, .int p2)]) E.ex E.by dX12_weightInto_39 hl rfl (k_inc1 _) (by decide) rfl (fun ls hl => ?_)
      refine lv_goto (tgt := 5) E.ex E.by dX12_weightInto_42 (by decide) ?_
      exact IH5 _ h _ _ _ G (lv_sub hl [2, 3, 4, 1, 0] rfl)
    · have h := h.2 hc6
      refine lv_aload_n E.ex E.by dX12_weightInto_26 rfl (lv_at hl 0 rfl) ?_
      refine lv_iload_n E.ex E.by dX12_weightInto_27 rfl (lv_at hl 1 rfl) ?_
      refine lv_iload E.ex E.by dX12_weightInto_28 (lv_at hl 4 rfl) ?_
      refine k_cVi (X := []) (w := (wM kc a σ)) (Z := []) (wnew := (fun _ : Unit => (wM kc a σ))) (As := [.int p1, .int t1.2]) (rest := [.int t1.1]) E (List.append_nil _).symm G (c_X12_weightOf l D kc _ _ _ _ _ h) gX12_weightInto_X12_weightOf rfl ⟨rfl, rfl⟩ hd_X12_weightOf_v ⟨rfl, rfl⟩ 0 (gM_0 _ _ _) rfl rfl hl rfl rfl dX12_weightInto_30 ⟨rfl, rfl⟩ (fun _ => (List.append_nil _).symm) (fun r4 _u30 hq H locs G => ?_)
      have h := hq
      refine lv_goto (tgt := 37) E.ex E.by dX12_weightInto_33 (by decide) ?_
      refine lv_iadd E.ex E.by dX12_weightInto_37 ?_
      refine lv_topi (fun x5 ex5 => ?_)
      have h := h x5 ex5
      refine lv_istore_n (lv' := [(3, .int x5), (0, .ref (a 0)), (1, .int p1), (2, .int p2), (4, .int t1.2)]) E.ex E.by dX12_weightInto_38 rfl hl (by decide) rfl (fun ls hl => ?_)
      refine lv_iinc (k := 4) (v := t1.2 + 1) (lv' := [(4, .int (t1.2 + 1)), (3, .int x5), (0, .ref (a 0)), (1, .int p1), (2, .int p2)]) E.ex E.by dX12_weightInto_39 hl rfl (k_inc1 _) (by decide) rfl (fun ls hl => ?_)
      refine lv_goto (tgt := 5) E.ex E.by dX12_weightInto_42 (by decide) ?_
      exact IH5 _ h _ _ _ G (lv_sub hl [2, 3, 4, 1, 0] rfl)
theorem wi_X12_reachOf_X12 : ∀ w ∈ wsX120, w ∈ wsX12_reachOf := fun w h => List.mem_cons_of_mem _ (List.mem_append_right _ (h))
theorem fl_X12_reachOf_X12_0 : Cond.fieldLink RX12 9 (TX12 0).1 (TX12 0).2.1 (TX12 0).2.2.1 ∈ wsX12_reachOf := List.mem_of_getElem? (i := 1) (by decide +kernel)
def wp_X12_reachOf_L30 (v2 : Int32) (v5 : Int32) (σ : US) (P6 : (Int32 × Int32) → Prop) (P16 : (Int32 × Int32) → Prop) (Q : Int32 → Prop) (P30 : (Int32 × Int32) → Prop) (t30 : Int32 × Int32) : Prop := vp_in 0 81 ∧ (((aA σ 0 (0 : Int32).toNatClampNeg) ≤ t30.2 → P16 (t30.1, v5 + 1)) ∧ (¬ (aA σ 0 (0 : Int32).toNatClampNeg) ≤ t30.2 → wp_X12_has t30.1 v5 (fun (r3 : Int32) => (r3 = 0 → P16 (t30.1, v5 + 1)) ∧ (¬ r3 = 0 → wp_X12_weightOf v5 t30.2 σ (fun (r4 : Int32) => (r4 ≤ 0 → ∀ x5 : Int32, x5 = t30.1 ||| 0 → P30 (x5, t30.2 + 1)) ∧ (¬ r4 ≤ 0 → ∀ x6 : Int32, x6 = t30.1 ||| (1 <<< (t30.2 &&& 31)) → P30 (x6, t30.2 + 1)))))))
def wp_X12_reachOf_L16 (v2 : Int32) (σ : US) (P6 : (Int32 × Int32) → Prop) (Q : Int32 → Prop) (P16 : (Int32 × Int32) → Prop) (t16 : Int32 × Int32) : Prop := vp_in 0 81 ∧ (((aA σ 0 (0 : Int32).toNatClampNeg) ≤ t16.2 → (t16.1 = v2 → P6 (t16.1, 0)) ∧ (¬ t16.1 = v2 → P6 (t16.1, 1))) ∧ (¬ (aA σ 0 (0 : Int32).toNatClampNeg) ≤ t16.2 → lpW (wp_X12_reachOf_L30 v2 t16.2 σ P6 P16 Q) (t16.1, 0)))
def wp_X12_reachOf_L6 (σ : US) (Q : Int32 → Prop) (P6 : (Int32 × Int32) → Prop) (t6 : Int32 × Int32) : Prop := (t6.2 = 0 → Q t6.1) ∧ (¬ t6.2 = 0 → lpW (wp_X12_reachOf_L16 t6.1 σ P6 Q) (t6.1, 0))
def wp_X12_reachOf (p1 : Int32) (σ : US) (Q : Int32 → Prop) : Prop := ∀ x1 : Int32, x1 = 1 <<< (p1 &&& 31) → lpW (wp_X12_reachOf_L6 σ Q) (x1, 1)
set_option maxRecDepth 100000 in
set_option maxHeartbeats 4000000 in
theorem c_X12_reachOf (l : Launch) (D : va_G) (kc : Nat → ClassId) (a : Nat → Nat)  (p1 : Int32) (σ : US) (Q : Int32 → Prop) (h : wp_X12_reachOf p1 σ Q) : kCi l D (tyL kc) yX12_reachOf wsX12_reachOf ({ frames := 2, cells := 0, slots := 0, locals := 45 } : Room) [.ref (a 0), .int p1] (wM kc a σ) (fun _ : Unit => (wM kc a σ)) 0 0 (fun r _ => Q r) := by
  intro sz
  refine k_begin (cc := cX12_reachOf) (maxL := 7) (ret := (some .int)) (by decide +kernel) rfl rfl (fun p e s m args below meth c hsz E G ls hl => ?_)
  subst hsz
  have hl : lv_has ls 7 [(0, .ref (a 0)), (1, .int p1)] := hl
  refine lv_iconst (v := 1) E.ex E.by dX12_reachOf_0 (by decide) ?_
  refine lv_iload_n E.ex E.by dX12_reachOf_1 rfl (lv_at hl 1 rfl) ?_
  refine lv_ishl E.ex E.by dX12_reachOf_2 ?_
  refine lv_topi (fun x1 ex1 => ?_)
  have h := h x1 ex1
  refine lv_istore_n (lv' := [(2, .int x1), (0, .ref (a 0)), (1, .int p1)]) E.ex E.by dX12_reachOf_3 rfl hl (by decide) rfl (fun ls hl => ?_)
  refine lv_iconst (v := 1) E.ex E.by dX12_reachOf_4 (by decide) ?_
  refine lv_istore_n (lv' := [(3, .int 1), (2, .int x1), (0, .ref (a 0)), (1, .int p1)]) E.ex E.by dX12_reachOf_5 rfl hl (by decide) rfl (fun ls hl => ?_)
  refine lpW_ind (fun t2 : Int32 × Int32 => ∀ (H : Heap) (locs : List Loc) (ls : Array Slot), kG D (va_A (wM kc a σ) s.heap.size) s (wM kc a σ) H locs → lv_has ls 7 [(0, .ref (a 0)), (2, .int t2.1), (3, .int t2.2)] → W p l e _ s m args below meth c H locs _ _ _ (F0 m 6 ls [])) (fun P6 IH6 t2 h H locs ls G hl => ?_) _ h _ _ _ G (lv_sub hl [2, 1, 0] rfl)
  refine lv_iload_n E.ex E.by dX12_reachOf_6 rfl (lv_at hl 2 rfl) ?_
  refine lv_if_eq (tgt := 105) E.ex E.by dX12_reachOf_7 (by decide) (fun hc14 => ?_) (fun hc14 => ?_)
  · have h := h.1 hc14
    refine lv_iload_n E.ex E.by dX12_reachOf_105 rfl (lv_at hl 1 rfl) ?_
    exact k_ret (wof := (fun _ : Unit => (wM kc a σ))) (u := ()) E G rfl h (Nat.le_of_ble_eq_true rfl) (Nat.le_of_ble_eq_true rfl) dX12_reachOf_106
  · have h := h.2 hc14
    refine lv_iload_n E.ex E.by dX12_reachOf_10 rfl (lv_at hl 1 rfl) ?_
    refine lv_istore (lv' := [(4, .int t2.1), (0, .ref (a 0)), (2, .int t2.1), (3, .int t2.2)]) E.ex E.by dX12_reachOf_11 hl (by decide) rfl (fun ls hl => ?_)
    refine lv_iconst (v := 0) E.ex E.by dX12_reachOf_13 (by decide) ?_
    refine lv_istore (lv' := [(5, .int 0), (4, .int t2.1), (0, .ref (a 0)), (2, .int t2.1), (3, .int t2.2)]) E.ex E.by dX12_reachOf_14 hl (by decide) rfl (fun ls hl => ?_)
    refine lpW_ind (fun t3 : Int32 × Int32 => ∀ (H : Heap) (locs : List Loc) (ls : Array Slot), kG D (va_A (wM kc a σ) s.heap.size) s (wM kc a σ) H locs → lv_has ls 7 [(0, .ref (a 0)), (2, .int t2.1), (4, .int t3.1), (5, .int t3.2)] → W p l e _ s m args below meth c H locs _ _ _ (F0 m 16 ls [])) (fun P16 IH16 t3 h H locs ls G hl => ?_) _ h _ _ _ G (lv_sub hl [2, 3, 1, 0] rfl)
    refine lv_iload E.ex E.by dX12_reachOf_16 (lv_at hl 3 rfl) ?_
    refine lv_aload_n E.ex E.by dX12_reachOf_18 rfl (lv_at hl 0 rfl) ?_
    refine k_get E G wi_X12_reachOf_X12 0 (gM_0 _ _ _) rfl 0 rfl fl_X12_reachOf_X12_0 (v := .ref (a 1)) rfl dX12_reachOf_19 ?_
    refine lv_iconst (v := 0) E.ex E.by dX12_reachOf_22 (by decide) ?_
    refine k_iald E G 1 (gM_1 _ _ _) 0 rfl h.1 dX12_reachOf_23 ?_
    have h := h.2
    refine lv_icmp_ge (tgt := 87) E.ex E.by dX12_reachOf_24 (by decide) (fun hc13 => ?_) (fun hc13 => ?_)
    · have h := h.1 hc13
      refine lv_iload E.ex E.by dX12_reachOf_87 (lv_at hl 2 rfl) ?_
      refine lv_iload_n E.ex E.by dX12_reachOf_89 rfl (lv_at hl 1 rfl) ?_
      refine lv_icmp_eq (tgt := 97) E.ex E.by dX12_reachOf_90 (by decide) (fun hc4 => ?_) (fun hc4 => ?_)
      · have h := h.1 hc4
        refine lv_iconst (v := 0) E.ex E.by dX12_reachOf_97 (by decide) ?_
        refine lv_istore_n (lv' := [(3, .int 0), (0, .ref (a 0)), (2, .int t2.1), (4, .int t3.1), (5, .int t3.2)]) E.ex E.by dX12_reachOf_98 rfl hl (by decide) rfl (fun ls hl => ?_)
        refine lv_iload E.ex E.by dX12_reachOf_99 (lv_at hl 3 rfl) ?_
        refine lv_istore_n (lv' := [(2, .int t3.1), (3, .int 0), (0, .ref (a 0)), (4, .int t3.1), (5, .int t3.2)]) E.ex E.by dX12_reachOf_101 rfl hl (by decide) rfl (fun ls hl => ?_)
        refine lv_goto (tgt := 6) E.ex E.by dX12_reachOf_102 (by decide) ?_
        exact IH6 _ h _ _ _ G (lv_sub hl [2, 0, 1] rfl)
      · have h := h.2 hc4
        refine lv_iconst (v := 1) E.ex E.by dX12_reachOf_93 (by decide) ?_
        refine lv_goto (tgt := 98) E.ex E.by dX12_reachOf_94 (by decide) ?_
        refine lv_istore_n (lv' := [(3, .int 1), (0, .ref (a 0)), (2, .int t2.1), (4, .int t3.1), (5, .int t3.2)]) E.ex E.by dX12_reachOf_98 rfl hl (by decide) rfl (fun ls hl => ?_)
        refine lv_iload E.ex E.by dX12_reachOf_99 (lv_at hl 3 rfl) ?_
        refine lv_istore_n (lv' := [(2, .int t3.1), (3, .int 1), (0, .ref (a 0)), (4, .int t3.1), (5, .int t3.2)]) E.ex E.by dX12_reachOf_101 rfl hl (by decide) rfl (fun ls hl => ?_)
        refine lv_goto (tgt := 6) E.ex E.by dX12_reachOf_102 (by decide) ?_
        exact IH6 _ h _ _ _ G (lv_sub hl [2, 0, 1] rfl)
    · have h := h.2 hc13
      refine lv_iconst (v := 0) E.ex E.by dX12_reachOf_27 (by decide) ?_
      refine lv_istore (lv' := [(6, .int 0), (0, .ref (a 0)), (2, .int t2.1), (4, .int t3.1), (5, .int t3.2)]) E.ex E.by dX12_reachOf_28 hl (by decide) rfl (fun ls hl => ?_)
      refine lpW_ind (fun t5 : Int32 × Int32 => ∀ (H : Heap) (locs : List Loc) (ls : Array Slot), kG D (va_A (wM kc a σ) s.heap.size) s (wM kc a σ) H locs → lv_has ls 7 [(0, .ref (a 0)), (2, .int t2.1), (4, .int t5.1), (5, .int t3.2), (6, .int t5.2)] → W p l e _ s m args below meth c H locs _ _ _ (F0 m 30 ls [])) (fun P30 IH30 t5 h H locs ls G hl => ?_) _ h _ _ _ G (lv_sub hl [1, 2, 3, 4, 0] rfl)
      refine lv_iload E.ex E.by dX12_reachOf_30 (lv_at hl 4 rfl) ?_
      refine lv_aload_n E.ex E.by dX12_reachOf_32 rfl (lv_at hl 0 rfl) ?_
      refine k_get E G wi_X12_reachOf_X12 0 (gM_0 _ _ _) rfl 0 rfl fl_X12_reachOf_X12_0 (v := .ref (a 1)) rfl dX12_reachOf_33 ?_
      refine lv_iconst (v := 0) E.ex E.by dX12_reachOf_36 (by decide) ?_
      refine k_iald E G 1 (gM_1 _ _ _) 0 rfl h.1 dX12_reachOf_37 ?_
      have h := h.2
      refine lv_icmp_ge (tgt := 81) E.ex E.by dX12_reachOf_38 (by decide) (fun hc12 => ?_) (fun hc12 => ?_)
      · have h := h.1 hc12
        refine lv_iinc (k := 3) (v := t3.2 + 1) (lv' := [(5, .int (t3.2 + 1)), (0, .ref (a 0)), (2, .int t2.1), (4, .int t5.1), (6, .int t5.2)]) E.ex E.by dX12_reachOf_81 hl rfl (k_inc1 _) (by decide) rfl (fun ls hl => ?_)
        refine lv_goto (tgt := 16) E.ex E.by dX12_reachOf_84 (by decide) ?_
        exact IH16 _ h _ _ _ G (lv_sub hl [1, 2, 3, 0] rfl)
      · have h := h.2 hc12
        refine lv_iload E.ex E.by dX12_reachOf_41 (lv_at hl 2 rfl) ?_
        refine lv_iload E.ex E.by dX12_reachOf_43 (lv_at hl 3 rfl) ?_
        refine k_cSi (X := (wM kc a σ)) (w := []) (Z := []) (wnew := (fun _ : Unit => (wM kc a σ))) (As := [.int t5.1, .int t3.2]) (rest := []) E (List.append_nil _).symm G (c_X12_has l D kc _ _ _ h) gX12_reachOf_X12_has rfl ⟨rfl, rfl⟩ hd_X12_has_v ⟨rfl, rfl⟩ rfl hl rfl rfl dX12_reachOf_45 ⟨rfl, rfl⟩ (fun _ => (List.append_nil _).symm) (fun r6 _u45 hq H locs G => ?_)
        have h := hq
        refine lv_if_eq (tgt := 81) E.ex E.by dX12_reachOf_48 (by decide) (fun hc11 => ?_) (fun hc11 => ?_)
        · have h := h.1 hc11
          refine lv_iinc (k := 3) (v := t3.2 + 1) (lv' := [(5, .int (t3.2 + 1)), (0, .ref (a 0)), (2, .int t2.1), (4, .int t5.1), (6, .int t5.2)]) E.ex E.by dX12_reachOf_81 hl rfl (k_inc1 _) (by decide) rfl (fun ls hl => ?_)
          refine lv_goto (tgt := 16) E.ex E.by dX12_reachOf_84 (by decide) ?_
          exact IH16 _ h _ _ _ G (lv_sub hl [1, 2, 3, 0] rfl)
        · have h := h.2 hc11
          refine lv_iload E.ex E.by dX12_reachOf_51 (lv_at hl 2 rfl) ?_
          refine lv_aload_n E.ex E.by dX12_reachOf_53 rfl (lv_at hl 0 rfl) ?_
          refine lv_iload E.ex E.by dX12_reachOf_54 (lv_at hl 3 rfl) ?_
          refine lv_iload E.ex E.by dX12_reachOf_56 (lv_at hl 4 rfl) ?_
          refine k_cVi (X := []) (w := (wM kc a σ)) (Z := []) (wnew := (fun _ : Unit => (wM kc a σ))) (As := [.int t3.2, .int t5.2]) (rest := [.int t5.1]) E (List.append_nil _).symm G (c_X12_weightOf l D kc _ _ _ _ _ h) gX12_reachOf_X12_weightOf rfl ⟨rfl, rfl⟩ hd_X12_weightOf_v ⟨rfl, rfl⟩ 0 (gM_0 _ _ _) rfl rfl hl rfl rfl dX12_reachOf_58 ⟨rfl, rfl⟩ (fun _ => (List.append_nil _).symm) (fun r7 _u58 hq H locs G => ?_)
          have h := hq
          refine lv_if_le (tgt := 71) E.ex E.by dX12_reachOf_61 (by decide) (fun hc10 => ?_) (fun hc10 => ?_)
          · have h := h.1 hc10
            refine lv_iconst (v := 0) E.ex E.by dX12_reachOf_71 (by decide) ?_
            refine lv_ior E.ex E.by dX12_reachOf_72 ?_
            refine lv_topi (fun x8 ex8 => ?_)
            have h := h x8 ex8
            refine lv_istore (lv' := [(4, .int x8), (0, .ref (a 0)), (2, .int t2.1), (5, .int t3.2), (6, .int t5.2)]) E.ex E.by dX12_reachOf_73 hl (by decide) rfl (fun ls hl => ?_)
            refine lv_iinc (k := 4) (v := t5.2 + 1) (lv' := [(6, .int (t5.2 + 1)), (4, .int x8), (0, .ref (a 0)), (2, .int t2.1), (5, .int t3.2)]) E.ex E.by dX12_reachOf_75 hl rfl (k_inc1 _) (by decide) rfl (fun ls hl => ?_)
            refine lv_goto (tgt := 30) E.ex E.by dX12_reachOf_78 (by decide) ?_
            exact IH30 _ h _ _ _ G (lv_sub hl [2, 3, 1, 4, 0] rfl)
          · have h := h.2 hc10
            refine lv_iconst (v := 1) E.ex E.by dX12_reachOf_64 (by decide) ?_
            refine lv_iload E.ex E.by dX12_reachOf_65 (lv_at hl 4 rfl) ?_
            refine lv_ishl E.ex E.by dX12_reachOf_67 ?_
            refine lv_goto (tgt := 72) E.ex E.by dX12_reachOf_68 (by decide) ?_
            refine lv_ior E.ex E.by dX12_reachOf_72 ?_
            refine lv_topi (fun x9 ex9 => ?_)
            have h := h x9 ex9
            refine lv_istore (lv' := [(4, .int x9), (0, .ref (a 0)), (2, .int t2.1), (5, .int t3.2), (6, .int t5.2)]) E.ex E.by dX12_reachOf_73 hl (by decide) rfl (fun ls hl => ?_)
            refine lv_iinc (k := 4) (v := t5.2 + 1) (lv' := [(6, .int (t5.2 + 1)), (4, .int x9), (0, .ref (a 0)), (2, .int t2.1), (5, .int t3.2)]) E.ex E.by dX12_reachOf_75 hl rfl (k_inc1 _) (by decide) rfl (fun ls hl => ?_)
            refine lv_goto (tgt := 30) E.ex E.by dX12_reachOf_78 (by decide) ?_
            exact IH30 _ h _ _ _ G (lv_sub hl [2, 3, 1, 4, 0] rfl)
theorem hd_X12_reachOf_v : yX12_reachOf.cls = RX12 ∧ yX12_reachOf.cls ≠ "java/lang/invoke/MethodHandle" ∧ yX12_reachOf.cls ≠ "java/lang/invoke/VarHandle" ∧ (parseMethodDescriptor yX12_reachOf.desc).map (fun d => d.parameters.length) = some 1 := by decide +kernel
def wp_X12_reaches (p1 : Int32) (σ : US) (Q : Int32 → Prop) : Prop := wp_X12_isState p1 σ (fun (r1 : Int32) => (r1 = 0 → Q (-1)) ∧ (¬ r1 = 0 → wp_X12_reachOf p1 σ (fun (r2 : Int32) => Q r2)))
set_option maxRecDepth 100000 in
set_option maxHeartbeats 4000000 in
theorem c_X12_reaches (l : Launch) (D : va_G) (kc : Nat → ClassId) (a : Nat → Nat)  (p1 : Int32) (σ : US) (Q : Int32 → Prop) (h : wp_X12_reaches p1 σ Q) : kCi l D (tyL kc) yX12_reaches wsX12_reaches ({ frames := 3, cells := 0, slots := 0, locals := 71 } : Room) [.ref (a 0), .int p1] (wM kc a σ) (fun _ : Unit => (wM kc a σ)) 0 0 (fun r _ => Q r) := by
  intro sz
  refine k_begin (cc := cX12_reaches) (maxL := 2) (ret := (some .int)) (by decide +kernel) rfl rfl (fun p e s m args below meth c hsz E G ls hl => ?_)
  subst hsz
  have hl : lv_has ls 2 [(0, .ref (a 0)), (1, .int p1)] := hl
  refine lv_aload_n E.ex E.by dX12_reaches_0 rfl (lv_at hl 0 rfl) ?_
  refine lv_iload_n E.ex E.by dX12_reaches_1 rfl (lv_at hl 1 rfl) ?_
  refine k_cVi (X := []) (w := (wM kc a σ)) (Z := []) (wnew := (fun _ : Unit => (wM kc a σ))) (As := [.int p1]) (rest := []) E (List.append_nil _).symm G (c_X12_isState l D kc _ _ _ _ h) gX12_reaches_X12_isState rfl ⟨rfl, rfl⟩ hd_X12_isState_v ⟨rfl, rfl⟩ 0 (gM_0 _ _ _) rfl rfl hl rfl rfl dX12_reaches_2 ⟨rfl, rfl⟩ (fun _ => (List.append_nil _).symm) (fun r1 _u2 hq H locs G => ?_)
  have h := hq
  refine lv_if_eq (tgt := 16) E.ex E.by dX12_reaches_5 (by decide) (fun hc3 => ?_) (fun hc3 => ?_)
  · have h := h.1 hc3
    refine lv_iconst (v := (-1)) E.ex E.by dX12_reaches_16 (by decide) ?_
    exact k_ret (wof := (fun _ : Unit => (wM kc a σ))) (u := ()) E G rfl h (Nat.le_of_ble_eq_true rfl) (Nat.le_of_ble_eq_true rfl) dX12_reaches_17
  · have h := h.2 hc3
    refine lv_aload_n E.ex E.by dX12_reaches_8 rfl (lv_at hl 0 rfl) ?_
    refine lv_iload_n E.ex E.by dX12_reaches_9 rfl (lv_at hl 1 rfl) ?_
    refine k_cVi (X := []) (w := (wM kc a σ)) (Z := []) (wnew := (fun _ : Unit => (wM kc a σ))) (As := [.int p1]) (rest := []) E (List.append_nil _).symm G (c_X12_reachOf l D kc _ _ _ _ h) gX12_reaches_X12_reachOf rfl ⟨rfl, rfl⟩ hd_X12_reachOf_v ⟨rfl, rfl⟩ 0 (gM_0 _ _ _) rfl rfl hl rfl rfl dX12_reaches_10 ⟨rfl, rfl⟩ (fun _ => (List.append_nil _).symm) (fun r2 _u10 hq H locs G => ?_)
    have h := hq
    refine lv_goto (tgt := 17) E.ex E.by dX12_reaches_13 (by decide) ?_
    exact k_ret (wof := (fun _ : Unit => (wM kc a σ))) (u := ()) E G rfl h (Nat.le_of_ble_eq_true rfl) (Nat.le_of_ble_eq_true rfl) dX12_reaches_17
theorem wi_X12_componentOf_X12 : ∀ w ∈ wsX120, w ∈ wsX12_componentOf := fun w h => List.mem_cons_of_mem _ (List.mem_append_right _ (h))
theorem fl_X12_componentOf_X12_0 : Cond.fieldLink RX12 9 (TX12 0).1 (TX12 0).2.1 (TX12 0).2.2.1 ∈ wsX12_componentOf := List.mem_of_getElem? (i := 1) (by decide +kernel)
def wp_X12_componentOf_L11 (v3 : Int32) (v1 : Int32) (σ : US) (Q : Int32 → Prop) (P11 : (Int32 × Int32) → Prop) (t11 : Int32 × Int32) : Prop := vp_in 0 81 ∧ (((aA σ 0 (0 : Int32).toNatClampNeg) ≤ t11.2 → Q t11.1) ∧ (¬ (aA σ 0 (0 : Int32).toNatClampNeg) ≤ t11.2 → wp_X12_has v3 t11.2 (fun (r2 : Int32) => (r2 = 0 → ∀ x3 : Int32, x3 = t11.1 ||| 0 → P11 (x3, t11.2 + 1)) ∧ (¬ r2 = 0 → wp_X12_reachOf t11.2 σ (fun (r4 : Int32) => wp_X12_has r4 v1 (fun (r5 : Int32) => (r5 = 0 → ∀ x6 : Int32, x6 = t11.1 ||| 0 → P11 (x6, t11.2 + 1)) ∧ (¬ r5 = 0 → ∀ x7 : Int32, x7 = t11.1 ||| (1 <<< (t11.2 &&& 31)) → P11 (x7, t11.2 + 1))))))))
def wp_X12_componentOf (p1 : Int32) (σ : US) (Q : Int32 → Prop) : Prop := wp_X12_reachOf p1 σ (fun (r1 : Int32) => lpW (wp_X12_componentOf_L11 r1 p1 σ Q) (0, 0))
set_option maxRecDepth 100000 in
set_option maxHeartbeats 4000000 in
theorem c_X12_componentOf (l : Launch) (D : va_G) (kc : Nat → ClassId) (a : Nat → Nat)  (p1 : Int32) (σ : US) (Q : Int32 → Prop) (h : wp_X12_componentOf p1 σ Q) : kCi l D (tyL kc) yX12_componentOf wsX12_componentOf ({ frames := 3, cells := 0, slots := 0, locals := 71 } : Room) [.ref (a 0), .int p1] (wM kc a σ) (fun _ : Unit => (wM kc a σ)) 0 0 (fun r _ => Q r) := by
  intro sz
  refine k_begin (cc := cX12_componentOf) (maxL := 5) (ret := (some .int)) (by decide +kernel) rfl rfl (fun p e s m args below meth c hsz E G ls hl => ?_)
  subst hsz
  have hl : lv_has ls 5 [(0, .ref (a 0)), (1, .int p1)] := hl
  refine lv_iconst (v := 0) E.ex E.by dX12_componentOf_0 (by decide) ?_
  refine lv_istore_n (lv' := [(2, .int 0), (0, .ref (a 0)), (1, .int p1)]) E.ex E.by dX12_componentOf_1 rfl hl (by decide) rfl (fun ls hl => ?_)
  refine lv_aload_n E.ex E.by dX12_componentOf_2 rfl (lv_at hl 1 rfl) ?_
  refine lv_iload_n E.ex E.by dX12_componentOf_3 rfl (lv_at hl 2 rfl) ?_
  refine k_cVi (X := []) (w := (wM kc a σ)) (Z := []) (wnew := (fun _ : Unit => (wM kc a σ))) (As := [.int p1]) (rest := []) E (List.append_nil _).symm G (c_X12_reachOf l D kc _ _ _ _ h) gX12_componentOf_X12_reachOf rfl ⟨rfl, rfl⟩ hd_X12_reachOf_v ⟨rfl, rfl⟩ 0 (gM_0 _ _ _) rfl rfl hl rfl rfl dX12_componentOf_4 ⟨rfl, rfl⟩ (fun _ => (List.append_nil _).symm) (fun r1 _u4 hq H locs G => ?_)
  have h := hq
  refine lv_istore_n (lv' := [(3, .int r1), (2, .int 0), (0, .ref (a 0)), (1, .int p1)]) E.ex E.by dX12_componentOf_7 rfl hl (by decide) rfl (fun ls hl => ?_)
  refine lv_iconst (v := 0) E.ex E.by dX12_componentOf_8 (by decide) ?_
  refine lv_istore (lv' := [(4, .int 0), (3, .int r1), (2, .int 0), (0, .ref (a 0)), (1, .int p1)]) E.ex E.by dX12_componentOf_9 hl (by decide) rfl (fun ls hl => ?_)
  refine lpW_ind (fun t2 : Int32 × Int32 => ∀ (H : Heap) (locs : List Loc) (ls : Array Slot), kG D (va_A (wM kc a σ) s.heap.size) s (wM kc a σ) H locs → lv_has ls 5 [(0, .ref (a 0)), (1, .int p1), (2, .int t2.1), (3, .int r1), (4, .int t2.2)] → W p l e _ s m args below meth c H locs _ _ _ (F0 m 11 ls [])) (fun P11 IH11 t2 h H locs ls G hl => ?_) _ h _ _ _ G (lv_sub hl [3, 4, 2, 1, 0] rfl)
  refine lv_iload E.ex E.by dX12_componentOf_11 (lv_at hl 4 rfl) ?_
  refine lv_aload_n E.ex E.by dX12_componentOf_13 rfl (lv_at hl 0 rfl) ?_
  refine k_get E G wi_X12_componentOf_X12 0 (gM_0 _ _ _) rfl 0 rfl fl_X12_componentOf_X12_0 (v := .ref (a 1)) rfl dX12_componentOf_14 ?_
  refine lv_iconst (v := 0) E.ex E.by dX12_componentOf_17 (by decide) ?_
  refine k_iald E G 1 (gM_1 _ _ _) 0 rfl h.1 dX12_componentOf_18 ?_
  have h := h.2
  refine lv_icmp_ge (tgt := 61) E.ex E.by dX12_componentOf_19 (by decide) (fun hc11 => ?_) (fun hc11 => ?_)
  · have h := h.1 hc11
    refine lv_iload_n E.ex E.by dX12_componentOf_61 rfl (lv_at hl 2 rfl) ?_
    exact k_ret (wof := (fun _ : Unit => (wM kc a σ))) (u := ()) E G rfl h (Nat.le_of_ble_eq_true rfl) (Nat.le_of_ble_eq_true rfl) dX12_componentOf_62
  · have h := h.2 hc11
    refine lv_iload_n E.ex E.by dX12_componentOf_22 rfl (lv_at hl 2 rfl) ?_
    refine lv_iload_n E.ex E.by dX12_componentOf_23 rfl (lv_at hl 3 rfl) ?_
    refine lv_iload E.ex E.by dX12_componentOf_24 (lv_at hl 4 rfl) ?_
    refine k_cSi (X := (wM kc a σ)) (w := []) (Z := []) (wnew := (fun _ : Unit => (wM kc a σ))) (As := [.int r1, .int t2.2]) (rest := [.int t2.1]) E (List.append_nil _).symm G (c_X12_has l D kc _ _ _ h) gX12_componentOf_X12_has rfl ⟨rfl, rfl⟩ hd_X12_has_v ⟨rfl, rfl⟩ rfl hl rfl rfl dX12_componentOf_26 ⟨rfl, rfl⟩ (fun _ => (List.append_nil _).symm) (fun r3 _u26 hq H locs G => ?_)
    have h := hq
    refine lv_if_eq (tgt := 52) E.ex E.by dX12_componentOf_29 (by decide) (fun hc10 => ?_) (fun hc10 => ?_)
    · have h := h.1 hc10
      refine lv_iconst (v := 0) E.ex E.by dX12_componentOf_52 (by decide) ?_
      refine lv_ior E.ex E.by dX12_componentOf_53 ?_
      refine lv_topi (fun x4 ex4 => ?_)
      have h := h x4 ex4
      refine lv_istore_n (lv' := [(2, .int x4), (0, .ref (a 0)), (1, .int p1), (3, .int r1), (4, .int t2.2)]) E.ex E.by dX12_componentOf_54 rfl hl (by decide) rfl (fun ls hl => ?_)
      refine lv_iinc (k := 4) (v := t2.2 + 1) (lv' := [(4, .int (t2.2 + 1)), (2, .int x4), (0, .ref (a 0)), (1, .int p1), (3, .int r1)]) E.ex E.by dX12_componentOf_55 hl rfl (k_inc1 _) (by decide) rfl (fun ls hl => ?_)
      refine lv_goto (tgt := 11) E.ex E.by dX12_componentOf_58 (by decide) ?_
      exact IH11 _ h _ _ _ G (lv_sub hl [2, 3, 1, 4, 0] rfl)
    · have h := h.2 hc10
      refine lv_aload_n E.ex E.by dX12_componentOf_32 rfl (lv_at hl 0 rfl) ?_
      refine lv_iload E.ex E.by dX12_componentOf_33 (lv_at hl 4 rfl) ?_
      refine k_cVi (X := []) (w := (wM kc a σ)) (Z := []) (wnew := (fun _ : Unit => (wM kc a σ))) (As := [.int t2.2]) (rest := [.int t2.1]) E (List.append_nil _).symm G (c_X12_reachOf l D kc _ _ _ _ h) gX12_componentOf_X12_reachOf rfl ⟨rfl, rfl⟩ hd_X12_reachOf_v ⟨rfl, rfl⟩ 0 (gM_0 _ _ _) rfl rfl hl rfl rfl dX12_componentOf_35 ⟨rfl, rfl⟩ (fun _ => (List.append_nil _).symm) (fun r5 _u35 hq H locs G => ?_)
      have h := hq
      refine lv_iload_n E.ex E.by dX12_componentOf_38 rfl (lv_at hl 1 rfl) ?_
      refine k_cSi (X := (wM kc a σ)) (w := []) (Z := []) (wnew := (fun _ : Unit => (wM kc a σ))) (As := [.int r5, .int p1]) (rest := [.int t2.1]) E (List.append_nil _).symm G (c_X12_has l D kc _ _ _ h) gX12_componentOf_X12_has rfl ⟨rfl, rfl⟩ hd_X12_has_v ⟨rfl, rfl⟩ rfl hl rfl rfl dX12_componentOf_39 ⟨rfl, rfl⟩ (fun _ => (List.append_nil _).symm) (fun r6 _u39 hq H locs G => ?_)
      have h := hq
      refine lv_if_eq (tgt := 52) E.ex E.by dX12_componentOf_42 (by decide) (fun hc9 => ?_) (fun hc9 => ?_)
      · have h := h.1 hc9
        refine lv_iconst (v := 0) E.ex E.by dX12_componentOf_52 (by decide) ?_
        refine lv_ior E.ex E.by dX12_componentOf_53 ?_
        refine lv_topi (fun x7 ex7 => ?_)
        have h := h x7 ex7
        refine lv_istore_n (lv' := [(2, .int x7), (0, .ref (a 0)), (1, .int p1), (3, .int r1), (4, .int t2.2)]) E.ex E.by dX12_componentOf_54 rfl hl (by decide) rfl (fun ls hl => ?_)
        refine lv_iinc (k := 4) (v := t2.2 + 1) (lv' := [(4, .int (t2.2 + 1)), (2, .int x7), (0, .ref (a 0)), (1, .int p1), (3, .int r1)]) E.ex E.by dX12_componentOf_55 hl rfl (k_inc1 _) (by decide) rfl (fun ls hl => ?_)
        refine lv_goto (tgt := 11) E.ex E.by dX12_componentOf_58 (by decide) ?_
        exact IH11 _ h _ _ _ G (lv_sub hl [2, 3, 1, 4, 0] rfl)
      · have h := h.2 hc9
        refine lv_iconst (v := 1) E.ex E.by dX12_componentOf_45 (by decide) ?_
        refine lv_iload E.ex E.by dX12_componentOf_46 (lv_at hl 4 rfl) ?_
        refine lv_ishl E.ex E.by dX12_componentOf_48 ?_
        refine lv_goto (tgt := 53) E.ex E.by dX12_componentOf_49 (by decide) ?_
        refine lv_ior E.ex E.by dX12_componentOf_53 ?_
        refine lv_topi (fun x8 ex8 => ?_)
        have h := h x8 ex8
        refine lv_istore_n (lv' := [(2, .int x8), (0, .ref (a 0)), (1, .int p1), (3, .int r1), (4, .int t2.2)]) E.ex E.by dX12_componentOf_54 rfl hl (by decide) rfl (fun ls hl => ?_)
        refine lv_iinc (k := 4) (v := t2.2 + 1) (lv' := [(4, .int (t2.2 + 1)), (2, .int x8), (0, .ref (a 0)), (1, .int p1), (3, .int r1)]) E.ex E.by dX12_componentOf_55 hl rfl (k_inc1 _) (by decide) rfl (fun ls hl => ?_)
        refine lv_goto (tgt := 11) E.ex E.by dX12_componentOf_58 (by decide) ?_
        exact IH11 _ h _ _ _ G (lv_sub hl [2, 3, 1, 4, 0] rfl)
theorem hd_X12_componentOf_v : yX12_componentOf.cls = RX12 ∧ yX12_componentOf.cls ≠ "java/lang/invoke/MethodHandle" ∧ yX12_componentOf.cls ≠ "java/lang/invoke/VarHandle" ∧ (parseMethodDescriptor yX12_componentOf.desc).map (fun d => d.parameters.length) = some 1 := by decide +kernel
def wp_X12_component (p1 : Int32) (σ : US) (Q : Int32 → Prop) : Prop := wp_X12_isState p1 σ (fun (r1 : Int32) => (r1 = 0 → Q (-1)) ∧ (¬ r1 = 0 → wp_X12_componentOf p1 σ (fun (r2 : Int32) => Q r2)))
set_option maxRecDepth 100000 in
set_option maxHeartbeats 4000000 in
theorem c_X12_component (l : Launch) (D : va_G) (kc : Nat → ClassId) (a : Nat → Nat)  (p1 : Int32) (σ : US) (Q : Int32 → Prop) (h : wp_X12_component p1 σ Q) : kCi l D (tyL kc) yX12_component wsX12_component ({ frames := 4, cells := 0, slots := 0, locals := 95 } : Room) [.ref (a 0), .int p1] (wM kc a σ) (fun _ : Unit => (wM kc a σ)) 0 0 (fun r _ => Q r) := by
  intro sz
  refine k_begin (cc := cX12_component) (maxL := 2) (ret := (some .int)) (by decide +kernel) rfl rfl (fun p e s m args below meth c hsz E G ls hl => ?_)
  subst hsz
  have hl : lv_has ls 2 [(0, .ref (a 0)), (1, .int p1)] := hl
  refine lv_aload_n E.ex E.by dX12_component_0 rfl (lv_at hl 0 rfl) ?_
  refine lv_iload_n E.ex E.by dX12_component_1 rfl (lv_at hl 1 rfl) ?_
  refine k_cVi (X := []) (w := (wM kc a σ)) (Z := []) (wnew := (fun _ : Unit => (wM kc a σ))) (As := [.int p1]) (rest := []) E (List.append_nil _).symm G (c_X12_isState l D kc _ _ _ _ h) gX12_component_X12_isState rfl ⟨rfl, rfl⟩ hd_X12_isState_v ⟨rfl, rfl⟩ 0 (gM_0 _ _ _) rfl rfl hl rfl rfl dX12_component_2 ⟨rfl, rfl⟩ (fun _ => (List.append_nil _).symm) (fun r1 _u2 hq H locs G => ?_)
  have h := hq
  refine lv_if_eq (tgt := 16) E.ex E.by dX12_component_5 (by decide) (fun hc3 => ?_) (fun hc3 => ?_)
  · have h := h.1 hc3
    refine lv_iconst (v := (-1)) E.ex E.by dX12_component_16 (by decide) ?_
    exact k_ret (wof := (fun _ : Unit => (wM kc a σ))) (u := ()) E G rfl h (Nat.le_of_ble_eq_true rfl) (Nat.le_of_ble_eq_true rfl) dX12_component_17
  · have h := h.2 hc3
    refine lv_aload_n E.ex E.by dX12_component_8 rfl (lv_at hl 0 rfl) ?_
    refine lv_iload_n E.ex E.by dX12_component_9 rfl (lv_at hl 1 rfl) ?_
    refine k_cVi (X := []) (w := (wM kc a σ)) (Z := []) (wnew := (fun _ : Unit => (wM kc a σ))) (As := [.int p1]) (rest := []) E (List.append_nil _).symm G (c_X12_componentOf l D kc _ _ _ _ h) gX12_component_X12_componentOf rfl ⟨rfl, rfl⟩ hd_X12_componentOf_v ⟨rfl, rfl⟩ 0 (gM_0 _ _ _) rfl rfl hl rfl rfl dX12_component_10 ⟨rfl, rfl⟩ (fun _ => (List.append_nil _).symm) (fun r2 _u10 hq H locs G => ?_)
    have h := hq
    refine lv_goto (tgt := 17) E.ex E.by dX12_component_13 (by decide) ?_
    exact k_ret (wof := (fun _ : Unit => (wM kc a σ))) (u := ()) E G rfl h (Nat.le_of_ble_eq_true rfl) (Nat.le_of_ble_eq_true rfl) dX12_component_17
def wp_X12_isBottom (p1 : Int32) (σ : US) (Q : Int32 → Prop) : Prop := wp_X12_componentOf p1 σ (fun (r1 : Int32) => wp_X12_reachOf p1 σ (fun (r2 : Int32) => (¬ r1 = r2 → Q 0) ∧ (r1 = r2 → Q 1)))
set_option maxRecDepth 100000 in
set_option maxHeartbeats 4000000 in
theorem c_X12_isBottom (l : Launch) (D : va_G) (kc : Nat → ClassId) (a : Nat → Nat)  (p1 : Int32) (σ : US) (Q : Int32 → Prop) (h : wp_X12_isBottom p1 σ Q) : kCi l D (tyL kc) yX12_isBottom wsX12_isBottom ({ frames := 4, cells := 0, slots := 0, locals := 95 } : Room) [.ref (a 0), .int p1] (wM kc a σ) (fun _ : Unit => (wM kc a σ)) 0 0 (fun r _ => Q r) := by
  intro sz
  refine k_begin (cc := cX12_isBottom) (maxL := 2) (ret := (some .boolean)) (by decide +kernel) rfl rfl (fun p e s m args below meth c hsz E G ls hl => ?_)
  subst hsz
  have hl : lv_has ls 2 [(0, .ref (a 0)), (1, .int p1)] := hl
  refine lv_aload_n E.ex E.by dX12_isBottom_0 rfl (lv_at hl 0 rfl) ?_
  refine lv_iload_n E.ex E.by dX12_isBottom_1 rfl (lv_at hl 1 rfl) ?_
  refine k_cVi (X := []) (w := (wM kc a σ)) (Z := []) (wnew := (fun _ : Unit => (wM kc a σ))) (As := [.int p1]) (rest := []) E (List.append_nil _).symm G (c_X12_componentOf l D kc _ _ _ _ h) gX12_isBottom_X12_componentOf rfl ⟨rfl, rfl⟩ hd_X12_componentOf_v ⟨rfl, rfl⟩ 0 (gM_0 _ _ _) rfl rfl hl rfl rfl dX12_isBottom_2 ⟨rfl, rfl⟩ (fun _ => (List.append_nil _).symm) (fun r1 _u2 hq H locs G => ?_)
  have h := hq
  refine lv_aload_n E.ex E.by dX12_isBottom_5 rfl (lv_at hl 0 rfl) ?_
  refine lv_iload_n E.ex E.by dX12_isBottom_6 rfl (lv_at hl 1 rfl) ?_
  refine k_cVi (X := []) (w := (wM kc a σ)) (Z := []) (wnew := (fun _ : Unit => (wM kc a σ))) (As := [.int p1]) (rest := [.int r1]) E (List.append_nil _).symm G (c_X12_reachOf l D kc _ _ _ _ h) gX12_isBottom_X12_reachOf rfl ⟨rfl, rfl⟩ hd_X12_reachOf_v ⟨rfl, rfl⟩ 0 (gM_0 _ _ _) rfl rfl hl rfl rfl dX12_isBottom_7 ⟨rfl, rfl⟩ (fun _ => (List.append_nil _).symm) (fun r2 _u7 hq H locs G => ?_)
  have h := hq
  refine lv_icmp_ne (tgt := 17) E.ex E.by dX12_isBottom_10 (by decide) (fun hc3 => ?_) (fun hc3 => ?_)
  · have h := h.1 hc3
    refine lv_iconst (v := 0) E.ex E.by dX12_isBottom_17 (by decide) ?_
    exact k_ret (wof := (fun _ : Unit => (wM kc a σ))) (u := ()) E G rfl h (Nat.le_of_ble_eq_true rfl) (Nat.le_of_ble_eq_true rfl) dX12_isBottom_18
  · have h := h.2 hc3
    refine lv_iconst (v := 1) E.ex E.by dX12_isBottom_13 (by decide) ?_
    refine lv_goto (tgt := 18) E.ex E.by dX12_isBottom_14 (by decide) ?_
    exact k_ret (wof := (fun _ : Unit => (wM kc a σ))) (u := ()) E G rfl h (Nat.le_of_ble_eq_true rfl) (Nat.le_of_ble_eq_true rfl) dX12_isBottom_18
theorem wi_X12_bottoms_X12 : ∀ w ∈ wsX120, w ∈ wsX12_bottoms := fun w h => List.mem_cons_of_mem _ (List.mem_append_right _ (h))
theorem fl_X12_bottoms_X12_0 : Cond.fieldLink RX12 9 (TX12 0).1 (TX12 0).2.1 (TX12 0).2.2.1 ∈ wsX12_bottoms := List.mem_of_getElem? (i := 1) (by decide +kernel)
theorem hd_X12_isBottom_v : yX12_isBottom.cls = RX12 ∧ yX12_isBottom.cls ≠ "java/lang/invoke/MethodHandle" ∧ yX12_isBottom.cls ≠ "java/lang/invoke/VarHandle" ∧ (parseMethodDescriptor yX12_isBottom.desc).map (fun d => d.parameters.length) = some 1 := by decide +kernel
def wp_X12_bottoms_L4 (σ : US) (Q : Int32 → Prop) (P4 : (Int32 × Int32) → Prop) (t4 : Int32 × Int32) : Prop := vp_in 0 81 ∧ (((aA σ 0 (0 : Int32).toNatClampNeg) ≤ t4.2 → Q t4.1) ∧ (¬ (aA σ 0 (0 : Int32).toNatClampNeg) ≤ t4.2 → wp_X12_isBottom t4.2 σ (fun (r1 : Int32) => (r1 = 0 → ∀ x2 : Int32, x2 = t4.1 ||| 0 → P4 (x2, t4.2 + 1)) ∧ (¬ r1 = 0 → ∀ x3 : Int32, x3 = t4.1 ||| (1 <<< (t4.2 &&& 31)) → P4 (x3, t4.2 + 1)))))
def wp_X12_bottoms (σ : US) (Q : Int32 → Prop) : Prop := lpW (wp_X12_bottoms_L4 σ Q) (0, 0)
set_option maxRecDepth 100000 in
set_option maxHeartbeats 4000000 in
theorem c_X12_bottoms (l : Launch) (D : va_G) (kc : Nat → ClassId) (a : Nat → Nat)  (σ : US) (Q : Int32 → Prop) (h : wp_X12_bottoms σ Q) : kCi l D (tyL kc) yX12_bottoms wsX12_bottoms ({ frames := 5, cells := 0, slots := 0, locals := 116 } : Room) [.ref (a 0)] (wM kc a σ) (fun _ : Unit => (wM kc a σ)) 0 0 (fun r _ => Q r) := by
  intro sz
  refine k_begin (cc := cX12_bottoms) (maxL := 3) (ret := (some .int)) (by decide +kernel) rfl rfl (fun p e s m args below meth c hsz E G ls hl => ?_)
  subst hsz
  have hl : lv_has ls 3 [(0, .ref (a 0))] := hl
  refine lv_iconst (v := 0) E.ex E.by dX12_bottoms_0 (by decide) ?_
  refine lv_istore_n (lv' := [(1, .int 0), (0, .ref (a 0))]) E.ex E.by dX12_bottoms_1 rfl hl (by decide) rfl (fun ls hl => ?_)
  refine lv_iconst (v := 0) E.ex E.by dX12_bottoms_2 (by decide) ?_
  refine lv_istore_n (lv' := [(2, .int 0), (1, .int 0), (0, .ref (a 0))]) E.ex E.by dX12_bottoms_3 rfl hl (by decide) rfl (fun ls hl => ?_)
  refine lpW_ind (fun t1 : Int32 × Int32 => ∀ (H : Heap) (locs : List Loc) (ls : Array Slot), kG D (va_A (wM kc a σ) s.heap.size) s (wM kc a σ) H locs → lv_has ls 3 [(0, .ref (a 0)), (1, .int t1.1), (2, .int t1.2)] → W p l e _ s m args below meth c H locs _ _ _ (F0 m 4 ls [])) (fun P4 IH4 t1 h H locs ls G hl => ?_) _ h _ _ _ G (lv_sub hl [2, 1, 0] rfl)
  refine lv_iload_n E.ex E.by dX12_bottoms_4 rfl (lv_at hl 2 rfl) ?_
  refine lv_aload_n E.ex E.by dX12_bottoms_5 rfl (lv_at hl 0 rfl) ?_
  refine k_get E G wi_X12_bottoms_X12 0 (gM_0 _ _ _) rfl 0 rfl fl_X12_bottoms_X12_0 (v := .ref (a 1)) rfl dX12_bottoms_6 ?_
  refine lv_iconst (v := 0) E.ex E.by dX12_bottoms_9 (by decide) ?_
  refine k_iald E G 1 (gM_1 _ _ _) 0 rfl h.1 dX12_bottoms_10 ?_
  have h := h.2
  refine lv_icmp_ge (tgt := 38) E.ex E.by dX12_bottoms_11 (by decide) (fun hc6 => ?_) (fun hc6 => ?_)
  · have h := h.1 hc6
    refine lv_iload_n E.ex E.by dX12_bottoms_38 rfl (lv_at hl 1 rfl) ?_
    exact k_ret (wof := (fun _ : Unit => (wM kc a σ))) (u := ()) E G rfl h (Nat.le_of_ble_eq_true rfl) (Nat.le_of_ble_eq_true rfl) dX12_bottoms_39
  · have h := h.2 hc6
    refine lv_iload_n E.ex E.by dX12_bottoms_14 rfl (lv_at hl 1 rfl) ?_
    refine lv_aload_n E.ex E.by dX12_bottoms_15 rfl (lv_at hl 0 rfl) ?_
    refine lv_iload_n E.ex E.by dX12_bottoms_16 rfl (lv_at hl 2 rfl) ?_
    refine k_cVi (X := []) (w := (wM kc a σ)) (Z := []) (wnew := (fun _ : Unit => (wM kc a σ))) (As := [.int t1.2]) (rest := [.int t1.1]) E (List.append_nil _).symm G (c_X12_isBottom l D kc _ _ _ _ h) gX12_bottoms_X12_isBottom rfl ⟨rfl, rfl⟩ hd_X12_isBottom_v ⟨rfl, rfl⟩ 0 (gM_0 _ _ _) rfl rfl hl rfl rfl dX12_bottoms_17 ⟨rfl, rfl⟩ (fun _ => (List.append_nil _).symm) (fun r2 _u17 hq H locs G => ?_)
    have h := hq
    refine lv_if_eq (tgt := 29) E.ex E.by dX12_bottoms_20 (by decide) (fun hc5 => ?_) (fun hc5 => ?_)
    · have h := h.1 hc5
      refine lv_iconst (v := 0) E.ex E.by dX12_bottoms_29 (by decide) ?_
      refine lv_ior E.ex E.by dX12_bottoms_30 ?_
      refine lv_topi (fun x3 ex3 => ?_)
      have h := h x3 ex3
      refine lv_istore_n (lv' := [(1, .int x3), (0, .ref (a 0)), (2, .int t1.2)]) E.ex E.by dX12_bottoms_31 rfl hl (by decide) rfl (fun ls hl => ?_)
      refine lv_iinc (k := 2) (v := t1.2 + 1) (lv' := [(2, .int (t1.2 + 1)), (1, .int x3), (0, .ref (a 0))]) E.ex E.by dX12_bottoms_32 hl rfl (k_inc1 _) (by decide) rfl (fun ls hl => ?_)
      refine lv_goto (tgt := 4) E.ex E.by dX12_bottoms_35 (by decide) ?_
      exact IH4 _ h _ _ _ G (lv_sub hl [2, 1, 0] rfl)
    · have h := h.2 hc5
      refine lv_iconst (v := 1) E.ex E.by dX12_bottoms_23 (by decide) ?_
      refine lv_iload_n E.ex E.by dX12_bottoms_24 rfl (lv_at hl 2 rfl) ?_
      refine lv_ishl E.ex E.by dX12_bottoms_25 ?_
      refine lv_goto (tgt := 30) E.ex E.by dX12_bottoms_26 (by decide) ?_
      refine lv_ior E.ex E.by dX12_bottoms_30 ?_
      refine lv_topi (fun x4 ex4 => ?_)
      have h := h x4 ex4
      refine lv_istore_n (lv' := [(1, .int x4), (0, .ref (a 0)), (2, .int t1.2)]) E.ex E.by dX12_bottoms_31 rfl hl (by decide) rfl (fun ls hl => ?_)
      refine lv_iinc (k := 2) (v := t1.2 + 1) (lv' := [(2, .int (t1.2 + 1)), (1, .int x4), (0, .ref (a 0))]) E.ex E.by dX12_bottoms_32 hl rfl (k_inc1 _) (by decide) rfl (fun ls hl => ?_)
      refine lv_goto (tgt := 4) E.ex E.by dX12_bottoms_35 (by decide) ?_
      exact IH4 _ h _ _ _ G (lv_sub hl [2, 1, 0] rfl)
theorem wi_X12_statesOf_X12 : ∀ w ∈ wsX120, w ∈ wsX12_statesOf := fun w h => List.mem_cons_of_mem _ (List.mem_append_right _ (h))
theorem fl_X12_statesOf_X12_0 : Cond.fieldLink RX12 9 (TX12 0).1 (TX12 0).2.1 (TX12 0).2.2.1 ∈ wsX12_statesOf := List.mem_of_getElem? (i := 1) (by decide +kernel)
theorem fl_X12_statesOf_X12_5 : Cond.fieldLink RX12 19 (TX12 5).1 (TX12 5).2.1 (TX12 5).2.2.1 ∈ wsX12_statesOf := List.mem_of_getElem? (i := 2) (by decide +kernel)
def wp_X12_statesOf_L4 (v1 : Int32) (σ : US) (Q : Int32 → Prop) (P4 : (Int32 × Int32) → Prop) (t4 : Int32 × Int32) : Prop := vp_in 0 81 ∧ (((aA σ 0 (0 : Int32).toNatClampNeg) ≤ t4.2 → Q t4.1) ∧ (¬ (aA σ 0 (0 : Int32).toNatClampNeg) ≤ t4.2 → vp_in t4.2 8 ∧ ((¬ (aA σ 3 (t4.2).toNatClampNeg) = v1 → ∀ x1 : Int32, x1 = t4.1 ||| 0 → P4 (x1, t4.2 + 1)) ∧ ((aA σ 3 (t4.2).toNatClampNeg) = v1 → ∀ x2 : Int32, x2 = t4.1 ||| (1 <<< (t4.2 &&& 31)) → P4 (x2, t4.2 + 1)))))
def wp_X12_statesOf (p1 : Int32) (σ : US) (Q : Int32 → Prop) : Prop := lpW (wp_X12_statesOf_L4 p1 σ Q) (0, 0)
set_option maxRecDepth 100000 in
set_option maxHeartbeats 4000000 in
theorem c_X12_statesOf (l : Launch) (D : va_G) (kc : Nat → ClassId) (a : Nat → Nat)  (p1 : Int32) (σ : US) (Q : Int32 → Prop) (h : wp_X12_statesOf p1 σ Q) : kCi l D (tyL kc) yX12_statesOf wsX12_statesOf ({ frames := 0, cells := 0, slots := 0, locals := 0 } : Room) [.ref (a 0), .int p1] (wM kc a σ) (fun _ : Unit => (wM kc a σ)) 0 0 (fun r _ => Q r) := by
  intro sz
  refine k_begin (cc := cX12_statesOf) (maxL := 4) (ret := (some .int)) (by decide +kernel) rfl rfl (fun p e s m args below meth c hsz E G ls hl => ?_)
  subst hsz
  have hl : lv_has ls 4 [(0, .ref (a 0)), (1, .int p1)] := hl
  refine lv_iconst (v := 0) E.ex E.by dX12_statesOf_0 (by decide) ?_
  refine lv_istore_n (lv' := [(2, .int 0), (0, .ref (a 0)), (1, .int p1)]) E.ex E.by dX12_statesOf_1 rfl hl (by decide) rfl (fun ls hl => ?_)
  refine lv_iconst (v := 0) E.ex E.by dX12_statesOf_2 (by decide) ?_
  refine lv_istore_n (lv' := [(3, .int 0), (2, .int 0), (0, .ref (a 0)), (1, .int p1)]) E.ex E.by dX12_statesOf_3 rfl hl (by decide) rfl (fun ls hl => ?_)
  refine lpW_ind (fun t1 : Int32 × Int32 => ∀ (H : Heap) (locs : List Loc) (ls : Array Slot), kG D (va_A (wM kc a σ) s.heap.size) s (wM kc a σ) H locs → lv_has ls 4 [(0, .ref (a 0)), (1, .int p1), (2, .int t1.1), (3, .int t1.2)] → W p l e _ s m args below meth c H locs _ _ _ (F0 m 4 ls [])) (fun P4 IH4 t1 h H locs ls G hl => ?_) _ h _ _ _ G (lv_sub hl [2, 3, 1, 0] rfl)
  refine lv_iload_n E.ex E.by dX12_statesOf_4 rfl (lv_at hl 3 rfl) ?_
  refine lv_aload_n E.ex E.by dX12_statesOf_5 rfl (lv_at hl 0 rfl) ?_
  refine k_get E G wi_X12_statesOf_X12 0 (gM_0 _ _ _) rfl 0 rfl fl_X12_statesOf_X12_0 (v := .ref (a 1)) rfl dX12_statesOf_6 ?_
  refine lv_iconst (v := 0) E.ex E.by dX12_statesOf_9 (by decide) ?_
  refine k_iald E G 1 (gM_1 _ _ _) 0 rfl h.1 dX12_statesOf_10 ?_
  have h := h.2
  refine lv_icmp_ge (tgt := 40) E.ex E.by dX12_statesOf_11 (by decide) (fun hc5 => ?_) (fun hc5 => ?_)
  · have h := h.1 hc5
    refine lv_iload_n E.ex E.by dX12_statesOf_40 rfl (lv_at hl 2 rfl) ?_
    exact k_ret (wof := (fun _ : Unit => (wM kc a σ))) (u := ()) E G rfl h (Nat.le_of_ble_eq_true rfl) (Nat.le_of_ble_eq_true rfl) dX12_statesOf_41
  · have h := h.2 hc5
    refine lv_iload_n E.ex E.by dX12_statesOf_14 rfl (lv_at hl 2 rfl) ?_
    refine lv_aload_n E.ex E.by dX12_statesOf_15 rfl (lv_at hl 0 rfl) ?_
    refine k_get E G wi_X12_statesOf_X12 0 (gM_0 _ _ _) rfl 5 rfl fl_X12_statesOf_X12_5 (v := .ref (a 4)) rfl dX12_statesOf_16 ?_
    refine lv_iload_n E.ex E.by dX12_statesOf_19 rfl (lv_at hl 3 rfl) ?_
    refine k_iald E G 4 (gM_4 _ _ _) 0 rfl h.1 dX12_statesOf_20 ?_
    have h := h.2
    refine lv_iload_n E.ex E.by dX12_statesOf_21 rfl (lv_at hl 1 rfl) ?_
    refine lv_icmp_ne (tgt := 31) E.ex E.by dX12_statesOf_22 (by decide) (fun hc4 => ?_) (fun hc4 => ?_)
    · have h := h.1 hc4
      refine lv_iconst (v := 0) E.ex E.by dX12_statesOf_31 (by decide) ?_
      refine lv_ior E.ex E.by dX12_statesOf_32 ?_
      refine lv_topi (fun x2 ex2 => ?_)
      have h := h x2 ex2
      refine lv_istore_n (lv' := [(2, .int x2), (0, .ref (a 0)), (1, .int p1), (3, .int t1.2)]) E.ex E.by dX12_statesOf_33 rfl hl (by decide) rfl (fun ls hl => ?_)
      refine lv_iinc (k := 3) (v := t1.2 + 1) (lv' := [(3, .int (t1.2 + 1)), (2, .int x2), (0, .ref (a 0)), (1, .int p1)]) E.ex E.by dX12_statesOf_34 hl rfl (k_inc1 _) (by decide) rfl (fun ls hl => ?_)
      refine lv_goto (tgt := 4) E.ex E.by dX12_statesOf_37 (by decide) ?_
      exact IH4 _ h _ _ _ G (lv_sub hl [2, 3, 1, 0] rfl)
    · have h := h.2 hc4
      refine lv_iconst (v := 1) E.ex E.by dX12_statesOf_25 (by decide) ?_
      refine lv_iload_n E.ex E.by dX12_statesOf_26 rfl (lv_at hl 3 rfl) ?_
      refine lv_ishl E.ex E.by dX12_statesOf_27 ?_
      refine lv_goto (tgt := 32) E.ex E.by dX12_statesOf_28 (by decide) ?_
      refine lv_ior E.ex E.by dX12_statesOf_32 ?_
      refine lv_topi (fun x3 ex3 => ?_)
      have h := h x3 ex3
      refine lv_istore_n (lv' := [(2, .int x3), (0, .ref (a 0)), (1, .int p1), (3, .int t1.2)]) E.ex E.by dX12_statesOf_33 rfl hl (by decide) rfl (fun ls hl => ?_)
      refine lv_iinc (k := 3) (v := t1.2 + 1) (lv' := [(3, .int (t1.2 + 1)), (2, .int x3), (0, .ref (a 0)), (1, .int p1)]) E.ex E.by dX12_statesOf_34 hl rfl (k_inc1 _) (by decide) rfl (fun ls hl => ?_)
      refine lv_goto (tgt := 4) E.ex E.by dX12_statesOf_37 (by decide) ?_
      exact IH4 _ h _ _ _ G (lv_sub hl [2, 3, 1, 0] rfl)
theorem wi_X12_stepAlike_X12 : ∀ w ∈ wsX120, w ∈ wsX12_stepAlike := fun w h => List.mem_cons_of_mem _ (List.mem_append_right _ (h))
theorem fl_X12_stepAlike_X12_5 : Cond.fieldLink RX12 19 (TX12 5).1 (TX12 5).2.1 (TX12 5).2.2.1 ∈ wsX12_stepAlike := List.mem_of_getElem? (i := 1) (by decide +kernel)
theorem hd_X12_sumOf_v : yX12_sumOf.cls = RX12 ∧ yX12_sumOf.cls ≠ "java/lang/invoke/MethodHandle" ∧ yX12_sumOf.cls ≠ "java/lang/invoke/VarHandle" ∧ (parseMethodDescriptor yX12_sumOf.desc).map (fun d => d.parameters.length) = some 1 := by decide +kernel
theorem hd_X12_weightInto_v : yX12_weightInto.cls = RX12 ∧ yX12_weightInto.cls ≠ "java/lang/invoke/MethodHandle" ∧ yX12_weightInto.cls ≠ "java/lang/invoke/VarHandle" ∧ (parseMethodDescriptor yX12_weightInto.desc).map (fun d => d.parameters.length) = some 2 := by decide +kernel
theorem hd_X12_statesOf_v : yX12_statesOf.cls = RX12 ∧ yX12_statesOf.cls ≠ "java/lang/invoke/MethodHandle" ∧ yX12_statesOf.cls ≠ "java/lang/invoke/VarHandle" ∧ (parseMethodDescriptor yX12_statesOf.desc).map (fun d => d.parameters.length) = some 1 := by decide +kernel
def wp_X12_stepAlike_L25 (v1 : Int32) (v2 : Int32) (v3 : Int32) (σ : US) (Q : Int32 → Prop) (P25 : (Int32 × Int32) → Prop) (t25 : Int32 × Int32) : Prop := (v3 ≤ t25.2 → kbo t25.1 ∧ Q t25.1) ∧ (¬ v3 ≤ t25.2 → (t25.1 = 0 → kbo t25.1 ∧ Q t25.1) ∧ (¬ t25.1 = 0 → wp_X12_statesOf t25.2 σ (fun (r1 : Int32) => wp_X12_weightInto v1 r1 σ (fun (r2 : Int32) => wp_X12_sumOf v2 σ (fun (r3 : Int32) => wp_X12_statesOf t25.2 σ (fun (r4 : Int32) => wp_X12_weightInto v2 r4 σ (fun (r5 : Int32) => wp_X12_sumOf v1 σ (fun (r6 : Int32) => (¬ (r2 * r3) = (r5 * r6) → P25 (0, t25.2 + 1)) ∧ ((r2 * r3) = (r5 * r6) → P25 (1, t25.2 + 1))))))))))
def wp_X12_stepAlike (p1 : Int32) (p2 : Int32) (p3 : Int32) (σ : US) (Q : Int32 → Prop) : Prop := vp_in p1 8 ∧ (vp_in p2 8 ∧ ((¬ (aA σ 3 (p1).toNatClampNeg) = (aA σ 3 (p2).toNatClampNeg) → lpW (wp_X12_stepAlike_L25 p1 p2 p3 σ Q) (0, 0)) ∧ ((aA σ 3 (p1).toNatClampNeg) = (aA σ 3 (p2).toNatClampNeg) → lpW (wp_X12_stepAlike_L25 p1 p2 p3 σ Q) (1, 0))))
set_option maxRecDepth 100000 in
set_option maxHeartbeats 4000000 in
theorem c_X12_stepAlike (l : Launch) (D : va_G) (kc : Nat → ClassId) (a : Nat → Nat)  (p1 : Int32) (p2 : Int32) (p3 : Int32) (σ : US) (Q : Int32 → Prop) (h : wp_X12_stepAlike p1 p2 p3 σ Q) : kCi l D (tyL kc) yX12_stepAlike wsX12_stepAlike ({ frames := 3, cells := 0, slots := 0, locals := 69 } : Room) [.ref (a 0), .int p1, .int p2, .int p3] (wM kc a σ) (fun _ : Unit => (wM kc a σ)) 0 0 (fun r _ => Q r) := by
  intro sz
  refine k_begin (cc := cX12_stepAlike) (maxL := 6) (ret := (some .boolean)) (by decide +kernel) rfl rfl (fun p e s m args below meth c hsz E G ls hl => ?_)
  subst hsz
  have hl : lv_has ls 6 [(0, .ref (a 0)), (1, .int p1), (2, .int p2), (3, .int p3)] := hl
  refine lv_aload_n E.ex E.by dX12_stepAlike_0 rfl (lv_at hl 0 rfl) ?_
  refine k_get E G wi_X12_stepAlike_X12 0 (gM_0 _ _ _) rfl 5 rfl fl_X12_stepAlike_X12_5 (v := .ref (a 4)) rfl dX12_stepAlike_1 ?_
  refine lv_iload_n E.ex E.by dX12_stepAlike_4 rfl (lv_at hl 1 rfl) ?_
  refine k_iald E G 4 (gM_4 _ _ _) 0 rfl h.1 dX12_stepAlike_5 ?_
  have h := h.2
  refine lv_aload_n E.ex E.by dX12_stepAlike_6 rfl (lv_at hl 0 rfl) ?_
  refine k_get E G wi_X12_stepAlike_X12 0 (gM_0 _ _ _) rfl 5 rfl fl_X12_stepAlike_X12_5 (v := .ref (a 4)) rfl dX12_stepAlike_7 ?_
  refine lv_iload_n E.ex E.by dX12_stepAlike_10 rfl (lv_at hl 2 rfl) ?_
  refine k_iald E G 4 (gM_4 _ _ _) 0 rfl h.1 dX12_stepAlike_11 ?_
  have h := h.2
  refine lv_icmp_ne (tgt := 19) E.ex E.by dX12_stepAlike_12 (by decide) (fun hc21 => ?_) (fun hc21 => ?_)
  · have h := h.1 hc21
    refine lv_iconst (v := 0) E.ex E.by dX12_stepAlike_19 (by decide) ?_
    refine lv_istore (lv' := [(4, .int 0), (0, .ref (a 0)), (1, .int p1), (2, .int p2), (3, .int p3)]) E.ex E.by dX12_stepAlike_20 hl (by decide) rfl (fun ls hl => ?_)
    refine lv_iconst (v := 0) E.ex E.by dX12_stepAlike_22 (by decide) ?_
    refine lv_istore (lv' := [(5, .int 0), (4, .int 0), (0, .ref (a 0)), (1, .int p1), (2, .int p2), (3, .int p3)]) E.ex E.by dX12_stepAlike_23 hl (by decide) rfl (fun ls hl => ?_)
    refine lpW_ind (fun t1 : Int32 × Int32 => ∀ (H : Heap) (locs : List Loc) (ls : Array Slot), kG D (va_A (wM kc a σ) s.heap.size) s (wM kc a σ) H locs → lv_has ls 6 [(0, .ref (a 0)), (1, .int p1), (2, .int p2), (3, .int p3), (4, .int t1.1), (5, .int t1.2)] → W p l e _ s m args below meth c H locs _ _ _ (F0 m 25 ls [])) (fun P25 IH25 t1 h H locs ls G hl => ?_) _ h _ _ _ G (lv_sub hl [2, 3, 4, 5, 1, 0] rfl)
    refine lv_iload E.ex E.by dX12_stepAlike_25 (lv_at hl 5 rfl) ?_
    refine lv_iload_n E.ex E.by dX12_stepAlike_27 rfl (lv_at hl 3 rfl) ?_
    refine lv_icmp_ge (tgt := 86) E.ex E.by dX12_stepAlike_28 (by decide) (fun hc10 => ?_) (fun hc10 => ?_)
    · have h := h.1 hc10
      refine lv_iload E.ex E.by dX12_stepAlike_86 (lv_at hl 4 rfl) ?_
      exact k_ret (wof := (fun _ : Unit => (wM kc a σ))) (u := ()) E G h.1 h.2 (Nat.le_of_ble_eq_true rfl) (Nat.le_of_ble_eq_true rfl) dX12_stepAlike_88
    · have h := h.2 hc10
      refine lv_iload E.ex E.by dX12_stepAlike_31 (lv_at hl 4 rfl) ?_
      refine lv_if_eq (tgt := 86) E.ex E.by dX12_stepAlike_33 (by decide) (fun hc9 => ?_) (fun hc9 => ?_)
      · have h := h.1 hc9
        refine lv_iload E.ex E.by dX12_stepAlike_86 (lv_at hl 4 rfl) ?_
        exact k_ret (wof := (fun _ : Unit => (wM kc a σ))) (u := ()) E G h.1 h.2 (Nat.le_of_ble_eq_true rfl) (Nat.le_of_ble_eq_true rfl) dX12_stepAlike_88
      · have h := h.2 hc9
        refine lv_aload_n E.ex E.by dX12_stepAlike_36 rfl (lv_at hl 0 rfl) ?_
        refine lv_iload_n E.ex E.by dX12_stepAlike_37 rfl (lv_at hl 1 rfl) ?_
        refine lv_aload_n E.ex E.by dX12_stepAlike_38 rfl (lv_at hl 0 rfl) ?_
        refine lv_iload E.ex E.by dX12_stepAlike_39 (lv_at hl 5 rfl) ?_
        refine k_cVi (X := []) (w := (wM kc a σ)) (Z := []) (wnew := (fun _ : Unit => (wM kc a σ))) (As := [.int t1.2]) (rest := [.int p1, .ref (a 0)]) E (List.append_nil _).symm G (c_X12_statesOf l D kc _ _ _ _ h) gX12_stepAlike_X12_statesOf rfl ⟨rfl, rfl⟩ hd_X12_statesOf_v ⟨rfl, rfl⟩ 0 (gM_0 _ _ _) rfl rfl hl rfl rfl dX12_stepAlike_41 ⟨rfl, rfl⟩ (fun _ => (List.append_nil _).symm) (fun r2 _u41 hq H locs G => ?_)
        have h := hq
        refine k_cVi (X := []) (w := (wM kc a σ)) (Z := []) (wnew := (fun _ : Unit => (wM kc a σ))) (As := [.int p1, .int r2]) (rest := []) E (List.append_nil _).symm G (c_X12_weightInto l D kc _ _ _ _ _ h) gX12_stepAlike_X12_weightInto rfl ⟨rfl, rfl⟩ hd_X12_weightInto_v ⟨rfl, rfl⟩ 0 (gM_0 _ _ _) rfl rfl hl rfl rfl dX12_stepAlike_44 ⟨rfl, rfl⟩ (fun _ => (List.append_nil _).symm) (fun r3 _u44 hq H locs G => ?_)
        have h := hq
        refine lv_aload_n E.ex E.by dX12_stepAlike_47 rfl (lv_at hl 0 rfl) ?_
        refine lv_iload_n E.ex E.by dX12_stepAlike_48 rfl (lv_at hl 2 rfl) ?_
        refine k_cVi (X := []) (w := (wM kc a σ)) (Z := []) (wnew := (fun _ : Unit => (wM kc a σ))) (As := [.int p2]) (rest := [.int r3]) E (List.append_nil _).symm G (c_X12_sumOf l D kc _ _ _ _ h) gX12_stepAlike_X12_sumOf rfl ⟨rfl, rfl⟩ hd_X12_sumOf_v ⟨rfl, rfl⟩ 0 (gM_0 _ _ _) rfl rfl hl rfl rfl dX12_stepAlike_49 ⟨rfl, rfl⟩ (fun _ => (List.append_nil _).symm) (fun r4 _u49 hq H locs G => ?_)
        have h := hq
        refine lv_imul E.ex E.by dX12_stepAlike_52 ?_
        refine lv_aload_n E.ex E.by dX12_stepAlike_53 rfl (lv_at hl 0 rfl) ?_
        refine lv_iload_n E.ex E.by dX12_stepAlike_54 rfl (lv_at hl 2 rfl) ?_
        refine lv_aload_n E.ex E.by dX12_stepAlike_55 rfl (lv_at hl 0 rfl) ?_
        refine lv_iload E.ex E.by dX12_stepAlike_56 (lv_at hl 5 rfl) ?_
        refine k_cVi (X := []) (w := (wM kc a σ)) (Z := []) (wnew := (fun _ : Unit => (wM kc a σ))) (As := [.int t1.2]) (rest := [.int p2, .ref (a 0), .int (r3 * r4)]) E (List.append_nil _).symm G (c_X12_statesOf l D kc _ _ _ _ h) gX12_stepAlike_X12_statesOf rfl ⟨rfl, rfl⟩ hd_X12_statesOf_v ⟨rfl, rfl⟩ 0 (gM_0 _ _ _) rfl rfl hl rfl rfl dX12_stepAlike_58 ⟨rfl, rfl⟩ (fun _ => (List.append_nil _).symm) (fun r5 _u58 hq H locs G => ?_)
        have h := hq
        refine k_cVi (X := []) (w := (wM kc a σ)) (Z := []) (wnew := (fun _ : Unit => (wM kc a σ))) (As := [.int p2, .int r5]) (rest := [.int (r3 * r4)]) E (List.append_nil _).symm G (c_X12_weightInto l D kc _ _ _ _ _ h) gX12_stepAlike_X12_weightInto rfl ⟨rfl, rfl⟩ hd_X12_weightInto_v ⟨rfl, rfl⟩ 0 (gM_0 _ _ _) rfl rfl hl rfl rfl dX12_stepAlike_61 ⟨rfl, rfl⟩ (fun _ => (List.append_nil _).symm) (fun r6 _u61 hq H locs G => ?_)
        have h := hq
        refine lv_aload_n E.ex E.by dX12_stepAlike_64 rfl (lv_at hl 0 rfl) ?_
        refine lv_iload_n E.ex E.by dX12_stepAlike_65 rfl (lv_at hl 1 rfl) ?_
        refine k_cVi (X := []) (w := (wM kc a σ)) (Z := []) (wnew := (fun _ : Unit => (wM kc a σ))) (As := [.int p1]) (rest := [.int r6, .int (r3 * r4)]) E (List.append_nil _).symm G (c_X12_sumOf l D kc _ _ _ _ h) gX12_stepAlike_X12_sumOf rfl ⟨rfl, rfl⟩ hd_X12_sumOf_v ⟨rfl, rfl⟩ 0 (gM_0 _ _ _) rfl rfl hl rfl rfl dX12_stepAlike_66 ⟨rfl, rfl⟩ (fun _ => (List.append_nil _).symm) (fun r7 _u66 hq H locs G => ?_)
        have h := hq
        refine lv_imul E.ex E.by dX12_stepAlike_69 ?_
        refine lv_icmp_ne (tgt := 77) E.ex E.by dX12_stepAlike_70 (by decide) (fun hc8 => ?_) (fun hc8 => ?_)
        · have h := h.1 hc8
          refine lv_iconst (v := 0) E.ex E.by dX12_stepAlike_77 (by decide) ?_
          refine lv_istore (lv' := [(4, .int 0), (0, .ref (a 0)), (1, .int p1), (2, .int p2), (3, .int p3), (5, .int t1.2)]) E.ex E.by dX12_stepAlike_78 hl (by decide) rfl (fun ls hl => ?_)
          refine lv_iinc (k := 5) (v := t1.2 + 1) (lv' := [(5, .int (t1.2 + 1)), (4, .int 0), (0, .ref (a 0)), (1, .int p1), (2, .int p2), (3, .int p3)]) E.ex E.by dX12_stepAlike_80 hl rfl (k_inc1 _) (by decide) rfl (fun ls hl => ?_)
          refine lv_goto (tgt := 25) E.ex E.by dX12_stepAlike_83 (by decide) ?_
          exact IH25 _ h _ _ _ G (lv_sub hl [2, 3, 4, 5, 1, 0] rfl)
        · have h := h.2 hc8
          refine lv_iconst (v := 1) E.ex E.by dX12_stepAlike_73 (by decide) ?_
          refine lv_goto (tgt := 78) E.ex E.by dX12_stepAlike_74 (by decide) ?_
          refine lv_istore (lv' := [(4, .int 1), (0, .ref (a 0)), (1, .int p1), (2, .int p2), (3, .int p3), (5, .int t1.2)]) E.ex E.by dX12_stepAlike_78 hl (by decide) rfl (fun ls hl => ?_)
          refine lv_iinc (k := 5) (v := t1.2 + 1) (lv' := [(5, .int (t1.2 + 1)), (4, .int 1), (0, .ref (a 0)), (1, .int p1), (2, .int p2), (3, .int p3)]) E.ex E.by dX12_stepAlike_80 hl rfl (k_inc1 _) (by decide) rfl (fun ls hl => ?_)
          refine lv_goto (tgt := 25) E.ex E.by dX12_stepAlike_83 (by decide) ?_
          exact IH25 _ h _ _ _ G (lv_sub hl [2, 3, 4, 5, 1, 0] rfl)
  · have h := h.2 hc21
    refine lv_iconst (v := 1) E.ex E.by dX12_stepAlike_15 (by decide) ?_
    refine lv_goto (tgt := 20) E.ex E.by dX12_stepAlike_16 (by decide) ?_
    refine lv_istore (lv' := [(4, .int 1), (0, .ref (a 0)), (1, .int p1), (2, .int p2), (3, .int p3)]) E.ex E.by dX12_stepAlike_20 hl (by decide) rfl (fun ls hl => ?_)
    refine lv_iconst (v := 0) E.ex E.by dX12_stepAlike_22 (by decide) ?_
    refine lv_istore (lv' := [(5, .int 0), (4, .int 1), (0, .ref (a 0)), (1, .int p1), (2, .int p2), (3, .int p3)]) E.ex E.by dX12_stepAlike_23 hl (by decide) rfl (fun ls hl => ?_)
    refine lpW_ind (fun t11 : Int32 × Int32 => ∀ (H : Heap) (locs : List Loc) (ls : Array Slot), kG D (va_A (wM kc a σ) s.heap.size) s (wM kc a σ) H locs → lv_has ls 6 [(0, .ref (a 0)), (1, .int p1), (2, .int p2), (3, .int p3), (4, .int t11.1), (5, .int t11.2)] → W p l e _ s m args below meth c H locs _ _ _ (F0 m 25 ls [])) (fun P25 IH25 t11 h H locs ls G hl => ?_) _ h _ _ _ G (lv_sub hl [2, 3, 4, 5, 1, 0] rfl)
    refine lv_iload E.ex E.by dX12_stepAlike_25 (lv_at hl 5 rfl) ?_
    refine lv_iload_n E.ex E.by dX12_stepAlike_27 rfl (lv_at hl 3 rfl) ?_
    refine lv_icmp_ge (tgt := 86) E.ex E.by dX12_stepAlike_28 (by decide) (fun hc20 => ?_) (fun hc20 => ?_)
    · have h := h.1 hc20
      refine lv_iload E.ex E.by dX12_stepAlike_86 (lv_at hl 4 rfl) ?_
      exact k_ret (wof := (fun _ : Unit => (wM kc a σ))) (u := ()) E G h.1 h.2 (Nat.le_of_ble_eq_true rfl) (Nat.le_of_ble_eq_true rfl) dX12_stepAlike_88
    · have h := h.2 hc20
      refine lv_iload E.ex E.by dX12_stepAlike_31 (lv_at hl 4 rfl) ?_
      refine lv_if_eq (tgt := 86) E.ex E.by dX12_stepAlike_33 (by decide) (fun hc19 => ?_) (fun hc19 => ?_)
      · have h := h.1 hc19
        refine lv_iload E.ex E.by dX12_stepAlike_86 (lv_at hl 4 rfl) ?_
        exact k_ret (wof := (fun _ : Unit => (wM kc a σ))) (u := ()) E G h.1 h.2 (Nat.le_of_ble_eq_true rfl) (Nat.le_of_ble_eq_true rfl) dX12_stepAlike_88
      · have h := h.2 hc19
        refine lv_aload_n E.ex E.by dX12_stepAlike_36 rfl (lv_at hl 0 rfl) ?_
        refine lv_iload_n E.ex E.by dX12_stepAlike_37 rfl (lv_at hl 1 rfl) ?_
        refine lv_aload_n E.ex E.by dX12_stepAlike_38 rfl (lv_at hl 0 rfl) ?_
        refine lv_iload E.ex E.by dX12_stepAlike_39 (lv_at hl 5 rfl) ?_
        refine k_cVi (X := []) (w := (wM kc a σ)) (Z := []) (wnew := (fun _ : Unit => (wM kc a σ))) (As := [.int t11.2]) (rest := [.int p1, .ref (a 0)]) E (List.append_nil _).symm G (c_X12_statesOf l D kc _ _ _ _ h) gX12_stepAlike_X12_statesOf rfl ⟨rfl, rfl⟩ hd_X12_statesOf_v ⟨rfl, rfl⟩ 0 (gM_0 _ _ _) rfl rfl hl rfl rfl dX12_stepAlike_41 ⟨rfl, rfl⟩ (fun _ => (List.append_nil _).symm) (fun r12 _u41 hq H locs G => ?_)
        have h := hq
        refine k_cVi (X := []) (w := (wM kc a σ)) (Z := []) (wnew := (fun _ : Unit => (wM kc a σ))) (As := [.int p1, .int r12]) (rest := []) E (List.append_nil _).symm G (c_X12_weightInto l D kc _ _ _ _ _ h) gX12_stepAlike_X12_weightInto rfl ⟨rfl, rfl⟩ hd_X12_weightInto_v ⟨rfl, rfl⟩ 0 (gM_0 _ _ _) rfl rfl hl rfl rfl dX12_stepAlike_44 ⟨rfl, rfl⟩ (fun _ => (List.append_nil _).symm) (fun r13 _u44 hq H locs G => ?_)
        have h := hq
        refine lv_aload_n E.ex E.by dX12_stepAlike_47 rfl (lv_at hl 0 rfl) ?_
        refine lv_iload_n E.ex E.by dX12_stepAlike_48 rfl (lv_at hl 2 rfl) ?_
        refine k_cVi (X := []) (w := (wM kc a σ)) (Z := []) (wnew := (fun _ : Unit => (wM kc a σ))) (As := [.int p2]) (rest := [.int r13]) E (List.append_nil _).symm G (c_X12_sumOf l D kc _ _ _ _ h) gX12_stepAlike_X12_sumOf rfl ⟨rfl, rfl⟩ hd_X12_sumOf_v ⟨rfl, rfl⟩ 0 (gM_0 _ _ _) rfl rfl hl rfl rfl dX12_stepAlike_49 ⟨rfl, rfl⟩ (fun _ => (List.append_nil _).symm) (fun r14 _u49 hq H locs G => ?_)
        have h := hq
        refine lv_imul E.ex E.by dX12_stepAlike_52 ?_
        refine lv_aload_n E.ex E.by dX12_stepAlike_53 rfl (lv_at hl 0 rfl) ?_
        refine lv_iload_n E.ex E.by dX12_stepAlike_54 rfl (lv_at hl 2 rfl) ?_
        refine lv_aload_n E.ex E.by dX12_stepAlike_55 rfl (lv_at hl 0 rfl) ?_
        refine lv_iload E.ex E.by dX12_stepAlike_56 (lv_at hl 5 rfl) ?_
        refine k_cVi (X := []) (w := (wM kc a σ)) (Z := []) (wnew := (fun _ : Unit => (wM kc a σ))) (As := [.int t11.2]) (rest := [.int p2, .ref (a 0), .int (r13 * r14)]) E (List.append_nil _).symm G (c_X12_statesOf l D kc _ _ _ _ h) gX12_stepAlike_X12_statesOf rfl ⟨rfl, rfl⟩ hd_X12_statesOf_v ⟨rfl, rfl⟩ 0 (gM_0 _ _ _) rfl rfl hl rfl rfl dX12_stepAlike_58 ⟨rfl, rfl⟩ (fun _ => (List.append_nil _).symm) (fun r15 _u58 hq H locs G => ?_)
        have h := hq
        refine k_cVi (X := []) (w := (wM kc a σ)) (Z := []) (wnew := (fun _ : Unit => (wM kc a σ))) (As := [.int p2, .int r15]) (rest := [.int (r13 * r14)]) E (List.append_nil _).symm G (c_X12_weightInto l D kc _ _ _ _ _ h) gX12_stepAlike_X12_weightInto rfl ⟨rfl, rfl⟩ hd_X12_weightInto_v ⟨rfl, rfl⟩ 0 (gM_0 _ _ _) rfl rfl hl rfl rfl dX12_stepAlike_61 ⟨rfl, rfl⟩ (fun _ => (List.append_nil _).symm) (fun r16 _u61 hq H locs G => ?_)
        have h := hq
        refine lv_aload_n E.ex E.by dX12_stepAlike_64 rfl (lv_at hl 0 rfl) ?_
        refine lv_iload_n E.ex E.by dX12_stepAlike_65 rfl (lv_at hl 1 rfl) ?_
        refine k_cVi (X := []) (w := (wM kc a σ)) (Z := []) (wnew := (fun _ : Unit => (wM kc a σ))) (As := [.int p1]) (rest := [.int r16, .int (r13 * r14)]) E (List.append_nil _).symm G (c_X12_sumOf l D kc _ _ _ _ h) gX12_stepAlike_X12_sumOf rfl ⟨rfl, rfl⟩ hd_X12_sumOf_v ⟨rfl, rfl⟩ 0 (gM_0 _ _ _) rfl rfl hl rfl rfl dX12_stepAlike_66 ⟨rfl, rfl⟩ (fun _ => (List.append_nil _).symm) (fun r17 _u66 hq H locs G => ?_)
        have h := hq
        refine lv_imul E.ex E.by dX12_stepAlike_69 ?_
        refine lv_icmp_ne (tgt := 77) E.ex E.by dX12_stepAlike_70 (by decide) (fun hc18 => ?_) (fun hc18 => ?_)
        · have h := h.1 hc18
          refine lv_iconst (v := 0) E.ex E.by dX12_stepAlike_77 (by decide) ?_
          refine lv_istore (lv' := [(4, .int 0), (0, .ref (a 0)), (1, .int p1), (2, .int p2), (3, .int p3), (5, .int t11.2)]) E.ex E.by dX12_stepAlike_78 hl (by decide) rfl (fun ls hl => ?_)
          refine lv_iinc (k := 5) (v := t11.2 + 1) (lv' := [(5, .int (t11.2 + 1)), (4, .int 0), (0, .ref (a 0)), (1, .int p1), (2, .int p2), (3, .int p3)]) E.ex E.by dX12_stepAlike_80 hl rfl (k_inc1 _) (by decide) rfl (fun ls hl => ?_)
          refine lv_goto (tgt := 25) E.ex E.by dX12_stepAlike_83 (by decide) ?_
          exact IH25 _ h _ _ _ G (lv_sub hl [2, 3, 4, 5, 1, 0] rfl)
        · have h := h.2 hc18
          refine lv_iconst (v := 1) E.ex E.by dX12_stepAlike_73 (by decide) ?_
          refine lv_goto (tgt := 78) E.ex E.by dX12_stepAlike_74 (by decide) ?_
          refine lv_istore (lv' := [(4, .int 1), (0, .ref (a 0)), (1, .int p1), (2, .int p2), (3, .int p3), (5, .int t11.2)]) E.ex E.by dX12_stepAlike_78 hl (by decide) rfl (fun ls hl => ?_)
          refine lv_iinc (k := 5) (v := t11.2 + 1) (lv' := [(5, .int (t11.2 + 1)), (4, .int 1), (0, .ref (a 0)), (1, .int p1), (2, .int p2), (3, .int p3)]) E.ex E.by dX12_stepAlike_80 hl rfl (k_inc1 _) (by decide) rfl (fun ls hl => ?_)
          refine lv_goto (tgt := 25) E.ex E.by dX12_stepAlike_83 (by decide) ?_
          exact IH25 _ h _ _ _ G (lv_sub hl [2, 3, 4, 5, 1, 0] rfl)
theorem wi_X12_findClasses_X12 : ∀ w ∈ wsX120, w ∈ wsX12_findClasses := fun w h => List.mem_cons_of_mem _ (List.mem_append_right _ (h))
theorem fl_X12_findClasses_X12_0 : Cond.fieldLink RX12 9 (TX12 0).1 (TX12 0).2.1 (TX12 0).2.2.1 ∈ wsX12_findClasses := List.mem_of_getElem? (i := 1) (by decide +kernel)
theorem fl_X12_findClasses_X12_6 : Cond.fieldLink RX12 22 (TX12 6).1 (TX12 6).2.1 (TX12 6).2.2.1 ∈ wsX12_findClasses := List.mem_of_getElem? (i := 3) (by decide +kernel)
theorem fl_X12_findClasses_X12_5 : Cond.fieldLink RX12 19 (TX12 5).1 (TX12 5).2.1 (TX12 5).2.2.1 ∈ wsX12_findClasses := List.mem_of_getElem? (i := 2) (by decide +kernel)
theorem la_X12_findClasses_94 : Cond.methodLink RX12 94 arraycopyName ∈ wsX12_findClasses := List.mem_of_getElem? (i := 4) (by decide +kernel)
theorem lan_X12_findClasses : Cond.native arraycopyName ∈ wsX12_findClasses := List.mem_of_getElem? (i := 5) (by decide +kernel)
theorem las_X12_findClasses : Cond.static arraycopyName ∈ wsX12_findClasses := List.mem_of_getElem? (i := 6) (by decide +kernel)
theorem lai_X12_findClasses : Cond.initialized "java/lang/System" ∈ wsX12_findClasses := List.mem_of_getElem? (i := 7) (by decide +kernel)
theorem hd_X12_stepAlike_v : yX12_stepAlike.cls = RX12 ∧ yX12_stepAlike.cls ≠ "java/lang/invoke/MethodHandle" ∧ yX12_stepAlike.cls ≠ "java/lang/invoke/VarHandle" ∧ (parseMethodDescriptor yX12_stepAlike.desc).map (fun d => d.parameters.length) = some 3 := by decide +kernel
def wp_X12_findClasses_J209 (v1j209 : Int32) (v2j209 : Int32) (v3j209 : Int32) (σ'j209 : US) (P128 : (Int32 × Int32 × US) → Prop) (P139 : (Int32 × Int32 × US) → Prop) (Q : Int32 → US → Prop) : Prop := vp_in v3j209 8 ∧ ((¬ (aA σ'j209 4 (v3j209).toNatClampNeg) = v1j209 → ∀ x3 : Int32, x3 = v1j209 + 0 → P139 (x3, v3j209 + 1, σ'j209)) ∧ ((aA σ'j209 4 (v3j209).toNatClampNeg) = v1j209 → ∀ x4 : Int32, x4 = v1j209 + 1 → P139 (x4, v3j209 + 1, σ'j209)))
def wp_X12_findClasses_L159 (v1 : Int32) (v2 : Int32) (v3 : Int32) (P4 : (Int32 × Int32 × US) → Prop) (P128 : (Int32 × Int32 × US) → Prop) (P139 : (Int32 × Int32 × US) → Prop) (Q : Int32 → US → Prop) (P159 : (Int32 × US) → Prop) (t159 : Int32 × US) : Prop := (v3 ≤ t159.1 → wp_X12_findClasses_J209 v1 v2 v3 t159.2 P128 P139 Q) ∧ (¬ v3 ≤ t159.1 → vp_in v3 8 ∧ ((¬ (aA t159.2 4 (v3).toNatClampNeg) = v1 → wp_X12_findClasses_J209 v1 v2 v3 t159.2 P128 P139 Q) ∧ ((aA t159.2 4 (v3).toNatClampNeg) = v1 → wp_X12_stepAlike v3 t159.1 v2 t159.2 (fun (r6 : Int32) => (r6 = 0 → vp_in v3 8 ∧ (∀ z7 : US, z7 = uA t159.2 4 (v3).toNatClampNeg v1 → P159 (t159.1 + 1, z7))) ∧ (¬ r6 = 0 → vp_in t159.1 8 ∧ (vp_in v3 8 ∧ (∀ z8 : US, z8 = uA t159.2 4 (v3).toNatClampNeg (aA t159.2 4 (t159.1).toNatClampNeg) → P159 (t159.1 + 1, z8))))))))
def wp_X12_findClasses_L139 (v2 : Int32) (P4 : (Int32 × Int32 × US) → Prop) (P128 : (Int32 × Int32 × US) → Prop) (Q : Int32 → US → Prop) (P139 : (Int32 × Int32 × US) → Prop) (t139 : Int32 × Int32 × US) : Prop := vp_in 0 81 ∧ (((aA t139.2.2 0 (0 : Int32).toNatClampNeg) ≤ t139.2.1 → (¬ (0 : Int32) < 0) ∧ (¬ (0 : Int32) < 0) ∧ (¬ (8 : Int32) < 0) ∧ (0 : Int32).toNatClampNeg + (8 : Int32).toNatClampNeg ≤ 8 ∧ (0 : Int32).toNatClampNeg + (8 : Int32).toNatClampNeg ≤ 8 ∧ (∀ z1 : US, z1 = sA t139.2.2 3 (va_cpy (aA t139.2.2 4) (aA t139.2.2 3) (0 : Int32).toNatClampNeg (0 : Int32).toNatClampNeg (8 : Int32).toNatClampNeg) → P128 (t139.1, v2, z1))) ∧ (¬ (aA t139.2.2 0 (0 : Int32).toNatClampNeg) ≤ t139.2.1 → vp_in t139.2.1 8 ∧ (∀ z2 : US, z2 = uA t139.2.2 4 (t139.2.1).toNatClampNeg t139.1 → lpW (wp_X12_findClasses_L159 t139.1 v2 t139.2.1 P4 P128 P139 Q) (0, z2))))
def wp_X12_findClasses_L128 (P4 : (Int32 × Int32 × US) → Prop) (Q : Int32 → US → Prop) (P128 : (Int32 × Int32 × US) → Prop) (t128 : Int32 × Int32 × US) : Prop := (t128.2.1 = t128.1 → Q t128.1 t128.2.2) ∧ (¬ t128.2.1 = t128.1 → lpW (wp_X12_findClasses_L139 t128.1 P4 P128 Q) (0, 0, t128.2.2))
def wp_X12_findClasses_J102 (v1j102 : Int32) (v2j102 : Int32) (σ'j102 : US) (P4 : (Int32 × Int32 × US) → Prop) (Q : Int32 → US → Prop) : Prop := vp_in v2j102 8 ∧ ((¬ (aA σ'j102 3 (v2j102).toNatClampNeg) = v1j102 → ∀ x55 : Int32, x55 = v1j102 + 0 → P4 (x55, v2j102 + 1, σ'j102)) ∧ ((aA σ'j102 3 (v2j102).toNatClampNeg) = v1j102 → ∀ x56 : Int32, x56 = v1j102 + 1 → P4 (x56, v2j102 + 1, σ'j102)))
def wp_X12_findClasses_L23 (v1 : Int32) (v2 : Int32) (P4 : (Int32 × Int32 × US) → Prop) (Q : Int32 → US → Prop) (P23 : (Int32 × US) → Prop) (t23 : Int32 × US) : Prop := (v2 ≤ t23.1 → wp_X12_findClasses_J102 v1 v2 t23.2 P4 Q) ∧ (¬ v2 ≤ t23.1 → vp_in v2 8 ∧ ((¬ (aA t23.2 3 (v2).toNatClampNeg) = v1 → wp_X12_findClasses_J102 v1 v2 t23.2 P4 Q) ∧ ((aA t23.2 3 (v2).toNatClampNeg) = v1 → vp_in (65 + v2) 81 ∧ (vp_in (65 + t23.1) 81 ∧ ((¬ (aA t23.2 0 (65 + v2).toNatClampNeg) = (aA t23.2 0 (65 + t23.1).toNatClampNeg) → vp_in v2 8 ∧ (∀ z58 : US, z58 = uA t23.2 3 (v2).toNatClampNeg v1 → P23 (t23.1 + 1, z58))) ∧ ((aA t23.2 0 (65 + v2).toNatClampNeg) = (aA t23.2 0 (65 + t23.1).toNatClampNeg) → vp_in (73 + v2) 81 ∧ (vp_in (73 + t23.1) 81 ∧ ((¬ (aA t23.2 0 (73 + v2).toNatClampNeg) = (aA t23.2 0 (73 + t23.1).toNatClampNeg) → vp_in v2 8 ∧ (∀ z59 : US, z59 = uA t23.2 3 (v2).toNatClampNeg v1 → P23 (t23.1 + 1, z59))) ∧ ((aA t23.2 0 (73 + v2).toNatClampNeg) = (aA t23.2 0 (73 + t23.1).toNatClampNeg) → vp_in t23.1 8 ∧ (vp_in v2 8 ∧ (∀ z60 : US, z60 = uA t23.2 3 (v2).toNatClampNeg (aA t23.2 3 (t23.1).toNatClampNeg) → P23 (t23.1 + 1, z60))))))))))))
def wp_X12_findClasses_L4 (Q : Int32 → US → Prop) (P4 : (Int32 × Int32 × US) → Prop) (t4 : Int32 × Int32 × US) : Prop := vp_in 0 81 ∧ (((aA t4.2.2 0 (0 : Int32).toNatClampNeg) ≤ t4.2.1 → lpW (wp_X12_findClasses_L128 P4 Q) (t4.1, 0, t4.2.2)) ∧ (¬ (aA t4.2.2 0 (0 : Int32).toNatClampNeg) ≤ t4.2.1 → vp_in t4.2.1 8 ∧ (∀ z54 : US, z54 = uA t4.2.2 3 (t4.2.1).toNatClampNeg t4.1 → lpW (wp_X12_findClasses_L23 t4.1 t4.2.1 P4 Q) (0, z54))))
def wp_X12_findClasses (σ : US) (Q : Int32 → US → Prop) : Prop := lpW (wp_X12_findClasses_L4 Q) (0, 0, σ)
set_option maxRecDepth 100000 in
set_option maxHeartbeats 4000000 in
theorem c_X12_findClasses (l : Launch) (D : va_G) (kc : Nat → ClassId) (a : Nat → Nat)  (σ : US) (Q : Int32 → US → Prop) (h : wp_X12_findClasses σ Q) : kCi l D (tyL kc) yX12_findClasses wsX12_findClasses ({ frames := 4, cells := 0, slots := 0, locals := 94 } : Room) [.ref (a 0)] (wM kc a σ) (fun u : US => (wM kc a u)) 0 0 (fun r u => Q r u) := by
  intro sz
  refine k_begin (cc := cX12_findClasses) (maxL := 5) (ret := (some .int)) (by decide +kernel) rfl rfl (fun p e s m args below meth c hsz E G ls hl => ?_)
  subst hsz
  have hl : lv_has ls 5 [(0, .ref (a 0))] := hl
  refine lv_iconst (v := 0) E.ex E.by dX12_findClasses_0 (by decide) ?_
  refine lv_istore_n (lv' := [(1, .int 0), (0, .ref (a 0))]) E.ex E.by dX12_findClasses_1 rfl hl (by decide) rfl (fun ls hl => ?_)
  refine lv_iconst (v := 0) E.ex E.by dX12_findClasses_2 (by decide) ?_
  refine lv_istore_n (lv' := [(2, .int 0), (1, .int 0), (0, .ref (a 0))]) E.ex E.by dX12_findClasses_3 rfl hl (by decide) rfl (fun ls hl => ?_)
  refine lpW_ind (fun t1 : Int32 × Int32 × US => ∀ (H : Heap) (locs : List Loc) (ls : Array Slot), kG D (va_A (wM kc a σ) s.heap.size) s (wM kc a t1.2.2) H locs → lv_has ls 5 [(0, .ref (a 0)), (1, .int t1.1), (2, .int t1.2.1)] → W p l e _ s m args below meth c H locs _ _ _ (F0 m 4 ls [])) (fun P4 IH4 t1 h H locs ls G hl => ?_) _ h _ _ _ G (lv_sub hl [2, 1, 0] rfl)
  have K102 : ∀ (v1j102 : Int32) (v2j102 : Int32) (σ'j102 : US) (H : Heap) (locs : List Loc) (ls : Array Slot), kG D (va_A (wM kc a σ) s.heap.size) s (wM kc a σ'j102) H locs → lv_has ls 5 [(0, .ref (a 0)), (1, .int v1j102), (2, .int v2j102)] → wp_X12_findClasses_J102 v1j102 v2j102 σ'j102 P4 Q → W p l e ({ frames := 4, cells := 0, slots := 0, locals := 94 } : Room) s m args below meth c H locs 0 0 (MQ below (va_Qi (fun r u => Q r u) (kB D (wM kc a σ) s.heap.size (fun u : US => (wM kc a u))) (va_A (wM kc a σ) s.heap.size)) args s 0 0 (va_A (wM kc a σ) s.heap.size)) (F0 m 102 ls []) := by
    intro v1j102 v2j102 σ'j102 H locs ls G hl h
    refine lv_iload_n E.ex E.by dX12_findClasses_102 rfl (lv_at hl 1 rfl) ?_
    refine lv_aload_n E.ex E.by dX12_findClasses_103 rfl (lv_at hl 0 rfl) ?_
    refine k_get E G wi_X12_findClasses_X12 0 (gM_0 _ _ _) rfl 5 rfl fl_X12_findClasses_X12_5 (v := .ref (a 4)) rfl dX12_findClasses_104 ?_
    refine lv_iload_n E.ex E.by dX12_findClasses_107 rfl (lv_at hl 2 rfl) ?_
    refine k_iald E G 4 (gM_4 _ _ _) 0 rfl h.1 dX12_findClasses_108 ?_
    have h := h.2
    refine lv_iload_n E.ex E.by dX12_findClasses_109 rfl (lv_at hl 1 rfl) ?_
    refine lv_icmp_ne (tgt := 117) E.ex E.by dX12_findClasses_110 (by decide) (fun hc30 => ?_) (fun hc30 => ?_)
    · have h := h.1 hc30
      refine lv_iconst (v := 0) E.ex E.by dX12_findClasses_117 (by decide) ?_
      refine lv_iadd E.ex E.by dX12_findClasses_118 ?_
      refine lv_topi (fun x28 ex28 => ?_)
      have h := h x28 ex28
      refine lv_istore_n (lv' := [(1, .int x28), (0, .ref (a 0)), (2, .int v2j102)]) E.ex E.by dX12_findClasses_119 rfl hl (by decide) rfl (fun ls hl => ?_)
      refine lv_iinc (k := 2) (v := v2j102 + 1) (lv' := [(2, .int (v2j102 + 1)), (1, .int x28), (0, .ref (a 0))]) E.ex E.by dX12_findClasses_120 hl rfl (k_inc1 _) (by decide) rfl (fun ls hl => ?_)
      refine lv_goto (tgt := 4) E.ex E.by dX12_findClasses_123 (by decide) ?_
      exact IH4 _ h _ _ _ G (lv_sub hl [2, 1, 0] rfl)
    · have h := h.2 hc30
      refine lv_iconst (v := 1) E.ex E.by dX12_findClasses_113 (by decide) ?_
      refine lv_goto (tgt := 118) E.ex E.by dX12_findClasses_114 (by decide) ?_
      refine lv_iadd E.ex E.by dX12_findClasses_118 ?_
      refine lv_topi (fun x29 ex29 => ?_)
      have h := h x29 ex29
      refine lv_istore_n (lv' := [(1, .int x29), (0, .ref (a 0)), (2, .int v2j102)]) E.ex E.by dX12_findClasses_119 rfl hl (by decide) rfl (fun ls hl => ?_)
      refine lv_iinc (k := 2) (v := v2j102 + 1) (lv' := [(2, .int (v2j102 + 1)), (1, .int x29), (0, .ref (a 0))]) E.ex E.by dX12_findClasses_120 hl rfl (k_inc1 _) (by decide) rfl (fun ls hl => ?_)
      refine lv_goto (tgt := 4) E.ex E.by dX12_findClasses_123 (by decide) ?_
      exact IH4 _ h _ _ _ G (lv_sub hl [2, 1, 0] rfl)
  refine lv_iload_n E.ex E.by dX12_findClasses_4 rfl (lv_at hl 2 rfl) ?_
  refine lv_aload_n E.ex E.by dX12_findClasses_5 rfl (lv_at hl 0 rfl) ?_
  refine k_get E G wi_X12_findClasses_X12 0 (gM_0 _ _ _) rfl 0 rfl fl_X12_findClasses_X12_0 (v := .ref (a 1)) rfl dX12_findClasses_6 ?_
  refine lv_iconst (v := 0) E.ex E.by dX12_findClasses_9 (by decide) ?_
  refine k_iald E G 1 (gM_1 _ _ _) 0 rfl h.1 dX12_findClasses_10 ?_
  have h := h.2
  refine lv_icmp_ge (tgt := 126) E.ex E.by dX12_findClasses_11 (by decide) (fun hc27 => ?_) (fun hc27 => ?_)
  · have h := h.1 hc27
    refine lv_iconst (v := 0) E.ex E.by dX12_findClasses_126 (by decide) ?_
    refine lv_istore_n (lv' := [(2, .int 0), (0, .ref (a 0)), (1, .int t1.1)]) E.ex E.by dX12_findClasses_127 rfl hl (by decide) rfl (fun ls hl => ?_)
    refine lpW_ind (fun t2 : Int32 × Int32 × US => ∀ (H : Heap) (locs : List Loc) (ls : Array Slot), kG D (va_A (wM kc a σ) s.heap.size) s (wM kc a t2.2.2) H locs → lv_has ls 5 [(0, .ref (a 0)), (1, .int t2.1), (2, .int t2.2.1)] → W p l e _ s m args below meth c H locs _ _ _ (F0 m 128 ls [])) (fun P128 IH128 t2 h H locs ls G hl => ?_) _ h _ _ _ G (lv_sub hl [1, 2, 0] rfl)
    refine lv_iload_n E.ex E.by dX12_findClasses_128 rfl (lv_at hl 2 rfl) ?_
    refine lv_iload_n E.ex E.by dX12_findClasses_129 rfl (lv_at hl 1 rfl) ?_
    refine lv_icmp_eq (tgt := 251) E.ex E.by dX12_findClasses_130 (by decide) (fun hc17 => ?_) (fun hc17 => ?_)
    · have h := h.1 hc17
      refine lv_iload_n E.ex E.by dX12_findClasses_251 rfl (lv_at hl 1 rfl) ?_
      exact k_ret (wof := (fun u : US => (wM kc a u))) (u := t2.2.2) E G rfl h (Nat.le_of_ble_eq_true rfl) (Nat.le_of_ble_eq_true rfl) dX12_findClasses_252
    · have h := h.2 hc17
      refine lv_iload_n E.ex E.by dX12_findClasses_133 rfl (lv_at hl 1 rfl) ?_
      refine lv_istore_n (lv' := [(2, .int t2.1), (0, .ref (a 0)), (1, .int t2.1)]) E.ex E.by dX12_findClasses_134 rfl hl (by decide) rfl (fun ls hl => ?_)
      refine lv_iconst (v := 0) E.ex E.by dX12_findClasses_135 (by decide) ?_
      refine lv_istore_n (lv' := [(1, .int 0), (2, .int t2.1), (0, .ref (a 0))]) E.ex E.by dX12_findClasses_136 rfl hl (by decide) rfl (fun ls hl => ?_)
      refine lv_iconst (v := 0) E.ex E.by dX12_findClasses_137 (by decide) ?_
      refine lv_istore_n (lv' := [(3, .int 0), (1, .int 0), (2, .int t2.1), (0, .ref (a 0))]) E.ex E.by dX12_findClasses_138 rfl hl (by decide) rfl (fun ls hl => ?_)
      refine lpW_ind (fun t3 : Int32 × Int32 × US => ∀ (H : Heap) (locs : List Loc) (ls : Array Slot), kG D (va_A (wM kc a σ) s.heap.size) s (wM kc a t3.2.2) H locs → lv_has ls 5 [(0, .ref (a 0)), (1, .int t3.1), (2, .int t2.1), (3, .int t3.2.1)] → W p l e _ s m args below meth c H locs _ _ _ (F0 m 139 ls [])) (fun P139 IH139 t3 h H locs ls G hl => ?_) _ h _ _ _ G (lv_sub hl [3, 1, 2, 0] rfl)
      have K209 : ∀ (v1j209 : Int32) (v3j209 : Int32) (σ'j209 : US) (H : Heap) (locs : List Loc) (ls : Array Slot), kG D (va_A (wM kc a σ) s.heap.size) s (wM kc a σ'j209) H locs → lv_has ls 5 [(0, .ref (a 0)), (1, .int v1j209), (2, .int t2.1), (3, .int v3j209)] → wp_X12_findClasses_J209 v1j209 t2.1 v3j209 σ'j209 P128 P139 Q → W p l e ({ frames := 4, cells := 0, slots := 0, locals := 94 } : Room) s m args below meth c H locs 0 0 (MQ below (va_Qi (fun r u => Q r u) (kB D (wM kc a σ) s.heap.size (fun u : US => (wM kc a u))) (va_A (wM kc a σ) s.heap.size)) args s 0 0 (va_A (wM kc a σ) s.heap.size)) (F0 m 209 ls []) := by
        intro v1j209 v3j209 σ'j209 H locs ls G hl h
        refine lv_iload_n E.ex E.by dX12_findClasses_209 rfl (lv_at hl 1 rfl) ?_
        refine lv_aload_n E.ex E.by dX12_findClasses_210 rfl (lv_at hl 0 rfl) ?_
        refine k_get E G wi_X12_findClasses_X12 0 (gM_0 _ _ _) rfl 6 rfl fl_X12_findClasses_X12_6 (v := .ref (a 5)) rfl dX12_findClasses_211 ?_
        refine lv_iload_n E.ex E.by dX12_findClasses_214 rfl (lv_at hl 3 rfl) ?_
        refine k_iald E G 5 (gM_5 _ _ _) 0 rfl h.1 dX12_findClasses_215 ?_
        have h := h.2
        refine lv_iload_n E.ex E.by dX12_findClasses_216 rfl (lv_at hl 1 rfl) ?_
        refine lv_icmp_ne (tgt := 224) E.ex E.by dX12_findClasses_217 (by decide) (fun hc16 => ?_) (fun hc16 => ?_)
        · have h := h.1 hc16
          refine lv_iconst (v := 0) E.ex E.by dX12_findClasses_224 (by decide) ?_
          refine lv_iadd E.ex E.by dX12_findClasses_225 ?_
          refine lv_topi (fun x14 ex14 => ?_)
          have h := h x14 ex14
          refine lv_istore_n (lv' := [(1, .int x14), (0, .ref (a 0)), (2, .int t2.1), (3, .int v3j209)]) E.ex E.by dX12_findClasses_226 rfl hl (by decide) rfl (fun ls hl => ?_)
          refine lv_iinc (k := 3) (v := v3j209 + 1) (lv' := [(3, .int (v3j209 + 1)), (1, .int x14), (0, .ref (a 0)), (2, .int t2.1)]) E.ex E.by dX12_findClasses_227 hl rfl (k_inc1 _) (by decide) rfl (fun ls hl => ?_)
          refine lv_goto (tgt := 139) E.ex E.by dX12_findClasses_230 (by decide) ?_
          exact IH139 _ h _ _ _ G (lv_sub hl [2, 1, 3, 0] rfl)
        · have h := h.2 hc16
          refine lv_iconst (v := 1) E.ex E.by dX12_findClasses_220 (by decide) ?_
          refine lv_goto (tgt := 225) E.ex E.by dX12_findClasses_221 (by decide) ?_
          refine lv_iadd E.ex E.by dX12_findClasses_225 ?_
          refine lv_topi (fun x15 ex15 => ?_)
          have h := h x15 ex15
          refine lv_istore_n (lv' := [(1, .int x15), (0, .ref (a 0)), (2, .int t2.1), (3, .int v3j209)]) E.ex E.by dX12_findClasses_226 rfl hl (by decide) rfl (fun ls hl => ?_)
          refine lv_iinc (k := 3) (v := v3j209 + 1) (lv' := [(3, .int (v3j209 + 1)), (1, .int x15), (0, .ref (a 0)), (2, .int t2.1)]) E.ex E.by dX12_findClasses_227 hl rfl (k_inc1 _) (by decide) rfl (fun ls hl => ?_)
          refine lv_goto (tgt := 139) E.ex E.by dX12_findClasses_230 (by decide) ?_
          exact IH139 _ h _ _ _ G (lv_sub hl [2, 1, 3, 0] rfl)
      refine lv_iload_n E.ex E.by dX12_findClasses_139 rfl (lv_at hl 3 rfl) ?_
      refine lv_aload_n E.ex E.by dX12_findClasses_140 rfl (lv_at hl 0 rfl) ?_
      refine k_get E G wi_X12_findClasses_X12 0 (gM_0 _ _ _) rfl 0 rfl fl_X12_findClasses_X12_0 (v := .ref (a 1)) rfl dX12_findClasses_141 ?_
      refine lv_iconst (v := 0) E.ex E.by dX12_findClasses_144 (by decide) ?_
      refine k_iald E G 1 (gM_1 _ _ _) 0 rfl h.1 dX12_findClasses_145 ?_
      have h := h.2
      refine lv_icmp_ge (tgt := 233) E.ex E.by dX12_findClasses_146 (by decide) (fun hc13 => ?_) (fun hc13 => ?_)
      · have h := h.1 hc13
        refine lv_aload_n E.ex E.by dX12_findClasses_233 rfl (lv_at hl 0 rfl) ?_
        refine k_get E G wi_X12_findClasses_X12 0 (gM_0 _ _ _) rfl 6 rfl fl_X12_findClasses_X12_6 (v := .ref (a 5)) rfl dX12_findClasses_234 ?_
        refine lv_iconst (v := 0) E.ex E.by dX12_findClasses_237 (by decide) ?_
        refine lv_aload_n E.ex E.by dX12_findClasses_238 rfl (lv_at hl 0 rfl) ?_
        refine k_get E G wi_X12_findClasses_X12 0 (gM_0 _ _ _) rfl 5 rfl fl_X12_findClasses_X12_5 (v := .ref (a 4)) rfl dX12_findClasses_239 ?_
        refine lv_iconst (v := 0) E.ex E.by dX12_findClasses_242 (by decide) ?_
        refine lv_bipush (v := 8) E.ex E.by dX12_findClasses_243 (by decide) ?_
        refine k_copyi (fun z => (wM kc a z)) E G la_X12_findClasses_94 lan_X12_findClasses las_X12_findClasses lai_X12_findClasses 5 4 (gM_5 _ _ _) (gM_4 _ _ _) 0 ⟨rfl, rfl⟩ hl h.1 h.2.1 h.2.2.1 h.2.2.2.1 h.2.2.2.2.1 rfl ⟨rfl, rfl⟩ dX12_findClasses_245 (sA t3.2.2 3 (va_cpy (aA t3.2.2 4) (aA t3.2.2 3) (0 : Int32).toNatClampNeg (0 : Int32).toNatClampNeg (8 : Int32).toNatClampNeg)) (sM_4 _ _ _ _) (fun z4 ez4 H locs G => ?_)
        have h := h.2.2.2.2.2 z4 ez4
        refine lv_goto (tgt := 128) E.ex E.by dX12_findClasses_248 (by decide) ?_
        exact IH128 _ h _ _ _ G (lv_sub hl [0, 1, 2] rfl)
      · have h := h.2 hc13
        refine lv_aload_n E.ex E.by dX12_findClasses_149 rfl (lv_at hl 0 rfl) ?_
        refine k_get E G wi_X12_findClasses_X12 0 (gM_0 _ _ _) rfl 6 rfl fl_X12_findClasses_X12_6 (v := .ref (a 5)) rfl dX12_findClasses_150 ?_
        refine lv_iload_n E.ex E.by dX12_findClasses_153 rfl (lv_at hl 3 rfl) ?_
        refine lv_iload_n E.ex E.by dX12_findClasses_154 rfl (lv_at hl 1 rfl) ?_
        refine k_iast (fun z => (wM kc a z)) E G 5 (gM_5 _ _ _) 0 rfl h.1 (uA t3.2.2 4 (t3.2.1).toNatClampNeg t3.1) (sM_5 _ _ _ _) dX12_findClasses_155 (fun z5 ez5 H locs G => ?_)
        have h := h.2 z5 ez5
        refine lv_iconst (v := 0) E.ex E.by dX12_findClasses_156 (by decide) ?_
        refine lv_istore (lv' := [(4, .int 0), (0, .ref (a 0)), (1, .int t3.1), (2, .int t2.1), (3, .int t3.2.1)]) E.ex E.by dX12_findClasses_157 hl (by decide) rfl (fun ls hl => ?_)
        refine lpW_ind (fun t6 : Int32 × US => ∀ (H : Heap) (locs : List Loc) (ls : Array Slot), kG D (va_A (wM kc a σ) s.heap.size) s (wM kc a t6.2) H locs → lv_has ls 5 [(0, .ref (a 0)), (1, .int t3.1), (2, .int t2.1), (3, .int t3.2.1), (4, .int t6.1)] → W p l e _ s m args below meth c H locs _ _ _ (F0 m 159 ls [])) (fun P159 IH159 t6 h H locs ls G hl => ?_) _ h _ _ _ G (lv_sub hl [1, 2, 3, 4, 0] rfl)
        refine lv_iload E.ex E.by dX12_findClasses_159 (lv_at hl 4 rfl) ?_
        refine lv_iload_n E.ex E.by dX12_findClasses_161 rfl (lv_at hl 3 rfl) ?_
        refine lv_icmp_ge (tgt := 209) E.ex E.by dX12_findClasses_162 (by decide) (fun hc12 => ?_) (fun hc12 => ?_)
        · have h := h.1 hc12
          exact K209 _ _ _ _ _ _ G (lv_sub hl [0, 1, 2, 3] rfl) h
        · have h := h.2 hc12
          refine lv_aload_n E.ex E.by dX12_findClasses_165 rfl (lv_at hl 0 rfl) ?_
          refine k_get E G wi_X12_findClasses_X12 0 (gM_0 _ _ _) rfl 6 rfl fl_X12_findClasses_X12_6 (v := .ref (a 5)) rfl dX12_findClasses_166 ?_
          refine lv_iload_n E.ex E.by dX12_findClasses_169 rfl (lv_at hl 3 rfl) ?_
          refine k_iald E G 5 (gM_5 _ _ _) 0 rfl h.1 dX12_findClasses_170 ?_
          have h := h.2
          refine lv_iload_n E.ex E.by dX12_findClasses_171 rfl (lv_at hl 1 rfl) ?_
          refine lv_icmp_ne (tgt := 209) E.ex E.by dX12_findClasses_172 (by decide) (fun hc11 => ?_) (fun hc11 => ?_)
          · have h := h.1 hc11
            exact K209 _ _ _ _ _ _ G (lv_sub hl [0, 1, 2, 3] rfl) h
          · have h := h.2 hc11
            refine lv_aload_n E.ex E.by dX12_findClasses_175 rfl (lv_at hl 0 rfl) ?_
            refine k_get E G wi_X12_findClasses_X12 0 (gM_0 _ _ _) rfl 6 rfl fl_X12_findClasses_X12_6 (v := .ref (a 5)) rfl dX12_findClasses_176 ?_
            refine lv_iload_n E.ex E.by dX12_findClasses_179 rfl (lv_at hl 3 rfl) ?_
            refine lv_aload_n E.ex E.by dX12_findClasses_180 rfl (lv_at hl 0 rfl) ?_
            refine lv_iload_n E.ex E.by dX12_findClasses_181 rfl (lv_at hl 3 rfl) ?_
            refine lv_iload E.ex E.by dX12_findClasses_182 (lv_at hl 4 rfl) ?_
            refine lv_iload_n E.ex E.by dX12_findClasses_184 rfl (lv_at hl 2 rfl) ?_
            refine k_cVi (X := []) (w := (wM kc a t6.2)) (Z := []) (wnew := (fun _ : Unit => (wM kc a t6.2))) (As := [.int t3.2.1, .int t6.1, .int t2.1]) (rest := [.int t3.2.1, .ref (a 5)]) E (List.append_nil _).symm G (c_X12_stepAlike l D kc _ _ _ _ _ _ h) gX12_findClasses_X12_stepAlike rfl ⟨rfl, rfl⟩ hd_X12_stepAlike_v ⟨rfl, rfl⟩ 0 (gM_0 _ _ _) rfl rfl hl rfl rfl dX12_findClasses_185 ⟨rfl, rfl⟩ (fun _ => (List.append_nil _).symm) (fun r7 _u185 hq H locs G => ?_)
            have h := hq
            refine lv_if_eq (tgt := 201) E.ex E.by dX12_findClasses_188 (by decide) (fun hc10 => ?_) (fun hc10 => ?_)
            · have h := h.1 hc10
              refine lv_iload_n E.ex E.by dX12_findClasses_201 rfl (lv_at hl 1 rfl) ?_
              refine k_iast (fun z => (wM kc a z)) E G 5 (gM_5 _ _ _) 0 rfl h.1 (uA t6.2 4 (t3.2.1).toNatClampNeg t3.1) (sM_5 _ _ _ _) dX12_findClasses_202 (fun z8 ez8 H locs G => ?_)
              have h := h.2 z8 ez8
              refine lv_iinc (k := 4) (v := t6.1 + 1) (lv' := [(4, .int (t6.1 + 1)), (0, .ref (a 0)), (1, .int t3.1), (2, .int t2.1), (3, .int t3.2.1)]) E.ex E.by dX12_findClasses_203 hl rfl (k_inc1 _) (by decide) rfl (fun ls hl => ?_)
              refine lv_goto (tgt := 159) E.ex E.by dX12_findClasses_206 (by decide) ?_
              exact IH159 _ h _ _ _ G (lv_sub hl [1, 2, 3, 4, 0] rfl)
            · have h := h.2 hc10
              refine lv_aload_n E.ex E.by dX12_findClasses_191 rfl (lv_at hl 0 rfl) ?_
              refine k_get E G wi_X12_findClasses_X12 0 (gM_0 _ _ _) rfl 6 rfl fl_X12_findClasses_X12_6 (v := .ref (a 5)) rfl dX12_findClasses_192 ?_
              refine lv_iload E.ex E.by dX12_findClasses_195 (lv_at hl 4 rfl) ?_
              refine k_iald E G 5 (gM_5 _ _ _) 0 rfl h.1 dX12_findClasses_197 ?_
              have h := h.2
              refine lv_goto (tgt := 202) E.ex E.by dX12_findClasses_198 (by decide) ?_
              refine k_iast (fun z => (wM kc a z)) E G 5 (gM_5 _ _ _) 0 rfl h.1 (uA t6.2 4 (t3.2.1).toNatClampNeg (aA t6.2 4 (t6.1).toNatClampNeg)) (sM_5 _ _ _ _) dX12_findClasses_202 (fun z9 ez9 H locs G => ?_)
              have h := h.2 z9 ez9
              refine lv_iinc (k := 4) (v := t6.1 + 1) (lv' := [(4, .int (t6.1 + 1)), (0, .ref (a 0)), (1, .int t3.1), (2, .int t2.1), (3, .int t3.2.1)]) E.ex E.by dX12_findClasses_203 hl rfl (k_inc1 _) (by decide) rfl (fun ls hl => ?_)
              refine lv_goto (tgt := 159) E.ex E.by dX12_findClasses_206 (by decide) ?_
              exact IH159 _ h _ _ _ G (lv_sub hl [1, 2, 3, 4, 0] rfl)
  · have h := h.2 hc27
    refine lv_aload_n E.ex E.by dX12_findClasses_14 rfl (lv_at hl 0 rfl) ?_
    refine k_get E G wi_X12_findClasses_X12 0 (gM_0 _ _ _) rfl 5 rfl fl_X12_findClasses_X12_5 (v := .ref (a 4)) rfl dX12_findClasses_15 ?_
    refine lv_iload_n E.ex E.by dX12_findClasses_18 rfl (lv_at hl 2 rfl) ?_
    refine lv_iload_n E.ex E.by dX12_findClasses_19 rfl (lv_at hl 1 rfl) ?_
    refine k_iast (fun z => (wM kc a z)) E G 4 (gM_4 _ _ _) 0 rfl h.1 (uA t1.2.2 3 (t1.2.1).toNatClampNeg t1.1) (sM_4 _ _ _ _) dX12_findClasses_20 (fun z18 ez18 H locs G => ?_)
    have h := h.2 z18 ez18
    refine lv_iconst (v := 0) E.ex E.by dX12_findClasses_21 (by decide) ?_
    refine lv_istore_n (lv' := [(3, .int 0), (0, .ref (a 0)), (1, .int t1.1), (2, .int t1.2.1)]) E.ex E.by dX12_findClasses_22 rfl hl (by decide) rfl (fun ls hl => ?_)
    refine lpW_ind (fun t19 : Int32 × US => ∀ (H : Heap) (locs : List Loc) (ls : Array Slot), kG D (va_A (wM kc a σ) s.heap.size) s (wM kc a t19.2) H locs → lv_has ls 5 [(0, .ref (a 0)), (1, .int t1.1), (2, .int t1.2.1), (3, .int t19.1)] → W p l e _ s m args below meth c H locs _ _ _ (F0 m 23 ls [])) (fun P23 IH23 t19 h H locs ls G hl => ?_) _ h _ _ _ G (lv_sub hl [1, 2, 3, 0] rfl)
    refine lv_iload_n E.ex E.by dX12_findClasses_23 rfl (lv_at hl 3 rfl) ?_
    refine lv_iload_n E.ex E.by dX12_findClasses_24 rfl (lv_at hl 2 rfl) ?_
    refine lv_icmp_ge (tgt := 102) E.ex E.by dX12_findClasses_25 (by decide) (fun hc26 => ?_) (fun hc26 => ?_)
    · have h := h.1 hc26
      exact K102 _ _ _ _ _ _ G (lv_sub hl [0, 1, 2] rfl) h
    · have h := h.2 hc26
      refine lv_aload_n E.ex E.by dX12_findClasses_28 rfl (lv_at hl 0 rfl) ?_
      refine k_get E G wi_X12_findClasses_X12 0 (gM_0 _ _ _) rfl 5 rfl fl_X12_findClasses_X12_5 (v := .ref (a 4)) rfl dX12_findClasses_29 ?_
      refine lv_iload_n E.ex E.by dX12_findClasses_32 rfl (lv_at hl 2 rfl) ?_
      refine k_iald E G 4 (gM_4 _ _ _) 0 rfl h.1 dX12_findClasses_33 ?_
      have h := h.2
      refine lv_iload_n E.ex E.by dX12_findClasses_34 rfl (lv_at hl 1 rfl) ?_
      refine lv_icmp_ne (tgt := 102) E.ex E.by dX12_findClasses_35 (by decide) (fun hc25 => ?_) (fun hc25 => ?_)
      · have h := h.1 hc25
        exact K102 _ _ _ _ _ _ G (lv_sub hl [0, 1, 2] rfl) h
      · have h := h.2 hc25
        refine lv_aload_n E.ex E.by dX12_findClasses_38 rfl (lv_at hl 0 rfl) ?_
        refine k_get E G wi_X12_findClasses_X12 0 (gM_0 _ _ _) rfl 5 rfl fl_X12_findClasses_X12_5 (v := .ref (a 4)) rfl dX12_findClasses_39 ?_
        refine lv_iload_n E.ex E.by dX12_findClasses_42 rfl (lv_at hl 2 rfl) ?_
        refine lv_aload_n E.ex E.by dX12_findClasses_43 rfl (lv_at hl 0 rfl) ?_
        refine k_get E G wi_X12_findClasses_X12 0 (gM_0 _ _ _) rfl 0 rfl fl_X12_findClasses_X12_0 (v := .ref (a 1)) rfl dX12_findClasses_44 ?_
        refine lv_bipush (v := 65) E.ex E.by dX12_findClasses_47 (by decide) ?_
        refine lv_iload_n E.ex E.by dX12_findClasses_49 rfl (lv_at hl 2 rfl) ?_
        refine lv_iadd E.ex E.by dX12_findClasses_50 ?_
        refine k_iald E G 1 (gM_1 _ _ _) 0 rfl h.1 dX12_findClasses_51 ?_
        have h := h.2
        refine lv_aload_n E.ex E.by dX12_findClasses_52 rfl (lv_at hl 0 rfl) ?_
        refine k_get E G wi_X12_findClasses_X12 0 (gM_0 _ _ _) rfl 0 rfl fl_X12_findClasses_X12_0 (v := .ref (a 1)) rfl dX12_findClasses_53 ?_
        refine lv_bipush (v := 65) E.ex E.by dX12_findClasses_56 (by decide) ?_
        refine lv_iload_n E.ex E.by dX12_findClasses_58 rfl (lv_at hl 3 rfl) ?_
        refine lv_iadd E.ex E.by dX12_findClasses_59 ?_
        refine k_iald E G 1 (gM_1 _ _ _) 0 rfl h.1 dX12_findClasses_60 ?_
        have h := h.2
        refine lv_icmp_ne (tgt := 94) E.ex E.by dX12_findClasses_61 (by decide) (fun hc24 => ?_) (fun hc24 => ?_)
        · have h := h.1 hc24
          refine lv_iload_n E.ex E.by dX12_findClasses_94 rfl (lv_at hl 1 rfl) ?_
          refine k_iast (fun z => (wM kc a z)) E G 4 (gM_4 _ _ _) 0 rfl h.1 (uA t19.2 3 (t1.2.1).toNatClampNeg t1.1) (sM_4 _ _ _ _) dX12_findClasses_95 (fun z20 ez20 H locs G => ?_)
          have h := h.2 z20 ez20
          refine lv_iinc (k := 3) (v := t19.1 + 1) (lv' := [(3, .int (t19.1 + 1)), (0, .ref (a 0)), (1, .int t1.1), (2, .int t1.2.1)]) E.ex E.by dX12_findClasses_96 hl rfl (k_inc1 _) (by decide) rfl (fun ls hl => ?_)
          refine lv_goto (tgt := 23) E.ex E.by dX12_findClasses_99 (by decide) ?_
          exact IH23 _ h _ _ _ G (lv_sub hl [1, 2, 3, 0] rfl)
        · have h := h.2 hc24
          refine lv_aload_n E.ex E.by dX12_findClasses_64 rfl (lv_at hl 0 rfl) ?_
          refine k_get E G wi_X12_findClasses_X12 0 (gM_0 _ _ _) rfl 0 rfl fl_X12_findClasses_X12_0 (v := .ref (a 1)) rfl dX12_findClasses_65 ?_
          refine lv_bipush (v := 73) E.ex E.by dX12_findClasses_68 (by decide) ?_
          refine lv_iload_n E.ex E.by dX12_findClasses_70 rfl (lv_at hl 2 rfl) ?_
          refine lv_iadd E.ex E.by dX12_findClasses_71 ?_
          refine k_iald E G 1 (gM_1 _ _ _) 0 rfl h.1 dX12_findClasses_72 ?_
          have h := h.2
          refine lv_aload_n E.ex E.by dX12_findClasses_73 rfl (lv_at hl 0 rfl) ?_
          refine k_get E G wi_X12_findClasses_X12 0 (gM_0 _ _ _) rfl 0 rfl fl_X12_findClasses_X12_0 (v := .ref (a 1)) rfl dX12_findClasses_74 ?_
          refine lv_bipush (v := 73) E.ex E.by dX12_findClasses_77 (by decide) ?_
          refine lv_iload_n E.ex E.by dX12_findClasses_79 rfl (lv_at hl 3 rfl) ?_
          refine lv_iadd E.ex E.by dX12_findClasses_80 ?_
          refine k_iald E G 1 (gM_1 _ _ _) 0 rfl h.1 dX12_findClasses_81 ?_
          have h := h.2
          refine lv_icmp_ne (tgt := 94) E.ex E.by dX12_findClasses_82 (by decide) (fun hc23 => ?_) (fun hc23 => ?_)
          · have h := h.1 hc23
            refine lv_iload_n E.ex E.by dX12_findClasses_94 rfl (lv_at hl 1 rfl) ?_
            refine k_iast (fun z => (wM kc a z)) E G 4 (gM_4 _ _ _) 0 rfl h.1 (uA t19.2 3 (t1.2.1).toNatClampNeg t1.1) (sM_4 _ _ _ _) dX12_findClasses_95 (fun z21 ez21 H locs G => ?_)
            have h := h.2 z21 ez21
            refine lv_iinc (k := 3) (v := t19.1 + 1) (lv' := [(3, .int (t19.1 + 1)), (0, .ref (a 0)), (1, .int t1.1), (2, .int t1.2.1)]) E.ex E.by dX12_findClasses_96 hl rfl (k_inc1 _) (by decide) rfl (fun ls hl => ?_)
            refine lv_goto (tgt := 23) E.ex E.by dX12_findClasses_99 (by decide) ?_
            exact IH23 _ h _ _ _ G (lv_sub hl [1, 2, 3, 0] rfl)
          · have h := h.2 hc23
            refine lv_aload_n E.ex E.by dX12_findClasses_85 rfl (lv_at hl 0 rfl) ?_
            refine k_get E G wi_X12_findClasses_X12 0 (gM_0 _ _ _) rfl 5 rfl fl_X12_findClasses_X12_5 (v := .ref (a 4)) rfl dX12_findClasses_86 ?_
            refine lv_iload_n E.ex E.by dX12_findClasses_89 rfl (lv_at hl 3 rfl) ?_
            refine k_iald E G 4 (gM_4 _ _ _) 0 rfl h.1 dX12_findClasses_90 ?_
            have h := h.2
            refine lv_goto (tgt := 95) E.ex E.by dX12_findClasses_91 (by decide) ?_
            refine k_iast (fun z => (wM kc a z)) E G 4 (gM_4 _ _ _) 0 rfl h.1 (uA t19.2 3 (t1.2.1).toNatClampNeg (aA t19.2 3 (t19.1).toNatClampNeg)) (sM_4 _ _ _ _) dX12_findClasses_95 (fun z22 ez22 H locs G => ?_)
            have h := h.2 z22 ez22
            refine lv_iinc (k := 3) (v := t19.1 + 1) (lv' := [(3, .int (t19.1 + 1)), (0, .ref (a 0)), (1, .int t1.1), (2, .int t1.2.1)]) E.ex E.by dX12_findClasses_96 hl rfl (k_inc1 _) (by decide) rfl (fun ls hl => ?_)
            refine lv_goto (tgt := 23) E.ex E.by dX12_findClasses_99 (by decide) ?_
            exact IH23 _ h _ _ _ G (lv_sub hl [1, 2, 3, 0] rfl)
theorem hd_X12_findClasses_v : yX12_findClasses.cls = RX12 ∧ yX12_findClasses.cls ≠ "java/lang/invoke/MethodHandle" ∧ yX12_findClasses.cls ≠ "java/lang/invoke/VarHandle" ∧ (parseMethodDescriptor yX12_findClasses.desc).map (fun d => d.parameters.length) = some 0 := by decide +kernel
def wp_X12_classCount (σ : US) (Q : Int32 → US → Prop) : Prop := wp_X12_findClasses σ (fun (r1 : Int32) (u2 : US) => Q r1 u2)
set_option maxRecDepth 100000 in
set_option maxHeartbeats 4000000 in
theorem c_X12_classCount (l : Launch) (D : va_G) (kc : Nat → ClassId) (a : Nat → Nat)  (σ : US) (Q : Int32 → US → Prop) (h : wp_X12_classCount σ Q) : kCi l D (tyL kc) yX12_classCount wsX12_classCount ({ frames := 5, cells := 0, slots := 0, locals := 118 } : Room) [.ref (a 0)] (wM kc a σ) (fun u : US => (wM kc a u)) 0 0 (fun r u => Q r u) := by
  intro sz
  refine k_begin (cc := cX12_classCount) (maxL := 1) (ret := (some .int)) (by decide +kernel) rfl rfl (fun p e s m args below meth c hsz E G ls hl => ?_)
  subst hsz
  have hl : lv_has ls 1 [(0, .ref (a 0))] := hl
  refine lv_aload_n E.ex E.by dX12_classCount_0 rfl (lv_at hl 0 rfl) ?_
  refine k_cVi (X := []) (w := (wM kc a σ)) (Z := []) (wnew := (fun u : US => (wM kc a u))) (As := []) (rest := []) E (List.append_nil _).symm G (c_X12_findClasses l D kc _ _ _ h) gX12_classCount_X12_findClasses rfl ⟨rfl, rfl⟩ hd_X12_findClasses_v ⟨rfl, rfl⟩ 0 (gM_0 _ _ _) rfl rfl hl rfl rfl dX12_classCount_1 ⟨rfl, rfl⟩ (fun _ => (List.append_nil _).symm) (fun r1 u2 hq H locs G => ?_)
  have h := hq
  exact k_ret (wof := (fun u : US => (wM kc a u))) (u := u2) E G rfl h (Nat.le_of_ble_eq_true rfl) (Nat.le_of_ble_eq_true rfl) dX12_classCount_4
theorem wi_X12_classOf_X12 : ∀ w ∈ wsX120, w ∈ wsX12_classOf := fun w h => List.mem_cons_of_mem _ (List.mem_append_right _ (h))
theorem fl_X12_classOf_X12_5 : Cond.fieldLink RX12 19 (TX12 5).1 (TX12 5).2.1 (TX12 5).2.2.1 ∈ wsX12_classOf := List.mem_of_getElem? (i := 1) (by decide +kernel)
def wp_X12_classOf (p1 : Int32) (σ : US) (Q : Int32 → US → Prop) : Prop := wp_X12_isState p1 σ (fun (r1 : Int32) => (¬ r1 = 0 → wp_X12_findClasses σ (fun (r2 : Int32) (u3 : US) => vp_in p1 8 ∧ (Q (aA u3 3 (p1).toNatClampNeg) u3))) ∧ (r1 = 0 → Q (-1) σ))
set_option maxRecDepth 100000 in
set_option maxHeartbeats 4000000 in
theorem c_X12_classOf (l : Launch) (D : va_G) (kc : Nat → ClassId) (a : Nat → Nat)  (p1 : Int32) (σ : US) (Q : Int32 → US → Prop) (h : wp_X12_classOf p1 σ Q) : kCi l D (tyL kc) yX12_classOf wsX12_classOf ({ frames := 5, cells := 0, slots := 0, locals := 118 } : Room) [.ref (a 0), .int p1] (wM kc a σ) (fun u : US => (wM kc a u)) 0 0 (fun r u => Q r u) := by
  intro sz
  refine k_begin (cc := cX12_classOf) (maxL := 3) (ret := (some .int)) (by decide +kernel) rfl rfl (fun p e s m args below meth c hsz E G ls hl => ?_)
  subst hsz
  have hl : lv_has ls 3 [(0, .ref (a 0)), (1, .int p1)] := hl
  refine lv_aload_n E.ex E.by dX12_classOf_0 rfl (lv_at hl 0 rfl) ?_
  refine lv_iload_n E.ex E.by dX12_classOf_1 rfl (lv_at hl 1 rfl) ?_
  refine k_cVi (X := []) (w := (wM kc a σ)) (Z := []) (wnew := (fun _ : Unit => (wM kc a σ))) (As := [.int p1]) (rest := []) E (List.append_nil _).symm G (c_X12_isState l D kc _ _ _ _ h) gX12_classOf_X12_isState rfl ⟨rfl, rfl⟩ hd_X12_isState_v ⟨rfl, rfl⟩ 0 (gM_0 _ _ _) rfl rfl hl rfl rfl dX12_classOf_2 ⟨rfl, rfl⟩ (fun _ => (List.append_nil _).symm) (fun r1 _u2 hq H locs G => ?_)
  have h := hq
  refine lv_if_ne (tgt := 10) E.ex E.by dX12_classOf_5 (by decide) (fun hc4 => ?_) (fun hc4 => ?_)
  · have h := h.1 hc4
    refine lv_aload_n E.ex E.by dX12_classOf_10 rfl (lv_at hl 0 rfl) ?_
    refine k_cVi (X := []) (w := (wM kc a σ)) (Z := []) (wnew := (fun u : US => (wM kc a u))) (As := []) (rest := []) E (List.append_nil _).symm G (c_X12_findClasses l D kc _ _ _ h) gX12_classOf_X12_findClasses rfl ⟨rfl, rfl⟩ hd_X12_findClasses_v ⟨rfl, rfl⟩ 0 (gM_0 _ _ _) rfl rfl hl rfl rfl dX12_classOf_11 ⟨rfl, rfl⟩ (fun _ => (List.append_nil _).symm) (fun r2 u3 hq H locs G => ?_)
    have h := hq
    refine lv_istore_n (lv' := [(2, .int r2), (0, .ref (a 0)), (1, .int p1)]) E.ex E.by dX12_classOf_14 rfl hl (by decide) rfl (fun ls hl => ?_)
    refine lv_aload_n E.ex E.by dX12_classOf_15 rfl (lv_at hl 1 rfl) ?_
    refine k_get E G wi_X12_classOf_X12 0 (gM_0 _ _ _) rfl 5 rfl fl_X12_classOf_X12_5 (v := .ref (a 4)) rfl dX12_classOf_16 ?_
    refine lv_iload_n E.ex E.by dX12_classOf_19 rfl (lv_at hl 2 rfl) ?_
    refine k_iald E G 4 (gM_4 _ _ _) 0 rfl h.1 dX12_classOf_20 ?_
    have h := h.2
    exact k_ret (wof := (fun u : US => (wM kc a u))) (u := u3) E G rfl h (Nat.le_of_ble_eq_true rfl) (Nat.le_of_ble_eq_true rfl) dX12_classOf_21
  · have h := h.2 hc4
    refine lv_iconst (v := (-1)) E.ex E.by dX12_classOf_8 (by decide) ?_
    exact k_ret (wof := (fun u : US => (wM kc a u))) (u := σ) E G rfl h (Nat.le_of_ble_eq_true rfl) (Nat.le_of_ble_eq_true rfl) dX12_classOf_9
def wp_X12_common_L28 (Q : Int64 → Prop) (P28 : (Int64 × Int64) → Prop) (t28 : Int64 × Int64) : Prop := ((lg_cmp t28.2 0) ≤ 0 → Q t28.1) ∧ (¬ (lg_cmp t28.2 0) ≤ 0 → (¬ t28.2 = (0 : Int64)) ∧ (∀ x1 : Int64, x1 = t28.1 - t28.1 / t28.2 * t28.2 → P28 (t28.2, x1)))
def wp_X12_common_J12 (v2j12 : Int64) (s0j12 : Int64) (Q : Int64 → Prop) : Prop := (0 ≤ (lg_cmp v2j12 0) → lpW (wp_X12_common_L28 Q) (s0j12, v2j12)) ∧ (¬ 0 ≤ (lg_cmp v2j12 0) → ∀ x3 : Int64, x3 = -v2j12 → lpW (wp_X12_common_L28 Q) (s0j12, x3))
def wp_X12_common (p1 : Int64) (p2 : Int64) (Q : Int64 → Prop) : Prop := (0 ≤ (lg_cmp p1 0) → wp_X12_common_J12 p2 p1 Q) ∧ (¬ 0 ≤ (lg_cmp p1 0) → wp_X12_common_J12 p2 (-p1) Q)
set_option maxRecDepth 100000 in
set_option maxHeartbeats 4000000 in
theorem c_X12_common (l : Launch) (D : va_G) (kc : Nat → ClassId)   (p1 : Int64) (p2 : Int64) (Q : Int64 → Prop) (h : wp_X12_common p1 p2 Q) : kCl l D (tyL kc) yX12_common wsX12_common ({ frames := 0, cells := 0, slots := 0, locals := 0 } : Room) [.long p1, .long p2] ([] : va_W) (fun _ : Unit => ([] : va_W)) 0 0 (fun r _ => Q r) := by
  intro sz
  refine k_begin (cc := cX12_common) (maxL := 10) (ret := (some .long)) (by decide +kernel) rfl rfl (fun p e s m args below meth c hsz E G ls hl => ?_)
  subst hsz
  have hl : lv_has ls 10 [(0, .long p1), (2, .long p2)] := hl
  have K12 : ∀ (s0j12 : Int64) (H : Heap) (locs : List Loc) (ls : Array Slot), kG D (va_A ([] : va_W) s.heap.size) s ([] : va_W) H locs → lv_has ls 10 [(2, .long p2)] → wp_X12_common_J12 p2 s0j12 Q → W p l e ({ frames := 0, cells := 0, slots := 0, locals := 0 } : Room) s m args below meth c H locs 0 0 (MQ below (va_Ql (fun r _ => Q r) (kB D ([] : va_W) s.heap.size (fun _ : Unit => ([] : va_W))) (va_A ([] : va_W) s.heap.size)) args s 0 0 (va_A ([] : va_W) s.heap.size)) (F0 m 12 ls [.long s0j12]) := by
    intro s0j12 H locs ls G hl h
    refine lv_lstore (lv' := [(4, .long s0j12), (2, .long p2)]) E.ex E.by dX12_common_12 hl (by decide) rfl (fun ls hl => ?_)
    refine lv_lload_n E.ex E.by dX12_common_14 rfl (lv_at hl 1 rfl) ?_
    refine lv_lconst (v := 0) E.ex E.by dX12_common_15 (by decide) ?_
    refine W.lcmp E.ex E.by dX12_common_16 ?_
    refine lv_if_ge (tgt := 25) E.ex E.by dX12_common_17 (by decide) (fun hc9 => ?_) (fun hc9 => ?_)
    · have h := h.1 hc9
      refine lv_lload_n E.ex E.by dX12_common_25 rfl (lv_at hl 1 rfl) ?_
      refine lv_lstore (lv' := [(6, .long p2), (4, .long s0j12), (2, .long p2)]) E.ex E.by dX12_common_26 hl (by decide) rfl (fun ls hl => ?_)
      refine lpW_ind (fun t2 : Int64 × Int64 => ∀ (H : Heap) (locs : List Loc) (ls : Array Slot), kG D (va_A ([] : va_W) s.heap.size) s ([] : va_W) H locs → lv_has ls 10 [(4, .long t2.1), (6, .long t2.2)] → W p l e _ s m args below meth c H locs _ _ _ (F0 m 28 ls [])) (fun P28 IH28 t2 h H locs ls G hl => ?_) _ h _ _ _ G (lv_sub hl [1, 0] rfl)
      refine lv_lload E.ex E.by dX12_common_28 (lv_at hl 1 rfl) ?_
      refine lv_lconst (v := 0) E.ex E.by dX12_common_30 (by decide) ?_
      refine W.lcmp E.ex E.by dX12_common_31 ?_
      refine lv_if_le (tgt := 53) E.ex E.by dX12_common_32 (by decide) (fun hc4 => ?_) (fun hc4 => ?_)
      · have h := h.1 hc4
        refine lv_lload E.ex E.by dX12_common_53 (lv_at hl 0 rfl) ?_
        exact k_retl (wof := (fun _ : Unit => ([] : va_W))) (u := ()) E G h (Nat.le_of_ble_eq_true rfl) (Nat.le_of_ble_eq_true rfl) dX12_common_55
      · have h := h.2 hc4
        refine lv_lload E.ex E.by dX12_common_35 (lv_at hl 0 rfl) ?_
        refine lv_lload E.ex E.by dX12_common_37 (lv_at hl 1 rfl) ?_
        refine lv_lrem E.ex E.by dX12_common_39 h.1 ?_
        have h := h.2
        refine lv_topl (fun x3 ex3 => ?_)
        have h := h x3 ex3
        refine lv_lstore (lv' := [(8, .long x3), (4, .long t2.1), (6, .long t2.2)]) E.ex E.by dX12_common_40 hl (by decide) rfl (fun ls hl => ?_)
        refine lv_lload E.ex E.by dX12_common_42 (lv_at hl 2 rfl) ?_
        refine lv_lstore (lv' := [(4, .long t2.2), (8, .long x3), (6, .long t2.2)]) E.ex E.by dX12_common_44 hl (by decide) rfl (fun ls hl => ?_)
        refine lv_lload E.ex E.by dX12_common_46 (lv_at hl 1 rfl) ?_
        refine lv_lstore (lv' := [(6, .long x3), (4, .long t2.2), (8, .long x3)]) E.ex E.by dX12_common_48 hl (by decide) rfl (fun ls hl => ?_)
        refine lv_goto (tgt := 28) E.ex E.by dX12_common_50 (by decide) ?_
        exact IH28 _ h _ _ _ G (lv_sub hl [1, 0] rfl)
    · have h := h.2 hc9
      refine lv_lload_n E.ex E.by dX12_common_20 rfl (lv_at hl 1 rfl) ?_
      refine lv_lneg E.ex E.by dX12_common_21 ?_
      refine lv_goto (tgt := 26) E.ex E.by dX12_common_22 (by decide) ?_
      refine lv_topl (fun x5 ex5 => ?_)
      have h := h x5 ex5
      refine lv_lstore (lv' := [(6, .long x5), (4, .long s0j12), (2, .long p2)]) E.ex E.by dX12_common_26 hl (by decide) rfl (fun ls hl => ?_)
      refine lpW_ind (fun t6 : Int64 × Int64 => ∀ (H : Heap) (locs : List Loc) (ls : Array Slot), kG D (va_A ([] : va_W) s.heap.size) s ([] : va_W) H locs → lv_has ls 10 [(4, .long t6.1), (6, .long t6.2)] → W p l e _ s m args below meth c H locs _ _ _ (F0 m 28 ls [])) (fun P28 IH28 t6 h H locs ls G hl => ?_) _ h _ _ _ G (lv_sub hl [1, 0] rfl)
      refine lv_lload E.ex E.by dX12_common_28 (lv_at hl 1 rfl) ?_
      refine lv_lconst (v := 0) E.ex E.by dX12_common_30 (by decide) ?_
      refine W.lcmp E.ex E.by dX12_common_31 ?_
      refine lv_if_le (tgt := 53) E.ex E.by dX12_common_32 (by decide) (fun hc8 => ?_) (fun hc8 => ?_)
      · have h := h.1 hc8
        refine lv_lload E.ex E.by dX12_common_53 (lv_at hl 0 rfl) ?_
        exact k_retl (wof := (fun _ : Unit => ([] : va_W))) (u := ()) E G h (Nat.le_of_ble_eq_true rfl) (Nat.le_of_ble_eq_true rfl) dX12_common_55
      · have h := h.2 hc8
        refine lv_lload E.ex E.by dX12_common_35 (lv_at hl 0 rfl) ?_
        refine lv_lload E.ex E.by dX12_common_37 (lv_at hl 1 rfl) ?_
        refine lv_lrem E.ex E.by dX12_common_39 h.1 ?_
        have h := h.2
        refine lv_topl (fun x7 ex7 => ?_)
        have h := h x7 ex7
        refine lv_lstore (lv' := [(8, .long x7), (4, .long t6.1), (6, .long t6.2)]) E.ex E.by dX12_common_40 hl (by decide) rfl (fun ls hl => ?_)
        refine lv_lload E.ex E.by dX12_common_42 (lv_at hl 2 rfl) ?_
        refine lv_lstore (lv' := [(4, .long t6.2), (8, .long x7), (6, .long t6.2)]) E.ex E.by dX12_common_44 hl (by decide) rfl (fun ls hl => ?_)
        refine lv_lload E.ex E.by dX12_common_46 (lv_at hl 1 rfl) ?_
        refine lv_lstore (lv' := [(6, .long x7), (4, .long t6.2), (8, .long x7)]) E.ex E.by dX12_common_48 hl (by decide) rfl (fun ls hl => ?_)
        refine lv_goto (tgt := 28) E.ex E.by dX12_common_50 (by decide) ?_
        exact IH28 _ h _ _ _ G (lv_sub hl [1, 0] rfl)
  refine lv_lload_n E.ex E.by dX12_common_0 rfl (lv_at hl 0 rfl) ?_
  refine lv_lconst (v := 0) E.ex E.by dX12_common_1 (by decide) ?_
  refine W.lcmp E.ex E.by dX12_common_2 ?_
  refine lv_if_ge (tgt := 11) E.ex E.by dX12_common_3 (by decide) (fun hc1 => ?_) (fun hc1 => ?_)
  · have h := h.1 hc1
    refine lv_lload_n E.ex E.by dX12_common_11 rfl (lv_at hl 0 rfl) ?_
    exact K12 _ _ _ _ G (lv_sub hl [1] rfl) h
  · have h := h.2 hc1
    refine lv_lload_n E.ex E.by dX12_common_6 rfl (lv_at hl 0 rfl) ?_
    refine lv_lneg E.ex E.by dX12_common_7 ?_
    refine lv_goto (tgt := 12) E.ex E.by dX12_common_8 (by decide) ?_
    exact K12 _ _ _ _ G (lv_sub hl [1] rfl) h
def wp_X12_isPart (p1 : Int32) (Q : Int32 → Prop) : Prop := wp_X12_in p1 0 1 (fun (r1 : Int32) => kbo r1 ∧ Q r1)
set_option maxRecDepth 100000 in
set_option maxHeartbeats 4000000 in
theorem c_X12_isPart (l : Launch) (D : va_G) (kc : Nat → ClassId)   (p1 : Int32) (Q : Int32 → Prop) (h : wp_X12_isPart p1 Q) : kCi l D (tyL kc) yX12_isPart wsX12_isPart ({ frames := 1, cells := 0, slots := 0, locals := 22 } : Room) [.int p1] ([] : va_W) (fun _ : Unit => ([] : va_W)) 0 0 (fun r _ => Q r) := by
  intro sz
  refine k_begin (cc := cX12_isPart) (maxL := 1) (ret := (some .boolean)) (by decide +kernel) rfl rfl (fun p e s m args below meth c hsz E G ls hl => ?_)
  subst hsz
  have hl : lv_has ls 1 [(0, .int p1)] := hl
  refine lv_iload_n E.ex E.by dX12_isPart_0 rfl (lv_at hl 0 rfl) ?_
  refine lv_iconst (v := 0) E.ex E.by dX12_isPart_1 (by decide) ?_
  refine lv_iconst (v := 1) E.ex E.by dX12_isPart_2 (by decide) ?_
  refine k_cSi (X := ([] : va_W)) (w := []) (Z := []) (wnew := (fun _ : Unit => ([] : va_W))) (As := [.int p1, .int 0, .int 1]) (rest := []) E (List.append_nil _).symm G (c_X12_in l D kc _ _ _ _ h) gX12_isPart_X12_in rfl ⟨rfl, rfl⟩ hd_X12_in_v ⟨rfl, rfl⟩ rfl hl rfl rfl dX12_isPart_3 ⟨rfl, rfl⟩ (fun _ => (List.append_nil _).symm) (fun r1 _u3 hq H locs G => ?_)
  have h := hq
  exact k_ret (wof := (fun _ : Unit => ([] : va_W))) (u := ()) E G h.1 h.2 (Nat.le_of_ble_eq_true rfl) (Nat.le_of_ble_eq_true rfl) dX12_isPart_6
theorem wi_X12_give_X12 : ∀ w ∈ wsX120, w ∈ wsX12_give := fun w h => List.mem_cons_of_mem _ (List.mem_append_right _ (h))
theorem fl_X12_give_X12_7 : Cond.fieldLink RX12 157 (TX12 7).1 (TX12 7).2.1 (TX12 7).2.2.1 ∈ wsX12_give := List.mem_of_getElem? (i := 1) (by decide +kernel)
theorem fl_X12_give_X12_8 : Cond.fieldLink RX12 161 (TX12 8).1 (TX12 8).2.1 (TX12 8).2.2.1 ∈ wsX12_give := List.mem_of_getElem? (i := 2) (by decide +kernel)
theorem hd_X12_common_v : yX12_common.cls = RX12 ∧ yX12_common.cls ≠ "java/lang/invoke/MethodHandle" ∧ yX12_common.cls ≠ "java/lang/invoke/VarHandle" ∧ (parseMethodDescriptor yX12_common.desc).map (fun d => d.parameters.length) = some 2 := by decide +kernel
def wp_X12_give_J21 (v1j21 : Int64) (v3j21 : Int64) (σ'j21 : US) (s0j21 : Int64) (Q : US → Prop) : Prop := (¬ s0j21 = (0 : Int64)) ∧ ((∀ z2 : US, z2 = uJ σ'j21 0 (v1j21 / s0j21) → (¬ s0j21 = (0 : Int64)) ∧ ((∀ z3 : US, z3 = uJ z2 1 (v3j21 / s0j21) → Q z3))))
def wp_X12_give (p1 : Int64) (p2 : Int64) (σ : US) (Q : US → Prop) : Prop := wp_X12_common p1 p2 (fun (r1 : Int64) => (0 ≤ (lg_cmp p2 0) → wp_X12_give_J21 p1 p2 σ r1 Q) ∧ (¬ 0 ≤ (lg_cmp p2 0) → wp_X12_give_J21 p1 p2 σ (-r1) Q))
set_option maxRecDepth 100000 in
set_option maxHeartbeats 4000000 in
theorem c_X12_give (l : Launch) (D : va_G) (kc : Nat → ClassId) (a : Nat → Nat)  (p1 : Int64) (p2 : Int64) (σ : US) (Q : US → Prop) (h : wp_X12_give p1 p2 σ Q) : kCv l D (tyL kc) yX12_give wsX12_give ({ frames := 1, cells := 0, slots := 0, locals := 29 } : Room) [.ref (a 0), .long p1, .long p2] (wM kc a σ) (fun u : US => (wM kc a u)) 0 0 (fun u => Q u) := by
  intro sz
  refine k_begin (cc := cX12_give) (maxL := 7) (ret := none) (by decide +kernel) rfl rfl (fun p e s m args below meth c hsz E G ls hl => ?_)
  subst hsz
  have hl : lv_has ls 7 [(0, .ref (a 0)), (1, .long p1), (3, .long p2)] := hl
  have K21 : ∀ (σ'j21 : US) (s0j21 : Int64) (H : Heap) (locs : List Loc) (ls : Array Slot), kG D (va_A (wM kc a σ) s.heap.size) s (wM kc a σ'j21) H locs → lv_has ls 7 [(0, .ref (a 0)), (1, .long p1), (3, .long p2)] → wp_X12_give_J21 p1 p2 σ'j21 s0j21 Q → W p l e ({ frames := 1, cells := 0, slots := 0, locals := 29 } : Room) s m args below meth c H locs 0 0 (MQ below (va_Qv (fun u => Q u) (kB D (wM kc a σ) s.heap.size (fun u : US => (wM kc a u))) (va_A (wM kc a σ) s.heap.size)) args s 0 0 (va_A (wM kc a σ) s.heap.size)) (F0 m 21 ls [.long s0j21]) := by
    intro σ'j21 s0j21 H locs ls G hl h
    refine lv_lstore (lv' := [(5, .long s0j21), (0, .ref (a 0)), (1, .long p1), (3, .long p2)]) E.ex E.by dX12_give_21 hl (by decide) rfl (fun ls hl => ?_)
    refine lv_aload_n E.ex E.by dX12_give_23 rfl (lv_at hl 1 rfl) ?_
    refine lv_lload_n E.ex E.by dX12_give_24 rfl (lv_at hl 2 rfl) ?_
    refine lv_lload E.ex E.by dX12_give_25 (lv_at hl 0 rfl) ?_
    refine lv_ldiv E.ex E.by dX12_give_27 h.1 ?_
    have h := h.2
    refine k_put (fun z => (wM kc a z)) E G wi_X12_give_X12 tyX12_ok nmX12 0 (gM_0 _ _ _) rfl 7 rfl fl_X12_give_X12_7 rfl rfl rfl rfl (uJ σ'j21 0 (p1 / s0j21)) (pM_0_7 _ _ _ _) dX12_give_28 (fun z3 ez3 H locs G => ?_)
    have h := h z3 ez3
    refine lv_aload_n E.ex E.by dX12_give_31 rfl (lv_at hl 1 rfl) ?_
    refine lv_lload_n E.ex E.by dX12_give_32 rfl (lv_at hl 3 rfl) ?_
    refine lv_lload E.ex E.by dX12_give_33 (lv_at hl 0 rfl) ?_
    refine lv_ldiv E.ex E.by dX12_give_35 h.1 ?_
    have h := h.2
    refine k_put (fun z => (wM kc a z)) E G wi_X12_give_X12 tyX12_ok nmX12 0 (gM_0 _ _ _) rfl 8 rfl fl_X12_give_X12_8 rfl rfl rfl rfl (uJ z3 1 (p2 / s0j21)) (pM_0_8 _ _ _ _) dX12_give_36 (fun z4 ez4 H locs G => ?_)
    have h := h z4 ez4
    exact k_retv (wof := (fun u : US => (wM kc a u))) (u := z4) E G h (Nat.le_of_ble_eq_true rfl) (Nat.le_of_ble_eq_true rfl) dX12_give_39
  refine lv_lload_n E.ex E.by dX12_give_0 rfl (lv_at hl 1 rfl) ?_
  refine lv_lload_n E.ex E.by dX12_give_1 rfl (lv_at hl 2 rfl) ?_
  refine k_cSl (X := (wM kc a σ)) (w := []) (Z := []) (wnew := (fun _ : Unit => (wM kc a σ))) (As := [.long p1, .long p2]) (rest := []) E (List.append_nil _).symm G (c_X12_common l D kc _ _ _ h) gX12_give_X12_common rfl ⟨rfl, rfl⟩ hd_X12_common_v ⟨rfl, rfl⟩ rfl hl rfl rfl dX12_give_2 ⟨rfl, rfl⟩ (fun _ => (List.append_nil _).symm) (fun r1 _u2 hq H locs G => ?_)
  have h := hq
  refine lv_lstore (lv' := [(5, .long r1), (0, .ref (a 0)), (1, .long p1), (3, .long p2)]) E.ex E.by dX12_give_5 hl (by decide) rfl (fun ls hl => ?_)
  refine lv_lload_n E.ex E.by dX12_give_7 rfl (lv_at hl 3 rfl) ?_
  refine lv_lconst (v := 0) E.ex E.by dX12_give_8 (by decide) ?_
  refine W.lcmp E.ex E.by dX12_give_9 ?_
  refine lv_if_ge (tgt := 19) E.ex E.by dX12_give_10 (by decide) (fun hc2 => ?_) (fun hc2 => ?_)
  · have h := h.1 hc2
    refine lv_lload E.ex E.by dX12_give_19 (lv_at hl 0 rfl) ?_
    exact K21 _ _ _ _ _ G (lv_sub hl [1, 2, 3] rfl) h
  · have h := h.2 hc2
    refine lv_lload E.ex E.by dX12_give_13 (lv_at hl 0 rfl) ?_
    refine lv_lneg E.ex E.by dX12_give_15 ?_
    refine lv_goto (tgt := 21) E.ex E.by dX12_give_16 (by decide) ?_
    exact K21 _ _ _ _ _ G (lv_sub hl [1, 2, 3] rfl) h
theorem wi_X12_part_X12 : ∀ w ∈ wsX120, w ∈ wsX12_part := fun w h => List.mem_cons_of_mem _ (List.mem_append_right _ (h))
theorem fl_X12_part_X12_8 : Cond.fieldLink RX12 161 (TX12 8).1 (TX12 8).2.1 (TX12 8).2.2.1 ∈ wsX12_part := List.mem_of_getElem? (i := 2) (by decide +kernel)
theorem fl_X12_part_X12_7 : Cond.fieldLink RX12 157 (TX12 7).1 (TX12 7).2.1 (TX12 7).2.2.1 ∈ wsX12_part := List.mem_of_getElem? (i := 1) (by decide +kernel)
def wp_X12_part (p1 : Int32) (σ : US) (Q : Int64 → Prop) : Prop := (¬ p1 = 0 → Q (lJ σ 1)) ∧ (p1 = 0 → Q (lJ σ 0))
set_option maxRecDepth 100000 in
set_option maxHeartbeats 4000000 in
theorem c_X12_part (l : Launch) (D : va_G) (kc : Nat → ClassId) (a : Nat → Nat)  (p1 : Int32) (σ : US) (Q : Int64 → Prop) (h : wp_X12_part p1 σ Q) : kCl l D (tyL kc) yX12_part wsX12_part ({ frames := 0, cells := 0, slots := 0, locals := 0 } : Room) [.ref (a 0), .int p1] (wM kc a σ) (fun _ : Unit => (wM kc a σ)) 0 0 (fun r _ => Q r) := by
  intro sz
  refine k_begin (cc := cX12_part) (maxL := 2) (ret := (some .long)) (by decide +kernel) rfl rfl (fun p e s m args below meth c hsz E G ls hl => ?_)
  subst hsz
  have hl : lv_has ls 2 [(0, .ref (a 0)), (1, .int p1)] := hl
  refine lv_iload_n E.ex E.by dX12_part_0 rfl (lv_at hl 1 rfl) ?_
  refine lv_if_ne (tgt := 11) E.ex E.by dX12_part_1 (by decide) (fun hc1 => ?_) (fun hc1 => ?_)
  · have h := h.1 hc1
    refine lv_aload_n E.ex E.by dX12_part_11 rfl (lv_at hl 0 rfl) ?_
    refine k_get E G wi_X12_part_X12 0 (gM_0 _ _ _) rfl 8 rfl fl_X12_part_X12_8 (v := .long (lJ σ 1)) rfl dX12_part_12 ?_
    exact k_retl (wof := (fun _ : Unit => (wM kc a σ))) (u := ()) E G h (Nat.le_of_ble_eq_true rfl) (Nat.le_of_ble_eq_true rfl) dX12_part_15
  · have h := h.2 hc1
    refine lv_aload_n E.ex E.by dX12_part_4 rfl (lv_at hl 0 rfl) ?_
    refine k_get E G wi_X12_part_X12 0 (gM_0 _ _ _) rfl 7 rfl fl_X12_part_X12_7 (v := .long (lJ σ 0)) rfl dX12_part_5 ?_
    refine lv_goto (tgt := 15) E.ex E.by dX12_part_8 (by decide) ?_
    exact k_retl (wof := (fun _ : Unit => (wM kc a σ))) (u := ()) E G h (Nat.le_of_ble_eq_true rfl) (Nat.le_of_ble_eq_true rfl) dX12_part_15
theorem lc_X12_lumped_167 : Cond.constantLong RX12 167 (-1) ∈ wsX12_lumped := List.mem_of_getElem? (i := 1) (by decide +kernel)
theorem hd_X12_part_v : yX12_part.cls = RX12 ∧ yX12_part.cls ≠ "java/lang/invoke/MethodHandle" ∧ yX12_part.cls ≠ "java/lang/invoke/VarHandle" ∧ (parseMethodDescriptor yX12_part.desc).map (fun d => d.parameters.length) = some 1 := by decide +kernel
theorem hd_X12_give_v : yX12_give.cls = RX12 ∧ yX12_give.cls ≠ "java/lang/invoke/MethodHandle" ∧ yX12_give.cls ≠ "java/lang/invoke/VarHandle" ∧ (parseMethodDescriptor yX12_give.desc).map (fun d => d.parameters.length) = some 2 := by decide +kernel
theorem hd_X12_isPart_v : yX12_isPart.cls = RX12 ∧ yX12_isPart.cls ≠ "java/lang/invoke/MethodHandle" ∧ yX12_isPart.cls ≠ "java/lang/invoke/VarHandle" ∧ (parseMethodDescriptor yX12_isPart.desc).map (fun d => d.parameters.length) = some 1 := by decide +kernel
def wp_X12_lumped (p1 : Int32) (p2 : Int32) (p3 : Int32) (σ : US) (Q : Int64 → US → Prop) : Prop := wp_X12_isState p1 σ (fun (r1 : Int32) => (r1 = 0 → Q (-1) σ) ∧ (¬ r1 = 0 → wp_X12_isPart p3 (fun (r2 : Int32) => (r2 = 0 → Q (-1) σ) ∧ (¬ r2 = 0 → wp_X12_findClasses σ (fun (r3 : Int32) (u4 : US) => wp_X12_in p2 0 (r3 - 1) (fun (r5 : Int32) => (¬ r5 = 0 → wp_X12_statesOf p2 u4 (fun (r6 : Int32) => wp_X12_weightInto p1 r6 u4 (fun (r7 : Int32) => wp_X12_sumOf p1 u4 (fun (r8 : Int32) => wp_X12_give (r7.toInt64) (r8.toInt64) u4 (fun (u9 : US) => wp_X12_part p3 u9 (fun (r10 : Int64) => Q r10 u9)))))) ∧ (r5 = 0 → Q (-1) u4)))))))
set_option maxRecDepth 100000 in
set_option maxHeartbeats 4000000 in
theorem c_X12_lumped (l : Launch) (D : va_G) (kc : Nat → ClassId) (a : Nat → Nat)  (p1 : Int32) (p2 : Int32) (p3 : Int32) (σ : US) (Q : Int64 → US → Prop) (h : wp_X12_lumped p1 p2 p3 σ Q) : kCl l D (tyL kc) yX12_lumped wsX12_lumped ({ frames := 5, cells := 0, slots := 0, locals := 118 } : Room) [.ref (a 0), .int p1, .int p2, .int p3] (wM kc a σ) (fun u : US => (wM kc a u)) 0 0 (fun r u => Q r u) := by
  intro sz
  refine k_begin (cc := cX12_lumped) (maxL := 4) (ret := (some .long)) (by decide +kernel) rfl rfl (fun p e s m args below meth c hsz E G ls hl => ?_)
  subst hsz
  have hl : lv_has ls 4 [(0, .ref (a 0)), (1, .int p1), (2, .int p2), (3, .int p3)] := hl
  refine lv_aload_n E.ex E.by dX12_lumped_0 rfl (lv_at hl 0 rfl) ?_
  refine lv_iload_n E.ex E.by dX12_lumped_1 rfl (lv_at hl 1 rfl) ?_
  refine k_cVi (X := []) (w := (wM kc a σ)) (Z := []) (wnew := (fun _ : Unit => (wM kc a σ))) (As := [.int p1]) (rest := []) E (List.append_nil _).symm G (c_X12_isState l D kc _ _ _ _ h) gX12_lumped_X12_isState rfl ⟨rfl, rfl⟩ hd_X12_isState_v ⟨rfl, rfl⟩ 0 (gM_0 _ _ _) rfl rfl hl rfl rfl dX12_lumped_2 ⟨rfl, rfl⟩ (fun _ => (List.append_nil _).symm) (fun r1 _u2 hq H locs G => ?_)
  have h := hq
  refine lv_if_eq (tgt := 29) E.ex E.by dX12_lumped_5 (by decide) (fun hc13 => ?_) (fun hc13 => ?_)
  · have h := h.1 hc13
    refine lv_ldc2 (v := (-1)) E.ex E.by E.ow (E.ts _ lc_X12_lumped_167) dX12_lumped_29 ?_
    exact k_retl (wof := (fun u : US => (wM kc a u))) (u := σ) E G h (Nat.le_of_ble_eq_true rfl) (Nat.le_of_ble_eq_true rfl) dX12_lumped_32
  · have h := h.2 hc13
    refine lv_iload_n E.ex E.by dX12_lumped_8 rfl (lv_at hl 3 rfl) ?_
    refine k_cSi (X := (wM kc a σ)) (w := []) (Z := []) (wnew := (fun _ : Unit => (wM kc a σ))) (As := [.int p3]) (rest := []) E (List.append_nil _).symm G (c_X12_isPart l D kc _ _ h) gX12_lumped_X12_isPart rfl ⟨rfl, rfl⟩ hd_X12_isPart_v ⟨rfl, rfl⟩ rfl hl rfl rfl dX12_lumped_9 ⟨rfl, rfl⟩ (fun _ => (List.append_nil _).symm) (fun r2 _u9 hq H locs G => ?_)
    have h := hq
    refine lv_if_eq (tgt := 29) E.ex E.by dX12_lumped_12 (by decide) (fun hc12 => ?_) (fun hc12 => ?_)
    · have h := h.1 hc12
      refine lv_ldc2 (v := (-1)) E.ex E.by E.ow (E.ts _ lc_X12_lumped_167) dX12_lumped_29 ?_
      exact k_retl (wof := (fun u : US => (wM kc a u))) (u := σ) E G h (Nat.le_of_ble_eq_true rfl) (Nat.le_of_ble_eq_true rfl) dX12_lumped_32
    · have h := h.2 hc12
      refine lv_iload_n E.ex E.by dX12_lumped_15 rfl (lv_at hl 2 rfl) ?_
      refine lv_iconst (v := 0) E.ex E.by dX12_lumped_16 (by decide) ?_
      refine lv_aload_n E.ex E.by dX12_lumped_17 rfl (lv_at hl 0 rfl) ?_
      refine k_cVi (X := []) (w := (wM kc a σ)) (Z := []) (wnew := (fun u : US => (wM kc a u))) (As := []) (rest := [.int 0, .int p2]) E (List.append_nil _).symm G (c_X12_findClasses l D kc _ _ _ h) gX12_lumped_X12_findClasses rfl ⟨rfl, rfl⟩ hd_X12_findClasses_v ⟨rfl, rfl⟩ 0 (gM_0 _ _ _) rfl rfl hl rfl rfl dX12_lumped_18 ⟨rfl, rfl⟩ (fun _ => (List.append_nil _).symm) (fun r3 u4 hq H locs G => ?_)
      have h := hq
      refine lv_iconst (v := 1) E.ex E.by dX12_lumped_21 (by decide) ?_
      refine lv_isub E.ex E.by dX12_lumped_22 ?_
      refine k_cSi (X := (wM kc a u4)) (w := []) (Z := []) (wnew := (fun _ : Unit => (wM kc a u4))) (As := [.int p2, .int 0, .int (r3 - 1)]) (rest := []) E (List.append_nil _).symm G (c_X12_in l D kc _ _ _ _ h) gX12_lumped_X12_in rfl ⟨rfl, rfl⟩ hd_X12_in_v ⟨rfl, rfl⟩ rfl hl rfl rfl dX12_lumped_23 ⟨rfl, rfl⟩ (fun _ => (List.append_nil _).symm) (fun r5 _u23 hq H locs G => ?_)
      have h := hq
      refine lv_if_ne (tgt := 33) E.ex E.by dX12_lumped_26 (by decide) (fun hc11 => ?_) (fun hc11 => ?_)
      · have h := h.1 hc11
        refine lv_aload_n E.ex E.by dX12_lumped_33 rfl (lv_at hl 0 rfl) ?_
        refine lv_aload_n E.ex E.by dX12_lumped_34 rfl (lv_at hl 0 rfl) ?_
        refine lv_iload_n E.ex E.by dX12_lumped_35 rfl (lv_at hl 1 rfl) ?_
        refine lv_aload_n E.ex E.by dX12_lumped_36 rfl (lv_at hl 0 rfl) ?_
        refine lv_iload_n E.ex E.by dX12_lumped_37 rfl (lv_at hl 2 rfl) ?_
        refine k_cVi (X := []) (w := (wM kc a u4)) (Z := []) (wnew := (fun _ : Unit => (wM kc a u4))) (As := [.int p2]) (rest := [.int p1, .ref (a 0), .ref (a 0)]) E (List.append_nil _).symm G (c_X12_statesOf l D kc _ _ _ _ h) gX12_lumped_X12_statesOf rfl ⟨rfl, rfl⟩ hd_X12_statesOf_v ⟨rfl, rfl⟩ 0 (gM_0 _ _ _) rfl rfl hl rfl rfl dX12_lumped_38 ⟨rfl, rfl⟩ (fun _ => (List.append_nil _).symm) (fun r6 _u38 hq H locs G => ?_)
        have h := hq
        refine k_cVi (X := []) (w := (wM kc a u4)) (Z := []) (wnew := (fun _ : Unit => (wM kc a u4))) (As := [.int p1, .int r6]) (rest := [.ref (a 0)]) E (List.append_nil _).symm G (c_X12_weightInto l D kc _ _ _ _ _ h) gX12_lumped_X12_weightInto rfl ⟨rfl, rfl⟩ hd_X12_weightInto_v ⟨rfl, rfl⟩ 0 (gM_0 _ _ _) rfl rfl hl rfl rfl dX12_lumped_41 ⟨rfl, rfl⟩ (fun _ => (List.append_nil _).symm) (fun r7 _u41 hq H locs G => ?_)
        have h := hq
        refine lv_i2l E.ex E.by dX12_lumped_44 rfl ?_
        refine lv_aload_n E.ex E.by dX12_lumped_45 rfl (lv_at hl 0 rfl) ?_
        refine lv_iload_n E.ex E.by dX12_lumped_46 rfl (lv_at hl 1 rfl) ?_
        refine k_cVi (X := []) (w := (wM kc a u4)) (Z := []) (wnew := (fun _ : Unit => (wM kc a u4))) (As := [.int p1]) (rest := [.long (r7.toInt64), .ref (a 0)]) E (List.append_nil _).symm G (c_X12_sumOf l D kc _ _ _ _ h) gX12_lumped_X12_sumOf rfl ⟨rfl, rfl⟩ hd_X12_sumOf_v ⟨rfl, rfl⟩ 0 (gM_0 _ _ _) rfl rfl hl rfl rfl dX12_lumped_47 ⟨rfl, rfl⟩ (fun _ => (List.append_nil _).symm) (fun r8 _u47 hq H locs G => ?_)
        have h := hq
        refine lv_i2l E.ex E.by dX12_lumped_50 rfl ?_
        refine k_cVv (X := []) (w := (wM kc a u4)) (Z := []) (wnew := (fun u : US => (wM kc a u))) (As := [.long (r7.toInt64), .long (r8.toInt64)]) (rest := []) E (List.append_nil _).symm G (c_X12_give l D kc _ _ _ _ _ h) gX12_lumped_X12_give rfl ⟨rfl, rfl⟩ hd_X12_give_v ⟨rfl, rfl⟩ 0 (gM_0 _ _ _) rfl rfl hl rfl rfl dX12_lumped_51 ⟨rfl, rfl⟩ (fun _ => (List.append_nil _).symm) (fun u9 hq H locs G => ?_)
        have h := hq
        refine lv_aload_n E.ex E.by dX12_lumped_54 rfl (lv_at hl 0 rfl) ?_
        refine lv_iload_n E.ex E.by dX12_lumped_55 rfl (lv_at hl 3 rfl) ?_
        refine k_cVl (X := []) (w := (wM kc a u9)) (Z := []) (wnew := (fun _ : Unit => (wM kc a u9))) (As := [.int p3]) (rest := []) E (List.append_nil _).symm G (c_X12_part l D kc _ _ _ _ h) gX12_lumped_X12_part rfl ⟨rfl, rfl⟩ hd_X12_part_v ⟨rfl, rfl⟩ 0 (gM_0 _ _ _) rfl rfl hl rfl rfl dX12_lumped_56 ⟨rfl, rfl⟩ (fun _ => (List.append_nil _).symm) (fun r10 _u56 hq H locs G => ?_)
        have h := hq
        exact k_retl (wof := (fun u : US => (wM kc a u))) (u := u9) E G h (Nat.le_of_ble_eq_true rfl) (Nat.le_of_ble_eq_true rfl) dX12_lumped_59
      · have h := h.2 hc11
        refine lv_ldc2 (v := (-1)) E.ex E.by E.ow (E.ts _ lc_X12_lumped_167) dX12_lumped_29 ?_
        exact k_retl (wof := (fun u : US => (wM kc a u))) (u := u4) E G h (Nat.le_of_ble_eq_true rfl) (Nat.le_of_ble_eq_true rfl) dX12_lumped_32
theorem wi_X12_at_X12 : ∀ w ∈ wsX120, w ∈ wsX12_at := fun w h => List.mem_cons_of_mem _ (List.mem_append_right _ (h))
theorem fl_X12_at_X12_9 : Cond.fieldLink RX12 25 (TX12 9).1 (TX12 9).2.1 (TX12 9).2.2.1 ∈ wsX12_at := List.mem_of_getElem? (i := 1) (by decide +kernel)
def wp_X12_at (p1 : Int32) (p2 : Int32) (σ : US) (Q : Int64 → Prop) : Prop := vp_in ((9 * p1) + p2) 72 ∧ (Q (aB σ 0 ((9 * p1) + p2).toNatClampNeg))
set_option maxRecDepth 100000 in
set_option maxHeartbeats 4000000 in
theorem c_X12_at (l : Launch) (D : va_G) (kc : Nat → ClassId) (a : Nat → Nat)  (p1 : Int32) (p2 : Int32) (σ : US) (Q : Int64 → Prop) (h : wp_X12_at p1 p2 σ Q) : kCl l D (tyL kc) yX12_at wsX12_at ({ frames := 0, cells := 0, slots := 0, locals := 0 } : Room) [.ref (a 0), .int p1, .int p2] (wM kc a σ) (fun _ : Unit => (wM kc a σ)) 0 0 (fun r _ => Q r) := by
  intro sz
  refine k_begin (cc := cX12_at) (maxL := 3) (ret := (some .long)) (by decide +kernel) rfl rfl (fun p e s m args below meth c hsz E G ls hl => ?_)
  subst hsz
  have hl : lv_has ls 3 [(0, .ref (a 0)), (1, .int p1), (2, .int p2)] := hl
  refine lv_aload_n E.ex E.by dX12_at_0 rfl (lv_at hl 0 rfl) ?_
  refine k_get E G wi_X12_at_X12 0 (gM_0 _ _ _) rfl 9 rfl fl_X12_at_X12_9 (v := .ref (a 6)) rfl dX12_at_1 ?_
  refine lv_bipush (v := 9) E.ex E.by dX12_at_4 (by decide) ?_
  refine lv_iload_n E.ex E.by dX12_at_6 rfl (lv_at hl 1 rfl) ?_
  refine lv_imul E.ex E.by dX12_at_7 ?_
  refine lv_iload_n E.ex E.by dX12_at_8 rfl (lv_at hl 2 rfl) ?_
  refine lv_iadd E.ex E.by dX12_at_9 ?_
  refine k_lald E G 6 (gM_6 _ _ _) 1 rfl h.1 dX12_at_10 ?_
  have h := h.2
  exact k_retl (wof := (fun _ : Unit => (wM kc a σ))) (u := ()) E G h (Nat.le_of_ble_eq_true rfl) (Nat.le_of_ble_eq_true rfl) dX12_at_11
theorem wi_X12_solve_X12 : ∀ w ∈ wsX120, w ∈ wsX12_solve := fun w h => List.mem_cons_of_mem _ (List.mem_append_right _ (h))
theorem fl_X12_solve_X12_11 : Cond.fieldLink RX12 177 (TX12 11).1 (TX12 11).2.1 (TX12 11).2.2.1 ∈ wsX12_solve := List.mem_of_getElem? (i := 1) (by decide +kernel)
theorem fl_X12_solve_X12_10 : Cond.fieldLink RX12 180 (TX12 10).1 (TX12 10).2.1 (TX12 10).2.2.1 ∈ wsX12_solve := List.mem_of_getElem? (i := 2) (by decide +kernel)
theorem fl_X12_solve_X12_9 : Cond.fieldLink RX12 25 (TX12 9).1 (TX12 9).2.1 (TX12 9).2.2.1 ∈ wsX12_solve := List.mem_of_getElem? (i := 3) (by decide +kernel)
theorem hd_X12_at_v : yX12_at.cls = RX12 ∧ yX12_at.cls ≠ "java/lang/invoke/MethodHandle" ∧ yX12_at.cls ≠ "java/lang/invoke/VarHandle" ∧ (parseMethodDescriptor yX12_at.desc).map (fun d => d.parameters.length) = some 2 := by decide +kernel
def wp_X12_solve_L136 (v8 : Int64) (v1 : Int64) (v3 : Int32) (v5 : Int64) (v7 : Int32) (P9 : (Int64 × Int32 × US) → Prop) (P20 : Int32 → Prop) (P41 : (Int32 × US) → Prop) (P109 : (Int32 × US) → Prop) (Q : US → Prop) (P136 : (Int32 × US) → Prop) (t136 : Int32 × US) : Prop := (9 ≤ t136.1 → P109 (v7 + 1, t136.2)) ∧ (¬ 9 ≤ t136.1 → wp_X12_at v7 t136.1 t136.2 (fun (r6 : Int64) => wp_X12_at v3 t136.1 t136.2 (fun (r7 : Int64) => (¬ v1 = (0 : Int64)) ∧ (vp_in ((9 * v7) + t136.1) 72 ∧ (∀ z8 : US, z8 = uB t136.2 0 ((9 * v7) + t136.1).toNatClampNeg (((v5 * r6) - (v8 * r7)) / v1) → P136 (t136.1 + 1, z8))))))
def wp_X12_solve_L109 (v5 : Int64) (v1 : Int64) (v3 : Int32) (P9 : (Int64 × Int32 × US) → Prop) (P20 : Int32 → Prop) (P41 : (Int32 × US) → Prop) (Q : US → Prop) (P109 : (Int32 × US) → Prop) (t109 : Int32 × US) : Prop := ((iI t109.2 2) ≤ t109.1 → P9 (v5, v3 + 1, t109.2)) ∧ (¬ (iI t109.2 2) ≤ t109.1 → (t109.1 = v3 → P109 (t109.1 + 1, t109.2)) ∧ (¬ t109.1 = v3 → wp_X12_at t109.1 v3 t109.2 (fun (r5 : Int64) => lpW (wp_X12_solve_L136 r5 v1 v3 v5 t109.1 P9 P20 P41 P109 Q) (0, t109.2))))
def wp_X12_solve_L41 (v1 : Int64) (v3 : Int32) (v4 : Int32) (P9 : (Int64 × Int32 × US) → Prop) (P20 : Int32 → Prop) (Q : US → Prop) (P41 : (Int32 × US) → Prop) (t41 : Int32 × US) : Prop := (9 ≤ t41.1 → wp_X12_at v3 v3 t41.2 (fun (r4 : Int64) => lpW (wp_X12_solve_L109 r4 v1 v3 P9 P20 P41 Q) (0, t41.2))) ∧ (¬ 9 ≤ t41.1 → wp_X12_at v3 t41.1 t41.2 (fun (r26 : Int64) => wp_X12_at v4 t41.1 t41.2 (fun (r27 : Int64) => vp_in ((9 * v3) + t41.1) 72 ∧ (∀ z28 : US, z28 = uB t41.2 0 ((9 * v3) + t41.1).toNatClampNeg r27 → vp_in ((9 * v4) + t41.1) 72 ∧ (∀ z29 : US, z29 = uB z28 0 ((9 * v4) + t41.1).toNatClampNeg r26 → P41 (t41.1 + 1, z29))))))
def wp_X12_solve_L20 (v1 : Int64) (v3 : Int32) (σ' : US) (P9 : (Int64 × Int32 × US) → Prop) (Q : US → Prop) (P20 : Int32 → Prop) (t20 : Int32) : Prop := wp_X12_at t20 v3 σ' (fun (r3 : Int64) => (¬ (lg_cmp r3 0) = 0 → lpW (wp_X12_solve_L41 v1 v3 t20 P9 P20 Q) (0, σ')) ∧ ((lg_cmp r3 0) = 0 → P20 (t20 + 1)))
def wp_X12_solve_L9 (Q : US → Prop) (P9 : (Int64 × Int32 × US) → Prop) (t9 : Int64 × Int32 × US) : Prop := ((iI t9.2.2 2) ≤ t9.2.1 → (∀ z2 : US, z2 = uJ t9.2.2 2 t9.1 → Q z2)) ∧ (¬ (iI t9.2.2 2) ≤ t9.2.1 → lpW (wp_X12_solve_L20 t9.1 t9.2.1 t9.2.2 P9 Q) t9.2.1)
def wp_X12_solve (σ : US) (Q : US → Prop) : Prop := (∀ z1 : US, z1 = uJ σ 2 1 → lpW (wp_X12_solve_L9 Q) (1, 0, z1))
set_option maxRecDepth 100000 in
set_option maxHeartbeats 4000000 in
theorem c_X12_solve (l : Launch) (D : va_G) (kc : Nat → ClassId) (a : Nat → Nat)  (σ : US) (Q : US → Prop) (h : wp_X12_solve σ Q) : kCv l D (tyL kc) yX12_solve wsX12_solve ({ frames := 1, cells := 0, slots := 0, locals := 22 } : Room) [.ref (a 0)] (wM kc a σ) (fun u : US => (wM kc a u)) 0 0 (fun u => Q u) := by
  intro sz
  refine k_begin (cc := cX12_solve) (maxL := 11) (ret := none) (by decide +kernel) rfl rfl (fun p e s m args below meth c hsz E G ls hl => ?_)
  subst hsz
  have hl : lv_has ls 11 [(0, .ref (a 0))] := hl
  refine lv_lconst (v := 1) E.ex E.by dX12_solve_0 (by decide) ?_
  refine lv_lstore_n (lv' := [(1, .long 1), (0, .ref (a 0))]) E.ex E.by dX12_solve_1 rfl hl (by decide) rfl (fun ls hl => ?_)
  refine lv_aload_n E.ex E.by dX12_solve_2 rfl (lv_at hl 1 rfl) ?_
  refine lv_lconst (v := 1) E.ex E.by dX12_solve_3 (by decide) ?_
  refine k_put (fun z => (wM kc a z)) E G wi_X12_solve_X12 tyX12_ok nmX12 0 (gM_0 _ _ _) rfl 11 rfl fl_X12_solve_X12_11 rfl rfl rfl rfl (uJ σ 2 1) (pM_0_11 _ _ _ _) dX12_solve_4 (fun z1 ez1 H locs G => ?_)
  have h := h z1 ez1
  refine lv_iconst (v := 0) E.ex E.by dX12_solve_7 (by decide) ?_
  refine lv_istore_n (lv' := [(3, .int 0), (1, .long 1), (0, .ref (a 0))]) E.ex E.by dX12_solve_8 rfl hl (by decide) rfl (fun ls hl => ?_)
  refine lpW_ind (fun t2 : Int64 × Int32 × US => ∀ (H : Heap) (locs : List Loc) (ls : Array Slot), kG D (va_A (wM kc a σ) s.heap.size) s (wM kc a t2.2.2) H locs → lv_has ls 11 [(0, .ref (a 0)), (1, .long t2.1), (3, .int t2.2.1)] → W p l e _ s m args below meth c H locs _ _ _ (F0 m 9 ls [])) (fun P9 IH9 t2 h H locs ls G hl => ?_) _ h _ _ _ G (lv_sub hl [2, 1, 0] rfl)
  refine lv_iload_n E.ex E.by dX12_solve_9 rfl (lv_at hl 2 rfl) ?_
  refine lv_aload_n E.ex E.by dX12_solve_10 rfl (lv_at hl 0 rfl) ?_
  refine k_get E G wi_X12_solve_X12 0 (gM_0 _ _ _) rfl 10 rfl fl_X12_solve_X12_10 (v := .int (iI t2.2.2 2)) rfl dX12_solve_11 ?_
  refine lv_icmp_ge (tgt := 201) E.ex E.by dX12_solve_14 (by decide) (fun hc23 => ?_) (fun hc23 => ?_)
  · have h := h.1 hc23
    refine lv_aload_n E.ex E.by dX12_solve_201 rfl (lv_at hl 0 rfl) ?_
    refine lv_lload_n E.ex E.by dX12_solve_202 rfl (lv_at hl 1 rfl) ?_
    refine k_put (fun z => (wM kc a z)) E G wi_X12_solve_X12 tyX12_ok nmX12 0 (gM_0 _ _ _) rfl 11 rfl fl_X12_solve_X12_11 rfl rfl rfl rfl (uJ t2.2.2 2 t2.1) (pM_0_11 _ _ _ _) dX12_solve_203 (fun z3 ez3 H locs G => ?_)
    have h := h z3 ez3
    exact k_retv (wof := (fun u : US => (wM kc a u))) (u := z3) E G h (Nat.le_of_ble_eq_true rfl) (Nat.le_of_ble_eq_true rfl) dX12_solve_206
  · have h := h.2 hc23
    refine lv_iload_n E.ex E.by dX12_solve_17 rfl (lv_at hl 2 rfl) ?_
    refine lv_istore (lv' := [(4, .int t2.2.1), (0, .ref (a 0)), (1, .long t2.1), (3, .int t2.2.1)]) E.ex E.by dX12_solve_18 hl (by decide) rfl (fun ls hl => ?_)
    refine lpW_ind (fun t4 : Int32 => ∀ (H : Heap) (locs : List Loc) (ls : Array Slot), kG D (va_A (wM kc a σ) s.heap.size) s (wM kc a t2.2.2) H locs → lv_has ls 11 [(0, .ref (a 0)), (1, .long t2.1), (3, .int t2.2.1), (4, .int t4)] → W p l e _ s m args below meth c H locs _ _ _ (F0 m 20 ls [])) (fun P20 IH20 t4 h H locs ls G hl => ?_) _ h _ _ _ G (lv_sub hl [1, 2, 3, 0] rfl)
    refine lv_aload_n E.ex E.by dX12_solve_20 rfl (lv_at hl 0 rfl) ?_
    refine lv_iload E.ex E.by dX12_solve_21 (lv_at hl 3 rfl) ?_
    refine lv_iload_n E.ex E.by dX12_solve_23 rfl (lv_at hl 2 rfl) ?_
    refine k_cVl (X := []) (w := (wM kc a t2.2.2)) (Z := []) (wnew := (fun _ : Unit => (wM kc a t2.2.2))) (As := [.int t4, .int t2.2.1]) (rest := []) E (List.append_nil _).symm G (c_X12_at l D kc _ _ _ _ _ h) gX12_solve_X12_at rfl ⟨rfl, rfl⟩ hd_X12_at_v ⟨rfl, rfl⟩ 0 (gM_0 _ _ _) rfl rfl hl rfl rfl dX12_solve_24 ⟨rfl, rfl⟩ (fun _ => (List.append_nil _).symm) (fun r5 _u24 hq H locs G => ?_)
    have h := hq
    refine lv_lconst (v := 0) E.ex E.by dX12_solve_27 (by decide) ?_
    refine W.lcmp E.ex E.by dX12_solve_28 ?_
    refine lv_if_ne (tgt := 38) E.ex E.by dX12_solve_29 (by decide) (fun hc22 => ?_) (fun hc22 => ?_)
    · have h := h.1 hc22
      refine lv_iconst (v := 0) E.ex E.by dX12_solve_38 (by decide) ?_
      refine lv_istore (lv' := [(5, .int 0), (0, .ref (a 0)), (1, .long t2.1), (3, .int t2.2.1), (4, .int t4)]) E.ex E.by dX12_solve_39 hl (by decide) rfl (fun ls hl => ?_)
      refine lpW_ind (fun t6 : Int32 × US => ∀ (H : Heap) (locs : List Loc) (ls : Array Slot), kG D (va_A (wM kc a σ) s.heap.size) s (wM kc a t6.2) H locs → lv_has ls 11 [(0, .ref (a 0)), (1, .long t2.1), (3, .int t2.2.1), (4, .int t4), (5, .int t6.1)] → W p l e _ s m args below meth c H locs _ _ _ (F0 m 41 ls [])) (fun P41 IH41 t6 h H locs ls G hl => ?_) _ h _ _ _ G (lv_sub hl [1, 2, 3, 4, 0] rfl)
      refine lv_iload E.ex E.by dX12_solve_41 (lv_at hl 4 rfl) ?_
      refine lv_bipush (v := 9) E.ex E.by dX12_solve_43 (by decide) ?_
      refine lv_icmp_ge (tgt := 98) E.ex E.by dX12_solve_45 (by decide) (fun hc21 => ?_) (fun hc21 => ?_)
      · have h := h.1 hc21
        refine lv_aload_n E.ex E.by dX12_solve_98 rfl (lv_at hl 0 rfl) ?_
        refine lv_iload_n E.ex E.by dX12_solve_99 rfl (lv_at hl 2 rfl) ?_
        refine lv_iload_n E.ex E.by dX12_solve_100 rfl (lv_at hl 2 rfl) ?_
        refine k_cVl (X := []) (w := (wM kc a t6.2)) (Z := []) (wnew := (fun _ : Unit => (wM kc a t6.2))) (As := [.int t2.2.1, .int t2.2.1]) (rest := []) E (List.append_nil _).symm G (c_X12_at l D kc _ _ _ _ _ h) gX12_solve_X12_at rfl ⟨rfl, rfl⟩ hd_X12_at_v ⟨rfl, rfl⟩ 0 (gM_0 _ _ _) rfl rfl hl rfl rfl dX12_solve_101 ⟨rfl, rfl⟩ (fun _ => (List.append_nil _).symm) (fun r7 _u101 hq H locs G => ?_)
        have h := hq
        refine lv_lstore (lv' := [(5, .long r7), (0, .ref (a 0)), (1, .long t2.1), (3, .int t2.2.1), (4, .int t4)]) E.ex E.by dX12_solve_104 hl (by decide) rfl (fun ls hl => ?_)
        refine lv_iconst (v := 0) E.ex E.by dX12_solve_106 (by decide) ?_
        refine lv_istore (lv' := [(7, .int 0), (5, .long r7), (0, .ref (a 0)), (1, .long t2.1), (3, .int t2.2.1), (4, .int t4)]) E.ex E.by dX12_solve_107 hl (by decide) rfl (fun ls hl => ?_)
        refine lpW_ind (fun t8 : Int32 × US => ∀ (H : Heap) (locs : List Loc) (ls : Array Slot), kG D (va_A (wM kc a σ) s.heap.size) s (wM kc a t8.2) H locs → lv_has ls 11 [(0, .ref (a 0)), (1, .long t2.1), (3, .int t2.2.1), (5, .long r7), (7, .int t8.1)] → W p l e _ s m args below meth c H locs _ _ _ (F0 m 109 ls [])) (fun P109 IH109 t8 h H locs ls G hl => ?_) _ h _ _ _ G (lv_sub hl [2, 3, 4, 1, 0] rfl)
        refine lv_iload E.ex E.by dX12_solve_109 (lv_at hl 4 rfl) ?_
        refine lv_aload_n E.ex E.by dX12_solve_111 rfl (lv_at hl 0 rfl) ?_
        refine k_get E G wi_X12_solve_X12 0 (gM_0 _ _ _) rfl 10 rfl fl_X12_solve_X12_10 (v := .int (iI t8.2 2)) rfl dX12_solve_112 ?_
        refine lv_icmp_ge (tgt := 192) E.ex E.by dX12_solve_115 (by decide) (fun hc16 => ?_) (fun hc16 => ?_)
        · have h := h.1 hc16
          refine lv_lload E.ex E.by dX12_solve_192 (lv_at hl 3 rfl) ?_
          refine lv_lstore_n (lv' := [(1, .long r7), (0, .ref (a 0)), (3, .int t2.2.1), (5, .long r7), (7, .int t8.1)]) E.ex E.by dX12_solve_194 rfl hl (by decide) rfl (fun ls hl => ?_)
          refine lv_iinc (k := 2) (v := t2.2.1 + 1) (lv' := [(3, .int (t2.2.1 + 1)), (1, .long r7), (0, .ref (a 0)), (5, .long r7), (7, .int t8.1)]) E.ex E.by dX12_solve_195 hl rfl (k_inc1 _) (by decide) rfl (fun ls hl => ?_)
          refine lv_goto (tgt := 9) E.ex E.by dX12_solve_198 (by decide) ?_
          exact IH9 _ h _ _ _ G (lv_sub hl [2, 1, 0] rfl)
        · have h := h.2 hc16
          refine lv_iload E.ex E.by dX12_solve_118 (lv_at hl 4 rfl) ?_
          refine lv_iload_n E.ex E.by dX12_solve_120 rfl (lv_at hl 2 rfl) ?_
          refine lv_icmp_eq (tgt := 186) E.ex E.by dX12_solve_121 (by decide) (fun hc15 => ?_) (fun hc15 => ?_)
          · have h := h.1 hc15
            refine lv_iinc (k := 4) (v := t8.1 + 1) (lv' := [(7, .int (t8.1 + 1)), (0, .ref (a 0)), (1, .long t2.1), (3, .int t2.2.1), (5, .long r7)]) E.ex E.by dX12_solve_186 hl rfl (k_inc1 _) (by decide) rfl (fun ls hl => ?_)
            refine lv_goto (tgt := 109) E.ex E.by dX12_solve_189 (by decide) ?_
            exact IH109 _ h _ _ _ G (lv_sub hl [1, 2, 3, 4, 0] rfl)
          · have h := h.2 hc15
            refine lv_aload_n E.ex E.by dX12_solve_124 rfl (lv_at hl 0 rfl) ?_
            refine lv_iload E.ex E.by dX12_solve_125 (lv_at hl 4 rfl) ?_
            refine lv_iload_n E.ex E.by dX12_solve_127 rfl (lv_at hl 2 rfl) ?_
            refine k_cVl (X := []) (w := (wM kc a t8.2)) (Z := []) (wnew := (fun _ : Unit => (wM kc a t8.2))) (As := [.int t8.1, .int t2.2.1]) (rest := []) E (List.append_nil _).symm G (c_X12_at l D kc _ _ _ _ _ h) gX12_solve_X12_at rfl ⟨rfl, rfl⟩ hd_X12_at_v ⟨rfl, rfl⟩ 0 (gM_0 _ _ _) rfl rfl hl rfl rfl dX12_solve_128 ⟨rfl, rfl⟩ (fun _ => (List.append_nil _).symm) (fun r9 _u128 hq H locs G => ?_)
            have h := hq
            refine lv_lstore (lv' := [(8, .long r9), (0, .ref (a 0)), (1, .long t2.1), (3, .int t2.2.1), (5, .long r7), (7, .int t8.1)]) E.ex E.by dX12_solve_131 hl (by decide) rfl (fun ls hl => ?_)
            refine lv_iconst (v := 0) E.ex E.by dX12_solve_133 (by decide) ?_
            refine lv_istore (lv' := [(10, .int 0), (8, .long r9), (0, .ref (a 0)), (1, .long t2.1), (3, .int t2.2.1), (5, .long r7), (7, .int t8.1)]) E.ex E.by dX12_solve_134 hl (by decide) rfl (fun ls hl => ?_)
            refine lpW_ind (fun t10 : Int32 × US => ∀ (H : Heap) (locs : List Loc) (ls : Array Slot), kG D (va_A (wM kc a σ) s.heap.size) s (wM kc a t10.2) H locs → lv_has ls 11 [(0, .ref (a 0)), (1, .long t2.1), (3, .int t2.2.1), (5, .long r7), (7, .int t8.1), (8, .long r9), (10, .int t10.1)] → W p l e _ s m args below meth c H locs _ _ _ (F0 m 136 ls [])) (fun P136 IH136 t10 h H locs ls G hl => ?_) _ h _ _ _ G (lv_sub hl [2, 3, 4, 5, 6, 1, 0] rfl)
            refine lv_iload E.ex E.by dX12_solve_136 (lv_at hl 6 rfl) ?_
            refine lv_bipush (v := 9) E.ex E.by dX12_solve_138 (by decide) ?_
            refine lv_icmp_ge (tgt := 186) E.ex E.by dX12_solve_140 (by decide) (fun hc14 => ?_) (fun hc14 => ?_)
            · have h := h.1 hc14
              refine lv_iinc (k := 4) (v := t8.1 + 1) (lv' := [(7, .int (t8.1 + 1)), (0, .ref (a 0)), (1, .long t2.1), (3, .int t2.2.1), (5, .long r7), (8, .long r9), (10, .int t10.1)]) E.ex E.by dX12_solve_186 hl rfl (k_inc1 _) (by decide) rfl (fun ls hl => ?_)
              refine lv_goto (tgt := 109) E.ex E.by dX12_solve_189 (by decide) ?_
              exact IH109 _ h _ _ _ G (lv_sub hl [1, 2, 3, 4, 0] rfl)
            · have h := h.2 hc14
              refine lv_aload_n E.ex E.by dX12_solve_143 rfl (lv_at hl 0 rfl) ?_
              refine k_get E G wi_X12_solve_X12 0 (gM_0 _ _ _) rfl 9 rfl fl_X12_solve_X12_9 (v := .ref (a 6)) rfl dX12_solve_144 ?_
              refine lv_bipush (v := 9) E.ex E.by dX12_solve_147 (by decide) ?_
              refine lv_iload E.ex E.by dX12_solve_149 (lv_at hl 4 rfl) ?_
              refine lv_imul E.ex E.by dX12_solve_151 ?_
              refine lv_iload E.ex E.by dX12_solve_152 (lv_at hl 6 rfl) ?_
              refine lv_iadd E.ex E.by dX12_solve_154 ?_
              refine lv_lload E.ex E.by dX12_solve_155 (lv_at hl 3 rfl) ?_
              refine lv_aload_n E.ex E.by dX12_solve_157 rfl (lv_at hl 0 rfl) ?_
              refine lv_iload E.ex E.by dX12_solve_158 (lv_at hl 4 rfl) ?_
              refine lv_iload E.ex E.by dX12_solve_160 (lv_at hl 6 rfl) ?_
              refine k_cVl (X := []) (w := (wM kc a t10.2)) (Z := []) (wnew := (fun _ : Unit => (wM kc a t10.2))) (As := [.int t8.1, .int t10.1]) (rest := [.long r7, .int ((9 * t8.1) + t10.1), .ref (a 6)]) E (List.append_nil _).symm G (c_X12_at l D kc _ _ _ _ _ h) gX12_solve_X12_at rfl ⟨rfl, rfl⟩ hd_X12_at_v ⟨rfl, rfl⟩ 0 (gM_0 _ _ _) rfl rfl hl rfl rfl dX12_solve_162 ⟨rfl, rfl⟩ (fun _ => (List.append_nil _).symm) (fun r11 _u162 hq H locs G => ?_)
              have h := hq
              refine lv_lmul E.ex E.by dX12_solve_165 ?_
              refine lv_lload E.ex E.by dX12_solve_166 (lv_at hl 5 rfl) ?_
              refine lv_aload_n E.ex E.by dX12_solve_168 rfl (lv_at hl 0 rfl) ?_
              refine lv_iload_n E.ex E.by dX12_solve_169 rfl (lv_at hl 2 rfl) ?_
              refine lv_iload E.ex E.by dX12_solve_170 (lv_at hl 6 rfl) ?_
              refine k_cVl (X := []) (w := (wM kc a t10.2)) (Z := []) (wnew := (fun _ : Unit => (wM kc a t10.2))) (As := [.int t2.2.1, .int t10.1]) (rest := [.long r9, .long (r7 * r11), .int ((9 * t8.1) + t10.1), .ref (a 6)]) E (List.append_nil _).symm G (c_X12_at l D kc _ _ _ _ _ h) gX12_solve_X12_at rfl ⟨rfl, rfl⟩ hd_X12_at_v ⟨rfl, rfl⟩ 0 (gM_0 _ _ _) rfl rfl hl rfl rfl dX12_solve_172 ⟨rfl, rfl⟩ (fun _ => (List.append_nil _).symm) (fun r12 _u172 hq H locs G => ?_)
              have h := hq
              refine lv_lmul E.ex E.by dX12_solve_175 ?_
              refine lv_lsub E.ex E.by dX12_solve_176 ?_
              refine lv_lload_n E.ex E.by dX12_solve_177 rfl (lv_at hl 1 rfl) ?_
              refine lv_ldiv E.ex E.by dX12_solve_178 h.1 ?_
              have h := h.2
              refine k_last (fun z => (wM kc a z)) E G 6 (gM_6 _ _ _) 1 rfl h.1 (uB t10.2 0 ((9 * t8.1) + t10.1).toNatClampNeg (((r7 * r11) - (r9 * r12)) / t2.1)) (sM_6 _ _ _ _) dX12_solve_179 (fun z13 ez13 H locs G => ?_)
              have h := h.2 z13 ez13
              refine lv_iinc (k := 6) (v := t10.1 + 1) (lv' := [(10, .int (t10.1 + 1)), (0, .ref (a 0)), (1, .long t2.1), (3, .int t2.2.1), (5, .long r7), (7, .int t8.1), (8, .long r9)]) E.ex E.by dX12_solve_180 hl rfl (k_inc1 _) (by decide) rfl (fun ls hl => ?_)
              refine lv_goto (tgt := 136) E.ex E.by dX12_solve_183 (by decide) ?_
              exact IH136 _ h _ _ _ G (lv_sub hl [1, 2, 3, 4, 5, 6, 0] rfl)
      · have h := h.2 hc21
        refine lv_aload_n E.ex E.by dX12_solve_48 rfl (lv_at hl 0 rfl) ?_
        refine lv_iload_n E.ex E.by dX12_solve_49 rfl (lv_at hl 2 rfl) ?_
        refine lv_iload E.ex E.by dX12_solve_50 (lv_at hl 4 rfl) ?_
        refine k_cVl (X := []) (w := (wM kc a t6.2)) (Z := []) (wnew := (fun _ : Unit => (wM kc a t6.2))) (As := [.int t2.2.1, .int t6.1]) (rest := []) E (List.append_nil _).symm G (c_X12_at l D kc _ _ _ _ _ h) gX12_solve_X12_at rfl ⟨rfl, rfl⟩ hd_X12_at_v ⟨rfl, rfl⟩ 0 (gM_0 _ _ _) rfl rfl hl rfl rfl dX12_solve_52 ⟨rfl, rfl⟩ (fun _ => (List.append_nil _).symm) (fun r17 _u52 hq H locs G => ?_)
        have h := hq
        refine lv_lstore (lv' := [(6, .long r17), (0, .ref (a 0)), (1, .long t2.1), (3, .int t2.2.1), (4, .int t4), (5, .int t6.1)]) E.ex E.by dX12_solve_55 hl (by decide) rfl (fun ls hl => ?_)
        refine lv_aload_n E.ex E.by dX12_solve_57 rfl (lv_at hl 1 rfl) ?_
        refine k_get E G wi_X12_solve_X12 0 (gM_0 _ _ _) rfl 9 rfl fl_X12_solve_X12_9 (v := .ref (a 6)) rfl dX12_solve_58 ?_
        refine lv_bipush (v := 9) E.ex E.by dX12_solve_61 (by decide) ?_
        refine lv_iload_n E.ex E.by dX12_solve_63 rfl (lv_at hl 3 rfl) ?_
        refine lv_imul E.ex E.by dX12_solve_64 ?_
        refine lv_iload E.ex E.by dX12_solve_65 (lv_at hl 5 rfl) ?_
        refine lv_iadd E.ex E.by dX12_solve_67 ?_
        refine lv_aload_n E.ex E.by dX12_solve_68 rfl (lv_at hl 1 rfl) ?_
        refine lv_iload E.ex E.by dX12_solve_69 (lv_at hl 4 rfl) ?_
        refine lv_iload E.ex E.by dX12_solve_71 (lv_at hl 5 rfl) ?_
        refine k_cVl (X := []) (w := (wM kc a t6.2)) (Z := []) (wnew := (fun _ : Unit => (wM kc a t6.2))) (As := [.int t4, .int t6.1]) (rest := [.int ((9 * t2.2.1) + t6.1), .ref (a 6)]) E (List.append_nil _).symm G (c_X12_at l D kc _ _ _ _ _ h) gX12_solve_X12_at rfl ⟨rfl, rfl⟩ hd_X12_at_v ⟨rfl, rfl⟩ 0 (gM_0 _ _ _) rfl rfl hl rfl rfl dX12_solve_73 ⟨rfl, rfl⟩ (fun _ => (List.append_nil _).symm) (fun r18 _u73 hq H locs G => ?_)
        have h := hq
        refine k_last (fun z => (wM kc a z)) E G 6 (gM_6 _ _ _) 1 rfl h.1 (uB t6.2 0 ((9 * t2.2.1) + t6.1).toNatClampNeg r18) (sM_6 _ _ _ _) dX12_solve_76 (fun z19 ez19 H locs G => ?_)
        have h := h.2 z19 ez19
        refine lv_aload_n E.ex E.by dX12_solve_77 rfl (lv_at hl 1 rfl) ?_
        refine k_get E G wi_X12_solve_X12 0 (gM_0 _ _ _) rfl 9 rfl fl_X12_solve_X12_9 (v := .ref (a 6)) rfl dX12_solve_78 ?_
        refine lv_bipush (v := 9) E.ex E.by dX12_solve_81 (by decide) ?_
        refine lv_iload E.ex E.by dX12_solve_83 (lv_at hl 4 rfl) ?_
        refine lv_imul E.ex E.by dX12_solve_85 ?_
        refine lv_iload E.ex E.by dX12_solve_86 (lv_at hl 5 rfl) ?_
        refine lv_iadd E.ex E.by dX12_solve_88 ?_
        refine lv_lload E.ex E.by dX12_solve_89 (lv_at hl 0 rfl) ?_
        refine k_last (fun z => (wM kc a z)) E G 6 (gM_6 _ _ _) 1 rfl h.1 (uB z19 0 ((9 * t4) + t6.1).toNatClampNeg r17) (sM_6 _ _ _ _) dX12_solve_91 (fun z20 ez20 H locs G => ?_)
        have h := h.2 z20 ez20
        refine lv_iinc (k := 5) (v := t6.1 + 1) (lv' := [(5, .int (t6.1 + 1)), (6, .long r17), (0, .ref (a 0)), (1, .long t2.1), (3, .int t2.2.1), (4, .int t4)]) E.ex E.by dX12_solve_92 hl rfl (k_inc1 _) (by decide) rfl (fun ls hl => ?_)
        refine lv_goto (tgt := 41) E.ex E.by dX12_solve_95 (by decide) ?_
        exact IH41 _ h _ _ _ G (lv_sub hl [2, 3, 4, 5, 0] rfl)
    · have h := h.2 hc22
      refine lv_iinc (k := 3) (v := t4 + 1) (lv' := [(4, .int (t4 + 1)), (0, .ref (a 0)), (1, .long t2.1), (3, .int t2.2.1)]) E.ex E.by dX12_solve_32 hl rfl (k_inc1 _) (by decide) rfl (fun ls hl => ?_)
      refine lv_goto (tgt := 20) E.ex E.by dX12_solve_35 (by decide) ?_
      exact IH20 _ h _ _ _ G (lv_sub hl [1, 2, 3, 0] rfl)
theorem wi_X12_begin_X12 : ∀ w ∈ wsX120, w ∈ wsX12_begin := fun w h => List.mem_cons_of_mem _ (List.mem_append_right _ (h))
theorem fl_X12_begin_X12_10 : Cond.fieldLink RX12 180 (TX12 10).1 (TX12 10).2.1 (TX12 10).2.2.1 ∈ wsX12_begin := List.mem_of_getElem? (i := 1) (by decide +kernel)
theorem fl_X12_begin_X12_0 : Cond.fieldLink RX12 9 (TX12 0).1 (TX12 0).2.1 (TX12 0).2.2.1 ∈ wsX12_begin := List.mem_of_getElem? (i := 2) (by decide +kernel)
theorem fl_X12_begin_X12_9 : Cond.fieldLink RX12 25 (TX12 9).1 (TX12 9).2.1 (TX12 9).2.2.1 ∈ wsX12_begin := List.mem_of_getElem? (i := 4) (by decide +kernel)
theorem fl_X12_begin_X12_12 : Cond.fieldLink RX12 29 (TX12 12).1 (TX12 12).2.1 (TX12 12).2.2.1 ∈ wsX12_begin := List.mem_of_getElem? (i := 3) (by decide +kernel)
def wp_X12_begin_J98 (v2j98 : Int32) (v3j98 : Int32) (σ'j98 : US) (s0j98 : Int64) (P53 : (Int32 × US) → Prop) (P63 : (Int32 × US) → Prop) (Q : US → Prop) : Prop := (¬ v2j98 = v3j98 → vp_in ((9 * v2j98) + v3j98) 72 ∧ (∀ z2 : US, z2 = uB σ'j98 0 ((9 * v2j98) + v3j98).toNatClampNeg (0 - s0j98) → P63 (v3j98 + 1, z2))) ∧ (v2j98 = v3j98 → vp_in v2j98 8 ∧ (wp_X12_sumOf (aA σ'j98 5 (v2j98).toNatClampNeg) σ'j98 (fun (r3 : Int32) => vp_in ((9 * v2j98) + v3j98) 72 ∧ (∀ z4 : US, z4 = uB σ'j98 0 ((9 * v2j98) + v3j98).toNatClampNeg ((r3.toInt64) - s0j98) → P63 (v3j98 + 1, z4)))))
def wp_X12_begin_L63 (v2 : Int32) (P7 : (Int32 × US) → Prop) (P53 : (Int32 × US) → Prop) (Q : US → Prop) (P63 : (Int32 × US) → Prop) (t63 : Int32 × US) : Prop := (9 ≤ t63.1 → P53 (v2 + 1, t63.2)) ∧ (¬ 9 ≤ t63.1 → ((iI t63.2 2) ≤ t63.1 → wp_X12_begin_J98 v2 t63.1 t63.2 0 P53 P63 Q) ∧ (¬ (iI t63.2 2) ≤ t63.1 → vp_in v2 8 ∧ (vp_in t63.1 8 ∧ (wp_X12_weightOf (aA t63.2 5 (v2).toNatClampNeg) (aA t63.2 5 (t63.1).toNatClampNeg) t63.2 (fun (r6 : Int32) => wp_X12_begin_J98 v2 t63.1 t63.2 (r6.toInt64) P53 P63 Q)))))
def wp_X12_begin_L53 (P7 : (Int32 × US) → Prop) (Q : US → Prop) (P53 : (Int32 × US) → Prop) (t53 : Int32 × US) : Prop := ((iI t53.2 2) ≤ t53.1 → Q t53.2) ∧ (¬ (iI t53.2 2) ≤ t53.1 → lpW (wp_X12_begin_L63 t53.1 P7 P53 Q) (0, t53.2))
def wp_X12_begin_L7 (v1 : Int32) (Q : US → Prop) (P7 : (Int32 × US) → Prop) (t7 : Int32 × US) : Prop := vp_in 0 81 ∧ (((aA t7.2 0 (0 : Int32).toNatClampNeg) ≤ t7.1 → lpW (wp_X12_begin_L53 P7 Q) (0, t7.2)) ∧ (¬ (aA t7.2 0 (0 : Int32).toNatClampNeg) ≤ t7.1 → wp_X12_has v1 t7.1 (fun (r32 : Int32) => (r32 = 0 → P7 (t7.1 + 1, t7.2)) ∧ (¬ r32 = 0 → vp_in (iI t7.2 2) 8 ∧ (∀ z33 : US, z33 = uA t7.2 5 (iI t7.2 2).toNatClampNeg t7.1 → (∀ z34 : US, z34 = uI z33 2 ((iI z33 2) + 1) → P7 (t7.1 + 1, z34)))))))
def wp_X12_begin (p1 : Int32) (σ : US) (Q : US → Prop) : Prop := (∀ z1 : US, z1 = uI σ 2 0 → lpW (wp_X12_begin_L7 p1 Q) (0, z1))
set_option maxRecDepth 100000 in
set_option maxHeartbeats 4000000 in
theorem c_X12_begin (l : Launch) (D : va_G) (kc : Nat → ClassId) (a : Nat → Nat)  (p1 : Int32) (σ : US) (Q : US → Prop) (h : wp_X12_begin p1 σ Q) : kCv l D (tyL kc) yX12_begin wsX12_begin ({ frames := 2, cells := 0, slots := 0, locals := 51 } : Room) [.ref (a 0), .int p1] (wM kc a σ) (fun u : US => (wM kc a u)) 0 0 (fun u => Q u) := by
  intro sz
  refine k_begin (cc := cX12_begin) (maxL := 6) (ret := none) (by decide +kernel) rfl rfl (fun p e s m args below meth c hsz E G ls hl => ?_)
  subst hsz
  have hl : lv_has ls 6 [(0, .ref (a 0)), (1, .int p1)] := hl
  refine lv_aload_n E.ex E.by dX12_begin_0 rfl (lv_at hl 0 rfl) ?_
  refine lv_iconst (v := 0) E.ex E.by dX12_begin_1 (by decide) ?_
  refine k_put (fun z => (wM kc a z)) E G wi_X12_begin_X12 tyX12_ok nmX12 0 (gM_0 _ _ _) rfl 10 rfl fl_X12_begin_X12_10 rfl rfl rfl rfl (uI σ 2 0) (pM_0_10 _ _ _ _) dX12_begin_2 (fun z1 ez1 H locs G => ?_)
  have h := h z1 ez1
  refine lv_iconst (v := 0) E.ex E.by dX12_begin_5 (by decide) ?_
  refine lv_istore_n (lv' := [(2, .int 0), (0, .ref (a 0)), (1, .int p1)]) E.ex E.by dX12_begin_6 rfl hl (by decide) rfl (fun ls hl => ?_)
  refine lpW_ind (fun t2 : Int32 × US => ∀ (H : Heap) (locs : List Loc) (ls : Array Slot), kG D (va_A (wM kc a σ) s.heap.size) s (wM kc a t2.2) H locs → lv_has ls 6 [(0, .ref (a 0)), (1, .int p1), (2, .int t2.1)] → W p l e _ s m args below meth c H locs _ _ _ (F0 m 7 ls [])) (fun P7 IH7 t2 h H locs ls G hl => ?_) _ h _ _ _ G (lv_sub hl [1, 2, 0] rfl)
  refine lv_iload_n E.ex E.by dX12_begin_7 rfl (lv_at hl 2 rfl) ?_
  refine lv_aload_n E.ex E.by dX12_begin_8 rfl (lv_at hl 0 rfl) ?_
  refine k_get E G wi_X12_begin_X12 0 (gM_0 _ _ _) rfl 0 rfl fl_X12_begin_X12_0 (v := .ref (a 1)) rfl dX12_begin_9 ?_
  refine lv_iconst (v := 0) E.ex E.by dX12_begin_12 (by decide) ?_
  refine k_iald E G 1 (gM_1 _ _ _) 0 rfl h.1 dX12_begin_13 ?_
  have h := h.2
  refine lv_icmp_ge (tgt := 51) E.ex E.by dX12_begin_14 (by decide) (fun hc17 => ?_) (fun hc17 => ?_)
  · have h := h.1 hc17
    refine lv_iconst (v := 0) E.ex E.by dX12_begin_51 (by decide) ?_
    refine lv_istore_n (lv' := [(2, .int 0), (0, .ref (a 0)), (1, .int p1)]) E.ex E.by dX12_begin_52 rfl hl (by decide) rfl (fun ls hl => ?_)
    refine lpW_ind (fun t3 : Int32 × US => ∀ (H : Heap) (locs : List Loc) (ls : Array Slot), kG D (va_A (wM kc a σ) s.heap.size) s (wM kc a t3.2) H locs → lv_has ls 6 [(0, .ref (a 0)), (2, .int t3.1)] → W p l e _ s m args below meth c H locs _ _ _ (F0 m 53 ls [])) (fun P53 IH53 t3 h H locs ls G hl => ?_) _ h _ _ _ G (lv_sub hl [1, 0] rfl)
    refine lv_iload_n E.ex E.by dX12_begin_53 rfl (lv_at hl 1 rfl) ?_
    refine lv_aload_n E.ex E.by dX12_begin_54 rfl (lv_at hl 0 rfl) ?_
    refine k_get E G wi_X12_begin_X12 0 (gM_0 _ _ _) rfl 10 rfl fl_X12_begin_X12_10 (v := .int (iI t3.2 2)) rfl dX12_begin_55 ?_
    refine lv_icmp_ge (tgt := 146) E.ex E.by dX12_begin_58 (by decide) (fun hc12 => ?_) (fun hc12 => ?_)
    · have h := h.1 hc12
      exact k_retv (wof := (fun u : US => (wM kc a u))) (u := t3.2) E G h (Nat.le_of_ble_eq_true rfl) (Nat.le_of_ble_eq_true rfl) dX12_begin_146
    · have h := h.2 hc12
      refine lv_iconst (v := 0) E.ex E.by dX12_begin_61 (by decide) ?_
      refine lv_istore_n (lv' := [(3, .int 0), (0, .ref (a 0)), (2, .int t3.1)]) E.ex E.by dX12_begin_62 rfl hl (by decide) rfl (fun ls hl => ?_)
      refine lpW_ind (fun t4 : Int32 × US => ∀ (H : Heap) (locs : List Loc) (ls : Array Slot), kG D (va_A (wM kc a σ) s.heap.size) s (wM kc a t4.2) H locs → lv_has ls 6 [(0, .ref (a 0)), (2, .int t3.1), (3, .int t4.1)] → W p l e _ s m args below meth c H locs _ _ _ (F0 m 63 ls [])) (fun P63 IH63 t4 h H locs ls G hl => ?_) _ h _ _ _ G (lv_sub hl [1, 2, 0] rfl)
      have K98 : ∀ (v3j98 : Int32) (σ'j98 : US) (s0j98 : Int64) (H : Heap) (locs : List Loc) (ls : Array Slot), kG D (va_A (wM kc a σ) s.heap.size) s (wM kc a σ'j98) H locs → lv_has ls 6 [(0, .ref (a 0)), (2, .int t3.1), (3, .int v3j98)] → wp_X12_begin_J98 t3.1 v3j98 σ'j98 s0j98 P53 P63 Q → W p l e ({ frames := 2, cells := 0, slots := 0, locals := 51 } : Room) s m args below meth c H locs 0 0 (MQ below (va_Qv (fun u => Q u) (kB D (wM kc a σ) s.heap.size (fun u : US => (wM kc a u))) (va_A (wM kc a σ) s.heap.size)) args s 0 0 (va_A (wM kc a σ) s.heap.size)) (F0 m 98 ls [.long s0j98]) := by
        intro v3j98 σ'j98 s0j98 H locs ls G hl h
        refine lv_lstore (lv' := [(4, .long s0j98), (0, .ref (a 0)), (2, .int t3.1), (3, .int v3j98)]) E.ex E.by dX12_begin_98 hl (by decide) rfl (fun ls hl => ?_)
        refine lv_aload_n E.ex E.by dX12_begin_100 rfl (lv_at hl 1 rfl) ?_
        refine k_get E G wi_X12_begin_X12 0 (gM_0 _ _ _) rfl 9 rfl fl_X12_begin_X12_9 (v := .ref (a 6)) rfl dX12_begin_101 ?_
        refine lv_bipush (v := 9) E.ex E.by dX12_begin_104 (by decide) ?_
        refine lv_iload_n E.ex E.by dX12_begin_106 rfl (lv_at hl 2 rfl) ?_
        refine lv_imul E.ex E.by dX12_begin_107 ?_
        refine lv_iload_n E.ex E.by dX12_begin_108 rfl (lv_at hl 3 rfl) ?_
        refine lv_iadd E.ex E.by dX12_begin_109 ?_
        refine lv_iload_n E.ex E.by dX12_begin_110 rfl (lv_at hl 2 rfl) ?_
        refine lv_iload_n E.ex E.by dX12_begin_111 rfl (lv_at hl 3 rfl) ?_
        refine lv_icmp_ne (tgt := 129) E.ex E.by dX12_begin_112 (by decide) (fun hc11 => ?_) (fun hc11 => ?_)
        · have h := h.1 hc11
          refine lv_lconst (v := 0) E.ex E.by dX12_begin_129 (by decide) ?_
          refine lv_lload E.ex E.by dX12_begin_130 (lv_at hl 0 rfl) ?_
          refine lv_lsub E.ex E.by dX12_begin_132 ?_
          refine k_last (fun z => (wM kc a z)) E G 6 (gM_6 _ _ _) 1 rfl h.1 (uB σ'j98 0 ((9 * t3.1) + v3j98).toNatClampNeg (0 - s0j98)) (sM_6 _ _ _ _) dX12_begin_133 (fun z8 ez8 H locs G => ?_)
          have h := h.2 z8 ez8
          refine lv_iinc (k := 3) (v := v3j98 + 1) (lv' := [(3, .int (v3j98 + 1)), (4, .long s0j98), (0, .ref (a 0)), (2, .int t3.1)]) E.ex E.by dX12_begin_134 hl rfl (k_inc1 _) (by decide) rfl (fun ls hl => ?_)
          refine lv_goto (tgt := 63) E.ex E.by dX12_begin_137 (by decide) ?_
          exact IH63 _ h _ _ _ G (lv_sub hl [2, 3, 0] rfl)
        · have h := h.2 hc11
          refine lv_aload_n E.ex E.by dX12_begin_115 rfl (lv_at hl 1 rfl) ?_
          refine lv_aload_n E.ex E.by dX12_begin_116 rfl (lv_at hl 1 rfl) ?_
          refine k_get E G wi_X12_begin_X12 0 (gM_0 _ _ _) rfl 12 rfl fl_X12_begin_X12_12 (v := .ref (a 7)) rfl dX12_begin_117 ?_
          refine lv_iload_n E.ex E.by dX12_begin_120 rfl (lv_at hl 2 rfl) ?_
          refine k_iald E G 7 (gM_7 _ _ _) 0 rfl h.1 dX12_begin_121 ?_
          have h := h.2
          refine k_cVi (X := []) (w := (wM kc a σ'j98)) (Z := []) (wnew := (fun _ : Unit => (wM kc a σ'j98))) (As := [.int (aA σ'j98 5 (t3.1).toNatClampNeg)]) (rest := [.int ((9 * t3.1) + v3j98), .ref (a 6)]) E (List.append_nil _).symm G (c_X12_sumOf l D kc _ _ _ _ h) gX12_begin_X12_sumOf rfl ⟨rfl, rfl⟩ hd_X12_sumOf_v ⟨rfl, rfl⟩ 0 (gM_0 _ _ _) rfl rfl hl rfl rfl dX12_begin_122 ⟨rfl, rfl⟩ (fun _ => (List.append_nil _).symm) (fun r9 _u122 hq H locs G => ?_)
          have h := hq
          refine lv_i2l E.ex E.by dX12_begin_125 rfl ?_
          refine lv_goto (tgt := 130) E.ex E.by dX12_begin_126 (by decide) ?_
          refine lv_lload E.ex E.by dX12_begin_130 (lv_at hl 0 rfl) ?_
          refine lv_lsub E.ex E.by dX12_begin_132 ?_
          refine k_last (fun z => (wM kc a z)) E G 6 (gM_6 _ _ _) 1 rfl h.1 (uB σ'j98 0 ((9 * t3.1) + v3j98).toNatClampNeg ((r9.toInt64) - s0j98)) (sM_6 _ _ _ _) dX12_begin_133 (fun z10 ez10 H locs G => ?_)
          have h := h.2 z10 ez10
          refine lv_iinc (k := 3) (v := v3j98 + 1) (lv' := [(3, .int (v3j98 + 1)), (4, .long s0j98), (0, .ref (a 0)), (2, .int t3.1)]) E.ex E.by dX12_begin_134 hl rfl (k_inc1 _) (by decide) rfl (fun ls hl => ?_)
          refine lv_goto (tgt := 63) E.ex E.by dX12_begin_137 (by decide) ?_
          exact IH63 _ h _ _ _ G (lv_sub hl [2, 3, 0] rfl)
      refine lv_iload_n E.ex E.by dX12_begin_63 rfl (lv_at hl 2 rfl) ?_
      refine lv_bipush (v := 9) E.ex E.by dX12_begin_64 (by decide) ?_
      refine lv_icmp_ge (tgt := 140) E.ex E.by dX12_begin_66 (by decide) (fun hc7 => ?_) (fun hc7 => ?_)
      · have h := h.1 hc7
        refine lv_iinc (k := 1) (v := t3.1 + 1) (lv' := [(2, .int (t3.1 + 1)), (0, .ref (a 0)), (3, .int t4.1)]) E.ex E.by dX12_begin_140 hl rfl (k_inc1 _) (by decide) rfl (fun ls hl => ?_)
        refine lv_goto (tgt := 53) E.ex E.by dX12_begin_143 (by decide) ?_
        exact IH53 _ h _ _ _ G (lv_sub hl [1, 0] rfl)
      · have h := h.2 hc7
        refine lv_iload_n E.ex E.by dX12_begin_69 rfl (lv_at hl 2 rfl) ?_
        refine lv_aload_n E.ex E.by dX12_begin_70 rfl (lv_at hl 0 rfl) ?_
        refine k_get E G wi_X12_begin_X12 0 (gM_0 _ _ _) rfl 10 rfl fl_X12_begin_X12_10 (v := .int (iI t4.2 2)) rfl dX12_begin_71 ?_
        refine lv_icmp_ge (tgt := 97) E.ex E.by dX12_begin_74 (by decide) (fun hc6 => ?_) (fun hc6 => ?_)
        · have h := h.1 hc6
          refine lv_lconst (v := 0) E.ex E.by dX12_begin_97 (by decide) ?_
          exact K98 _ _ _ _ _ _ G (lv_sub hl [0, 1, 2] rfl) h
        · have h := h.2 hc6
          refine lv_aload_n E.ex E.by dX12_begin_77 rfl (lv_at hl 0 rfl) ?_
          refine lv_aload_n E.ex E.by dX12_begin_78 rfl (lv_at hl 0 rfl) ?_
          refine k_get E G wi_X12_begin_X12 0 (gM_0 _ _ _) rfl 12 rfl fl_X12_begin_X12_12 (v := .ref (a 7)) rfl dX12_begin_79 ?_
          refine lv_iload_n E.ex E.by dX12_begin_82 rfl (lv_at hl 1 rfl) ?_
          refine k_iald E G 7 (gM_7 _ _ _) 0 rfl h.1 dX12_begin_83 ?_
          have h := h.2
          refine lv_aload_n E.ex E.by dX12_begin_84 rfl (lv_at hl 0 rfl) ?_
          refine k_get E G wi_X12_begin_X12 0 (gM_0 _ _ _) rfl 12 rfl fl_X12_begin_X12_12 (v := .ref (a 7)) rfl dX12_begin_85 ?_
          refine lv_iload_n E.ex E.by dX12_begin_88 rfl (lv_at hl 2 rfl) ?_
          refine k_iald E G 7 (gM_7 _ _ _) 0 rfl h.1 dX12_begin_89 ?_
          have h := h.2
          refine k_cVi (X := []) (w := (wM kc a t4.2)) (Z := []) (wnew := (fun _ : Unit => (wM kc a t4.2))) (As := [.int (aA t4.2 5 (t3.1).toNatClampNeg), .int (aA t4.2 5 (t4.1).toNatClampNeg)]) (rest := []) E (List.append_nil _).symm G (c_X12_weightOf l D kc _ _ _ _ _ h) gX12_begin_X12_weightOf rfl ⟨rfl, rfl⟩ hd_X12_weightOf_v ⟨rfl, rfl⟩ 0 (gM_0 _ _ _) rfl rfl hl rfl rfl dX12_begin_90 ⟨rfl, rfl⟩ (fun _ => (List.append_nil _).symm) (fun r5 _u90 hq H locs G => ?_)
          have h := hq
          refine lv_i2l E.ex E.by dX12_begin_93 rfl ?_
          refine lv_goto (tgt := 98) E.ex E.by dX12_begin_94 (by decide) ?_
          exact K98 _ _ _ _ _ _ G (lv_sub hl [0, 1, 2] rfl) h
  · have h := h.2 hc17
    refine lv_iload_n E.ex E.by dX12_begin_17 rfl (lv_at hl 1 rfl) ?_
    refine lv_iload_n E.ex E.by dX12_begin_18 rfl (lv_at hl 2 rfl) ?_
    refine k_cSi (X := (wM kc a t2.2)) (w := []) (Z := []) (wnew := (fun _ : Unit => (wM kc a t2.2))) (As := [.int p1, .int t2.1]) (rest := []) E (List.append_nil _).symm G (c_X12_has l D kc _ _ _ h) gX12_begin_X12_has rfl ⟨rfl, rfl⟩ hd_X12_has_v ⟨rfl, rfl⟩ rfl hl rfl rfl dX12_begin_19 ⟨rfl, rfl⟩ (fun _ => (List.append_nil _).symm) (fun r13 _u19 hq H locs G => ?_)
    have h := hq
    refine lv_if_eq (tgt := 45) E.ex E.by dX12_begin_22 (by decide) (fun hc16 => ?_) (fun hc16 => ?_)
    · have h := h.1 hc16
      refine lv_iinc (k := 2) (v := t2.1 + 1) (lv' := [(2, .int (t2.1 + 1)), (0, .ref (a 0)), (1, .int p1)]) E.ex E.by dX12_begin_45 hl rfl (k_inc1 _) (by decide) rfl (fun ls hl => ?_)
      refine lv_goto (tgt := 7) E.ex E.by dX12_begin_48 (by decide) ?_
      exact IH7 _ h _ _ _ G (lv_sub hl [1, 2, 0] rfl)
    · have h := h.2 hc16
      refine lv_aload_n E.ex E.by dX12_begin_25 rfl (lv_at hl 0 rfl) ?_
      refine k_get E G wi_X12_begin_X12 0 (gM_0 _ _ _) rfl 12 rfl fl_X12_begin_X12_12 (v := .ref (a 7)) rfl dX12_begin_26 ?_
      refine lv_aload_n E.ex E.by dX12_begin_29 rfl (lv_at hl 0 rfl) ?_
      refine k_get E G wi_X12_begin_X12 0 (gM_0 _ _ _) rfl 10 rfl fl_X12_begin_X12_10 (v := .int (iI t2.2 2)) rfl dX12_begin_30 ?_
      refine lv_iload_n E.ex E.by dX12_begin_33 rfl (lv_at hl 2 rfl) ?_
      refine k_iast (fun z => (wM kc a z)) E G 7 (gM_7 _ _ _) 0 rfl h.1 (uA t2.2 5 (iI t2.2 2).toNatClampNeg t2.1) (sM_7 _ _ _ _) dX12_begin_34 (fun z14 ez14 H locs G => ?_)
      have h := h.2 z14 ez14
      refine lv_aload_n E.ex E.by dX12_begin_35 rfl (lv_at hl 0 rfl) ?_
      refine lv_dup E.ex E.by dX12_begin_36 rfl ?_
      refine k_get E G wi_X12_begin_X12 0 (gM_0 _ _ _) rfl 10 rfl fl_X12_begin_X12_10 (v := .int (iI z14 2)) rfl dX12_begin_37 ?_
      refine lv_iconst (v := 1) E.ex E.by dX12_begin_40 (by decide) ?_
      refine lv_iadd E.ex E.by dX12_begin_41 ?_
      refine k_put (fun z => (wM kc a z)) E G wi_X12_begin_X12 tyX12_ok nmX12 0 (gM_0 _ _ _) rfl 10 rfl fl_X12_begin_X12_10 rfl rfl rfl rfl (uI z14 2 ((iI z14 2) + 1)) (pM_0_10 _ _ _ _) dX12_begin_42 (fun z15 ez15 H locs G => ?_)
      have h := h z15 ez15
      refine lv_iinc (k := 2) (v := t2.1 + 1) (lv' := [(2, .int (t2.1 + 1)), (0, .ref (a 0)), (1, .int p1)]) E.ex E.by dX12_begin_45 hl rfl (k_inc1 _) (by decide) rfl (fun ls hl => ?_)
      refine lv_goto (tgt := 7) E.ex E.by dX12_begin_48 (by decide) ?_
      exact IH7 _ h _ _ _ G (lv_sub hl [1, 2, 0] rfl)
theorem wi_X12_placeOf_X12 : ∀ w ∈ wsX120, w ∈ wsX12_placeOf := fun w h => List.mem_cons_of_mem _ (List.mem_append_right _ (h))
theorem fl_X12_placeOf_X12_12 : Cond.fieldLink RX12 29 (TX12 12).1 (TX12 12).2.1 (TX12 12).2.2.1 ∈ wsX12_placeOf := List.mem_of_getElem? (i := 1) (by decide +kernel)
def wp_X12_placeOf_L2 (v1 : Int32) (σ : US) (Q : Int32 → Prop) (P2 : Int32 → Prop) (t2 : Int32) : Prop := vp_in t2 8 ∧ (((aA σ 5 (t2).toNatClampNeg) = v1 → Q t2) ∧ (¬ (aA σ 5 (t2).toNatClampNeg) = v1 → P2 (t2 + 1)))
def wp_X12_placeOf (p1 : Int32) (σ : US) (Q : Int32 → Prop) : Prop := lpW (wp_X12_placeOf_L2 p1 σ Q) 0
set_option maxRecDepth 100000 in
set_option maxHeartbeats 4000000 in
theorem c_X12_placeOf (l : Launch) (D : va_G) (kc : Nat → ClassId) (a : Nat → Nat)  (p1 : Int32) (σ : US) (Q : Int32 → Prop) (h : wp_X12_placeOf p1 σ Q) : kCi l D (tyL kc) yX12_placeOf wsX12_placeOf ({ frames := 0, cells := 0, slots := 0, locals := 0 } : Room) [.ref (a 0), .int p1] (wM kc a σ) (fun _ : Unit => (wM kc a σ)) 0 0 (fun r _ => Q r) := by
  intro sz
  refine k_begin (cc := cX12_placeOf) (maxL := 3) (ret := (some .int)) (by decide +kernel) rfl rfl (fun p e s m args below meth c hsz E G ls hl => ?_)
  subst hsz
  have hl : lv_has ls 3 [(0, .ref (a 0)), (1, .int p1)] := hl
  refine lv_iconst (v := 0) E.ex E.by dX12_placeOf_0 (by decide) ?_
  refine lv_istore_n (lv' := [(2, .int 0), (0, .ref (a 0)), (1, .int p1)]) E.ex E.by dX12_placeOf_1 rfl hl (by decide) rfl (fun ls hl => ?_)
  refine lpW_ind (fun t1 : Int32 => ∀ (H : Heap) (locs : List Loc) (ls : Array Slot), kG D (va_A (wM kc a σ) s.heap.size) s (wM kc a σ) H locs → lv_has ls 3 [(0, .ref (a 0)), (1, .int p1), (2, .int t1)] → W p l e _ s m args below meth c H locs _ _ _ (F0 m 2 ls [])) (fun P2 IH2 t1 h H locs ls G hl => ?_) _ h _ _ _ G (lv_sub hl [1, 2, 0] rfl)
  refine lv_aload_n E.ex E.by dX12_placeOf_2 rfl (lv_at hl 0 rfl) ?_
  refine k_get E G wi_X12_placeOf_X12 0 (gM_0 _ _ _) rfl 12 rfl fl_X12_placeOf_X12_12 (v := .ref (a 7)) rfl dX12_placeOf_3 ?_
  refine lv_iload_n E.ex E.by dX12_placeOf_6 rfl (lv_at hl 2 rfl) ?_
  refine k_iald E G 7 (gM_7 _ _ _) 0 rfl h.1 dX12_placeOf_7 ?_
  have h := h.2
  refine lv_iload_n E.ex E.by dX12_placeOf_8 rfl (lv_at hl 1 rfl) ?_
  refine lv_icmp_eq (tgt := 18) E.ex E.by dX12_placeOf_9 (by decide) (fun hc2 => ?_) (fun hc2 => ?_)
  · have h := h.1 hc2
    refine lv_iload_n E.ex E.by dX12_placeOf_18 rfl (lv_at hl 2 rfl) ?_
    exact k_ret (wof := (fun _ : Unit => (wM kc a σ))) (u := ()) E G rfl h (Nat.le_of_ble_eq_true rfl) (Nat.le_of_ble_eq_true rfl) dX12_placeOf_19
  · have h := h.2 hc2
    refine lv_iinc (k := 2) (v := t1 + 1) (lv' := [(2, .int (t1 + 1)), (0, .ref (a 0)), (1, .int p1)]) E.ex E.by dX12_placeOf_12 hl rfl (k_inc1 _) (by decide) rfl (fun ls hl => ?_)
    refine lv_goto (tgt := 2) E.ex E.by dX12_placeOf_15 (by decide) ?_
    exact IH2 _ h _ _ _ G (lv_sub hl [1, 2, 0] rfl)
theorem wi_X12_right_X12 : ∀ w ∈ wsX120, w ∈ wsX12_right := fun w h => List.mem_cons_of_mem _ (List.mem_append_right _ (h))
theorem fl_X12_right_X12_9 : Cond.fieldLink RX12 25 (TX12 9).1 (TX12 9).2.1 (TX12 9).2.2.1 ∈ wsX12_right := List.mem_of_getElem? (i := 1) (by decide +kernel)
def wp_X12_right (p1 : Int32) (p2 : Int64) (σ : US) (Q : US → Prop) : Prop := vp_in ((9 * p1) + 8) 72 ∧ (∀ z1 : US, z1 = uB σ 0 ((9 * p1) + 8).toNatClampNeg p2 → Q z1)
set_option maxRecDepth 100000 in
set_option maxHeartbeats 4000000 in
theorem c_X12_right (l : Launch) (D : va_G) (kc : Nat → ClassId) (a : Nat → Nat)  (p1 : Int32) (p2 : Int64) (σ : US) (Q : US → Prop) (h : wp_X12_right p1 p2 σ Q) : kCv l D (tyL kc) yX12_right wsX12_right ({ frames := 0, cells := 0, slots := 0, locals := 0 } : Room) [.ref (a 0), .int p1, .long p2] (wM kc a σ) (fun u : US => (wM kc a u)) 0 0 (fun u => Q u) := by
  intro sz
  refine k_begin (cc := cX12_right) (maxL := 4) (ret := none) (by decide +kernel) rfl rfl (fun p e s m args below meth c hsz E G ls hl => ?_)
  subst hsz
  have hl : lv_has ls 4 [(0, .ref (a 0)), (1, .int p1), (2, .long p2)] := hl
  refine lv_aload_n E.ex E.by dX12_right_0 rfl (lv_at hl 0 rfl) ?_
  refine k_get E G wi_X12_right_X12 0 (gM_0 _ _ _) rfl 9 rfl fl_X12_right_X12_9 (v := .ref (a 6)) rfl dX12_right_1 ?_
  refine lv_bipush (v := 9) E.ex E.by dX12_right_4 (by decide) ?_
  refine lv_iload_n E.ex E.by dX12_right_6 rfl (lv_at hl 1 rfl) ?_
  refine lv_imul E.ex E.by dX12_right_7 ?_
  refine lv_bipush (v := 8) E.ex E.by dX12_right_8 (by decide) ?_
  refine lv_iadd E.ex E.by dX12_right_10 ?_
  refine lv_lload_n E.ex E.by dX12_right_11 rfl (lv_at hl 2 rfl) ?_
  refine k_last (fun z => (wM kc a z)) E G 6 (gM_6 _ _ _) 1 rfl h.1 (uB σ 0 ((9 * p1) + 8).toNatClampNeg p2) (sM_6 _ _ _ _) dX12_right_12 (fun z1 ez1 H locs G => ?_)
  have h := h.2 z1 ez1
  exact k_retv (wof := (fun u : US => (wM kc a u))) (u := z1) E G h (Nat.le_of_ble_eq_true rfl) (Nat.le_of_ble_eq_true rfl) dX12_right_13
theorem hd_X12_placeOf_v : yX12_placeOf.cls = RX12 ∧ yX12_placeOf.cls ≠ "java/lang/invoke/MethodHandle" ∧ yX12_placeOf.cls ≠ "java/lang/invoke/VarHandle" ∧ (parseMethodDescriptor yX12_placeOf.desc).map (fun d => d.parameters.length) = some 1 := by decide +kernel
theorem hd_X12_solve_v : yX12_solve.cls = RX12 ∧ yX12_solve.cls ≠ "java/lang/invoke/MethodHandle" ∧ yX12_solve.cls ≠ "java/lang/invoke/VarHandle" ∧ (parseMethodDescriptor yX12_solve.desc).map (fun d => d.parameters.length) = some 0 := by decide +kernel
def wp_X12_giveSolved (p1 : Int32) (σ : US) (Q : US → Prop) : Prop := wp_X12_solve σ (fun (u1 : US) => wp_X12_placeOf p1 u1 (fun (r2 : Int32) => wp_X12_at r2 8 u1 (fun (r3 : Int64) => wp_X12_at r2 r2 u1 (fun (r4 : Int64) => wp_X12_give r3 r4 u1 (fun (u5 : US) => Q u5)))))
set_option maxRecDepth 100000 in
set_option maxHeartbeats 4000000 in
theorem c_X12_giveSolved (l : Launch) (D : va_G) (kc : Nat → ClassId) (a : Nat → Nat)  (p1 : Int32) (σ : US) (Q : US → Prop) (h : wp_X12_giveSolved p1 σ Q) : kCv l D (tyL kc) yX12_giveSolved wsX12_giveSolved ({ frames := 2, cells := 0, slots := 0, locals := 55 } : Room) [.ref (a 0), .int p1] (wM kc a σ) (fun u : US => (wM kc a u)) 0 0 (fun u => Q u) := by
  intro sz
  refine k_begin (cc := cX12_giveSolved) (maxL := 3) (ret := none) (by decide +kernel) rfl rfl (fun p e s m args below meth c hsz E G ls hl => ?_)
  subst hsz
  have hl : lv_has ls 3 [(0, .ref (a 0)), (1, .int p1)] := hl
  refine lv_aload_n E.ex E.by dX12_giveSolved_0 rfl (lv_at hl 0 rfl) ?_
  refine k_cVv (X := []) (w := (wM kc a σ)) (Z := []) (wnew := (fun u : US => (wM kc a u))) (As := []) (rest := []) E (List.append_nil _).symm G (c_X12_solve l D kc _ _ _ h) gX12_giveSolved_X12_solve rfl ⟨rfl, rfl⟩ hd_X12_solve_v ⟨rfl, rfl⟩ 0 (gM_0 _ _ _) rfl rfl hl rfl rfl dX12_giveSolved_1 ⟨rfl, rfl⟩ (fun _ => (List.append_nil _).symm) (fun u1 hq H locs G => ?_)
  have h := hq
  refine lv_aload_n E.ex E.by dX12_giveSolved_4 rfl (lv_at hl 0 rfl) ?_
  refine lv_iload_n E.ex E.by dX12_giveSolved_5 rfl (lv_at hl 1 rfl) ?_
  refine k_cVi (X := []) (w := (wM kc a u1)) (Z := []) (wnew := (fun _ : Unit => (wM kc a u1))) (As := [.int p1]) (rest := []) E (List.append_nil _).symm G (c_X12_placeOf l D kc _ _ _ _ h) gX12_giveSolved_X12_placeOf rfl ⟨rfl, rfl⟩ hd_X12_placeOf_v ⟨rfl, rfl⟩ 0 (gM_0 _ _ _) rfl rfl hl rfl rfl dX12_giveSolved_6 ⟨rfl, rfl⟩ (fun _ => (List.append_nil _).symm) (fun r2 _u6 hq H locs G => ?_)
  have h := hq
  refine lv_istore_n (lv' := [(2, .int r2), (0, .ref (a 0)), (1, .int p1)]) E.ex E.by dX12_giveSolved_9 rfl hl (by decide) rfl (fun ls hl => ?_)
  refine lv_aload_n E.ex E.by dX12_giveSolved_10 rfl (lv_at hl 1 rfl) ?_
  refine lv_aload_n E.ex E.by dX12_giveSolved_11 rfl (lv_at hl 1 rfl) ?_
  refine lv_iload_n E.ex E.by dX12_giveSolved_12 rfl (lv_at hl 0 rfl) ?_
  refine lv_bipush (v := 8) E.ex E.by dX12_giveSolved_13 (by decide) ?_
  refine k_cVl (X := []) (w := (wM kc a u1)) (Z := []) (wnew := (fun _ : Unit => (wM kc a u1))) (As := [.int r2, .int 8]) (rest := [.ref (a 0)]) E (List.append_nil _).symm G (c_X12_at l D kc _ _ _ _ _ h) gX12_giveSolved_X12_at rfl ⟨rfl, rfl⟩ hd_X12_at_v ⟨rfl, rfl⟩ 0 (gM_0 _ _ _) rfl rfl hl rfl rfl dX12_giveSolved_15 ⟨rfl, rfl⟩ (fun _ => (List.append_nil _).symm) (fun r3 _u15 hq H locs G => ?_)
  have h := hq
  refine lv_aload_n E.ex E.by dX12_giveSolved_18 rfl (lv_at hl 1 rfl) ?_
  refine lv_iload_n E.ex E.by dX12_giveSolved_19 rfl (lv_at hl 0 rfl) ?_
  refine lv_iload_n E.ex E.by dX12_giveSolved_20 rfl (lv_at hl 0 rfl) ?_
  refine k_cVl (X := []) (w := (wM kc a u1)) (Z := []) (wnew := (fun _ : Unit => (wM kc a u1))) (As := [.int r2, .int r2]) (rest := [.long r3, .ref (a 0)]) E (List.append_nil _).symm G (c_X12_at l D kc _ _ _ _ _ h) gX12_giveSolved_X12_at rfl ⟨rfl, rfl⟩ hd_X12_at_v ⟨rfl, rfl⟩ 0 (gM_0 _ _ _) rfl rfl hl rfl rfl dX12_giveSolved_21 ⟨rfl, rfl⟩ (fun _ => (List.append_nil _).symm) (fun r4 _u21 hq H locs G => ?_)
  have h := hq
  refine k_cVv (X := []) (w := (wM kc a u1)) (Z := []) (wnew := (fun u : US => (wM kc a u))) (As := [.long r3, .long r4]) (rest := []) E (List.append_nil _).symm G (c_X12_give l D kc _ _ _ _ _ h) gX12_giveSolved_X12_give rfl ⟨rfl, rfl⟩ hd_X12_give_v ⟨rfl, rfl⟩ 0 (gM_0 _ _ _) rfl rfl hl rfl rfl dX12_giveSolved_24 ⟨rfl, rfl⟩ (fun _ => (List.append_nil _).symm) (fun u5 hq H locs G => ?_)
  have h := hq
  exact k_retv (wof := (fun u : US => (wM kc a u))) (u := u5) E G h (Nat.le_of_ble_eq_true rfl) (Nat.le_of_ble_eq_true rfl) dX12_giveSolved_27
theorem hd_X12_all_v : yX12_all.cls = RX12 ∧ yX12_all.cls ≠ "java/lang/invoke/MethodHandle" ∧ yX12_all.cls ≠ "java/lang/invoke/VarHandle" ∧ (parseMethodDescriptor yX12_all.desc).map (fun d => d.parameters.length) = some 0 := by decide +kernel
theorem wi_X12_neverOf_X12 : ∀ w ∈ wsX120, w ∈ wsX12_neverOf := fun w h => List.mem_cons_of_mem _ (List.mem_append_right _ (h))
theorem fl_X12_neverOf_X12_0 : Cond.fieldLink RX12 9 (TX12 0).1 (TX12 0).2.1 (TX12 0).2.2.1 ∈ wsX12_neverOf := List.mem_of_getElem? (i := 1) (by decide +kernel)
def wp_X12_neverOf_L16 (v1 : Int32) (v3 : Int32) (σ : US) (P5 : (Int32 × Int32) → Prop) (Q : Int32 → Prop) (P16 : (Int32 × Int32) → Prop) (t16 : Int32 × Int32) : Prop := vp_in 0 81 ∧ (((aA σ 0 (0 : Int32).toNatClampNeg) ≤ t16.2 → (t16.1 = v3 → P5 (t16.1, 0)) ∧ (¬ t16.1 = v3 → P5 (t16.1, 1))) ∧ (¬ (aA σ 0 (0 : Int32).toNatClampNeg) ≤ t16.2 → wp_X12_has v1 t16.2 (fun (r3 : Int32) => (r3 = 0 → ∀ x4 : Int32, x4 = t16.1 ||| 0 → P16 (x4, t16.2 + 1)) ∧ (¬ r3 = 0 → wp_X12_weightInto t16.2 v3 σ (fun (r5 : Int32) => (r5 ≤ 0 → ∀ x6 : Int32, x6 = t16.1 ||| 0 → P16 (x6, t16.2 + 1)) ∧ (¬ r5 ≤ 0 → ∀ x7 : Int32, x7 = t16.1 ||| (1 <<< (t16.2 &&& 31)) → P16 (x7, t16.2 + 1)))))))
def wp_X12_neverOf_L5 (v1 : Int32) (σ : US) (Q : Int32 → Prop) (P5 : (Int32 × Int32) → Prop) (t5 : Int32 × Int32) : Prop := (t5.2 = 0 → wp_X12_all σ (fun (r1 : Int32) => Q (r1 &&& (t5.1 ^^^ (-1))))) ∧ (¬ t5.2 = 0 → lpW (wp_X12_neverOf_L16 v1 t5.1 σ P5 Q) (t5.1, 0))
def wp_X12_neverOf (p1 : Int32) (p2 : Int32) (σ : US) (Q : Int32 → Prop) : Prop := lpW (wp_X12_neverOf_L5 p1 σ Q) (p2, 1)
set_option maxRecDepth 100000 in
set_option maxHeartbeats 4000000 in
theorem c_X12_neverOf (l : Launch) (D : va_G) (kc : Nat → ClassId) (a : Nat → Nat)  (p1 : Int32) (p2 : Int32) (σ : US) (Q : Int32 → Prop) (h : wp_X12_neverOf p1 p2 σ Q) : kCi l D (tyL kc) yX12_neverOf wsX12_neverOf ({ frames := 3, cells := 0, slots := 0, locals := 69 } : Room) [.ref (a 0), .int p1, .int p2] (wM kc a σ) (fun _ : Unit => (wM kc a σ)) 0 0 (fun r _ => Q r) := by
  intro sz
  refine k_begin (cc := cX12_neverOf) (maxL := 7) (ret := (some .int)) (by decide +kernel) rfl rfl (fun p e s m args below meth c hsz E G ls hl => ?_)
  subst hsz
  have hl : lv_has ls 7 [(0, .ref (a 0)), (1, .int p1), (2, .int p2)] := hl
  refine lv_iload_n E.ex E.by dX12_neverOf_0 rfl (lv_at hl 2 rfl) ?_
  refine lv_istore_n (lv' := [(3, .int p2), (0, .ref (a 0)), (1, .int p1), (2, .int p2)]) E.ex E.by dX12_neverOf_1 rfl hl (by decide) rfl (fun ls hl => ?_)
  refine lv_iconst (v := 1) E.ex E.by dX12_neverOf_2 (by decide) ?_
  refine lv_istore (lv' := [(4, .int 1), (3, .int p2), (0, .ref (a 0)), (1, .int p1), (2, .int p2)]) E.ex E.by dX12_neverOf_3 hl (by decide) rfl (fun ls hl => ?_)
  refine lpW_ind (fun t1 : Int32 × Int32 => ∀ (H : Heap) (locs : List Loc) (ls : Array Slot), kG D (va_A (wM kc a σ) s.heap.size) s (wM kc a σ) H locs → lv_has ls 7 [(0, .ref (a 0)), (1, .int p1), (3, .int t1.1), (4, .int t1.2)] → W p l e _ s m args below meth c H locs _ _ _ (F0 m 5 ls [])) (fun P5 IH5 t1 h H locs ls G hl => ?_) _ h _ _ _ G (lv_sub hl [2, 3, 1, 0] rfl)
  refine lv_iload E.ex E.by dX12_neverOf_5 (lv_at hl 3 rfl) ?_
  refine lv_if_eq (tgt := 84) E.ex E.by dX12_neverOf_7 (by decide) (fun hc13 => ?_) (fun hc13 => ?_)
  · have h := h.1 hc13
    refine lv_aload_n E.ex E.by dX12_neverOf_84 rfl (lv_at hl 0 rfl) ?_
    refine k_cVi (X := []) (w := (wM kc a σ)) (Z := []) (wnew := (fun _ : Unit => (wM kc a σ))) (As := []) (rest := []) E (List.append_nil _).symm G (c_X12_all l D kc _ _ _ h) gX12_neverOf_X12_all rfl ⟨rfl, rfl⟩ hd_X12_all_v ⟨rfl, rfl⟩ 0 (gM_0 _ _ _) rfl rfl hl rfl rfl dX12_neverOf_85 ⟨rfl, rfl⟩ (fun _ => (List.append_nil _).symm) (fun r2 _u85 hq H locs G => ?_)
    have h := hq
    refine lv_iload_n E.ex E.by dX12_neverOf_88 rfl (lv_at hl 2 rfl) ?_
    refine lv_iconst (v := (-1)) E.ex E.by dX12_neverOf_89 (by decide) ?_
    refine lv_ixor E.ex E.by dX12_neverOf_90 ?_
    refine lv_iand E.ex E.by dX12_neverOf_91 ?_
    exact k_ret (wof := (fun _ : Unit => (wM kc a σ))) (u := ()) E G rfl h (Nat.le_of_ble_eq_true rfl) (Nat.le_of_ble_eq_true rfl) dX12_neverOf_92
  · have h := h.2 hc13
    refine lv_iload_n E.ex E.by dX12_neverOf_10 rfl (lv_at hl 2 rfl) ?_
    refine lv_istore (lv' := [(5, .int t1.1), (0, .ref (a 0)), (1, .int p1), (3, .int t1.1), (4, .int t1.2)]) E.ex E.by dX12_neverOf_11 hl (by decide) rfl (fun ls hl => ?_)
    refine lv_iconst (v := 0) E.ex E.by dX12_neverOf_13 (by decide) ?_
    refine lv_istore (lv' := [(6, .int 0), (5, .int t1.1), (0, .ref (a 0)), (1, .int p1), (3, .int t1.1), (4, .int t1.2)]) E.ex E.by dX12_neverOf_14 hl (by decide) rfl (fun ls hl => ?_)
    refine lpW_ind (fun t3 : Int32 × Int32 => ∀ (H : Heap) (locs : List Loc) (ls : Array Slot), kG D (va_A (wM kc a σ) s.heap.size) s (wM kc a σ) H locs → lv_has ls 7 [(0, .ref (a 0)), (1, .int p1), (3, .int t1.1), (5, .int t3.1), (6, .int t3.2)] → W p l e _ s m args below meth c H locs _ _ _ (F0 m 16 ls [])) (fun P16 IH16 t3 h H locs ls G hl => ?_) _ h _ _ _ G (lv_sub hl [2, 3, 4, 1, 0] rfl)
    refine lv_iload E.ex E.by dX12_neverOf_16 (lv_at hl 4 rfl) ?_
    refine lv_aload_n E.ex E.by dX12_neverOf_18 rfl (lv_at hl 0 rfl) ?_
    refine k_get E G wi_X12_neverOf_X12 0 (gM_0 _ _ _) rfl 0 rfl fl_X12_neverOf_X12_0 (v := .ref (a 1)) rfl dX12_neverOf_19 ?_
    refine lv_iconst (v := 0) E.ex E.by dX12_neverOf_22 (by decide) ?_
    refine k_iald E G 1 (gM_1 _ _ _) 0 rfl h.1 dX12_neverOf_23 ?_
    have h := h.2
    refine lv_icmp_ge (tgt := 65) E.ex E.by dX12_neverOf_24 (by decide) (fun hc12 => ?_) (fun hc12 => ?_)
    · have h := h.1 hc12
      refine lv_iload E.ex E.by dX12_neverOf_65 (lv_at hl 3 rfl) ?_
      refine lv_iload_n E.ex E.by dX12_neverOf_67 rfl (lv_at hl 2 rfl) ?_
      refine lv_icmp_eq (tgt := 75) E.ex E.by dX12_neverOf_68 (by decide) (fun hc4 => ?_) (fun hc4 => ?_)
      · have h := h.1 hc4
        refine lv_iconst (v := 0) E.ex E.by dX12_neverOf_75 (by decide) ?_
        refine lv_istore (lv' := [(4, .int 0), (0, .ref (a 0)), (1, .int p1), (3, .int t1.1), (5, .int t3.1), (6, .int t3.2)]) E.ex E.by dX12_neverOf_76 hl (by decide) rfl (fun ls hl => ?_)
        refine lv_iload E.ex E.by dX12_neverOf_78 (lv_at hl 4 rfl) ?_
        refine lv_istore_n (lv' := [(3, .int t3.1), (4, .int 0), (0, .ref (a 0)), (1, .int p1), (5, .int t3.1), (6, .int t3.2)]) E.ex E.by dX12_neverOf_80 rfl hl (by decide) rfl (fun ls hl => ?_)
        refine lv_goto (tgt := 5) E.ex E.by dX12_neverOf_81 (by decide) ?_
        exact IH5 _ h _ _ _ G (lv_sub hl [2, 3, 0, 1] rfl)
      · have h := h.2 hc4
        refine lv_iconst (v := 1) E.ex E.by dX12_neverOf_71 (by decide) ?_
        refine lv_goto (tgt := 76) E.ex E.by dX12_neverOf_72 (by decide) ?_
        refine lv_istore (lv' := [(4, .int 1), (0, .ref (a 0)), (1, .int p1), (3, .int t1.1), (5, .int t3.1), (6, .int t3.2)]) E.ex E.by dX12_neverOf_76 hl (by decide) rfl (fun ls hl => ?_)
        refine lv_iload E.ex E.by dX12_neverOf_78 (lv_at hl 4 rfl) ?_
        refine lv_istore_n (lv' := [(3, .int t3.1), (4, .int 1), (0, .ref (a 0)), (1, .int p1), (5, .int t3.1), (6, .int t3.2)]) E.ex E.by dX12_neverOf_80 rfl hl (by decide) rfl (fun ls hl => ?_)
        refine lv_goto (tgt := 5) E.ex E.by dX12_neverOf_81 (by decide) ?_
        exact IH5 _ h _ _ _ G (lv_sub hl [2, 3, 0, 1] rfl)
    · have h := h.2 hc12
      refine lv_iload E.ex E.by dX12_neverOf_27 (lv_at hl 3 rfl) ?_
      refine lv_iload_n E.ex E.by dX12_neverOf_29 rfl (lv_at hl 1 rfl) ?_
      refine lv_iload E.ex E.by dX12_neverOf_30 (lv_at hl 4 rfl) ?_
      refine k_cSi (X := (wM kc a σ)) (w := []) (Z := []) (wnew := (fun _ : Unit => (wM kc a σ))) (As := [.int p1, .int t3.2]) (rest := [.int t3.1]) E (List.append_nil _).symm G (c_X12_has l D kc _ _ _ h) gX12_neverOf_X12_has rfl ⟨rfl, rfl⟩ hd_X12_has_v ⟨rfl, rfl⟩ rfl hl rfl rfl dX12_neverOf_32 ⟨rfl, rfl⟩ (fun _ => (List.append_nil _).symm) (fun r5 _u32 hq H locs G => ?_)
      have h := hq
      refine lv_if_eq (tgt := 55) E.ex E.by dX12_neverOf_35 (by decide) (fun hc11 => ?_) (fun hc11 => ?_)
      · have h := h.1 hc11
        refine lv_iconst (v := 0) E.ex E.by dX12_neverOf_55 (by decide) ?_
        refine lv_ior E.ex E.by dX12_neverOf_56 ?_
        refine lv_topi (fun x6 ex6 => ?_)
        have h := h x6 ex6
        refine lv_istore (lv' := [(5, .int x6), (0, .ref (a 0)), (1, .int p1), (3, .int t1.1), (6, .int t3.2)]) E.ex E.by dX12_neverOf_57 hl (by decide) rfl (fun ls hl => ?_)
        refine lv_iinc (k := 4) (v := t3.2 + 1) (lv' := [(6, .int (t3.2 + 1)), (5, .int x6), (0, .ref (a 0)), (1, .int p1), (3, .int t1.1)]) E.ex E.by dX12_neverOf_59 hl rfl (k_inc1 _) (by decide) rfl (fun ls hl => ?_)
        refine lv_goto (tgt := 16) E.ex E.by dX12_neverOf_62 (by decide) ?_
        exact IH16 _ h _ _ _ G (lv_sub hl [2, 3, 4, 1, 0] rfl)
      · have h := h.2 hc11
        refine lv_aload_n E.ex E.by dX12_neverOf_38 rfl (lv_at hl 0 rfl) ?_
        refine lv_iload E.ex E.by dX12_neverOf_39 (lv_at hl 4 rfl) ?_
        refine lv_iload_n E.ex E.by dX12_neverOf_41 rfl (lv_at hl 2 rfl) ?_
        refine k_cVi (X := []) (w := (wM kc a σ)) (Z := []) (wnew := (fun _ : Unit => (wM kc a σ))) (As := [.int t3.2, .int t1.1]) (rest := [.int t3.1]) E (List.append_nil _).symm G (c_X12_weightInto l D kc _ _ _ _ _ h) gX12_neverOf_X12_weightInto rfl ⟨rfl, rfl⟩ hd_X12_weightInto_v ⟨rfl, rfl⟩ 0 (gM_0 _ _ _) rfl rfl hl rfl rfl dX12_neverOf_42 ⟨rfl, rfl⟩ (fun _ => (List.append_nil _).symm) (fun r7 _u42 hq H locs G => ?_)
        have h := hq
        refine lv_if_le (tgt := 55) E.ex E.by dX12_neverOf_45 (by decide) (fun hc10 => ?_) (fun hc10 => ?_)
        · have h := h.1 hc10
          refine lv_iconst (v := 0) E.ex E.by dX12_neverOf_55 (by decide) ?_
          refine lv_ior E.ex E.by dX12_neverOf_56 ?_
          refine lv_topi (fun x8 ex8 => ?_)
          have h := h x8 ex8
          refine lv_istore (lv' := [(5, .int x8), (0, .ref (a 0)), (1, .int p1), (3, .int t1.1), (6, .int t3.2)]) E.ex E.by dX12_neverOf_57 hl (by decide) rfl (fun ls hl => ?_)
          refine lv_iinc (k := 4) (v := t3.2 + 1) (lv' := [(6, .int (t3.2 + 1)), (5, .int x8), (0, .ref (a 0)), (1, .int p1), (3, .int t1.1)]) E.ex E.by dX12_neverOf_59 hl rfl (k_inc1 _) (by decide) rfl (fun ls hl => ?_)
          refine lv_goto (tgt := 16) E.ex E.by dX12_neverOf_62 (by decide) ?_
          exact IH16 _ h _ _ _ G (lv_sub hl [2, 3, 4, 1, 0] rfl)
        · have h := h.2 hc10
          refine lv_iconst (v := 1) E.ex E.by dX12_neverOf_48 (by decide) ?_
          refine lv_iload E.ex E.by dX12_neverOf_49 (lv_at hl 4 rfl) ?_
          refine lv_ishl E.ex E.by dX12_neverOf_51 ?_
          refine lv_goto (tgt := 56) E.ex E.by dX12_neverOf_52 (by decide) ?_
          refine lv_ior E.ex E.by dX12_neverOf_56 ?_
          refine lv_topi (fun x9 ex9 => ?_)
          have h := h x9 ex9
          refine lv_istore (lv' := [(5, .int x9), (0, .ref (a 0)), (1, .int p1), (3, .int t1.1), (6, .int t3.2)]) E.ex E.by dX12_neverOf_57 hl (by decide) rfl (fun ls hl => ?_)
          refine lv_iinc (k := 4) (v := t3.2 + 1) (lv' := [(6, .int (t3.2 + 1)), (5, .int x9), (0, .ref (a 0)), (1, .int p1), (3, .int t1.1)]) E.ex E.by dX12_neverOf_59 hl rfl (k_inc1 _) (by decide) rfl (fun ls hl => ?_)
          refine lv_goto (tgt := 16) E.ex E.by dX12_neverOf_62 (by decide) ?_
          exact IH16 _ h _ _ _ G (lv_sub hl [2, 3, 4, 1, 0] rfl)
theorem wi_X12_surelyOf_X12 : ∀ w ∈ wsX120, w ∈ wsX12_surelyOf := fun w h => List.mem_cons_of_mem _ (List.mem_append_right _ (h))
theorem fl_X12_surelyOf_X12_0 : Cond.fieldLink RX12 9 (TX12 0).1 (TX12 0).2.1 (TX12 0).2.2.1 ∈ wsX12_surelyOf := List.mem_of_getElem? (i := 1) (by decide +kernel)
theorem hd_X12_neverOf_v : yX12_neverOf.cls = RX12 ∧ yX12_neverOf.cls ≠ "java/lang/invoke/MethodHandle" ∧ yX12_neverOf.cls ≠ "java/lang/invoke/VarHandle" ∧ (parseMethodDescriptor yX12_neverOf.desc).map (fun d => d.parameters.length) = some 2 := by decide +kernel
def wp_X12_surelyOf_L21 (v2 : Int32) (v3 : Int32) (σ : US) (P10 : (Int32 × Int32) → Prop) (Q : Int32 → Prop) (P21 : (Int32 × Int32) → Prop) (t21 : Int32 × Int32) : Prop := vp_in 0 81 ∧ (((aA σ 0 (0 : Int32).toNatClampNeg) ≤ t21.2 → (t21.1 = v3 → P10 (t21.1, 0)) ∧ (¬ t21.1 = v3 → P10 (t21.1, 1))) ∧ (¬ (aA σ 0 (0 : Int32).toNatClampNeg) ≤ t21.2 → wp_X12_has v2 t21.2 (fun (r4 : Int32) => (¬ r4 = 0 → ∀ x5 : Int32, x5 = t21.1 ||| 0 → P21 (x5, t21.2 + 1)) ∧ (r4 = 0 → wp_X12_weightInto t21.2 v3 σ (fun (r6 : Int32) => (r6 ≤ 0 → ∀ x7 : Int32, x7 = t21.1 ||| 0 → P21 (x7, t21.2 + 1)) ∧ (¬ r6 ≤ 0 → ∀ x8 : Int32, x8 = t21.1 ||| (1 <<< (t21.2 &&& 31)) → P21 (x8, t21.2 + 1)))))))
def wp_X12_surelyOf_L10 (v2 : Int32) (σ : US) (Q : Int32 → Prop) (P10 : (Int32 × Int32) → Prop) (t10 : Int32 × Int32) : Prop := (t10.2 = 0 → wp_X12_all σ (fun (r2 : Int32) => Q (r2 &&& (t10.1 ^^^ (-1))))) ∧ (¬ t10.2 = 0 → lpW (wp_X12_surelyOf_L21 v2 t10.1 σ P10 Q) (t10.1, 0))
def wp_X12_surelyOf (p1 : Int32) (p2 : Int32) (σ : US) (Q : Int32 → Prop) : Prop := wp_X12_neverOf p1 p2 σ (fun (r1 : Int32) => lpW (wp_X12_surelyOf_L10 p2 σ Q) (r1, 1))
set_option maxRecDepth 100000 in
set_option maxHeartbeats 4000000 in
theorem c_X12_surelyOf (l : Launch) (D : va_G) (kc : Nat → ClassId) (a : Nat → Nat)  (p1 : Int32) (p2 : Int32) (σ : US) (Q : Int32 → Prop) (h : wp_X12_surelyOf p1 p2 σ Q) : kCi l D (tyL kc) yX12_surelyOf wsX12_surelyOf ({ frames := 4, cells := 0, slots := 0, locals := 95 } : Room) [.ref (a 0), .int p1, .int p2] (wM kc a σ) (fun _ : Unit => (wM kc a σ)) 0 0 (fun r _ => Q r) := by
  intro sz
  refine k_begin (cc := cX12_surelyOf) (maxL := 7) (ret := (some .int)) (by decide +kernel) rfl rfl (fun p e s m args below meth c hsz E G ls hl => ?_)
  subst hsz
  have hl : lv_has ls 7 [(0, .ref (a 0)), (1, .int p1), (2, .int p2)] := hl
  refine lv_aload_n E.ex E.by dX12_surelyOf_0 rfl (lv_at hl 0 rfl) ?_
  refine lv_iload_n E.ex E.by dX12_surelyOf_1 rfl (lv_at hl 1 rfl) ?_
  refine lv_iload_n E.ex E.by dX12_surelyOf_2 rfl (lv_at hl 2 rfl) ?_
  refine k_cVi (X := []) (w := (wM kc a σ)) (Z := []) (wnew := (fun _ : Unit => (wM kc a σ))) (As := [.int p1, .int p2]) (rest := []) E (List.append_nil _).symm G (c_X12_neverOf l D kc _ _ _ _ _ h) gX12_surelyOf_X12_neverOf rfl ⟨rfl, rfl⟩ hd_X12_neverOf_v ⟨rfl, rfl⟩ 0 (gM_0 _ _ _) rfl rfl hl rfl rfl dX12_surelyOf_3 ⟨rfl, rfl⟩ (fun _ => (List.append_nil _).symm) (fun r1 _u3 hq H locs G => ?_)
  have h := hq
  refine lv_istore_n (lv' := [(3, .int r1), (0, .ref (a 0)), (1, .int p1), (2, .int p2)]) E.ex E.by dX12_surelyOf_6 rfl hl (by decide) rfl (fun ls hl => ?_)
  refine lv_iconst (v := 1) E.ex E.by dX12_surelyOf_7 (by decide) ?_
  refine lv_istore (lv' := [(4, .int 1), (3, .int r1), (0, .ref (a 0)), (1, .int p1), (2, .int p2)]) E.ex E.by dX12_surelyOf_8 hl (by decide) rfl (fun ls hl => ?_)
  refine lpW_ind (fun t2 : Int32 × Int32 => ∀ (H : Heap) (locs : List Loc) (ls : Array Slot), kG D (va_A (wM kc a σ) s.heap.size) s (wM kc a σ) H locs → lv_has ls 7 [(0, .ref (a 0)), (2, .int p2), (3, .int t2.1), (4, .int t2.2)] → W p l e _ s m args below meth c H locs _ _ _ (F0 m 10 ls [])) (fun P10 IH10 t2 h H locs ls G hl => ?_) _ h _ _ _ G (lv_sub hl [2, 4, 1, 0] rfl)
  refine lv_iload E.ex E.by dX12_surelyOf_10 (lv_at hl 3 rfl) ?_
  refine lv_if_eq (tgt := 89) E.ex E.by dX12_surelyOf_12 (by decide) (fun hc14 => ?_) (fun hc14 => ?_)
  · have h := h.1 hc14
    refine lv_aload_n E.ex E.by dX12_surelyOf_89 rfl (lv_at hl 0 rfl) ?_
    refine k_cVi (X := []) (w := (wM kc a σ)) (Z := []) (wnew := (fun _ : Unit => (wM kc a σ))) (As := []) (rest := []) E (List.append_nil _).symm G (c_X12_all l D kc _ _ _ h) gX12_surelyOf_X12_all rfl ⟨rfl, rfl⟩ hd_X12_all_v ⟨rfl, rfl⟩ 0 (gM_0 _ _ _) rfl rfl hl rfl rfl dX12_surelyOf_90 ⟨rfl, rfl⟩ (fun _ => (List.append_nil _).symm) (fun r3 _u90 hq H locs G => ?_)
    have h := hq
    refine lv_iload_n E.ex E.by dX12_surelyOf_93 rfl (lv_at hl 2 rfl) ?_
    refine lv_iconst (v := (-1)) E.ex E.by dX12_surelyOf_94 (by decide) ?_
    refine lv_ixor E.ex E.by dX12_surelyOf_95 ?_
    refine lv_iand E.ex E.by dX12_surelyOf_96 ?_
    exact k_ret (wof := (fun _ : Unit => (wM kc a σ))) (u := ()) E G rfl h (Nat.le_of_ble_eq_true rfl) (Nat.le_of_ble_eq_true rfl) dX12_surelyOf_97
  · have h := h.2 hc14
    refine lv_iload_n E.ex E.by dX12_surelyOf_15 rfl (lv_at hl 2 rfl) ?_
    refine lv_istore (lv' := [(5, .int t2.1), (0, .ref (a 0)), (2, .int p2), (3, .int t2.1), (4, .int t2.2)]) E.ex E.by dX12_surelyOf_16 hl (by decide) rfl (fun ls hl => ?_)
    refine lv_iconst (v := 0) E.ex E.by dX12_surelyOf_18 (by decide) ?_
    refine lv_istore (lv' := [(6, .int 0), (5, .int t2.1), (0, .ref (a 0)), (2, .int p2), (3, .int t2.1), (4, .int t2.2)]) E.ex E.by dX12_surelyOf_19 hl (by decide) rfl (fun ls hl => ?_)
    refine lpW_ind (fun t4 : Int32 × Int32 => ∀ (H : Heap) (locs : List Loc) (ls : Array Slot), kG D (va_A (wM kc a σ) s.heap.size) s (wM kc a σ) H locs → lv_has ls 7 [(0, .ref (a 0)), (2, .int p2), (3, .int t2.1), (5, .int t4.1), (6, .int t4.2)] → W p l e _ s m args below meth c H locs _ _ _ (F0 m 21 ls [])) (fun P21 IH21 t4 h H locs ls G hl => ?_) _ h _ _ _ G (lv_sub hl [2, 3, 4, 1, 0] rfl)
    refine lv_iload E.ex E.by dX12_surelyOf_21 (lv_at hl 4 rfl) ?_
    refine lv_aload_n E.ex E.by dX12_surelyOf_23 rfl (lv_at hl 0 rfl) ?_
    refine k_get E G wi_X12_surelyOf_X12 0 (gM_0 _ _ _) rfl 0 rfl fl_X12_surelyOf_X12_0 (v := .ref (a 1)) rfl dX12_surelyOf_24 ?_
    refine lv_iconst (v := 0) E.ex E.by dX12_surelyOf_27 (by decide) ?_
    refine k_iald E G 1 (gM_1 _ _ _) 0 rfl h.1 dX12_surelyOf_28 ?_
    have h := h.2
    refine lv_icmp_ge (tgt := 70) E.ex E.by dX12_surelyOf_29 (by decide) (fun hc13 => ?_) (fun hc13 => ?_)
    · have h := h.1 hc13
      refine lv_iload E.ex E.by dX12_surelyOf_70 (lv_at hl 3 rfl) ?_
      refine lv_iload_n E.ex E.by dX12_surelyOf_72 rfl (lv_at hl 2 rfl) ?_
      refine lv_icmp_eq (tgt := 80) E.ex E.by dX12_surelyOf_73 (by decide) (fun hc5 => ?_) (fun hc5 => ?_)
      · have h := h.1 hc5
        refine lv_iconst (v := 0) E.ex E.by dX12_surelyOf_80 (by decide) ?_
        refine lv_istore (lv' := [(4, .int 0), (0, .ref (a 0)), (2, .int p2), (3, .int t2.1), (5, .int t4.1), (6, .int t4.2)]) E.ex E.by dX12_surelyOf_81 hl (by decide) rfl (fun ls hl => ?_)
        refine lv_iload E.ex E.by dX12_surelyOf_83 (lv_at hl 4 rfl) ?_
        refine lv_istore_n (lv' := [(3, .int t4.1), (4, .int 0), (0, .ref (a 0)), (2, .int p2), (5, .int t4.1), (6, .int t4.2)]) E.ex E.by dX12_surelyOf_85 rfl hl (by decide) rfl (fun ls hl => ?_)
        refine lv_goto (tgt := 10) E.ex E.by dX12_surelyOf_86 (by decide) ?_
        exact IH10 _ h _ _ _ G (lv_sub hl [2, 3, 0, 1] rfl)
      · have h := h.2 hc5
        refine lv_iconst (v := 1) E.ex E.by dX12_surelyOf_76 (by decide) ?_
        refine lv_goto (tgt := 81) E.ex E.by dX12_surelyOf_77 (by decide) ?_
        refine lv_istore (lv' := [(4, .int 1), (0, .ref (a 0)), (2, .int p2), (3, .int t2.1), (5, .int t4.1), (6, .int t4.2)]) E.ex E.by dX12_surelyOf_81 hl (by decide) rfl (fun ls hl => ?_)
        refine lv_iload E.ex E.by dX12_surelyOf_83 (lv_at hl 4 rfl) ?_
        refine lv_istore_n (lv' := [(3, .int t4.1), (4, .int 1), (0, .ref (a 0)), (2, .int p2), (5, .int t4.1), (6, .int t4.2)]) E.ex E.by dX12_surelyOf_85 rfl hl (by decide) rfl (fun ls hl => ?_)
        refine lv_goto (tgt := 10) E.ex E.by dX12_surelyOf_86 (by decide) ?_
        exact IH10 _ h _ _ _ G (lv_sub hl [2, 3, 0, 1] rfl)
    · have h := h.2 hc13
      refine lv_iload E.ex E.by dX12_surelyOf_32 (lv_at hl 3 rfl) ?_
      refine lv_iload_n E.ex E.by dX12_surelyOf_34 rfl (lv_at hl 1 rfl) ?_
      refine lv_iload E.ex E.by dX12_surelyOf_35 (lv_at hl 4 rfl) ?_
      refine k_cSi (X := (wM kc a σ)) (w := []) (Z := []) (wnew := (fun _ : Unit => (wM kc a σ))) (As := [.int p2, .int t4.2]) (rest := [.int t4.1]) E (List.append_nil _).symm G (c_X12_has l D kc _ _ _ h) gX12_surelyOf_X12_has rfl ⟨rfl, rfl⟩ hd_X12_has_v ⟨rfl, rfl⟩ rfl hl rfl rfl dX12_surelyOf_37 ⟨rfl, rfl⟩ (fun _ => (List.append_nil _).symm) (fun r6 _u37 hq H locs G => ?_)
      have h := hq
      refine lv_if_ne (tgt := 60) E.ex E.by dX12_surelyOf_40 (by decide) (fun hc12 => ?_) (fun hc12 => ?_)
      · have h := h.1 hc12
        refine lv_iconst (v := 0) E.ex E.by dX12_surelyOf_60 (by decide) ?_
        refine lv_ior E.ex E.by dX12_surelyOf_61 ?_
        refine lv_topi (fun x7 ex7 => ?_)
        have h := h x7 ex7
        refine lv_istore (lv' := [(5, .int x7), (0, .ref (a 0)), (2, .int p2), (3, .int t2.1), (6, .int t4.2)]) E.ex E.by dX12_surelyOf_62 hl (by decide) rfl (fun ls hl => ?_)
        refine lv_iinc (k := 4) (v := t4.2 + 1) (lv' := [(6, .int (t4.2 + 1)), (5, .int x7), (0, .ref (a 0)), (2, .int p2), (3, .int t2.1)]) E.ex E.by dX12_surelyOf_64 hl rfl (k_inc1 _) (by decide) rfl (fun ls hl => ?_)
        refine lv_goto (tgt := 21) E.ex E.by dX12_surelyOf_67 (by decide) ?_
        exact IH21 _ h _ _ _ G (lv_sub hl [2, 3, 4, 1, 0] rfl)
      · have h := h.2 hc12
        refine lv_aload_n E.ex E.by dX12_surelyOf_43 rfl (lv_at hl 0 rfl) ?_
        refine lv_iload E.ex E.by dX12_surelyOf_44 (lv_at hl 4 rfl) ?_
        refine lv_iload_n E.ex E.by dX12_surelyOf_46 rfl (lv_at hl 2 rfl) ?_
        refine k_cVi (X := []) (w := (wM kc a σ)) (Z := []) (wnew := (fun _ : Unit => (wM kc a σ))) (As := [.int t4.2, .int t2.1]) (rest := [.int t4.1]) E (List.append_nil _).symm G (c_X12_weightInto l D kc _ _ _ _ _ h) gX12_surelyOf_X12_weightInto rfl ⟨rfl, rfl⟩ hd_X12_weightInto_v ⟨rfl, rfl⟩ 0 (gM_0 _ _ _) rfl rfl hl rfl rfl dX12_surelyOf_47 ⟨rfl, rfl⟩ (fun _ => (List.append_nil _).symm) (fun r8 _u47 hq H locs G => ?_)
        have h := hq
        refine lv_if_le (tgt := 60) E.ex E.by dX12_surelyOf_50 (by decide) (fun hc11 => ?_) (fun hc11 => ?_)
        · have h := h.1 hc11
          refine lv_iconst (v := 0) E.ex E.by dX12_surelyOf_60 (by decide) ?_
          refine lv_ior E.ex E.by dX12_surelyOf_61 ?_
          refine lv_topi (fun x9 ex9 => ?_)
          have h := h x9 ex9
          refine lv_istore (lv' := [(5, .int x9), (0, .ref (a 0)), (2, .int p2), (3, .int t2.1), (6, .int t4.2)]) E.ex E.by dX12_surelyOf_62 hl (by decide) rfl (fun ls hl => ?_)
          refine lv_iinc (k := 4) (v := t4.2 + 1) (lv' := [(6, .int (t4.2 + 1)), (5, .int x9), (0, .ref (a 0)), (2, .int p2), (3, .int t2.1)]) E.ex E.by dX12_surelyOf_64 hl rfl (k_inc1 _) (by decide) rfl (fun ls hl => ?_)
          refine lv_goto (tgt := 21) E.ex E.by dX12_surelyOf_67 (by decide) ?_
          exact IH21 _ h _ _ _ G (lv_sub hl [2, 3, 4, 1, 0] rfl)
        · have h := h.2 hc11
          refine lv_iconst (v := 1) E.ex E.by dX12_surelyOf_53 (by decide) ?_
          refine lv_iload E.ex E.by dX12_surelyOf_54 (lv_at hl 4 rfl) ?_
          refine lv_ishl E.ex E.by dX12_surelyOf_56 ?_
          refine lv_goto (tgt := 61) E.ex E.by dX12_surelyOf_57 (by decide) ?_
          refine lv_ior E.ex E.by dX12_surelyOf_61 ?_
          refine lv_topi (fun x10 ex10 => ?_)
          have h := h x10 ex10
          refine lv_istore (lv' := [(5, .int x10), (0, .ref (a 0)), (2, .int p2), (3, .int t2.1), (6, .int t4.2)]) E.ex E.by dX12_surelyOf_62 hl (by decide) rfl (fun ls hl => ?_)
          refine lv_iinc (k := 4) (v := t4.2 + 1) (lv' := [(6, .int (t4.2 + 1)), (5, .int x10), (0, .ref (a 0)), (2, .int p2), (3, .int t2.1)]) E.ex E.by dX12_surelyOf_64 hl rfl (k_inc1 _) (by decide) rfl (fun ls hl => ?_)
          refine lv_goto (tgt := 21) E.ex E.by dX12_surelyOf_67 (by decide) ?_
          exact IH21 _ h _ _ _ G (lv_sub hl [2, 3, 4, 1, 0] rfl)
