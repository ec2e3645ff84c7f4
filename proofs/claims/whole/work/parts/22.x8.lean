theorem wi_X8_part_X8 : ∀ w ∈ wsX80, w ∈ wsX8_part := fun w h => List.mem_cons_of_mem _ (List.mem_append_right _ (h))
theorem fl_X8_part_X8_3 : Cond.fieldLink RX8 22 (TX8 3).1 (TX8 3).2.1 (TX8 3).2.2.1 ∈ wsX8_part := List.mem_of_getElem? (i := 2) (by decide +kernel)
theorem fl_X8_part_X8_2 : Cond.fieldLink RX8 18 (TX8 2).1 (TX8 2).2.1 (TX8 2).2.2.1 ∈ wsX8_part := List.mem_of_getElem? (i := 1) (by decide +kernel)
theorem li_X8_part_X11 : Cond.initialized RX11 ∈ wsX8_part := List.mem_of_getElem? (i := 4) (by decide +kernel)
theorem ls_X8_part_X11_isIndex : Cond.static yX11_isIndex ∈ wsX8_part := List.mem_of_getElem? (i := 3) (by decide +kernel)
def wp_X8_part (p1 : Int32) (p2 : Int32) (σ : US) (ε : US) (κ : US) (Q : Int64 → Prop) : Prop := wp_X11_isIndex p1 (fun (r1 : Int32) => (¬ r1 = 0 → (¬ p2 = 0 → vp_in p1 8 ∧ (Q (aB σ 1 (p1).toNatClampNeg))) ∧ (p2 = 0 → vp_in p1 8 ∧ (Q (aB σ 0 (p1).toNatClampNeg)))) ∧ (r1 = 0 → Q 0))
set_option maxRecDepth 100000 in
set_option maxHeartbeats 4000000 in
theorem c_X8_part (l : Launch) (D : va_G) (kc : Nat → ClassId) (am : Nat → Nat) (ae : Nat → Nat) (ac : Nat → Nat) (p1 : Int32) (p2 : Int32) (σ : US) (ε : US) (κ : US) (Q : Int64 → Prop) (h : wp_X8_part p1 p2 σ ε κ Q) : kCl l D (tyL kc) yX8_part wsX8_part ({ frames := 1, cells := 0, slots := 0, locals := 20 } : Room) [.ref (am 0), .int p1, .int p2] (xMo kc am ae ac σ ε κ) (fun _ : Unit => (xMo kc am ae ac σ ε κ)) 0 0 (fun r _ => Q r) := by
  intro sz
  refine k_begin (cc := cX8_part) (maxL := 3) (ret := (some .long)) (by decide +kernel) rfl rfl (fun p e s m args below meth c hsz E G ls hl => ?_)
  subst hsz
  have hl : lv_has ls 3 [(0, .ref (am 0)), (1, .int p1), (2, .int p2)] := hl
  refine lv_iload_n E.ex E.by dX8_part_0 rfl (lv_at hl 1 rfl) ?_
  refine k_cSNi (X := (xMo kc am ae ac σ ε κ)) (w := []) (Z := []) (wnew := (fun _ : Unit => (xMo kc am ae ac σ ε κ))) (As := [.int p1]) (rest := []) E (List.append_nil _).symm G (c_X11_isIndex l D kc _ _ h) gX8_part_X11_isIndex_n35 (by decide +kernel) li_X8_part_X11 ls_X8_part_X11_isIndex rfl ⟨rfl, rfl⟩ hd_X11_isIndex_n ⟨rfl, rfl⟩ rfl hl rfl rfl dX8_part_1 ⟨rfl, rfl⟩ (fun _ => (List.append_nil _).symm) (fun r1 _u1 hq H locs G => ?_)
  have h := hq
  refine lv_if_ne (tgt := 9) E.ex E.by dX8_part_4 (by decide) (fun hc3 => ?_) (fun hc3 => ?_)
  · have h := h.1 hc3
    refine lv_iload_n E.ex E.by dX8_part_9 rfl (lv_at hl 2 rfl) ?_
    refine lv_if_ne (tgt := 22) E.ex E.by dX8_part_10 (by decide) (fun hc2 => ?_) (fun hc2 => ?_)
    · have h := h.1 hc2
      refine lv_aload_n E.ex E.by dX8_part_22 rfl (lv_at hl 0 rfl) ?_
      refine k_get E G wi_X8_part_X8 0 (gMo_0 _ _ _ _ _ _ _) rfl 3 rfl fl_X8_part_X8_3 (v := .ref (am 2)) rfl dX8_part_23 ?_
      refine lv_iload_n E.ex E.by dX8_part_26 rfl (lv_at hl 1 rfl) ?_
      refine k_lald E G 2 (gMo_2 _ _ _ _ _ _ _) 1 rfl h.1 dX8_part_27 ?_
      have h := h.2
      exact k_retl (wof := (fun _ : Unit => (xMo kc am ae ac σ ε κ))) (u := ()) E G h (Nat.le_of_ble_eq_true rfl) (Nat.le_of_ble_eq_true rfl) dX8_part_28
    · have h := h.2 hc2
      refine lv_aload_n E.ex E.by dX8_part_13 rfl (lv_at hl 0 rfl) ?_
      refine k_get E G wi_X8_part_X8 0 (gMo_0 _ _ _ _ _ _ _) rfl 2 rfl fl_X8_part_X8_2 (v := .ref (am 1)) rfl dX8_part_14 ?_
      refine lv_iload_n E.ex E.by dX8_part_17 rfl (lv_at hl 1 rfl) ?_
      refine k_lald E G 1 (gMo_1 _ _ _ _ _ _ _) 1 rfl h.1 dX8_part_18 ?_
      have h := h.2
      refine lv_goto (tgt := 28) E.ex E.by dX8_part_19 (by decide) ?_
      exact k_retl (wof := (fun _ : Unit => (xMo kc am ae ac σ ε κ))) (u := ()) E G h (Nat.le_of_ble_eq_true rfl) (Nat.le_of_ble_eq_true rfl) dX8_part_28
  · have h := h.2 hc3
    refine lv_lconst (v := 0) E.ex E.by dX8_part_7 (by decide) ?_
    exact k_retl (wof := (fun _ : Unit => (xMo kc am ae ac σ ε κ))) (u := ()) E G h (Nat.le_of_ble_eq_true rfl) (Nat.le_of_ble_eq_true rfl) dX8_part_8
theorem wi_X8_isInfinite_X8 : ∀ w ∈ wsX80, w ∈ wsX8_isInfinite := fun w h => List.mem_cons_of_mem _ (List.mem_append_right _ (h))
theorem fl_X8_isInfinite_X8_3 : Cond.fieldLink RX8 22 (TX8 3).1 (TX8 3).2.1 (TX8 3).2.2.1 ∈ wsX8_isInfinite := List.mem_of_getElem? (i := 1) (by decide +kernel)
theorem li_X8_isInfinite_X11 : Cond.initialized RX11 ∈ wsX8_isInfinite := List.mem_of_getElem? (i := 3) (by decide +kernel)
theorem ls_X8_isInfinite_X11_isIndex : Cond.static yX11_isIndex ∈ wsX8_isInfinite := List.mem_of_getElem? (i := 2) (by decide +kernel)
def wp_X8_isInfinite (p1 : Int32) (σ : US) (ε : US) (κ : US) (Q : Int32 → Prop) : Prop := wp_X11_isIndex p1 (fun (r1 : Int32) => (r1 = 0 → Q 0) ∧ (¬ r1 = 0 → vp_in p1 8 ∧ ((¬ (lg_cmp (aB σ 1 (p1).toNatClampNeg) 0) = 0 → Q 0) ∧ ((lg_cmp (aB σ 1 (p1).toNatClampNeg) 0) = 0 → Q 1))))
set_option maxRecDepth 100000 in
set_option maxHeartbeats 4000000 in
theorem c_X8_isInfinite (l : Launch) (D : va_G) (kc : Nat → ClassId) (am : Nat → Nat) (ae : Nat → Nat) (ac : Nat → Nat) (p1 : Int32) (σ : US) (ε : US) (κ : US) (Q : Int32 → Prop) (h : wp_X8_isInfinite p1 σ ε κ Q) : kCi l D (tyL kc) yX8_isInfinite wsX8_isInfinite ({ frames := 1, cells := 0, slots := 0, locals := 20 } : Room) [.ref (am 0), .int p1] (xMo kc am ae ac σ ε κ) (fun _ : Unit => (xMo kc am ae ac σ ε κ)) 0 0 (fun r _ => Q r) := by
  intro sz
  refine k_begin (cc := cX8_isInfinite) (maxL := 2) (ret := (some .boolean)) (by decide +kernel) rfl rfl (fun p e s m args below meth c hsz E G ls hl => ?_)
  subst hsz
  have hl : lv_has ls 2 [(0, .ref (am 0)), (1, .int p1)] := hl
  refine lv_iload_n E.ex E.by dX8_isInfinite_0 rfl (lv_at hl 1 rfl) ?_
  refine k_cSNi (X := (xMo kc am ae ac σ ε κ)) (w := []) (Z := []) (wnew := (fun _ : Unit => (xMo kc am ae ac σ ε κ))) (As := [.int p1]) (rest := []) E (List.append_nil _).symm G (c_X11_isIndex l D kc _ _ h) gX8_isInfinite_X11_isIndex_n35 (by decide +kernel) li_X8_isInfinite_X11 ls_X8_isInfinite_X11_isIndex rfl ⟨rfl, rfl⟩ hd_X11_isIndex_n ⟨rfl, rfl⟩ rfl hl rfl rfl dX8_isInfinite_1 ⟨rfl, rfl⟩ (fun _ => (List.append_nil _).symm) (fun r1 _u1 hq H locs G => ?_)
  have h := hq
  refine lv_if_eq (tgt := 22) E.ex E.by dX8_isInfinite_4 (by decide) (fun hc3 => ?_) (fun hc3 => ?_)
  · have h := h.1 hc3
    refine lv_iconst (v := 0) E.ex E.by dX8_isInfinite_22 (by decide) ?_
    exact k_ret (wof := (fun _ : Unit => (xMo kc am ae ac σ ε κ))) (u := ()) E G rfl h (Nat.le_of_ble_eq_true rfl) (Nat.le_of_ble_eq_true rfl) dX8_isInfinite_23
  · have h := h.2 hc3
    refine lv_aload_n E.ex E.by dX8_isInfinite_7 rfl (lv_at hl 0 rfl) ?_
    refine k_get E G wi_X8_isInfinite_X8 0 (gMo_0 _ _ _ _ _ _ _) rfl 3 rfl fl_X8_isInfinite_X8_3 (v := .ref (am 2)) rfl dX8_isInfinite_8 ?_
    refine lv_iload_n E.ex E.by dX8_isInfinite_11 rfl (lv_at hl 1 rfl) ?_
    refine k_lald E G 2 (gMo_2 _ _ _ _ _ _ _) 1 rfl h.1 dX8_isInfinite_12 ?_
    have h := h.2
    refine lv_lconst (v := 0) E.ex E.by dX8_isInfinite_13 (by decide) ?_
    refine W.lcmp E.ex E.by dX8_isInfinite_14 ?_
    refine lv_if_ne (tgt := 22) E.ex E.by dX8_isInfinite_15 (by decide) (fun hc2 => ?_) (fun hc2 => ?_)
    · have h := h.1 hc2
      refine lv_iconst (v := 0) E.ex E.by dX8_isInfinite_22 (by decide) ?_
      exact k_ret (wof := (fun _ : Unit => (xMo kc am ae ac σ ε κ))) (u := ()) E G rfl h (Nat.le_of_ble_eq_true rfl) (Nat.le_of_ble_eq_true rfl) dX8_isInfinite_23
    · have h := h.2 hc2
      refine lv_iconst (v := 1) E.ex E.by dX8_isInfinite_18 (by decide) ?_
      refine lv_goto (tgt := 23) E.ex E.by dX8_isInfinite_19 (by decide) ?_
      exact k_ret (wof := (fun _ : Unit => (xMo kc am ae ac σ ε κ))) (u := ()) E G rfl h (Nat.le_of_ble_eq_true rfl) (Nat.le_of_ble_eq_true rfl) dX8_isInfinite_23
theorem wi_X8_fulfilling_X8 : ∀ w ∈ wsX80, w ∈ wsX8_fulfilling := fun w h => List.mem_cons_of_mem _ (List.mem_append_left _ (List.mem_append_left _ (List.mem_append_right _ (h))))
theorem fl_X8_fulfilling_X8_0 : Cond.fieldLink RX8 31 (TX8 0).1 (TX8 0).2.1 (TX8 0).2.2.1 ∈ wsX8_fulfilling := List.mem_of_getElem? (i := 1) (by decide +kernel)
theorem fl_X8_fulfilling_X8_2 : Cond.fieldLink RX8 18 (TX8 2).1 (TX8 2).2.1 (TX8 2).2.2.1 ∈ wsX8_fulfilling := List.mem_of_getElem? (i := 2) (by decide +kernel)
theorem fl_X8_fulfilling_X8_3 : Cond.fieldLink RX8 22 (TX8 3).1 (TX8 3).2.1 (TX8 3).2.2.1 ∈ wsX8_fulfilling := List.mem_of_getElem? (i := 3) (by decide +kernel)
theorem hd_X1_admits_v : yX1_admits.cls = RX1 ∧ yX1_admits.cls ≠ "java/lang/invoke/MethodHandle" ∧ yX1_admits.cls ≠ "java/lang/invoke/VarHandle" ∧ (parseMethodDescriptor yX1_admits.desc).map (fun d => d.parameters.length) = some 2 := by decide +kernel
def wp_X8_fulfilling_L4 (σ : US) (ε : US) (κ : US) (β : US) (Q : Int32 → Prop) (P4 : (Int32 × Int32) → Prop) (t4 : Int32 × Int32) : Prop := (8 ≤ t4.2 → Q t4.1) ∧ (¬ 8 ≤ t4.2 → wp_X2_has t4.2 κ (fun (r1 : Int32) => (r1 = 0 → P4 (t4.1, t4.2 + 1)) ∧ (¬ r1 = 0 → vp_in t4.2 8 ∧ (vp_in t4.2 8 ∧ (wp_X1_admits (aB σ 0 (t4.2).toNatClampNeg) (aB σ 1 (t4.2).toNatClampNeg) β (fun (r2 : Int32) => (r2 = 0 → P4 (t4.1, t4.2 + 1)) ∧ (¬ r2 = 0 → ∀ x3 : Int32, x3 = t4.1 ||| (1 <<< (t4.2 &&& 31)) → P4 (x3, t4.2 + 1))))))))
def wp_X8_fulfilling (σ : US) (ε : US) (κ : US) (β : US) (Q : Int32 → Prop) : Prop := lpW (wp_X8_fulfilling_L4 σ ε κ β Q) (0, 0)
set_option maxRecDepth 100000 in
set_option maxHeartbeats 4000000 in
theorem c_X8_fulfilling (l : Launch) (D : va_G) (kc : Nat → ClassId) (am : Nat → Nat) (ae : Nat → Nat) (ac : Nat → Nat) (ax : Nat → Nat) (σ : US) (ε : US) (κ : US) (β : US) (Q : Int32 → Prop) (h : wp_X8_fulfilling σ ε κ β Q) : kCi l D (tyL kc) yX8_fulfilling wsX8_fulfilling ({ frames := 1, cells := 0, slots := 0, locals := 28 } : Room) [.ref (am 0), .ref (ax 0)] (xMoB kc am ae ac ax σ ε κ β) (fun _ : Unit => (xMoB kc am ae ac ax σ ε κ β)) 0 0 (fun r _ => Q r) := by
  intro sz
  refine k_begin (cc := cX8_fulfilling) (maxL := 4) (ret := (some .int)) (by decide +kernel) rfl rfl (fun p e s m args below meth c hsz E G ls hl => ?_)
  subst hsz
  have hl : lv_has ls 4 [(0, .ref (am 0)), (1, .ref (ax 0))] := hl
  refine lv_iconst (v := 0) E.ex E.by dX8_fulfilling_0 (by decide) ?_
  refine lv_istore_n (lv' := [(2, .int 0), (0, .ref (am 0)), (1, .ref (ax 0))]) E.ex E.by dX8_fulfilling_1 rfl hl (by decide) rfl (fun ls hl => ?_)
  refine lv_iconst (v := 0) E.ex E.by dX8_fulfilling_2 (by decide) ?_
  refine lv_istore_n (lv' := [(3, .int 0), (2, .int 0), (0, .ref (am 0)), (1, .ref (ax 0))]) E.ex E.by dX8_fulfilling_3 rfl hl (by decide) rfl (fun ls hl => ?_)
  refine lpW_ind (fun t1 : Int32 × Int32 => ∀ (H : Heap) (locs : List Loc) (ls : Array Slot), kG D (va_A (xMoB kc am ae ac ax σ ε κ β) s.heap.size) s (xMoB kc am ae ac ax σ ε κ β) H locs → lv_has ls 4 [(0, .ref (am 0)), (1, .ref (ax 0)), (2, .int t1.1), (3, .int t1.2)] → W p l e _ s m args below meth c H locs _ _ _ (F0 m 4 ls [])) (fun P4 IH4 t1 h H locs ls G hl => ?_) _ h _ _ _ G (lv_sub hl [2, 3, 1, 0] rfl)
  refine lv_iload_n E.ex E.by dX8_fulfilling_4 rfl (lv_at hl 3 rfl) ?_
  refine lv_bipush (v := 8) E.ex E.by dX8_fulfilling_5 (by decide) ?_
  refine lv_icmp_ge (tgt := 56) E.ex E.by dX8_fulfilling_7 (by decide) (fun hc7 => ?_) (fun hc7 => ?_)
  · have h := h.1 hc7
    refine lv_iload_n E.ex E.by dX8_fulfilling_56 rfl (lv_at hl 2 rfl) ?_
    exact k_ret (wof := (fun _ : Unit => (xMoB kc am ae ac ax σ ε κ β))) (u := ()) E G rfl h (Nat.le_of_ble_eq_true rfl) (Nat.le_of_ble_eq_true rfl) dX8_fulfilling_57
  · have h := h.2 hc7
    refine lv_aload_n E.ex E.by dX8_fulfilling_10 rfl (lv_at hl 1 rfl) ?_
    refine lv_ifnull E.ex E.by dX8_fulfilling_11 ?_
    refine lv_aload_n E.ex E.by dX8_fulfilling_14 rfl (lv_at hl 0 rfl) ?_
    refine k_get E G wi_X8_fulfilling_X8 0 (gMoB_0 _ _ _ _ _ _ _ _ _) rfl 0 rfl fl_X8_fulfilling_X8_0 (v := .ref (ac 0)) rfl dX8_fulfilling_15 ?_
    refine lv_iload_n E.ex E.by dX8_fulfilling_18 rfl (lv_at hl 3 rfl) ?_
    refine k_cVi (X := ((wMo kc am ac ae σ) ++ (wE kc ae ε) : va_W)) (w := (wC kc ac κ)) (Z := ((wBd kc ax β) : va_W)) (wnew := (fun _ : Unit => (xMoB kc am ae ac ax σ ε κ β))) (As := [.int t1.2]) (rest := []) E (xMoB_2 _ _ _ _ _ _ _ _ _) G (c_X2_has l D kc _ _ _ _ h) gX8_fulfilling_X2_has rfl ⟨rfl, rfl⟩ hd_X2_has_v ⟨rfl, rfl⟩ 0 (gC_0 _ _ _) rfl rfl hl rfl rfl dX8_fulfilling_19 ⟨rfl, rfl⟩ (fun _ => xMoB_2 _ _ _ _ _ _ _ _ _) (fun r2 _u19 hq H locs G => ?_)
    have h := hq
    refine lv_if_eq (tgt := 50) E.ex E.by dX8_fulfilling_22 (by decide) (fun hc6 => ?_) (fun hc6 => ?_)
    · have h := h.1 hc6
      refine lv_iinc (k := 3) (v := t1.2 + 1) (lv' := [(3, .int (t1.2 + 1)), (0, .ref (am 0)), (1, .ref (ax 0)), (2, .int t1.1)]) E.ex E.by dX8_fulfilling_50 hl rfl (k_inc1 _) (by decide) rfl (fun ls hl => ?_)
      refine lv_goto (tgt := 4) E.ex E.by dX8_fulfilling_53 (by decide) ?_
      exact IH4 _ h _ _ _ G (lv_sub hl [1, 2, 3, 0] rfl)
    · have h := h.2 hc6
      refine lv_aload_n E.ex E.by dX8_fulfilling_25 rfl (lv_at hl 1 rfl) ?_
      refine lv_aload_n E.ex E.by dX8_fulfilling_26 rfl (lv_at hl 0 rfl) ?_
      refine k_get E G wi_X8_fulfilling_X8 0 (gMoB_0 _ _ _ _ _ _ _ _ _) rfl 2 rfl fl_X8_fulfilling_X8_2 (v := .ref (am 1)) rfl dX8_fulfilling_27 ?_
      refine lv_iload_n E.ex E.by dX8_fulfilling_30 rfl (lv_at hl 3 rfl) ?_
      refine k_lald E G 1 (gMoB_1 _ _ _ _ _ _ _ _ _) 1 rfl h.1 dX8_fulfilling_31 ?_
      have h := h.2
      refine lv_aload_n E.ex E.by dX8_fulfilling_32 rfl (lv_at hl 0 rfl) ?_
      refine k_get E G wi_X8_fulfilling_X8 0 (gMoB_0 _ _ _ _ _ _ _ _ _) rfl 3 rfl fl_X8_fulfilling_X8_3 (v := .ref (am 2)) rfl dX8_fulfilling_33 ?_
      refine lv_iload_n E.ex E.by dX8_fulfilling_36 rfl (lv_at hl 3 rfl) ?_
      refine k_lald E G 2 (gMoB_2 _ _ _ _ _ _ _ _ _) 1 rfl h.1 dX8_fulfilling_37 ?_
      have h := h.2
      refine k_cVi (X := ((wMo kc am ac ae σ) ++ (wE kc ae ε) ++ (wC kc ac κ) : va_W)) (w := (wBd kc ax β)) (Z := ([] : va_W)) (wnew := (fun _ : Unit => (xMoB kc am ae ac ax σ ε κ β))) (As := [.long (aB σ 0 (t1.2).toNatClampNeg), .long (aB σ 1 (t1.2).toNatClampNeg)]) (rest := []) E (xMoB_3 _ _ _ _ _ _ _ _ _) G (c_X1_admits l D kc _ _ _ _ _ h) gX8_fulfilling_X1_admits rfl ⟨rfl, rfl⟩ hd_X1_admits_v ⟨rfl, rfl⟩ 0 (gBd_0 _ _ _) rfl rfl hl rfl rfl dX8_fulfilling_38 ⟨rfl, rfl⟩ (fun _ => xMoB_3 _ _ _ _ _ _ _ _ _) (fun r3 _u38 hq H locs G => ?_)
      have h := hq
      refine lv_if_eq (tgt := 50) E.ex E.by dX8_fulfilling_41 (by decide) (fun hc5 => ?_) (fun hc5 => ?_)
      · have h := h.1 hc5
        refine lv_iinc (k := 3) (v := t1.2 + 1) (lv' := [(3, .int (t1.2 + 1)), (0, .ref (am 0)), (1, .ref (ax 0)), (2, .int t1.1)]) E.ex E.by dX8_fulfilling_50 hl rfl (k_inc1 _) (by decide) rfl (fun ls hl => ?_)
        refine lv_goto (tgt := 4) E.ex E.by dX8_fulfilling_53 (by decide) ?_
        exact IH4 _ h _ _ _ G (lv_sub hl [1, 2, 3, 0] rfl)
      · have h := h.2 hc5
        refine lv_iload_n E.ex E.by dX8_fulfilling_44 rfl (lv_at hl 2 rfl) ?_
        refine lv_iconst (v := 1) E.ex E.by dX8_fulfilling_45 (by decide) ?_
        refine lv_iload_n E.ex E.by dX8_fulfilling_46 rfl (lv_at hl 3 rfl) ?_
        refine lv_ishl E.ex E.by dX8_fulfilling_47 ?_
        refine lv_ior E.ex E.by dX8_fulfilling_48 ?_
        refine lv_topi (fun x4 ex4 => ?_)
        have h := h x4 ex4
        refine lv_istore_n (lv' := [(2, .int x4), (0, .ref (am 0)), (1, .ref (ax 0)), (3, .int t1.2)]) E.ex E.by dX8_fulfilling_49 rfl hl (by decide) rfl (fun ls hl => ?_)
        refine lv_iinc (k := 3) (v := t1.2 + 1) (lv' := [(3, .int (t1.2 + 1)), (2, .int x4), (0, .ref (am 0)), (1, .ref (ax 0))]) E.ex E.by dX8_fulfilling_50 hl rfl (k_inc1 _) (by decide) rfl (fun ls hl => ?_)
        refine lv_goto (tgt := 4) E.ex E.by dX8_fulfilling_53 (by decide) ?_
        exact IH4 _ h _ _ _ G (lv_sub hl [2, 3, 1, 0] rfl)
theorem wi_X8_refuses_X8 : ∀ w ∈ wsX80, w ∈ wsX8_refuses := fun w h => List.mem_cons_of_mem _ (List.mem_append_left _ (List.mem_append_right _ (h)))
theorem fl_X8_refuses_X8_0 : Cond.fieldLink RX8 31 (TX8 0).1 (TX8 0).2.1 (TX8 0).2.2.1 ∈ wsX8_refuses := List.mem_of_getElem? (i := 1) (by decide +kernel)
theorem lc_X8_refuses_54 : Cond.constantLong RX8 54 (1000000000000000) ∈ wsX8_refuses := List.mem_of_getElem? (i := 2) (by decide +kernel)
theorem hd_X2_commonDivisors_v : yX2_commonDivisors.cls = RX2 ∧ yX2_commonDivisors.cls ≠ "java/lang/invoke/MethodHandle" ∧ yX2_commonDivisors.cls ≠ "java/lang/invoke/VarHandle" ∧ (parseMethodDescriptor yX2_commonDivisors.desc).map (fun d => d.parameters.length) = some 0 := by decide +kernel
def wp_X8_refuses_L14 (v2 : Int64) (v1 : Int32) (σ : US) (ε : US) (κ : US) (Q : Int32 → Prop) (P14 : (Int64 × Int32) → Prop) (t14 : Int64 × Int32) : Prop := (v1 ≤ t14.2 → Q 0) ∧ (¬ v1 ≤ t14.2 → ∀ x2 : Int64, x2 = t14.1 * v2 → ((lg_cmp x2 1000000000000000) ≤ 0 → P14 (x2, t14.2 + 1)) ∧ (¬ (lg_cmp x2 1000000000000000) ≤ 0 → Q 1))
def wp_X8_refuses (p1 : Int32) (σ : US) (ε : US) (κ : US) (Q : Int32 → Prop) : Prop := wp_X2_commonDivisors κ (fun (r1 : Int64) => lpW (wp_X8_refuses_L14 r1 p1 σ ε κ Q) (1, 0))
set_option maxRecDepth 100000 in
set_option maxHeartbeats 4000000 in
theorem c_X8_refuses (l : Launch) (D : va_G) (kc : Nat → ClassId) (am : Nat → Nat) (ae : Nat → Nat) (ac : Nat → Nat) (p1 : Int32) (σ : US) (ε : US) (κ : US) (Q : Int32 → Prop) (h : wp_X8_refuses p1 σ ε κ Q) : kCi l D (tyL kc) yX8_refuses wsX8_refuses ({ frames := 4, cells := 0, slots := 0, locals := 91 } : Room) [.ref (am 0), .int p1] (xMo kc am ae ac σ ε κ) (fun _ : Unit => (xMo kc am ae ac σ ε κ)) 0 0 (fun r _ => Q r) := by
  intro sz
  refine k_begin (cc := cX8_refuses) (maxL := 7) (ret := (some .boolean)) (by decide +kernel) rfl rfl (fun p e s m args below meth c hsz E G ls hl => ?_)
  subst hsz
  have hl : lv_has ls 7 [(0, .ref (am 0)), (1, .int p1)] := hl
  refine lv_aload_n E.ex E.by dX8_refuses_0 rfl (lv_at hl 0 rfl) ?_
  refine k_get E G wi_X8_refuses_X8 0 (gMo_0 _ _ _ _ _ _ _) rfl 0 rfl fl_X8_refuses_X8_0 (v := .ref (ac 0)) rfl dX8_refuses_1 ?_
  refine k_cVl (X := ((wMo kc am ac ae σ) ++ (wE kc ae ε) : va_W)) (w := (wC kc ac κ)) (Z := ([] : va_W)) (wnew := (fun _ : Unit => (xMo kc am ae ac σ ε κ))) (As := []) (rest := []) E (xMo_2 _ _ _ _ _ _ _) G (c_X2_commonDivisors l D kc _ _ _ h) gX8_refuses_X2_commonDivisors rfl ⟨rfl, rfl⟩ hd_X2_commonDivisors_v ⟨rfl, rfl⟩ 0 (gC_0 _ _ _) rfl rfl hl rfl rfl dX8_refuses_4 ⟨rfl, rfl⟩ (fun _ => xMo_2 _ _ _ _ _ _ _) (fun r1 _u4 hq H locs G => ?_)
  have h := hq
  refine lv_lstore_n (lv' := [(2, .long r1), (0, .ref (am 0)), (1, .int p1)]) E.ex E.by dX8_refuses_7 rfl hl (by decide) rfl (fun ls hl => ?_)
  refine lv_lconst (v := 1) E.ex E.by dX8_refuses_8 (by decide) ?_
  refine lv_lstore (lv' := [(4, .long 1), (2, .long r1), (0, .ref (am 0)), (1, .int p1)]) E.ex E.by dX8_refuses_9 hl (by decide) rfl (fun ls hl => ?_)
  refine lv_iconst (v := 0) E.ex E.by dX8_refuses_11 (by decide) ?_
  refine lv_istore (lv' := [(6, .int 0), (4, .long 1), (2, .long r1), (0, .ref (am 0)), (1, .int p1)]) E.ex E.by dX8_refuses_12 hl (by decide) rfl (fun ls hl => ?_)
  refine lpW_ind (fun t2 : Int64 × Int32 => ∀ (H : Heap) (locs : List Loc) (ls : Array Slot), kG D (va_A (xMo kc am ae ac σ ε κ) s.heap.size) s (xMo kc am ae ac σ ε κ) H locs → lv_has ls 7 [(1, .int p1), (2, .long r1), (4, .long t2.1), (6, .int t2.2)] → W p l e _ s m args below meth c H locs _ _ _ (F0 m 14 ls [])) (fun P14 IH14 t2 h H locs ls G hl => ?_) _ h _ _ _ G (lv_sub hl [4, 2, 1, 0] rfl)
  refine lv_iload E.ex E.by dX8_refuses_14 (lv_at hl 3 rfl) ?_
  refine lv_iload_n E.ex E.by dX8_refuses_16 rfl (lv_at hl 0 rfl) ?_
  refine lv_icmp_ge (tgt := 43) E.ex E.by dX8_refuses_17 (by decide) (fun hc5 => ?_) (fun hc5 => ?_)
  · have h := h.1 hc5
    refine lv_iconst (v := 0) E.ex E.by dX8_refuses_43 (by decide) ?_
    exact k_ret (wof := (fun _ : Unit => (xMo kc am ae ac σ ε κ))) (u := ()) E G rfl h (Nat.le_of_ble_eq_true rfl) (Nat.le_of_ble_eq_true rfl) dX8_refuses_44
  · have h := h.2 hc5
    refine lv_lload E.ex E.by dX8_refuses_20 (lv_at hl 2 rfl) ?_
    refine lv_lload_n E.ex E.by dX8_refuses_22 rfl (lv_at hl 1 rfl) ?_
    refine lv_lmul E.ex E.by dX8_refuses_23 ?_
    refine lv_topl (fun x3 ex3 => ?_)
    have h := h x3 ex3
    refine lv_lstore (lv' := [(4, .long x3), (1, .int p1), (2, .long r1), (6, .int t2.2)]) E.ex E.by dX8_refuses_24 hl (by decide) rfl (fun ls hl => ?_)
    refine lv_lload E.ex E.by dX8_refuses_26 (lv_at hl 0 rfl) ?_
    refine lv_ldc2 (v := 1000000000000000) E.ex E.by E.ow (E.ts _ lc_X8_refuses_54) dX8_refuses_28 ?_
    refine W.lcmp E.ex E.by dX8_refuses_31 ?_
    refine lv_if_le (tgt := 37) E.ex E.by dX8_refuses_32 (by decide) (fun hc4 => ?_) (fun hc4 => ?_)
    · have h := h.1 hc4
      refine lv_iinc (k := 3) (v := t2.2 + 1) (lv' := [(6, .int (t2.2 + 1)), (4, .long x3), (1, .int p1), (2, .long r1)]) E.ex E.by dX8_refuses_37 hl rfl (k_inc1 _) (by decide) rfl (fun ls hl => ?_)
      refine lv_goto (tgt := 14) E.ex E.by dX8_refuses_40 (by decide) ?_
      exact IH14 _ h _ _ _ G (lv_sub hl [2, 3, 1, 0] rfl)
    · have h := h.2 hc4
      refine lv_iconst (v := 1) E.ex E.by dX8_refuses_35 (by decide) ?_
      exact k_ret (wof := (fun _ : Unit => (xMo kc am ae ac σ ε κ))) (u := ()) E G rfl h (Nat.le_of_ble_eq_true rfl) (Nat.le_of_ble_eq_true rfl) dX8_refuses_36
theorem wi_X8_put_X8 : ∀ w ∈ wsX80, w ∈ wsX8_put := fun w h => List.mem_cons_of_mem _ (List.mem_append_right _ (h))
theorem fl_X8_put_X8_2 : Cond.fieldLink RX8 18 (TX8 2).1 (TX8 2).2.1 (TX8 2).2.2.1 ∈ wsX8_put := List.mem_of_getElem? (i := 1) (by decide +kernel)
theorem fl_X8_put_X8_3 : Cond.fieldLink RX8 22 (TX8 3).1 (TX8 3).2.1 (TX8 3).2.2.1 ∈ wsX8_put := List.mem_of_getElem? (i := 2) (by decide +kernel)
theorem li_X8_put_X11 : Cond.initialized RX11 ∈ wsX8_put := List.mem_of_getElem? (i := 4) (by decide +kernel)
theorem ls_X8_put_X11_isIndex : Cond.static yX11_isIndex ∈ wsX8_put := List.mem_of_getElem? (i := 6) (by decide +kernel)
theorem ls_X8_put_X11_commonDivisor : Cond.static yX11_commonDivisor ∈ wsX8_put := List.mem_of_getElem? (i := 3) (by decide +kernel)
theorem hd_X11_commonDivisor_n : yX11_commonDivisor.cls ≠ "java/lang/invoke/MethodHandle" ∧ yX11_commonDivisor.cls ≠ "java/lang/invoke/VarHandle" ∧ (parseMethodDescriptor yX11_commonDivisor.desc).map (fun d => d.parameters.length) = some 2 := by decide +kernel
def wp_X8_put (p1 : Int32) (p2 : Int64) (p3 : Int64) (σ : US) (ε : US) (κ : US) (Q : US → Prop) : Prop := wp_X11_commonDivisor p2 p3 (fun (r1 : Int64) => wp_X11_isIndex p1 (fun (r2 : Int32) => (r2 = 0 → Q σ) ∧ (¬ r2 = 0 → ((lg_cmp r1 0) = 0 → Q σ) ∧ (¬ (lg_cmp r1 0) = 0 → (¬ r1 = (0 : Int64)) ∧ (vp_in p1 8 ∧ (∀ z3 : US, z3 = uB σ 0 (p1).toNatClampNeg (p2 / r1) → (¬ r1 = (0 : Int64)) ∧ (vp_in p1 8 ∧ (∀ z4 : US, z4 = uB z3 1 (p1).toNatClampNeg (p3 / r1) → Q z4))))))))
set_option maxRecDepth 100000 in
set_option maxHeartbeats 4000000 in
theorem c_X8_put (l : Launch) (D : va_G) (kc : Nat → ClassId) (am : Nat → Nat) (ae : Nat → Nat) (ac : Nat → Nat) (p1 : Int32) (p2 : Int64) (p3 : Int64) (σ : US) (ε : US) (κ : US) (Q : US → Prop) (h : wp_X8_put p1 p2 p3 σ ε κ Q) : kCv l D (tyL kc) yX8_put wsX8_put ({ frames := 1, cells := 0, slots := 0, locals := 30 } : Room) [.ref (am 0), .int p1, .long p2, .long p3] (xMo kc am ae ac σ ε κ) (fun u : US => (xMo kc am ae ac u ε κ)) 0 0 (fun u => Q u) := by
  intro sz
  refine k_begin (cc := cX8_put) (maxL := 8) (ret := none) (by decide +kernel) rfl rfl (fun p e s m args below meth c hsz E G ls hl => ?_)
  subst hsz
  have hl : lv_has ls 8 [(0, .ref (am 0)), (1, .int p1), (2, .long p2), (4, .long p3)] := hl
  refine lv_lload_n E.ex E.by dX8_put_0 rfl (lv_at hl 2 rfl) ?_
  refine lv_lload E.ex E.by dX8_put_1 (lv_at hl 3 rfl) ?_
  refine k_cSNl (X := (xMo kc am ae ac σ ε κ)) (w := []) (Z := []) (wnew := (fun _ : Unit => (xMo kc am ae ac σ ε κ))) (As := [.long p2, .long p3]) (rest := []) E (List.append_nil _).symm G (c_X11_commonDivisor l D kc _ _ _ h) gX8_put_X11_commonDivisor_n139 (by decide +kernel) li_X8_put_X11 ls_X8_put_X11_commonDivisor rfl ⟨rfl, rfl⟩ hd_X11_commonDivisor_n ⟨rfl, rfl⟩ rfl hl rfl rfl dX8_put_3 ⟨rfl, rfl⟩ (fun _ => (List.append_nil _).symm) (fun r1 _u3 hq H locs G => ?_)
  have h := hq
  refine lv_lstore (lv' := [(6, .long r1), (0, .ref (am 0)), (1, .int p1), (2, .long p2), (4, .long p3)]) E.ex E.by dX8_put_6 hl (by decide) rfl (fun ls hl => ?_)
  refine lv_iload_n E.ex E.by dX8_put_8 rfl (lv_at hl 2 rfl) ?_
  refine k_cSNi (X := (xMo kc am ae ac σ ε κ)) (w := []) (Z := []) (wnew := (fun _ : Unit => (xMo kc am ae ac σ ε κ))) (As := [.int p1]) (rest := []) E (List.append_nil _).symm G (c_X11_isIndex l D kc _ _ h) gX8_put_X11_isIndex_n35 (by decide +kernel) li_X8_put_X11 ls_X8_put_X11_isIndex rfl ⟨rfl, rfl⟩ hd_X11_isIndex_n ⟨rfl, rfl⟩ rfl hl rfl rfl dX8_put_9 ⟨rfl, rfl⟩ (fun _ => (List.append_nil _).symm) (fun r2 _u9 hq H locs G => ?_)
  have h := hq
  refine lv_if_eq (tgt := 43) E.ex E.by dX8_put_12 (by decide) (fun hc6 => ?_) (fun hc6 => ?_)
  · have h := h.1 hc6
    exact k_retv (wof := (fun u : US => (xMo kc am ae ac u ε κ))) (u := σ) E G h (Nat.le_of_ble_eq_true rfl) (Nat.le_of_ble_eq_true rfl) dX8_put_43
  · have h := h.2 hc6
    refine lv_lload E.ex E.by dX8_put_15 (lv_at hl 0 rfl) ?_
    refine lv_lconst (v := 0) E.ex E.by dX8_put_17 (by decide) ?_
    refine W.lcmp E.ex E.by dX8_put_18 ?_
    refine lv_if_eq (tgt := 43) E.ex E.by dX8_put_19 (by decide) (fun hc5 => ?_) (fun hc5 => ?_)
    · have h := h.1 hc5
      exact k_retv (wof := (fun u : US => (xMo kc am ae ac u ε κ))) (u := σ) E G h (Nat.le_of_ble_eq_true rfl) (Nat.le_of_ble_eq_true rfl) dX8_put_43
    · have h := h.2 hc5
      refine lv_aload_n E.ex E.by dX8_put_22 rfl (lv_at hl 1 rfl) ?_
      refine k_get E G wi_X8_put_X8 0 (gMo_0 _ _ _ _ _ _ _) rfl 2 rfl fl_X8_put_X8_2 (v := .ref (am 1)) rfl dX8_put_23 ?_
      refine lv_iload_n E.ex E.by dX8_put_26 rfl (lv_at hl 2 rfl) ?_
      refine lv_lload_n E.ex E.by dX8_put_27 rfl (lv_at hl 3 rfl) ?_
      refine lv_lload E.ex E.by dX8_put_28 (lv_at hl 0 rfl) ?_
      refine lv_ldiv E.ex E.by dX8_put_30 h.1 ?_
      have h := h.2
      refine k_last (fun z => (xMo kc am ae ac z ε κ)) E G 1 (gMo_1 _ _ _ _ _ _ _) 1 rfl h.1 (uB σ 0 (p1).toNatClampNeg (p2 / r1)) (sMo_1 _ _ _ _ _ _ _ _) dX8_put_31 (fun z3 ez3 H locs G => ?_)
      have h := h.2 z3 ez3
      refine lv_aload_n E.ex E.by dX8_put_32 rfl (lv_at hl 1 rfl) ?_
      refine k_get E G wi_X8_put_X8 0 (gMo_0 _ _ _ _ _ _ _) rfl 3 rfl fl_X8_put_X8_3 (v := .ref (am 2)) rfl dX8_put_33 ?_
      refine lv_iload_n E.ex E.by dX8_put_36 rfl (lv_at hl 2 rfl) ?_
      refine lv_lload E.ex E.by dX8_put_37 (lv_at hl 4 rfl) ?_
      refine lv_lload E.ex E.by dX8_put_39 (lv_at hl 0 rfl) ?_
      refine lv_ldiv E.ex E.by dX8_put_41 h.1 ?_
      have h := h.2
      refine k_last (fun z => (xMo kc am ae ac z ε κ)) E G 2 (gMo_2 _ _ _ _ _ _ _) 1 rfl h.1 (uB z3 1 (p1).toNatClampNeg (p3 / r1)) (sMo_2 _ _ _ _ _ _ _ _) dX8_put_42 (fun z4 ez4 H locs G => ?_)
      have h := h.2 z4 ez4
      exact k_retv (wof := (fun u : US => (xMo kc am ae ac u ε κ))) (u := z4) E G h (Nat.le_of_ble_eq_true rfl) (Nat.le_of_ble_eq_true rfl) dX8_put_43
theorem wi_X8_solveStep_X8 : ∀ w ∈ wsX80, w ∈ wsX8_solveStep := fun w h => List.mem_cons_of_mem _ (List.mem_append_left _ (List.mem_append_right _ (h)))
theorem fl_X8_solveStep_X8_0 : Cond.fieldLink RX8 31 (TX8 0).1 (TX8 0).2.1 (TX8 0).2.2.1 ∈ wsX8_solveStep := List.mem_of_getElem? (i := 1) (by decide +kernel)
theorem hd_X8_put_v : yX8_put.cls = RX8 ∧ yX8_put.cls ≠ "java/lang/invoke/MethodHandle" ∧ yX8_put.cls ≠ "java/lang/invoke/VarHandle" ∧ (parseMethodDescriptor yX8_put.desc).map (fun d => d.parameters.length) = some 3 := by decide +kernel
def wp_X8_solveStep_L2 (v1 : Int32) (ε : US) (κ : US) (Q : US → Prop) (P2 : (Int32 × US) → Prop) (t2 : Int32 × US) : Prop := (8 ≤ t2.1 → Q t2.2) ∧ (¬ 8 ≤ t2.1 → wp_X2_stepWeightInto t2.1 v1 κ (fun (r1 : Int32) => wp_X2_divisorOf t2.1 κ (fun (r2 : Int32) => wp_X8_put t2.1 (r1.toInt64) (r2.toInt64) t2.2 ε κ (fun (u3 : US) => P2 (t2.1 + 1, u3)))))
def wp_X8_solveStep (p1 : Int32) (σ : US) (ε : US) (κ : US) (Q : US → Prop) : Prop := lpW (wp_X8_solveStep_L2 p1 ε κ Q) (0, σ)
set_option maxRecDepth 100000 in
set_option maxHeartbeats 4000000 in
theorem c_X8_solveStep (l : Launch) (D : va_G) (kc : Nat → ClassId) (am : Nat → Nat) (ae : Nat → Nat) (ac : Nat → Nat) (p1 : Int32) (σ : US) (ε : US) (κ : US) (Q : US → Prop) (h : wp_X8_solveStep p1 σ ε κ Q) : kCv l D (tyL kc) yX8_solveStep wsX8_solveStep ({ frames := 3, cells := 0, slots := 0, locals := 70 } : Room) [.ref (am 0), .int p1] (xMo kc am ae ac σ ε κ) (fun u : US => (xMo kc am ae ac u ε κ)) 0 0 (fun u => Q u) := by
  intro sz
  refine k_begin (cc := cX8_solveStep) (maxL := 3) (ret := none) (by decide +kernel) rfl rfl (fun p e s m args below meth c hsz E G ls hl => ?_)
  subst hsz
  have hl : lv_has ls 3 [(0, .ref (am 0)), (1, .int p1)] := hl
  refine lv_iconst (v := 0) E.ex E.by dX8_solveStep_0 (by decide) ?_
  refine lv_istore_n (lv' := [(2, .int 0), (0, .ref (am 0)), (1, .int p1)]) E.ex E.by dX8_solveStep_1 rfl hl (by decide) rfl (fun ls hl => ?_)
  refine lpW_ind (fun t1 : Int32 × US => ∀ (H : Heap) (locs : List Loc) (ls : Array Slot), kG D (va_A (xMo kc am ae ac σ ε κ) s.heap.size) s (xMo kc am ae ac t1.2 ε κ) H locs → lv_has ls 3 [(0, .ref (am 0)), (1, .int p1), (2, .int t1.1)] → W p l e _ s m args below meth c H locs _ _ _ (F0 m 2 ls [])) (fun P2 IH2 t1 h H locs ls G hl => ?_) _ h _ _ _ G (lv_sub hl [1, 2, 0] rfl)
  refine lv_iload_n E.ex E.by dX8_solveStep_2 rfl (lv_at hl 2 rfl) ?_
  refine lv_bipush (v := 8) E.ex E.by dX8_solveStep_3 (by decide) ?_
  refine lv_icmp_ge (tgt := 38) E.ex E.by dX8_solveStep_5 (by decide) (fun hc5 => ?_) (fun hc5 => ?_)
  · have h := h.1 hc5
    exact k_retv (wof := (fun u : US => (xMo kc am ae ac u ε κ))) (u := t1.2) E G h (Nat.le_of_ble_eq_true rfl) (Nat.le_of_ble_eq_true rfl) dX8_solveStep_38
  · have h := h.2 hc5
    refine lv_aload_n E.ex E.by dX8_solveStep_8 rfl (lv_at hl 0 rfl) ?_
    refine lv_iload_n E.ex E.by dX8_solveStep_9 rfl (lv_at hl 2 rfl) ?_
    refine lv_aload_n E.ex E.by dX8_solveStep_10 rfl (lv_at hl 0 rfl) ?_
    refine k_get E G wi_X8_solveStep_X8 0 (gMo_0 _ _ _ _ _ _ _) rfl 0 rfl fl_X8_solveStep_X8_0 (v := .ref (ac 0)) rfl dX8_solveStep_11 ?_
    refine lv_iload_n E.ex E.by dX8_solveStep_14 rfl (lv_at hl 2 rfl) ?_
    refine lv_iload_n E.ex E.by dX8_solveStep_15 rfl (lv_at hl 1 rfl) ?_
    refine k_cVi (X := ((wMo kc am ac ae t1.2) ++ (wE kc ae ε) : va_W)) (w := (wC kc ac κ)) (Z := ([] : va_W)) (wnew := (fun _ : Unit => (xMo kc am ae ac t1.2 ε κ))) (As := [.int t1.1, .int p1]) (rest := [.int t1.1, .ref (am 0)]) E (xMo_2 _ _ _ _ _ _ _) G (c_X2_stepWeightInto l D kc _ _ _ _ _ h) gX8_solveStep_X2_stepWeightInto rfl ⟨rfl, rfl⟩ hd_X2_stepWeightInto_v ⟨rfl, rfl⟩ 0 (gC_0 _ _ _) rfl rfl hl rfl rfl dX8_solveStep_16 ⟨rfl, rfl⟩ (fun _ => xMo_2 _ _ _ _ _ _ _) (fun r2 _u16 hq H locs G => ?_)
    have h := hq
    refine lv_i2l E.ex E.by dX8_solveStep_19 rfl ?_
    refine lv_aload_n E.ex E.by dX8_solveStep_20 rfl (lv_at hl 0 rfl) ?_
    refine k_get E G wi_X8_solveStep_X8 0 (gMo_0 _ _ _ _ _ _ _) rfl 0 rfl fl_X8_solveStep_X8_0 (v := .ref (ac 0)) rfl dX8_solveStep_21 ?_
    refine lv_iload_n E.ex E.by dX8_solveStep_24 rfl (lv_at hl 2 rfl) ?_
    refine k_cVi (X := ((wMo kc am ac ae t1.2) ++ (wE kc ae ε) : va_W)) (w := (wC kc ac κ)) (Z := ([] : va_W)) (wnew := (fun _ : Unit => (xMo kc am ae ac t1.2 ε κ))) (As := [.int t1.1]) (rest := [.long (r2.toInt64), .int t1.1, .ref (am 0)]) E (xMo_2 _ _ _ _ _ _ _) G (c_X2_divisorOf l D kc _ _ _ _ h) gX8_solveStep_X2_divisorOf rfl ⟨rfl, rfl⟩ hd_X2_divisorOf_v ⟨rfl, rfl⟩ 0 (gC_0 _ _ _) rfl rfl hl rfl rfl dX8_solveStep_25 ⟨rfl, rfl⟩ (fun _ => xMo_2 _ _ _ _ _ _ _) (fun r3 _u25 hq H locs G => ?_)
    have h := hq
    refine lv_i2l E.ex E.by dX8_solveStep_28 rfl ?_
    refine k_cVv (X := []) (w := (xMo kc am ae ac t1.2 ε κ)) (Z := []) (wnew := (fun u : US => (xMo kc am ae ac u ε κ))) (As := [.int t1.1, .long (r2.toInt64), .long (r3.toInt64)]) (rest := []) E (List.append_nil _).symm G (c_X8_put l D kc _ _ _ _ _ _ _ _ _ _ h) gX8_solveStep_X8_put rfl ⟨rfl, rfl⟩ hd_X8_put_v ⟨rfl, rfl⟩ 0 (gMo_0 _ _ _ _ _ _ _) rfl rfl hl rfl rfl dX8_solveStep_29 ⟨rfl, rfl⟩ (fun _ => (List.append_nil _).symm) (fun u4 hq H locs G => ?_)
    have h := hq
    refine lv_iinc (k := 2) (v := t1.1 + 1) (lv' := [(2, .int (t1.1 + 1)), (0, .ref (am 0)), (1, .int p1)]) E.ex E.by dX8_solveStep_32 hl rfl (k_inc1 _) (by decide) rfl (fun ls hl => ?_)
    refine lv_goto (tgt := 2) E.ex E.by dX8_solveStep_35 (by decide) ?_
    exact IH2 _ h _ _ _ G (lv_sub hl [1, 2, 0] rfl)
theorem wi_X8_balance_X8 : ∀ w ∈ wsX80, w ∈ wsX8_balance := fun w h => List.mem_cons_of_mem _ (List.mem_append_left _ (List.mem_append_left _ (List.mem_append_right _ (h))))
theorem fl_X8_balance_X8_0 : Cond.fieldLink RX8 31 (TX8 0).1 (TX8 0).2.1 (TX8 0).2.2.1 ∈ wsX8_balance := List.mem_of_getElem? (i := 1) (by decide +kernel)
theorem fl_X8_balance_X8_1 : Cond.fieldLink RX8 12 (TX8 1).1 (TX8 1).2.1 (TX8 1).2.2.1 ∈ wsX8_balance := List.mem_of_getElem? (i := 2) (by decide +kernel)
theorem hd_X3_add_v : yX3_add.cls = RX3 ∧ yX3_add.cls ≠ "java/lang/invoke/MethodHandle" ∧ yX3_add.cls ≠ "java/lang/invoke/VarHandle" ∧ (parseMethodDescriptor yX3_add.desc).map (fun d => d.parameters.length) = some 3 := by decide +kernel
theorem hd_X2_stepWeight_v : yX2_stepWeight.cls = RX2 ∧ yX2_stepWeight.cls ≠ "java/lang/invoke/MethodHandle" ∧ yX2_stepWeight.cls ≠ "java/lang/invoke/VarHandle" ∧ (parseMethodDescriptor yX2_stepWeight.desc).map (fun d => d.parameters.length) = some 2 := by decide +kernel
def wp_X8_balance_L40 (v1 : Int32) (σ : US) (κ : US) (Q : US → Prop) (P40 : (Int32 × US) → Prop) (t40 : Int32 × US) : Prop := (8 ≤ t40.1 → Q t40.2) ∧ (¬ 8 ≤ t40.1 → wp_X2_stepWeight v1 t40.1 κ (fun (r5 : Int32) => wp_X3_add v1 t40.1 ((-r5).toInt64) t40.2 (fun (u6 : US) => P40 (t40.1 + 1, u6))))
def wp_X8_balance (p1 : Int32) (σ : US) (ε : US) (κ : US) (Q : US → Prop) : Prop := wp_X2_has p1 κ (fun (r1 : Int32) => (¬ r1 = 0 → wp_X3_clearRow p1 ε (fun (u2 : US) => wp_X2_divisorOf p1 κ (fun (r3 : Int32) => wp_X3_put p1 p1 (r3.toInt64) u2 (fun (u4 : US) => lpW (wp_X8_balance_L40 p1 σ κ Q) (0, u4))))) ∧ (r1 = 0 → Q ε))
set_option maxRecDepth 100000 in
set_option maxHeartbeats 4000000 in
theorem c_X8_balance (l : Launch) (D : va_G) (kc : Nat → ClassId) (am : Nat → Nat) (ae : Nat → Nat) (ac : Nat → Nat) (p1 : Int32) (σ : US) (ε : US) (κ : US) (Q : US → Prop) (h : wp_X8_balance p1 σ ε κ Q) : kCv l D (tyL kc) yX8_balance wsX8_balance ({ frames := 3, cells := 0, slots := 0, locals := 68 } : Room) [.ref (am 0), .int p1] (xMo kc am ae ac σ ε κ) (fun u : US => (xMo kc am ae ac σ u κ)) 0 0 (fun u => Q u) := by
  intro sz
  refine k_begin (cc := cX8_balance) (maxL := 3) (ret := none) (by decide +kernel) rfl rfl (fun p e s m args below meth c hsz E G ls hl => ?_)
  subst hsz
  have hl : lv_has ls 3 [(0, .ref (am 0)), (1, .int p1)] := hl
  refine lv_aload_n E.ex E.by dX8_balance_0 rfl (lv_at hl 0 rfl) ?_
  refine k_get E G wi_X8_balance_X8 0 (gMo_0 _ _ _ _ _ _ _) rfl 0 rfl fl_X8_balance_X8_0 (v := .ref (ac 0)) rfl dX8_balance_1 ?_
  refine lv_iload_n E.ex E.by dX8_balance_4 rfl (lv_at hl 1 rfl) ?_
  refine k_cVi (X := ((wMo kc am ac ae σ) ++ (wE kc ae ε) : va_W)) (w := (wC kc ac κ)) (Z := ([] : va_W)) (wnew := (fun _ : Unit => (xMo kc am ae ac σ ε κ))) (As := [.int p1]) (rest := []) E (xMo_2 _ _ _ _ _ _ _) G (c_X2_has l D kc _ _ _ _ h) gX8_balance_X2_has rfl ⟨rfl, rfl⟩ hd_X2_has_v ⟨rfl, rfl⟩ 0 (gC_0 _ _ _) rfl rfl hl rfl rfl dX8_balance_5 ⟨rfl, rfl⟩ (fun _ => xMo_2 _ _ _ _ _ _ _) (fun r1 _u5 hq H locs G => ?_)
  have h := hq
  refine lv_if_ne (tgt := 12) E.ex E.by dX8_balance_8 (by decide) (fun hc9 => ?_) (fun hc9 => ?_)
  · have h := h.1 hc9
    refine lv_aload_n E.ex E.by dX8_balance_12 rfl (lv_at hl 0 rfl) ?_
    refine k_get E G wi_X8_balance_X8 0 (gMo_0 _ _ _ _ _ _ _) rfl 1 rfl fl_X8_balance_X8_1 (v := .ref (ae 0)) rfl dX8_balance_13 ?_
    refine lv_iload_n E.ex E.by dX8_balance_16 rfl (lv_at hl 1 rfl) ?_
    refine k_cVv (X := ((wMo kc am ac ae σ) : va_W)) (w := (wE kc ae ε)) (Z := ((wC kc ac κ) : va_W)) (wnew := (fun u : US => (xMo kc am ae ac σ u κ))) (As := [.int p1]) (rest := []) E (xMo_1 _ _ _ _ _ _ _) G (c_X3_clearRow l D kc _ _ _ _ h) gX8_balance_X3_clearRow rfl ⟨rfl, rfl⟩ hd_X3_clearRow_v ⟨rfl, rfl⟩ 0 (gE_0 _ _ _) rfl rfl hl rfl rfl dX8_balance_17 ⟨rfl, rfl⟩ (fun _ => xMo_1 _ _ _ _ _ _ _) (fun u2 hq H locs G => ?_)
    have h := hq
    refine lv_aload_n E.ex E.by dX8_balance_20 rfl (lv_at hl 0 rfl) ?_
    refine k_get E G wi_X8_balance_X8 0 (gMo_0 _ _ _ _ _ _ _) rfl 1 rfl fl_X8_balance_X8_1 (v := .ref (ae 0)) rfl dX8_balance_21 ?_
    refine lv_iload_n E.ex E.by dX8_balance_24 rfl (lv_at hl 1 rfl) ?_
    refine lv_iload_n E.ex E.by dX8_balance_25 rfl (lv_at hl 1 rfl) ?_
    refine lv_aload_n E.ex E.by dX8_balance_26 rfl (lv_at hl 0 rfl) ?_
    refine k_get E G wi_X8_balance_X8 0 (gMo_0 _ _ _ _ _ _ _) rfl 0 rfl fl_X8_balance_X8_0 (v := .ref (ac 0)) rfl dX8_balance_27 ?_
    refine lv_iload_n E.ex E.by dX8_balance_30 rfl (lv_at hl 1 rfl) ?_
    refine k_cVi (X := ((wMo kc am ac ae σ) ++ (wE kc ae u2) : va_W)) (w := (wC kc ac κ)) (Z := ([] : va_W)) (wnew := (fun _ : Unit => (xMo kc am ae ac σ u2 κ))) (As := [.int p1]) (rest := [.int p1, .int p1, .ref (ae 0)]) E (xMo_2 _ _ _ _ _ _ _) G (c_X2_divisorOf l D kc _ _ _ _ h) gX8_balance_X2_divisorOf rfl ⟨rfl, rfl⟩ hd_X2_divisorOf_v ⟨rfl, rfl⟩ 0 (gC_0 _ _ _) rfl rfl hl rfl rfl dX8_balance_31 ⟨rfl, rfl⟩ (fun _ => xMo_2 _ _ _ _ _ _ _) (fun r3 _u31 hq H locs G => ?_)
    have h := hq
    refine lv_i2l E.ex E.by dX8_balance_34 rfl ?_
    refine k_cVv (X := ((wMo kc am ac ae σ) : va_W)) (w := (wE kc ae u2)) (Z := ((wC kc ac κ) : va_W)) (wnew := (fun u : US => (xMo kc am ae ac σ u κ))) (As := [.int p1, .int p1, .long (r3.toInt64)]) (rest := []) E (xMo_1 _ _ _ _ _ _ _) G (c_X3_put l D kc _ _ _ _ _ _ h) gX8_balance_X3_put rfl ⟨rfl, rfl⟩ hd_X3_put_v ⟨rfl, rfl⟩ 0 (gE_0 _ _ _) rfl rfl hl rfl rfl dX8_balance_35 ⟨rfl, rfl⟩ (fun _ => xMo_1 _ _ _ _ _ _ _) (fun u4 hq H locs G => ?_)
    have h := hq
    refine lv_iconst (v := 0) E.ex E.by dX8_balance_38 (by decide) ?_
    refine lv_istore_n (lv' := [(2, .int 0), (0, .ref (am 0)), (1, .int p1)]) E.ex E.by dX8_balance_39 rfl hl (by decide) rfl (fun ls hl => ?_)
    refine lpW_ind (fun t5 : Int32 × US => ∀ (H : Heap) (locs : List Loc) (ls : Array Slot), kG D (va_A (xMo kc am ae ac σ ε κ) s.heap.size) s (xMo kc am ae ac σ t5.2 κ) H locs → lv_has ls 3 [(0, .ref (am 0)), (1, .int p1), (2, .int t5.1)] → W p l e _ s m args below meth c H locs _ _ _ (F0 m 40 ls [])) (fun P40 IH40 t5 h H locs ls G hl => ?_) _ h _ _ _ G (lv_sub hl [1, 2, 0] rfl)
    refine lv_iload_n E.ex E.by dX8_balance_40 rfl (lv_at hl 2 rfl) ?_
    refine lv_bipush (v := 8) E.ex E.by dX8_balance_41 (by decide) ?_
    refine lv_icmp_ge (tgt := 72) E.ex E.by dX8_balance_43 (by decide) (fun hc8 => ?_) (fun hc8 => ?_)
    · have h := h.1 hc8
      exact k_retv (wof := (fun u : US => (xMo kc am ae ac σ u κ))) (u := t5.2) E G h (Nat.le_of_ble_eq_true rfl) (Nat.le_of_ble_eq_true rfl) dX8_balance_72
    · have h := h.2 hc8
      refine lv_aload_n E.ex E.by dX8_balance_46 rfl (lv_at hl 0 rfl) ?_
      refine k_get E G wi_X8_balance_X8 0 (gMo_0 _ _ _ _ _ _ _) rfl 1 rfl fl_X8_balance_X8_1 (v := .ref (ae 0)) rfl dX8_balance_47 ?_
      refine lv_iload_n E.ex E.by dX8_balance_50 rfl (lv_at hl 1 rfl) ?_
      refine lv_iload_n E.ex E.by dX8_balance_51 rfl (lv_at hl 2 rfl) ?_
      refine lv_aload_n E.ex E.by dX8_balance_52 rfl (lv_at hl 0 rfl) ?_
      refine k_get E G wi_X8_balance_X8 0 (gMo_0 _ _ _ _ _ _ _) rfl 0 rfl fl_X8_balance_X8_0 (v := .ref (ac 0)) rfl dX8_balance_53 ?_
      refine lv_iload_n E.ex E.by dX8_balance_56 rfl (lv_at hl 1 rfl) ?_
      refine lv_iload_n E.ex E.by dX8_balance_57 rfl (lv_at hl 2 rfl) ?_
      refine k_cVi (X := ((wMo kc am ac ae σ) ++ (wE kc ae t5.2) : va_W)) (w := (wC kc ac κ)) (Z := ([] : va_W)) (wnew := (fun _ : Unit => (xMo kc am ae ac σ t5.2 κ))) (As := [.int p1, .int t5.1]) (rest := [.int t5.1, .int p1, .ref (ae 0)]) E (xMo_2 _ _ _ _ _ _ _) G (c_X2_stepWeight l D kc _ _ _ _ _ h) gX8_balance_X2_stepWeight rfl ⟨rfl, rfl⟩ hd_X2_stepWeight_v ⟨rfl, rfl⟩ 0 (gC_0 _ _ _) rfl rfl hl rfl rfl dX8_balance_58 ⟨rfl, rfl⟩ (fun _ => xMo_2 _ _ _ _ _ _ _) (fun r6 _u58 hq H locs G => ?_)
      have h := hq
      refine lv_ineg E.ex E.by dX8_balance_61 ?_
      refine lv_i2l E.ex E.by dX8_balance_62 rfl ?_
      refine k_cVv (X := ((wMo kc am ac ae σ) : va_W)) (w := (wE kc ae t5.2)) (Z := ((wC kc ac κ) : va_W)) (wnew := (fun u : US => (xMo kc am ae ac σ u κ))) (As := [.int p1, .int t5.1, .long ((-r6).toInt64)]) (rest := []) E (xMo_1 _ _ _ _ _ _ _) G (c_X3_add l D kc _ _ _ _ _ _ h) gX8_balance_X3_add rfl ⟨rfl, rfl⟩ hd_X3_add_v ⟨rfl, rfl⟩ 0 (gE_0 _ _ _) rfl rfl hl rfl rfl dX8_balance_63 ⟨rfl, rfl⟩ (fun _ => xMo_1 _ _ _ _ _ _ _) (fun u7 hq H locs G => ?_)
      have h := hq
      refine lv_iinc (k := 2) (v := t5.1 + 1) (lv' := [(2, .int (t5.1 + 1)), (0, .ref (am 0)), (1, .int p1)]) E.ex E.by dX8_balance_66 hl rfl (k_inc1 _) (by decide) rfl (fun ls hl => ?_)
      refine lv_goto (tgt := 40) E.ex E.by dX8_balance_69 (by decide) ?_
      exact IH40 _ h _ _ _ G (lv_sub hl [1, 2, 0] rfl)
  · have h := h.2 hc9
    exact k_retv (wof := (fun u : US => (xMo kc am ae ac σ u κ))) (u := ε) E G h (Nat.le_of_ble_eq_true rfl) (Nat.le_of_ble_eq_true rfl) dX8_balance_11
theorem wi_X8_solveUntil_X8 : ∀ w ∈ wsX80, w ∈ wsX8_solveUntil := fun w h => List.mem_cons_of_mem _ (List.mem_append_left _ (List.mem_append_left _ (List.mem_append_right _ (h))))
theorem fl_X8_solveUntil_X8_0 : Cond.fieldLink RX8 31 (TX8 0).1 (TX8 0).2.1 (TX8 0).2.2.1 ∈ wsX8_solveUntil := List.mem_of_getElem? (i := 1) (by decide +kernel)
theorem fl_X8_solveUntil_X8_1 : Cond.fieldLink RX8 12 (TX8 1).1 (TX8 1).2.1 (TX8 1).2.2.1 ∈ wsX8_solveUntil := List.mem_of_getElem? (i := 2) (by decide +kernel)
theorem hd_X3_determinant_v : yX3_determinant.cls = RX3 ∧ yX3_determinant.cls ≠ "java/lang/invoke/MethodHandle" ∧ yX3_determinant.cls ≠ "java/lang/invoke/VarHandle" ∧ (parseMethodDescriptor yX3_determinant.desc).map (fun d => d.parameters.length) = some 0 := by decide +kernel
theorem hd_X3_solution_v : yX3_solution.cls = RX3 ∧ yX3_solution.cls ≠ "java/lang/invoke/MethodHandle" ∧ yX3_solution.cls ≠ "java/lang/invoke/VarHandle" ∧ (parseMethodDescriptor yX3_solution.desc).map (fun d => d.parameters.length) = some 1 := by decide +kernel
theorem hd_X3_solve_v : yX3_solve.cls = RX3 ∧ yX3_solve.cls ≠ "java/lang/invoke/MethodHandle" ∧ yX3_solve.cls ≠ "java/lang/invoke/VarHandle" ∧ (parseMethodDescriptor yX3_solve.desc).map (fun d => d.parameters.length) = some 0 := by decide +kernel
theorem hd_X3_putRight_v : yX3_putRight.cls = RX3 ∧ yX3_putRight.cls ≠ "java/lang/invoke/MethodHandle" ∧ yX3_putRight.cls ≠ "java/lang/invoke/VarHandle" ∧ (parseMethodDescriptor yX3_putRight.desc).map (fun d => d.parameters.length) = some 2 := by decide +kernel
theorem li_X8_solveUntil_X11 : Cond.initialized RX11 ∈ wsX8_solveUntil := List.mem_of_getElem? (i := 10) (by decide +kernel)
theorem ls_X8_solveUntil_X11_contains : Cond.static yX11_contains ∈ wsX8_solveUntil := List.mem_of_getElem? (i := 9) (by decide +kernel)
theorem hd_X8_balance_v : yX8_balance.cls = RX8 ∧ yX8_balance.cls ≠ "java/lang/invoke/MethodHandle" ∧ yX8_balance.cls ≠ "java/lang/invoke/VarHandle" ∧ (parseMethodDescriptor yX8_balance.desc).map (fun d => d.parameters.length) = some 1 := by decide +kernel
theorem hd_X3_clear_v : yX3_clear.cls = RX3 ∧ yX3_clear.cls ≠ "java/lang/invoke/MethodHandle" ∧ yX3_clear.cls ≠ "java/lang/invoke/VarHandle" ∧ (parseMethodDescriptor yX3_clear.desc).map (fun d => d.parameters.length) = some 0 := by decide +kernel
def wp_X8_solveUntil_L84 (ε' : US) (κ : US) (P24 : (Int32 × US) → Prop) (Q : (US × US) → Prop) (P84 : (Int32 × US) → Prop) (t84 : Int32 × US) : Prop := (8 ≤ t84.1 → Q (t84.2, ε')) ∧ (¬ 8 ≤ t84.1 → wp_X3_solution t84.1 ε' (fun (r5 : Int64) => wp_X3_determinant ε' (fun (r6 : Int64) => wp_X8_put t84.1 r5 r6 t84.2 ε' κ (fun (u7 : US) => P84 (t84.1 + 1, u7)))))
def wp_X8_solveUntil_L24 (v3 : Int32) (v2 : Int32) (σ' : US) (κ : US) (Q : (US × US) → Prop) (P24 : (Int32 × US) → Prop) (t24 : Int32 × US) : Prop := (8 ≤ t24.1 → wp_X3_solve t24.2 (fun (u4 : US) => lpW (wp_X8_solveUntil_L84 u4 κ P24 Q) (0, σ'))) ∧ (¬ 8 ≤ t24.1 → wp_X11_contains v3 t24.1 (fun (r14 : Int32) => (r14 = 0 → wp_X11_contains v2 t24.1 (fun (r15 : Int32) => (r15 = 0 → P24 (t24.1 + 1, t24.2)) ∧ (¬ r15 = 0 → wp_X3_putRight t24.1 1 t24.2 (fun (u16 : US) => P24 (t24.1 + 1, u16))))) ∧ (¬ r14 = 0 → wp_X8_balance t24.1 σ' t24.2 κ (fun (u18 : US) => P24 (t24.1 + 1, u18)))))
def wp_X8_solveUntil (p1 : Int32) (p2 : Int32) (σ : US) (ε : US) (κ : US) (Q : (US × US) → Prop) : Prop := wp_X2_canReach p1 p2 κ (fun (r1 : Int32) => ∀ x2 : Int32, x2 = r1 &&& (p2 ^^^ (-1)) → wp_X3_clear ε (fun (u3 : US) => lpW (wp_X8_solveUntil_L24 x2 p2 σ κ Q) (0, u3)))
set_option maxRecDepth 100000 in
set_option maxHeartbeats 4000000 in
theorem c_X8_solveUntil (l : Launch) (D : va_G) (kc : Nat → ClassId) (am : Nat → Nat) (ae : Nat → Nat) (ac : Nat → Nat) (p1 : Int32) (p2 : Int32) (σ : US) (ε : US) (κ : US) (Q : (US × US) → Prop) (h : wp_X8_solveUntil p1 p2 σ ε κ Q) : kCv l D (tyL kc) yX8_solveUntil wsX8_solveUntil ({ frames := 4, cells := 0, slots := 0, locals := 90 } : Room) [.ref (am 0), .int p1, .int p2] (xMo kc am ae ac σ ε κ) (fun u : US × US => (xMo kc am ae ac u.1 u.2 κ)) 0 0 (fun u => Q u) := by
  intro sz
  refine k_begin (cc := cX8_solveUntil) (maxL := 5) (ret := none) (by decide +kernel) rfl rfl (fun p e s m args below meth c hsz E G ls hl => ?_)
  subst hsz
  have hl : lv_has ls 5 [(0, .ref (am 0)), (1, .int p1), (2, .int p2)] := hl
  refine lv_aload_n E.ex E.by dX8_solveUntil_0 rfl (lv_at hl 0 rfl) ?_
  refine k_get E G wi_X8_solveUntil_X8 0 (gMo_0 _ _ _ _ _ _ _) rfl 0 rfl fl_X8_solveUntil_X8_0 (v := .ref (ac 0)) rfl dX8_solveUntil_1 ?_
  refine lv_iload_n E.ex E.by dX8_solveUntil_4 rfl (lv_at hl 1 rfl) ?_
  refine lv_iload_n E.ex E.by dX8_solveUntil_5 rfl (lv_at hl 2 rfl) ?_
  refine k_cVi (X := ((wMo kc am ac ae σ) ++ (wE kc ae ε) : va_W)) (w := (wC kc ac κ)) (Z := ([] : va_W)) (wnew := (fun _ : Unit => (xMo kc am ae ac σ ε κ))) (As := [.int p1, .int p2]) (rest := []) E (xMo_2 _ _ _ _ _ _ _) G (c_X2_canReach l D kc _ _ _ _ _ h) gX8_solveUntil_X2_canReach rfl ⟨rfl, rfl⟩ hd_X2_canReach_v ⟨rfl, rfl⟩ 0 (gC_0 _ _ _) rfl rfl hl rfl rfl dX8_solveUntil_6 ⟨rfl, rfl⟩ (fun _ => xMo_2 _ _ _ _ _ _ _) (fun r1 _u6 hq H locs G => ?_)
  have h := hq
  refine lv_iload_n E.ex E.by dX8_solveUntil_9 rfl (lv_at hl 2 rfl) ?_
  refine lv_iconst (v := (-1)) E.ex E.by dX8_solveUntil_10 (by decide) ?_
  refine lv_ixor E.ex E.by dX8_solveUntil_11 ?_
  refine lv_iand E.ex E.by dX8_solveUntil_12 ?_
  refine lv_topi (fun x2 ex2 => ?_)
  have h := h x2 ex2
  refine lv_istore_n (lv' := [(3, .int x2), (0, .ref (am 0)), (1, .int p1), (2, .int p2)]) E.ex E.by dX8_solveUntil_13 rfl hl (by decide) rfl (fun ls hl => ?_)
  refine lv_aload_n E.ex E.by dX8_solveUntil_14 rfl (lv_at hl 1 rfl) ?_
  refine k_get E G wi_X8_solveUntil_X8 0 (gMo_0 _ _ _ _ _ _ _) rfl 1 rfl fl_X8_solveUntil_X8_1 (v := .ref (ae 0)) rfl dX8_solveUntil_15 ?_
  refine k_cVv (X := ((wMo kc am ac ae σ) : va_W)) (w := (wE kc ae ε)) (Z := ((wC kc ac κ) : va_W)) (wnew := (fun u : US => (xMo kc am ae ac σ u κ))) (As := []) (rest := []) E (xMo_1 _ _ _ _ _ _ _) G (c_X3_clear l D kc _ _ _ h) gX8_solveUntil_X3_clear rfl ⟨rfl, rfl⟩ hd_X3_clear_v ⟨rfl, rfl⟩ 0 (gE_0 _ _ _) rfl rfl hl rfl rfl dX8_solveUntil_18 ⟨rfl, rfl⟩ (fun _ => xMo_1 _ _ _ _ _ _ _) (fun u3 hq H locs G => ?_)
  have h := hq
  refine lv_iconst (v := 0) E.ex E.by dX8_solveUntil_21 (by decide) ?_
  refine lv_istore (lv' := [(4, .int 0), (3, .int x2), (0, .ref (am 0)), (1, .int p1), (2, .int p2)]) E.ex E.by dX8_solveUntil_22 hl (by decide) rfl (fun ls hl => ?_)
  refine lpW_ind (fun t4 : Int32 × US => ∀ (H : Heap) (locs : List Loc) (ls : Array Slot), kG D (va_A (xMo kc am ae ac σ ε κ) s.heap.size) s (xMo kc am ae ac σ t4.2 κ) H locs → lv_has ls 5 [(0, .ref (am 0)), (2, .int p2), (3, .int x2), (4, .int t4.1)] → W p l e _ s m args below meth c H locs _ _ _ (F0 m 24 ls [])) (fun P24 IH24 t4 h H locs ls G hl => ?_) _ h _ _ _ G (lv_sub hl [2, 4, 1, 0] rfl)
  refine lv_iload E.ex E.by dX8_solveUntil_24 (lv_at hl 3 rfl) ?_
  refine lv_bipush (v := 8) E.ex E.by dX8_solveUntil_26 (by decide) ?_
  refine lv_icmp_ge (tgt := 74) E.ex E.by dX8_solveUntil_28 (by decide) (fun hc17 => ?_) (fun hc17 => ?_)
  · have h := h.1 hc17
    refine lv_aload_n E.ex E.by dX8_solveUntil_74 rfl (lv_at hl 0 rfl) ?_
    refine k_get E G wi_X8_solveUntil_X8 0 (gMo_0 _ _ _ _ _ _ _) rfl 1 rfl fl_X8_solveUntil_X8_1 (v := .ref (ae 0)) rfl dX8_solveUntil_75 ?_
    refine k_cVv (X := ((wMo kc am ac ae σ) : va_W)) (w := (wE kc ae t4.2)) (Z := ((wC kc ac κ) : va_W)) (wnew := (fun u : US => (xMo kc am ae ac σ u κ))) (As := []) (rest := []) E (xMo_1 _ _ _ _ _ _ _) G (c_X3_solve l D kc _ _ _ h) gX8_solveUntil_X3_solve rfl ⟨rfl, rfl⟩ hd_X3_solve_v ⟨rfl, rfl⟩ 0 (gE_0 _ _ _) rfl rfl hl rfl rfl dX8_solveUntil_78 ⟨rfl, rfl⟩ (fun _ => xMo_1 _ _ _ _ _ _ _) (fun u5 hq H locs G => ?_)
    have h := hq
    refine lv_iconst (v := 0) E.ex E.by dX8_solveUntil_81 (by decide) ?_
    refine lv_istore (lv' := [(4, .int 0), (0, .ref (am 0)), (2, .int p2), (3, .int x2)]) E.ex E.by dX8_solveUntil_82 hl (by decide) rfl (fun ls hl => ?_)
    refine lpW_ind (fun t6 : Int32 × US => ∀ (H : Heap) (locs : List Loc) (ls : Array Slot), kG D (va_A (xMo kc am ae ac σ ε κ) s.heap.size) s (xMo kc am ae ac t6.2 u5 κ) H locs → lv_has ls 5 [(0, .ref (am 0)), (4, .int t6.1)] → W p l e _ s m args below meth c H locs _ _ _ (F0 m 84 ls [])) (fun P84 IH84 t6 h H locs ls G hl => ?_) _ h _ _ _ G (lv_sub hl [1, 0] rfl)
    refine lv_iload E.ex E.by dX8_solveUntil_84 (lv_at hl 1 rfl) ?_
    refine lv_bipush (v := 8) E.ex E.by dX8_solveUntil_86 (by decide) ?_
    refine lv_icmp_ge (tgt := 119) E.ex E.by dX8_solveUntil_88 (by decide) (fun hc10 => ?_) (fun hc10 => ?_)
    · have h := h.1 hc10
      exact k_retv (wof := (fun u : US × US => (xMo kc am ae ac u.1 u.2 κ))) (u := (t6.2, u5)) E G h (Nat.le_of_ble_eq_true rfl) (Nat.le_of_ble_eq_true rfl) dX8_solveUntil_119
    · have h := h.2 hc10
      refine lv_aload_n E.ex E.by dX8_solveUntil_91 rfl (lv_at hl 0 rfl) ?_
      refine lv_iload E.ex E.by dX8_solveUntil_92 (lv_at hl 1 rfl) ?_
      refine lv_aload_n E.ex E.by dX8_solveUntil_94 rfl (lv_at hl 0 rfl) ?_
      refine k_get E G wi_X8_solveUntil_X8 0 (gMo_0 _ _ _ _ _ _ _) rfl 1 rfl fl_X8_solveUntil_X8_1 (v := .ref (ae 0)) rfl dX8_solveUntil_95 ?_
      refine lv_iload E.ex E.by dX8_solveUntil_98 (lv_at hl 1 rfl) ?_
      refine k_cVl (X := ((wMo kc am ac ae t6.2) : va_W)) (w := (wE kc ae u5)) (Z := ((wC kc ac κ) : va_W)) (wnew := (fun _ : Unit => (xMo kc am ae ac t6.2 u5 κ))) (As := [.int t6.1]) (rest := [.int t6.1, .ref (am 0)]) E (xMo_1 _ _ _ _ _ _ _) G (c_X3_solution l D kc _ _ _ _ h) gX8_solveUntil_X3_solution rfl ⟨rfl, rfl⟩ hd_X3_solution_v ⟨rfl, rfl⟩ 0 (gE_0 _ _ _) rfl rfl hl rfl rfl dX8_solveUntil_100 ⟨rfl, rfl⟩ (fun _ => xMo_1 _ _ _ _ _ _ _) (fun r7 _u100 hq H locs G => ?_)
      have h := hq
      refine lv_aload_n E.ex E.by dX8_solveUntil_103 rfl (lv_at hl 0 rfl) ?_
      refine k_get E G wi_X8_solveUntil_X8 0 (gMo_0 _ _ _ _ _ _ _) rfl 1 rfl fl_X8_solveUntil_X8_1 (v := .ref (ae 0)) rfl dX8_solveUntil_104 ?_
      refine k_cVl (X := ((wMo kc am ac ae t6.2) : va_W)) (w := (wE kc ae u5)) (Z := ((wC kc ac κ) : va_W)) (wnew := (fun _ : Unit => (xMo kc am ae ac t6.2 u5 κ))) (As := []) (rest := [.long r7, .int t6.1, .ref (am 0)]) E (xMo_1 _ _ _ _ _ _ _) G (c_X3_determinant l D kc _ _ _ h) gX8_solveUntil_X3_determinant rfl ⟨rfl, rfl⟩ hd_X3_determinant_v ⟨rfl, rfl⟩ 0 (gE_0 _ _ _) rfl rfl hl rfl rfl dX8_solveUntil_107 ⟨rfl, rfl⟩ (fun _ => xMo_1 _ _ _ _ _ _ _) (fun r8 _u107 hq H locs G => ?_)
      have h := hq
      refine k_cVv (X := []) (w := (xMo kc am ae ac t6.2 u5 κ)) (Z := []) (wnew := (fun u : US => (xMo kc am ae ac u u5 κ))) (As := [.int t6.1, .long r7, .long r8]) (rest := []) E (List.append_nil _).symm G (c_X8_put l D kc _ _ _ _ _ _ _ _ _ _ h) gX8_solveUntil_X8_put rfl ⟨rfl, rfl⟩ hd_X8_put_v ⟨rfl, rfl⟩ 0 (gMo_0 _ _ _ _ _ _ _) rfl rfl hl rfl rfl dX8_solveUntil_110 ⟨rfl, rfl⟩ (fun _ => (List.append_nil _).symm) (fun u9 hq H locs G => ?_)
      have h := hq
      refine lv_iinc (k := 1) (v := t6.1 + 1) (lv' := [(4, .int (t6.1 + 1)), (0, .ref (am 0))]) E.ex E.by dX8_solveUntil_113 hl rfl (k_inc1 _) (by decide) rfl (fun ls hl => ?_)
      refine lv_goto (tgt := 84) E.ex E.by dX8_solveUntil_116 (by decide) ?_
      exact IH84 _ h _ _ _ G (lv_sub hl [1, 0] rfl)
  · have h := h.2 hc17
    refine lv_iload_n E.ex E.by dX8_solveUntil_31 rfl (lv_at hl 2 rfl) ?_
    refine lv_iload E.ex E.by dX8_solveUntil_32 (lv_at hl 3 rfl) ?_
    refine k_cSNi (X := (xMo kc am ae ac σ t4.2 κ)) (w := []) (Z := []) (wnew := (fun _ : Unit => (xMo kc am ae ac σ t4.2 κ))) (As := [.int x2, .int t4.1]) (rest := []) E (List.append_nil _).symm G (c_X11_contains l D kc _ _ _ h) gX8_solveUntil_X11_contains_n74 (by decide +kernel) li_X8_solveUntil_X11 ls_X8_solveUntil_X11_contains rfl ⟨rfl, rfl⟩ hd_X11_contains_n ⟨rfl, rfl⟩ rfl hl rfl rfl dX8_solveUntil_34 ⟨rfl, rfl⟩ (fun _ => (List.append_nil _).symm) (fun r11 _u34 hq H locs G => ?_)
    have h := hq
    refine lv_if_eq (tgt := 49) E.ex E.by dX8_solveUntil_37 (by decide) (fun hc16 => ?_) (fun hc16 => ?_)
    · have h := h.1 hc16
      refine lv_iload_n E.ex E.by dX8_solveUntil_49 rfl (lv_at hl 1 rfl) ?_
      refine lv_iload E.ex E.by dX8_solveUntil_50 (lv_at hl 3 rfl) ?_
      refine k_cSNi (X := (xMo kc am ae ac σ t4.2 κ)) (w := []) (Z := []) (wnew := (fun _ : Unit => (xMo kc am ae ac σ t4.2 κ))) (As := [.int p2, .int t4.1]) (rest := []) E (List.append_nil _).symm G (c_X11_contains l D kc _ _ _ h) gX8_solveUntil_X11_contains_n74 (by decide +kernel) li_X8_solveUntil_X11 ls_X8_solveUntil_X11_contains rfl ⟨rfl, rfl⟩ hd_X11_contains_n ⟨rfl, rfl⟩ rfl hl rfl rfl dX8_solveUntil_52 ⟨rfl, rfl⟩ (fun _ => (List.append_nil _).symm) (fun r12 _u52 hq H locs G => ?_)
      have h := hq
      refine lv_if_eq (tgt := 68) E.ex E.by dX8_solveUntil_55 (by decide) (fun hc14 => ?_) (fun hc14 => ?_)
      · have h := h.1 hc14
        refine lv_iinc (k := 3) (v := t4.1 + 1) (lv' := [(4, .int (t4.1 + 1)), (0, .ref (am 0)), (2, .int p2), (3, .int x2)]) E.ex E.by dX8_solveUntil_68 hl rfl (k_inc1 _) (by decide) rfl (fun ls hl => ?_)
        refine lv_goto (tgt := 24) E.ex E.by dX8_solveUntil_71 (by decide) ?_
        exact IH24 _ h _ _ _ G (lv_sub hl [1, 2, 3, 0] rfl)
      · have h := h.2 hc14
        refine lv_aload_n E.ex E.by dX8_solveUntil_58 rfl (lv_at hl 0 rfl) ?_
        refine k_get E G wi_X8_solveUntil_X8 0 (gMo_0 _ _ _ _ _ _ _) rfl 1 rfl fl_X8_solveUntil_X8_1 (v := .ref (ae 0)) rfl dX8_solveUntil_59 ?_
        refine lv_iload E.ex E.by dX8_solveUntil_62 (lv_at hl 3 rfl) ?_
        refine lv_lconst (v := 1) E.ex E.by dX8_solveUntil_64 (by decide) ?_
        refine k_cVv (X := ((wMo kc am ac ae σ) : va_W)) (w := (wE kc ae t4.2)) (Z := ((wC kc ac κ) : va_W)) (wnew := (fun u : US => (xMo kc am ae ac σ u κ))) (As := [.int t4.1, .long 1]) (rest := []) E (xMo_1 _ _ _ _ _ _ _) G (c_X3_putRight l D kc _ _ _ _ _ h) gX8_solveUntil_X3_putRight rfl ⟨rfl, rfl⟩ hd_X3_putRight_v ⟨rfl, rfl⟩ 0 (gE_0 _ _ _) rfl rfl hl rfl rfl dX8_solveUntil_65 ⟨rfl, rfl⟩ (fun _ => xMo_1 _ _ _ _ _ _ _) (fun u13 hq H locs G => ?_)
        have h := hq
        refine lv_iinc (k := 3) (v := t4.1 + 1) (lv' := [(4, .int (t4.1 + 1)), (0, .ref (am 0)), (2, .int p2), (3, .int x2)]) E.ex E.by dX8_solveUntil_68 hl rfl (k_inc1 _) (by decide) rfl (fun ls hl => ?_)
        refine lv_goto (tgt := 24) E.ex E.by dX8_solveUntil_71 (by decide) ?_
        exact IH24 _ h _ _ _ G (lv_sub hl [1, 2, 3, 0] rfl)
    · have h := h.2 hc16
      refine lv_aload_n E.ex E.by dX8_solveUntil_40 rfl (lv_at hl 0 rfl) ?_
      refine lv_iload E.ex E.by dX8_solveUntil_41 (lv_at hl 3 rfl) ?_
      refine k_cVv (X := []) (w := (xMo kc am ae ac σ t4.2 κ)) (Z := []) (wnew := (fun u : US => (xMo kc am ae ac σ u κ))) (As := [.int t4.1]) (rest := []) E (List.append_nil _).symm G (c_X8_balance l D kc _ _ _ _ _ _ _ _ h) gX8_solveUntil_X8_balance rfl ⟨rfl, rfl⟩ hd_X8_balance_v ⟨rfl, rfl⟩ 0 (gMo_0 _ _ _ _ _ _ _) rfl rfl hl rfl rfl dX8_solveUntil_43 ⟨rfl, rfl⟩ (fun _ => (List.append_nil _).symm) (fun u15 hq H locs G => ?_)
      have h := hq
      refine lv_goto (tgt := 68) E.ex E.by dX8_solveUntil_46 (by decide) ?_
      refine lv_iinc (k := 3) (v := t4.1 + 1) (lv' := [(4, .int (t4.1 + 1)), (0, .ref (am 0)), (2, .int p2), (3, .int x2)]) E.ex E.by dX8_solveUntil_68 hl rfl (k_inc1 _) (by decide) rfl (fun ls hl => ?_)
      refine lv_goto (tgt := 24) E.ex E.by dX8_solveUntil_71 (by decide) ?_
      exact IH24 _ h _ _ _ G (lv_sub hl [1, 2, 3, 0] rfl)
theorem wi_X8_complement_X8 : ∀ w ∈ wsX80, w ∈ wsX8_complement := fun w h => List.mem_cons_of_mem _ (List.mem_append_right _ (h))
theorem fl_X8_complement_X8_3 : Cond.fieldLink RX8 22 (TX8 3).1 (TX8 3).2.1 (TX8 3).2.2.1 ∈ wsX8_complement := List.mem_of_getElem? (i := 1) (by decide +kernel)
theorem fl_X8_complement_X8_2 : Cond.fieldLink RX8 18 (TX8 2).1 (TX8 2).2.1 (TX8 2).2.2.1 ∈ wsX8_complement := List.mem_of_getElem? (i := 2) (by decide +kernel)
def wp_X8_complement_L2 (ε : US) (κ : US) (Q : US → Prop) (P2 : (Int32 × US) → Prop) (t2 : Int32 × US) : Prop := (8 ≤ t2.1 → Q t2.2) ∧ (¬ 8 ≤ t2.1 → vp_in t2.1 8 ∧ (vp_in t2.1 8 ∧ (vp_in t2.1 8 ∧ (wp_X8_put t2.1 ((aB t2.2 1 (t2.1).toNatClampNeg) - (aB t2.2 0 (t2.1).toNatClampNeg)) (aB t2.2 1 (t2.1).toNatClampNeg) t2.2 ε κ (fun (u1 : US) => P2 (t2.1 + 1, u1))))))
def wp_X8_complement (σ : US) (ε : US) (κ : US) (Q : US → Prop) : Prop := lpW (wp_X8_complement_L2 ε κ Q) (0, σ)
set_option maxRecDepth 100000 in
set_option maxHeartbeats 4000000 in
theorem c_X8_complement (l : Launch) (D : va_G) (kc : Nat → ClassId) (am : Nat → Nat) (ae : Nat → Nat) (ac : Nat → Nat) (σ : US) (ε : US) (κ : US) (Q : US → Prop) (h : wp_X8_complement σ ε κ Q) : kCv l D (tyL kc) yX8_complement wsX8_complement ({ frames := 2, cells := 0, slots := 0, locals := 57 } : Room) [.ref (am 0)] (xMo kc am ae ac σ ε κ) (fun u : US => (xMo kc am ae ac u ε κ)) 0 0 (fun u => Q u) := by
  intro sz
  refine k_begin (cc := cX8_complement) (maxL := 2) (ret := none) (by decide +kernel) rfl rfl (fun p e s m args below meth c hsz E G ls hl => ?_)
  subst hsz
  have hl : lv_has ls 2 [(0, .ref (am 0))] := hl
  refine lv_iconst (v := 0) E.ex E.by dX8_complement_0 (by decide) ?_
  refine lv_istore_n (lv' := [(1, .int 0), (0, .ref (am 0))]) E.ex E.by dX8_complement_1 rfl hl (by decide) rfl (fun ls hl => ?_)
  refine lpW_ind (fun t1 : Int32 × US => ∀ (H : Heap) (locs : List Loc) (ls : Array Slot), kG D (va_A (xMo kc am ae ac σ ε κ) s.heap.size) s (xMo kc am ae ac t1.2 ε κ) H locs → lv_has ls 2 [(0, .ref (am 0)), (1, .int t1.1)] → W p l e _ s m args below meth c H locs _ _ _ (F0 m 2 ls [])) (fun P2 IH2 t1 h H locs ls G hl => ?_) _ h _ _ _ G (lv_sub hl [1, 0] rfl)
  refine lv_iload_n E.ex E.by dX8_complement_2 rfl (lv_at hl 1 rfl) ?_
  refine lv_bipush (v := 8) E.ex E.by dX8_complement_3 (by decide) ?_
  refine lv_icmp_ge (tgt := 38) E.ex E.by dX8_complement_5 (by decide) (fun hc3 => ?_) (fun hc3 => ?_)
  · have h := h.1 hc3
    exact k_retv (wof := (fun u : US => (xMo kc am ae ac u ε κ))) (u := t1.2) E G h (Nat.le_of_ble_eq_true rfl) (Nat.le_of_ble_eq_true rfl) dX8_complement_38
  · have h := h.2 hc3
    refine lv_aload_n E.ex E.by dX8_complement_8 rfl (lv_at hl 0 rfl) ?_
    refine lv_iload_n E.ex E.by dX8_complement_9 rfl (lv_at hl 1 rfl) ?_
    refine lv_aload_n E.ex E.by dX8_complement_10 rfl (lv_at hl 0 rfl) ?_
    refine k_get E G wi_X8_complement_X8 0 (gMo_0 _ _ _ _ _ _ _) rfl 3 rfl fl_X8_complement_X8_3 (v := .ref (am 2)) rfl dX8_complement_11 ?_
    refine lv_iload_n E.ex E.by dX8_complement_14 rfl (lv_at hl 1 rfl) ?_
    refine k_lald E G 2 (gMo_2 _ _ _ _ _ _ _) 1 rfl h.1 dX8_complement_15 ?_
    have h := h.2
    refine lv_aload_n E.ex E.by dX8_complement_16 rfl (lv_at hl 0 rfl) ?_
    refine k_get E G wi_X8_complement_X8 0 (gMo_0 _ _ _ _ _ _ _) rfl 2 rfl fl_X8_complement_X8_2 (v := .ref (am 1)) rfl dX8_complement_17 ?_
    refine lv_iload_n E.ex E.by dX8_complement_20 rfl (lv_at hl 1 rfl) ?_
    refine k_lald E G 1 (gMo_1 _ _ _ _ _ _ _) 1 rfl h.1 dX8_complement_21 ?_
    have h := h.2
    refine lv_lsub E.ex E.by dX8_complement_22 ?_
    refine lv_aload_n E.ex E.by dX8_complement_23 rfl (lv_at hl 0 rfl) ?_
    refine k_get E G wi_X8_complement_X8 0 (gMo_0 _ _ _ _ _ _ _) rfl 3 rfl fl_X8_complement_X8_3 (v := .ref (am 2)) rfl dX8_complement_24 ?_
    refine lv_iload_n E.ex E.by dX8_complement_27 rfl (lv_at hl 1 rfl) ?_
    refine k_lald E G 2 (gMo_2 _ _ _ _ _ _ _) 1 rfl h.1 dX8_complement_28 ?_
    have h := h.2
    refine k_cVv (X := []) (w := (xMo kc am ae ac t1.2 ε κ)) (Z := []) (wnew := (fun u : US => (xMo kc am ae ac u ε κ))) (As := [.int t1.1, .long ((aB t1.2 1 (t1.1).toNatClampNeg) - (aB t1.2 0 (t1.1).toNatClampNeg)), .long (aB t1.2 1 (t1.1).toNatClampNeg)]) (rest := []) E (List.append_nil _).symm G (c_X8_put l D kc _ _ _ _ _ _ _ _ _ _ h) gX8_complement_X8_put rfl ⟨rfl, rfl⟩ hd_X8_put_v ⟨rfl, rfl⟩ 0 (gMo_0 _ _ _ _ _ _ _) rfl rfl hl rfl rfl dX8_complement_29 ⟨rfl, rfl⟩ (fun _ => (List.append_nil _).symm) (fun u2 hq H locs G => ?_)
    have h := hq
    refine lv_iinc (k := 1) (v := t1.1 + 1) (lv' := [(1, .int (t1.1 + 1)), (0, .ref (am 0))]) E.ex E.by dX8_complement_32 hl rfl (k_inc1 _) (by decide) rfl (fun ls hl => ?_)
    refine lv_goto (tgt := 2) E.ex E.by dX8_complement_35 (by decide) ?_
    exact IH2 _ h _ _ _ G (lv_sub hl [1, 0] rfl)
theorem wi_X8_countBefore_X8 : ∀ w ∈ wsX80, w ∈ wsX8_countBefore := fun w h => List.mem_cons_of_mem _ (List.mem_append_left _ (List.mem_append_right _ (h)))
theorem fl_X8_countBefore_X8_0 : Cond.fieldLink RX8 31 (TX8 0).1 (TX8 0).2.1 (TX8 0).2.2.1 ∈ wsX8_countBefore := List.mem_of_getElem? (i := 1) (by decide +kernel)
theorem fl_X8_countBefore_X8_4 : Cond.fieldLink RX8 25 (TX8 4).1 (TX8 4).2.1 (TX8 4).2.2.1 ∈ wsX8_countBefore := List.mem_of_getElem? (i := 2) (by decide +kernel)
def wp_X8_countBefore_L23 (v4 : Int32) (v1 : Int32) (v2 : Int64) (σ : US) (ε : US) (κ : US) (Q : Int64 → Prop) (P23 : (Int64 × Int32) → Prop) (t23 : Int64 × Int32) : Prop := (8 ≤ t23.2 → (¬ (v4.toInt64) = (0 : Int64)) ∧ (Q ((v2 / (v4.toInt64)) * t23.1))) ∧ (¬ 8 ≤ t23.2 → wp_X2_stepWeight v1 t23.2 κ (fun (r2 : Int32) => vp_in t23.2 8 ∧ (∀ x3 : Int64, x3 = t23.1 + ((r2.toInt64) * (aB σ 2 (t23.2).toNatClampNeg)) → P23 (x3, t23.2 + 1))))
def wp_X8_countBefore (p1 : Int32) (p2 : Int64) (σ : US) (ε : US) (κ : US) (Q : Int64 → Prop) : Prop := wp_X2_divisorOf p1 κ (fun (r1 : Int32) => (¬ r1 = 0 → lpW (wp_X8_countBefore_L23 r1 p1 p2 σ ε κ Q) (0, 0)) ∧ (r1 = 0 → Q 0))
set_option maxRecDepth 100000 in
set_option maxHeartbeats 4000000 in
theorem c_X8_countBefore (l : Launch) (D : va_G) (kc : Nat → ClassId) (am : Nat → Nat) (ae : Nat → Nat) (ac : Nat → Nat) (p1 : Int32) (p2 : Int64) (σ : US) (ε : US) (κ : US) (Q : Int64 → Prop) (h : wp_X8_countBefore p1 p2 σ ε κ Q) : kCl l D (tyL kc) yX8_countBefore wsX8_countBefore ({ frames := 3, cells := 0, slots := 0, locals := 68 } : Room) [.ref (am 0), .int p1, .long p2] (xMo kc am ae ac σ ε κ) (fun _ : Unit => (xMo kc am ae ac σ ε κ)) 0 0 (fun r _ => Q r) := by
  intro sz
  refine k_begin (cc := cX8_countBefore) (maxL := 8) (ret := (some .long)) (by decide +kernel) rfl rfl (fun p e s m args below meth c hsz E G ls hl => ?_)
  subst hsz
  have hl : lv_has ls 8 [(0, .ref (am 0)), (1, .int p1), (2, .long p2)] := hl
  refine lv_aload_n E.ex E.by dX8_countBefore_0 rfl (lv_at hl 0 rfl) ?_
  refine k_get E G wi_X8_countBefore_X8 0 (gMo_0 _ _ _ _ _ _ _) rfl 0 rfl fl_X8_countBefore_X8_0 (v := .ref (ac 0)) rfl dX8_countBefore_1 ?_
  refine lv_iload_n E.ex E.by dX8_countBefore_4 rfl (lv_at hl 1 rfl) ?_
  refine k_cVi (X := ((wMo kc am ac ae σ) ++ (wE kc ae ε) : va_W)) (w := (wC kc ac κ)) (Z := ([] : va_W)) (wnew := (fun _ : Unit => (xMo kc am ae ac σ ε κ))) (As := [.int p1]) (rest := []) E (xMo_2 _ _ _ _ _ _ _) G (c_X2_divisorOf l D kc _ _ _ _ h) gX8_countBefore_X2_divisorOf rfl ⟨rfl, rfl⟩ hd_X2_divisorOf_v ⟨rfl, rfl⟩ 0 (gC_0 _ _ _) rfl rfl hl rfl rfl dX8_countBefore_5 ⟨rfl, rfl⟩ (fun _ => xMo_2 _ _ _ _ _ _ _) (fun r1 _u5 hq H locs G => ?_)
  have h := hq
  refine lv_istore (lv' := [(4, .int r1), (0, .ref (am 0)), (1, .int p1), (2, .long p2)]) E.ex E.by dX8_countBefore_8 hl (by decide) rfl (fun ls hl => ?_)
  refine lv_iload E.ex E.by dX8_countBefore_10 (lv_at hl 0 rfl) ?_
  refine lv_if_ne (tgt := 17) E.ex E.by dX8_countBefore_12 (by decide) (fun hc6 => ?_) (fun hc6 => ?_)
  · have h := h.1 hc6
    refine lv_lconst (v := 0) E.ex E.by dX8_countBefore_17 (by decide) ?_
    refine lv_lstore (lv' := [(5, .long 0), (4, .int r1), (0, .ref (am 0)), (1, .int p1), (2, .long p2)]) E.ex E.by dX8_countBefore_18 hl (by decide) rfl (fun ls hl => ?_)
    refine lv_iconst (v := 0) E.ex E.by dX8_countBefore_20 (by decide) ?_
    refine lv_istore (lv' := [(7, .int 0), (5, .long 0), (4, .int r1), (0, .ref (am 0)), (1, .int p1), (2, .long p2)]) E.ex E.by dX8_countBefore_21 hl (by decide) rfl (fun ls hl => ?_)
    refine lpW_ind (fun t2 : Int64 × Int32 => ∀ (H : Heap) (locs : List Loc) (ls : Array Slot), kG D (va_A (xMo kc am ae ac σ ε κ) s.heap.size) s (xMo kc am ae ac σ ε κ) H locs → lv_has ls 8 [(0, .ref (am 0)), (1, .int p1), (2, .long p2), (4, .int r1), (5, .long t2.1), (7, .int t2.2)] → W p l e _ s m args below meth c H locs _ _ _ (F0 m 23 ls [])) (fun P23 IH23 t2 h H locs ls G hl => ?_) _ h _ _ _ G (lv_sub hl [3, 4, 5, 2, 1, 0] rfl)
    refine lv_iload E.ex E.by dX8_countBefore_23 (lv_at hl 5 rfl) ?_
    refine lv_bipush (v := 8) E.ex E.by dX8_countBefore_25 (by decide) ?_
    refine lv_icmp_ge (tgt := 60) E.ex E.by dX8_countBefore_27 (by decide) (fun hc5 => ?_) (fun hc5 => ?_)
    · have h := h.1 hc5
      refine lv_lload_n E.ex E.by dX8_countBefore_60 rfl (lv_at hl 2 rfl) ?_
      refine lv_iload E.ex E.by dX8_countBefore_61 (lv_at hl 3 rfl) ?_
      refine lv_i2l E.ex E.by dX8_countBefore_63 rfl ?_
      refine lv_ldiv E.ex E.by dX8_countBefore_64 h.1 ?_
      have h := h.2
      refine lv_lload E.ex E.by dX8_countBefore_65 (lv_at hl 4 rfl) ?_
      refine lv_lmul E.ex E.by dX8_countBefore_67 ?_
      exact k_retl (wof := (fun _ : Unit => (xMo kc am ae ac σ ε κ))) (u := ()) E G h (Nat.le_of_ble_eq_true rfl) (Nat.le_of_ble_eq_true rfl) dX8_countBefore_68
    · have h := h.2 hc5
      refine lv_lload E.ex E.by dX8_countBefore_30 (lv_at hl 4 rfl) ?_
      refine lv_aload_n E.ex E.by dX8_countBefore_32 rfl (lv_at hl 0 rfl) ?_
      refine k_get E G wi_X8_countBefore_X8 0 (gMo_0 _ _ _ _ _ _ _) rfl 0 rfl fl_X8_countBefore_X8_0 (v := .ref (ac 0)) rfl dX8_countBefore_33 ?_
      refine lv_iload_n E.ex E.by dX8_countBefore_36 rfl (lv_at hl 1 rfl) ?_
      refine lv_iload E.ex E.by dX8_countBefore_37 (lv_at hl 5 rfl) ?_
      refine k_cVi (X := ((wMo kc am ac ae σ) ++ (wE kc ae ε) : va_W)) (w := (wC kc ac κ)) (Z := ([] : va_W)) (wnew := (fun _ : Unit => (xMo kc am ae ac σ ε κ))) (As := [.int p1, .int t2.2]) (rest := [.long t2.1]) E (xMo_2 _ _ _ _ _ _ _) G (c_X2_stepWeight l D kc _ _ _ _ _ h) gX8_countBefore_X2_stepWeight rfl ⟨rfl, rfl⟩ hd_X2_stepWeight_v ⟨rfl, rfl⟩ 0 (gC_0 _ _ _) rfl rfl hl rfl rfl dX8_countBefore_39 ⟨rfl, rfl⟩ (fun _ => xMo_2 _ _ _ _ _ _ _) (fun r3 _u39 hq H locs G => ?_)
      have h := hq
      refine lv_i2l E.ex E.by dX8_countBefore_42 rfl ?_
      refine lv_aload_n E.ex E.by dX8_countBefore_43 rfl (lv_at hl 0 rfl) ?_
      refine k_get E G wi_X8_countBefore_X8 0 (gMo_0 _ _ _ _ _ _ _) rfl 4 rfl fl_X8_countBefore_X8_4 (v := .ref (am 3)) rfl dX8_countBefore_44 ?_
      refine lv_iload E.ex E.by dX8_countBefore_47 (lv_at hl 5 rfl) ?_
      refine k_lald E G 3 (gMo_3 _ _ _ _ _ _ _) 1 rfl h.1 dX8_countBefore_49 ?_
      have h := h.2
      refine lv_lmul E.ex E.by dX8_countBefore_50 ?_
      refine lv_ladd E.ex E.by dX8_countBefore_51 ?_
      refine lv_topl (fun x4 ex4 => ?_)
      have h := h x4 ex4
      refine lv_lstore (lv' := [(5, .long x4), (0, .ref (am 0)), (1, .int p1), (2, .long p2), (4, .int r1), (7, .int t2.2)]) E.ex E.by dX8_countBefore_52 hl (by decide) rfl (fun ls hl => ?_)
      refine lv_iinc (k := 5) (v := t2.2 + 1) (lv' := [(7, .int (t2.2 + 1)), (5, .long x4), (0, .ref (am 0)), (1, .int p1), (2, .long p2), (4, .int r1)]) E.ex E.by dX8_countBefore_54 hl rfl (k_inc1 _) (by decide) rfl (fun ls hl => ?_)
      refine lv_goto (tgt := 23) E.ex E.by dX8_countBefore_57 (by decide) ?_
      exact IH23 _ h _ _ _ G (lv_sub hl [2, 3, 4, 5, 1, 0] rfl)
  · have h := h.2 hc6
    refine lv_lconst (v := 0) E.ex E.by dX8_countBefore_15 (by decide) ?_
    exact k_retl (wof := (fun _ : Unit => (xMo kc am ae ac σ ε κ))) (u := ()) E G h (Nat.le_of_ble_eq_true rfl) (Nat.le_of_ble_eq_true rfl) dX8_countBefore_16
theorem wi_X8_countWithin_X8 : ∀ w ∈ wsX80, w ∈ wsX8_countWithin := fun w h => List.mem_cons_of_mem _ (List.mem_append_left _ (List.mem_append_right _ (h)))
theorem fl_X8_countWithin_X8_0 : Cond.fieldLink RX8 31 (TX8 0).1 (TX8 0).2.1 (TX8 0).2.2.1 ∈ wsX8_countWithin := List.mem_of_getElem? (i := 1) (by decide +kernel)
theorem fl_X8_countWithin_X8_4 : Cond.fieldLink RX8 25 (TX8 4).1 (TX8 4).2.1 (TX8 4).2.2.1 ∈ wsX8_countWithin := List.mem_of_getElem? (i := 2) (by decide +kernel)
theorem fl_X8_countWithin_X8_5 : Cond.fieldLink RX8 28 (TX8 5).1 (TX8 5).2.1 (TX8 5).2.2.1 ∈ wsX8_countWithin := List.mem_of_getElem? (i := 3) (by decide +kernel)
theorem li_X8_countWithin_X11 : Cond.initialized RX11 ∈ wsX8_countWithin := List.mem_of_getElem? (i := 24) (by decide +kernel)
theorem ls_X8_countWithin_X11_contains : Cond.static yX11_contains ∈ wsX8_countWithin := List.mem_of_getElem? (i := 29) (by decide +kernel)
theorem hd_X8_countBefore_v : yX8_countBefore.cls = RX8 ∧ yX8_countBefore.cls ≠ "java/lang/invoke/MethodHandle" ∧ yX8_countBefore.cls ≠ "java/lang/invoke/VarHandle" ∧ (parseMethodDescriptor yX8_countBefore.desc).map (fun d => d.parameters.length) = some 2 := by decide +kernel
def wp_X8_countWithin_L190 (v6 : Int64) (ε : US) (κ : US) (P15 : (Int32 × US) → Prop) (P52 : (Int64 × Int32 × US) → Prop) (Q : US → Prop) (P190 : (Int32 × US) → Prop) (t190 : Int32 × US) : Prop := (8 ≤ t190.1 → Q t190.2) ∧ (¬ 8 ≤ t190.1 → vp_in t190.1 8 ∧ (wp_X8_put t190.1 (aB t190.2 2 (t190.1).toNatClampNeg) v6 t190.2 ε κ (fun (u2 : US) => P190 (t190.1 + 1, u2))))
def wp_X8_countWithin_L154 (v1 : Int32) (v2 : Int32) (v3 : Int32) (v4 : Int64) (v6 : Int64) (v8 : Int32) (ε : US) (κ : US) (P15 : (Int32 × US) → Prop) (P52 : (Int64 × Int32 × US) → Prop) (P75 : (Int32 × US) → Prop) (Q : US → Prop) (P154 : (Int32 × US) → Prop) (t154 : Int32 × US) : Prop := (8 ≤ t154.1 → P52 (v6, v8 + 1, t154.2)) ∧ (¬ 8 ≤ t154.1 → vp_in t154.1 8 ∧ (vp_in t154.1 8 ∧ (∀ z11 : US, z11 = uB t154.2 2 (t154.1).toNatClampNeg (aB t154.2 3 (t154.1).toNatClampNeg) → P154 (t154.1 + 1, z11))))
def wp_X8_countWithin_J105 (v1 : Int32) (v2 : Int32) (v3 : Int32) (v4 : Int64) (v6 : Int64) (v8 : Int32) (v9 : Int32) (σ' : US) (ε : US) (κ : US) (s0 : Int32) (P52 : (Int64 × Int32 × US) → Prop) (P75 : (Int32 × US) → Prop) (Q : US → Prop) : Prop := (s0 = 0 → wp_X11_contains v2 v9 (fun (r17 : Int32) => (r17 = 0 → vp_in v9 8 ∧ (∀ z18 : US, z18 = uB σ' 3 (v9).toNatClampNeg 0 → P75 (v9 + 1, z18))) ∧ (¬ r17 = 0 → vp_in v9 8 ∧ (∀ z19 : US, z19 = uB σ' 3 (v9).toNatClampNeg v6 → P75 (v9 + 1, z19))))) ∧ (¬ s0 = 0 → wp_X8_countBefore v9 v4 σ' ε κ (fun (r21 : Int64) => vp_in v9 8 ∧ (∀ z22 : US, z22 = uB σ' 3 (v9).toNatClampNeg r21 → P75 (v9 + 1, z22))))
def wp_X8_countWithin_J104 (v1 : Int32) (v2 : Int32) (v3 : Int32) (v4 : Int64) (v6 : Int64) (v8 : Int32) (v9 : Int32) (σ' : US) (ε : US) (κ : US) (P52 : (Int64 × Int32 × US) → Prop) (P75 : (Int32 × US) → Prop) (Q : US → Prop) : Prop := wp_X8_countWithin_J105 v1 v2 v3 v4 v6 v8 v9 σ' ε κ 0 P52 P75 Q
def wp_X8_countWithin_L75 (v6 : Int64) (v1 : Int32) (v2 : Int32) (v3 : Int32) (v4 : Int64) (v8 : Int32) (ε : US) (κ : US) (P15 : (Int32 × US) → Prop) (P52 : (Int64 × Int32 × US) → Prop) (Q : US → Prop) (P75 : (Int32 × US) → Prop) (t75 : Int32 × US) : Prop := (8 ≤ t75.1 → lpW (wp_X8_countWithin_L154 v1 v2 v3 v4 v6 v8 ε κ P15 P52 P75 Q) (0, t75.2)) ∧ (¬ 8 ≤ t75.1 → wp_X11_contains v1 t75.1 (fun (r16 : Int32) => (r16 = 0 → wp_X8_countWithin_J104 v1 v2 v3 v4 v6 v8 t75.1 t75.2 ε κ P52 P75 Q) ∧ (¬ r16 = 0 → wp_X11_contains v2 t75.1 (fun (r24 : Int32) => (¬ r24 = 0 → wp_X8_countWithin_J104 v1 v2 v3 v4 v6 v8 t75.1 t75.2 ε κ P52 P75 Q) ∧ (r24 = 0 → wp_X8_countWithin_J105 v1 v2 v3 v4 v6 v8 t75.1 t75.2 ε κ 1 P52 P75 Q)))))
def wp_X8_countWithin_L52 (v1 : Int32) (v2 : Int32) (v3 : Int32) (v4 : Int64) (ε : US) (κ : US) (P15 : (Int32 × US) → Prop) (Q : US → Prop) (P52 : (Int64 × Int32 × US) → Prop) (t52 : Int64 × Int32 × US) : Prop := (v3 ≤ t52.2.1 → lpW (wp_X8_countWithin_L190 t52.1 ε κ P15 P52 Q) (0, t52.2.2)) ∧ (¬ v3 ≤ t52.2.1 → (6 ≤ t52.2.1 → lpW (wp_X8_countWithin_L190 t52.1 ε κ P15 P52 Q) (0, t52.2.2)) ∧ (¬ 6 ≤ t52.2.1 → ∀ x10 : Int64, x10 = t52.1 * v4 → lpW (wp_X8_countWithin_L75 x10 v1 v2 v3 v4 t52.2.1 ε κ P15 P52 Q) (0, t52.2.2)))
def wp_X8_countWithin_L15 (v6 : Int64) (v4 : Int64) (v1 : Int32) (v2 : Int32) (v3 : Int32) (ε : US) (κ : US) (Q : US → Prop) (P15 : (Int32 × US) → Prop) (t15 : Int32 × US) : Prop := (8 ≤ t15.1 → lpW (wp_X8_countWithin_L52 v1 v2 v3 v4 ε κ P15 Q) (v6, 0, t15.2)) ∧ (¬ 8 ≤ t15.1 → wp_X11_contains v2 t15.1 (fun (r79 : Int32) => (r79 = 0 → vp_in t15.1 8 ∧ (∀ z80 : US, z80 = uB t15.2 2 (t15.1).toNatClampNeg 0 → P15 (t15.1 + 1, z80))) ∧ (¬ r79 = 0 → vp_in t15.1 8 ∧ (∀ z81 : US, z81 = uB t15.2 2 (t15.1).toNatClampNeg 1 → P15 (t15.1 + 1, z81)))))
def wp_X8_countWithin (p1 : Int32) (p2 : Int32) (p3 : Int32) (σ : US) (ε : US) (κ : US) (Q : US → Prop) : Prop := wp_X2_commonDivisors κ (fun (r1 : Int64) => lpW (wp_X8_countWithin_L15 1 r1 p1 p2 p3 ε κ Q) (0, σ))
set_option maxRecDepth 100000 in
set_option maxHeartbeats 4000000 in
theorem c_X8_countWithin (l : Launch) (D : va_G) (kc : Nat → ClassId) (am : Nat → Nat) (ae : Nat → Nat) (ac : Nat → Nat) (p1 : Int32) (p2 : Int32) (p3 : Int32) (σ : US) (ε : US) (κ : US) (Q : US → Prop) (h : wp_X8_countWithin p1 p2 p3 σ ε κ Q) : kCv l D (tyL kc) yX8_countWithin wsX8_countWithin ({ frames := 4, cells := 0, slots := 0, locals := 95 } : Room) [.ref (am 0), .int p1, .int p2, .int p3] (xMo kc am ae ac σ ε κ) (fun u : US => (xMo kc am ae ac u ε κ)) 0 0 (fun u => Q u) := by
  intro sz
  refine k_begin (cc := cX8_countWithin) (maxL := 11) (ret := none) (by decide +kernel) rfl rfl (fun p e s m args below meth c hsz E G ls hl => ?_)
  subst hsz
  have hl : lv_has ls 11 [(0, .ref (am 0)), (1, .int p1), (2, .int p2), (3, .int p3)] := hl
  refine lv_aload_n E.ex E.by dX8_countWithin_0 rfl (lv_at hl 0 rfl) ?_
  refine k_get E G wi_X8_countWithin_X8 0 (gMo_0 _ _ _ _ _ _ _) rfl 0 rfl fl_X8_countWithin_X8_0 (v := .ref (ac 0)) rfl dX8_countWithin_1 ?_
  refine k_cVl (X := ((wMo kc am ac ae σ) ++ (wE kc ae ε) : va_W)) (w := (wC kc ac κ)) (Z := ([] : va_W)) (wnew := (fun _ : Unit => (xMo kc am ae ac σ ε κ))) (As := []) (rest := []) E (xMo_2 _ _ _ _ _ _ _) G (c_X2_commonDivisors l D kc _ _ _ h) gX8_countWithin_X2_commonDivisors rfl ⟨rfl, rfl⟩ hd_X2_commonDivisors_v ⟨rfl, rfl⟩ 0 (gC_0 _ _ _) rfl rfl hl rfl rfl dX8_countWithin_4 ⟨rfl, rfl⟩ (fun _ => xMo_2 _ _ _ _ _ _ _) (fun r1 _u4 hq H locs G => ?_)
  have h := hq
  refine lv_lstore (lv' := [(4, .long r1), (0, .ref (am 0)), (1, .int p1), (2, .int p2), (3, .int p3)]) E.ex E.by dX8_countWithin_7 hl (by decide) rfl (fun ls hl => ?_)
  refine lv_lconst (v := 1) E.ex E.by dX8_countWithin_9 (by decide) ?_
  refine lv_lstore (lv' := [(6, .long 1), (4, .long r1), (0, .ref (am 0)), (1, .int p1), (2, .int p2), (3, .int p3)]) E.ex E.by dX8_countWithin_10 hl (by decide) rfl (fun ls hl => ?_)
  refine lv_iconst (v := 0) E.ex E.by dX8_countWithin_12 (by decide) ?_
  refine lv_istore (lv' := [(8, .int 0), (6, .long 1), (4, .long r1), (0, .ref (am 0)), (1, .int p1), (2, .int p2), (3, .int p3)]) E.ex E.by dX8_countWithin_13 hl (by decide) rfl (fun ls hl => ?_)
  refine lpW_ind (fun t2 : Int32 × US => ∀ (H : Heap) (locs : List Loc) (ls : Array Slot), kG D (va_A (xMo kc am ae ac σ ε κ) s.heap.size) s (xMo kc am ae ac t2.2 ε κ) H locs → lv_has ls 11 [(0, .ref (am 0)), (1, .int p1), (2, .int p2), (3, .int p3), (4, .long r1), (6, .long 1), (8, .int t2.1)] → W p l e _ s m args below meth c H locs _ _ _ (F0 m 15 ls [])) (fun P15 IH15 t2 h H locs ls G hl => ?_) _ h _ _ _ G (lv_sub hl [3, 4, 5, 6, 2, 1, 0] rfl)
  refine lv_iload E.ex E.by dX8_countWithin_15 (lv_at hl 6 rfl) ?_
  refine lv_bipush (v := 8) E.ex E.by dX8_countWithin_17 (by decide) ?_
  refine lv_icmp_ge (tgt := 49) E.ex E.by dX8_countWithin_19 (by decide) (fun hc33 => ?_) (fun hc33 => ?_)
  · have h := h.1 hc33
    refine lv_iconst (v := 0) E.ex E.by dX8_countWithin_49 (by decide) ?_
    refine lv_istore (lv' := [(8, .int 0), (0, .ref (am 0)), (1, .int p1), (2, .int p2), (3, .int p3), (4, .long r1), (6, .long 1)]) E.ex E.by dX8_countWithin_50 hl (by decide) rfl (fun ls hl => ?_)
    refine lpW_ind (fun t3 : Int64 × Int32 × US => ∀ (H : Heap) (locs : List Loc) (ls : Array Slot), kG D (va_A (xMo kc am ae ac σ ε κ) s.heap.size) s (xMo kc am ae ac t3.2.2 ε κ) H locs → lv_has ls 11 [(0, .ref (am 0)), (1, .int p1), (2, .int p2), (3, .int p3), (4, .long r1), (6, .long t3.1), (8, .int t3.2.1)] → W p l e _ s m args below meth c H locs _ _ _ (F0 m 52 ls [])) (fun P52 IH52 t3 h H locs ls G hl => ?_) _ h _ _ _ G (lv_sub hl [1, 2, 3, 4, 5, 6, 0] rfl)
    refine lv_iload E.ex E.by dX8_countWithin_52 (lv_at hl 6 rfl) ?_
    refine lv_iload_n E.ex E.by dX8_countWithin_54 rfl (lv_at hl 3 rfl) ?_
    refine lv_icmp_ge (tgt := 187) E.ex E.by dX8_countWithin_55 (by decide) (fun hc28 => ?_) (fun hc28 => ?_)
    · have h := h.1 hc28
      refine lv_iconst (v := 0) E.ex E.by dX8_countWithin_187 (by decide) ?_
      refine lv_istore (lv' := [(8, .int 0), (0, .ref (am 0)), (1, .int p1), (2, .int p2), (3, .int p3), (4, .long r1), (6, .long t3.1)]) E.ex E.by dX8_countWithin_188 hl (by decide) rfl (fun ls hl => ?_)
      refine lpW_ind (fun t4 : Int32 × US => ∀ (H : Heap) (locs : List Loc) (ls : Array Slot), kG D (va_A (xMo kc am ae ac σ ε κ) s.heap.size) s (xMo kc am ae ac t4.2 ε κ) H locs → lv_has ls 11 [(0, .ref (am 0)), (6, .long t3.1), (8, .int t4.1)] → W p l e _ s m args below meth c H locs _ _ _ (F0 m 190 ls [])) (fun P190 IH190 t4 h H locs ls G hl => ?_) _ h _ _ _ G (lv_sub hl [1, 6, 0] rfl)
      refine lv_iload E.ex E.by dX8_countWithin_190 (lv_at hl 2 rfl) ?_
      refine lv_bipush (v := 8) E.ex E.by dX8_countWithin_192 (by decide) ?_
      refine lv_icmp_ge (tgt := 218) E.ex E.by dX8_countWithin_194 (by decide) (fun hc6 => ?_) (fun hc6 => ?_)
      · have h := h.1 hc6
        exact k_retv (wof := (fun u : US => (xMo kc am ae ac u ε κ))) (u := t4.2) E G h (Nat.le_of_ble_eq_true rfl) (Nat.le_of_ble_eq_true rfl) dX8_countWithin_218
      · have h := h.2 hc6
        refine lv_aload_n E.ex E.by dX8_countWithin_197 rfl (lv_at hl 0 rfl) ?_
        refine lv_iload E.ex E.by dX8_countWithin_198 (lv_at hl 2 rfl) ?_
        refine lv_aload_n E.ex E.by dX8_countWithin_200 rfl (lv_at hl 0 rfl) ?_
        refine k_get E G wi_X8_countWithin_X8 0 (gMo_0 _ _ _ _ _ _ _) rfl 4 rfl fl_X8_countWithin_X8_4 (v := .ref (am 3)) rfl dX8_countWithin_201 ?_
        refine lv_iload E.ex E.by dX8_countWithin_204 (lv_at hl 2 rfl) ?_
        refine k_lald E G 3 (gMo_3 _ _ _ _ _ _ _) 1 rfl h.1 dX8_countWithin_206 ?_
        have h := h.2
        refine lv_lload E.ex E.by dX8_countWithin_207 (lv_at hl 1 rfl) ?_
        refine k_cVv (X := []) (w := (xMo kc am ae ac t4.2 ε κ)) (Z := []) (wnew := (fun u : US => (xMo kc am ae ac u ε κ))) (As := [.int t4.1, .long (aB t4.2 2 (t4.1).toNatClampNeg), .long t3.1]) (rest := []) E (List.append_nil _).symm G (c_X8_put l D kc _ _ _ _ _ _ _ _ _ _ h) gX8_countWithin_X8_put rfl ⟨rfl, rfl⟩ hd_X8_put_v ⟨rfl, rfl⟩ 0 (gMo_0 _ _ _ _ _ _ _) rfl rfl hl rfl rfl dX8_countWithin_209 ⟨rfl, rfl⟩ (fun _ => (List.append_nil _).symm) (fun u5 hq H locs G => ?_)
        have h := hq
        refine lv_iinc (k := 2) (v := t4.1 + 1) (lv' := [(8, .int (t4.1 + 1)), (0, .ref (am 0)), (6, .long t3.1)]) E.ex E.by dX8_countWithin_212 hl rfl (k_inc1 _) (by decide) rfl (fun ls hl => ?_)
        refine lv_goto (tgt := 190) E.ex E.by dX8_countWithin_215 (by decide) ?_
        exact IH190 _ h _ _ _ G (lv_sub hl [1, 2, 0] rfl)
    · have h := h.2 hc28
      refine lv_iload E.ex E.by dX8_countWithin_58 (lv_at hl 6 rfl) ?_
      refine lv_bipush (v := 6) E.ex E.by dX8_countWithin_60 (by decide) ?_
      refine lv_icmp_ge (tgt := 187) E.ex E.by dX8_countWithin_62 (by decide) (fun hc27 => ?_) (fun hc27 => ?_)
      · have h := h.1 hc27
        refine lv_iconst (v := 0) E.ex E.by dX8_countWithin_187 (by decide) ?_
        refine lv_istore (lv' := [(8, .int 0), (0, .ref (am 0)), (1, .int p1), (2, .int p2), (3, .int p3), (4, .long r1), (6, .long t3.1)]) E.ex E.by dX8_countWithin_188 hl (by decide) rfl (fun ls hl => ?_)
        refine lpW_ind (fun t7 : Int32 × US => ∀ (H : Heap) (locs : List Loc) (ls : Array Slot), kG D (va_A (xMo kc am ae ac σ ε κ) s.heap.size) s (xMo kc am ae ac t7.2 ε κ) H locs → lv_has ls 11 [(0, .ref (am 0)), (6, .long t3.1), (8, .int t7.1)] → W p l e _ s m args below meth c H locs _ _ _ (F0 m 190 ls [])) (fun P190 IH190 t7 h H locs ls G hl => ?_) _ h _ _ _ G (lv_sub hl [1, 6, 0] rfl)
        refine lv_iload E.ex E.by dX8_countWithin_190 (lv_at hl 2 rfl) ?_
        refine lv_bipush (v := 8) E.ex E.by dX8_countWithin_192 (by decide) ?_
        refine lv_icmp_ge (tgt := 218) E.ex E.by dX8_countWithin_194 (by decide) (fun hc9 => ?_) (fun hc9 => ?_)
        · have h := h.1 hc9
          exact k_retv (wof := (fun u : US => (xMo kc am ae ac u ε κ))) (u := t7.2) E G h (Nat.le_of_ble_eq_true rfl) (Nat.le_of_ble_eq_true rfl) dX8_countWithin_218
        · have h := h.2 hc9
          refine lv_aload_n E.ex E.by dX8_countWithin_197 rfl (lv_at hl 0 rfl) ?_
          refine lv_iload E.ex E.by dX8_countWithin_198 (lv_at hl 2 rfl) ?_
          refine lv_aload_n E.ex E.by dX8_countWithin_200 rfl (lv_at hl 0 rfl) ?_
          refine k_get E G wi_X8_countWithin_X8 0 (gMo_0 _ _ _ _ _ _ _) rfl 4 rfl fl_X8_countWithin_X8_4 (v := .ref (am 3)) rfl dX8_countWithin_201 ?_
          refine lv_iload E.ex E.by dX8_countWithin_204 (lv_at hl 2 rfl) ?_
          refine k_lald E G 3 (gMo_3 _ _ _ _ _ _ _) 1 rfl h.1 dX8_countWithin_206 ?_
          have h := h.2
          refine lv_lload E.ex E.by dX8_countWithin_207 (lv_at hl 1 rfl) ?_
          refine k_cVv (X := []) (w := (xMo kc am ae ac t7.2 ε κ)) (Z := []) (wnew := (fun u : US => (xMo kc am ae ac u ε κ))) (As := [.int t7.1, .long (aB t7.2 2 (t7.1).toNatClampNeg), .long t3.1]) (rest := []) E (List.append_nil _).symm G (c_X8_put l D kc _ _ _ _ _ _ _ _ _ _ h) gX8_countWithin_X8_put rfl ⟨rfl, rfl⟩ hd_X8_put_v ⟨rfl, rfl⟩ 0 (gMo_0 _ _ _ _ _ _ _) rfl rfl hl rfl rfl dX8_countWithin_209 ⟨rfl, rfl⟩ (fun _ => (List.append_nil _).symm) (fun u8 hq H locs G => ?_)
          have h := hq
          refine lv_iinc (k := 2) (v := t7.1 + 1) (lv' := [(8, .int (t7.1 + 1)), (0, .ref (am 0)), (6, .long t3.1)]) E.ex E.by dX8_countWithin_212 hl rfl (k_inc1 _) (by decide) rfl (fun ls hl => ?_)
          refine lv_goto (tgt := 190) E.ex E.by dX8_countWithin_215 (by decide) ?_
          exact IH190 _ h _ _ _ G (lv_sub hl [1, 2, 0] rfl)
      · have h := h.2 hc27
        refine lv_lload E.ex E.by dX8_countWithin_65 (lv_at hl 5 rfl) ?_
        refine lv_lload E.ex E.by dX8_countWithin_67 (lv_at hl 4 rfl) ?_
        refine lv_lmul E.ex E.by dX8_countWithin_69 ?_
        refine lv_topl (fun x10 ex10 => ?_)
        have h := h x10 ex10
        refine lv_lstore (lv' := [(6, .long x10), (0, .ref (am 0)), (1, .int p1), (2, .int p2), (3, .int p3), (4, .long r1), (8, .int t3.2.1)]) E.ex E.by dX8_countWithin_70 hl (by decide) rfl (fun ls hl => ?_)
        refine lv_iconst (v := 0) E.ex E.by dX8_countWithin_72 (by decide) ?_
        refine lv_istore (lv' := [(9, .int 0), (6, .long x10), (0, .ref (am 0)), (1, .int p1), (2, .int p2), (3, .int p3), (4, .long r1), (8, .int t3.2.1)]) E.ex E.by dX8_countWithin_73 hl (by decide) rfl (fun ls hl => ?_)
        refine lpW_ind (fun t11 : Int32 × US => ∀ (H : Heap) (locs : List Loc) (ls : Array Slot), kG D (va_A (xMo kc am ae ac σ ε κ) s.heap.size) s (xMo kc am ae ac t11.2 ε κ) H locs → lv_has ls 11 [(0, .ref (am 0)), (1, .int p1), (2, .int p2), (3, .int p3), (4, .long r1), (6, .long x10), (8, .int t3.2.1), (9, .int t11.1)] → W p l e _ s m args below meth c H locs _ _ _ (F0 m 75 ls [])) (fun P75 IH75 t11 h H locs ls G hl => ?_) _ h _ _ _ G (lv_sub hl [2, 3, 4, 5, 6, 1, 7, 0] rfl)
        have K105 : ∀ (v9 : Int32) (σ' : US) (s0 : Int32) (H : Heap) (locs : List Loc) (ls : Array Slot), kG D (va_A (xMo kc am ae ac σ ε κ) s.heap.size) s (xMo kc am ae ac σ' ε κ) H locs → lv_has ls 11 [(0, .ref (am 0)), (1, .int p1), (2, .int p2), (3, .int p3), (4, .long r1), (6, .long x10), (8, .int t3.2.1), (9, .int v9)] → wp_X8_countWithin_J105 p1 p2 p3 r1 x10 t3.2.1 v9 σ' ε κ s0 P52 P75 Q → W p l e ({ frames := 4, cells := 0, slots := 0, locals := 95 } : Room) s m args below meth c H locs 0 0 (MQ below (va_Qv (fun u => Q u) (kB D (xMo kc am ae ac σ ε κ) s.heap.size (fun u : US => (xMo kc am ae ac u ε κ))) (va_A (xMo kc am ae ac σ ε κ) s.heap.size)) args s 0 0 (va_A (xMo kc am ae ac σ ε κ) s.heap.size)) (F0 m 105 ls [.int s0]) := by
          intro v9 σ' s0 H locs ls G hl h
          refine lv_istore (lv' := [(10, .int s0), (0, .ref (am 0)), (1, .int p1), (2, .int p2), (3, .int p3), (4, .long r1), (6, .long x10), (8, .int t3.2.1), (9, .int v9)]) E.ex E.by dX8_countWithin_105 hl (by decide) rfl (fun ls hl => ?_)
          refine lv_aload_n E.ex E.by dX8_countWithin_107 rfl (lv_at hl 1 rfl) ?_
          refine k_get E G wi_X8_countWithin_X8 0 (gMo_0 _ _ _ _ _ _ _) rfl 5 rfl fl_X8_countWithin_X8_5 (v := .ref (am 4)) rfl dX8_countWithin_108 ?_
          refine lv_iload E.ex E.by dX8_countWithin_111 (lv_at hl 8 rfl) ?_
          refine lv_iload E.ex E.by dX8_countWithin_113 (lv_at hl 0 rfl) ?_
          refine lv_if_eq (tgt := 129) E.ex E.by dX8_countWithin_115 (by decide) (fun hc26 => ?_) (fun hc26 => ?_)
          · have h := h.1 hc26
            refine lv_iload_n E.ex E.by dX8_countWithin_129 rfl (lv_at hl 3 rfl) ?_
            refine lv_iload E.ex E.by dX8_countWithin_130 (lv_at hl 8 rfl) ?_
            refine k_cSNi (X := (xMo kc am ae ac σ' ε κ)) (w := []) (Z := []) (wnew := (fun _ : Unit => (xMo kc am ae ac σ' ε κ))) (As := [.int p2, .int v9]) (rest := [.int v9, .ref (am 4)]) E (List.append_nil _).symm G (c_X11_contains l D kc _ _ _ h) gX8_countWithin_X11_contains_n74 (by decide +kernel) li_X8_countWithin_X11 ls_X8_countWithin_X11_contains rfl ⟨rfl, rfl⟩ hd_X11_contains_n ⟨rfl, rfl⟩ rfl hl rfl rfl dX8_countWithin_132 ⟨rfl, rfl⟩ (fun _ => (List.append_nil _).symm) (fun r20 _u132 hq H locs G => ?_)
            have h := hq
            refine lv_if_eq (tgt := 143) E.ex E.by dX8_countWithin_135 (by decide) (fun hc23 => ?_) (fun hc23 => ?_)
            · have h := h.1 hc23
              refine lv_lconst (v := 0) E.ex E.by dX8_countWithin_143 (by decide) ?_
              refine k_last (fun z => (xMo kc am ae ac z ε κ)) E G 4 (gMo_4 _ _ _ _ _ _ _) 1 rfl h.1 (uB σ' 3 (v9).toNatClampNeg 0) (sMo_4 _ _ _ _ _ _ _ _) dX8_countWithin_144 (fun z21 ez21 H locs G => ?_)
              have h := h.2 z21 ez21
              refine lv_iinc (k := 8) (v := v9 + 1) (lv' := [(9, .int (v9 + 1)), (10, .int s0), (0, .ref (am 0)), (1, .int p1), (2, .int p2), (3, .int p3), (4, .long r1), (6, .long x10), (8, .int t3.2.1)]) E.ex E.by dX8_countWithin_145 hl rfl (k_inc1 _) (by decide) rfl (fun ls hl => ?_)
              refine lv_goto (tgt := 75) E.ex E.by dX8_countWithin_148 (by decide) ?_
              exact IH75 _ h _ _ _ G (lv_sub hl [2, 3, 4, 5, 6, 7, 8, 0] rfl)
            · have h := h.2 hc23
              refine lv_lload E.ex E.by dX8_countWithin_138 (lv_at hl 6 rfl) ?_
              refine lv_goto (tgt := 144) E.ex E.by dX8_countWithin_140 (by decide) ?_
              refine k_last (fun z => (xMo kc am ae ac z ε κ)) E G 4 (gMo_4 _ _ _ _ _ _ _) 1 rfl h.1 (uB σ' 3 (v9).toNatClampNeg x10) (sMo_4 _ _ _ _ _ _ _ _) dX8_countWithin_144 (fun z22 ez22 H locs G => ?_)
              have h := h.2 z22 ez22
              refine lv_iinc (k := 8) (v := v9 + 1) (lv' := [(9, .int (v9 + 1)), (10, .int s0), (0, .ref (am 0)), (1, .int p1), (2, .int p2), (3, .int p3), (4, .long r1), (6, .long x10), (8, .int t3.2.1)]) E.ex E.by dX8_countWithin_145 hl rfl (k_inc1 _) (by decide) rfl (fun ls hl => ?_)
              refine lv_goto (tgt := 75) E.ex E.by dX8_countWithin_148 (by decide) ?_
              exact IH75 _ h _ _ _ G (lv_sub hl [2, 3, 4, 5, 6, 7, 8, 0] rfl)
          · have h := h.2 hc26
            refine lv_aload_n E.ex E.by dX8_countWithin_118 rfl (lv_at hl 1 rfl) ?_
            refine lv_iload E.ex E.by dX8_countWithin_119 (lv_at hl 8 rfl) ?_
            refine lv_lload E.ex E.by dX8_countWithin_121 (lv_at hl 5 rfl) ?_
            refine k_cVl (X := []) (w := (xMo kc am ae ac σ' ε κ)) (Z := []) (wnew := (fun _ : Unit => (xMo kc am ae ac σ' ε κ))) (As := [.int v9, .long r1]) (rest := [.int v9, .ref (am 4)]) E (List.append_nil _).symm G (c_X8_countBefore l D kc _ _ _ _ _ _ _ _ _ h) gX8_countWithin_X8_countBefore rfl ⟨rfl, rfl⟩ hd_X8_countBefore_v ⟨rfl, rfl⟩ 0 (gMo_0 _ _ _ _ _ _ _) rfl rfl hl rfl rfl dX8_countWithin_123 ⟨rfl, rfl⟩ (fun _ => (List.append_nil _).symm) (fun r24 _u123 hq H locs G => ?_)
            have h := hq
            refine lv_goto (tgt := 144) E.ex E.by dX8_countWithin_126 (by decide) ?_
            refine k_last (fun z => (xMo kc am ae ac z ε κ)) E G 4 (gMo_4 _ _ _ _ _ _ _) 1 rfl h.1 (uB σ' 3 (v9).toNatClampNeg r24) (sMo_4 _ _ _ _ _ _ _ _) dX8_countWithin_144 (fun z25 ez25 H locs G => ?_)
            have h := h.2 z25 ez25
            refine lv_iinc (k := 8) (v := v9 + 1) (lv' := [(9, .int (v9 + 1)), (10, .int s0), (0, .ref (am 0)), (1, .int p1), (2, .int p2), (3, .int p3), (4, .long r1), (6, .long x10), (8, .int t3.2.1)]) E.ex E.by dX8_countWithin_145 hl rfl (k_inc1 _) (by decide) rfl (fun ls hl => ?_)
            refine lv_goto (tgt := 75) E.ex E.by dX8_countWithin_148 (by decide) ?_
            exact IH75 _ h _ _ _ G (lv_sub hl [2, 3, 4, 5, 6, 7, 8, 0] rfl)
        have K104 : ∀ (v9 : Int32) (σ' : US) (H : Heap) (locs : List Loc) (ls : Array Slot), kG D (va_A (xMo kc am ae ac σ ε κ) s.heap.size) s (xMo kc am ae ac σ' ε κ) H locs → lv_has ls 11 [(0, .ref (am 0)), (1, .int p1), (2, .int p2), (3, .int p3), (4, .long r1), (6, .long x10), (8, .int t3.2.1), (9, .int v9)] → wp_X8_countWithin_J104 p1 p2 p3 r1 x10 t3.2.1 v9 σ' ε κ P52 P75 Q → W p l e ({ frames := 4, cells := 0, slots := 0, locals := 95 } : Room) s m args below meth c H locs 0 0 (MQ below (va_Qv (fun u => Q u) (kB D (xMo kc am ae ac σ ε κ) s.heap.size (fun u : US => (xMo kc am ae ac u ε κ))) (va_A (xMo kc am ae ac σ ε κ) s.heap.size)) args s 0 0 (va_A (xMo kc am ae ac σ ε κ) s.heap.size)) (F0 m 104 ls []) := by
          intro v9 σ' H locs ls G hl h
          refine lv_iconst (v := 0) E.ex E.by dX8_countWithin_104 (by decide) ?_
          exact K105 _ _ _ _ _ _ G (lv_sub hl [0, 1, 2, 3, 4, 5, 6, 7] rfl) h
        refine lv_iload E.ex E.by dX8_countWithin_75 (lv_at hl 7 rfl) ?_
        refine lv_bipush (v := 8) E.ex E.by dX8_countWithin_77 (by decide) ?_
        refine lv_icmp_ge (tgt := 151) E.ex E.by dX8_countWithin_79 (by decide) (fun hc19 => ?_) (fun hc19 => ?_)
        · have h := h.1 hc19
          refine lv_iconst (v := 0) E.ex E.by dX8_countWithin_151 (by decide) ?_
          refine lv_istore (lv' := [(9, .int 0), (0, .ref (am 0)), (1, .int p1), (2, .int p2), (3, .int p3), (4, .long r1), (6, .long x10), (8, .int t3.2.1)]) E.ex E.by dX8_countWithin_152 hl (by decide) rfl (fun ls hl => ?_)
          refine lpW_ind (fun t12 : Int32 × US => ∀ (H : Heap) (locs : List Loc) (ls : Array Slot), kG D (va_A (xMo kc am ae ac σ ε κ) s.heap.size) s (xMo kc am ae ac t12.2 ε κ) H locs → lv_has ls 11 [(0, .ref (am 0)), (1, .int p1), (2, .int p2), (3, .int p3), (4, .long r1), (6, .long x10), (8, .int t3.2.1), (9, .int t12.1)] → W p l e _ s m args below meth c H locs _ _ _ (F0 m 154 ls [])) (fun P154 IH154 t12 h H locs ls G hl => ?_) _ h _ _ _ G (lv_sub hl [1, 2, 3, 4, 5, 6, 7, 0] rfl)
          refine lv_iload E.ex E.by dX8_countWithin_154 (lv_at hl 7 rfl) ?_
          refine lv_bipush (v := 8) E.ex E.by dX8_countWithin_156 (by decide) ?_
          refine lv_icmp_ge (tgt := 181) E.ex E.by dX8_countWithin_158 (by decide) (fun hc14 => ?_) (fun hc14 => ?_)
          · have h := h.1 hc14
            refine lv_iinc (k := 6) (v := t3.2.1 + 1) (lv' := [(8, .int (t3.2.1 + 1)), (0, .ref (am 0)), (1, .int p1), (2, .int p2), (3, .int p3), (4, .long r1), (6, .long x10), (9, .int t12.1)]) E.ex E.by dX8_countWithin_181 hl rfl (k_inc1 _) (by decide) rfl (fun ls hl => ?_)
            refine lv_goto (tgt := 52) E.ex E.by dX8_countWithin_184 (by decide) ?_
            exact IH52 _ h _ _ _ G (lv_sub hl [1, 2, 3, 4, 5, 6, 0] rfl)
          · have h := h.2 hc14
            refine lv_aload_n E.ex E.by dX8_countWithin_161 rfl (lv_at hl 0 rfl) ?_
            refine k_get E G wi_X8_countWithin_X8 0 (gMo_0 _ _ _ _ _ _ _) rfl 4 rfl fl_X8_countWithin_X8_4 (v := .ref (am 3)) rfl dX8_countWithin_162 ?_
            refine lv_iload E.ex E.by dX8_countWithin_165 (lv_at hl 7 rfl) ?_
            refine lv_aload_n E.ex E.by dX8_countWithin_167 rfl (lv_at hl 0 rfl) ?_
            refine k_get E G wi_X8_countWithin_X8 0 (gMo_0 _ _ _ _ _ _ _) rfl 5 rfl fl_X8_countWithin_X8_5 (v := .ref (am 4)) rfl dX8_countWithin_168 ?_
            refine lv_iload E.ex E.by dX8_countWithin_171 (lv_at hl 7 rfl) ?_
            refine k_lald E G 4 (gMo_4 _ _ _ _ _ _ _) 1 rfl h.1 dX8_countWithin_173 ?_
            have h := h.2
            refine k_last (fun z => (xMo kc am ae ac z ε κ)) E G 3 (gMo_3 _ _ _ _ _ _ _) 1 rfl h.1 (uB t12.2 2 (t12.1).toNatClampNeg (aB t12.2 3 (t12.1).toNatClampNeg)) (sMo_3 _ _ _ _ _ _ _ _) dX8_countWithin_174 (fun z13 ez13 H locs G => ?_)
            have h := h.2 z13 ez13
            refine lv_iinc (k := 7) (v := t12.1 + 1) (lv' := [(9, .int (t12.1 + 1)), (0, .ref (am 0)), (1, .int p1), (2, .int p2), (3, .int p3), (4, .long r1), (6, .long x10), (8, .int t3.2.1)]) E.ex E.by dX8_countWithin_175 hl rfl (k_inc1 _) (by decide) rfl (fun ls hl => ?_)
            refine lv_goto (tgt := 154) E.ex E.by dX8_countWithin_178 (by decide) ?_
            exact IH154 _ h _ _ _ G (lv_sub hl [1, 2, 3, 4, 5, 6, 7, 0] rfl)
        · have h := h.2 hc19
          refine lv_iload_n E.ex E.by dX8_countWithin_82 rfl (lv_at hl 1 rfl) ?_
          refine lv_iload E.ex E.by dX8_countWithin_83 (lv_at hl 7 rfl) ?_
          refine k_cSNi (X := (xMo kc am ae ac t11.2 ε κ)) (w := []) (Z := []) (wnew := (fun _ : Unit => (xMo kc am ae ac t11.2 ε κ))) (As := [.int p1, .int t11.1]) (rest := []) E (List.append_nil _).symm G (c_X11_contains l D kc _ _ _ h) gX8_countWithin_X11_contains_n74 (by decide +kernel) li_X8_countWithin_X11 ls_X8_countWithin_X11_contains rfl ⟨rfl, rfl⟩ hd_X11_contains_n ⟨rfl, rfl⟩ rfl hl rfl rfl dX8_countWithin_85 ⟨rfl, rfl⟩ (fun _ => (List.append_nil _).symm) (fun r15 _u85 hq H locs G => ?_)
          have h := hq
          refine lv_if_eq (tgt := 104) E.ex E.by dX8_countWithin_88 (by decide) (fun hc18 => ?_) (fun hc18 => ?_)
          · have h := h.1 hc18
            exact K104 _ _ _ _ _ G (lv_sub hl [0, 1, 2, 3, 4, 5, 6, 7] rfl) h
          · have h := h.2 hc18
            refine lv_iload_n E.ex E.by dX8_countWithin_91 rfl (lv_at hl 2 rfl) ?_
            refine lv_iload E.ex E.by dX8_countWithin_92 (lv_at hl 7 rfl) ?_
            refine k_cSNi (X := (xMo kc am ae ac t11.2 ε κ)) (w := []) (Z := []) (wnew := (fun _ : Unit => (xMo kc am ae ac t11.2 ε κ))) (As := [.int p2, .int t11.1]) (rest := []) E (List.append_nil _).symm G (c_X11_contains l D kc _ _ _ h) gX8_countWithin_X11_contains_n74 (by decide +kernel) li_X8_countWithin_X11 ls_X8_countWithin_X11_contains rfl ⟨rfl, rfl⟩ hd_X11_contains_n ⟨rfl, rfl⟩ rfl hl rfl rfl dX8_countWithin_94 ⟨rfl, rfl⟩ (fun _ => (List.append_nil _).symm) (fun r16 _u94 hq H locs G => ?_)
            have h := hq
            refine lv_if_ne (tgt := 104) E.ex E.by dX8_countWithin_97 (by decide) (fun hc17 => ?_) (fun hc17 => ?_)
            · have h := h.1 hc17
              exact K104 _ _ _ _ _ G (lv_sub hl [0, 1, 2, 3, 4, 5, 6, 7] rfl) h
            · have h := h.2 hc17
              refine lv_iconst (v := 1) E.ex E.by dX8_countWithin_100 (by decide) ?_
              refine lv_goto (tgt := 105) E.ex E.by dX8_countWithin_101 (by decide) ?_
              exact K105 _ _ _ _ _ _ G (lv_sub hl [0, 1, 2, 3, 4, 5, 6, 7] rfl) h
  · have h := h.2 hc33
    refine lv_aload_n E.ex E.by dX8_countWithin_22 rfl (lv_at hl 0 rfl) ?_
    refine k_get E G wi_X8_countWithin_X8 0 (gMo_0 _ _ _ _ _ _ _) rfl 4 rfl fl_X8_countWithin_X8_4 (v := .ref (am 3)) rfl dX8_countWithin_23 ?_
    refine lv_iload E.ex E.by dX8_countWithin_26 (lv_at hl 6 rfl) ?_
    refine lv_iload_n E.ex E.by dX8_countWithin_28 rfl (lv_at hl 2 rfl) ?_
    refine lv_iload E.ex E.by dX8_countWithin_29 (lv_at hl 6 rfl) ?_
    refine k_cSNi (X := (xMo kc am ae ac t2.2 ε κ)) (w := []) (Z := []) (wnew := (fun _ : Unit => (xMo kc am ae ac t2.2 ε κ))) (As := [.int p2, .int t2.1]) (rest := [.int t2.1, .ref (am 3)]) E (List.append_nil _).symm G (c_X11_contains l D kc _ _ _ h) gX8_countWithin_X11_contains_n74 (by decide +kernel) li_X8_countWithin_X11 ls_X8_countWithin_X11_contains rfl ⟨rfl, rfl⟩ hd_X11_contains_n ⟨rfl, rfl⟩ rfl hl rfl rfl dX8_countWithin_31 ⟨rfl, rfl⟩ (fun _ => (List.append_nil _).symm) (fun r29 _u31 hq H locs G => ?_)
    have h := hq
    refine lv_if_eq (tgt := 41) E.ex E.by dX8_countWithin_34 (by decide) (fun hc32 => ?_) (fun hc32 => ?_)
    · have h := h.1 hc32
      refine lv_lconst (v := 0) E.ex E.by dX8_countWithin_41 (by decide) ?_
      refine k_last (fun z => (xMo kc am ae ac z ε κ)) E G 3 (gMo_3 _ _ _ _ _ _ _) 1 rfl h.1 (uB t2.2 2 (t2.1).toNatClampNeg 0) (sMo_3 _ _ _ _ _ _ _ _) dX8_countWithin_42 (fun z30 ez30 H locs G => ?_)
      have h := h.2 z30 ez30
      refine lv_iinc (k := 6) (v := t2.1 + 1) (lv' := [(8, .int (t2.1 + 1)), (0, .ref (am 0)), (1, .int p1), (2, .int p2), (3, .int p3), (4, .long r1), (6, .long 1)]) E.ex E.by dX8_countWithin_43 hl rfl (k_inc1 _) (by decide) rfl (fun ls hl => ?_)
      refine lv_goto (tgt := 15) E.ex E.by dX8_countWithin_46 (by decide) ?_
      exact IH15 _ h _ _ _ G (lv_sub hl [1, 2, 3, 4, 5, 6, 0] rfl)
    · have h := h.2 hc32
      refine lv_lconst (v := 1) E.ex E.by dX8_countWithin_37 (by decide) ?_
      refine lv_goto (tgt := 42) E.ex E.by dX8_countWithin_38 (by decide) ?_
      refine k_last (fun z => (xMo kc am ae ac z ε κ)) E G 3 (gMo_3 _ _ _ _ _ _ _) 1 rfl h.1 (uB t2.2 2 (t2.1).toNatClampNeg 1) (sMo_3 _ _ _ _ _ _ _ _) dX8_countWithin_42 (fun z31 ez31 H locs G => ?_)
      have h := h.2 z31 ez31
      refine lv_iinc (k := 6) (v := t2.1 + 1) (lv' := [(8, .int (t2.1 + 1)), (0, .ref (am 0)), (1, .int p1), (2, .int p2), (3, .int p3), (4, .long r1), (6, .long 1)]) E.ex E.by dX8_countWithin_43 hl rfl (k_inc1 _) (by decide) rfl (fun ls hl => ?_)
      refine lv_goto (tgt := 15) E.ex E.by dX8_countWithin_46 (by decide) ?_
      exact IH15 _ h _ _ _ G (lv_sub hl [1, 2, 3, 4, 5, 6, 0] rfl)
theorem wi_X8_solveExpected_X8 : ∀ w ∈ wsX80, w ∈ wsX8_solveExpected := fun w h => List.mem_cons_of_mem _ (List.mem_append_left _ (List.mem_append_left _ (List.mem_append_right _ (h))))
theorem fl_X8_solveExpected_X8_0 : Cond.fieldLink RX8 31 (TX8 0).1 (TX8 0).2.1 (TX8 0).2.2.1 ∈ wsX8_solveExpected := List.mem_of_getElem? (i := 1) (by decide +kernel)
theorem fl_X8_solveExpected_X8_1 : Cond.fieldLink RX8 12 (TX8 1).1 (TX8 1).2.1 (TX8 1).2.2.1 ∈ wsX8_solveExpected := List.mem_of_getElem? (i := 2) (by decide +kernel)
theorem li_X8_solveExpected_X11 : Cond.initialized RX11 ∈ wsX8_solveExpected := List.mem_of_getElem? (i := 19) (by decide +kernel)
theorem ls_X8_solveExpected_X11_contains : Cond.static yX11_contains ∈ wsX8_solveExpected := List.mem_of_getElem? (i := 18) (by decide +kernel)
theorem hd_X2_surelyUntil_v : yX2_surelyUntil.cls = RX2 ∧ yX2_surelyUntil.cls ≠ "java/lang/invoke/MethodHandle" ∧ yX2_surelyUntil.cls ≠ "java/lang/invoke/VarHandle" ∧ (parseMethodDescriptor yX2_surelyUntil.desc).map (fun d => d.parameters.length) = some 2 := by decide +kernel
def wp_X8_solveExpected_L90 (v2 : Int32) (ε' : US) (κ : US) (P25 : (Int32 × US) → Prop) (Q : (US × US) → Prop) (P90 : (Int32 × US) → Prop) (t90 : Int32 × US) : Prop := (8 ≤ t90.1 → Q (t90.2, ε')) ∧ (¬ 8 ≤ t90.1 → wp_X11_contains v2 t90.1 (fun (r5 : Int32) => (r5 = 0 → wp_X8_put t90.1 1 0 t90.2 ε' κ (fun (u6 : US) => P90 (t90.1 + 1, u6))) ∧ (¬ r5 = 0 → wp_X3_solution t90.1 ε' (fun (r7 : Int64) => wp_X3_determinant ε' (fun (r8 : Int64) => wp_X8_put t90.1 r7 r8 t90.2 ε' κ (fun (u9 : US) => P90 (t90.1 + 1, u9)))))))
def wp_X8_solveExpected_L25 (v2 : Int32) (v1 : Int32) (σ' : US) (κ : US) (Q : (US × US) → Prop) (P25 : (Int32 × US) → Prop) (t25 : Int32 × US) : Prop := (8 ≤ t25.1 → wp_X3_solve t25.2 (fun (u4 : US) => lpW (wp_X8_solveExpected_L90 v2 u4 κ P25 Q) (0, σ'))) ∧ (¬ 8 ≤ t25.1 → wp_X11_contains (v2 &&& (v1 ^^^ (-1))) t25.1 (fun (r20 : Int32) => (r20 = 0 → P25 (t25.1 + 1, t25.2)) ∧ (¬ r20 = 0 → wp_X8_balance t25.1 σ' t25.2 κ (fun (u21 : US) => wp_X2_divisorOf t25.1 κ (fun (r22 : Int32) => wp_X2_rewardOf t25.1 κ (fun (r23 : Int32) => wp_X3_putRight t25.1 ((r22.toInt64) * (r23.toInt64)) u21 (fun (u24 : US) => P25 (t25.1 + 1, u24))))))))
def wp_X8_solveExpected (p1 : Int32) (σ : US) (ε : US) (κ : US) (Q : (US × US) → Prop) : Prop := wp_X2_all κ (fun (r1 : Int32) => wp_X2_surelyUntil r1 p1 κ (fun (r2 : Int32) => wp_X3_clear ε (fun (u3 : US) => lpW (wp_X8_solveExpected_L25 r2 p1 σ κ Q) (0, u3))))
set_option maxRecDepth 100000 in
set_option maxHeartbeats 4000000 in
theorem c_X8_solveExpected (l : Launch) (D : va_G) (kc : Nat → ClassId) (am : Nat → Nat) (ae : Nat → Nat) (ac : Nat → Nat) (p1 : Int32) (σ : US) (ε : US) (κ : US) (Q : (US × US) → Prop) (h : wp_X8_solveExpected p1 σ ε κ Q) : kCv l D (tyL kc) yX8_solveExpected wsX8_solveExpected ({ frames := 4, cells := 0, slots := 0, locals := 94 } : Room) [.ref (am 0), .int p1] (xMo kc am ae ac σ ε κ) (fun u : US × US => (xMo kc am ae ac u.1 u.2 κ)) 0 0 (fun u => Q u) := by
  intro sz
  refine k_begin (cc := cX8_solveExpected) (maxL := 4) (ret := none) (by decide +kernel) rfl rfl (fun p e s m args below meth c hsz E G ls hl => ?_)
  subst hsz
  have hl : lv_has ls 4 [(0, .ref (am 0)), (1, .int p1)] := hl
  refine lv_aload_n E.ex E.by dX8_solveExpected_0 rfl (lv_at hl 0 rfl) ?_
  refine k_get E G wi_X8_solveExpected_X8 0 (gMo_0 _ _ _ _ _ _ _) rfl 0 rfl fl_X8_solveExpected_X8_0 (v := .ref (ac 0)) rfl dX8_solveExpected_1 ?_
  refine lv_aload_n E.ex E.by dX8_solveExpected_4 rfl (lv_at hl 0 rfl) ?_
  refine k_get E G wi_X8_solveExpected_X8 0 (gMo_0 _ _ _ _ _ _ _) rfl 0 rfl fl_X8_solveExpected_X8_0 (v := .ref (ac 0)) rfl dX8_solveExpected_5 ?_
  refine k_cVi (X := ((wMo kc am ac ae σ) ++ (wE kc ae ε) : va_W)) (w := (wC kc ac κ)) (Z := ([] : va_W)) (wnew := (fun _ : Unit => (xMo kc am ae ac σ ε κ))) (As := []) (rest := [.ref (ac 0)]) E (xMo_2 _ _ _ _ _ _ _) G (c_X2_all l D kc _ _ _ h) gX8_solveExpected_X2_all rfl ⟨rfl, rfl⟩ hd_X2_all_v ⟨rfl, rfl⟩ 0 (gC_0 _ _ _) rfl rfl hl rfl rfl dX8_solveExpected_8 ⟨rfl, rfl⟩ (fun _ => xMo_2 _ _ _ _ _ _ _) (fun r1 _u8 hq H locs G => ?_)
  have h := hq
  refine lv_iload_n E.ex E.by dX8_solveExpected_11 rfl (lv_at hl 1 rfl) ?_
  refine k_cVi (X := ((wMo kc am ac ae σ) ++ (wE kc ae ε) : va_W)) (w := (wC kc ac κ)) (Z := ([] : va_W)) (wnew := (fun _ : Unit => (xMo kc am ae ac σ ε κ))) (As := [.int r1, .int p1]) (rest := []) E (xMo_2 _ _ _ _ _ _ _) G (c_X2_surelyUntil l D kc _ _ _ _ _ h) gX8_solveExpected_X2_surelyUntil rfl ⟨rfl, rfl⟩ hd_X2_surelyUntil_v ⟨rfl, rfl⟩ 0 (gC_0 _ _ _) rfl rfl hl rfl rfl dX8_solveExpected_12 ⟨rfl, rfl⟩ (fun _ => xMo_2 _ _ _ _ _ _ _) (fun r2 _u12 hq H locs G => ?_)
  have h := hq
  refine lv_istore_n (lv' := [(2, .int r2), (0, .ref (am 0)), (1, .int p1)]) E.ex E.by dX8_solveExpected_15 rfl hl (by decide) rfl (fun ls hl => ?_)
  refine lv_aload_n E.ex E.by dX8_solveExpected_16 rfl (lv_at hl 1 rfl) ?_
  refine k_get E G wi_X8_solveExpected_X8 0 (gMo_0 _ _ _ _ _ _ _) rfl 1 rfl fl_X8_solveExpected_X8_1 (v := .ref (ae 0)) rfl dX8_solveExpected_17 ?_
  refine k_cVv (X := ((wMo kc am ac ae σ) : va_W)) (w := (wE kc ae ε)) (Z := ((wC kc ac κ) : va_W)) (wnew := (fun u : US => (xMo kc am ae ac σ u κ))) (As := []) (rest := []) E (xMo_1 _ _ _ _ _ _ _) G (c_X3_clear l D kc _ _ _ h) gX8_solveExpected_X3_clear rfl ⟨rfl, rfl⟩ hd_X3_clear_v ⟨rfl, rfl⟩ 0 (gE_0 _ _ _) rfl rfl hl rfl rfl dX8_solveExpected_20 ⟨rfl, rfl⟩ (fun _ => xMo_1 _ _ _ _ _ _ _) (fun u3 hq H locs G => ?_)
  have h := hq
  refine lv_iconst (v := 0) E.ex E.by dX8_solveExpected_23 (by decide) ?_
  refine lv_istore_n (lv' := [(3, .int 0), (2, .int r2), (0, .ref (am 0)), (1, .int p1)]) E.ex E.by dX8_solveExpected_24 rfl hl (by decide) rfl (fun ls hl => ?_)
  refine lpW_ind (fun t4 : Int32 × US => ∀ (H : Heap) (locs : List Loc) (ls : Array Slot), kG D (va_A (xMo kc am ae ac σ ε κ) s.heap.size) s (xMo kc am ae ac σ t4.2 κ) H locs → lv_has ls 4 [(0, .ref (am 0)), (1, .int p1), (2, .int r2), (3, .int t4.1)] → W p l e _ s m args below meth c H locs _ _ _ (F0 m 25 ls [])) (fun P25 IH25 t4 h H locs ls G hl => ?_) _ h _ _ _ G (lv_sub hl [2, 3, 1, 0] rfl)
  refine lv_iload_n E.ex E.by dX8_solveExpected_25 rfl (lv_at hl 3 rfl) ?_
  refine lv_bipush (v := 8) E.ex E.by dX8_solveExpected_26 (by decide) ?_
  refine lv_icmp_ge (tgt := 81) E.ex E.by dX8_solveExpected_28 (by decide) (fun hc20 => ?_) (fun hc20 => ?_)
  · have h := h.1 hc20
    refine lv_aload_n E.ex E.by dX8_solveExpected_81 rfl (lv_at hl 0 rfl) ?_
    refine k_get E G wi_X8_solveExpected_X8 0 (gMo_0 _ _ _ _ _ _ _) rfl 1 rfl fl_X8_solveExpected_X8_1 (v := .ref (ae 0)) rfl dX8_solveExpected_82 ?_
    refine k_cVv (X := ((wMo kc am ac ae σ) : va_W)) (w := (wE kc ae t4.2)) (Z := ((wC kc ac κ) : va_W)) (wnew := (fun u : US => (xMo kc am ae ac σ u κ))) (As := []) (rest := []) E (xMo_1 _ _ _ _ _ _ _) G (c_X3_solve l D kc _ _ _ h) gX8_solveExpected_X3_solve rfl ⟨rfl, rfl⟩ hd_X3_solve_v ⟨rfl, rfl⟩ 0 (gE_0 _ _ _) rfl rfl hl rfl rfl dX8_solveExpected_85 ⟨rfl, rfl⟩ (fun _ => xMo_1 _ _ _ _ _ _ _) (fun u5 hq H locs G => ?_)
    have h := hq
    refine lv_iconst (v := 0) E.ex E.by dX8_solveExpected_88 (by decide) ?_
    refine lv_istore_n (lv' := [(3, .int 0), (0, .ref (am 0)), (1, .int p1), (2, .int r2)]) E.ex E.by dX8_solveExpected_89 rfl hl (by decide) rfl (fun ls hl => ?_)
    refine lpW_ind (fun t6 : Int32 × US => ∀ (H : Heap) (locs : List Loc) (ls : Array Slot), kG D (va_A (xMo kc am ae ac σ ε κ) s.heap.size) s (xMo kc am ae ac t6.2 u5 κ) H locs → lv_has ls 4 [(0, .ref (am 0)), (2, .int r2), (3, .int t6.1)] → W p l e _ s m args below meth c H locs _ _ _ (F0 m 90 ls [])) (fun P90 IH90 t6 h H locs ls G hl => ?_) _ h _ _ _ G (lv_sub hl [1, 3, 0] rfl)
    refine lv_iload_n E.ex E.by dX8_solveExpected_90 rfl (lv_at hl 2 rfl) ?_
    refine lv_bipush (v := 8) E.ex E.by dX8_solveExpected_91 (by decide) ?_
    refine lv_icmp_ge (tgt := 140) E.ex E.by dX8_solveExpected_93 (by decide) (fun hc13 => ?_) (fun hc13 => ?_)
    · have h := h.1 hc13
      exact k_retv (wof := (fun u : US × US => (xMo kc am ae ac u.1 u.2 κ))) (u := (t6.2, u5)) E G h (Nat.le_of_ble_eq_true rfl) (Nat.le_of_ble_eq_true rfl) dX8_solveExpected_140
    · have h := h.2 hc13
      refine lv_iload_n E.ex E.by dX8_solveExpected_96 rfl (lv_at hl 1 rfl) ?_
      refine lv_iload_n E.ex E.by dX8_solveExpected_97 rfl (lv_at hl 2 rfl) ?_
      refine k_cSNi (X := (xMo kc am ae ac t6.2 u5 κ)) (w := []) (Z := []) (wnew := (fun _ : Unit => (xMo kc am ae ac t6.2 u5 κ))) (As := [.int r2, .int t6.1]) (rest := []) E (List.append_nil _).symm G (c_X11_contains l D kc _ _ _ h) gX8_solveExpected_X11_contains_n74 (by decide +kernel) li_X8_solveExpected_X11 ls_X8_solveExpected_X11_contains rfl ⟨rfl, rfl⟩ hd_X11_contains_n ⟨rfl, rfl⟩ rfl hl rfl rfl dX8_solveExpected_98 ⟨rfl, rfl⟩ (fun _ => (List.append_nil _).symm) (fun r7 _u98 hq H locs G => ?_)
      have h := hq
      refine lv_if_eq (tgt := 127) E.ex E.by dX8_solveExpected_101 (by decide) (fun hc12 => ?_) (fun hc12 => ?_)
      · have h := h.1 hc12
        refine lv_aload_n E.ex E.by dX8_solveExpected_127 rfl (lv_at hl 0 rfl) ?_
        refine lv_iload_n E.ex E.by dX8_solveExpected_128 rfl (lv_at hl 2 rfl) ?_
        refine lv_lconst (v := 1) E.ex E.by dX8_solveExpected_129 (by decide) ?_
        refine lv_lconst (v := 0) E.ex E.by dX8_solveExpected_130 (by decide) ?_
        refine k_cVv (X := []) (w := (xMo kc am ae ac t6.2 u5 κ)) (Z := []) (wnew := (fun u : US => (xMo kc am ae ac u u5 κ))) (As := [.int t6.1, .long 1, .long 0]) (rest := []) E (List.append_nil _).symm G (c_X8_put l D kc _ _ _ _ _ _ _ _ _ _ h) gX8_solveExpected_X8_put rfl ⟨rfl, rfl⟩ hd_X8_put_v ⟨rfl, rfl⟩ 0 (gMo_0 _ _ _ _ _ _ _) rfl rfl hl rfl rfl dX8_solveExpected_131 ⟨rfl, rfl⟩ (fun _ => (List.append_nil _).symm) (fun u8 hq H locs G => ?_)
        have h := hq
        refine lv_iinc (k := 2) (v := t6.1 + 1) (lv' := [(3, .int (t6.1 + 1)), (0, .ref (am 0)), (2, .int r2)]) E.ex E.by dX8_solveExpected_134 hl rfl (k_inc1 _) (by decide) rfl (fun ls hl => ?_)
        refine lv_goto (tgt := 90) E.ex E.by dX8_solveExpected_137 (by decide) ?_
        exact IH90 _ h _ _ _ G (lv_sub hl [1, 2, 0] rfl)
      · have h := h.2 hc12
        refine lv_aload_n E.ex E.by dX8_solveExpected_104 rfl (lv_at hl 0 rfl) ?_
        refine lv_iload_n E.ex E.by dX8_solveExpected_105 rfl (lv_at hl 2 rfl) ?_
        refine lv_aload_n E.ex E.by dX8_solveExpected_106 rfl (lv_at hl 0 rfl) ?_
        refine k_get E G wi_X8_solveExpected_X8 0 (gMo_0 _ _ _ _ _ _ _) rfl 1 rfl fl_X8_solveExpected_X8_1 (v := .ref (ae 0)) rfl dX8_solveExpected_107 ?_
        refine lv_iload_n E.ex E.by dX8_solveExpected_110 rfl (lv_at hl 2 rfl) ?_
        refine k_cVl (X := ((wMo kc am ac ae t6.2) : va_W)) (w := (wE kc ae u5)) (Z := ((wC kc ac κ) : va_W)) (wnew := (fun _ : Unit => (xMo kc am ae ac t6.2 u5 κ))) (As := [.int t6.1]) (rest := [.int t6.1, .ref (am 0)]) E (xMo_1 _ _ _ _ _ _ _) G (c_X3_solution l D kc _ _ _ _ h) gX8_solveExpected_X3_solution rfl ⟨rfl, rfl⟩ hd_X3_solution_v ⟨rfl, rfl⟩ 0 (gE_0 _ _ _) rfl rfl hl rfl rfl dX8_solveExpected_111 ⟨rfl, rfl⟩ (fun _ => xMo_1 _ _ _ _ _ _ _) (fun r9 _u111 hq H locs G => ?_)
        have h := hq
        refine lv_aload_n E.ex E.by dX8_solveExpected_114 rfl (lv_at hl 0 rfl) ?_
        refine k_get E G wi_X8_solveExpected_X8 0 (gMo_0 _ _ _ _ _ _ _) rfl 1 rfl fl_X8_solveExpected_X8_1 (v := .ref (ae 0)) rfl dX8_solveExpected_115 ?_
        refine k_cVl (X := ((wMo kc am ac ae t6.2) : va_W)) (w := (wE kc ae u5)) (Z := ((wC kc ac κ) : va_W)) (wnew := (fun _ : Unit => (xMo kc am ae ac t6.2 u5 κ))) (As := []) (rest := [.long r9, .int t6.1, .ref (am 0)]) E (xMo_1 _ _ _ _ _ _ _) G (c_X3_determinant l D kc _ _ _ h) gX8_solveExpected_X3_determinant rfl ⟨rfl, rfl⟩ hd_X3_determinant_v ⟨rfl, rfl⟩ 0 (gE_0 _ _ _) rfl rfl hl rfl rfl dX8_solveExpected_118 ⟨rfl, rfl⟩ (fun _ => xMo_1 _ _ _ _ _ _ _) (fun r10 _u118 hq H locs G => ?_)
        have h := hq
        refine k_cVv (X := []) (w := (xMo kc am ae ac t6.2 u5 κ)) (Z := []) (wnew := (fun u : US => (xMo kc am ae ac u u5 κ))) (As := [.int t6.1, .long r9, .long r10]) (rest := []) E (List.append_nil _).symm G (c_X8_put l D kc _ _ _ _ _ _ _ _ _ _ h) gX8_solveExpected_X8_put rfl ⟨rfl, rfl⟩ hd_X8_put_v ⟨rfl, rfl⟩ 0 (gMo_0 _ _ _ _ _ _ _) rfl rfl hl rfl rfl dX8_solveExpected_121 ⟨rfl, rfl⟩ (fun _ => (List.append_nil _).symm) (fun u11 hq H locs G => ?_)
        have h := hq
        refine lv_goto (tgt := 134) E.ex E.by dX8_solveExpected_124 (by decide) ?_
        refine lv_iinc (k := 2) (v := t6.1 + 1) (lv' := [(3, .int (t6.1 + 1)), (0, .ref (am 0)), (2, .int r2)]) E.ex E.by dX8_solveExpected_134 hl rfl (k_inc1 _) (by decide) rfl (fun ls hl => ?_)
        refine lv_goto (tgt := 90) E.ex E.by dX8_solveExpected_137 (by decide) ?_
        exact IH90 _ h _ _ _ G (lv_sub hl [1, 2, 0] rfl)
  · have h := h.2 hc20
    refine lv_iload_n E.ex E.by dX8_solveExpected_31 rfl (lv_at hl 2 rfl) ?_
    refine lv_iload_n E.ex E.by dX8_solveExpected_32 rfl (lv_at hl 1 rfl) ?_
    refine lv_iconst (v := (-1)) E.ex E.by dX8_solveExpected_33 (by decide) ?_
    refine lv_ixor E.ex E.by dX8_solveExpected_34 ?_
    refine lv_iand E.ex E.by dX8_solveExpected_35 ?_
    refine lv_iload_n E.ex E.by dX8_solveExpected_36 rfl (lv_at hl 3 rfl) ?_
    refine k_cSNi (X := (xMo kc am ae ac σ t4.2 κ)) (w := []) (Z := []) (wnew := (fun _ : Unit => (xMo kc am ae ac σ t4.2 κ))) (As := [.int (r2 &&& (p1 ^^^ (-1))), .int t4.1]) (rest := []) E (List.append_nil _).symm G (c_X11_contains l D kc _ _ _ h) gX8_solveExpected_X11_contains_n74 (by decide +kernel) li_X8_solveExpected_X11 ls_X8_solveExpected_X11_contains rfl ⟨rfl, rfl⟩ hd_X11_contains_n ⟨rfl, rfl⟩ rfl hl rfl rfl dX8_solveExpected_37 ⟨rfl, rfl⟩ (fun _ => (List.append_nil _).symm) (fun r14 _u37 hq H locs G => ?_)
    have h := hq
    refine lv_if_eq (tgt := 75) E.ex E.by dX8_solveExpected_40 (by decide) (fun hc19 => ?_) (fun hc19 => ?_)
    · have h := h.1 hc19
      refine lv_iinc (k := 3) (v := t4.1 + 1) (lv' := [(3, .int (t4.1 + 1)), (0, .ref (am 0)), (1, .int p1), (2, .int r2)]) E.ex E.by dX8_solveExpected_75 hl rfl (k_inc1 _) (by decide) rfl (fun ls hl => ?_)
      refine lv_goto (tgt := 25) E.ex E.by dX8_solveExpected_78 (by decide) ?_
      exact IH25 _ h _ _ _ G (lv_sub hl [1, 2, 3, 0] rfl)
    · have h := h.2 hc19
      refine lv_aload_n E.ex E.by dX8_solveExpected_43 rfl (lv_at hl 0 rfl) ?_
      refine lv_iload_n E.ex E.by dX8_solveExpected_44 rfl (lv_at hl 3 rfl) ?_
      refine k_cVv (X := []) (w := (xMo kc am ae ac σ t4.2 κ)) (Z := []) (wnew := (fun u : US => (xMo kc am ae ac σ u κ))) (As := [.int t4.1]) (rest := []) E (List.append_nil _).symm G (c_X8_balance l D kc _ _ _ _ _ _ _ _ h) gX8_solveExpected_X8_balance rfl ⟨rfl, rfl⟩ hd_X8_balance_v ⟨rfl, rfl⟩ 0 (gMo_0 _ _ _ _ _ _ _) rfl rfl hl rfl rfl dX8_solveExpected_45 ⟨rfl, rfl⟩ (fun _ => (List.append_nil _).symm) (fun u15 hq H locs G => ?_)
      have h := hq
      refine lv_aload_n E.ex E.by dX8_solveExpected_48 rfl (lv_at hl 0 rfl) ?_
      refine k_get E G wi_X8_solveExpected_X8 0 (gMo_0 _ _ _ _ _ _ _) rfl 1 rfl fl_X8_solveExpected_X8_1 (v := .ref (ae 0)) rfl dX8_solveExpected_49 ?_
      refine lv_iload_n E.ex E.by dX8_solveExpected_52 rfl (lv_at hl 3 rfl) ?_
      refine lv_aload_n E.ex E.by dX8_solveExpected_53 rfl (lv_at hl 0 rfl) ?_
      refine k_get E G wi_X8_solveExpected_X8 0 (gMo_0 _ _ _ _ _ _ _) rfl 0 rfl fl_X8_solveExpected_X8_0 (v := .ref (ac 0)) rfl dX8_solveExpected_54 ?_
      refine lv_iload_n E.ex E.by dX8_solveExpected_57 rfl (lv_at hl 3 rfl) ?_
      refine k_cVi (X := ((wMo kc am ac ae σ) ++ (wE kc ae u15) : va_W)) (w := (wC kc ac κ)) (Z := ([] : va_W)) (wnew := (fun _ : Unit => (xMo kc am ae ac σ u15 κ))) (As := [.int t4.1]) (rest := [.int t4.1, .ref (ae 0)]) E (xMo_2 _ _ _ _ _ _ _) G (c_X2_divisorOf l D kc _ _ _ _ h) gX8_solveExpected_X2_divisorOf rfl ⟨rfl, rfl⟩ hd_X2_divisorOf_v ⟨rfl, rfl⟩ 0 (gC_0 _ _ _) rfl rfl hl rfl rfl dX8_solveExpected_58 ⟨rfl, rfl⟩ (fun _ => xMo_2 _ _ _ _ _ _ _) (fun r16 _u58 hq H locs G => ?_)
      have h := hq
      refine lv_i2l E.ex E.by dX8_solveExpected_61 rfl ?_
      refine lv_aload_n E.ex E.by dX8_solveExpected_62 rfl (lv_at hl 0 rfl) ?_
      refine k_get E G wi_X8_solveExpected_X8 0 (gMo_0 _ _ _ _ _ _ _) rfl 0 rfl fl_X8_solveExpected_X8_0 (v := .ref (ac 0)) rfl dX8_solveExpected_63 ?_
      refine lv_iload_n E.ex E.by dX8_solveExpected_66 rfl (lv_at hl 3 rfl) ?_
      refine k_cVi (X := ((wMo kc am ac ae σ) ++ (wE kc ae u15) : va_W)) (w := (wC kc ac κ)) (Z := ([] : va_W)) (wnew := (fun _ : Unit => (xMo kc am ae ac σ u15 κ))) (As := [.int t4.1]) (rest := [.long (r16.toInt64), .int t4.1, .ref (ae 0)]) E (xMo_2 _ _ _ _ _ _ _) G (c_X2_rewardOf l D kc _ _ _ _ h) gX8_solveExpected_X2_rewardOf rfl ⟨rfl, rfl⟩ hd_X2_rewardOf_v ⟨rfl, rfl⟩ 0 (gC_0 _ _ _) rfl rfl hl rfl rfl dX8_solveExpected_67 ⟨rfl, rfl⟩ (fun _ => xMo_2 _ _ _ _ _ _ _) (fun r17 _u67 hq H locs G => ?_)
      have h := hq
      refine lv_i2l E.ex E.by dX8_solveExpected_70 rfl ?_
      refine lv_lmul E.ex E.by dX8_solveExpected_71 ?_
      refine k_cVv (X := ((wMo kc am ac ae σ) : va_W)) (w := (wE kc ae u15)) (Z := ((wC kc ac κ) : va_W)) (wnew := (fun u : US => (xMo kc am ae ac σ u κ))) (As := [.int t4.1, .long ((r16.toInt64) * (r17.toInt64))]) (rest := []) E (xMo_1 _ _ _ _ _ _ _) G (c_X3_putRight l D kc _ _ _ _ _ h) gX8_solveExpected_X3_putRight rfl ⟨rfl, rfl⟩ hd_X3_putRight_v ⟨rfl, rfl⟩ 0 (gE_0 _ _ _) rfl rfl hl rfl rfl dX8_solveExpected_72 ⟨rfl, rfl⟩ (fun _ => xMo_1 _ _ _ _ _ _ _) (fun u18 hq H locs G => ?_)
      have h := hq
      refine lv_iinc (k := 3) (v := t4.1 + 1) (lv' := [(3, .int (t4.1 + 1)), (0, .ref (am 0)), (1, .int p1), (2, .int r2)]) E.ex E.by dX8_solveExpected_75 hl rfl (k_inc1 _) (by decide) rfl (fun ls hl => ?_)
      refine lv_goto (tgt := 25) E.ex E.by dX8_solveExpected_78 (by decide) ?_
      exact IH25 _ h _ _ _ G (lv_sub hl [1, 2, 3, 0] rfl)
theorem wi_X8_solveFlow_X8 : ∀ w ∈ wsX80, w ∈ wsX8_solveFlow := fun w h => List.mem_cons_of_mem _ (List.mem_append_left _ (List.mem_append_left _ (List.mem_append_right _ (h))))
theorem fl_X8_solveFlow_X8_1 : Cond.fieldLink RX8 12 (TX8 1).1 (TX8 1).2.1 (TX8 1).2.2.1 ∈ wsX8_solveFlow := List.mem_of_getElem? (i := 1) (by decide +kernel)
theorem fl_X8_solveFlow_X8_0 : Cond.fieldLink RX8 31 (TX8 0).1 (TX8 0).2.1 (TX8 0).2.2.1 ∈ wsX8_solveFlow := List.mem_of_getElem? (i := 2) (by decide +kernel)
theorem li_X8_solveFlow_X11 : Cond.initialized RX11 ∈ wsX8_solveFlow := List.mem_of_getElem? (i := 18) (by decide +kernel)
theorem ls_X8_solveFlow_X11_contains : Cond.static yX11_contains ∈ wsX8_solveFlow := List.mem_of_getElem? (i := 17) (by decide +kernel)
def wp_X8_solveFlow_L52 (v1 : Int32) (v2 : Int32) (v3 : Int32) (σ : US) (κ : US) (P9 : (Int32 × US) → Prop) (Q : US → Prop) (P52 : (Int32 × US) → Prop) (t52 : Int32 × US) : Prop := (8 ≤ t52.1 → P9 (v3 + 1, t52.2)) ∧ (¬ 8 ≤ t52.1 → wp_X11_contains v1 t52.1 (fun (r7 : Int32) => (r7 = 0 → P52 (t52.1 + 1, t52.2)) ∧ (¬ r7 = 0 → wp_X2_stepWeight t52.1 v3 κ (fun (r8 : Int32) => wp_X3_add v3 t52.1 ((-r8).toInt64) t52.2 (fun (u9 : US) => P52 (t52.1 + 1, u9))))))
def wp_X8_solveFlow_L9 (v1 : Int32) (v2 : Int32) (σ : US) (κ : US) (Q : US → Prop) (P9 : (Int32 × US) → Prop) (t9 : Int32 × US) : Prop := (8 ≤ t9.1 → wp_X3_putRight v2 1 t9.2 (fun (u2 : US) => wp_X3_solve u2 (fun (u3 : US) => Q u3))) ∧ (¬ 8 ≤ t9.1 → wp_X11_contains v1 t9.1 (fun (r4 : Int32) => (r4 = 0 → P9 (t9.1 + 1, t9.2)) ∧ (¬ r4 = 0 → (¬ t9.1 = v2 → wp_X2_divisorOf t9.1 κ (fun (r5 : Int32) => wp_X3_put t9.1 t9.1 (r5.toInt64) t9.2 (fun (u6 : US) => lpW (wp_X8_solveFlow_L52 v1 v2 t9.1 σ κ P9 Q) (0, u6)))) ∧ (t9.1 = v2 → P9 (t9.1 + 1, t9.2)))))
def wp_X8_solveFlow (p1 : Int32) (p2 : Int32) (σ : US) (ε : US) (κ : US) (Q : US → Prop) : Prop := wp_X3_clear ε (fun (u1 : US) => lpW (wp_X8_solveFlow_L9 p1 p2 σ κ Q) (0, u1))
set_option maxRecDepth 100000 in
set_option maxHeartbeats 4000000 in
theorem c_X8_solveFlow (l : Launch) (D : va_G) (kc : Nat → ClassId) (am : Nat → Nat) (ae : Nat → Nat) (ac : Nat → Nat) (p1 : Int32) (p2 : Int32) (σ : US) (ε : US) (κ : US) (Q : US → Prop) (h : wp_X8_solveFlow p1 p2 σ ε κ Q) : kCv l D (tyL kc) yX8_solveFlow wsX8_solveFlow ({ frames := 3, cells := 0, slots := 0, locals := 78 } : Room) [.ref (am 0), .int p1, .int p2] (xMo kc am ae ac σ ε κ) (fun u : US => (xMo kc am ae ac σ u κ)) 0 0 (fun u => Q u) := by
  intro sz
  refine k_begin (cc := cX8_solveFlow) (maxL := 5) (ret := none) (by decide +kernel) rfl rfl (fun p e s m args below meth c hsz E G ls hl => ?_)
  subst hsz
  have hl : lv_has ls 5 [(0, .ref (am 0)), (1, .int p1), (2, .int p2)] := hl
  refine lv_aload_n E.ex E.by dX8_solveFlow_0 rfl (lv_at hl 0 rfl) ?_
  refine k_get E G wi_X8_solveFlow_X8 0 (gMo_0 _ _ _ _ _ _ _) rfl 1 rfl fl_X8_solveFlow_X8_1 (v := .ref (ae 0)) rfl dX8_solveFlow_1 ?_
  refine k_cVv (X := ((wMo kc am ac ae σ) : va_W)) (w := (wE kc ae ε)) (Z := ((wC kc ac κ) : va_W)) (wnew := (fun u : US => (xMo kc am ae ac σ u κ))) (As := []) (rest := []) E (xMo_1 _ _ _ _ _ _ _) G (c_X3_clear l D kc _ _ _ h) gX8_solveFlow_X3_clear rfl ⟨rfl, rfl⟩ hd_X3_clear_v ⟨rfl, rfl⟩ 0 (gE_0 _ _ _) rfl rfl hl rfl rfl dX8_solveFlow_4 ⟨rfl, rfl⟩ (fun _ => xMo_1 _ _ _ _ _ _ _) (fun u1 hq H locs G => ?_)
  have h := hq
  refine lv_iconst (v := 0) E.ex E.by dX8_solveFlow_7 (by decide) ?_
  refine lv_istore_n (lv' := [(3, .int 0), (0, .ref (am 0)), (1, .int p1), (2, .int p2)]) E.ex E.by dX8_solveFlow_8 rfl hl (by decide) rfl (fun ls hl => ?_)
  refine lpW_ind (fun t2 : Int32 × US => ∀ (H : Heap) (locs : List Loc) (ls : Array Slot), kG D (va_A (xMo kc am ae ac σ ε κ) s.heap.size) s (xMo kc am ae ac σ t2.2 κ) H locs → lv_has ls 5 [(0, .ref (am 0)), (1, .int p1), (2, .int p2), (3, .int t2.1)] → W p l e _ s m args below meth c H locs _ _ _ (F0 m 9 ls [])) (fun P9 IH9 t2 h H locs ls G hl => ?_) _ h _ _ _ G (lv_sub hl [1, 2, 3, 0] rfl)
  refine lv_iload_n E.ex E.by dX8_solveFlow_9 rfl (lv_at hl 3 rfl) ?_
  refine lv_bipush (v := 8) E.ex E.by dX8_solveFlow_10 (by decide) ?_
  refine lv_icmp_ge (tgt := 102) E.ex E.by dX8_solveFlow_12 (by decide) (fun hc16 => ?_) (fun hc16 => ?_)
  · have h := h.1 hc16
    refine lv_aload_n E.ex E.by dX8_solveFlow_102 rfl (lv_at hl 0 rfl) ?_
    refine k_get E G wi_X8_solveFlow_X8 0 (gMo_0 _ _ _ _ _ _ _) rfl 1 rfl fl_X8_solveFlow_X8_1 (v := .ref (ae 0)) rfl dX8_solveFlow_103 ?_
    refine lv_iload_n E.ex E.by dX8_solveFlow_106 rfl (lv_at hl 2 rfl) ?_
    refine lv_lconst (v := 1) E.ex E.by dX8_solveFlow_107 (by decide) ?_
    refine k_cVv (X := ((wMo kc am ac ae σ) : va_W)) (w := (wE kc ae t2.2)) (Z := ((wC kc ac κ) : va_W)) (wnew := (fun u : US => (xMo kc am ae ac σ u κ))) (As := [.int p2, .long 1]) (rest := []) E (xMo_1 _ _ _ _ _ _ _) G (c_X3_putRight l D kc _ _ _ _ _ h) gX8_solveFlow_X3_putRight rfl ⟨rfl, rfl⟩ hd_X3_putRight_v ⟨rfl, rfl⟩ 0 (gE_0 _ _ _) rfl rfl hl rfl rfl dX8_solveFlow_108 ⟨rfl, rfl⟩ (fun _ => xMo_1 _ _ _ _ _ _ _) (fun u3 hq H locs G => ?_)
    have h := hq
    refine lv_aload_n E.ex E.by dX8_solveFlow_111 rfl (lv_at hl 0 rfl) ?_
    refine k_get E G wi_X8_solveFlow_X8 0 (gMo_0 _ _ _ _ _ _ _) rfl 1 rfl fl_X8_solveFlow_X8_1 (v := .ref (ae 0)) rfl dX8_solveFlow_112 ?_
    refine k_cVv (X := ((wMo kc am ac ae σ) : va_W)) (w := (wE kc ae u3)) (Z := ((wC kc ac κ) : va_W)) (wnew := (fun u : US => (xMo kc am ae ac σ u κ))) (As := []) (rest := []) E (xMo_1 _ _ _ _ _ _ _) G (c_X3_solve l D kc _ _ _ h) gX8_solveFlow_X3_solve rfl ⟨rfl, rfl⟩ hd_X3_solve_v ⟨rfl, rfl⟩ 0 (gE_0 _ _ _) rfl rfl hl rfl rfl dX8_solveFlow_115 ⟨rfl, rfl⟩ (fun _ => xMo_1 _ _ _ _ _ _ _) (fun u4 hq H locs G => ?_)
    have h := hq
    exact k_retv (wof := (fun u : US => (xMo kc am ae ac σ u κ))) (u := u4) E G h (Nat.le_of_ble_eq_true rfl) (Nat.le_of_ble_eq_true rfl) dX8_solveFlow_118
  · have h := h.2 hc16
    refine lv_iload_n E.ex E.by dX8_solveFlow_15 rfl (lv_at hl 1 rfl) ?_
    refine lv_iload_n E.ex E.by dX8_solveFlow_16 rfl (lv_at hl 3 rfl) ?_
    refine k_cSNi (X := (xMo kc am ae ac σ t2.2 κ)) (w := []) (Z := []) (wnew := (fun _ : Unit => (xMo kc am ae ac σ t2.2 κ))) (As := [.int p1, .int t2.1]) (rest := []) E (List.append_nil _).symm G (c_X11_contains l D kc _ _ _ h) gX8_solveFlow_X11_contains_n74 (by decide +kernel) li_X8_solveFlow_X11 ls_X8_solveFlow_X11_contains rfl ⟨rfl, rfl⟩ hd_X11_contains_n ⟨rfl, rfl⟩ rfl hl rfl rfl dX8_solveFlow_17 ⟨rfl, rfl⟩ (fun _ => (List.append_nil _).symm) (fun r5 _u17 hq H locs G => ?_)
    have h := hq
    refine lv_if_eq (tgt := 96) E.ex E.by dX8_solveFlow_20 (by decide) (fun hc15 => ?_) (fun hc15 => ?_)
    · have h := h.1 hc15
      refine lv_iinc (k := 3) (v := t2.1 + 1) (lv' := [(3, .int (t2.1 + 1)), (0, .ref (am 0)), (1, .int p1), (2, .int p2)]) E.ex E.by dX8_solveFlow_96 hl rfl (k_inc1 _) (by decide) rfl (fun ls hl => ?_)
      refine lv_goto (tgt := 9) E.ex E.by dX8_solveFlow_99 (by decide) ?_
      exact IH9 _ h _ _ _ G (lv_sub hl [1, 2, 3, 0] rfl)
    · have h := h.2 hc15
      refine lv_iload_n E.ex E.by dX8_solveFlow_23 rfl (lv_at hl 3 rfl) ?_
      refine lv_iload_n E.ex E.by dX8_solveFlow_24 rfl (lv_at hl 2 rfl) ?_
      refine lv_icmp_ne (tgt := 31) E.ex E.by dX8_solveFlow_25 (by decide) (fun hc14 => ?_) (fun hc14 => ?_)
      · have h := h.1 hc14
        refine lv_aload_n E.ex E.by dX8_solveFlow_31 rfl (lv_at hl 0 rfl) ?_
        refine k_get E G wi_X8_solveFlow_X8 0 (gMo_0 _ _ _ _ _ _ _) rfl 1 rfl fl_X8_solveFlow_X8_1 (v := .ref (ae 0)) rfl dX8_solveFlow_32 ?_
        refine lv_iload_n E.ex E.by dX8_solveFlow_35 rfl (lv_at hl 3 rfl) ?_
        refine lv_iload_n E.ex E.by dX8_solveFlow_36 rfl (lv_at hl 3 rfl) ?_
        refine lv_aload_n E.ex E.by dX8_solveFlow_37 rfl (lv_at hl 0 rfl) ?_
        refine k_get E G wi_X8_solveFlow_X8 0 (gMo_0 _ _ _ _ _ _ _) rfl 0 rfl fl_X8_solveFlow_X8_0 (v := .ref (ac 0)) rfl dX8_solveFlow_38 ?_
        refine lv_iload_n E.ex E.by dX8_solveFlow_41 rfl (lv_at hl 3 rfl) ?_
        refine k_cVi (X := ((wMo kc am ac ae σ) ++ (wE kc ae t2.2) : va_W)) (w := (wC kc ac κ)) (Z := ([] : va_W)) (wnew := (fun _ : Unit => (xMo kc am ae ac σ t2.2 κ))) (As := [.int t2.1]) (rest := [.int t2.1, .int t2.1, .ref (ae 0)]) E (xMo_2 _ _ _ _ _ _ _) G (c_X2_divisorOf l D kc _ _ _ _ h) gX8_solveFlow_X2_divisorOf rfl ⟨rfl, rfl⟩ hd_X2_divisorOf_v ⟨rfl, rfl⟩ 0 (gC_0 _ _ _) rfl rfl hl rfl rfl dX8_solveFlow_42 ⟨rfl, rfl⟩ (fun _ => xMo_2 _ _ _ _ _ _ _) (fun r6 _u42 hq H locs G => ?_)
        have h := hq
        refine lv_i2l E.ex E.by dX8_solveFlow_45 rfl ?_
        refine k_cVv (X := ((wMo kc am ac ae σ) : va_W)) (w := (wE kc ae t2.2)) (Z := ((wC kc ac κ) : va_W)) (wnew := (fun u : US => (xMo kc am ae ac σ u κ))) (As := [.int t2.1, .int t2.1, .long (r6.toInt64)]) (rest := []) E (xMo_1 _ _ _ _ _ _ _) G (c_X3_put l D kc _ _ _ _ _ _ h) gX8_solveFlow_X3_put rfl ⟨rfl, rfl⟩ hd_X3_put_v ⟨rfl, rfl⟩ 0 (gE_0 _ _ _) rfl rfl hl rfl rfl dX8_solveFlow_46 ⟨rfl, rfl⟩ (fun _ => xMo_1 _ _ _ _ _ _ _) (fun u7 hq H locs G => ?_)
        have h := hq
        refine lv_iconst (v := 0) E.ex E.by dX8_solveFlow_49 (by decide) ?_
        refine lv_istore (lv' := [(4, .int 0), (0, .ref (am 0)), (1, .int p1), (2, .int p2), (3, .int t2.1)]) E.ex E.by dX8_solveFlow_50 hl (by decide) rfl (fun ls hl => ?_)
        refine lpW_ind (fun t8 : Int32 × US => ∀ (H : Heap) (locs : List Loc) (ls : Array Slot), kG D (va_A (xMo kc am ae ac σ ε κ) s.heap.size) s (xMo kc am ae ac σ t8.2 κ) H locs → lv_has ls 5 [(0, .ref (am 0)), (1, .int p1), (2, .int p2), (3, .int t2.1), (4, .int t8.1)] → W p l e _ s m args below meth c H locs _ _ _ (F0 m 52 ls [])) (fun P52 IH52 t8 h H locs ls G hl => ?_) _ h _ _ _ G (lv_sub hl [1, 2, 3, 4, 0] rfl)
        refine lv_iload E.ex E.by dX8_solveFlow_52 (lv_at hl 4 rfl) ?_
        refine lv_bipush (v := 8) E.ex E.by dX8_solveFlow_54 (by decide) ?_
        refine lv_icmp_ge (tgt := 96) E.ex E.by dX8_solveFlow_56 (by decide) (fun hc13 => ?_) (fun hc13 => ?_)
        · have h := h.1 hc13
          refine lv_iinc (k := 3) (v := t2.1 + 1) (lv' := [(3, .int (t2.1 + 1)), (0, .ref (am 0)), (1, .int p1), (2, .int p2), (4, .int t8.1)]) E.ex E.by dX8_solveFlow_96 hl rfl (k_inc1 _) (by decide) rfl (fun ls hl => ?_)
          refine lv_goto (tgt := 9) E.ex E.by dX8_solveFlow_99 (by decide) ?_
          exact IH9 _ h _ _ _ G (lv_sub hl [1, 2, 3, 0] rfl)
        · have h := h.2 hc13
          refine lv_iload_n E.ex E.by dX8_solveFlow_59 rfl (lv_at hl 1 rfl) ?_
          refine lv_iload E.ex E.by dX8_solveFlow_60 (lv_at hl 4 rfl) ?_
          refine k_cSNi (X := (xMo kc am ae ac σ t8.2 κ)) (w := []) (Z := []) (wnew := (fun _ : Unit => (xMo kc am ae ac σ t8.2 κ))) (As := [.int p1, .int t8.1]) (rest := []) E (List.append_nil _).symm G (c_X11_contains l D kc _ _ _ h) gX8_solveFlow_X11_contains_n74 (by decide +kernel) li_X8_solveFlow_X11 ls_X8_solveFlow_X11_contains rfl ⟨rfl, rfl⟩ hd_X11_contains_n ⟨rfl, rfl⟩ rfl hl rfl rfl dX8_solveFlow_62 ⟨rfl, rfl⟩ (fun _ => (List.append_nil _).symm) (fun r9 _u62 hq H locs G => ?_)
          have h := hq
          refine lv_if_eq (tgt := 90) E.ex E.by dX8_solveFlow_65 (by decide) (fun hc12 => ?_) (fun hc12 => ?_)
          · have h := h.1 hc12
            refine lv_iinc (k := 4) (v := t8.1 + 1) (lv' := [(4, .int (t8.1 + 1)), (0, .ref (am 0)), (1, .int p1), (2, .int p2), (3, .int t2.1)]) E.ex E.by dX8_solveFlow_90 hl rfl (k_inc1 _) (by decide) rfl (fun ls hl => ?_)
            refine lv_goto (tgt := 52) E.ex E.by dX8_solveFlow_93 (by decide) ?_
            exact IH52 _ h _ _ _ G (lv_sub hl [1, 2, 3, 4, 0] rfl)
          · have h := h.2 hc12
            refine lv_aload_n E.ex E.by dX8_solveFlow_68 rfl (lv_at hl 0 rfl) ?_
            refine k_get E G wi_X8_solveFlow_X8 0 (gMo_0 _ _ _ _ _ _ _) rfl 1 rfl fl_X8_solveFlow_X8_1 (v := .ref (ae 0)) rfl dX8_solveFlow_69 ?_
            refine lv_iload_n E.ex E.by dX8_solveFlow_72 rfl (lv_at hl 3 rfl) ?_
            refine lv_iload E.ex E.by dX8_solveFlow_73 (lv_at hl 4 rfl) ?_
            refine lv_aload_n E.ex E.by dX8_solveFlow_75 rfl (lv_at hl 0 rfl) ?_
            refine k_get E G wi_X8_solveFlow_X8 0 (gMo_0 _ _ _ _ _ _ _) rfl 0 rfl fl_X8_solveFlow_X8_0 (v := .ref (ac 0)) rfl dX8_solveFlow_76 ?_
            refine lv_iload E.ex E.by dX8_solveFlow_79 (lv_at hl 4 rfl) ?_
            refine lv_iload_n E.ex E.by dX8_solveFlow_81 rfl (lv_at hl 3 rfl) ?_
            refine k_cVi (X := ((wMo kc am ac ae σ) ++ (wE kc ae t8.2) : va_W)) (w := (wC kc ac κ)) (Z := ([] : va_W)) (wnew := (fun _ : Unit => (xMo kc am ae ac σ t8.2 κ))) (As := [.int t8.1, .int t2.1]) (rest := [.int t8.1, .int t2.1, .ref (ae 0)]) E (xMo_2 _ _ _ _ _ _ _) G (c_X2_stepWeight l D kc _ _ _ _ _ h) gX8_solveFlow_X2_stepWeight rfl ⟨rfl, rfl⟩ hd_X2_stepWeight_v ⟨rfl, rfl⟩ 0 (gC_0 _ _ _) rfl rfl hl rfl rfl dX8_solveFlow_82 ⟨rfl, rfl⟩ (fun _ => xMo_2 _ _ _ _ _ _ _) (fun r10 _u82 hq H locs G => ?_)
            have h := hq
            refine lv_ineg E.ex E.by dX8_solveFlow_85 ?_
            refine lv_i2l E.ex E.by dX8_solveFlow_86 rfl ?_
            refine k_cVv (X := ((wMo kc am ac ae σ) : va_W)) (w := (wE kc ae t8.2)) (Z := ((wC kc ac κ) : va_W)) (wnew := (fun u : US => (xMo kc am ae ac σ u κ))) (As := [.int t2.1, .int t8.1, .long ((-r10).toInt64)]) (rest := []) E (xMo_1 _ _ _ _ _ _ _) G (c_X3_add l D kc _ _ _ _ _ _ h) gX8_solveFlow_X3_add rfl ⟨rfl, rfl⟩ hd_X3_add_v ⟨rfl, rfl⟩ 0 (gE_0 _ _ _) rfl rfl hl rfl rfl dX8_solveFlow_87 ⟨rfl, rfl⟩ (fun _ => xMo_1 _ _ _ _ _ _ _) (fun u11 hq H locs G => ?_)
            have h := hq
            refine lv_iinc (k := 4) (v := t8.1 + 1) (lv' := [(4, .int (t8.1 + 1)), (0, .ref (am 0)), (1, .int p1), (2, .int p2), (3, .int t2.1)]) E.ex E.by dX8_solveFlow_90 hl rfl (k_inc1 _) (by decide) rfl (fun ls hl => ?_)
            refine lv_goto (tgt := 52) E.ex E.by dX8_solveFlow_93 (by decide) ?_
            exact IH52 _ h _ _ _ G (lv_sub hl [1, 2, 3, 4, 0] rfl)
      · have h := h.2 hc14
        refine lv_goto (tgt := 96) E.ex E.by dX8_solveFlow_28 (by decide) ?_
        refine lv_iinc (k := 3) (v := t2.1 + 1) (lv' := [(3, .int (t2.1 + 1)), (0, .ref (am 0)), (1, .int p1), (2, .int p2)]) E.ex E.by dX8_solveFlow_96 hl rfl (k_inc1 _) (by decide) rfl (fun ls hl => ?_)
        refine lv_goto (tgt := 9) E.ex E.by dX8_solveFlow_99 (by decide) ?_
        exact IH9 _ h _ _ _ G (lv_sub hl [1, 2, 3, 0] rfl)
theorem li_X8_shareOut_X11 : Cond.initialized RX11 ∈ wsX8_shareOut := List.mem_of_getElem? (i := 4) (by decide +kernel)
theorem ls_X8_shareOut_X11_contains : Cond.static yX11_contains ∈ wsX8_shareOut := List.mem_of_getElem? (i := 3) (by decide +kernel)
theorem wi_X8_shareOut_X8 : ∀ w ∈ wsX80, w ∈ wsX8_shareOut := fun w h => List.mem_cons_of_mem _ (List.mem_append_left _ (List.mem_append_left _ (List.mem_append_right _ (h))))
theorem fl_X8_shareOut_X8_0 : Cond.fieldLink RX8 31 (TX8 0).1 (TX8 0).2.1 (TX8 0).2.2.1 ∈ wsX8_shareOut := List.mem_of_getElem? (i := 1) (by decide +kernel)
theorem fl_X8_shareOut_X8_1 : Cond.fieldLink RX8 12 (TX8 1).1 (TX8 1).2.1 (TX8 1).2.2.1 ∈ wsX8_shareOut := List.mem_of_getElem? (i := 2) (by decide +kernel)
def wp_X8_shareOut_L80 (v1 : Int32) (v3 : Int64) (v5 : Int64) (ε : US) (κ : US) (P8 : (Int64 × Int64 × Int32) → Prop) (Q : US → Prop) (P80 : (Int32 × US) → Prop) (t80 : Int32 × US) : Prop := (8 ≤ t80.1 → Q t80.2) ∧ (¬ 8 ≤ t80.1 → wp_X11_contains v1 t80.1 (fun (r1 : Int32) => (r1 = 0 → P80 (t80.1 + 1, t80.2)) ∧ (¬ r1 = 0 → wp_X8_put t80.1 v3 v5 t80.2 ε κ (fun (u2 : US) => P80 (t80.1 + 1, u2)))))
def wp_X8_shareOut_L8 (v1 : Int32) (v2 : Int32) (σ' : US) (ε : US) (κ : US) (Q : US → Prop) (P8 : (Int64 × Int64 × Int32) → Prop) (t8 : Int64 × Int64 × Int32) : Prop := (8 ≤ t8.2.2 → lpW (wp_X8_shareOut_L80 v1 t8.1 t8.2.1 ε κ P8 Q) (0, σ')) ∧ (¬ 8 ≤ t8.2.2 → wp_X11_contains v1 t8.2.2 (fun (r10 : Int32) => (r10 = 0 → P8 (t8.1, t8.2.1, t8.2.2 + 1)) ∧ (¬ r10 = 0 → wp_X2_divisorOf t8.2.2 κ (fun (r11 : Int32) => wp_X3_solution t8.2.2 ε (fun (r12 : Int64) => ∀ x13 : Int64, x13 = (r11.toInt64) * r12 → ∀ x14 : Int64, x14 = t8.2.1 + x13 → wp_X11_contains v2 t8.2.2 (fun (r15 : Int32) => (r15 = 0 → ∀ x16 : Int64, x16 = t8.1 + 0 → P8 (x16, x14, t8.2.2 + 1)) ∧ (¬ r15 = 0 → ∀ x17 : Int64, x17 = t8.1 + x13 → P8 (x17, x14, t8.2.2 + 1))))))))
def wp_X8_shareOut (p1 : Int32) (p2 : Int32) (σ : US) (ε : US) (κ : US) (Q : US → Prop) : Prop := lpW (wp_X8_shareOut_L8 p1 p2 σ ε κ Q) (0, 0, 0)
set_option maxRecDepth 100000 in
set_option maxHeartbeats 4000000 in
theorem c_X8_shareOut (l : Launch) (D : va_G) (kc : Nat → ClassId) (am : Nat → Nat) (ae : Nat → Nat) (ac : Nat → Nat) (p1 : Int32) (p2 : Int32) (σ : US) (ε : US) (κ : US) (Q : US → Prop) (h : wp_X8_shareOut p1 p2 σ ε κ Q) : kCv l D (tyL kc) yX8_shareOut wsX8_shareOut ({ frames := 3, cells := 0, slots := 0, locals := 68 } : Room) [.ref (am 0), .int p1, .int p2] (xMo kc am ae ac σ ε κ) (fun u : US => (xMo kc am ae ac u ε κ)) 0 0 (fun u => Q u) := by
  intro sz
  refine k_begin (cc := cX8_shareOut) (maxL := 10) (ret := none) (by decide +kernel) rfl rfl (fun p e s m args below meth c hsz E G ls hl => ?_)
  subst hsz
  have hl : lv_has ls 10 [(0, .ref (am 0)), (1, .int p1), (2, .int p2)] := hl
  refine lv_lconst (v := 0) E.ex E.by dX8_shareOut_0 (by decide) ?_
  refine lv_lstore_n (lv' := [(3, .long 0), (0, .ref (am 0)), (1, .int p1), (2, .int p2)]) E.ex E.by dX8_shareOut_1 rfl hl (by decide) rfl (fun ls hl => ?_)
  refine lv_lconst (v := 0) E.ex E.by dX8_shareOut_2 (by decide) ?_
  refine lv_lstore (lv' := [(5, .long 0), (3, .long 0), (0, .ref (am 0)), (1, .int p1), (2, .int p2)]) E.ex E.by dX8_shareOut_3 hl (by decide) rfl (fun ls hl => ?_)
  refine lv_iconst (v := 0) E.ex E.by dX8_shareOut_5 (by decide) ?_
  refine lv_istore (lv' := [(7, .int 0), (5, .long 0), (3, .long 0), (0, .ref (am 0)), (1, .int p1), (2, .int p2)]) E.ex E.by dX8_shareOut_6 hl (by decide) rfl (fun ls hl => ?_)
  refine lpW_ind (fun t1 : Int64 × Int64 × Int32 => ∀ (H : Heap) (locs : List Loc) (ls : Array Slot), kG D (va_A (xMo kc am ae ac σ ε κ) s.heap.size) s (xMo kc am ae ac σ ε κ) H locs → lv_has ls 10 [(0, .ref (am 0)), (1, .int p1), (2, .int p2), (3, .long t1.1), (5, .long t1.2.1), (7, .int t1.2.2)] → W p l e _ s m args below meth c H locs _ _ _ (F0 m 8 ls [])) (fun P8 IH8 t1 h H locs ls G hl => ?_) _ h _ _ _ G (lv_sub hl [3, 4, 5, 2, 1, 0] rfl)
  refine lv_iload E.ex E.by dX8_shareOut_8 (lv_at hl 5 rfl) ?_
  refine lv_bipush (v := 8) E.ex E.by dX8_shareOut_10 (by decide) ?_
  refine lv_icmp_ge (tgt := 77) E.ex E.by dX8_shareOut_12 (by decide) (fun hc17 => ?_) (fun hc17 => ?_)
  · have h := h.1 hc17
    refine lv_iconst (v := 0) E.ex E.by dX8_shareOut_77 (by decide) ?_
    refine lv_istore (lv' := [(7, .int 0), (0, .ref (am 0)), (1, .int p1), (2, .int p2), (3, .long t1.1), (5, .long t1.2.1)]) E.ex E.by dX8_shareOut_78 hl (by decide) rfl (fun ls hl => ?_)
    refine lpW_ind (fun t2 : Int32 × US => ∀ (H : Heap) (locs : List Loc) (ls : Array Slot), kG D (va_A (xMo kc am ae ac σ ε κ) s.heap.size) s (xMo kc am ae ac t2.2 ε κ) H locs → lv_has ls 10 [(0, .ref (am 0)), (1, .int p1), (3, .long t1.1), (5, .long t1.2.1), (7, .int t2.1)] → W p l e _ s m args below meth c H locs _ _ _ (F0 m 80 ls [])) (fun P80 IH80 t2 h H locs ls G hl => ?_) _ h _ _ _ G (lv_sub hl [1, 2, 4, 5, 0] rfl)
    refine lv_iload E.ex E.by dX8_shareOut_80 (lv_at hl 4 rfl) ?_
    refine lv_bipush (v := 8) E.ex E.by dX8_shareOut_82 (by decide) ?_
    refine lv_icmp_ge (tgt := 111) E.ex E.by dX8_shareOut_84 (by decide) (fun hc6 => ?_) (fun hc6 => ?_)
    · have h := h.1 hc6
      exact k_retv (wof := (fun u : US => (xMo kc am ae ac u ε κ))) (u := t2.2) E G h (Nat.le_of_ble_eq_true rfl) (Nat.le_of_ble_eq_true rfl) dX8_shareOut_111
    · have h := h.2 hc6
      refine lv_iload_n E.ex E.by dX8_shareOut_87 rfl (lv_at hl 1 rfl) ?_
      refine lv_iload E.ex E.by dX8_shareOut_88 (lv_at hl 4 rfl) ?_
      refine k_cSNi (X := (xMo kc am ae ac t2.2 ε κ)) (w := []) (Z := []) (wnew := (fun _ : Unit => (xMo kc am ae ac t2.2 ε κ))) (As := [.int p1, .int t2.1]) (rest := []) E (List.append_nil _).symm G (c_X11_contains l D kc _ _ _ h) gX8_shareOut_X11_contains_n74 (by decide +kernel) li_X8_shareOut_X11 ls_X8_shareOut_X11_contains rfl ⟨rfl, rfl⟩ hd_X11_contains_n ⟨rfl, rfl⟩ rfl hl rfl rfl dX8_shareOut_90 ⟨rfl, rfl⟩ (fun _ => (List.append_nil _).symm) (fun r3 _u90 hq H locs G => ?_)
      have h := hq
      refine lv_if_eq (tgt := 105) E.ex E.by dX8_shareOut_93 (by decide) (fun hc5 => ?_) (fun hc5 => ?_)
      · have h := h.1 hc5
        refine lv_iinc (k := 4) (v := t2.1 + 1) (lv' := [(7, .int (t2.1 + 1)), (0, .ref (am 0)), (1, .int p1), (3, .long t1.1), (5, .long t1.2.1)]) E.ex E.by dX8_shareOut_105 hl rfl (k_inc1 _) (by decide) rfl (fun ls hl => ?_)
        refine lv_goto (tgt := 80) E.ex E.by dX8_shareOut_108 (by decide) ?_
        exact IH80 _ h _ _ _ G (lv_sub hl [1, 2, 3, 4, 0] rfl)
      · have h := h.2 hc5
        refine lv_aload_n E.ex E.by dX8_shareOut_96 rfl (lv_at hl 0 rfl) ?_
        refine lv_iload E.ex E.by dX8_shareOut_97 (lv_at hl 4 rfl) ?_
        refine lv_lload_n E.ex E.by dX8_shareOut_99 rfl (lv_at hl 2 rfl) ?_
        refine lv_lload E.ex E.by dX8_shareOut_100 (lv_at hl 3 rfl) ?_
        refine k_cVv (X := []) (w := (xMo kc am ae ac t2.2 ε κ)) (Z := []) (wnew := (fun u : US => (xMo kc am ae ac u ε κ))) (As := [.int t2.1, .long t1.1, .long t1.2.1]) (rest := []) E (List.append_nil _).symm G (c_X8_put l D kc _ _ _ _ _ _ _ _ _ _ h) gX8_shareOut_X8_put rfl ⟨rfl, rfl⟩ hd_X8_put_v ⟨rfl, rfl⟩ 0 (gMo_0 _ _ _ _ _ _ _) rfl rfl hl rfl rfl dX8_shareOut_102 ⟨rfl, rfl⟩ (fun _ => (List.append_nil _).symm) (fun u4 hq H locs G => ?_)
        have h := hq
        refine lv_iinc (k := 4) (v := t2.1 + 1) (lv' := [(7, .int (t2.1 + 1)), (0, .ref (am 0)), (1, .int p1), (3, .long t1.1), (5, .long t1.2.1)]) E.ex E.by dX8_shareOut_105 hl rfl (k_inc1 _) (by decide) rfl (fun ls hl => ?_)
        refine lv_goto (tgt := 80) E.ex E.by dX8_shareOut_108 (by decide) ?_
        exact IH80 _ h _ _ _ G (lv_sub hl [1, 2, 3, 4, 0] rfl)
  · have h := h.2 hc17
    refine lv_iload_n E.ex E.by dX8_shareOut_15 rfl (lv_at hl 1 rfl) ?_
    refine lv_iload E.ex E.by dX8_shareOut_16 (lv_at hl 5 rfl) ?_
    refine k_cSNi (X := (xMo kc am ae ac σ ε κ)) (w := []) (Z := []) (wnew := (fun _ : Unit => (xMo kc am ae ac σ ε κ))) (As := [.int p1, .int t1.2.2]) (rest := []) E (List.append_nil _).symm G (c_X11_contains l D kc _ _ _ h) gX8_shareOut_X11_contains_n74 (by decide +kernel) li_X8_shareOut_X11 ls_X8_shareOut_X11_contains rfl ⟨rfl, rfl⟩ hd_X11_contains_n ⟨rfl, rfl⟩ rfl hl rfl rfl dX8_shareOut_18 ⟨rfl, rfl⟩ (fun _ => (List.append_nil _).symm) (fun r7 _u18 hq H locs G => ?_)
    have h := hq
    refine lv_if_eq (tgt := 71) E.ex E.by dX8_shareOut_21 (by decide) (fun hc16 => ?_) (fun hc16 => ?_)
    · have h := h.1 hc16
      refine lv_iinc (k := 5) (v := t1.2.2 + 1) (lv' := [(7, .int (t1.2.2 + 1)), (0, .ref (am 0)), (1, .int p1), (2, .int p2), (3, .long t1.1), (5, .long t1.2.1)]) E.ex E.by dX8_shareOut_71 hl rfl (k_inc1 _) (by decide) rfl (fun ls hl => ?_)
      refine lv_goto (tgt := 8) E.ex E.by dX8_shareOut_74 (by decide) ?_
      exact IH8 _ h _ _ _ G (lv_sub hl [1, 2, 3, 4, 5, 0] rfl)
    · have h := h.2 hc16
      refine lv_aload_n E.ex E.by dX8_shareOut_24 rfl (lv_at hl 0 rfl) ?_
      refine k_get E G wi_X8_shareOut_X8 0 (gMo_0 _ _ _ _ _ _ _) rfl 0 rfl fl_X8_shareOut_X8_0 (v := .ref (ac 0)) rfl dX8_shareOut_25 ?_
      refine lv_iload E.ex E.by dX8_shareOut_28 (lv_at hl 5 rfl) ?_
      refine k_cVi (X := ((wMo kc am ac ae σ) ++ (wE kc ae ε) : va_W)) (w := (wC kc ac κ)) (Z := ([] : va_W)) (wnew := (fun _ : Unit => (xMo kc am ae ac σ ε κ))) (As := [.int t1.2.2]) (rest := []) E (xMo_2 _ _ _ _ _ _ _) G (c_X2_divisorOf l D kc _ _ _ _ h) gX8_shareOut_X2_divisorOf rfl ⟨rfl, rfl⟩ hd_X2_divisorOf_v ⟨rfl, rfl⟩ 0 (gC_0 _ _ _) rfl rfl hl rfl rfl dX8_shareOut_30 ⟨rfl, rfl⟩ (fun _ => xMo_2 _ _ _ _ _ _ _) (fun r8 _u30 hq H locs G => ?_)
      have h := hq
      refine lv_i2l E.ex E.by dX8_shareOut_33 rfl ?_
      refine lv_aload_n E.ex E.by dX8_shareOut_34 rfl (lv_at hl 0 rfl) ?_
      refine k_get E G wi_X8_shareOut_X8 0 (gMo_0 _ _ _ _ _ _ _) rfl 1 rfl fl_X8_shareOut_X8_1 (v := .ref (ae 0)) rfl dX8_shareOut_35 ?_
      refine lv_iload E.ex E.by dX8_shareOut_38 (lv_at hl 5 rfl) ?_
      refine k_cVl (X := ((wMo kc am ac ae σ) : va_W)) (w := (wE kc ae ε)) (Z := ((wC kc ac κ) : va_W)) (wnew := (fun _ : Unit => (xMo kc am ae ac σ ε κ))) (As := [.int t1.2.2]) (rest := [.long (r8.toInt64)]) E (xMo_1 _ _ _ _ _ _ _) G (c_X3_solution l D kc _ _ _ _ h) gX8_shareOut_X3_solution rfl ⟨rfl, rfl⟩ hd_X3_solution_v ⟨rfl, rfl⟩ 0 (gE_0 _ _ _) rfl rfl hl rfl rfl dX8_shareOut_40 ⟨rfl, rfl⟩ (fun _ => xMo_1 _ _ _ _ _ _ _) (fun r9 _u40 hq H locs G => ?_)
      have h := hq
      refine lv_lmul E.ex E.by dX8_shareOut_43 ?_
      refine lv_topl (fun x10 ex10 => ?_)
      have h := h x10 ex10
      refine lv_lstore (lv' := [(8, .long x10), (0, .ref (am 0)), (1, .int p1), (2, .int p2), (3, .long t1.1), (5, .long t1.2.1), (7, .int t1.2.2)]) E.ex E.by dX8_shareOut_44 hl (by decide) rfl (fun ls hl => ?_)
      refine lv_lload E.ex E.by dX8_shareOut_46 (lv_at hl 5 rfl) ?_
      refine lv_lload E.ex E.by dX8_shareOut_48 (lv_at hl 0 rfl) ?_
      refine lv_ladd E.ex E.by dX8_shareOut_50 ?_
      refine lv_topl (fun x11 ex11 => ?_)
      have h := h x11 ex11
      refine lv_lstore (lv' := [(5, .long x11), (8, .long x10), (0, .ref (am 0)), (1, .int p1), (2, .int p2), (3, .long t1.1), (7, .int t1.2.2)]) E.ex E.by dX8_shareOut_51 hl (by decide) rfl (fun ls hl => ?_)
      refine lv_lload_n E.ex E.by dX8_shareOut_53 rfl (lv_at hl 5 rfl) ?_
      refine lv_iload_n E.ex E.by dX8_shareOut_54 rfl (lv_at hl 4 rfl) ?_
      refine lv_iload E.ex E.by dX8_shareOut_55 (lv_at hl 6 rfl) ?_
      refine k_cSNi (X := (xMo kc am ae ac σ ε κ)) (w := []) (Z := []) (wnew := (fun _ : Unit => (xMo kc am ae ac σ ε κ))) (As := [.int p2, .int t1.2.2]) (rest := [.long t1.1]) E (List.append_nil _).symm G (c_X11_contains l D kc _ _ _ h) gX8_shareOut_X11_contains_n74 (by decide +kernel) li_X8_shareOut_X11 ls_X8_shareOut_X11_contains rfl ⟨rfl, rfl⟩ hd_X11_contains_n ⟨rfl, rfl⟩ rfl hl rfl rfl dX8_shareOut_57 ⟨rfl, rfl⟩ (fun _ => (List.append_nil _).symm) (fun r12 _u57 hq H locs G => ?_)
      have h := hq
      refine lv_if_eq (tgt := 68) E.ex E.by dX8_shareOut_60 (by decide) (fun hc15 => ?_) (fun hc15 => ?_)
      · have h := h.1 hc15
        refine lv_lconst (v := 0) E.ex E.by dX8_shareOut_68 (by decide) ?_
        refine lv_ladd E.ex E.by dX8_shareOut_69 ?_
        refine lv_topl (fun x13 ex13 => ?_)
        have h := h x13 ex13
        refine lv_lstore_n (lv' := [(3, .long x13), (5, .long x11), (8, .long x10), (0, .ref (am 0)), (1, .int p1), (2, .int p2), (7, .int t1.2.2)]) E.ex E.by dX8_shareOut_70 rfl hl (by decide) rfl (fun ls hl => ?_)
        refine lv_iinc (k := 6) (v := t1.2.2 + 1) (lv' := [(7, .int (t1.2.2 + 1)), (3, .long x13), (5, .long x11), (8, .long x10), (0, .ref (am 0)), (1, .int p1), (2, .int p2)]) E.ex E.by dX8_shareOut_71 hl rfl (k_inc1 _) (by decide) rfl (fun ls hl => ?_)
        refine lv_goto (tgt := 8) E.ex E.by dX8_shareOut_74 (by decide) ?_
        exact IH8 _ h _ _ _ G (lv_sub hl [4, 5, 6, 1, 2, 0] rfl)
      · have h := h.2 hc15
        refine lv_lload E.ex E.by dX8_shareOut_63 (lv_at hl 1 rfl) ?_
        refine lv_goto (tgt := 69) E.ex E.by dX8_shareOut_65 (by decide) ?_
        refine lv_ladd E.ex E.by dX8_shareOut_69 ?_
        refine lv_topl (fun x14 ex14 => ?_)
        have h := h x14 ex14
        refine lv_lstore_n (lv' := [(3, .long x14), (5, .long x11), (8, .long x10), (0, .ref (am 0)), (1, .int p1), (2, .int p2), (7, .int t1.2.2)]) E.ex E.by dX8_shareOut_70 rfl hl (by decide) rfl (fun ls hl => ?_)
        refine lv_iinc (k := 6) (v := t1.2.2 + 1) (lv' := [(7, .int (t1.2.2 + 1)), (3, .long x14), (5, .long x11), (8, .long x10), (0, .ref (am 0)), (1, .int p1), (2, .int p2)]) E.ex E.by dX8_shareOut_71 hl rfl (k_inc1 _) (by decide) rfl (fun ls hl => ?_)
        refine lv_goto (tgt := 8) E.ex E.by dX8_shareOut_74 (by decide) ?_
        exact IH8 _ h _ _ _ G (lv_sub hl [4, 5, 6, 1, 2, 0] rfl)
theorem wi_X8_solveSteady_X8 : ∀ w ∈ wsX80, w ∈ wsX8_solveSteady := fun w h => List.mem_cons_of_mem _ (List.mem_append_left _ (List.mem_append_left _ (List.mem_append_right _ (h))))
theorem fl_X8_solveSteady_X8_0 : Cond.fieldLink RX8 31 (TX8 0).1 (TX8 0).2.1 (TX8 0).2.2.1 ∈ wsX8_solveSteady := List.mem_of_getElem? (i := 1) (by decide +kernel)
theorem fl_X8_solveSteady_X8_1 : Cond.fieldLink RX8 12 (TX8 1).1 (TX8 1).2.1 (TX8 1).2.2.1 ∈ wsX8_solveSteady := List.mem_of_getElem? (i := 3) (by decide +kernel)
theorem fl_X8_solveSteady_X8_3 : Cond.fieldLink RX8 22 (TX8 3).1 (TX8 3).2.1 (TX8 3).2.2.1 ∈ wsX8_solveSteady := List.mem_of_getElem? (i := 2) (by decide +kernel)
theorem fl_X8_solveSteady_X8_2 : Cond.fieldLink RX8 18 (TX8 2).1 (TX8 2).2.1 (TX8 2).2.2.1 ∈ wsX8_solveSteady := List.mem_of_getElem? (i := 4) (by decide +kernel)
theorem li_X8_solveSteady_X11 : Cond.initialized RX11 ∈ wsX8_solveSteady := List.mem_of_getElem? (i := 20) (by decide +kernel)
theorem ls_X8_solveSteady_X11_contains : Cond.static yX11_contains ∈ wsX8_solveSteady := List.mem_of_getElem? (i := 19) (by decide +kernel)
theorem ls_X8_solveSteady_X11_commonMultiple : Cond.static yX11_commonMultiple ∈ wsX8_solveSteady := List.mem_of_getElem? (i := 100) (by decide +kernel)
theorem hd_X8_shareOut_v : yX8_shareOut.cls = RX8 ∧ yX8_shareOut.cls ≠ "java/lang/invoke/MethodHandle" ∧ yX8_shareOut.cls ≠ "java/lang/invoke/VarHandle" ∧ (parseMethodDescriptor yX8_shareOut.desc).map (fun d => d.parameters.length) = some 2 := by decide +kernel
theorem hd_X8_solveFlow_v : yX8_solveFlow.cls = RX8 ∧ yX8_solveFlow.cls ≠ "java/lang/invoke/MethodHandle" ∧ yX8_solveFlow.cls ≠ "java/lang/invoke/VarHandle" ∧ (parseMethodDescriptor yX8_solveFlow.desc).map (fun d => d.parameters.length) = some 2 := by decide +kernel
theorem hd_X2_bottomStates_v : yX2_bottomStates.cls = RX2 ∧ yX2_bottomStates.cls ≠ "java/lang/invoke/MethodHandle" ∧ yX2_bottomStates.cls ≠ "java/lang/invoke/VarHandle" ∧ (parseMethodDescriptor yX2_bottomStates.desc).map (fun d => d.parameters.length) = some 0 := by decide +kernel
def wp_X8_solveSteady_L175 (v4 : Int64) (ε' : US) (κ : US) (P16 : (Int32 × Int64 × Int32 × US × US) → Prop) (P95 : (Int32 × US) → Prop) (Q : (US × US) → Prop) (P175 : (Int32 × US) → Prop) (t175 : Int32 × US) : Prop := (8 ≤ t175.1 → Q (t175.2, ε')) ∧ (¬ 8 ≤ t175.1 → wp_X3_solution t175.1 ε' (fun (r4 : Int64) => wp_X3_determinant ε' (fun (r5 : Int64) => wp_X8_put t175.1 r4 (r5 * v4) t175.2 ε' κ (fun (u6 : US) => P175 (t175.1 + 1, u6)))))
def wp_X8_solveSteady_L95 (v2 : Int32) (v4 : Int64) (σ' : US) (κ : US) (P16 : (Int32 × Int64 × Int32 × US × US) → Prop) (Q : (US × US) → Prop) (P95 : (Int32 × US) → Prop) (t95 : Int32 × US) : Prop := (8 ≤ t95.1 → wp_X3_solve t95.2 (fun (u3 : US) => lpW (wp_X8_solveSteady_L175 v4 u3 κ P16 P95 Q) (0, σ'))) ∧ (¬ 8 ≤ t95.1 → wp_X11_contains v2 t95.1 (fun (r13 : Int32) => (¬ r13 = 0 → vp_in t95.1 8 ∧ (((lg_cmp (aB σ' 1 (t95.1).toNatClampNeg) 0) = 0 → P95 (t95.1 + 1, t95.2)) ∧ (¬ (lg_cmp (aB σ' 1 (t95.1).toNatClampNeg) 0) = 0 → vp_in t95.1 8 ∧ ((¬ (aB σ' 1 (t95.1).toNatClampNeg) = (0 : Int64)) ∧ (vp_in t95.1 8 ∧ (wp_X3_putRight t95.1 ((v4 / (aB σ' 1 (t95.1).toNatClampNeg)) * (aB σ' 0 (t95.1).toNatClampNeg)) t95.2 (fun (u14 : US) => P95 (t95.1 + 1, u14)))))))) ∧ (r13 = 0 → wp_X8_balance t95.1 σ' t95.2 κ (fun (u16 : US) => P95 (t95.1 + 1, u16)))))
def wp_X8_solveSteady_L16 (v2 : Int32) (v1 : Int32) (κ : US) (Q : (US × US) → Prop) (P16 : (Int32 × Int64 × Int32 × US × US) → Prop) (t16 : Int32 × Int64 × Int32 × US × US) : Prop := (8 ≤ t16.2.2.1 → wp_X3_clear t16.2.2.2.2 (fun (u2 : US) => lpW (wp_X8_solveSteady_L95 v2 t16.2.1 t16.2.2.2.1 κ P16 Q) (0, u2))) ∧ (¬ 8 ≤ t16.2.2.1 → wp_X11_contains t16.1 t16.2.2.1 (fun (r32 : Int32) => (r32 = 0 → P16 (t16.1, t16.2.1, t16.2.2.1 + 1, t16.2.2.2.1, t16.2.2.2.2)) ∧ (¬ r32 = 0 → wp_X2_reachedFrom t16.2.2.1 κ (fun (r33 : Int32) => wp_X8_solveFlow r33 t16.2.2.1 t16.2.2.2.1 t16.2.2.2.2 κ (fun (u34 : US) => wp_X8_shareOut r33 v1 t16.2.2.2.1 u34 κ (fun (u35 : US) => vp_in t16.2.2.1 8 ∧ (wp_X11_commonMultiple t16.2.1 (aB u35 1 (t16.2.2.1).toNatClampNeg) (fun (r36 : Int64) => ∀ x37 : Int32, x37 = t16.1 &&& (r33 ^^^ (-1)) → P16 (x37, r36, t16.2.2.1 + 1, u35, u34)))))))))
def wp_X8_solveSteady (p1 : Int32) (σ : US) (ε : US) (κ : US) (Q : (US × US) → Prop) : Prop := wp_X2_bottomStates κ (fun (r1 : Int32) => lpW (wp_X8_solveSteady_L16 r1 p1 κ Q) (r1, 1, 0, σ, ε))
set_option maxRecDepth 100000 in
set_option maxHeartbeats 4000000 in
theorem c_X8_solveSteady (l : Launch) (D : va_G) (kc : Nat → ClassId) (am : Nat → Nat) (ae : Nat → Nat) (ac : Nat → Nat) (p1 : Int32) (σ : US) (ε : US) (κ : US) (Q : (US × US) → Prop) (h : wp_X8_solveSteady p1 σ ε κ Q) : kCv l D (tyL kc) yX8_solveSteady wsX8_solveSteady ({ frames := 4, cells := 0, slots := 0, locals := 102 } : Room) [.ref (am 0), .int p1] (xMo kc am ae ac σ ε κ) (fun u : US × US => (xMo kc am ae ac u.1 u.2 κ)) 0 0 (fun u => Q u) := by
  intro sz
  refine k_begin (cc := cX8_solveSteady) (maxL := 8) (ret := none) (by decide +kernel) rfl rfl (fun p e s m args below meth c hsz E G ls hl => ?_)
  subst hsz
  have hl : lv_has ls 8 [(0, .ref (am 0)), (1, .int p1)] := hl
  refine lv_aload_n E.ex E.by dX8_solveSteady_0 rfl (lv_at hl 0 rfl) ?_
  refine k_get E G wi_X8_solveSteady_X8 0 (gMo_0 _ _ _ _ _ _ _) rfl 0 rfl fl_X8_solveSteady_X8_0 (v := .ref (ac 0)) rfl dX8_solveSteady_1 ?_
  refine k_cVi (X := ((wMo kc am ac ae σ) ++ (wE kc ae ε) : va_W)) (w := (wC kc ac κ)) (Z := ([] : va_W)) (wnew := (fun _ : Unit => (xMo kc am ae ac σ ε κ))) (As := []) (rest := []) E (xMo_2 _ _ _ _ _ _ _) G (c_X2_bottomStates l D kc _ _ _ h) gX8_solveSteady_X2_bottomStates rfl ⟨rfl, rfl⟩ hd_X2_bottomStates_v ⟨rfl, rfl⟩ 0 (gC_0 _ _ _) rfl rfl hl rfl rfl dX8_solveSteady_4 ⟨rfl, rfl⟩ (fun _ => xMo_2 _ _ _ _ _ _ _) (fun r1 _u4 hq H locs G => ?_)
  have h := hq
  refine lv_istore_n (lv' := [(2, .int r1), (0, .ref (am 0)), (1, .int p1)]) E.ex E.by dX8_solveSteady_7 rfl hl (by decide) rfl (fun ls hl => ?_)
  refine lv_iload_n E.ex E.by dX8_solveSteady_8 rfl (lv_at hl 0 rfl) ?_
  refine lv_istore_n (lv' := [(3, .int r1), (2, .int r1), (0, .ref (am 0)), (1, .int p1)]) E.ex E.by dX8_solveSteady_9 rfl hl (by decide) rfl (fun ls hl => ?_)
  refine lv_lconst (v := 1) E.ex E.by dX8_solveSteady_10 (by decide) ?_
  refine lv_lstore (lv' := [(4, .long 1), (3, .int r1), (2, .int r1), (0, .ref (am 0)), (1, .int p1)]) E.ex E.by dX8_solveSteady_11 hl (by decide) rfl (fun ls hl => ?_)
  refine lv_iconst (v := 0) E.ex E.by dX8_solveSteady_13 (by decide) ?_
  refine lv_istore (lv' := [(6, .int 0), (4, .long 1), (3, .int r1), (2, .int r1), (0, .ref (am 0)), (1, .int p1)]) E.ex E.by dX8_solveSteady_14 hl (by decide) rfl (fun ls hl => ?_)
  refine lpW_ind (fun t2 : Int32 × Int64 × Int32 × US × US => ∀ (H : Heap) (locs : List Loc) (ls : Array Slot), kG D (va_A (xMo kc am ae ac σ ε κ) s.heap.size) s (xMo kc am ae ac t2.2.2.2.1 t2.2.2.2.2 κ) H locs → lv_has ls 8 [(0, .ref (am 0)), (1, .int p1), (2, .int r1), (3, .int t2.1), (4, .long t2.2.1), (6, .int t2.2.2.1)] → W p l e _ s m args below meth c H locs _ _ _ (F0 m 16 ls [])) (fun P16 IH16 t2 h H locs ls G hl => ?_) _ h _ _ _ G (lv_sub hl [4, 5, 3, 2, 1, 0] rfl)
  refine lv_iload E.ex E.by dX8_solveSteady_16 (lv_at hl 5 rfl) ?_
  refine lv_bipush (v := 8) E.ex E.by dX8_solveSteady_18 (by decide) ?_
  refine lv_icmp_ge (tgt := 85) E.ex E.by dX8_solveSteady_20 (by decide) (fun hc24 => ?_) (fun hc24 => ?_)
  · have h := h.1 hc24
    refine lv_aload_n E.ex E.by dX8_solveSteady_85 rfl (lv_at hl 0 rfl) ?_
    refine k_get E G wi_X8_solveSteady_X8 0 (gMo_0 _ _ _ _ _ _ _) rfl 1 rfl fl_X8_solveSteady_X8_1 (v := .ref (ae 0)) rfl dX8_solveSteady_86 ?_
    refine k_cVv (X := ((wMo kc am ac ae t2.2.2.2.1) : va_W)) (w := (wE kc ae t2.2.2.2.2)) (Z := ((wC kc ac κ) : va_W)) (wnew := (fun u : US => (xMo kc am ae ac t2.2.2.2.1 u κ))) (As := []) (rest := []) E (xMo_1 _ _ _ _ _ _ _) G (c_X3_clear l D kc _ _ _ h) gX8_solveSteady_X3_clear rfl ⟨rfl, rfl⟩ hd_X3_clear_v ⟨rfl, rfl⟩ 0 (gE_0 _ _ _) rfl rfl hl rfl rfl dX8_solveSteady_89 ⟨rfl, rfl⟩ (fun _ => xMo_1 _ _ _ _ _ _ _) (fun u3 hq H locs G => ?_)
    have h := hq
    refine lv_iconst (v := 0) E.ex E.by dX8_solveSteady_92 (by decide) ?_
    refine lv_istore (lv' := [(6, .int 0), (0, .ref (am 0)), (1, .int p1), (2, .int r1), (3, .int t2.1), (4, .long t2.2.1)]) E.ex E.by dX8_solveSteady_93 hl (by decide) rfl (fun ls hl => ?_)
    refine lpW_ind (fun t4 : Int32 × US => ∀ (H : Heap) (locs : List Loc) (ls : Array Slot), kG D (va_A (xMo kc am ae ac σ ε κ) s.heap.size) s (xMo kc am ae ac t2.2.2.2.1 t4.2 κ) H locs → lv_has ls 8 [(0, .ref (am 0)), (2, .int r1), (4, .long t2.2.1), (6, .int t4.1)] → W p l e _ s m args below meth c H locs _ _ _ (F0 m 95 ls [])) (fun P95 IH95 t4 h H locs ls G hl => ?_) _ h _ _ _ G (lv_sub hl [1, 3, 5, 0] rfl)
    refine lv_iload E.ex E.by dX8_solveSteady_95 (lv_at hl 3 rfl) ?_
    refine lv_bipush (v := 8) E.ex E.by dX8_solveSteady_97 (by decide) ?_
    refine lv_icmp_ge (tgt := 165) E.ex E.by dX8_solveSteady_99 (by decide) (fun hc16 => ?_) (fun hc16 => ?_)
    · have h := h.1 hc16
      refine lv_aload_n E.ex E.by dX8_solveSteady_165 rfl (lv_at hl 0 rfl) ?_
      refine k_get E G wi_X8_solveSteady_X8 0 (gMo_0 _ _ _ _ _ _ _) rfl 1 rfl fl_X8_solveSteady_X8_1 (v := .ref (ae 0)) rfl dX8_solveSteady_166 ?_
      refine k_cVv (X := ((wMo kc am ac ae t2.2.2.2.1) : va_W)) (w := (wE kc ae t4.2)) (Z := ((wC kc ac κ) : va_W)) (wnew := (fun u : US => (xMo kc am ae ac t2.2.2.2.1 u κ))) (As := []) (rest := []) E (xMo_1 _ _ _ _ _ _ _) G (c_X3_solve l D kc _ _ _ h) gX8_solveSteady_X3_solve rfl ⟨rfl, rfl⟩ hd_X3_solve_v ⟨rfl, rfl⟩ 0 (gE_0 _ _ _) rfl rfl hl rfl rfl dX8_solveSteady_169 ⟨rfl, rfl⟩ (fun _ => xMo_1 _ _ _ _ _ _ _) (fun u5 hq H locs G => ?_)
      have h := hq
      refine lv_iconst (v := 0) E.ex E.by dX8_solveSteady_172 (by decide) ?_
      refine lv_istore (lv' := [(6, .int 0), (0, .ref (am 0)), (2, .int r1), (4, .long t2.2.1)]) E.ex E.by dX8_solveSteady_173 hl (by decide) rfl (fun ls hl => ?_)
      refine lpW_ind (fun t6 : Int32 × US => ∀ (H : Heap) (locs : List Loc) (ls : Array Slot), kG D (va_A (xMo kc am ae ac σ ε κ) s.heap.size) s (xMo kc am ae ac t6.2 u5 κ) H locs → lv_has ls 8 [(0, .ref (am 0)), (4, .long t2.2.1), (6, .int t6.1)] → W p l e _ s m args below meth c H locs _ _ _ (F0 m 175 ls [])) (fun P175 IH175 t6 h H locs ls G hl => ?_) _ h _ _ _ G (lv_sub hl [1, 3, 0] rfl)
      refine lv_iload E.ex E.by dX8_solveSteady_175 (lv_at hl 2 rfl) ?_
      refine lv_bipush (v := 8) E.ex E.by dX8_solveSteady_177 (by decide) ?_
      refine lv_icmp_ge (tgt := 213) E.ex E.by dX8_solveSteady_179 (by decide) (fun hc10 => ?_) (fun hc10 => ?_)
      · have h := h.1 hc10
        exact k_retv (wof := (fun u : US × US => (xMo kc am ae ac u.1 u.2 κ))) (u := (t6.2, u5)) E G h (Nat.le_of_ble_eq_true rfl) (Nat.le_of_ble_eq_true rfl) dX8_solveSteady_213
      · have h := h.2 hc10
        refine lv_aload_n E.ex E.by dX8_solveSteady_182 rfl (lv_at hl 0 rfl) ?_
        refine lv_iload E.ex E.by dX8_solveSteady_183 (lv_at hl 2 rfl) ?_
        refine lv_aload_n E.ex E.by dX8_solveSteady_185 rfl (lv_at hl 0 rfl) ?_
        refine k_get E G wi_X8_solveSteady_X8 0 (gMo_0 _ _ _ _ _ _ _) rfl 1 rfl fl_X8_solveSteady_X8_1 (v := .ref (ae 0)) rfl dX8_solveSteady_186 ?_
        refine lv_iload E.ex E.by dX8_solveSteady_189 (lv_at hl 2 rfl) ?_
        refine k_cVl (X := ((wMo kc am ac ae t6.2) : va_W)) (w := (wE kc ae u5)) (Z := ((wC kc ac κ) : va_W)) (wnew := (fun _ : Unit => (xMo kc am ae ac t6.2 u5 κ))) (As := [.int t6.1]) (rest := [.int t6.1, .ref (am 0)]) E (xMo_1 _ _ _ _ _ _ _) G (c_X3_solution l D kc _ _ _ _ h) gX8_solveSteady_X3_solution rfl ⟨rfl, rfl⟩ hd_X3_solution_v ⟨rfl, rfl⟩ 0 (gE_0 _ _ _) rfl rfl hl rfl rfl dX8_solveSteady_191 ⟨rfl, rfl⟩ (fun _ => xMo_1 _ _ _ _ _ _ _) (fun r7 _u191 hq H locs G => ?_)
        have h := hq
        refine lv_aload_n E.ex E.by dX8_solveSteady_194 rfl (lv_at hl 0 rfl) ?_
        refine k_get E G wi_X8_solveSteady_X8 0 (gMo_0 _ _ _ _ _ _ _) rfl 1 rfl fl_X8_solveSteady_X8_1 (v := .ref (ae 0)) rfl dX8_solveSteady_195 ?_
        refine k_cVl (X := ((wMo kc am ac ae t6.2) : va_W)) (w := (wE kc ae u5)) (Z := ((wC kc ac κ) : va_W)) (wnew := (fun _ : Unit => (xMo kc am ae ac t6.2 u5 κ))) (As := []) (rest := [.long r7, .int t6.1, .ref (am 0)]) E (xMo_1 _ _ _ _ _ _ _) G (c_X3_determinant l D kc _ _ _ h) gX8_solveSteady_X3_determinant rfl ⟨rfl, rfl⟩ hd_X3_determinant_v ⟨rfl, rfl⟩ 0 (gE_0 _ _ _) rfl rfl hl rfl rfl dX8_solveSteady_198 ⟨rfl, rfl⟩ (fun _ => xMo_1 _ _ _ _ _ _ _) (fun r8 _u198 hq H locs G => ?_)
        have h := hq
        refine lv_lload E.ex E.by dX8_solveSteady_201 (lv_at hl 1 rfl) ?_
        refine lv_lmul E.ex E.by dX8_solveSteady_203 ?_
        refine k_cVv (X := []) (w := (xMo kc am ae ac t6.2 u5 κ)) (Z := []) (wnew := (fun u : US => (xMo kc am ae ac u u5 κ))) (As := [.int t6.1, .long r7, .long (r8 * t2.2.1)]) (rest := []) E (List.append_nil _).symm G (c_X8_put l D kc _ _ _ _ _ _ _ _ _ _ h) gX8_solveSteady_X8_put rfl ⟨rfl, rfl⟩ hd_X8_put_v ⟨rfl, rfl⟩ 0 (gMo_0 _ _ _ _ _ _ _) rfl rfl hl rfl rfl dX8_solveSteady_204 ⟨rfl, rfl⟩ (fun _ => (List.append_nil _).symm) (fun u9 hq H locs G => ?_)
        have h := hq
        refine lv_iinc (k := 2) (v := t6.1 + 1) (lv' := [(6, .int (t6.1 + 1)), (0, .ref (am 0)), (4, .long t2.2.1)]) E.ex E.by dX8_solveSteady_207 hl rfl (k_inc1 _) (by decide) rfl (fun ls hl => ?_)
        refine lv_goto (tgt := 175) E.ex E.by dX8_solveSteady_210 (by decide) ?_
        exact IH175 _ h _ _ _ G (lv_sub hl [1, 2, 0] rfl)
    · have h := h.2 hc16
      refine lv_iload_n E.ex E.by dX8_solveSteady_102 rfl (lv_at hl 1 rfl) ?_
      refine lv_iload E.ex E.by dX8_solveSteady_103 (lv_at hl 3 rfl) ?_
      refine k_cSNi (X := (xMo kc am ae ac t2.2.2.2.1 t4.2 κ)) (w := []) (Z := []) (wnew := (fun _ : Unit => (xMo kc am ae ac t2.2.2.2.1 t4.2 κ))) (As := [.int r1, .int t4.1]) (rest := []) E (List.append_nil _).symm G (c_X11_contains l D kc _ _ _ h) gX8_solveSteady_X11_contains_n74 (by decide +kernel) li_X8_solveSteady_X11 ls_X8_solveSteady_X11_contains rfl ⟨rfl, rfl⟩ hd_X11_contains_n ⟨rfl, rfl⟩ rfl hl rfl rfl dX8_solveSteady_105 ⟨rfl, rfl⟩ (fun _ => (List.append_nil _).symm) (fun r11 _u105 hq H locs G => ?_)
      have h := hq
      refine lv_if_ne (tgt := 120) E.ex E.by dX8_solveSteady_108 (by decide) (fun hc15 => ?_) (fun hc15 => ?_)
      · have h := h.1 hc15
        refine lv_aload_n E.ex E.by dX8_solveSteady_120 rfl (lv_at hl 0 rfl) ?_
        refine k_get E G wi_X8_solveSteady_X8 0 (gMo_0 _ _ _ _ _ _ _) rfl 3 rfl fl_X8_solveSteady_X8_3 (v := .ref (am 2)) rfl dX8_solveSteady_121 ?_
        refine lv_iload E.ex E.by dX8_solveSteady_124 (lv_at hl 3 rfl) ?_
        refine k_lald E G 2 (gMo_2 _ _ _ _ _ _ _) 1 rfl h.1 dX8_solveSteady_126 ?_
        have h := h.2
        refine lv_lconst (v := 0) E.ex E.by dX8_solveSteady_127 (by decide) ?_
        refine W.lcmp E.ex E.by dX8_solveSteady_128 ?_
        refine lv_if_eq (tgt := 159) E.ex E.by dX8_solveSteady_129 (by decide) (fun hc13 => ?_) (fun hc13 => ?_)
        · have h := h.1 hc13
          refine lv_iinc (k := 3) (v := t4.1 + 1) (lv' := [(6, .int (t4.1 + 1)), (0, .ref (am 0)), (2, .int r1), (4, .long t2.2.1)]) E.ex E.by dX8_solveSteady_159 hl rfl (k_inc1 _) (by decide) rfl (fun ls hl => ?_)
          refine lv_goto (tgt := 95) E.ex E.by dX8_solveSteady_162 (by decide) ?_
          exact IH95 _ h _ _ _ G (lv_sub hl [1, 2, 3, 0] rfl)
        · have h := h.2 hc13
          refine lv_aload_n E.ex E.by dX8_solveSteady_132 rfl (lv_at hl 0 rfl) ?_
          refine k_get E G wi_X8_solveSteady_X8 0 (gMo_0 _ _ _ _ _ _ _) rfl 1 rfl fl_X8_solveSteady_X8_1 (v := .ref (ae 0)) rfl dX8_solveSteady_133 ?_
          refine lv_iload E.ex E.by dX8_solveSteady_136 (lv_at hl 3 rfl) ?_
          refine lv_lload E.ex E.by dX8_solveSteady_138 (lv_at hl 2 rfl) ?_
          refine lv_aload_n E.ex E.by dX8_solveSteady_140 rfl (lv_at hl 0 rfl) ?_
          refine k_get E G wi_X8_solveSteady_X8 0 (gMo_0 _ _ _ _ _ _ _) rfl 3 rfl fl_X8_solveSteady_X8_3 (v := .ref (am 2)) rfl dX8_solveSteady_141 ?_
          refine lv_iload E.ex E.by dX8_solveSteady_144 (lv_at hl 3 rfl) ?_
          refine k_lald E G 2 (gMo_2 _ _ _ _ _ _ _) 1 rfl h.1 dX8_solveSteady_146 ?_
          have h := h.2
          refine lv_ldiv E.ex E.by dX8_solveSteady_147 h.1 ?_
          have h := h.2
          refine lv_aload_n E.ex E.by dX8_solveSteady_148 rfl (lv_at hl 0 rfl) ?_
          refine k_get E G wi_X8_solveSteady_X8 0 (gMo_0 _ _ _ _ _ _ _) rfl 2 rfl fl_X8_solveSteady_X8_2 (v := .ref (am 1)) rfl dX8_solveSteady_149 ?_
          refine lv_iload E.ex E.by dX8_solveSteady_152 (lv_at hl 3 rfl) ?_
          refine k_lald E G 1 (gMo_1 _ _ _ _ _ _ _) 1 rfl h.1 dX8_solveSteady_154 ?_
          have h := h.2
          refine lv_lmul E.ex E.by dX8_solveSteady_155 ?_
          refine k_cVv (X := ((wMo kc am ac ae t2.2.2.2.1) : va_W)) (w := (wE kc ae t4.2)) (Z := ((wC kc ac κ) : va_W)) (wnew := (fun u : US => (xMo kc am ae ac t2.2.2.2.1 u κ))) (As := [.int t4.1, .long ((t2.2.1 / (aB t2.2.2.2.1 1 (t4.1).toNatClampNeg)) * (aB t2.2.2.2.1 0 (t4.1).toNatClampNeg))]) (rest := []) E (xMo_1 _ _ _ _ _ _ _) G (c_X3_putRight l D kc _ _ _ _ _ h) gX8_solveSteady_X3_putRight rfl ⟨rfl, rfl⟩ hd_X3_putRight_v ⟨rfl, rfl⟩ 0 (gE_0 _ _ _) rfl rfl hl rfl rfl dX8_solveSteady_156 ⟨rfl, rfl⟩ (fun _ => xMo_1 _ _ _ _ _ _ _) (fun u12 hq H locs G => ?_)
          have h := hq
          refine lv_iinc (k := 3) (v := t4.1 + 1) (lv' := [(6, .int (t4.1 + 1)), (0, .ref (am 0)), (2, .int r1), (4, .long t2.2.1)]) E.ex E.by dX8_solveSteady_159 hl rfl (k_inc1 _) (by decide) rfl (fun ls hl => ?_)
          refine lv_goto (tgt := 95) E.ex E.by dX8_solveSteady_162 (by decide) ?_
          exact IH95 _ h _ _ _ G (lv_sub hl [1, 2, 3, 0] rfl)
      · have h := h.2 hc15
        refine lv_aload_n E.ex E.by dX8_solveSteady_111 rfl (lv_at hl 0 rfl) ?_
        refine lv_iload E.ex E.by dX8_solveSteady_112 (lv_at hl 3 rfl) ?_
        refine k_cVv (X := []) (w := (xMo kc am ae ac t2.2.2.2.1 t4.2 κ)) (Z := []) (wnew := (fun u : US => (xMo kc am ae ac t2.2.2.2.1 u κ))) (As := [.int t4.1]) (rest := []) E (List.append_nil _).symm G (c_X8_balance l D kc _ _ _ _ _ _ _ _ h) gX8_solveSteady_X8_balance rfl ⟨rfl, rfl⟩ hd_X8_balance_v ⟨rfl, rfl⟩ 0 (gMo_0 _ _ _ _ _ _ _) rfl rfl hl rfl rfl dX8_solveSteady_114 ⟨rfl, rfl⟩ (fun _ => (List.append_nil _).symm) (fun u14 hq H locs G => ?_)
        have h := hq
        refine lv_goto (tgt := 159) E.ex E.by dX8_solveSteady_117 (by decide) ?_
        refine lv_iinc (k := 3) (v := t4.1 + 1) (lv' := [(6, .int (t4.1 + 1)), (0, .ref (am 0)), (2, .int r1), (4, .long t2.2.1)]) E.ex E.by dX8_solveSteady_159 hl rfl (k_inc1 _) (by decide) rfl (fun ls hl => ?_)
        refine lv_goto (tgt := 95) E.ex E.by dX8_solveSteady_162 (by decide) ?_
        exact IH95 _ h _ _ _ G (lv_sub hl [1, 2, 3, 0] rfl)
  · have h := h.2 hc24
    refine lv_iload_n E.ex E.by dX8_solveSteady_23 rfl (lv_at hl 3 rfl) ?_
    refine lv_iload E.ex E.by dX8_solveSteady_24 (lv_at hl 5 rfl) ?_
    refine k_cSNi (X := (xMo kc am ae ac t2.2.2.2.1 t2.2.2.2.2 κ)) (w := []) (Z := []) (wnew := (fun _ : Unit => (xMo kc am ae ac t2.2.2.2.1 t2.2.2.2.2 κ))) (As := [.int t2.1, .int t2.2.2.1]) (rest := []) E (List.append_nil _).symm G (c_X11_contains l D kc _ _ _ h) gX8_solveSteady_X11_contains_n74 (by decide +kernel) li_X8_solveSteady_X11 ls_X8_solveSteady_X11_contains rfl ⟨rfl, rfl⟩ hd_X11_contains_n ⟨rfl, rfl⟩ rfl hl rfl rfl dX8_solveSteady_26 ⟨rfl, rfl⟩ (fun _ => (List.append_nil _).symm) (fun r17 _u26 hq H locs G => ?_)
    have h := hq
    refine lv_if_eq (tgt := 79) E.ex E.by dX8_solveSteady_29 (by decide) (fun hc23 => ?_) (fun hc23 => ?_)
    · have h := h.1 hc23
      refine lv_iinc (k := 5) (v := t2.2.2.1 + 1) (lv' := [(6, .int (t2.2.2.1 + 1)), (0, .ref (am 0)), (1, .int p1), (2, .int r1), (3, .int t2.1), (4, .long t2.2.1)]) E.ex E.by dX8_solveSteady_79 hl rfl (k_inc1 _) (by decide) rfl (fun ls hl => ?_)
      refine lv_goto (tgt := 16) E.ex E.by dX8_solveSteady_82 (by decide) ?_
      exact IH16 _ h _ _ _ G (lv_sub hl [1, 2, 3, 4, 5, 0] rfl)
    · have h := h.2 hc23
      refine lv_aload_n E.ex E.by dX8_solveSteady_32 rfl (lv_at hl 0 rfl) ?_
      refine k_get E G wi_X8_solveSteady_X8 0 (gMo_0 _ _ _ _ _ _ _) rfl 0 rfl fl_X8_solveSteady_X8_0 (v := .ref (ac 0)) rfl dX8_solveSteady_33 ?_
      refine lv_iload E.ex E.by dX8_solveSteady_36 (lv_at hl 5 rfl) ?_
      refine k_cVi (X := ((wMo kc am ac ae t2.2.2.2.1) ++ (wE kc ae t2.2.2.2.2) : va_W)) (w := (wC kc ac κ)) (Z := ([] : va_W)) (wnew := (fun _ : Unit => (xMo kc am ae ac t2.2.2.2.1 t2.2.2.2.2 κ))) (As := [.int t2.2.2.1]) (rest := []) E (xMo_2 _ _ _ _ _ _ _) G (c_X2_reachedFrom l D kc _ _ _ _ h) gX8_solveSteady_X2_reachedFrom rfl ⟨rfl, rfl⟩ hd_X2_reachedFrom_v ⟨rfl, rfl⟩ 0 (gC_0 _ _ _) rfl rfl hl rfl rfl dX8_solveSteady_38 ⟨rfl, rfl⟩ (fun _ => xMo_2 _ _ _ _ _ _ _) (fun r18 _u38 hq H locs G => ?_)
      have h := hq
      refine lv_istore (lv' := [(7, .int r18), (0, .ref (am 0)), (1, .int p1), (2, .int r1), (3, .int t2.1), (4, .long t2.2.1), (6, .int t2.2.2.1)]) E.ex E.by dX8_solveSteady_41 hl (by decide) rfl (fun ls hl => ?_)
      refine lv_aload_n E.ex E.by dX8_solveSteady_43 rfl (lv_at hl 1 rfl) ?_
      refine lv_iload E.ex E.by dX8_solveSteady_44 (lv_at hl 0 rfl) ?_
      refine lv_iload E.ex E.by dX8_solveSteady_46 (lv_at hl 6 rfl) ?_
      refine k_cVv (X := []) (w := (xMo kc am ae ac t2.2.2.2.1 t2.2.2.2.2 κ)) (Z := []) (wnew := (fun u : US => (xMo kc am ae ac t2.2.2.2.1 u κ))) (As := [.int r18, .int t2.2.2.1]) (rest := []) E (List.append_nil _).symm G (c_X8_solveFlow l D kc _ _ _ _ _ _ _ _ _ h) gX8_solveSteady_X8_solveFlow rfl ⟨rfl, rfl⟩ hd_X8_solveFlow_v ⟨rfl, rfl⟩ 0 (gMo_0 _ _ _ _ _ _ _) rfl rfl hl rfl rfl dX8_solveSteady_48 ⟨rfl, rfl⟩ (fun _ => (List.append_nil _).symm) (fun u19 hq H locs G => ?_)
      have h := hq
      refine lv_aload_n E.ex E.by dX8_solveSteady_51 rfl (lv_at hl 1 rfl) ?_
      refine lv_iload E.ex E.by dX8_solveSteady_52 (lv_at hl 0 rfl) ?_
      refine lv_iload_n E.ex E.by dX8_solveSteady_54 rfl (lv_at hl 2 rfl) ?_
      refine k_cVv (X := []) (w := (xMo kc am ae ac t2.2.2.2.1 u19 κ)) (Z := []) (wnew := (fun u : US => (xMo kc am ae ac u u19 κ))) (As := [.int r18, .int p1]) (rest := []) E (List.append_nil _).symm G (c_X8_shareOut l D kc _ _ _ _ _ _ _ _ _ h) gX8_solveSteady_X8_shareOut rfl ⟨rfl, rfl⟩ hd_X8_shareOut_v ⟨rfl, rfl⟩ 0 (gMo_0 _ _ _ _ _ _ _) rfl rfl hl rfl rfl dX8_solveSteady_55 ⟨rfl, rfl⟩ (fun _ => (List.append_nil _).symm) (fun u20 hq H locs G => ?_)
      have h := hq
      refine lv_lload E.ex E.by dX8_solveSteady_58 (lv_at hl 5 rfl) ?_
      refine lv_aload_n E.ex E.by dX8_solveSteady_60 rfl (lv_at hl 1 rfl) ?_
      refine k_get E G wi_X8_solveSteady_X8 0 (gMo_0 _ _ _ _ _ _ _) rfl 3 rfl fl_X8_solveSteady_X8_3 (v := .ref (am 2)) rfl dX8_solveSteady_61 ?_
      refine lv_iload E.ex E.by dX8_solveSteady_64 (lv_at hl 6 rfl) ?_
      refine k_lald E G 2 (gMo_2 _ _ _ _ _ _ _) 1 rfl h.1 dX8_solveSteady_66 ?_
      have h := h.2
      refine k_cSNl (X := (xMo kc am ae ac u20 u19 κ)) (w := []) (Z := []) (wnew := (fun _ : Unit => (xMo kc am ae ac u20 u19 κ))) (As := [.long t2.2.1, .long (aB u20 1 (t2.2.2.1).toNatClampNeg)]) (rest := []) E (List.append_nil _).symm G (c_X11_commonMultiple l D kc _ _ _ h) gX8_solveSteady_X11_commonMultiple_n126 (by decide +kernel) li_X8_solveSteady_X11 ls_X8_solveSteady_X11_commonMultiple rfl ⟨rfl, rfl⟩ hd_X11_commonMultiple_n ⟨rfl, rfl⟩ rfl hl rfl rfl dX8_solveSteady_67 ⟨rfl, rfl⟩ (fun _ => (List.append_nil _).symm) (fun r21 _u67 hq H locs G => ?_)
      have h := hq
      refine lv_lstore (lv' := [(4, .long r21), (7, .int r18), (0, .ref (am 0)), (1, .int p1), (2, .int r1), (3, .int t2.1), (6, .int t2.2.2.1)]) E.ex E.by dX8_solveSteady_70 hl (by decide) rfl (fun ls hl => ?_)
      refine lv_iload_n E.ex E.by dX8_solveSteady_72 rfl (lv_at hl 5 rfl) ?_
      refine lv_iload E.ex E.by dX8_solveSteady_73 (lv_at hl 1 rfl) ?_
      refine lv_iconst (v := (-1)) E.ex E.by dX8_solveSteady_75 (by decide) ?_
      refine lv_ixor E.ex E.by dX8_solveSteady_76 ?_
      refine lv_iand E.ex E.by dX8_solveSteady_77 ?_
      refine lv_topi (fun x22 ex22 => ?_)
      have h := h x22 ex22
      refine lv_istore_n (lv' := [(3, .int x22), (4, .long r21), (7, .int r18), (0, .ref (am 0)), (1, .int p1), (2, .int r1), (6, .int t2.2.2.1)]) E.ex E.by dX8_solveSteady_78 rfl hl (by decide) rfl (fun ls hl => ?_)
      refine lv_iinc (k := 6) (v := t2.2.2.1 + 1) (lv' := [(6, .int (t2.2.2.1 + 1)), (3, .int x22), (4, .long r21), (7, .int r18), (0, .ref (am 0)), (1, .int p1), (2, .int r1)]) E.ex E.by dX8_solveSteady_79 hl rfl (k_inc1 _) (by decide) rfl (fun ls hl => ?_)
      refine lv_goto (tgt := 16) E.ex E.by dX8_solveSteady_82 (by decide) ?_
      exact IH16 _ h _ _ _ G (lv_sub hl [4, 5, 6, 1, 2, 0] rfl)
