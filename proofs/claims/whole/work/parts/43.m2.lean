theorem wi_X12_findUntil_X12 : ∀ w ∈ wsX120, w ∈ wsX12_findUntil := fun w h => List.mem_cons_of_mem _ (List.mem_append_right _ (h))
theorem fl_X12_findUntil_X12_10 : Cond.fieldLink RX12 180 (TX12 10).1 (TX12 10).2.1 (TX12 10).2.2.1 ∈ wsX12_findUntil := List.mem_of_getElem? (i := 1) (by decide +kernel)
theorem hd_X12_giveSolved_v : yX12_giveSolved.cls = RX12 ∧ yX12_giveSolved.cls ≠ "java/lang/invoke/MethodHandle" ∧ yX12_giveSolved.cls ≠ "java/lang/invoke/VarHandle" ∧ (parseMethodDescriptor yX12_giveSolved.desc).map (fun d => d.parameters.length) = some 1 := by decide +kernel
theorem fl_X12_findUntil_X12_12 : Cond.fieldLink RX12 29 (TX12 12).1 (TX12 12).2.1 (TX12 12).2.2.1 ∈ wsX12_findUntil := List.mem_of_getElem? (i := 2) (by decide +kernel)
theorem hd_X12_right_v : yX12_right.cls = RX12 ∧ yX12_right.cls ≠ "java/lang/invoke/MethodHandle" ∧ yX12_right.cls ≠ "java/lang/invoke/VarHandle" ∧ (parseMethodDescriptor yX12_right.desc).map (fun d => d.parameters.length) = some 2 := by decide +kernel
theorem hd_X12_begin_v : yX12_begin.cls = RX12 ∧ yX12_begin.cls ≠ "java/lang/invoke/MethodHandle" ∧ yX12_begin.cls ≠ "java/lang/invoke/VarHandle" ∧ (parseMethodDescriptor yX12_begin.desc).map (fun d => d.parameters.length) = some 1 := by decide +kernel
def wp_X12_findUntil_J25 (v2j25 : Int32) (v3j25 : Int32) (σ'j25 : US) (Q : US → Prop) : Prop := wp_X12_has v2j25 v3j25 (fun (r3 : Int32) => (r3 = 0 → wp_X12_give 0 1 σ'j25 (fun (u4 : US) => Q u4)) ∧ (¬ r3 = 0 → wp_X12_give 1 1 σ'j25 (fun (u5 : US) => Q u5)))
def wp_X12_findUntil_L64 (v2 : Int32) (v3 : Int32) (Q : US → Prop) (P64 : (Int32 × US) → Prop) (t64 : Int32 × US) : Prop := ((iI t64.2 2) ≤ t64.1 → wp_X12_giveSolved v3 t64.2 (fun (u10 : US) => Q u10)) ∧ (¬ (iI t64.2 2) ≤ t64.1 → vp_in t64.1 8 ∧ (wp_X12_weightInto (aA t64.2 5 (t64.1).toNatClampNeg) v2 t64.2 (fun (r11 : Int32) => wp_X12_right t64.1 (r11.toInt64) t64.2 (fun (u12 : US) => P64 (t64.1 + 1, u12)))))
def wp_X12_findUntil (p1 : Int32) (p2 : Int32) (p3 : Int32) (σ : US) (Q : US → Prop) : Prop := wp_X12_neverOf p1 p2 σ (fun (r1 : Int32) => wp_X12_has r1 p3 (fun (r2 : Int32) => (¬ r2 = 0 → wp_X12_findUntil_J25 p2 p3 σ Q) ∧ (r2 = 0 → wp_X12_has p2 p3 (fun (r7 : Int32) => (r7 = 0 → wp_X12_all σ (fun (r8 : Int32) => wp_X12_begin ((r8 &&& (r1 ^^^ (-1))) &&& (p2 ^^^ (-1))) σ (fun (u9 : US) => lpW (wp_X12_findUntil_L64 p2 p3 Q) (0, u9)))) ∧ (¬ r7 = 0 → wp_X12_findUntil_J25 p2 p3 σ Q)))))
set_option maxRecDepth 100000 in
set_option maxHeartbeats 4000000 in
theorem c_X12_findUntil (l : Launch) (D : va_G) (kc : Nat → ClassId) (a : Nat → Nat)  (p1 : Int32) (p2 : Int32) (p3 : Int32) (σ : US) (Q : US → Prop) (h : wp_X12_findUntil p1 p2 p3 σ Q) : kCv l D (tyL kc) yX12_findUntil wsX12_findUntil ({ frames := 4, cells := 0, slots := 0, locals := 95 } : Room) [.ref (a 0), .int p1, .int p2, .int p3] (wM kc a σ) (fun u : US => (wM kc a u)) 0 0 (fun u => Q u) := by
  intro sz
  refine k_begin (cc := cX12_findUntil) (maxL := 6) (ret := none) (by decide +kernel) rfl rfl (fun p e s m args below meth c hsz E G ls hl => ?_)
  subst hsz
  have hl : lv_has ls 6 [(0, .ref (a 0)), (1, .int p1), (2, .int p2), (3, .int p3)] := hl
  have K25 : ∀ (σ'j25 : US) (H : Heap) (locs : List Loc) (ls : Array Slot), kG D (va_A (wM kc a σ) s.heap.size) s (wM kc a σ'j25) H locs → lv_has ls 6 [(0, .ref (a 0)), (2, .int p2), (3, .int p3)] → wp_X12_findUntil_J25 p2 p3 σ'j25 Q → W p l e ({ frames := 4, cells := 0, slots := 0, locals := 95 } : Room) s m args below meth c H locs 0 0 (MQ below (va_Qv (fun u => Q u) (kB D (wM kc a σ) s.heap.size (fun u : US => (wM kc a u))) (va_A (wM kc a σ) s.heap.size)) args s 0 0 (va_A (wM kc a σ) s.heap.size)) (F0 m 25 ls []) := by
    intro σ'j25 H locs ls G hl h
    refine lv_aload_n E.ex E.by dX12_findUntil_25 rfl (lv_at hl 0 rfl) ?_
    refine lv_iload_n E.ex E.by dX12_findUntil_26 rfl (lv_at hl 1 rfl) ?_
    refine lv_iload_n E.ex E.by dX12_findUntil_27 rfl (lv_at hl 2 rfl) ?_
    refine k_cSi (X := (wM kc a σ'j25)) (w := []) (Z := []) (wnew := (fun _ : Unit => (wM kc a σ'j25))) (As := [.int p2, .int p3]) (rest := [.ref (a 0)]) E (List.append_nil _).symm G (c_X12_has l D kc _ _ _ h) gX12_findUntil_X12_has rfl ⟨rfl, rfl⟩ hd_X12_has_v ⟨rfl, rfl⟩ rfl hl rfl rfl dX12_findUntil_28 ⟨rfl, rfl⟩ (fun _ => (List.append_nil _).symm) (fun r13 _u28 hq H locs G => ?_)
    have h := hq
    refine lv_if_eq (tgt := 38) E.ex E.by dX12_findUntil_31 (by decide) (fun hc16 => ?_) (fun hc16 => ?_)
    · have h := h.1 hc16
      refine lv_lconst (v := 0) E.ex E.by dX12_findUntil_38 (by decide) ?_
      refine lv_lconst (v := 1) E.ex E.by dX12_findUntil_39 (by decide) ?_
      refine k_cVv (X := []) (w := (wM kc a σ'j25)) (Z := []) (wnew := (fun u : US => (wM kc a u))) (As := [.long 0, .long 1]) (rest := []) E (List.append_nil _).symm G (c_X12_give l D kc _ _ _ _ _ h) gX12_findUntil_X12_give rfl ⟨rfl, rfl⟩ hd_X12_give_v ⟨rfl, rfl⟩ 0 (gM_0 _ _ _) rfl rfl hl rfl rfl dX12_findUntil_40 ⟨rfl, rfl⟩ (fun _ => (List.append_nil _).symm) (fun u14 hq H locs G => ?_)
      have h := hq
      exact k_retv (wof := (fun u : US => (wM kc a u))) (u := u14) E G h (Nat.le_of_ble_eq_true rfl) (Nat.le_of_ble_eq_true rfl) dX12_findUntil_43
    · have h := h.2 hc16
      refine lv_lconst (v := 1) E.ex E.by dX12_findUntil_34 (by decide) ?_
      refine lv_goto (tgt := 39) E.ex E.by dX12_findUntil_35 (by decide) ?_
      refine lv_lconst (v := 1) E.ex E.by dX12_findUntil_39 (by decide) ?_
      refine k_cVv (X := []) (w := (wM kc a σ'j25)) (Z := []) (wnew := (fun u : US => (wM kc a u))) (As := [.long 1, .long 1]) (rest := []) E (List.append_nil _).symm G (c_X12_give l D kc _ _ _ _ _ h) gX12_findUntil_X12_give rfl ⟨rfl, rfl⟩ hd_X12_give_v ⟨rfl, rfl⟩ 0 (gM_0 _ _ _) rfl rfl hl rfl rfl dX12_findUntil_40 ⟨rfl, rfl⟩ (fun _ => (List.append_nil _).symm) (fun u15 hq H locs G => ?_)
      have h := hq
      exact k_retv (wof := (fun u : US => (wM kc a u))) (u := u15) E G h (Nat.le_of_ble_eq_true rfl) (Nat.le_of_ble_eq_true rfl) dX12_findUntil_43
  refine lv_aload_n E.ex E.by dX12_findUntil_0 rfl (lv_at hl 0 rfl) ?_
  refine lv_iload_n E.ex E.by dX12_findUntil_1 rfl (lv_at hl 1 rfl) ?_
  refine lv_iload_n E.ex E.by dX12_findUntil_2 rfl (lv_at hl 2 rfl) ?_
  refine k_cVi (X := []) (w := (wM kc a σ)) (Z := []) (wnew := (fun _ : Unit => (wM kc a σ))) (As := [.int p1, .int p2]) (rest := []) E (List.append_nil _).symm G (c_X12_neverOf l D kc _ _ _ _ _ h) gX12_findUntil_X12_neverOf rfl ⟨rfl, rfl⟩ hd_X12_neverOf_v ⟨rfl, rfl⟩ 0 (gM_0 _ _ _) rfl rfl hl rfl rfl dX12_findUntil_3 ⟨rfl, rfl⟩ (fun _ => (List.append_nil _).symm) (fun r1 _u3 hq H locs G => ?_)
  have h := hq
  refine lv_istore (lv' := [(4, .int r1), (0, .ref (a 0)), (1, .int p1), (2, .int p2), (3, .int p3)]) E.ex E.by dX12_findUntil_6 hl (by decide) rfl (fun ls hl => ?_)
  refine lv_iload E.ex E.by dX12_findUntil_8 (lv_at hl 0 rfl) ?_
  refine lv_iload_n E.ex E.by dX12_findUntil_10 rfl (lv_at hl 4 rfl) ?_
  refine k_cSi (X := (wM kc a σ)) (w := []) (Z := []) (wnew := (fun _ : Unit => (wM kc a σ))) (As := [.int r1, .int p3]) (rest := []) E (List.append_nil _).symm G (c_X12_has l D kc _ _ _ h) gX12_findUntil_X12_has rfl ⟨rfl, rfl⟩ hd_X12_has_v ⟨rfl, rfl⟩ rfl hl rfl rfl dX12_findUntil_11 ⟨rfl, rfl⟩ (fun _ => (List.append_nil _).symm) (fun r2 _u11 hq H locs G => ?_)
  have h := hq
  refine lv_if_ne (tgt := 25) E.ex E.by dX12_findUntil_14 (by decide) (fun hc12 => ?_) (fun hc12 => ?_)
  · have h := h.1 hc12
    exact K25 _ _ _ _ G (lv_sub hl [1, 3, 4] rfl) h
  · have h := h.2 hc12
    refine lv_iload_n E.ex E.by dX12_findUntil_17 rfl (lv_at hl 3 rfl) ?_
    refine lv_iload_n E.ex E.by dX12_findUntil_18 rfl (lv_at hl 4 rfl) ?_
    refine k_cSi (X := (wM kc a σ)) (w := []) (Z := []) (wnew := (fun _ : Unit => (wM kc a σ))) (As := [.int p2, .int p3]) (rest := []) E (List.append_nil _).symm G (c_X12_has l D kc _ _ _ h) gX12_findUntil_X12_has rfl ⟨rfl, rfl⟩ hd_X12_has_v ⟨rfl, rfl⟩ rfl hl rfl rfl dX12_findUntil_19 ⟨rfl, rfl⟩ (fun _ => (List.append_nil _).symm) (fun r3 _u19 hq H locs G => ?_)
    have h := hq
    refine lv_if_eq (tgt := 44) E.ex E.by dX12_findUntil_22 (by decide) (fun hc11 => ?_) (fun hc11 => ?_)
    · have h := h.1 hc11
      refine lv_aload_n E.ex E.by dX12_findUntil_44 rfl (lv_at hl 1 rfl) ?_
      refine lv_aload_n E.ex E.by dX12_findUntil_45 rfl (lv_at hl 1 rfl) ?_
      refine k_cVi (X := []) (w := (wM kc a σ)) (Z := []) (wnew := (fun _ : Unit => (wM kc a σ))) (As := []) (rest := [.ref (a 0)]) E (List.append_nil _).symm G (c_X12_all l D kc _ _ _ h) gX12_findUntil_X12_all rfl ⟨rfl, rfl⟩ hd_X12_all_v ⟨rfl, rfl⟩ 0 (gM_0 _ _ _) rfl rfl hl rfl rfl dX12_findUntil_46 ⟨rfl, rfl⟩ (fun _ => (List.append_nil _).symm) (fun r4 _u46 hq H locs G => ?_)
      have h := hq
      refine lv_iload E.ex E.by dX12_findUntil_49 (lv_at hl 0 rfl) ?_
      refine lv_iconst (v := (-1)) E.ex E.by dX12_findUntil_51 (by decide) ?_
      refine lv_ixor E.ex E.by dX12_findUntil_52 ?_
      refine lv_iand E.ex E.by dX12_findUntil_53 ?_
      refine lv_iload_n E.ex E.by dX12_findUntil_54 rfl (lv_at hl 3 rfl) ?_
      refine lv_iconst (v := (-1)) E.ex E.by dX12_findUntil_55 (by decide) ?_
      refine lv_ixor E.ex E.by dX12_findUntil_56 ?_
      refine lv_iand E.ex E.by dX12_findUntil_57 ?_
      refine k_cVv (X := []) (w := (wM kc a σ)) (Z := []) (wnew := (fun u : US => (wM kc a u))) (As := [.int ((r4 &&& (r1 ^^^ (-1))) &&& (p2 ^^^ (-1)))]) (rest := []) E (List.append_nil _).symm G (c_X12_begin l D kc _ _ _ _ h) gX12_findUntil_X12_begin rfl ⟨rfl, rfl⟩ hd_X12_begin_v ⟨rfl, rfl⟩ 0 (gM_0 _ _ _) rfl rfl hl rfl rfl dX12_findUntil_58 ⟨rfl, rfl⟩ (fun _ => (List.append_nil _).symm) (fun u5 hq H locs G => ?_)
      have h := hq
      refine lv_iconst (v := 0) E.ex E.by dX12_findUntil_61 (by decide) ?_
      refine lv_istore (lv' := [(5, .int 0), (4, .int r1), (0, .ref (a 0)), (1, .int p1), (2, .int p2), (3, .int p3)]) E.ex E.by dX12_findUntil_62 hl (by decide) rfl (fun ls hl => ?_)
      refine lpW_ind (fun t6 : Int32 × US => ∀ (H : Heap) (locs : List Loc) (ls : Array Slot), kG D (va_A (wM kc a σ) s.heap.size) s (wM kc a t6.2) H locs → lv_has ls 6 [(0, .ref (a 0)), (2, .int p2), (3, .int p3), (5, .int t6.1)] → W p l e _ s m args below meth c H locs _ _ _ (F0 m 64 ls [])) (fun P64 IH64 t6 h H locs ls G hl => ?_) _ h _ _ _ G (lv_sub hl [2, 4, 5, 0] rfl)
      refine lv_iload E.ex E.by dX12_findUntil_64 (lv_at hl 3 rfl) ?_
      refine lv_aload_n E.ex E.by dX12_findUntil_66 rfl (lv_at hl 0 rfl) ?_
      refine k_get E G wi_X12_findUntil_X12 0 (gM_0 _ _ _) rfl 10 rfl fl_X12_findUntil_X12_10 (v := .int (iI t6.2 2)) rfl dX12_findUntil_67 ?_
      refine lv_icmp_ge (tgt := 98) E.ex E.by dX12_findUntil_70 (by decide) (fun hc10 => ?_) (fun hc10 => ?_)
      · have h := h.1 hc10
        refine lv_aload_n E.ex E.by dX12_findUntil_98 rfl (lv_at hl 0 rfl) ?_
        refine lv_iload_n E.ex E.by dX12_findUntil_99 rfl (lv_at hl 2 rfl) ?_
        refine k_cVv (X := []) (w := (wM kc a t6.2)) (Z := []) (wnew := (fun u : US => (wM kc a u))) (As := [.int p3]) (rest := []) E (List.append_nil _).symm G (c_X12_giveSolved l D kc _ _ _ _ h) gX12_findUntil_X12_giveSolved rfl ⟨rfl, rfl⟩ hd_X12_giveSolved_v ⟨rfl, rfl⟩ 0 (gM_0 _ _ _) rfl rfl hl rfl rfl dX12_findUntil_100 ⟨rfl, rfl⟩ (fun _ => (List.append_nil _).symm) (fun u7 hq H locs G => ?_)
        have h := hq
        exact k_retv (wof := (fun u : US => (wM kc a u))) (u := u7) E G h (Nat.le_of_ble_eq_true rfl) (Nat.le_of_ble_eq_true rfl) dX12_findUntil_103
      · have h := h.2 hc10
        refine lv_aload_n E.ex E.by dX12_findUntil_73 rfl (lv_at hl 0 rfl) ?_
        refine lv_iload E.ex E.by dX12_findUntil_74 (lv_at hl 3 rfl) ?_
        refine lv_aload_n E.ex E.by dX12_findUntil_76 rfl (lv_at hl 0 rfl) ?_
        refine lv_aload_n E.ex E.by dX12_findUntil_77 rfl (lv_at hl 0 rfl) ?_
        refine k_get E G wi_X12_findUntil_X12 0 (gM_0 _ _ _) rfl 12 rfl fl_X12_findUntil_X12_12 (v := .ref (a 7)) rfl dX12_findUntil_78 ?_
        refine lv_iload E.ex E.by dX12_findUntil_81 (lv_at hl 3 rfl) ?_
        refine k_iald E G 7 (gM_7 _ _ _) 0 rfl h.1 dX12_findUntil_83 ?_
        have h := h.2
        refine lv_iload_n E.ex E.by dX12_findUntil_84 rfl (lv_at hl 1 rfl) ?_
        refine k_cVi (X := []) (w := (wM kc a t6.2)) (Z := []) (wnew := (fun _ : Unit => (wM kc a t6.2))) (As := [.int (aA t6.2 5 (t6.1).toNatClampNeg), .int p2]) (rest := [.int t6.1, .ref (a 0)]) E (List.append_nil _).symm G (c_X12_weightInto l D kc _ _ _ _ _ h) gX12_findUntil_X12_weightInto rfl ⟨rfl, rfl⟩ hd_X12_weightInto_v ⟨rfl, rfl⟩ 0 (gM_0 _ _ _) rfl rfl hl rfl rfl dX12_findUntil_85 ⟨rfl, rfl⟩ (fun _ => (List.append_nil _).symm) (fun r8 _u85 hq H locs G => ?_)
        have h := hq
        refine lv_i2l E.ex E.by dX12_findUntil_88 rfl ?_
        refine k_cVv (X := []) (w := (wM kc a t6.2)) (Z := []) (wnew := (fun u : US => (wM kc a u))) (As := [.int t6.1, .long (r8.toInt64)]) (rest := []) E (List.append_nil _).symm G (c_X12_right l D kc _ _ _ _ _ h) gX12_findUntil_X12_right rfl ⟨rfl, rfl⟩ hd_X12_right_v ⟨rfl, rfl⟩ 0 (gM_0 _ _ _) rfl rfl hl rfl rfl dX12_findUntil_89 ⟨rfl, rfl⟩ (fun _ => (List.append_nil _).symm) (fun u9 hq H locs G => ?_)
        have h := hq
        refine lv_iinc (k := 3) (v := t6.1 + 1) (lv' := [(5, .int (t6.1 + 1)), (0, .ref (a 0)), (2, .int p2), (3, .int p3)]) E.ex E.by dX12_findUntil_92 hl rfl (k_inc1 _) (by decide) rfl (fun ls hl => ?_)
        refine lv_goto (tgt := 64) E.ex E.by dX12_findUntil_95 (by decide) ?_
        exact IH64 _ h _ _ _ G (lv_sub hl [1, 2, 3, 0] rfl)
    · have h := h.2 hc11
      exact K25 _ _ _ _ G (lv_sub hl [1, 3, 4] rfl) h
theorem wi_X12_multiple_X12 : ∀ w ∈ wsX120, w ∈ wsX12_multiple := fun w h => List.mem_cons_of_mem _ (List.mem_append_right _ (h))
theorem fl_X12_multiple_X12_0 : Cond.fieldLink RX12 9 (TX12 0).1 (TX12 0).2.1 (TX12 0).2.2.1 ∈ wsX12_multiple := List.mem_of_getElem? (i := 1) (by decide +kernel)
def wp_X12_multiple_L4 (σ : US) (Q : Int64 → Prop) (P4 : (Int64 × Int32) → Prop) (t4 : Int64 × Int32) : Prop := vp_in 0 81 ∧ (((aA σ 0 (0 : Int32).toNatClampNeg) ≤ t4.2 → Q t4.1) ∧ (¬ (aA σ 0 (0 : Int32).toNatClampNeg) ≤ t4.2 → wp_X12_sumOf t4.2 σ (fun (r1 : Int32) => wp_X12_common t4.1 (r1.toInt64) (fun (r2 : Int64) => (¬ r2 = (0 : Int64)) ∧ (wp_X12_sumOf t4.2 σ (fun (r3 : Int32) => ∀ x4 : Int64, x4 = (t4.1 / r2) * (r3.toInt64) → P4 (x4, t4.2 + 1)))))))
def wp_X12_multiple (σ : US) (Q : Int64 → Prop) : Prop := lpW (wp_X12_multiple_L4 σ Q) (1, 0)
set_option maxRecDepth 100000 in
set_option maxHeartbeats 4000000 in
theorem c_X12_multiple (l : Launch) (D : va_G) (kc : Nat → ClassId) (a : Nat → Nat)  (σ : US) (Q : Int64 → Prop) (h : wp_X12_multiple σ Q) : kCl l D (tyL kc) yX12_multiple wsX12_multiple ({ frames := 2, cells := 0, slots := 0, locals := 51 } : Room) [.ref (a 0)] (wM kc a σ) (fun _ : Unit => (wM kc a σ)) 0 0 (fun r _ => Q r) := by
  intro sz
  refine k_begin (cc := cX12_multiple) (maxL := 4) (ret := (some .long)) (by decide +kernel) rfl rfl (fun p e s m args below meth c hsz E G ls hl => ?_)
  subst hsz
  have hl : lv_has ls 4 [(0, .ref (a 0))] := hl
  refine lv_lconst (v := 1) E.ex E.by dX12_multiple_0 (by decide) ?_
  refine lv_lstore_n (lv' := [(1, .long 1), (0, .ref (a 0))]) E.ex E.by dX12_multiple_1 rfl hl (by decide) rfl (fun ls hl => ?_)
  refine lv_iconst (v := 0) E.ex E.by dX12_multiple_2 (by decide) ?_
  refine lv_istore_n (lv' := [(3, .int 0), (1, .long 1), (0, .ref (a 0))]) E.ex E.by dX12_multiple_3 rfl hl (by decide) rfl (fun ls hl => ?_)
  refine lpW_ind (fun t1 : Int64 × Int32 => ∀ (H : Heap) (locs : List Loc) (ls : Array Slot), kG D (va_A (wM kc a σ) s.heap.size) s (wM kc a σ) H locs → lv_has ls 4 [(0, .ref (a 0)), (1, .long t1.1), (3, .int t1.2)] → W p l e _ s m args below meth c H locs _ _ _ (F0 m 4 ls [])) (fun P4 IH4 t1 h H locs ls G hl => ?_) _ h _ _ _ G (lv_sub hl [2, 1, 0] rfl)
  refine lv_iload_n E.ex E.by dX12_multiple_4 rfl (lv_at hl 2 rfl) ?_
  refine lv_aload_n E.ex E.by dX12_multiple_5 rfl (lv_at hl 0 rfl) ?_
  refine k_get E G wi_X12_multiple_X12 0 (gM_0 _ _ _) rfl 0 rfl fl_X12_multiple_X12_0 (v := .ref (a 1)) rfl dX12_multiple_6 ?_
  refine lv_iconst (v := 0) E.ex E.by dX12_multiple_9 (by decide) ?_
  refine k_iald E G 1 (gM_1 _ _ _) 0 rfl h.1 dX12_multiple_10 ?_
  have h := h.2
  refine lv_icmp_ge (tgt := 40) E.ex E.by dX12_multiple_11 (by decide) (fun hc6 => ?_) (fun hc6 => ?_)
  · have h := h.1 hc6
    refine lv_lload_n E.ex E.by dX12_multiple_40 rfl (lv_at hl 1 rfl) ?_
    exact k_retl (wof := (fun _ : Unit => (wM kc a σ))) (u := ()) E G h (Nat.le_of_ble_eq_true rfl) (Nat.le_of_ble_eq_true rfl) dX12_multiple_41
  · have h := h.2 hc6
    refine lv_lload_n E.ex E.by dX12_multiple_14 rfl (lv_at hl 1 rfl) ?_
    refine lv_lload_n E.ex E.by dX12_multiple_15 rfl (lv_at hl 1 rfl) ?_
    refine lv_aload_n E.ex E.by dX12_multiple_16 rfl (lv_at hl 0 rfl) ?_
    refine lv_iload_n E.ex E.by dX12_multiple_17 rfl (lv_at hl 2 rfl) ?_
    refine k_cVi (X := []) (w := (wM kc a σ)) (Z := []) (wnew := (fun _ : Unit => (wM kc a σ))) (As := [.int t1.2]) (rest := [.long t1.1, .long t1.1]) E (List.append_nil _).symm G (c_X12_sumOf l D kc _ _ _ _ h) gX12_multiple_X12_sumOf rfl ⟨rfl, rfl⟩ hd_X12_sumOf_v ⟨rfl, rfl⟩ 0 (gM_0 _ _ _) rfl rfl hl rfl rfl dX12_multiple_18 ⟨rfl, rfl⟩ (fun _ => (List.append_nil _).symm) (fun r2 _u18 hq H locs G => ?_)
    have h := hq
    refine lv_i2l E.ex E.by dX12_multiple_21 rfl ?_
    refine k_cSl (X := (wM kc a σ)) (w := []) (Z := []) (wnew := (fun _ : Unit => (wM kc a σ))) (As := [.long t1.1, .long (r2.toInt64)]) (rest := [.long t1.1]) E (List.append_nil _).symm G (c_X12_common l D kc _ _ _ h) gX12_multiple_X12_common rfl ⟨rfl, rfl⟩ hd_X12_common_v ⟨rfl, rfl⟩ rfl hl rfl rfl dX12_multiple_22 ⟨rfl, rfl⟩ (fun _ => (List.append_nil _).symm) (fun r3 _u22 hq H locs G => ?_)
    have h := hq
    refine lv_ldiv E.ex E.by dX12_multiple_25 h.1 ?_
    have h := h.2
    refine lv_aload_n E.ex E.by dX12_multiple_26 rfl (lv_at hl 0 rfl) ?_
    refine lv_iload_n E.ex E.by dX12_multiple_27 rfl (lv_at hl 2 rfl) ?_
    refine k_cVi (X := []) (w := (wM kc a σ)) (Z := []) (wnew := (fun _ : Unit => (wM kc a σ))) (As := [.int t1.2]) (rest := [.long (t1.1 / r3)]) E (List.append_nil _).symm G (c_X12_sumOf l D kc _ _ _ _ h) gX12_multiple_X12_sumOf rfl ⟨rfl, rfl⟩ hd_X12_sumOf_v ⟨rfl, rfl⟩ 0 (gM_0 _ _ _) rfl rfl hl rfl rfl dX12_multiple_28 ⟨rfl, rfl⟩ (fun _ => (List.append_nil _).symm) (fun r4 _u28 hq H locs G => ?_)
    have h := hq
    refine lv_i2l E.ex E.by dX12_multiple_31 rfl ?_
    refine lv_lmul E.ex E.by dX12_multiple_32 ?_
    refine lv_topl (fun x5 ex5 => ?_)
    have h := h x5 ex5
    refine lv_lstore_n (lv' := [(1, .long x5), (0, .ref (a 0)), (3, .int t1.2)]) E.ex E.by dX12_multiple_33 rfl hl (by decide) rfl (fun ls hl => ?_)
    refine lv_iinc (k := 2) (v := t1.2 + 1) (lv' := [(3, .int (t1.2 + 1)), (1, .long x5), (0, .ref (a 0))]) E.ex E.by dX12_multiple_34 hl rfl (k_inc1 _) (by decide) rfl (fun ls hl => ?_)
    refine lv_goto (tgt := 4) E.ex E.by dX12_multiple_37 (by decide) ?_
    exact IH4 _ h _ _ _ G (lv_sub hl [2, 1, 0] rfl)
theorem lc_X12_isRefused_214 : Cond.constantLong RX12 214 (1000000000000000) ∈ wsX12_isRefused := List.mem_of_getElem? (i := 1) (by decide +kernel)
theorem hd_X12_multiple_v : yX12_multiple.cls = RX12 ∧ yX12_multiple.cls ≠ "java/lang/invoke/MethodHandle" ∧ yX12_multiple.cls ≠ "java/lang/invoke/VarHandle" ∧ (parseMethodDescriptor yX12_multiple.desc).map (fun d => d.parameters.length) = some 0 := by decide +kernel
def wp_X12_isRefused_J36 (v2j36 : Int64) (σ : US) (Q : Int32 → Prop) : Prop := ((lg_cmp v2j36 1000000000000000) ≤ 0 → Q 0) ∧ (¬ (lg_cmp v2j36 1000000000000000) ≤ 0 → Q 1)
def wp_X12_isRefused_L11 (v4 : Int64) (v1 : Int32) (σ : US) (Q : Int32 → Prop) (P11 : (Int64 × Int32) → Prop) (t11 : Int64 × Int32) : Prop := (v1 ≤ t11.2 → wp_X12_isRefused_J36 t11.1 σ Q) ∧ (¬ v1 ≤ t11.2 → (0 < (lg_cmp t11.1 1000000000000000) → wp_X12_isRefused_J36 t11.1 σ Q) ∧ (¬ 0 < (lg_cmp t11.1 1000000000000000) → ∀ x3 : Int64, x3 = t11.1 * v4 → P11 (x3, t11.2 + 1)))
def wp_X12_isRefused (p1 : Int32) (σ : US) (Q : Int32 → Prop) : Prop := wp_X12_multiple σ (fun (r1 : Int64) => lpW (wp_X12_isRefused_L11 r1 p1 σ Q) (1, 0))
set_option maxRecDepth 100000 in
set_option maxHeartbeats 4000000 in
theorem c_X12_isRefused (l : Launch) (D : va_G) (kc : Nat → ClassId) (a : Nat → Nat)  (p1 : Int32) (σ : US) (Q : Int32 → Prop) (h : wp_X12_isRefused p1 σ Q) : kCi l D (tyL kc) yX12_isRefused wsX12_isRefused ({ frames := 3, cells := 0, slots := 0, locals := 74 } : Room) [.ref (a 0), .int p1] (wM kc a σ) (fun _ : Unit => (wM kc a σ)) 0 0 (fun r _ => Q r) := by
  intro sz
  refine k_begin (cc := cX12_isRefused) (maxL := 7) (ret := (some .boolean)) (by decide +kernel) rfl rfl (fun p e s m args below meth c hsz E G ls hl => ?_)
  subst hsz
  have hl : lv_has ls 7 [(0, .ref (a 0)), (1, .int p1)] := hl
  have K36 : ∀ (v2j36 : Int64) (H : Heap) (locs : List Loc) (ls : Array Slot), kG D (va_A (wM kc a σ) s.heap.size) s (wM kc a σ) H locs → lv_has ls 7 [(2, .long v2j36)] → wp_X12_isRefused_J36 v2j36 σ Q → W p l e ({ frames := 3, cells := 0, slots := 0, locals := 74 } : Room) s m args below meth c H locs 0 0 (MQ below (va_Qi (fun r _ => Q r) (kB D (wM kc a σ) s.heap.size (fun _ : Unit => (wM kc a σ))) (va_A (wM kc a σ) s.heap.size)) args s 0 0 (va_A (wM kc a σ) s.heap.size)) (F0 m 36 ls []) := by
    intro v2j36 H locs ls G hl h
    refine lv_lload_n E.ex E.by dX12_isRefused_36 rfl (lv_at hl 0 rfl) ?_
    refine lv_ldc2 (v := 1000000000000000) E.ex E.by E.ow (E.ts _ lc_X12_isRefused_214) dX12_isRefused_37 ?_
    refine W.lcmp E.ex E.by dX12_isRefused_40 ?_
    refine lv_if_le (tgt := 48) E.ex E.by dX12_isRefused_41 (by decide) (fun hc6 => ?_) (fun hc6 => ?_)
    · have h := h.1 hc6
      refine lv_iconst (v := 0) E.ex E.by dX12_isRefused_48 (by decide) ?_
      exact k_ret (wof := (fun _ : Unit => (wM kc a σ))) (u := ()) E G rfl h (Nat.le_of_ble_eq_true rfl) (Nat.le_of_ble_eq_true rfl) dX12_isRefused_49
    · have h := h.2 hc6
      refine lv_iconst (v := 1) E.ex E.by dX12_isRefused_44 (by decide) ?_
      refine lv_goto (tgt := 49) E.ex E.by dX12_isRefused_45 (by decide) ?_
      exact k_ret (wof := (fun _ : Unit => (wM kc a σ))) (u := ()) E G rfl h (Nat.le_of_ble_eq_true rfl) (Nat.le_of_ble_eq_true rfl) dX12_isRefused_49
  refine lv_lconst (v := 1) E.ex E.by dX12_isRefused_0 (by decide) ?_
  refine lv_lstore_n (lv' := [(2, .long 1), (0, .ref (a 0)), (1, .int p1)]) E.ex E.by dX12_isRefused_1 rfl hl (by decide) rfl (fun ls hl => ?_)
  refine lv_aload_n E.ex E.by dX12_isRefused_2 rfl (lv_at hl 1 rfl) ?_
  refine k_cVl (X := []) (w := (wM kc a σ)) (Z := []) (wnew := (fun _ : Unit => (wM kc a σ))) (As := []) (rest := []) E (List.append_nil _).symm G (c_X12_multiple l D kc _ _ _ h) gX12_isRefused_X12_multiple rfl ⟨rfl, rfl⟩ hd_X12_multiple_v ⟨rfl, rfl⟩ 0 (gM_0 _ _ _) rfl rfl hl rfl rfl dX12_isRefused_3 ⟨rfl, rfl⟩ (fun _ => (List.append_nil _).symm) (fun r1 _u3 hq H locs G => ?_)
  have h := hq
  refine lv_lstore (lv' := [(4, .long r1), (2, .long 1), (0, .ref (a 0)), (1, .int p1)]) E.ex E.by dX12_isRefused_6 hl (by decide) rfl (fun ls hl => ?_)
  refine lv_iconst (v := 0) E.ex E.by dX12_isRefused_8 (by decide) ?_
  refine lv_istore (lv' := [(6, .int 0), (4, .long r1), (2, .long 1), (0, .ref (a 0)), (1, .int p1)]) E.ex E.by dX12_isRefused_9 hl (by decide) rfl (fun ls hl => ?_)
  refine lpW_ind (fun t2 : Int64 × Int32 => ∀ (H : Heap) (locs : List Loc) (ls : Array Slot), kG D (va_A (wM kc a σ) s.heap.size) s (wM kc a σ) H locs → lv_has ls 7 [(1, .int p1), (2, .long t2.1), (4, .long r1), (6, .int t2.2)] → W p l e _ s m args below meth c H locs _ _ _ (F0 m 11 ls [])) (fun P11 IH11 t2 h H locs ls G hl => ?_) _ h _ _ _ G (lv_sub hl [4, 2, 1, 0] rfl)
  refine lv_iload E.ex E.by dX12_isRefused_11 (lv_at hl 3 rfl) ?_
  refine lv_iload_n E.ex E.by dX12_isRefused_13 rfl (lv_at hl 0 rfl) ?_
  refine lv_icmp_ge (tgt := 36) E.ex E.by dX12_isRefused_14 (by decide) (fun hc5 => ?_) (fun hc5 => ?_)
  · have h := h.1 hc5
    exact K36 _ _ _ _ G (lv_sub hl [1] rfl) h
  · have h := h.2 hc5
    refine lv_lload_n E.ex E.by dX12_isRefused_17 rfl (lv_at hl 1 rfl) ?_
    refine lv_ldc2 (v := 1000000000000000) E.ex E.by E.ow (E.ts _ lc_X12_isRefused_214) dX12_isRefused_18 ?_
    refine W.lcmp E.ex E.by dX12_isRefused_21 ?_
    refine lv_if_gt (tgt := 36) E.ex E.by dX12_isRefused_22 (by decide) (fun hc4 => ?_) (fun hc4 => ?_)
    · have h := h.1 hc4
      exact K36 _ _ _ _ G (lv_sub hl [1] rfl) h
    · have h := h.2 hc4
      refine lv_lload_n E.ex E.by dX12_isRefused_25 rfl (lv_at hl 1 rfl) ?_
      refine lv_lload E.ex E.by dX12_isRefused_26 (lv_at hl 2 rfl) ?_
      refine lv_lmul E.ex E.by dX12_isRefused_28 ?_
      refine lv_topl (fun x3 ex3 => ?_)
      have h := h x3 ex3
      refine lv_lstore_n (lv' := [(2, .long x3), (1, .int p1), (4, .long r1), (6, .int t2.2)]) E.ex E.by dX12_isRefused_29 rfl hl (by decide) rfl (fun ls hl => ?_)
      refine lv_iinc (k := 3) (v := t2.2 + 1) (lv' := [(6, .int (t2.2 + 1)), (2, .long x3), (1, .int p1), (4, .long r1)]) E.ex E.by dX12_isRefused_30 hl rfl (k_inc1 _) (by decide) rfl (fun ls hl => ?_)
      refine lv_goto (tgt := 11) E.ex E.by dX12_isRefused_33 (by decide) ?_
      exact IH11 _ h _ _ _ G (lv_sub hl [2, 1, 3, 0] rfl)
theorem wi_X12_findWithin_X12 : ∀ w ∈ wsX120, w ∈ wsX12_findWithin := fun w h => List.mem_cons_of_mem _ (List.mem_append_right _ (h))
theorem fl_X12_findWithin_X12_0 : Cond.fieldLink RX12 9 (TX12 0).1 (TX12 0).2.1 (TX12 0).2.2.1 ∈ wsX12_findWithin := List.mem_of_getElem? (i := 1) (by decide +kernel)
theorem fl_X12_findWithin_X12_13 : Cond.fieldLink RX12 32 (TX12 13).1 (TX12 13).2.1 (TX12 13).2.2.1 ∈ wsX12_findWithin := List.mem_of_getElem? (i := 2) (by decide +kernel)
theorem fl_X12_findWithin_X12_14 : Cond.fieldLink RX12 35 (TX12 14).1 (TX12 14).2.1 (TX12 14).2.2.1 ∈ wsX12_findWithin := List.mem_of_getElem? (i := 3) (by decide +kernel)
theorem la_X12_findWithin_94 : Cond.methodLink RX12 94 arraycopyName ∈ wsX12_findWithin := List.mem_of_getElem? (i := 4) (by decide +kernel)
theorem lan_X12_findWithin : Cond.native arraycopyName ∈ wsX12_findWithin := List.mem_of_getElem? (i := 5) (by decide +kernel)
theorem las_X12_findWithin : Cond.static arraycopyName ∈ wsX12_findWithin := List.mem_of_getElem? (i := 6) (by decide +kernel)
theorem lai_X12_findWithin : Cond.initialized "java/lang/System" ∈ wsX12_findWithin := List.mem_of_getElem? (i := 7) (by decide +kernel)
def wp_X12_findWithin_L105 (v1 : Int32) (v2 : Int32) (v3 : Int32) (v4 : Int32) (v5 : Int64) (v7 : Int64) (v9 : Int32) (v10 : Int32) (P12 : (Int32 × US) → Prop) (P53 : (Int64 × Int32 × US) → Prop) (P69 : (Int32 × US) → Prop) (Q : US → Prop) (P105 : (Int32 × US) → Prop) (t105 : Int32 × US) : Prop := vp_in 0 81 ∧ (((aA t105.2 0 (0 : Int32).toNatClampNeg) ≤ t105.1 → P69 (v10 + 1, t105.2)) ∧ (¬ (aA t105.2 0 (0 : Int32).toNatClampNeg) ≤ t105.1 → wp_X12_has (v1 &&& (v2 ^^^ (-1))) v10 (fun (r7 : Int32) => (r7 = 0 → P69 (v10 + 1, t105.2)) ∧ (¬ r7 = 0 → vp_in v10 8 ∧ (wp_X12_weightOf v10 t105.1 t105.2 (fun (r8 : Int32) => wp_X12_sumOf v10 t105.2 (fun (r9 : Int32) => (¬ (r9.toInt64) = (0 : Int64)) ∧ (vp_in t105.1 8 ∧ (vp_in v10 8 ∧ (∀ z10 : US, z10 = uB t105.2 2 (v10).toNatClampNeg ((aB t105.2 2 (v10).toNatClampNeg) + (((r8.toInt64) * (v5 / (r9.toInt64))) * (aB t105.2 1 (t105.1).toNatClampNeg))) → P105 (t105.1 + 1, z10)))))))))))
def wp_X12_findWithin_L69 (v7 : Int64) (v1 : Int32) (v2 : Int32) (v3 : Int32) (v4 : Int32) (v5 : Int64) (v9 : Int32) (P12 : (Int32 × US) → Prop) (P53 : (Int64 × Int32 × US) → Prop) (Q : US → Prop) (P69 : (Int32 × US) → Prop) (t69 : Int32 × US) : Prop := vp_in 0 81 ∧ (((aA t69.2 0 (0 : Int32).toNatClampNeg) ≤ t69.1 → (¬ (0 : Int32) < 0) ∧ (¬ (0 : Int32) < 0) ∧ (¬ (8 : Int32) < 0) ∧ (0 : Int32).toNatClampNeg + (8 : Int32).toNatClampNeg ≤ 8 ∧ (0 : Int32).toNatClampNeg + (8 : Int32).toNatClampNeg ≤ 8 ∧ (∀ z4 : US, z4 = sB t69.2 1 (va_cpy (aB t69.2 2) (aB t69.2 1) (0 : Int32).toNatClampNeg (0 : Int32).toNatClampNeg (8 : Int32).toNatClampNeg) → P53 (v7, v9 + 1, z4))) ∧ (¬ (aA t69.2 0 (0 : Int32).toNatClampNeg) ≤ t69.1 → wp_X12_has v2 t69.1 (fun (r5 : Int32) => (r5 = 0 → vp_in t69.1 8 ∧ (∀ z6 : US, z6 = uB t69.2 2 (t69.1).toNatClampNeg 0 → lpW (wp_X12_findWithin_L105 v1 v2 v3 v4 v5 v7 v9 t69.1 P12 P53 P69 Q) (0, z6))) ∧ (¬ r5 = 0 → vp_in t69.1 8 ∧ (∀ z20 : US, z20 = uB t69.2 2 (t69.1).toNatClampNeg v7 → lpW (wp_X12_findWithin_L105 v1 v2 v3 v4 v5 v7 v9 t69.1 P12 P53 P69 Q) (0, z20))))))
def wp_X12_findWithin_L53 (v1 : Int32) (v2 : Int32) (v3 : Int32) (v4 : Int32) (v5 : Int64) (P12 : (Int32 × US) → Prop) (Q : US → Prop) (P53 : (Int64 × Int32 × US) → Prop) (t53 : Int64 × Int32 × US) : Prop := (v3 ≤ t53.2.1 → vp_in v4 8 ∧ (wp_X12_give (aB t53.2.2 1 (v4).toNatClampNeg) t53.1 t53.2.2 (fun (u2 : US) => Q u2))) ∧ (¬ v3 ≤ t53.2.1 → ∀ x3 : Int64, x3 = t53.1 * v5 → lpW (wp_X12_findWithin_L69 x3 v1 v2 v3 v4 v5 t53.2.1 P12 P53 Q) (0, t53.2.2))
def wp_X12_findWithin_L12 (v7 : Int64) (v5 : Int64) (v1 : Int32) (v2 : Int32) (v3 : Int32) (v4 : Int32) (Q : US → Prop) (P12 : (Int32 × US) → Prop) (t12 : Int32 × US) : Prop := vp_in 0 81 ∧ (((aA t12.2 0 (0 : Int32).toNatClampNeg) ≤ t12.1 → lpW (wp_X12_findWithin_L53 v1 v2 v3 v4 v5 P12 Q) (v7, 0, t12.2)) ∧ (¬ (aA t12.2 0 (0 : Int32).toNatClampNeg) ≤ t12.1 → wp_X12_has v2 t12.1 (fun (r77 : Int32) => (r77 = 0 → vp_in t12.1 8 ∧ (∀ z78 : US, z78 = uB t12.2 1 (t12.1).toNatClampNeg 0 → P12 (t12.1 + 1, z78))) ∧ (¬ r77 = 0 → vp_in t12.1 8 ∧ (∀ z79 : US, z79 = uB t12.2 1 (t12.1).toNatClampNeg 1 → P12 (t12.1 + 1, z79))))))
def wp_X12_findWithin (p1 : Int32) (p2 : Int32) (p3 : Int32) (p4 : Int32) (σ : US) (Q : US → Prop) : Prop := wp_X12_multiple σ (fun (r1 : Int64) => lpW (wp_X12_findWithin_L12 1 r1 p1 p2 p3 p4 Q) (0, σ))
set_option maxRecDepth 100000 in
set_option maxHeartbeats 4000000 in
theorem c_X12_findWithin (l : Launch) (D : va_G) (kc : Nat → ClassId) (a : Nat → Nat)  (p1 : Int32) (p2 : Int32) (p3 : Int32) (p4 : Int32) (σ : US) (Q : US → Prop) (h : wp_X12_findWithin p1 p2 p3 p4 σ Q) : kCv l D (tyL kc) yX12_findWithin wsX12_findWithin ({ frames := 3, cells := 0, slots := 0, locals := 74 } : Room) [.ref (a 0), .int p1, .int p2, .int p3, .int p4] (wM kc a σ) (fun u : US => (wM kc a u)) 0 0 (fun u => Q u) := by
  intro sz
  refine k_begin (cc := cX12_findWithin) (maxL := 12) (ret := none) (by decide +kernel) rfl rfl (fun p e s m args below meth c hsz E G ls hl => ?_)
  subst hsz
  have hl : lv_has ls 12 [(0, .ref (a 0)), (1, .int p1), (2, .int p2), (3, .int p3), (4, .int p4)] := hl
  refine lv_aload_n E.ex E.by dX12_findWithin_0 rfl (lv_at hl 0 rfl) ?_
  refine k_cVl (X := []) (w := (wM kc a σ)) (Z := []) (wnew := (fun _ : Unit => (wM kc a σ))) (As := []) (rest := []) E (List.append_nil _).symm G (c_X12_multiple l D kc _ _ _ h) gX12_findWithin_X12_multiple rfl ⟨rfl, rfl⟩ hd_X12_multiple_v ⟨rfl, rfl⟩ 0 (gM_0 _ _ _) rfl rfl hl rfl rfl dX12_findWithin_1 ⟨rfl, rfl⟩ (fun _ => (List.append_nil _).symm) (fun r1 _u1 hq H locs G => ?_)
  have h := hq
  refine lv_lstore (lv' := [(5, .long r1), (0, .ref (a 0)), (1, .int p1), (2, .int p2), (3, .int p3), (4, .int p4)]) E.ex E.by dX12_findWithin_4 hl (by decide) rfl (fun ls hl => ?_)
  refine lv_lconst (v := 1) E.ex E.by dX12_findWithin_6 (by decide) ?_
  refine lv_lstore (lv' := [(7, .long 1), (5, .long r1), (0, .ref (a 0)), (1, .int p1), (2, .int p2), (3, .int p3), (4, .int p4)]) E.ex E.by dX12_findWithin_7 hl (by decide) rfl (fun ls hl => ?_)
  refine lv_iconst (v := 0) E.ex E.by dX12_findWithin_9 (by decide) ?_
  refine lv_istore (lv' := [(9, .int 0), (7, .long 1), (5, .long r1), (0, .ref (a 0)), (1, .int p1), (2, .int p2), (3, .int p3), (4, .int p4)]) E.ex E.by dX12_findWithin_10 hl (by decide) rfl (fun ls hl => ?_)
  refine lpW_ind (fun t2 : Int32 × US => ∀ (H : Heap) (locs : List Loc) (ls : Array Slot), kG D (va_A (wM kc a σ) s.heap.size) s (wM kc a t2.2) H locs → lv_has ls 12 [(0, .ref (a 0)), (1, .int p1), (2, .int p2), (3, .int p3), (4, .int p4), (5, .long r1), (7, .long 1), (9, .int t2.1)] → W p l e _ s m args below meth c H locs _ _ _ (F0 m 12 ls [])) (fun P12 IH12 t2 h H locs ls G hl => ?_) _ h _ _ _ G (lv_sub hl [3, 4, 5, 6, 7, 2, 1, 0] rfl)
  refine lv_iload E.ex E.by dX12_findWithin_12 (lv_at hl 7 rfl) ?_
  refine lv_aload_n E.ex E.by dX12_findWithin_14 rfl (lv_at hl 0 rfl) ?_
  refine k_get E G wi_X12_findWithin_X12 0 (gM_0 _ _ _) rfl 0 rfl fl_X12_findWithin_X12_0 (v := .ref (a 1)) rfl dX12_findWithin_15 ?_
  refine lv_iconst (v := 0) E.ex E.by dX12_findWithin_18 (by decide) ?_
  refine k_iald E G 1 (gM_1 _ _ _) 0 rfl h.1 dX12_findWithin_19 ?_
  have h := h.2
  refine lv_icmp_ge (tgt := 50) E.ex E.by dX12_findWithin_20 (by decide) (fun hc32 => ?_) (fun hc32 => ?_)
  · have h := h.1 hc32
    refine lv_iconst (v := 0) E.ex E.by dX12_findWithin_50 (by decide) ?_
    refine lv_istore (lv' := [(9, .int 0), (0, .ref (a 0)), (1, .int p1), (2, .int p2), (3, .int p3), (4, .int p4), (5, .long r1), (7, .long 1)]) E.ex E.by dX12_findWithin_51 hl (by decide) rfl (fun ls hl => ?_)
    refine lpW_ind (fun t3 : Int64 × Int32 × US => ∀ (H : Heap) (locs : List Loc) (ls : Array Slot), kG D (va_A (wM kc a σ) s.heap.size) s (wM kc a t3.2.2) H locs → lv_has ls 12 [(0, .ref (a 0)), (1, .int p1), (2, .int p2), (3, .int p3), (4, .int p4), (5, .long r1), (7, .long t3.1), (9, .int t3.2.1)] → W p l e _ s m args below meth c H locs _ _ _ (F0 m 53 ls [])) (fun P53 IH53 t3 h H locs ls G hl => ?_) _ h _ _ _ G (lv_sub hl [1, 2, 3, 4, 5, 6, 7, 0] rfl)
    refine lv_iload E.ex E.by dX12_findWithin_53 (lv_at hl 7 rfl) ?_
    refine lv_iload_n E.ex E.by dX12_findWithin_55 rfl (lv_at hl 3 rfl) ?_
    refine lv_icmp_ge (tgt := 200) E.ex E.by dX12_findWithin_56 (by decide) (fun hc27 => ?_) (fun hc27 => ?_)
    · have h := h.1 hc27
      refine lv_aload_n E.ex E.by dX12_findWithin_200 rfl (lv_at hl 0 rfl) ?_
      refine lv_aload_n E.ex E.by dX12_findWithin_201 rfl (lv_at hl 0 rfl) ?_
      refine k_get E G wi_X12_findWithin_X12 0 (gM_0 _ _ _) rfl 13 rfl fl_X12_findWithin_X12_13 (v := .ref (a 8)) rfl dX12_findWithin_202 ?_
      refine lv_iload E.ex E.by dX12_findWithin_205 (lv_at hl 4 rfl) ?_
      refine k_lald E G 8 (gM_8 _ _ _) 1 rfl h.1 dX12_findWithin_207 ?_
      have h := h.2
      refine lv_lload E.ex E.by dX12_findWithin_208 (lv_at hl 6 rfl) ?_
      refine k_cVv (X := []) (w := (wM kc a t3.2.2)) (Z := []) (wnew := (fun u : US => (wM kc a u))) (As := [.long (aB t3.2.2 1 (p4).toNatClampNeg), .long t3.1]) (rest := []) E (List.append_nil _).symm G (c_X12_give l D kc _ _ _ _ _ h) gX12_findWithin_X12_give rfl ⟨rfl, rfl⟩ hd_X12_give_v ⟨rfl, rfl⟩ 0 (gM_0 _ _ _) rfl rfl hl rfl rfl dX12_findWithin_210 ⟨rfl, rfl⟩ (fun _ => (List.append_nil _).symm) (fun u4 hq H locs G => ?_)
      have h := hq
      exact k_retv (wof := (fun u : US => (wM kc a u))) (u := u4) E G h (Nat.le_of_ble_eq_true rfl) (Nat.le_of_ble_eq_true rfl) dX12_findWithin_213
    · have h := h.2 hc27
      refine lv_lload E.ex E.by dX12_findWithin_59 (lv_at hl 6 rfl) ?_
      refine lv_lload E.ex E.by dX12_findWithin_61 (lv_at hl 5 rfl) ?_
      refine lv_lmul E.ex E.by dX12_findWithin_63 ?_
      refine lv_topl (fun x5 ex5 => ?_)
      have h := h x5 ex5
      refine lv_lstore (lv' := [(7, .long x5), (0, .ref (a 0)), (1, .int p1), (2, .int p2), (3, .int p3), (4, .int p4), (5, .long r1), (9, .int t3.2.1)]) E.ex E.by dX12_findWithin_64 hl (by decide) rfl (fun ls hl => ?_)
      refine lv_iconst (v := 0) E.ex E.by dX12_findWithin_66 (by decide) ?_
      refine lv_istore (lv' := [(10, .int 0), (7, .long x5), (0, .ref (a 0)), (1, .int p1), (2, .int p2), (3, .int p3), (4, .int p4), (5, .long r1), (9, .int t3.2.1)]) E.ex E.by dX12_findWithin_67 hl (by decide) rfl (fun ls hl => ?_)
      refine lpW_ind (fun t6 : Int32 × US => ∀ (H : Heap) (locs : List Loc) (ls : Array Slot), kG D (va_A (wM kc a σ) s.heap.size) s (wM kc a t6.2) H locs → lv_has ls 12 [(0, .ref (a 0)), (1, .int p1), (2, .int p2), (3, .int p3), (4, .int p4), (5, .long r1), (7, .long x5), (9, .int t3.2.1), (10, .int t6.1)] → W p l e _ s m args below meth c H locs _ _ _ (F0 m 69 ls [])) (fun P69 IH69 t6 h H locs ls G hl => ?_) _ h _ _ _ G (lv_sub hl [2, 3, 4, 5, 6, 7, 1, 8, 0] rfl)
      refine lv_iload E.ex E.by dX12_findWithin_69 (lv_at hl 8 rfl) ?_
      refine lv_aload_n E.ex E.by dX12_findWithin_71 rfl (lv_at hl 0 rfl) ?_
      refine k_get E G wi_X12_findWithin_X12 0 (gM_0 _ _ _) rfl 0 rfl fl_X12_findWithin_X12_0 (v := .ref (a 1)) rfl dX12_findWithin_72 ?_
      refine lv_iconst (v := 0) E.ex E.by dX12_findWithin_75 (by decide) ?_
      refine k_iald E G 1 (gM_1 _ _ _) 0 rfl h.1 dX12_findWithin_76 ?_
      have h := h.2
      refine lv_icmp_ge (tgt := 179) E.ex E.by dX12_findWithin_77 (by decide) (fun hc26 => ?_) (fun hc26 => ?_)
      · have h := h.1 hc26
        refine lv_aload_n E.ex E.by dX12_findWithin_179 rfl (lv_at hl 0 rfl) ?_
        refine k_get E G wi_X12_findWithin_X12 0 (gM_0 _ _ _) rfl 14 rfl fl_X12_findWithin_X12_14 (v := .ref (a 9)) rfl dX12_findWithin_180 ?_
        refine lv_iconst (v := 0) E.ex E.by dX12_findWithin_183 (by decide) ?_
        refine lv_aload_n E.ex E.by dX12_findWithin_184 rfl (lv_at hl 0 rfl) ?_
        refine k_get E G wi_X12_findWithin_X12 0 (gM_0 _ _ _) rfl 13 rfl fl_X12_findWithin_X12_13 (v := .ref (a 8)) rfl dX12_findWithin_185 ?_
        refine lv_iconst (v := 0) E.ex E.by dX12_findWithin_188 (by decide) ?_
        refine lv_bipush (v := 8) E.ex E.by dX12_findWithin_189 (by decide) ?_
        refine k_copyl (fun z => (wM kc a z)) E G la_X12_findWithin_94 lan_X12_findWithin las_X12_findWithin lai_X12_findWithin 9 8 (gM_9 _ _ _) (gM_8 _ _ _) 1 ⟨rfl, rfl⟩ hl h.1 h.2.1 h.2.2.1 h.2.2.2.1 h.2.2.2.2.1 rfl ⟨rfl, rfl⟩ dX12_findWithin_191 (sB t6.2 1 (va_cpy (aB t6.2 2) (aB t6.2 1) (0 : Int32).toNatClampNeg (0 : Int32).toNatClampNeg (8 : Int32).toNatClampNeg)) (sM_8 _ _ _ _) (fun z7 ez7 H locs G => ?_)
        have h := h.2.2.2.2.2 z7 ez7
        refine lv_iinc (k := 7) (v := t3.2.1 + 1) (lv' := [(9, .int (t3.2.1 + 1)), (0, .ref (a 0)), (1, .int p1), (2, .int p2), (3, .int p3), (4, .int p4), (5, .long r1), (7, .long x5), (10, .int t6.1)]) E.ex E.by dX12_findWithin_194 hl rfl (k_inc1 _) (by decide) rfl (fun ls hl => ?_)
        refine lv_goto (tgt := 53) E.ex E.by dX12_findWithin_197 (by decide) ?_
        exact IH53 _ h _ _ _ G (lv_sub hl [1, 2, 3, 4, 5, 6, 7, 0] rfl)
      · have h := h.2 hc26
        refine lv_aload_n E.ex E.by dX12_findWithin_80 rfl (lv_at hl 0 rfl) ?_
        refine k_get E G wi_X12_findWithin_X12 0 (gM_0 _ _ _) rfl 14 rfl fl_X12_findWithin_X12_14 (v := .ref (a 9)) rfl dX12_findWithin_81 ?_
        refine lv_iload E.ex E.by dX12_findWithin_84 (lv_at hl 8 rfl) ?_
        refine lv_iload_n E.ex E.by dX12_findWithin_86 rfl (lv_at hl 2 rfl) ?_
        refine lv_iload E.ex E.by dX12_findWithin_87 (lv_at hl 8 rfl) ?_
        refine k_cSi (X := (wM kc a t6.2)) (w := []) (Z := []) (wnew := (fun _ : Unit => (wM kc a t6.2))) (As := [.int p2, .int t6.1]) (rest := [.int t6.1, .ref (a 9)]) E (List.append_nil _).symm G (c_X12_has l D kc _ _ _ h) gX12_findWithin_X12_has rfl ⟨rfl, rfl⟩ hd_X12_has_v ⟨rfl, rfl⟩ rfl hl rfl rfl dX12_findWithin_89 ⟨rfl, rfl⟩ (fun _ => (List.append_nil _).symm) (fun r8 _u89 hq H locs G => ?_)
        have h := hq
        refine lv_if_eq (tgt := 100) E.ex E.by dX12_findWithin_92 (by decide) (fun hc25 => ?_) (fun hc25 => ?_)
        · have h := h.1 hc25
          refine lv_lconst (v := 0) E.ex E.by dX12_findWithin_100 (by decide) ?_
          refine k_last (fun z => (wM kc a z)) E G 9 (gM_9 _ _ _) 1 rfl h.1 (uB t6.2 2 (t6.1).toNatClampNeg 0) (sM_9 _ _ _ _) dX12_findWithin_101 (fun z9 ez9 H locs G => ?_)
          have h := h.2 z9 ez9
          refine lv_iconst (v := 0) E.ex E.by dX12_findWithin_102 (by decide) ?_
          refine lv_istore (lv' := [(11, .int 0), (0, .ref (a 0)), (1, .int p1), (2, .int p2), (3, .int p3), (4, .int p4), (5, .long r1), (7, .long x5), (9, .int t3.2.1), (10, .int t6.1)]) E.ex E.by dX12_findWithin_103 hl (by decide) rfl (fun ls hl => ?_)
          refine lpW_ind (fun t10 : Int32 × US => ∀ (H : Heap) (locs : List Loc) (ls : Array Slot), kG D (va_A (wM kc a σ) s.heap.size) s (wM kc a t10.2) H locs → lv_has ls 12 [(0, .ref (a 0)), (1, .int p1), (2, .int p2), (3, .int p3), (4, .int p4), (5, .long r1), (7, .long x5), (9, .int t3.2.1), (10, .int t6.1), (11, .int t10.1)] → W p l e _ s m args below meth c H locs _ _ _ (F0 m 105 ls [])) (fun P105 IH105 t10 h H locs ls G hl => ?_) _ h _ _ _ G (lv_sub hl [1, 2, 3, 4, 5, 6, 7, 8, 9, 0] rfl)
          refine lv_iload E.ex E.by dX12_findWithin_105 (lv_at hl 9 rfl) ?_
          refine lv_aload_n E.ex E.by dX12_findWithin_107 rfl (lv_at hl 0 rfl) ?_
          refine k_get E G wi_X12_findWithin_X12 0 (gM_0 _ _ _) rfl 0 rfl fl_X12_findWithin_X12_0 (v := .ref (a 1)) rfl dX12_findWithin_108 ?_
          refine lv_iconst (v := 0) E.ex E.by dX12_findWithin_111 (by decide) ?_
          refine k_iald E G 1 (gM_1 _ _ _) 0 rfl h.1 dX12_findWithin_112 ?_
          have h := h.2
          refine lv_icmp_ge (tgt := 173) E.ex E.by dX12_findWithin_113 (by decide) (fun hc16 => ?_) (fun hc16 => ?_)
          · have h := h.1 hc16
            refine lv_iinc (k := 8) (v := t6.1 + 1) (lv' := [(10, .int (t6.1 + 1)), (0, .ref (a 0)), (1, .int p1), (2, .int p2), (3, .int p3), (4, .int p4), (5, .long r1), (7, .long x5), (9, .int t3.2.1), (11, .int t10.1)]) E.ex E.by dX12_findWithin_173 hl rfl (k_inc1 _) (by decide) rfl (fun ls hl => ?_)
            refine lv_goto (tgt := 69) E.ex E.by dX12_findWithin_176 (by decide) ?_
            exact IH69 _ h _ _ _ G (lv_sub hl [1, 2, 3, 4, 5, 6, 7, 8, 0] rfl)
          · have h := h.2 hc16
            refine lv_iload_n E.ex E.by dX12_findWithin_116 rfl (lv_at hl 1 rfl) ?_
            refine lv_iload_n E.ex E.by dX12_findWithin_117 rfl (lv_at hl 2 rfl) ?_
            refine lv_iconst (v := (-1)) E.ex E.by dX12_findWithin_118 (by decide) ?_
            refine lv_ixor E.ex E.by dX12_findWithin_119 ?_
            refine lv_iand E.ex E.by dX12_findWithin_120 ?_
            refine lv_iload E.ex E.by dX12_findWithin_121 (lv_at hl 8 rfl) ?_
            refine k_cSi (X := (wM kc a t10.2)) (w := []) (Z := []) (wnew := (fun _ : Unit => (wM kc a t10.2))) (As := [.int (p1 &&& (p2 ^^^ (-1))), .int t6.1]) (rest := []) E (List.append_nil _).symm G (c_X12_has l D kc _ _ _ h) gX12_findWithin_X12_has rfl ⟨rfl, rfl⟩ hd_X12_has_v ⟨rfl, rfl⟩ rfl hl rfl rfl dX12_findWithin_123 ⟨rfl, rfl⟩ (fun _ => (List.append_nil _).symm) (fun r11 _u123 hq H locs G => ?_)
            have h := hq
            refine lv_if_eq (tgt := 173) E.ex E.by dX12_findWithin_126 (by decide) (fun hc15 => ?_) (fun hc15 => ?_)
            · have h := h.1 hc15
              refine lv_iinc (k := 8) (v := t6.1 + 1) (lv' := [(10, .int (t6.1 + 1)), (0, .ref (a 0)), (1, .int p1), (2, .int p2), (3, .int p3), (4, .int p4), (5, .long r1), (7, .long x5), (9, .int t3.2.1), (11, .int t10.1)]) E.ex E.by dX12_findWithin_173 hl rfl (k_inc1 _) (by decide) rfl (fun ls hl => ?_)
              refine lv_goto (tgt := 69) E.ex E.by dX12_findWithin_176 (by decide) ?_
              exact IH69 _ h _ _ _ G (lv_sub hl [1, 2, 3, 4, 5, 6, 7, 8, 0] rfl)
            · have h := h.2 hc15
              refine lv_aload_n E.ex E.by dX12_findWithin_129 rfl (lv_at hl 0 rfl) ?_
              refine k_get E G wi_X12_findWithin_X12 0 (gM_0 _ _ _) rfl 14 rfl fl_X12_findWithin_X12_14 (v := .ref (a 9)) rfl dX12_findWithin_130 ?_
              refine lv_iload E.ex E.by dX12_findWithin_133 (lv_at hl 8 rfl) ?_
              refine lv_dup2_11 E.ex E.by dX12_findWithin_135 rfl rfl ?_
              refine k_lald E G 9 (gM_9 _ _ _) 1 rfl h.1 dX12_findWithin_136 ?_
              have h := h.2
              refine lv_aload_n E.ex E.by dX12_findWithin_137 rfl (lv_at hl 0 rfl) ?_
              refine lv_iload E.ex E.by dX12_findWithin_138 (lv_at hl 8 rfl) ?_
              refine lv_iload E.ex E.by dX12_findWithin_140 (lv_at hl 9 rfl) ?_
              refine k_cVi (X := []) (w := (wM kc a t10.2)) (Z := []) (wnew := (fun _ : Unit => (wM kc a t10.2))) (As := [.int t6.1, .int t10.1]) (rest := [.long (aB t10.2 2 (t6.1).toNatClampNeg), .int t6.1, .ref (a 9)]) E (List.append_nil _).symm G (c_X12_weightOf l D kc _ _ _ _ _ h) gX12_findWithin_X12_weightOf rfl ⟨rfl, rfl⟩ hd_X12_weightOf_v ⟨rfl, rfl⟩ 0 (gM_0 _ _ _) rfl rfl hl rfl rfl dX12_findWithin_142 ⟨rfl, rfl⟩ (fun _ => (List.append_nil _).symm) (fun r12 _u142 hq H locs G => ?_)
              have h := hq
              refine lv_i2l E.ex E.by dX12_findWithin_145 rfl ?_
              refine lv_lload E.ex E.by dX12_findWithin_146 (lv_at hl 5 rfl) ?_
              refine lv_aload_n E.ex E.by dX12_findWithin_148 rfl (lv_at hl 0 rfl) ?_
              refine lv_iload E.ex E.by dX12_findWithin_149 (lv_at hl 8 rfl) ?_
              refine k_cVi (X := []) (w := (wM kc a t10.2)) (Z := []) (wnew := (fun _ : Unit => (wM kc a t10.2))) (As := [.int t6.1]) (rest := [.long r1, .long (r12.toInt64), .long (aB t10.2 2 (t6.1).toNatClampNeg), .int t6.1, .ref (a 9)]) E (List.append_nil _).symm G (c_X12_sumOf l D kc _ _ _ _ h) gX12_findWithin_X12_sumOf rfl ⟨rfl, rfl⟩ hd_X12_sumOf_v ⟨rfl, rfl⟩ 0 (gM_0 _ _ _) rfl rfl hl rfl rfl dX12_findWithin_151 ⟨rfl, rfl⟩ (fun _ => (List.append_nil _).symm) (fun r13 _u151 hq H locs G => ?_)
              have h := hq
              refine lv_i2l E.ex E.by dX12_findWithin_154 rfl ?_
              refine lv_ldiv E.ex E.by dX12_findWithin_155 h.1 ?_
              have h := h.2
              refine lv_lmul E.ex E.by dX12_findWithin_156 ?_
              refine lv_aload_n E.ex E.by dX12_findWithin_157 rfl (lv_at hl 0 rfl) ?_
              refine k_get E G wi_X12_findWithin_X12 0 (gM_0 _ _ _) rfl 13 rfl fl_X12_findWithin_X12_13 (v := .ref (a 8)) rfl dX12_findWithin_158 ?_
              refine lv_iload E.ex E.by dX12_findWithin_161 (lv_at hl 9 rfl) ?_
              refine k_lald E G 8 (gM_8 _ _ _) 1 rfl h.1 dX12_findWithin_163 ?_
              have h := h.2
              refine lv_lmul E.ex E.by dX12_findWithin_164 ?_
              refine lv_ladd E.ex E.by dX12_findWithin_165 ?_
              refine k_last (fun z => (wM kc a z)) E G 9 (gM_9 _ _ _) 1 rfl h.1 (uB t10.2 2 (t6.1).toNatClampNeg ((aB t10.2 2 (t6.1).toNatClampNeg) + (((r12.toInt64) * (r1 / (r13.toInt64))) * (aB t10.2 1 (t10.1).toNatClampNeg)))) (sM_9 _ _ _ _) dX12_findWithin_166 (fun z14 ez14 H locs G => ?_)
              have h := h.2 z14 ez14
              refine lv_iinc (k := 9) (v := t10.1 + 1) (lv' := [(11, .int (t10.1 + 1)), (0, .ref (a 0)), (1, .int p1), (2, .int p2), (3, .int p3), (4, .int p4), (5, .long r1), (7, .long x5), (9, .int t3.2.1), (10, .int t6.1)]) E.ex E.by dX12_findWithin_167 hl rfl (k_inc1 _) (by decide) rfl (fun ls hl => ?_)
              refine lv_goto (tgt := 105) E.ex E.by dX12_findWithin_170 (by decide) ?_
              exact IH105 _ h _ _ _ G (lv_sub hl [1, 2, 3, 4, 5, 6, 7, 8, 9, 0] rfl)
        · have h := h.2 hc25
          refine lv_lload E.ex E.by dX12_findWithin_95 (lv_at hl 6 rfl) ?_
          refine lv_goto (tgt := 101) E.ex E.by dX12_findWithin_97 (by decide) ?_
          refine k_last (fun z => (wM kc a z)) E G 9 (gM_9 _ _ _) 1 rfl h.1 (uB t6.2 2 (t6.1).toNatClampNeg x5) (sM_9 _ _ _ _) dX12_findWithin_101 (fun z17 ez17 H locs G => ?_)
          have h := h.2 z17 ez17
          refine lv_iconst (v := 0) E.ex E.by dX12_findWithin_102 (by decide) ?_
          refine lv_istore (lv' := [(11, .int 0), (0, .ref (a 0)), (1, .int p1), (2, .int p2), (3, .int p3), (4, .int p4), (5, .long r1), (7, .long x5), (9, .int t3.2.1), (10, .int t6.1)]) E.ex E.by dX12_findWithin_103 hl (by decide) rfl (fun ls hl => ?_)
          refine lpW_ind (fun t18 : Int32 × US => ∀ (H : Heap) (locs : List Loc) (ls : Array Slot), kG D (va_A (wM kc a σ) s.heap.size) s (wM kc a t18.2) H locs → lv_has ls 12 [(0, .ref (a 0)), (1, .int p1), (2, .int p2), (3, .int p3), (4, .int p4), (5, .long r1), (7, .long x5), (9, .int t3.2.1), (10, .int t6.1), (11, .int t18.1)] → W p l e _ s m args below meth c H locs _ _ _ (F0 m 105 ls [])) (fun P105 IH105 t18 h H locs ls G hl => ?_) _ h _ _ _ G (lv_sub hl [1, 2, 3, 4, 5, 6, 7, 8, 9, 0] rfl)
          refine lv_iload E.ex E.by dX12_findWithin_105 (lv_at hl 9 rfl) ?_
          refine lv_aload_n E.ex E.by dX12_findWithin_107 rfl (lv_at hl 0 rfl) ?_
          refine k_get E G wi_X12_findWithin_X12 0 (gM_0 _ _ _) rfl 0 rfl fl_X12_findWithin_X12_0 (v := .ref (a 1)) rfl dX12_findWithin_108 ?_
          refine lv_iconst (v := 0) E.ex E.by dX12_findWithin_111 (by decide) ?_
          refine k_iald E G 1 (gM_1 _ _ _) 0 rfl h.1 dX12_findWithin_112 ?_
          have h := h.2
          refine lv_icmp_ge (tgt := 173) E.ex E.by dX12_findWithin_113 (by decide) (fun hc24 => ?_) (fun hc24 => ?_)
          · have h := h.1 hc24
            refine lv_iinc (k := 8) (v := t6.1 + 1) (lv' := [(10, .int (t6.1 + 1)), (0, .ref (a 0)), (1, .int p1), (2, .int p2), (3, .int p3), (4, .int p4), (5, .long r1), (7, .long x5), (9, .int t3.2.1), (11, .int t18.1)]) E.ex E.by dX12_findWithin_173 hl rfl (k_inc1 _) (by decide) rfl (fun ls hl => ?_)
            refine lv_goto (tgt := 69) E.ex E.by dX12_findWithin_176 (by decide) ?_
            exact IH69 _ h _ _ _ G (lv_sub hl [1, 2, 3, 4, 5, 6, 7, 8, 0] rfl)
          · have h := h.2 hc24
            refine lv_iload_n E.ex E.by dX12_findWithin_116 rfl (lv_at hl 1 rfl) ?_
            refine lv_iload_n E.ex E.by dX12_findWithin_117 rfl (lv_at hl 2 rfl) ?_
            refine lv_iconst (v := (-1)) E.ex E.by dX12_findWithin_118 (by decide) ?_
            refine lv_ixor E.ex E.by dX12_findWithin_119 ?_
            refine lv_iand E.ex E.by dX12_findWithin_120 ?_
            refine lv_iload E.ex E.by dX12_findWithin_121 (lv_at hl 8 rfl) ?_
            refine k_cSi (X := (wM kc a t18.2)) (w := []) (Z := []) (wnew := (fun _ : Unit => (wM kc a t18.2))) (As := [.int (p1 &&& (p2 ^^^ (-1))), .int t6.1]) (rest := []) E (List.append_nil _).symm G (c_X12_has l D kc _ _ _ h) gX12_findWithin_X12_has rfl ⟨rfl, rfl⟩ hd_X12_has_v ⟨rfl, rfl⟩ rfl hl rfl rfl dX12_findWithin_123 ⟨rfl, rfl⟩ (fun _ => (List.append_nil _).symm) (fun r19 _u123 hq H locs G => ?_)
            have h := hq
            refine lv_if_eq (tgt := 173) E.ex E.by dX12_findWithin_126 (by decide) (fun hc23 => ?_) (fun hc23 => ?_)
            · have h := h.1 hc23
              refine lv_iinc (k := 8) (v := t6.1 + 1) (lv' := [(10, .int (t6.1 + 1)), (0, .ref (a 0)), (1, .int p1), (2, .int p2), (3, .int p3), (4, .int p4), (5, .long r1), (7, .long x5), (9, .int t3.2.1), (11, .int t18.1)]) E.ex E.by dX12_findWithin_173 hl rfl (k_inc1 _) (by decide) rfl (fun ls hl => ?_)
              refine lv_goto (tgt := 69) E.ex E.by dX12_findWithin_176 (by decide) ?_
              exact IH69 _ h _ _ _ G (lv_sub hl [1, 2, 3, 4, 5, 6, 7, 8, 0] rfl)
            · have h := h.2 hc23
              refine lv_aload_n E.ex E.by dX12_findWithin_129 rfl (lv_at hl 0 rfl) ?_
              refine k_get E G wi_X12_findWithin_X12 0 (gM_0 _ _ _) rfl 14 rfl fl_X12_findWithin_X12_14 (v := .ref (a 9)) rfl dX12_findWithin_130 ?_
              refine lv_iload E.ex E.by dX12_findWithin_133 (lv_at hl 8 rfl) ?_
              refine lv_dup2_11 E.ex E.by dX12_findWithin_135 rfl rfl ?_
              refine k_lald E G 9 (gM_9 _ _ _) 1 rfl h.1 dX12_findWithin_136 ?_
              have h := h.2
              refine lv_aload_n E.ex E.by dX12_findWithin_137 rfl (lv_at hl 0 rfl) ?_
              refine lv_iload E.ex E.by dX12_findWithin_138 (lv_at hl 8 rfl) ?_
              refine lv_iload E.ex E.by dX12_findWithin_140 (lv_at hl 9 rfl) ?_
              refine k_cVi (X := []) (w := (wM kc a t18.2)) (Z := []) (wnew := (fun _ : Unit => (wM kc a t18.2))) (As := [.int t6.1, .int t18.1]) (rest := [.long (aB t18.2 2 (t6.1).toNatClampNeg), .int t6.1, .ref (a 9)]) E (List.append_nil _).symm G (c_X12_weightOf l D kc _ _ _ _ _ h) gX12_findWithin_X12_weightOf rfl ⟨rfl, rfl⟩ hd_X12_weightOf_v ⟨rfl, rfl⟩ 0 (gM_0 _ _ _) rfl rfl hl rfl rfl dX12_findWithin_142 ⟨rfl, rfl⟩ (fun _ => (List.append_nil _).symm) (fun r20 _u142 hq H locs G => ?_)
              have h := hq
              refine lv_i2l E.ex E.by dX12_findWithin_145 rfl ?_
              refine lv_lload E.ex E.by dX12_findWithin_146 (lv_at hl 5 rfl) ?_
              refine lv_aload_n E.ex E.by dX12_findWithin_148 rfl (lv_at hl 0 rfl) ?_
              refine lv_iload E.ex E.by dX12_findWithin_149 (lv_at hl 8 rfl) ?_
              refine k_cVi (X := []) (w := (wM kc a t18.2)) (Z := []) (wnew := (fun _ : Unit => (wM kc a t18.2))) (As := [.int t6.1]) (rest := [.long r1, .long (r20.toInt64), .long (aB t18.2 2 (t6.1).toNatClampNeg), .int t6.1, .ref (a 9)]) E (List.append_nil _).symm G (c_X12_sumOf l D kc _ _ _ _ h) gX12_findWithin_X12_sumOf rfl ⟨rfl, rfl⟩ hd_X12_sumOf_v ⟨rfl, rfl⟩ 0 (gM_0 _ _ _) rfl rfl hl rfl rfl dX12_findWithin_151 ⟨rfl, rfl⟩ (fun _ => (List.append_nil _).symm) (fun r21 _u151 hq H locs G => ?_)
              have h := hq
              refine lv_i2l E.ex E.by dX12_findWithin_154 rfl ?_
              refine lv_ldiv E.ex E.by dX12_findWithin_155 h.1 ?_
              have h := h.2
              refine lv_lmul E.ex E.by dX12_findWithin_156 ?_
              refine lv_aload_n E.ex E.by dX12_findWithin_157 rfl (lv_at hl 0 rfl) ?_
              refine k_get E G wi_X12_findWithin_X12 0 (gM_0 _ _ _) rfl 13 rfl fl_X12_findWithin_X12_13 (v := .ref (a 8)) rfl dX12_findWithin_158 ?_
              refine lv_iload E.ex E.by dX12_findWithin_161 (lv_at hl 9 rfl) ?_
              refine k_lald E G 8 (gM_8 _ _ _) 1 rfl h.1 dX12_findWithin_163 ?_
              have h := h.2
              refine lv_lmul E.ex E.by dX12_findWithin_164 ?_
              refine lv_ladd E.ex E.by dX12_findWithin_165 ?_
              refine k_last (fun z => (wM kc a z)) E G 9 (gM_9 _ _ _) 1 rfl h.1 (uB t18.2 2 (t6.1).toNatClampNeg ((aB t18.2 2 (t6.1).toNatClampNeg) + (((r20.toInt64) * (r1 / (r21.toInt64))) * (aB t18.2 1 (t18.1).toNatClampNeg)))) (sM_9 _ _ _ _) dX12_findWithin_166 (fun z22 ez22 H locs G => ?_)
              have h := h.2 z22 ez22
              refine lv_iinc (k := 9) (v := t18.1 + 1) (lv' := [(11, .int (t18.1 + 1)), (0, .ref (a 0)), (1, .int p1), (2, .int p2), (3, .int p3), (4, .int p4), (5, .long r1), (7, .long x5), (9, .int t3.2.1), (10, .int t6.1)]) E.ex E.by dX12_findWithin_167 hl rfl (k_inc1 _) (by decide) rfl (fun ls hl => ?_)
              refine lv_goto (tgt := 105) E.ex E.by dX12_findWithin_170 (by decide) ?_
              exact IH105 _ h _ _ _ G (lv_sub hl [1, 2, 3, 4, 5, 6, 7, 8, 9, 0] rfl)
  · have h := h.2 hc32
    refine lv_aload_n E.ex E.by dX12_findWithin_23 rfl (lv_at hl 0 rfl) ?_
    refine k_get E G wi_X12_findWithin_X12 0 (gM_0 _ _ _) rfl 13 rfl fl_X12_findWithin_X12_13 (v := .ref (a 8)) rfl dX12_findWithin_24 ?_
    refine lv_iload E.ex E.by dX12_findWithin_27 (lv_at hl 7 rfl) ?_
    refine lv_iload_n E.ex E.by dX12_findWithin_29 rfl (lv_at hl 2 rfl) ?_
    refine lv_iload E.ex E.by dX12_findWithin_30 (lv_at hl 7 rfl) ?_
    refine k_cSi (X := (wM kc a t2.2)) (w := []) (Z := []) (wnew := (fun _ : Unit => (wM kc a t2.2))) (As := [.int p2, .int t2.1]) (rest := [.int t2.1, .ref (a 8)]) E (List.append_nil _).symm G (c_X12_has l D kc _ _ _ h) gX12_findWithin_X12_has rfl ⟨rfl, rfl⟩ hd_X12_has_v ⟨rfl, rfl⟩ rfl hl rfl rfl dX12_findWithin_32 ⟨rfl, rfl⟩ (fun _ => (List.append_nil _).symm) (fun r28 _u32 hq H locs G => ?_)
    have h := hq
    refine lv_if_eq (tgt := 42) E.ex E.by dX12_findWithin_35 (by decide) (fun hc31 => ?_) (fun hc31 => ?_)
    · have h := h.1 hc31
      refine lv_lconst (v := 0) E.ex E.by dX12_findWithin_42 (by decide) ?_
      refine k_last (fun z => (wM kc a z)) E G 8 (gM_8 _ _ _) 1 rfl h.1 (uB t2.2 1 (t2.1).toNatClampNeg 0) (sM_8 _ _ _ _) dX12_findWithin_43 (fun z29 ez29 H locs G => ?_)
      have h := h.2 z29 ez29
      refine lv_iinc (k := 7) (v := t2.1 + 1) (lv' := [(9, .int (t2.1 + 1)), (0, .ref (a 0)), (1, .int p1), (2, .int p2), (3, .int p3), (4, .int p4), (5, .long r1), (7, .long 1)]) E.ex E.by dX12_findWithin_44 hl rfl (k_inc1 _) (by decide) rfl (fun ls hl => ?_)
      refine lv_goto (tgt := 12) E.ex E.by dX12_findWithin_47 (by decide) ?_
      exact IH12 _ h _ _ _ G (lv_sub hl [1, 2, 3, 4, 5, 6, 7, 0] rfl)
    · have h := h.2 hc31
      refine lv_lconst (v := 1) E.ex E.by dX12_findWithin_38 (by decide) ?_
      refine lv_goto (tgt := 43) E.ex E.by dX12_findWithin_39 (by decide) ?_
      refine k_last (fun z => (wM kc a z)) E G 8 (gM_8 _ _ _) 1 rfl h.1 (uB t2.2 1 (t2.1).toNatClampNeg 1) (sM_8 _ _ _ _) dX12_findWithin_43 (fun z30 ez30 H locs G => ?_)
      have h := h.2 z30 ez30
      refine lv_iinc (k := 7) (v := t2.1 + 1) (lv' := [(9, .int (t2.1 + 1)), (0, .ref (a 0)), (1, .int p1), (2, .int p2), (3, .int p3), (4, .int p4), (5, .long r1), (7, .long 1)]) E.ex E.by dX12_findWithin_44 hl rfl (k_inc1 _) (by decide) rfl (fun ls hl => ?_)
      refine lv_goto (tgt := 12) E.ex E.by dX12_findWithin_47 (by decide) ?_
      exact IH12 _ h _ _ _ G (lv_sub hl [1, 2, 3, 4, 5, 6, 7, 0] rfl)
theorem wi_X12_findShares_X12 : ∀ w ∈ wsX120, w ∈ wsX12_findShares := fun w h => List.mem_cons_of_mem _ (List.mem_append_right _ (h))
theorem fl_X12_findShares_X12_0 : Cond.fieldLink RX12 9 (TX12 0).1 (TX12 0).2.1 (TX12 0).2.2.1 ∈ wsX12_findShares := List.mem_of_getElem? (i := 1) (by decide +kernel)
theorem fl_X12_findShares_X12_15 : Cond.fieldLink RX12 38 (TX12 15).1 (TX12 15).2.1 (TX12 15).2.2.1 ∈ wsX12_findShares := List.mem_of_getElem? (i := 2) (by decide +kernel)
theorem fl_X12_findShares_X12_11 : Cond.fieldLink RX12 177 (TX12 11).1 (TX12 11).2.1 (TX12 11).2.2.1 ∈ wsX12_findShares := List.mem_of_getElem? (i := 3) (by decide +kernel)
def wp_X12_findShares_J76 (v1j76 : Int32) (v2j76 : Int64) (v4j76 : Int32) (σ'j76 : US) (s0j76 : Int64) (s1j76 : Int32) (P5 : (Int64 × Int32 × US) → Prop) (Q : Int64 → US → Prop) : Prop := wp_X12_sumOf v4j76 σ'j76 (fun (r5 : Int32) => vp_in s1j76 8 ∧ (∀ z6 : US, z6 = uB σ'j76 3 (s1j76).toNatClampNeg (s0j76 * (r5.toInt64)) → vp_in v4j76 8 ∧ (∀ x7 : Int64, x7 = v2j76 + (aB z6 3 (v4j76).toNatClampNeg) → P5 (x7, v4j76 + 1, z6))))
def wp_X12_findShares_L5 (v1 : Int32) (Q : Int64 → US → Prop) (P5 : (Int64 × Int32 × US) → Prop) (t5 : Int64 × Int32 × US) : Prop := vp_in 0 81 ∧ (((aA t5.2.2 0 (0 : Int32).toNatClampNeg) ≤ t5.2.1 → Q t5.1 t5.2.2) ∧ (¬ (aA t5.2.2 0 (0 : Int32).toNatClampNeg) ≤ t5.2.1 → vp_in t5.2.1 8 ∧ (∀ z1 : US, z1 = uB t5.2.2 3 (t5.2.1).toNatClampNeg 0 → wp_X12_has v1 t5.2.1 (fun (r2 : Int32) => (r2 = 0 → P5 (t5.1, t5.2.1 + 1, z1)) ∧ (¬ r2 = 0 → wp_X12_begin (v1 &&& ((1 <<< (t5.2.1 &&& 31)) ^^^ (-1))) z1 (fun (u3 : US) => wp_X12_solve u3 (fun (u4 : US) => (0 ≤ (lg_cmp (lJ u4 2) 0) → wp_X12_findShares_J76 v1 t5.1 t5.2.1 u4 (lJ u4 2) t5.2.1 P5 Q) ∧ (¬ 0 ≤ (lg_cmp (lJ u4 2) 0) → wp_X12_findShares_J76 v1 t5.1 t5.2.1 u4 (-(lJ u4 2)) t5.2.1 P5 Q))))))))
def wp_X12_findShares (p1 : Int32) (σ : US) (Q : Int64 → US → Prop) : Prop := lpW (wp_X12_findShares_L5 p1 Q) (0, 0, σ)
set_option maxRecDepth 100000 in
set_option maxHeartbeats 4000000 in
theorem c_X12_findShares (l : Launch) (D : va_G) (kc : Nat → ClassId) (a : Nat → Nat)  (p1 : Int32) (σ : US) (Q : Int64 → US → Prop) (h : wp_X12_findShares p1 σ Q) : kCl l D (tyL kc) yX12_findShares wsX12_findShares ({ frames := 3, cells := 0, slots := 0, locals := 76 } : Room) [.ref (a 0), .int p1] (wM kc a σ) (fun u : US => (wM kc a u)) 0 0 (fun r u => Q r u) := by
  intro sz
  refine k_begin (cc := cX12_findShares) (maxL := 5) (ret := (some .long)) (by decide +kernel) rfl rfl (fun p e s m args below meth c hsz E G ls hl => ?_)
  subst hsz
  have hl : lv_has ls 5 [(0, .ref (a 0)), (1, .int p1)] := hl
  refine lv_lconst (v := 0) E.ex E.by dX12_findShares_0 (by decide) ?_
  refine lv_lstore_n (lv' := [(2, .long 0), (0, .ref (a 0)), (1, .int p1)]) E.ex E.by dX12_findShares_1 rfl hl (by decide) rfl (fun ls hl => ?_)
  refine lv_iconst (v := 0) E.ex E.by dX12_findShares_2 (by decide) ?_
  refine lv_istore (lv' := [(4, .int 0), (2, .long 0), (0, .ref (a 0)), (1, .int p1)]) E.ex E.by dX12_findShares_3 hl (by decide) rfl (fun ls hl => ?_)
  refine lpW_ind (fun t1 : Int64 × Int32 × US => ∀ (H : Heap) (locs : List Loc) (ls : Array Slot), kG D (va_A (wM kc a σ) s.heap.size) s (wM kc a t1.2.2) H locs → lv_has ls 5 [(0, .ref (a 0)), (1, .int p1), (2, .long t1.1), (4, .int t1.2.1)] → W p l e _ s m args below meth c H locs _ _ _ (F0 m 5 ls [])) (fun P5 IH5 t1 h H locs ls G hl => ?_) _ h _ _ _ G (lv_sub hl [2, 3, 1, 0] rfl)
  have K76 : ∀ (v2j76 : Int64) (v4j76 : Int32) (σ'j76 : US) (s0j76 : Int64) (s1j76 : Int32) (H : Heap) (locs : List Loc) (ls : Array Slot), kG D (va_A (wM kc a σ) s.heap.size) s (wM kc a σ'j76) H locs → lv_has ls 5 [(0, .ref (a 0)), (1, .int p1), (2, .long v2j76), (4, .int v4j76)] → wp_X12_findShares_J76 p1 v2j76 v4j76 σ'j76 s0j76 s1j76 P5 Q → W p l e ({ frames := 3, cells := 0, slots := 0, locals := 76 } : Room) s m args below meth c H locs 0 0 (MQ below (va_Ql (fun r u => Q r u) (kB D (wM kc a σ) s.heap.size (fun u : US => (wM kc a u))) (va_A (wM kc a σ) s.heap.size)) args s 0 0 (va_A (wM kc a σ) s.heap.size)) (F0 m 76 ls [.long s0j76, .int s1j76, .ref (a 10)]) := by
    intro v2j76 v4j76 σ'j76 s0j76 s1j76 H locs ls G hl h
    refine lv_aload_n E.ex E.by dX12_findShares_76 rfl (lv_at hl 0 rfl) ?_
    refine lv_iload E.ex E.by dX12_findShares_77 (lv_at hl 3 rfl) ?_
    refine k_cVi (X := []) (w := (wM kc a σ'j76)) (Z := []) (wnew := (fun _ : Unit => (wM kc a σ'j76))) (As := [.int v4j76]) (rest := [.long s0j76, .int s1j76, .ref (a 10)]) E (List.append_nil _).symm G (c_X12_sumOf l D kc _ _ _ _ h) gX12_findShares_X12_sumOf rfl ⟨rfl, rfl⟩ hd_X12_sumOf_v ⟨rfl, rfl⟩ 0 (gM_0 _ _ _) rfl rfl hl rfl rfl dX12_findShares_79 ⟨rfl, rfl⟩ (fun _ => (List.append_nil _).symm) (fun r9 _u79 hq H locs G => ?_)
    have h := hq
    refine lv_i2l E.ex E.by dX12_findShares_82 rfl ?_
    refine lv_lmul E.ex E.by dX12_findShares_83 ?_
    refine k_last (fun z => (wM kc a z)) E G 10 (gM_10 _ _ _) 1 rfl h.1 (uB σ'j76 3 (s1j76).toNatClampNeg (s0j76 * (r9.toInt64))) (sM_10 _ _ _ _) dX12_findShares_84 (fun z10 ez10 H locs G => ?_)
    have h := h.2 z10 ez10
    refine lv_lload_n E.ex E.by dX12_findShares_85 rfl (lv_at hl 2 rfl) ?_
    refine lv_aload_n E.ex E.by dX12_findShares_86 rfl (lv_at hl 0 rfl) ?_
    refine k_get E G wi_X12_findShares_X12 0 (gM_0 _ _ _) rfl 15 rfl fl_X12_findShares_X12_15 (v := .ref (a 10)) rfl dX12_findShares_87 ?_
    refine lv_iload E.ex E.by dX12_findShares_90 (lv_at hl 3 rfl) ?_
    refine k_lald E G 10 (gM_10 _ _ _) 1 rfl h.1 dX12_findShares_92 ?_
    have h := h.2
    refine lv_ladd E.ex E.by dX12_findShares_93 ?_
    refine lv_topl (fun x11 ex11 => ?_)
    have h := h x11 ex11
    refine lv_lstore_n (lv' := [(2, .long x11), (0, .ref (a 0)), (1, .int p1), (4, .int v4j76)]) E.ex E.by dX12_findShares_94 rfl hl (by decide) rfl (fun ls hl => ?_)
    refine lv_iinc (k := 3) (v := v4j76 + 1) (lv' := [(4, .int (v4j76 + 1)), (2, .long x11), (0, .ref (a 0)), (1, .int p1)]) E.ex E.by dX12_findShares_95 hl rfl (k_inc1 _) (by decide) rfl (fun ls hl => ?_)
    refine lv_goto (tgt := 5) E.ex E.by dX12_findShares_98 (by decide) ?_
    exact IH5 _ h _ _ _ G (lv_sub hl [2, 3, 1, 0] rfl)
  refine lv_iload E.ex E.by dX12_findShares_5 (lv_at hl 3 rfl) ?_
  refine lv_aload_n E.ex E.by dX12_findShares_7 rfl (lv_at hl 0 rfl) ?_
  refine k_get E G wi_X12_findShares_X12 0 (gM_0 _ _ _) rfl 0 rfl fl_X12_findShares_X12_0 (v := .ref (a 1)) rfl dX12_findShares_8 ?_
  refine lv_iconst (v := 0) E.ex E.by dX12_findShares_11 (by decide) ?_
  refine k_iald E G 1 (gM_1 _ _ _) 0 rfl h.1 dX12_findShares_12 ?_
  have h := h.2
  refine lv_icmp_ge (tgt := 101) E.ex E.by dX12_findShares_13 (by decide) (fun hc8 => ?_) (fun hc8 => ?_)
  · have h := h.1 hc8
    refine lv_lload_n E.ex E.by dX12_findShares_101 rfl (lv_at hl 2 rfl) ?_
    exact k_retl (wof := (fun u : US => (wM kc a u))) (u := t1.2.2) E G h (Nat.le_of_ble_eq_true rfl) (Nat.le_of_ble_eq_true rfl) dX12_findShares_102
  · have h := h.2 hc8
    refine lv_aload_n E.ex E.by dX12_findShares_16 rfl (lv_at hl 0 rfl) ?_
    refine k_get E G wi_X12_findShares_X12 0 (gM_0 _ _ _) rfl 15 rfl fl_X12_findShares_X12_15 (v := .ref (a 10)) rfl dX12_findShares_17 ?_
    refine lv_iload E.ex E.by dX12_findShares_20 (lv_at hl 3 rfl) ?_
    refine lv_lconst (v := 0) E.ex E.by dX12_findShares_22 (by decide) ?_
    refine k_last (fun z => (wM kc a z)) E G 10 (gM_10 _ _ _) 1 rfl h.1 (uB t1.2.2 3 (t1.2.1).toNatClampNeg 0) (sM_10 _ _ _ _) dX12_findShares_23 (fun z2 ez2 H locs G => ?_)
    have h := h.2 z2 ez2
    refine lv_iload_n E.ex E.by dX12_findShares_24 rfl (lv_at hl 1 rfl) ?_
    refine lv_iload E.ex E.by dX12_findShares_25 (lv_at hl 3 rfl) ?_
    refine k_cSi (X := (wM kc a z2)) (w := []) (Z := []) (wnew := (fun _ : Unit => (wM kc a z2))) (As := [.int p1, .int t1.2.1]) (rest := []) E (List.append_nil _).symm G (c_X12_has l D kc _ _ _ h) gX12_findShares_X12_has rfl ⟨rfl, rfl⟩ hd_X12_has_v ⟨rfl, rfl⟩ rfl hl rfl rfl dX12_findShares_27 ⟨rfl, rfl⟩ (fun _ => (List.append_nil _).symm) (fun r3 _u27 hq H locs G => ?_)
    have h := hq
    refine lv_if_eq (tgt := 95) E.ex E.by dX12_findShares_30 (by decide) (fun hc7 => ?_) (fun hc7 => ?_)
    · have h := h.1 hc7
      refine lv_iinc (k := 3) (v := t1.2.1 + 1) (lv' := [(4, .int (t1.2.1 + 1)), (0, .ref (a 0)), (1, .int p1), (2, .long t1.1)]) E.ex E.by dX12_findShares_95 hl rfl (k_inc1 _) (by decide) rfl (fun ls hl => ?_)
      refine lv_goto (tgt := 5) E.ex E.by dX12_findShares_98 (by decide) ?_
      exact IH5 _ h _ _ _ G (lv_sub hl [1, 2, 3, 0] rfl)
    · have h := h.2 hc7
      refine lv_aload_n E.ex E.by dX12_findShares_33 rfl (lv_at hl 0 rfl) ?_
      refine lv_iload_n E.ex E.by dX12_findShares_34 rfl (lv_at hl 1 rfl) ?_
      refine lv_iconst (v := 1) E.ex E.by dX12_findShares_35 (by decide) ?_
      refine lv_iload E.ex E.by dX12_findShares_36 (lv_at hl 3 rfl) ?_
      refine lv_ishl E.ex E.by dX12_findShares_38 ?_
      refine lv_iconst (v := (-1)) E.ex E.by dX12_findShares_39 (by decide) ?_
      refine lv_ixor E.ex E.by dX12_findShares_40 ?_
      refine lv_iand E.ex E.by dX12_findShares_41 ?_
      refine k_cVv (X := []) (w := (wM kc a z2)) (Z := []) (wnew := (fun u : US => (wM kc a u))) (As := [.int (p1 &&& ((1 <<< (t1.2.1 &&& 31)) ^^^ (-1)))]) (rest := []) E (List.append_nil _).symm G (c_X12_begin l D kc _ _ _ _ h) gX12_findShares_X12_begin rfl ⟨rfl, rfl⟩ hd_X12_begin_v ⟨rfl, rfl⟩ 0 (gM_0 _ _ _) rfl rfl hl rfl rfl dX12_findShares_42 ⟨rfl, rfl⟩ (fun _ => (List.append_nil _).symm) (fun u4 hq H locs G => ?_)
      have h := hq
      refine lv_aload_n E.ex E.by dX12_findShares_45 rfl (lv_at hl 0 rfl) ?_
      refine k_cVv (X := []) (w := (wM kc a u4)) (Z := []) (wnew := (fun u : US => (wM kc a u))) (As := []) (rest := []) E (List.append_nil _).symm G (c_X12_solve l D kc _ _ _ h) gX12_findShares_X12_solve rfl ⟨rfl, rfl⟩ hd_X12_solve_v ⟨rfl, rfl⟩ 0 (gM_0 _ _ _) rfl rfl hl rfl rfl dX12_findShares_46 ⟨rfl, rfl⟩ (fun _ => (List.append_nil _).symm) (fun u5 hq H locs G => ?_)
      have h := hq
      refine lv_aload_n E.ex E.by dX12_findShares_49 rfl (lv_at hl 0 rfl) ?_
      refine k_get E G wi_X12_findShares_X12 0 (gM_0 _ _ _) rfl 15 rfl fl_X12_findShares_X12_15 (v := .ref (a 10)) rfl dX12_findShares_50 ?_
      refine lv_iload E.ex E.by dX12_findShares_53 (lv_at hl 3 rfl) ?_
      refine lv_aload_n E.ex E.by dX12_findShares_55 rfl (lv_at hl 0 rfl) ?_
      refine k_get E G wi_X12_findShares_X12 0 (gM_0 _ _ _) rfl 11 rfl fl_X12_findShares_X12_11 (v := .long (lJ u5 2)) rfl dX12_findShares_56 ?_
      refine lv_lconst (v := 0) E.ex E.by dX12_findShares_59 (by decide) ?_
      refine W.lcmp E.ex E.by dX12_findShares_60 ?_
      refine lv_if_ge (tgt := 72) E.ex E.by dX12_findShares_61 (by decide) (fun hc6 => ?_) (fun hc6 => ?_)
      · have h := h.1 hc6
        refine lv_aload_n E.ex E.by dX12_findShares_72 rfl (lv_at hl 0 rfl) ?_
        refine k_get E G wi_X12_findShares_X12 0 (gM_0 _ _ _) rfl 11 rfl fl_X12_findShares_X12_11 (v := .long (lJ u5 2)) rfl dX12_findShares_73 ?_
        exact K76 _ _ _ _ _ _ _ _ G (lv_sub hl [0, 1, 2, 3] rfl) h
      · have h := h.2 hc6
        refine lv_aload_n E.ex E.by dX12_findShares_64 rfl (lv_at hl 0 rfl) ?_
        refine k_get E G wi_X12_findShares_X12 0 (gM_0 _ _ _) rfl 11 rfl fl_X12_findShares_X12_11 (v := .long (lJ u5 2)) rfl dX12_findShares_65 ?_
        refine lv_lneg E.ex E.by dX12_findShares_68 ?_
        refine lv_goto (tgt := 76) E.ex E.by dX12_findShares_69 (by decide) ?_
        exact K76 _ _ _ _ _ _ _ _ G (lv_sub hl [0, 1, 2, 3] rfl) h
theorem wi_X12_findSteady_X12 : ∀ w ∈ wsX120, w ∈ wsX12_findSteady := fun w h => List.mem_cons_of_mem _ (List.mem_append_right _ (h))
theorem fl_X12_findSteady_X12_0 : Cond.fieldLink RX12 9 (TX12 0).1 (TX12 0).2.1 (TX12 0).2.2.1 ∈ wsX12_findSteady := List.mem_of_getElem? (i := 1) (by decide +kernel)
theorem fl_X12_findSteady_X12_7 : Cond.fieldLink RX12 157 (TX12 7).1 (TX12 7).2.1 (TX12 7).2.2.1 ∈ wsX12_findSteady := List.mem_of_getElem? (i := 2) (by decide +kernel)
theorem fl_X12_findSteady_X12_8 : Cond.fieldLink RX12 161 (TX12 8).1 (TX12 8).2.1 (TX12 8).2.2.1 ∈ wsX12_findSteady := List.mem_of_getElem? (i := 3) (by decide +kernel)
theorem fl_X12_findSteady_X12_15 : Cond.fieldLink RX12 38 (TX12 15).1 (TX12 15).2.1 (TX12 15).2.2.1 ∈ wsX12_findSteady := List.mem_of_getElem? (i := 4) (by decide +kernel)
theorem hd_X12_findShares_v : yX12_findShares.cls = RX12 ∧ yX12_findShares.cls ≠ "java/lang/invoke/MethodHandle" ∧ yX12_findShares.cls ≠ "java/lang/invoke/VarHandle" ∧ (parseMethodDescriptor yX12_findShares.desc).map (fun d => d.parameters.length) = some 1 := by decide +kernel
theorem hd_X12_findUntil_v : yX12_findUntil.cls = RX12 ∧ yX12_findUntil.cls ≠ "java/lang/invoke/MethodHandle" ∧ yX12_findUntil.cls ≠ "java/lang/invoke/VarHandle" ∧ (parseMethodDescriptor yX12_findUntil.desc).map (fun d => d.parameters.length) = some 3 := by decide +kernel
def wp_X12_findSteady_L93 (v14 : Int64) (v12 : Int64) (v10 : Int64) (v7 : Int32) (v9 : Int32) (v1 : Int32) (v2 : Int32) (v3 : Int64) (v5 : Int64) (v8 : Int32) (σ' : US) (P11 : (Int64 × Int64 × Int32 × Int32 × US) → Prop) (Q : US → Prop) (P93 : (Int64 × Int32) → Prop) (t93 : Int64 × Int32) : Prop := vp_in 0 81 ∧ (((aA σ' 0 (0 : Int32).toNatClampNeg) ≤ t93.2 → wp_X12_give t93.1 v14 σ' (fun (u12 : US) => wp_X12_give (v10 * (lJ u12 0)) (v12 * (lJ u12 1)) u12 (fun (u13 : US) => wp_X12_common v5 (lJ u13 1) (fun (r14 : Int64) => (¬ r14 = (0 : Int64)) ∧ ((¬ r14 = (0 : Int64)) ∧ ((¬ r14 = (0 : Int64)) ∧ (wp_X12_give ((v3 * ((lJ u13 1) / r14)) + ((lJ u13 0) * (v5 / r14))) ((v5 / r14) * (lJ u13 1)) u13 (fun (u15 : US) => ∀ x16 : Int64, x16 = lJ u15 0 → ∀ x17 : Int64, x17 = lJ u15 1 → P11 (x16, x17, v7, v8 + 1, u15))))))))) ∧ (¬ (aA σ' 0 (0 : Int32).toNatClampNeg) ≤ t93.2 → wp_X12_has (v1 &&& v9) t93.2 (fun (r18 : Int32) => (r18 = 0 → ∀ x19 : Int64, x19 = t93.1 + 0 → P93 (x19, t93.2 + 1)) ∧ (¬ r18 = 0 → vp_in t93.2 8 ∧ (∀ x20 : Int64, x20 = t93.1 + (aB σ' 3 (t93.2).toNatClampNeg) → P93 (x20, t93.2 + 1))))))
def wp_X12_findSteady_L11 (v1 : Int32) (v2 : Int32) (Q : US → Prop) (P11 : (Int64 × Int64 × Int32 × Int32 × US) → Prop) (t11 : Int64 × Int64 × Int32 × Int32 × US) : Prop := vp_in 0 81 ∧ (((aA t11.2.2.2.2 0 (0 : Int32).toNatClampNeg) ≤ t11.2.2.2.1 → wp_X12_give t11.1 t11.2.1 t11.2.2.2.2 (fun (u1 : US) => Q u1)) ∧ (¬ (aA t11.2.2.2.2 0 (0 : Int32).toNatClampNeg) ≤ t11.2.2.2.1 → wp_X12_isBottom t11.2.2.2.1 t11.2.2.2.2 (fun (r2 : Int32) => (r2 = 0 → P11 (t11.1, t11.2.1, t11.2.2.1, t11.2.2.2.1 + 1, t11.2.2.2.2)) ∧ (¬ r2 = 0 → wp_X12_has t11.2.2.1 t11.2.2.2.1 (fun (r3 : Int32) => (¬ r3 = 0 → P11 (t11.1, t11.2.1, t11.2.2.1, t11.2.2.2.1 + 1, t11.2.2.2.2)) ∧ (r3 = 0 → wp_X12_componentOf t11.2.2.2.1 t11.2.2.2.2 (fun (r4 : Int32) => ∀ x5 : Int32, x5 = t11.2.2.1 ||| r4 → wp_X12_all t11.2.2.2.2 (fun (r6 : Int32) => wp_X12_findUntil r6 r4 v2 t11.2.2.2.2 (fun (u7 : US) => ∀ x8 : Int64, x8 = lJ u7 0 → ∀ x9 : Int64, x9 = lJ u7 1 → wp_X12_findShares r4 u7 (fun (r10 : Int64) (u11 : US) => lpW (wp_X12_findSteady_L93 r10 x9 x8 x5 r4 v1 v2 t11.1 t11.2.1 t11.2.2.2.1 u11 P11 Q) (0, 0)))))))))))
def wp_X12_findSteady (p1 : Int32) (p2 : Int32) (σ : US) (Q : US → Prop) : Prop := lpW (wp_X12_findSteady_L11 p1 p2 Q) (0, 1, 0, 0, σ)
set_option maxRecDepth 100000 in
set_option maxHeartbeats 4000000 in
theorem c_X12_findSteady (l : Launch) (D : va_G) (kc : Nat → ClassId) (a : Nat → Nat)  (p1 : Int32) (p2 : Int32) (σ : US) (Q : US → Prop) (h : wp_X12_findSteady p1 p2 σ Q) : kCv l D (tyL kc) yX12_findSteady wsX12_findSteady ({ frames := 5, cells := 0, slots := 0, locals := 120 } : Room) [.ref (a 0), .int p1, .int p2] (wM kc a σ) (fun u : US => (wM kc a u)) 0 0 (fun u => Q u) := by
  intro sz
  refine k_begin (cc := cX12_findSteady) (maxL := 20) (ret := none) (by decide +kernel) rfl rfl (fun p e s m args below meth c hsz E G ls hl => ?_)
  subst hsz
  have hl : lv_has ls 20 [(0, .ref (a 0)), (1, .int p1), (2, .int p2)] := hl
  refine lv_lconst (v := 0) E.ex E.by dX12_findSteady_0 (by decide) ?_
  refine lv_lstore_n (lv' := [(3, .long 0), (0, .ref (a 0)), (1, .int p1), (2, .int p2)]) E.ex E.by dX12_findSteady_1 rfl hl (by decide) rfl (fun ls hl => ?_)
  refine lv_lconst (v := 1) E.ex E.by dX12_findSteady_2 (by decide) ?_
  refine lv_lstore (lv' := [(5, .long 1), (3, .long 0), (0, .ref (a 0)), (1, .int p1), (2, .int p2)]) E.ex E.by dX12_findSteady_3 hl (by decide) rfl (fun ls hl => ?_)
  refine lv_iconst (v := 0) E.ex E.by dX12_findSteady_5 (by decide) ?_
  refine lv_istore (lv' := [(7, .int 0), (5, .long 1), (3, .long 0), (0, .ref (a 0)), (1, .int p1), (2, .int p2)]) E.ex E.by dX12_findSteady_6 hl (by decide) rfl (fun ls hl => ?_)
  refine lv_iconst (v := 0) E.ex E.by dX12_findSteady_8 (by decide) ?_
  refine lv_istore (lv' := [(8, .int 0), (7, .int 0), (5, .long 1), (3, .long 0), (0, .ref (a 0)), (1, .int p1), (2, .int p2)]) E.ex E.by dX12_findSteady_9 hl (by decide) rfl (fun ls hl => ?_)
  refine lpW_ind (fun t1 : Int64 × Int64 × Int32 × Int32 × US => ∀ (H : Heap) (locs : List Loc) (ls : Array Slot), kG D (va_A (wM kc a σ) s.heap.size) s (wM kc a t1.2.2.2.2) H locs → lv_has ls 20 [(0, .ref (a 0)), (1, .int p1), (2, .int p2), (3, .long t1.1), (5, .long t1.2.1), (7, .int t1.2.2.1), (8, .int t1.2.2.2.1)] → W p l e _ s m args below meth c H locs _ _ _ (F0 m 11 ls [])) (fun P11 IH11 t1 h H locs ls G hl => ?_) _ h _ _ _ G (lv_sub hl [4, 5, 6, 3, 2, 1, 0] rfl)
  refine lv_iload E.ex E.by dX12_findSteady_11 (lv_at hl 6 rfl) ?_
  refine lv_aload_n E.ex E.by dX12_findSteady_13 rfl (lv_at hl 0 rfl) ?_
  refine k_get E G wi_X12_findSteady_X12 0 (gM_0 _ _ _) rfl 0 rfl fl_X12_findSteady_X12_0 (v := .ref (a 1)) rfl dX12_findSteady_14 ?_
  refine lv_iconst (v := 0) E.ex E.by dX12_findSteady_17 (by decide) ?_
  refine k_iald E G 1 (gM_1 _ _ _) 0 rfl h.1 dX12_findSteady_18 ?_
  have h := h.2
  refine lv_icmp_ge (tgt := 226) E.ex E.by dX12_findSteady_19 (by decide) (fun hc27 => ?_) (fun hc27 => ?_)
  · have h := h.1 hc27
    refine lv_aload_n E.ex E.by dX12_findSteady_226 rfl (lv_at hl 0 rfl) ?_
    refine lv_lload_n E.ex E.by dX12_findSteady_227 rfl (lv_at hl 3 rfl) ?_
    refine lv_lload E.ex E.by dX12_findSteady_228 (lv_at hl 4 rfl) ?_
    refine k_cVv (X := []) (w := (wM kc a t1.2.2.2.2)) (Z := []) (wnew := (fun u : US => (wM kc a u))) (As := [.long t1.1, .long t1.2.1]) (rest := []) E (List.append_nil _).symm G (c_X12_give l D kc _ _ _ _ _ h) gX12_findSteady_X12_give rfl ⟨rfl, rfl⟩ hd_X12_give_v ⟨rfl, rfl⟩ 0 (gM_0 _ _ _) rfl rfl hl rfl rfl dX12_findSteady_230 ⟨rfl, rfl⟩ (fun _ => (List.append_nil _).symm) (fun u2 hq H locs G => ?_)
    have h := hq
    exact k_retv (wof := (fun u : US => (wM kc a u))) (u := u2) E G h (Nat.le_of_ble_eq_true rfl) (Nat.le_of_ble_eq_true rfl) dX12_findSteady_233
  · have h := h.2 hc27
    refine lv_aload_n E.ex E.by dX12_findSteady_22 rfl (lv_at hl 0 rfl) ?_
    refine lv_iload E.ex E.by dX12_findSteady_23 (lv_at hl 6 rfl) ?_
    refine k_cVi (X := []) (w := (wM kc a t1.2.2.2.2)) (Z := []) (wnew := (fun _ : Unit => (wM kc a t1.2.2.2.2))) (As := [.int t1.2.2.2.1]) (rest := []) E (List.append_nil _).symm G (c_X12_isBottom l D kc _ _ _ _ h) gX12_findSteady_X12_isBottom rfl ⟨rfl, rfl⟩ hd_X12_isBottom_v ⟨rfl, rfl⟩ 0 (gM_0 _ _ _) rfl rfl hl rfl rfl dX12_findSteady_25 ⟨rfl, rfl⟩ (fun _ => (List.append_nil _).symm) (fun r3 _u25 hq H locs G => ?_)
    have h := hq
    refine lv_if_eq (tgt := 220) E.ex E.by dX12_findSteady_28 (by decide) (fun hc26 => ?_) (fun hc26 => ?_)
    · have h := h.1 hc26
      refine lv_iinc (k := 6) (v := t1.2.2.2.1 + 1) (lv' := [(8, .int (t1.2.2.2.1 + 1)), (0, .ref (a 0)), (1, .int p1), (2, .int p2), (3, .long t1.1), (5, .long t1.2.1), (7, .int t1.2.2.1)]) E.ex E.by dX12_findSteady_220 hl rfl (k_inc1 _) (by decide) rfl (fun ls hl => ?_)
      refine lv_goto (tgt := 11) E.ex E.by dX12_findSteady_223 (by decide) ?_
      exact IH11 _ h _ _ _ G (lv_sub hl [1, 2, 3, 4, 5, 6, 0] rfl)
    · have h := h.2 hc26
      refine lv_iload E.ex E.by dX12_findSteady_31 (lv_at hl 5 rfl) ?_
      refine lv_iload E.ex E.by dX12_findSteady_33 (lv_at hl 6 rfl) ?_
      refine k_cSi (X := (wM kc a t1.2.2.2.2)) (w := []) (Z := []) (wnew := (fun _ : Unit => (wM kc a t1.2.2.2.2))) (As := [.int t1.2.2.1, .int t1.2.2.2.1]) (rest := []) E (List.append_nil _).symm G (c_X12_has l D kc _ _ _ h) gX12_findSteady_X12_has rfl ⟨rfl, rfl⟩ hd_X12_has_v ⟨rfl, rfl⟩ rfl hl rfl rfl dX12_findSteady_35 ⟨rfl, rfl⟩ (fun _ => (List.append_nil _).symm) (fun r4 _u35 hq H locs G => ?_)
      have h := hq
      refine lv_if_ne (tgt := 220) E.ex E.by dX12_findSteady_38 (by decide) (fun hc25 => ?_) (fun hc25 => ?_)
      · have h := h.1 hc25
        refine lv_iinc (k := 6) (v := t1.2.2.2.1 + 1) (lv' := [(8, .int (t1.2.2.2.1 + 1)), (0, .ref (a 0)), (1, .int p1), (2, .int p2), (3, .long t1.1), (5, .long t1.2.1), (7, .int t1.2.2.1)]) E.ex E.by dX12_findSteady_220 hl rfl (k_inc1 _) (by decide) rfl (fun ls hl => ?_)
        refine lv_goto (tgt := 11) E.ex E.by dX12_findSteady_223 (by decide) ?_
        exact IH11 _ h _ _ _ G (lv_sub hl [1, 2, 3, 4, 5, 6, 0] rfl)
      · have h := h.2 hc25
        refine lv_aload_n E.ex E.by dX12_findSteady_41 rfl (lv_at hl 0 rfl) ?_
        refine lv_iload E.ex E.by dX12_findSteady_42 (lv_at hl 6 rfl) ?_
        refine k_cVi (X := []) (w := (wM kc a t1.2.2.2.2)) (Z := []) (wnew := (fun _ : Unit => (wM kc a t1.2.2.2.2))) (As := [.int t1.2.2.2.1]) (rest := []) E (List.append_nil _).symm G (c_X12_componentOf l D kc _ _ _ _ h) gX12_findSteady_X12_componentOf rfl ⟨rfl, rfl⟩ hd_X12_componentOf_v ⟨rfl, rfl⟩ 0 (gM_0 _ _ _) rfl rfl hl rfl rfl dX12_findSteady_44 ⟨rfl, rfl⟩ (fun _ => (List.append_nil _).symm) (fun r5 _u44 hq H locs G => ?_)
        have h := hq
        refine lv_istore (lv' := [(9, .int r5), (0, .ref (a 0)), (1, .int p1), (2, .int p2), (3, .long t1.1), (5, .long t1.2.1), (7, .int t1.2.2.1), (8, .int t1.2.2.2.1)]) E.ex E.by dX12_findSteady_47 hl (by decide) rfl (fun ls hl => ?_)
        refine lv_iload E.ex E.by dX12_findSteady_49 (lv_at hl 6 rfl) ?_
        refine lv_iload E.ex E.by dX12_findSteady_51 (lv_at hl 0 rfl) ?_
        refine lv_ior E.ex E.by dX12_findSteady_53 ?_
        refine lv_topi (fun x6 ex6 => ?_)
        have h := h x6 ex6
        refine lv_istore (lv' := [(7, .int x6), (9, .int r5), (0, .ref (a 0)), (1, .int p1), (2, .int p2), (3, .long t1.1), (5, .long t1.2.1), (8, .int t1.2.2.2.1)]) E.ex E.by dX12_findSteady_54 hl (by decide) rfl (fun ls hl => ?_)
        refine lv_aload_n E.ex E.by dX12_findSteady_56 rfl (lv_at hl 2 rfl) ?_
        refine lv_aload_n E.ex E.by dX12_findSteady_57 rfl (lv_at hl 2 rfl) ?_
        refine k_cVi (X := []) (w := (wM kc a t1.2.2.2.2)) (Z := []) (wnew := (fun _ : Unit => (wM kc a t1.2.2.2.2))) (As := []) (rest := [.ref (a 0)]) E (List.append_nil _).symm G (c_X12_all l D kc _ _ _ h) gX12_findSteady_X12_all rfl ⟨rfl, rfl⟩ hd_X12_all_v ⟨rfl, rfl⟩ 0 (gM_0 _ _ _) rfl rfl hl rfl rfl dX12_findSteady_58 ⟨rfl, rfl⟩ (fun _ => (List.append_nil _).symm) (fun r7 _u58 hq H locs G => ?_)
        have h := hq
        refine lv_iload E.ex E.by dX12_findSteady_61 (lv_at hl 1 rfl) ?_
        refine lv_iload_n E.ex E.by dX12_findSteady_63 rfl (lv_at hl 4 rfl) ?_
        refine k_cVv (X := []) (w := (wM kc a t1.2.2.2.2)) (Z := []) (wnew := (fun u : US => (wM kc a u))) (As := [.int r7, .int r5, .int p2]) (rest := []) E (List.append_nil _).symm G (c_X12_findUntil l D kc _ _ _ _ _ _ h) gX12_findSteady_X12_findUntil rfl ⟨rfl, rfl⟩ hd_X12_findUntil_v ⟨rfl, rfl⟩ 0 (gM_0 _ _ _) rfl rfl hl rfl rfl dX12_findSteady_64 ⟨rfl, rfl⟩ (fun _ => (List.append_nil _).symm) (fun u8 hq H locs G => ?_)
        have h := hq
        refine lv_aload_n E.ex E.by dX12_findSteady_67 rfl (lv_at hl 2 rfl) ?_
        refine k_get E G wi_X12_findSteady_X12 0 (gM_0 _ _ _) rfl 7 rfl fl_X12_findSteady_X12_7 (v := .long (lJ u8 0)) rfl dX12_findSteady_68 ?_
        refine lv_topl (fun x9 ex9 => ?_)
        have h := h x9 ex9
        refine lv_lstore (lv' := [(10, .long x9), (7, .int x6), (9, .int r5), (0, .ref (a 0)), (1, .int p1), (2, .int p2), (3, .long t1.1), (5, .long t1.2.1), (8, .int t1.2.2.2.1)]) E.ex E.by dX12_findSteady_71 hl (by decide) rfl (fun ls hl => ?_)
        refine lv_aload_n E.ex E.by dX12_findSteady_73 rfl (lv_at hl 3 rfl) ?_
        refine k_get E G wi_X12_findSteady_X12 0 (gM_0 _ _ _) rfl 8 rfl fl_X12_findSteady_X12_8 (v := .long (lJ u8 1)) rfl dX12_findSteady_74 ?_
        refine lv_topl (fun x10 ex10 => ?_)
        have h := h x10 ex10
        refine lv_lstore (lv' := [(12, .long x10), (10, .long x9), (7, .int x6), (9, .int r5), (0, .ref (a 0)), (1, .int p1), (2, .int p2), (3, .long t1.1), (5, .long t1.2.1), (8, .int t1.2.2.2.1)]) E.ex E.by dX12_findSteady_77 hl (by decide) rfl (fun ls hl => ?_)
        refine lv_aload_n E.ex E.by dX12_findSteady_79 rfl (lv_at hl 4 rfl) ?_
        refine lv_iload E.ex E.by dX12_findSteady_80 (lv_at hl 3 rfl) ?_
        refine k_cVl (X := []) (w := (wM kc a u8)) (Z := []) (wnew := (fun u : US => (wM kc a u))) (As := [.int r5]) (rest := []) E (List.append_nil _).symm G (c_X12_findShares l D kc _ _ _ _ h) gX12_findSteady_X12_findShares rfl ⟨rfl, rfl⟩ hd_X12_findShares_v ⟨rfl, rfl⟩ 0 (gM_0 _ _ _) rfl rfl hl rfl rfl dX12_findSteady_82 ⟨rfl, rfl⟩ (fun _ => (List.append_nil _).symm) (fun r11 u12 hq H locs G => ?_)
        have h := hq
        refine lv_lstore (lv' := [(14, .long r11), (12, .long x10), (10, .long x9), (7, .int x6), (9, .int r5), (0, .ref (a 0)), (1, .int p1), (2, .int p2), (3, .long t1.1), (5, .long t1.2.1), (8, .int t1.2.2.2.1)]) E.ex E.by dX12_findSteady_85 hl (by decide) rfl (fun ls hl => ?_)
        refine lv_lconst (v := 0) E.ex E.by dX12_findSteady_87 (by decide) ?_
        refine lv_lstore (lv' := [(16, .long 0), (14, .long r11), (12, .long x10), (10, .long x9), (7, .int x6), (9, .int r5), (0, .ref (a 0)), (1, .int p1), (2, .int p2), (3, .long t1.1), (5, .long t1.2.1), (8, .int t1.2.2.2.1)]) E.ex E.by dX12_findSteady_88 hl (by decide) rfl (fun ls hl => ?_)
        refine lv_iconst (v := 0) E.ex E.by dX12_findSteady_90 (by decide) ?_
        refine lv_istore (lv' := [(18, .int 0), (16, .long 0), (14, .long r11), (12, .long x10), (10, .long x9), (7, .int x6), (9, .int r5), (0, .ref (a 0)), (1, .int p1), (2, .int p2), (3, .long t1.1), (5, .long t1.2.1), (8, .int t1.2.2.2.1)]) E.ex E.by dX12_findSteady_91 hl (by decide) rfl (fun ls hl => ?_)
        refine lpW_ind (fun t13 : Int64 × Int32 => ∀ (H : Heap) (locs : List Loc) (ls : Array Slot), kG D (va_A (wM kc a σ) s.heap.size) s (wM kc a u12) H locs → lv_has ls 20 [(0, .ref (a 0)), (1, .int p1), (2, .int p2), (3, .long t1.1), (5, .long t1.2.1), (7, .int x6), (8, .int t1.2.2.2.1), (9, .int r5), (10, .long x9), (12, .long x10), (14, .long r11), (16, .long t13.1), (18, .int t13.2)] → W p l e _ s m args below meth c H locs _ _ _ (F0 m 93 ls [])) (fun P93 IH93 t13 h H locs ls G hl => ?_) _ h _ _ _ G (lv_sub hl [7, 8, 9, 10, 11, 5, 12, 6, 4, 3, 2, 1, 0] rfl)
        refine lv_iload E.ex E.by dX12_findSteady_93 (lv_at hl 12 rfl) ?_
        refine lv_aload_n E.ex E.by dX12_findSteady_95 rfl (lv_at hl 0 rfl) ?_
        refine k_get E G wi_X12_findSteady_X12 0 (gM_0 _ _ _) rfl 0 rfl fl_X12_findSteady_X12_0 (v := .ref (a 1)) rfl dX12_findSteady_96 ?_
        refine lv_iconst (v := 0) E.ex E.by dX12_findSteady_99 (by decide) ?_
        refine k_iald E G 1 (gM_1 _ _ _) 0 rfl h.1 dX12_findSteady_100 ?_
        have h := h.2
        refine lv_icmp_ge (tgt := 138) E.ex E.by dX12_findSteady_101 (by decide) (fun hc24 => ?_) (fun hc24 => ?_)
        · have h := h.1 hc24
          refine lv_aload_n E.ex E.by dX12_findSteady_138 rfl (lv_at hl 0 rfl) ?_
          refine lv_lload E.ex E.by dX12_findSteady_139 (lv_at hl 11 rfl) ?_
          refine lv_lload E.ex E.by dX12_findSteady_141 (lv_at hl 10 rfl) ?_
          refine k_cVv (X := []) (w := (wM kc a u12)) (Z := []) (wnew := (fun u : US => (wM kc a u))) (As := [.long t13.1, .long r11]) (rest := []) E (List.append_nil _).symm G (c_X12_give l D kc _ _ _ _ _ h) gX12_findSteady_X12_give rfl ⟨rfl, rfl⟩ hd_X12_give_v ⟨rfl, rfl⟩ 0 (gM_0 _ _ _) rfl rfl hl rfl rfl dX12_findSteady_143 ⟨rfl, rfl⟩ (fun _ => (List.append_nil _).symm) (fun u14 hq H locs G => ?_)
          have h := hq
          refine lv_aload_n E.ex E.by dX12_findSteady_146 rfl (lv_at hl 0 rfl) ?_
          refine lv_lload E.ex E.by dX12_findSteady_147 (lv_at hl 8 rfl) ?_
          refine lv_aload_n E.ex E.by dX12_findSteady_149 rfl (lv_at hl 0 rfl) ?_
          refine k_get E G wi_X12_findSteady_X12 0 (gM_0 _ _ _) rfl 7 rfl fl_X12_findSteady_X12_7 (v := .long (lJ u14 0)) rfl dX12_findSteady_150 ?_
          refine lv_lmul E.ex E.by dX12_findSteady_153 ?_
          refine lv_lload E.ex E.by dX12_findSteady_154 (lv_at hl 9 rfl) ?_
          refine lv_aload_n E.ex E.by dX12_findSteady_156 rfl (lv_at hl 0 rfl) ?_
          refine k_get E G wi_X12_findSteady_X12 0 (gM_0 _ _ _) rfl 8 rfl fl_X12_findSteady_X12_8 (v := .long (lJ u14 1)) rfl dX12_findSteady_157 ?_
          refine lv_lmul E.ex E.by dX12_findSteady_160 ?_
          refine k_cVv (X := []) (w := (wM kc a u14)) (Z := []) (wnew := (fun u : US => (wM kc a u))) (As := [.long (x9 * (lJ u14 0)), .long (x10 * (lJ u14 1))]) (rest := []) E (List.append_nil _).symm G (c_X12_give l D kc _ _ _ _ _ h) gX12_findSteady_X12_give rfl ⟨rfl, rfl⟩ hd_X12_give_v ⟨rfl, rfl⟩ 0 (gM_0 _ _ _) rfl rfl hl rfl rfl dX12_findSteady_161 ⟨rfl, rfl⟩ (fun _ => (List.append_nil _).symm) (fun u15 hq H locs G => ?_)
          have h := hq
          refine lv_lload E.ex E.by dX12_findSteady_164 (lv_at hl 4 rfl) ?_
          refine lv_aload_n E.ex E.by dX12_findSteady_166 rfl (lv_at hl 0 rfl) ?_
          refine k_get E G wi_X12_findSteady_X12 0 (gM_0 _ _ _) rfl 8 rfl fl_X12_findSteady_X12_8 (v := .long (lJ u15 1)) rfl dX12_findSteady_167 ?_
          refine k_cSl (X := (wM kc a u15)) (w := []) (Z := []) (wnew := (fun _ : Unit => (wM kc a u15))) (As := [.long t1.2.1, .long (lJ u15 1)]) (rest := []) E (List.append_nil _).symm G (c_X12_common l D kc _ _ _ h) gX12_findSteady_X12_common rfl ⟨rfl, rfl⟩ hd_X12_common_v ⟨rfl, rfl⟩ rfl hl rfl rfl dX12_findSteady_170 ⟨rfl, rfl⟩ (fun _ => (List.append_nil _).symm) (fun r16 _u170 hq H locs G => ?_)
          have h := hq
          refine lv_lstore (lv' := [(18, .long r16), (0, .ref (a 0)), (1, .int p1), (2, .int p2), (3, .long t1.1), (5, .long t1.2.1), (7, .int x6), (8, .int t1.2.2.2.1), (9, .int r5), (10, .long x9), (12, .long x10), (14, .long r11), (16, .long t13.1)]) E.ex E.by dX12_findSteady_173 hl (by decide) rfl (fun ls hl => ?_)
          refine lv_aload_n E.ex E.by dX12_findSteady_175 rfl (lv_at hl 1 rfl) ?_
          refine lv_lload_n E.ex E.by dX12_findSteady_176 rfl (lv_at hl 4 rfl) ?_
          refine lv_aload_n E.ex E.by dX12_findSteady_177 rfl (lv_at hl 1 rfl) ?_
          refine k_get E G wi_X12_findSteady_X12 0 (gM_0 _ _ _) rfl 8 rfl fl_X12_findSteady_X12_8 (v := .long (lJ u15 1)) rfl dX12_findSteady_178 ?_
          refine lv_lload E.ex E.by dX12_findSteady_181 (lv_at hl 0 rfl) ?_
          refine lv_ldiv E.ex E.by dX12_findSteady_183 h.1 ?_
          have h := h.2
          refine lv_lmul E.ex E.by dX12_findSteady_184 ?_
          refine lv_aload_n E.ex E.by dX12_findSteady_185 rfl (lv_at hl 1 rfl) ?_
          refine k_get E G wi_X12_findSteady_X12 0 (gM_0 _ _ _) rfl 7 rfl fl_X12_findSteady_X12_7 (v := .long (lJ u15 0)) rfl dX12_findSteady_186 ?_
          refine lv_lload E.ex E.by dX12_findSteady_189 (lv_at hl 5 rfl) ?_
          refine lv_lload E.ex E.by dX12_findSteady_191 (lv_at hl 0 rfl) ?_
          refine lv_ldiv E.ex E.by dX12_findSteady_193 h.1 ?_
          have h := h.2
          refine lv_lmul E.ex E.by dX12_findSteady_194 ?_
          refine lv_ladd E.ex E.by dX12_findSteady_195 ?_
          refine lv_lload E.ex E.by dX12_findSteady_196 (lv_at hl 5 rfl) ?_
          refine lv_lload E.ex E.by dX12_findSteady_198 (lv_at hl 0 rfl) ?_
          refine lv_ldiv E.ex E.by dX12_findSteady_200 h.1 ?_
          have h := h.2
          refine lv_aload_n E.ex E.by dX12_findSteady_201 rfl (lv_at hl 1 rfl) ?_
          refine k_get E G wi_X12_findSteady_X12 0 (gM_0 _ _ _) rfl 8 rfl fl_X12_findSteady_X12_8 (v := .long (lJ u15 1)) rfl dX12_findSteady_202 ?_
          refine lv_lmul E.ex E.by dX12_findSteady_205 ?_
          refine k_cVv (X := []) (w := (wM kc a u15)) (Z := []) (wnew := (fun u : US => (wM kc a u))) (As := [.long ((t1.1 * ((lJ u15 1) / r16)) + ((lJ u15 0) * (t1.2.1 / r16))), .long ((t1.2.1 / r16) * (lJ u15 1))]) (rest := []) E (List.append_nil _).symm G (c_X12_give l D kc _ _ _ _ _ h) gX12_findSteady_X12_give rfl ⟨rfl, rfl⟩ hd_X12_give_v ⟨rfl, rfl⟩ 0 (gM_0 _ _ _) rfl rfl hl rfl rfl dX12_findSteady_206 ⟨rfl, rfl⟩ (fun _ => (List.append_nil _).symm) (fun u17 hq H locs G => ?_)
          have h := hq
          refine lv_aload_n E.ex E.by dX12_findSteady_209 rfl (lv_at hl 1 rfl) ?_
          refine k_get E G wi_X12_findSteady_X12 0 (gM_0 _ _ _) rfl 7 rfl fl_X12_findSteady_X12_7 (v := .long (lJ u17 0)) rfl dX12_findSteady_210 ?_
          refine lv_topl (fun x18 ex18 => ?_)
          have h := h x18 ex18
          refine lv_lstore_n (lv' := [(3, .long x18), (18, .long r16), (0, .ref (a 0)), (1, .int p1), (2, .int p2), (5, .long t1.2.1), (7, .int x6), (8, .int t1.2.2.2.1), (9, .int r5), (10, .long x9), (12, .long x10), (14, .long r11), (16, .long t13.1)]) E.ex E.by dX12_findSteady_213 rfl hl (by decide) rfl (fun ls hl => ?_)
          refine lv_aload_n E.ex E.by dX12_findSteady_214 rfl (lv_at hl 2 rfl) ?_
          refine k_get E G wi_X12_findSteady_X12 0 (gM_0 _ _ _) rfl 8 rfl fl_X12_findSteady_X12_8 (v := .long (lJ u17 1)) rfl dX12_findSteady_215 ?_
          refine lv_topl (fun x19 ex19 => ?_)
          have h := h x19 ex19
          refine lv_lstore (lv' := [(5, .long x19), (3, .long x18), (18, .long r16), (0, .ref (a 0)), (1, .int p1), (2, .int p2), (7, .int x6), (8, .int t1.2.2.2.1), (9, .int r5), (10, .long x9), (12, .long x10), (14, .long r11), (16, .long t13.1)]) E.ex E.by dX12_findSteady_218 hl (by decide) rfl (fun ls hl => ?_)
          refine lv_iinc (k := 7) (v := t1.2.2.2.1 + 1) (lv' := [(8, .int (t1.2.2.2.1 + 1)), (5, .long x19), (3, .long x18), (18, .long r16), (0, .ref (a 0)), (1, .int p1), (2, .int p2), (7, .int x6), (9, .int r5), (10, .long x9), (12, .long x10), (14, .long r11), (16, .long t13.1)]) E.ex E.by dX12_findSteady_220 hl rfl (k_inc1 _) (by decide) rfl (fun ls hl => ?_)
          refine lv_goto (tgt := 11) E.ex E.by dX12_findSteady_223 (by decide) ?_
          exact IH11 _ h _ _ _ G (lv_sub hl [4, 5, 6, 2, 1, 7, 0] rfl)
        · have h := h.2 hc24
          refine lv_lload E.ex E.by dX12_findSteady_104 (lv_at hl 11 rfl) ?_
          refine lv_iload_n E.ex E.by dX12_findSteady_106 rfl (lv_at hl 1 rfl) ?_
          refine lv_iload E.ex E.by dX12_findSteady_107 (lv_at hl 7 rfl) ?_
          refine lv_iand E.ex E.by dX12_findSteady_109 ?_
          refine lv_iload E.ex E.by dX12_findSteady_110 (lv_at hl 12 rfl) ?_
          refine k_cSi (X := (wM kc a u12)) (w := []) (Z := []) (wnew := (fun _ : Unit => (wM kc a u12))) (As := [.int (p1 &&& r5), .int t13.2]) (rest := [.long t13.1]) E (List.append_nil _).symm G (c_X12_has l D kc _ _ _ h) gX12_findSteady_X12_has rfl ⟨rfl, rfl⟩ hd_X12_has_v ⟨rfl, rfl⟩ rfl hl rfl rfl dX12_findSteady_112 ⟨rfl, rfl⟩ (fun _ => (List.append_nil _).symm) (fun r20 _u112 hq H locs G => ?_)
          have h := hq
          refine lv_if_eq (tgt := 128) E.ex E.by dX12_findSteady_115 (by decide) (fun hc23 => ?_) (fun hc23 => ?_)
          · have h := h.1 hc23
            refine lv_lconst (v := 0) E.ex E.by dX12_findSteady_128 (by decide) ?_
            refine lv_ladd E.ex E.by dX12_findSteady_129 ?_
            refine lv_topl (fun x21 ex21 => ?_)
            have h := h x21 ex21
            refine lv_lstore (lv' := [(16, .long x21), (0, .ref (a 0)), (1, .int p1), (2, .int p2), (3, .long t1.1), (5, .long t1.2.1), (7, .int x6), (8, .int t1.2.2.2.1), (9, .int r5), (10, .long x9), (12, .long x10), (14, .long r11), (18, .int t13.2)]) E.ex E.by dX12_findSteady_130 hl (by decide) rfl (fun ls hl => ?_)
            refine lv_iinc (k := 12) (v := t13.2 + 1) (lv' := [(18, .int (t13.2 + 1)), (16, .long x21), (0, .ref (a 0)), (1, .int p1), (2, .int p2), (3, .long t1.1), (5, .long t1.2.1), (7, .int x6), (8, .int t1.2.2.2.1), (9, .int r5), (10, .long x9), (12, .long x10), (14, .long r11)]) E.ex E.by dX12_findSteady_132 hl rfl (k_inc1 _) (by decide) rfl (fun ls hl => ?_)
            refine lv_goto (tgt := 93) E.ex E.by dX12_findSteady_135 (by decide) ?_
            exact IH93 _ h _ _ _ G (lv_sub hl [2, 3, 4, 5, 6, 7, 8, 9, 10, 11, 12, 1, 0] rfl)
          · have h := h.2 hc23
            refine lv_aload_n E.ex E.by dX12_findSteady_118 rfl (lv_at hl 0 rfl) ?_
            refine k_get E G wi_X12_findSteady_X12 0 (gM_0 _ _ _) rfl 15 rfl fl_X12_findSteady_X12_15 (v := .ref (a 10)) rfl dX12_findSteady_119 ?_
            refine lv_iload E.ex E.by dX12_findSteady_122 (lv_at hl 12 rfl) ?_
            refine k_lald E G 10 (gM_10 _ _ _) 1 rfl h.1 dX12_findSteady_124 ?_
            have h := h.2
            refine lv_goto (tgt := 129) E.ex E.by dX12_findSteady_125 (by decide) ?_
            refine lv_ladd E.ex E.by dX12_findSteady_129 ?_
            refine lv_topl (fun x22 ex22 => ?_)
            have h := h x22 ex22
            refine lv_lstore (lv' := [(16, .long x22), (0, .ref (a 0)), (1, .int p1), (2, .int p2), (3, .long t1.1), (5, .long t1.2.1), (7, .int x6), (8, .int t1.2.2.2.1), (9, .int r5), (10, .long x9), (12, .long x10), (14, .long r11), (18, .int t13.2)]) E.ex E.by dX12_findSteady_130 hl (by decide) rfl (fun ls hl => ?_)
            refine lv_iinc (k := 12) (v := t13.2 + 1) (lv' := [(18, .int (t13.2 + 1)), (16, .long x22), (0, .ref (a 0)), (1, .int p1), (2, .int p2), (3, .long t1.1), (5, .long t1.2.1), (7, .int x6), (8, .int t1.2.2.2.1), (9, .int r5), (10, .long x9), (12, .long x10), (14, .long r11)]) E.ex E.by dX12_findSteady_132 hl rfl (k_inc1 _) (by decide) rfl (fun ls hl => ?_)
            refine lv_goto (tgt := 93) E.ex E.by dX12_findSteady_135 (by decide) ?_
            exact IH93 _ h _ _ _ G (lv_sub hl [2, 3, 4, 5, 6, 7, 8, 9, 10, 11, 12, 1, 0] rfl)
theorem wi_X12_findExpected_X12 : ∀ w ∈ wsX120, w ∈ wsX12_findExpected := fun w h => List.mem_cons_of_mem _ (List.mem_append_right _ (h))
theorem fl_X12_findExpected_X12_10 : Cond.fieldLink RX12 180 (TX12 10).1 (TX12 10).2.1 (TX12 10).2.2.1 ∈ wsX12_findExpected := List.mem_of_getElem? (i := 1) (by decide +kernel)
theorem fl_X12_findExpected_X12_12 : Cond.fieldLink RX12 29 (TX12 12).1 (TX12 12).2.1 (TX12 12).2.2.1 ∈ wsX12_findExpected := List.mem_of_getElem? (i := 2) (by decide +kernel)
theorem fl_X12_findExpected_X12_0 : Cond.fieldLink RX12 9 (TX12 0).1 (TX12 0).2.1 (TX12 0).2.2.1 ∈ wsX12_findExpected := List.mem_of_getElem? (i := 3) (by decide +kernel)
theorem hd_X12_surelyOf_v : yX12_surelyOf.cls = RX12 ∧ yX12_surelyOf.cls ≠ "java/lang/invoke/MethodHandle" ∧ yX12_surelyOf.cls ≠ "java/lang/invoke/VarHandle" ∧ (parseMethodDescriptor yX12_surelyOf.desc).map (fun d => d.parameters.length) = some 2 := by decide +kernel
def wp_X12_findExpected_L53 (v2 : Int32) (Q : Int32 → US → Prop) (P53 : (Int32 × US) → Prop) (t53 : Int32 × US) : Prop := ((iI t53.2 2) ≤ t53.1 → wp_X12_giveSolved v2 t53.2 (fun (u8 : US) => Q 1 u8)) ∧ (¬ (iI t53.2 2) ≤ t53.1 → vp_in t53.1 8 ∧ (wp_X12_sumOf (aA t53.2 5 (t53.1).toNatClampNeg) t53.2 (fun (r9 : Int32) => vp_in t53.1 8 ∧ (vp_in (73 + (aA t53.2 5 (t53.1).toNatClampNeg)) 81 ∧ (wp_X12_right t53.1 ((r9.toInt64) * ((aA t53.2 0 (73 + (aA t53.2 5 (t53.1).toNatClampNeg)).toNatClampNeg).toInt64)) t53.2 (fun (u10 : US) => P53 (t53.1 + 1, u10)))))))
def wp_X12_findExpected (p1 : Int32) (p2 : Int32) (σ : US) (Q : Int32 → US → Prop) : Prop := wp_X12_all σ (fun (r1 : Int32) => wp_X12_surelyOf r1 p1 σ (fun (r2 : Int32) => wp_X12_has r2 p2 (fun (r3 : Int32) => (¬ r3 = 0 → wp_X12_has p1 p2 (fun (r4 : Int32) => (r4 = 0 → wp_X12_all σ (fun (r5 : Int32) => wp_X12_surelyOf r5 p1 σ (fun (r6 : Int32) => wp_X12_begin (r6 &&& (p1 ^^^ (-1))) σ (fun (u7 : US) => lpW (wp_X12_findExpected_L53 p2 Q) (0, u7))))) ∧ (¬ r4 = 0 → wp_X12_give 0 1 σ (fun (u12 : US) => Q 1 u12)))) ∧ (r3 = 0 → Q 0 σ))))
set_option maxRecDepth 100000 in
set_option maxHeartbeats 4000000 in
theorem c_X12_findExpected (l : Launch) (D : va_G) (kc : Nat → ClassId) (a : Nat → Nat)  (p1 : Int32) (p2 : Int32) (σ : US) (Q : Int32 → US → Prop) (h : wp_X12_findExpected p1 p2 σ Q) : kCi l D (tyL kc) yX12_findExpected wsX12_findExpected ({ frames := 5, cells := 0, slots := 0, locals := 121 } : Room) [.ref (a 0), .int p1, .int p2] (wM kc a σ) (fun u : US => (wM kc a u)) 0 0 (fun r u => Q r u) := by
  intro sz
  refine k_begin (cc := cX12_findExpected) (maxL := 4) (ret := (some .boolean)) (by decide +kernel) rfl rfl (fun p e s m args below meth c hsz E G ls hl => ?_)
  subst hsz
  have hl : lv_has ls 4 [(0, .ref (a 0)), (1, .int p1), (2, .int p2)] := hl
  refine lv_aload_n E.ex E.by dX12_findExpected_0 rfl (lv_at hl 0 rfl) ?_
  refine lv_aload_n E.ex E.by dX12_findExpected_1 rfl (lv_at hl 0 rfl) ?_
  refine k_cVi (X := []) (w := (wM kc a σ)) (Z := []) (wnew := (fun _ : Unit => (wM kc a σ))) (As := []) (rest := [.ref (a 0)]) E (List.append_nil _).symm G (c_X12_all l D kc _ _ _ h) gX12_findExpected_X12_all rfl ⟨rfl, rfl⟩ hd_X12_all_v ⟨rfl, rfl⟩ 0 (gM_0 _ _ _) rfl rfl hl rfl rfl dX12_findExpected_2 ⟨rfl, rfl⟩ (fun _ => (List.append_nil _).symm) (fun r1 _u2 hq H locs G => ?_)
  have h := hq
  refine lv_iload_n E.ex E.by dX12_findExpected_5 rfl (lv_at hl 1 rfl) ?_
  refine k_cVi (X := []) (w := (wM kc a σ)) (Z := []) (wnew := (fun _ : Unit => (wM kc a σ))) (As := [.int r1, .int p1]) (rest := []) E (List.append_nil _).symm G (c_X12_surelyOf l D kc _ _ _ _ _ h) gX12_findExpected_X12_surelyOf rfl ⟨rfl, rfl⟩ hd_X12_surelyOf_v ⟨rfl, rfl⟩ 0 (gM_0 _ _ _) rfl rfl hl rfl rfl dX12_findExpected_6 ⟨rfl, rfl⟩ (fun _ => (List.append_nil _).symm) (fun r2 _u6 hq H locs G => ?_)
  have h := hq
  refine lv_iload_n E.ex E.by dX12_findExpected_9 rfl (lv_at hl 2 rfl) ?_
  refine k_cSi (X := (wM kc a σ)) (w := []) (Z := []) (wnew := (fun _ : Unit => (wM kc a σ))) (As := [.int r2, .int p2]) (rest := []) E (List.append_nil _).symm G (c_X12_has l D kc _ _ _ h) gX12_findExpected_X12_has rfl ⟨rfl, rfl⟩ hd_X12_has_v ⟨rfl, rfl⟩ rfl hl rfl rfl dX12_findExpected_10 ⟨rfl, rfl⟩ (fun _ => (List.append_nil _).symm) (fun r3 _u10 hq H locs G => ?_)
  have h := hq
  refine lv_if_ne (tgt := 18) E.ex E.by dX12_findExpected_13 (by decide) (fun hc15 => ?_) (fun hc15 => ?_)
  · have h := h.1 hc15
    refine lv_iload_n E.ex E.by dX12_findExpected_18 rfl (lv_at hl 1 rfl) ?_
    refine lv_iload_n E.ex E.by dX12_findExpected_19 rfl (lv_at hl 2 rfl) ?_
    refine k_cSi (X := (wM kc a σ)) (w := []) (Z := []) (wnew := (fun _ : Unit => (wM kc a σ))) (As := [.int p1, .int p2]) (rest := []) E (List.append_nil _).symm G (c_X12_has l D kc _ _ _ h) gX12_findExpected_X12_has rfl ⟨rfl, rfl⟩ hd_X12_has_v ⟨rfl, rfl⟩ rfl hl rfl rfl dX12_findExpected_20 ⟨rfl, rfl⟩ (fun _ => (List.append_nil _).symm) (fun r4 _u20 hq H locs G => ?_)
    have h := hq
    refine lv_if_eq (tgt := 34) E.ex E.by dX12_findExpected_23 (by decide) (fun hc14 => ?_) (fun hc14 => ?_)
    · have h := h.1 hc14
      refine lv_aload_n E.ex E.by dX12_findExpected_34 rfl (lv_at hl 0 rfl) ?_
      refine lv_aload_n E.ex E.by dX12_findExpected_35 rfl (lv_at hl 0 rfl) ?_
      refine lv_aload_n E.ex E.by dX12_findExpected_36 rfl (lv_at hl 0 rfl) ?_
      refine k_cVi (X := []) (w := (wM kc a σ)) (Z := []) (wnew := (fun _ : Unit => (wM kc a σ))) (As := []) (rest := [.ref (a 0), .ref (a 0)]) E (List.append_nil _).symm G (c_X12_all l D kc _ _ _ h) gX12_findExpected_X12_all rfl ⟨rfl, rfl⟩ hd_X12_all_v ⟨rfl, rfl⟩ 0 (gM_0 _ _ _) rfl rfl hl rfl rfl dX12_findExpected_37 ⟨rfl, rfl⟩ (fun _ => (List.append_nil _).symm) (fun r5 _u37 hq H locs G => ?_)
      have h := hq
      refine lv_iload_n E.ex E.by dX12_findExpected_40 rfl (lv_at hl 1 rfl) ?_
      refine k_cVi (X := []) (w := (wM kc a σ)) (Z := []) (wnew := (fun _ : Unit => (wM kc a σ))) (As := [.int r5, .int p1]) (rest := [.ref (a 0)]) E (List.append_nil _).symm G (c_X12_surelyOf l D kc _ _ _ _ _ h) gX12_findExpected_X12_surelyOf rfl ⟨rfl, rfl⟩ hd_X12_surelyOf_v ⟨rfl, rfl⟩ 0 (gM_0 _ _ _) rfl rfl hl rfl rfl dX12_findExpected_41 ⟨rfl, rfl⟩ (fun _ => (List.append_nil _).symm) (fun r6 _u41 hq H locs G => ?_)
      have h := hq
      refine lv_iload_n E.ex E.by dX12_findExpected_44 rfl (lv_at hl 1 rfl) ?_
      refine lv_iconst (v := (-1)) E.ex E.by dX12_findExpected_45 (by decide) ?_
      refine lv_ixor E.ex E.by dX12_findExpected_46 ?_
      refine lv_iand E.ex E.by dX12_findExpected_47 ?_
      refine k_cVv (X := []) (w := (wM kc a σ)) (Z := []) (wnew := (fun u : US => (wM kc a u))) (As := [.int (r6 &&& (p1 ^^^ (-1)))]) (rest := []) E (List.append_nil _).symm G (c_X12_begin l D kc _ _ _ _ h) gX12_findExpected_X12_begin rfl ⟨rfl, rfl⟩ hd_X12_begin_v ⟨rfl, rfl⟩ 0 (gM_0 _ _ _) rfl rfl hl rfl rfl dX12_findExpected_48 ⟨rfl, rfl⟩ (fun _ => (List.append_nil _).symm) (fun u7 hq H locs G => ?_)
      have h := hq
      refine lv_iconst (v := 0) E.ex E.by dX12_findExpected_51 (by decide) ?_
      refine lv_istore_n (lv' := [(3, .int 0), (0, .ref (a 0)), (1, .int p1), (2, .int p2)]) E.ex E.by dX12_findExpected_52 rfl hl (by decide) rfl (fun ls hl => ?_)
      refine lpW_ind (fun t8 : Int32 × US => ∀ (H : Heap) (locs : List Loc) (ls : Array Slot), kG D (va_A (wM kc a σ) s.heap.size) s (wM kc a t8.2) H locs → lv_has ls 4 [(0, .ref (a 0)), (2, .int p2), (3, .int t8.1)] → W p l e _ s m args below meth c H locs _ _ _ (F0 m 53 ls [])) (fun P53 IH53 t8 h H locs ls G hl => ?_) _ h _ _ _ G (lv_sub hl [1, 3, 0] rfl)
      refine lv_iload_n E.ex E.by dX12_findExpected_53 rfl (lv_at hl 2 rfl) ?_
      refine lv_aload_n E.ex E.by dX12_findExpected_54 rfl (lv_at hl 0 rfl) ?_
      refine k_get E G wi_X12_findExpected_X12 0 (gM_0 _ _ _) rfl 10 rfl fl_X12_findExpected_X12_10 (v := .int (iI t8.2 2)) rfl dX12_findExpected_55 ?_
      refine lv_icmp_ge (tgt := 99) E.ex E.by dX12_findExpected_58 (by decide) (fun hc12 => ?_) (fun hc12 => ?_)
      · have h := h.1 hc12
        refine lv_aload_n E.ex E.by dX12_findExpected_99 rfl (lv_at hl 0 rfl) ?_
        refine lv_iload_n E.ex E.by dX12_findExpected_100 rfl (lv_at hl 1 rfl) ?_
        refine k_cVv (X := []) (w := (wM kc a t8.2)) (Z := []) (wnew := (fun u : US => (wM kc a u))) (As := [.int p2]) (rest := []) E (List.append_nil _).symm G (c_X12_giveSolved l D kc _ _ _ _ h) gX12_findExpected_X12_giveSolved rfl ⟨rfl, rfl⟩ hd_X12_giveSolved_v ⟨rfl, rfl⟩ 0 (gM_0 _ _ _) rfl rfl hl rfl rfl dX12_findExpected_101 ⟨rfl, rfl⟩ (fun _ => (List.append_nil _).symm) (fun u9 hq H locs G => ?_)
        have h := hq
        refine lv_iconst (v := 1) E.ex E.by dX12_findExpected_104 (by decide) ?_
        exact k_ret (wof := (fun u : US => (wM kc a u))) (u := u9) E G rfl h (Nat.le_of_ble_eq_true rfl) (Nat.le_of_ble_eq_true rfl) dX12_findExpected_105
      · have h := h.2 hc12
        refine lv_aload_n E.ex E.by dX12_findExpected_61 rfl (lv_at hl 0 rfl) ?_
        refine lv_iload_n E.ex E.by dX12_findExpected_62 rfl (lv_at hl 2 rfl) ?_
        refine lv_aload_n E.ex E.by dX12_findExpected_63 rfl (lv_at hl 0 rfl) ?_
        refine lv_aload_n E.ex E.by dX12_findExpected_64 rfl (lv_at hl 0 rfl) ?_
        refine k_get E G wi_X12_findExpected_X12 0 (gM_0 _ _ _) rfl 12 rfl fl_X12_findExpected_X12_12 (v := .ref (a 7)) rfl dX12_findExpected_65 ?_
        refine lv_iload_n E.ex E.by dX12_findExpected_68 rfl (lv_at hl 2 rfl) ?_
        refine k_iald E G 7 (gM_7 _ _ _) 0 rfl h.1 dX12_findExpected_69 ?_
        have h := h.2
        refine k_cVi (X := []) (w := (wM kc a t8.2)) (Z := []) (wnew := (fun _ : Unit => (wM kc a t8.2))) (As := [.int (aA t8.2 5 (t8.1).toNatClampNeg)]) (rest := [.int t8.1, .ref (a 0)]) E (List.append_nil _).symm G (c_X12_sumOf l D kc _ _ _ _ h) gX12_findExpected_X12_sumOf rfl ⟨rfl, rfl⟩ hd_X12_sumOf_v ⟨rfl, rfl⟩ 0 (gM_0 _ _ _) rfl rfl hl rfl rfl dX12_findExpected_70 ⟨rfl, rfl⟩ (fun _ => (List.append_nil _).symm) (fun r10 _u70 hq H locs G => ?_)
        have h := hq
        refine lv_i2l E.ex E.by dX12_findExpected_73 rfl ?_
        refine lv_aload_n E.ex E.by dX12_findExpected_74 rfl (lv_at hl 0 rfl) ?_
        refine k_get E G wi_X12_findExpected_X12 0 (gM_0 _ _ _) rfl 0 rfl fl_X12_findExpected_X12_0 (v := .ref (a 1)) rfl dX12_findExpected_75 ?_
        refine lv_bipush (v := 73) E.ex E.by dX12_findExpected_78 (by decide) ?_
        refine lv_aload_n E.ex E.by dX12_findExpected_80 rfl (lv_at hl 0 rfl) ?_
        refine k_get E G wi_X12_findExpected_X12 0 (gM_0 _ _ _) rfl 12 rfl fl_X12_findExpected_X12_12 (v := .ref (a 7)) rfl dX12_findExpected_81 ?_
        refine lv_iload_n E.ex E.by dX12_findExpected_84 rfl (lv_at hl 2 rfl) ?_
        refine k_iald E G 7 (gM_7 _ _ _) 0 rfl h.1 dX12_findExpected_85 ?_
        have h := h.2
        refine lv_iadd E.ex E.by dX12_findExpected_86 ?_
        refine k_iald E G 1 (gM_1 _ _ _) 0 rfl h.1 dX12_findExpected_87 ?_
        have h := h.2
        refine lv_i2l E.ex E.by dX12_findExpected_88 rfl ?_
        refine lv_lmul E.ex E.by dX12_findExpected_89 ?_
        refine k_cVv (X := []) (w := (wM kc a t8.2)) (Z := []) (wnew := (fun u : US => (wM kc a u))) (As := [.int t8.1, .long ((r10.toInt64) * ((aA t8.2 0 (73 + (aA t8.2 5 (t8.1).toNatClampNeg)).toNatClampNeg).toInt64))]) (rest := []) E (List.append_nil _).symm G (c_X12_right l D kc _ _ _ _ _ h) gX12_findExpected_X12_right rfl ⟨rfl, rfl⟩ hd_X12_right_v ⟨rfl, rfl⟩ 0 (gM_0 _ _ _) rfl rfl hl rfl rfl dX12_findExpected_90 ⟨rfl, rfl⟩ (fun _ => (List.append_nil _).symm) (fun u11 hq H locs G => ?_)
        have h := hq
        refine lv_iinc (k := 2) (v := t8.1 + 1) (lv' := [(3, .int (t8.1 + 1)), (0, .ref (a 0)), (2, .int p2)]) E.ex E.by dX12_findExpected_93 hl rfl (k_inc1 _) (by decide) rfl (fun ls hl => ?_)
        refine lv_goto (tgt := 53) E.ex E.by dX12_findExpected_96 (by decide) ?_
        exact IH53 _ h _ _ _ G (lv_sub hl [1, 2, 0] rfl)
    · have h := h.2 hc14
      refine lv_aload_n E.ex E.by dX12_findExpected_26 rfl (lv_at hl 0 rfl) ?_
      refine lv_lconst (v := 0) E.ex E.by dX12_findExpected_27 (by decide) ?_
      refine lv_lconst (v := 1) E.ex E.by dX12_findExpected_28 (by decide) ?_
      refine k_cVv (X := []) (w := (wM kc a σ)) (Z := []) (wnew := (fun u : US => (wM kc a u))) (As := [.long 0, .long 1]) (rest := []) E (List.append_nil _).symm G (c_X12_give l D kc _ _ _ _ _ h) gX12_findExpected_X12_give rfl ⟨rfl, rfl⟩ hd_X12_give_v ⟨rfl, rfl⟩ 0 (gM_0 _ _ _) rfl rfl hl rfl rfl dX12_findExpected_29 ⟨rfl, rfl⟩ (fun _ => (List.append_nil _).symm) (fun u13 hq H locs G => ?_)
      have h := hq
      refine lv_iconst (v := 1) E.ex E.by dX12_findExpected_32 (by decide) ?_
      exact k_ret (wof := (fun u : US => (wM kc a u))) (u := u13) E G rfl h (Nat.le_of_ble_eq_true rfl) (Nat.le_of_ble_eq_true rfl) dX12_findExpected_33
  · have h := h.2 hc15
    refine lv_iconst (v := 0) E.ex E.by dX12_findExpected_16 (by decide) ?_
    exact k_ret (wof := (fun u : US => (wM kc a u))) (u := σ) E G rfl h (Nat.le_of_ble_eq_true rfl) (Nat.le_of_ble_eq_true rfl) dX12_findExpected_17
