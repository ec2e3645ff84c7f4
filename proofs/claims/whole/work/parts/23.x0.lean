theorem wi_X0_lengthFrom_X0 : ∀ w ∈ wsX00, w ∈ wsX0_lengthFrom := fun w h => List.mem_cons_of_mem _ (List.mem_append_right _ (h))
theorem fl_X0_lengthFrom_X0_3 : Cond.fieldLink RX0 18 (TX0 3).1 (TX0 3).2.1 (TX0 3).2.2.1 ∈ wsX0_lengthFrom := List.mem_of_getElem? (i := 1) (by decide +kernel)
theorem li_X0_lengthFrom_X11 : Cond.initialized RX11 ∈ wsX0_lengthFrom := List.mem_of_getElem? (i := 3) (by decide +kernel)
theorem ls_X0_lengthFrom_X11_isIndex : Cond.static yX11_isIndex ∈ wsX0_lengthFrom := List.mem_of_getElem? (i := 2) (by decide +kernel)
def wp_X0_lengthFrom (p1 : Int32) (σ : US) (κ : US) (Q : Int32 → Prop) : Prop := wp_X11_isIndex p1 (fun (r1 : Int32) => (r1 = 0 → Q 0) ∧ (¬ r1 = 0 → vp_in p1 8 ∧ (Q (aA σ 0 (p1).toNatClampNeg))))
set_option maxRecDepth 100000 in
set_option maxHeartbeats 4000000 in
theorem c_X0_lengthFrom (l : Launch) (D : va_G) (kc : Nat → ClassId) (ab : Nat → Nat) (ac : Nat → Nat) (p1 : Int32) (σ : US) (κ : US) (Q : Int32 → Prop) (h : wp_X0_lengthFrom p1 σ κ Q) : kCi l D (tyL kc) yX0_lengthFrom wsX0_lengthFrom ({ frames := 1, cells := 0, slots := 0, locals := 20 } : Room) [.ref (ab 0), .int p1] (xBp kc ab ac σ κ) (fun _ : Unit => (xBp kc ab ac σ κ)) 0 0 (fun r _ => Q r) := by
  intro sz
  refine k_begin (cc := cX0_lengthFrom) (maxL := 2) (ret := (some .int)) (by decide +kernel) rfl rfl (fun p e s m args below meth c hsz E G ls hl => ?_)
  subst hsz
  have hl : lv_has ls 2 [(0, .ref (ab 0)), (1, .int p1)] := hl
  refine lv_iload_n E.ex E.by dX0_lengthFrom_0 rfl (lv_at hl 1 rfl) ?_
  refine k_cSNi (X := (xBp kc ab ac σ κ)) (w := []) (Z := []) (wnew := (fun _ : Unit => (xBp kc ab ac σ κ))) (As := [.int p1]) (rest := []) E (List.append_nil _).symm G (c_X11_isIndex l D kc _ _ h) gX0_lengthFrom_X11_isIndex_n38 (by decide +kernel) li_X0_lengthFrom_X11 ls_X0_lengthFrom_X11_isIndex rfl ⟨rfl, rfl⟩ hd_X11_isIndex_n ⟨rfl, rfl⟩ rfl hl rfl rfl dX0_lengthFrom_1 ⟨rfl, rfl⟩ (fun _ => (List.append_nil _).symm) (fun r1 _u1 hq H locs G => ?_)
  have h := hq
  refine lv_if_eq (tgt := 16) E.ex E.by dX0_lengthFrom_4 (by decide) (fun hc2 => ?_) (fun hc2 => ?_)
  · have h := h.1 hc2
    refine lv_iconst (v := 0) E.ex E.by dX0_lengthFrom_16 (by decide) ?_
    exact k_ret (wof := (fun _ : Unit => (xBp kc ab ac σ κ))) (u := ()) E G rfl h (Nat.le_of_ble_eq_true rfl) (Nat.le_of_ble_eq_true rfl) dX0_lengthFrom_17
  · have h := h.2 hc2
    refine lv_aload_n E.ex E.by dX0_lengthFrom_7 rfl (lv_at hl 0 rfl) ?_
    refine k_get E G wi_X0_lengthFrom_X0 0 (gBp_0 _ _ _ _ _) rfl 3 rfl fl_X0_lengthFrom_X0_3 (v := .ref (ab 3)) rfl dX0_lengthFrom_8 ?_
    refine lv_iload_n E.ex E.by dX0_lengthFrom_11 rfl (lv_at hl 1 rfl) ?_
    refine k_iald E G 3 (gBp_3 _ _ _ _ _) 0 rfl h.1 dX0_lengthFrom_12 ?_
    have h := h.2
    refine lv_goto (tgt := 17) E.ex E.by dX0_lengthFrom_13 (by decide) ?_
    exact k_ret (wof := (fun _ : Unit => (xBp kc ab ac σ κ))) (u := ()) E G rfl h (Nat.le_of_ble_eq_true rfl) (Nat.le_of_ble_eq_true rfl) dX0_lengthFrom_17
theorem wi_X0_isStep_X0 : ∀ w ∈ wsX00, w ∈ wsX0_isStep := fun w h => List.mem_cons_of_mem _ (List.mem_append_left _ (List.mem_append_right _ (h)))
theorem fl_X0_isStep_X0_4 : Cond.fieldLink RX0 26 (TX0 4).1 (TX0 4).2.1 (TX0 4).2.2.1 ∈ wsX0_isStep := List.mem_of_getElem? (i := 1) (by decide +kernel)
theorem fl_X0_isStep_X0_0 : Cond.fieldLink RX0 22 (TX0 0).1 (TX0 0).2.1 (TX0 0).2.2.1 ∈ wsX0_isStep := List.mem_of_getElem? (i := 2) (by decide +kernel)
theorem hd_X0_lengthFrom_v : yX0_lengthFrom.cls = RX0 ∧ yX0_lengthFrom.cls ≠ "java/lang/invoke/MethodHandle" ∧ yX0_lengthFrom.cls ≠ "java/lang/invoke/VarHandle" ∧ (parseMethodDescriptor yX0_lengthFrom.desc).map (fun d => d.parameters.length) = some 1 := by decide +kernel
theorem li_X0_isStep_X11 : Cond.initialized RX11 ∈ wsX0_isStep := List.mem_of_getElem? (i := 4) (by decide +kernel)
theorem ls_X0_isStep_X11_contains : Cond.static yX11_contains ∈ wsX0_isStep := List.mem_of_getElem? (i := 3) (by decide +kernel)
def wp_X0_isStep (p1 : Int32) (p2 : Int32) (σ : US) (κ : US) (Q : Int32 → Prop) : Prop := wp_X11_contains (iI σ 0) p1 (fun (r1 : Int32) => (r1 = 0 → Q 0) ∧ (¬ r1 = 0 → wp_X2_stepWeight p1 p2 κ (fun (r2 : Int32) => (r2 ≤ 0 → Q 0) ∧ (¬ r2 ≤ 0 → wp_X0_lengthFrom p2 σ κ (fun (r3 : Int32) => (r3 ≤ 0 → Q 0) ∧ (¬ r3 ≤ 0 → Q 1))))))
set_option maxRecDepth 100000 in
set_option maxHeartbeats 4000000 in
theorem c_X0_isStep (l : Launch) (D : va_G) (kc : Nat → ClassId) (ab : Nat → Nat) (ac : Nat → Nat) (p1 : Int32) (p2 : Int32) (σ : US) (κ : US) (Q : Int32 → Prop) (h : wp_X0_isStep p1 p2 σ κ Q) : kCi l D (tyL kc) yX0_isStep wsX0_isStep ({ frames := 3, cells := 0, slots := 0, locals := 68 } : Room) [.ref (ab 0), .int p1, .int p2] (xBp kc ab ac σ κ) (fun _ : Unit => (xBp kc ab ac σ κ)) 0 0 (fun r _ => Q r) := by
  intro sz
  refine k_begin (cc := cX0_isStep) (maxL := 3) (ret := (some .boolean)) (by decide +kernel) rfl rfl (fun p e s m args below meth c hsz E G ls hl => ?_)
  subst hsz
  have hl : lv_has ls 3 [(0, .ref (ab 0)), (1, .int p1), (2, .int p2)] := hl
  refine lv_aload_n E.ex E.by dX0_isStep_0 rfl (lv_at hl 0 rfl) ?_
  refine k_get E G wi_X0_isStep_X0 0 (gBp_0 _ _ _ _ _) rfl 4 rfl fl_X0_isStep_X0_4 (v := .int (iI σ 0)) rfl dX0_isStep_1 ?_
  refine lv_iload_n E.ex E.by dX0_isStep_4 rfl (lv_at hl 1 rfl) ?_
  refine k_cSNi (X := (xBp kc ab ac σ κ)) (w := []) (Z := []) (wnew := (fun _ : Unit => (xBp kc ab ac σ κ))) (As := [.int (iI σ 0), .int p1]) (rest := []) E (List.append_nil _).symm G (c_X11_contains l D kc _ _ _ h) gX0_isStep_X11_contains_n30 (by decide +kernel) li_X0_isStep_X11 ls_X0_isStep_X11_contains rfl ⟨rfl, rfl⟩ hd_X11_contains_n ⟨rfl, rfl⟩ rfl hl rfl rfl dX0_isStep_5 ⟨rfl, rfl⟩ (fun _ => (List.append_nil _).symm) (fun r1 _u5 hq H locs G => ?_)
  have h := hq
  refine lv_if_eq (tgt := 35) E.ex E.by dX0_isStep_8 (by decide) (fun hc6 => ?_) (fun hc6 => ?_)
  · have h := h.1 hc6
    refine lv_iconst (v := 0) E.ex E.by dX0_isStep_35 (by decide) ?_
    exact k_ret (wof := (fun _ : Unit => (xBp kc ab ac σ κ))) (u := ()) E G rfl h (Nat.le_of_ble_eq_true rfl) (Nat.le_of_ble_eq_true rfl) dX0_isStep_36
  · have h := h.2 hc6
    refine lv_aload_n E.ex E.by dX0_isStep_11 rfl (lv_at hl 0 rfl) ?_
    refine k_get E G wi_X0_isStep_X0 0 (gBp_0 _ _ _ _ _) rfl 0 rfl fl_X0_isStep_X0_0 (v := .ref (ac 0)) rfl dX0_isStep_12 ?_
    refine lv_iload_n E.ex E.by dX0_isStep_15 rfl (lv_at hl 1 rfl) ?_
    refine lv_iload_n E.ex E.by dX0_isStep_16 rfl (lv_at hl 2 rfl) ?_
    refine k_cVi (X := ((wBp kc ab ac σ) : va_W)) (w := (wC kc ac κ)) (Z := ([] : va_W)) (wnew := (fun _ : Unit => (xBp kc ab ac σ κ))) (As := [.int p1, .int p2]) (rest := []) E (xBp_1 _ _ _ _ _) G (c_X2_stepWeight l D kc _ _ _ _ _ h) gX0_isStep_X2_stepWeight rfl ⟨rfl, rfl⟩ hd_X2_stepWeight_v ⟨rfl, rfl⟩ 0 (gC_0 _ _ _) rfl rfl hl rfl rfl dX0_isStep_17 ⟨rfl, rfl⟩ (fun _ => xBp_1 _ _ _ _ _) (fun r2 _u17 hq H locs G => ?_)
    have h := hq
    refine lv_if_le (tgt := 35) E.ex E.by dX0_isStep_20 (by decide) (fun hc5 => ?_) (fun hc5 => ?_)
    · have h := h.1 hc5
      refine lv_iconst (v := 0) E.ex E.by dX0_isStep_35 (by decide) ?_
      exact k_ret (wof := (fun _ : Unit => (xBp kc ab ac σ κ))) (u := ()) E G rfl h (Nat.le_of_ble_eq_true rfl) (Nat.le_of_ble_eq_true rfl) dX0_isStep_36
    · have h := h.2 hc5
      refine lv_aload_n E.ex E.by dX0_isStep_23 rfl (lv_at hl 0 rfl) ?_
      refine lv_iload_n E.ex E.by dX0_isStep_24 rfl (lv_at hl 2 rfl) ?_
      refine k_cVi (X := []) (w := (xBp kc ab ac σ κ)) (Z := []) (wnew := (fun _ : Unit => (xBp kc ab ac σ κ))) (As := [.int p2]) (rest := []) E (List.append_nil _).symm G (c_X0_lengthFrom l D kc _ _ _ _ _ _ h) gX0_isStep_X0_lengthFrom rfl ⟨rfl, rfl⟩ hd_X0_lengthFrom_v ⟨rfl, rfl⟩ 0 (gBp_0 _ _ _ _ _) rfl rfl hl rfl rfl dX0_isStep_25 ⟨rfl, rfl⟩ (fun _ => (List.append_nil _).symm) (fun r3 _u25 hq H locs G => ?_)
      have h := hq
      refine lv_if_le (tgt := 35) E.ex E.by dX0_isStep_28 (by decide) (fun hc4 => ?_) (fun hc4 => ?_)
      · have h := h.1 hc4
        refine lv_iconst (v := 0) E.ex E.by dX0_isStep_35 (by decide) ?_
        exact k_ret (wof := (fun _ : Unit => (xBp kc ab ac σ κ))) (u := ()) E G rfl h (Nat.le_of_ble_eq_true rfl) (Nat.le_of_ble_eq_true rfl) dX0_isStep_36
      · have h := h.2 hc4
        refine lv_iconst (v := 1) E.ex E.by dX0_isStep_31 (by decide) ?_
        refine lv_goto (tgt := 36) E.ex E.by dX0_isStep_32 (by decide) ?_
        exact k_ret (wof := (fun _ : Unit => (xBp kc ab ac σ κ))) (u := ()) E G rfl h (Nat.le_of_ble_eq_true rfl) (Nat.le_of_ble_eq_true rfl) dX0_isStep_36
theorem wi_X0_gainOf_X0 : ∀ w ∈ wsX00, w ∈ wsX0_gainOf := fun w h => List.mem_cons_of_mem _ (List.mem_append_left _ (List.mem_append_right _ (h)))
theorem fl_X0_gainOf_X0_0 : Cond.fieldLink RX0 22 (TX0 0).1 (TX0 0).2.1 (TX0 0).2.2.1 ∈ wsX0_gainOf := List.mem_of_getElem? (i := 1) (by decide +kernel)
theorem fl_X0_gainOf_X0_1 : Cond.fieldLink RX0 9 (TX0 1).1 (TX0 1).2.1 (TX0 1).2.2.1 ∈ wsX0_gainOf := List.mem_of_getElem? (i := 2) (by decide +kernel)
theorem fl_X0_gainOf_X0_2 : Cond.fieldLink RX0 15 (TX0 2).1 (TX0 2).2.1 (TX0 2).2.2.1 ∈ wsX0_gainOf := List.mem_of_getElem? (i := 3) (by decide +kernel)
theorem li_X0_gainOf_X11 : Cond.initialized RX11 ∈ wsX0_gainOf := List.mem_of_getElem? (i := 5) (by decide +kernel)
theorem ls_X0_gainOf_X11_isIndex : Cond.static yX11_isIndex ∈ wsX0_gainOf := List.mem_of_getElem? (i := 4) (by decide +kernel)
def wp_X0_gainOf (p1 : Int32) (p2 : Int32) (σ : US) (κ : US) (Q : Int64 → Prop) : Prop := wp_X11_isIndex p1 (fun (r1 : Int32) => (r1 = 0 → Q 0) ∧ (¬ r1 = 0 → wp_X11_isIndex p2 (fun (r2 : Int32) => (¬ r2 = 0 → wp_X2_stepWeight p1 p2 κ (fun (r3 : Int32) => vp_in p2 8 ∧ (vp_in p1 8 ∧ (∀ x4 : Int64, x4 = ((r3.toInt64) * (aB σ 0 (p2).toNatClampNeg)) * (aB σ 1 (p1).toNatClampNeg) → vp_in p1 8 ∧ (wp_X2_divisorOf p1 κ (fun (r5 : Int32) => vp_in p2 8 ∧ (∀ x6 : Int64, x6 = ((aB σ 0 (p1).toNatClampNeg) * (r5.toInt64)) * (aB σ 1 (p2).toNatClampNeg) → Q (x4 - x6)))))))) ∧ (r2 = 0 → Q 0))))
set_option maxRecDepth 100000 in
set_option maxHeartbeats 4000000 in
theorem c_X0_gainOf (l : Launch) (D : va_G) (kc : Nat → ClassId) (ab : Nat → Nat) (ac : Nat → Nat) (p1 : Int32) (p2 : Int32) (σ : US) (κ : US) (Q : Int64 → Prop) (h : wp_X0_gainOf p1 p2 σ κ Q) : kCl l D (tyL kc) yX0_gainOf wsX0_gainOf ({ frames := 3, cells := 0, slots := 0, locals := 68 } : Room) [.ref (ab 0), .int p1, .int p2] (xBp kc ab ac σ κ) (fun _ : Unit => (xBp kc ab ac σ κ)) 0 0 (fun r _ => Q r) := by
  intro sz
  refine k_begin (cc := cX0_gainOf) (maxL := 7) (ret := (some .long)) (by decide +kernel) rfl rfl (fun p e s m args below meth c hsz E G ls hl => ?_)
  subst hsz
  have hl : lv_has ls 7 [(0, .ref (ab 0)), (1, .int p1), (2, .int p2)] := hl
  refine lv_iload_n E.ex E.by dX0_gainOf_0 rfl (lv_at hl 1 rfl) ?_
  refine k_cSNi (X := (xBp kc ab ac σ κ)) (w := []) (Z := []) (wnew := (fun _ : Unit => (xBp kc ab ac σ κ))) (As := [.int p1]) (rest := []) E (List.append_nil _).symm G (c_X11_isIndex l D kc _ _ h) gX0_gainOf_X11_isIndex_n38 (by decide +kernel) li_X0_gainOf_X11 ls_X0_gainOf_X11_isIndex rfl ⟨rfl, rfl⟩ hd_X11_isIndex_n ⟨rfl, rfl⟩ rfl hl rfl rfl dX0_gainOf_1 ⟨rfl, rfl⟩ (fun _ => (List.append_nil _).symm) (fun r1 _u1 hq H locs G => ?_)
  have h := hq
  refine lv_if_eq (tgt := 14) E.ex E.by dX0_gainOf_4 (by decide) (fun hc8 => ?_) (fun hc8 => ?_)
  · have h := h.1 hc8
    refine lv_lconst (v := 0) E.ex E.by dX0_gainOf_14 (by decide) ?_
    exact k_retl (wof := (fun _ : Unit => (xBp kc ab ac σ κ))) (u := ()) E G h (Nat.le_of_ble_eq_true rfl) (Nat.le_of_ble_eq_true rfl) dX0_gainOf_15
  · have h := h.2 hc8
    refine lv_iload_n E.ex E.by dX0_gainOf_7 rfl (lv_at hl 2 rfl) ?_
    refine k_cSNi (X := (xBp kc ab ac σ κ)) (w := []) (Z := []) (wnew := (fun _ : Unit => (xBp kc ab ac σ κ))) (As := [.int p2]) (rest := []) E (List.append_nil _).symm G (c_X11_isIndex l D kc _ _ h) gX0_gainOf_X11_isIndex_n38 (by decide +kernel) li_X0_gainOf_X11 ls_X0_gainOf_X11_isIndex rfl ⟨rfl, rfl⟩ hd_X11_isIndex_n ⟨rfl, rfl⟩ rfl hl rfl rfl dX0_gainOf_8 ⟨rfl, rfl⟩ (fun _ => (List.append_nil _).symm) (fun r2 _u8 hq H locs G => ?_)
    have h := hq
    refine lv_if_ne (tgt := 16) E.ex E.by dX0_gainOf_11 (by decide) (fun hc7 => ?_) (fun hc7 => ?_)
    · have h := h.1 hc7
      refine lv_aload_n E.ex E.by dX0_gainOf_16 rfl (lv_at hl 0 rfl) ?_
      refine k_get E G wi_X0_gainOf_X0 0 (gBp_0 _ _ _ _ _) rfl 0 rfl fl_X0_gainOf_X0_0 (v := .ref (ac 0)) rfl dX0_gainOf_17 ?_
      refine lv_iload_n E.ex E.by dX0_gainOf_20 rfl (lv_at hl 1 rfl) ?_
      refine lv_iload_n E.ex E.by dX0_gainOf_21 rfl (lv_at hl 2 rfl) ?_
      refine k_cVi (X := ((wBp kc ab ac σ) : va_W)) (w := (wC kc ac κ)) (Z := ([] : va_W)) (wnew := (fun _ : Unit => (xBp kc ab ac σ κ))) (As := [.int p1, .int p2]) (rest := []) E (xBp_1 _ _ _ _ _) G (c_X2_stepWeight l D kc _ _ _ _ _ h) gX0_gainOf_X2_stepWeight rfl ⟨rfl, rfl⟩ hd_X2_stepWeight_v ⟨rfl, rfl⟩ 0 (gC_0 _ _ _) rfl rfl hl rfl rfl dX0_gainOf_22 ⟨rfl, rfl⟩ (fun _ => xBp_1 _ _ _ _ _) (fun r3 _u22 hq H locs G => ?_)
      have h := hq
      refine lv_i2l E.ex E.by dX0_gainOf_25 rfl ?_
      refine lv_aload_n E.ex E.by dX0_gainOf_26 rfl (lv_at hl 0 rfl) ?_
      refine k_get E G wi_X0_gainOf_X0 0 (gBp_0 _ _ _ _ _) rfl 1 rfl fl_X0_gainOf_X0_1 (v := .ref (ab 1)) rfl dX0_gainOf_27 ?_
      refine lv_iload_n E.ex E.by dX0_gainOf_30 rfl (lv_at hl 2 rfl) ?_
      refine k_lald E G 1 (gBp_1 _ _ _ _ _) 1 rfl h.1 dX0_gainOf_31 ?_
      have h := h.2
      refine lv_lmul E.ex E.by dX0_gainOf_32 ?_
      refine lv_aload_n E.ex E.by dX0_gainOf_33 rfl (lv_at hl 0 rfl) ?_
      refine k_get E G wi_X0_gainOf_X0 0 (gBp_0 _ _ _ _ _) rfl 2 rfl fl_X0_gainOf_X0_2 (v := .ref (ab 2)) rfl dX0_gainOf_34 ?_
      refine lv_iload_n E.ex E.by dX0_gainOf_37 rfl (lv_at hl 1 rfl) ?_
      refine k_lald E G 2 (gBp_2 _ _ _ _ _) 1 rfl h.1 dX0_gainOf_38 ?_
      have h := h.2
      refine lv_lmul E.ex E.by dX0_gainOf_39 ?_
      refine lv_topl (fun x4 ex4 => ?_)
      have h := h x4 ex4
      refine lv_lstore_n (lv' := [(3, .long x4), (0, .ref (ab 0)), (1, .int p1), (2, .int p2)]) E.ex E.by dX0_gainOf_40 rfl hl (by decide) rfl (fun ls hl => ?_)
      refine lv_aload_n E.ex E.by dX0_gainOf_41 rfl (lv_at hl 1 rfl) ?_
      refine k_get E G wi_X0_gainOf_X0 0 (gBp_0 _ _ _ _ _) rfl 1 rfl fl_X0_gainOf_X0_1 (v := .ref (ab 1)) rfl dX0_gainOf_42 ?_
      refine lv_iload_n E.ex E.by dX0_gainOf_45 rfl (lv_at hl 2 rfl) ?_
      refine k_lald E G 1 (gBp_1 _ _ _ _ _) 1 rfl h.1 dX0_gainOf_46 ?_
      have h := h.2
      refine lv_aload_n E.ex E.by dX0_gainOf_47 rfl (lv_at hl 1 rfl) ?_
      refine k_get E G wi_X0_gainOf_X0 0 (gBp_0 _ _ _ _ _) rfl 0 rfl fl_X0_gainOf_X0_0 (v := .ref (ac 0)) rfl dX0_gainOf_48 ?_
      refine lv_iload_n E.ex E.by dX0_gainOf_51 rfl (lv_at hl 2 rfl) ?_
      refine k_cVi (X := ((wBp kc ab ac σ) : va_W)) (w := (wC kc ac κ)) (Z := ([] : va_W)) (wnew := (fun _ : Unit => (xBp kc ab ac σ κ))) (As := [.int p1]) (rest := [.long (aB σ 0 (p1).toNatClampNeg)]) E (xBp_1 _ _ _ _ _) G (c_X2_divisorOf l D kc _ _ _ _ h) gX0_gainOf_X2_divisorOf rfl ⟨rfl, rfl⟩ hd_X2_divisorOf_v ⟨rfl, rfl⟩ 0 (gC_0 _ _ _) rfl rfl hl rfl rfl dX0_gainOf_52 ⟨rfl, rfl⟩ (fun _ => xBp_1 _ _ _ _ _) (fun r5 _u52 hq H locs G => ?_)
      have h := hq
      refine lv_i2l E.ex E.by dX0_gainOf_55 rfl ?_
      refine lv_lmul E.ex E.by dX0_gainOf_56 ?_
      refine lv_aload_n E.ex E.by dX0_gainOf_57 rfl (lv_at hl 1 rfl) ?_
      refine k_get E G wi_X0_gainOf_X0 0 (gBp_0 _ _ _ _ _) rfl 2 rfl fl_X0_gainOf_X0_2 (v := .ref (ab 2)) rfl dX0_gainOf_58 ?_
      refine lv_iload_n E.ex E.by dX0_gainOf_61 rfl (lv_at hl 3 rfl) ?_
      refine k_lald E G 2 (gBp_2 _ _ _ _ _) 1 rfl h.1 dX0_gainOf_62 ?_
      have h := h.2
      refine lv_lmul E.ex E.by dX0_gainOf_63 ?_
      refine lv_topl (fun x6 ex6 => ?_)
      have h := h x6 ex6
      refine lv_lstore (lv' := [(5, .long x6), (3, .long x4), (0, .ref (ab 0)), (1, .int p1), (2, .int p2)]) E.ex E.by dX0_gainOf_64 hl (by decide) rfl (fun ls hl => ?_)
      refine lv_lload_n E.ex E.by dX0_gainOf_66 rfl (lv_at hl 1 rfl) ?_
      refine lv_lload E.ex E.by dX0_gainOf_67 (lv_at hl 0 rfl) ?_
      refine lv_lsub E.ex E.by dX0_gainOf_69 ?_
      exact k_retl (wof := (fun _ : Unit => (xBp kc ab ac σ κ))) (u := ()) E G h (Nat.le_of_ble_eq_true rfl) (Nat.le_of_ble_eq_true rfl) dX0_gainOf_70
    · have h := h.2 hc7
      refine lv_lconst (v := 0) E.ex E.by dX0_gainOf_14 (by decide) ?_
      exact k_retl (wof := (fun _ : Unit => (xBp kc ab ac σ κ))) (u := ()) E G h (Nat.le_of_ble_eq_true rfl) (Nat.le_of_ble_eq_true rfl) dX0_gainOf_15
theorem wi_X0_improve_X0 : ∀ w ∈ wsX00, w ∈ wsX0_improve := fun w h => List.mem_cons_of_mem _ (List.mem_append_left _ (List.mem_append_right _ (h)))
theorem fl_X0_improve_X0_3 : Cond.fieldLink RX0 18 (TX0 3).1 (TX0 3).2.1 (TX0 3).2.2.1 ∈ wsX0_improve := List.mem_of_getElem? (i := 1) (by decide +kernel)
theorem fl_X0_improve_X0_1 : Cond.fieldLink RX0 9 (TX0 1).1 (TX0 1).2.1 (TX0 1).2.2.1 ∈ wsX0_improve := List.mem_of_getElem? (i := 2) (by decide +kernel)
theorem fl_X0_improve_X0_0 : Cond.fieldLink RX0 22 (TX0 0).1 (TX0 0).2.1 (TX0 0).2.2.1 ∈ wsX0_improve := List.mem_of_getElem? (i := 3) (by decide +kernel)
theorem fl_X0_improve_X0_2 : Cond.fieldLink RX0 15 (TX0 2).1 (TX0 2).2.1 (TX0 2).2.2.1 ∈ wsX0_improve := List.mem_of_getElem? (i := 4) (by decide +kernel)
theorem hd_X0_gainOf_v : yX0_gainOf.cls = RX0 ∧ yX0_gainOf.cls ≠ "java/lang/invoke/MethodHandle" ∧ yX0_gainOf.cls ≠ "java/lang/invoke/VarHandle" ∧ (parseMethodDescriptor yX0_gainOf.desc).map (fun d => d.parameters.length) = some 2 := by decide +kernel
theorem hd_X0_isStep_v : yX0_isStep.cls = RX0 ∧ yX0_isStep.cls ≠ "java/lang/invoke/MethodHandle" ∧ yX0_isStep.cls ≠ "java/lang/invoke/VarHandle" ∧ (parseMethodDescriptor yX0_isStep.desc).map (fun d => d.parameters.length) = some 2 := by decide +kernel
def wp_X0_improve_J77 (v1 : Int32) (v2 : Int32) (σ' : US) (κ : US) (P2 : (Int32 × US) → Prop) (Q : US → Prop) : Prop := wp_X2_stepWeight v1 v2 κ (fun (r3 : Int32) => vp_in v2 8 ∧ (vp_in v1 8 ∧ (∀ z4 : US, z4 = uB σ' 0 (v1).toNatClampNeg ((r3.toInt64) * (aB σ' 0 (v2).toNatClampNeg)) → wp_X2_divisorOf v1 κ (fun (r5 : Int32) => vp_in v2 8 ∧ (vp_in v1 8 ∧ (∀ z6 : US, z6 = uB z4 1 (v1).toNatClampNeg ((r5.toInt64) * (aB z4 1 (v2).toNatClampNeg)) → vp_in v2 8 ∧ (vp_in v1 8 ∧ (∀ z7 : US, z7 = uA z6 0 (v1).toNatClampNeg ((aA z6 0 (v2).toNatClampNeg) + 1) → P2 (v2 + 1, z7)))))))))
def wp_X0_improve_J41 (v3 : Int64) (v1 : Int32) (v2 : Int32) (σ' : US) (κ : US) (s0 : Int32) (P2 : (Int32 × US) → Prop) (Q : US → Prop) : Prop := (¬ s0 = 0 → wp_X0_improve_J77 v1 v2 σ' κ P2 Q) ∧ (s0 = 0 → (0 < (lg_cmp v3 0) → wp_X0_improve_J77 v1 v2 σ' κ P2 Q) ∧ (¬ 0 < (lg_cmp v3 0) → (¬ (lg_cmp v3 0) = 0 → P2 (v2 + 1, σ')) ∧ ((lg_cmp v3 0) = 0 → vp_in v2 8 ∧ (vp_in v1 8 ∧ (((aA σ' 0 (v1).toNatClampNeg) ≤ ((aA σ' 0 (v2).toNatClampNeg) + 1) → P2 (v2 + 1, σ')) ∧ (¬ (aA σ' 0 (v1).toNatClampNeg) ≤ ((aA σ' 0 (v2).toNatClampNeg) + 1) → wp_X0_improve_J77 v1 v2 σ' κ P2 Q))))))
def wp_X0_improve_L2 (v1 : Int32) (κ : US) (Q : US → Prop) (P2 : (Int32 × US) → Prop) (t2 : Int32 × US) : Prop := (8 ≤ t2.1 → Q t2.2) ∧ (¬ 8 ≤ t2.1 → wp_X0_isStep v1 t2.1 t2.2 κ (fun (r1 : Int32) => (¬ r1 = 0 → wp_X0_gainOf v1 t2.1 t2.2 κ (fun (r2 : Int64) => vp_in v1 8 ∧ ((¬ (aA t2.2 0 (v1).toNatClampNeg) = 0 → wp_X0_improve_J41 r2 v1 t2.1 t2.2 κ 0 P2 Q) ∧ ((aA t2.2 0 (v1).toNatClampNeg) = 0 → wp_X0_improve_J41 r2 v1 t2.1 t2.2 κ 1 P2 Q)))) ∧ (r1 = 0 → P2 (t2.1 + 1, t2.2))))
def wp_X0_improve (p1 : Int32) (σ : US) (κ : US) (Q : US → Prop) : Prop := lpW (wp_X0_improve_L2 p1 κ Q) (0, σ)
set_option maxRecDepth 100000 in
set_option maxHeartbeats 4000000 in
theorem c_X0_improve (l : Launch) (D : va_G) (kc : Nat → ClassId) (ab : Nat → Nat) (ac : Nat → Nat) (p1 : Int32) (σ : US) (κ : US) (Q : US → Prop) (h : wp_X0_improve p1 σ κ Q) : kCv l D (tyL kc) yX0_improve wsX0_improve ({ frames := 4, cells := 0, slots := 0, locals := 94 } : Room) [.ref (ab 0), .int p1] (xBp kc ab ac σ κ) (fun u : US => (xBp kc ab ac u κ)) 0 0 (fun u => Q u) := by
  intro sz
  refine k_begin (cc := cX0_improve) (maxL := 6) (ret := none) (by decide +kernel) rfl rfl (fun p e s m args below meth c hsz E G ls hl => ?_)
  subst hsz
  have hl : lv_has ls 6 [(0, .ref (ab 0)), (1, .int p1)] := hl
  refine lv_iconst (v := 0) E.ex E.by dX0_improve_0 (by decide) ?_
  refine lv_istore_n (lv' := [(2, .int 0), (0, .ref (ab 0)), (1, .int p1)]) E.ex E.by dX0_improve_1 rfl hl (by decide) rfl (fun ls hl => ?_)
  refine lpW_ind (fun t1 : Int32 × US => ∀ (H : Heap) (locs : List Loc) (ls : Array Slot), kG D (va_A (xBp kc ab ac σ κ) s.heap.size) s (xBp kc ab ac t1.2 κ) H locs → lv_has ls 6 [(0, .ref (ab 0)), (1, .int p1), (2, .int t1.1)] → W p l e _ s m args below meth c H locs _ _ _ (F0 m 2 ls [])) (fun P2 IH2 t1 h H locs ls G hl => ?_) _ h _ _ _ G (lv_sub hl [1, 2, 0] rfl)
  have K77 : ∀ (v2 : Int32) (σ' : US) (H : Heap) (locs : List Loc) (ls : Array Slot), kG D (va_A (xBp kc ab ac σ κ) s.heap.size) s (xBp kc ab ac σ' κ) H locs → lv_has ls 6 [(0, .ref (ab 0)), (1, .int p1), (2, .int v2)] → wp_X0_improve_J77 p1 v2 σ' κ P2 Q → W p l e ({ frames := 4, cells := 0, slots := 0, locals := 94 } : Room) s m args below meth c H locs 0 0 (MQ below (va_Qv (fun u => Q u) (kB D (xBp kc ab ac σ κ) s.heap.size (fun u : US => (xBp kc ab ac u κ))) (va_A (xBp kc ab ac σ κ) s.heap.size)) args s 0 0 (va_A (xBp kc ab ac σ κ) s.heap.size)) (F0 m 77 ls []) := by
    intro v2 σ' H locs ls G hl h
    refine lv_aload_n E.ex E.by dX0_improve_77 rfl (lv_at hl 0 rfl) ?_
    refine k_get E G wi_X0_improve_X0 0 (gBp_0 _ _ _ _ _) rfl 1 rfl fl_X0_improve_X0_1 (v := .ref (ab 1)) rfl dX0_improve_78 ?_
    refine lv_iload_n E.ex E.by dX0_improve_81 rfl (lv_at hl 1 rfl) ?_
    refine lv_aload_n E.ex E.by dX0_improve_82 rfl (lv_at hl 0 rfl) ?_
    refine k_get E G wi_X0_improve_X0 0 (gBp_0 _ _ _ _ _) rfl 0 rfl fl_X0_improve_X0_0 (v := .ref (ac 0)) rfl dX0_improve_83 ?_
    refine lv_iload_n E.ex E.by dX0_improve_86 rfl (lv_at hl 1 rfl) ?_
    refine lv_iload_n E.ex E.by dX0_improve_87 rfl (lv_at hl 2 rfl) ?_
    refine k_cVi (X := ((wBp kc ab ac σ') : va_W)) (w := (wC kc ac κ)) (Z := ([] : va_W)) (wnew := (fun _ : Unit => (xBp kc ab ac σ' κ))) (As := [.int p1, .int v2]) (rest := [.int p1, .ref (ab 1)]) E (xBp_1 _ _ _ _ _) G (c_X2_stepWeight l D kc _ _ _ _ _ h) gX0_improve_X2_stepWeight rfl ⟨rfl, rfl⟩ hd_X2_stepWeight_v ⟨rfl, rfl⟩ 0 (gC_0 _ _ _) rfl rfl hl rfl rfl dX0_improve_88 ⟨rfl, rfl⟩ (fun _ => xBp_1 _ _ _ _ _) (fun r11 _u88 hq H locs G => ?_)
    have h := hq
    refine lv_i2l E.ex E.by dX0_improve_91 rfl ?_
    refine lv_aload_n E.ex E.by dX0_improve_92 rfl (lv_at hl 0 rfl) ?_
    refine k_get E G wi_X0_improve_X0 0 (gBp_0 _ _ _ _ _) rfl 1 rfl fl_X0_improve_X0_1 (v := .ref (ab 1)) rfl dX0_improve_93 ?_
    refine lv_iload_n E.ex E.by dX0_improve_96 rfl (lv_at hl 2 rfl) ?_
    refine k_lald E G 1 (gBp_1 _ _ _ _ _) 1 rfl h.1 dX0_improve_97 ?_
    have h := h.2
    refine lv_lmul E.ex E.by dX0_improve_98 ?_
    refine k_last (fun z => (xBp kc ab ac z κ)) E G 1 (gBp_1 _ _ _ _ _) 1 rfl h.1 (uB σ' 0 (p1).toNatClampNeg ((r11.toInt64) * (aB σ' 0 (v2).toNatClampNeg))) (sBp_1 _ _ _ _ _ _) dX0_improve_99 (fun z12 ez12 H locs G => ?_)
    have h := h.2 z12 ez12
    refine lv_aload_n E.ex E.by dX0_improve_100 rfl (lv_at hl 0 rfl) ?_
    refine k_get E G wi_X0_improve_X0 0 (gBp_0 _ _ _ _ _) rfl 2 rfl fl_X0_improve_X0_2 (v := .ref (ab 2)) rfl dX0_improve_101 ?_
    refine lv_iload_n E.ex E.by dX0_improve_104 rfl (lv_at hl 1 rfl) ?_
    refine lv_aload_n E.ex E.by dX0_improve_105 rfl (lv_at hl 0 rfl) ?_
    refine k_get E G wi_X0_improve_X0 0 (gBp_0 _ _ _ _ _) rfl 0 rfl fl_X0_improve_X0_0 (v := .ref (ac 0)) rfl dX0_improve_106 ?_
    refine lv_iload_n E.ex E.by dX0_improve_109 rfl (lv_at hl 1 rfl) ?_
    refine k_cVi (X := ((wBp kc ab ac z12) : va_W)) (w := (wC kc ac κ)) (Z := ([] : va_W)) (wnew := (fun _ : Unit => (xBp kc ab ac z12 κ))) (As := [.int p1]) (rest := [.int p1, .ref (ab 2)]) E (xBp_1 _ _ _ _ _) G (c_X2_divisorOf l D kc _ _ _ _ h) gX0_improve_X2_divisorOf rfl ⟨rfl, rfl⟩ hd_X2_divisorOf_v ⟨rfl, rfl⟩ 0 (gC_0 _ _ _) rfl rfl hl rfl rfl dX0_improve_110 ⟨rfl, rfl⟩ (fun _ => xBp_1 _ _ _ _ _) (fun r13 _u110 hq H locs G => ?_)
    have h := hq
    refine lv_i2l E.ex E.by dX0_improve_113 rfl ?_
    refine lv_aload_n E.ex E.by dX0_improve_114 rfl (lv_at hl 0 rfl) ?_
    refine k_get E G wi_X0_improve_X0 0 (gBp_0 _ _ _ _ _) rfl 2 rfl fl_X0_improve_X0_2 (v := .ref (ab 2)) rfl dX0_improve_115 ?_
    refine lv_iload_n E.ex E.by dX0_improve_118 rfl (lv_at hl 2 rfl) ?_
    refine k_lald E G 2 (gBp_2 _ _ _ _ _) 1 rfl h.1 dX0_improve_119 ?_
    have h := h.2
    refine lv_lmul E.ex E.by dX0_improve_120 ?_
    refine k_last (fun z => (xBp kc ab ac z κ)) E G 2 (gBp_2 _ _ _ _ _) 1 rfl h.1 (uB z12 1 (p1).toNatClampNeg ((r13.toInt64) * (aB z12 1 (v2).toNatClampNeg))) (sBp_2 _ _ _ _ _ _) dX0_improve_121 (fun z14 ez14 H locs G => ?_)
    have h := h.2 z14 ez14
    refine lv_aload_n E.ex E.by dX0_improve_122 rfl (lv_at hl 0 rfl) ?_
    refine k_get E G wi_X0_improve_X0 0 (gBp_0 _ _ _ _ _) rfl 3 rfl fl_X0_improve_X0_3 (v := .ref (ab 3)) rfl dX0_improve_123 ?_
    refine lv_iload_n E.ex E.by dX0_improve_126 rfl (lv_at hl 1 rfl) ?_
    refine lv_aload_n E.ex E.by dX0_improve_127 rfl (lv_at hl 0 rfl) ?_
    refine k_get E G wi_X0_improve_X0 0 (gBp_0 _ _ _ _ _) rfl 3 rfl fl_X0_improve_X0_3 (v := .ref (ab 3)) rfl dX0_improve_128 ?_
    refine lv_iload_n E.ex E.by dX0_improve_131 rfl (lv_at hl 2 rfl) ?_
    refine k_iald E G 3 (gBp_3 _ _ _ _ _) 0 rfl h.1 dX0_improve_132 ?_
    have h := h.2
    refine lv_iconst (v := 1) E.ex E.by dX0_improve_133 (by decide) ?_
    refine lv_iadd E.ex E.by dX0_improve_134 ?_
    refine k_iast (fun z => (xBp kc ab ac z κ)) E G 3 (gBp_3 _ _ _ _ _) 0 rfl h.1 (uA z14 0 (p1).toNatClampNeg ((aA z14 0 (v2).toNatClampNeg) + 1)) (sBp_3 _ _ _ _ _ _) dX0_improve_135 (fun z15 ez15 H locs G => ?_)
    have h := h.2 z15 ez15
    refine lv_iinc (k := 2) (v := v2 + 1) (lv' := [(2, .int (v2 + 1)), (0, .ref (ab 0)), (1, .int p1)]) E.ex E.by dX0_improve_136 hl rfl (k_inc1 _) (by decide) rfl (fun ls hl => ?_)
    refine lv_goto (tgt := 2) E.ex E.by dX0_improve_139 (by decide) ?_
    exact IH2 _ h _ _ _ G (lv_sub hl [1, 2, 0] rfl)
  have K41 : ∀ (v3 : Int64) (v2 : Int32) (σ' : US) (s0 : Int32) (H : Heap) (locs : List Loc) (ls : Array Slot), kG D (va_A (xBp kc ab ac σ κ) s.heap.size) s (xBp kc ab ac σ' κ) H locs → lv_has ls 6 [(3, .long v3), (0, .ref (ab 0)), (1, .int p1), (2, .int v2)] → wp_X0_improve_J41 v3 p1 v2 σ' κ s0 P2 Q → W p l e ({ frames := 4, cells := 0, slots := 0, locals := 94 } : Room) s m args below meth c H locs 0 0 (MQ below (va_Qv (fun u => Q u) (kB D (xBp kc ab ac σ κ) s.heap.size (fun u : US => (xBp kc ab ac u κ))) (va_A (xBp kc ab ac σ κ) s.heap.size)) args s 0 0 (va_A (xBp kc ab ac σ κ) s.heap.size)) (F0 m 41 ls [.int s0]) := by
    intro v3 v2 σ' s0 H locs ls G hl h
    refine lv_istore (lv' := [(5, .int s0), (3, .long v3), (0, .ref (ab 0)), (1, .int p1), (2, .int v2)]) E.ex E.by dX0_improve_41 hl (by decide) rfl (fun ls hl => ?_)
    refine lv_iload E.ex E.by dX0_improve_43 (lv_at hl 0 rfl) ?_
    refine lv_if_ne (tgt := 77) E.ex E.by dX0_improve_45 (by decide) (fun hc10 => ?_) (fun hc10 => ?_)
    · have h := h.1 hc10
      exact K77 _ _ _ _ _ G (lv_sub hl [2, 3, 4] rfl) h
    · have h := h.2 hc10
      refine lv_lload_n E.ex E.by dX0_improve_48 rfl (lv_at hl 1 rfl) ?_
      refine lv_lconst (v := 0) E.ex E.by dX0_improve_49 (by decide) ?_
      refine W.lcmp E.ex E.by dX0_improve_50 ?_
      refine lv_if_gt (tgt := 77) E.ex E.by dX0_improve_51 (by decide) (fun hc9 => ?_) (fun hc9 => ?_)
      · have h := h.1 hc9
        exact K77 _ _ _ _ _ G (lv_sub hl [2, 3, 4] rfl) h
      · have h := h.2 hc9
        refine lv_lload_n E.ex E.by dX0_improve_54 rfl (lv_at hl 1 rfl) ?_
        refine lv_lconst (v := 0) E.ex E.by dX0_improve_55 (by decide) ?_
        refine W.lcmp E.ex E.by dX0_improve_56 ?_
        refine lv_if_ne (tgt := 136) E.ex E.by dX0_improve_57 (by decide) (fun hc8 => ?_) (fun hc8 => ?_)
        · have h := h.1 hc8
          refine lv_iinc (k := 4) (v := v2 + 1) (lv' := [(2, .int (v2 + 1)), (5, .int s0), (3, .long v3), (0, .ref (ab 0)), (1, .int p1)]) E.ex E.by dX0_improve_136 hl rfl (k_inc1 _) (by decide) rfl (fun ls hl => ?_)
          refine lv_goto (tgt := 2) E.ex E.by dX0_improve_139 (by decide) ?_
          exact IH2 _ h _ _ _ G (lv_sub hl [3, 4, 0] rfl)
        · have h := h.2 hc8
          refine lv_aload_n E.ex E.by dX0_improve_60 rfl (lv_at hl 2 rfl) ?_
          refine k_get E G wi_X0_improve_X0 0 (gBp_0 _ _ _ _ _) rfl 3 rfl fl_X0_improve_X0_3 (v := .ref (ab 3)) rfl dX0_improve_61 ?_
          refine lv_iload_n E.ex E.by dX0_improve_64 rfl (lv_at hl 4 rfl) ?_
          refine k_iald E G 3 (gBp_3 _ _ _ _ _) 0 rfl h.1 dX0_improve_65 ?_
          have h := h.2
          refine lv_iconst (v := 1) E.ex E.by dX0_improve_66 (by decide) ?_
          refine lv_iadd E.ex E.by dX0_improve_67 ?_
          refine lv_aload_n E.ex E.by dX0_improve_68 rfl (lv_at hl 2 rfl) ?_
          refine k_get E G wi_X0_improve_X0 0 (gBp_0 _ _ _ _ _) rfl 3 rfl fl_X0_improve_X0_3 (v := .ref (ab 3)) rfl dX0_improve_69 ?_
          refine lv_iload_n E.ex E.by dX0_improve_72 rfl (lv_at hl 3 rfl) ?_
          refine k_iald E G 3 (gBp_3 _ _ _ _ _) 0 rfl h.1 dX0_improve_73 ?_
          have h := h.2
          refine lv_icmp_ge (tgt := 136) E.ex E.by dX0_improve_74 (by decide) (fun hc7 => ?_) (fun hc7 => ?_)
          · have h := h.1 hc7
            refine lv_iinc (k := 4) (v := v2 + 1) (lv' := [(2, .int (v2 + 1)), (5, .int s0), (3, .long v3), (0, .ref (ab 0)), (1, .int p1)]) E.ex E.by dX0_improve_136 hl rfl (k_inc1 _) (by decide) rfl (fun ls hl => ?_)
            refine lv_goto (tgt := 2) E.ex E.by dX0_improve_139 (by decide) ?_
            exact IH2 _ h _ _ _ G (lv_sub hl [3, 4, 0] rfl)
          · have h := h.2 hc7
            exact K77 _ _ _ _ _ G (lv_sub hl [2, 3, 4] rfl) h
  refine lv_iload_n E.ex E.by dX0_improve_2 rfl (lv_at hl 2 rfl) ?_
  refine lv_bipush (v := 8) E.ex E.by dX0_improve_3 (by decide) ?_
  refine lv_icmp_ge (tgt := 142) E.ex E.by dX0_improve_5 (by decide) (fun hc6 => ?_) (fun hc6 => ?_)
  · have h := h.1 hc6
    exact k_retv (wof := (fun u : US => (xBp kc ab ac u κ))) (u := t1.2) E G h (Nat.le_of_ble_eq_true rfl) (Nat.le_of_ble_eq_true rfl) dX0_improve_142
  · have h := h.2 hc6
    refine lv_aload_n E.ex E.by dX0_improve_8 rfl (lv_at hl 0 rfl) ?_
    refine lv_iload_n E.ex E.by dX0_improve_9 rfl (lv_at hl 1 rfl) ?_
    refine lv_iload_n E.ex E.by dX0_improve_10 rfl (lv_at hl 2 rfl) ?_
    refine k_cVi (X := []) (w := (xBp kc ab ac t1.2 κ)) (Z := []) (wnew := (fun _ : Unit => (xBp kc ab ac t1.2 κ))) (As := [.int p1, .int t1.1]) (rest := []) E (List.append_nil _).symm G (c_X0_isStep l D kc _ _ _ _ _ _ _ h) gX0_improve_X0_isStep rfl ⟨rfl, rfl⟩ hd_X0_isStep_v ⟨rfl, rfl⟩ 0 (gBp_0 _ _ _ _ _) rfl rfl hl rfl rfl dX0_improve_11 ⟨rfl, rfl⟩ (fun _ => (List.append_nil _).symm) (fun r2 _u11 hq H locs G => ?_)
    have h := hq
    refine lv_if_ne (tgt := 20) E.ex E.by dX0_improve_14 (by decide) (fun hc5 => ?_) (fun hc5 => ?_)
    · have h := h.1 hc5
      refine lv_aload_n E.ex E.by dX0_improve_20 rfl (lv_at hl 0 rfl) ?_
      refine lv_iload_n E.ex E.by dX0_improve_21 rfl (lv_at hl 1 rfl) ?_
      refine lv_iload_n E.ex E.by dX0_improve_22 rfl (lv_at hl 2 rfl) ?_
      refine k_cVl (X := []) (w := (xBp kc ab ac t1.2 κ)) (Z := []) (wnew := (fun _ : Unit => (xBp kc ab ac t1.2 κ))) (As := [.int p1, .int t1.1]) (rest := []) E (List.append_nil _).symm G (c_X0_gainOf l D kc _ _ _ _ _ _ _ h) gX0_improve_X0_gainOf rfl ⟨rfl, rfl⟩ hd_X0_gainOf_v ⟨rfl, rfl⟩ 0 (gBp_0 _ _ _ _ _) rfl rfl hl rfl rfl dX0_improve_23 ⟨rfl, rfl⟩ (fun _ => (List.append_nil _).symm) (fun r3 _u23 hq H locs G => ?_)
      have h := hq
      refine lv_lstore_n (lv' := [(3, .long r3), (0, .ref (ab 0)), (1, .int p1), (2, .int t1.1)]) E.ex E.by dX0_improve_26 rfl hl (by decide) rfl (fun ls hl => ?_)
      refine lv_aload_n E.ex E.by dX0_improve_27 rfl (lv_at hl 1 rfl) ?_
      refine k_get E G wi_X0_improve_X0 0 (gBp_0 _ _ _ _ _) rfl 3 rfl fl_X0_improve_X0_3 (v := .ref (ab 3)) rfl dX0_improve_28 ?_
      refine lv_iload_n E.ex E.by dX0_improve_31 rfl (lv_at hl 2 rfl) ?_
      refine k_iald E G 3 (gBp_3 _ _ _ _ _) 0 rfl h.1 dX0_improve_32 ?_
      have h := h.2
      refine lv_if_ne (tgt := 40) E.ex E.by dX0_improve_33 (by decide) (fun hc4 => ?_) (fun hc4 => ?_)
      · have h := h.1 hc4
        refine lv_iconst (v := 0) E.ex E.by dX0_improve_40 (by decide) ?_
        exact K41 _ _ _ _ _ _ _ G (lv_sub hl [0, 1, 2, 3] rfl) h
      · have h := h.2 hc4
        refine lv_iconst (v := 1) E.ex E.by dX0_improve_36 (by decide) ?_
        refine lv_goto (tgt := 41) E.ex E.by dX0_improve_37 (by decide) ?_
        exact K41 _ _ _ _ _ _ _ G (lv_sub hl [0, 1, 2, 3] rfl) h
    · have h := h.2 hc5
      refine lv_goto (tgt := 136) E.ex E.by dX0_improve_17 (by decide) ?_
      refine lv_iinc (k := 2) (v := t1.1 + 1) (lv' := [(2, .int (t1.1 + 1)), (0, .ref (ab 0)), (1, .int p1)]) E.ex E.by dX0_improve_136 hl rfl (k_inc1 _) (by decide) rfl (fun ls hl => ?_)
      refine lv_goto (tgt := 2) E.ex E.by dX0_improve_139 (by decide) ?_
      exact IH2 _ h _ _ _ G (lv_sub hl [1, 2, 0] rfl)
theorem wi_X0_search_X0 : ∀ w ∈ wsX00, w ∈ wsX0_search := fun w h => List.mem_cons_of_mem _ (List.mem_append_left _ (List.mem_append_right _ (h)))
theorem fl_X0_search_X0_4 : Cond.fieldLink RX0 26 (TX0 4).1 (TX0 4).2.1 (TX0 4).2.2.1 ∈ wsX0_search := List.mem_of_getElem? (i := 1) (by decide +kernel)
theorem hd_X0_improve_v : yX0_improve.cls = RX0 ∧ yX0_improve.cls ≠ "java/lang/invoke/MethodHandle" ∧ yX0_improve.cls ≠ "java/lang/invoke/VarHandle" ∧ (parseMethodDescriptor yX0_improve.desc).map (fun d => d.parameters.length) = some 1 := by decide +kernel
theorem fl_X0_search_X0_1 : Cond.fieldLink RX0 9 (TX0 1).1 (TX0 1).2.1 (TX0 1).2.2.1 ∈ wsX0_search := List.mem_of_getElem? (i := 2) (by decide +kernel)
theorem fl_X0_search_X0_2 : Cond.fieldLink RX0 15 (TX0 2).1 (TX0 2).2.1 (TX0 2).2.2.1 ∈ wsX0_search := List.mem_of_getElem? (i := 3) (by decide +kernel)
theorem fl_X0_search_X0_3 : Cond.fieldLink RX0 18 (TX0 3).1 (TX0 3).2.1 (TX0 3).2.2.1 ∈ wsX0_search := List.mem_of_getElem? (i := 4) (by decide +kernel)
theorem li_X0_search_X11 : Cond.initialized RX11 ∈ wsX0_search := List.mem_of_getElem? (i := 6) (by decide +kernel)
theorem ls_X0_search_X11_contains : Cond.static yX11_contains ∈ wsX0_search := List.mem_of_getElem? (i := 5) (by decide +kernel)
def wp_X0_search_L67 (v3 : Int32) (κ : US) (P11 : (Int32 × US) → Prop) (P58 : (Int32 × US) → Prop) (Q : US → Prop) (P67 : (Int32 × US) → Prop) (t67 : Int32 × US) : Prop := (8 ≤ t67.1 → P58 (v3 + 1, t67.2)) ∧ (¬ 8 ≤ t67.1 → wp_X0_improve t67.1 t67.2 κ (fun (u2 : US) => P67 (t67.1 + 1, u2)))
def wp_X0_search_L58 (κ : US) (P11 : (Int32 × US) → Prop) (Q : US → Prop) (P58 : (Int32 × US) → Prop) (t58 : Int32 × US) : Prop := (8 ≤ t58.1 → Q t58.2) ∧ (¬ 8 ≤ t58.1 → lpW (wp_X0_search_L67 t58.1 κ P11 P58 Q) (0, t58.2))
def wp_X0_search_L11 (v2 : Int32) (κ : US) (Q : US → Prop) (P11 : (Int32 × US) → Prop) (t11 : Int32 × US) : Prop := (8 ≤ t11.1 → lpW (wp_X0_search_L58 κ P11 Q) (0, t11.2)) ∧ (¬ 8 ≤ t11.1 → vp_in t11.1 8 ∧ (∀ z13 : US, z13 = uB t11.2 0 (t11.1).toNatClampNeg 1 → vp_in t11.1 8 ∧ (∀ z14 : US, z14 = uB z13 1 (t11.1).toNatClampNeg 1 → wp_X11_contains v2 t11.1 (fun (r15 : Int32) => (r15 = 0 → vp_in t11.1 8 ∧ (∀ z16 : US, z16 = uA z14 0 (t11.1).toNatClampNeg 0 → P11 (t11.1 + 1, z16))) ∧ (¬ r15 = 0 → vp_in t11.1 8 ∧ (∀ z17 : US, z17 = uA z14 0 (t11.1).toNatClampNeg 1 → P11 (t11.1 + 1, z17)))))))
def wp_X0_search (p1 : Int32) (p2 : Int32) (σ : US) (κ : US) (Q : US → Prop) : Prop := (∀ z1 : US, z1 = uI σ 0 (p1 &&& (p2 ^^^ (-1))) → lpW (wp_X0_search_L11 p2 κ Q) (0, z1))
set_option maxRecDepth 100000 in
set_option maxHeartbeats 4000000 in
theorem c_X0_search (l : Launch) (D : va_G) (kc : Nat → ClassId) (ab : Nat → Nat) (ac : Nat → Nat) (p1 : Int32) (p2 : Int32) (σ : US) (κ : US) (Q : US → Prop) (h : wp_X0_search p1 p2 σ κ Q) : kCv l D (tyL kc) yX0_search wsX0_search ({ frames := 5, cells := 0, slots := 0, locals := 119 } : Room) [.ref (ab 0), .int p1, .int p2] (xBp kc ab ac σ κ) (fun u : US => (xBp kc ab ac u κ)) 0 0 (fun u => Q u) := by
  intro sz
  refine k_begin (cc := cX0_search) (maxL := 5) (ret := none) (by decide +kernel) rfl rfl (fun p e s m args below meth c hsz E G ls hl => ?_)
  subst hsz
  have hl : lv_has ls 5 [(0, .ref (ab 0)), (1, .int p1), (2, .int p2)] := hl
  refine lv_aload_n E.ex E.by dX0_search_0 rfl (lv_at hl 0 rfl) ?_
  refine lv_iload_n E.ex E.by dX0_search_1 rfl (lv_at hl 1 rfl) ?_
  refine lv_iload_n E.ex E.by dX0_search_2 rfl (lv_at hl 2 rfl) ?_
  refine lv_iconst (v := (-1)) E.ex E.by dX0_search_3 (by decide) ?_
  refine lv_ixor E.ex E.by dX0_search_4 ?_
  refine lv_iand E.ex E.by dX0_search_5 ?_
  refine k_put (fun z => (xBp kc ab ac z κ)) E G wi_X0_search_X0 tyX0_ok nmX0 0 (gBp_0 _ _ _ _ _) rfl 4 rfl fl_X0_search_X0_4 rfl rfl rfl rfl (uI σ 0 (p1 &&& (p2 ^^^ (-1)))) (pBp_0_4 _ _ _ _ _ _) dX0_search_6 (fun z1 ez1 H locs G => ?_)
  have h := h z1 ez1
  refine lv_iconst (v := 0) E.ex E.by dX0_search_9 (by decide) ?_
  refine lv_istore_n (lv' := [(3, .int 0), (0, .ref (ab 0)), (1, .int p1), (2, .int p2)]) E.ex E.by dX0_search_10 rfl hl (by decide) rfl (fun ls hl => ?_)
  refine lpW_ind (fun t2 : Int32 × US => ∀ (H : Heap) (locs : List Loc) (ls : Array Slot), kG D (va_A (xBp kc ab ac σ κ) s.heap.size) s (xBp kc ab ac t2.2 κ) H locs → lv_has ls 5 [(0, .ref (ab 0)), (2, .int p2), (3, .int t2.1)] → W p l e _ s m args below meth c H locs _ _ _ (F0 m 11 ls [])) (fun P11 IH11 t2 h H locs ls G hl => ?_) _ h _ _ _ G (lv_sub hl [1, 3, 0] rfl)
  refine lv_iload_n E.ex E.by dX0_search_11 rfl (lv_at hl 2 rfl) ?_
  refine lv_bipush (v := 8) E.ex E.by dX0_search_12 (by decide) ?_
  refine lv_icmp_ge (tgt := 56) E.ex E.by dX0_search_14 (by decide) (fun hc14 => ?_) (fun hc14 => ?_)
  · have h := h.1 hc14
    refine lv_iconst (v := 0) E.ex E.by dX0_search_56 (by decide) ?_
    refine lv_istore_n (lv' := [(3, .int 0), (0, .ref (ab 0)), (2, .int p2)]) E.ex E.by dX0_search_57 rfl hl (by decide) rfl (fun ls hl => ?_)
    refine lpW_ind (fun t3 : Int32 × US => ∀ (H : Heap) (locs : List Loc) (ls : Array Slot), kG D (va_A (xBp kc ab ac σ κ) s.heap.size) s (xBp kc ab ac t3.2 κ) H locs → lv_has ls 5 [(0, .ref (ab 0)), (3, .int t3.1)] → W p l e _ s m args below meth c H locs _ _ _ (F0 m 58 ls [])) (fun P58 IH58 t3 h H locs ls G hl => ?_) _ h _ _ _ G (lv_sub hl [1, 0] rfl)
    refine lv_iload_n E.ex E.by dX0_search_58 rfl (lv_at hl 1 rfl) ?_
    refine lv_bipush (v := 8) E.ex E.by dX0_search_59 (by decide) ?_
    refine lv_icmp_ge (tgt := 92) E.ex E.by dX0_search_61 (by decide) (fun hc7 => ?_) (fun hc7 => ?_)
    · have h := h.1 hc7
      exact k_retv (wof := (fun u : US => (xBp kc ab ac u κ))) (u := t3.2) E G h (Nat.le_of_ble_eq_true rfl) (Nat.le_of_ble_eq_true rfl) dX0_search_92
    · have h := h.2 hc7
      refine lv_iconst (v := 0) E.ex E.by dX0_search_64 (by decide) ?_
      refine lv_istore (lv' := [(4, .int 0), (0, .ref (ab 0)), (3, .int t3.1)]) E.ex E.by dX0_search_65 hl (by decide) rfl (fun ls hl => ?_)
      refine lpW_ind (fun t4 : Int32 × US => ∀ (H : Heap) (locs : List Loc) (ls : Array Slot), kG D (va_A (xBp kc ab ac σ κ) s.heap.size) s (xBp kc ab ac t4.2 κ) H locs → lv_has ls 5 [(0, .ref (ab 0)), (3, .int t3.1), (4, .int t4.1)] → W p l e _ s m args below meth c H locs _ _ _ (F0 m 67 ls [])) (fun P67 IH67 t4 h H locs ls G hl => ?_) _ h _ _ _ G (lv_sub hl [1, 2, 0] rfl)
      refine lv_iload E.ex E.by dX0_search_67 (lv_at hl 2 rfl) ?_
      refine lv_bipush (v := 8) E.ex E.by dX0_search_69 (by decide) ?_
      refine lv_icmp_ge (tgt := 86) E.ex E.by dX0_search_71 (by decide) (fun hc6 => ?_) (fun hc6 => ?_)
      · have h := h.1 hc6
        refine lv_iinc (k := 1) (v := t3.1 + 1) (lv' := [(3, .int (t3.1 + 1)), (0, .ref (ab 0)), (4, .int t4.1)]) E.ex E.by dX0_search_86 hl rfl (k_inc1 _) (by decide) rfl (fun ls hl => ?_)
        refine lv_goto (tgt := 58) E.ex E.by dX0_search_89 (by decide) ?_
        exact IH58 _ h _ _ _ G (lv_sub hl [1, 0] rfl)
      · have h := h.2 hc6
        refine lv_aload_n E.ex E.by dX0_search_74 rfl (lv_at hl 0 rfl) ?_
        refine lv_iload E.ex E.by dX0_search_75 (lv_at hl 2 rfl) ?_
        refine k_cVv (X := []) (w := (xBp kc ab ac t4.2 κ)) (Z := []) (wnew := (fun u : US => (xBp kc ab ac u κ))) (As := [.int t4.1]) (rest := []) E (List.append_nil _).symm G (c_X0_improve l D kc _ _ _ _ _ _ h) gX0_search_X0_improve rfl ⟨rfl, rfl⟩ hd_X0_improve_v ⟨rfl, rfl⟩ 0 (gBp_0 _ _ _ _ _) rfl rfl hl rfl rfl dX0_search_77 ⟨rfl, rfl⟩ (fun _ => (List.append_nil _).symm) (fun u5 hq H locs G => ?_)
        have h := hq
        refine lv_iinc (k := 2) (v := t4.1 + 1) (lv' := [(4, .int (t4.1 + 1)), (0, .ref (ab 0)), (3, .int t3.1)]) E.ex E.by dX0_search_80 hl rfl (k_inc1 _) (by decide) rfl (fun ls hl => ?_)
        refine lv_goto (tgt := 67) E.ex E.by dX0_search_83 (by decide) ?_
        exact IH67 _ h _ _ _ G (lv_sub hl [1, 2, 0] rfl)
  · have h := h.2 hc14
    refine lv_aload_n E.ex E.by dX0_search_17 rfl (lv_at hl 0 rfl) ?_
    refine k_get E G wi_X0_search_X0 0 (gBp_0 _ _ _ _ _) rfl 1 rfl fl_X0_search_X0_1 (v := .ref (ab 1)) rfl dX0_search_18 ?_
    refine lv_iload_n E.ex E.by dX0_search_21 rfl (lv_at hl 2 rfl) ?_
    refine lv_lconst (v := 1) E.ex E.by dX0_search_22 (by decide) ?_
    refine k_last (fun z => (xBp kc ab ac z κ)) E G 1 (gBp_1 _ _ _ _ _) 1 rfl h.1 (uB t2.2 0 (t2.1).toNatClampNeg 1) (sBp_1 _ _ _ _ _ _) dX0_search_23 (fun z8 ez8 H locs G => ?_)
    have h := h.2 z8 ez8
    refine lv_aload_n E.ex E.by dX0_search_24 rfl (lv_at hl 0 rfl) ?_
    refine k_get E G wi_X0_search_X0 0 (gBp_0 _ _ _ _ _) rfl 2 rfl fl_X0_search_X0_2 (v := .ref (ab 2)) rfl dX0_search_25 ?_
    refine lv_iload_n E.ex E.by dX0_search_28 rfl (lv_at hl 2 rfl) ?_
    refine lv_lconst (v := 1) E.ex E.by dX0_search_29 (by decide) ?_
    refine k_last (fun z => (xBp kc ab ac z κ)) E G 2 (gBp_2 _ _ _ _ _) 1 rfl h.1 (uB z8 1 (t2.1).toNatClampNeg 1) (sBp_2 _ _ _ _ _ _) dX0_search_30 (fun z9 ez9 H locs G => ?_)
    have h := h.2 z9 ez9
    refine lv_aload_n E.ex E.by dX0_search_31 rfl (lv_at hl 0 rfl) ?_
    refine k_get E G wi_X0_search_X0 0 (gBp_0 _ _ _ _ _) rfl 3 rfl fl_X0_search_X0_3 (v := .ref (ab 3)) rfl dX0_search_32 ?_
    refine lv_iload_n E.ex E.by dX0_search_35 rfl (lv_at hl 2 rfl) ?_
    refine lv_iload_n E.ex E.by dX0_search_36 rfl (lv_at hl 1 rfl) ?_
    refine lv_iload_n E.ex E.by dX0_search_37 rfl (lv_at hl 2 rfl) ?_
    refine k_cSNi (X := (xBp kc ab ac z9 κ)) (w := []) (Z := []) (wnew := (fun _ : Unit => (xBp kc ab ac z9 κ))) (As := [.int p2, .int t2.1]) (rest := [.int t2.1, .ref (ab 3)]) E (List.append_nil _).symm G (c_X11_contains l D kc _ _ _ h) gX0_search_X11_contains_n30 (by decide +kernel) li_X0_search_X11 ls_X0_search_X11_contains rfl ⟨rfl, rfl⟩ hd_X11_contains_n ⟨rfl, rfl⟩ rfl hl rfl rfl dX0_search_38 ⟨rfl, rfl⟩ (fun _ => (List.append_nil _).symm) (fun r10 _u38 hq H locs G => ?_)
    have h := hq
    refine lv_if_eq (tgt := 48) E.ex E.by dX0_search_41 (by decide) (fun hc13 => ?_) (fun hc13 => ?_)
    · have h := h.1 hc13
      refine lv_iconst (v := 0) E.ex E.by dX0_search_48 (by decide) ?_
      refine k_iast (fun z => (xBp kc ab ac z κ)) E G 3 (gBp_3 _ _ _ _ _) 0 rfl h.1 (uA z9 0 (t2.1).toNatClampNeg 0) (sBp_3 _ _ _ _ _ _) dX0_search_49 (fun z11 ez11 H locs G => ?_)
      have h := h.2 z11 ez11
      refine lv_iinc (k := 2) (v := t2.1 + 1) (lv' := [(3, .int (t2.1 + 1)), (0, .ref (ab 0)), (2, .int p2)]) E.ex E.by dX0_search_50 hl rfl (k_inc1 _) (by decide) rfl (fun ls hl => ?_)
      refine lv_goto (tgt := 11) E.ex E.by dX0_search_53 (by decide) ?_
      exact IH11 _ h _ _ _ G (lv_sub hl [1, 2, 0] rfl)
    · have h := h.2 hc13
      refine lv_iconst (v := 1) E.ex E.by dX0_search_44 (by decide) ?_
      refine lv_goto (tgt := 49) E.ex E.by dX0_search_45 (by decide) ?_
      refine k_iast (fun z => (xBp kc ab ac z κ)) E G 3 (gBp_3 _ _ _ _ _) 0 rfl h.1 (uA z9 0 (t2.1).toNatClampNeg 1) (sBp_3 _ _ _ _ _ _) dX0_search_49 (fun z12 ez12 H locs G => ?_)
      have h := h.2 z12 ez12
      refine lv_iinc (k := 2) (v := t2.1 + 1) (lv' := [(3, .int (t2.1 + 1)), (0, .ref (ab 0)), (2, .int p2)]) E.ex E.by dX0_search_50 hl rfl (k_inc1 _) (by decide) rfl (fun ls hl => ?_)
      refine lv_goto (tgt := 11) E.ex E.by dX0_search_53 (by decide) ?_
      exact IH11 _ h _ _ _ G (lv_sub hl [1, 2, 0] rfl)
theorem wi_X0_product_X0 : ∀ w ∈ wsX00, w ∈ wsX0_product := fun w h => List.mem_cons_of_mem _ (List.mem_append_right _ (h))
theorem fl_X0_product_X0_1 : Cond.fieldLink RX0 9 (TX0 1).1 (TX0 1).2.1 (TX0 1).2.2.1 ∈ wsX0_product := List.mem_of_getElem? (i := 1) (by decide +kernel)
theorem fl_X0_product_X0_2 : Cond.fieldLink RX0 15 (TX0 2).1 (TX0 2).2.1 (TX0 2).2.2.1 ∈ wsX0_product := List.mem_of_getElem? (i := 2) (by decide +kernel)
theorem li_X0_product_X11 : Cond.initialized RX11 ∈ wsX0_product := List.mem_of_getElem? (i := 4) (by decide +kernel)
theorem ls_X0_product_X11_commonDivisor : Cond.static yX11_commonDivisor ∈ wsX0_product := List.mem_of_getElem? (i := 6) (by decide +kernel)
theorem ls_X0_product_X11_isIndex : Cond.static yX11_isIndex ∈ wsX0_product := List.mem_of_getElem? (i := 3) (by decide +kernel)
def wp_X0_product (p1 : Int32) (p2 : Int32) (σ : US) (κ : US) (Q : Int64 → Prop) : Prop := wp_X11_isIndex p1 (fun (r1 : Int32) => (¬ r1 = 0 → vp_in p1 8 ∧ (vp_in p1 8 ∧ (wp_X11_commonDivisor (aB σ 0 (p1).toNatClampNeg) (aB σ 1 (p1).toNatClampNeg) (fun (r2 : Int64) => (¬ (lg_cmp r2 0) = 0 → (¬ p2 = 0 → vp_in p1 8 ∧ ((¬ r2 = (0 : Int64)) ∧ (Q ((aB σ 1 (p1).toNatClampNeg) / r2)))) ∧ (p2 = 0 → vp_in p1 8 ∧ ((¬ r2 = (0 : Int64)) ∧ (Q ((aB σ 0 (p1).toNatClampNeg) / r2))))) ∧ ((lg_cmp r2 0) = 0 → Q 0))))) ∧ (r1 = 0 → Q 0))
set_option maxRecDepth 100000 in
set_option maxHeartbeats 4000000 in
theorem c_X0_product (l : Launch) (D : va_G) (kc : Nat → ClassId) (ab : Nat → Nat) (ac : Nat → Nat) (p1 : Int32) (p2 : Int32) (σ : US) (κ : US) (Q : Int64 → Prop) (h : wp_X0_product p1 p2 σ κ Q) : kCl l D (tyL kc) yX0_product wsX0_product ({ frames := 1, cells := 0, slots := 0, locals := 30 } : Room) [.ref (ab 0), .int p1, .int p2] (xBp kc ab ac σ κ) (fun _ : Unit => (xBp kc ab ac σ κ)) 0 0 (fun r _ => Q r) := by
  intro sz
  refine k_begin (cc := cX0_product) (maxL := 5) (ret := (some .long)) (by decide +kernel) rfl rfl (fun p e s m args below meth c hsz E G ls hl => ?_)
  subst hsz
  have hl : lv_has ls 5 [(0, .ref (ab 0)), (1, .int p1), (2, .int p2)] := hl
  refine lv_iload_n E.ex E.by dX0_product_0 rfl (lv_at hl 1 rfl) ?_
  refine k_cSNi (X := (xBp kc ab ac σ κ)) (w := []) (Z := []) (wnew := (fun _ : Unit => (xBp kc ab ac σ κ))) (As := [.int p1]) (rest := []) E (List.append_nil _).symm G (c_X11_isIndex l D kc _ _ h) gX0_product_X11_isIndex_n38 (by decide +kernel) li_X0_product_X11 ls_X0_product_X11_isIndex rfl ⟨rfl, rfl⟩ hd_X11_isIndex_n ⟨rfl, rfl⟩ rfl hl rfl rfl dX0_product_1 ⟨rfl, rfl⟩ (fun _ => (List.append_nil _).symm) (fun r1 _u1 hq H locs G => ?_)
  have h := hq
  refine lv_if_ne (tgt := 9) E.ex E.by dX0_product_4 (by decide) (fun hc5 => ?_) (fun hc5 => ?_)
  · have h := h.1 hc5
    refine lv_aload_n E.ex E.by dX0_product_9 rfl (lv_at hl 0 rfl) ?_
    refine k_get E G wi_X0_product_X0 0 (gBp_0 _ _ _ _ _) rfl 1 rfl fl_X0_product_X0_1 (v := .ref (ab 1)) rfl dX0_product_10 ?_
    refine lv_iload_n E.ex E.by dX0_product_13 rfl (lv_at hl 1 rfl) ?_
    refine k_lald E G 1 (gBp_1 _ _ _ _ _) 1 rfl h.1 dX0_product_14 ?_
    have h := h.2
    refine lv_aload_n E.ex E.by dX0_product_15 rfl (lv_at hl 0 rfl) ?_
    refine k_get E G wi_X0_product_X0 0 (gBp_0 _ _ _ _ _) rfl 2 rfl fl_X0_product_X0_2 (v := .ref (ab 2)) rfl dX0_product_16 ?_
    refine lv_iload_n E.ex E.by dX0_product_19 rfl (lv_at hl 1 rfl) ?_
    refine k_lald E G 2 (gBp_2 _ _ _ _ _) 1 rfl h.1 dX0_product_20 ?_
    have h := h.2
    refine k_cSNl (X := (xBp kc ab ac σ κ)) (w := []) (Z := []) (wnew := (fun _ : Unit => (xBp kc ab ac σ κ))) (As := [.long (aB σ 0 (p1).toNatClampNeg), .long (aB σ 1 (p1).toNatClampNeg)]) (rest := []) E (List.append_nil _).symm G (c_X11_commonDivisor l D kc _ _ _ h) gX0_product_X11_commonDivisor_n42 (by decide +kernel) li_X0_product_X11 ls_X0_product_X11_commonDivisor rfl ⟨rfl, rfl⟩ hd_X11_commonDivisor_n ⟨rfl, rfl⟩ rfl hl rfl rfl dX0_product_21 ⟨rfl, rfl⟩ (fun _ => (List.append_nil _).symm) (fun r2 _u21 hq H locs G => ?_)
    have h := hq
    refine lv_lstore_n (lv' := [(3, .long r2), (0, .ref (ab 0)), (1, .int p1), (2, .int p2)]) E.ex E.by dX0_product_24 rfl hl (by decide) rfl (fun ls hl => ?_)
    refine lv_lload_n E.ex E.by dX0_product_25 rfl (lv_at hl 0 rfl) ?_
    refine lv_lconst (v := 0) E.ex E.by dX0_product_26 (by decide) ?_
    refine W.lcmp E.ex E.by dX0_product_27 ?_
    refine lv_if_ne (tgt := 33) E.ex E.by dX0_product_28 (by decide) (fun hc4 => ?_) (fun hc4 => ?_)
    · have h := h.1 hc4
      refine lv_iload_n E.ex E.by dX0_product_33 rfl (lv_at hl 3 rfl) ?_
      refine lv_if_ne (tgt := 48) E.ex E.by dX0_product_34 (by decide) (fun hc3 => ?_) (fun hc3 => ?_)
      · have h := h.1 hc3
        refine lv_aload_n E.ex E.by dX0_product_48 rfl (lv_at hl 1 rfl) ?_
        refine k_get E G wi_X0_product_X0 0 (gBp_0 _ _ _ _ _) rfl 2 rfl fl_X0_product_X0_2 (v := .ref (ab 2)) rfl dX0_product_49 ?_
        refine lv_iload_n E.ex E.by dX0_product_52 rfl (lv_at hl 2 rfl) ?_
        refine k_lald E G 2 (gBp_2 _ _ _ _ _) 1 rfl h.1 dX0_product_53 ?_
        have h := h.2
        refine lv_lload_n E.ex E.by dX0_product_54 rfl (lv_at hl 0 rfl) ?_
        refine lv_ldiv E.ex E.by dX0_product_55 h.1 ?_
        have h := h.2
        exact k_retl (wof := (fun _ : Unit => (xBp kc ab ac σ κ))) (u := ()) E G h (Nat.le_of_ble_eq_true rfl) (Nat.le_of_ble_eq_true rfl) dX0_product_56
      · have h := h.2 hc3
        refine lv_aload_n E.ex E.by dX0_product_37 rfl (lv_at hl 1 rfl) ?_
        refine k_get E G wi_X0_product_X0 0 (gBp_0 _ _ _ _ _) rfl 1 rfl fl_X0_product_X0_1 (v := .ref (ab 1)) rfl dX0_product_38 ?_
        refine lv_iload_n E.ex E.by dX0_product_41 rfl (lv_at hl 2 rfl) ?_
        refine k_lald E G 1 (gBp_1 _ _ _ _ _) 1 rfl h.1 dX0_product_42 ?_
        have h := h.2
        refine lv_lload_n E.ex E.by dX0_product_43 rfl (lv_at hl 0 rfl) ?_
        refine lv_ldiv E.ex E.by dX0_product_44 h.1 ?_
        have h := h.2
        refine lv_goto (tgt := 56) E.ex E.by dX0_product_45 (by decide) ?_
        exact k_retl (wof := (fun _ : Unit => (xBp kc ab ac σ κ))) (u := ()) E G h (Nat.le_of_ble_eq_true rfl) (Nat.le_of_ble_eq_true rfl) dX0_product_56
    · have h := h.2 hc4
      refine lv_lconst (v := 0) E.ex E.by dX0_product_31 (by decide) ?_
      exact k_retl (wof := (fun _ : Unit => (xBp kc ab ac σ κ))) (u := ()) E G h (Nat.le_of_ble_eq_true rfl) (Nat.le_of_ble_eq_true rfl) dX0_product_32
  · have h := h.2 hc5
    refine lv_lconst (v := 0) E.ex E.by dX0_product_7 (by decide) ?_
    exact k_retl (wof := (fun _ : Unit => (xBp kc ab ac σ κ))) (u := ()) E G h (Nat.le_of_ble_eq_true rfl) (Nat.le_of_ble_eq_true rfl) dX0_product_8
theorem wi_X0_following_X0 : ∀ w ∈ wsX00, w ∈ wsX0_following := fun w h => List.mem_cons_of_mem _ (List.mem_append_left _ (List.mem_append_right _ (h)))
theorem fl_X0_following_X0_3 : Cond.fieldLink RX0 18 (TX0 3).1 (TX0 3).2.1 (TX0 3).2.2.1 ∈ wsX0_following := List.mem_of_getElem? (i := 1) (by decide +kernel)
def wp_X0_following_L2 (v1 : Int32) (σ : US) (κ : US) (Q : Int32 → Prop) (P2 : Int32 → Prop) (t2 : Int32) : Prop := (8 ≤ t2 → Q v1) ∧ (¬ 8 ≤ t2 → wp_X0_isStep v1 t2 σ κ (fun (r1 : Int32) => (r1 = 0 → P2 (t2 + 1)) ∧ (¬ r1 = 0 → wp_X0_gainOf v1 t2 σ κ (fun (r2 : Int64) => (¬ (lg_cmp r2 0) = 0 → P2 (t2 + 1)) ∧ ((lg_cmp r2 0) = 0 → vp_in t2 8 ∧ (wp_X0_lengthFrom v1 σ κ (fun (r3 : Int32) => (¬ ((aA σ 0 (t2).toNatClampNeg) + 1) = r3 → P2 (t2 + 1)) ∧ (((aA σ 0 (t2).toNatClampNeg) + 1) = r3 → Q t2))))))))
def wp_X0_following (p1 : Int32) (σ : US) (κ : US) (Q : Int32 → Prop) : Prop := lpW (wp_X0_following_L2 p1 σ κ Q) 0
set_option maxRecDepth 100000 in
set_option maxHeartbeats 4000000 in
theorem c_X0_following (l : Launch) (D : va_G) (kc : Nat → ClassId) (ab : Nat → Nat) (ac : Nat → Nat) (p1 : Int32) (σ : US) (κ : US) (Q : Int32 → Prop) (h : wp_X0_following p1 σ κ Q) : kCi l D (tyL kc) yX0_following wsX0_following ({ frames := 4, cells := 0, slots := 0, locals := 94 } : Room) [.ref (ab 0), .int p1] (xBp kc ab ac σ κ) (fun _ : Unit => (xBp kc ab ac σ κ)) 0 0 (fun r _ => Q r) := by
  intro sz
  refine k_begin (cc := cX0_following) (maxL := 3) (ret := (some .int)) (by decide +kernel) rfl rfl (fun p e s m args below meth c hsz E G ls hl => ?_)
  subst hsz
  have hl : lv_has ls 3 [(0, .ref (ab 0)), (1, .int p1)] := hl
  refine lv_iconst (v := 0) E.ex E.by dX0_following_0 (by decide) ?_
  refine lv_istore_n (lv' := [(2, .int 0), (0, .ref (ab 0)), (1, .int p1)]) E.ex E.by dX0_following_1 rfl hl (by decide) rfl (fun ls hl => ?_)
  refine lpW_ind (fun t1 : Int32 => ∀ (H : Heap) (locs : List Loc) (ls : Array Slot), kG D (va_A (xBp kc ab ac σ κ) s.heap.size) s (xBp kc ab ac σ κ) H locs → lv_has ls 3 [(0, .ref (ab 0)), (1, .int p1), (2, .int t1)] → W p l e _ s m args below meth c H locs _ _ _ (F0 m 2 ls [])) (fun P2 IH2 t1 h H locs ls G hl => ?_) _ h _ _ _ G (lv_sub hl [1, 2, 0] rfl)
  refine lv_iload_n E.ex E.by dX0_following_2 rfl (lv_at hl 2 rfl) ?_
  refine lv_bipush (v := 8) E.ex E.by dX0_following_3 (by decide) ?_
  refine lv_icmp_ge (tgt := 52) E.ex E.by dX0_following_5 (by decide) (fun hc8 => ?_) (fun hc8 => ?_)
  · have h := h.1 hc8
    refine lv_iload_n E.ex E.by dX0_following_52 rfl (lv_at hl 1 rfl) ?_
    exact k_ret (wof := (fun _ : Unit => (xBp kc ab ac σ κ))) (u := ()) E G rfl h (Nat.le_of_ble_eq_true rfl) (Nat.le_of_ble_eq_true rfl) dX0_following_53
  · have h := h.2 hc8
    refine lv_aload_n E.ex E.by dX0_following_8 rfl (lv_at hl 0 rfl) ?_
    refine lv_iload_n E.ex E.by dX0_following_9 rfl (lv_at hl 1 rfl) ?_
    refine lv_iload_n E.ex E.by dX0_following_10 rfl (lv_at hl 2 rfl) ?_
    refine k_cVi (X := []) (w := (xBp kc ab ac σ κ)) (Z := []) (wnew := (fun _ : Unit => (xBp kc ab ac σ κ))) (As := [.int p1, .int t1]) (rest := []) E (List.append_nil _).symm G (c_X0_isStep l D kc _ _ _ _ _ _ _ h) gX0_following_X0_isStep rfl ⟨rfl, rfl⟩ hd_X0_isStep_v ⟨rfl, rfl⟩ 0 (gBp_0 _ _ _ _ _) rfl rfl hl rfl rfl dX0_following_11 ⟨rfl, rfl⟩ (fun _ => (List.append_nil _).symm) (fun r2 _u11 hq H locs G => ?_)
    have h := hq
    refine lv_if_eq (tgt := 46) E.ex E.by dX0_following_14 (by decide) (fun hc7 => ?_) (fun hc7 => ?_)
    · have h := h.1 hc7
      refine lv_iinc (k := 2) (v := t1 + 1) (lv' := [(2, .int (t1 + 1)), (0, .ref (ab 0)), (1, .int p1)]) E.ex E.by dX0_following_46 hl rfl (k_inc1 _) (by decide) rfl (fun ls hl => ?_)
      refine lv_goto (tgt := 2) E.ex E.by dX0_following_49 (by decide) ?_
      exact IH2 _ h _ _ _ G (lv_sub hl [1, 2, 0] rfl)
    · have h := h.2 hc7
      refine lv_aload_n E.ex E.by dX0_following_17 rfl (lv_at hl 0 rfl) ?_
      refine lv_iload_n E.ex E.by dX0_following_18 rfl (lv_at hl 1 rfl) ?_
      refine lv_iload_n E.ex E.by dX0_following_19 rfl (lv_at hl 2 rfl) ?_
      refine k_cVl (X := []) (w := (xBp kc ab ac σ κ)) (Z := []) (wnew := (fun _ : Unit => (xBp kc ab ac σ κ))) (As := [.int p1, .int t1]) (rest := []) E (List.append_nil _).symm G (c_X0_gainOf l D kc _ _ _ _ _ _ _ h) gX0_following_X0_gainOf rfl ⟨rfl, rfl⟩ hd_X0_gainOf_v ⟨rfl, rfl⟩ 0 (gBp_0 _ _ _ _ _) rfl rfl hl rfl rfl dX0_following_20 ⟨rfl, rfl⟩ (fun _ => (List.append_nil _).symm) (fun r3 _u20 hq H locs G => ?_)
      have h := hq
      refine lv_lconst (v := 0) E.ex E.by dX0_following_23 (by decide) ?_
      refine W.lcmp E.ex E.by dX0_following_24 ?_
      refine lv_if_ne (tgt := 46) E.ex E.by dX0_following_25 (by decide) (fun hc6 => ?_) (fun hc6 => ?_)
      · have h := h.1 hc6
        refine lv_iinc (k := 2) (v := t1 + 1) (lv' := [(2, .int (t1 + 1)), (0, .ref (ab 0)), (1, .int p1)]) E.ex E.by dX0_following_46 hl rfl (k_inc1 _) (by decide) rfl (fun ls hl => ?_)
        refine lv_goto (tgt := 2) E.ex E.by dX0_following_49 (by decide) ?_
        exact IH2 _ h _ _ _ G (lv_sub hl [1, 2, 0] rfl)
      · have h := h.2 hc6
        refine lv_aload_n E.ex E.by dX0_following_28 rfl (lv_at hl 0 rfl) ?_
        refine k_get E G wi_X0_following_X0 0 (gBp_0 _ _ _ _ _) rfl 3 rfl fl_X0_following_X0_3 (v := .ref (ab 3)) rfl dX0_following_29 ?_
        refine lv_iload_n E.ex E.by dX0_following_32 rfl (lv_at hl 2 rfl) ?_
        refine k_iald E G 3 (gBp_3 _ _ _ _ _) 0 rfl h.1 dX0_following_33 ?_
        have h := h.2
        refine lv_iconst (v := 1) E.ex E.by dX0_following_34 (by decide) ?_
        refine lv_iadd E.ex E.by dX0_following_35 ?_
        refine lv_aload_n E.ex E.by dX0_following_36 rfl (lv_at hl 0 rfl) ?_
        refine lv_iload_n E.ex E.by dX0_following_37 rfl (lv_at hl 1 rfl) ?_
        refine k_cVi (X := []) (w := (xBp kc ab ac σ κ)) (Z := []) (wnew := (fun _ : Unit => (xBp kc ab ac σ κ))) (As := [.int p1]) (rest := [.int ((aA σ 0 (t1).toNatClampNeg) + 1)]) E (List.append_nil _).symm G (c_X0_lengthFrom l D kc _ _ _ _ _ _ h) gX0_following_X0_lengthFrom rfl ⟨rfl, rfl⟩ hd_X0_lengthFrom_v ⟨rfl, rfl⟩ 0 (gBp_0 _ _ _ _ _) rfl rfl hl rfl rfl dX0_following_38 ⟨rfl, rfl⟩ (fun _ => (List.append_nil _).symm) (fun r4 _u38 hq H locs G => ?_)
        have h := hq
        refine lv_icmp_ne (tgt := 46) E.ex E.by dX0_following_41 (by decide) (fun hc5 => ?_) (fun hc5 => ?_)
        · have h := h.1 hc5
          refine lv_iinc (k := 2) (v := t1 + 1) (lv' := [(2, .int (t1 + 1)), (0, .ref (ab 0)), (1, .int p1)]) E.ex E.by dX0_following_46 hl rfl (k_inc1 _) (by decide) rfl (fun ls hl => ?_)
          refine lv_goto (tgt := 2) E.ex E.by dX0_following_49 (by decide) ?_
          exact IH2 _ h _ _ _ G (lv_sub hl [1, 2, 0] rfl)
        · have h := h.2 hc5
          refine lv_iload_n E.ex E.by dX0_following_44 rfl (lv_at hl 2 rfl) ?_
          exact k_ret (wof := (fun _ : Unit => (xBp kc ab ac σ κ))) (u := ()) E G rfl h (Nat.le_of_ble_eq_true rfl) (Nat.le_of_ble_eq_true rfl) dX0_following_45
theorem hd_X0_following_v : yX0_following.cls = RX0 ∧ yX0_following.cls ≠ "java/lang/invoke/MethodHandle" ∧ yX0_following.cls ≠ "java/lang/invoke/VarHandle" ∧ (parseMethodDescriptor yX0_following.desc).map (fun d => d.parameters.length) = some 1 := by decide +kernel
def wp_X0_stateAt_L5 (v2 : Int32) (σ : US) (κ : US) (Q : Int32 → Prop) (P5 : (Int32 × Int32) → Prop) (t5 : Int32 × Int32) : Prop := (v2 ≤ t5.2 → Q t5.1) ∧ (¬ v2 ≤ t5.2 → (8 ≤ t5.2 → Q t5.1) ∧ (¬ 8 ≤ t5.2 → wp_X0_following t5.1 σ κ (fun (r1 : Int32) => P5 (r1, t5.2 + 1))))
def wp_X0_stateAt (p1 : Int32) (p2 : Int32) (σ : US) (κ : US) (Q : Int32 → Prop) : Prop := lpW (wp_X0_stateAt_L5 p2 σ κ Q) (p1, 0)
set_option maxRecDepth 100000 in
set_option maxHeartbeats 4000000 in
theorem c_X0_stateAt (l : Launch) (D : va_G) (kc : Nat → ClassId) (ab : Nat → Nat) (ac : Nat → Nat) (p1 : Int32) (p2 : Int32) (σ : US) (κ : US) (Q : Int32 → Prop) (h : wp_X0_stateAt p1 p2 σ κ Q) : kCi l D (tyL kc) yX0_stateAt wsX0_stateAt ({ frames := 5, cells := 0, slots := 0, locals := 116 } : Room) [.ref (ab 0), .int p1, .int p2] (xBp kc ab ac σ κ) (fun _ : Unit => (xBp kc ab ac σ κ)) 0 0 (fun r _ => Q r) := by
  intro sz
  refine k_begin (cc := cX0_stateAt) (maxL := 5) (ret := (some .int)) (by decide +kernel) rfl rfl (fun p e s m args below meth c hsz E G ls hl => ?_)
  subst hsz
  have hl : lv_has ls 5 [(0, .ref (ab 0)), (1, .int p1), (2, .int p2)] := hl
  refine lv_iload_n E.ex E.by dX0_stateAt_0 rfl (lv_at hl 1 rfl) ?_
  refine lv_istore_n (lv' := [(3, .int p1), (0, .ref (ab 0)), (1, .int p1), (2, .int p2)]) E.ex E.by dX0_stateAt_1 rfl hl (by decide) rfl (fun ls hl => ?_)
  refine lv_iconst (v := 0) E.ex E.by dX0_stateAt_2 (by decide) ?_
  refine lv_istore (lv' := [(4, .int 0), (3, .int p1), (0, .ref (ab 0)), (1, .int p1), (2, .int p2)]) E.ex E.by dX0_stateAt_3 hl (by decide) rfl (fun ls hl => ?_)
  refine lpW_ind (fun t1 : Int32 × Int32 => ∀ (H : Heap) (locs : List Loc) (ls : Array Slot), kG D (va_A (xBp kc ab ac σ κ) s.heap.size) s (xBp kc ab ac σ κ) H locs → lv_has ls 5 [(0, .ref (ab 0)), (2, .int p2), (3, .int t1.1), (4, .int t1.2)] → W p l e _ s m args below meth c H locs _ _ _ (F0 m 5 ls [])) (fun P5 IH5 t1 h H locs ls G hl => ?_) _ h _ _ _ G (lv_sub hl [2, 4, 1, 0] rfl)
  refine lv_iload E.ex E.by dX0_stateAt_5 (lv_at hl 3 rfl) ?_
  refine lv_iload_n E.ex E.by dX0_stateAt_7 rfl (lv_at hl 1 rfl) ?_
  refine lv_icmp_ge (tgt := 30) E.ex E.by dX0_stateAt_8 (by decide) (fun hc4 => ?_) (fun hc4 => ?_)
  · have h := h.1 hc4
    refine lv_iload_n E.ex E.by dX0_stateAt_30 rfl (lv_at hl 2 rfl) ?_
    exact k_ret (wof := (fun _ : Unit => (xBp kc ab ac σ κ))) (u := ()) E G rfl h (Nat.le_of_ble_eq_true rfl) (Nat.le_of_ble_eq_true rfl) dX0_stateAt_31
  · have h := h.2 hc4
    refine lv_iload E.ex E.by dX0_stateAt_11 (lv_at hl 3 rfl) ?_
    refine lv_bipush (v := 8) E.ex E.by dX0_stateAt_13 (by decide) ?_
    refine lv_icmp_ge (tgt := 30) E.ex E.by dX0_stateAt_15 (by decide) (fun hc3 => ?_) (fun hc3 => ?_)
    · have h := h.1 hc3
      refine lv_iload_n E.ex E.by dX0_stateAt_30 rfl (lv_at hl 2 rfl) ?_
      exact k_ret (wof := (fun _ : Unit => (xBp kc ab ac σ κ))) (u := ()) E G rfl h (Nat.le_of_ble_eq_true rfl) (Nat.le_of_ble_eq_true rfl) dX0_stateAt_31
    · have h := h.2 hc3
      refine lv_aload_n E.ex E.by dX0_stateAt_18 rfl (lv_at hl 0 rfl) ?_
      refine lv_iload_n E.ex E.by dX0_stateAt_19 rfl (lv_at hl 2 rfl) ?_
      refine k_cVi (X := []) (w := (xBp kc ab ac σ κ)) (Z := []) (wnew := (fun _ : Unit => (xBp kc ab ac σ κ))) (As := [.int t1.1]) (rest := []) E (List.append_nil _).symm G (c_X0_following l D kc _ _ _ _ _ _ h) gX0_stateAt_X0_following rfl ⟨rfl, rfl⟩ hd_X0_following_v ⟨rfl, rfl⟩ 0 (gBp_0 _ _ _ _ _) rfl rfl hl rfl rfl dX0_stateAt_20 ⟨rfl, rfl⟩ (fun _ => (List.append_nil _).symm) (fun r2 _u20 hq H locs G => ?_)
      have h := hq
      refine lv_istore_n (lv' := [(3, .int r2), (0, .ref (ab 0)), (2, .int p2), (4, .int t1.2)]) E.ex E.by dX0_stateAt_23 rfl hl (by decide) rfl (fun ls hl => ?_)
      refine lv_iinc (k := 3) (v := t1.2 + 1) (lv' := [(4, .int (t1.2 + 1)), (3, .int r2), (0, .ref (ab 0)), (2, .int p2)]) E.ex E.by dX0_stateAt_24 hl rfl (k_inc1 _) (by decide) rfl (fun ls hl => ?_)
      refine lv_goto (tgt := 5) E.ex E.by dX0_stateAt_27 (by decide) ?_
      exact IH5 _ h _ _ _ G (lv_sub hl [2, 3, 1, 0] rfl)
