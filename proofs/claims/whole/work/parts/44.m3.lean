theorem wi_X12_feed_X12 : ∀ w ∈ wsX120, w ∈ wsX12_feed := fun w h => List.mem_cons_of_mem _ (List.mem_append_right _ (h))
theorem fl_X12_feed_X12_30 : Cond.fieldLink RX12 226 (TX12 30).1 (TX12 30).2.1 (TX12 30).2.2.1 ∈ wsX12_feed := List.mem_of_getElem? (i := 1) (by decide +kernel)
theorem fl_X12_feed_X12_29 : Cond.fieldLink RX12 74 (TX12 29).1 (TX12 29).2.1 (TX12 29).2.2.1 ∈ wsX12_feed := List.mem_of_getElem? (i := 2) (by decide +kernel)
def wp_X12_feed (p1 : Int32) (σ : US) (Q : Int32 → US → Prop) : Prop := wp_X12_in p1 33 126 (fun (r1 : Int32) => (¬ r1 = 0 → (¬ (iI σ 5) = 50 → vp_in (iI σ 5) 50 ∧ (∀ z2 : US, z2 = uA σ 17 (iI σ 5).toNatClampNeg p1 → (∀ z3 : US, z3 = uI z2 5 ((iI z2 5) + 1) → Q (iI z3 5) z3))) ∧ ((iI σ 5) = 50 → Q (-3) σ)) ∧ (r1 = 0 → Q (-1) σ))
set_option maxRecDepth 100000 in
set_option maxHeartbeats 4000000 in
theorem c_X12_feed (l : Launch) (D : va_G) (kc : Nat → ClassId) (a : Nat → Nat)  (p1 : Int32) (σ : US) (Q : Int32 → US → Prop) (h : wp_X12_feed p1 σ Q) : kCi l D (tyL kc) yX12_feed wsX12_feed ({ frames := 1, cells := 0, slots := 0, locals := 22 } : Room) [.ref (a 0), .int p1] (wM kc a σ) (fun u : US => (wM kc a u)) 0 0 (fun r u => Q r u) := by
  intro sz
  refine k_begin (cc := cX12_feed) (maxL := 2) (ret := (some .int)) (by decide +kernel) rfl rfl (fun p e s m args below meth c hsz E G ls hl => ?_)
  subst hsz
  have hl : lv_has ls 2 [(0, .ref (a 0)), (1, .int p1)] := hl
  refine lv_iload_n E.ex E.by dX12_feed_0 rfl (lv_at hl 1 rfl) ?_
  refine lv_bipush (v := 33) E.ex E.by dX12_feed_1 (by decide) ?_
  refine lv_bipush (v := 126) E.ex E.by dX12_feed_3 (by decide) ?_
  refine k_cSi (X := (wM kc a σ)) (w := []) (Z := []) (wnew := (fun _ : Unit => (wM kc a σ))) (As := [.int p1, .int 33, .int 126]) (rest := []) E (List.append_nil _).symm G (c_X12_in l D kc _ _ _ _ h) gX12_feed_X12_in rfl ⟨rfl, rfl⟩ hd_X12_in_v ⟨rfl, rfl⟩ rfl hl rfl rfl dX12_feed_5 ⟨rfl, rfl⟩ (fun _ => (List.append_nil _).symm) (fun r1 _u5 hq H locs G => ?_)
  have h := hq
  refine lv_if_ne (tgt := 13) E.ex E.by dX12_feed_8 (by decide) (fun hc5 => ?_) (fun hc5 => ?_)
  · have h := h.1 hc5
    refine lv_aload_n E.ex E.by dX12_feed_13 rfl (lv_at hl 0 rfl) ?_
    refine k_get E G wi_X12_feed_X12 0 (gM_0 _ _ _) rfl 30 rfl fl_X12_feed_X12_30 (v := .int (iI σ 5)) rfl dX12_feed_14 ?_
    refine lv_bipush (v := 50) E.ex E.by dX12_feed_17 (by decide) ?_
    refine lv_icmp_ne (tgt := 25) E.ex E.by dX12_feed_19 (by decide) (fun hc4 => ?_) (fun hc4 => ?_)
    · have h := h.1 hc4
      refine lv_aload_n E.ex E.by dX12_feed_25 rfl (lv_at hl 0 rfl) ?_
      refine k_get E G wi_X12_feed_X12 0 (gM_0 _ _ _) rfl 29 rfl fl_X12_feed_X12_29 (v := .ref (a 22)) rfl dX12_feed_26 ?_
      refine lv_aload_n E.ex E.by dX12_feed_29 rfl (lv_at hl 0 rfl) ?_
      refine k_get E G wi_X12_feed_X12 0 (gM_0 _ _ _) rfl 30 rfl fl_X12_feed_X12_30 (v := .int (iI σ 5)) rfl dX12_feed_30 ?_
      refine lv_iload_n E.ex E.by dX12_feed_33 rfl (lv_at hl 1 rfl) ?_
      refine k_iast (fun z => (wM kc a z)) E G 22 (gM_22 _ _ _) 0 rfl h.1 (uA σ 17 (iI σ 5).toNatClampNeg p1) (sM_22 _ _ _ _) dX12_feed_34 (fun z2 ez2 H locs G => ?_)
      have h := h.2 z2 ez2
      refine lv_aload_n E.ex E.by dX12_feed_35 rfl (lv_at hl 0 rfl) ?_
      refine lv_dup E.ex E.by dX12_feed_36 rfl ?_
      refine k_get E G wi_X12_feed_X12 0 (gM_0 _ _ _) rfl 30 rfl fl_X12_feed_X12_30 (v := .int (iI z2 5)) rfl dX12_feed_37 ?_
      refine lv_iconst (v := 1) E.ex E.by dX12_feed_40 (by decide) ?_
      refine lv_iadd E.ex E.by dX12_feed_41 ?_
      refine k_put (fun z => (wM kc a z)) E G wi_X12_feed_X12 tyX12_ok nmX12 0 (gM_0 _ _ _) rfl 30 rfl fl_X12_feed_X12_30 rfl rfl rfl rfl (uI z2 5 ((iI z2 5) + 1)) (pM_0_30 _ _ _ _) dX12_feed_42 (fun z3 ez3 H locs G => ?_)
      have h := h z3 ez3
      refine lv_aload_n E.ex E.by dX12_feed_45 rfl (lv_at hl 0 rfl) ?_
      refine k_get E G wi_X12_feed_X12 0 (gM_0 _ _ _) rfl 30 rfl fl_X12_feed_X12_30 (v := .int (iI z3 5)) rfl dX12_feed_46 ?_
      exact k_ret (wof := (fun u : US => (wM kc a u))) (u := z3) E G rfl h (Nat.le_of_ble_eq_true rfl) (Nat.le_of_ble_eq_true rfl) dX12_feed_49
    · have h := h.2 hc4
      refine lv_bipush (v := (-3)) E.ex E.by dX12_feed_22 (by decide) ?_
      exact k_ret (wof := (fun u : US => (wM kc a u))) (u := σ) E G rfl h (Nat.le_of_ble_eq_true rfl) (Nat.le_of_ble_eq_true rfl) dX12_feed_24
  · have h := h.2 hc5
    refine lv_iconst (v := (-1)) E.ex E.by dX12_feed_11 (by decide) ?_
    exact k_ret (wof := (fun u : US => (wM kc a u))) (u := σ) E G rfl h (Nat.le_of_ble_eq_true rfl) (Nat.le_of_ble_eq_true rfl) dX12_feed_12
theorem wi_X12_here_X12 : ∀ w ∈ wsX120, w ∈ wsX12_here := fun w h => List.mem_cons_of_mem _ (List.mem_append_right _ (h))
theorem fl_X12_here_X12_31 : Cond.fieldLink RX12 229 (TX12 31).1 (TX12 31).2.1 (TX12 31).2.2.1 ∈ wsX12_here := List.mem_of_getElem? (i := 1) (by decide +kernel)
theorem fl_X12_here_X12_30 : Cond.fieldLink RX12 226 (TX12 30).1 (TX12 30).2.1 (TX12 30).2.2.1 ∈ wsX12_here := List.mem_of_getElem? (i := 2) (by decide +kernel)
theorem fl_X12_here_X12_29 : Cond.fieldLink RX12 74 (TX12 29).1 (TX12 29).2.1 (TX12 29).2.2.1 ∈ wsX12_here := List.mem_of_getElem? (i := 3) (by decide +kernel)
def wp_X12_here (σ : US) (Q : Int32 → Prop) : Prop := ((iI σ 5) ≤ (iI σ 6) → Q 0) ∧ (¬ (iI σ 5) ≤ (iI σ 6) → vp_in (iI σ 6) 50 ∧ (Q (aA σ 17 (iI σ 6).toNatClampNeg)))
set_option maxRecDepth 100000 in
set_option maxHeartbeats 4000000 in
theorem c_X12_here (l : Launch) (D : va_G) (kc : Nat → ClassId) (a : Nat → Nat)  (σ : US) (Q : Int32 → Prop) (h : wp_X12_here σ Q) : kCi l D (tyL kc) yX12_here wsX12_here ({ frames := 0, cells := 0, slots := 0, locals := 0 } : Room) [.ref (a 0)] (wM kc a σ) (fun _ : Unit => (wM kc a σ)) 0 0 (fun r _ => Q r) := by
  intro sz
  refine k_begin (cc := cX12_here) (maxL := 1) (ret := (some .int)) (by decide +kernel) rfl rfl (fun p e s m args below meth c hsz E G ls hl => ?_)
  subst hsz
  have hl : lv_has ls 1 [(0, .ref (a 0))] := hl
  refine lv_aload_n E.ex E.by dX12_here_0 rfl (lv_at hl 0 rfl) ?_
  refine k_get E G wi_X12_here_X12 0 (gM_0 _ _ _) rfl 31 rfl fl_X12_here_X12_31 (v := .int (iI σ 6)) rfl dX12_here_1 ?_
  refine lv_aload_n E.ex E.by dX12_here_4 rfl (lv_at hl 0 rfl) ?_
  refine k_get E G wi_X12_here_X12 0 (gM_0 _ _ _) rfl 30 rfl fl_X12_here_X12_30 (v := .int (iI σ 5)) rfl dX12_here_5 ?_
  refine lv_icmp_ge (tgt := 23) E.ex E.by dX12_here_8 (by decide) (fun hc1 => ?_) (fun hc1 => ?_)
  · have h := h.1 hc1
    refine lv_iconst (v := 0) E.ex E.by dX12_here_23 (by decide) ?_
    exact k_ret (wof := (fun _ : Unit => (wM kc a σ))) (u := ()) E G rfl h (Nat.le_of_ble_eq_true rfl) (Nat.le_of_ble_eq_true rfl) dX12_here_24
  · have h := h.2 hc1
    refine lv_aload_n E.ex E.by dX12_here_11 rfl (lv_at hl 0 rfl) ?_
    refine k_get E G wi_X12_here_X12 0 (gM_0 _ _ _) rfl 29 rfl fl_X12_here_X12_29 (v := .ref (a 22)) rfl dX12_here_12 ?_
    refine lv_aload_n E.ex E.by dX12_here_15 rfl (lv_at hl 0 rfl) ?_
    refine k_get E G wi_X12_here_X12 0 (gM_0 _ _ _) rfl 31 rfl fl_X12_here_X12_31 (v := .int (iI σ 6)) rfl dX12_here_16 ?_
    refine k_iald E G 22 (gM_22 _ _ _) 0 rfl h.1 dX12_here_19 ?_
    have h := h.2
    refine lv_goto (tgt := 24) E.ex E.by dX12_here_20 (by decide) ?_
    exact k_ret (wof := (fun _ : Unit => (wM kc a σ))) (u := ()) E G rfl h (Nat.le_of_ble_eq_true rfl) (Nat.le_of_ble_eq_true rfl) dX12_here_24
theorem hd_X12_here_v : yX12_here.cls = RX12 ∧ yX12_here.cls ≠ "java/lang/invoke/MethodHandle" ∧ yX12_here.cls ≠ "java/lang/invoke/VarHandle" ∧ (parseMethodDescriptor yX12_here.desc).map (fun d => d.parameters.length) = some 0 := by decide +kernel
def wp_X12_isDigit (σ : US) (Q : Int32 → Prop) : Prop := wp_X12_here σ (fun (r1 : Int32) => wp_X12_in r1 48 57 (fun (r2 : Int32) => kbo r2 ∧ Q r2))
set_option maxRecDepth 100000 in
set_option maxHeartbeats 4000000 in
theorem c_X12_isDigit (l : Launch) (D : va_G) (kc : Nat → ClassId) (a : Nat → Nat)  (σ : US) (Q : Int32 → Prop) (h : wp_X12_isDigit σ Q) : kCi l D (tyL kc) yX12_isDigit wsX12_isDigit ({ frames := 1, cells := 0, slots := 0, locals := 22 } : Room) [.ref (a 0)] (wM kc a σ) (fun _ : Unit => (wM kc a σ)) 0 0 (fun r _ => Q r) := by
  intro sz
  refine k_begin (cc := cX12_isDigit) (maxL := 1) (ret := (some .boolean)) (by decide +kernel) rfl rfl (fun p e s m args below meth c hsz E G ls hl => ?_)
  subst hsz
  have hl : lv_has ls 1 [(0, .ref (a 0))] := hl
  refine lv_aload_n E.ex E.by dX12_isDigit_0 rfl (lv_at hl 0 rfl) ?_
  refine k_cVi (X := []) (w := (wM kc a σ)) (Z := []) (wnew := (fun _ : Unit => (wM kc a σ))) (As := []) (rest := []) E (List.append_nil _).symm G (c_X12_here l D kc _ _ _ h) gX12_isDigit_X12_here rfl ⟨rfl, rfl⟩ hd_X12_here_v ⟨rfl, rfl⟩ 0 (gM_0 _ _ _) rfl rfl hl rfl rfl dX12_isDigit_1 ⟨rfl, rfl⟩ (fun _ => (List.append_nil _).symm) (fun r1 _u1 hq H locs G => ?_)
  have h := hq
  refine lv_bipush (v := 48) E.ex E.by dX12_isDigit_4 (by decide) ?_
  refine lv_bipush (v := 57) E.ex E.by dX12_isDigit_6 (by decide) ?_
  refine k_cSi (X := (wM kc a σ)) (w := []) (Z := []) (wnew := (fun _ : Unit => (wM kc a σ))) (As := [.int r1, .int 48, .int 57]) (rest := []) E (List.append_nil _).symm G (c_X12_in l D kc _ _ _ _ h) gX12_isDigit_X12_in rfl ⟨rfl, rfl⟩ hd_X12_in_v ⟨rfl, rfl⟩ rfl hl rfl rfl dX12_isDigit_8 ⟨rfl, rfl⟩ (fun _ => (List.append_nil _).symm) (fun r2 _u8 hq H locs G => ?_)
  have h := hq
  exact k_ret (wof := (fun _ : Unit => (wM kc a σ))) (u := ()) E G h.1 h.2 (Nat.le_of_ble_eq_true rfl) (Nat.le_of_ble_eq_true rfl) dX12_isDigit_11
theorem wi_X12_wants_X12 : ∀ w ∈ wsX120, w ∈ wsX12_wants := fun w h => List.mem_cons_of_mem _ (List.mem_append_right _ (h))
theorem fl_X12_wants_X12_33 : Cond.fieldLink RX12 235 (TX12 33).1 (TX12 33).2.1 (TX12 33).2.2.1 ∈ wsX12_wants := List.mem_of_getElem? (i := 1) (by decide +kernel)
theorem fl_X12_wants_X12_31 : Cond.fieldLink RX12 229 (TX12 31).1 (TX12 31).2.1 (TX12 31).2.2.1 ∈ wsX12_wants := List.mem_of_getElem? (i := 2) (by decide +kernel)
def wp_X12_wants (p1 : Int32) (σ : US) (Q : US → Prop) : Prop := (¬ (iI σ 8) = 0 → (∀ z1 : US, z1 = uI σ 8 1 → Q z1)) ∧ ((iI σ 8) = 0 → wp_X12_here σ (fun (r2 : Int32) => (¬ r2 = p1 → (∀ z3 : US, z3 = uI σ 8 1 → Q z3)) ∧ (r2 = p1 → (∀ z4 : US, z4 = uI σ 6 ((iI σ 6) + 1) → Q z4))))
set_option maxRecDepth 100000 in
set_option maxHeartbeats 4000000 in
theorem c_X12_wants (l : Launch) (D : va_G) (kc : Nat → ClassId) (a : Nat → Nat)  (p1 : Int32) (σ : US) (Q : US → Prop) (h : wp_X12_wants p1 σ Q) : kCv l D (tyL kc) yX12_wants wsX12_wants ({ frames := 1, cells := 0, slots := 0, locals := 20 } : Room) [.ref (a 0), .int p1] (wM kc a σ) (fun u : US => (wM kc a u)) 0 0 (fun u => Q u) := by
  intro sz
  refine k_begin (cc := cX12_wants) (maxL := 2) (ret := none) (by decide +kernel) rfl rfl (fun p e s m args below meth c hsz E G ls hl => ?_)
  subst hsz
  have hl : lv_has ls 2 [(0, .ref (a 0)), (1, .int p1)] := hl
  refine lv_aload_n E.ex E.by dX12_wants_0 rfl (lv_at hl 0 rfl) ?_
  refine k_get E G wi_X12_wants_X12 0 (gM_0 _ _ _) rfl 33 rfl fl_X12_wants_X12_33 (v := .int (iI σ 8)) rfl dX12_wants_1 ?_
  refine lv_if_ne (tgt := 28) E.ex E.by dX12_wants_4 (by decide) (fun hc6 => ?_) (fun hc6 => ?_)
  · have h := h.1 hc6
    refine lv_aload_n E.ex E.by dX12_wants_28 rfl (lv_at hl 0 rfl) ?_
    refine lv_iconst (v := 1) E.ex E.by dX12_wants_29 (by decide) ?_
    refine k_put (fun z => (wM kc a z)) E G wi_X12_wants_X12 tyX12_ok nmX12 0 (gM_0 _ _ _) rfl 33 rfl fl_X12_wants_X12_33 rfl rfl rfl rfl (uI σ 8 1) (pM_0_33 _ _ _ _) dX12_wants_30 (fun z1 ez1 H locs G => ?_)
    have h := h z1 ez1
    exact k_retv (wof := (fun u : US => (wM kc a u))) (u := z1) E G h (Nat.le_of_ble_eq_true rfl) (Nat.le_of_ble_eq_true rfl) dX12_wants_33
  · have h := h.2 hc6
    refine lv_aload_n E.ex E.by dX12_wants_7 rfl (lv_at hl 0 rfl) ?_
    refine k_cVi (X := []) (w := (wM kc a σ)) (Z := []) (wnew := (fun _ : Unit => (wM kc a σ))) (As := []) (rest := []) E (List.append_nil _).symm G (c_X12_here l D kc _ _ _ h) gX12_wants_X12_here rfl ⟨rfl, rfl⟩ hd_X12_here_v ⟨rfl, rfl⟩ 0 (gM_0 _ _ _) rfl rfl hl rfl rfl dX12_wants_8 ⟨rfl, rfl⟩ (fun _ => (List.append_nil _).symm) (fun r2 _u8 hq H locs G => ?_)
    have h := hq
    refine lv_iload_n E.ex E.by dX12_wants_11 rfl (lv_at hl 1 rfl) ?_
    refine lv_icmp_ne (tgt := 28) E.ex E.by dX12_wants_12 (by decide) (fun hc5 => ?_) (fun hc5 => ?_)
    · have h := h.1 hc5
      refine lv_aload_n E.ex E.by dX12_wants_28 rfl (lv_at hl 0 rfl) ?_
      refine lv_iconst (v := 1) E.ex E.by dX12_wants_29 (by decide) ?_
      refine k_put (fun z => (wM kc a z)) E G wi_X12_wants_X12 tyX12_ok nmX12 0 (gM_0 _ _ _) rfl 33 rfl fl_X12_wants_X12_33 rfl rfl rfl rfl (uI σ 8 1) (pM_0_33 _ _ _ _) dX12_wants_30 (fun z3 ez3 H locs G => ?_)
      have h := h z3 ez3
      exact k_retv (wof := (fun u : US => (wM kc a u))) (u := z3) E G h (Nat.le_of_ble_eq_true rfl) (Nat.le_of_ble_eq_true rfl) dX12_wants_33
    · have h := h.2 hc5
      refine lv_aload_n E.ex E.by dX12_wants_15 rfl (lv_at hl 0 rfl) ?_
      refine lv_dup E.ex E.by dX12_wants_16 rfl ?_
      refine k_get E G wi_X12_wants_X12 0 (gM_0 _ _ _) rfl 31 rfl fl_X12_wants_X12_31 (v := .int (iI σ 6)) rfl dX12_wants_17 ?_
      refine lv_iconst (v := 1) E.ex E.by dX12_wants_20 (by decide) ?_
      refine lv_iadd E.ex E.by dX12_wants_21 ?_
      refine k_put (fun z => (wM kc a z)) E G wi_X12_wants_X12 tyX12_ok nmX12 0 (gM_0 _ _ _) rfl 31 rfl fl_X12_wants_X12_31 rfl rfl rfl rfl (uI σ 6 ((iI σ 6) + 1)) (pM_0_31 _ _ _ _) dX12_wants_22 (fun z4 ez4 H locs G => ?_)
      have h := h z4 ez4
      refine lv_goto (tgt := 33) E.ex E.by dX12_wants_25 (by decide) ?_
      exact k_retv (wof := (fun u : US => (wM kc a u))) (u := z4) E G h (Nat.le_of_ble_eq_true rfl) (Nat.le_of_ble_eq_true rfl) dX12_wants_33
theorem wi_X12_node_X12 : ∀ w ∈ wsX120, w ∈ wsX12_node := fun w h => List.mem_cons_of_mem _ (List.mem_append_right _ (h))
theorem fl_X12_node_X12_33 : Cond.fieldLink RX12 235 (TX12 33).1 (TX12 33).2.1 (TX12 33).2.2.1 ∈ wsX12_node := List.mem_of_getElem? (i := 1) (by decide +kernel)
theorem fl_X12_node_X12_17 : Cond.fieldLink RX12 41 (TX12 17).1 (TX12 17).2.1 (TX12 17).2.2.1 ∈ wsX12_node := List.mem_of_getElem? (i := 2) (by decide +kernel)
theorem fl_X12_node_X12_16 : Cond.fieldLink RX12 238 (TX12 16).1 (TX12 16).2.1 (TX12 16).2.2.1 ∈ wsX12_node := List.mem_of_getElem? (i := 3) (by decide +kernel)
theorem fl_X12_node_X12_18 : Cond.fieldLink RX12 44 (TX12 18).1 (TX12 18).2.1 (TX12 18).2.2.1 ∈ wsX12_node := List.mem_of_getElem? (i := 4) (by decide +kernel)
theorem fl_X12_node_X12_19 : Cond.fieldLink RX12 47 (TX12 19).1 (TX12 19).2.1 (TX12 19).2.2.1 ∈ wsX12_node := List.mem_of_getElem? (i := 5) (by decide +kernel)
theorem fl_X12_node_X12_20 : Cond.fieldLink RX12 50 (TX12 20).1 (TX12 20).2.1 (TX12 20).2.2.1 ∈ wsX12_node := List.mem_of_getElem? (i := 6) (by decide +kernel)
def wp_X12_node (p1 : Int32) (p2 : Int32) (p3 : Int32) (σ : US) (Q : Int32 → US → Prop) : Prop := ((iI σ 8) = 0 → vp_in (iI σ 3) 300 ∧ (∀ z1 : US, z1 = uA σ 6 (iI σ 3).toNatClampNeg p1 → vp_in (iI z1 3) 300 ∧ (∀ z2 : US, z2 = uA z1 7 (iI z1 3).toNatClampNeg p2 → vp_in (iI z2 3) 300 ∧ (∀ z3 : US, z3 = uA z2 8 (iI z2 3).toNatClampNeg p3 → vp_in (iI z3 3) 300 ∧ (∀ z4 : US, z4 = uA z3 9 (iI z3 3).toNatClampNeg 0 → (∀ z5 : US, z5 = uI z4 3 ((iI z4 3) + 1) → Q ((iI z5 3) - 1) z5)))))) ∧ (¬ (iI σ 8) = 0 → Q 0 σ)
set_option maxRecDepth 100000 in
set_option maxHeartbeats 4000000 in
theorem c_X12_node (l : Launch) (D : va_G) (kc : Nat → ClassId) (a : Nat → Nat)  (p1 : Int32) (p2 : Int32) (p3 : Int32) (σ : US) (Q : Int32 → US → Prop) (h : wp_X12_node p1 p2 p3 σ Q) : kCi l D (tyL kc) yX12_node wsX12_node ({ frames := 0, cells := 0, slots := 0, locals := 0 } : Room) [.ref (a 0), .int p1, .int p2, .int p3] (wM kc a σ) (fun u : US => (wM kc a u)) 0 0 (fun r u => Q r u) := by
  intro sz
  refine k_begin (cc := cX12_node) (maxL := 4) (ret := (some .int)) (by decide +kernel) rfl rfl (fun p e s m args below meth c hsz E G ls hl => ?_)
  subst hsz
  have hl : lv_has ls 4 [(0, .ref (a 0)), (1, .int p1), (2, .int p2), (3, .int p3)] := hl
  refine lv_aload_n E.ex E.by dX12_node_0 rfl (lv_at hl 0 rfl) ?_
  refine k_get E G wi_X12_node_X12 0 (gM_0 _ _ _) rfl 33 rfl fl_X12_node_X12_33 (v := .int (iI σ 8)) rfl dX12_node_1 ?_
  refine lv_if_eq (tgt := 9) E.ex E.by dX12_node_4 (by decide) (fun hc6 => ?_) (fun hc6 => ?_)
  · have h := h.1 hc6
    refine lv_aload_n E.ex E.by dX12_node_9 rfl (lv_at hl 0 rfl) ?_
    refine k_get E G wi_X12_node_X12 0 (gM_0 _ _ _) rfl 17 rfl fl_X12_node_X12_17 (v := .ref (a 11)) rfl dX12_node_10 ?_
    refine lv_aload_n E.ex E.by dX12_node_13 rfl (lv_at hl 0 rfl) ?_
    refine k_get E G wi_X12_node_X12 0 (gM_0 _ _ _) rfl 16 rfl fl_X12_node_X12_16 (v := .int (iI σ 3)) rfl dX12_node_14 ?_
    refine lv_iload_n E.ex E.by dX12_node_17 rfl (lv_at hl 1 rfl) ?_
    refine k_iast (fun z => (wM kc a z)) E G 11 (gM_11 _ _ _) 0 rfl h.1 (uA σ 6 (iI σ 3).toNatClampNeg p1) (sM_11 _ _ _ _) dX12_node_18 (fun z1 ez1 H locs G => ?_)
    have h := h.2 z1 ez1
    refine lv_aload_n E.ex E.by dX12_node_19 rfl (lv_at hl 0 rfl) ?_
    refine k_get E G wi_X12_node_X12 0 (gM_0 _ _ _) rfl 18 rfl fl_X12_node_X12_18 (v := .ref (a 12)) rfl dX12_node_20 ?_
    refine lv_aload_n E.ex E.by dX12_node_23 rfl (lv_at hl 0 rfl) ?_
    refine k_get E G wi_X12_node_X12 0 (gM_0 _ _ _) rfl 16 rfl fl_X12_node_X12_16 (v := .int (iI z1 3)) rfl dX12_node_24 ?_
    refine lv_iload_n E.ex E.by dX12_node_27 rfl (lv_at hl 2 rfl) ?_
    refine k_iast (fun z => (wM kc a z)) E G 12 (gM_12 _ _ _) 0 rfl h.1 (uA z1 7 (iI z1 3).toNatClampNeg p2) (sM_12 _ _ _ _) dX12_node_28 (fun z2 ez2 H locs G => ?_)
    have h := h.2 z2 ez2
    refine lv_aload_n E.ex E.by dX12_node_29 rfl (lv_at hl 0 rfl) ?_
    refine k_get E G wi_X12_node_X12 0 (gM_0 _ _ _) rfl 19 rfl fl_X12_node_X12_19 (v := .ref (a 13)) rfl dX12_node_30 ?_
    refine lv_aload_n E.ex E.by dX12_node_33 rfl (lv_at hl 0 rfl) ?_
    refine k_get E G wi_X12_node_X12 0 (gM_0 _ _ _) rfl 16 rfl fl_X12_node_X12_16 (v := .int (iI z2 3)) rfl dX12_node_34 ?_
    refine lv_iload_n E.ex E.by dX12_node_37 rfl (lv_at hl 3 rfl) ?_
    refine k_iast (fun z => (wM kc a z)) E G 13 (gM_13 _ _ _) 0 rfl h.1 (uA z2 8 (iI z2 3).toNatClampNeg p3) (sM_13 _ _ _ _) dX12_node_38 (fun z3 ez3 H locs G => ?_)
    have h := h.2 z3 ez3
    refine lv_aload_n E.ex E.by dX12_node_39 rfl (lv_at hl 0 rfl) ?_
    refine k_get E G wi_X12_node_X12 0 (gM_0 _ _ _) rfl 20 rfl fl_X12_node_X12_20 (v := .ref (a 14)) rfl dX12_node_40 ?_
    refine lv_aload_n E.ex E.by dX12_node_43 rfl (lv_at hl 0 rfl) ?_
    refine k_get E G wi_X12_node_X12 0 (gM_0 _ _ _) rfl 16 rfl fl_X12_node_X12_16 (v := .int (iI z3 3)) rfl dX12_node_44 ?_
    refine lv_iconst (v := 0) E.ex E.by dX12_node_47 (by decide) ?_
    refine k_iast (fun z => (wM kc a z)) E G 14 (gM_14 _ _ _) 0 rfl h.1 (uA z3 9 (iI z3 3).toNatClampNeg 0) (sM_14 _ _ _ _) dX12_node_48 (fun z4 ez4 H locs G => ?_)
    have h := h.2 z4 ez4
    refine lv_aload_n E.ex E.by dX12_node_49 rfl (lv_at hl 0 rfl) ?_
    refine lv_dup E.ex E.by dX12_node_50 rfl ?_
    refine k_get E G wi_X12_node_X12 0 (gM_0 _ _ _) rfl 16 rfl fl_X12_node_X12_16 (v := .int (iI z4 3)) rfl dX12_node_51 ?_
    refine lv_iconst (v := 1) E.ex E.by dX12_node_54 (by decide) ?_
    refine lv_iadd E.ex E.by dX12_node_55 ?_
    refine k_put (fun z => (wM kc a z)) E G wi_X12_node_X12 tyX12_ok nmX12 0 (gM_0 _ _ _) rfl 16 rfl fl_X12_node_X12_16 rfl rfl rfl rfl (uI z4 3 ((iI z4 3) + 1)) (pM_0_16 _ _ _ _) dX12_node_56 (fun z5 ez5 H locs G => ?_)
    have h := h z5 ez5
    refine lv_aload_n E.ex E.by dX12_node_59 rfl (lv_at hl 0 rfl) ?_
    refine k_get E G wi_X12_node_X12 0 (gM_0 _ _ _) rfl 16 rfl fl_X12_node_X12_16 (v := .int (iI z5 3)) rfl dX12_node_60 ?_
    refine lv_iconst (v := 1) E.ex E.by dX12_node_63 (by decide) ?_
    refine lv_isub E.ex E.by dX12_node_64 ?_
    exact k_ret (wof := (fun u : US => (wM kc a u))) (u := z5) E G rfl h (Nat.le_of_ble_eq_true rfl) (Nat.le_of_ble_eq_true rfl) dX12_node_65
  · have h := h.2 hc6
    refine lv_iconst (v := 0) E.ex E.by dX12_node_7 (by decide) ?_
    exact k_ret (wof := (fun u : US => (wM kc a u))) (u := σ) E G rfl h (Nat.le_of_ble_eq_true rfl) (Nat.le_of_ble_eq_true rfl) dX12_node_8
theorem wi_X12_readNumber_X12 : ∀ w ∈ wsX120, w ∈ wsX12_readNumber := fun w h => List.mem_cons_of_mem _ (List.mem_append_right _ (h))
theorem fl_X12_readNumber_X12_33 : Cond.fieldLink RX12 235 (TX12 33).1 (TX12 33).2.1 (TX12 33).2.2.1 ∈ wsX12_readNumber := List.mem_of_getElem? (i := 1) (by decide +kernel)
theorem fl_X12_readNumber_X12_31 : Cond.fieldLink RX12 229 (TX12 31).1 (TX12 31).2.1 (TX12 31).2.2.1 ∈ wsX12_readNumber := List.mem_of_getElem? (i := 2) (by decide +kernel)
theorem hd_X12_isDigit_v : yX12_isDigit.cls = RX12 ∧ yX12_isDigit.cls ≠ "java/lang/invoke/MethodHandle" ∧ yX12_isDigit.cls ≠ "java/lang/invoke/VarHandle" ∧ (parseMethodDescriptor yX12_isDigit.desc).map (fun d => d.parameters.length) = some 0 := by decide +kernel
def wp_X12_readNumber (σ : US) (Q : Int32 → US → Prop) : Prop := (¬ (iI σ 8) = 0 → (∀ z1 : US, z1 = uI σ 8 1 → Q 0 z1)) ∧ ((iI σ 8) = 0 → wp_X12_isDigit σ (fun (r2 : Int32) => (¬ r2 = 0 → wp_X12_here σ (fun (r3 : Int32) => ∀ x4 : Int32, x4 = r3 - 48 → (∀ z5 : US, z5 = uI σ 6 ((iI σ 6) + 1) → wp_X12_isDigit z5 (fun (r6 : Int32) => (r6 = 0 → Q x4 z5) ∧ (¬ r6 = 0 → wp_X12_here z5 (fun (r7 : Int32) => ∀ x8 : Int32, x8 = ((10 * x4) + r7) - 48 → (∀ z9 : US, z9 = uI z5 6 ((iI z5 6) + 1) → Q x8 z9))))))) ∧ (r2 = 0 → (∀ z11 : US, z11 = uI σ 8 1 → Q 0 z11))))
set_option maxRecDepth 100000 in
set_option maxHeartbeats 4000000 in
theorem c_X12_readNumber (l : Launch) (D : va_G) (kc : Nat → ClassId) (a : Nat → Nat)  (σ : US) (Q : Int32 → US → Prop) (h : wp_X12_readNumber σ Q) : kCi l D (tyL kc) yX12_readNumber wsX12_readNumber ({ frames := 2, cells := 0, slots := 0, locals := 42 } : Room) [.ref (a 0)] (wM kc a σ) (fun u : US => (wM kc a u)) 0 0 (fun r u => Q r u) := by
  intro sz
  refine k_begin (cc := cX12_readNumber) (maxL := 2) (ret := (some .int)) (by decide +kernel) rfl rfl (fun p e s m args below meth c hsz E G ls hl => ?_)
  subst hsz
  have hl : lv_has ls 2 [(0, .ref (a 0))] := hl
  refine lv_aload_n E.ex E.by dX12_readNumber_0 rfl (lv_at hl 0 rfl) ?_
  refine k_get E G wi_X12_readNumber_X12 0 (gM_0 _ _ _) rfl 33 rfl fl_X12_readNumber_X12_33 (v := .int (iI σ 8)) rfl dX12_readNumber_1 ?_
  refine lv_if_ne (tgt := 14) E.ex E.by dX12_readNumber_4 (by decide) (fun hc13 => ?_) (fun hc13 => ?_)
  · have h := h.1 hc13
    refine lv_aload_n E.ex E.by dX12_readNumber_14 rfl (lv_at hl 0 rfl) ?_
    refine lv_iconst (v := 1) E.ex E.by dX12_readNumber_15 (by decide) ?_
    refine k_put (fun z => (wM kc a z)) E G wi_X12_readNumber_X12 tyX12_ok nmX12 0 (gM_0 _ _ _) rfl 33 rfl fl_X12_readNumber_X12_33 rfl rfl rfl rfl (uI σ 8 1) (pM_0_33 _ _ _ _) dX12_readNumber_16 (fun z1 ez1 H locs G => ?_)
    have h := h z1 ez1
    refine lv_iconst (v := 0) E.ex E.by dX12_readNumber_19 (by decide) ?_
    exact k_ret (wof := (fun u : US => (wM kc a u))) (u := z1) E G rfl h (Nat.le_of_ble_eq_true rfl) (Nat.le_of_ble_eq_true rfl) dX12_readNumber_20
  · have h := h.2 hc13
    refine lv_aload_n E.ex E.by dX12_readNumber_7 rfl (lv_at hl 0 rfl) ?_
    refine k_cVi (X := []) (w := (wM kc a σ)) (Z := []) (wnew := (fun _ : Unit => (wM kc a σ))) (As := []) (rest := []) E (List.append_nil _).symm G (c_X12_isDigit l D kc _ _ _ h) gX12_readNumber_X12_isDigit rfl ⟨rfl, rfl⟩ hd_X12_isDigit_v ⟨rfl, rfl⟩ 0 (gM_0 _ _ _) rfl rfl hl rfl rfl dX12_readNumber_8 ⟨rfl, rfl⟩ (fun _ => (List.append_nil _).symm) (fun r2 _u8 hq H locs G => ?_)
    have h := hq
    refine lv_if_ne (tgt := 21) E.ex E.by dX12_readNumber_11 (by decide) (fun hc12 => ?_) (fun hc12 => ?_)
    · have h := h.1 hc12
      refine lv_aload_n E.ex E.by dX12_readNumber_21 rfl (lv_at hl 0 rfl) ?_
      refine k_cVi (X := []) (w := (wM kc a σ)) (Z := []) (wnew := (fun _ : Unit => (wM kc a σ))) (As := []) (rest := []) E (List.append_nil _).symm G (c_X12_here l D kc _ _ _ h) gX12_readNumber_X12_here rfl ⟨rfl, rfl⟩ hd_X12_here_v ⟨rfl, rfl⟩ 0 (gM_0 _ _ _) rfl rfl hl rfl rfl dX12_readNumber_22 ⟨rfl, rfl⟩ (fun _ => (List.append_nil _).symm) (fun r3 _u22 hq H locs G => ?_)
      have h := hq
      refine lv_bipush (v := 48) E.ex E.by dX12_readNumber_25 (by decide) ?_
      refine lv_isub E.ex E.by dX12_readNumber_27 ?_
      refine lv_topi (fun x4 ex4 => ?_)
      have h := h x4 ex4
      refine lv_istore_n (lv' := [(1, .int x4), (0, .ref (a 0))]) E.ex E.by dX12_readNumber_28 rfl hl (by decide) rfl (fun ls hl => ?_)
      refine lv_aload_n E.ex E.by dX12_readNumber_29 rfl (lv_at hl 1 rfl) ?_
      refine lv_dup E.ex E.by dX12_readNumber_30 rfl ?_
      refine k_get E G wi_X12_readNumber_X12 0 (gM_0 _ _ _) rfl 31 rfl fl_X12_readNumber_X12_31 (v := .int (iI σ 6)) rfl dX12_readNumber_31 ?_
      refine lv_iconst (v := 1) E.ex E.by dX12_readNumber_34 (by decide) ?_
      refine lv_iadd E.ex E.by dX12_readNumber_35 ?_
      refine k_put (fun z => (wM kc a z)) E G wi_X12_readNumber_X12 tyX12_ok nmX12 0 (gM_0 _ _ _) rfl 31 rfl fl_X12_readNumber_X12_31 rfl rfl rfl rfl (uI σ 6 ((iI σ 6) + 1)) (pM_0_31 _ _ _ _) dX12_readNumber_36 (fun z5 ez5 H locs G => ?_)
      have h := h z5 ez5
      refine lv_aload_n E.ex E.by dX12_readNumber_39 rfl (lv_at hl 1 rfl) ?_
      refine k_cVi (X := []) (w := (wM kc a z5)) (Z := []) (wnew := (fun _ : Unit => (wM kc a z5))) (As := []) (rest := []) E (List.append_nil _).symm G (c_X12_isDigit l D kc _ _ _ h) gX12_readNumber_X12_isDigit rfl ⟨rfl, rfl⟩ hd_X12_isDigit_v ⟨rfl, rfl⟩ 0 (gM_0 _ _ _) rfl rfl hl rfl rfl dX12_readNumber_40 ⟨rfl, rfl⟩ (fun _ => (List.append_nil _).symm) (fun r6 _u40 hq H locs G => ?_)
      have h := hq
      refine lv_if_eq (tgt := 69) E.ex E.by dX12_readNumber_43 (by decide) (fun hc10 => ?_) (fun hc10 => ?_)
      · have h := h.1 hc10
        refine lv_iload_n E.ex E.by dX12_readNumber_69 rfl (lv_at hl 0 rfl) ?_
        exact k_ret (wof := (fun u : US => (wM kc a u))) (u := z5) E G rfl h (Nat.le_of_ble_eq_true rfl) (Nat.le_of_ble_eq_true rfl) dX12_readNumber_70
      · have h := h.2 hc10
        refine lv_bipush (v := 10) E.ex E.by dX12_readNumber_46 (by decide) ?_
        refine lv_iload_n E.ex E.by dX12_readNumber_48 rfl (lv_at hl 0 rfl) ?_
        refine lv_imul E.ex E.by dX12_readNumber_49 ?_
        refine lv_aload_n E.ex E.by dX12_readNumber_50 rfl (lv_at hl 1 rfl) ?_
        refine k_cVi (X := []) (w := (wM kc a z5)) (Z := []) (wnew := (fun _ : Unit => (wM kc a z5))) (As := []) (rest := [.int (10 * x4)]) E (List.append_nil _).symm G (c_X12_here l D kc _ _ _ h) gX12_readNumber_X12_here rfl ⟨rfl, rfl⟩ hd_X12_here_v ⟨rfl, rfl⟩ 0 (gM_0 _ _ _) rfl rfl hl rfl rfl dX12_readNumber_51 ⟨rfl, rfl⟩ (fun _ => (List.append_nil _).symm) (fun r7 _u51 hq H locs G => ?_)
        have h := hq
        refine lv_iadd E.ex E.by dX12_readNumber_54 ?_
        refine lv_bipush (v := 48) E.ex E.by dX12_readNumber_55 (by decide) ?_
        refine lv_isub E.ex E.by dX12_readNumber_57 ?_
        refine lv_topi (fun x8 ex8 => ?_)
        have h := h x8 ex8
        refine lv_istore_n (lv' := [(1, .int x8), (0, .ref (a 0))]) E.ex E.by dX12_readNumber_58 rfl hl (by decide) rfl (fun ls hl => ?_)
        refine lv_aload_n E.ex E.by dX12_readNumber_59 rfl (lv_at hl 1 rfl) ?_
        refine lv_dup E.ex E.by dX12_readNumber_60 rfl ?_
        refine k_get E G wi_X12_readNumber_X12 0 (gM_0 _ _ _) rfl 31 rfl fl_X12_readNumber_X12_31 (v := .int (iI z5 6)) rfl dX12_readNumber_61 ?_
        refine lv_iconst (v := 1) E.ex E.by dX12_readNumber_64 (by decide) ?_
        refine lv_iadd E.ex E.by dX12_readNumber_65 ?_
        refine k_put (fun z => (wM kc a z)) E G wi_X12_readNumber_X12 tyX12_ok nmX12 0 (gM_0 _ _ _) rfl 31 rfl fl_X12_readNumber_X12_31 rfl rfl rfl rfl (uI z5 6 ((iI z5 6) + 1)) (pM_0_31 _ _ _ _) dX12_readNumber_66 (fun z9 ez9 H locs G => ?_)
        have h := h z9 ez9
        refine lv_iload_n E.ex E.by dX12_readNumber_69 rfl (lv_at hl 0 rfl) ?_
        exact k_ret (wof := (fun u : US => (wM kc a u))) (u := z9) E G rfl h (Nat.le_of_ble_eq_true rfl) (Nat.le_of_ble_eq_true rfl) dX12_readNumber_70
    · have h := h.2 hc12
      refine lv_aload_n E.ex E.by dX12_readNumber_14 rfl (lv_at hl 0 rfl) ?_
      refine lv_iconst (v := 1) E.ex E.by dX12_readNumber_15 (by decide) ?_
      refine k_put (fun z => (wM kc a z)) E G wi_X12_readNumber_X12 tyX12_ok nmX12 0 (gM_0 _ _ _) rfl 33 rfl fl_X12_readNumber_X12_33 rfl rfl rfl rfl (uI σ 8 1) (pM_0_33 _ _ _ _) dX12_readNumber_16 (fun z11 ez11 H locs G => ?_)
      have h := h z11 ez11
      refine lv_iconst (v := 0) E.ex E.by dX12_readNumber_19 (by decide) ?_
      exact k_ret (wof := (fun u : US => (wM kc a u))) (u := z11) E G rfl h (Nat.le_of_ble_eq_true rfl) (Nat.le_of_ble_eq_true rfl) dX12_readNumber_20
theorem wi_X12_readBound_X12 : ∀ w ∈ wsX120, w ∈ wsX12_readBound := fun w h => List.mem_cons_of_mem _ (List.mem_append_right _ (h))
theorem fl_X12_readBound_X12_33 : Cond.fieldLink RX12 235 (TX12 33).1 (TX12 33).2.1 (TX12 33).2.2.1 ∈ wsX12_readBound := List.mem_of_getElem? (i := 1) (by decide +kernel)
theorem fl_X12_readBound_X12_31 : Cond.fieldLink RX12 229 (TX12 31).1 (TX12 31).2.1 (TX12 31).2.2.1 ∈ wsX12_readBound := List.mem_of_getElem? (i := 2) (by decide +kernel)
theorem fl_X12_readBound_X12_34 : Cond.fieldLink RX12 245 (TX12 34).1 (TX12 34).2.1 (TX12 34).2.2.1 ∈ wsX12_readBound := List.mem_of_getElem? (i := 3) (by decide +kernel)
theorem fl_X12_readBound_X12_35 : Cond.fieldLink RX12 251 (TX12 35).1 (TX12 35).2.1 (TX12 35).2.2.1 ∈ wsX12_readBound := List.mem_of_getElem? (i := 4) (by decide +kernel)
theorem fl_X12_readBound_X12_36 : Cond.fieldLink RX12 254 (TX12 36).1 (TX12 36).2.1 (TX12 36).2.2.1 ∈ wsX12_readBound := List.mem_of_getElem? (i := 5) (by decide +kernel)
theorem hd_X12_readNumber_v : yX12_readNumber.cls = RX12 ∧ yX12_readNumber.cls ≠ "java/lang/invoke/MethodHandle" ∧ yX12_readNumber.cls ≠ "java/lang/invoke/VarHandle" ∧ (parseMethodDescriptor yX12_readNumber.desc).map (fun d => d.parameters.length) = some 0 := by decide +kernel
def wp_X12_readBound_J81 (σ'j81 : US) (Q : US → Prop) : Prop := wp_X12_readNumber σ'j81 (fun (r6 : Int32) (u7 : US) => (∀ z8 : US, z8 = uI u7 10 r6 → (∀ z9 : US, z9 = uI z8 11 1 → (¬ (iI z9 8) = 0 → Q z9) ∧ ((iI z9 8) = 0 → wp_X12_here z9 (fun (r10 : Int32) => (¬ r10 = 47 → Q z9) ∧ (r10 = 47 → (∀ z11 : US, z11 = uI z9 6 ((iI z9 6) + 1) → wp_X12_readNumber z11 (fun (r12 : Int32) (u13 : US) => (∀ z14 : US, z14 = uI u13 11 r12 → (¬ (iI z14 8) = 0 → Q z14) ∧ ((iI z14 8) = 0 → (¬ (iI z14 11) = 0 → Q z14) ∧ ((iI z14 11) = 0 → (∀ z15 : US, z15 = uI z14 8 1 → (∀ z16 : US, z16 = uI z15 6 ((iI z15 6) - 1) → Q z16)))))))))))))
def wp_X12_readBound_J78 (σ'j78 : US) (s0j78 : Int32) (Q : US → Prop) : Prop := (∀ z22 : US, z22 = uI σ'j78 9 s0j78 → wp_X12_readBound_J81 z22 Q)
def wp_X12_readBound_J30 (v1j30 : Int32) (σ'j30 : US) (Q : US → Prop) : Prop := (∀ z3 : US, z3 = uI σ'j30 6 ((iI σ'j30 6) + 1) → (∀ z4 : US, z4 = uI z3 9 v1j30 → wp_X12_here z4 (fun (r5 : Int32) => (¬ r5 = 61 → wp_X12_readBound_J81 z4 Q) ∧ (r5 = 61 → (∀ z21 : US, z21 = uI z4 6 ((iI z4 6) + 1) → (¬ v1j30 = 60 → wp_X12_readBound_J78 z21 103 Q) ∧ (v1j30 = 60 → wp_X12_readBound_J78 z21 108 Q))))))
def wp_X12_readBound (σ : US) (Q : US → Prop) : Prop := wp_X12_here σ (fun (r1 : Int32) => (¬ (iI σ 8) = 0 → (∀ z2 : US, z2 = uI σ 8 1 → Q z2)) ∧ ((iI σ 8) = 0 → (r1 = 60 → wp_X12_readBound_J30 r1 σ Q) ∧ (¬ r1 = 60 → (r1 = 62 → wp_X12_readBound_J30 r1 σ Q) ∧ (¬ r1 = 62 → (∀ z25 : US, z25 = uI σ 8 1 → Q z25)))))
set_option maxRecDepth 100000 in
set_option maxHeartbeats 4000000 in
theorem c_X12_readBound (l : Launch) (D : va_G) (kc : Nat → ClassId) (a : Nat → Nat)  (σ : US) (Q : US → Prop) (h : wp_X12_readBound σ Q) : kCv l D (tyL kc) yX12_readBound wsX12_readBound ({ frames := 3, cells := 0, slots := 0, locals := 63 } : Room) [.ref (a 0)] (wM kc a σ) (fun u : US => (wM kc a u)) 0 0 (fun u => Q u) := by
  intro sz
  refine k_begin (cc := cX12_readBound) (maxL := 2) (ret := none) (by decide +kernel) rfl rfl (fun p e s m args below meth c hsz E G ls hl => ?_)
  subst hsz
  have hl : lv_has ls 2 [(0, .ref (a 0))] := hl
  have K81 : ∀ (σ'j81 : US) (H : Heap) (locs : List Loc) (ls : Array Slot), kG D (va_A (wM kc a σ) s.heap.size) s (wM kc a σ'j81) H locs → lv_has ls 2 [(0, .ref (a 0))] → wp_X12_readBound_J81 σ'j81 Q → W p l e ({ frames := 3, cells := 0, slots := 0, locals := 63 } : Room) s m args below meth c H locs 0 0 (MQ below (va_Qv (fun u => Q u) (kB D (wM kc a σ) s.heap.size (fun u : US => (wM kc a u))) (va_A (wM kc a σ) s.heap.size)) args s 0 0 (va_A (wM kc a σ) s.heap.size)) (F0 m 81 ls []) := by
    intro σ'j81 H locs ls G hl h
    refine lv_aload_n E.ex E.by dX12_readBound_81 rfl (lv_at hl 0 rfl) ?_
    refine lv_aload_n E.ex E.by dX12_readBound_82 rfl (lv_at hl 0 rfl) ?_
    refine k_cVi (X := []) (w := (wM kc a σ'j81)) (Z := []) (wnew := (fun u : US => (wM kc a u))) (As := []) (rest := [.ref (a 0)]) E (List.append_nil _).symm G (c_X12_readNumber l D kc _ _ _ h) gX12_readBound_X12_readNumber rfl ⟨rfl, rfl⟩ hd_X12_readNumber_v ⟨rfl, rfl⟩ 0 (gM_0 _ _ _) rfl rfl hl rfl rfl dX12_readBound_83 ⟨rfl, rfl⟩ (fun _ => (List.append_nil _).symm) (fun r13 u14 hq H locs G => ?_)
    have h := hq
    refine k_put (fun z => (wM kc a z)) E G wi_X12_readBound_X12 tyX12_ok nmX12 0 (gM_0 _ _ _) rfl 35 rfl fl_X12_readBound_X12_35 rfl rfl rfl rfl (uI u14 10 r13) (pM_0_35 _ _ _ _) dX12_readBound_86 (fun z15 ez15 H locs G => ?_)
    have h := h z15 ez15
    refine lv_aload_n E.ex E.by dX12_readBound_89 rfl (lv_at hl 0 rfl) ?_
    refine lv_iconst (v := 1) E.ex E.by dX12_readBound_90 (by decide) ?_
    refine k_put (fun z => (wM kc a z)) E G wi_X12_readBound_X12 tyX12_ok nmX12 0 (gM_0 _ _ _) rfl 36 rfl fl_X12_readBound_X12_36 rfl rfl rfl rfl (uI z15 11 1) (pM_0_36 _ _ _ _) dX12_readBound_91 (fun z16 ez16 H locs G => ?_)
    have h := h z16 ez16
    refine lv_aload_n E.ex E.by dX12_readBound_94 rfl (lv_at hl 0 rfl) ?_
    refine k_get E G wi_X12_readBound_X12 0 (gM_0 _ _ _) rfl 33 rfl fl_X12_readBound_X12_33 (v := .int (iI z16 8)) rfl dX12_readBound_95 ?_
    refine lv_if_ne (tgt := 157) E.ex E.by dX12_readBound_98 (by decide) (fun hc27 => ?_) (fun hc27 => ?_)
    · have h := h.1 hc27
      exact k_retv (wof := (fun u : US => (wM kc a u))) (u := z16) E G h (Nat.le_of_ble_eq_true rfl) (Nat.le_of_ble_eq_true rfl) dX12_readBound_157
    · have h := h.2 hc27
      refine lv_aload_n E.ex E.by dX12_readBound_101 rfl (lv_at hl 0 rfl) ?_
      refine k_cVi (X := []) (w := (wM kc a z16)) (Z := []) (wnew := (fun _ : Unit => (wM kc a z16))) (As := []) (rest := []) E (List.append_nil _).symm G (c_X12_here l D kc _ _ _ h) gX12_readBound_X12_here rfl ⟨rfl, rfl⟩ hd_X12_here_v ⟨rfl, rfl⟩ 0 (gM_0 _ _ _) rfl rfl hl rfl rfl dX12_readBound_102 ⟨rfl, rfl⟩ (fun _ => (List.append_nil _).symm) (fun r17 _u102 hq H locs G => ?_)
      have h := hq
      refine lv_bipush (v := 47) E.ex E.by dX12_readBound_105 (by decide) ?_
      refine lv_icmp_ne (tgt := 157) E.ex E.by dX12_readBound_107 (by decide) (fun hc26 => ?_) (fun hc26 => ?_)
      · have h := h.1 hc26
        exact k_retv (wof := (fun u : US => (wM kc a u))) (u := z16) E G h (Nat.le_of_ble_eq_true rfl) (Nat.le_of_ble_eq_true rfl) dX12_readBound_157
      · have h := h.2 hc26
        refine lv_aload_n E.ex E.by dX12_readBound_110 rfl (lv_at hl 0 rfl) ?_
        refine lv_dup E.ex E.by dX12_readBound_111 rfl ?_
        refine k_get E G wi_X12_readBound_X12 0 (gM_0 _ _ _) rfl 31 rfl fl_X12_readBound_X12_31 (v := .int (iI z16 6)) rfl dX12_readBound_112 ?_
        refine lv_iconst (v := 1) E.ex E.by dX12_readBound_115 (by decide) ?_
        refine lv_iadd E.ex E.by dX12_readBound_116 ?_
        refine k_put (fun z => (wM kc a z)) E G wi_X12_readBound_X12 tyX12_ok nmX12 0 (gM_0 _ _ _) rfl 31 rfl fl_X12_readBound_X12_31 rfl rfl rfl rfl (uI z16 6 ((iI z16 6) + 1)) (pM_0_31 _ _ _ _) dX12_readBound_117 (fun z18 ez18 H locs G => ?_)
        have h := h z18 ez18
        refine lv_aload_n E.ex E.by dX12_readBound_120 rfl (lv_at hl 0 rfl) ?_
        refine lv_aload_n E.ex E.by dX12_readBound_121 rfl (lv_at hl 0 rfl) ?_
        refine k_cVi (X := []) (w := (wM kc a z18)) (Z := []) (wnew := (fun u : US => (wM kc a u))) (As := []) (rest := [.ref (a 0)]) E (List.append_nil _).symm G (c_X12_readNumber l D kc _ _ _ h) gX12_readBound_X12_readNumber rfl ⟨rfl, rfl⟩ hd_X12_readNumber_v ⟨rfl, rfl⟩ 0 (gM_0 _ _ _) rfl rfl hl rfl rfl dX12_readBound_122 ⟨rfl, rfl⟩ (fun _ => (List.append_nil _).symm) (fun r19 u20 hq H locs G => ?_)
        have h := hq
        refine k_put (fun z => (wM kc a z)) E G wi_X12_readBound_X12 tyX12_ok nmX12 0 (gM_0 _ _ _) rfl 36 rfl fl_X12_readBound_X12_36 rfl rfl rfl rfl (uI u20 11 r19) (pM_0_36 _ _ _ _) dX12_readBound_125 (fun z21 ez21 H locs G => ?_)
        have h := h z21 ez21
        refine lv_aload_n E.ex E.by dX12_readBound_128 rfl (lv_at hl 0 rfl) ?_
        refine k_get E G wi_X12_readBound_X12 0 (gM_0 _ _ _) rfl 33 rfl fl_X12_readBound_X12_33 (v := .int (iI z21 8)) rfl dX12_readBound_129 ?_
        refine lv_if_ne (tgt := 157) E.ex E.by dX12_readBound_132 (by decide) (fun hc25 => ?_) (fun hc25 => ?_)
        · have h := h.1 hc25
          exact k_retv (wof := (fun u : US => (wM kc a u))) (u := z21) E G h (Nat.le_of_ble_eq_true rfl) (Nat.le_of_ble_eq_true rfl) dX12_readBound_157
        · have h := h.2 hc25
          refine lv_aload_n E.ex E.by dX12_readBound_135 rfl (lv_at hl 0 rfl) ?_
          refine k_get E G wi_X12_readBound_X12 0 (gM_0 _ _ _) rfl 36 rfl fl_X12_readBound_X12_36 (v := .int (iI z21 11)) rfl dX12_readBound_136 ?_
          refine lv_if_ne (tgt := 157) E.ex E.by dX12_readBound_139 (by decide) (fun hc24 => ?_) (fun hc24 => ?_)
          · have h := h.1 hc24
            exact k_retv (wof := (fun u : US => (wM kc a u))) (u := z21) E G h (Nat.le_of_ble_eq_true rfl) (Nat.le_of_ble_eq_true rfl) dX12_readBound_157
          · have h := h.2 hc24
            refine lv_aload_n E.ex E.by dX12_readBound_142 rfl (lv_at hl 0 rfl) ?_
            refine lv_iconst (v := 1) E.ex E.by dX12_readBound_143 (by decide) ?_
            refine k_put (fun z => (wM kc a z)) E G wi_X12_readBound_X12 tyX12_ok nmX12 0 (gM_0 _ _ _) rfl 33 rfl fl_X12_readBound_X12_33 rfl rfl rfl rfl (uI z21 8 1) (pM_0_33 _ _ _ _) dX12_readBound_144 (fun z22 ez22 H locs G => ?_)
            have h := h z22 ez22
            refine lv_aload_n E.ex E.by dX12_readBound_147 rfl (lv_at hl 0 rfl) ?_
            refine lv_dup E.ex E.by dX12_readBound_148 rfl ?_
            refine k_get E G wi_X12_readBound_X12 0 (gM_0 _ _ _) rfl 31 rfl fl_X12_readBound_X12_31 (v := .int (iI z22 6)) rfl dX12_readBound_149 ?_
            refine lv_iconst (v := 1) E.ex E.by dX12_readBound_152 (by decide) ?_
            refine lv_isub E.ex E.by dX12_readBound_153 ?_
            refine k_put (fun z => (wM kc a z)) E G wi_X12_readBound_X12 tyX12_ok nmX12 0 (gM_0 _ _ _) rfl 31 rfl fl_X12_readBound_X12_31 rfl rfl rfl rfl (uI z22 6 ((iI z22 6) - 1)) (pM_0_31 _ _ _ _) dX12_readBound_154 (fun z23 ez23 H locs G => ?_)
            have h := h z23 ez23
            exact k_retv (wof := (fun u : US => (wM kc a u))) (u := z23) E G h (Nat.le_of_ble_eq_true rfl) (Nat.le_of_ble_eq_true rfl) dX12_readBound_157
  have K78 : ∀ (σ'j78 : US) (s0j78 : Int32) (H : Heap) (locs : List Loc) (ls : Array Slot), kG D (va_A (wM kc a σ) s.heap.size) s (wM kc a σ'j78) H locs → lv_has ls 2 [(0, .ref (a 0))] → wp_X12_readBound_J78 σ'j78 s0j78 Q → W p l e ({ frames := 3, cells := 0, slots := 0, locals := 63 } : Room) s m args below meth c H locs 0 0 (MQ below (va_Qv (fun u => Q u) (kB D (wM kc a σ) s.heap.size (fun u : US => (wM kc a u))) (va_A (wM kc a σ) s.heap.size)) args s 0 0 (va_A (wM kc a σ) s.heap.size)) (F0 m 78 ls [.int s0j78, .ref (a 0)]) := by
    intro σ'j78 s0j78 H locs ls G hl h
    refine k_put (fun z => (wM kc a z)) E G wi_X12_readBound_X12 tyX12_ok nmX12 0 (gM_0 _ _ _) rfl 34 rfl fl_X12_readBound_X12_34 rfl rfl rfl rfl (uI σ'j78 9 s0j78) (pM_0_34 _ _ _ _) dX12_readBound_78 (fun z28 ez28 H locs G => ?_)
    have h := h z28 ez28
    exact K81 _ _ _ _ G (lv_sub hl [0] rfl) h
  have K30 : ∀ (v1j30 : Int32) (σ'j30 : US) (H : Heap) (locs : List Loc) (ls : Array Slot), kG D (va_A (wM kc a σ) s.heap.size) s (wM kc a σ'j30) H locs → lv_has ls 2 [(1, .int v1j30), (0, .ref (a 0))] → wp_X12_readBound_J30 v1j30 σ'j30 Q → W p l e ({ frames := 3, cells := 0, slots := 0, locals := 63 } : Room) s m args below meth c H locs 0 0 (MQ below (va_Qv (fun u => Q u) (kB D (wM kc a σ) s.heap.size (fun u : US => (wM kc a u))) (va_A (wM kc a σ) s.heap.size)) args s 0 0 (va_A (wM kc a σ) s.heap.size)) (F0 m 30 ls []) := by
    intro v1j30 σ'j30 H locs ls G hl h
    refine lv_aload_n E.ex E.by dX12_readBound_30 rfl (lv_at hl 1 rfl) ?_
    refine lv_dup E.ex E.by dX12_readBound_31 rfl ?_
    refine k_get E G wi_X12_readBound_X12 0 (gM_0 _ _ _) rfl 31 rfl fl_X12_readBound_X12_31 (v := .int (iI σ'j30 6)) rfl dX12_readBound_32 ?_
    refine lv_iconst (v := 1) E.ex E.by dX12_readBound_35 (by decide) ?_
    refine lv_iadd E.ex E.by dX12_readBound_36 ?_
    refine k_put (fun z => (wM kc a z)) E G wi_X12_readBound_X12 tyX12_ok nmX12 0 (gM_0 _ _ _) rfl 31 rfl fl_X12_readBound_X12_31 rfl rfl rfl rfl (uI σ'j30 6 ((iI σ'j30 6) + 1)) (pM_0_31 _ _ _ _) dX12_readBound_37 (fun z7 ez7 H locs G => ?_)
    have h := h z7 ez7
    refine lv_aload_n E.ex E.by dX12_readBound_40 rfl (lv_at hl 1 rfl) ?_
    refine lv_iload_n E.ex E.by dX12_readBound_41 rfl (lv_at hl 0 rfl) ?_
    refine k_put (fun z => (wM kc a z)) E G wi_X12_readBound_X12 tyX12_ok nmX12 0 (gM_0 _ _ _) rfl 34 rfl fl_X12_readBound_X12_34 rfl rfl rfl rfl (uI z7 9 v1j30) (pM_0_34 _ _ _ _) dX12_readBound_42 (fun z8 ez8 H locs G => ?_)
    have h := h z8 ez8
    refine lv_aload_n E.ex E.by dX12_readBound_45 rfl (lv_at hl 1 rfl) ?_
    refine k_cVi (X := []) (w := (wM kc a z8)) (Z := []) (wnew := (fun _ : Unit => (wM kc a z8))) (As := []) (rest := []) E (List.append_nil _).symm G (c_X12_here l D kc _ _ _ h) gX12_readBound_X12_here rfl ⟨rfl, rfl⟩ hd_X12_here_v ⟨rfl, rfl⟩ 0 (gM_0 _ _ _) rfl rfl hl rfl rfl dX12_readBound_46 ⟨rfl, rfl⟩ (fun _ => (List.append_nil _).symm) (fun r9 _u46 hq H locs G => ?_)
    have h := hq
    refine lv_bipush (v := 61) E.ex E.by dX12_readBound_49 (by decide) ?_
    refine lv_icmp_ne (tgt := 81) E.ex E.by dX12_readBound_51 (by decide) (fun hc12 => ?_) (fun hc12 => ?_)
    · have h := h.1 hc12
      exact K81 _ _ _ _ G (lv_sub hl [1] rfl) h
    · have h := h.2 hc12
      refine lv_aload_n E.ex E.by dX12_readBound_54 rfl (lv_at hl 1 rfl) ?_
      refine lv_dup E.ex E.by dX12_readBound_55 rfl ?_
      refine k_get E G wi_X12_readBound_X12 0 (gM_0 _ _ _) rfl 31 rfl fl_X12_readBound_X12_31 (v := .int (iI z8 6)) rfl dX12_readBound_56 ?_
      refine lv_iconst (v := 1) E.ex E.by dX12_readBound_59 (by decide) ?_
      refine lv_iadd E.ex E.by dX12_readBound_60 ?_
      refine k_put (fun z => (wM kc a z)) E G wi_X12_readBound_X12 tyX12_ok nmX12 0 (gM_0 _ _ _) rfl 31 rfl fl_X12_readBound_X12_31 rfl rfl rfl rfl (uI z8 6 ((iI z8 6) + 1)) (pM_0_31 _ _ _ _) dX12_readBound_61 (fun z10 ez10 H locs G => ?_)
      have h := h z10 ez10
      refine lv_aload_n E.ex E.by dX12_readBound_64 rfl (lv_at hl 1 rfl) ?_
      refine lv_iload_n E.ex E.by dX12_readBound_65 rfl (lv_at hl 0 rfl) ?_
      refine lv_bipush (v := 60) E.ex E.by dX12_readBound_66 (by decide) ?_
      refine lv_icmp_ne (tgt := 76) E.ex E.by dX12_readBound_68 (by decide) (fun hc11 => ?_) (fun hc11 => ?_)
      · have h := h.1 hc11
        refine lv_bipush (v := 103) E.ex E.by dX12_readBound_76 (by decide) ?_
        exact K78 _ _ _ _ _ G (lv_sub hl [1] rfl) h
      · have h := h.2 hc11
        refine lv_bipush (v := 108) E.ex E.by dX12_readBound_71 (by decide) ?_
        refine lv_goto (tgt := 78) E.ex E.by dX12_readBound_73 (by decide) ?_
        exact K78 _ _ _ _ _ G (lv_sub hl [1] rfl) h
  refine lv_aload_n E.ex E.by dX12_readBound_0 rfl (lv_at hl 0 rfl) ?_
  refine k_cVi (X := []) (w := (wM kc a σ)) (Z := []) (wnew := (fun _ : Unit => (wM kc a σ))) (As := []) (rest := []) E (List.append_nil _).symm G (c_X12_here l D kc _ _ _ h) gX12_readBound_X12_here rfl ⟨rfl, rfl⟩ hd_X12_here_v ⟨rfl, rfl⟩ 0 (gM_0 _ _ _) rfl rfl hl rfl rfl dX12_readBound_1 ⟨rfl, rfl⟩ (fun _ => (List.append_nil _).symm) (fun r1 _u1 hq H locs G => ?_)
  have h := hq
  refine lv_istore_n (lv' := [(1, .int r1), (0, .ref (a 0))]) E.ex E.by dX12_readBound_4 rfl hl (by decide) rfl (fun ls hl => ?_)
  refine lv_aload_n E.ex E.by dX12_readBound_5 rfl (lv_at hl 1 rfl) ?_
  refine k_get E G wi_X12_readBound_X12 0 (gM_0 _ _ _) rfl 33 rfl fl_X12_readBound_X12_33 (v := .int (iI σ 8)) rfl dX12_readBound_6 ?_
  refine lv_if_ne (tgt := 24) E.ex E.by dX12_readBound_9 (by decide) (fun hc6 => ?_) (fun hc6 => ?_)
  · have h := h.1 hc6
    refine lv_aload_n E.ex E.by dX12_readBound_24 rfl (lv_at hl 1 rfl) ?_
    refine lv_iconst (v := 1) E.ex E.by dX12_readBound_25 (by decide) ?_
    refine k_put (fun z => (wM kc a z)) E G wi_X12_readBound_X12 tyX12_ok nmX12 0 (gM_0 _ _ _) rfl 33 rfl fl_X12_readBound_X12_33 rfl rfl rfl rfl (uI σ 8 1) (pM_0_33 _ _ _ _) dX12_readBound_26 (fun z2 ez2 H locs G => ?_)
    have h := h z2 ez2
    exact k_retv (wof := (fun u : US => (wM kc a u))) (u := z2) E G h (Nat.le_of_ble_eq_true rfl) (Nat.le_of_ble_eq_true rfl) dX12_readBound_29
  · have h := h.2 hc6
    refine lv_iload_n E.ex E.by dX12_readBound_12 rfl (lv_at hl 0 rfl) ?_
    refine lv_bipush (v := 60) E.ex E.by dX12_readBound_13 (by decide) ?_
    refine lv_icmp_eq (tgt := 30) E.ex E.by dX12_readBound_15 (by decide) (fun hc5 => ?_) (fun hc5 => ?_)
    · have h := h.1 hc5
      exact K30 _ _ _ _ _ G (lv_sub hl [0, 1] rfl) h
    · have h := h.2 hc5
      refine lv_iload_n E.ex E.by dX12_readBound_18 rfl (lv_at hl 0 rfl) ?_
      refine lv_bipush (v := 62) E.ex E.by dX12_readBound_19 (by decide) ?_
      refine lv_icmp_eq (tgt := 30) E.ex E.by dX12_readBound_21 (by decide) (fun hc4 => ?_) (fun hc4 => ?_)
      · have h := h.1 hc4
        exact K30 _ _ _ _ _ G (lv_sub hl [0, 1] rfl) h
      · have h := h.2 hc4
        refine lv_aload_n E.ex E.by dX12_readBound_24 rfl (lv_at hl 1 rfl) ?_
        refine lv_iconst (v := 1) E.ex E.by dX12_readBound_25 (by decide) ?_
        refine k_put (fun z => (wM kc a z)) E G wi_X12_readBound_X12 tyX12_ok nmX12 0 (gM_0 _ _ _) rfl 33 rfl fl_X12_readBound_X12_33 rfl rfl rfl rfl (uI σ 8 1) (pM_0_33 _ _ _ _) dX12_readBound_26 (fun z3 ez3 H locs G => ?_)
        have h := h z3 ez3
        exact k_retv (wof := (fun u : US => (wM kc a u))) (u := z3) E G h (Nat.le_of_ble_eq_true rfl) (Nat.le_of_ble_eq_true rfl) dX12_readBound_29
theorem wi_X12_readWay_X12 : ∀ w ∈ wsX120, w ∈ wsX12_readWay := fun w h => List.mem_cons_of_mem _ (List.mem_append_right _ (h))
theorem fl_X12_readWay_X12_33 : Cond.fieldLink RX12 235 (TX12 33).1 (TX12 33).2.1 (TX12 33).2.2.1 ∈ wsX12_readWay := List.mem_of_getElem? (i := 1) (by decide +kernel)
theorem fl_X12_readWay_X12_31 : Cond.fieldLink RX12 229 (TX12 31).1 (TX12 31).2.1 (TX12 31).2.2.1 ∈ wsX12_readWay := List.mem_of_getElem? (i := 2) (by decide +kernel)
theorem fl_X12_readWay_X12_20 : Cond.fieldLink RX12 50 (TX12 20).1 (TX12 20).2.1 (TX12 20).2.2.1 ∈ wsX12_readWay := List.mem_of_getElem? (i := 3) (by decide +kernel)
theorem hd_X12_node_v : yX12_node.cls = RX12 ∧ yX12_node.cls ≠ "java/lang/invoke/MethodHandle" ∧ yX12_node.cls ≠ "java/lang/invoke/VarHandle" ∧ (parseMethodDescriptor yX12_node.desc).map (fun d => d.parameters.length) = some 3 := by decide +kernel
theorem hd_X12_readFormula_v : yX12_readFormula.cls = RX12 ∧ yX12_readFormula.cls ≠ "java/lang/invoke/MethodHandle" ∧ yX12_readFormula.cls ≠ "java/lang/invoke/VarHandle" ∧ (parseMethodDescriptor yX12_readFormula.desc).map (fun d => d.parameters.length) = some 0 := by decide +kernel
theorem hd_X12_wants_v : yX12_wants.cls = RX12 ∧ yX12_wants.cls ≠ "java/lang/invoke/MethodHandle" ∧ yX12_wants.cls ≠ "java/lang/invoke/VarHandle" ∧ (parseMethodDescriptor yX12_wants.desc).map (fun d => d.parameters.length) = some 1 := by decide +kernel
def wp_X12_readWay_J138 (RF : US → (Int32 → US → Prop) → Prop) (v4j138 : Int32) (v3j138 : Int32) (v2j138 : Int32) (v1j138 : Int32) (σ'j138 : US) (Q : Int32 → US → Prop) : Prop := wp_X12_node v1j138 v3j138 v4j138 σ'j138 (fun (r9 : Int32) (u10 : US) => (¬ (iI u10 8) = 0 → Q r9 u10) ∧ ((iI u10 8) = 0 → vp_in r9 300 ∧ (∀ z11 : US, z11 = uA u10 9 (r9).toNatClampNeg v2j138 → Q r9 z11)))
def wp_X12_readWay_J126 (RF : US → (Int32 → US → Prop) → Prop) (v3j126 : Int32) (v2j126 : Int32) (v1j126 : Int32) (σ'j126 : US) (Q : Int32 → US → Prop) : Prop := wp_X12_wants 44 σ'j126 (fun (u6 : US) => RF u6 (fun (r7 : Int32) (u8 : US) => wp_X12_readWay_J138 RF r7 v3j126 v2j126 v1j126 u8 Q))
def wp_X12_readWay_J106 (RF : US → (Int32 → US → Prop) → Prop) (v2j106 : Int32) (v1j106 : Int32) (σ'j106 : US) (Q : Int32 → US → Prop) : Prop := RF σ'j106 (fun (r4 : Int32) (u5 : US) => (v1j106 = 85 → wp_X12_readWay_J126 RF r4 v2j106 v1j106 u5 Q) ∧ (¬ v1j106 = 85 → (¬ v1j106 = 66 → wp_X12_readWay_J138 RF 0 r4 v2j106 v1j106 u5 Q) ∧ (v1j106 = 66 → wp_X12_readWay_J126 RF r4 v2j106 v1j106 u5 Q)))
def wp_X12_readWay_J49 (RF : US → (Int32 → US → Prop) → Prop) (v1j49 : Int32) (σ'j49 : US) (Q : Int32 → US → Prop) : Prop := (∀ z3 : US, z3 = uI σ'j49 6 ((iI σ'j49 6) + 1) → (¬ v1j49 = 66 → wp_X12_readWay_J106 RF 0 v1j49 z3 Q) ∧ (v1j49 = 66 → wp_X12_here z3 (fun (r15 : Int32) => wp_X12_in r15 48 54 (fun (r16 : Int32) => (¬ r16 = 0 → wp_X12_here z3 (fun (r17 : Int32) => ∀ x18 : Int32, x18 = r17 - 48 → (∀ z19 : US, z19 = uI z3 6 ((iI z3 6) + 1) → wp_X12_readWay_J106 RF x18 v1j49 z19 Q))) ∧ (r16 = 0 → (∀ z20 : US, z20 = uI z3 8 1 → Q 0 z20))))))
def wp_X12_readWay (RF : US → (Int32 → US → Prop) → Prop) (σ : US) (Q : Int32 → US → Prop) : Prop := wp_X12_here σ (fun (r1 : Int32) => (¬ (iI σ 8) = 0 → (∀ z2 : US, z2 = uI σ 8 1 → Q 0 z2)) ∧ ((iI σ 8) = 0 → (r1 = 88 → wp_X12_readWay_J49 RF r1 σ Q) ∧ (¬ r1 = 88 → (r1 = 70 → wp_X12_readWay_J49 RF r1 σ Q) ∧ (¬ r1 = 70 → (r1 = 71 → wp_X12_readWay_J49 RF r1 σ Q) ∧ (¬ r1 = 71 → (r1 = 85 → wp_X12_readWay_J49 RF r1 σ Q) ∧ (¬ r1 = 85 → (r1 = 66 → wp_X12_readWay_J49 RF r1 σ Q) ∧ (¬ r1 = 66 → (∀ z23 : US, z23 = uI σ 8 1 → Q 0 z23))))))))
set_option maxRecDepth 100000 in
set_option maxHeartbeats 4000000 in
theorem c_X12_readWay (l : Launch) (D : va_G) (kc : Nat → ClassId) (a : Nat → Nat) (F L : Nat) (RF : US → (Int32 → US → Prop) → Prop) (HRF : ∀ (σ0 : US) (Q0 : Int32 → US → Prop), RF σ0 Q0 → kCi l D (tyL kc) yX12_readFormula wsX12_readFormula ({ frames := F, cells := 0, slots := 0, locals := L } : Room) [.ref (a 0)] (wM kc a σ0) (fun u : US => (wM kc a u)) 0 0 (fun r u => Q0 r u)) (σ : US) (Q : Int32 → US → Prop) (h : wp_X12_readWay RF σ Q) : kCi l D (tyL kc) yX12_readWay wsX12_readWay ({ frames := F + 2, cells := 0, slots := 0, locals := L + 41 } : Room) [.ref (a 0)] (wM kc a σ) (fun u : US => (wM kc a u)) 0 0 (fun r u => Q r u) := by
  intro sz
  refine k_begin (cc := cX12_readWay) (maxL := 6) (ret := (some .int)) (by decide +kernel) rfl rfl (fun p e s m args below meth c hsz E G ls hl => ?_)
  subst hsz
  have hl : lv_has ls 6 [(0, .ref (a 0))] := hl
  have K138 : ∀ (v4j138 : Int32) (v3j138 : Int32) (v2j138 : Int32) (v1j138 : Int32) (σ'j138 : US) (H : Heap) (locs : List Loc) (ls : Array Slot), kG D (va_A (wM kc a σ) s.heap.size) s (wM kc a σ'j138) H locs → lv_has ls 6 [(4, .int v4j138), (3, .int v3j138), (2, .int v2j138), (1, .int v1j138), (0, .ref (a 0))] → wp_X12_readWay_J138 RF v4j138 v3j138 v2j138 v1j138 σ'j138 Q → W p l e ({ frames := F + 2, cells := 0, slots := 0, locals := L + 41 } : Room) s m args below meth c H locs 0 0 (MQ below (va_Qi (fun r u => Q r u) (kB D (wM kc a σ) s.heap.size (fun u : US => (wM kc a u))) (va_A (wM kc a σ) s.heap.size)) args s 0 0 (va_A (wM kc a σ) s.heap.size)) (F0 m 138 ls []) := by
    intro v4j138 v3j138 v2j138 v1j138 σ'j138 H locs ls G hl h
    refine lv_aload_n E.ex E.by dX12_readWay_138 rfl (lv_at hl 4 rfl) ?_
    refine lv_iload_n E.ex E.by dX12_readWay_139 rfl (lv_at hl 3 rfl) ?_
    refine lv_iload_n E.ex E.by dX12_readWay_140 rfl (lv_at hl 1 rfl) ?_
    refine lv_iload E.ex E.by dX12_readWay_141 (lv_at hl 0 rfl) ?_
    refine k_cVi (X := []) (w := (wM kc a σ'j138)) (Z := []) (wnew := (fun u : US => (wM kc a u))) (As := [.int v1j138, .int v3j138, .int v4j138]) (rest := []) E (List.append_nil _).symm G (c_X12_node l D kc _ _ _ _ _ _ h) gX12_readWay_X12_node rfl ⟨rfl, rfl⟩ hd_X12_node_v ⟨Nat.ble_eq_true_of_le (show 0 + 1 ≤ F + 2 by omega), Nat.ble_eq_true_of_le (show 8 + (4 + 11) + (0) ≤ L + 41 by omega)⟩ 0 (gM_0 _ _ _) rfl rfl hl rfl rfl dX12_readWay_143 ⟨rfl, rfl⟩ (fun _ => (List.append_nil _).symm) (fun r26 u27 hq H locs G => ?_)
    have h := hq
    refine lv_istore (lv' := [(5, .int r26), (4, .int v4j138), (3, .int v3j138), (2, .int v2j138), (1, .int v1j138), (0, .ref (a 0))]) E.ex E.by dX12_readWay_146 hl (by decide) rfl (fun ls hl => ?_)
    refine lv_aload_n E.ex E.by dX12_readWay_148 rfl (lv_at hl 5 rfl) ?_
    refine k_get E G wi_X12_readWay_X12 0 (gM_0 _ _ _) rfl 33 rfl fl_X12_readWay_X12_33 (v := .int (iI u27 8)) rfl dX12_readWay_149 ?_
    refine lv_if_ne (tgt := 163) E.ex E.by dX12_readWay_152 (by decide) (fun hc29 => ?_) (fun hc29 => ?_)
    · have h := h.1 hc29
      refine lv_iload E.ex E.by dX12_readWay_163 (lv_at hl 0 rfl) ?_
      exact k_ret (wof := (fun u : US => (wM kc a u))) (u := u27) E G rfl h (Nat.le_of_ble_eq_true rfl) (Nat.le_of_ble_eq_true rfl) dX12_readWay_165
    · have h := h.2 hc29
      refine lv_aload_n E.ex E.by dX12_readWay_155 rfl (lv_at hl 5 rfl) ?_
      refine k_get E G wi_X12_readWay_X12 0 (gM_0 _ _ _) rfl 20 rfl fl_X12_readWay_X12_20 (v := .ref (a 14)) rfl dX12_readWay_156 ?_
      refine lv_iload E.ex E.by dX12_readWay_159 (lv_at hl 0 rfl) ?_
      refine lv_iload_n E.ex E.by dX12_readWay_161 rfl (lv_at hl 3 rfl) ?_
      refine k_iast (fun z => (wM kc a z)) E G 14 (gM_14 _ _ _) 0 rfl h.1 (uA u27 9 (r26).toNatClampNeg v2j138) (sM_14 _ _ _ _) dX12_readWay_162 (fun z28 ez28 H locs G => ?_)
      have h := h.2 z28 ez28
      refine lv_iload E.ex E.by dX12_readWay_163 (lv_at hl 0 rfl) ?_
      exact k_ret (wof := (fun u : US => (wM kc a u))) (u := z28) E G rfl h (Nat.le_of_ble_eq_true rfl) (Nat.le_of_ble_eq_true rfl) dX12_readWay_165
  have K126 : ∀ (v3j126 : Int32) (v2j126 : Int32) (v1j126 : Int32) (σ'j126 : US) (H : Heap) (locs : List Loc) (ls : Array Slot), kG D (va_A (wM kc a σ) s.heap.size) s (wM kc a σ'j126) H locs → lv_has ls 6 [(3, .int v3j126), (2, .int v2j126), (1, .int v1j126), (0, .ref (a 0))] → wp_X12_readWay_J126 RF v3j126 v2j126 v1j126 σ'j126 Q → W p l e ({ frames := F + 2, cells := 0, slots := 0, locals := L + 41 } : Room) s m args below meth c H locs 0 0 (MQ below (va_Qi (fun r u => Q r u) (kB D (wM kc a σ) s.heap.size (fun u : US => (wM kc a u))) (va_A (wM kc a σ) s.heap.size)) args s 0 0 (va_A (wM kc a σ) s.heap.size)) (F0 m 126 ls []) := by
    intro v3j126 v2j126 v1j126 σ'j126 H locs ls G hl h
    refine lv_aload_n E.ex E.by dX12_readWay_126 rfl (lv_at hl 3 rfl) ?_
    refine lv_bipush (v := 44) E.ex E.by dX12_readWay_127 (by decide) ?_
    refine k_cVv (X := []) (w := (wM kc a σ'j126)) (Z := []) (wnew := (fun u : US => (wM kc a u))) (As := [.int 44]) (rest := []) E (List.append_nil _).symm G (c_X12_wants l D kc _ _ _ _ h) gX12_readWay_X12_wants rfl ⟨rfl, rfl⟩ hd_X12_wants_v ⟨Nat.ble_eq_true_of_le (show 1 + 1 ≤ F + 2 by omega), Nat.ble_eq_true_of_le (show 8 + (2 + 11) + (20) ≤ L + 41 by omega)⟩ 0 (gM_0 _ _ _) rfl rfl hl rfl rfl dX12_readWay_129 ⟨rfl, rfl⟩ (fun _ => (List.append_nil _).symm) (fun u23 hq H locs G => ?_)
    have h := hq
    refine lv_aload_n E.ex E.by dX12_readWay_132 rfl (lv_at hl 3 rfl) ?_
    refine k_cVi (X := []) (w := (wM kc a u23)) (Z := []) (wnew := (fun u : US => (wM kc a u))) (As := []) (rest := []) E (List.append_nil _).symm G (HRF _ _ h) gX12_readWay_X12_readFormula rfl ⟨rfl, rfl⟩ hd_X12_readFormula_v ⟨Nat.ble_eq_true_of_le (show F + 0 + 1 ≤ F + 2 by omega), Nat.ble_eq_true_of_le (show 8 + (4 + 11) + (L + 0) ≤ L + 41 by omega)⟩ 0 (gM_0 _ _ _) rfl rfl hl rfl rfl dX12_readWay_133 ⟨rfl, rfl⟩ (fun _ => (List.append_nil _).symm) (fun r24 u25 hq H locs G => ?_)
    have h := hq
    refine lv_istore (lv' := [(4, .int r24), (3, .int v3j126), (2, .int v2j126), (1, .int v1j126), (0, .ref (a 0))]) E.ex E.by dX12_readWay_136 hl (by decide) rfl (fun ls hl => ?_)
    exact K138 _ _ _ _ _ _ _ _ G (lv_sub hl [0, 1, 2, 3, 4] rfl) h
  have K106 : ∀ (v2j106 : Int32) (v1j106 : Int32) (σ'j106 : US) (H : Heap) (locs : List Loc) (ls : Array Slot), kG D (va_A (wM kc a σ) s.heap.size) s (wM kc a σ'j106) H locs → lv_has ls 6 [(2, .int v2j106), (1, .int v1j106), (0, .ref (a 0))] → wp_X12_readWay_J106 RF v2j106 v1j106 σ'j106 Q → W p l e ({ frames := F + 2, cells := 0, slots := 0, locals := L + 41 } : Room) s m args below meth c H locs 0 0 (MQ below (va_Qi (fun r u => Q r u) (kB D (wM kc a σ) s.heap.size (fun u : US => (wM kc a u))) (va_A (wM kc a σ) s.heap.size)) args s 0 0 (va_A (wM kc a σ) s.heap.size)) (F0 m 106 ls []) := by
    intro v2j106 v1j106 σ'j106 H locs ls G hl h
    refine lv_aload_n E.ex E.by dX12_readWay_106 rfl (lv_at hl 2 rfl) ?_
    refine k_cVi (X := []) (w := (wM kc a σ'j106)) (Z := []) (wnew := (fun u : US => (wM kc a u))) (As := []) (rest := []) E (List.append_nil _).symm G (HRF _ _ h) gX12_readWay_X12_readFormula rfl ⟨rfl, rfl⟩ hd_X12_readFormula_v ⟨Nat.ble_eq_true_of_le (show F + 0 + 1 ≤ F + 2 by omega), Nat.ble_eq_true_of_le (show 8 + (4 + 11) + (L + 0) ≤ L + 41 by omega)⟩ 0 (gM_0 _ _ _) rfl rfl hl rfl rfl dX12_readWay_107 ⟨rfl, rfl⟩ (fun _ => (List.append_nil _).symm) (fun r19 u20 hq H locs G => ?_)
    have h := hq
    refine lv_istore_n (lv' := [(3, .int r19), (2, .int v2j106), (1, .int v1j106), (0, .ref (a 0))]) E.ex E.by dX12_readWay_110 rfl hl (by decide) rfl (fun ls hl => ?_)
    refine lv_iconst (v := 0) E.ex E.by dX12_readWay_111 (by decide) ?_
    refine lv_istore (lv' := [(4, .int 0), (3, .int r19), (2, .int v2j106), (1, .int v1j106), (0, .ref (a 0))]) E.ex E.by dX12_readWay_112 hl (by decide) rfl (fun ls hl => ?_)
    refine lv_iload_n E.ex E.by dX12_readWay_114 rfl (lv_at hl 3 rfl) ?_
    refine lv_bipush (v := 85) E.ex E.by dX12_readWay_115 (by decide) ?_
    refine lv_icmp_eq (tgt := 126) E.ex E.by dX12_readWay_117 (by decide) (fun hc22 => ?_) (fun hc22 => ?_)
    · have h := h.1 hc22
      exact K126 _ _ _ _ _ _ _ G (lv_sub hl [1, 2, 3, 4] rfl) h
    · have h := h.2 hc22
      refine lv_iload_n E.ex E.by dX12_readWay_120 rfl (lv_at hl 3 rfl) ?_
      refine lv_bipush (v := 66) E.ex E.by dX12_readWay_121 (by decide) ?_
      refine lv_icmp_ne (tgt := 138) E.ex E.by dX12_readWay_123 (by decide) (fun hc21 => ?_) (fun hc21 => ?_)
      · have h := h.1 hc21
        exact K138 _ _ _ _ _ _ _ _ G (lv_sub hl [0, 1, 2, 3, 4] rfl) h
      · have h := h.2 hc21
        exact K126 _ _ _ _ _ _ _ G (lv_sub hl [1, 2, 3, 4] rfl) h
  have K49 : ∀ (v1j49 : Int32) (σ'j49 : US) (H : Heap) (locs : List Loc) (ls : Array Slot), kG D (va_A (wM kc a σ) s.heap.size) s (wM kc a σ'j49) H locs → lv_has ls 6 [(1, .int v1j49), (0, .ref (a 0))] → wp_X12_readWay_J49 RF v1j49 σ'j49 Q → W p l e ({ frames := F + 2, cells := 0, slots := 0, locals := L + 41 } : Room) s m args below meth c H locs 0 0 (MQ below (va_Qi (fun r u => Q r u) (kB D (wM kc a σ) s.heap.size (fun u : US => (wM kc a u))) (va_A (wM kc a σ) s.heap.size)) args s 0 0 (va_A (wM kc a σ) s.heap.size)) (F0 m 49 ls []) := by
    intro v1j49 σ'j49 H locs ls G hl h
    refine lv_aload_n E.ex E.by dX12_readWay_49 rfl (lv_at hl 1 rfl) ?_
    refine lv_dup E.ex E.by dX12_readWay_50 rfl ?_
    refine k_get E G wi_X12_readWay_X12 0 (gM_0 _ _ _) rfl 31 rfl fl_X12_readWay_X12_31 (v := .int (iI σ'j49 6)) rfl dX12_readWay_51 ?_
    refine lv_iconst (v := 1) E.ex E.by dX12_readWay_54 (by decide) ?_
    refine lv_iadd E.ex E.by dX12_readWay_55 ?_
    refine k_put (fun z => (wM kc a z)) E G wi_X12_readWay_X12 tyX12_ok nmX12 0 (gM_0 _ _ _) rfl 31 rfl fl_X12_readWay_X12_31 rfl rfl rfl rfl (uI σ'j49 6 ((iI σ'j49 6) + 1)) (pM_0_31 _ _ _ _) dX12_readWay_56 (fun z10 ez10 H locs G => ?_)
    have h := h z10 ez10
    refine lv_iconst (v := 0) E.ex E.by dX12_readWay_59 (by decide) ?_
    refine lv_istore_n (lv' := [(2, .int 0), (1, .int v1j49), (0, .ref (a 0))]) E.ex E.by dX12_readWay_60 rfl hl (by decide) rfl (fun ls hl => ?_)
    refine lv_iload_n E.ex E.by dX12_readWay_61 rfl (lv_at hl 1 rfl) ?_
    refine lv_bipush (v := 66) E.ex E.by dX12_readWay_62 (by decide) ?_
    refine lv_icmp_ne (tgt := 106) E.ex E.by dX12_readWay_64 (by decide) (fun hc18 => ?_) (fun hc18 => ?_)
    · have h := h.1 hc18
      exact K106 _ _ _ _ _ _ G (lv_sub hl [0, 1, 2] rfl) h
    · have h := h.2 hc18
      refine lv_aload_n E.ex E.by dX12_readWay_67 rfl (lv_at hl 2 rfl) ?_
      refine k_cVi (X := []) (w := (wM kc a z10)) (Z := []) (wnew := (fun _ : Unit => (wM kc a z10))) (As := []) (rest := []) E (List.append_nil _).symm G (c_X12_here l D kc _ _ _ h) gX12_readWay_X12_here rfl ⟨rfl, rfl⟩ hd_X12_here_v ⟨Nat.ble_eq_true_of_le (show 0 + 1 ≤ F + 2 by omega), Nat.ble_eq_true_of_le (show 8 + (1 + 11) + (0) ≤ L + 41 by omega)⟩ 0 (gM_0 _ _ _) rfl rfl hl rfl rfl dX12_readWay_68 ⟨rfl, rfl⟩ (fun _ => (List.append_nil _).symm) (fun r11 _u68 hq H locs G => ?_)
      have h := hq
      refine lv_bipush (v := 48) E.ex E.by dX12_readWay_71 (by decide) ?_
      refine lv_bipush (v := 54) E.ex E.by dX12_readWay_73 (by decide) ?_
      refine k_cSi (X := (wM kc a z10)) (w := []) (Z := []) (wnew := (fun _ : Unit => (wM kc a z10))) (As := [.int r11, .int 48, .int 54]) (rest := []) E (List.append_nil _).symm G (c_X12_in l D kc _ _ _ _ h) gX12_readWay_X12_in rfl ⟨rfl, rfl⟩ hd_X12_in_v ⟨Nat.ble_eq_true_of_le (show 0 + 1 ≤ F + 2 by omega), Nat.ble_eq_true_of_le (show 8 + (3 + 11) + (0) ≤ L + 41 by omega)⟩ rfl hl rfl rfl dX12_readWay_75 ⟨rfl, rfl⟩ (fun _ => (List.append_nil _).symm) (fun r12 _u75 hq H locs G => ?_)
      have h := hq
      refine lv_if_ne (tgt := 88) E.ex E.by dX12_readWay_78 (by decide) (fun hc17 => ?_) (fun hc17 => ?_)
      · have h := h.1 hc17
        refine lv_aload_n E.ex E.by dX12_readWay_88 rfl (lv_at hl 2 rfl) ?_
        refine k_cVi (X := []) (w := (wM kc a z10)) (Z := []) (wnew := (fun _ : Unit => (wM kc a z10))) (As := []) (rest := []) E (List.append_nil _).symm G (c_X12_here l D kc _ _ _ h) gX12_readWay_X12_here rfl ⟨rfl, rfl⟩ hd_X12_here_v ⟨Nat.ble_eq_true_of_le (show 0 + 1 ≤ F + 2 by omega), Nat.ble_eq_true_of_le (show 8 + (1 + 11) + (0) ≤ L + 41 by omega)⟩ 0 (gM_0 _ _ _) rfl rfl hl rfl rfl dX12_readWay_89 ⟨rfl, rfl⟩ (fun _ => (List.append_nil _).symm) (fun r13 _u89 hq H locs G => ?_)
        have h := hq
        refine lv_bipush (v := 48) E.ex E.by dX12_readWay_92 (by decide) ?_
        refine lv_isub E.ex E.by dX12_readWay_94 ?_
        refine lv_topi (fun x14 ex14 => ?_)
        have h := h x14 ex14
        refine lv_istore_n (lv' := [(2, .int x14), (1, .int v1j49), (0, .ref (a 0))]) E.ex E.by dX12_readWay_95 rfl hl (by decide) rfl (fun ls hl => ?_)
        refine lv_aload_n E.ex E.by dX12_readWay_96 rfl (lv_at hl 2 rfl) ?_
        refine lv_dup E.ex E.by dX12_readWay_97 rfl ?_
        refine k_get E G wi_X12_readWay_X12 0 (gM_0 _ _ _) rfl 31 rfl fl_X12_readWay_X12_31 (v := .int (iI z10 6)) rfl dX12_readWay_98 ?_
        refine lv_iconst (v := 1) E.ex E.by dX12_readWay_101 (by decide) ?_
        refine lv_iadd E.ex E.by dX12_readWay_102 ?_
        refine k_put (fun z => (wM kc a z)) E G wi_X12_readWay_X12 tyX12_ok nmX12 0 (gM_0 _ _ _) rfl 31 rfl fl_X12_readWay_X12_31 rfl rfl rfl rfl (uI z10 6 ((iI z10 6) + 1)) (pM_0_31 _ _ _ _) dX12_readWay_103 (fun z15 ez15 H locs G => ?_)
        have h := h z15 ez15
        exact K106 _ _ _ _ _ _ G (lv_sub hl [0, 1, 2] rfl) h
      · have h := h.2 hc17
        refine lv_aload_n E.ex E.by dX12_readWay_81 rfl (lv_at hl 2 rfl) ?_
        refine lv_iconst (v := 1) E.ex E.by dX12_readWay_82 (by decide) ?_
        refine k_put (fun z => (wM kc a z)) E G wi_X12_readWay_X12 tyX12_ok nmX12 0 (gM_0 _ _ _) rfl 33 rfl fl_X12_readWay_X12_33 rfl rfl rfl rfl (uI z10 8 1) (pM_0_33 _ _ _ _) dX12_readWay_83 (fun z16 ez16 H locs G => ?_)
        have h := h z16 ez16
        refine lv_iconst (v := 0) E.ex E.by dX12_readWay_86 (by decide) ?_
        exact k_ret (wof := (fun u : US => (wM kc a u))) (u := z16) E G rfl h (Nat.le_of_ble_eq_true rfl) (Nat.le_of_ble_eq_true rfl) dX12_readWay_87
  refine lv_aload_n E.ex E.by dX12_readWay_0 rfl (lv_at hl 0 rfl) ?_
  refine k_cVi (X := []) (w := (wM kc a σ)) (Z := []) (wnew := (fun _ : Unit => (wM kc a σ))) (As := []) (rest := []) E (List.append_nil _).symm G (c_X12_here l D kc _ _ _ h) gX12_readWay_X12_here rfl ⟨rfl, rfl⟩ hd_X12_here_v ⟨Nat.ble_eq_true_of_le (show 0 + 1 ≤ F + 2 by omega), Nat.ble_eq_true_of_le (show 8 + (1 + 11) + (0) ≤ L + 41 by omega)⟩ 0 (gM_0 _ _ _) rfl rfl hl rfl rfl dX12_readWay_1 ⟨rfl, rfl⟩ (fun _ => (List.append_nil _).symm) (fun r1 _u1 hq H locs G => ?_)
  have h := hq
  refine lv_istore_n (lv' := [(1, .int r1), (0, .ref (a 0))]) E.ex E.by dX12_readWay_4 rfl hl (by decide) rfl (fun ls hl => ?_)
  refine lv_aload_n E.ex E.by dX12_readWay_5 rfl (lv_at hl 1 rfl) ?_
  refine k_get E G wi_X12_readWay_X12 0 (gM_0 _ _ _) rfl 33 rfl fl_X12_readWay_X12_33 (v := .int (iI σ 8)) rfl dX12_readWay_6 ?_
  refine lv_if_ne (tgt := 42) E.ex E.by dX12_readWay_9 (by decide) (fun hc9 => ?_) (fun hc9 => ?_)
  · have h := h.1 hc9
    refine lv_aload_n E.ex E.by dX12_readWay_42 rfl (lv_at hl 1 rfl) ?_
    refine lv_iconst (v := 1) E.ex E.by dX12_readWay_43 (by decide) ?_
    refine k_put (fun z => (wM kc a z)) E G wi_X12_readWay_X12 tyX12_ok nmX12 0 (gM_0 _ _ _) rfl 33 rfl fl_X12_readWay_X12_33 rfl rfl rfl rfl (uI σ 8 1) (pM_0_33 _ _ _ _) dX12_readWay_44 (fun z2 ez2 H locs G => ?_)
    have h := h z2 ez2
    refine lv_iconst (v := 0) E.ex E.by dX12_readWay_47 (by decide) ?_
    exact k_ret (wof := (fun u : US => (wM kc a u))) (u := z2) E G rfl h (Nat.le_of_ble_eq_true rfl) (Nat.le_of_ble_eq_true rfl) dX12_readWay_48
  · have h := h.2 hc9
    refine lv_iload_n E.ex E.by dX12_readWay_12 rfl (lv_at hl 0 rfl) ?_
    refine lv_bipush (v := 88) E.ex E.by dX12_readWay_13 (by decide) ?_
    refine lv_icmp_eq (tgt := 49) E.ex E.by dX12_readWay_15 (by decide) (fun hc8 => ?_) (fun hc8 => ?_)
    · have h := h.1 hc8
      exact K49 _ _ _ _ _ G (lv_sub hl [0, 1] rfl) h
    · have h := h.2 hc8
      refine lv_iload_n E.ex E.by dX12_readWay_18 rfl (lv_at hl 0 rfl) ?_
      refine lv_bipush (v := 70) E.ex E.by dX12_readWay_19 (by decide) ?_
      refine lv_icmp_eq (tgt := 49) E.ex E.by dX12_readWay_21 (by decide) (fun hc7 => ?_) (fun hc7 => ?_)
      · have h := h.1 hc7
        exact K49 _ _ _ _ _ G (lv_sub hl [0, 1] rfl) h
      · have h := h.2 hc7
        refine lv_iload_n E.ex E.by dX12_readWay_24 rfl (lv_at hl 0 rfl) ?_
        refine lv_bipush (v := 71) E.ex E.by dX12_readWay_25 (by decide) ?_
        refine lv_icmp_eq (tgt := 49) E.ex E.by dX12_readWay_27 (by decide) (fun hc6 => ?_) (fun hc6 => ?_)
        · have h := h.1 hc6
          exact K49 _ _ _ _ _ G (lv_sub hl [0, 1] rfl) h
        · have h := h.2 hc6
          refine lv_iload_n E.ex E.by dX12_readWay_30 rfl (lv_at hl 0 rfl) ?_
          refine lv_bipush (v := 85) E.ex E.by dX12_readWay_31 (by decide) ?_
          refine lv_icmp_eq (tgt := 49) E.ex E.by dX12_readWay_33 (by decide) (fun hc5 => ?_) (fun hc5 => ?_)
          · have h := h.1 hc5
            exact K49 _ _ _ _ _ G (lv_sub hl [0, 1] rfl) h
          · have h := h.2 hc5
            refine lv_iload_n E.ex E.by dX12_readWay_36 rfl (lv_at hl 0 rfl) ?_
            refine lv_bipush (v := 66) E.ex E.by dX12_readWay_37 (by decide) ?_
            refine lv_icmp_eq (tgt := 49) E.ex E.by dX12_readWay_39 (by decide) (fun hc4 => ?_) (fun hc4 => ?_)
            · have h := h.1 hc4
              exact K49 _ _ _ _ _ G (lv_sub hl [0, 1] rfl) h
            · have h := h.2 hc4
              refine lv_aload_n E.ex E.by dX12_readWay_42 rfl (lv_at hl 1 rfl) ?_
              refine lv_iconst (v := 1) E.ex E.by dX12_readWay_43 (by decide) ?_
              refine k_put (fun z => (wM kc a z)) E G wi_X12_readWay_X12 tyX12_ok nmX12 0 (gM_0 _ _ _) rfl 33 rfl fl_X12_readWay_X12_33 rfl rfl rfl rfl (uI σ 8 1) (pM_0_33 _ _ _ _) dX12_readWay_44 (fun z3 ez3 H locs G => ?_)
              have h := h z3 ez3
              refine lv_iconst (v := 0) E.ex E.by dX12_readWay_47 (by decide) ?_
              exact k_ret (wof := (fun u : US => (wM kc a u))) (u := z3) E G rfl h (Nat.le_of_ble_eq_true rfl) (Nat.le_of_ble_eq_true rfl) dX12_readWay_48
theorem wi_X12_readBounded_X12 : ∀ w ∈ wsX120, w ∈ wsX12_readBounded := fun w h => List.mem_cons_of_mem _ (List.mem_append_right _ (h))
theorem fl_X12_readBounded_X12_31 : Cond.fieldLink RX12 229 (TX12 31).1 (TX12 31).2.1 (TX12 31).2.2.1 ∈ wsX12_readBounded := List.mem_of_getElem? (i := 1) (by decide +kernel)
theorem fl_X12_readBounded_X12_34 : Cond.fieldLink RX12 245 (TX12 34).1 (TX12 34).2.1 (TX12 34).2.2.1 ∈ wsX12_readBounded := List.mem_of_getElem? (i := 2) (by decide +kernel)
theorem fl_X12_readBounded_X12_35 : Cond.fieldLink RX12 251 (TX12 35).1 (TX12 35).2.1 (TX12 35).2.2.1 ∈ wsX12_readBounded := List.mem_of_getElem? (i := 3) (by decide +kernel)
theorem fl_X12_readBounded_X12_36 : Cond.fieldLink RX12 254 (TX12 36).1 (TX12 36).2.1 (TX12 36).2.2.1 ∈ wsX12_readBounded := List.mem_of_getElem? (i := 4) (by decide +kernel)
theorem fl_X12_readBounded_X12_33 : Cond.fieldLink RX12 235 (TX12 33).1 (TX12 33).2.1 (TX12 33).2.2.1 ∈ wsX12_readBounded := List.mem_of_getElem? (i := 5) (by decide +kernel)
theorem fl_X12_readBounded_X12_21 : Cond.fieldLink RX12 53 (TX12 21).1 (TX12 21).2.1 (TX12 21).2.2.1 ∈ wsX12_readBounded := List.mem_of_getElem? (i := 6) (by decide +kernel)
theorem fl_X12_readBounded_X12_22 : Cond.fieldLink RX12 56 (TX12 22).1 (TX12 22).2.1 (TX12 22).2.2.1 ∈ wsX12_readBounded := List.mem_of_getElem? (i := 7) (by decide +kernel)
theorem fl_X12_readBounded_X12_23 : Cond.fieldLink RX12 59 (TX12 23).1 (TX12 23).2.1 (TX12 23).2.2.1 ∈ wsX12_readBounded := List.mem_of_getElem? (i := 8) (by decide +kernel)
theorem hd_X12_readWay_v : yX12_readWay.cls = RX12 ∧ yX12_readWay.cls ≠ "java/lang/invoke/MethodHandle" ∧ yX12_readWay.cls ≠ "java/lang/invoke/VarHandle" ∧ (parseMethodDescriptor yX12_readWay.desc).map (fun d => d.parameters.length) = some 0 := by decide +kernel
theorem hd_X12_readBound_v : yX12_readBound.cls = RX12 ∧ yX12_readBound.cls ≠ "java/lang/invoke/MethodHandle" ∧ yX12_readBound.cls ≠ "java/lang/invoke/VarHandle" ∧ (parseMethodDescriptor yX12_readBound.desc).map (fun d => d.parameters.length) = some 0 := by decide +kernel
def wp_X12_readBounded_J67 (RF : US → (Int32 → US → Prop) → Prop) (v5j67 : Int32) (v4j67 : Int32) (v3j67 : Int32) (v2j67 : Int32) (σ'j67 : US) (Q : Int32 → US → Prop) : Prop := wp_X12_wants 93 σ'j67 (fun (u11 : US) => (¬ (iI u11 8) = 0 → Q v5j67 u11) ∧ ((iI u11 8) = 0 → vp_in v5j67 300 ∧ (∀ z12 : US, z12 = uA u11 10 (v5j67).toNatClampNeg v2j67 → vp_in v5j67 300 ∧ (∀ z13 : US, z13 = uA z12 11 (v5j67).toNatClampNeg v3j67 → vp_in v5j67 300 ∧ (∀ z14 : US, z14 = uA z13 12 (v5j67).toNatClampNeg v4j67 → Q v5j67 z14)))))
def wp_X12_readBounded (RF : US → (Int32 → US → Prop) → Prop) (p1 : Int32) (σ : US) (Q : Int32 → US → Prop) : Prop := (∀ z1 : US, z1 = uI σ 6 ((iI σ 6) + 1) → wp_X12_readBound z1 (fun (u2 : US) => ∀ x3 : Int32, x3 = iI u2 9 → ∀ x4 : Int32, x4 = iI u2 10 → ∀ x5 : Int32, x5 = iI u2 11 → wp_X12_wants 91 u2 (fun (u6 : US) => (¬ p1 = 80 → RF u6 (fun (r7 : Int32) (u8 : US) => wp_X12_node p1 r7 0 u8 (fun (r9 : Int32) (u10 : US) => wp_X12_readBounded_J67 RF r9 x5 x4 x3 u10 Q))) ∧ (p1 = 80 → wp_X12_readWay RF u6 (fun (r16 : Int32) (u17 : US) => wp_X12_readBounded_J67 RF r16 x5 x4 x3 u17 Q)))))
set_option maxRecDepth 100000 in
set_option maxHeartbeats 4000000 in
theorem c_X12_readBounded (l : Launch) (D : va_G) (kc : Nat → ClassId) (a : Nat → Nat) (F L : Nat) (RF : US → (Int32 → US → Prop) → Prop) (HRF : ∀ (σ0 : US) (Q0 : Int32 → US → Prop), RF σ0 Q0 → kCi l D (tyL kc) yX12_readFormula wsX12_readFormula ({ frames := F, cells := 0, slots := 0, locals := L } : Room) [.ref (a 0)] (wM kc a σ0) (fun u : US => (wM kc a u)) 0 0 (fun r u => Q0 r u)) (p1 : Int32) (σ : US) (Q : Int32 → US → Prop) (h : wp_X12_readBounded RF p1 σ Q) : kCi l D (tyL kc) yX12_readBounded wsX12_readBounded ({ frames := F + 4, cells := 0, slots := 0, locals := L + 84 } : Room) [.ref (a 0), .int p1] (wM kc a σ) (fun u : US => (wM kc a u)) 0 0 (fun r u => Q r u) := by
  intro sz
  refine k_begin (cc := cX12_readBounded) (maxL := 6) (ret := (some .int)) (by decide +kernel) rfl rfl (fun p e s m args below meth c hsz E G ls hl => ?_)
  subst hsz
  have hl : lv_has ls 6 [(0, .ref (a 0)), (1, .int p1)] := hl
  have K67 : ∀ (v5j67 : Int32) (v4j67 : Int32) (v3j67 : Int32) (v2j67 : Int32) (σ'j67 : US) (H : Heap) (locs : List Loc) (ls : Array Slot), kG D (va_A (wM kc a σ) s.heap.size) s (wM kc a σ'j67) H locs → lv_has ls 6 [(5, .int v5j67), (4, .int v4j67), (3, .int v3j67), (2, .int v2j67), (0, .ref (a 0))] → wp_X12_readBounded_J67 RF v5j67 v4j67 v3j67 v2j67 σ'j67 Q → W p l e ({ frames := F + 4, cells := 0, slots := 0, locals := L + 84 } : Room) s m args below meth c H locs 0 0 (MQ below (va_Qi (fun r u => Q r u) (kB D (wM kc a σ) s.heap.size (fun u : US => (wM kc a u))) (va_A (wM kc a σ) s.heap.size)) args s 0 0 (va_A (wM kc a σ) s.heap.size)) (F0 m 67 ls []) := by
    intro v5j67 v4j67 v3j67 v2j67 σ'j67 H locs ls G hl h
    refine lv_aload_n E.ex E.by dX12_readBounded_67 rfl (lv_at hl 4 rfl) ?_
    refine lv_bipush (v := 93) E.ex E.by dX12_readBounded_68 (by decide) ?_
    refine k_cVv (X := []) (w := (wM kc a σ'j67)) (Z := []) (wnew := (fun u : US => (wM kc a u))) (As := [.int 93]) (rest := []) E (List.append_nil _).symm G (c_X12_wants l D kc _ _ _ _ h) gX12_readBounded_X12_wants rfl ⟨rfl, rfl⟩ hd_X12_wants_v ⟨Nat.ble_eq_true_of_le (show 1 + 1 ≤ F + 4 by omega), Nat.ble_eq_true_of_le (show 8 + (2 + 11) + (20) ≤ L + 84 by omega)⟩ 0 (gM_0 _ _ _) rfl rfl hl rfl rfl dX12_readBounded_70 ⟨rfl, rfl⟩ (fun _ => (List.append_nil _).symm) (fun u14 hq H locs G => ?_)
    have h := hq
    refine lv_aload_n E.ex E.by dX12_readBounded_73 rfl (lv_at hl 4 rfl) ?_
    refine k_get E G wi_X12_readBounded_X12 0 (gM_0 _ _ _) rfl 33 rfl fl_X12_readBounded_X12_33 (v := .int (iI u14 8)) rfl dX12_readBounded_74 ?_
    refine lv_if_ne (tgt := 105) E.ex E.by dX12_readBounded_77 (by decide) (fun hc18 => ?_) (fun hc18 => ?_)
    · have h := h.1 hc18
      refine lv_iload E.ex E.by dX12_readBounded_105 (lv_at hl 0 rfl) ?_
      exact k_ret (wof := (fun u : US => (wM kc a u))) (u := u14) E G rfl h (Nat.le_of_ble_eq_true rfl) (Nat.le_of_ble_eq_true rfl) dX12_readBounded_107
    · have h := h.2 hc18
      refine lv_aload_n E.ex E.by dX12_readBounded_80 rfl (lv_at hl 4 rfl) ?_
      refine k_get E G wi_X12_readBounded_X12 0 (gM_0 _ _ _) rfl 21 rfl fl_X12_readBounded_X12_21 (v := .ref (a 15)) rfl dX12_readBounded_81 ?_
      refine lv_iload E.ex E.by dX12_readBounded_84 (lv_at hl 0 rfl) ?_
      refine lv_iload_n E.ex E.by dX12_readBounded_86 rfl (lv_at hl 3 rfl) ?_
      refine k_iast (fun z => (wM kc a z)) E G 15 (gM_15 _ _ _) 0 rfl h.1 (uA u14 10 (v5j67).toNatClampNeg v2j67) (sM_15 _ _ _ _) dX12_readBounded_87 (fun z15 ez15 H locs G => ?_)
      have h := h.2 z15 ez15
      refine lv_aload_n E.ex E.by dX12_readBounded_88 rfl (lv_at hl 4 rfl) ?_
      refine k_get E G wi_X12_readBounded_X12 0 (gM_0 _ _ _) rfl 22 rfl fl_X12_readBounded_X12_22 (v := .ref (a 16)) rfl dX12_readBounded_89 ?_
      refine lv_iload E.ex E.by dX12_readBounded_92 (lv_at hl 0 rfl) ?_
      refine lv_iload_n E.ex E.by dX12_readBounded_94 rfl (lv_at hl 2 rfl) ?_
      refine k_iast (fun z => (wM kc a z)) E G 16 (gM_16 _ _ _) 0 rfl h.1 (uA z15 11 (v5j67).toNatClampNeg v3j67) (sM_16 _ _ _ _) dX12_readBounded_95 (fun z16 ez16 H locs G => ?_)
      have h := h.2 z16 ez16
      refine lv_aload_n E.ex E.by dX12_readBounded_96 rfl (lv_at hl 4 rfl) ?_
      refine k_get E G wi_X12_readBounded_X12 0 (gM_0 _ _ _) rfl 23 rfl fl_X12_readBounded_X12_23 (v := .ref (a 17)) rfl dX12_readBounded_97 ?_
      refine lv_iload E.ex E.by dX12_readBounded_100 (lv_at hl 0 rfl) ?_
      refine lv_iload E.ex E.by dX12_readBounded_102 (lv_at hl 1 rfl) ?_
      refine k_iast (fun z => (wM kc a z)) E G 17 (gM_17 _ _ _) 0 rfl h.1 (uA z16 12 (v5j67).toNatClampNeg v4j67) (sM_17 _ _ _ _) dX12_readBounded_104 (fun z17 ez17 H locs G => ?_)
      have h := h.2 z17 ez17
      refine lv_iload E.ex E.by dX12_readBounded_105 (lv_at hl 0 rfl) ?_
      exact k_ret (wof := (fun u : US => (wM kc a u))) (u := z17) E G rfl h (Nat.le_of_ble_eq_true rfl) (Nat.le_of_ble_eq_true rfl) dX12_readBounded_107
  refine lv_aload_n E.ex E.by dX12_readBounded_0 rfl (lv_at hl 0 rfl) ?_
  refine lv_dup E.ex E.by dX12_readBounded_1 rfl ?_
  refine k_get E G wi_X12_readBounded_X12 0 (gM_0 _ _ _) rfl 31 rfl fl_X12_readBounded_X12_31 (v := .int (iI σ 6)) rfl dX12_readBounded_2 ?_
  refine lv_iconst (v := 1) E.ex E.by dX12_readBounded_5 (by decide) ?_
  refine lv_iadd E.ex E.by dX12_readBounded_6 ?_
  refine k_put (fun z => (wM kc a z)) E G wi_X12_readBounded_X12 tyX12_ok nmX12 0 (gM_0 _ _ _) rfl 31 rfl fl_X12_readBounded_X12_31 rfl rfl rfl rfl (uI σ 6 ((iI σ 6) + 1)) (pM_0_31 _ _ _ _) dX12_readBounded_7 (fun z1 ez1 H locs G => ?_)
  have h := h z1 ez1
  refine lv_aload_n E.ex E.by dX12_readBounded_10 rfl (lv_at hl 0 rfl) ?_
  refine k_cVv (X := []) (w := (wM kc a z1)) (Z := []) (wnew := (fun u : US => (wM kc a u))) (As := []) (rest := []) E (List.append_nil _).symm G (c_X12_readBound l D kc _ _ _ h) gX12_readBounded_X12_readBound rfl ⟨rfl, rfl⟩ hd_X12_readBound_v ⟨Nat.ble_eq_true_of_le (show 3 + 1 ≤ F + 4 by omega), Nat.ble_eq_true_of_le (show 8 + (2 + 11) + (63) ≤ L + 84 by omega)⟩ 0 (gM_0 _ _ _) rfl rfl hl rfl rfl dX12_readBounded_11 ⟨rfl, rfl⟩ (fun _ => (List.append_nil _).symm) (fun u2 hq H locs G => ?_)
  have h := hq
  refine lv_aload_n E.ex E.by dX12_readBounded_14 rfl (lv_at hl 0 rfl) ?_
  refine k_get E G wi_X12_readBounded_X12 0 (gM_0 _ _ _) rfl 34 rfl fl_X12_readBounded_X12_34 (v := .int (iI u2 9)) rfl dX12_readBounded_15 ?_
  refine lv_topi (fun x3 ex3 => ?_)
  have h := h x3 ex3
  refine lv_istore_n (lv' := [(2, .int x3), (0, .ref (a 0)), (1, .int p1)]) E.ex E.by dX12_readBounded_18 rfl hl (by decide) rfl (fun ls hl => ?_)
  refine lv_aload_n E.ex E.by dX12_readBounded_19 rfl (lv_at hl 1 rfl) ?_
  refine k_get E G wi_X12_readBounded_X12 0 (gM_0 _ _ _) rfl 35 rfl fl_X12_readBounded_X12_35 (v := .int (iI u2 10)) rfl dX12_readBounded_20 ?_
  refine lv_topi (fun x4 ex4 => ?_)
  have h := h x4 ex4
  refine lv_istore_n (lv' := [(3, .int x4), (2, .int x3), (0, .ref (a 0)), (1, .int p1)]) E.ex E.by dX12_readBounded_23 rfl hl (by decide) rfl (fun ls hl => ?_)
  refine lv_aload_n E.ex E.by dX12_readBounded_24 rfl (lv_at hl 2 rfl) ?_
  refine k_get E G wi_X12_readBounded_X12 0 (gM_0 _ _ _) rfl 36 rfl fl_X12_readBounded_X12_36 (v := .int (iI u2 11)) rfl dX12_readBounded_25 ?_
  refine lv_topi (fun x5 ex5 => ?_)
  have h := h x5 ex5
  refine lv_istore (lv' := [(4, .int x5), (3, .int x4), (2, .int x3), (0, .ref (a 0)), (1, .int p1)]) E.ex E.by dX12_readBounded_28 hl (by decide) rfl (fun ls hl => ?_)
  refine lv_aload_n E.ex E.by dX12_readBounded_30 rfl (lv_at hl 3 rfl) ?_
  refine lv_bipush (v := 91) E.ex E.by dX12_readBounded_31 (by decide) ?_
  refine k_cVv (X := []) (w := (wM kc a u2)) (Z := []) (wnew := (fun u : US => (wM kc a u))) (As := [.int 91]) (rest := []) E (List.append_nil _).symm G (c_X12_wants l D kc _ _ _ _ h) gX12_readBounded_X12_wants rfl ⟨rfl, rfl⟩ hd_X12_wants_v ⟨Nat.ble_eq_true_of_le (show 1 + 1 ≤ F + 4 by omega), Nat.ble_eq_true_of_le (show 8 + (2 + 11) + (20) ≤ L + 84 by omega)⟩ 0 (gM_0 _ _ _) rfl rfl hl rfl rfl dX12_readBounded_33 ⟨rfl, rfl⟩ (fun _ => (List.append_nil _).symm) (fun u6 hq H locs G => ?_)
  have h := hq
  refine lv_iload_n E.ex E.by dX12_readBounded_36 rfl (lv_at hl 4 rfl) ?_
  refine lv_bipush (v := 80) E.ex E.by dX12_readBounded_37 (by decide) ?_
  refine lv_icmp_ne (tgt := 51) E.ex E.by dX12_readBounded_39 (by decide) (fun hc13 => ?_) (fun hc13 => ?_)
  · have h := h.1 hc13
    refine lv_aload_n E.ex E.by dX12_readBounded_51 rfl (lv_at hl 3 rfl) ?_
    refine k_cVi (X := []) (w := (wM kc a u6)) (Z := []) (wnew := (fun u : US => (wM kc a u))) (As := []) (rest := []) E (List.append_nil _).symm G (HRF _ _ h) gX12_readBounded_X12_readFormula rfl ⟨rfl, rfl⟩ hd_X12_readFormula_v ⟨Nat.ble_eq_true_of_le (show F + 0 + 1 ≤ F + 4 by omega), Nat.ble_eq_true_of_le (show 8 + (4 + 11) + (L + 0) ≤ L + 84 by omega)⟩ 0 (gM_0 _ _ _) rfl rfl hl rfl rfl dX12_readBounded_52 ⟨rfl, rfl⟩ (fun _ => (List.append_nil _).symm) (fun r7 u8 hq H locs G => ?_)
    have h := hq
    refine lv_istore (lv' := [(5, .int r7), (4, .int x5), (3, .int x4), (2, .int x3), (0, .ref (a 0)), (1, .int p1)]) E.ex E.by dX12_readBounded_55 hl (by decide) rfl (fun ls hl => ?_)
    refine lv_aload_n E.ex E.by dX12_readBounded_57 rfl (lv_at hl 4 rfl) ?_
    refine lv_iload_n E.ex E.by dX12_readBounded_58 rfl (lv_at hl 5 rfl) ?_
    refine lv_iload E.ex E.by dX12_readBounded_59 (lv_at hl 0 rfl) ?_
    refine lv_iconst (v := 0) E.ex E.by dX12_readBounded_61 (by decide) ?_
    refine k_cVi (X := []) (w := (wM kc a u8)) (Z := []) (wnew := (fun u : US => (wM kc a u))) (As := [.int p1, .int r7, .int 0]) (rest := []) E (List.append_nil _).symm G (c_X12_node l D kc _ _ _ _ _ _ h) gX12_readBounded_X12_node rfl ⟨rfl, rfl⟩ hd_X12_node_v ⟨Nat.ble_eq_true_of_le (show 0 + 1 ≤ F + 4 by omega), Nat.ble_eq_true_of_le (show 8 + (4 + 11) + (0) ≤ L + 84 by omega)⟩ 0 (gM_0 _ _ _) rfl rfl hl rfl rfl dX12_readBounded_62 ⟨rfl, rfl⟩ (fun _ => (List.append_nil _).symm) (fun r9 u10 hq H locs G => ?_)
    have h := hq
    refine lv_istore (lv' := [(5, .int r9), (4, .int x5), (3, .int x4), (2, .int x3), (0, .ref (a 0)), (1, .int p1)]) E.ex E.by dX12_readBounded_65 hl (by decide) rfl (fun ls hl => ?_)
    exact K67 _ _ _ _ _ _ _ _ G (lv_sub hl [0, 1, 2, 3, 4] rfl) h
  · have h := h.2 hc13
    refine lv_aload_n E.ex E.by dX12_readBounded_42 rfl (lv_at hl 3 rfl) ?_
    refine k_cVi (X := []) (w := (wM kc a u6)) (Z := []) (wnew := (fun u : US => (wM kc a u))) (As := []) (rest := []) E (List.append_nil _).symm G (c_X12_readWay l D kc _ F L RF HRF _ _ h) gX12_readBounded_X12_readWay rfl ⟨rfl, rfl⟩ hd_X12_readWay_v ⟨Nat.ble_eq_true_of_le (show F + 2 + 1 ≤ F + 4 by omega), Nat.ble_eq_true_of_le (show 8 + (6 + 11) + (L + 41) ≤ L + 84 by omega)⟩ 0 (gM_0 _ _ _) rfl rfl hl rfl rfl dX12_readBounded_43 ⟨rfl, rfl⟩ (fun _ => (List.append_nil _).symm) (fun r11 u12 hq H locs G => ?_)
    have h := hq
    refine lv_istore (lv' := [(5, .int r11), (4, .int x5), (3, .int x4), (2, .int x3), (0, .ref (a 0)), (1, .int p1)]) E.ex E.by dX12_readBounded_46 hl (by decide) rfl (fun ls hl => ?_)
    refine lv_goto (tgt := 67) E.ex E.by dX12_readBounded_48 (by decide) ?_
    exact K67 _ _ _ _ _ _ _ _ G (lv_sub hl [0, 1, 2, 3, 4] rfl) h
theorem wi_X12_readNested_X12 : ∀ w ∈ wsX120, w ∈ wsX12_readNested := fun w h => List.mem_cons_of_mem _ (List.mem_append_right _ (h))
theorem fl_X12_readNested_X12_31 : Cond.fieldLink RX12 229 (TX12 31).1 (TX12 31).2.1 (TX12 31).2.2.1 ∈ wsX12_readNested := List.mem_of_getElem? (i := 1) (by decide +kernel)
theorem fl_X12_readNested_X12_33 : Cond.fieldLink RX12 235 (TX12 33).1 (TX12 33).2.1 (TX12 33).2.2.1 ∈ wsX12_readNested := List.mem_of_getElem? (i := 2) (by decide +kernel)
theorem hd_X12_readBounded_v : yX12_readBounded.cls = RX12 ∧ yX12_readBounded.cls ≠ "java/lang/invoke/MethodHandle" ∧ yX12_readBounded.cls ≠ "java/lang/invoke/VarHandle" ∧ (parseMethodDescriptor yX12_readBounded.desc).map (fun d => d.parameters.length) = some 1 := by decide +kernel
def wp_X12_readNested_J79 (RF : US → (Int32 → US → Prop) → Prop) (v3j79 : Int32) (v2j79 : Int32) (σ'j79 : US) (Q : Int32 → US → Prop) : Prop := wp_X12_wants v3j79 σ'j79 (fun (u5 : US) => RF u5 (fun (r6 : Int32) (u7 : US) => wp_X12_wants 41 u7 (fun (u8 : US) => wp_X12_node v3j79 v2j79 r6 u8 (fun (r9 : Int32) (u10 : US) => Q r9 u10))))
def wp_X12_readNested (RF : US → (Int32 → US → Prop) → Prop) (p1 : Int32) (σ : US) (Q : Int32 → US → Prop) : Prop := (¬ p1 = 33 → (p1 = 40 → (∀ z1 : US, z1 = uI σ 6 ((iI σ 6) + 1) → RF z1 (fun (r2 : Int32) (u3 : US) => wp_X12_here u3 (fun (r4 : Int32) => (r4 = 38 → wp_X12_readNested_J79 RF r4 r2 u3 Q) ∧ (¬ r4 = 38 → (r4 = 124 → wp_X12_readNested_J79 RF r4 r2 u3 Q) ∧ (¬ r4 = 124 → (∀ z11 : US, z11 = uI u3 8 1 → wp_X12_readNested_J79 RF r4 r2 z11 Q))))))) ∧ (¬ p1 = 40 → wp_X12_readBounded RF p1 σ (fun (r14 : Int32) (u15 : US) => Q r14 u15))) ∧ (p1 = 33 → (∀ z17 : US, z17 = uI σ 6 ((iI σ 6) + 1) → RF z17 (fun (r18 : Int32) (u19 : US) => wp_X12_node 33 r18 0 u19 (fun (r20 : Int32) (u21 : US) => Q r20 u21))))
set_option maxRecDepth 100000 in
set_option maxHeartbeats 4000000 in
theorem c_X12_readNested (l : Launch) (D : va_G) (kc : Nat → ClassId) (a : Nat → Nat) (F L : Nat) (RF : US → (Int32 → US → Prop) → Prop) (HRF : ∀ (σ0 : US) (Q0 : Int32 → US → Prop), RF σ0 Q0 → kCi l D (tyL kc) yX12_readFormula wsX12_readFormula ({ frames := F, cells := 0, slots := 0, locals := L } : Room) [.ref (a 0)] (wM kc a σ0) (fun u : US => (wM kc a u)) 0 0 (fun r u => Q0 r u)) (p1 : Int32) (σ : US) (Q : Int32 → US → Prop) (h : wp_X12_readNested RF p1 σ Q) : kCi l D (tyL kc) yX12_readNested wsX12_readNested ({ frames := F + 5, cells := 0, slots := 0, locals := L + 109 } : Room) [.ref (a 0), .int p1] (wM kc a σ) (fun u : US => (wM kc a u)) 0 0 (fun r u => Q r u) := by
  intro sz
  refine k_begin (cc := cX12_readNested) (maxL := 5) (ret := (some .int)) (by decide +kernel) rfl rfl (fun p e s m args below meth c hsz E G ls hl => ?_)
  subst hsz
  have hl : lv_has ls 5 [(0, .ref (a 0)), (1, .int p1)] := hl
  have K79 : ∀ (v3j79 : Int32) (v2j79 : Int32) (σ'j79 : US) (H : Heap) (locs : List Loc) (ls : Array Slot), kG D (va_A (wM kc a σ) s.heap.size) s (wM kc a σ'j79) H locs → lv_has ls 5 [(3, .int v3j79), (2, .int v2j79), (0, .ref (a 0))] → wp_X12_readNested_J79 RF v3j79 v2j79 σ'j79 Q → W p l e ({ frames := F + 5, cells := 0, slots := 0, locals := L + 109 } : Room) s m args below meth c H locs 0 0 (MQ below (va_Qi (fun r u => Q r u) (kB D (wM kc a σ) s.heap.size (fun u : US => (wM kc a u))) (va_A (wM kc a σ) s.heap.size)) args s 0 0 (va_A (wM kc a σ) s.heap.size)) (F0 m 79 ls []) := by
    intro v3j79 v2j79 σ'j79 H locs ls G hl h
    refine lv_aload_n E.ex E.by dX12_readNested_79 rfl (lv_at hl 2 rfl) ?_
    refine lv_iload_n E.ex E.by dX12_readNested_80 rfl (lv_at hl 0 rfl) ?_
    refine k_cVv (X := []) (w := (wM kc a σ'j79)) (Z := []) (wnew := (fun u : US => (wM kc a u))) (As := [.int v3j79]) (rest := []) E (List.append_nil _).symm G (c_X12_wants l D kc _ _ _ _ h) gX12_readNested_X12_wants rfl ⟨rfl, rfl⟩ hd_X12_wants_v ⟨Nat.ble_eq_true_of_le (show 1 + 1 ≤ F + 5 by omega), Nat.ble_eq_true_of_le (show 8 + (2 + 11) + (20) ≤ L + 109 by omega)⟩ 0 (gM_0 _ _ _) rfl rfl hl rfl rfl dX12_readNested_81 ⟨rfl, rfl⟩ (fun _ => (List.append_nil _).symm) (fun u17 hq H locs G => ?_)
    have h := hq
    refine lv_aload_n E.ex E.by dX12_readNested_84 rfl (lv_at hl 2 rfl) ?_
    refine k_cVi (X := []) (w := (wM kc a u17)) (Z := []) (wnew := (fun u : US => (wM kc a u))) (As := []) (rest := []) E (List.append_nil _).symm G (HRF _ _ h) gX12_readNested_X12_readFormula rfl ⟨rfl, rfl⟩ hd_X12_readFormula_v ⟨Nat.ble_eq_true_of_le (show F + 0 + 1 ≤ F + 5 by omega), Nat.ble_eq_true_of_le (show 8 + (4 + 11) + (L + 0) ≤ L + 109 by omega)⟩ 0 (gM_0 _ _ _) rfl rfl hl rfl rfl dX12_readNested_85 ⟨rfl, rfl⟩ (fun _ => (List.append_nil _).symm) (fun r18 u19 hq H locs G => ?_)
    have h := hq
    refine lv_istore (lv' := [(4, .int r18), (3, .int v3j79), (2, .int v2j79), (0, .ref (a 0))]) E.ex E.by dX12_readNested_88 hl (by decide) rfl (fun ls hl => ?_)
    refine lv_aload_n E.ex E.by dX12_readNested_90 rfl (lv_at hl 3 rfl) ?_
    refine lv_bipush (v := 41) E.ex E.by dX12_readNested_91 (by decide) ?_
    refine k_cVv (X := []) (w := (wM kc a u19)) (Z := []) (wnew := (fun u : US => (wM kc a u))) (As := [.int 41]) (rest := []) E (List.append_nil _).symm G (c_X12_wants l D kc _ _ _ _ h) gX12_readNested_X12_wants rfl ⟨rfl, rfl⟩ hd_X12_wants_v ⟨Nat.ble_eq_true_of_le (show 1 + 1 ≤ F + 5 by omega), Nat.ble_eq_true_of_le (show 8 + (2 + 11) + (20) ≤ L + 109 by omega)⟩ 0 (gM_0 _ _ _) rfl rfl hl rfl rfl dX12_readNested_93 ⟨rfl, rfl⟩ (fun _ => (List.append_nil _).symm) (fun u20 hq H locs G => ?_)
    have h := hq
    refine lv_aload_n E.ex E.by dX12_readNested_96 rfl (lv_at hl 3 rfl) ?_
    refine lv_iload_n E.ex E.by dX12_readNested_97 rfl (lv_at hl 1 rfl) ?_
    refine lv_iload_n E.ex E.by dX12_readNested_98 rfl (lv_at hl 2 rfl) ?_
    refine lv_iload E.ex E.by dX12_readNested_99 (lv_at hl 0 rfl) ?_
    refine k_cVi (X := []) (w := (wM kc a u20)) (Z := []) (wnew := (fun u : US => (wM kc a u))) (As := [.int v3j79, .int v2j79, .int r18]) (rest := []) E (List.append_nil _).symm G (c_X12_node l D kc _ _ _ _ _ _ h) gX12_readNested_X12_node rfl ⟨rfl, rfl⟩ hd_X12_node_v ⟨Nat.ble_eq_true_of_le (show 0 + 1 ≤ F + 5 by omega), Nat.ble_eq_true_of_le (show 8 + (4 + 11) + (0) ≤ L + 109 by omega)⟩ 0 (gM_0 _ _ _) rfl rfl hl rfl rfl dX12_readNested_101 ⟨rfl, rfl⟩ (fun _ => (List.append_nil _).symm) (fun r21 u22 hq H locs G => ?_)
    have h := hq
    exact k_ret (wof := (fun u : US => (wM kc a u))) (u := u22) E G rfl h (Nat.le_of_ble_eq_true rfl) (Nat.le_of_ble_eq_true rfl) dX12_readNested_104
  refine lv_iload_n E.ex E.by dX12_readNested_0 rfl (lv_at hl 1 rfl) ?_
  refine lv_bipush (v := 33) E.ex E.by dX12_readNested_1 (by decide) ?_
  refine lv_icmp_ne (tgt := 30) E.ex E.by dX12_readNested_3 (by decide) (fun hc16 => ?_) (fun hc16 => ?_)
  · have h := h.1 hc16
    refine lv_iload_n E.ex E.by dX12_readNested_30 rfl (lv_at hl 1 rfl) ?_
    refine lv_bipush (v := 40) E.ex E.by dX12_readNested_31 (by decide) ?_
    refine lv_icmp_eq (tgt := 42) E.ex E.by dX12_readNested_33 (by decide) (fun hc10 => ?_) (fun hc10 => ?_)
    · have h := h.1 hc10
      refine lv_aload_n E.ex E.by dX12_readNested_42 rfl (lv_at hl 0 rfl) ?_
      refine lv_dup E.ex E.by dX12_readNested_43 rfl ?_
      refine k_get E G wi_X12_readNested_X12 0 (gM_0 _ _ _) rfl 31 rfl fl_X12_readNested_X12_31 (v := .int (iI σ 6)) rfl dX12_readNested_44 ?_
      refine lv_iconst (v := 1) E.ex E.by dX12_readNested_47 (by decide) ?_
      refine lv_iadd E.ex E.by dX12_readNested_48 ?_
      refine k_put (fun z => (wM kc a z)) E G wi_X12_readNested_X12 tyX12_ok nmX12 0 (gM_0 _ _ _) rfl 31 rfl fl_X12_readNested_X12_31 rfl rfl rfl rfl (uI σ 6 ((iI σ 6) + 1)) (pM_0_31 _ _ _ _) dX12_readNested_49 (fun z1 ez1 H locs G => ?_)
      have h := h z1 ez1
      refine lv_aload_n E.ex E.by dX12_readNested_52 rfl (lv_at hl 0 rfl) ?_
      refine k_cVi (X := []) (w := (wM kc a z1)) (Z := []) (wnew := (fun u : US => (wM kc a u))) (As := []) (rest := []) E (List.append_nil _).symm G (HRF _ _ h) gX12_readNested_X12_readFormula rfl ⟨rfl, rfl⟩ hd_X12_readFormula_v ⟨Nat.ble_eq_true_of_le (show F + 0 + 1 ≤ F + 5 by omega), Nat.ble_eq_true_of_le (show 8 + (4 + 11) + (L + 0) ≤ L + 109 by omega)⟩ 0 (gM_0 _ _ _) rfl rfl hl rfl rfl dX12_readNested_53 ⟨rfl, rfl⟩ (fun _ => (List.append_nil _).symm) (fun r2 u3 hq H locs G => ?_)
      have h := hq
      refine lv_istore_n (lv' := [(2, .int r2), (0, .ref (a 0)), (1, .int p1)]) E.ex E.by dX12_readNested_56 rfl hl (by decide) rfl (fun ls hl => ?_)
      refine lv_aload_n E.ex E.by dX12_readNested_57 rfl (lv_at hl 1 rfl) ?_
      refine k_cVi (X := []) (w := (wM kc a u3)) (Z := []) (wnew := (fun _ : Unit => (wM kc a u3))) (As := []) (rest := []) E (List.append_nil _).symm G (c_X12_here l D kc _ _ _ h) gX12_readNested_X12_here rfl ⟨rfl, rfl⟩ hd_X12_here_v ⟨Nat.ble_eq_true_of_le (show 0 + 1 ≤ F + 5 by omega), Nat.ble_eq_true_of_le (show 8 + (1 + 11) + (0) ≤ L + 109 by omega)⟩ 0 (gM_0 _ _ _) rfl rfl hl rfl rfl dX12_readNested_58 ⟨rfl, rfl⟩ (fun _ => (List.append_nil _).symm) (fun r4 _u58 hq H locs G => ?_)
      have h := hq
      refine lv_istore_n (lv' := [(3, .int r4), (2, .int r2), (0, .ref (a 0)), (1, .int p1)]) E.ex E.by dX12_readNested_61 rfl hl (by decide) rfl (fun ls hl => ?_)
      refine lv_iload_n E.ex E.by dX12_readNested_62 rfl (lv_at hl 0 rfl) ?_
      refine lv_bipush (v := 38) E.ex E.by dX12_readNested_63 (by decide) ?_
      refine lv_icmp_eq (tgt := 79) E.ex E.by dX12_readNested_65 (by decide) (fun hc7 => ?_) (fun hc7 => ?_)
      · have h := h.1 hc7
        exact K79 _ _ _ _ _ _ G (lv_sub hl [0, 1, 2] rfl) h
      · have h := h.2 hc7
        refine lv_iload_n E.ex E.by dX12_readNested_68 rfl (lv_at hl 0 rfl) ?_
        refine lv_bipush (v := 124) E.ex E.by dX12_readNested_69 (by decide) ?_
        refine lv_icmp_eq (tgt := 79) E.ex E.by dX12_readNested_71 (by decide) (fun hc6 => ?_) (fun hc6 => ?_)
        · have h := h.1 hc6
          exact K79 _ _ _ _ _ _ G (lv_sub hl [0, 1, 2] rfl) h
        · have h := h.2 hc6
          refine lv_aload_n E.ex E.by dX12_readNested_74 rfl (lv_at hl 2 rfl) ?_
          refine lv_iconst (v := 1) E.ex E.by dX12_readNested_75 (by decide) ?_
          refine k_put (fun z => (wM kc a z)) E G wi_X12_readNested_X12 tyX12_ok nmX12 0 (gM_0 _ _ _) rfl 33 rfl fl_X12_readNested_X12_33 rfl rfl rfl rfl (uI u3 8 1) (pM_0_33 _ _ _ _) dX12_readNested_76 (fun z5 ez5 H locs G => ?_)
          have h := h z5 ez5
          exact K79 _ _ _ _ _ _ G (lv_sub hl [0, 1, 2] rfl) h
    · have h := h.2 hc10
      refine lv_aload_n E.ex E.by dX12_readNested_36 rfl (lv_at hl 0 rfl) ?_
      refine lv_iload_n E.ex E.by dX12_readNested_37 rfl (lv_at hl 1 rfl) ?_
      refine k_cVi (X := []) (w := (wM kc a σ)) (Z := []) (wnew := (fun u : US => (wM kc a u))) (As := [.int p1]) (rest := []) E (List.append_nil _).symm G (c_X12_readBounded l D kc _ F L RF HRF _ _ _ h) gX12_readNested_X12_readBounded rfl ⟨rfl, rfl⟩ hd_X12_readBounded_v ⟨Nat.ble_eq_true_of_le (show F + 4 + 1 ≤ F + 5 by omega), Nat.ble_eq_true_of_le (show 8 + (6 + 11) + (L + 84) ≤ L + 109 by omega)⟩ 0 (gM_0 _ _ _) rfl rfl hl rfl rfl dX12_readNested_38 ⟨rfl, rfl⟩ (fun _ => (List.append_nil _).symm) (fun r8 u9 hq H locs G => ?_)
      have h := hq
      exact k_ret (wof := (fun u : US => (wM kc a u))) (u := u9) E G rfl h (Nat.le_of_ble_eq_true rfl) (Nat.le_of_ble_eq_true rfl) dX12_readNested_41
  · have h := h.2 hc16
    refine lv_aload_n E.ex E.by dX12_readNested_6 rfl (lv_at hl 0 rfl) ?_
    refine lv_dup E.ex E.by dX12_readNested_7 rfl ?_
    refine k_get E G wi_X12_readNested_X12 0 (gM_0 _ _ _) rfl 31 rfl fl_X12_readNested_X12_31 (v := .int (iI σ 6)) rfl dX12_readNested_8 ?_
    refine lv_iconst (v := 1) E.ex E.by dX12_readNested_11 (by decide) ?_
    refine lv_iadd E.ex E.by dX12_readNested_12 ?_
    refine k_put (fun z => (wM kc a z)) E G wi_X12_readNested_X12 tyX12_ok nmX12 0 (gM_0 _ _ _) rfl 31 rfl fl_X12_readNested_X12_31 rfl rfl rfl rfl (uI σ 6 ((iI σ 6) + 1)) (pM_0_31 _ _ _ _) dX12_readNested_13 (fun z11 ez11 H locs G => ?_)
    have h := h z11 ez11
    refine lv_aload_n E.ex E.by dX12_readNested_16 rfl (lv_at hl 0 rfl) ?_
    refine k_cVi (X := []) (w := (wM kc a z11)) (Z := []) (wnew := (fun u : US => (wM kc a u))) (As := []) (rest := []) E (List.append_nil _).symm G (HRF _ _ h) gX12_readNested_X12_readFormula rfl ⟨rfl, rfl⟩ hd_X12_readFormula_v ⟨Nat.ble_eq_true_of_le (show F + 0 + 1 ≤ F + 5 by omega), Nat.ble_eq_true_of_le (show 8 + (4 + 11) + (L + 0) ≤ L + 109 by omega)⟩ 0 (gM_0 _ _ _) rfl rfl hl rfl rfl dX12_readNested_17 ⟨rfl, rfl⟩ (fun _ => (List.append_nil _).symm) (fun r12 u13 hq H locs G => ?_)
    have h := hq
    refine lv_istore_n (lv' := [(2, .int r12), (0, .ref (a 0)), (1, .int p1)]) E.ex E.by dX12_readNested_20 rfl hl (by decide) rfl (fun ls hl => ?_)
    refine lv_aload_n E.ex E.by dX12_readNested_21 rfl (lv_at hl 1 rfl) ?_
    refine lv_bipush (v := 33) E.ex E.by dX12_readNested_22 (by decide) ?_
    refine lv_iload_n E.ex E.by dX12_readNested_24 rfl (lv_at hl 0 rfl) ?_
    refine lv_iconst (v := 0) E.ex E.by dX12_readNested_25 (by decide) ?_
    refine k_cVi (X := []) (w := (wM kc a u13)) (Z := []) (wnew := (fun u : US => (wM kc a u))) (As := [.int 33, .int r12, .int 0]) (rest := []) E (List.append_nil _).symm G (c_X12_node l D kc _ _ _ _ _ _ h) gX12_readNested_X12_node rfl ⟨rfl, rfl⟩ hd_X12_node_v ⟨Nat.ble_eq_true_of_le (show 0 + 1 ≤ F + 5 by omega), Nat.ble_eq_true_of_le (show 8 + (4 + 11) + (0) ≤ L + 109 by omega)⟩ 0 (gM_0 _ _ _) rfl rfl hl rfl rfl dX12_readNested_26 ⟨rfl, rfl⟩ (fun _ => (List.append_nil _).symm) (fun r14 u15 hq H locs G => ?_)
    have h := hq
    exact k_ret (wof := (fun u : US => (wM kc a u))) (u := u15) E G rfl h (Nat.le_of_ble_eq_true rfl) (Nat.le_of_ble_eq_true rfl) dX12_readNested_29
theorem wi_X12_readFormula_X12 : ∀ w ∈ wsX120, w ∈ wsX12_readFormula := fun w h => List.mem_cons_of_mem _ (List.mem_append_right _ (h))
theorem fl_X12_readFormula_X12_33 : Cond.fieldLink RX12 235 (TX12 33).1 (TX12 33).2.1 (TX12 33).2.2.1 ∈ wsX12_readFormula := List.mem_of_getElem? (i := 1) (by decide +kernel)
theorem fl_X12_readFormula_X12_31 : Cond.fieldLink RX12 229 (TX12 31).1 (TX12 31).2.1 (TX12 31).2.2.1 ∈ wsX12_readFormula := List.mem_of_getElem? (i := 2) (by decide +kernel)
theorem fl_X12_readFormula_X12_20 : Cond.fieldLink RX12 50 (TX12 20).1 (TX12 20).2.1 (TX12 20).2.2.1 ∈ wsX12_readFormula := List.mem_of_getElem? (i := 3) (by decide +kernel)
theorem fl_X12_readFormula_X12_32 : Cond.fieldLink RX12 276 (TX12 32).1 (TX12 32).2.1 (TX12 32).2.2.1 ∈ wsX12_readFormula := List.mem_of_getElem? (i := 4) (by decide +kernel)
theorem hd_X12_readNested_v : yX12_readNested.cls = RX12 ∧ yX12_readNested.cls ≠ "java/lang/invoke/MethodHandle" ∧ yX12_readNested.cls ≠ "java/lang/invoke/VarHandle" ∧ (parseMethodDescriptor yX12_readNested.desc).map (fun d => d.parameters.length) = some 1 := by decide +kernel
def wp_X12_readFormula_J55 (RF : US → (Int32 → US → Prop) → Prop) (v1j55 : Int32) (σ'j55 : US) (s0j55 : Int32) (Q : Int32 → US → Prop) : Prop := wp_X12_node s0j55 0 0 σ'j55 (fun (r3 : Int32) (u4 : US) => (¬ v1j55 = 116 → vp_in r3 300 ∧ (∀ z5 : US, z5 = uA u4 9 (r3).toNatClampNeg (v1j55 - 97) → Q r3 z5)) ∧ (v1j55 = 116 → vp_in r3 300 ∧ (∀ z6 : US, z6 = uA u4 9 (r3).toNatClampNeg 0 → Q r3 z6)))
def wp_X12_readFormula_J31 (RF : US → (Int32 → US → Prop) → Prop) (v1j31 : Int32) (σ'j31 : US) (Q : Int32 → US → Prop) : Prop := (∀ z2 : US, z2 = uI σ'j31 6 ((iI σ'j31 6) + 1) → (¬ v1j31 = 116 → wp_X12_readFormula_J55 RF v1j31 z2 97 Q) ∧ (v1j31 = 116 → wp_X12_readFormula_J55 RF v1j31 z2 116 Q))
def wp_X12_readFormula_J118 (RF : US → (Int32 → US → Prop) → Prop) (v1j118 : Int32) (σ'j118 : US) (s0j118 : Int32) (Q : Int32 → US → Prop) : Prop := (s0j118 = 0 → (∀ z10 : US, z10 = uI σ'j118 8 1 → Q 0 z10)) ∧ (¬ s0j118 = 0 → (¬ (iI σ'j118 7) = 5 → (∀ z11 : US, z11 = uI σ'j118 7 ((iI σ'j118 7) + 1) → wp_X12_readNested RF v1j118 z11 (fun (r12 : Int32) (u13 : US) => (∀ z14 : US, z14 = uI u13 7 ((iI u13 7) - 1) → Q r12 z14)))) ∧ ((iI σ'j118 7) = 5 → (∀ z15 : US, z15 = uI σ'j118 8 1 → Q 0 z15)))
def wp_X12_readFormula_J113 (RF : US → (Int32 → US → Prop) → Prop) (v1j113 : Int32) (σ'j113 : US) (Q : Int32 → US → Prop) : Prop := wp_X12_readFormula_J118 RF v1j113 σ'j113 1 Q
def wp_X12_readFormula_B (RF : US → (Int32 → US → Prop) → Prop) (σ : US) (Q : Int32 → US → Prop) : Prop := ((iI σ 8) = 0 → wp_X12_here σ (fun (r1 : Int32) => (r1 = 116 → wp_X12_readFormula_J31 RF r1 σ Q) ∧ (¬ r1 = 116 → wp_X12_in r1 97 100 (fun (r9 : Int32) => (r9 = 0 → (r1 = 33 → wp_X12_readFormula_J113 RF r1 σ Q) ∧ (¬ r1 = 33 → (r1 = 40 → wp_X12_readFormula_J113 RF r1 σ Q) ∧ (¬ r1 = 40 → (r1 = 80 → wp_X12_readFormula_J113 RF r1 σ Q) ∧ (¬ r1 = 80 → (r1 = 83 → wp_X12_readFormula_J113 RF r1 σ Q) ∧ (¬ r1 = 83 → (¬ r1 = 82 → wp_X12_readFormula_J118 RF r1 σ 0 Q) ∧ (r1 = 82 → wp_X12_readFormula_J113 RF r1 σ Q)))))) ∧ (¬ r9 = 0 → wp_X12_readFormula_J31 RF r1 σ Q))))) ∧ (¬ (iI σ 8) = 0 → Q 0 σ)
set_option maxRecDepth 100000 in
set_option maxHeartbeats 4000000 in
theorem c_X12_readFormula_B (l : Launch) (D : va_G) (kc : Nat → ClassId) (a : Nat → Nat) (F L : Nat) (RF : US → (Int32 → US → Prop) → Prop) (HRF : ∀ (σ0 : US) (Q0 : Int32 → US → Prop), RF σ0 Q0 → kCi l D (tyL kc) yX12_readFormula wsX12_readFormula ({ frames := F, cells := 0, slots := 0, locals := L } : Room) [.ref (a 0)] (wM kc a σ0) (fun u : US => (wM kc a u)) 0 0 (fun r u => Q0 r u)) (σ : US) (Q : Int32 → US → Prop) (h : wp_X12_readFormula_B RF σ Q) : kCi l D (tyL kc) yX12_readFormula wsX12_readFormula ({ frames := F + 6, cells := 0, slots := 0, locals := L + 133 } : Room) [.ref (a 0)] (wM kc a σ) (fun u : US => (wM kc a u)) 0 0 (fun r u => Q r u) := by
  intro sz
  refine k_begin (cc := cX12_readFormula) (maxL := 4) (ret := (some .int)) (by decide +kernel) rfl rfl (fun p e s m args below meth c hsz E G ls hl => ?_)
  subst hsz
  have hl : lv_has ls 4 [(0, .ref (a 0))] := hl
  have K55 : ∀ (v1j55 : Int32) (σ'j55 : US) (s0j55 : Int32) (H : Heap) (locs : List Loc) (ls : Array Slot), kG D (va_A (wM kc a σ) s.heap.size) s (wM kc a σ'j55) H locs → lv_has ls 4 [(1, .int v1j55), (0, .ref (a 0))] → wp_X12_readFormula_J55 RF v1j55 σ'j55 s0j55 Q → W p l e ({ frames := F + 6, cells := 0, slots := 0, locals := L + 133 } : Room) s m args below meth c H locs 0 0 (MQ below (va_Qi (fun r u => Q r u) (kB D (wM kc a σ) s.heap.size (fun u : US => (wM kc a u))) (va_A (wM kc a σ) s.heap.size)) args s 0 0 (va_A (wM kc a σ) s.heap.size)) (F0 m 55 ls [.int s0j55, .ref (a 0)]) := by
    intro v1j55 σ'j55 s0j55 H locs ls G hl h
    refine lv_iconst (v := 0) E.ex E.by dX12_readFormula_55 (by decide) ?_
    refine lv_iconst (v := 0) E.ex E.by dX12_readFormula_56 (by decide) ?_
    refine k_cVi (X := []) (w := (wM kc a σ'j55)) (Z := []) (wnew := (fun u : US => (wM kc a u))) (As := [.int s0j55, .int 0, .int 0]) (rest := []) E (List.append_nil _).symm G (c_X12_node l D kc _ _ _ _ _ _ h) gX12_readFormula_X12_node rfl ⟨rfl, rfl⟩ hd_X12_node_v ⟨Nat.ble_eq_true_of_le (show 0 + 1 ≤ F + 6 by omega), Nat.ble_eq_true_of_le (show 8 + (4 + 11) + (0) ≤ L + 133 by omega)⟩ 0 (gM_0 _ _ _) rfl rfl hl rfl rfl dX12_readFormula_57 ⟨rfl, rfl⟩ (fun _ => (List.append_nil _).symm) (fun r13 u14 hq H locs G => ?_)
    have h := hq
    refine lv_istore_n (lv' := [(2, .int r13), (1, .int v1j55), (0, .ref (a 0))]) E.ex E.by dX12_readFormula_60 rfl hl (by decide) rfl (fun ls hl => ?_)
    refine lv_aload_n E.ex E.by dX12_readFormula_61 rfl (lv_at hl 2 rfl) ?_
    refine k_get E G wi_X12_readFormula_X12 0 (gM_0 _ _ _) rfl 20 rfl fl_X12_readFormula_X12_20 (v := .ref (a 14)) rfl dX12_readFormula_62 ?_
    refine lv_iload_n E.ex E.by dX12_readFormula_65 rfl (lv_at hl 0 rfl) ?_
    refine lv_iload_n E.ex E.by dX12_readFormula_66 rfl (lv_at hl 1 rfl) ?_
    refine lv_bipush (v := 116) E.ex E.by dX12_readFormula_67 (by decide) ?_
    refine lv_icmp_ne (tgt := 76) E.ex E.by dX12_readFormula_69 (by decide) (fun hc17 => ?_) (fun hc17 => ?_)
    · have h := h.1 hc17
      refine lv_iload_n E.ex E.by dX12_readFormula_76 rfl (lv_at hl 1 rfl) ?_
      refine lv_bipush (v := 97) E.ex E.by dX12_readFormula_77 (by decide) ?_
      refine lv_isub E.ex E.by dX12_readFormula_79 ?_
      refine k_iast (fun z => (wM kc a z)) E G 14 (gM_14 _ _ _) 0 rfl h.1 (uA u14 9 (r13).toNatClampNeg (v1j55 - 97)) (sM_14 _ _ _ _) dX12_readFormula_80 (fun z15 ez15 H locs G => ?_)
      have h := h.2 z15 ez15
      refine lv_iload_n E.ex E.by dX12_readFormula_81 rfl (lv_at hl 0 rfl) ?_
      exact k_ret (wof := (fun u : US => (wM kc a u))) (u := z15) E G rfl h (Nat.le_of_ble_eq_true rfl) (Nat.le_of_ble_eq_true rfl) dX12_readFormula_82
    · have h := h.2 hc17
      refine lv_iconst (v := 0) E.ex E.by dX12_readFormula_72 (by decide) ?_
      refine lv_goto (tgt := 80) E.ex E.by dX12_readFormula_73 (by decide) ?_
      refine k_iast (fun z => (wM kc a z)) E G 14 (gM_14 _ _ _) 0 rfl h.1 (uA u14 9 (r13).toNatClampNeg 0) (sM_14 _ _ _ _) dX12_readFormula_80 (fun z16 ez16 H locs G => ?_)
      have h := h.2 z16 ez16
      refine lv_iload_n E.ex E.by dX12_readFormula_81 rfl (lv_at hl 0 rfl) ?_
      exact k_ret (wof := (fun u : US => (wM kc a u))) (u := z16) E G rfl h (Nat.le_of_ble_eq_true rfl) (Nat.le_of_ble_eq_true rfl) dX12_readFormula_82
  have K31 : ∀ (v1j31 : Int32) (σ'j31 : US) (H : Heap) (locs : List Loc) (ls : Array Slot), kG D (va_A (wM kc a σ) s.heap.size) s (wM kc a σ'j31) H locs → lv_has ls 4 [(1, .int v1j31), (0, .ref (a 0))] → wp_X12_readFormula_J31 RF v1j31 σ'j31 Q → W p l e ({ frames := F + 6, cells := 0, slots := 0, locals := L + 133 } : Room) s m args below meth c H locs 0 0 (MQ below (va_Qi (fun r u => Q r u) (kB D (wM kc a σ) s.heap.size (fun u : US => (wM kc a u))) (va_A (wM kc a σ) s.heap.size)) args s 0 0 (va_A (wM kc a σ) s.heap.size)) (F0 m 31 ls []) := by
    intro v1j31 σ'j31 H locs ls G hl h
    refine lv_aload_n E.ex E.by dX12_readFormula_31 rfl (lv_at hl 1 rfl) ?_
    refine lv_dup E.ex E.by dX12_readFormula_32 rfl ?_
    refine k_get E G wi_X12_readFormula_X12 0 (gM_0 _ _ _) rfl 31 rfl fl_X12_readFormula_X12_31 (v := .int (iI σ'j31 6)) rfl dX12_readFormula_33 ?_
    refine lv_iconst (v := 1) E.ex E.by dX12_readFormula_36 (by decide) ?_
    refine lv_iadd E.ex E.by dX12_readFormula_37 ?_
    refine k_put (fun z => (wM kc a z)) E G wi_X12_readFormula_X12 tyX12_ok nmX12 0 (gM_0 _ _ _) rfl 31 rfl fl_X12_readFormula_X12_31 rfl rfl rfl rfl (uI σ'j31 6 ((iI σ'j31 6) + 1)) (pM_0_31 _ _ _ _) dX12_readFormula_38 (fun z11 ez11 H locs G => ?_)
    have h := h z11 ez11
    refine lv_aload_n E.ex E.by dX12_readFormula_41 rfl (lv_at hl 1 rfl) ?_
    refine lv_iload_n E.ex E.by dX12_readFormula_42 rfl (lv_at hl 0 rfl) ?_
    refine lv_bipush (v := 116) E.ex E.by dX12_readFormula_43 (by decide) ?_
    refine lv_icmp_ne (tgt := 53) E.ex E.by dX12_readFormula_45 (by decide) (fun hc12 => ?_) (fun hc12 => ?_)
    · have h := h.1 hc12
      refine lv_bipush (v := 97) E.ex E.by dX12_readFormula_53 (by decide) ?_
      exact K55 _ _ _ _ _ _ G (lv_sub hl [0, 1] rfl) h
    · have h := h.2 hc12
      refine lv_bipush (v := 116) E.ex E.by dX12_readFormula_48 (by decide) ?_
      refine lv_goto (tgt := 55) E.ex E.by dX12_readFormula_50 (by decide) ?_
      exact K55 _ _ _ _ _ _ G (lv_sub hl [0, 1] rfl) h
  have K118 : ∀ (v1j118 : Int32) (σ'j118 : US) (s0j118 : Int32) (H : Heap) (locs : List Loc) (ls : Array Slot), kG D (va_A (wM kc a σ) s.heap.size) s (wM kc a σ'j118) H locs → lv_has ls 4 [(1, .int v1j118), (0, .ref (a 0))] → wp_X12_readFormula_J118 RF v1j118 σ'j118 s0j118 Q → W p l e ({ frames := F + 6, cells := 0, slots := 0, locals := L + 133 } : Room) s m args below meth c H locs 0 0 (MQ below (va_Qi (fun r u => Q r u) (kB D (wM kc a σ) s.heap.size (fun u : US => (wM kc a u))) (va_A (wM kc a σ) s.heap.size)) args s 0 0 (va_A (wM kc a σ) s.heap.size)) (F0 m 118 ls [.int s0j118]) := by
    intro v1j118 σ'j118 s0j118 H locs ls G hl h
    refine lv_istore_n (lv' := [(2, .int s0j118), (1, .int v1j118), (0, .ref (a 0))]) E.ex E.by dX12_readFormula_118 rfl hl (by decide) rfl (fun ls hl => ?_)
    refine lv_iload_n E.ex E.by dX12_readFormula_119 rfl (lv_at hl 0 rfl) ?_
    refine lv_if_eq (tgt := 131) E.ex E.by dX12_readFormula_120 (by decide) (fun hc25 => ?_) (fun hc25 => ?_)
    · have h := h.1 hc25
      refine lv_aload_n E.ex E.by dX12_readFormula_131 rfl (lv_at hl 2 rfl) ?_
      refine lv_iconst (v := 1) E.ex E.by dX12_readFormula_132 (by decide) ?_
      refine k_put (fun z => (wM kc a z)) E G wi_X12_readFormula_X12 tyX12_ok nmX12 0 (gM_0 _ _ _) rfl 33 rfl fl_X12_readFormula_X12_33 rfl rfl rfl rfl (uI σ'j118 8 1) (pM_0_33 _ _ _ _) dX12_readFormula_133 (fun z18 ez18 H locs G => ?_)
      have h := h z18 ez18
      refine lv_iconst (v := 0) E.ex E.by dX12_readFormula_136 (by decide) ?_
      exact k_ret (wof := (fun u : US => (wM kc a u))) (u := z18) E G rfl h (Nat.le_of_ble_eq_true rfl) (Nat.le_of_ble_eq_true rfl) dX12_readFormula_137
    · have h := h.2 hc25
      refine lv_aload_n E.ex E.by dX12_readFormula_123 rfl (lv_at hl 2 rfl) ?_
      refine k_get E G wi_X12_readFormula_X12 0 (gM_0 _ _ _) rfl 32 rfl fl_X12_readFormula_X12_32 (v := .int (iI σ'j118 7)) rfl dX12_readFormula_124 ?_
      refine lv_iconst (v := 5) E.ex E.by dX12_readFormula_127 (by decide) ?_
      refine lv_icmp_ne (tgt := 138) E.ex E.by dX12_readFormula_128 (by decide) (fun hc24 => ?_) (fun hc24 => ?_)
      · have h := h.1 hc24
        refine lv_aload_n E.ex E.by dX12_readFormula_138 rfl (lv_at hl 2 rfl) ?_
        refine lv_dup E.ex E.by dX12_readFormula_139 rfl ?_
        refine k_get E G wi_X12_readFormula_X12 0 (gM_0 _ _ _) rfl 32 rfl fl_X12_readFormula_X12_32 (v := .int (iI σ'j118 7)) rfl dX12_readFormula_140 ?_
        refine lv_iconst (v := 1) E.ex E.by dX12_readFormula_143 (by decide) ?_
        refine lv_iadd E.ex E.by dX12_readFormula_144 ?_
        refine k_put (fun z => (wM kc a z)) E G wi_X12_readFormula_X12 tyX12_ok nmX12 0 (gM_0 _ _ _) rfl 32 rfl fl_X12_readFormula_X12_32 rfl rfl rfl rfl (uI σ'j118 7 ((iI σ'j118 7) + 1)) (pM_0_32 _ _ _ _) dX12_readFormula_145 (fun z19 ez19 H locs G => ?_)
        have h := h z19 ez19
        refine lv_aload_n E.ex E.by dX12_readFormula_148 rfl (lv_at hl 2 rfl) ?_
        refine lv_iload_n E.ex E.by dX12_readFormula_149 rfl (lv_at hl 1 rfl) ?_
        refine k_cVi (X := []) (w := (wM kc a z19)) (Z := []) (wnew := (fun u : US => (wM kc a u))) (As := [.int v1j118]) (rest := []) E (List.append_nil _).symm G (c_X12_readNested l D kc _ F L RF HRF _ _ _ h) gX12_readFormula_X12_readNested rfl ⟨rfl, rfl⟩ hd_X12_readNested_v ⟨Nat.ble_eq_true_of_le (show F + 5 + 1 ≤ F + 6 by omega), Nat.ble_eq_true_of_le (show 8 + (5 + 11) + (L + 109) ≤ L + 133 by omega)⟩ 0 (gM_0 _ _ _) rfl rfl hl rfl rfl dX12_readFormula_150 ⟨rfl, rfl⟩ (fun _ => (List.append_nil _).symm) (fun r20 u21 hq H locs G => ?_)
        have h := hq
        refine lv_istore_n (lv' := [(3, .int r20), (2, .int s0j118), (1, .int v1j118), (0, .ref (a 0))]) E.ex E.by dX12_readFormula_153 rfl hl (by decide) rfl (fun ls hl => ?_)
        refine lv_aload_n E.ex E.by dX12_readFormula_154 rfl (lv_at hl 3 rfl) ?_
        refine lv_dup E.ex E.by dX12_readFormula_155 rfl ?_
        refine k_get E G wi_X12_readFormula_X12 0 (gM_0 _ _ _) rfl 32 rfl fl_X12_readFormula_X12_32 (v := .int (iI u21 7)) rfl dX12_readFormula_156 ?_
        refine lv_iconst (v := 1) E.ex E.by dX12_readFormula_159 (by decide) ?_
        refine lv_isub E.ex E.by dX12_readFormula_160 ?_
        refine k_put (fun z => (wM kc a z)) E G wi_X12_readFormula_X12 tyX12_ok nmX12 0 (gM_0 _ _ _) rfl 32 rfl fl_X12_readFormula_X12_32 rfl rfl rfl rfl (uI u21 7 ((iI u21 7) - 1)) (pM_0_32 _ _ _ _) dX12_readFormula_161 (fun z22 ez22 H locs G => ?_)
        have h := h z22 ez22
        refine lv_iload_n E.ex E.by dX12_readFormula_164 rfl (lv_at hl 0 rfl) ?_
        exact k_ret (wof := (fun u : US => (wM kc a u))) (u := z22) E G rfl h (Nat.le_of_ble_eq_true rfl) (Nat.le_of_ble_eq_true rfl) dX12_readFormula_165
      · have h := h.2 hc24
        refine lv_aload_n E.ex E.by dX12_readFormula_131 rfl (lv_at hl 2 rfl) ?_
        refine lv_iconst (v := 1) E.ex E.by dX12_readFormula_132 (by decide) ?_
        refine k_put (fun z => (wM kc a z)) E G wi_X12_readFormula_X12 tyX12_ok nmX12 0 (gM_0 _ _ _) rfl 33 rfl fl_X12_readFormula_X12_33 rfl rfl rfl rfl (uI σ'j118 8 1) (pM_0_33 _ _ _ _) dX12_readFormula_133 (fun z23 ez23 H locs G => ?_)
        have h := h z23 ez23
        refine lv_iconst (v := 0) E.ex E.by dX12_readFormula_136 (by decide) ?_
        exact k_ret (wof := (fun u : US => (wM kc a u))) (u := z23) E G rfl h (Nat.le_of_ble_eq_true rfl) (Nat.le_of_ble_eq_true rfl) dX12_readFormula_137
  have K113 : ∀ (v1j113 : Int32) (σ'j113 : US) (H : Heap) (locs : List Loc) (ls : Array Slot), kG D (va_A (wM kc a σ) s.heap.size) s (wM kc a σ'j113) H locs → lv_has ls 4 [(1, .int v1j113), (0, .ref (a 0))] → wp_X12_readFormula_J113 RF v1j113 σ'j113 Q → W p l e ({ frames := F + 6, cells := 0, slots := 0, locals := L + 133 } : Room) s m args below meth c H locs 0 0 (MQ below (va_Qi (fun r u => Q r u) (kB D (wM kc a σ) s.heap.size (fun u : US => (wM kc a u))) (va_A (wM kc a σ) s.heap.size)) args s 0 0 (va_A (wM kc a σ) s.heap.size)) (F0 m 113 ls []) := by
    intro v1j113 σ'j113 H locs ls G hl h
    refine lv_iconst (v := 1) E.ex E.by dX12_readFormula_113 (by decide) ?_
    refine lv_goto (tgt := 118) E.ex E.by dX12_readFormula_114 (by decide) ?_
    exact K118 _ _ _ _ _ _ G (lv_sub hl [0, 1] rfl) h
  refine lv_aload_n E.ex E.by dX12_readFormula_0 rfl (lv_at hl 0 rfl) ?_
  refine k_get E G wi_X12_readFormula_X12 0 (gM_0 _ _ _) rfl 33 rfl fl_X12_readFormula_X12_33 (v := .int (iI σ 8)) rfl dX12_readFormula_1 ?_
  refine lv_if_eq (tgt := 9) E.ex E.by dX12_readFormula_4 (by decide) (fun hc10 => ?_) (fun hc10 => ?_)
  · have h := h.1 hc10
    refine lv_aload_n E.ex E.by dX12_readFormula_9 rfl (lv_at hl 0 rfl) ?_
    refine k_cVi (X := []) (w := (wM kc a σ)) (Z := []) (wnew := (fun _ : Unit => (wM kc a σ))) (As := []) (rest := []) E (List.append_nil _).symm G (c_X12_here l D kc _ _ _ h) gX12_readFormula_X12_here rfl ⟨rfl, rfl⟩ hd_X12_here_v ⟨Nat.ble_eq_true_of_le (show 0 + 1 ≤ F + 6 by omega), Nat.ble_eq_true_of_le (show 8 + (1 + 11) + (0) ≤ L + 133 by omega)⟩ 0 (gM_0 _ _ _) rfl rfl hl rfl rfl dX12_readFormula_10 ⟨rfl, rfl⟩ (fun _ => (List.append_nil _).symm) (fun r1 _u10 hq H locs G => ?_)
    have h := hq
    refine lv_istore_n (lv' := [(1, .int r1), (0, .ref (a 0))]) E.ex E.by dX12_readFormula_13 rfl hl (by decide) rfl (fun ls hl => ?_)
    refine lv_iload_n E.ex E.by dX12_readFormula_14 rfl (lv_at hl 0 rfl) ?_
    refine lv_bipush (v := 116) E.ex E.by dX12_readFormula_15 (by decide) ?_
    refine lv_icmp_eq (tgt := 31) E.ex E.by dX12_readFormula_17 (by decide) (fun hc9 => ?_) (fun hc9 => ?_)
    · have h := h.1 hc9
      exact K31 _ _ _ _ _ G (lv_sub hl [0, 1] rfl) h
    · have h := h.2 hc9
      refine lv_iload_n E.ex E.by dX12_readFormula_20 rfl (lv_at hl 0 rfl) ?_
      refine lv_bipush (v := 97) E.ex E.by dX12_readFormula_21 (by decide) ?_
      refine lv_bipush (v := 100) E.ex E.by dX12_readFormula_23 (by decide) ?_
      refine k_cSi (X := (wM kc a σ)) (w := []) (Z := []) (wnew := (fun _ : Unit => (wM kc a σ))) (As := [.int r1, .int 97, .int 100]) (rest := []) E (List.append_nil _).symm G (c_X12_in l D kc _ _ _ _ h) gX12_readFormula_X12_in rfl ⟨rfl, rfl⟩ hd_X12_in_v ⟨Nat.ble_eq_true_of_le (show 0 + 1 ≤ F + 6 by omega), Nat.ble_eq_true_of_le (show 8 + (3 + 11) + (0) ≤ L + 133 by omega)⟩ rfl hl rfl rfl dX12_readFormula_25 ⟨rfl, rfl⟩ (fun _ => (List.append_nil _).symm) (fun r2 _u25 hq H locs G => ?_)
      have h := hq
      refine lv_if_eq (tgt := 83) E.ex E.by dX12_readFormula_28 (by decide) (fun hc8 => ?_) (fun hc8 => ?_)
      · have h := h.1 hc8
        refine lv_iload_n E.ex E.by dX12_readFormula_83 rfl (lv_at hl 0 rfl) ?_
        refine lv_bipush (v := 33) E.ex E.by dX12_readFormula_84 (by decide) ?_
        refine lv_icmp_eq (tgt := 113) E.ex E.by dX12_readFormula_86 (by decide) (fun hc7 => ?_) (fun hc7 => ?_)
        · have h := h.1 hc7
          exact K113 _ _ _ _ _ G (lv_sub hl [0, 1] rfl) h
        · have h := h.2 hc7
          refine lv_iload_n E.ex E.by dX12_readFormula_89 rfl (lv_at hl 0 rfl) ?_
          refine lv_bipush (v := 40) E.ex E.by dX12_readFormula_90 (by decide) ?_
          refine lv_icmp_eq (tgt := 113) E.ex E.by dX12_readFormula_92 (by decide) (fun hc6 => ?_) (fun hc6 => ?_)
          · have h := h.1 hc6
            exact K113 _ _ _ _ _ G (lv_sub hl [0, 1] rfl) h
          · have h := h.2 hc6
            refine lv_iload_n E.ex E.by dX12_readFormula_95 rfl (lv_at hl 0 rfl) ?_
            refine lv_bipush (v := 80) E.ex E.by dX12_readFormula_96 (by decide) ?_
            refine lv_icmp_eq (tgt := 113) E.ex E.by dX12_readFormula_98 (by decide) (fun hc5 => ?_) (fun hc5 => ?_)
            · have h := h.1 hc5
              exact K113 _ _ _ _ _ G (lv_sub hl [0, 1] rfl) h
            · have h := h.2 hc5
              refine lv_iload_n E.ex E.by dX12_readFormula_101 rfl (lv_at hl 0 rfl) ?_
              refine lv_bipush (v := 83) E.ex E.by dX12_readFormula_102 (by decide) ?_
              refine lv_icmp_eq (tgt := 113) E.ex E.by dX12_readFormula_104 (by decide) (fun hc4 => ?_) (fun hc4 => ?_)
              · have h := h.1 hc4
                exact K113 _ _ _ _ _ G (lv_sub hl [0, 1] rfl) h
              · have h := h.2 hc4
                refine lv_iload_n E.ex E.by dX12_readFormula_107 rfl (lv_at hl 0 rfl) ?_
                refine lv_bipush (v := 82) E.ex E.by dX12_readFormula_108 (by decide) ?_
                refine lv_icmp_ne (tgt := 117) E.ex E.by dX12_readFormula_110 (by decide) (fun hc3 => ?_) (fun hc3 => ?_)
                · have h := h.1 hc3
                  refine lv_iconst (v := 0) E.ex E.by dX12_readFormula_117 (by decide) ?_
                  exact K118 _ _ _ _ _ _ G (lv_sub hl [0, 1] rfl) h
                · have h := h.2 hc3
                  exact K113 _ _ _ _ _ G (lv_sub hl [0, 1] rfl) h
      · have h := h.2 hc8
        exact K31 _ _ _ _ _ G (lv_sub hl [0, 1] rfl) h
  · have h := h.2 hc10
    refine lv_iconst (v := 0) E.ex E.by dX12_readFormula_7 (by decide) ?_
    exact k_ret (wof := (fun u : US => (wM kc a u))) (u := σ) E G rfl h (Nat.le_of_ble_eq_true rfl) (Nat.le_of_ble_eq_true rfl) dX12_readFormula_8
def wp_X12_readFormula : Nat → US → (Int32 → US → Prop) → Prop
  | 0 => fun _ _ => False
  | n + 1 => fun σ Q => wp_X12_readFormula_B (wp_X12_readFormula n) σ Q
theorem c_X12_readFormula (l : Launch) (D : va_G) (kc : Nat → ClassId) (a : Nat → Nat) (n : Nat) : ∀ (σ0 : US) (Q0 : Int32 → US → Prop), wp_X12_readFormula n σ0 Q0 → kCi l D (tyL kc) yX12_readFormula wsX12_readFormula ({ frames := 6 * n, cells := 0, slots := 0, locals := 133 * n } : Room) [.ref (a 0)] (wM kc a σ0) (fun u : US => (wM kc a u)) 0 0 (fun r u => Q0 r u) := by
  induction n with
  | zero => intro _ _ h; exact absurd h (fun h => h)
  | succ n ih => intro _ _ h; exact c_X12_readFormula_B l D kc a (6 * n) (133 * n) (wp_X12_readFormula n) ih _ _ h
theorem wi_X12_formulaCount_X12 : ∀ w ∈ wsX120, w ∈ wsX12_formulaCount := fun w h => List.mem_cons_of_mem _ (List.mem_append_right _ (h))
theorem fl_X12_formulaCount_X12_24 : Cond.fieldLink RX12 282 (TX12 24).1 (TX12 24).2.1 (TX12 24).2.2.1 ∈ wsX12_formulaCount := List.mem_of_getElem? (i := 1) (by decide +kernel)
def wp_X12_formulaCount (σ : US) (Q : Int32 → Prop) : Prop := Q (iI σ 4)
set_option maxRecDepth 100000 in
set_option maxHeartbeats 4000000 in
theorem c_X12_formulaCount (l : Launch) (D : va_G) (kc : Nat → ClassId) (a : Nat → Nat)  (σ : US) (Q : Int32 → Prop) (h : wp_X12_formulaCount σ Q) : kCi l D (tyL kc) yX12_formulaCount wsX12_formulaCount ({ frames := 0, cells := 0, slots := 0, locals := 0 } : Room) [.ref (a 0)] (wM kc a σ) (fun _ : Unit => (wM kc a σ)) 0 0 (fun r _ => Q r) := by
  intro sz
  refine k_begin (cc := cX12_formulaCount) (maxL := 1) (ret := (some .int)) (by decide +kernel) rfl rfl (fun p e s m args below meth c hsz E G ls hl => ?_)
  subst hsz
  have hl : lv_has ls 1 [(0, .ref (a 0))] := hl
  refine lv_aload_n E.ex E.by dX12_formulaCount_0 rfl (lv_at hl 0 rfl) ?_
  refine k_get E G wi_X12_formulaCount_X12 0 (gM_0 _ _ _) rfl 24 rfl fl_X12_formulaCount_X12_24 (v := .int (iI σ 4)) rfl dX12_formulaCount_1 ?_
  exact k_ret (wof := (fun _ : Unit => (wM kc a σ))) (u := ()) E G rfl h (Nat.le_of_ble_eq_true rfl) (Nat.le_of_ble_eq_true rfl) dX12_formulaCount_4
theorem wi_X12_clearFormulas_X12 : ∀ w ∈ wsX120, w ∈ wsX12_clearFormulas := fun w h => List.mem_cons_of_mem _ (List.mem_append_right _ (h))
theorem fl_X12_clearFormulas_X12_24 : Cond.fieldLink RX12 282 (TX12 24).1 (TX12 24).2.1 (TX12 24).2.2.1 ∈ wsX12_clearFormulas := List.mem_of_getElem? (i := 1) (by decide +kernel)
theorem fl_X12_clearFormulas_X12_16 : Cond.fieldLink RX12 238 (TX12 16).1 (TX12 16).2.1 (TX12 16).2.2.1 ∈ wsX12_clearFormulas := List.mem_of_getElem? (i := 2) (by decide +kernel)
def wp_X12_clearFormulas (σ : US) (Q : Int32 → US → Prop) : Prop := ∀ x1 : Int32, x1 = iI σ 4 → (∀ z2 : US, z2 = uI σ 4 0 → (∀ z3 : US, z3 = uI z2 3 0 → Q x1 z3))
set_option maxRecDepth 100000 in
set_option maxHeartbeats 4000000 in
theorem c_X12_clearFormulas (l : Launch) (D : va_G) (kc : Nat → ClassId) (a : Nat → Nat)  (σ : US) (Q : Int32 → US → Prop) (h : wp_X12_clearFormulas σ Q) : kCi l D (tyL kc) yX12_clearFormulas wsX12_clearFormulas ({ frames := 0, cells := 0, slots := 0, locals := 0 } : Room) [.ref (a 0)] (wM kc a σ) (fun u : US => (wM kc a u)) 0 0 (fun r u => Q r u) := by
  intro sz
  refine k_begin (cc := cX12_clearFormulas) (maxL := 2) (ret := (some .int)) (by decide +kernel) rfl rfl (fun p e s m args below meth c hsz E G ls hl => ?_)
  subst hsz
  have hl : lv_has ls 2 [(0, .ref (a 0))] := hl
  refine lv_aload_n E.ex E.by dX12_clearFormulas_0 rfl (lv_at hl 0 rfl) ?_
  refine k_get E G wi_X12_clearFormulas_X12 0 (gM_0 _ _ _) rfl 24 rfl fl_X12_clearFormulas_X12_24 (v := .int (iI σ 4)) rfl dX12_clearFormulas_1 ?_
  refine lv_topi (fun x1 ex1 => ?_)
  have h := h x1 ex1
  refine lv_istore_n (lv' := [(1, .int x1), (0, .ref (a 0))]) E.ex E.by dX12_clearFormulas_4 rfl hl (by decide) rfl (fun ls hl => ?_)
  refine lv_aload_n E.ex E.by dX12_clearFormulas_5 rfl (lv_at hl 1 rfl) ?_
  refine lv_iconst (v := 0) E.ex E.by dX12_clearFormulas_6 (by decide) ?_
  refine k_put (fun z => (wM kc a z)) E G wi_X12_clearFormulas_X12 tyX12_ok nmX12 0 (gM_0 _ _ _) rfl 24 rfl fl_X12_clearFormulas_X12_24 rfl rfl rfl rfl (uI σ 4 0) (pM_0_24 _ _ _ _) dX12_clearFormulas_7 (fun z2 ez2 H locs G => ?_)
  have h := h z2 ez2
  refine lv_aload_n E.ex E.by dX12_clearFormulas_10 rfl (lv_at hl 1 rfl) ?_
  refine lv_iconst (v := 0) E.ex E.by dX12_clearFormulas_11 (by decide) ?_
  refine k_put (fun z => (wM kc a z)) E G wi_X12_clearFormulas_X12 tyX12_ok nmX12 0 (gM_0 _ _ _) rfl 16 rfl fl_X12_clearFormulas_X12_16 rfl rfl rfl rfl (uI z2 3 0) (pM_0_16 _ _ _ _) dX12_clearFormulas_12 (fun z3 ez3 H locs G => ?_)
  have h := h z3 ez3
  refine lv_iload_n E.ex E.by dX12_clearFormulas_15 rfl (lv_at hl 0 rfl) ?_
  exact k_ret (wof := (fun u : US => (wM kc a u))) (u := z3) E G rfl h (Nat.le_of_ble_eq_true rfl) (Nat.le_of_ble_eq_true rfl) dX12_clearFormulas_16
theorem wi_X12_isFormula_X12 : ∀ w ∈ wsX120, w ∈ wsX12_isFormula := fun w h => List.mem_cons_of_mem _ (List.mem_append_right _ (h))
theorem fl_X12_isFormula_X12_24 : Cond.fieldLink RX12 282 (TX12 24).1 (TX12 24).2.1 (TX12 24).2.2.1 ∈ wsX12_isFormula := List.mem_of_getElem? (i := 1) (by decide +kernel)
def wp_X12_isFormula (p1 : Int32) (σ : US) (Q : Int32 → Prop) : Prop := wp_X12_in p1 0 ((iI σ 4) - 1) (fun (r1 : Int32) => kbo r1 ∧ Q r1)
set_option maxRecDepth 100000 in
set_option maxHeartbeats 4000000 in
theorem c_X12_isFormula (l : Launch) (D : va_G) (kc : Nat → ClassId) (a : Nat → Nat)  (p1 : Int32) (σ : US) (Q : Int32 → Prop) (h : wp_X12_isFormula p1 σ Q) : kCi l D (tyL kc) yX12_isFormula wsX12_isFormula ({ frames := 1, cells := 0, slots := 0, locals := 22 } : Room) [.ref (a 0), .int p1] (wM kc a σ) (fun _ : Unit => (wM kc a σ)) 0 0 (fun r _ => Q r) := by
  intro sz
  refine k_begin (cc := cX12_isFormula) (maxL := 2) (ret := (some .boolean)) (by decide +kernel) rfl rfl (fun p e s m args below meth c hsz E G ls hl => ?_)
  subst hsz
  have hl : lv_has ls 2 [(0, .ref (a 0)), (1, .int p1)] := hl
  refine lv_iload_n E.ex E.by dX12_isFormula_0 rfl (lv_at hl 1 rfl) ?_
  refine lv_iconst (v := 0) E.ex E.by dX12_isFormula_1 (by decide) ?_
  refine lv_aload_n E.ex E.by dX12_isFormula_2 rfl (lv_at hl 0 rfl) ?_
  refine k_get E G wi_X12_isFormula_X12 0 (gM_0 _ _ _) rfl 24 rfl fl_X12_isFormula_X12_24 (v := .int (iI σ 4)) rfl dX12_isFormula_3 ?_
  refine lv_iconst (v := 1) E.ex E.by dX12_isFormula_6 (by decide) ?_
  refine lv_isub E.ex E.by dX12_isFormula_7 ?_
  refine k_cSi (X := (wM kc a σ)) (w := []) (Z := []) (wnew := (fun _ : Unit => (wM kc a σ))) (As := [.int p1, .int 0, .int ((iI σ 4) - 1)]) (rest := []) E (List.append_nil _).symm G (c_X12_in l D kc _ _ _ _ h) gX12_isFormula_X12_in rfl ⟨rfl, rfl⟩ hd_X12_in_v ⟨rfl, rfl⟩ rfl hl rfl rfl dX12_isFormula_8 ⟨rfl, rfl⟩ (fun _ => (List.append_nil _).symm) (fun r1 _u8 hq H locs G => ?_)
  have h := hq
  exact k_ret (wof := (fun _ : Unit => (wM kc a σ))) (u := ()) E G h.1 h.2 (Nat.le_of_ble_eq_true rfl) (Nat.le_of_ble_eq_true rfl) dX12_isFormula_11
theorem wi_X12_letter_X12 : ∀ w ∈ wsX120, w ∈ wsX12_letter := fun w h => List.mem_cons_of_mem _ (List.mem_append_right _ (h))
theorem fl_X12_letter_X12_28 : Cond.fieldLink RX12 71 (TX12 28).1 (TX12 28).2.1 (TX12 28).2.2.1 ∈ wsX12_letter := List.mem_of_getElem? (i := 1) (by decide +kernel)
theorem fl_X12_letter_X12_27 : Cond.fieldLink RX12 68 (TX12 27).1 (TX12 27).2.1 (TX12 27).2.2.1 ∈ wsX12_letter := List.mem_of_getElem? (i := 2) (by decide +kernel)
theorem hd_X12_isFormula_v : yX12_isFormula.cls = RX12 ∧ yX12_isFormula.cls ≠ "java/lang/invoke/MethodHandle" ∧ yX12_isFormula.cls ≠ "java/lang/invoke/VarHandle" ∧ (parseMethodDescriptor yX12_isFormula.desc).map (fun d => d.parameters.length) = some 1 := by decide +kernel
def wp_X12_letter (p1 : Int32) (p2 : Int32) (σ : US) (Q : Int32 → Prop) : Prop := wp_X12_isFormula p1 σ (fun (r1 : Int32) => (¬ r1 = 0 → vp_in p1 6 ∧ (wp_X12_in p2 0 ((aA σ 16 (p1).toNatClampNeg) - 1) (fun (r2 : Int32) => (r2 = 0 → Q (-2)) ∧ (¬ r2 = 0 → vp_in ((50 * p1) + p2) 300 ∧ (Q (aA σ 15 ((50 * p1) + p2).toNatClampNeg)))))) ∧ (r1 = 0 → Q (-1)))
set_option maxRecDepth 100000 in
set_option maxHeartbeats 4000000 in
theorem c_X12_letter (l : Launch) (D : va_G) (kc : Nat → ClassId) (a : Nat → Nat)  (p1 : Int32) (p2 : Int32) (σ : US) (Q : Int32 → Prop) (h : wp_X12_letter p1 p2 σ Q) : kCi l D (tyL kc) yX12_letter wsX12_letter ({ frames := 2, cells := 0, slots := 0, locals := 43 } : Room) [.ref (a 0), .int p1, .int p2] (wM kc a σ) (fun _ : Unit => (wM kc a σ)) 0 0 (fun r _ => Q r) := by
  intro sz
  refine k_begin (cc := cX12_letter) (maxL := 3) (ret := (some .int)) (by decide +kernel) rfl rfl (fun p e s m args below meth c hsz E G ls hl => ?_)
  subst hsz
  have hl : lv_has ls 3 [(0, .ref (a 0)), (1, .int p1), (2, .int p2)] := hl
  refine lv_aload_n E.ex E.by dX12_letter_0 rfl (lv_at hl 0 rfl) ?_
  refine lv_iload_n E.ex E.by dX12_letter_1 rfl (lv_at hl 1 rfl) ?_
  refine k_cVi (X := []) (w := (wM kc a σ)) (Z := []) (wnew := (fun _ : Unit => (wM kc a σ))) (As := [.int p1]) (rest := []) E (List.append_nil _).symm G (c_X12_isFormula l D kc _ _ _ _ h) gX12_letter_X12_isFormula rfl ⟨rfl, rfl⟩ hd_X12_isFormula_v ⟨rfl, rfl⟩ 0 (gM_0 _ _ _) rfl rfl hl rfl rfl dX12_letter_2 ⟨rfl, rfl⟩ (fun _ => (List.append_nil _).symm) (fun r1 _u2 hq H locs G => ?_)
  have h := hq
  refine lv_if_ne (tgt := 10) E.ex E.by dX12_letter_5 (by decide) (fun hc4 => ?_) (fun hc4 => ?_)
  · have h := h.1 hc4
    refine lv_iload_n E.ex E.by dX12_letter_10 rfl (lv_at hl 2 rfl) ?_
    refine lv_iconst (v := 0) E.ex E.by dX12_letter_11 (by decide) ?_
    refine lv_aload_n E.ex E.by dX12_letter_12 rfl (lv_at hl 0 rfl) ?_
    refine k_get E G wi_X12_letter_X12 0 (gM_0 _ _ _) rfl 28 rfl fl_X12_letter_X12_28 (v := .ref (a 21)) rfl dX12_letter_13 ?_
    refine lv_iload_n E.ex E.by dX12_letter_16 rfl (lv_at hl 1 rfl) ?_
    refine k_iald E G 21 (gM_21 _ _ _) 0 rfl h.1 dX12_letter_17 ?_
    have h := h.2
    refine lv_iconst (v := 1) E.ex E.by dX12_letter_18 (by decide) ?_
    refine lv_isub E.ex E.by dX12_letter_19 ?_
    refine k_cSi (X := (wM kc a σ)) (w := []) (Z := []) (wnew := (fun _ : Unit => (wM kc a σ))) (As := [.int p2, .int 0, .int ((aA σ 16 (p1).toNatClampNeg) - 1)]) (rest := []) E (List.append_nil _).symm G (c_X12_in l D kc _ _ _ _ h) gX12_letter_X12_in rfl ⟨rfl, rfl⟩ hd_X12_in_v ⟨rfl, rfl⟩ rfl hl rfl rfl dX12_letter_20 ⟨rfl, rfl⟩ (fun _ => (List.append_nil _).symm) (fun r2 _u20 hq H locs G => ?_)
    have h := hq
    refine lv_if_eq (tgt := 40) E.ex E.by dX12_letter_23 (by decide) (fun hc3 => ?_) (fun hc3 => ?_)
    · have h := h.1 hc3
      refine lv_bipush (v := (-2)) E.ex E.by dX12_letter_40 (by decide) ?_
      exact k_ret (wof := (fun _ : Unit => (wM kc a σ))) (u := ()) E G rfl h (Nat.le_of_ble_eq_true rfl) (Nat.le_of_ble_eq_true rfl) dX12_letter_42
    · have h := h.2 hc3
      refine lv_aload_n E.ex E.by dX12_letter_26 rfl (lv_at hl 0 rfl) ?_
      refine k_get E G wi_X12_letter_X12 0 (gM_0 _ _ _) rfl 27 rfl fl_X12_letter_X12_27 (v := .ref (a 20)) rfl dX12_letter_27 ?_
      refine lv_bipush (v := 50) E.ex E.by dX12_letter_30 (by decide) ?_
      refine lv_iload_n E.ex E.by dX12_letter_32 rfl (lv_at hl 1 rfl) ?_
      refine lv_imul E.ex E.by dX12_letter_33 ?_
      refine lv_iload_n E.ex E.by dX12_letter_34 rfl (lv_at hl 2 rfl) ?_
      refine lv_iadd E.ex E.by dX12_letter_35 ?_
      refine k_iald E G 20 (gM_20 _ _ _) 0 rfl h.1 dX12_letter_36 ?_
      have h := h.2
      refine lv_goto (tgt := 42) E.ex E.by dX12_letter_37 (by decide) ?_
      exact k_ret (wof := (fun _ : Unit => (wM kc a σ))) (u := ()) E G rfl h (Nat.le_of_ble_eq_true rfl) (Nat.le_of_ble_eq_true rfl) dX12_letter_42
  · have h := h.2 hc4
    refine lv_iconst (v := (-1)) E.ex E.by dX12_letter_8 (by decide) ?_
    exact k_ret (wof := (fun _ : Unit => (wM kc a σ))) (u := ()) E G rfl h (Nat.le_of_ble_eq_true rfl) (Nat.le_of_ble_eq_true rfl) dX12_letter_9
def wp_X12_isBounded (p1 : Int32) (Q : Int32 → Prop) : Prop := wp_X12_in p1 65 90 (fun (r1 : Int32) => kbo r1 ∧ Q r1)
set_option maxRecDepth 100000 in
set_option maxHeartbeats 4000000 in
theorem c_X12_isBounded (l : Launch) (D : va_G) (kc : Nat → ClassId)   (p1 : Int32) (Q : Int32 → Prop) (h : wp_X12_isBounded p1 Q) : kCi l D (tyL kc) yX12_isBounded wsX12_isBounded ({ frames := 1, cells := 0, slots := 0, locals := 22 } : Room) [.int p1] ([] : va_W) (fun _ : Unit => ([] : va_W)) 0 0 (fun r _ => Q r) := by
  intro sz
  refine k_begin (cc := cX12_isBounded) (maxL := 1) (ret := (some .boolean)) (by decide +kernel) rfl rfl (fun p e s m args below meth c hsz E G ls hl => ?_)
  subst hsz
  have hl : lv_has ls 1 [(0, .int p1)] := hl
  refine lv_iload_n E.ex E.by dX12_isBounded_0 rfl (lv_at hl 0 rfl) ?_
  refine lv_bipush (v := 65) E.ex E.by dX12_isBounded_1 (by decide) ?_
  refine lv_bipush (v := 90) E.ex E.by dX12_isBounded_3 (by decide) ?_
  refine k_cSi (X := ([] : va_W)) (w := []) (Z := []) (wnew := (fun _ : Unit => ([] : va_W))) (As := [.int p1, .int 65, .int 90]) (rest := []) E (List.append_nil _).symm G (c_X12_in l D kc _ _ _ _ h) gX12_isBounded_X12_in rfl ⟨rfl, rfl⟩ hd_X12_in_v ⟨rfl, rfl⟩ rfl hl rfl rfl dX12_isBounded_5 ⟨rfl, rfl⟩ (fun _ => (List.append_nil _).symm) (fun r1 _u5 hq H locs G => ?_)
  have h := hq
  exact k_ret (wof := (fun _ : Unit => ([] : va_W))) (u := ()) E G h.1 h.2 (Nat.le_of_ble_eq_true rfl) (Nat.le_of_ble_eq_true rfl) dX12_isBounded_8
def wp_X12_hasOne (p1 : Int32) (Q : Int32 → Prop) : Prop := (p1 = 116 → Q 0) ∧ (¬ p1 = 116 → (p1 = 97 → Q 0) ∧ (¬ p1 = 97 → Q 1))
set_option maxRecDepth 100000 in
set_option maxHeartbeats 4000000 in
theorem c_X12_hasOne (l : Launch) (D : va_G) (kc : Nat → ClassId)   (p1 : Int32) (Q : Int32 → Prop) (h : wp_X12_hasOne p1 Q) : kCi l D (tyL kc) yX12_hasOne wsX12_hasOne ({ frames := 0, cells := 0, slots := 0, locals := 0 } : Room) [.int p1] ([] : va_W) (fun _ : Unit => ([] : va_W)) 0 0 (fun r _ => Q r) := by
  intro sz
  refine k_begin (cc := cX12_hasOne) (maxL := 1) (ret := (some .boolean)) (by decide +kernel) rfl rfl (fun p e s m args below meth c hsz E G ls hl => ?_)
  subst hsz
  have hl : lv_has ls 1 [(0, .int p1)] := hl
  refine lv_iload_n E.ex E.by dX12_hasOne_0 rfl (lv_at hl 0 rfl) ?_
  refine lv_bipush (v := 116) E.ex E.by dX12_hasOne_1 (by decide) ?_
  refine lv_icmp_eq (tgt := 16) E.ex E.by dX12_hasOne_3 (by decide) (fun hc2 => ?_) (fun hc2 => ?_)
  · have h := h.1 hc2
    refine lv_iconst (v := 0) E.ex E.by dX12_hasOne_16 (by decide) ?_
    exact k_ret (wof := (fun _ : Unit => ([] : va_W))) (u := ()) E G rfl h (Nat.le_of_ble_eq_true rfl) (Nat.le_of_ble_eq_true rfl) dX12_hasOne_17
  · have h := h.2 hc2
    refine lv_iload_n E.ex E.by dX12_hasOne_6 rfl (lv_at hl 0 rfl) ?_
    refine lv_bipush (v := 97) E.ex E.by dX12_hasOne_7 (by decide) ?_
    refine lv_icmp_eq (tgt := 16) E.ex E.by dX12_hasOne_9 (by decide) (fun hc1 => ?_) (fun hc1 => ?_)
    · have h := h.1 hc1
      refine lv_iconst (v := 0) E.ex E.by dX12_hasOne_16 (by decide) ?_
      exact k_ret (wof := (fun _ : Unit => ([] : va_W))) (u := ()) E G rfl h (Nat.le_of_ble_eq_true rfl) (Nat.le_of_ble_eq_true rfl) dX12_hasOne_17
    · have h := h.2 hc1
      refine lv_iconst (v := 1) E.ex E.by dX12_hasOne_12 (by decide) ?_
      refine lv_goto (tgt := 17) E.ex E.by dX12_hasOne_13 (by decide) ?_
      exact k_ret (wof := (fun _ : Unit => ([] : va_W))) (u := ()) E G rfl h (Nat.le_of_ble_eq_true rfl) (Nat.le_of_ble_eq_true rfl) dX12_hasOne_17
def wp_X12_hasTwo (p1 : Int32) (Q : Int32 → Prop) : Prop := (p1 = 38 → Q 1) ∧ (¬ p1 = 38 → (p1 = 124 → Q 1) ∧ (¬ p1 = 124 → (p1 = 85 → Q 1) ∧ (¬ p1 = 85 → (¬ p1 = 66 → Q 0) ∧ (p1 = 66 → Q 1))))
set_option maxRecDepth 100000 in
set_option maxHeartbeats 4000000 in
theorem c_X12_hasTwo (l : Launch) (D : va_G) (kc : Nat → ClassId)   (p1 : Int32) (Q : Int32 → Prop) (h : wp_X12_hasTwo p1 Q) : kCi l D (tyL kc) yX12_hasTwo wsX12_hasTwo ({ frames := 0, cells := 0, slots := 0, locals := 0 } : Room) [.int p1] ([] : va_W) (fun _ : Unit => ([] : va_W)) 0 0 (fun r _ => Q r) := by
  intro sz
  refine k_begin (cc := cX12_hasTwo) (maxL := 1) (ret := (some .boolean)) (by decide +kernel) rfl rfl (fun p e s m args below meth c hsz E G ls hl => ?_)
  subst hsz
  have hl : lv_has ls 1 [(0, .int p1)] := hl
  refine lv_iload_n E.ex E.by dX12_hasTwo_0 rfl (lv_at hl 0 rfl) ?_
  refine lv_bipush (v := 38) E.ex E.by dX12_hasTwo_1 (by decide) ?_
  refine lv_icmp_eq (tgt := 24) E.ex E.by dX12_hasTwo_3 (by decide) (fun hc4 => ?_) (fun hc4 => ?_)
  · have h := h.1 hc4
    refine lv_iconst (v := 1) E.ex E.by dX12_hasTwo_24 (by decide) ?_
    refine lv_goto (tgt := 29) E.ex E.by dX12_hasTwo_25 (by decide) ?_
    exact k_ret (wof := (fun _ : Unit => ([] : va_W))) (u := ()) E G rfl h (Nat.le_of_ble_eq_true rfl) (Nat.le_of_ble_eq_true rfl) dX12_hasTwo_29
  · have h := h.2 hc4
    refine lv_iload_n E.ex E.by dX12_hasTwo_6 rfl (lv_at hl 0 rfl) ?_
    refine lv_bipush (v := 124) E.ex E.by dX12_hasTwo_7 (by decide) ?_
    refine lv_icmp_eq (tgt := 24) E.ex E.by dX12_hasTwo_9 (by decide) (fun hc3 => ?_) (fun hc3 => ?_)
    · have h := h.1 hc3
      refine lv_iconst (v := 1) E.ex E.by dX12_hasTwo_24 (by decide) ?_
      refine lv_goto (tgt := 29) E.ex E.by dX12_hasTwo_25 (by decide) ?_
      exact k_ret (wof := (fun _ : Unit => ([] : va_W))) (u := ()) E G rfl h (Nat.le_of_ble_eq_true rfl) (Nat.le_of_ble_eq_true rfl) dX12_hasTwo_29
    · have h := h.2 hc3
      refine lv_iload_n E.ex E.by dX12_hasTwo_12 rfl (lv_at hl 0 rfl) ?_
      refine lv_bipush (v := 85) E.ex E.by dX12_hasTwo_13 (by decide) ?_
      refine lv_icmp_eq (tgt := 24) E.ex E.by dX12_hasTwo_15 (by decide) (fun hc2 => ?_) (fun hc2 => ?_)
      · have h := h.1 hc2
        refine lv_iconst (v := 1) E.ex E.by dX12_hasTwo_24 (by decide) ?_
        refine lv_goto (tgt := 29) E.ex E.by dX12_hasTwo_25 (by decide) ?_
        exact k_ret (wof := (fun _ : Unit => ([] : va_W))) (u := ()) E G rfl h (Nat.le_of_ble_eq_true rfl) (Nat.le_of_ble_eq_true rfl) dX12_hasTwo_29
      · have h := h.2 hc2
        refine lv_iload_n E.ex E.by dX12_hasTwo_18 rfl (lv_at hl 0 rfl) ?_
        refine lv_bipush (v := 66) E.ex E.by dX12_hasTwo_19 (by decide) ?_
        refine lv_icmp_ne (tgt := 28) E.ex E.by dX12_hasTwo_21 (by decide) (fun hc1 => ?_) (fun hc1 => ?_)
        · have h := h.1 hc1
          refine lv_iconst (v := 0) E.ex E.by dX12_hasTwo_28 (by decide) ?_
          exact k_ret (wof := (fun _ : Unit => ([] : va_W))) (u := ()) E G rfl h (Nat.le_of_ble_eq_true rfl) (Nat.le_of_ble_eq_true rfl) dX12_hasTwo_29
        · have h := h.2 hc1
          refine lv_iconst (v := 1) E.ex E.by dX12_hasTwo_24 (by decide) ?_
          refine lv_goto (tgt := 29) E.ex E.by dX12_hasTwo_25 (by decide) ?_
          exact k_ret (wof := (fun _ : Unit => ([] : va_W))) (u := ()) E G rfl h (Nat.le_of_ble_eq_true rfl) (Nat.le_of_ble_eq_true rfl) dX12_hasTwo_29
theorem wi_X12_depthOf_X12 : ∀ w ∈ wsX120, w ∈ wsX12_depthOf := fun w h => List.mem_cons_of_mem _ (List.mem_append_right _ (h))
theorem fl_X12_depthOf_X12_17 : Cond.fieldLink RX12 41 (TX12 17).1 (TX12 17).2.1 (TX12 17).2.2.1 ∈ wsX12_depthOf := List.mem_of_getElem? (i := 1) (by decide +kernel)
theorem hd_X12_isBounded_v : yX12_isBounded.cls = RX12 ∧ yX12_isBounded.cls ≠ "java/lang/invoke/MethodHandle" ∧ yX12_isBounded.cls ≠ "java/lang/invoke/VarHandle" ∧ (parseMethodDescriptor yX12_isBounded.desc).map (fun d => d.parameters.length) = some 1 := by decide +kernel
theorem fl_X12_depthOf_X12_19 : Cond.fieldLink RX12 47 (TX12 19).1 (TX12 19).2.1 (TX12 19).2.2.1 ∈ wsX12_depthOf := List.mem_of_getElem? (i := 3) (by decide +kernel)
theorem lm_X12_depthOf_115 : Cond.methodLink RX12 115 Lib.Math.max.name ∈ wsX12_depthOf := List.mem_of_getElem? (i := 4) (by decide +kernel)
theorem lms_X12_depthOf : Cond.static Lib.Math.max.name ∈ wsX12_depthOf := List.mem_of_getElem? (i := 5) (by decide +kernel)
theorem lmi_X12_depthOf : Cond.initialized "java/lang/Math" ∈ wsX12_depthOf := List.mem_of_getElem? (i := 6) (by decide +kernel)
theorem lmc_X12_depthOf : Cond.code Lib.Math.max.name Lib.Math.max.code 2 (some .int) ∈ wsX12_depthOf := List.mem_of_getElem? (i := 7) (by decide +kernel)
theorem hd_X12_depthOf_v : yX12_depthOf.cls = RX12 ∧ yX12_depthOf.cls ≠ "java/lang/invoke/MethodHandle" ∧ yX12_depthOf.cls ≠ "java/lang/invoke/VarHandle" ∧ (parseMethodDescriptor yX12_depthOf.desc).map (fun d => d.parameters.length) = some 1 := by decide +kernel
theorem hd_X12_hasTwo_v : yX12_hasTwo.cls = RX12 ∧ yX12_hasTwo.cls ≠ "java/lang/invoke/MethodHandle" ∧ yX12_hasTwo.cls ≠ "java/lang/invoke/VarHandle" ∧ (parseMethodDescriptor yX12_hasTwo.desc).map (fun d => d.parameters.length) = some 1 := by decide +kernel
theorem fl_X12_depthOf_X12_18 : Cond.fieldLink RX12 44 (TX12 18).1 (TX12 18).2.1 (TX12 18).2.2.1 ∈ wsX12_depthOf := List.mem_of_getElem? (i := 2) (by decide +kernel)
theorem hd_X12_hasOne_v : yX12_hasOne.cls = RX12 ∧ yX12_hasOne.cls ≠ "java/lang/invoke/MethodHandle" ∧ yX12_hasOne.cls ≠ "java/lang/invoke/VarHandle" ∧ (parseMethodDescriptor yX12_hasOne.desc).map (fun d => d.parameters.length) = some 1 := by decide +kernel
def wp_X12_depthOf_J57 (RF : Int32 → US → (Int32 → Prop) → Prop) (v1j57 : Int32) (σ : US) (s0j57 : Int32) (Q : Int32 → Prop) : Prop := vp_in v1j57 300 ∧ (wp_X12_isBounded (aA σ 6 (v1j57).toNatClampNeg) (fun (r3 : Int32) => (r3 = 0 → Q s0j57) ∧ (¬ r3 = 0 → Q (s0j57 + 1))))
def wp_X12_depthOf_J26 (RF : Int32 → US → (Int32 → Prop) → Prop) (v1j26 : Int32) (σ : US) (s0j26 : Int32) (Q : Int32 → Prop) : Prop := vp_in v1j26 300 ∧ (wp_X12_hasTwo (aA σ 6 (v1j26).toNatClampNeg) (fun (r2 : Int32) => (r2 = 0 → wp_X12_depthOf_J57 RF v1j26 σ s0j26 Q) ∧ (¬ r2 = 0 → vp_in v1j26 300 ∧ (RF (aA σ 8 (v1j26).toNatClampNeg) σ (fun (r5 : Int32) => wp_X12_depthOf_J57 RF v1j26 σ (if s0j26 < r5 then r5 else s0j26) Q)))))
def wp_X12_depthOf_B (RF : Int32 → US → (Int32 → Prop) → Prop) (p1 : Int32) (σ : US) (Q : Int32 → Prop) : Prop := vp_in p1 300 ∧ (wp_X12_hasOne (aA σ 6 (p1).toNatClampNeg) (fun (r1 : Int32) => (r1 = 0 → wp_X12_depthOf_J26 RF p1 σ 0 Q) ∧ (¬ r1 = 0 → vp_in p1 300 ∧ (RF (aA σ 7 (p1).toNatClampNeg) σ (fun (r7 : Int32) => wp_X12_depthOf_J26 RF p1 σ r7 Q)))))
set_option maxRecDepth 100000 in
set_option maxHeartbeats 4000000 in
theorem c_X12_depthOf_B (l : Launch) (D : va_G) (kc : Nat → ClassId) (a : Nat → Nat) (F L : Nat) (RF : Int32 → US → (Int32 → Prop) → Prop) (HRF : ∀ (q1 : Int32) (σ0 : US) (Q0 : Int32 → Prop), RF q1 σ0 Q0 → kCi l D (tyL kc) yX12_depthOf wsX12_depthOf ({ frames := F, cells := 0, slots := 0, locals := L } : Room) [.ref (a 0), .int q1] (wM kc a σ0) (fun _ : Unit => (wM kc a σ0)) 0 0 (fun r _ => Q0 r)) (p1 : Int32) (σ : US) (Q : Int32 → Prop) (h : wp_X12_depthOf_B RF p1 σ Q) : kCi l D (tyL kc) yX12_depthOf wsX12_depthOf ({ frames := F + 2, cells := 0, slots := 0, locals := L + 42 } : Room) [.ref (a 0), .int p1] (wM kc a σ) (fun _ : Unit => (wM kc a σ)) 0 0 (fun r _ => Q r) := by
  intro sz
  refine k_begin (cc := cX12_depthOf) (maxL := 3) (ret := (some .int)) (by decide +kernel) rfl rfl (fun p e s m args below meth c hsz E G ls hl => ?_)
  subst hsz
  have hl : lv_has ls 3 [(0, .ref (a 0)), (1, .int p1)] := hl
  have K57 : ∀ (s0j57 : Int32) (H : Heap) (locs : List Loc) (ls : Array Slot), kG D (va_A (wM kc a σ) s.heap.size) s (wM kc a σ) H locs → lv_has ls 3 [(0, .ref (a 0)), (1, .int p1)] → wp_X12_depthOf_J57 RF p1 σ s0j57 Q → W p l e ({ frames := F + 2, cells := 0, slots := 0, locals := L + 42 } : Room) s m args below meth c H locs 0 0 (MQ below (va_Qi (fun r _ => Q r) (kB D (wM kc a σ) s.heap.size (fun _ : Unit => (wM kc a σ))) (va_A (wM kc a σ) s.heap.size)) args s 0 0 (va_A (wM kc a σ) s.heap.size)) (F0 m 57 ls [.int s0j57]) := by
    intro s0j57 H locs ls G hl h
    refine lv_istore_n (lv' := [(2, .int s0j57), (0, .ref (a 0)), (1, .int p1)]) E.ex E.by dX12_depthOf_57 rfl hl (by decide) rfl (fun ls hl => ?_)
    refine lv_aload_n E.ex E.by dX12_depthOf_58 rfl (lv_at hl 1 rfl) ?_
    refine k_get E G wi_X12_depthOf_X12 0 (gM_0 _ _ _) rfl 17 rfl fl_X12_depthOf_X12_17 (v := .ref (a 11)) rfl dX12_depthOf_59 ?_
    refine lv_iload_n E.ex E.by dX12_depthOf_62 rfl (lv_at hl 2 rfl) ?_
    refine k_iald E G 11 (gM_11 _ _ _) 0 rfl h.1 dX12_depthOf_63 ?_
    have h := h.2
    refine k_cSi (X := (wM kc a σ)) (w := []) (Z := []) (wnew := (fun _ : Unit => (wM kc a σ))) (As := [.int (aA σ 6 (p1).toNatClampNeg)]) (rest := []) E (List.append_nil _).symm G (c_X12_isBounded l D kc _ _ h) gX12_depthOf_X12_isBounded rfl ⟨rfl, rfl⟩ hd_X12_isBounded_v ⟨Nat.ble_eq_true_of_le (show 1 + 1 ≤ F + 2 by omega), Nat.ble_eq_true_of_le (show 8 + (1 + 11) + (22) ≤ L + 42 by omega)⟩ rfl hl rfl rfl dX12_depthOf_64 ⟨rfl, rfl⟩ (fun _ => (List.append_nil _).symm) (fun r7 _u64 hq H locs G => ?_)
    have h := hq
    refine lv_if_eq (tgt := 76) E.ex E.by dX12_depthOf_67 (by decide) (fun hc8 => ?_) (fun hc8 => ?_)
    · have h := h.1 hc8
      refine lv_iload_n E.ex E.by dX12_depthOf_76 rfl (lv_at hl 0 rfl) ?_
      exact k_ret (wof := (fun _ : Unit => (wM kc a σ))) (u := ()) E G rfl h (Nat.le_of_ble_eq_true rfl) (Nat.le_of_ble_eq_true rfl) dX12_depthOf_77
    · have h := h.2 hc8
      refine lv_iload_n E.ex E.by dX12_depthOf_70 rfl (lv_at hl 0 rfl) ?_
      refine lv_iconst (v := 1) E.ex E.by dX12_depthOf_71 (by decide) ?_
      refine lv_iadd E.ex E.by dX12_depthOf_72 ?_
      refine lv_goto (tgt := 77) E.ex E.by dX12_depthOf_73 (by decide) ?_
      exact k_ret (wof := (fun _ : Unit => (wM kc a σ))) (u := ()) E G rfl h (Nat.le_of_ble_eq_true rfl) (Nat.le_of_ble_eq_true rfl) dX12_depthOf_77
  have K26 : ∀ (s0j26 : Int32) (H : Heap) (locs : List Loc) (ls : Array Slot), kG D (va_A (wM kc a σ) s.heap.size) s (wM kc a σ) H locs → lv_has ls 3 [(0, .ref (a 0)), (1, .int p1)] → wp_X12_depthOf_J26 RF p1 σ s0j26 Q → W p l e ({ frames := F + 2, cells := 0, slots := 0, locals := L + 42 } : Room) s m args below meth c H locs 0 0 (MQ below (va_Qi (fun r _ => Q r) (kB D (wM kc a σ) s.heap.size (fun _ : Unit => (wM kc a σ))) (va_A (wM kc a σ) s.heap.size)) args s 0 0 (va_A (wM kc a σ) s.heap.size)) (F0 m 26 ls [.int s0j26]) := by
    intro s0j26 H locs ls G hl h
    refine lv_istore_n (lv' := [(2, .int s0j26), (0, .ref (a 0)), (1, .int p1)]) E.ex E.by dX12_depthOf_26 rfl hl (by decide) rfl (fun ls hl => ?_)
    refine lv_aload_n E.ex E.by dX12_depthOf_27 rfl (lv_at hl 1 rfl) ?_
    refine k_get E G wi_X12_depthOf_X12 0 (gM_0 _ _ _) rfl 17 rfl fl_X12_depthOf_X12_17 (v := .ref (a 11)) rfl dX12_depthOf_28 ?_
    refine lv_iload_n E.ex E.by dX12_depthOf_31 rfl (lv_at hl 2 rfl) ?_
    refine k_iald E G 11 (gM_11 _ _ _) 0 rfl h.1 dX12_depthOf_32 ?_
    have h := h.2
    refine k_cSi (X := (wM kc a σ)) (w := []) (Z := []) (wnew := (fun _ : Unit => (wM kc a σ))) (As := [.int (aA σ 6 (p1).toNatClampNeg)]) (rest := []) E (List.append_nil _).symm G (c_X12_hasTwo l D kc _ _ h) gX12_depthOf_X12_hasTwo rfl ⟨rfl, rfl⟩ hd_X12_hasTwo_v ⟨Nat.ble_eq_true_of_le (show 0 + 1 ≤ F + 2 by omega), Nat.ble_eq_true_of_le (show 8 + (1 + 11) + (0) ≤ L + 42 by omega)⟩ rfl hl rfl rfl dX12_depthOf_33 ⟨rfl, rfl⟩ (fun _ => (List.append_nil _).symm) (fun r4 _u33 hq H locs G => ?_)
    have h := hq
    refine lv_if_eq (tgt := 56) E.ex E.by dX12_depthOf_36 (by decide) (fun hc6 => ?_) (fun hc6 => ?_)
    · have h := h.1 hc6
      refine lv_iload_n E.ex E.by dX12_depthOf_56 rfl (lv_at hl 0 rfl) ?_
      exact K57 _ _ _ _ G (lv_sub hl [1, 2] rfl) h
    · have h := h.2 hc6
      refine lv_iload_n E.ex E.by dX12_depthOf_39 rfl (lv_at hl 0 rfl) ?_
      refine lv_aload_n E.ex E.by dX12_depthOf_40 rfl (lv_at hl 1 rfl) ?_
      refine lv_aload_n E.ex E.by dX12_depthOf_41 rfl (lv_at hl 1 rfl) ?_
      refine k_get E G wi_X12_depthOf_X12 0 (gM_0 _ _ _) rfl 19 rfl fl_X12_depthOf_X12_19 (v := .ref (a 13)) rfl dX12_depthOf_42 ?_
      refine lv_iload_n E.ex E.by dX12_depthOf_45 rfl (lv_at hl 2 rfl) ?_
      refine k_iald E G 13 (gM_13 _ _ _) 0 rfl h.1 dX12_depthOf_46 ?_
      have h := h.2
      refine k_cVi (X := []) (w := (wM kc a σ)) (Z := []) (wnew := (fun _ : Unit => (wM kc a σ))) (As := [.int (aA σ 8 (p1).toNatClampNeg)]) (rest := [.int s0j26]) E (List.append_nil _).symm G (HRF _ _ _ h) gX12_depthOf_X12_depthOf rfl ⟨rfl, rfl⟩ hd_X12_depthOf_v ⟨Nat.ble_eq_true_of_le (show F + 0 + 1 ≤ F + 2 by omega), Nat.ble_eq_true_of_le (show 8 + (3 + 11) + (L + 0) ≤ L + 42 by omega)⟩ 0 (gM_0 _ _ _) rfl rfl hl rfl rfl dX12_depthOf_47 ⟨rfl, rfl⟩ (fun _ => (List.append_nil _).symm) (fun r5 _u47 hq H locs G => ?_)
      have h := hq
      refine va_mmax E.ex E.by (E.nl.trans hl.1.symm) E.ow (E.ts _ lm_X12_depthOf_115) (E.ts _ lms_X12_depthOf) (E.ts _ lmi_X12_depthOf) (E.ts _ lmc_X12_depthOf) (Nat.le_of_ble_eq_true rfl) (Nat.le_of_ble_eq_true rfl) (Nat.le_of_ble_eq_true rfl) (Nat.le_of_ble_eq_true rfl) dX12_depthOf_50 ?_
      refine lv_goto (tgt := 57) E.ex E.by dX12_depthOf_53 (by decide) ?_
      exact K57 _ _ _ _ G (lv_sub hl [1, 2] rfl) h
  refine lv_aload_n E.ex E.by dX12_depthOf_0 rfl (lv_at hl 0 rfl) ?_
  refine k_get E G wi_X12_depthOf_X12 0 (gM_0 _ _ _) rfl 17 rfl fl_X12_depthOf_X12_17 (v := .ref (a 11)) rfl dX12_depthOf_1 ?_
  refine lv_iload_n E.ex E.by dX12_depthOf_4 rfl (lv_at hl 1 rfl) ?_
  refine k_iald E G 11 (gM_11 _ _ _) 0 rfl h.1 dX12_depthOf_5 ?_
  have h := h.2
  refine k_cSi (X := (wM kc a σ)) (w := []) (Z := []) (wnew := (fun _ : Unit => (wM kc a σ))) (As := [.int (aA σ 6 (p1).toNatClampNeg)]) (rest := []) E (List.append_nil _).symm G (c_X12_hasOne l D kc _ _ h) gX12_depthOf_X12_hasOne rfl ⟨rfl, rfl⟩ hd_X12_hasOne_v ⟨Nat.ble_eq_true_of_le (show 0 + 1 ≤ F + 2 by omega), Nat.ble_eq_true_of_le (show 8 + (1 + 11) + (0) ≤ L + 42 by omega)⟩ rfl hl rfl rfl dX12_depthOf_6 ⟨rfl, rfl⟩ (fun _ => (List.append_nil _).symm) (fun r1 _u6 hq H locs G => ?_)
  have h := hq
  refine lv_if_eq (tgt := 25) E.ex E.by dX12_depthOf_9 (by decide) (fun hc3 => ?_) (fun hc3 => ?_)
  · have h := h.1 hc3
    refine lv_iconst (v := 0) E.ex E.by dX12_depthOf_25 (by decide) ?_
    exact K26 _ _ _ _ G (lv_sub hl [0, 1] rfl) h
  · have h := h.2 hc3
    refine lv_aload_n E.ex E.by dX12_depthOf_12 rfl (lv_at hl 0 rfl) ?_
    refine lv_aload_n E.ex E.by dX12_depthOf_13 rfl (lv_at hl 0 rfl) ?_
    refine k_get E G wi_X12_depthOf_X12 0 (gM_0 _ _ _) rfl 18 rfl fl_X12_depthOf_X12_18 (v := .ref (a 12)) rfl dX12_depthOf_14 ?_
    refine lv_iload_n E.ex E.by dX12_depthOf_17 rfl (lv_at hl 1 rfl) ?_
    refine k_iald E G 12 (gM_12 _ _ _) 0 rfl h.1 dX12_depthOf_18 ?_
    have h := h.2
    refine k_cVi (X := []) (w := (wM kc a σ)) (Z := []) (wnew := (fun _ : Unit => (wM kc a σ))) (As := [.int (aA σ 7 (p1).toNatClampNeg)]) (rest := []) E (List.append_nil _).symm G (HRF _ _ _ h) gX12_depthOf_X12_depthOf rfl ⟨rfl, rfl⟩ hd_X12_depthOf_v ⟨Nat.ble_eq_true_of_le (show F + 0 + 1 ≤ F + 2 by omega), Nat.ble_eq_true_of_le (show 8 + (3 + 11) + (L + 0) ≤ L + 42 by omega)⟩ 0 (gM_0 _ _ _) rfl rfl hl rfl rfl dX12_depthOf_19 ⟨rfl, rfl⟩ (fun _ => (List.append_nil _).symm) (fun r2 _u19 hq H locs G => ?_)
    have h := hq
    refine lv_goto (tgt := 26) E.ex E.by dX12_depthOf_22 (by decide) ?_
    exact K26 _ _ _ _ G (lv_sub hl [0, 1] rfl) h
def wp_X12_depthOf : Nat → Int32 → US → (Int32 → Prop) → Prop
  | 0 => fun _ _ _ => False
  | n + 1 => fun p1 σ Q => wp_X12_depthOf_B (wp_X12_depthOf n) p1 σ Q
theorem c_X12_depthOf (l : Launch) (D : va_G) (kc : Nat → ClassId) (a : Nat → Nat) (n : Nat) : ∀ (q1 : Int32) (σ0 : US) (Q0 : Int32 → Prop), wp_X12_depthOf n q1 σ0 Q0 → kCi l D (tyL kc) yX12_depthOf wsX12_depthOf ({ frames := 2 * n, cells := 0, slots := 0, locals := 42 * n } : Room) [.ref (a 0), .int q1] (wM kc a σ0) (fun _ : Unit => (wM kc a σ0)) 0 0 (fun r _ => Q0 r) := by
  induction n with
  | zero => intro _ _ _ h; exact absurd h (fun h => h)
  | succ n ih => intro _ _ _ h; exact c_X12_depthOf_B l D kc a (2 * n) (42 * n) (wp_X12_depthOf n) ih _ _ _ h
theorem wi_X12_depth_X12 : ∀ w ∈ wsX120, w ∈ wsX12_depth := fun w h => List.mem_cons_of_mem _ (List.mem_append_right _ (h))
theorem fl_X12_depth_X12_25 : Cond.fieldLink RX12 62 (TX12 25).1 (TX12 25).2.1 (TX12 25).2.2.1 ∈ wsX12_depth := List.mem_of_getElem? (i := 1) (by decide +kernel)
def wp_X12_depth (p1 : Int32) (σ : US) (Q : Int32 → Prop) : Prop := wp_X12_isFormula p1 σ (fun (r1 : Int32) => (r1 = 0 → Q (-1)) ∧ (¬ r1 = 0 → vp_in p1 6 ∧ (wp_X12_depthOf 8 (aA σ 13 (p1).toNatClampNeg) σ (fun (r2 : Int32) => Q r2))))
set_option maxRecDepth 100000 in
set_option maxHeartbeats 4000000 in
theorem c_X12_depth (l : Launch) (D : va_G) (kc : Nat → ClassId) (a : Nat → Nat)  (p1 : Int32) (σ : US) (Q : Int32 → Prop) (h : wp_X12_depth p1 σ Q) : kCi l D (tyL kc) yX12_depth wsX12_depth ({ frames := 17, cells := 0, slots := 0, locals := 358 } : Room) [.ref (a 0), .int p1] (wM kc a σ) (fun _ : Unit => (wM kc a σ)) 0 0 (fun r _ => Q r) := by
  intro sz
  refine k_begin (cc := cX12_depth) (maxL := 2) (ret := (some .int)) (by decide +kernel) rfl rfl (fun p e s m args below meth c hsz E G ls hl => ?_)
  subst hsz
  have hl : lv_has ls 2 [(0, .ref (a 0)), (1, .int p1)] := hl
  refine lv_aload_n E.ex E.by dX12_depth_0 rfl (lv_at hl 0 rfl) ?_
  refine lv_iload_n E.ex E.by dX12_depth_1 rfl (lv_at hl 1 rfl) ?_
  refine k_cVi (X := []) (w := (wM kc a σ)) (Z := []) (wnew := (fun _ : Unit => (wM kc a σ))) (As := [.int p1]) (rest := []) E (List.append_nil _).symm G (c_X12_isFormula l D kc _ _ _ _ h) gX12_depth_X12_isFormula rfl ⟨rfl, rfl⟩ hd_X12_isFormula_v ⟨rfl, rfl⟩ 0 (gM_0 _ _ _) rfl rfl hl rfl rfl dX12_depth_2 ⟨rfl, rfl⟩ (fun _ => (List.append_nil _).symm) (fun r1 _u2 hq H locs G => ?_)
  have h := hq
  refine lv_if_eq (tgt := 21) E.ex E.by dX12_depth_5 (by decide) (fun hc3 => ?_) (fun hc3 => ?_)
  · have h := h.1 hc3
    refine lv_iconst (v := (-1)) E.ex E.by dX12_depth_21 (by decide) ?_
    exact k_ret (wof := (fun _ : Unit => (wM kc a σ))) (u := ()) E G rfl h (Nat.le_of_ble_eq_true rfl) (Nat.le_of_ble_eq_true rfl) dX12_depth_22
  · have h := h.2 hc3
    refine lv_aload_n E.ex E.by dX12_depth_8 rfl (lv_at hl 0 rfl) ?_
    refine lv_aload_n E.ex E.by dX12_depth_9 rfl (lv_at hl 0 rfl) ?_
    refine k_get E G wi_X12_depth_X12 0 (gM_0 _ _ _) rfl 25 rfl fl_X12_depth_X12_25 (v := .ref (a 18)) rfl dX12_depth_10 ?_
    refine lv_iload_n E.ex E.by dX12_depth_13 rfl (lv_at hl 1 rfl) ?_
    refine k_iald E G 18 (gM_18 _ _ _) 0 rfl h.1 dX12_depth_14 ?_
    have h := h.2
    refine k_cVi (X := []) (w := (wM kc a σ)) (Z := []) (wnew := (fun _ : Unit => (wM kc a σ))) (As := [.int (aA σ 13 (p1).toNatClampNeg)]) (rest := []) E (List.append_nil _).symm G (c_X12_depthOf l D kc _ 8 _ _ _ h) gX12_depth_X12_depthOf rfl ⟨rfl, rfl⟩ hd_X12_depthOf_v ⟨rfl, rfl⟩ 0 (gM_0 _ _ _) rfl rfl hl rfl rfl dX12_depth_15 ⟨rfl, rfl⟩ (fun _ => (List.append_nil _).symm) (fun r2 _u15 hq H locs G => ?_)
    have h := hq
    refine lv_goto (tgt := 22) E.ex E.by dX12_depth_18 (by decide) ?_
    exact k_ret (wof := (fun _ : Unit => (wM kc a σ))) (u := ()) E G rfl h (Nat.le_of_ble_eq_true rfl) (Nat.le_of_ble_eq_true rfl) dX12_depth_22
theorem wi_X12_isRefusedNode_X12 : ∀ w ∈ wsX120, w ∈ wsX12_isRefusedNode := fun w h => List.mem_cons_of_mem _ (List.mem_append_right _ (h))
theorem fl_X12_isRefusedNode_X12_17 : Cond.fieldLink RX12 41 (TX12 17).1 (TX12 17).2.1 (TX12 17).2.2.1 ∈ wsX12_isRefusedNode := List.mem_of_getElem? (i := 1) (by decide +kernel)
theorem fl_X12_isRefusedNode_X12_19 : Cond.fieldLink RX12 47 (TX12 19).1 (TX12 19).2.1 (TX12 19).2.2.1 ∈ wsX12_isRefusedNode := List.mem_of_getElem? (i := 4) (by decide +kernel)
theorem hd_X12_isRefusedNode_v : yX12_isRefusedNode.cls = RX12 ∧ yX12_isRefusedNode.cls ≠ "java/lang/invoke/MethodHandle" ∧ yX12_isRefusedNode.cls ≠ "java/lang/invoke/VarHandle" ∧ (parseMethodDescriptor yX12_isRefusedNode.desc).map (fun d => d.parameters.length) = some 1 := by decide +kernel
theorem fl_X12_isRefusedNode_X12_18 : Cond.fieldLink RX12 44 (TX12 18).1 (TX12 18).2.1 (TX12 18).2.2.1 ∈ wsX12_isRefusedNode := List.mem_of_getElem? (i := 3) (by decide +kernel)
theorem fl_X12_isRefusedNode_X12_20 : Cond.fieldLink RX12 50 (TX12 20).1 (TX12 20).2.1 (TX12 20).2.2.1 ∈ wsX12_isRefusedNode := List.mem_of_getElem? (i := 2) (by decide +kernel)
theorem hd_X12_isRefused_v : yX12_isRefused.cls = RX12 ∧ yX12_isRefused.cls ≠ "java/lang/invoke/MethodHandle" ∧ yX12_isRefused.cls ≠ "java/lang/invoke/VarHandle" ∧ (parseMethodDescriptor yX12_isRefused.desc).map (fun d => d.parameters.length) = some 1 := by decide +kernel
def wp_X12_isRefusedNode_J64 (RF : Int32 → US → (Int32 → Prop) → Prop) (v1j64 : Int32) (σ : US) (s0j64 : Int32) (Q : Int32 → Prop) : Prop := (¬ s0j64 = 0 → Q 1) ∧ (s0j64 = 0 → vp_in v1j64 300 ∧ (wp_X12_hasTwo (aA σ 6 (v1j64).toNatClampNeg) (fun (r1 : Int32) => (r1 = 0 → Q 0) ∧ (¬ r1 = 0 → vp_in v1j64 300 ∧ (RF (aA σ 8 (v1j64).toNatClampNeg) σ (fun (r2 : Int32) => (r2 = 0 → Q 0) ∧ (¬ r2 = 0 → Q 1)))))))
def wp_X12_isRefusedNode_J59 (RF : Int32 → US → (Int32 → Prop) → Prop) (v1j59 : Int32) (σ : US) (Q : Int32 → Prop) : Prop := wp_X12_isRefusedNode_J64 RF v1j59 σ 1 Q
def wp_X12_isRefusedNode_J63 (RF : Int32 → US → (Int32 → Prop) → Prop) (v1j63 : Int32) (σ : US) (Q : Int32 → Prop) : Prop := wp_X12_isRefusedNode_J64 RF v1j63 σ 0 Q
def wp_X12_isRefusedNode_J29 (RF : Int32 → US → (Int32 → Prop) → Prop) (v1j29 : Int32) (σ : US) (s0j29 : Int32) (Q : Int32 → Prop) : Prop := (¬ s0j29 = 0 → wp_X12_isRefusedNode_J59 RF v1j29 σ Q) ∧ (s0j29 = 0 → vp_in v1j29 300 ∧ (wp_X12_hasOne (aA σ 6 (v1j29).toNatClampNeg) (fun (r6 : Int32) => (r6 = 0 → wp_X12_isRefusedNode_J63 RF v1j29 σ Q) ∧ (¬ r6 = 0 → vp_in v1j29 300 ∧ (RF (aA σ 7 (v1j29).toNatClampNeg) σ (fun (r7 : Int32) => (r7 = 0 → wp_X12_isRefusedNode_J63 RF v1j29 σ Q) ∧ (¬ r7 = 0 → wp_X12_isRefusedNode_J59 RF v1j29 σ Q)))))))
def wp_X12_isRefusedNode_J28 (RF : Int32 → US → (Int32 → Prop) → Prop) (v1j28 : Int32) (σ : US) (Q : Int32 → Prop) : Prop := wp_X12_isRefusedNode_J29 RF v1j28 σ 0 Q
def wp_X12_isRefusedNode_B (RF : Int32 → US → (Int32 → Prop) → Prop) (p1 : Int32) (σ : US) (Q : Int32 → Prop) : Prop := vp_in p1 300 ∧ ((¬ (aA σ 6 (p1).toNatClampNeg) = 66 → wp_X12_isRefusedNode_J28 RF p1 σ Q) ∧ ((aA σ 6 (p1).toNatClampNeg) = 66 → vp_in p1 300 ∧ (wp_X12_isRefused (aA σ 9 (p1).toNatClampNeg) σ (fun (r11 : Int32) => (r11 = 0 → wp_X12_isRefusedNode_J28 RF p1 σ Q) ∧ (¬ r11 = 0 → wp_X12_isRefusedNode_J29 RF p1 σ 1 Q)))))
set_option maxRecDepth 100000 in
set_option maxHeartbeats 4000000 in
theorem c_X12_isRefusedNode_B (l : Launch) (D : va_G) (kc : Nat → ClassId) (a : Nat → Nat) (F L : Nat) (RF : Int32 → US → (Int32 → Prop) → Prop) (HRF : ∀ (q1 : Int32) (σ0 : US) (Q0 : Int32 → Prop), RF q1 σ0 Q0 → kCi l D (tyL kc) yX12_isRefusedNode wsX12_isRefusedNode ({ frames := F, cells := 0, slots := 0, locals := L } : Room) [.ref (a 0), .int q1] (wM kc a σ0) (fun _ : Unit => (wM kc a σ0)) 0 0 (fun r _ => Q0 r)) (p1 : Int32) (σ : US) (Q : Int32 → Prop) (h : wp_X12_isRefusedNode_B RF p1 σ Q) : kCi l D (tyL kc) yX12_isRefusedNode wsX12_isRefusedNode ({ frames := F + 4, cells := 0, slots := 0, locals := L + 100 } : Room) [.ref (a 0), .int p1] (wM kc a σ) (fun _ : Unit => (wM kc a σ)) 0 0 (fun r _ => Q r) := by
  intro sz
  refine k_begin (cc := cX12_isRefusedNode) (maxL := 3) (ret := (some .boolean)) (by decide +kernel) rfl rfl (fun p e s m args below meth c hsz E G ls hl => ?_)
  subst hsz
  have hl : lv_has ls 3 [(0, .ref (a 0)), (1, .int p1)] := hl
  have K64 : ∀ (s0j64 : Int32) (H : Heap) (locs : List Loc) (ls : Array Slot), kG D (va_A (wM kc a σ) s.heap.size) s (wM kc a σ) H locs → lv_has ls 3 [(0, .ref (a 0)), (1, .int p1)] → wp_X12_isRefusedNode_J64 RF p1 σ s0j64 Q → W p l e ({ frames := F + 4, cells := 0, slots := 0, locals := L + 100 } : Room) s m args below meth c H locs 0 0 (MQ below (va_Qi (fun r _ => Q r) (kB D (wM kc a σ) s.heap.size (fun _ : Unit => (wM kc a σ))) (va_A (wM kc a σ) s.heap.size)) args s 0 0 (va_A (wM kc a σ) s.heap.size)) (F0 m 64 ls [.int s0j64]) := by
    intro s0j64 H locs ls G hl h
    refine lv_istore_n (lv' := [(2, .int s0j64), (0, .ref (a 0)), (1, .int p1)]) E.ex E.by dX12_isRefusedNode_64 rfl hl (by decide) rfl (fun ls hl => ?_)
    refine lv_iload_n E.ex E.by dX12_isRefusedNode_65 rfl (lv_at hl 0 rfl) ?_
    refine lv_if_ne (tgt := 94) E.ex E.by dX12_isRefusedNode_66 (by decide) (fun hc13 => ?_) (fun hc13 => ?_)
    · have h := h.1 hc13
      refine lv_iconst (v := 1) E.ex E.by dX12_isRefusedNode_94 (by decide) ?_
      refine lv_goto (tgt := 99) E.ex E.by dX12_isRefusedNode_95 (by decide) ?_
      exact k_ret (wof := (fun _ : Unit => (wM kc a σ))) (u := ()) E G rfl h (Nat.le_of_ble_eq_true rfl) (Nat.le_of_ble_eq_true rfl) dX12_isRefusedNode_99
    · have h := h.2 hc13
      refine lv_aload_n E.ex E.by dX12_isRefusedNode_69 rfl (lv_at hl 1 rfl) ?_
      refine k_get E G wi_X12_isRefusedNode_X12 0 (gM_0 _ _ _) rfl 17 rfl fl_X12_isRefusedNode_X12_17 (v := .ref (a 11)) rfl dX12_isRefusedNode_70 ?_
      refine lv_iload_n E.ex E.by dX12_isRefusedNode_73 rfl (lv_at hl 2 rfl) ?_
      refine k_iald E G 11 (gM_11 _ _ _) 0 rfl h.1 dX12_isRefusedNode_74 ?_
      have h := h.2
      refine k_cSi (X := (wM kc a σ)) (w := []) (Z := []) (wnew := (fun _ : Unit => (wM kc a σ))) (As := [.int (aA σ 6 (p1).toNatClampNeg)]) (rest := []) E (List.append_nil _).symm G (c_X12_hasTwo l D kc _ _ h) gX12_isRefusedNode_X12_hasTwo rfl ⟨rfl, rfl⟩ hd_X12_hasTwo_v ⟨Nat.ble_eq_true_of_le (show 0 + 1 ≤ F + 4 by omega), Nat.ble_eq_true_of_le (show 8 + (1 + 11) + (0) ≤ L + 100 by omega)⟩ rfl hl rfl rfl dX12_isRefusedNode_75 ⟨rfl, rfl⟩ (fun _ => (List.append_nil _).symm) (fun r9 _u75 hq H locs G => ?_)
      have h := hq
      refine lv_if_eq (tgt := 98) E.ex E.by dX12_isRefusedNode_78 (by decide) (fun hc12 => ?_) (fun hc12 => ?_)
      · have h := h.1 hc12
        refine lv_iconst (v := 0) E.ex E.by dX12_isRefusedNode_98 (by decide) ?_
        exact k_ret (wof := (fun _ : Unit => (wM kc a σ))) (u := ()) E G rfl h (Nat.le_of_ble_eq_true rfl) (Nat.le_of_ble_eq_true rfl) dX12_isRefusedNode_99
      · have h := h.2 hc12
        refine lv_aload_n E.ex E.by dX12_isRefusedNode_81 rfl (lv_at hl 1 rfl) ?_
        refine lv_aload_n E.ex E.by dX12_isRefusedNode_82 rfl (lv_at hl 1 rfl) ?_
        refine k_get E G wi_X12_isRefusedNode_X12 0 (gM_0 _ _ _) rfl 19 rfl fl_X12_isRefusedNode_X12_19 (v := .ref (a 13)) rfl dX12_isRefusedNode_83 ?_
        refine lv_iload_n E.ex E.by dX12_isRefusedNode_86 rfl (lv_at hl 2 rfl) ?_
        refine k_iald E G 13 (gM_13 _ _ _) 0 rfl h.1 dX12_isRefusedNode_87 ?_
        have h := h.2
        refine k_cVi (X := []) (w := (wM kc a σ)) (Z := []) (wnew := (fun _ : Unit => (wM kc a σ))) (As := [.int (aA σ 8 (p1).toNatClampNeg)]) (rest := []) E (List.append_nil _).symm G (HRF _ _ _ h) gX12_isRefusedNode_X12_isRefusedNode rfl ⟨rfl, rfl⟩ hd_X12_isRefusedNode_v ⟨Nat.ble_eq_true_of_le (show F + 0 + 1 ≤ F + 4 by omega), Nat.ble_eq_true_of_le (show 8 + (3 + 11) + (L + 0) ≤ L + 100 by omega)⟩ 0 (gM_0 _ _ _) rfl rfl hl rfl rfl dX12_isRefusedNode_88 ⟨rfl, rfl⟩ (fun _ => (List.append_nil _).symm) (fun r10 _u88 hq H locs G => ?_)
        have h := hq
        refine lv_if_eq (tgt := 98) E.ex E.by dX12_isRefusedNode_91 (by decide) (fun hc11 => ?_) (fun hc11 => ?_)
        · have h := h.1 hc11
          refine lv_iconst (v := 0) E.ex E.by dX12_isRefusedNode_98 (by decide) ?_
          exact k_ret (wof := (fun _ : Unit => (wM kc a σ))) (u := ()) E G rfl h (Nat.le_of_ble_eq_true rfl) (Nat.le_of_ble_eq_true rfl) dX12_isRefusedNode_99
        · have h := h.2 hc11
          refine lv_iconst (v := 1) E.ex E.by dX12_isRefusedNode_94 (by decide) ?_
          refine lv_goto (tgt := 99) E.ex E.by dX12_isRefusedNode_95 (by decide) ?_
          exact k_ret (wof := (fun _ : Unit => (wM kc a σ))) (u := ()) E G rfl h (Nat.le_of_ble_eq_true rfl) (Nat.le_of_ble_eq_true rfl) dX12_isRefusedNode_99
  have K59 : ∀  (H : Heap) (locs : List Loc) (ls : Array Slot), kG D (va_A (wM kc a σ) s.heap.size) s (wM kc a σ) H locs → lv_has ls 3 [(0, .ref (a 0)), (1, .int p1)] → wp_X12_isRefusedNode_J59 RF p1 σ Q → W p l e ({ frames := F + 4, cells := 0, slots := 0, locals := L + 100 } : Room) s m args below meth c H locs 0 0 (MQ below (va_Qi (fun r _ => Q r) (kB D (wM kc a σ) s.heap.size (fun _ : Unit => (wM kc a σ))) (va_A (wM kc a σ) s.heap.size)) args s 0 0 (va_A (wM kc a σ) s.heap.size)) (F0 m 59 ls []) := by
    intro  H locs ls G hl h
    refine lv_iconst (v := 1) E.ex E.by dX12_isRefusedNode_59 (by decide) ?_
    refine lv_goto (tgt := 64) E.ex E.by dX12_isRefusedNode_60 (by decide) ?_
    exact K64 _ _ _ _ G (lv_sub hl [0, 1] rfl) h
  have K63 : ∀  (H : Heap) (locs : List Loc) (ls : Array Slot), kG D (va_A (wM kc a σ) s.heap.size) s (wM kc a σ) H locs → lv_has ls 3 [(0, .ref (a 0)), (1, .int p1)] → wp_X12_isRefusedNode_J63 RF p1 σ Q → W p l e ({ frames := F + 4, cells := 0, slots := 0, locals := L + 100 } : Room) s m args below meth c H locs 0 0 (MQ below (va_Qi (fun r _ => Q r) (kB D (wM kc a σ) s.heap.size (fun _ : Unit => (wM kc a σ))) (va_A (wM kc a σ) s.heap.size)) args s 0 0 (va_A (wM kc a σ) s.heap.size)) (F0 m 63 ls []) := by
    intro  H locs ls G hl h
    refine lv_iconst (v := 0) E.ex E.by dX12_isRefusedNode_63 (by decide) ?_
    exact K64 _ _ _ _ G (lv_sub hl [0, 1] rfl) h
  have K29 : ∀ (s0j29 : Int32) (H : Heap) (locs : List Loc) (ls : Array Slot), kG D (va_A (wM kc a σ) s.heap.size) s (wM kc a σ) H locs → lv_has ls 3 [(0, .ref (a 0)), (1, .int p1)] → wp_X12_isRefusedNode_J29 RF p1 σ s0j29 Q → W p l e ({ frames := F + 4, cells := 0, slots := 0, locals := L + 100 } : Room) s m args below meth c H locs 0 0 (MQ below (va_Qi (fun r _ => Q r) (kB D (wM kc a σ) s.heap.size (fun _ : Unit => (wM kc a σ))) (va_A (wM kc a σ) s.heap.size)) args s 0 0 (va_A (wM kc a σ) s.heap.size)) (F0 m 29 ls [.int s0j29]) := by
    intro s0j29 H locs ls G hl h
    refine lv_istore_n (lv' := [(2, .int s0j29), (0, .ref (a 0)), (1, .int p1)]) E.ex E.by dX12_isRefusedNode_29 rfl hl (by decide) rfl (fun ls hl => ?_)
    refine lv_iload_n E.ex E.by dX12_isRefusedNode_30 rfl (lv_at hl 0 rfl) ?_
    refine lv_if_ne (tgt := 59) E.ex E.by dX12_isRefusedNode_31 (by decide) (fun hc8 => ?_) (fun hc8 => ?_)
    · have h := h.1 hc8
      exact K59  _ _ _ G (lv_sub hl [1, 2] rfl) h
    · have h := h.2 hc8
      refine lv_aload_n E.ex E.by dX12_isRefusedNode_34 rfl (lv_at hl 1 rfl) ?_
      refine k_get E G wi_X12_isRefusedNode_X12 0 (gM_0 _ _ _) rfl 17 rfl fl_X12_isRefusedNode_X12_17 (v := .ref (a 11)) rfl dX12_isRefusedNode_35 ?_
      refine lv_iload_n E.ex E.by dX12_isRefusedNode_38 rfl (lv_at hl 2 rfl) ?_
      refine k_iald E G 11 (gM_11 _ _ _) 0 rfl h.1 dX12_isRefusedNode_39 ?_
      have h := h.2
      refine k_cSi (X := (wM kc a σ)) (w := []) (Z := []) (wnew := (fun _ : Unit => (wM kc a σ))) (As := [.int (aA σ 6 (p1).toNatClampNeg)]) (rest := []) E (List.append_nil _).symm G (c_X12_hasOne l D kc _ _ h) gX12_isRefusedNode_X12_hasOne rfl ⟨rfl, rfl⟩ hd_X12_hasOne_v ⟨Nat.ble_eq_true_of_le (show 0 + 1 ≤ F + 4 by omega), Nat.ble_eq_true_of_le (show 8 + (1 + 11) + (0) ≤ L + 100 by omega)⟩ rfl hl rfl rfl dX12_isRefusedNode_40 ⟨rfl, rfl⟩ (fun _ => (List.append_nil _).symm) (fun r4 _u40 hq H locs G => ?_)
      have h := hq
      refine lv_if_eq (tgt := 63) E.ex E.by dX12_isRefusedNode_43 (by decide) (fun hc7 => ?_) (fun hc7 => ?_)
      · have h := h.1 hc7
        exact K63  _ _ _ G (lv_sub hl [1, 2] rfl) h
      · have h := h.2 hc7
        refine lv_aload_n E.ex E.by dX12_isRefusedNode_46 rfl (lv_at hl 1 rfl) ?_
        refine lv_aload_n E.ex E.by dX12_isRefusedNode_47 rfl (lv_at hl 1 rfl) ?_
        refine k_get E G wi_X12_isRefusedNode_X12 0 (gM_0 _ _ _) rfl 18 rfl fl_X12_isRefusedNode_X12_18 (v := .ref (a 12)) rfl dX12_isRefusedNode_48 ?_
        refine lv_iload_n E.ex E.by dX12_isRefusedNode_51 rfl (lv_at hl 2 rfl) ?_
        refine k_iald E G 12 (gM_12 _ _ _) 0 rfl h.1 dX12_isRefusedNode_52 ?_
        have h := h.2
        refine k_cVi (X := []) (w := (wM kc a σ)) (Z := []) (wnew := (fun _ : Unit => (wM kc a σ))) (As := [.int (aA σ 7 (p1).toNatClampNeg)]) (rest := []) E (List.append_nil _).symm G (HRF _ _ _ h) gX12_isRefusedNode_X12_isRefusedNode rfl ⟨rfl, rfl⟩ hd_X12_isRefusedNode_v ⟨Nat.ble_eq_true_of_le (show F + 0 + 1 ≤ F + 4 by omega), Nat.ble_eq_true_of_le (show 8 + (3 + 11) + (L + 0) ≤ L + 100 by omega)⟩ 0 (gM_0 _ _ _) rfl rfl hl rfl rfl dX12_isRefusedNode_53 ⟨rfl, rfl⟩ (fun _ => (List.append_nil _).symm) (fun r5 _u53 hq H locs G => ?_)
        have h := hq
        refine lv_if_eq (tgt := 63) E.ex E.by dX12_isRefusedNode_56 (by decide) (fun hc6 => ?_) (fun hc6 => ?_)
        · have h := h.1 hc6
          exact K63  _ _ _ G (lv_sub hl [1, 2] rfl) h
        · have h := h.2 hc6
          exact K59  _ _ _ G (lv_sub hl [1, 2] rfl) h
  have K28 : ∀  (H : Heap) (locs : List Loc) (ls : Array Slot), kG D (va_A (wM kc a σ) s.heap.size) s (wM kc a σ) H locs → lv_has ls 3 [(0, .ref (a 0)), (1, .int p1)] → wp_X12_isRefusedNode_J28 RF p1 σ Q → W p l e ({ frames := F + 4, cells := 0, slots := 0, locals := L + 100 } : Room) s m args below meth c H locs 0 0 (MQ below (va_Qi (fun r _ => Q r) (kB D (wM kc a σ) s.heap.size (fun _ : Unit => (wM kc a σ))) (va_A (wM kc a σ) s.heap.size)) args s 0 0 (va_A (wM kc a σ) s.heap.size)) (F0 m 28 ls []) := by
    intro  H locs ls G hl h
    refine lv_iconst (v := 0) E.ex E.by dX12_isRefusedNode_28 (by decide) ?_
    exact K29 _ _ _ _ G (lv_sub hl [0, 1] rfl) h
  refine lv_aload_n E.ex E.by dX12_isRefusedNode_0 rfl (lv_at hl 0 rfl) ?_
  refine k_get E G wi_X12_isRefusedNode_X12 0 (gM_0 _ _ _) rfl 17 rfl fl_X12_isRefusedNode_X12_17 (v := .ref (a 11)) rfl dX12_isRefusedNode_1 ?_
  refine lv_iload_n E.ex E.by dX12_isRefusedNode_4 rfl (lv_at hl 1 rfl) ?_
  refine k_iald E G 11 (gM_11 _ _ _) 0 rfl h.1 dX12_isRefusedNode_5 ?_
  have h := h.2
  refine lv_bipush (v := 66) E.ex E.by dX12_isRefusedNode_6 (by decide) ?_
  refine lv_icmp_ne (tgt := 28) E.ex E.by dX12_isRefusedNode_8 (by decide) (fun hc3 => ?_) (fun hc3 => ?_)
  · have h := h.1 hc3
    exact K28  _ _ _ G (lv_sub hl [0, 1] rfl) h
  · have h := h.2 hc3
    refine lv_aload_n E.ex E.by dX12_isRefusedNode_11 rfl (lv_at hl 0 rfl) ?_
    refine lv_aload_n E.ex E.by dX12_isRefusedNode_12 rfl (lv_at hl 0 rfl) ?_
    refine k_get E G wi_X12_isRefusedNode_X12 0 (gM_0 _ _ _) rfl 20 rfl fl_X12_isRefusedNode_X12_20 (v := .ref (a 14)) rfl dX12_isRefusedNode_13 ?_
    refine lv_iload_n E.ex E.by dX12_isRefusedNode_16 rfl (lv_at hl 1 rfl) ?_
    refine k_iald E G 14 (gM_14 _ _ _) 0 rfl h.1 dX12_isRefusedNode_17 ?_
    have h := h.2
    refine k_cVi (X := []) (w := (wM kc a σ)) (Z := []) (wnew := (fun _ : Unit => (wM kc a σ))) (As := [.int (aA σ 9 (p1).toNatClampNeg)]) (rest := []) E (List.append_nil _).symm G (c_X12_isRefused l D kc _ _ _ _ h) gX12_isRefusedNode_X12_isRefused rfl ⟨rfl, rfl⟩ hd_X12_isRefused_v ⟨Nat.ble_eq_true_of_le (show 3 + 1 ≤ F + 4 by omega), Nat.ble_eq_true_of_le (show 8 + (7 + 11) + (74) ≤ L + 100 by omega)⟩ 0 (gM_0 _ _ _) rfl rfl hl rfl rfl dX12_isRefusedNode_18 ⟨rfl, rfl⟩ (fun _ => (List.append_nil _).symm) (fun r1 _u18 hq H locs G => ?_)
    have h := hq
    refine lv_if_eq (tgt := 28) E.ex E.by dX12_isRefusedNode_21 (by decide) (fun hc2 => ?_) (fun hc2 => ?_)
    · have h := h.1 hc2
      exact K28  _ _ _ G (lv_sub hl [0, 1] rfl) h
    · have h := h.2 hc2
      refine lv_iconst (v := 1) E.ex E.by dX12_isRefusedNode_24 (by decide) ?_
      refine lv_goto (tgt := 29) E.ex E.by dX12_isRefusedNode_25 (by decide) ?_
      exact K29 _ _ _ _ G (lv_sub hl [0, 1] rfl) h
def wp_X12_isRefusedNode : Nat → Int32 → US → (Int32 → Prop) → Prop
  | 0 => fun _ _ _ => False
  | n + 1 => fun p1 σ Q => wp_X12_isRefusedNode_B (wp_X12_isRefusedNode n) p1 σ Q
theorem c_X12_isRefusedNode (l : Launch) (D : va_G) (kc : Nat → ClassId) (a : Nat → Nat) (n : Nat) : ∀ (q1 : Int32) (σ0 : US) (Q0 : Int32 → Prop), wp_X12_isRefusedNode n q1 σ0 Q0 → kCi l D (tyL kc) yX12_isRefusedNode wsX12_isRefusedNode ({ frames := 4 * n, cells := 0, slots := 0, locals := 100 * n } : Room) [.ref (a 0), .int q1] (wM kc a σ0) (fun _ : Unit => (wM kc a σ0)) 0 0 (fun r _ => Q0 r) := by
  induction n with
  | zero => intro _ _ _ h; exact absurd h (fun h => h)
  | succ n ih => intro _ _ _ h; exact c_X12_isRefusedNode_B l D kc a (4 * n) (100 * n) (wp_X12_isRefusedNode n) ih _ _ _ h
theorem wi_X12_fulfils_X12 : ∀ w ∈ wsX120, w ∈ wsX12_fulfils := fun w h => List.mem_cons_of_mem _ (List.mem_append_right _ (h))
theorem fl_X12_fulfils_X12_7 : Cond.fieldLink RX12 157 (TX12 7).1 (TX12 7).2.1 (TX12 7).2.2.1 ∈ wsX12_fulfils := List.mem_of_getElem? (i := 1) (by decide +kernel)
theorem fl_X12_fulfils_X12_23 : Cond.fieldLink RX12 59 (TX12 23).1 (TX12 23).2.1 (TX12 23).2.2.1 ∈ wsX12_fulfils := List.mem_of_getElem? (i := 2) (by decide +kernel)
theorem fl_X12_fulfils_X12_8 : Cond.fieldLink RX12 161 (TX12 8).1 (TX12 8).2.1 (TX12 8).2.2.1 ∈ wsX12_fulfils := List.mem_of_getElem? (i := 3) (by decide +kernel)
theorem fl_X12_fulfils_X12_22 : Cond.fieldLink RX12 56 (TX12 22).1 (TX12 22).2.1 (TX12 22).2.2.1 ∈ wsX12_fulfils := List.mem_of_getElem? (i := 4) (by decide +kernel)
theorem fl_X12_fulfils_X12_21 : Cond.fieldLink RX12 53 (TX12 21).1 (TX12 21).2.1 (TX12 21).2.2.1 ∈ wsX12_fulfils := List.mem_of_getElem? (i := 5) (by decide +kernel)
def wp_X12_fulfils (p1 : Int32) (σ : US) (Q : Int32 → Prop) : Prop := vp_in p1 300 ∧ (∀ x1 : Int64, x1 = (lJ σ 0) * ((aA σ 12 (p1).toNatClampNeg).toInt64) → vp_in p1 300 ∧ (∀ x2 : Int64, x2 = (lJ σ 1) * ((aA σ 11 (p1).toNatClampNeg).toInt64) → vp_in p1 300 ∧ (∀ x3 : Int32, x3 = aA σ 10 (p1).toNatClampNeg → (x3 = 60 → (0 ≤ (lg_cmp x1 x2) → Q 0) ∧ (¬ 0 ≤ (lg_cmp x1 x2) → Q 1)) ∧ (¬ x3 = 60 → (x3 = 62 → ((lg_cmp x1 x2) ≤ 0 → Q 0) ∧ (¬ (lg_cmp x1 x2) ≤ 0 → Q 1)) ∧ (¬ x3 = 62 → (x3 = 108 → (0 < (lg_cmp x1 x2) → Q 0) ∧ (¬ 0 < (lg_cmp x1 x2) → Q 1)) ∧ (¬ x3 = 108 → ((lg_cmp x1 x2) < 0 → Q 0) ∧ (¬ (lg_cmp x1 x2) < 0 → Q 1)))))))
set_option maxRecDepth 100000 in
set_option maxHeartbeats 4000000 in
theorem c_X12_fulfils (l : Launch) (D : va_G) (kc : Nat → ClassId) (a : Nat → Nat)  (p1 : Int32) (σ : US) (Q : Int32 → Prop) (h : wp_X12_fulfils p1 σ Q) : kCi l D (tyL kc) yX12_fulfils wsX12_fulfils ({ frames := 0, cells := 0, slots := 0, locals := 0 } : Room) [.ref (a 0), .int p1] (wM kc a σ) (fun _ : Unit => (wM kc a σ)) 0 0 (fun r _ => Q r) := by
  intro sz
  refine k_begin (cc := cX12_fulfils) (maxL := 6) (ret := (some .boolean)) (by decide +kernel) rfl rfl (fun p e s m args below meth c hsz E G ls hl => ?_)
  subst hsz
  have hl : lv_has ls 6 [(0, .ref (a 0)), (1, .int p1)] := hl
  refine lv_aload_n E.ex E.by dX12_fulfils_0 rfl (lv_at hl 0 rfl) ?_
  refine k_get E G wi_X12_fulfils_X12 0 (gM_0 _ _ _) rfl 7 rfl fl_X12_fulfils_X12_7 (v := .long (lJ σ 0)) rfl dX12_fulfils_1 ?_
  refine lv_aload_n E.ex E.by dX12_fulfils_4 rfl (lv_at hl 0 rfl) ?_
  refine k_get E G wi_X12_fulfils_X12 0 (gM_0 _ _ _) rfl 23 rfl fl_X12_fulfils_X12_23 (v := .ref (a 17)) rfl dX12_fulfils_5 ?_
  refine lv_iload_n E.ex E.by dX12_fulfils_8 rfl (lv_at hl 1 rfl) ?_
  refine k_iald E G 17 (gM_17 _ _ _) 0 rfl h.1 dX12_fulfils_9 ?_
  have h := h.2
  refine lv_i2l E.ex E.by dX12_fulfils_10 rfl ?_
  refine lv_lmul E.ex E.by dX12_fulfils_11 ?_
  refine lv_topl (fun x1 ex1 => ?_)
  have h := h x1 ex1
  refine lv_lstore_n (lv' := [(2, .long x1), (0, .ref (a 0)), (1, .int p1)]) E.ex E.by dX12_fulfils_12 rfl hl (by decide) rfl (fun ls hl => ?_)
  refine lv_aload_n E.ex E.by dX12_fulfils_13 rfl (lv_at hl 1 rfl) ?_
  refine k_get E G wi_X12_fulfils_X12 0 (gM_0 _ _ _) rfl 8 rfl fl_X12_fulfils_X12_8 (v := .long (lJ σ 1)) rfl dX12_fulfils_14 ?_
  refine lv_aload_n E.ex E.by dX12_fulfils_17 rfl (lv_at hl 1 rfl) ?_
  refine k_get E G wi_X12_fulfils_X12 0 (gM_0 _ _ _) rfl 22 rfl fl_X12_fulfils_X12_22 (v := .ref (a 16)) rfl dX12_fulfils_18 ?_
  refine lv_iload_n E.ex E.by dX12_fulfils_21 rfl (lv_at hl 2 rfl) ?_
  refine k_iald E G 16 (gM_16 _ _ _) 0 rfl h.1 dX12_fulfils_22 ?_
  have h := h.2
  refine lv_i2l E.ex E.by dX12_fulfils_23 rfl ?_
  refine lv_lmul E.ex E.by dX12_fulfils_24 ?_
  refine lv_topl (fun x2 ex2 => ?_)
  have h := h x2 ex2
  refine lv_lstore (lv' := [(4, .long x2), (2, .long x1), (0, .ref (a 0)), (1, .int p1)]) E.ex E.by dX12_fulfils_25 hl (by decide) rfl (fun ls hl => ?_)
  refine lv_aload_n E.ex E.by dX12_fulfils_27 rfl (lv_at hl 2 rfl) ?_
  refine k_get E G wi_X12_fulfils_X12 0 (gM_0 _ _ _) rfl 21 rfl fl_X12_fulfils_X12_21 (v := .ref (a 15)) rfl dX12_fulfils_28 ?_
  refine lv_iload_n E.ex E.by dX12_fulfils_31 rfl (lv_at hl 3 rfl) ?_
  refine k_iald E G 15 (gM_15 _ _ _) 0 rfl h.1 dX12_fulfils_32 ?_
  have h := h.2
  refine lv_topi (fun x3 ex3 => ?_)
  have h := h x3 ex3
  by_cases hs33_0 : x3 = 60
  · have h := h.1 hs33_0
    refine lv_lookup (off := 35) (tgt := 68) E.ex E.by dX12_fulfils_33 (by decide) (by rw [hs33_0]; decide) (by decide) ?_
    refine lv_lload_n E.ex E.by dX12_fulfils_68 rfl (lv_at hl 1 rfl) ?_
    refine lv_lload E.ex E.by dX12_fulfils_69 (lv_at hl 0 rfl) ?_
    refine W.lcmp E.ex E.by dX12_fulfils_71 ?_
    refine lv_if_ge (tgt := 79) E.ex E.by dX12_fulfils_72 (by decide) (fun hc4 => ?_) (fun hc4 => ?_)
    · have h := h.1 hc4
      refine lv_iconst (v := 0) E.ex E.by dX12_fulfils_79 (by decide) ?_
      exact k_ret (wof := (fun _ : Unit => (wM kc a σ))) (u := ()) E G rfl h (Nat.le_of_ble_eq_true rfl) (Nat.le_of_ble_eq_true rfl) dX12_fulfils_80
    · have h := h.2 hc4
      refine lv_iconst (v := 1) E.ex E.by dX12_fulfils_75 (by decide) ?_
      refine lv_goto (tgt := 80) E.ex E.by dX12_fulfils_76 (by decide) ?_
      exact k_ret (wof := (fun _ : Unit => (wM kc a σ))) (u := ()) E G rfl h (Nat.le_of_ble_eq_true rfl) (Nat.le_of_ble_eq_true rfl) dX12_fulfils_80
  · have h := h.2 hs33_0
    by_cases hs33_1 : x3 = 62
    · have h := h.1 hs33_1
      refine lv_lookup (off := 61) (tgt := 94) E.ex E.by dX12_fulfils_33 (by decide) (by rw [hs33_1]; decide) (by decide) ?_
      refine lv_lload_n E.ex E.by dX12_fulfils_94 rfl (lv_at hl 1 rfl) ?_
      refine lv_lload E.ex E.by dX12_fulfils_95 (lv_at hl 0 rfl) ?_
      refine W.lcmp E.ex E.by dX12_fulfils_97 ?_
      refine lv_if_le (tgt := 105) E.ex E.by dX12_fulfils_98 (by decide) (fun hc5 => ?_) (fun hc5 => ?_)
      · have h := h.1 hc5
        refine lv_iconst (v := 0) E.ex E.by dX12_fulfils_105 (by decide) ?_
        exact k_ret (wof := (fun _ : Unit => (wM kc a σ))) (u := ()) E G rfl h (Nat.le_of_ble_eq_true rfl) (Nat.le_of_ble_eq_true rfl) dX12_fulfils_106
      · have h := h.2 hc5
        refine lv_iconst (v := 1) E.ex E.by dX12_fulfils_101 (by decide) ?_
        refine lv_goto (tgt := 106) E.ex E.by dX12_fulfils_102 (by decide) ?_
        exact k_ret (wof := (fun _ : Unit => (wM kc a σ))) (u := ()) E G rfl h (Nat.le_of_ble_eq_true rfl) (Nat.le_of_ble_eq_true rfl) dX12_fulfils_106
    · have h := h.2 hs33_1
      by_cases hs33_2 : x3 = 108
      · have h := h.1 hs33_2
        refine lv_lookup (off := 48) (tgt := 81) E.ex E.by dX12_fulfils_33 (by decide) (by rw [hs33_2]; decide) (by decide) ?_
        refine lv_lload_n E.ex E.by dX12_fulfils_81 rfl (lv_at hl 1 rfl) ?_
        refine lv_lload E.ex E.by dX12_fulfils_82 (lv_at hl 0 rfl) ?_
        refine W.lcmp E.ex E.by dX12_fulfils_84 ?_
        refine lv_if_gt (tgt := 92) E.ex E.by dX12_fulfils_85 (by decide) (fun hc6 => ?_) (fun hc6 => ?_)
        · have h := h.1 hc6
          refine lv_iconst (v := 0) E.ex E.by dX12_fulfils_92 (by decide) ?_
          exact k_ret (wof := (fun _ : Unit => (wM kc a σ))) (u := ()) E G rfl h (Nat.le_of_ble_eq_true rfl) (Nat.le_of_ble_eq_true rfl) dX12_fulfils_93
        · have h := h.2 hc6
          refine lv_iconst (v := 1) E.ex E.by dX12_fulfils_88 (by decide) ?_
          refine lv_goto (tgt := 93) E.ex E.by dX12_fulfils_89 (by decide) ?_
          exact k_ret (wof := (fun _ : Unit => (wM kc a σ))) (u := ()) E G rfl h (Nat.le_of_ble_eq_true rfl) (Nat.le_of_ble_eq_true rfl) dX12_fulfils_93
      · have h := h.2 hs33_2
        refine lv_lookup (off := 74) (tgt := 107) E.ex E.by dX12_fulfils_33 (by decide) ((lv_osw hs33_0 (by decide)).trans ((lv_osw hs33_1 (by decide)).trans ((lv_osw hs33_2 (by decide)).trans (rfl)))) (by decide) ?_
        refine lv_lload_n E.ex E.by dX12_fulfils_107 rfl (lv_at hl 1 rfl) ?_
        refine lv_lload E.ex E.by dX12_fulfils_108 (lv_at hl 0 rfl) ?_
        refine W.lcmp E.ex E.by dX12_fulfils_110 ?_
        refine lv_if_lt (tgt := 118) E.ex E.by dX12_fulfils_111 (by decide) (fun hc7 => ?_) (fun hc7 => ?_)
        · have h := h.1 hc7
          refine lv_iconst (v := 0) E.ex E.by dX12_fulfils_118 (by decide) ?_
          exact k_ret (wof := (fun _ : Unit => (wM kc a σ))) (u := ()) E G rfl h (Nat.le_of_ble_eq_true rfl) (Nat.le_of_ble_eq_true rfl) dX12_fulfils_119
        · have h := h.2 hc7
          refine lv_iconst (v := 1) E.ex E.by dX12_fulfils_114 (by decide) ?_
          refine lv_goto (tgt := 119) E.ex E.by dX12_fulfils_115 (by decide) ?_
          exact k_ret (wof := (fun _ : Unit => (wM kc a σ))) (u := ()) E G rfl h (Nat.le_of_ble_eq_true rfl) (Nat.le_of_ble_eq_true rfl) dX12_fulfils_119
theorem wi_X12_find_X12 : ∀ w ∈ wsX120, w ∈ wsX12_find := fun w h => List.mem_cons_of_mem _ (List.mem_append_right _ (h))
theorem fl_X12_find_X12_17 : Cond.fieldLink RX12 41 (TX12 17).1 (TX12 17).2.1 (TX12 17).2.2.1 ∈ wsX12_find := List.mem_of_getElem? (i := 1) (by decide +kernel)
theorem fl_X12_find_X12_20 : Cond.fieldLink RX12 50 (TX12 20).1 (TX12 20).2.1 (TX12 20).2.2.1 ∈ wsX12_find := List.mem_of_getElem? (i := 4) (by decide +kernel)
theorem hd_X12_findWithin_v : yX12_findWithin.cls = RX12 ∧ yX12_findWithin.cls ≠ "java/lang/invoke/MethodHandle" ∧ yX12_findWithin.cls ≠ "java/lang/invoke/VarHandle" ∧ (parseMethodDescriptor yX12_findWithin.desc).map (fun d => d.parameters.length) = some 4 := by decide +kernel
theorem fl_X12_find_X12_8 : Cond.fieldLink RX12 161 (TX12 8).1 (TX12 8).2.1 (TX12 8).2.2.1 ∈ wsX12_find := List.mem_of_getElem? (i := 2) (by decide +kernel)
theorem fl_X12_find_X12_7 : Cond.fieldLink RX12 157 (TX12 7).1 (TX12 7).2.1 (TX12 7).2.2.1 ∈ wsX12_find := List.mem_of_getElem? (i := 3) (by decide +kernel)
theorem hd_X12_findSteady_v : yX12_findSteady.cls = RX12 ∧ yX12_findSteady.cls ≠ "java/lang/invoke/MethodHandle" ∧ yX12_findSteady.cls ≠ "java/lang/invoke/VarHandle" ∧ (parseMethodDescriptor yX12_findSteady.desc).map (fun d => d.parameters.length) = some 2 := by decide +kernel
theorem hd_X12_findExpected_v : yX12_findExpected.cls = RX12 ∧ yX12_findExpected.cls ≠ "java/lang/invoke/MethodHandle" ∧ yX12_findExpected.cls ≠ "java/lang/invoke/VarHandle" ∧ (parseMethodDescriptor yX12_findExpected.desc).map (fun d => d.parameters.length) = some 2 := by decide +kernel
def wp_X12_find (p1 : Int32) (p2 : Int32) (p3 : Int32) (p4 : Int32) (σ : US) (Q : Int32 → US → Prop) : Prop := vp_in p1 300 ∧ (∀ x1 : Int32, x1 = aA σ 6 (p1).toNatClampNeg → (x1 = 66 → vp_in p1 300 ∧ (wp_X12_findWithin p2 p3 (aA σ 9 (p1).toNatClampNeg) p4 σ (fun (u2 : US) => Q 1 u2))) ∧ (¬ x1 = 66 → (x1 = 70 → wp_X12_all σ (fun (r3 : Int32) => wp_X12_findUntil r3 p2 p4 σ (fun (u4 : US) => Q 1 u4))) ∧ (¬ x1 = 70 → (x1 = 71 → wp_X12_all σ (fun (r5 : Int32) => wp_X12_all σ (fun (r6 : Int32) => wp_X12_findUntil r5 (r6 &&& (p2 ^^^ (-1))) p4 σ (fun (u7 : US) => wp_X12_give ((lJ u7 1) - (lJ u7 0)) (lJ u7 1) u7 (fun (u8 : US) => Q 1 u8))))) ∧ (¬ x1 = 71 → (x1 = 83 → wp_X12_findSteady p2 p4 σ (fun (u9 : US) => Q 1 u9)) ∧ (¬ x1 = 83 → (x1 = 85 → wp_X12_findUntil p2 p3 p4 σ (fun (u10 : US) => Q 1 u10)) ∧ (¬ x1 = 85 → (x1 = 88 → wp_X12_weightInto p4 p2 σ (fun (r11 : Int32) => wp_X12_sumOf p4 σ (fun (r12 : Int32) => wp_X12_give (r11.toInt64) (r12.toInt64) σ (fun (u13 : US) => Q 1 u13)))) ∧ (¬ x1 = 88 → wp_X12_findExpected p2 p4 σ (fun (r14 : Int32) (u15 : US) => kbo r14 ∧ Q r14 u15))))))))
set_option maxRecDepth 100000 in
set_option maxHeartbeats 4000000 in
theorem c_X12_find (l : Launch) (D : va_G) (kc : Nat → ClassId) (a : Nat → Nat)  (p1 : Int32) (p2 : Int32) (p3 : Int32) (p4 : Int32) (σ : US) (Q : Int32 → US → Prop) (h : wp_X12_find p1 p2 p3 p4 σ Q) : kCi l D (tyL kc) yX12_find wsX12_find ({ frames := 6, cells := 0, slots := 0, locals := 159 } : Room) [.ref (a 0), .int p1, .int p2, .int p3, .int p4] (wM kc a σ) (fun u : US => (wM kc a u)) 0 0 (fun r u => Q r u) := by
  intro sz
  refine k_begin (cc := cX12_find) (maxL := 5) (ret := (some .boolean)) (by decide +kernel) rfl rfl (fun p e s m args below meth c hsz E G ls hl => ?_)
  subst hsz
  have hl : lv_has ls 5 [(0, .ref (a 0)), (1, .int p1), (2, .int p2), (3, .int p3), (4, .int p4)] := hl
  refine lv_aload_n E.ex E.by dX12_find_0 rfl (lv_at hl 0 rfl) ?_
  refine k_get E G wi_X12_find_X12 0 (gM_0 _ _ _) rfl 17 rfl fl_X12_find_X12_17 (v := .ref (a 11)) rfl dX12_find_1 ?_
  refine lv_iload_n E.ex E.by dX12_find_4 rfl (lv_at hl 1 rfl) ?_
  refine k_iald E G 11 (gM_11 _ _ _) 0 rfl h.1 dX12_find_5 ?_
  have h := h.2
  refine lv_topi (fun x1 ex1 => ?_)
  have h := h x1 ex1
  by_cases hs6_0 : x1 = 66
  · have h := h.1 hs6_0
    refine lv_lookup (off := 139) (tgt := 145) E.ex E.by dX12_find_6 (by decide) (by rw [hs6_0]; decide) (by decide) ?_
    refine lv_aload_n E.ex E.by dX12_find_145 rfl (lv_at hl 0 rfl) ?_
    refine lv_iload_n E.ex E.by dX12_find_146 rfl (lv_at hl 2 rfl) ?_
    refine lv_iload_n E.ex E.by dX12_find_147 rfl (lv_at hl 3 rfl) ?_
    refine lv_aload_n E.ex E.by dX12_find_148 rfl (lv_at hl 0 rfl) ?_
    refine k_get E G wi_X12_find_X12 0 (gM_0 _ _ _) rfl 20 rfl fl_X12_find_X12_20 (v := .ref (a 14)) rfl dX12_find_149 ?_
    refine lv_iload_n E.ex E.by dX12_find_152 rfl (lv_at hl 1 rfl) ?_
    refine k_iald E G 14 (gM_14 _ _ _) 0 rfl h.1 dX12_find_153 ?_
    have h := h.2
    refine lv_iload E.ex E.by dX12_find_154 (lv_at hl 4 rfl) ?_
    refine k_cVv (X := []) (w := (wM kc a σ)) (Z := []) (wnew := (fun u : US => (wM kc a u))) (As := [.int p2, .int p3, .int (aA σ 9 (p1).toNatClampNeg), .int p4]) (rest := []) E (List.append_nil _).symm G (c_X12_findWithin l D kc _ _ _ _ _ _ _ h) gX12_find_X12_findWithin rfl ⟨rfl, rfl⟩ hd_X12_findWithin_v ⟨rfl, rfl⟩ 0 (gM_0 _ _ _) rfl rfl hl rfl rfl dX12_find_156 ⟨rfl, rfl⟩ (fun _ => (List.append_nil _).symm) (fun u2 hq H locs G => ?_)
    have h := hq
    refine lv_iconst (v := 1) E.ex E.by dX12_find_159 (by decide) ?_
    exact k_ret (wof := (fun u : US => (wM kc a u))) (u := u2) E G rfl h (Nat.le_of_ble_eq_true rfl) (Nat.le_of_ble_eq_true rfl) dX12_find_160
  · have h := h.2 hs6_0
    by_cases hs6_1 : x1 = 70
    · have h := h.1 hs6_1
      refine lv_lookup (off := 79) (tgt := 85) E.ex E.by dX12_find_6 (by decide) (by rw [hs6_1]; decide) (by decide) ?_
      refine lv_aload_n E.ex E.by dX12_find_85 rfl (lv_at hl 0 rfl) ?_
      refine lv_aload_n E.ex E.by dX12_find_86 rfl (lv_at hl 0 rfl) ?_
      refine k_cVi (X := []) (w := (wM kc a σ)) (Z := []) (wnew := (fun _ : Unit => (wM kc a σ))) (As := []) (rest := [.ref (a 0)]) E (List.append_nil _).symm G (c_X12_all l D kc _ _ _ h) gX12_find_X12_all rfl ⟨rfl, rfl⟩ hd_X12_all_v ⟨rfl, rfl⟩ 0 (gM_0 _ _ _) rfl rfl hl rfl rfl dX12_find_87 ⟨rfl, rfl⟩ (fun _ => (List.append_nil _).symm) (fun r3 _u87 hq H locs G => ?_)
      have h := hq
      refine lv_iload_n E.ex E.by dX12_find_90 rfl (lv_at hl 2 rfl) ?_
      refine lv_iload E.ex E.by dX12_find_91 (lv_at hl 4 rfl) ?_
      refine k_cVv (X := []) (w := (wM kc a σ)) (Z := []) (wnew := (fun u : US => (wM kc a u))) (As := [.int r3, .int p2, .int p4]) (rest := []) E (List.append_nil _).symm G (c_X12_findUntil l D kc _ _ _ _ _ _ h) gX12_find_X12_findUntil rfl ⟨rfl, rfl⟩ hd_X12_findUntil_v ⟨rfl, rfl⟩ 0 (gM_0 _ _ _) rfl rfl hl rfl rfl dX12_find_93 ⟨rfl, rfl⟩ (fun _ => (List.append_nil _).symm) (fun u4 hq H locs G => ?_)
      have h := hq
      refine lv_iconst (v := 1) E.ex E.by dX12_find_96 (by decide) ?_
      exact k_ret (wof := (fun u : US => (wM kc a u))) (u := u4) E G rfl h (Nat.le_of_ble_eq_true rfl) (Nat.le_of_ble_eq_true rfl) dX12_find_97
    · have h := h.2 hs6_1
      by_cases hs6_2 : x1 = 71
      · have h := h.1 hs6_2
        refine lv_lookup (off := 92) (tgt := 98) E.ex E.by dX12_find_6 (by decide) (by rw [hs6_2]; decide) (by decide) ?_
        refine lv_aload_n E.ex E.by dX12_find_98 rfl (lv_at hl 0 rfl) ?_
        refine lv_aload_n E.ex E.by dX12_find_99 rfl (lv_at hl 0 rfl) ?_
        refine k_cVi (X := []) (w := (wM kc a σ)) (Z := []) (wnew := (fun _ : Unit => (wM kc a σ))) (As := []) (rest := [.ref (a 0)]) E (List.append_nil _).symm G (c_X12_all l D kc _ _ _ h) gX12_find_X12_all rfl ⟨rfl, rfl⟩ hd_X12_all_v ⟨rfl, rfl⟩ 0 (gM_0 _ _ _) rfl rfl hl rfl rfl dX12_find_100 ⟨rfl, rfl⟩ (fun _ => (List.append_nil _).symm) (fun r5 _u100 hq H locs G => ?_)
        have h := hq
        refine lv_aload_n E.ex E.by dX12_find_103 rfl (lv_at hl 0 rfl) ?_
        refine k_cVi (X := []) (w := (wM kc a σ)) (Z := []) (wnew := (fun _ : Unit => (wM kc a σ))) (As := []) (rest := [.int r5, .ref (a 0)]) E (List.append_nil _).symm G (c_X12_all l D kc _ _ _ h) gX12_find_X12_all rfl ⟨rfl, rfl⟩ hd_X12_all_v ⟨rfl, rfl⟩ 0 (gM_0 _ _ _) rfl rfl hl rfl rfl dX12_find_104 ⟨rfl, rfl⟩ (fun _ => (List.append_nil _).symm) (fun r6 _u104 hq H locs G => ?_)
        have h := hq
        refine lv_iload_n E.ex E.by dX12_find_107 rfl (lv_at hl 2 rfl) ?_
        refine lv_iconst (v := (-1)) E.ex E.by dX12_find_108 (by decide) ?_
        refine lv_ixor E.ex E.by dX12_find_109 ?_
        refine lv_iand E.ex E.by dX12_find_110 ?_
        refine lv_iload E.ex E.by dX12_find_111 (lv_at hl 4 rfl) ?_
        refine k_cVv (X := []) (w := (wM kc a σ)) (Z := []) (wnew := (fun u : US => (wM kc a u))) (As := [.int r5, .int (r6 &&& (p2 ^^^ (-1))), .int p4]) (rest := []) E (List.append_nil _).symm G (c_X12_findUntil l D kc _ _ _ _ _ _ h) gX12_find_X12_findUntil rfl ⟨rfl, rfl⟩ hd_X12_findUntil_v ⟨rfl, rfl⟩ 0 (gM_0 _ _ _) rfl rfl hl rfl rfl dX12_find_113 ⟨rfl, rfl⟩ (fun _ => (List.append_nil _).symm) (fun u7 hq H locs G => ?_)
        have h := hq
        refine lv_aload_n E.ex E.by dX12_find_116 rfl (lv_at hl 0 rfl) ?_
        refine lv_aload_n E.ex E.by dX12_find_117 rfl (lv_at hl 0 rfl) ?_
        refine k_get E G wi_X12_find_X12 0 (gM_0 _ _ _) rfl 8 rfl fl_X12_find_X12_8 (v := .long (lJ u7 1)) rfl dX12_find_118 ?_
        refine lv_aload_n E.ex E.by dX12_find_121 rfl (lv_at hl 0 rfl) ?_
        refine k_get E G wi_X12_find_X12 0 (gM_0 _ _ _) rfl 7 rfl fl_X12_find_X12_7 (v := .long (lJ u7 0)) rfl dX12_find_122 ?_
        refine lv_lsub E.ex E.by dX12_find_125 ?_
        refine lv_aload_n E.ex E.by dX12_find_126 rfl (lv_at hl 0 rfl) ?_
        refine k_get E G wi_X12_find_X12 0 (gM_0 _ _ _) rfl 8 rfl fl_X12_find_X12_8 (v := .long (lJ u7 1)) rfl dX12_find_127 ?_
        refine k_cVv (X := []) (w := (wM kc a u7)) (Z := []) (wnew := (fun u : US => (wM kc a u))) (As := [.long ((lJ u7 1) - (lJ u7 0)), .long (lJ u7 1)]) (rest := []) E (List.append_nil _).symm G (c_X12_give l D kc _ _ _ _ _ h) gX12_find_X12_give rfl ⟨rfl, rfl⟩ hd_X12_give_v ⟨rfl, rfl⟩ 0 (gM_0 _ _ _) rfl rfl hl rfl rfl dX12_find_130 ⟨rfl, rfl⟩ (fun _ => (List.append_nil _).symm) (fun u8 hq H locs G => ?_)
        have h := hq
        refine lv_iconst (v := 1) E.ex E.by dX12_find_133 (by decide) ?_
        exact k_ret (wof := (fun u : US => (wM kc a u))) (u := u8) E G rfl h (Nat.le_of_ble_eq_true rfl) (Nat.le_of_ble_eq_true rfl) dX12_find_134
      · have h := h.2 hs6_2
        by_cases hs6_3 : x1 = 83
        · have h := h.1 hs6_3
          refine lv_lookup (off := 155) (tgt := 161) E.ex E.by dX12_find_6 (by decide) (by rw [hs6_3]; decide) (by decide) ?_
          refine lv_aload_n E.ex E.by dX12_find_161 rfl (lv_at hl 0 rfl) ?_
          refine lv_iload_n E.ex E.by dX12_find_162 rfl (lv_at hl 2 rfl) ?_
          refine lv_iload E.ex E.by dX12_find_163 (lv_at hl 4 rfl) ?_
          refine k_cVv (X := []) (w := (wM kc a σ)) (Z := []) (wnew := (fun u : US => (wM kc a u))) (As := [.int p2, .int p4]) (rest := []) E (List.append_nil _).symm G (c_X12_findSteady l D kc _ _ _ _ _ h) gX12_find_X12_findSteady rfl ⟨rfl, rfl⟩ hd_X12_findSteady_v ⟨rfl, rfl⟩ 0 (gM_0 _ _ _) rfl rfl hl rfl rfl dX12_find_165 ⟨rfl, rfl⟩ (fun _ => (List.append_nil _).symm) (fun u9 hq H locs G => ?_)
          have h := hq
          refine lv_iconst (v := 1) E.ex E.by dX12_find_168 (by decide) ?_
          exact k_ret (wof := (fun u : US => (wM kc a u))) (u := u9) E G rfl h (Nat.le_of_ble_eq_true rfl) (Nat.le_of_ble_eq_true rfl) dX12_find_169
        · have h := h.2 hs6_3
          by_cases hs6_4 : x1 = 85
          · have h := h.1 hs6_4
            refine lv_lookup (off := 129) (tgt := 135) E.ex E.by dX12_find_6 (by decide) (by rw [hs6_4]; decide) (by decide) ?_
            refine lv_aload_n E.ex E.by dX12_find_135 rfl (lv_at hl 0 rfl) ?_
            refine lv_iload_n E.ex E.by dX12_find_136 rfl (lv_at hl 2 rfl) ?_
            refine lv_iload_n E.ex E.by dX12_find_137 rfl (lv_at hl 3 rfl) ?_
            refine lv_iload E.ex E.by dX12_find_138 (lv_at hl 4 rfl) ?_
            refine k_cVv (X := []) (w := (wM kc a σ)) (Z := []) (wnew := (fun u : US => (wM kc a u))) (As := [.int p2, .int p3, .int p4]) (rest := []) E (List.append_nil _).symm G (c_X12_findUntil l D kc _ _ _ _ _ _ h) gX12_find_X12_findUntil rfl ⟨rfl, rfl⟩ hd_X12_findUntil_v ⟨rfl, rfl⟩ 0 (gM_0 _ _ _) rfl rfl hl rfl rfl dX12_find_140 ⟨rfl, rfl⟩ (fun _ => (List.append_nil _).symm) (fun u10 hq H locs G => ?_)
            have h := hq
            refine lv_iconst (v := 1) E.ex E.by dX12_find_143 (by decide) ?_
            exact k_ret (wof := (fun u : US => (wM kc a u))) (u := u10) E G rfl h (Nat.le_of_ble_eq_true rfl) (Nat.le_of_ble_eq_true rfl) dX12_find_144
          · have h := h.2 hs6_4
            by_cases hs6_5 : x1 = 88
            · have h := h.1 hs6_5
              refine lv_lookup (off := 58) (tgt := 64) E.ex E.by dX12_find_6 (by decide) (by rw [hs6_5]; decide) (by decide) ?_
              refine lv_aload_n E.ex E.by dX12_find_64 rfl (lv_at hl 0 rfl) ?_
              refine lv_aload_n E.ex E.by dX12_find_65 rfl (lv_at hl 0 rfl) ?_
              refine lv_iload E.ex E.by dX12_find_66 (lv_at hl 4 rfl) ?_
              refine lv_iload_n E.ex E.by dX12_find_68 rfl (lv_at hl 2 rfl) ?_
              refine k_cVi (X := []) (w := (wM kc a σ)) (Z := []) (wnew := (fun _ : Unit => (wM kc a σ))) (As := [.int p4, .int p2]) (rest := [.ref (a 0)]) E (List.append_nil _).symm G (c_X12_weightInto l D kc _ _ _ _ _ h) gX12_find_X12_weightInto rfl ⟨rfl, rfl⟩ hd_X12_weightInto_v ⟨rfl, rfl⟩ 0 (gM_0 _ _ _) rfl rfl hl rfl rfl dX12_find_69 ⟨rfl, rfl⟩ (fun _ => (List.append_nil _).symm) (fun r11 _u69 hq H locs G => ?_)
              have h := hq
              refine lv_i2l E.ex E.by dX12_find_72 rfl ?_
              refine lv_aload_n E.ex E.by dX12_find_73 rfl (lv_at hl 0 rfl) ?_
              refine lv_iload E.ex E.by dX12_find_74 (lv_at hl 4 rfl) ?_
              refine k_cVi (X := []) (w := (wM kc a σ)) (Z := []) (wnew := (fun _ : Unit => (wM kc a σ))) (As := [.int p4]) (rest := [.long (r11.toInt64), .ref (a 0)]) E (List.append_nil _).symm G (c_X12_sumOf l D kc _ _ _ _ h) gX12_find_X12_sumOf rfl ⟨rfl, rfl⟩ hd_X12_sumOf_v ⟨rfl, rfl⟩ 0 (gM_0 _ _ _) rfl rfl hl rfl rfl dX12_find_76 ⟨rfl, rfl⟩ (fun _ => (List.append_nil _).symm) (fun r12 _u76 hq H locs G => ?_)
              have h := hq
              refine lv_i2l E.ex E.by dX12_find_79 rfl ?_
              refine k_cVv (X := []) (w := (wM kc a σ)) (Z := []) (wnew := (fun u : US => (wM kc a u))) (As := [.long (r11.toInt64), .long (r12.toInt64)]) (rest := []) E (List.append_nil _).symm G (c_X12_give l D kc _ _ _ _ _ h) gX12_find_X12_give rfl ⟨rfl, rfl⟩ hd_X12_give_v ⟨rfl, rfl⟩ 0 (gM_0 _ _ _) rfl rfl hl rfl rfl dX12_find_80 ⟨rfl, rfl⟩ (fun _ => (List.append_nil _).symm) (fun u13 hq H locs G => ?_)
              have h := hq
              refine lv_iconst (v := 1) E.ex E.by dX12_find_83 (by decide) ?_
              exact k_ret (wof := (fun u : US => (wM kc a u))) (u := u13) E G rfl h (Nat.le_of_ble_eq_true rfl) (Nat.le_of_ble_eq_true rfl) dX12_find_84
            · have h := h.2 hs6_5
              refine lv_lookup (off := 164) (tgt := 170) E.ex E.by dX12_find_6 (by decide) ((lv_osw hs6_0 (by decide)).trans ((lv_osw hs6_1 (by decide)).trans ((lv_osw hs6_2 (by decide)).trans ((lv_osw hs6_3 (by decide)).trans ((lv_osw hs6_4 (by decide)).trans ((lv_osw hs6_5 (by decide)).trans (rfl))))))) (by decide) ?_
              refine lv_aload_n E.ex E.by dX12_find_170 rfl (lv_at hl 0 rfl) ?_
              refine lv_iload_n E.ex E.by dX12_find_171 rfl (lv_at hl 2 rfl) ?_
              refine lv_iload E.ex E.by dX12_find_172 (lv_at hl 4 rfl) ?_
              refine k_cVi (X := []) (w := (wM kc a σ)) (Z := []) (wnew := (fun u : US => (wM kc a u))) (As := [.int p2, .int p4]) (rest := []) E (List.append_nil _).symm G (c_X12_findExpected l D kc _ _ _ _ _ h) gX12_find_X12_findExpected rfl ⟨rfl, rfl⟩ hd_X12_findExpected_v ⟨rfl, rfl⟩ 0 (gM_0 _ _ _) rfl rfl hl rfl rfl dX12_find_174 ⟨rfl, rfl⟩ (fun _ => (List.append_nil _).symm) (fun r14 u15 hq H locs G => ?_)
              have h := hq
              exact k_ret (wof := (fun u : US => (wM kc a u))) (u := u15) E G h.1 h.2 (Nat.le_of_ble_eq_true rfl) (Nat.le_of_ble_eq_true rfl) dX12_find_177
theorem wi_X12_setOf_X12 : ∀ w ∈ wsX120, w ∈ wsX12_setOf := fun w h => List.mem_cons_of_mem _ (List.mem_append_right _ (h))
theorem fl_X12_setOf_X12_17 : Cond.fieldLink RX12 41 (TX12 17).1 (TX12 17).2.1 (TX12 17).2.2.1 ∈ wsX12_setOf := List.mem_of_getElem? (i := 1) (by decide +kernel)
theorem fl_X12_setOf_X12_18 : Cond.fieldLink RX12 44 (TX12 18).1 (TX12 18).2.1 (TX12 18).2.2.1 ∈ wsX12_setOf := List.mem_of_getElem? (i := 4) (by decide +kernel)
theorem fl_X12_setOf_X12_0 : Cond.fieldLink RX12 9 (TX12 0).1 (TX12 0).2.1 (TX12 0).2.2.1 ∈ wsX12_setOf := List.mem_of_getElem? (i := 2) (by decide +kernel)
theorem fl_X12_setOf_X12_21 : Cond.fieldLink RX12 53 (TX12 21).1 (TX12 21).2.1 (TX12 21).2.2.1 ∈ wsX12_setOf := List.mem_of_getElem? (i := 6) (by decide +kernel)
theorem hd_X12_fulfils_v : yX12_fulfils.cls = RX12 ∧ yX12_fulfils.cls ≠ "java/lang/invoke/MethodHandle" ∧ yX12_fulfils.cls ≠ "java/lang/invoke/VarHandle" ∧ (parseMethodDescriptor yX12_fulfils.desc).map (fun d => d.parameters.length) = some 1 := by decide +kernel
theorem hd_X12_find_v : yX12_find.cls = RX12 ∧ yX12_find.cls ≠ "java/lang/invoke/MethodHandle" ∧ yX12_find.cls ≠ "java/lang/invoke/VarHandle" ∧ (parseMethodDescriptor yX12_find.desc).map (fun d => d.parameters.length) = some 4 := by decide +kernel
theorem fl_X12_setOf_X12_19 : Cond.fieldLink RX12 47 (TX12 19).1 (TX12 19).2.1 (TX12 19).2.2.1 ∈ wsX12_setOf := List.mem_of_getElem? (i := 5) (by decide +kernel)
theorem hd_X12_setOf_v : yX12_setOf.cls = RX12 ∧ yX12_setOf.cls ≠ "java/lang/invoke/MethodHandle" ∧ yX12_setOf.cls ≠ "java/lang/invoke/VarHandle" ∧ (parseMethodDescriptor yX12_setOf.desc).map (fun d => d.parameters.length) = some 1 := by decide +kernel
theorem fl_X12_setOf_X12_20 : Cond.fieldLink RX12 50 (TX12 20).1 (TX12 20).2.1 (TX12 20).2.2.1 ∈ wsX12_setOf := List.mem_of_getElem? (i := 3) (by decide +kernel)
def wp_X12_setOf_J226 (RF : Int32 → US → (Int32 → US → Prop) → Prop) (v1j226 : Int32) (v3j226 : Int32) (v4j226 : Int32) (v5j226 : Int32) (v6j226 : Int32) (σ'j226 : US) (s0j226 : Int32) (P162 : (Int32 × Int32 × US) → Prop) (Q : Int32 → US → Prop) : Prop := (s0j226 = 0 → ∀ x8 : Int32, x8 = v3j226 ||| 0 → P162 (x8, v6j226 + 1, σ'j226)) ∧ (¬ s0j226 = 0 → ∀ x9 : Int32, x9 = v3j226 ||| (1 <<< (v6j226 &&& 31)) → P162 (x9, v6j226 + 1, σ'j226))
def wp_X12_setOf_J221 (RF : Int32 → US → (Int32 → US → Prop) → Prop) (v1j221 : Int32) (v3j221 : Int32) (v4j221 : Int32) (v5j221 : Int32) (v6j221 : Int32) (σ'j221 : US) (P162 : (Int32 × Int32 × US) → Prop) (Q : Int32 → US → Prop) : Prop := wp_X12_setOf_J226 RF v1j221 v3j221 v4j221 v5j221 v6j221 σ'j221 1 P162 Q
def wp_X12_setOf_L162 (RF : Int32 → US → (Int32 → US → Prop) → Prop) (v5 : Int32) (v4 : Int32) (v1 : Int32) (Q : Int32 → US → Prop) (P162 : (Int32 × Int32 × US) → Prop) (t162 : Int32 × Int32 × US) : Prop := vp_in 0 81 ∧ (((aA t162.2.2 0 (0 : Int32).toNatClampNeg) ≤ t162.2.1 → Q t162.1 t162.2.2) ∧ (¬ (aA t162.2.2 0 (0 : Int32).toNatClampNeg) ≤ t162.2.1 → wp_X12_find v1 v4 v5 t162.2.1 t162.2.2 (fun (r6 : Int32) (u7 : US) => (r6 = 0 → vp_in v1 300 ∧ (((aA u7 10 (v1).toNatClampNeg) = 62 → wp_X12_setOf_J221 RF v1 t162.1 v4 v5 t162.2.1 u7 P162 Q) ∧ (¬ (aA u7 10 (v1).toNatClampNeg) = 62 → vp_in v1 300 ∧ ((¬ (aA u7 10 (v1).toNatClampNeg) = 103 → wp_X12_setOf_J226 RF v1 t162.1 v4 v5 t162.2.1 u7 0 P162 Q) ∧ ((aA u7 10 (v1).toNatClampNeg) = 103 → wp_X12_setOf_J221 RF v1 t162.1 v4 v5 t162.2.1 u7 P162 Q))))) ∧ (¬ r6 = 0 → wp_X12_fulfils v1 u7 (fun (r13 : Int32) => wp_X12_setOf_J226 RF v1 t162.1 v4 v5 t162.2.1 u7 r13 P162 Q)))))
def wp_X12_setOf_J114 (RF : Int32 → US → (Int32 → US → Prop) → Prop) (v4j114 : Int32) (v3j114 : Int32) (v2j114 : Int32) (v1j114 : Int32) (σ'j114 : US) (s0j114 : Int32) (Q : Int32 → US → Prop) : Prop := (¬ v2j114 = 33 → wp_X12_isBounded v2j114 (fun (r5 : Int32) => (¬ r5 = 0 → lpW (wp_X12_setOf_L162 RF s0j114 v4j114 v1j114 Q) (v3j114, 0, σ'j114)) ∧ (r5 = 0 → (¬ v2j114 = 38 → Q (v4j114 ||| s0j114) σ'j114) ∧ (v2j114 = 38 → Q (v4j114 &&& s0j114) σ'j114)))) ∧ (v2j114 = 33 → wp_X12_all σ'j114 (fun (r21 : Int32) => Q (r21 &&& (v4j114 ^^^ (-1))) σ'j114))
def wp_X12_setOf_L29 (RF : Int32 → US → (Int32 → US → Prop) → Prop) (v1 : Int32) (σ' : US) (Q : Int32 → US → Prop) (P29 : (Int32 × Int32) → Prop) (t29 : Int32 × Int32) : Prop := vp_in 0 81 ∧ (((aA σ' 0 (0 : Int32).toNatClampNeg) ≤ t29.2 → Q t29.1 σ') ∧ (¬ (aA σ' 0 (0 : Int32).toNatClampNeg) ≤ t29.2 → vp_in (65 + t29.2) 81 ∧ (vp_in v1 300 ∧ (wp_X12_has (aA σ' 0 (65 + t29.2).toNatClampNeg) (aA σ' 9 (v1).toNatClampNeg) (fun (r26 : Int32) => (r26 = 0 → ∀ x27 : Int32, x27 = t29.1 ||| 0 → P29 (x27, t29.2 + 1)) ∧ (¬ r26 = 0 → ∀ x28 : Int32, x28 = t29.1 ||| (1 <<< (t29.2 &&& 31)) → P29 (x28, t29.2 + 1)))))))
def wp_X12_setOf_B (RF : Int32 → US → (Int32 → US → Prop) → Prop) (p1 : Int32) (σ : US) (Q : Int32 → US → Prop) : Prop := vp_in p1 300 ∧ (∀ x1 : Int32, x1 = aA σ 6 (p1).toNatClampNeg → (¬ x1 = 116 → (¬ x1 = 97 → vp_in p1 300 ∧ (RF (aA σ 7 (p1).toNatClampNeg) σ (fun (r2 : Int32) (u3 : US) => wp_X12_hasTwo x1 (fun (r4 : Int32) => (r4 = 0 → wp_X12_setOf_J114 RF r2 0 x1 p1 u3 0 Q) ∧ (¬ r4 = 0 → vp_in p1 300 ∧ (RF (aA u3 8 (p1).toNatClampNeg) u3 (fun (r23 : Int32) (u24 : US) => wp_X12_setOf_J114 RF r2 0 x1 p1 u24 r23 Q))))))) ∧ (x1 = 97 → lpW (wp_X12_setOf_L29 RF p1 σ Q) (0, 0))) ∧ (x1 = 116 → wp_X12_all σ (fun (r32 : Int32) => Q r32 σ)))
set_option maxRecDepth 100000 in
set_option maxHeartbeats 4000000 in
theorem c_X12_setOf_B (l : Launch) (D : va_G) (kc : Nat → ClassId) (a : Nat → Nat) (F L : Nat) (RF : Int32 → US → (Int32 → US → Prop) → Prop) (HRF : ∀ (q1 : Int32) (σ0 : US) (Q0 : Int32 → US → Prop), RF q1 σ0 Q0 → kCi l D (tyL kc) yX12_setOf wsX12_setOf ({ frames := F, cells := 0, slots := 0, locals := L } : Room) [.ref (a 0), .int q1] (wM kc a σ0) (fun u : US => (wM kc a u)) 0 0 (fun r u => Q0 r u)) (p1 : Int32) (σ : US) (Q : Int32 → US → Prop) (h : wp_X12_setOf_B RF p1 σ Q) : kCi l D (tyL kc) yX12_setOf wsX12_setOf ({ frames := F + 7, cells := 0, slots := 0, locals := L + 183 } : Room) [.ref (a 0), .int p1] (wM kc a σ) (fun u : US => (wM kc a u)) 0 0 (fun r u => Q r u) := by
  intro sz
  refine k_begin (cc := cX12_setOf) (maxL := 9) (ret := (some .int)) (by decide +kernel) rfl rfl (fun p e s m args below meth c hsz E G ls hl => ?_)
  subst hsz
  have hl : lv_has ls 9 [(0, .ref (a 0)), (1, .int p1)] := hl
  have K114 : ∀ (v4j114 : Int32) (v3j114 : Int32) (v2j114 : Int32) (σ'j114 : US) (s0j114 : Int32) (H : Heap) (locs : List Loc) (ls : Array Slot), kG D (va_A (wM kc a σ) s.heap.size) s (wM kc a σ'j114) H locs → lv_has ls 9 [(4, .int v4j114), (3, .int v3j114), (2, .int v2j114), (0, .ref (a 0)), (1, .int p1)] → wp_X12_setOf_J114 RF v4j114 v3j114 v2j114 p1 σ'j114 s0j114 Q → W p l e ({ frames := F + 7, cells := 0, slots := 0, locals := L + 183 } : Room) s m args below meth c H locs 0 0 (MQ below (va_Qi (fun r u => Q r u) (kB D (wM kc a σ) s.heap.size (fun u : US => (wM kc a u))) (va_A (wM kc a σ) s.heap.size)) args s 0 0 (va_A (wM kc a σ) s.heap.size)) (F0 m 114 ls [.int s0j114]) := by
    intro v4j114 v3j114 v2j114 σ'j114 s0j114 H locs ls G hl h
    refine lv_istore (lv' := [(5, .int s0j114), (4, .int v4j114), (3, .int v3j114), (2, .int v2j114), (0, .ref (a 0)), (1, .int p1)]) E.ex E.by dX12_setOf_114 hl (by decide) rfl (fun ls hl => ?_)
    refine lv_iload_n E.ex E.by dX12_setOf_116 rfl (lv_at hl 3 rfl) ?_
    refine lv_bipush (v := 33) E.ex E.by dX12_setOf_117 (by decide) ?_
    refine lv_icmp_ne (tgt := 132) E.ex E.by dX12_setOf_119 (by decide) (fun hc32 => ?_) (fun hc32 => ?_)
    · have h := h.1 hc32
      refine lv_iload_n E.ex E.by dX12_setOf_132 rfl (lv_at hl 3 rfl) ?_
      refine k_cSi (X := (wM kc a σ'j114)) (w := []) (Z := []) (wnew := (fun _ : Unit => (wM kc a σ'j114))) (As := [.int v2j114]) (rest := []) E (List.append_nil _).symm G (c_X12_isBounded l D kc _ _ h) gX12_setOf_X12_isBounded rfl ⟨rfl, rfl⟩ hd_X12_isBounded_v ⟨Nat.ble_eq_true_of_le (show 1 + 1 ≤ F + 7 by omega), Nat.ble_eq_true_of_le (show 8 + (1 + 11) + (22) ≤ L + 183 by omega)⟩ rfl hl rfl rfl dX12_setOf_133 ⟨rfl, rfl⟩ (fun _ => (List.append_nil _).symm) (fun r17 _u133 hq H locs G => ?_)
      have h := hq
      refine lv_if_ne (tgt := 159) E.ex E.by dX12_setOf_136 (by decide) (fun hc30 => ?_) (fun hc30 => ?_)
      · have h := h.1 hc30
        refine lv_iconst (v := 0) E.ex E.by dX12_setOf_159 (by decide) ?_
        refine lv_istore (lv' := [(6, .int 0), (5, .int s0j114), (4, .int v4j114), (3, .int v3j114), (2, .int v2j114), (0, .ref (a 0)), (1, .int p1)]) E.ex E.by dX12_setOf_160 hl (by decide) rfl (fun ls hl => ?_)
        refine lpW_ind (fun t18 : Int32 × Int32 × US => ∀ (H : Heap) (locs : List Loc) (ls : Array Slot), kG D (va_A (wM kc a σ) s.heap.size) s (wM kc a t18.2.2) H locs → lv_has ls 9 [(0, .ref (a 0)), (1, .int p1), (3, .int t18.1), (4, .int v4j114), (5, .int s0j114), (6, .int t18.2.1)] → W p l e _ s m args below meth c H locs _ _ _ (F0 m 162 ls [])) (fun P162 IH162 t18 h H locs ls G hl => ?_) _ h _ _ _ G (lv_sub hl [5, 6, 3, 2, 1, 0] rfl)
        have K226 : ∀ (v3j226 : Int32) (v6j226 : Int32) (σ'j226 : US) (s0j226 : Int32) (H : Heap) (locs : List Loc) (ls : Array Slot), kG D (va_A (wM kc a σ) s.heap.size) s (wM kc a σ'j226) H locs → lv_has ls 9 [(0, .ref (a 0)), (1, .int p1), (3, .int v3j226), (4, .int v4j114), (5, .int s0j114), (6, .int v6j226)] → wp_X12_setOf_J226 RF p1 v3j226 v4j114 s0j114 v6j226 σ'j226 s0j226 P162 Q → W p l e ({ frames := F + 7, cells := 0, slots := 0, locals := L + 183 } : Room) s m args below meth c H locs 0 0 (MQ below (va_Qi (fun r u => Q r u) (kB D (wM kc a σ) s.heap.size (fun u : US => (wM kc a u))) (va_A (wM kc a σ) s.heap.size)) args s 0 0 (va_A (wM kc a σ) s.heap.size)) (F0 m 226 ls [.int s0j226]) := by
          intro v3j226 v6j226 σ'j226 s0j226 H locs ls G hl h
          refine lv_istore (lv' := [(8, .int s0j226), (0, .ref (a 0)), (1, .int p1), (3, .int v3j226), (4, .int v4j114), (5, .int s0j114), (6, .int v6j226)]) E.ex E.by dX12_setOf_226 hl (by decide) rfl (fun ls hl => ?_)
          refine lv_iload_n E.ex E.by dX12_setOf_228 rfl (lv_at hl 3 rfl) ?_
          refine lv_iload E.ex E.by dX12_setOf_229 (lv_at hl 0 rfl) ?_
          refine lv_if_eq (tgt := 241) E.ex E.by dX12_setOf_231 (by decide) (fun hc28 => ?_) (fun hc28 => ?_)
          · have h := h.1 hc28
            refine lv_iconst (v := 0) E.ex E.by dX12_setOf_241 (by decide) ?_
            refine lv_ior E.ex E.by dX12_setOf_242 ?_
            refine lv_topi (fun x26 ex26 => ?_)
            have h := h x26 ex26
            refine lv_istore_n (lv' := [(3, .int x26), (8, .int s0j226), (0, .ref (a 0)), (1, .int p1), (4, .int v4j114), (5, .int s0j114), (6, .int v6j226)]) E.ex E.by dX12_setOf_243 rfl hl (by decide) rfl (fun ls hl => ?_)
            refine lv_iinc (k := 6) (v := v6j226 + 1) (lv' := [(6, .int (v6j226 + 1)), (3, .int x26), (8, .int s0j226), (0, .ref (a 0)), (1, .int p1), (4, .int v4j114), (5, .int s0j114)]) E.ex E.by dX12_setOf_244 hl rfl (k_inc1 _) (by decide) rfl (fun ls hl => ?_)
            refine lv_goto (tgt := 162) E.ex E.by dX12_setOf_247 (by decide) ?_
            exact IH162 _ h _ _ _ G (lv_sub hl [3, 4, 1, 5, 6, 0] rfl)
          · have h := h.2 hc28
            refine lv_iconst (v := 1) E.ex E.by dX12_setOf_234 (by decide) ?_
            refine lv_iload E.ex E.by dX12_setOf_235 (lv_at hl 6 rfl) ?_
            refine lv_ishl E.ex E.by dX12_setOf_237 ?_
            refine lv_goto (tgt := 242) E.ex E.by dX12_setOf_238 (by decide) ?_
            refine lv_ior E.ex E.by dX12_setOf_242 ?_
            refine lv_topi (fun x27 ex27 => ?_)
            have h := h x27 ex27
            refine lv_istore_n (lv' := [(3, .int x27), (8, .int s0j226), (0, .ref (a 0)), (1, .int p1), (4, .int v4j114), (5, .int s0j114), (6, .int v6j226)]) E.ex E.by dX12_setOf_243 rfl hl (by decide) rfl (fun ls hl => ?_)
            refine lv_iinc (k := 6) (v := v6j226 + 1) (lv' := [(6, .int (v6j226 + 1)), (3, .int x27), (8, .int s0j226), (0, .ref (a 0)), (1, .int p1), (4, .int v4j114), (5, .int s0j114)]) E.ex E.by dX12_setOf_244 hl rfl (k_inc1 _) (by decide) rfl (fun ls hl => ?_)
            refine lv_goto (tgt := 162) E.ex E.by dX12_setOf_247 (by decide) ?_
            exact IH162 _ h _ _ _ G (lv_sub hl [3, 4, 1, 5, 6, 0] rfl)
        have K221 : ∀ (v3j221 : Int32) (v6j221 : Int32) (σ'j221 : US) (H : Heap) (locs : List Loc) (ls : Array Slot), kG D (va_A (wM kc a σ) s.heap.size) s (wM kc a σ'j221) H locs → lv_has ls 9 [(0, .ref (a 0)), (1, .int p1), (3, .int v3j221), (4, .int v4j114), (5, .int s0j114), (6, .int v6j221)] → wp_X12_setOf_J221 RF p1 v3j221 v4j114 s0j114 v6j221 σ'j221 P162 Q → W p l e ({ frames := F + 7, cells := 0, slots := 0, locals := L + 183 } : Room) s m args below meth c H locs 0 0 (MQ below (va_Qi (fun r u => Q r u) (kB D (wM kc a σ) s.heap.size (fun u : US => (wM kc a u))) (va_A (wM kc a σ) s.heap.size)) args s 0 0 (va_A (wM kc a σ) s.heap.size)) (F0 m 221 ls []) := by
          intro v3j221 v6j221 σ'j221 H locs ls G hl h
          refine lv_iconst (v := 1) E.ex E.by dX12_setOf_221 (by decide) ?_
          refine lv_goto (tgt := 226) E.ex E.by dX12_setOf_222 (by decide) ?_
          exact K226 _ _ _ _ _ _ _ G (lv_sub hl [0, 1, 2, 3, 4, 5] rfl) h
        refine lv_iload E.ex E.by dX12_setOf_162 (lv_at hl 5 rfl) ?_
        refine lv_aload_n E.ex E.by dX12_setOf_164 rfl (lv_at hl 0 rfl) ?_
        refine k_get E G wi_X12_setOf_X12 0 (gM_0 _ _ _) rfl 0 rfl fl_X12_setOf_X12_0 (v := .ref (a 1)) rfl dX12_setOf_165 ?_
        refine lv_iconst (v := 0) E.ex E.by dX12_setOf_168 (by decide) ?_
        refine k_iald E G 1 (gM_1 _ _ _) 0 rfl h.1 dX12_setOf_169 ?_
        have h := h.2
        refine lv_icmp_ge (tgt := 250) E.ex E.by dX12_setOf_170 (by decide) (fun hc25 => ?_) (fun hc25 => ?_)
        · have h := h.1 hc25
          refine lv_iload_n E.ex E.by dX12_setOf_250 rfl (lv_at hl 2 rfl) ?_
          exact k_ret (wof := (fun u : US => (wM kc a u))) (u := t18.2.2) E G rfl h (Nat.le_of_ble_eq_true rfl) (Nat.le_of_ble_eq_true rfl) dX12_setOf_251
        · have h := h.2 hc25
          refine lv_aload_n E.ex E.by dX12_setOf_173 rfl (lv_at hl 0 rfl) ?_
          refine lv_iload_n E.ex E.by dX12_setOf_174 rfl (lv_at hl 1 rfl) ?_
          refine lv_iload E.ex E.by dX12_setOf_175 (lv_at hl 3 rfl) ?_
          refine lv_iload E.ex E.by dX12_setOf_177 (lv_at hl 4 rfl) ?_
          refine lv_iload E.ex E.by dX12_setOf_179 (lv_at hl 5 rfl) ?_
          refine k_cVi (X := []) (w := (wM kc a t18.2.2)) (Z := []) (wnew := (fun u : US => (wM kc a u))) (As := [.int p1, .int v4j114, .int s0j114, .int t18.2.1]) (rest := []) E (List.append_nil _).symm G (c_X12_find l D kc _ _ _ _ _ _ _ h) gX12_setOf_X12_find rfl ⟨rfl, rfl⟩ hd_X12_find_v ⟨Nat.ble_eq_true_of_le (show 6 + 1 ≤ F + 7 by omega), Nat.ble_eq_true_of_le (show 8 + (5 + 11) + (159) ≤ L + 183 by omega)⟩ 0 (gM_0 _ _ _) rfl rfl hl rfl rfl dX12_setOf_181 ⟨rfl, rfl⟩ (fun _ => (List.append_nil _).symm) (fun r19 u20 hq H locs G => ?_)
          have h := hq
          refine lv_istore (lv' := [(7, .int r19), (0, .ref (a 0)), (1, .int p1), (3, .int t18.1), (4, .int v4j114), (5, .int s0j114), (6, .int t18.2.1)]) E.ex E.by dX12_setOf_184 hl (by decide) rfl (fun ls hl => ?_)
          refine lv_iload E.ex E.by dX12_setOf_186 (lv_at hl 0 rfl) ?_
          refine lv_if_eq (tgt := 199) E.ex E.by dX12_setOf_188 (by decide) (fun hc24 => ?_) (fun hc24 => ?_)
          · have h := h.1 hc24
            refine lv_aload_n E.ex E.by dX12_setOf_199 rfl (lv_at hl 1 rfl) ?_
            refine k_get E G wi_X12_setOf_X12 0 (gM_0 _ _ _) rfl 21 rfl fl_X12_setOf_X12_21 (v := .ref (a 15)) rfl dX12_setOf_200 ?_
            refine lv_iload_n E.ex E.by dX12_setOf_203 rfl (lv_at hl 2 rfl) ?_
            refine k_iald E G 15 (gM_15 _ _ _) 0 rfl h.1 dX12_setOf_204 ?_
            have h := h.2
            refine lv_bipush (v := 62) E.ex E.by dX12_setOf_205 (by decide) ?_
            refine lv_icmp_eq (tgt := 221) E.ex E.by dX12_setOf_207 (by decide) (fun hc22 => ?_) (fun hc22 => ?_)
            · have h := h.1 hc22
              exact K221 _ _ _ _ _ _ G (lv_sub hl [1, 2, 3, 4, 5, 6] rfl) h
            · have h := h.2 hc22
              refine lv_aload_n E.ex E.by dX12_setOf_210 rfl (lv_at hl 1 rfl) ?_
              refine k_get E G wi_X12_setOf_X12 0 (gM_0 _ _ _) rfl 21 rfl fl_X12_setOf_X12_21 (v := .ref (a 15)) rfl dX12_setOf_211 ?_
              refine lv_iload_n E.ex E.by dX12_setOf_214 rfl (lv_at hl 2 rfl) ?_
              refine k_iald E G 15 (gM_15 _ _ _) 0 rfl h.1 dX12_setOf_215 ?_
              have h := h.2
              refine lv_bipush (v := 103) E.ex E.by dX12_setOf_216 (by decide) ?_
              refine lv_icmp_ne (tgt := 225) E.ex E.by dX12_setOf_218 (by decide) (fun hc21 => ?_) (fun hc21 => ?_)
              · have h := h.1 hc21
                refine lv_iconst (v := 0) E.ex E.by dX12_setOf_225 (by decide) ?_
                exact K226 _ _ _ _ _ _ _ G (lv_sub hl [1, 2, 3, 4, 5, 6] rfl) h
              · have h := h.2 hc21
                exact K221 _ _ _ _ _ _ G (lv_sub hl [1, 2, 3, 4, 5, 6] rfl) h
          · have h := h.2 hc24
            refine lv_aload_n E.ex E.by dX12_setOf_191 rfl (lv_at hl 1 rfl) ?_
            refine lv_iload_n E.ex E.by dX12_setOf_192 rfl (lv_at hl 2 rfl) ?_
            refine k_cVi (X := []) (w := (wM kc a u20)) (Z := []) (wnew := (fun _ : Unit => (wM kc a u20))) (As := [.int p1]) (rest := []) E (List.append_nil _).symm G (c_X12_fulfils l D kc _ _ _ _ h) gX12_setOf_X12_fulfils rfl ⟨rfl, rfl⟩ hd_X12_fulfils_v ⟨Nat.ble_eq_true_of_le (show 0 + 1 ≤ F + 7 by omega), Nat.ble_eq_true_of_le (show 8 + (6 + 11) + (0) ≤ L + 183 by omega)⟩ 0 (gM_0 _ _ _) rfl rfl hl rfl rfl dX12_setOf_193 ⟨rfl, rfl⟩ (fun _ => (List.append_nil _).symm) (fun r23 _u193 hq H locs G => ?_)
            have h := hq
            refine lv_goto (tgt := 226) E.ex E.by dX12_setOf_196 (by decide) ?_
            exact K226 _ _ _ _ _ _ _ G (lv_sub hl [1, 2, 3, 4, 5, 6] rfl) h
      · have h := h.2 hc30
        refine lv_iload_n E.ex E.by dX12_setOf_139 rfl (lv_at hl 3 rfl) ?_
        refine lv_bipush (v := 38) E.ex E.by dX12_setOf_140 (by decide) ?_
        refine lv_icmp_ne (tgt := 153) E.ex E.by dX12_setOf_142 (by decide) (fun hc29 => ?_) (fun hc29 => ?_)
        · have h := h.1 hc29
          refine lv_iload E.ex E.by dX12_setOf_153 (lv_at hl 1 rfl) ?_
          refine lv_iload E.ex E.by dX12_setOf_155 (lv_at hl 0 rfl) ?_
          refine lv_ior E.ex E.by dX12_setOf_157 ?_
          exact k_ret (wof := (fun u : US => (wM kc a u))) (u := σ'j114) E G rfl h (Nat.le_of_ble_eq_true rfl) (Nat.le_of_ble_eq_true rfl) dX12_setOf_158
        · have h := h.2 hc29
          refine lv_iload E.ex E.by dX12_setOf_145 (lv_at hl 1 rfl) ?_
          refine lv_iload E.ex E.by dX12_setOf_147 (lv_at hl 0 rfl) ?_
          refine lv_iand E.ex E.by dX12_setOf_149 ?_
          refine lv_goto (tgt := 158) E.ex E.by dX12_setOf_150 (by decide) ?_
          exact k_ret (wof := (fun u : US => (wM kc a u))) (u := σ'j114) E G rfl h (Nat.le_of_ble_eq_true rfl) (Nat.le_of_ble_eq_true rfl) dX12_setOf_158
    · have h := h.2 hc32
      refine lv_aload_n E.ex E.by dX12_setOf_122 rfl (lv_at hl 4 rfl) ?_
      refine k_cVi (X := []) (w := (wM kc a σ'j114)) (Z := []) (wnew := (fun _ : Unit => (wM kc a σ'j114))) (As := []) (rest := []) E (List.append_nil _).symm G (c_X12_all l D kc _ _ _ h) gX12_setOf_X12_all rfl ⟨rfl, rfl⟩ hd_X12_all_v ⟨Nat.ble_eq_true_of_le (show 0 + 1 ≤ F + 7 by omega), Nat.ble_eq_true_of_le (show 8 + (1 + 11) + (0) ≤ L + 183 by omega)⟩ 0 (gM_0 _ _ _) rfl rfl hl rfl rfl dX12_setOf_123 ⟨rfl, rfl⟩ (fun _ => (List.append_nil _).symm) (fun r31 _u123 hq H locs G => ?_)
      have h := hq
      refine lv_iload E.ex E.by dX12_setOf_126 (lv_at hl 1 rfl) ?_
      refine lv_iconst (v := (-1)) E.ex E.by dX12_setOf_128 (by decide) ?_
      refine lv_ixor E.ex E.by dX12_setOf_129 ?_
      refine lv_iand E.ex E.by dX12_setOf_130 ?_
      exact k_ret (wof := (fun u : US => (wM kc a u))) (u := σ'j114) E G rfl h (Nat.le_of_ble_eq_true rfl) (Nat.le_of_ble_eq_true rfl) dX12_setOf_131
  refine lv_aload_n E.ex E.by dX12_setOf_0 rfl (lv_at hl 0 rfl) ?_
  refine k_get E G wi_X12_setOf_X12 0 (gM_0 _ _ _) rfl 17 rfl fl_X12_setOf_X12_17 (v := .ref (a 11)) rfl dX12_setOf_1 ?_
  refine lv_iload_n E.ex E.by dX12_setOf_4 rfl (lv_at hl 1 rfl) ?_
  refine k_iald E G 11 (gM_11 _ _ _) 0 rfl h.1 dX12_setOf_5 ?_
  have h := h.2
  refine lv_topi (fun x1 ex1 => ?_)
  have h := h x1 ex1
  refine lv_istore_n (lv' := [(2, .int x1), (0, .ref (a 0)), (1, .int p1)]) E.ex E.by dX12_setOf_6 rfl hl (by decide) rfl (fun ls hl => ?_)
  refine lv_iload_n E.ex E.by dX12_setOf_7 rfl (lv_at hl 0 rfl) ?_
  refine lv_bipush (v := 116) E.ex E.by dX12_setOf_8 (by decide) ?_
  refine lv_icmp_ne (tgt := 18) E.ex E.by dX12_setOf_10 (by decide) (fun hc16 => ?_) (fun hc16 => ?_)
  · have h := h.1 hc16
    refine lv_iconst (v := 0) E.ex E.by dX12_setOf_18 (by decide) ?_
    refine lv_istore_n (lv' := [(3, .int 0), (2, .int x1), (0, .ref (a 0)), (1, .int p1)]) E.ex E.by dX12_setOf_19 rfl hl (by decide) rfl (fun ls hl => ?_)
    refine lv_iload_n E.ex E.by dX12_setOf_20 rfl (lv_at hl 1 rfl) ?_
    refine lv_bipush (v := 97) E.ex E.by dX12_setOf_21 (by decide) ?_
    refine lv_icmp_ne (tgt := 81) E.ex E.by dX12_setOf_23 (by decide) (fun hc14 => ?_) (fun hc14 => ?_)
    · have h := h.1 hc14
      refine lv_aload_n E.ex E.by dX12_setOf_81 rfl (lv_at hl 2 rfl) ?_
      refine lv_aload_n E.ex E.by dX12_setOf_82 rfl (lv_at hl 2 rfl) ?_
      refine k_get E G wi_X12_setOf_X12 0 (gM_0 _ _ _) rfl 18 rfl fl_X12_setOf_X12_18 (v := .ref (a 12)) rfl dX12_setOf_83 ?_
      refine lv_iload_n E.ex E.by dX12_setOf_86 rfl (lv_at hl 3 rfl) ?_
      refine k_iald E G 12 (gM_12 _ _ _) 0 rfl h.1 dX12_setOf_87 ?_
      have h := h.2
      refine k_cVi (X := []) (w := (wM kc a σ)) (Z := []) (wnew := (fun u : US => (wM kc a u))) (As := [.int (aA σ 7 (p1).toNatClampNeg)]) (rest := []) E (List.append_nil _).symm G (HRF _ _ _ h) gX12_setOf_X12_setOf rfl ⟨rfl, rfl⟩ hd_X12_setOf_v ⟨Nat.ble_eq_true_of_le (show F + 0 + 1 ≤ F + 7 by omega), Nat.ble_eq_true_of_le (show 8 + (9 + 11) + (L + 0) ≤ L + 183 by omega)⟩ 0 (gM_0 _ _ _) rfl rfl hl rfl rfl dX12_setOf_88 ⟨rfl, rfl⟩ (fun _ => (List.append_nil _).symm) (fun r2 u3 hq H locs G => ?_)
      have h := hq
      refine lv_istore (lv' := [(4, .int r2), (3, .int 0), (2, .int x1), (0, .ref (a 0)), (1, .int p1)]) E.ex E.by dX12_setOf_91 hl (by decide) rfl (fun ls hl => ?_)
      refine lv_iload_n E.ex E.by dX12_setOf_93 rfl (lv_at hl 2 rfl) ?_
      refine k_cSi (X := (wM kc a u3)) (w := []) (Z := []) (wnew := (fun _ : Unit => (wM kc a u3))) (As := [.int x1]) (rest := []) E (List.append_nil _).symm G (c_X12_hasTwo l D kc _ _ h) gX12_setOf_X12_hasTwo rfl ⟨rfl, rfl⟩ hd_X12_hasTwo_v ⟨Nat.ble_eq_true_of_le (show 0 + 1 ≤ F + 7 by omega), Nat.ble_eq_true_of_le (show 8 + (1 + 11) + (0) ≤ L + 183 by omega)⟩ rfl hl rfl rfl dX12_setOf_94 ⟨rfl, rfl⟩ (fun _ => (List.append_nil _).symm) (fun r4 _u94 hq H locs G => ?_)
      have h := hq
      refine lv_if_eq (tgt := 113) E.ex E.by dX12_setOf_97 (by decide) (fun hc7 => ?_) (fun hc7 => ?_)
      · have h := h.1 hc7
        refine lv_iconst (v := 0) E.ex E.by dX12_setOf_113 (by decide) ?_
        exact K114 _ _ _ _ _ _ _ _ G (lv_sub hl [0, 1, 2, 3, 4] rfl) h
      · have h := h.2 hc7
        refine lv_aload_n E.ex E.by dX12_setOf_100 rfl (lv_at hl 3 rfl) ?_
        refine lv_aload_n E.ex E.by dX12_setOf_101 rfl (lv_at hl 3 rfl) ?_
        refine k_get E G wi_X12_setOf_X12 0 (gM_0 _ _ _) rfl 19 rfl fl_X12_setOf_X12_19 (v := .ref (a 13)) rfl dX12_setOf_102 ?_
        refine lv_iload_n E.ex E.by dX12_setOf_105 rfl (lv_at hl 4 rfl) ?_
        refine k_iald E G 13 (gM_13 _ _ _) 0 rfl h.1 dX12_setOf_106 ?_
        have h := h.2
        refine k_cVi (X := []) (w := (wM kc a u3)) (Z := []) (wnew := (fun u : US => (wM kc a u))) (As := [.int (aA u3 8 (p1).toNatClampNeg)]) (rest := []) E (List.append_nil _).symm G (HRF _ _ _ h) gX12_setOf_X12_setOf rfl ⟨rfl, rfl⟩ hd_X12_setOf_v ⟨Nat.ble_eq_true_of_le (show F + 0 + 1 ≤ F + 7 by omega), Nat.ble_eq_true_of_le (show 8 + (9 + 11) + (L + 0) ≤ L + 183 by omega)⟩ 0 (gM_0 _ _ _) rfl rfl hl rfl rfl dX12_setOf_107 ⟨rfl, rfl⟩ (fun _ => (List.append_nil _).symm) (fun r5 u6 hq H locs G => ?_)
        have h := hq
        refine lv_goto (tgt := 114) E.ex E.by dX12_setOf_110 (by decide) ?_
        exact K114 _ _ _ _ _ _ _ _ G (lv_sub hl [0, 1, 2, 3, 4] rfl) h
    · have h := h.2 hc14
      refine lv_iconst (v := 0) E.ex E.by dX12_setOf_26 (by decide) ?_
      refine lv_istore (lv' := [(4, .int 0), (3, .int 0), (2, .int x1), (0, .ref (a 0)), (1, .int p1)]) E.ex E.by dX12_setOf_27 hl (by decide) rfl (fun ls hl => ?_)
      refine lpW_ind (fun t8 : Int32 × Int32 => ∀ (H : Heap) (locs : List Loc) (ls : Array Slot), kG D (va_A (wM kc a σ) s.heap.size) s (wM kc a σ) H locs → lv_has ls 9 [(0, .ref (a 0)), (1, .int p1), (3, .int t8.1), (4, .int t8.2)] → W p l e _ s m args below meth c H locs _ _ _ (F0 m 29 ls [])) (fun P29 IH29 t8 h H locs ls G hl => ?_) _ h _ _ _ G (lv_sub hl [3, 4, 1, 0] rfl)
      refine lv_iload E.ex E.by dX12_setOf_29 (lv_at hl 3 rfl) ?_
      refine lv_aload_n E.ex E.by dX12_setOf_31 rfl (lv_at hl 0 rfl) ?_
      refine k_get E G wi_X12_setOf_X12 0 (gM_0 _ _ _) rfl 0 rfl fl_X12_setOf_X12_0 (v := .ref (a 1)) rfl dX12_setOf_32 ?_
      refine lv_iconst (v := 0) E.ex E.by dX12_setOf_35 (by decide) ?_
      refine k_iald E G 1 (gM_1 _ _ _) 0 rfl h.1 dX12_setOf_36 ?_
      have h := h.2
      refine lv_icmp_ge (tgt := 79) E.ex E.by dX12_setOf_37 (by decide) (fun hc13 => ?_) (fun hc13 => ?_)
      · have h := h.1 hc13
        refine lv_iload_n E.ex E.by dX12_setOf_79 rfl (lv_at hl 2 rfl) ?_
        exact k_ret (wof := (fun u : US => (wM kc a u))) (u := σ) E G rfl h (Nat.le_of_ble_eq_true rfl) (Nat.le_of_ble_eq_true rfl) dX12_setOf_80
      · have h := h.2 hc13
        refine lv_iload_n E.ex E.by dX12_setOf_40 rfl (lv_at hl 2 rfl) ?_
        refine lv_aload_n E.ex E.by dX12_setOf_41 rfl (lv_at hl 0 rfl) ?_
        refine k_get E G wi_X12_setOf_X12 0 (gM_0 _ _ _) rfl 0 rfl fl_X12_setOf_X12_0 (v := .ref (a 1)) rfl dX12_setOf_42 ?_
        refine lv_bipush (v := 65) E.ex E.by dX12_setOf_45 (by decide) ?_
        refine lv_iload E.ex E.by dX12_setOf_47 (lv_at hl 3 rfl) ?_
        refine lv_iadd E.ex E.by dX12_setOf_49 ?_
        refine k_iald E G 1 (gM_1 _ _ _) 0 rfl h.1 dX12_setOf_50 ?_
        have h := h.2
        refine lv_aload_n E.ex E.by dX12_setOf_51 rfl (lv_at hl 0 rfl) ?_
        refine k_get E G wi_X12_setOf_X12 0 (gM_0 _ _ _) rfl 20 rfl fl_X12_setOf_X12_20 (v := .ref (a 14)) rfl dX12_setOf_52 ?_
        refine lv_iload_n E.ex E.by dX12_setOf_55 rfl (lv_at hl 1 rfl) ?_
        refine k_iald E G 14 (gM_14 _ _ _) 0 rfl h.1 dX12_setOf_56 ?_
        have h := h.2
        refine k_cSi (X := (wM kc a σ)) (w := []) (Z := []) (wnew := (fun _ : Unit => (wM kc a σ))) (As := [.int (aA σ 0 (65 + t8.2).toNatClampNeg), .int (aA σ 9 (p1).toNatClampNeg)]) (rest := [.int t8.1]) E (List.append_nil _).symm G (c_X12_has l D kc _ _ _ h) gX12_setOf_X12_has rfl ⟨rfl, rfl⟩ hd_X12_has_v ⟨Nat.ble_eq_true_of_le (show 0 + 1 ≤ F + 7 by omega), Nat.ble_eq_true_of_le (show 8 + (2 + 11) + (0) ≤ L + 183 by omega)⟩ rfl hl rfl rfl dX12_setOf_57 ⟨rfl, rfl⟩ (fun _ => (List.append_nil _).symm) (fun r9 _u57 hq H locs G => ?_)
        have h := hq
        refine lv_if_eq (tgt := 70) E.ex E.by dX12_setOf_60 (by decide) (fun hc12 => ?_) (fun hc12 => ?_)
        · have h := h.1 hc12
          refine lv_iconst (v := 0) E.ex E.by dX12_setOf_70 (by decide) ?_
          refine lv_ior E.ex E.by dX12_setOf_71 ?_
          refine lv_topi (fun x10 ex10 => ?_)
          have h := h x10 ex10
          refine lv_istore_n (lv' := [(3, .int x10), (0, .ref (a 0)), (1, .int p1), (4, .int t8.2)]) E.ex E.by dX12_setOf_72 rfl hl (by decide) rfl (fun ls hl => ?_)
          refine lv_iinc (k := 3) (v := t8.2 + 1) (lv' := [(4, .int (t8.2 + 1)), (3, .int x10), (0, .ref (a 0)), (1, .int p1)]) E.ex E.by dX12_setOf_73 hl rfl (k_inc1 _) (by decide) rfl (fun ls hl => ?_)
          refine lv_goto (tgt := 29) E.ex E.by dX12_setOf_76 (by decide) ?_
          exact IH29 _ h _ _ _ G (lv_sub hl [2, 3, 1, 0] rfl)
        · have h := h.2 hc12
          refine lv_iconst (v := 1) E.ex E.by dX12_setOf_63 (by decide) ?_
          refine lv_iload E.ex E.by dX12_setOf_64 (lv_at hl 3 rfl) ?_
          refine lv_ishl E.ex E.by dX12_setOf_66 ?_
          refine lv_goto (tgt := 71) E.ex E.by dX12_setOf_67 (by decide) ?_
          refine lv_ior E.ex E.by dX12_setOf_71 ?_
          refine lv_topi (fun x11 ex11 => ?_)
          have h := h x11 ex11
          refine lv_istore_n (lv' := [(3, .int x11), (0, .ref (a 0)), (1, .int p1), (4, .int t8.2)]) E.ex E.by dX12_setOf_72 rfl hl (by decide) rfl (fun ls hl => ?_)
          refine lv_iinc (k := 3) (v := t8.2 + 1) (lv' := [(4, .int (t8.2 + 1)), (3, .int x11), (0, .ref (a 0)), (1, .int p1)]) E.ex E.by dX12_setOf_73 hl rfl (k_inc1 _) (by decide) rfl (fun ls hl => ?_)
          refine lv_goto (tgt := 29) E.ex E.by dX12_setOf_76 (by decide) ?_
          exact IH29 _ h _ _ _ G (lv_sub hl [2, 3, 1, 0] rfl)
  · have h := h.2 hc16
    refine lv_aload_n E.ex E.by dX12_setOf_13 rfl (lv_at hl 1 rfl) ?_
    refine k_cVi (X := []) (w := (wM kc a σ)) (Z := []) (wnew := (fun _ : Unit => (wM kc a σ))) (As := []) (rest := []) E (List.append_nil _).symm G (c_X12_all l D kc _ _ _ h) gX12_setOf_X12_all rfl ⟨rfl, rfl⟩ hd_X12_all_v ⟨Nat.ble_eq_true_of_le (show 0 + 1 ≤ F + 7 by omega), Nat.ble_eq_true_of_le (show 8 + (1 + 11) + (0) ≤ L + 183 by omega)⟩ 0 (gM_0 _ _ _) rfl rfl hl rfl rfl dX12_setOf_14 ⟨rfl, rfl⟩ (fun _ => (List.append_nil _).symm) (fun r15 _u14 hq H locs G => ?_)
    have h := hq
    exact k_ret (wof := (fun u : US => (wM kc a u))) (u := σ) E G rfl h (Nat.le_of_ble_eq_true rfl) (Nat.le_of_ble_eq_true rfl) dX12_setOf_17
def wp_X12_setOf : Nat → Int32 → US → (Int32 → US → Prop) → Prop
  | 0 => fun _ _ _ => False
  | n + 1 => fun p1 σ Q => wp_X12_setOf_B (wp_X12_setOf n) p1 σ Q
theorem c_X12_setOf (l : Launch) (D : va_G) (kc : Nat → ClassId) (a : Nat → Nat) (n : Nat) : ∀ (q1 : Int32) (σ0 : US) (Q0 : Int32 → US → Prop), wp_X12_setOf n q1 σ0 Q0 → kCi l D (tyL kc) yX12_setOf wsX12_setOf ({ frames := 7 * n, cells := 0, slots := 0, locals := 183 * n } : Room) [.ref (a 0), .int q1] (wM kc a σ0) (fun u : US => (wM kc a u)) 0 0 (fun r u => Q0 r u) := by
  induction n with
  | zero => intro _ _ _ h; exact absurd h (fun h => h)
  | succ n ih => intro _ _ _ h; exact c_X12_setOf_B l D kc a (7 * n) (183 * n) (wp_X12_setOf n) ih _ _ _ h
theorem wi_X12_holdsIn_X12 : ∀ w ∈ wsX120, w ∈ wsX12_holdsIn := fun w h => List.mem_cons_of_mem _ (List.mem_append_right _ (h))
theorem fl_X12_holdsIn_X12_25 : Cond.fieldLink RX12 62 (TX12 25).1 (TX12 25).2.1 (TX12 25).2.2.1 ∈ wsX12_holdsIn := List.mem_of_getElem? (i := 1) (by decide +kernel)
def wp_X12_holdsIn (p1 : Int32) (σ : US) (Q : Int32 → US → Prop) : Prop := wp_X12_isFormula p1 σ (fun (r1 : Int32) => (¬ r1 = 0 → vp_in p1 6 ∧ (wp_X12_isRefusedNode 8 (aA σ 13 (p1).toNatClampNeg) σ (fun (r2 : Int32) => (r2 = 0 → vp_in p1 6 ∧ (wp_X12_setOf 8 (aA σ 13 (p1).toNatClampNeg) σ (fun (r3 : Int32) (u4 : US) => Q r3 u4))) ∧ (¬ r2 = 0 → Q (-4) σ)))) ∧ (r1 = 0 → Q (-1) σ))
set_option maxRecDepth 100000 in
set_option maxHeartbeats 4000000 in
theorem c_X12_holdsIn (l : Launch) (D : va_G) (kc : Nat → ClassId) (a : Nat → Nat)  (p1 : Int32) (σ : US) (Q : Int32 → US → Prop) (h : wp_X12_holdsIn p1 σ Q) : kCi l D (tyL kc) yX12_holdsIn wsX12_holdsIn ({ frames := 57, cells := 0, slots := 0, locals := 1492 } : Room) [.ref (a 0), .int p1] (wM kc a σ) (fun u : US => (wM kc a u)) 0 0 (fun r u => Q r u) := by
  intro sz
  refine k_begin (cc := cX12_holdsIn) (maxL := 2) (ret := (some .int)) (by decide +kernel) rfl rfl (fun p e s m args below meth c hsz E G ls hl => ?_)
  subst hsz
  have hl : lv_has ls 2 [(0, .ref (a 0)), (1, .int p1)] := hl
  refine lv_aload_n E.ex E.by dX12_holdsIn_0 rfl (lv_at hl 0 rfl) ?_
  refine lv_iload_n E.ex E.by dX12_holdsIn_1 rfl (lv_at hl 1 rfl) ?_
  refine k_cVi (X := []) (w := (wM kc a σ)) (Z := []) (wnew := (fun _ : Unit => (wM kc a σ))) (As := [.int p1]) (rest := []) E (List.append_nil _).symm G (c_X12_isFormula l D kc _ _ _ _ h) gX12_holdsIn_X12_isFormula rfl ⟨rfl, rfl⟩ hd_X12_isFormula_v ⟨rfl, rfl⟩ 0 (gM_0 _ _ _) rfl rfl hl rfl rfl dX12_holdsIn_2 ⟨rfl, rfl⟩ (fun _ => (List.append_nil _).symm) (fun r1 _u2 hq H locs G => ?_)
  have h := hq
  refine lv_if_ne (tgt := 10) E.ex E.by dX12_holdsIn_5 (by decide) (fun hc6 => ?_) (fun hc6 => ?_)
  · have h := h.1 hc6
    refine lv_aload_n E.ex E.by dX12_holdsIn_10 rfl (lv_at hl 0 rfl) ?_
    refine lv_aload_n E.ex E.by dX12_holdsIn_11 rfl (lv_at hl 0 rfl) ?_
    refine k_get E G wi_X12_holdsIn_X12 0 (gM_0 _ _ _) rfl 25 rfl fl_X12_holdsIn_X12_25 (v := .ref (a 18)) rfl dX12_holdsIn_12 ?_
    refine lv_iload_n E.ex E.by dX12_holdsIn_15 rfl (lv_at hl 1 rfl) ?_
    refine k_iald E G 18 (gM_18 _ _ _) 0 rfl h.1 dX12_holdsIn_16 ?_
    have h := h.2
    refine k_cVi (X := []) (w := (wM kc a σ)) (Z := []) (wnew := (fun _ : Unit => (wM kc a σ))) (As := [.int (aA σ 13 (p1).toNatClampNeg)]) (rest := []) E (List.append_nil _).symm G (c_X12_isRefusedNode l D kc _ 8 _ _ _ h) gX12_holdsIn_X12_isRefusedNode rfl ⟨rfl, rfl⟩ hd_X12_isRefusedNode_v ⟨rfl, rfl⟩ 0 (gM_0 _ _ _) rfl rfl hl rfl rfl dX12_holdsIn_17 ⟨rfl, rfl⟩ (fun _ => (List.append_nil _).symm) (fun r2 _u17 hq H locs G => ?_)
    have h := hq
    refine lv_if_eq (tgt := 28) E.ex E.by dX12_holdsIn_20 (by decide) (fun hc5 => ?_) (fun hc5 => ?_)
    · have h := h.1 hc5
      refine lv_aload_n E.ex E.by dX12_holdsIn_28 rfl (lv_at hl 0 rfl) ?_
      refine lv_aload_n E.ex E.by dX12_holdsIn_29 rfl (lv_at hl 0 rfl) ?_
      refine k_get E G wi_X12_holdsIn_X12 0 (gM_0 _ _ _) rfl 25 rfl fl_X12_holdsIn_X12_25 (v := .ref (a 18)) rfl dX12_holdsIn_30 ?_
      refine lv_iload_n E.ex E.by dX12_holdsIn_33 rfl (lv_at hl 1 rfl) ?_
      refine k_iald E G 18 (gM_18 _ _ _) 0 rfl h.1 dX12_holdsIn_34 ?_
      have h := h.2
      refine k_cVi (X := []) (w := (wM kc a σ)) (Z := []) (wnew := (fun u : US => (wM kc a u))) (As := [.int (aA σ 13 (p1).toNatClampNeg)]) (rest := []) E (List.append_nil _).symm G (c_X12_setOf l D kc _ 8 _ _ _ h) gX12_holdsIn_X12_setOf rfl ⟨rfl, rfl⟩ hd_X12_setOf_v ⟨rfl, rfl⟩ 0 (gM_0 _ _ _) rfl rfl hl rfl rfl dX12_holdsIn_35 ⟨rfl, rfl⟩ (fun _ => (List.append_nil _).symm) (fun r3 u4 hq H locs G => ?_)
      have h := hq
      exact k_ret (wof := (fun u : US => (wM kc a u))) (u := u4) E G rfl h (Nat.le_of_ble_eq_true rfl) (Nat.le_of_ble_eq_true rfl) dX12_holdsIn_38
    · have h := h.2 hc5
      refine lv_bipush (v := (-4)) E.ex E.by dX12_holdsIn_23 (by decide) ?_
      refine lv_goto (tgt := 38) E.ex E.by dX12_holdsIn_25 (by decide) ?_
      exact k_ret (wof := (fun u : US => (wM kc a u))) (u := σ) E G rfl h (Nat.le_of_ble_eq_true rfl) (Nat.le_of_ble_eq_true rfl) dX12_holdsIn_38
  · have h := h.2 hc6
    refine lv_iconst (v := (-1)) E.ex E.by dX12_holdsIn_8 (by decide) ?_
    exact k_ret (wof := (fun u : US => (wM kc a u))) (u := σ) E G rfl h (Nat.le_of_ble_eq_true rfl) (Nat.le_of_ble_eq_true rfl) dX12_holdsIn_9
theorem wi_X12_holds_X12 : ∀ w ∈ wsX120, w ∈ wsX12_holds := fun w h => List.mem_cons_of_mem _ (List.mem_append_right _ (h))
theorem fl_X12_holds_X12_25 : Cond.fieldLink RX12 62 (TX12 25).1 (TX12 25).2.1 (TX12 25).2.2.1 ∈ wsX12_holds := List.mem_of_getElem? (i := 1) (by decide +kernel)
def wp_X12_holds (p1 : Int32) (p2 : Int32) (σ : US) (Q : Int32 → US → Prop) : Prop := wp_X12_isFormula p1 σ (fun (r1 : Int32) => (r1 = 0 → Q (-1) σ) ∧ (¬ r1 = 0 → wp_X12_isState p2 σ (fun (r2 : Int32) => (¬ r2 = 0 → vp_in p1 6 ∧ (wp_X12_isRefusedNode 8 (aA σ 13 (p1).toNatClampNeg) σ (fun (r3 : Int32) => (r3 = 0 → vp_in p1 6 ∧ (wp_X12_setOf 8 (aA σ 13 (p1).toNatClampNeg) σ (fun (r4 : Int32) (u5 : US) => wp_X12_has r4 p2 (fun (r6 : Int32) => (r6 = 0 → Q 0 u5) ∧ (¬ r6 = 0 → Q 1 u5))))) ∧ (¬ r3 = 0 → Q (-4) σ)))) ∧ (r2 = 0 → Q (-1) σ))))
set_option maxRecDepth 100000 in
set_option maxHeartbeats 4000000 in
theorem c_X12_holds (l : Launch) (D : va_G) (kc : Nat → ClassId) (a : Nat → Nat)  (p1 : Int32) (p2 : Int32) (σ : US) (Q : Int32 → US → Prop) (h : wp_X12_holds p1 p2 σ Q) : kCi l D (tyL kc) yX12_holds wsX12_holds ({ frames := 57, cells := 0, slots := 0, locals := 1492 } : Room) [.ref (a 0), .int p1, .int p2] (wM kc a σ) (fun u : US => (wM kc a u)) 0 0 (fun r u => Q r u) := by
  intro sz
  refine k_begin (cc := cX12_holds) (maxL := 3) (ret := (some .int)) (by decide +kernel) rfl rfl (fun p e s m args below meth c hsz E G ls hl => ?_)
  subst hsz
  have hl : lv_has ls 3 [(0, .ref (a 0)), (1, .int p1), (2, .int p2)] := hl
  refine lv_aload_n E.ex E.by dX12_holds_0 rfl (lv_at hl 0 rfl) ?_
  refine lv_iload_n E.ex E.by dX12_holds_1 rfl (lv_at hl 1 rfl) ?_
  refine k_cVi (X := []) (w := (wM kc a σ)) (Z := []) (wnew := (fun _ : Unit => (wM kc a σ))) (As := [.int p1]) (rest := []) E (List.append_nil _).symm G (c_X12_isFormula l D kc _ _ _ _ h) gX12_holds_X12_isFormula rfl ⟨rfl, rfl⟩ hd_X12_isFormula_v ⟨rfl, rfl⟩ 0 (gM_0 _ _ _) rfl rfl hl rfl rfl dX12_holds_2 ⟨rfl, rfl⟩ (fun _ => (List.append_nil _).symm) (fun r1 _u2 hq H locs G => ?_)
  have h := hq
  refine lv_if_eq (tgt := 16) E.ex E.by dX12_holds_5 (by decide) (fun hc10 => ?_) (fun hc10 => ?_)
  · have h := h.1 hc10
    refine lv_iconst (v := (-1)) E.ex E.by dX12_holds_16 (by decide) ?_
    exact k_ret (wof := (fun u : US => (wM kc a u))) (u := σ) E G rfl h (Nat.le_of_ble_eq_true rfl) (Nat.le_of_ble_eq_true rfl) dX12_holds_17
  · have h := h.2 hc10
    refine lv_aload_n E.ex E.by dX12_holds_8 rfl (lv_at hl 0 rfl) ?_
    refine lv_iload_n E.ex E.by dX12_holds_9 rfl (lv_at hl 2 rfl) ?_
    refine k_cVi (X := []) (w := (wM kc a σ)) (Z := []) (wnew := (fun _ : Unit => (wM kc a σ))) (As := [.int p2]) (rest := []) E (List.append_nil _).symm G (c_X12_isState l D kc _ _ _ _ h) gX12_holds_X12_isState rfl ⟨rfl, rfl⟩ hd_X12_isState_v ⟨rfl, rfl⟩ 0 (gM_0 _ _ _) rfl rfl hl rfl rfl dX12_holds_10 ⟨rfl, rfl⟩ (fun _ => (List.append_nil _).symm) (fun r2 _u10 hq H locs G => ?_)
    have h := hq
    refine lv_if_ne (tgt := 18) E.ex E.by dX12_holds_13 (by decide) (fun hc9 => ?_) (fun hc9 => ?_)
    · have h := h.1 hc9
      refine lv_aload_n E.ex E.by dX12_holds_18 rfl (lv_at hl 0 rfl) ?_
      refine lv_aload_n E.ex E.by dX12_holds_19 rfl (lv_at hl 0 rfl) ?_
      refine k_get E G wi_X12_holds_X12 0 (gM_0 _ _ _) rfl 25 rfl fl_X12_holds_X12_25 (v := .ref (a 18)) rfl dX12_holds_20 ?_
      refine lv_iload_n E.ex E.by dX12_holds_23 rfl (lv_at hl 1 rfl) ?_
      refine k_iald E G 18 (gM_18 _ _ _) 0 rfl h.1 dX12_holds_24 ?_
      have h := h.2
      refine k_cVi (X := []) (w := (wM kc a σ)) (Z := []) (wnew := (fun _ : Unit => (wM kc a σ))) (As := [.int (aA σ 13 (p1).toNatClampNeg)]) (rest := []) E (List.append_nil _).symm G (c_X12_isRefusedNode l D kc _ 8 _ _ _ h) gX12_holds_X12_isRefusedNode rfl ⟨rfl, rfl⟩ hd_X12_isRefusedNode_v ⟨rfl, rfl⟩ 0 (gM_0 _ _ _) rfl rfl hl rfl rfl dX12_holds_25 ⟨rfl, rfl⟩ (fun _ => (List.append_nil _).symm) (fun r3 _u25 hq H locs G => ?_)
      have h := hq
      refine lv_if_eq (tgt := 36) E.ex E.by dX12_holds_28 (by decide) (fun hc8 => ?_) (fun hc8 => ?_)
      · have h := h.1 hc8
        refine lv_aload_n E.ex E.by dX12_holds_36 rfl (lv_at hl 0 rfl) ?_
        refine lv_aload_n E.ex E.by dX12_holds_37 rfl (lv_at hl 0 rfl) ?_
        refine k_get E G wi_X12_holds_X12 0 (gM_0 _ _ _) rfl 25 rfl fl_X12_holds_X12_25 (v := .ref (a 18)) rfl dX12_holds_38 ?_
        refine lv_iload_n E.ex E.by dX12_holds_41 rfl (lv_at hl 1 rfl) ?_
        refine k_iald E G 18 (gM_18 _ _ _) 0 rfl h.1 dX12_holds_42 ?_
        have h := h.2
        refine k_cVi (X := []) (w := (wM kc a σ)) (Z := []) (wnew := (fun u : US => (wM kc a u))) (As := [.int (aA σ 13 (p1).toNatClampNeg)]) (rest := []) E (List.append_nil _).symm G (c_X12_setOf l D kc _ 8 _ _ _ h) gX12_holds_X12_setOf rfl ⟨rfl, rfl⟩ hd_X12_setOf_v ⟨rfl, rfl⟩ 0 (gM_0 _ _ _) rfl rfl hl rfl rfl dX12_holds_43 ⟨rfl, rfl⟩ (fun _ => (List.append_nil _).symm) (fun r4 u5 hq H locs G => ?_)
        have h := hq
        refine lv_iload_n E.ex E.by dX12_holds_46 rfl (lv_at hl 2 rfl) ?_
        refine k_cSi (X := (wM kc a u5)) (w := []) (Z := []) (wnew := (fun _ : Unit => (wM kc a u5))) (As := [.int r4, .int p2]) (rest := []) E (List.append_nil _).symm G (c_X12_has l D kc _ _ _ h) gX12_holds_X12_has rfl ⟨rfl, rfl⟩ hd_X12_has_v ⟨rfl, rfl⟩ rfl hl rfl rfl dX12_holds_47 ⟨rfl, rfl⟩ (fun _ => (List.append_nil _).symm) (fun r6 _u47 hq H locs G => ?_)
        have h := hq
        refine lv_if_eq (tgt := 57) E.ex E.by dX12_holds_50 (by decide) (fun hc7 => ?_) (fun hc7 => ?_)
        · have h := h.1 hc7
          refine lv_iconst (v := 0) E.ex E.by dX12_holds_57 (by decide) ?_
          exact k_ret (wof := (fun u : US => (wM kc a u))) (u := u5) E G rfl h (Nat.le_of_ble_eq_true rfl) (Nat.le_of_ble_eq_true rfl) dX12_holds_58
        · have h := h.2 hc7
          refine lv_iconst (v := 1) E.ex E.by dX12_holds_53 (by decide) ?_
          refine lv_goto (tgt := 58) E.ex E.by dX12_holds_54 (by decide) ?_
          exact k_ret (wof := (fun u : US => (wM kc a u))) (u := u5) E G rfl h (Nat.le_of_ble_eq_true rfl) (Nat.le_of_ble_eq_true rfl) dX12_holds_58
      · have h := h.2 hc8
        refine lv_bipush (v := (-4)) E.ex E.by dX12_holds_31 (by decide) ?_
        refine lv_goto (tgt := 58) E.ex E.by dX12_holds_33 (by decide) ?_
        exact k_ret (wof := (fun u : US => (wM kc a u))) (u := σ) E G rfl h (Nat.le_of_ble_eq_true rfl) (Nat.le_of_ble_eq_true rfl) dX12_holds_58
    · have h := h.2 hc9
      refine lv_iconst (v := (-1)) E.ex E.by dX12_holds_16 (by decide) ?_
      exact k_ret (wof := (fun u : US => (wM kc a u))) (u := σ) E G rfl h (Nat.le_of_ble_eq_true rfl) (Nat.le_of_ble_eq_true rfl) dX12_holds_17
theorem wi_X12_hinders_X12 : ∀ w ∈ wsX120, w ∈ wsX12_hinders := fun w h => List.mem_cons_of_mem _ (List.mem_append_right _ (h))
theorem fl_X12_hinders_X12_25 : Cond.fieldLink RX12 62 (TX12 25).1 (TX12 25).2.1 (TX12 25).2.2.1 ∈ wsX12_hinders := List.mem_of_getElem? (i := 1) (by decide +kernel)
def wp_X12_hinders (p1 : Int32) (p2 : Int32) (p3 : Int32) (p4 : Int32) (σ : US) (Q : Int32 → Prop) : Prop := wp_X12_isFormula p1 σ (fun (r1 : Int32) => (r1 = 0 → Q (-1)) ∧ (¬ r1 = 0 → wp_X12_isFormula p2 σ (fun (r2 : Int32) => (r2 = 0 → Q (-1)) ∧ (¬ r2 = 0 → wp_X12_isState p3 σ (fun (r3 : Int32) => (r3 = 0 → Q (-1)) ∧ (¬ r3 = 0 → wp_X12_isPart p4 (fun (r4 : Int32) => (¬ r4 = 0 → vp_in p1 6 ∧ (wp_X12_isRefusedNode 8 (aA σ 13 (p1).toNatClampNeg) σ (fun (r5 : Int32) => (¬ r5 = 0 → Q (-4)) ∧ (r5 = 0 → vp_in p2 6 ∧ (wp_X12_isRefusedNode 8 (aA σ 13 (p2).toNatClampNeg) σ (fun (r6 : Int32) => (r6 = 0 → Q 0) ∧ (¬ r6 = 0 → Q (-4)))))))) ∧ (r4 = 0 → Q (-1)))))))))
set_option maxRecDepth 100000 in
set_option maxHeartbeats 4000000 in
theorem c_X12_hinders (l : Launch) (D : va_G) (kc : Nat → ClassId) (a : Nat → Nat)  (p1 : Int32) (p2 : Int32) (p3 : Int32) (p4 : Int32) (σ : US) (Q : Int32 → Prop) (h : wp_X12_hinders p1 p2 p3 p4 σ Q) : kCi l D (tyL kc) yX12_hinders wsX12_hinders ({ frames := 33, cells := 0, slots := 0, locals := 822 } : Room) [.ref (a 0), .int p1, .int p2, .int p3, .int p4] (wM kc a σ) (fun _ : Unit => (wM kc a σ)) 0 0 (fun r _ => Q r) := by
  intro sz
  refine k_begin (cc := cX12_hinders) (maxL := 5) (ret := (some .int)) (by decide +kernel) rfl rfl (fun p e s m args below meth c hsz E G ls hl => ?_)
  subst hsz
  have hl : lv_has ls 5 [(0, .ref (a 0)), (1, .int p1), (2, .int p2), (3, .int p3), (4, .int p4)] := hl
  refine lv_aload_n E.ex E.by dX12_hinders_0 rfl (lv_at hl 0 rfl) ?_
  refine lv_iload_n E.ex E.by dX12_hinders_1 rfl (lv_at hl 1 rfl) ?_
  refine k_cVi (X := []) (w := (wM kc a σ)) (Z := []) (wnew := (fun _ : Unit => (wM kc a σ))) (As := [.int p1]) (rest := []) E (List.append_nil _).symm G (c_X12_isFormula l D kc _ _ _ _ h) gX12_hinders_X12_isFormula rfl ⟨rfl, rfl⟩ hd_X12_isFormula_v ⟨rfl, rfl⟩ 0 (gM_0 _ _ _) rfl rfl hl rfl rfl dX12_hinders_2 ⟨rfl, rfl⟩ (fun _ => (List.append_nil _).symm) (fun r1 _u2 hq H locs G => ?_)
  have h := hq
  refine lv_if_eq (tgt := 32) E.ex E.by dX12_hinders_5 (by decide) (fun hc12 => ?_) (fun hc12 => ?_)
  · have h := h.1 hc12
    refine lv_iconst (v := (-1)) E.ex E.by dX12_hinders_32 (by decide) ?_
    exact k_ret (wof := (fun _ : Unit => (wM kc a σ))) (u := ()) E G rfl h (Nat.le_of_ble_eq_true rfl) (Nat.le_of_ble_eq_true rfl) dX12_hinders_33
  · have h := h.2 hc12
    refine lv_aload_n E.ex E.by dX12_hinders_8 rfl (lv_at hl 0 rfl) ?_
    refine lv_iload_n E.ex E.by dX12_hinders_9 rfl (lv_at hl 2 rfl) ?_
    refine k_cVi (X := []) (w := (wM kc a σ)) (Z := []) (wnew := (fun _ : Unit => (wM kc a σ))) (As := [.int p2]) (rest := []) E (List.append_nil _).symm G (c_X12_isFormula l D kc _ _ _ _ h) gX12_hinders_X12_isFormula rfl ⟨rfl, rfl⟩ hd_X12_isFormula_v ⟨rfl, rfl⟩ 0 (gM_0 _ _ _) rfl rfl hl rfl rfl dX12_hinders_10 ⟨rfl, rfl⟩ (fun _ => (List.append_nil _).symm) (fun r2 _u10 hq H locs G => ?_)
    have h := hq
    refine lv_if_eq (tgt := 32) E.ex E.by dX12_hinders_13 (by decide) (fun hc11 => ?_) (fun hc11 => ?_)
    · have h := h.1 hc11
      refine lv_iconst (v := (-1)) E.ex E.by dX12_hinders_32 (by decide) ?_
      exact k_ret (wof := (fun _ : Unit => (wM kc a σ))) (u := ()) E G rfl h (Nat.le_of_ble_eq_true rfl) (Nat.le_of_ble_eq_true rfl) dX12_hinders_33
    · have h := h.2 hc11
      refine lv_aload_n E.ex E.by dX12_hinders_16 rfl (lv_at hl 0 rfl) ?_
      refine lv_iload_n E.ex E.by dX12_hinders_17 rfl (lv_at hl 3 rfl) ?_
      refine k_cVi (X := []) (w := (wM kc a σ)) (Z := []) (wnew := (fun _ : Unit => (wM kc a σ))) (As := [.int p3]) (rest := []) E (List.append_nil _).symm G (c_X12_isState l D kc _ _ _ _ h) gX12_hinders_X12_isState rfl ⟨rfl, rfl⟩ hd_X12_isState_v ⟨rfl, rfl⟩ 0 (gM_0 _ _ _) rfl rfl hl rfl rfl dX12_hinders_18 ⟨rfl, rfl⟩ (fun _ => (List.append_nil _).symm) (fun r3 _u18 hq H locs G => ?_)
      have h := hq
      refine lv_if_eq (tgt := 32) E.ex E.by dX12_hinders_21 (by decide) (fun hc10 => ?_) (fun hc10 => ?_)
      · have h := h.1 hc10
        refine lv_iconst (v := (-1)) E.ex E.by dX12_hinders_32 (by decide) ?_
        exact k_ret (wof := (fun _ : Unit => (wM kc a σ))) (u := ()) E G rfl h (Nat.le_of_ble_eq_true rfl) (Nat.le_of_ble_eq_true rfl) dX12_hinders_33
      · have h := h.2 hc10
        refine lv_iload E.ex E.by dX12_hinders_24 (lv_at hl 4 rfl) ?_
        refine k_cSi (X := (wM kc a σ)) (w := []) (Z := []) (wnew := (fun _ : Unit => (wM kc a σ))) (As := [.int p4]) (rest := []) E (List.append_nil _).symm G (c_X12_isPart l D kc _ _ h) gX12_hinders_X12_isPart rfl ⟨rfl, rfl⟩ hd_X12_isPart_v ⟨rfl, rfl⟩ rfl hl rfl rfl dX12_hinders_26 ⟨rfl, rfl⟩ (fun _ => (List.append_nil _).symm) (fun r4 _u26 hq H locs G => ?_)
        have h := hq
        refine lv_if_ne (tgt := 34) E.ex E.by dX12_hinders_29 (by decide) (fun hc9 => ?_) (fun hc9 => ?_)
        · have h := h.1 hc9
          refine lv_aload_n E.ex E.by dX12_hinders_34 rfl (lv_at hl 0 rfl) ?_
          refine lv_aload_n E.ex E.by dX12_hinders_35 rfl (lv_at hl 0 rfl) ?_
          refine k_get E G wi_X12_hinders_X12 0 (gM_0 _ _ _) rfl 25 rfl fl_X12_hinders_X12_25 (v := .ref (a 18)) rfl dX12_hinders_36 ?_
          refine lv_iload_n E.ex E.by dX12_hinders_39 rfl (lv_at hl 1 rfl) ?_
          refine k_iald E G 18 (gM_18 _ _ _) 0 rfl h.1 dX12_hinders_40 ?_
          have h := h.2
          refine k_cVi (X := []) (w := (wM kc a σ)) (Z := []) (wnew := (fun _ : Unit => (wM kc a σ))) (As := [.int (aA σ 13 (p1).toNatClampNeg)]) (rest := []) E (List.append_nil _).symm G (c_X12_isRefusedNode l D kc _ 8 _ _ _ h) gX12_hinders_X12_isRefusedNode rfl ⟨rfl, rfl⟩ hd_X12_isRefusedNode_v ⟨rfl, rfl⟩ 0 (gM_0 _ _ _) rfl rfl hl rfl rfl dX12_hinders_41 ⟨rfl, rfl⟩ (fun _ => (List.append_nil _).symm) (fun r5 _u41 hq H locs G => ?_)
          have h := hq
          refine lv_if_ne (tgt := 60) E.ex E.by dX12_hinders_44 (by decide) (fun hc8 => ?_) (fun hc8 => ?_)
          · have h := h.1 hc8
            refine lv_bipush (v := (-4)) E.ex E.by dX12_hinders_60 (by decide) ?_
            refine lv_goto (tgt := 66) E.ex E.by dX12_hinders_62 (by decide) ?_
            exact k_ret (wof := (fun _ : Unit => (wM kc a σ))) (u := ()) E G rfl h (Nat.le_of_ble_eq_true rfl) (Nat.le_of_ble_eq_true rfl) dX12_hinders_66
          · have h := h.2 hc8
            refine lv_aload_n E.ex E.by dX12_hinders_47 rfl (lv_at hl 0 rfl) ?_
            refine lv_aload_n E.ex E.by dX12_hinders_48 rfl (lv_at hl 0 rfl) ?_
            refine k_get E G wi_X12_hinders_X12 0 (gM_0 _ _ _) rfl 25 rfl fl_X12_hinders_X12_25 (v := .ref (a 18)) rfl dX12_hinders_49 ?_
            refine lv_iload_n E.ex E.by dX12_hinders_52 rfl (lv_at hl 2 rfl) ?_
            refine k_iald E G 18 (gM_18 _ _ _) 0 rfl h.1 dX12_hinders_53 ?_
            have h := h.2
            refine k_cVi (X := []) (w := (wM kc a σ)) (Z := []) (wnew := (fun _ : Unit => (wM kc a σ))) (As := [.int (aA σ 13 (p2).toNatClampNeg)]) (rest := []) E (List.append_nil _).symm G (c_X12_isRefusedNode l D kc _ 8 _ _ _ h) gX12_hinders_X12_isRefusedNode rfl ⟨rfl, rfl⟩ hd_X12_isRefusedNode_v ⟨rfl, rfl⟩ 0 (gM_0 _ _ _) rfl rfl hl rfl rfl dX12_hinders_54 ⟨rfl, rfl⟩ (fun _ => (List.append_nil _).symm) (fun r6 _u54 hq H locs G => ?_)
            have h := hq
            refine lv_if_eq (tgt := 65) E.ex E.by dX12_hinders_57 (by decide) (fun hc7 => ?_) (fun hc7 => ?_)
            · have h := h.1 hc7
              refine lv_iconst (v := 0) E.ex E.by dX12_hinders_65 (by decide) ?_
              exact k_ret (wof := (fun _ : Unit => (wM kc a σ))) (u := ()) E G rfl h (Nat.le_of_ble_eq_true rfl) (Nat.le_of_ble_eq_true rfl) dX12_hinders_66
            · have h := h.2 hc7
              refine lv_bipush (v := (-4)) E.ex E.by dX12_hinders_60 (by decide) ?_
              refine lv_goto (tgt := 66) E.ex E.by dX12_hinders_62 (by decide) ?_
              exact k_ret (wof := (fun _ : Unit => (wM kc a σ))) (u := ()) E G rfl h (Nat.le_of_ble_eq_true rfl) (Nat.le_of_ble_eq_true rfl) dX12_hinders_66
        · have h := h.2 hc9
          refine lv_iconst (v := (-1)) E.ex E.by dX12_hinders_32 (by decide) ?_
          exact k_ret (wof := (fun _ : Unit => (wM kc a σ))) (u := ()) E G rfl h (Nat.le_of_ble_eq_true rfl) (Nat.le_of_ble_eq_true rfl) dX12_hinders_33
theorem wi_X12_next_X12 : ∀ w ∈ wsX120, w ∈ wsX12_next := fun w h => List.mem_cons_of_mem _ (List.mem_append_right _ (h))
theorem fl_X12_next_X12_25 : Cond.fieldLink RX12 62 (TX12 25).1 (TX12 25).2.1 (TX12 25).2.2.1 ∈ wsX12_next := List.mem_of_getElem? (i := 1) (by decide +kernel)
theorem hd_X12_hinders_v : yX12_hinders.cls = RX12 ∧ yX12_hinders.cls ≠ "java/lang/invoke/MethodHandle" ∧ yX12_hinders.cls ≠ "java/lang/invoke/VarHandle" ∧ (parseMethodDescriptor yX12_hinders.desc).map (fun d => d.parameters.length) = some 4 := by decide +kernel
def wp_X12_next (p1 : Int32) (p2 : Int32) (p3 : Int32) (σ : US) (Q : Int64 → US → Prop) : Prop := wp_X12_hinders p1 p1 p2 p3 σ (fun (r1 : Int32) => (0 ≤ r1 → vp_in p1 6 ∧ (wp_X12_setOf 8 (aA σ 13 (p1).toNatClampNeg) σ (fun (r2 : Int32) (u3 : US) => wp_X12_weightInto p2 r2 u3 (fun (r4 : Int32) => wp_X12_sumOf p2 u3 (fun (r5 : Int32) => wp_X12_give (r4.toInt64) (r5.toInt64) u3 (fun (u6 : US) => wp_X12_part p3 u6 (fun (r7 : Int64) => Q r7 u6))))))) ∧ (¬ 0 ≤ r1 → Q (r1.toInt64) σ))
set_option maxRecDepth 100000 in
set_option maxHeartbeats 4000000 in
theorem c_X12_next (l : Launch) (D : va_G) (kc : Nat → ClassId) (a : Nat → Nat)  (p1 : Int32) (p2 : Int32) (p3 : Int32) (σ : US) (Q : Int64 → US → Prop) (h : wp_X12_next p1 p2 p3 σ Q) : kCl l D (tyL kc) yX12_next wsX12_next ({ frames := 57, cells := 0, slots := 0, locals := 1492 } : Room) [.ref (a 0), .int p1, .int p2, .int p3] (wM kc a σ) (fun u : US => (wM kc a u)) 0 0 (fun r u => Q r u) := by
  intro sz
  refine k_begin (cc := cX12_next) (maxL := 5) (ret := (some .long)) (by decide +kernel) rfl rfl (fun p e s m args below meth c hsz E G ls hl => ?_)
  subst hsz
  have hl : lv_has ls 5 [(0, .ref (a 0)), (1, .int p1), (2, .int p2), (3, .int p3)] := hl
  refine lv_aload_n E.ex E.by dX12_next_0 rfl (lv_at hl 0 rfl) ?_
  refine lv_iload_n E.ex E.by dX12_next_1 rfl (lv_at hl 1 rfl) ?_
  refine lv_iload_n E.ex E.by dX12_next_2 rfl (lv_at hl 1 rfl) ?_
  refine lv_iload_n E.ex E.by dX12_next_3 rfl (lv_at hl 2 rfl) ?_
  refine lv_iload_n E.ex E.by dX12_next_4 rfl (lv_at hl 3 rfl) ?_
  refine k_cVi (X := []) (w := (wM kc a σ)) (Z := []) (wnew := (fun _ : Unit => (wM kc a σ))) (As := [.int p1, .int p1, .int p2, .int p3]) (rest := []) E (List.append_nil _).symm G (c_X12_hinders l D kc _ _ _ _ _ _ _ h) gX12_next_X12_hinders rfl ⟨rfl, rfl⟩ hd_X12_hinders_v ⟨rfl, rfl⟩ 0 (gM_0 _ _ _) rfl rfl hl rfl rfl dX12_next_5 ⟨rfl, rfl⟩ (fun _ => (List.append_nil _).symm) (fun r1 _u5 hq H locs G => ?_)
  have h := hq
  refine lv_istore (lv' := [(4, .int r1), (0, .ref (a 0)), (1, .int p1), (2, .int p2), (3, .int p3)]) E.ex E.by dX12_next_8 hl (by decide) rfl (fun ls hl => ?_)
  refine lv_iload E.ex E.by dX12_next_10 (lv_at hl 0 rfl) ?_
  refine lv_if_ge (tgt := 19) E.ex E.by dX12_next_12 (by decide) (fun hc8 => ?_) (fun hc8 => ?_)
  · have h := h.1 hc8
    refine lv_aload_n E.ex E.by dX12_next_19 rfl (lv_at hl 1 rfl) ?_
    refine lv_aload_n E.ex E.by dX12_next_20 rfl (lv_at hl 1 rfl) ?_
    refine lv_iload_n E.ex E.by dX12_next_21 rfl (lv_at hl 3 rfl) ?_
    refine lv_aload_n E.ex E.by dX12_next_22 rfl (lv_at hl 1 rfl) ?_
    refine lv_aload_n E.ex E.by dX12_next_23 rfl (lv_at hl 1 rfl) ?_
    refine k_get E G wi_X12_next_X12 0 (gM_0 _ _ _) rfl 25 rfl fl_X12_next_X12_25 (v := .ref (a 18)) rfl dX12_next_24 ?_
    refine lv_iload_n E.ex E.by dX12_next_27 rfl (lv_at hl 2 rfl) ?_
    refine k_iald E G 18 (gM_18 _ _ _) 0 rfl h.1 dX12_next_28 ?_
    have h := h.2
    refine k_cVi (X := []) (w := (wM kc a σ)) (Z := []) (wnew := (fun u : US => (wM kc a u))) (As := [.int (aA σ 13 (p1).toNatClampNeg)]) (rest := [.int p2, .ref (a 0), .ref (a 0)]) E (List.append_nil _).symm G (c_X12_setOf l D kc _ 8 _ _ _ h) gX12_next_X12_setOf rfl ⟨rfl, rfl⟩ hd_X12_setOf_v ⟨rfl, rfl⟩ 0 (gM_0 _ _ _) rfl rfl hl rfl rfl dX12_next_29 ⟨rfl, rfl⟩ (fun _ => (List.append_nil _).symm) (fun r2 u3 hq H locs G => ?_)
    have h := hq
    refine k_cVi (X := []) (w := (wM kc a u3)) (Z := []) (wnew := (fun _ : Unit => (wM kc a u3))) (As := [.int p2, .int r2]) (rest := [.ref (a 0)]) E (List.append_nil _).symm G (c_X12_weightInto l D kc _ _ _ _ _ h) gX12_next_X12_weightInto rfl ⟨rfl, rfl⟩ hd_X12_weightInto_v ⟨rfl, rfl⟩ 0 (gM_0 _ _ _) rfl rfl hl rfl rfl dX12_next_32 ⟨rfl, rfl⟩ (fun _ => (List.append_nil _).symm) (fun r4 _u32 hq H locs G => ?_)
    have h := hq
    refine lv_i2l E.ex E.by dX12_next_35 rfl ?_
    refine lv_aload_n E.ex E.by dX12_next_36 rfl (lv_at hl 1 rfl) ?_
    refine lv_iload_n E.ex E.by dX12_next_37 rfl (lv_at hl 3 rfl) ?_
    refine k_cVi (X := []) (w := (wM kc a u3)) (Z := []) (wnew := (fun _ : Unit => (wM kc a u3))) (As := [.int p2]) (rest := [.long (r4.toInt64), .ref (a 0)]) E (List.append_nil _).symm G (c_X12_sumOf l D kc _ _ _ _ h) gX12_next_X12_sumOf rfl ⟨rfl, rfl⟩ hd_X12_sumOf_v ⟨rfl, rfl⟩ 0 (gM_0 _ _ _) rfl rfl hl rfl rfl dX12_next_38 ⟨rfl, rfl⟩ (fun _ => (List.append_nil _).symm) (fun r5 _u38 hq H locs G => ?_)
    have h := hq
    refine lv_i2l E.ex E.by dX12_next_41 rfl ?_
    refine k_cVv (X := []) (w := (wM kc a u3)) (Z := []) (wnew := (fun u : US => (wM kc a u))) (As := [.long (r4.toInt64), .long (r5.toInt64)]) (rest := []) E (List.append_nil _).symm G (c_X12_give l D kc _ _ _ _ _ h) gX12_next_X12_give rfl ⟨rfl, rfl⟩ hd_X12_give_v ⟨rfl, rfl⟩ 0 (gM_0 _ _ _) rfl rfl hl rfl rfl dX12_next_42 ⟨rfl, rfl⟩ (fun _ => (List.append_nil _).symm) (fun u6 hq H locs G => ?_)
    have h := hq
    refine lv_aload_n E.ex E.by dX12_next_45 rfl (lv_at hl 1 rfl) ?_
    refine lv_iload_n E.ex E.by dX12_next_46 rfl (lv_at hl 4 rfl) ?_
    refine k_cVl (X := []) (w := (wM kc a u6)) (Z := []) (wnew := (fun _ : Unit => (wM kc a u6))) (As := [.int p3]) (rest := []) E (List.append_nil _).symm G (c_X12_part l D kc _ _ _ _ h) gX12_next_X12_part rfl ⟨rfl, rfl⟩ hd_X12_part_v ⟨rfl, rfl⟩ 0 (gM_0 _ _ _) rfl rfl hl rfl rfl dX12_next_47 ⟨rfl, rfl⟩ (fun _ => (List.append_nil _).symm) (fun r7 _u47 hq H locs G => ?_)
    have h := hq
    exact k_retl (wof := (fun u : US => (wM kc a u))) (u := u6) E G h (Nat.le_of_ble_eq_true rfl) (Nat.le_of_ble_eq_true rfl) dX12_next_50
  · have h := h.2 hc8
    refine lv_iload E.ex E.by dX12_next_15 (lv_at hl 0 rfl) ?_
    refine lv_i2l E.ex E.by dX12_next_17 rfl ?_
    exact k_retl (wof := (fun u : US => (wM kc a u))) (u := σ) E G h (Nat.le_of_ble_eq_true rfl) (Nat.le_of_ble_eq_true rfl) dX12_next_18
theorem wi_X12_until_X12 : ∀ w ∈ wsX120, w ∈ wsX12_until := fun w h => List.mem_cons_of_mem _ (List.mem_append_right _ (h))
theorem fl_X12_until_X12_25 : Cond.fieldLink RX12 62 (TX12 25).1 (TX12 25).2.1 (TX12 25).2.2.1 ∈ wsX12_until := List.mem_of_getElem? (i := 1) (by decide +kernel)
def wp_X12_until (p1 : Int32) (p2 : Int32) (p3 : Int32) (p4 : Int32) (σ : US) (Q : Int64 → US → Prop) : Prop := wp_X12_hinders p1 p2 p3 p4 σ (fun (r1 : Int32) => (0 ≤ r1 → vp_in p1 6 ∧ (wp_X12_setOf 8 (aA σ 13 (p1).toNatClampNeg) σ (fun (r2 : Int32) (u3 : US) => vp_in p2 6 ∧ (wp_X12_setOf 8 (aA u3 13 (p2).toNatClampNeg) u3 (fun (r4 : Int32) (u5 : US) => wp_X12_findUntil r2 r4 p3 u5 (fun (u6 : US) => wp_X12_part p4 u6 (fun (r7 : Int64) => Q r7 u6))))))) ∧ (¬ 0 ≤ r1 → Q (r1.toInt64) σ))
set_option maxRecDepth 100000 in
set_option maxHeartbeats 4000000 in
theorem c_X12_until (l : Launch) (D : va_G) (kc : Nat → ClassId) (a : Nat → Nat)  (p1 : Int32) (p2 : Int32) (p3 : Int32) (p4 : Int32) (σ : US) (Q : Int64 → US → Prop) (h : wp_X12_until p1 p2 p3 p4 σ Q) : kCl l D (tyL kc) yX12_until wsX12_until ({ frames := 57, cells := 0, slots := 0, locals := 1492 } : Room) [.ref (a 0), .int p1, .int p2, .int p3, .int p4] (wM kc a σ) (fun u : US => (wM kc a u)) 0 0 (fun r u => Q r u) := by
  intro sz
  refine k_begin (cc := cX12_until) (maxL := 8) (ret := (some .long)) (by decide +kernel) rfl rfl (fun p e s m args below meth c hsz E G ls hl => ?_)
  subst hsz
  have hl : lv_has ls 8 [(0, .ref (a 0)), (1, .int p1), (2, .int p2), (3, .int p3), (4, .int p4)] := hl
  refine lv_aload_n E.ex E.by dX12_until_0 rfl (lv_at hl 0 rfl) ?_
  refine lv_iload_n E.ex E.by dX12_until_1 rfl (lv_at hl 1 rfl) ?_
  refine lv_iload_n E.ex E.by dX12_until_2 rfl (lv_at hl 2 rfl) ?_
  refine lv_iload_n E.ex E.by dX12_until_3 rfl (lv_at hl 3 rfl) ?_
  refine lv_iload E.ex E.by dX12_until_4 (lv_at hl 4 rfl) ?_
  refine k_cVi (X := []) (w := (wM kc a σ)) (Z := []) (wnew := (fun _ : Unit => (wM kc a σ))) (As := [.int p1, .int p2, .int p3, .int p4]) (rest := []) E (List.append_nil _).symm G (c_X12_hinders l D kc _ _ _ _ _ _ _ h) gX12_until_X12_hinders rfl ⟨rfl, rfl⟩ hd_X12_hinders_v ⟨rfl, rfl⟩ 0 (gM_0 _ _ _) rfl rfl hl rfl rfl dX12_until_6 ⟨rfl, rfl⟩ (fun _ => (List.append_nil _).symm) (fun r1 _u6 hq H locs G => ?_)
  have h := hq
  refine lv_istore (lv' := [(5, .int r1), (0, .ref (a 0)), (1, .int p1), (2, .int p2), (3, .int p3), (4, .int p4)]) E.ex E.by dX12_until_9 hl (by decide) rfl (fun ls hl => ?_)
  refine lv_iload E.ex E.by dX12_until_11 (lv_at hl 0 rfl) ?_
  refine lv_if_ge (tgt := 20) E.ex E.by dX12_until_13 (by decide) (fun hc8 => ?_) (fun hc8 => ?_)
  · have h := h.1 hc8
    refine lv_aload_n E.ex E.by dX12_until_20 rfl (lv_at hl 1 rfl) ?_
    refine lv_aload_n E.ex E.by dX12_until_21 rfl (lv_at hl 1 rfl) ?_
    refine k_get E G wi_X12_until_X12 0 (gM_0 _ _ _) rfl 25 rfl fl_X12_until_X12_25 (v := .ref (a 18)) rfl dX12_until_22 ?_
    refine lv_iload_n E.ex E.by dX12_until_25 rfl (lv_at hl 2 rfl) ?_
    refine k_iald E G 18 (gM_18 _ _ _) 0 rfl h.1 dX12_until_26 ?_
    have h := h.2
    refine k_cVi (X := []) (w := (wM kc a σ)) (Z := []) (wnew := (fun u : US => (wM kc a u))) (As := [.int (aA σ 13 (p1).toNatClampNeg)]) (rest := []) E (List.append_nil _).symm G (c_X12_setOf l D kc _ 8 _ _ _ h) gX12_until_X12_setOf rfl ⟨rfl, rfl⟩ hd_X12_setOf_v ⟨rfl, rfl⟩ 0 (gM_0 _ _ _) rfl rfl hl rfl rfl dX12_until_27 ⟨rfl, rfl⟩ (fun _ => (List.append_nil _).symm) (fun r2 u3 hq H locs G => ?_)
    have h := hq
    refine lv_istore (lv' := [(6, .int r2), (5, .int r1), (0, .ref (a 0)), (1, .int p1), (2, .int p2), (3, .int p3), (4, .int p4)]) E.ex E.by dX12_until_30 hl (by decide) rfl (fun ls hl => ?_)
    refine lv_aload_n E.ex E.by dX12_until_32 rfl (lv_at hl 2 rfl) ?_
    refine lv_aload_n E.ex E.by dX12_until_33 rfl (lv_at hl 2 rfl) ?_
    refine k_get E G wi_X12_until_X12 0 (gM_0 _ _ _) rfl 25 rfl fl_X12_until_X12_25 (v := .ref (a 18)) rfl dX12_until_34 ?_
    refine lv_iload_n E.ex E.by dX12_until_37 rfl (lv_at hl 4 rfl) ?_
    refine k_iald E G 18 (gM_18 _ _ _) 0 rfl h.1 dX12_until_38 ?_
    have h := h.2
    refine k_cVi (X := []) (w := (wM kc a u3)) (Z := []) (wnew := (fun u : US => (wM kc a u))) (As := [.int (aA u3 13 (p2).toNatClampNeg)]) (rest := []) E (List.append_nil _).symm G (c_X12_setOf l D kc _ 8 _ _ _ h) gX12_until_X12_setOf rfl ⟨rfl, rfl⟩ hd_X12_setOf_v ⟨rfl, rfl⟩ 0 (gM_0 _ _ _) rfl rfl hl rfl rfl dX12_until_39 ⟨rfl, rfl⟩ (fun _ => (List.append_nil _).symm) (fun r4 u5 hq H locs G => ?_)
    have h := hq
    refine lv_istore (lv' := [(7, .int r4), (6, .int r2), (5, .int r1), (0, .ref (a 0)), (1, .int p1), (2, .int p2), (3, .int p3), (4, .int p4)]) E.ex E.by dX12_until_42 hl (by decide) rfl (fun ls hl => ?_)
    refine lv_aload_n E.ex E.by dX12_until_44 rfl (lv_at hl 3 rfl) ?_
    refine lv_iload E.ex E.by dX12_until_45 (lv_at hl 1 rfl) ?_
    refine lv_iload E.ex E.by dX12_until_47 (lv_at hl 0 rfl) ?_
    refine lv_iload_n E.ex E.by dX12_until_49 rfl (lv_at hl 6 rfl) ?_
    refine k_cVv (X := []) (w := (wM kc a u5)) (Z := []) (wnew := (fun u : US => (wM kc a u))) (As := [.int r2, .int r4, .int p3]) (rest := []) E (List.append_nil _).symm G (c_X12_findUntil l D kc _ _ _ _ _ _ h) gX12_until_X12_findUntil rfl ⟨rfl, rfl⟩ hd_X12_findUntil_v ⟨rfl, rfl⟩ 0 (gM_0 _ _ _) rfl rfl hl rfl rfl dX12_until_50 ⟨rfl, rfl⟩ (fun _ => (List.append_nil _).symm) (fun u6 hq H locs G => ?_)
    have h := hq
    refine lv_aload_n E.ex E.by dX12_until_53 rfl (lv_at hl 3 rfl) ?_
    refine lv_iload E.ex E.by dX12_until_54 (lv_at hl 7 rfl) ?_
    refine k_cVl (X := []) (w := (wM kc a u6)) (Z := []) (wnew := (fun _ : Unit => (wM kc a u6))) (As := [.int p4]) (rest := []) E (List.append_nil _).symm G (c_X12_part l D kc _ _ _ _ h) gX12_until_X12_part rfl ⟨rfl, rfl⟩ hd_X12_part_v ⟨rfl, rfl⟩ 0 (gM_0 _ _ _) rfl rfl hl rfl rfl dX12_until_56 ⟨rfl, rfl⟩ (fun _ => (List.append_nil _).symm) (fun r7 _u56 hq H locs G => ?_)
    have h := hq
    exact k_retl (wof := (fun u : US => (wM kc a u))) (u := u6) E G h (Nat.le_of_ble_eq_true rfl) (Nat.le_of_ble_eq_true rfl) dX12_until_59
  · have h := h.2 hc8
    refine lv_iload E.ex E.by dX12_until_16 (lv_at hl 0 rfl) ?_
    refine lv_i2l E.ex E.by dX12_until_18 rfl ?_
    exact k_retl (wof := (fun u : US => (wM kc a u))) (u := σ) E G h (Nat.le_of_ble_eq_true rfl) (Nat.le_of_ble_eq_true rfl) dX12_until_19
theorem wi_X12_within_X12 : ∀ w ∈ wsX120, w ∈ wsX12_within := fun w h => List.mem_cons_of_mem _ (List.mem_append_right _ (h))
theorem fl_X12_within_X12_25 : Cond.fieldLink RX12 62 (TX12 25).1 (TX12 25).2.1 (TX12 25).2.2.1 ∈ wsX12_within := List.mem_of_getElem? (i := 1) (by decide +kernel)
def wp_X12_within_J46 (v1j46 : Int32) (v2j46 : Int32) (v3j46 : Int32) (v4j46 : Int32) (v5j46 : Int32) (σ'j46 : US) (s0j46 : Int32) (Q : Int64 → US → Prop) : Prop := (0 ≤ s0j46 → vp_in v1j46 6 ∧ (wp_X12_setOf 8 (aA σ'j46 13 (v1j46).toNatClampNeg) σ'j46 (fun (r3 : Int32) (u4 : US) => vp_in v2j46 6 ∧ (wp_X12_setOf 8 (aA u4 13 (v2j46).toNatClampNeg) u4 (fun (r5 : Int32) (u6 : US) => wp_X12_findWithin r3 r5 v3j46 v4j46 u6 (fun (u7 : US) => wp_X12_part v5j46 u7 (fun (r8 : Int64) => Q r8 u7))))))) ∧ (¬ 0 ≤ s0j46 → Q (s0j46.toInt64) σ'j46)
def wp_X12_within_J44 (v6j44 : Int32) (v1j44 : Int32) (v2j44 : Int32) (v3j44 : Int32) (v4j44 : Int32) (v5j44 : Int32) (σ'j44 : US) (Q : Int64 → US → Prop) : Prop := wp_X12_within_J46 v1j44 v2j44 v3j44 v4j44 v5j44 σ'j44 v6j44 Q
def wp_X12_within_J24 (v1j24 : Int32) (v2j24 : Int32) (v3j24 : Int32) (v4j24 : Int32) (v5j24 : Int32) (σ'j24 : US) (s0j24 : Int32) (Q : Int64 → US → Prop) : Prop := (¬ s0j24 = 0 → wp_X12_within_J44 s0j24 v1j24 v2j24 v3j24 v4j24 v5j24 σ'j24 Q) ∧ (s0j24 = 0 → wp_X12_isRefused v3j24 σ'j24 (fun (r10 : Int32) => (r10 = 0 → wp_X12_within_J44 s0j24 v1j24 v2j24 v3j24 v4j24 v5j24 σ'j24 Q) ∧ (¬ r10 = 0 → wp_X12_within_J46 v1j24 v2j24 v3j24 v4j24 v5j24 σ'j24 (-4) Q)))
def wp_X12_within (p1 : Int32) (p2 : Int32) (p3 : Int32) (p4 : Int32) (p5 : Int32) (σ : US) (Q : Int64 → US → Prop) : Prop := wp_X12_in p3 0 6 (fun (r1 : Int32) => (¬ r1 = 0 → wp_X12_hinders p1 p2 p4 p5 σ (fun (r2 : Int32) => wp_X12_within_J24 p1 p2 p3 p4 p5 σ r2 Q)) ∧ (r1 = 0 → wp_X12_within_J24 p1 p2 p3 p4 p5 σ (-1) Q))
set_option maxRecDepth 100000 in
set_option maxHeartbeats 4000000 in
theorem c_X12_within (l : Launch) (D : va_G) (kc : Nat → ClassId) (a : Nat → Nat)  (p1 : Int32) (p2 : Int32) (p3 : Int32) (p4 : Int32) (p5 : Int32) (σ : US) (Q : Int64 → US → Prop) (h : wp_X12_within p1 p2 p3 p4 p5 σ Q) : kCl l D (tyL kc) yX12_within wsX12_within ({ frames := 57, cells := 0, slots := 0, locals := 1492 } : Room) [.ref (a 0), .int p1, .int p2, .int p3, .int p4, .int p5] (wM kc a σ) (fun u : US => (wM kc a u)) 0 0 (fun r u => Q r u) := by
  intro sz
  refine k_begin (cc := cX12_within) (maxL := 9) (ret := (some .long)) (by decide +kernel) rfl rfl (fun p e s m args below meth c hsz E G ls hl => ?_)
  subst hsz
  have hl : lv_has ls 9 [(0, .ref (a 0)), (1, .int p1), (2, .int p2), (3, .int p3), (4, .int p4), (5, .int p5)] := hl
  have K46 : ∀ (σ'j46 : US) (s0j46 : Int32) (H : Heap) (locs : List Loc) (ls : Array Slot), kG D (va_A (wM kc a σ) s.heap.size) s (wM kc a σ'j46) H locs → lv_has ls 9 [(0, .ref (a 0)), (1, .int p1), (2, .int p2), (3, .int p3), (4, .int p4), (5, .int p5)] → wp_X12_within_J46 p1 p2 p3 p4 p5 σ'j46 s0j46 Q → W p l e ({ frames := 57, cells := 0, slots := 0, locals := 1492 } : Room) s m args below meth c H locs 0 0 (MQ below (va_Ql (fun r u => Q r u) (kB D (wM kc a σ) s.heap.size (fun u : US => (wM kc a u))) (va_A (wM kc a σ) s.heap.size)) args s 0 0 (va_A (wM kc a σ) s.heap.size)) (F0 m 46 ls [.int s0j46]) := by
    intro σ'j46 s0j46 H locs ls G hl h
    refine lv_istore (lv' := [(6, .int s0j46), (0, .ref (a 0)), (1, .int p1), (2, .int p2), (3, .int p3), (4, .int p4), (5, .int p5)]) E.ex E.by dX12_within_46 hl (by decide) rfl (fun ls hl => ?_)
    refine lv_iload E.ex E.by dX12_within_48 (lv_at hl 0 rfl) ?_
    refine lv_if_ge (tgt := 57) E.ex E.by dX12_within_50 (by decide) (fun hc13 => ?_) (fun hc13 => ?_)
    · have h := h.1 hc13
      refine lv_aload_n E.ex E.by dX12_within_57 rfl (lv_at hl 1 rfl) ?_
      refine lv_aload_n E.ex E.by dX12_within_58 rfl (lv_at hl 1 rfl) ?_
      refine k_get E G wi_X12_within_X12 0 (gM_0 _ _ _) rfl 25 rfl fl_X12_within_X12_25 (v := .ref (a 18)) rfl dX12_within_59 ?_
      refine lv_iload_n E.ex E.by dX12_within_62 rfl (lv_at hl 2 rfl) ?_
      refine k_iald E G 18 (gM_18 _ _ _) 0 rfl h.1 dX12_within_63 ?_
      have h := h.2
      refine k_cVi (X := []) (w := (wM kc a σ'j46)) (Z := []) (wnew := (fun u : US => (wM kc a u))) (As := [.int (aA σ'j46 13 (p1).toNatClampNeg)]) (rest := []) E (List.append_nil _).symm G (c_X12_setOf l D kc _ 8 _ _ _ h) gX12_within_X12_setOf rfl ⟨rfl, rfl⟩ hd_X12_setOf_v ⟨rfl, rfl⟩ 0 (gM_0 _ _ _) rfl rfl hl rfl rfl dX12_within_64 ⟨rfl, rfl⟩ (fun _ => (List.append_nil _).symm) (fun r7 u8 hq H locs G => ?_)
      have h := hq
      refine lv_istore (lv' := [(7, .int r7), (6, .int s0j46), (0, .ref (a 0)), (1, .int p1), (2, .int p2), (3, .int p3), (4, .int p4), (5, .int p5)]) E.ex E.by dX12_within_67 hl (by decide) rfl (fun ls hl => ?_)
      refine lv_aload_n E.ex E.by dX12_within_69 rfl (lv_at hl 2 rfl) ?_
      refine lv_aload_n E.ex E.by dX12_within_70 rfl (lv_at hl 2 rfl) ?_
      refine k_get E G wi_X12_within_X12 0 (gM_0 _ _ _) rfl 25 rfl fl_X12_within_X12_25 (v := .ref (a 18)) rfl dX12_within_71 ?_
      refine lv_iload_n E.ex E.by dX12_within_74 rfl (lv_at hl 4 rfl) ?_
      refine k_iald E G 18 (gM_18 _ _ _) 0 rfl h.1 dX12_within_75 ?_
      have h := h.2
      refine k_cVi (X := []) (w := (wM kc a u8)) (Z := []) (wnew := (fun u : US => (wM kc a u))) (As := [.int (aA u8 13 (p2).toNatClampNeg)]) (rest := []) E (List.append_nil _).symm G (c_X12_setOf l D kc _ 8 _ _ _ h) gX12_within_X12_setOf rfl ⟨rfl, rfl⟩ hd_X12_setOf_v ⟨rfl, rfl⟩ 0 (gM_0 _ _ _) rfl rfl hl rfl rfl dX12_within_76 ⟨rfl, rfl⟩ (fun _ => (List.append_nil _).symm) (fun r9 u10 hq H locs G => ?_)
      have h := hq
      refine lv_istore (lv' := [(8, .int r9), (7, .int r7), (6, .int s0j46), (0, .ref (a 0)), (1, .int p1), (2, .int p2), (3, .int p3), (4, .int p4), (5, .int p5)]) E.ex E.by dX12_within_79 hl (by decide) rfl (fun ls hl => ?_)
      refine lv_aload_n E.ex E.by dX12_within_81 rfl (lv_at hl 3 rfl) ?_
      refine lv_iload E.ex E.by dX12_within_82 (lv_at hl 1 rfl) ?_
      refine lv_iload E.ex E.by dX12_within_84 (lv_at hl 0 rfl) ?_
      refine lv_iload_n E.ex E.by dX12_within_86 rfl (lv_at hl 6 rfl) ?_
      refine lv_iload E.ex E.by dX12_within_87 (lv_at hl 7 rfl) ?_
      refine k_cVv (X := []) (w := (wM kc a u10)) (Z := []) (wnew := (fun u : US => (wM kc a u))) (As := [.int r7, .int r9, .int p3, .int p4]) (rest := []) E (List.append_nil _).symm G (c_X12_findWithin l D kc _ _ _ _ _ _ _ h) gX12_within_X12_findWithin rfl ⟨rfl, rfl⟩ hd_X12_findWithin_v ⟨rfl, rfl⟩ 0 (gM_0 _ _ _) rfl rfl hl rfl rfl dX12_within_89 ⟨rfl, rfl⟩ (fun _ => (List.append_nil _).symm) (fun u11 hq H locs G => ?_)
      have h := hq
      refine lv_aload_n E.ex E.by dX12_within_92 rfl (lv_at hl 3 rfl) ?_
      refine lv_iload E.ex E.by dX12_within_93 (lv_at hl 8 rfl) ?_
      refine k_cVl (X := []) (w := (wM kc a u11)) (Z := []) (wnew := (fun _ : Unit => (wM kc a u11))) (As := [.int p5]) (rest := []) E (List.append_nil _).symm G (c_X12_part l D kc _ _ _ _ h) gX12_within_X12_part rfl ⟨rfl, rfl⟩ hd_X12_part_v ⟨rfl, rfl⟩ 0 (gM_0 _ _ _) rfl rfl hl rfl rfl dX12_within_95 ⟨rfl, rfl⟩ (fun _ => (List.append_nil _).symm) (fun r12 _u95 hq H locs G => ?_)
      have h := hq
      exact k_retl (wof := (fun u : US => (wM kc a u))) (u := u11) E G h (Nat.le_of_ble_eq_true rfl) (Nat.le_of_ble_eq_true rfl) dX12_within_98
    · have h := h.2 hc13
      refine lv_iload E.ex E.by dX12_within_53 (lv_at hl 0 rfl) ?_
      refine lv_i2l E.ex E.by dX12_within_55 rfl ?_
      exact k_retl (wof := (fun u : US => (wM kc a u))) (u := σ'j46) E G h (Nat.le_of_ble_eq_true rfl) (Nat.le_of_ble_eq_true rfl) dX12_within_56
  have K44 : ∀ (v6j44 : Int32) (σ'j44 : US) (H : Heap) (locs : List Loc) (ls : Array Slot), kG D (va_A (wM kc a σ) s.heap.size) s (wM kc a σ'j44) H locs → lv_has ls 9 [(6, .int v6j44), (0, .ref (a 0)), (1, .int p1), (2, .int p2), (3, .int p3), (4, .int p4), (5, .int p5)] → wp_X12_within_J44 v6j44 p1 p2 p3 p4 p5 σ'j44 Q → W p l e ({ frames := 57, cells := 0, slots := 0, locals := 1492 } : Room) s m args below meth c H locs 0 0 (MQ below (va_Ql (fun r u => Q r u) (kB D (wM kc a σ) s.heap.size (fun u : US => (wM kc a u))) (va_A (wM kc a σ) s.heap.size)) args s 0 0 (va_A (wM kc a σ) s.heap.size)) (F0 m 44 ls []) := by
    intro v6j44 σ'j44 H locs ls G hl h
    refine lv_iload E.ex E.by dX12_within_44 (lv_at hl 0 rfl) ?_
    exact K46 _ _ _ _ _ G (lv_sub hl [1, 2, 3, 4, 5, 6] rfl) h
  have K24 : ∀ (σ'j24 : US) (s0j24 : Int32) (H : Heap) (locs : List Loc) (ls : Array Slot), kG D (va_A (wM kc a σ) s.heap.size) s (wM kc a σ'j24) H locs → lv_has ls 9 [(0, .ref (a 0)), (1, .int p1), (2, .int p2), (3, .int p3), (4, .int p4), (5, .int p5)] → wp_X12_within_J24 p1 p2 p3 p4 p5 σ'j24 s0j24 Q → W p l e ({ frames := 57, cells := 0, slots := 0, locals := 1492 } : Room) s m args below meth c H locs 0 0 (MQ below (va_Ql (fun r u => Q r u) (kB D (wM kc a σ) s.heap.size (fun u : US => (wM kc a u))) (va_A (wM kc a σ) s.heap.size)) args s 0 0 (va_A (wM kc a σ) s.heap.size)) (F0 m 24 ls [.int s0j24]) := by
    intro σ'j24 s0j24 H locs ls G hl h
    refine lv_istore (lv' := [(6, .int s0j24), (0, .ref (a 0)), (1, .int p1), (2, .int p2), (3, .int p3), (4, .int p4), (5, .int p5)]) E.ex E.by dX12_within_24 hl (by decide) rfl (fun ls hl => ?_)
    refine lv_iload E.ex E.by dX12_within_26 (lv_at hl 0 rfl) ?_
    refine lv_if_ne (tgt := 44) E.ex E.by dX12_within_28 (by decide) (fun hc6 => ?_) (fun hc6 => ?_)
    · have h := h.1 hc6
      exact K44 _ _ _ _ _ G (lv_sub hl [0, 1, 2, 3, 4, 5, 6] rfl) h
    · have h := h.2 hc6
      refine lv_aload_n E.ex E.by dX12_within_31 rfl (lv_at hl 1 rfl) ?_
      refine lv_iload_n E.ex E.by dX12_within_32 rfl (lv_at hl 4 rfl) ?_
      refine k_cVi (X := []) (w := (wM kc a σ'j24)) (Z := []) (wnew := (fun _ : Unit => (wM kc a σ'j24))) (As := [.int p3]) (rest := []) E (List.append_nil _).symm G (c_X12_isRefused l D kc _ _ _ _ h) gX12_within_X12_isRefused rfl ⟨rfl, rfl⟩ hd_X12_isRefused_v ⟨rfl, rfl⟩ 0 (gM_0 _ _ _) rfl rfl hl rfl rfl dX12_within_33 ⟨rfl, rfl⟩ (fun _ => (List.append_nil _).symm) (fun r4 _u33 hq H locs G => ?_)
      have h := hq
      refine lv_if_eq (tgt := 44) E.ex E.by dX12_within_36 (by decide) (fun hc5 => ?_) (fun hc5 => ?_)
      · have h := h.1 hc5
        exact K44 _ _ _ _ _ G (lv_sub hl [0, 1, 2, 3, 4, 5, 6] rfl) h
      · have h := h.2 hc5
        refine lv_bipush (v := (-4)) E.ex E.by dX12_within_39 (by decide) ?_
        refine lv_goto (tgt := 46) E.ex E.by dX12_within_41 (by decide) ?_
        exact K46 _ _ _ _ _ G (lv_sub hl [1, 2, 3, 4, 5, 6] rfl) h
  refine lv_iload_n E.ex E.by dX12_within_0 rfl (lv_at hl 3 rfl) ?_
  refine lv_iconst (v := 0) E.ex E.by dX12_within_1 (by decide) ?_
  refine lv_bipush (v := 6) E.ex E.by dX12_within_2 (by decide) ?_
  refine k_cSi (X := (wM kc a σ)) (w := []) (Z := []) (wnew := (fun _ : Unit => (wM kc a σ))) (As := [.int p3, .int 0, .int 6]) (rest := []) E (List.append_nil _).symm G (c_X12_in l D kc _ _ _ _ h) gX12_within_X12_in rfl ⟨rfl, rfl⟩ hd_X12_in_v ⟨rfl, rfl⟩ rfl hl rfl rfl dX12_within_4 ⟨rfl, rfl⟩ (fun _ => (List.append_nil _).symm) (fun r1 _u4 hq H locs G => ?_)
  have h := hq
  refine lv_if_ne (tgt := 14) E.ex E.by dX12_within_7 (by decide) (fun hc3 => ?_) (fun hc3 => ?_)
  · have h := h.1 hc3
    refine lv_aload_n E.ex E.by dX12_within_14 rfl (lv_at hl 0 rfl) ?_
    refine lv_iload_n E.ex E.by dX12_within_15 rfl (lv_at hl 1 rfl) ?_
    refine lv_iload_n E.ex E.by dX12_within_16 rfl (lv_at hl 2 rfl) ?_
    refine lv_iload E.ex E.by dX12_within_17 (lv_at hl 4 rfl) ?_
    refine lv_iload E.ex E.by dX12_within_19 (lv_at hl 5 rfl) ?_
    refine k_cVi (X := []) (w := (wM kc a σ)) (Z := []) (wnew := (fun _ : Unit => (wM kc a σ))) (As := [.int p1, .int p2, .int p4, .int p5]) (rest := []) E (List.append_nil _).symm G (c_X12_hinders l D kc _ _ _ _ _ _ _ h) gX12_within_X12_hinders rfl ⟨rfl, rfl⟩ hd_X12_hinders_v ⟨rfl, rfl⟩ 0 (gM_0 _ _ _) rfl rfl hl rfl rfl dX12_within_21 ⟨rfl, rfl⟩ (fun _ => (List.append_nil _).symm) (fun r2 _u21 hq H locs G => ?_)
    have h := hq
    exact K24 _ _ _ _ _ G (lv_sub hl [0, 1, 2, 3, 4, 5] rfl) h
  · have h := h.2 hc3
    refine lv_iconst (v := (-1)) E.ex E.by dX12_within_10 (by decide) ?_
    refine lv_goto (tgt := 24) E.ex E.by dX12_within_11 (by decide) ?_
    exact K24 _ _ _ _ _ G (lv_sub hl [0, 1, 2, 3, 4, 5] rfl) h
theorem wi_X12_hindersSets_X12 : ∀ w ∈ wsX120, w ∈ wsX12_hindersSets := fun w h => List.mem_cons_of_mem _ (List.mem_append_right _ (h))
theorem fl_X12_hindersSets_X12_25 : Cond.fieldLink RX12 62 (TX12 25).1 (TX12 25).2.1 (TX12 25).2.2.1 ∈ wsX12_hindersSets := List.mem_of_getElem? (i := 1) (by decide +kernel)
def wp_X12_hindersSets (p1 : Int32) (p2 : Int32) (σ : US) (Q : Int32 → Prop) : Prop := wp_X12_isFormula p1 σ (fun (r1 : Int32) => (r1 = 0 → Q (-1)) ∧ (¬ r1 = 0 → wp_X12_isFormula p2 σ (fun (r2 : Int32) => (¬ r2 = 0 → vp_in p1 6 ∧ (wp_X12_isRefusedNode 8 (aA σ 13 (p1).toNatClampNeg) σ (fun (r3 : Int32) => (¬ r3 = 0 → Q (-4)) ∧ (r3 = 0 → vp_in p2 6 ∧ (wp_X12_isRefusedNode 8 (aA σ 13 (p2).toNatClampNeg) σ (fun (r4 : Int32) => (r4 = 0 → Q 0) ∧ (¬ r4 = 0 → Q (-4)))))))) ∧ (r2 = 0 → Q (-1)))))
set_option maxRecDepth 100000 in
set_option maxHeartbeats 4000000 in
theorem c_X12_hindersSets (l : Launch) (D : va_G) (kc : Nat → ClassId) (a : Nat → Nat)  (p1 : Int32) (p2 : Int32) (σ : US) (Q : Int32 → Prop) (h : wp_X12_hindersSets p1 p2 σ Q) : kCi l D (tyL kc) yX12_hindersSets wsX12_hindersSets ({ frames := 33, cells := 0, slots := 0, locals := 822 } : Room) [.ref (a 0), .int p1, .int p2] (wM kc a σ) (fun _ : Unit => (wM kc a σ)) 0 0 (fun r _ => Q r) := by
  intro sz
  refine k_begin (cc := cX12_hindersSets) (maxL := 3) (ret := (some .int)) (by decide +kernel) rfl rfl (fun p e s m args below meth c hsz E G ls hl => ?_)
  subst hsz
  have hl : lv_has ls 3 [(0, .ref (a 0)), (1, .int p1), (2, .int p2)] := hl
  refine lv_aload_n E.ex E.by dX12_hindersSets_0 rfl (lv_at hl 0 rfl) ?_
  refine lv_iload_n E.ex E.by dX12_hindersSets_1 rfl (lv_at hl 1 rfl) ?_
  refine k_cVi (X := []) (w := (wM kc a σ)) (Z := []) (wnew := (fun _ : Unit => (wM kc a σ))) (As := [.int p1]) (rest := []) E (List.append_nil _).symm G (c_X12_isFormula l D kc _ _ _ _ h) gX12_hindersSets_X12_isFormula rfl ⟨rfl, rfl⟩ hd_X12_isFormula_v ⟨rfl, rfl⟩ 0 (gM_0 _ _ _) rfl rfl hl rfl rfl dX12_hindersSets_2 ⟨rfl, rfl⟩ (fun _ => (List.append_nil _).symm) (fun r1 _u2 hq H locs G => ?_)
  have h := hq
  refine lv_if_eq (tgt := 16) E.ex E.by dX12_hindersSets_5 (by decide) (fun hc8 => ?_) (fun hc8 => ?_)
  · have h := h.1 hc8
    refine lv_iconst (v := (-1)) E.ex E.by dX12_hindersSets_16 (by decide) ?_
    exact k_ret (wof := (fun _ : Unit => (wM kc a σ))) (u := ()) E G rfl h (Nat.le_of_ble_eq_true rfl) (Nat.le_of_ble_eq_true rfl) dX12_hindersSets_17
  · have h := h.2 hc8
    refine lv_aload_n E.ex E.by dX12_hindersSets_8 rfl (lv_at hl 0 rfl) ?_
    refine lv_iload_n E.ex E.by dX12_hindersSets_9 rfl (lv_at hl 2 rfl) ?_
    refine k_cVi (X := []) (w := (wM kc a σ)) (Z := []) (wnew := (fun _ : Unit => (wM kc a σ))) (As := [.int p2]) (rest := []) E (List.append_nil _).symm G (c_X12_isFormula l D kc _ _ _ _ h) gX12_hindersSets_X12_isFormula rfl ⟨rfl, rfl⟩ hd_X12_isFormula_v ⟨rfl, rfl⟩ 0 (gM_0 _ _ _) rfl rfl hl rfl rfl dX12_hindersSets_10 ⟨rfl, rfl⟩ (fun _ => (List.append_nil _).symm) (fun r2 _u10 hq H locs G => ?_)
    have h := hq
    refine lv_if_ne (tgt := 18) E.ex E.by dX12_hindersSets_13 (by decide) (fun hc7 => ?_) (fun hc7 => ?_)
    · have h := h.1 hc7
      refine lv_aload_n E.ex E.by dX12_hindersSets_18 rfl (lv_at hl 0 rfl) ?_
      refine lv_aload_n E.ex E.by dX12_hindersSets_19 rfl (lv_at hl 0 rfl) ?_
      refine k_get E G wi_X12_hindersSets_X12 0 (gM_0 _ _ _) rfl 25 rfl fl_X12_hindersSets_X12_25 (v := .ref (a 18)) rfl dX12_hindersSets_20 ?_
      refine lv_iload_n E.ex E.by dX12_hindersSets_23 rfl (lv_at hl 1 rfl) ?_
      refine k_iald E G 18 (gM_18 _ _ _) 0 rfl h.1 dX12_hindersSets_24 ?_
      have h := h.2
      refine k_cVi (X := []) (w := (wM kc a σ)) (Z := []) (wnew := (fun _ : Unit => (wM kc a σ))) (As := [.int (aA σ 13 (p1).toNatClampNeg)]) (rest := []) E (List.append_nil _).symm G (c_X12_isRefusedNode l D kc _ 8 _ _ _ h) gX12_hindersSets_X12_isRefusedNode rfl ⟨rfl, rfl⟩ hd_X12_isRefusedNode_v ⟨rfl, rfl⟩ 0 (gM_0 _ _ _) rfl rfl hl rfl rfl dX12_hindersSets_25 ⟨rfl, rfl⟩ (fun _ => (List.append_nil _).symm) (fun r3 _u25 hq H locs G => ?_)
      have h := hq
      refine lv_if_ne (tgt := 44) E.ex E.by dX12_hindersSets_28 (by decide) (fun hc6 => ?_) (fun hc6 => ?_)
      · have h := h.1 hc6
        refine lv_bipush (v := (-4)) E.ex E.by dX12_hindersSets_44 (by decide) ?_
        refine lv_goto (tgt := 50) E.ex E.by dX12_hindersSets_46 (by decide) ?_
        exact k_ret (wof := (fun _ : Unit => (wM kc a σ))) (u := ()) E G rfl h (Nat.le_of_ble_eq_true rfl) (Nat.le_of_ble_eq_true rfl) dX12_hindersSets_50
      · have h := h.2 hc6
        refine lv_aload_n E.ex E.by dX12_hindersSets_31 rfl (lv_at hl 0 rfl) ?_
        refine lv_aload_n E.ex E.by dX12_hindersSets_32 rfl (lv_at hl 0 rfl) ?_
        refine k_get E G wi_X12_hindersSets_X12 0 (gM_0 _ _ _) rfl 25 rfl fl_X12_hindersSets_X12_25 (v := .ref (a 18)) rfl dX12_hindersSets_33 ?_
        refine lv_iload_n E.ex E.by dX12_hindersSets_36 rfl (lv_at hl 2 rfl) ?_
        refine k_iald E G 18 (gM_18 _ _ _) 0 rfl h.1 dX12_hindersSets_37 ?_
        have h := h.2
        refine k_cVi (X := []) (w := (wM kc a σ)) (Z := []) (wnew := (fun _ : Unit => (wM kc a σ))) (As := [.int (aA σ 13 (p2).toNatClampNeg)]) (rest := []) E (List.append_nil _).symm G (c_X12_isRefusedNode l D kc _ 8 _ _ _ h) gX12_hindersSets_X12_isRefusedNode rfl ⟨rfl, rfl⟩ hd_X12_isRefusedNode_v ⟨rfl, rfl⟩ 0 (gM_0 _ _ _) rfl rfl hl rfl rfl dX12_hindersSets_38 ⟨rfl, rfl⟩ (fun _ => (List.append_nil _).symm) (fun r4 _u38 hq H locs G => ?_)
        have h := hq
        refine lv_if_eq (tgt := 49) E.ex E.by dX12_hindersSets_41 (by decide) (fun hc5 => ?_) (fun hc5 => ?_)
        · have h := h.1 hc5
          refine lv_iconst (v := 0) E.ex E.by dX12_hindersSets_49 (by decide) ?_
          exact k_ret (wof := (fun _ : Unit => (wM kc a σ))) (u := ()) E G rfl h (Nat.le_of_ble_eq_true rfl) (Nat.le_of_ble_eq_true rfl) dX12_hindersSets_50
        · have h := h.2 hc5
          refine lv_bipush (v := (-4)) E.ex E.by dX12_hindersSets_44 (by decide) ?_
          refine lv_goto (tgt := 50) E.ex E.by dX12_hindersSets_46 (by decide) ?_
          exact k_ret (wof := (fun _ : Unit => (wM kc a σ))) (u := ()) E G rfl h (Nat.le_of_ble_eq_true rfl) (Nat.le_of_ble_eq_true rfl) dX12_hindersSets_50
    · have h := h.2 hc7
      refine lv_iconst (v := (-1)) E.ex E.by dX12_hindersSets_16 (by decide) ?_
      exact k_ret (wof := (fun _ : Unit => (wM kc a σ))) (u := ()) E G rfl h (Nat.le_of_ble_eq_true rfl) (Nat.le_of_ble_eq_true rfl) dX12_hindersSets_17
theorem wi_X12_never_X12 : ∀ w ∈ wsX120, w ∈ wsX12_never := fun w h => List.mem_cons_of_mem _ (List.mem_append_right _ (h))
theorem fl_X12_never_X12_25 : Cond.fieldLink RX12 62 (TX12 25).1 (TX12 25).2.1 (TX12 25).2.2.1 ∈ wsX12_never := List.mem_of_getElem? (i := 1) (by decide +kernel)
theorem hd_X12_hindersSets_v : yX12_hindersSets.cls = RX12 ∧ yX12_hindersSets.cls ≠ "java/lang/invoke/MethodHandle" ∧ yX12_hindersSets.cls ≠ "java/lang/invoke/VarHandle" ∧ (parseMethodDescriptor yX12_hindersSets.desc).map (fun d => d.parameters.length) = some 2 := by decide +kernel
def wp_X12_never (p1 : Int32) (p2 : Int32) (σ : US) (Q : Int32 → US → Prop) : Prop := wp_X12_hindersSets p1 p2 σ (fun (r1 : Int32) => (0 ≤ r1 → vp_in p1 6 ∧ (wp_X12_setOf 8 (aA σ 13 (p1).toNatClampNeg) σ (fun (r2 : Int32) (u3 : US) => vp_in p2 6 ∧ (wp_X12_setOf 8 (aA u3 13 (p2).toNatClampNeg) u3 (fun (r4 : Int32) (u5 : US) => wp_X12_neverOf r2 r4 u5 (fun (r6 : Int32) => Q r6 u5)))))) ∧ (¬ 0 ≤ r1 → Q r1 σ))
set_option maxRecDepth 100000 in
set_option maxHeartbeats 4000000 in
theorem c_X12_never (l : Launch) (D : va_G) (kc : Nat → ClassId) (a : Nat → Nat)  (p1 : Int32) (p2 : Int32) (σ : US) (Q : Int32 → US → Prop) (h : wp_X12_never p1 p2 σ Q) : kCi l D (tyL kc) yX12_never wsX12_never ({ frames := 57, cells := 0, slots := 0, locals := 1492 } : Room) [.ref (a 0), .int p1, .int p2] (wM kc a σ) (fun u : US => (wM kc a u)) 0 0 (fun r u => Q r u) := by
  intro sz
  refine k_begin (cc := cX12_never) (maxL := 4) (ret := (some .int)) (by decide +kernel) rfl rfl (fun p e s m args below meth c hsz E G ls hl => ?_)
  subst hsz
  have hl : lv_has ls 4 [(0, .ref (a 0)), (1, .int p1), (2, .int p2)] := hl
  refine lv_aload_n E.ex E.by dX12_never_0 rfl (lv_at hl 0 rfl) ?_
  refine lv_iload_n E.ex E.by dX12_never_1 rfl (lv_at hl 1 rfl) ?_
  refine lv_iload_n E.ex E.by dX12_never_2 rfl (lv_at hl 2 rfl) ?_
  refine k_cVi (X := []) (w := (wM kc a σ)) (Z := []) (wnew := (fun _ : Unit => (wM kc a σ))) (As := [.int p1, .int p2]) (rest := []) E (List.append_nil _).symm G (c_X12_hindersSets l D kc _ _ _ _ _ h) gX12_never_X12_hindersSets rfl ⟨rfl, rfl⟩ hd_X12_hindersSets_v ⟨rfl, rfl⟩ 0 (gM_0 _ _ _) rfl rfl hl rfl rfl dX12_never_3 ⟨rfl, rfl⟩ (fun _ => (List.append_nil _).symm) (fun r1 _u3 hq H locs G => ?_)
  have h := hq
  refine lv_istore_n (lv' := [(3, .int r1), (0, .ref (a 0)), (1, .int p1), (2, .int p2)]) E.ex E.by dX12_never_6 rfl hl (by decide) rfl (fun ls hl => ?_)
  refine lv_iload_n E.ex E.by dX12_never_7 rfl (lv_at hl 0 rfl) ?_
  refine lv_if_ge (tgt := 15) E.ex E.by dX12_never_8 (by decide) (fun hc7 => ?_) (fun hc7 => ?_)
  · have h := h.1 hc7
    refine lv_aload_n E.ex E.by dX12_never_15 rfl (lv_at hl 1 rfl) ?_
    refine lv_aload_n E.ex E.by dX12_never_16 rfl (lv_at hl 1 rfl) ?_
    refine lv_aload_n E.ex E.by dX12_never_17 rfl (lv_at hl 1 rfl) ?_
    refine k_get E G wi_X12_never_X12 0 (gM_0 _ _ _) rfl 25 rfl fl_X12_never_X12_25 (v := .ref (a 18)) rfl dX12_never_18 ?_
    refine lv_iload_n E.ex E.by dX12_never_21 rfl (lv_at hl 2 rfl) ?_
    refine k_iald E G 18 (gM_18 _ _ _) 0 rfl h.1 dX12_never_22 ?_
    have h := h.2
    refine k_cVi (X := []) (w := (wM kc a σ)) (Z := []) (wnew := (fun u : US => (wM kc a u))) (As := [.int (aA σ 13 (p1).toNatClampNeg)]) (rest := [.ref (a 0)]) E (List.append_nil _).symm G (c_X12_setOf l D kc _ 8 _ _ _ h) gX12_never_X12_setOf rfl ⟨rfl, rfl⟩ hd_X12_setOf_v ⟨rfl, rfl⟩ 0 (gM_0 _ _ _) rfl rfl hl rfl rfl dX12_never_23 ⟨rfl, rfl⟩ (fun _ => (List.append_nil _).symm) (fun r2 u3 hq H locs G => ?_)
    have h := hq
    refine lv_aload_n E.ex E.by dX12_never_26 rfl (lv_at hl 1 rfl) ?_
    refine lv_aload_n E.ex E.by dX12_never_27 rfl (lv_at hl 1 rfl) ?_
    refine k_get E G wi_X12_never_X12 0 (gM_0 _ _ _) rfl 25 rfl fl_X12_never_X12_25 (v := .ref (a 18)) rfl dX12_never_28 ?_
    refine lv_iload_n E.ex E.by dX12_never_31 rfl (lv_at hl 3 rfl) ?_
    refine k_iald E G 18 (gM_18 _ _ _) 0 rfl h.1 dX12_never_32 ?_
    have h := h.2
    refine k_cVi (X := []) (w := (wM kc a u3)) (Z := []) (wnew := (fun u : US => (wM kc a u))) (As := [.int (aA u3 13 (p2).toNatClampNeg)]) (rest := [.int r2, .ref (a 0)]) E (List.append_nil _).symm G (c_X12_setOf l D kc _ 8 _ _ _ h) gX12_never_X12_setOf rfl ⟨rfl, rfl⟩ hd_X12_setOf_v ⟨rfl, rfl⟩ 0 (gM_0 _ _ _) rfl rfl hl rfl rfl dX12_never_33 ⟨rfl, rfl⟩ (fun _ => (List.append_nil _).symm) (fun r4 u5 hq H locs G => ?_)
    have h := hq
    refine k_cVi (X := []) (w := (wM kc a u5)) (Z := []) (wnew := (fun _ : Unit => (wM kc a u5))) (As := [.int r2, .int r4]) (rest := []) E (List.append_nil _).symm G (c_X12_neverOf l D kc _ _ _ _ _ h) gX12_never_X12_neverOf rfl ⟨rfl, rfl⟩ hd_X12_neverOf_v ⟨rfl, rfl⟩ 0 (gM_0 _ _ _) rfl rfl hl rfl rfl dX12_never_36 ⟨rfl, rfl⟩ (fun _ => (List.append_nil _).symm) (fun r6 _u36 hq H locs G => ?_)
    have h := hq
    exact k_ret (wof := (fun u : US => (wM kc a u))) (u := u5) E G rfl h (Nat.le_of_ble_eq_true rfl) (Nat.le_of_ble_eq_true rfl) dX12_never_39
  · have h := h.2 hc7
    refine lv_iload_n E.ex E.by dX12_never_11 rfl (lv_at hl 0 rfl) ?_
    refine lv_goto (tgt := 39) E.ex E.by dX12_never_12 (by decide) ?_
    exact k_ret (wof := (fun u : US => (wM kc a u))) (u := σ) E G rfl h (Nat.le_of_ble_eq_true rfl) (Nat.le_of_ble_eq_true rfl) dX12_never_39
theorem wi_X12_surely_X12 : ∀ w ∈ wsX120, w ∈ wsX12_surely := fun w h => List.mem_cons_of_mem _ (List.mem_append_right _ (h))
theorem fl_X12_surely_X12_25 : Cond.fieldLink RX12 62 (TX12 25).1 (TX12 25).2.1 (TX12 25).2.2.1 ∈ wsX12_surely := List.mem_of_getElem? (i := 1) (by decide +kernel)
def wp_X12_surely (p1 : Int32) (p2 : Int32) (σ : US) (Q : Int32 → US → Prop) : Prop := wp_X12_hindersSets p1 p2 σ (fun (r1 : Int32) => (0 ≤ r1 → vp_in p1 6 ∧ (wp_X12_setOf 8 (aA σ 13 (p1).toNatClampNeg) σ (fun (r2 : Int32) (u3 : US) => vp_in p2 6 ∧ (wp_X12_setOf 8 (aA u3 13 (p2).toNatClampNeg) u3 (fun (r4 : Int32) (u5 : US) => wp_X12_surelyOf r2 r4 u5 (fun (r6 : Int32) => Q r6 u5)))))) ∧ (¬ 0 ≤ r1 → Q r1 σ))
set_option maxRecDepth 100000 in
set_option maxHeartbeats 4000000 in
theorem c_X12_surely (l : Launch) (D : va_G) (kc : Nat → ClassId) (a : Nat → Nat)  (p1 : Int32) (p2 : Int32) (σ : US) (Q : Int32 → US → Prop) (h : wp_X12_surely p1 p2 σ Q) : kCi l D (tyL kc) yX12_surely wsX12_surely ({ frames := 57, cells := 0, slots := 0, locals := 1492 } : Room) [.ref (a 0), .int p1, .int p2] (wM kc a σ) (fun u : US => (wM kc a u)) 0 0 (fun r u => Q r u) := by
  intro sz
  refine k_begin (cc := cX12_surely) (maxL := 4) (ret := (some .int)) (by decide +kernel) rfl rfl (fun p e s m args below meth c hsz E G ls hl => ?_)
  subst hsz
  have hl : lv_has ls 4 [(0, .ref (a 0)), (1, .int p1), (2, .int p2)] := hl
  refine lv_aload_n E.ex E.by dX12_surely_0 rfl (lv_at hl 0 rfl) ?_
  refine lv_iload_n E.ex E.by dX12_surely_1 rfl (lv_at hl 1 rfl) ?_
  refine lv_iload_n E.ex E.by dX12_surely_2 rfl (lv_at hl 2 rfl) ?_
  refine k_cVi (X := []) (w := (wM kc a σ)) (Z := []) (wnew := (fun _ : Unit => (wM kc a σ))) (As := [.int p1, .int p2]) (rest := []) E (List.append_nil _).symm G (c_X12_hindersSets l D kc _ _ _ _ _ h) gX12_surely_X12_hindersSets rfl ⟨rfl, rfl⟩ hd_X12_hindersSets_v ⟨rfl, rfl⟩ 0 (gM_0 _ _ _) rfl rfl hl rfl rfl dX12_surely_3 ⟨rfl, rfl⟩ (fun _ => (List.append_nil _).symm) (fun r1 _u3 hq H locs G => ?_)
  have h := hq
  refine lv_istore_n (lv' := [(3, .int r1), (0, .ref (a 0)), (1, .int p1), (2, .int p2)]) E.ex E.by dX12_surely_6 rfl hl (by decide) rfl (fun ls hl => ?_)
  refine lv_iload_n E.ex E.by dX12_surely_7 rfl (lv_at hl 0 rfl) ?_
  refine lv_if_ge (tgt := 15) E.ex E.by dX12_surely_8 (by decide) (fun hc7 => ?_) (fun hc7 => ?_)
  · have h := h.1 hc7
    refine lv_aload_n E.ex E.by dX12_surely_15 rfl (lv_at hl 1 rfl) ?_
    refine lv_aload_n E.ex E.by dX12_surely_16 rfl (lv_at hl 1 rfl) ?_
    refine lv_aload_n E.ex E.by dX12_surely_17 rfl (lv_at hl 1 rfl) ?_
    refine k_get E G wi_X12_surely_X12 0 (gM_0 _ _ _) rfl 25 rfl fl_X12_surely_X12_25 (v := .ref (a 18)) rfl dX12_surely_18 ?_
    refine lv_iload_n E.ex E.by dX12_surely_21 rfl (lv_at hl 2 rfl) ?_
    refine k_iald E G 18 (gM_18 _ _ _) 0 rfl h.1 dX12_surely_22 ?_
    have h := h.2
    refine k_cVi (X := []) (w := (wM kc a σ)) (Z := []) (wnew := (fun u : US => (wM kc a u))) (As := [.int (aA σ 13 (p1).toNatClampNeg)]) (rest := [.ref (a 0)]) E (List.append_nil _).symm G (c_X12_setOf l D kc _ 8 _ _ _ h) gX12_surely_X12_setOf rfl ⟨rfl, rfl⟩ hd_X12_setOf_v ⟨rfl, rfl⟩ 0 (gM_0 _ _ _) rfl rfl hl rfl rfl dX12_surely_23 ⟨rfl, rfl⟩ (fun _ => (List.append_nil _).symm) (fun r2 u3 hq H locs G => ?_)
    have h := hq
    refine lv_aload_n E.ex E.by dX12_surely_26 rfl (lv_at hl 1 rfl) ?_
    refine lv_aload_n E.ex E.by dX12_surely_27 rfl (lv_at hl 1 rfl) ?_
    refine k_get E G wi_X12_surely_X12 0 (gM_0 _ _ _) rfl 25 rfl fl_X12_surely_X12_25 (v := .ref (a 18)) rfl dX12_surely_28 ?_
    refine lv_iload_n E.ex E.by dX12_surely_31 rfl (lv_at hl 3 rfl) ?_
    refine k_iald E G 18 (gM_18 _ _ _) 0 rfl h.1 dX12_surely_32 ?_
    have h := h.2
    refine k_cVi (X := []) (w := (wM kc a u3)) (Z := []) (wnew := (fun u : US => (wM kc a u))) (As := [.int (aA u3 13 (p2).toNatClampNeg)]) (rest := [.int r2, .ref (a 0)]) E (List.append_nil _).symm G (c_X12_setOf l D kc _ 8 _ _ _ h) gX12_surely_X12_setOf rfl ⟨rfl, rfl⟩ hd_X12_setOf_v ⟨rfl, rfl⟩ 0 (gM_0 _ _ _) rfl rfl hl rfl rfl dX12_surely_33 ⟨rfl, rfl⟩ (fun _ => (List.append_nil _).symm) (fun r4 u5 hq H locs G => ?_)
    have h := hq
    refine k_cVi (X := []) (w := (wM kc a u5)) (Z := []) (wnew := (fun _ : Unit => (wM kc a u5))) (As := [.int r2, .int r4]) (rest := []) E (List.append_nil _).symm G (c_X12_surelyOf l D kc _ _ _ _ _ h) gX12_surely_X12_surelyOf rfl ⟨rfl, rfl⟩ hd_X12_surelyOf_v ⟨rfl, rfl⟩ 0 (gM_0 _ _ _) rfl rfl hl rfl rfl dX12_surely_36 ⟨rfl, rfl⟩ (fun _ => (List.append_nil _).symm) (fun r6 _u36 hq H locs G => ?_)
    have h := hq
    exact k_ret (wof := (fun u : US => (wM kc a u))) (u := u5) E G rfl h (Nat.le_of_ble_eq_true rfl) (Nat.le_of_ble_eq_true rfl) dX12_surely_39
  · have h := h.2 hc7
    refine lv_iload_n E.ex E.by dX12_surely_11 rfl (lv_at hl 0 rfl) ?_
    refine lv_goto (tgt := 39) E.ex E.by dX12_surely_12 (by decide) ?_
    exact k_ret (wof := (fun u : US => (wM kc a u))) (u := σ) E G rfl h (Nat.le_of_ble_eq_true rfl) (Nat.le_of_ble_eq_true rfl) dX12_surely_39
theorem wi_X12_steady_X12 : ∀ w ∈ wsX120, w ∈ wsX12_steady := fun w h => List.mem_cons_of_mem _ (List.mem_append_right _ (h))
theorem fl_X12_steady_X12_25 : Cond.fieldLink RX12 62 (TX12 25).1 (TX12 25).2.1 (TX12 25).2.2.1 ∈ wsX12_steady := List.mem_of_getElem? (i := 1) (by decide +kernel)
def wp_X12_steady (p1 : Int32) (p2 : Int32) (p3 : Int32) (σ : US) (Q : Int64 → US → Prop) : Prop := wp_X12_hinders p1 p1 p2 p3 σ (fun (r1 : Int32) => (0 ≤ r1 → vp_in p1 6 ∧ (wp_X12_setOf 8 (aA σ 13 (p1).toNatClampNeg) σ (fun (r2 : Int32) (u3 : US) => wp_X12_findSteady r2 p2 u3 (fun (u4 : US) => wp_X12_part p3 u4 (fun (r5 : Int64) => Q r5 u4))))) ∧ (¬ 0 ≤ r1 → Q (r1.toInt64) σ))
set_option maxRecDepth 100000 in
set_option maxHeartbeats 4000000 in
theorem c_X12_steady (l : Launch) (D : va_G) (kc : Nat → ClassId) (a : Nat → Nat)  (p1 : Int32) (p2 : Int32) (p3 : Int32) (σ : US) (Q : Int64 → US → Prop) (h : wp_X12_steady p1 p2 p3 σ Q) : kCl l D (tyL kc) yX12_steady wsX12_steady ({ frames := 57, cells := 0, slots := 0, locals := 1492 } : Room) [.ref (a 0), .int p1, .int p2, .int p3] (wM kc a σ) (fun u : US => (wM kc a u)) 0 0 (fun r u => Q r u) := by
  intro sz
  refine k_begin (cc := cX12_steady) (maxL := 5) (ret := (some .long)) (by decide +kernel) rfl rfl (fun p e s m args below meth c hsz E G ls hl => ?_)
  subst hsz
  have hl : lv_has ls 5 [(0, .ref (a 0)), (1, .int p1), (2, .int p2), (3, .int p3)] := hl
  refine lv_aload_n E.ex E.by dX12_steady_0 rfl (lv_at hl 0 rfl) ?_
  refine lv_iload_n E.ex E.by dX12_steady_1 rfl (lv_at hl 1 rfl) ?_
  refine lv_iload_n E.ex E.by dX12_steady_2 rfl (lv_at hl 1 rfl) ?_
  refine lv_iload_n E.ex E.by dX12_steady_3 rfl (lv_at hl 2 rfl) ?_
  refine lv_iload_n E.ex E.by dX12_steady_4 rfl (lv_at hl 3 rfl) ?_
  refine k_cVi (X := []) (w := (wM kc a σ)) (Z := []) (wnew := (fun _ : Unit => (wM kc a σ))) (As := [.int p1, .int p1, .int p2, .int p3]) (rest := []) E (List.append_nil _).symm G (c_X12_hinders l D kc _ _ _ _ _ _ _ h) gX12_steady_X12_hinders rfl ⟨rfl, rfl⟩ hd_X12_hinders_v ⟨rfl, rfl⟩ 0 (gM_0 _ _ _) rfl rfl hl rfl rfl dX12_steady_5 ⟨rfl, rfl⟩ (fun _ => (List.append_nil _).symm) (fun r1 _u5 hq H locs G => ?_)
  have h := hq
  refine lv_istore (lv' := [(4, .int r1), (0, .ref (a 0)), (1, .int p1), (2, .int p2), (3, .int p3)]) E.ex E.by dX12_steady_8 hl (by decide) rfl (fun ls hl => ?_)
  refine lv_iload E.ex E.by dX12_steady_10 (lv_at hl 0 rfl) ?_
  refine lv_if_ge (tgt := 19) E.ex E.by dX12_steady_12 (by decide) (fun hc6 => ?_) (fun hc6 => ?_)
  · have h := h.1 hc6
    refine lv_aload_n E.ex E.by dX12_steady_19 rfl (lv_at hl 1 rfl) ?_
    refine lv_aload_n E.ex E.by dX12_steady_20 rfl (lv_at hl 1 rfl) ?_
    refine lv_aload_n E.ex E.by dX12_steady_21 rfl (lv_at hl 1 rfl) ?_
    refine k_get E G wi_X12_steady_X12 0 (gM_0 _ _ _) rfl 25 rfl fl_X12_steady_X12_25 (v := .ref (a 18)) rfl dX12_steady_22 ?_
    refine lv_iload_n E.ex E.by dX12_steady_25 rfl (lv_at hl 2 rfl) ?_
    refine k_iald E G 18 (gM_18 _ _ _) 0 rfl h.1 dX12_steady_26 ?_
    have h := h.2
    refine k_cVi (X := []) (w := (wM kc a σ)) (Z := []) (wnew := (fun u : US => (wM kc a u))) (As := [.int (aA σ 13 (p1).toNatClampNeg)]) (rest := [.ref (a 0)]) E (List.append_nil _).symm G (c_X12_setOf l D kc _ 8 _ _ _ h) gX12_steady_X12_setOf rfl ⟨rfl, rfl⟩ hd_X12_setOf_v ⟨rfl, rfl⟩ 0 (gM_0 _ _ _) rfl rfl hl rfl rfl dX12_steady_27 ⟨rfl, rfl⟩ (fun _ => (List.append_nil _).symm) (fun r2 u3 hq H locs G => ?_)
    have h := hq
    refine lv_iload_n E.ex E.by dX12_steady_30 rfl (lv_at hl 3 rfl) ?_
    refine k_cVv (X := []) (w := (wM kc a u3)) (Z := []) (wnew := (fun u : US => (wM kc a u))) (As := [.int r2, .int p2]) (rest := []) E (List.append_nil _).symm G (c_X12_findSteady l D kc _ _ _ _ _ h) gX12_steady_X12_findSteady rfl ⟨rfl, rfl⟩ hd_X12_findSteady_v ⟨rfl, rfl⟩ 0 (gM_0 _ _ _) rfl rfl hl rfl rfl dX12_steady_31 ⟨rfl, rfl⟩ (fun _ => (List.append_nil _).symm) (fun u4 hq H locs G => ?_)
    have h := hq
    refine lv_aload_n E.ex E.by dX12_steady_34 rfl (lv_at hl 1 rfl) ?_
    refine lv_iload_n E.ex E.by dX12_steady_35 rfl (lv_at hl 4 rfl) ?_
    refine k_cVl (X := []) (w := (wM kc a u4)) (Z := []) (wnew := (fun _ : Unit => (wM kc a u4))) (As := [.int p3]) (rest := []) E (List.append_nil _).symm G (c_X12_part l D kc _ _ _ _ h) gX12_steady_X12_part rfl ⟨rfl, rfl⟩ hd_X12_part_v ⟨rfl, rfl⟩ 0 (gM_0 _ _ _) rfl rfl hl rfl rfl dX12_steady_36 ⟨rfl, rfl⟩ (fun _ => (List.append_nil _).symm) (fun r5 _u36 hq H locs G => ?_)
    have h := hq
    exact k_retl (wof := (fun u : US => (wM kc a u))) (u := u4) E G h (Nat.le_of_ble_eq_true rfl) (Nat.le_of_ble_eq_true rfl) dX12_steady_39
  · have h := h.2 hc6
    refine lv_iload E.ex E.by dX12_steady_15 (lv_at hl 0 rfl) ?_
    refine lv_i2l E.ex E.by dX12_steady_17 rfl ?_
    exact k_retl (wof := (fun u : US => (wM kc a u))) (u := σ) E G h (Nat.le_of_ble_eq_true rfl) (Nat.le_of_ble_eq_true rfl) dX12_steady_18
theorem lc_X12_share_167 : Cond.constantLong RX12 167 (-1) ∈ wsX12_share := List.mem_of_getElem? (i := 1) (by decide +kernel)
def wp_X12_share (p1 : Int32) (p2 : Int32) (σ : US) (Q : Int64 → US → Prop) : Prop := wp_X12_isState p1 σ (fun (r1 : Int32) => (r1 = 0 → Q (-1) σ) ∧ (¬ r1 = 0 → wp_X12_isPart p2 (fun (r2 : Int32) => (¬ r2 = 0 → wp_X12_findSteady (1 <<< (p1 &&& 31)) p1 σ (fun (u3 : US) => wp_X12_part p2 u3 (fun (r4 : Int64) => Q r4 u3))) ∧ (r2 = 0 → Q (-1) σ))))
set_option maxRecDepth 100000 in
set_option maxHeartbeats 4000000 in
theorem c_X12_share (l : Launch) (D : va_G) (kc : Nat → ClassId) (a : Nat → Nat)  (p1 : Int32) (p2 : Int32) (σ : US) (Q : Int64 → US → Prop) (h : wp_X12_share p1 p2 σ Q) : kCl l D (tyL kc) yX12_share wsX12_share ({ frames := 6, cells := 0, slots := 0, locals := 159 } : Room) [.ref (a 0), .int p1, .int p2] (wM kc a σ) (fun u : US => (wM kc a u)) 0 0 (fun r u => Q r u) := by
  intro sz
  refine k_begin (cc := cX12_share) (maxL := 3) (ret := (some .long)) (by decide +kernel) rfl rfl (fun p e s m args below meth c hsz E G ls hl => ?_)
  subst hsz
  have hl : lv_has ls 3 [(0, .ref (a 0)), (1, .int p1), (2, .int p2)] := hl
  refine lv_aload_n E.ex E.by dX12_share_0 rfl (lv_at hl 0 rfl) ?_
  refine lv_iload_n E.ex E.by dX12_share_1 rfl (lv_at hl 1 rfl) ?_
  refine k_cVi (X := []) (w := (wM kc a σ)) (Z := []) (wnew := (fun _ : Unit => (wM kc a σ))) (As := [.int p1]) (rest := []) E (List.append_nil _).symm G (c_X12_isState l D kc _ _ _ _ h) gX12_share_X12_isState rfl ⟨rfl, rfl⟩ hd_X12_isState_v ⟨rfl, rfl⟩ 0 (gM_0 _ _ _) rfl rfl hl rfl rfl dX12_share_2 ⟨rfl, rfl⟩ (fun _ => (List.append_nil _).symm) (fun r1 _u2 hq H locs G => ?_)
  have h := hq
  refine lv_if_eq (tgt := 15) E.ex E.by dX12_share_5 (by decide) (fun hc6 => ?_) (fun hc6 => ?_)
  · have h := h.1 hc6
    refine lv_ldc2 (v := (-1)) E.ex E.by E.ow (E.ts _ lc_X12_share_167) dX12_share_15 ?_
    exact k_retl (wof := (fun u : US => (wM kc a u))) (u := σ) E G h (Nat.le_of_ble_eq_true rfl) (Nat.le_of_ble_eq_true rfl) dX12_share_18
  · have h := h.2 hc6
    refine lv_iload_n E.ex E.by dX12_share_8 rfl (lv_at hl 2 rfl) ?_
    refine k_cSi (X := (wM kc a σ)) (w := []) (Z := []) (wnew := (fun _ : Unit => (wM kc a σ))) (As := [.int p2]) (rest := []) E (List.append_nil _).symm G (c_X12_isPart l D kc _ _ h) gX12_share_X12_isPart rfl ⟨rfl, rfl⟩ hd_X12_isPart_v ⟨rfl, rfl⟩ rfl hl rfl rfl dX12_share_9 ⟨rfl, rfl⟩ (fun _ => (List.append_nil _).symm) (fun r2 _u9 hq H locs G => ?_)
    have h := hq
    refine lv_if_ne (tgt := 19) E.ex E.by dX12_share_12 (by decide) (fun hc5 => ?_) (fun hc5 => ?_)
    · have h := h.1 hc5
      refine lv_aload_n E.ex E.by dX12_share_19 rfl (lv_at hl 0 rfl) ?_
      refine lv_iconst (v := 1) E.ex E.by dX12_share_20 (by decide) ?_
      refine lv_iload_n E.ex E.by dX12_share_21 rfl (lv_at hl 1 rfl) ?_
      refine lv_ishl E.ex E.by dX12_share_22 ?_
      refine lv_iload_n E.ex E.by dX12_share_23 rfl (lv_at hl 1 rfl) ?_
      refine k_cVv (X := []) (w := (wM kc a σ)) (Z := []) (wnew := (fun u : US => (wM kc a u))) (As := [.int (1 <<< (p1 &&& 31)), .int p1]) (rest := []) E (List.append_nil _).symm G (c_X12_findSteady l D kc _ _ _ _ _ h) gX12_share_X12_findSteady rfl ⟨rfl, rfl⟩ hd_X12_findSteady_v ⟨rfl, rfl⟩ 0 (gM_0 _ _ _) rfl rfl hl rfl rfl dX12_share_24 ⟨rfl, rfl⟩ (fun _ => (List.append_nil _).symm) (fun u3 hq H locs G => ?_)
      have h := hq
      refine lv_aload_n E.ex E.by dX12_share_27 rfl (lv_at hl 0 rfl) ?_
      refine lv_iload_n E.ex E.by dX12_share_28 rfl (lv_at hl 2 rfl) ?_
      refine k_cVl (X := []) (w := (wM kc a u3)) (Z := []) (wnew := (fun _ : Unit => (wM kc a u3))) (As := [.int p2]) (rest := []) E (List.append_nil _).symm G (c_X12_part l D kc _ _ _ _ h) gX12_share_X12_part rfl ⟨rfl, rfl⟩ hd_X12_part_v ⟨rfl, rfl⟩ 0 (gM_0 _ _ _) rfl rfl hl rfl rfl dX12_share_29 ⟨rfl, rfl⟩ (fun _ => (List.append_nil _).symm) (fun r4 _u29 hq H locs G => ?_)
      have h := hq
      exact k_retl (wof := (fun u : US => (wM kc a u))) (u := u3) E G h (Nat.le_of_ble_eq_true rfl) (Nat.le_of_ble_eq_true rfl) dX12_share_32
    · have h := h.2 hc5
      refine lv_ldc2 (v := (-1)) E.ex E.by E.ow (E.ts _ lc_X12_share_167) dX12_share_15 ?_
      exact k_retl (wof := (fun u : US => (wM kc a u))) (u := σ) E G h (Nat.le_of_ble_eq_true rfl) (Nat.le_of_ble_eq_true rfl) dX12_share_18
theorem wi_X12_expected_X12 : ∀ w ∈ wsX120, w ∈ wsX12_expected := fun w h => List.mem_cons_of_mem _ (List.mem_append_right _ (h))
theorem fl_X12_expected_X12_25 : Cond.fieldLink RX12 62 (TX12 25).1 (TX12 25).2.1 (TX12 25).2.2.1 ∈ wsX12_expected := List.mem_of_getElem? (i := 1) (by decide +kernel)
theorem lc_X12_expected_345 : Cond.constantLong RX12 345 (-5) ∈ wsX12_expected := List.mem_of_getElem? (i := 2) (by decide +kernel)
def wp_X12_expected (p1 : Int32) (p2 : Int32) (p3 : Int32) (σ : US) (Q : Int64 → US → Prop) : Prop := wp_X12_hinders p1 p1 p2 p3 σ (fun (r1 : Int32) => (0 ≤ r1 → vp_in p1 6 ∧ (wp_X12_setOf 8 (aA σ 13 (p1).toNatClampNeg) σ (fun (r2 : Int32) (u3 : US) => wp_X12_findExpected r2 p2 u3 (fun (r4 : Int32) (u5 : US) => (r4 = 0 → Q (-5) u5) ∧ (¬ r4 = 0 → wp_X12_part p3 u5 (fun (r6 : Int64) => Q r6 u5)))))) ∧ (¬ 0 ≤ r1 → Q (r1.toInt64) σ))
set_option maxRecDepth 100000 in
set_option maxHeartbeats 4000000 in
theorem c_X12_expected (l : Launch) (D : va_G) (kc : Nat → ClassId) (a : Nat → Nat)  (p1 : Int32) (p2 : Int32) (p3 : Int32) (σ : US) (Q : Int64 → US → Prop) (h : wp_X12_expected p1 p2 p3 σ Q) : kCl l D (tyL kc) yX12_expected wsX12_expected ({ frames := 57, cells := 0, slots := 0, locals := 1492 } : Room) [.ref (a 0), .int p1, .int p2, .int p3] (wM kc a σ) (fun u : US => (wM kc a u)) 0 0 (fun r u => Q r u) := by
  intro sz
  refine k_begin (cc := cX12_expected) (maxL := 5) (ret := (some .long)) (by decide +kernel) rfl rfl (fun p e s m args below meth c hsz E G ls hl => ?_)
  subst hsz
  have hl : lv_has ls 5 [(0, .ref (a 0)), (1, .int p1), (2, .int p2), (3, .int p3)] := hl
  refine lv_aload_n E.ex E.by dX12_expected_0 rfl (lv_at hl 0 rfl) ?_
  refine lv_iload_n E.ex E.by dX12_expected_1 rfl (lv_at hl 1 rfl) ?_
  refine lv_iload_n E.ex E.by dX12_expected_2 rfl (lv_at hl 1 rfl) ?_
  refine lv_iload_n E.ex E.by dX12_expected_3 rfl (lv_at hl 2 rfl) ?_
  refine lv_iload_n E.ex E.by dX12_expected_4 rfl (lv_at hl 3 rfl) ?_
  refine k_cVi (X := []) (w := (wM kc a σ)) (Z := []) (wnew := (fun _ : Unit => (wM kc a σ))) (As := [.int p1, .int p1, .int p2, .int p3]) (rest := []) E (List.append_nil _).symm G (c_X12_hinders l D kc _ _ _ _ _ _ _ h) gX12_expected_X12_hinders rfl ⟨rfl, rfl⟩ hd_X12_hinders_v ⟨rfl, rfl⟩ 0 (gM_0 _ _ _) rfl rfl hl rfl rfl dX12_expected_5 ⟨rfl, rfl⟩ (fun _ => (List.append_nil _).symm) (fun r1 _u5 hq H locs G => ?_)
  have h := hq
  refine lv_istore (lv' := [(4, .int r1), (0, .ref (a 0)), (1, .int p1), (2, .int p2), (3, .int p3)]) E.ex E.by dX12_expected_8 hl (by decide) rfl (fun ls hl => ?_)
  refine lv_iload E.ex E.by dX12_expected_10 (lv_at hl 0 rfl) ?_
  refine lv_if_ge (tgt := 19) E.ex E.by dX12_expected_12 (by decide) (fun hc8 => ?_) (fun hc8 => ?_)
  · have h := h.1 hc8
    refine lv_aload_n E.ex E.by dX12_expected_19 rfl (lv_at hl 1 rfl) ?_
    refine lv_aload_n E.ex E.by dX12_expected_20 rfl (lv_at hl 1 rfl) ?_
    refine lv_aload_n E.ex E.by dX12_expected_21 rfl (lv_at hl 1 rfl) ?_
    refine k_get E G wi_X12_expected_X12 0 (gM_0 _ _ _) rfl 25 rfl fl_X12_expected_X12_25 (v := .ref (a 18)) rfl dX12_expected_22 ?_
    refine lv_iload_n E.ex E.by dX12_expected_25 rfl (lv_at hl 2 rfl) ?_
    refine k_iald E G 18 (gM_18 _ _ _) 0 rfl h.1 dX12_expected_26 ?_
    have h := h.2
    refine k_cVi (X := []) (w := (wM kc a σ)) (Z := []) (wnew := (fun u : US => (wM kc a u))) (As := [.int (aA σ 13 (p1).toNatClampNeg)]) (rest := [.ref (a 0)]) E (List.append_nil _).symm G (c_X12_setOf l D kc _ 8 _ _ _ h) gX12_expected_X12_setOf rfl ⟨rfl, rfl⟩ hd_X12_setOf_v ⟨rfl, rfl⟩ 0 (gM_0 _ _ _) rfl rfl hl rfl rfl dX12_expected_27 ⟨rfl, rfl⟩ (fun _ => (List.append_nil _).symm) (fun r2 u3 hq H locs G => ?_)
    have h := hq
    refine lv_iload_n E.ex E.by dX12_expected_30 rfl (lv_at hl 3 rfl) ?_
    refine k_cVi (X := []) (w := (wM kc a u3)) (Z := []) (wnew := (fun u : US => (wM kc a u))) (As := [.int r2, .int p2]) (rest := []) E (List.append_nil _).symm G (c_X12_findExpected l D kc _ _ _ _ _ h) gX12_expected_X12_findExpected rfl ⟨rfl, rfl⟩ hd_X12_findExpected_v ⟨rfl, rfl⟩ 0 (gM_0 _ _ _) rfl rfl hl rfl rfl dX12_expected_31 ⟨rfl, rfl⟩ (fun _ => (List.append_nil _).symm) (fun r4 u5 hq H locs G => ?_)
    have h := hq
    refine lv_if_eq (tgt := 45) E.ex E.by dX12_expected_34 (by decide) (fun hc7 => ?_) (fun hc7 => ?_)
    · have h := h.1 hc7
      refine lv_ldc2 (v := (-5)) E.ex E.by E.ow (E.ts _ lc_X12_expected_345) dX12_expected_45 ?_
      exact k_retl (wof := (fun u : US => (wM kc a u))) (u := u5) E G h (Nat.le_of_ble_eq_true rfl) (Nat.le_of_ble_eq_true rfl) dX12_expected_48
    · have h := h.2 hc7
      refine lv_aload_n E.ex E.by dX12_expected_37 rfl (lv_at hl 1 rfl) ?_
      refine lv_iload_n E.ex E.by dX12_expected_38 rfl (lv_at hl 4 rfl) ?_
      refine k_cVl (X := []) (w := (wM kc a u5)) (Z := []) (wnew := (fun _ : Unit => (wM kc a u5))) (As := [.int p3]) (rest := []) E (List.append_nil _).symm G (c_X12_part l D kc _ _ _ _ h) gX12_expected_X12_part rfl ⟨rfl, rfl⟩ hd_X12_part_v ⟨rfl, rfl⟩ 0 (gM_0 _ _ _) rfl rfl hl rfl rfl dX12_expected_39 ⟨rfl, rfl⟩ (fun _ => (List.append_nil _).symm) (fun r6 _u39 hq H locs G => ?_)
      have h := hq
      refine lv_goto (tgt := 48) E.ex E.by dX12_expected_42 (by decide) ?_
      exact k_retl (wof := (fun u : US => (wM kc a u))) (u := u5) E G h (Nat.le_of_ble_eq_true rfl) (Nat.le_of_ble_eq_true rfl) dX12_expected_48
  · have h := h.2 hc8
    refine lv_iload E.ex E.by dX12_expected_15 (lv_at hl 0 rfl) ?_
    refine lv_i2l E.ex E.by dX12_expected_17 rfl ?_
    exact k_retl (wof := (fun u : US => (wM kc a u))) (u := σ) E G h (Nat.le_of_ble_eq_true rfl) (Nat.le_of_ble_eq_true rfl) dX12_expected_18
theorem wi_X12_compared_X12 : ∀ w ∈ wsX120, w ∈ wsX12_compared := fun w h => List.mem_cons_of_mem _ (List.mem_append_right _ (h))
theorem fl_X12_compared_X12_37 : Cond.fieldLink RX12 77 (TX12 37).1 (TX12 37).2.1 (TX12 37).2.2.1 ∈ wsX12_compared := List.mem_of_getElem? (i := 1) (by decide +kernel)
theorem fl_X12_compared_X12_38 : Cond.fieldLink RX12 80 (TX12 38).1 (TX12 38).2.1 (TX12 38).2.2.1 ∈ wsX12_compared := List.mem_of_getElem? (i := 2) (by decide +kernel)
theorem fl_X12_compared_X12_39 : Cond.fieldLink RX12 83 (TX12 39).1 (TX12 39).2.1 (TX12 39).2.2.1 ∈ wsX12_compared := List.mem_of_getElem? (i := 3) (by decide +kernel)
def wp_X12_compared (p1 : Int32) (p2 : Int32) (σ : US) (Q : Int32 → Prop) : Prop := wp_X12_weightOf p1 p2 σ (fun (r1 : Int32) => vp_in p2 8 ∧ (vp_in p1 8 ∧ (∀ x2 : Int64, x2 = ((r1.toInt64) * (aB σ 4 (p2).toNatClampNeg)) * (aB σ 5 (p1).toNatClampNeg) → vp_in p1 8 ∧ (wp_X12_sumOf p1 σ (fun (r3 : Int32) => vp_in p2 8 ∧ (∀ x4 : Int64, x4 = ((aB σ 4 (p1).toNatClampNeg) * (r3.toInt64)) * (aB σ 5 (p2).toNatClampNeg) → ((lg_cmp x2 x4) = 0 → vp_in p2 8 ∧ (vp_in p1 8 ∧ (((aA σ 18 (p1).toNatClampNeg) ≤ ((aA σ 18 (p2).toNatClampNeg) + 1) → vp_in p2 8 ∧ (vp_in p1 8 ∧ ((((aA σ 18 (p2).toNatClampNeg) + 1) ≤ (aA σ 18 (p1).toNatClampNeg) → Q 0) ∧ (¬ ((aA σ 18 (p2).toNatClampNeg) + 1) ≤ (aA σ 18 (p1).toNatClampNeg) → Q (-1))))) ∧ (¬ (aA σ 18 (p1).toNatClampNeg) ≤ ((aA σ 18 (p2).toNatClampNeg) + 1) → Q 1)))) ∧ (¬ (lg_cmp x2 x4) = 0 → ((lg_cmp x2 x4) ≤ 0 → Q (-1)) ∧ (¬ (lg_cmp x2 x4) ≤ 0 → Q 1))))))))
set_option maxRecDepth 100000 in
set_option maxHeartbeats 4000000 in
theorem c_X12_compared (l : Launch) (D : va_G) (kc : Nat → ClassId) (a : Nat → Nat)  (p1 : Int32) (p2 : Int32) (σ : US) (Q : Int32 → Prop) (h : wp_X12_compared p1 p2 σ Q) : kCi l D (tyL kc) yX12_compared wsX12_compared ({ frames := 2, cells := 0, slots := 0, locals := 51 } : Room) [.ref (a 0), .int p1, .int p2] (wM kc a σ) (fun _ : Unit => (wM kc a σ)) 0 0 (fun r _ => Q r) := by
  intro sz
  refine k_begin (cc := cX12_compared) (maxL := 7) (ret := (some .int)) (by decide +kernel) rfl rfl (fun p e s m args below meth c hsz E G ls hl => ?_)
  subst hsz
  have hl : lv_has ls 7 [(0, .ref (a 0)), (1, .int p1), (2, .int p2)] := hl
  refine lv_aload_n E.ex E.by dX12_compared_0 rfl (lv_at hl 0 rfl) ?_
  refine lv_iload_n E.ex E.by dX12_compared_1 rfl (lv_at hl 1 rfl) ?_
  refine lv_iload_n E.ex E.by dX12_compared_2 rfl (lv_at hl 2 rfl) ?_
  refine k_cVi (X := []) (w := (wM kc a σ)) (Z := []) (wnew := (fun _ : Unit => (wM kc a σ))) (As := [.int p1, .int p2]) (rest := []) E (List.append_nil _).symm G (c_X12_weightOf l D kc _ _ _ _ _ h) gX12_compared_X12_weightOf rfl ⟨rfl, rfl⟩ hd_X12_weightOf_v ⟨rfl, rfl⟩ 0 (gM_0 _ _ _) rfl rfl hl rfl rfl dX12_compared_3 ⟨rfl, rfl⟩ (fun _ => (List.append_nil _).symm) (fun r1 _u3 hq H locs G => ?_)
  have h := hq
  refine lv_i2l E.ex E.by dX12_compared_6 rfl ?_
  refine lv_aload_n E.ex E.by dX12_compared_7 rfl (lv_at hl 0 rfl) ?_
  refine k_get E G wi_X12_compared_X12 0 (gM_0 _ _ _) rfl 37 rfl fl_X12_compared_X12_37 (v := .ref (a 23)) rfl dX12_compared_8 ?_
  refine lv_iload_n E.ex E.by dX12_compared_11 rfl (lv_at hl 2 rfl) ?_
  refine k_lald E G 23 (gM_23 _ _ _) 1 rfl h.1 dX12_compared_12 ?_
  have h := h.2
  refine lv_lmul E.ex E.by dX12_compared_13 ?_
  refine lv_aload_n E.ex E.by dX12_compared_14 rfl (lv_at hl 0 rfl) ?_
  refine k_get E G wi_X12_compared_X12 0 (gM_0 _ _ _) rfl 38 rfl fl_X12_compared_X12_38 (v := .ref (a 24)) rfl dX12_compared_15 ?_
  refine lv_iload_n E.ex E.by dX12_compared_18 rfl (lv_at hl 1 rfl) ?_
  refine k_lald E G 24 (gM_24 _ _ _) 1 rfl h.1 dX12_compared_19 ?_
  have h := h.2
  refine lv_lmul E.ex E.by dX12_compared_20 ?_
  refine lv_topl (fun x2 ex2 => ?_)
  have h := h x2 ex2
  refine lv_lstore_n (lv' := [(3, .long x2), (0, .ref (a 0)), (1, .int p1), (2, .int p2)]) E.ex E.by dX12_compared_21 rfl hl (by decide) rfl (fun ls hl => ?_)
  refine lv_aload_n E.ex E.by dX12_compared_22 rfl (lv_at hl 1 rfl) ?_
  refine k_get E G wi_X12_compared_X12 0 (gM_0 _ _ _) rfl 37 rfl fl_X12_compared_X12_37 (v := .ref (a 23)) rfl dX12_compared_23 ?_
  refine lv_iload_n E.ex E.by dX12_compared_26 rfl (lv_at hl 2 rfl) ?_
  refine k_lald E G 23 (gM_23 _ _ _) 1 rfl h.1 dX12_compared_27 ?_
  have h := h.2
  refine lv_aload_n E.ex E.by dX12_compared_28 rfl (lv_at hl 1 rfl) ?_
  refine lv_iload_n E.ex E.by dX12_compared_29 rfl (lv_at hl 2 rfl) ?_
  refine k_cVi (X := []) (w := (wM kc a σ)) (Z := []) (wnew := (fun _ : Unit => (wM kc a σ))) (As := [.int p1]) (rest := [.long (aB σ 4 (p1).toNatClampNeg)]) E (List.append_nil _).symm G (c_X12_sumOf l D kc _ _ _ _ h) gX12_compared_X12_sumOf rfl ⟨rfl, rfl⟩ hd_X12_sumOf_v ⟨rfl, rfl⟩ 0 (gM_0 _ _ _) rfl rfl hl rfl rfl dX12_compared_30 ⟨rfl, rfl⟩ (fun _ => (List.append_nil _).symm) (fun r3 _u30 hq H locs G => ?_)
  have h := hq
  refine lv_i2l E.ex E.by dX12_compared_33 rfl ?_
  refine lv_lmul E.ex E.by dX12_compared_34 ?_
  refine lv_aload_n E.ex E.by dX12_compared_35 rfl (lv_at hl 1 rfl) ?_
  refine k_get E G wi_X12_compared_X12 0 (gM_0 _ _ _) rfl 38 rfl fl_X12_compared_X12_38 (v := .ref (a 24)) rfl dX12_compared_36 ?_
  refine lv_iload_n E.ex E.by dX12_compared_39 rfl (lv_at hl 3 rfl) ?_
  refine k_lald E G 24 (gM_24 _ _ _) 1 rfl h.1 dX12_compared_40 ?_
  have h := h.2
  refine lv_lmul E.ex E.by dX12_compared_41 ?_
  refine lv_topl (fun x4 ex4 => ?_)
  have h := h x4 ex4
  refine lv_lstore (lv' := [(5, .long x4), (3, .long x2), (0, .ref (a 0)), (1, .int p1), (2, .int p2)]) E.ex E.by dX12_compared_42 hl (by decide) rfl (fun ls hl => ?_)
  refine lv_lload_n E.ex E.by dX12_compared_44 rfl (lv_at hl 1 rfl) ?_
  refine lv_lload E.ex E.by dX12_compared_45 (lv_at hl 0 rfl) ?_
  refine W.lcmp E.ex E.by dX12_compared_47 ?_
  refine lv_if_eq (tgt := 64) E.ex E.by dX12_compared_48 (by decide) (fun hc8 => ?_) (fun hc8 => ?_)
  · have h := h.1 hc8
    refine lv_aload_n E.ex E.by dX12_compared_64 rfl (lv_at hl 2 rfl) ?_
    refine k_get E G wi_X12_compared_X12 0 (gM_0 _ _ _) rfl 39 rfl fl_X12_compared_X12_39 (v := .ref (a 25)) rfl dX12_compared_65 ?_
    refine lv_iload_n E.ex E.by dX12_compared_68 rfl (lv_at hl 4 rfl) ?_
    refine k_iald E G 25 (gM_25 _ _ _) 0 rfl h.1 dX12_compared_69 ?_
    have h := h.2
    refine lv_iconst (v := 1) E.ex E.by dX12_compared_70 (by decide) ?_
    refine lv_iadd E.ex E.by dX12_compared_71 ?_
    refine lv_aload_n E.ex E.by dX12_compared_72 rfl (lv_at hl 2 rfl) ?_
    refine k_get E G wi_X12_compared_X12 0 (gM_0 _ _ _) rfl 39 rfl fl_X12_compared_X12_39 (v := .ref (a 25)) rfl dX12_compared_73 ?_
    refine lv_iload_n E.ex E.by dX12_compared_76 rfl (lv_at hl 3 rfl) ?_
    refine k_iald E G 25 (gM_25 _ _ _) 0 rfl h.1 dX12_compared_77 ?_
    have h := h.2
    refine lv_icmp_ge (tgt := 85) E.ex E.by dX12_compared_78 (by decide) (fun hc6 => ?_) (fun hc6 => ?_)
    · have h := h.1 hc6
      refine lv_aload_n E.ex E.by dX12_compared_85 rfl (lv_at hl 2 rfl) ?_
      refine k_get E G wi_X12_compared_X12 0 (gM_0 _ _ _) rfl 39 rfl fl_X12_compared_X12_39 (v := .ref (a 25)) rfl dX12_compared_86 ?_
      refine lv_iload_n E.ex E.by dX12_compared_89 rfl (lv_at hl 4 rfl) ?_
      refine k_iald E G 25 (gM_25 _ _ _) 0 rfl h.1 dX12_compared_90 ?_
      have h := h.2
      refine lv_iconst (v := 1) E.ex E.by dX12_compared_91 (by decide) ?_
      refine lv_iadd E.ex E.by dX12_compared_92 ?_
      refine lv_aload_n E.ex E.by dX12_compared_93 rfl (lv_at hl 2 rfl) ?_
      refine k_get E G wi_X12_compared_X12 0 (gM_0 _ _ _) rfl 39 rfl fl_X12_compared_X12_39 (v := .ref (a 25)) rfl dX12_compared_94 ?_
      refine lv_iload_n E.ex E.by dX12_compared_97 rfl (lv_at hl 3 rfl) ?_
      refine k_iald E G 25 (gM_25 _ _ _) 0 rfl h.1 dX12_compared_98 ?_
      have h := h.2
      refine lv_icmp_le (tgt := 106) E.ex E.by dX12_compared_99 (by decide) (fun hc5 => ?_) (fun hc5 => ?_)
      · have h := h.1 hc5
        refine lv_iconst (v := 0) E.ex E.by dX12_compared_106 (by decide) ?_
        exact k_ret (wof := (fun _ : Unit => (wM kc a σ))) (u := ()) E G rfl h (Nat.le_of_ble_eq_true rfl) (Nat.le_of_ble_eq_true rfl) dX12_compared_107
      · have h := h.2 hc5
        refine lv_iconst (v := (-1)) E.ex E.by dX12_compared_102 (by decide) ?_
        refine lv_goto (tgt := 107) E.ex E.by dX12_compared_103 (by decide) ?_
        exact k_ret (wof := (fun _ : Unit => (wM kc a σ))) (u := ()) E G rfl h (Nat.le_of_ble_eq_true rfl) (Nat.le_of_ble_eq_true rfl) dX12_compared_107
    · have h := h.2 hc6
      refine lv_iconst (v := 1) E.ex E.by dX12_compared_81 (by decide) ?_
      refine lv_goto (tgt := 107) E.ex E.by dX12_compared_82 (by decide) ?_
      exact k_ret (wof := (fun _ : Unit => (wM kc a σ))) (u := ()) E G rfl h (Nat.le_of_ble_eq_true rfl) (Nat.le_of_ble_eq_true rfl) dX12_compared_107
  · have h := h.2 hc8
    refine lv_lload_n E.ex E.by dX12_compared_51 rfl (lv_at hl 1 rfl) ?_
    refine lv_lload E.ex E.by dX12_compared_52 (lv_at hl 0 rfl) ?_
    refine W.lcmp E.ex E.by dX12_compared_54 ?_
    refine lv_if_le (tgt := 62) E.ex E.by dX12_compared_55 (by decide) (fun hc7 => ?_) (fun hc7 => ?_)
    · have h := h.1 hc7
      refine lv_iconst (v := (-1)) E.ex E.by dX12_compared_62 (by decide) ?_
      exact k_ret (wof := (fun _ : Unit => (wM kc a σ))) (u := ()) E G rfl h (Nat.le_of_ble_eq_true rfl) (Nat.le_of_ble_eq_true rfl) dX12_compared_63
    · have h := h.2 hc7
      refine lv_iconst (v := 1) E.ex E.by dX12_compared_58 (by decide) ?_
      refine lv_goto (tgt := 63) E.ex E.by dX12_compared_59 (by decide) ?_
      exact k_ret (wof := (fun _ : Unit => (wM kc a σ))) (u := ()) E G rfl h (Nat.le_of_ble_eq_true rfl) (Nat.le_of_ble_eq_true rfl) dX12_compared_63
theorem wi_X12_findBest_X12 : ∀ w ∈ wsX120, w ∈ wsX12_findBest := fun w h => List.mem_cons_of_mem _ (List.mem_append_right _ (h))
theorem fl_X12_findBest_X12_0 : Cond.fieldLink RX12 9 (TX12 0).1 (TX12 0).2.1 (TX12 0).2.2.1 ∈ wsX12_findBest := List.mem_of_getElem? (i := 1) (by decide +kernel)
theorem fl_X12_findBest_X12_37 : Cond.fieldLink RX12 77 (TX12 37).1 (TX12 37).2.1 (TX12 37).2.2.1 ∈ wsX12_findBest := List.mem_of_getElem? (i := 2) (by decide +kernel)
theorem fl_X12_findBest_X12_38 : Cond.fieldLink RX12 80 (TX12 38).1 (TX12 38).2.1 (TX12 38).2.2.1 ∈ wsX12_findBest := List.mem_of_getElem? (i := 3) (by decide +kernel)
theorem fl_X12_findBest_X12_7 : Cond.fieldLink RX12 157 (TX12 7).1 (TX12 7).2.1 (TX12 7).2.2.1 ∈ wsX12_findBest := List.mem_of_getElem? (i := 5) (by decide +kernel)
theorem fl_X12_findBest_X12_8 : Cond.fieldLink RX12 161 (TX12 8).1 (TX12 8).2.1 (TX12 8).2.2.1 ∈ wsX12_findBest := List.mem_of_getElem? (i := 6) (by decide +kernel)
theorem fl_X12_findBest_X12_39 : Cond.fieldLink RX12 83 (TX12 39).1 (TX12 39).2.1 (TX12 39).2.2.1 ∈ wsX12_findBest := List.mem_of_getElem? (i := 4) (by decide +kernel)
theorem hd_X12_compared_v : yX12_compared.cls = RX12 ∧ yX12_compared.cls ≠ "java/lang/invoke/MethodHandle" ∧ yX12_compared.cls ≠ "java/lang/invoke/VarHandle" ∧ (parseMethodDescriptor yX12_compared.desc).map (fun d => d.parameters.length) = some 2 := by decide +kernel
def wp_X12_findBest_L89 (v1 : Int32) (v2 : Int32) (v4 : Int32) (P2 : (Int32 × US) → Prop) (P66 : (Int32 × US) → Prop) (P75 : (Int32 × Int32 × US) → Prop) (Q : US → Prop) (P89 : (Int32 × Int32 × US) → Prop) (t89 : Int32 × Int32 × US) : Prop := vp_in 0 81 ∧ (((aA t89.2.2 0 (0 : Int32).toNatClampNeg) ≤ t89.2.1 → P75 (t89.1, v4 + 1, t89.2.2)) ∧ (¬ (aA t89.2.2 0 (0 : Int32).toNatClampNeg) ≤ t89.2.1 → wp_X12_has (v1 &&& (v2 ^^^ (-1))) v4 (fun (r1 : Int32) => (r1 = 0 → P75 (t89.1, v4 + 1, t89.2.2)) ∧ (¬ r1 = 0 → wp_X12_weightOf v4 t89.2.1 t89.2.2 (fun (r2 : Int32) => (r2 ≤ 0 → P89 (t89.1, t89.2.1 + 1, t89.2.2)) ∧ (¬ r2 ≤ 0 → vp_in t89.2.1 8 ∧ (((lg_cmp (aB t89.2.2 4 (t89.2.1).toNatClampNeg) 0) ≤ 0 → P89 (t89.1, t89.2.1 + 1, t89.2.2)) ∧ (¬ (lg_cmp (aB t89.2.2 4 (t89.2.1).toNatClampNeg) 0) ≤ 0 → wp_X12_compared v4 t89.2.1 t89.2.2 (fun (r3 : Int32) => (r3 ≤ 0 → P89 (t89.1, t89.2.1 + 1, t89.2.2)) ∧ (¬ r3 ≤ 0 → wp_X12_weightOf v4 t89.2.1 t89.2.2 (fun (r4 : Int32) => vp_in t89.2.1 8 ∧ (wp_X12_sumOf v4 t89.2.2 (fun (r5 : Int32) => vp_in t89.2.1 8 ∧ (wp_X12_give ((r4.toInt64) * (aB t89.2.2 4 (t89.2.1).toNatClampNeg)) ((r5.toInt64) * (aB t89.2.2 5 (t89.2.1).toNatClampNeg)) t89.2.2 (fun (u6 : US) => vp_in v4 8 ∧ (∀ z7 : US, z7 = uB u6 4 (v4).toNatClampNeg (lJ u6 0) → vp_in v4 8 ∧ (∀ z8 : US, z8 = uB z7 5 (v4).toNatClampNeg (lJ z7 1) → vp_in t89.2.1 8 ∧ (vp_in v4 8 ∧ (∀ z9 : US, z9 = uA z8 18 (v4).toNatClampNeg ((aA z8 18 (t89.2.1).toNatClampNeg) + 1) → P89 (1, t89.2.1 + 1, z9))))))))))))))))))))
def wp_X12_findBest_L75 (v1 : Int32) (v2 : Int32) (P2 : (Int32 × US) → Prop) (P66 : (Int32 × US) → Prop) (Q : US → Prop) (P75 : (Int32 × Int32 × US) → Prop) (t75 : Int32 × Int32 × US) : Prop := vp_in 0 81 ∧ (((aA t75.2.2 0 (0 : Int32).toNatClampNeg) ≤ t75.2.1 → P66 (t75.1, t75.2.2)) ∧ (¬ (aA t75.2.2 0 (0 : Int32).toNatClampNeg) ≤ t75.2.1 → lpW (wp_X12_findBest_L89 v1 v2 t75.2.1 P2 P66 P75 Q) (t75.1, 0, t75.2.2)))
def wp_X12_findBest_L66 (v1 : Int32) (v2 : Int32) (P2 : (Int32 × US) → Prop) (Q : US → Prop) (P66 : (Int32 × US) → Prop) (t66 : Int32 × US) : Prop := (t66.1 = 0 → Q t66.2) ∧ (¬ t66.1 = 0 → lpW (wp_X12_findBest_L75 v1 v2 P2 P66 Q) (0, 0, t66.2))
def wp_X12_findBest_J30 (v1j30 : Int32) (v2j30 : Int32) (v3j30 : Int32) (σ'j30 : US) (s0j30 : Int64) (s1j30 : Int32) (P2 : (Int32 × US) → Prop) (Q : US → Prop) : Prop := vp_in s1j30 8 ∧ (∀ z69 : US, z69 = uB σ'j30 4 (s1j30).toNatClampNeg s0j30 → vp_in v3j30 8 ∧ (∀ z70 : US, z70 = uB z69 5 (v3j30).toNatClampNeg 1 → wp_X12_has v2j30 v3j30 (fun (r71 : Int32) => (r71 = 0 → vp_in v3j30 8 ∧ (∀ z72 : US, z72 = uA z70 18 (v3j30).toNatClampNeg 8 → P2 (v3j30 + 1, z72))) ∧ (¬ r71 = 0 → vp_in v3j30 8 ∧ (∀ z73 : US, z73 = uA z70 18 (v3j30).toNatClampNeg 0 → P2 (v3j30 + 1, z73))))))
def wp_X12_findBest_L2 (v1 : Int32) (v2 : Int32) (Q : US → Prop) (P2 : (Int32 × US) → Prop) (t2 : Int32 × US) : Prop := vp_in 0 81 ∧ (((aA t2.2 0 (0 : Int32).toNatClampNeg) ≤ t2.1 → lpW (wp_X12_findBest_L66 v1 v2 P2 Q) (1, t2.2)) ∧ (¬ (aA t2.2 0 (0 : Int32).toNatClampNeg) ≤ t2.1 → wp_X12_has v2 t2.1 (fun (r68 : Int32) => (r68 = 0 → wp_X12_findBest_J30 v1 v2 t2.1 t2.2 0 t2.1 P2 Q) ∧ (¬ r68 = 0 → wp_X12_findBest_J30 v1 v2 t2.1 t2.2 1 t2.1 P2 Q))))
def wp_X12_findBest (p1 : Int32) (p2 : Int32) (σ : US) (Q : US → Prop) : Prop := lpW (wp_X12_findBest_L2 p1 p2 Q) (0, σ)
set_option maxRecDepth 100000 in
set_option maxHeartbeats 4000000 in
theorem c_X12_findBest (l : Launch) (D : va_G) (kc : Nat → ClassId) (a : Nat → Nat)  (p1 : Int32) (p2 : Int32) (σ : US) (Q : US → Prop) (h : wp_X12_findBest p1 p2 σ Q) : kCv l D (tyL kc) yX12_findBest wsX12_findBest ({ frames := 3, cells := 0, slots := 0, locals := 77 } : Room) [.ref (a 0), .int p1, .int p2] (wM kc a σ) (fun u : US => (wM kc a u)) 0 0 (fun u => Q u) := by
  intro sz
  refine k_begin (cc := cX12_findBest) (maxL := 6) (ret := none) (by decide +kernel) rfl rfl (fun p e s m args below meth c hsz E G ls hl => ?_)
  subst hsz
  have hl : lv_has ls 6 [(0, .ref (a 0)), (1, .int p1), (2, .int p2)] := hl
  refine lv_iconst (v := 0) E.ex E.by dX12_findBest_0 (by decide) ?_
  refine lv_istore_n (lv' := [(3, .int 0), (0, .ref (a 0)), (1, .int p1), (2, .int p2)]) E.ex E.by dX12_findBest_1 rfl hl (by decide) rfl (fun ls hl => ?_)
  refine lpW_ind (fun t1 : Int32 × US => ∀ (H : Heap) (locs : List Loc) (ls : Array Slot), kG D (va_A (wM kc a σ) s.heap.size) s (wM kc a t1.2) H locs → lv_has ls 6 [(0, .ref (a 0)), (1, .int p1), (2, .int p2), (3, .int t1.1)] → W p l e _ s m args below meth c H locs _ _ _ (F0 m 2 ls [])) (fun P2 IH2 t1 h H locs ls G hl => ?_) _ h _ _ _ G (lv_sub hl [1, 2, 3, 0] rfl)
  have K30 : ∀ (v3j30 : Int32) (σ'j30 : US) (s0j30 : Int64) (s1j30 : Int32) (H : Heap) (locs : List Loc) (ls : Array Slot), kG D (va_A (wM kc a σ) s.heap.size) s (wM kc a σ'j30) H locs → lv_has ls 6 [(0, .ref (a 0)), (1, .int p1), (2, .int p2), (3, .int v3j30)] → wp_X12_findBest_J30 p1 p2 v3j30 σ'j30 s0j30 s1j30 P2 Q → W p l e ({ frames := 3, cells := 0, slots := 0, locals := 77 } : Room) s m args below meth c H locs 0 0 (MQ below (va_Qv (fun u => Q u) (kB D (wM kc a σ) s.heap.size (fun u : US => (wM kc a u))) (va_A (wM kc a σ) s.heap.size)) args s 0 0 (va_A (wM kc a σ) s.heap.size)) (F0 m 30 ls [.long s0j30, .int s1j30, .ref (a 23)]) := by
    intro v3j30 σ'j30 s0j30 s1j30 H locs ls G hl h
    refine k_last (fun z => (wM kc a z)) E G 23 (gM_23 _ _ _) 1 rfl h.1 (uB σ'j30 4 (s1j30).toNatClampNeg s0j30) (sM_23 _ _ _ _) dX12_findBest_30 (fun z24 ez24 H locs G => ?_)
    have h := h.2 z24 ez24
    refine lv_aload_n E.ex E.by dX12_findBest_31 rfl (lv_at hl 0 rfl) ?_
    refine k_get E G wi_X12_findBest_X12 0 (gM_0 _ _ _) rfl 38 rfl fl_X12_findBest_X12_38 (v := .ref (a 24)) rfl dX12_findBest_32 ?_
    refine lv_iload_n E.ex E.by dX12_findBest_35 rfl (lv_at hl 3 rfl) ?_
    refine lv_lconst (v := 1) E.ex E.by dX12_findBest_36 (by decide) ?_
    refine k_last (fun z => (wM kc a z)) E G 24 (gM_24 _ _ _) 1 rfl h.1 (uB z24 5 (v3j30).toNatClampNeg 1) (sM_24 _ _ _ _) dX12_findBest_37 (fun z25 ez25 H locs G => ?_)
    have h := h.2 z25 ez25
    refine lv_aload_n E.ex E.by dX12_findBest_38 rfl (lv_at hl 0 rfl) ?_
    refine k_get E G wi_X12_findBest_X12 0 (gM_0 _ _ _) rfl 39 rfl fl_X12_findBest_X12_39 (v := .ref (a 25)) rfl dX12_findBest_39 ?_
    refine lv_iload_n E.ex E.by dX12_findBest_42 rfl (lv_at hl 3 rfl) ?_
    refine lv_iload_n E.ex E.by dX12_findBest_43 rfl (lv_at hl 2 rfl) ?_
    refine lv_iload_n E.ex E.by dX12_findBest_44 rfl (lv_at hl 3 rfl) ?_
    refine k_cSi (X := (wM kc a z25)) (w := []) (Z := []) (wnew := (fun _ : Unit => (wM kc a z25))) (As := [.int p2, .int v3j30]) (rest := [.int v3j30, .ref (a 25)]) E (List.append_nil _).symm G (c_X12_has l D kc _ _ _ h) gX12_findBest_X12_has rfl ⟨rfl, rfl⟩ hd_X12_has_v ⟨rfl, rfl⟩ rfl hl rfl rfl dX12_findBest_45 ⟨rfl, rfl⟩ (fun _ => (List.append_nil _).symm) (fun r26 _u45 hq H locs G => ?_)
    have h := hq
    refine lv_if_eq (tgt := 55) E.ex E.by dX12_findBest_48 (by decide) (fun hc29 => ?_) (fun hc29 => ?_)
    · have h := h.1 hc29
      refine lv_bipush (v := 8) E.ex E.by dX12_findBest_55 (by decide) ?_
      refine k_iast (fun z => (wM kc a z)) E G 25 (gM_25 _ _ _) 0 rfl h.1 (uA z25 18 (v3j30).toNatClampNeg 8) (sM_25 _ _ _ _) dX12_findBest_57 (fun z27 ez27 H locs G => ?_)
      have h := h.2 z27 ez27
      refine lv_iinc (k := 3) (v := v3j30 + 1) (lv' := [(3, .int (v3j30 + 1)), (0, .ref (a 0)), (1, .int p1), (2, .int p2)]) E.ex E.by dX12_findBest_58 hl rfl (k_inc1 _) (by decide) rfl (fun ls hl => ?_)
      refine lv_goto (tgt := 2) E.ex E.by dX12_findBest_61 (by decide) ?_
      exact IH2 _ h _ _ _ G (lv_sub hl [1, 2, 3, 0] rfl)
    · have h := h.2 hc29
      refine lv_iconst (v := 0) E.ex E.by dX12_findBest_51 (by decide) ?_
      refine lv_goto (tgt := 57) E.ex E.by dX12_findBest_52 (by decide) ?_
      refine k_iast (fun z => (wM kc a z)) E G 25 (gM_25 _ _ _) 0 rfl h.1 (uA z25 18 (v3j30).toNatClampNeg 0) (sM_25 _ _ _ _) dX12_findBest_57 (fun z28 ez28 H locs G => ?_)
      have h := h.2 z28 ez28
      refine lv_iinc (k := 3) (v := v3j30 + 1) (lv' := [(3, .int (v3j30 + 1)), (0, .ref (a 0)), (1, .int p1), (2, .int p2)]) E.ex E.by dX12_findBest_58 hl rfl (k_inc1 _) (by decide) rfl (fun ls hl => ?_)
      refine lv_goto (tgt := 2) E.ex E.by dX12_findBest_61 (by decide) ?_
      exact IH2 _ h _ _ _ G (lv_sub hl [1, 2, 3, 0] rfl)
  refine lv_iload_n E.ex E.by dX12_findBest_2 rfl (lv_at hl 3 rfl) ?_
  refine lv_aload_n E.ex E.by dX12_findBest_3 rfl (lv_at hl 0 rfl) ?_
  refine k_get E G wi_X12_findBest_X12 0 (gM_0 _ _ _) rfl 0 rfl fl_X12_findBest_X12_0 (v := .ref (a 1)) rfl dX12_findBest_4 ?_
  refine lv_iconst (v := 0) E.ex E.by dX12_findBest_7 (by decide) ?_
  refine k_iald E G 1 (gM_1 _ _ _) 0 rfl h.1 dX12_findBest_8 ?_
  have h := h.2
  refine lv_icmp_ge (tgt := 64) E.ex E.by dX12_findBest_9 (by decide) (fun hc23 => ?_) (fun hc23 => ?_)
  · have h := h.1 hc23
    refine lv_iconst (v := 1) E.ex E.by dX12_findBest_64 (by decide) ?_
    refine lv_istore_n (lv' := [(3, .int 1), (0, .ref (a 0)), (1, .int p1), (2, .int p2)]) E.ex E.by dX12_findBest_65 rfl hl (by decide) rfl (fun ls hl => ?_)
    refine lpW_ind (fun t2 : Int32 × US => ∀ (H : Heap) (locs : List Loc) (ls : Array Slot), kG D (va_A (wM kc a σ) s.heap.size) s (wM kc a t2.2) H locs → lv_has ls 6 [(0, .ref (a 0)), (1, .int p1), (2, .int p2), (3, .int t2.1)] → W p l e _ s m args below meth c H locs _ _ _ (F0 m 66 ls [])) (fun P66 IH66 t2 h H locs ls G hl => ?_) _ h _ _ _ G (lv_sub hl [1, 2, 3, 0] rfl)
    refine lv_iload_n E.ex E.by dX12_findBest_66 rfl (lv_at hl 3 rfl) ?_
    refine lv_if_eq (tgt := 238) E.ex E.by dX12_findBest_67 (by decide) (fun hc20 => ?_) (fun hc20 => ?_)
    · have h := h.1 hc20
      exact k_retv (wof := (fun u : US => (wM kc a u))) (u := t2.2) E G h (Nat.le_of_ble_eq_true rfl) (Nat.le_of_ble_eq_true rfl) dX12_findBest_238
    · have h := h.2 hc20
      refine lv_iconst (v := 0) E.ex E.by dX12_findBest_70 (by decide) ?_
      refine lv_istore_n (lv' := [(3, .int 0), (0, .ref (a 0)), (1, .int p1), (2, .int p2)]) E.ex E.by dX12_findBest_71 rfl hl (by decide) rfl (fun ls hl => ?_)
      refine lv_iconst (v := 0) E.ex E.by dX12_findBest_72 (by decide) ?_
      refine lv_istore (lv' := [(4, .int 0), (3, .int 0), (0, .ref (a 0)), (1, .int p1), (2, .int p2)]) E.ex E.by dX12_findBest_73 hl (by decide) rfl (fun ls hl => ?_)
      refine lpW_ind (fun t3 : Int32 × Int32 × US => ∀ (H : Heap) (locs : List Loc) (ls : Array Slot), kG D (va_A (wM kc a σ) s.heap.size) s (wM kc a t3.2.2) H locs → lv_has ls 6 [(0, .ref (a 0)), (1, .int p1), (2, .int p2), (3, .int t3.1), (4, .int t3.2.1)] → W p l e _ s m args below meth c H locs _ _ _ (F0 m 75 ls [])) (fun P75 IH75 t3 h H locs ls G hl => ?_) _ h _ _ _ G (lv_sub hl [2, 3, 4, 1, 0] rfl)
      refine lv_iload E.ex E.by dX12_findBest_75 (lv_at hl 4 rfl) ?_
      refine lv_aload_n E.ex E.by dX12_findBest_77 rfl (lv_at hl 0 rfl) ?_
      refine k_get E G wi_X12_findBest_X12 0 (gM_0 _ _ _) rfl 0 rfl fl_X12_findBest_X12_0 (v := .ref (a 1)) rfl dX12_findBest_78 ?_
      refine lv_iconst (v := 0) E.ex E.by dX12_findBest_81 (by decide) ?_
      refine k_iald E G 1 (gM_1 _ _ _) 0 rfl h.1 dX12_findBest_82 ?_
      have h := h.2
      refine lv_icmp_ge (tgt := 235) E.ex E.by dX12_findBest_83 (by decide) (fun hc19 => ?_) (fun hc19 => ?_)
      · have h := h.1 hc19
        refine lv_goto (tgt := 66) E.ex E.by dX12_findBest_235 (by decide) ?_
        exact IH66 _ h _ _ _ G (lv_sub hl [0, 1, 2, 3] rfl)
      · have h := h.2 hc19
        refine lv_iconst (v := 0) E.ex E.by dX12_findBest_86 (by decide) ?_
        refine lv_istore (lv' := [(5, .int 0), (0, .ref (a 0)), (1, .int p1), (2, .int p2), (3, .int t3.1), (4, .int t3.2.1)]) E.ex E.by dX12_findBest_87 hl (by decide) rfl (fun ls hl => ?_)
        refine lpW_ind (fun t4 : Int32 × Int32 × US => ∀ (H : Heap) (locs : List Loc) (ls : Array Slot), kG D (va_A (wM kc a σ) s.heap.size) s (wM kc a t4.2.2) H locs → lv_has ls 6 [(0, .ref (a 0)), (1, .int p1), (2, .int p2), (3, .int t4.1), (4, .int t3.2.1), (5, .int t4.2.1)] → W p l e _ s m args below meth c H locs _ _ _ (F0 m 89 ls [])) (fun P89 IH89 t4 h H locs ls G hl => ?_) _ h _ _ _ G (lv_sub hl [1, 2, 3, 4, 5, 0] rfl)
        refine lv_iload E.ex E.by dX12_findBest_89 (lv_at hl 5 rfl) ?_
        refine lv_aload_n E.ex E.by dX12_findBest_91 rfl (lv_at hl 0 rfl) ?_
        refine k_get E G wi_X12_findBest_X12 0 (gM_0 _ _ _) rfl 0 rfl fl_X12_findBest_X12_0 (v := .ref (a 1)) rfl dX12_findBest_92 ?_
        refine lv_iconst (v := 0) E.ex E.by dX12_findBest_95 (by decide) ?_
        refine k_iald E G 1 (gM_1 _ _ _) 0 rfl h.1 dX12_findBest_96 ?_
        have h := h.2
        refine lv_icmp_ge (tgt := 229) E.ex E.by dX12_findBest_97 (by decide) (fun hc18 => ?_) (fun hc18 => ?_)
        · have h := h.1 hc18
          refine lv_iinc (k := 4) (v := t3.2.1 + 1) (lv' := [(4, .int (t3.2.1 + 1)), (0, .ref (a 0)), (1, .int p1), (2, .int p2), (3, .int t4.1), (5, .int t4.2.1)]) E.ex E.by dX12_findBest_229 hl rfl (k_inc1 _) (by decide) rfl (fun ls hl => ?_)
          refine lv_goto (tgt := 75) E.ex E.by dX12_findBest_232 (by decide) ?_
          exact IH75 _ h _ _ _ G (lv_sub hl [1, 2, 3, 4, 0] rfl)
        · have h := h.2 hc18
          refine lv_iload_n E.ex E.by dX12_findBest_100 rfl (lv_at hl 1 rfl) ?_
          refine lv_iload_n E.ex E.by dX12_findBest_101 rfl (lv_at hl 2 rfl) ?_
          refine lv_iconst (v := (-1)) E.ex E.by dX12_findBest_102 (by decide) ?_
          refine lv_ixor E.ex E.by dX12_findBest_103 ?_
          refine lv_iand E.ex E.by dX12_findBest_104 ?_
          refine lv_iload E.ex E.by dX12_findBest_105 (lv_at hl 4 rfl) ?_
          refine k_cSi (X := (wM kc a t4.2.2)) (w := []) (Z := []) (wnew := (fun _ : Unit => (wM kc a t4.2.2))) (As := [.int (p1 &&& (p2 ^^^ (-1))), .int t3.2.1]) (rest := []) E (List.append_nil _).symm G (c_X12_has l D kc _ _ _ h) gX12_findBest_X12_has rfl ⟨rfl, rfl⟩ hd_X12_has_v ⟨rfl, rfl⟩ rfl hl rfl rfl dX12_findBest_107 ⟨rfl, rfl⟩ (fun _ => (List.append_nil _).symm) (fun r5 _u107 hq H locs G => ?_)
          have h := hq
          refine lv_if_eq (tgt := 229) E.ex E.by dX12_findBest_110 (by decide) (fun hc17 => ?_) (fun hc17 => ?_)
          · have h := h.1 hc17
            refine lv_iinc (k := 4) (v := t3.2.1 + 1) (lv' := [(4, .int (t3.2.1 + 1)), (0, .ref (a 0)), (1, .int p1), (2, .int p2), (3, .int t4.1), (5, .int t4.2.1)]) E.ex E.by dX12_findBest_229 hl rfl (k_inc1 _) (by decide) rfl (fun ls hl => ?_)
            refine lv_goto (tgt := 75) E.ex E.by dX12_findBest_232 (by decide) ?_
            exact IH75 _ h _ _ _ G (lv_sub hl [1, 2, 3, 4, 0] rfl)
          · have h := h.2 hc17
            refine lv_aload_n E.ex E.by dX12_findBest_113 rfl (lv_at hl 0 rfl) ?_
            refine lv_iload E.ex E.by dX12_findBest_114 (lv_at hl 4 rfl) ?_
            refine lv_iload E.ex E.by dX12_findBest_116 (lv_at hl 5 rfl) ?_
            refine k_cVi (X := []) (w := (wM kc a t4.2.2)) (Z := []) (wnew := (fun _ : Unit => (wM kc a t4.2.2))) (As := [.int t3.2.1, .int t4.2.1]) (rest := []) E (List.append_nil _).symm G (c_X12_weightOf l D kc _ _ _ _ _ h) gX12_findBest_X12_weightOf rfl ⟨rfl, rfl⟩ hd_X12_weightOf_v ⟨rfl, rfl⟩ 0 (gM_0 _ _ _) rfl rfl hl rfl rfl dX12_findBest_118 ⟨rfl, rfl⟩ (fun _ => (List.append_nil _).symm) (fun r6 _u118 hq H locs G => ?_)
            have h := hq
            refine lv_if_le (tgt := 223) E.ex E.by dX12_findBest_121 (by decide) (fun hc16 => ?_) (fun hc16 => ?_)
            · have h := h.1 hc16
              refine lv_iinc (k := 5) (v := t4.2.1 + 1) (lv' := [(5, .int (t4.2.1 + 1)), (0, .ref (a 0)), (1, .int p1), (2, .int p2), (3, .int t4.1), (4, .int t3.2.1)]) E.ex E.by dX12_findBest_223 hl rfl (k_inc1 _) (by decide) rfl (fun ls hl => ?_)
              refine lv_goto (tgt := 89) E.ex E.by dX12_findBest_226 (by decide) ?_
              exact IH89 _ h _ _ _ G (lv_sub hl [1, 2, 3, 4, 5, 0] rfl)
            · have h := h.2 hc16
              refine lv_aload_n E.ex E.by dX12_findBest_124 rfl (lv_at hl 0 rfl) ?_
              refine k_get E G wi_X12_findBest_X12 0 (gM_0 _ _ _) rfl 37 rfl fl_X12_findBest_X12_37 (v := .ref (a 23)) rfl dX12_findBest_125 ?_
              refine lv_iload E.ex E.by dX12_findBest_128 (lv_at hl 5 rfl) ?_
              refine k_lald E G 23 (gM_23 _ _ _) 1 rfl h.1 dX12_findBest_130 ?_
              have h := h.2
              refine lv_lconst (v := 0) E.ex E.by dX12_findBest_131 (by decide) ?_
              refine W.lcmp E.ex E.by dX12_findBest_132 ?_
              refine lv_if_le (tgt := 223) E.ex E.by dX12_findBest_133 (by decide) (fun hc15 => ?_) (fun hc15 => ?_)
              · have h := h.1 hc15
                refine lv_iinc (k := 5) (v := t4.2.1 + 1) (lv' := [(5, .int (t4.2.1 + 1)), (0, .ref (a 0)), (1, .int p1), (2, .int p2), (3, .int t4.1), (4, .int t3.2.1)]) E.ex E.by dX12_findBest_223 hl rfl (k_inc1 _) (by decide) rfl (fun ls hl => ?_)
                refine lv_goto (tgt := 89) E.ex E.by dX12_findBest_226 (by decide) ?_
                exact IH89 _ h _ _ _ G (lv_sub hl [1, 2, 3, 4, 5, 0] rfl)
              · have h := h.2 hc15
                refine lv_aload_n E.ex E.by dX12_findBest_136 rfl (lv_at hl 0 rfl) ?_
                refine lv_iload E.ex E.by dX12_findBest_137 (lv_at hl 4 rfl) ?_
                refine lv_iload E.ex E.by dX12_findBest_139 (lv_at hl 5 rfl) ?_
                refine k_cVi (X := []) (w := (wM kc a t4.2.2)) (Z := []) (wnew := (fun _ : Unit => (wM kc a t4.2.2))) (As := [.int t3.2.1, .int t4.2.1]) (rest := []) E (List.append_nil _).symm G (c_X12_compared l D kc _ _ _ _ _ h) gX12_findBest_X12_compared rfl ⟨rfl, rfl⟩ hd_X12_compared_v ⟨rfl, rfl⟩ 0 (gM_0 _ _ _) rfl rfl hl rfl rfl dX12_findBest_141 ⟨rfl, rfl⟩ (fun _ => (List.append_nil _).symm) (fun r7 _u141 hq H locs G => ?_)
                have h := hq
                refine lv_if_le (tgt := 223) E.ex E.by dX12_findBest_144 (by decide) (fun hc14 => ?_) (fun hc14 => ?_)
                · have h := h.1 hc14
                  refine lv_iinc (k := 5) (v := t4.2.1 + 1) (lv' := [(5, .int (t4.2.1 + 1)), (0, .ref (a 0)), (1, .int p1), (2, .int p2), (3, .int t4.1), (4, .int t3.2.1)]) E.ex E.by dX12_findBest_223 hl rfl (k_inc1 _) (by decide) rfl (fun ls hl => ?_)
                  refine lv_goto (tgt := 89) E.ex E.by dX12_findBest_226 (by decide) ?_
                  exact IH89 _ h _ _ _ G (lv_sub hl [1, 2, 3, 4, 5, 0] rfl)
                · have h := h.2 hc14
                  refine lv_aload_n E.ex E.by dX12_findBest_147 rfl (lv_at hl 0 rfl) ?_
                  refine lv_aload_n E.ex E.by dX12_findBest_148 rfl (lv_at hl 0 rfl) ?_
                  refine lv_iload E.ex E.by dX12_findBest_149 (lv_at hl 4 rfl) ?_
                  refine lv_iload E.ex E.by dX12_findBest_151 (lv_at hl 5 rfl) ?_
                  refine k_cVi (X := []) (w := (wM kc a t4.2.2)) (Z := []) (wnew := (fun _ : Unit => (wM kc a t4.2.2))) (As := [.int t3.2.1, .int t4.2.1]) (rest := [.ref (a 0)]) E (List.append_nil _).symm G (c_X12_weightOf l D kc _ _ _ _ _ h) gX12_findBest_X12_weightOf rfl ⟨rfl, rfl⟩ hd_X12_weightOf_v ⟨rfl, rfl⟩ 0 (gM_0 _ _ _) rfl rfl hl rfl rfl dX12_findBest_153 ⟨rfl, rfl⟩ (fun _ => (List.append_nil _).symm) (fun r8 _u153 hq H locs G => ?_)
                  have h := hq
                  refine lv_i2l E.ex E.by dX12_findBest_156 rfl ?_
                  refine lv_aload_n E.ex E.by dX12_findBest_157 rfl (lv_at hl 0 rfl) ?_
                  refine k_get E G wi_X12_findBest_X12 0 (gM_0 _ _ _) rfl 37 rfl fl_X12_findBest_X12_37 (v := .ref (a 23)) rfl dX12_findBest_158 ?_
                  refine lv_iload E.ex E.by dX12_findBest_161 (lv_at hl 5 rfl) ?_
                  refine k_lald E G 23 (gM_23 _ _ _) 1 rfl h.1 dX12_findBest_163 ?_
                  have h := h.2
                  refine lv_lmul E.ex E.by dX12_findBest_164 ?_
                  refine lv_aload_n E.ex E.by dX12_findBest_165 rfl (lv_at hl 0 rfl) ?_
                  refine lv_iload E.ex E.by dX12_findBest_166 (lv_at hl 4 rfl) ?_
                  refine k_cVi (X := []) (w := (wM kc a t4.2.2)) (Z := []) (wnew := (fun _ : Unit => (wM kc a t4.2.2))) (As := [.int t3.2.1]) (rest := [.long ((r8.toInt64) * (aB t4.2.2 4 (t4.2.1).toNatClampNeg)), .ref (a 0)]) E (List.append_nil _).symm G (c_X12_sumOf l D kc _ _ _ _ h) gX12_findBest_X12_sumOf rfl ⟨rfl, rfl⟩ hd_X12_sumOf_v ⟨rfl, rfl⟩ 0 (gM_0 _ _ _) rfl rfl hl rfl rfl dX12_findBest_168 ⟨rfl, rfl⟩ (fun _ => (List.append_nil _).symm) (fun r9 _u168 hq H locs G => ?_)
                  have h := hq
                  refine lv_i2l E.ex E.by dX12_findBest_171 rfl ?_
                  refine lv_aload_n E.ex E.by dX12_findBest_172 rfl (lv_at hl 0 rfl) ?_
                  refine k_get E G wi_X12_findBest_X12 0 (gM_0 _ _ _) rfl 38 rfl fl_X12_findBest_X12_38 (v := .ref (a 24)) rfl dX12_findBest_173 ?_
                  refine lv_iload E.ex E.by dX12_findBest_176 (lv_at hl 5 rfl) ?_
                  refine k_lald E G 24 (gM_24 _ _ _) 1 rfl h.1 dX12_findBest_178 ?_
                  have h := h.2
                  refine lv_lmul E.ex E.by dX12_findBest_179 ?_
                  refine k_cVv (X := []) (w := (wM kc a t4.2.2)) (Z := []) (wnew := (fun u : US => (wM kc a u))) (As := [.long ((r8.toInt64) * (aB t4.2.2 4 (t4.2.1).toNatClampNeg)), .long ((r9.toInt64) * (aB t4.2.2 5 (t4.2.1).toNatClampNeg))]) (rest := []) E (List.append_nil _).symm G (c_X12_give l D kc _ _ _ _ _ h) gX12_findBest_X12_give rfl ⟨rfl, rfl⟩ hd_X12_give_v ⟨rfl, rfl⟩ 0 (gM_0 _ _ _) rfl rfl hl rfl rfl dX12_findBest_180 ⟨rfl, rfl⟩ (fun _ => (List.append_nil _).symm) (fun u10 hq H locs G => ?_)
                  have h := hq
                  refine lv_aload_n E.ex E.by dX12_findBest_183 rfl (lv_at hl 0 rfl) ?_
                  refine k_get E G wi_X12_findBest_X12 0 (gM_0 _ _ _) rfl 37 rfl fl_X12_findBest_X12_37 (v := .ref (a 23)) rfl dX12_findBest_184 ?_
                  refine lv_iload E.ex E.by dX12_findBest_187 (lv_at hl 4 rfl) ?_
                  refine lv_aload_n E.ex E.by dX12_findBest_189 rfl (lv_at hl 0 rfl) ?_
                  refine k_get E G wi_X12_findBest_X12 0 (gM_0 _ _ _) rfl 7 rfl fl_X12_findBest_X12_7 (v := .long (lJ u10 0)) rfl dX12_findBest_190 ?_
                  refine k_last (fun z => (wM kc a z)) E G 23 (gM_23 _ _ _) 1 rfl h.1 (uB u10 4 (t3.2.1).toNatClampNeg (lJ u10 0)) (sM_23 _ _ _ _) dX12_findBest_193 (fun z11 ez11 H locs G => ?_)
                  have h := h.2 z11 ez11
                  refine lv_aload_n E.ex E.by dX12_findBest_194 rfl (lv_at hl 0 rfl) ?_
                  refine k_get E G wi_X12_findBest_X12 0 (gM_0 _ _ _) rfl 38 rfl fl_X12_findBest_X12_38 (v := .ref (a 24)) rfl dX12_findBest_195 ?_
                  refine lv_iload E.ex E.by dX12_findBest_198 (lv_at hl 4 rfl) ?_
                  refine lv_aload_n E.ex E.by dX12_findBest_200 rfl (lv_at hl 0 rfl) ?_
                  refine k_get E G wi_X12_findBest_X12 0 (gM_0 _ _ _) rfl 8 rfl fl_X12_findBest_X12_8 (v := .long (lJ z11 1)) rfl dX12_findBest_201 ?_
                  refine k_last (fun z => (wM kc a z)) E G 24 (gM_24 _ _ _) 1 rfl h.1 (uB z11 5 (t3.2.1).toNatClampNeg (lJ z11 1)) (sM_24 _ _ _ _) dX12_findBest_204 (fun z12 ez12 H locs G => ?_)
                  have h := h.2 z12 ez12
                  refine lv_aload_n E.ex E.by dX12_findBest_205 rfl (lv_at hl 0 rfl) ?_
                  refine k_get E G wi_X12_findBest_X12 0 (gM_0 _ _ _) rfl 39 rfl fl_X12_findBest_X12_39 (v := .ref (a 25)) rfl dX12_findBest_206 ?_
                  refine lv_iload E.ex E.by dX12_findBest_209 (lv_at hl 4 rfl) ?_
                  refine lv_aload_n E.ex E.by dX12_findBest_211 rfl (lv_at hl 0 rfl) ?_
                  refine k_get E G wi_X12_findBest_X12 0 (gM_0 _ _ _) rfl 39 rfl fl_X12_findBest_X12_39 (v := .ref (a 25)) rfl dX12_findBest_212 ?_
                  refine lv_iload E.ex E.by dX12_findBest_215 (lv_at hl 5 rfl) ?_
                  refine k_iald E G 25 (gM_25 _ _ _) 0 rfl h.1 dX12_findBest_217 ?_
                  have h := h.2
                  refine lv_iconst (v := 1) E.ex E.by dX12_findBest_218 (by decide) ?_
                  refine lv_iadd E.ex E.by dX12_findBest_219 ?_
                  refine k_iast (fun z => (wM kc a z)) E G 25 (gM_25 _ _ _) 0 rfl h.1 (uA z12 18 (t3.2.1).toNatClampNeg ((aA z12 18 (t4.2.1).toNatClampNeg) + 1)) (sM_25 _ _ _ _) dX12_findBest_220 (fun z13 ez13 H locs G => ?_)
                  have h := h.2 z13 ez13
                  refine lv_iconst (v := 1) E.ex E.by dX12_findBest_221 (by decide) ?_
                  refine lv_istore_n (lv' := [(3, .int 1), (0, .ref (a 0)), (1, .int p1), (2, .int p2), (4, .int t3.2.1), (5, .int t4.2.1)]) E.ex E.by dX12_findBest_222 rfl hl (by decide) rfl (fun ls hl => ?_)
                  refine lv_iinc (k := 5) (v := t4.2.1 + 1) (lv' := [(5, .int (t4.2.1 + 1)), (3, .int 1), (0, .ref (a 0)), (1, .int p1), (2, .int p2), (4, .int t3.2.1)]) E.ex E.by dX12_findBest_223 hl rfl (k_inc1 _) (by decide) rfl (fun ls hl => ?_)
                  refine lv_goto (tgt := 89) E.ex E.by dX12_findBest_226 (by decide) ?_
                  exact IH89 _ h _ _ _ G (lv_sub hl [2, 3, 4, 1, 5, 0] rfl)
  · have h := h.2 hc23
    refine lv_aload_n E.ex E.by dX12_findBest_12 rfl (lv_at hl 0 rfl) ?_
    refine k_get E G wi_X12_findBest_X12 0 (gM_0 _ _ _) rfl 37 rfl fl_X12_findBest_X12_37 (v := .ref (a 23)) rfl dX12_findBest_13 ?_
    refine lv_iload_n E.ex E.by dX12_findBest_16 rfl (lv_at hl 3 rfl) ?_
    refine lv_iload_n E.ex E.by dX12_findBest_17 rfl (lv_at hl 2 rfl) ?_
    refine lv_iload_n E.ex E.by dX12_findBest_18 rfl (lv_at hl 3 rfl) ?_
    refine k_cSi (X := (wM kc a t1.2)) (w := []) (Z := []) (wnew := (fun _ : Unit => (wM kc a t1.2))) (As := [.int p2, .int t1.1]) (rest := [.int t1.1, .ref (a 23)]) E (List.append_nil _).symm G (c_X12_has l D kc _ _ _ h) gX12_findBest_X12_has rfl ⟨rfl, rfl⟩ hd_X12_has_v ⟨rfl, rfl⟩ rfl hl rfl rfl dX12_findBest_19 ⟨rfl, rfl⟩ (fun _ => (List.append_nil _).symm) (fun r21 _u19 hq H locs G => ?_)
    have h := hq
    refine lv_if_eq (tgt := 29) E.ex E.by dX12_findBest_22 (by decide) (fun hc22 => ?_) (fun hc22 => ?_)
    · have h := h.1 hc22
      refine lv_lconst (v := 0) E.ex E.by dX12_findBest_29 (by decide) ?_
      exact K30 _ _ _ _ _ _ _ G (lv_sub hl [0, 1, 2, 3] rfl) h
    · have h := h.2 hc22
      refine lv_lconst (v := 1) E.ex E.by dX12_findBest_25 (by decide) ?_
      refine lv_goto (tgt := 30) E.ex E.by dX12_findBest_26 (by decide) ?_
      exact K30 _ _ _ _ _ _ _ G (lv_sub hl [0, 1, 2, 3] rfl) h
theorem wi_X12_nextOnBest_X12 : ∀ w ∈ wsX120, w ∈ wsX12_nextOnBest := fun w h => List.mem_cons_of_mem _ (List.mem_append_right _ (h))
theorem fl_X12_nextOnBest_X12_37 : Cond.fieldLink RX12 77 (TX12 37).1 (TX12 37).2.1 (TX12 37).2.2.1 ∈ wsX12_nextOnBest := List.mem_of_getElem? (i := 1) (by decide +kernel)
def wp_X12_nextOnBest_L2 (v1 : Int32) (σ : US) (Q : Int32 → Prop) (P2 : Int32 → Prop) (t2 : Int32) : Prop := wp_X12_weightOf v1 t2 σ (fun (r1 : Int32) => (r1 = 0 → P2 (t2 + 1)) ∧ (¬ r1 = 0 → vp_in t2 8 ∧ (((lg_cmp (aB σ 4 (t2).toNatClampNeg) 0) = 0 → P2 (t2 + 1)) ∧ (¬ (lg_cmp (aB σ 4 (t2).toNatClampNeg) 0) = 0 → wp_X12_compared v1 t2 σ (fun (r2 : Int32) => (r2 = 0 → Q t2) ∧ (¬ r2 = 0 → P2 (t2 + 1)))))))
def wp_X12_nextOnBest (p1 : Int32) (σ : US) (Q : Int32 → Prop) : Prop := lpW (wp_X12_nextOnBest_L2 p1 σ Q) 0
set_option maxRecDepth 100000 in
set_option maxHeartbeats 4000000 in
theorem c_X12_nextOnBest (l : Launch) (D : va_G) (kc : Nat → ClassId) (a : Nat → Nat)  (p1 : Int32) (σ : US) (Q : Int32 → Prop) (h : wp_X12_nextOnBest p1 σ Q) : kCi l D (tyL kc) yX12_nextOnBest wsX12_nextOnBest ({ frames := 3, cells := 0, slots := 0, locals := 77 } : Room) [.ref (a 0), .int p1] (wM kc a σ) (fun _ : Unit => (wM kc a σ)) 0 0 (fun r _ => Q r) := by
  intro sz
  refine k_begin (cc := cX12_nextOnBest) (maxL := 3) (ret := (some .int)) (by decide +kernel) rfl rfl (fun p e s m args below meth c hsz E G ls hl => ?_)
  subst hsz
  have hl : lv_has ls 3 [(0, .ref (a 0)), (1, .int p1)] := hl
  refine lv_iconst (v := 0) E.ex E.by dX12_nextOnBest_0 (by decide) ?_
  refine lv_istore_n (lv' := [(2, .int 0), (0, .ref (a 0)), (1, .int p1)]) E.ex E.by dX12_nextOnBest_1 rfl hl (by decide) rfl (fun ls hl => ?_)
  refine lpW_ind (fun t1 : Int32 => ∀ (H : Heap) (locs : List Loc) (ls : Array Slot), kG D (va_A (wM kc a σ) s.heap.size) s (wM kc a σ) H locs → lv_has ls 3 [(0, .ref (a 0)), (1, .int p1), (2, .int t1)] → W p l e _ s m args below meth c H locs _ _ _ (F0 m 2 ls [])) (fun P2 IH2 t1 h H locs ls G hl => ?_) _ h _ _ _ G (lv_sub hl [1, 2, 0] rfl)
  refine lv_aload_n E.ex E.by dX12_nextOnBest_2 rfl (lv_at hl 0 rfl) ?_
  refine lv_iload_n E.ex E.by dX12_nextOnBest_3 rfl (lv_at hl 1 rfl) ?_
  refine lv_iload_n E.ex E.by dX12_nextOnBest_4 rfl (lv_at hl 2 rfl) ?_
  refine k_cVi (X := []) (w := (wM kc a σ)) (Z := []) (wnew := (fun _ : Unit => (wM kc a σ))) (As := [.int p1, .int t1]) (rest := []) E (List.append_nil _).symm G (c_X12_weightOf l D kc _ _ _ _ _ h) gX12_nextOnBest_X12_weightOf rfl ⟨rfl, rfl⟩ hd_X12_weightOf_v ⟨rfl, rfl⟩ 0 (gM_0 _ _ _) rfl rfl hl rfl rfl dX12_nextOnBest_5 ⟨rfl, rfl⟩ (fun _ => (List.append_nil _).symm) (fun r2 _u5 hq H locs G => ?_)
  have h := hq
  refine lv_if_eq (tgt := 31) E.ex E.by dX12_nextOnBest_8 (by decide) (fun hc6 => ?_) (fun hc6 => ?_)
  · have h := h.1 hc6
    refine lv_iinc (k := 2) (v := t1 + 1) (lv' := [(2, .int (t1 + 1)), (0, .ref (a 0)), (1, .int p1)]) E.ex E.by dX12_nextOnBest_31 hl rfl (k_inc1 _) (by decide) rfl (fun ls hl => ?_)
    refine lv_goto (tgt := 2) E.ex E.by dX12_nextOnBest_34 (by decide) ?_
    exact IH2 _ h _ _ _ G (lv_sub hl [1, 2, 0] rfl)
  · have h := h.2 hc6
    refine lv_aload_n E.ex E.by dX12_nextOnBest_11 rfl (lv_at hl 0 rfl) ?_
    refine k_get E G wi_X12_nextOnBest_X12 0 (gM_0 _ _ _) rfl 37 rfl fl_X12_nextOnBest_X12_37 (v := .ref (a 23)) rfl dX12_nextOnBest_12 ?_
    refine lv_iload_n E.ex E.by dX12_nextOnBest_15 rfl (lv_at hl 2 rfl) ?_
    refine k_lald E G 23 (gM_23 _ _ _) 1 rfl h.1 dX12_nextOnBest_16 ?_
    have h := h.2
    refine lv_lconst (v := 0) E.ex E.by dX12_nextOnBest_17 (by decide) ?_
    refine W.lcmp E.ex E.by dX12_nextOnBest_18 ?_
    refine lv_if_eq (tgt := 31) E.ex E.by dX12_nextOnBest_19 (by decide) (fun hc5 => ?_) (fun hc5 => ?_)
    · have h := h.1 hc5
      refine lv_iinc (k := 2) (v := t1 + 1) (lv' := [(2, .int (t1 + 1)), (0, .ref (a 0)), (1, .int p1)]) E.ex E.by dX12_nextOnBest_31 hl rfl (k_inc1 _) (by decide) rfl (fun ls hl => ?_)
      refine lv_goto (tgt := 2) E.ex E.by dX12_nextOnBest_34 (by decide) ?_
      exact IH2 _ h _ _ _ G (lv_sub hl [1, 2, 0] rfl)
    · have h := h.2 hc5
      refine lv_aload_n E.ex E.by dX12_nextOnBest_22 rfl (lv_at hl 0 rfl) ?_
      refine lv_iload_n E.ex E.by dX12_nextOnBest_23 rfl (lv_at hl 1 rfl) ?_
      refine lv_iload_n E.ex E.by dX12_nextOnBest_24 rfl (lv_at hl 2 rfl) ?_
      refine k_cVi (X := []) (w := (wM kc a σ)) (Z := []) (wnew := (fun _ : Unit => (wM kc a σ))) (As := [.int p1, .int t1]) (rest := []) E (List.append_nil _).symm G (c_X12_compared l D kc _ _ _ _ _ h) gX12_nextOnBest_X12_compared rfl ⟨rfl, rfl⟩ hd_X12_compared_v ⟨rfl, rfl⟩ 0 (gM_0 _ _ _) rfl rfl hl rfl rfl dX12_nextOnBest_25 ⟨rfl, rfl⟩ (fun _ => (List.append_nil _).symm) (fun r3 _u25 hq H locs G => ?_)
      have h := hq
      refine lv_if_eq (tgt := 37) E.ex E.by dX12_nextOnBest_28 (by decide) (fun hc4 => ?_) (fun hc4 => ?_)
      · have h := h.1 hc4
        refine lv_iload_n E.ex E.by dX12_nextOnBest_37 rfl (lv_at hl 2 rfl) ?_
        exact k_ret (wof := (fun _ : Unit => (wM kc a σ))) (u := ()) E G rfl h (Nat.le_of_ble_eq_true rfl) (Nat.le_of_ble_eq_true rfl) dX12_nextOnBest_38
      · have h := h.2 hc4
        refine lv_iinc (k := 2) (v := t1 + 1) (lv' := [(2, .int (t1 + 1)), (0, .ref (a 0)), (1, .int p1)]) E.ex E.by dX12_nextOnBest_31 hl rfl (k_inc1 _) (by decide) rfl (fun ls hl => ?_)
        refine lv_goto (tgt := 2) E.ex E.by dX12_nextOnBest_34 (by decide) ?_
        exact IH2 _ h _ _ _ G (lv_sub hl [1, 2, 0] rfl)
theorem wi_X12_bestPath_X12 : ∀ w ∈ wsX120, w ∈ wsX12_bestPath := fun w h => List.mem_cons_of_mem _ (List.mem_append_right _ (h))
theorem fl_X12_bestPath_X12_25 : Cond.fieldLink RX12 62 (TX12 25).1 (TX12 25).2.1 (TX12 25).2.2.1 ∈ wsX12_bestPath := List.mem_of_getElem? (i := 1) (by decide +kernel)
theorem fl_X12_bestPath_X12_37 : Cond.fieldLink RX12 77 (TX12 37).1 (TX12 37).2.1 (TX12 37).2.2.1 ∈ wsX12_bestPath := List.mem_of_getElem? (i := 2) (by decide +kernel)
theorem fl_X12_bestPath_X12_39 : Cond.fieldLink RX12 83 (TX12 39).1 (TX12 39).2.1 (TX12 39).2.2.1 ∈ wsX12_bestPath := List.mem_of_getElem? (i := 3) (by decide +kernel)
theorem hd_X12_nextOnBest_v : yX12_nextOnBest.cls = RX12 ∧ yX12_nextOnBest.cls ≠ "java/lang/invoke/MethodHandle" ∧ yX12_nextOnBest.cls ≠ "java/lang/invoke/VarHandle" ∧ (parseMethodDescriptor yX12_nextOnBest.desc).map (fun d => d.parameters.length) = some 1 := by decide +kernel
theorem hd_X12_findBest_v : yX12_findBest.cls = RX12 ∧ yX12_findBest.cls ≠ "java/lang/invoke/MethodHandle" ∧ yX12_findBest.cls ≠ "java/lang/invoke/VarHandle" ∧ (parseMethodDescriptor yX12_findBest.desc).map (fun d => d.parameters.length) = some 2 := by decide +kernel
def wp_X12_bestPath_L101 (v4 : Int32) (σ' : US) (Q : Int32 → US → Prop) (P101 : (Int32 × Int32) → Prop) (t101 : Int32 × Int32) : Prop := (v4 ≤ t101.2 → Q t101.1 σ') ∧ (¬ v4 ≤ t101.2 → wp_X12_nextOnBest t101.1 σ' (fun (r8 : Int32) => P101 (r8, t101.2 + 1)))
def wp_X12_bestPath (p1 : Int32) (p2 : Int32) (p3 : Int32) (p4 : Int32) (σ : US) (Q : Int32 → US → Prop) : Prop := (p4 < (-1) → Q (-1) σ) ∧ (¬ p4 < (-1) → wp_X12_isState p3 σ (fun (r1 : Int32) => (¬ r1 = 0 → wp_X12_hindersSets p1 p2 σ (fun (r2 : Int32) => (0 ≤ r2 → vp_in p1 6 ∧ (wp_X12_setOf 8 (aA σ 13 (p1).toNatClampNeg) σ (fun (r3 : Int32) (u4 : US) => vp_in p2 6 ∧ (wp_X12_setOf 8 (aA u4 13 (p2).toNatClampNeg) u4 (fun (r5 : Int32) (u6 : US) => wp_X12_findBest r3 r5 u6 (fun (u7 : US) => vp_in p3 8 ∧ (((lg_cmp (aB u7 4 (p3).toNatClampNeg) 0) = 0 → Q (-2) u7) ∧ (¬ (lg_cmp (aB u7 4 (p3).toNatClampNeg) 0) = 0 → vp_in p3 8 ∧ ((p4 ≤ (aA u7 18 (p3).toNatClampNeg) → (0 ≤ p4 → lpW (wp_X12_bestPath_L101 p4 u7 Q) (p3, 0)) ∧ (¬ 0 ≤ p4 → vp_in p3 8 ∧ (Q ((aA u7 18 (p3).toNatClampNeg) + 1) u7))) ∧ (¬ p4 ≤ (aA u7 18 (p3).toNatClampNeg) → Q (-2) u7)))))))))) ∧ (¬ 0 ≤ r2 → Q r2 σ))) ∧ (r1 = 0 → Q (-1) σ)))
set_option maxRecDepth 100000 in
set_option maxHeartbeats 4000000 in
theorem c_X12_bestPath (l : Launch) (D : va_G) (kc : Nat → ClassId) (a : Nat → Nat)  (p1 : Int32) (p2 : Int32) (p3 : Int32) (p4 : Int32) (σ : US) (Q : Int32 → US → Prop) (h : wp_X12_bestPath p1 p2 p3 p4 σ Q) : kCi l D (tyL kc) yX12_bestPath wsX12_bestPath ({ frames := 57, cells := 0, slots := 0, locals := 1492 } : Room) [.ref (a 0), .int p1, .int p2, .int p3, .int p4] (wM kc a σ) (fun u : US => (wM kc a u)) 0 0 (fun r u => Q r u) := by
  intro sz
  refine k_begin (cc := cX12_bestPath) (maxL := 8) (ret := (some .int)) (by decide +kernel) rfl rfl (fun p e s m args below meth c hsz E G ls hl => ?_)
  subst hsz
  have hl : lv_has ls 8 [(0, .ref (a 0)), (1, .int p1), (2, .int p2), (3, .int p3), (4, .int p4)] := hl
  refine lv_iload E.ex E.by dX12_bestPath_0 (lv_at hl 4 rfl) ?_
  refine lv_iconst (v := (-1)) E.ex E.by dX12_bestPath_2 (by decide) ?_
  refine lv_icmp_lt (tgt := 14) E.ex E.by dX12_bestPath_3 (by decide) (fun hc16 => ?_) (fun hc16 => ?_)
  · have h := h.1 hc16
    refine lv_iconst (v := (-1)) E.ex E.by dX12_bestPath_14 (by decide) ?_
    exact k_ret (wof := (fun u : US => (wM kc a u))) (u := σ) E G rfl h (Nat.le_of_ble_eq_true rfl) (Nat.le_of_ble_eq_true rfl) dX12_bestPath_15
  · have h := h.2 hc16
    refine lv_aload_n E.ex E.by dX12_bestPath_6 rfl (lv_at hl 0 rfl) ?_
    refine lv_iload_n E.ex E.by dX12_bestPath_7 rfl (lv_at hl 3 rfl) ?_
    refine k_cVi (X := []) (w := (wM kc a σ)) (Z := []) (wnew := (fun _ : Unit => (wM kc a σ))) (As := [.int p3]) (rest := []) E (List.append_nil _).symm G (c_X12_isState l D kc _ _ _ _ h) gX12_bestPath_X12_isState rfl ⟨rfl, rfl⟩ hd_X12_isState_v ⟨rfl, rfl⟩ 0 (gM_0 _ _ _) rfl rfl hl rfl rfl dX12_bestPath_8 ⟨rfl, rfl⟩ (fun _ => (List.append_nil _).symm) (fun r1 _u8 hq H locs G => ?_)
    have h := hq
    refine lv_if_ne (tgt := 16) E.ex E.by dX12_bestPath_11 (by decide) (fun hc15 => ?_) (fun hc15 => ?_)
    · have h := h.1 hc15
      refine lv_aload_n E.ex E.by dX12_bestPath_16 rfl (lv_at hl 0 rfl) ?_
      refine lv_iload_n E.ex E.by dX12_bestPath_17 rfl (lv_at hl 1 rfl) ?_
      refine lv_iload_n E.ex E.by dX12_bestPath_18 rfl (lv_at hl 2 rfl) ?_
      refine k_cVi (X := []) (w := (wM kc a σ)) (Z := []) (wnew := (fun _ : Unit => (wM kc a σ))) (As := [.int p1, .int p2]) (rest := []) E (List.append_nil _).symm G (c_X12_hindersSets l D kc _ _ _ _ _ h) gX12_bestPath_X12_hindersSets rfl ⟨rfl, rfl⟩ hd_X12_hindersSets_v ⟨rfl, rfl⟩ 0 (gM_0 _ _ _) rfl rfl hl rfl rfl dX12_bestPath_19 ⟨rfl, rfl⟩ (fun _ => (List.append_nil _).symm) (fun r2 _u19 hq H locs G => ?_)
      have h := hq
      refine lv_istore (lv' := [(5, .int r2), (0, .ref (a 0)), (1, .int p1), (2, .int p2), (3, .int p3), (4, .int p4)]) E.ex E.by dX12_bestPath_22 hl (by decide) rfl (fun ls hl => ?_)
      refine lv_iload E.ex E.by dX12_bestPath_24 (lv_at hl 0 rfl) ?_
      refine lv_if_ge (tgt := 32) E.ex E.by dX12_bestPath_26 (by decide) (fun hc14 => ?_) (fun hc14 => ?_)
      · have h := h.1 hc14
        refine lv_aload_n E.ex E.by dX12_bestPath_32 rfl (lv_at hl 1 rfl) ?_
        refine lv_aload_n E.ex E.by dX12_bestPath_33 rfl (lv_at hl 1 rfl) ?_
        refine lv_aload_n E.ex E.by dX12_bestPath_34 rfl (lv_at hl 1 rfl) ?_
        refine k_get E G wi_X12_bestPath_X12 0 (gM_0 _ _ _) rfl 25 rfl fl_X12_bestPath_X12_25 (v := .ref (a 18)) rfl dX12_bestPath_35 ?_
        refine lv_iload_n E.ex E.by dX12_bestPath_38 rfl (lv_at hl 2 rfl) ?_
        refine k_iald E G 18 (gM_18 _ _ _) 0 rfl h.1 dX12_bestPath_39 ?_
        have h := h.2
        refine k_cVi (X := []) (w := (wM kc a σ)) (Z := []) (wnew := (fun u : US => (wM kc a u))) (As := [.int (aA σ 13 (p1).toNatClampNeg)]) (rest := [.ref (a 0)]) E (List.append_nil _).symm G (c_X12_setOf l D kc _ 8 _ _ _ h) gX12_bestPath_X12_setOf rfl ⟨rfl, rfl⟩ hd_X12_setOf_v ⟨rfl, rfl⟩ 0 (gM_0 _ _ _) rfl rfl hl rfl rfl dX12_bestPath_40 ⟨rfl, rfl⟩ (fun _ => (List.append_nil _).symm) (fun r3 u4 hq H locs G => ?_)
        have h := hq
        refine lv_aload_n E.ex E.by dX12_bestPath_43 rfl (lv_at hl 1 rfl) ?_
        refine lv_aload_n E.ex E.by dX12_bestPath_44 rfl (lv_at hl 1 rfl) ?_
        refine k_get E G wi_X12_bestPath_X12 0 (gM_0 _ _ _) rfl 25 rfl fl_X12_bestPath_X12_25 (v := .ref (a 18)) rfl dX12_bestPath_45 ?_
        refine lv_iload_n E.ex E.by dX12_bestPath_48 rfl (lv_at hl 3 rfl) ?_
        refine k_iald E G 18 (gM_18 _ _ _) 0 rfl h.1 dX12_bestPath_49 ?_
        have h := h.2
        refine k_cVi (X := []) (w := (wM kc a u4)) (Z := []) (wnew := (fun u : US => (wM kc a u))) (As := [.int (aA u4 13 (p2).toNatClampNeg)]) (rest := [.int r3, .ref (a 0)]) E (List.append_nil _).symm G (c_X12_setOf l D kc _ 8 _ _ _ h) gX12_bestPath_X12_setOf rfl ⟨rfl, rfl⟩ hd_X12_setOf_v ⟨rfl, rfl⟩ 0 (gM_0 _ _ _) rfl rfl hl rfl rfl dX12_bestPath_50 ⟨rfl, rfl⟩ (fun _ => (List.append_nil _).symm) (fun r5 u6 hq H locs G => ?_)
        have h := hq
        refine k_cVv (X := []) (w := (wM kc a u6)) (Z := []) (wnew := (fun u : US => (wM kc a u))) (As := [.int r3, .int r5]) (rest := []) E (List.append_nil _).symm G (c_X12_findBest l D kc _ _ _ _ _ h) gX12_bestPath_X12_findBest rfl ⟨rfl, rfl⟩ hd_X12_findBest_v ⟨rfl, rfl⟩ 0 (gM_0 _ _ _) rfl rfl hl rfl rfl dX12_bestPath_53 ⟨rfl, rfl⟩ (fun _ => (List.append_nil _).symm) (fun u7 hq H locs G => ?_)
        have h := hq
        refine lv_aload_n E.ex E.by dX12_bestPath_56 rfl (lv_at hl 1 rfl) ?_
        refine k_get E G wi_X12_bestPath_X12 0 (gM_0 _ _ _) rfl 37 rfl fl_X12_bestPath_X12_37 (v := .ref (a 23)) rfl dX12_bestPath_57 ?_
        refine lv_iload_n E.ex E.by dX12_bestPath_60 rfl (lv_at hl 4 rfl) ?_
        refine k_lald E G 23 (gM_23 _ _ _) 1 rfl h.1 dX12_bestPath_61 ?_
        have h := h.2
        refine lv_lconst (v := 0) E.ex E.by dX12_bestPath_62 (by decide) ?_
        refine W.lcmp E.ex E.by dX12_bestPath_63 ?_
        refine lv_if_eq (tgt := 78) E.ex E.by dX12_bestPath_64 (by decide) (fun hc13 => ?_) (fun hc13 => ?_)
        · have h := h.1 hc13
          refine lv_bipush (v := (-2)) E.ex E.by dX12_bestPath_78 (by decide) ?_
          exact k_ret (wof := (fun u : US => (wM kc a u))) (u := u7) E G rfl h (Nat.le_of_ble_eq_true rfl) (Nat.le_of_ble_eq_true rfl) dX12_bestPath_80
        · have h := h.2 hc13
          refine lv_iload E.ex E.by dX12_bestPath_67 (lv_at hl 5 rfl) ?_
          refine lv_aload_n E.ex E.by dX12_bestPath_69 rfl (lv_at hl 1 rfl) ?_
          refine k_get E G wi_X12_bestPath_X12 0 (gM_0 _ _ _) rfl 39 rfl fl_X12_bestPath_X12_39 (v := .ref (a 25)) rfl dX12_bestPath_70 ?_
          refine lv_iload_n E.ex E.by dX12_bestPath_73 rfl (lv_at hl 4 rfl) ?_
          refine k_iald E G 25 (gM_25 _ _ _) 0 rfl h.1 dX12_bestPath_74 ?_
          have h := h.2
          refine lv_icmp_le (tgt := 81) E.ex E.by dX12_bestPath_75 (by decide) (fun hc12 => ?_) (fun hc12 => ?_)
          · have h := h.1 hc12
            refine lv_iload E.ex E.by dX12_bestPath_81 (lv_at hl 5 rfl) ?_
            refine lv_if_ge (tgt := 95) E.ex E.by dX12_bestPath_83 (by decide) (fun hc11 => ?_) (fun hc11 => ?_)
            · have h := h.1 hc11
              refine lv_iload_n E.ex E.by dX12_bestPath_95 rfl (lv_at hl 4 rfl) ?_
              refine lv_istore (lv' := [(6, .int p3), (5, .int r2), (0, .ref (a 0)), (1, .int p1), (2, .int p2), (3, .int p3), (4, .int p4)]) E.ex E.by dX12_bestPath_96 hl (by decide) rfl (fun ls hl => ?_)
              refine lv_iconst (v := 0) E.ex E.by dX12_bestPath_98 (by decide) ?_
              refine lv_istore (lv' := [(7, .int 0), (6, .int p3), (5, .int r2), (0, .ref (a 0)), (1, .int p1), (2, .int p2), (3, .int p3), (4, .int p4)]) E.ex E.by dX12_bestPath_99 hl (by decide) rfl (fun ls hl => ?_)
              refine lpW_ind (fun t8 : Int32 × Int32 => ∀ (H : Heap) (locs : List Loc) (ls : Array Slot), kG D (va_A (wM kc a σ) s.heap.size) s (wM kc a u7) H locs → lv_has ls 8 [(0, .ref (a 0)), (4, .int p4), (6, .int t8.1), (7, .int t8.2)] → W p l e _ s m args below meth c H locs _ _ _ (F0 m 101 ls [])) (fun P101 IH101 t8 h H locs ls G hl => ?_) _ h _ _ _ G (lv_sub hl [3, 7, 1, 0] rfl)
              refine lv_iload E.ex E.by dX12_bestPath_101 (lv_at hl 3 rfl) ?_
              refine lv_iload E.ex E.by dX12_bestPath_103 (lv_at hl 1 rfl) ?_
              refine lv_icmp_ge (tgt := 122) E.ex E.by dX12_bestPath_105 (by decide) (fun hc10 => ?_) (fun hc10 => ?_)
              · have h := h.1 hc10
                refine lv_iload E.ex E.by dX12_bestPath_122 (lv_at hl 2 rfl) ?_
                exact k_ret (wof := (fun u : US => (wM kc a u))) (u := u7) E G rfl h (Nat.le_of_ble_eq_true rfl) (Nat.le_of_ble_eq_true rfl) dX12_bestPath_124
              · have h := h.2 hc10
                refine lv_aload_n E.ex E.by dX12_bestPath_108 rfl (lv_at hl 0 rfl) ?_
                refine lv_iload E.ex E.by dX12_bestPath_109 (lv_at hl 2 rfl) ?_
                refine k_cVi (X := []) (w := (wM kc a u7)) (Z := []) (wnew := (fun _ : Unit => (wM kc a u7))) (As := [.int t8.1]) (rest := []) E (List.append_nil _).symm G (c_X12_nextOnBest l D kc _ _ _ _ h) gX12_bestPath_X12_nextOnBest rfl ⟨rfl, rfl⟩ hd_X12_nextOnBest_v ⟨rfl, rfl⟩ 0 (gM_0 _ _ _) rfl rfl hl rfl rfl dX12_bestPath_111 ⟨rfl, rfl⟩ (fun _ => (List.append_nil _).symm) (fun r9 _u111 hq H locs G => ?_)
                have h := hq
                refine lv_istore (lv' := [(6, .int r9), (0, .ref (a 0)), (4, .int p4), (7, .int t8.2)]) E.ex E.by dX12_bestPath_114 hl (by decide) rfl (fun ls hl => ?_)
                refine lv_iinc (k := 3) (v := t8.2 + 1) (lv' := [(7, .int (t8.2 + 1)), (6, .int r9), (0, .ref (a 0)), (4, .int p4)]) E.ex E.by dX12_bestPath_116 hl rfl (k_inc1 _) (by decide) rfl (fun ls hl => ?_)
                refine lv_goto (tgt := 101) E.ex E.by dX12_bestPath_119 (by decide) ?_
                exact IH101 _ h _ _ _ G (lv_sub hl [2, 3, 1, 0] rfl)
            · have h := h.2 hc11
              refine lv_aload_n E.ex E.by dX12_bestPath_86 rfl (lv_at hl 1 rfl) ?_
              refine k_get E G wi_X12_bestPath_X12 0 (gM_0 _ _ _) rfl 39 rfl fl_X12_bestPath_X12_39 (v := .ref (a 25)) rfl dX12_bestPath_87 ?_
              refine lv_iload_n E.ex E.by dX12_bestPath_90 rfl (lv_at hl 4 rfl) ?_
              refine k_iald E G 25 (gM_25 _ _ _) 0 rfl h.1 dX12_bestPath_91 ?_
              have h := h.2
              refine lv_iconst (v := 1) E.ex E.by dX12_bestPath_92 (by decide) ?_
              refine lv_iadd E.ex E.by dX12_bestPath_93 ?_
              exact k_ret (wof := (fun u : US => (wM kc a u))) (u := u7) E G rfl h (Nat.le_of_ble_eq_true rfl) (Nat.le_of_ble_eq_true rfl) dX12_bestPath_94
          · have h := h.2 hc12
            refine lv_bipush (v := (-2)) E.ex E.by dX12_bestPath_78 (by decide) ?_
            exact k_ret (wof := (fun u : US => (wM kc a u))) (u := u7) E G rfl h (Nat.le_of_ble_eq_true rfl) (Nat.le_of_ble_eq_true rfl) dX12_bestPath_80
      · have h := h.2 hc14
        refine lv_iload E.ex E.by dX12_bestPath_29 (lv_at hl 0 rfl) ?_
        exact k_ret (wof := (fun u : US => (wM kc a u))) (u := σ) E G rfl h (Nat.le_of_ble_eq_true rfl) (Nat.le_of_ble_eq_true rfl) dX12_bestPath_31
    · have h := h.2 hc15
      refine lv_iconst (v := (-1)) E.ex E.by dX12_bestPath_14 (by decide) ?_
      exact k_ret (wof := (fun u : US => (wM kc a u))) (u := σ) E G rfl h (Nat.le_of_ble_eq_true rfl) (Nat.le_of_ble_eq_true rfl) dX12_bestPath_15
theorem wi_X12_bestProduct_X12 : ∀ w ∈ wsX120, w ∈ wsX12_bestProduct := fun w h => List.mem_cons_of_mem _ (List.mem_append_right _ (h))
theorem fl_X12_bestProduct_X12_25 : Cond.fieldLink RX12 62 (TX12 25).1 (TX12 25).2.1 (TX12 25).2.2.1 ∈ wsX12_bestProduct := List.mem_of_getElem? (i := 1) (by decide +kernel)
theorem fl_X12_bestProduct_X12_37 : Cond.fieldLink RX12 77 (TX12 37).1 (TX12 37).2.1 (TX12 37).2.2.1 ∈ wsX12_bestProduct := List.mem_of_getElem? (i := 2) (by decide +kernel)
theorem fl_X12_bestProduct_X12_38 : Cond.fieldLink RX12 80 (TX12 38).1 (TX12 38).2.1 (TX12 38).2.2.1 ∈ wsX12_bestProduct := List.mem_of_getElem? (i := 4) (by decide +kernel)
theorem lc_X12_bestProduct_356 : Cond.constantLong RX12 356 (-2) ∈ wsX12_bestProduct := List.mem_of_getElem? (i := 3) (by decide +kernel)
def wp_X12_bestProduct (p1 : Int32) (p2 : Int32) (p3 : Int32) (p4 : Int32) (σ : US) (Q : Int64 → US → Prop) : Prop := wp_X12_hinders p1 p2 p3 p4 σ (fun (r1 : Int32) => (0 ≤ r1 → vp_in p1 6 ∧ (wp_X12_setOf 8 (aA σ 13 (p1).toNatClampNeg) σ (fun (r2 : Int32) (u3 : US) => vp_in p2 6 ∧ (wp_X12_setOf 8 (aA u3 13 (p2).toNatClampNeg) u3 (fun (r4 : Int32) (u5 : US) => wp_X12_findBest r2 r4 u5 (fun (u6 : US) => vp_in p3 8 ∧ ((¬ (lg_cmp (aB u6 4 (p3).toNatClampNeg) 0) = 0 → (¬ p4 = 0 → vp_in p3 8 ∧ (Q (aB u6 5 (p3).toNatClampNeg) u6)) ∧ (p4 = 0 → vp_in p3 8 ∧ (Q (aB u6 4 (p3).toNatClampNeg) u6))) ∧ ((lg_cmp (aB u6 4 (p3).toNatClampNeg) 0) = 0 → Q (-2) u6)))))))) ∧ (¬ 0 ≤ r1 → Q (r1.toInt64) σ))
set_option maxRecDepth 100000 in
set_option maxHeartbeats 4000000 in
theorem c_X12_bestProduct (l : Launch) (D : va_G) (kc : Nat → ClassId) (a : Nat → Nat)  (p1 : Int32) (p2 : Int32) (p3 : Int32) (p4 : Int32) (σ : US) (Q : Int64 → US → Prop) (h : wp_X12_bestProduct p1 p2 p3 p4 σ Q) : kCl l D (tyL kc) yX12_bestProduct wsX12_bestProduct ({ frames := 57, cells := 0, slots := 0, locals := 1492 } : Room) [.ref (a 0), .int p1, .int p2, .int p3, .int p4] (wM kc a σ) (fun u : US => (wM kc a u)) 0 0 (fun r u => Q r u) := by
  intro sz
  refine k_begin (cc := cX12_bestProduct) (maxL := 6) (ret := (some .long)) (by decide +kernel) rfl rfl (fun p e s m args below meth c hsz E G ls hl => ?_)
  subst hsz
  have hl : lv_has ls 6 [(0, .ref (a 0)), (1, .int p1), (2, .int p2), (3, .int p3), (4, .int p4)] := hl
  refine lv_aload_n E.ex E.by dX12_bestProduct_0 rfl (lv_at hl 0 rfl) ?_
  refine lv_iload_n E.ex E.by dX12_bestProduct_1 rfl (lv_at hl 1 rfl) ?_
  refine lv_iload_n E.ex E.by dX12_bestProduct_2 rfl (lv_at hl 2 rfl) ?_
  refine lv_iload_n E.ex E.by dX12_bestProduct_3 rfl (lv_at hl 3 rfl) ?_
  refine lv_iload E.ex E.by dX12_bestProduct_4 (lv_at hl 4 rfl) ?_
  refine k_cVi (X := []) (w := (wM kc a σ)) (Z := []) (wnew := (fun _ : Unit => (wM kc a σ))) (As := [.int p1, .int p2, .int p3, .int p4]) (rest := []) E (List.append_nil _).symm G (c_X12_hinders l D kc _ _ _ _ _ _ _ h) gX12_bestProduct_X12_hinders rfl ⟨rfl, rfl⟩ hd_X12_hinders_v ⟨rfl, rfl⟩ 0 (gM_0 _ _ _) rfl rfl hl rfl rfl dX12_bestProduct_6 ⟨rfl, rfl⟩ (fun _ => (List.append_nil _).symm) (fun r1 _u6 hq H locs G => ?_)
  have h := hq
  refine lv_istore (lv' := [(5, .int r1), (0, .ref (a 0)), (1, .int p1), (2, .int p2), (3, .int p3), (4, .int p4)]) E.ex E.by dX12_bestProduct_9 hl (by decide) rfl (fun ls hl => ?_)
  refine lv_iload E.ex E.by dX12_bestProduct_11 (lv_at hl 0 rfl) ?_
  refine lv_if_ge (tgt := 20) E.ex E.by dX12_bestProduct_13 (by decide) (fun hc9 => ?_) (fun hc9 => ?_)
  · have h := h.1 hc9
    refine lv_aload_n E.ex E.by dX12_bestProduct_20 rfl (lv_at hl 1 rfl) ?_
    refine lv_aload_n E.ex E.by dX12_bestProduct_21 rfl (lv_at hl 1 rfl) ?_
    refine lv_aload_n E.ex E.by dX12_bestProduct_22 rfl (lv_at hl 1 rfl) ?_
    refine k_get E G wi_X12_bestProduct_X12 0 (gM_0 _ _ _) rfl 25 rfl fl_X12_bestProduct_X12_25 (v := .ref (a 18)) rfl dX12_bestProduct_23 ?_
    refine lv_iload_n E.ex E.by dX12_bestProduct_26 rfl (lv_at hl 2 rfl) ?_
    refine k_iald E G 18 (gM_18 _ _ _) 0 rfl h.1 dX12_bestProduct_27 ?_
    have h := h.2
    refine k_cVi (X := []) (w := (wM kc a σ)) (Z := []) (wnew := (fun u : US => (wM kc a u))) (As := [.int (aA σ 13 (p1).toNatClampNeg)]) (rest := [.ref (a 0)]) E (List.append_nil _).symm G (c_X12_setOf l D kc _ 8 _ _ _ h) gX12_bestProduct_X12_setOf rfl ⟨rfl, rfl⟩ hd_X12_setOf_v ⟨rfl, rfl⟩ 0 (gM_0 _ _ _) rfl rfl hl rfl rfl dX12_bestProduct_28 ⟨rfl, rfl⟩ (fun _ => (List.append_nil _).symm) (fun r2 u3 hq H locs G => ?_)
    have h := hq
    refine lv_aload_n E.ex E.by dX12_bestProduct_31 rfl (lv_at hl 1 rfl) ?_
    refine lv_aload_n E.ex E.by dX12_bestProduct_32 rfl (lv_at hl 1 rfl) ?_
    refine k_get E G wi_X12_bestProduct_X12 0 (gM_0 _ _ _) rfl 25 rfl fl_X12_bestProduct_X12_25 (v := .ref (a 18)) rfl dX12_bestProduct_33 ?_
    refine lv_iload_n E.ex E.by dX12_bestProduct_36 rfl (lv_at hl 3 rfl) ?_
    refine k_iald E G 18 (gM_18 _ _ _) 0 rfl h.1 dX12_bestProduct_37 ?_
    have h := h.2
    refine k_cVi (X := []) (w := (wM kc a u3)) (Z := []) (wnew := (fun u : US => (wM kc a u))) (As := [.int (aA u3 13 (p2).toNatClampNeg)]) (rest := [.int r2, .ref (a 0)]) E (List.append_nil _).symm G (c_X12_setOf l D kc _ 8 _ _ _ h) gX12_bestProduct_X12_setOf rfl ⟨rfl, rfl⟩ hd_X12_setOf_v ⟨rfl, rfl⟩ 0 (gM_0 _ _ _) rfl rfl hl rfl rfl dX12_bestProduct_38 ⟨rfl, rfl⟩ (fun _ => (List.append_nil _).symm) (fun r4 u5 hq H locs G => ?_)
    have h := hq
    refine k_cVv (X := []) (w := (wM kc a u5)) (Z := []) (wnew := (fun u : US => (wM kc a u))) (As := [.int r2, .int r4]) (rest := []) E (List.append_nil _).symm G (c_X12_findBest l D kc _ _ _ _ _ h) gX12_bestProduct_X12_findBest rfl ⟨rfl, rfl⟩ hd_X12_findBest_v ⟨rfl, rfl⟩ 0 (gM_0 _ _ _) rfl rfl hl rfl rfl dX12_bestProduct_41 ⟨rfl, rfl⟩ (fun _ => (List.append_nil _).symm) (fun u6 hq H locs G => ?_)
    have h := hq
    refine lv_aload_n E.ex E.by dX12_bestProduct_44 rfl (lv_at hl 1 rfl) ?_
    refine k_get E G wi_X12_bestProduct_X12 0 (gM_0 _ _ _) rfl 37 rfl fl_X12_bestProduct_X12_37 (v := .ref (a 23)) rfl dX12_bestProduct_45 ?_
    refine lv_iload_n E.ex E.by dX12_bestProduct_48 rfl (lv_at hl 4 rfl) ?_
    refine k_lald E G 23 (gM_23 _ _ _) 1 rfl h.1 dX12_bestProduct_49 ?_
    have h := h.2
    refine lv_lconst (v := 0) E.ex E.by dX12_bestProduct_50 (by decide) ?_
    refine W.lcmp E.ex E.by dX12_bestProduct_51 ?_
    refine lv_if_ne (tgt := 59) E.ex E.by dX12_bestProduct_52 (by decide) (fun hc8 => ?_) (fun hc8 => ?_)
    · have h := h.1 hc8
      refine lv_iload E.ex E.by dX12_bestProduct_59 (lv_at hl 5 rfl) ?_
      refine lv_if_ne (tgt := 73) E.ex E.by dX12_bestProduct_61 (by decide) (fun hc7 => ?_) (fun hc7 => ?_)
      · have h := h.1 hc7
        refine lv_aload_n E.ex E.by dX12_bestProduct_73 rfl (lv_at hl 1 rfl) ?_
        refine k_get E G wi_X12_bestProduct_X12 0 (gM_0 _ _ _) rfl 38 rfl fl_X12_bestProduct_X12_38 (v := .ref (a 24)) rfl dX12_bestProduct_74 ?_
        refine lv_iload_n E.ex E.by dX12_bestProduct_77 rfl (lv_at hl 4 rfl) ?_
        refine k_lald E G 24 (gM_24 _ _ _) 1 rfl h.1 dX12_bestProduct_78 ?_
        have h := h.2
        exact k_retl (wof := (fun u : US => (wM kc a u))) (u := u6) E G h (Nat.le_of_ble_eq_true rfl) (Nat.le_of_ble_eq_true rfl) dX12_bestProduct_79
      · have h := h.2 hc7
        refine lv_aload_n E.ex E.by dX12_bestProduct_64 rfl (lv_at hl 1 rfl) ?_
        refine k_get E G wi_X12_bestProduct_X12 0 (gM_0 _ _ _) rfl 37 rfl fl_X12_bestProduct_X12_37 (v := .ref (a 23)) rfl dX12_bestProduct_65 ?_
        refine lv_iload_n E.ex E.by dX12_bestProduct_68 rfl (lv_at hl 4 rfl) ?_
        refine k_lald E G 23 (gM_23 _ _ _) 1 rfl h.1 dX12_bestProduct_69 ?_
        have h := h.2
        refine lv_goto (tgt := 79) E.ex E.by dX12_bestProduct_70 (by decide) ?_
        exact k_retl (wof := (fun u : US => (wM kc a u))) (u := u6) E G h (Nat.le_of_ble_eq_true rfl) (Nat.le_of_ble_eq_true rfl) dX12_bestProduct_79
    · have h := h.2 hc8
      refine lv_ldc2 (v := (-2)) E.ex E.by E.ow (E.ts _ lc_X12_bestProduct_356) dX12_bestProduct_55 ?_
      exact k_retl (wof := (fun u : US => (wM kc a u))) (u := u6) E G h (Nat.le_of_ble_eq_true rfl) (Nat.le_of_ble_eq_true rfl) dX12_bestProduct_58
  · have h := h.2 hc9
    refine lv_iload E.ex E.by dX12_bestProduct_16 (lv_at hl 0 rfl) ?_
    refine lv_i2l E.ex E.by dX12_bestProduct_18 rfl ?_
    exact k_retl (wof := (fun u : US => (wM kc a u))) (u := σ) E G h (Nat.le_of_ble_eq_true rfl) (Nat.le_of_ble_eq_true rfl) dX12_bestProduct_19
theorem lc_X12_walk_358 : Cond.constant RX12 358 (1103515245) ∈ wsX12_walk := List.mem_of_getElem? (i := 1) (by decide +kernel)
def wp_X12_walk_L64 (v4 : Int32) (v2 : Int32) (v5 : Int32) (v6 : Int32) (σ : US) (P29 : (Int32 × Int32 × Int32) → Prop) (Q : Int32 → Prop) (P64 : (Int32 × Int32) → Prop) (t64 : Int32 × Int32) : Prop := wp_X12_weightOf v5 t64.2 σ (fun (r6 : Int32) => (t64.1 < r6 → P29 (v4, t64.2, v6 + 1)) ∧ (¬ t64.1 < r6 → wp_X12_weightOf v5 t64.2 σ (fun (r7 : Int32) => ∀ x8 : Int32, x8 = t64.1 - r7 → P64 (x8, t64.2 + 1))))
def wp_X12_walk_L29 (v2 : Int32) (σ : US) (Q : Int32 → Prop) (P29 : (Int32 × Int32 × Int32) → Prop) (t29 : Int32 × Int32 × Int32) : Prop := (v2 ≤ t29.2.2 → Q t29.2.1) ∧ (¬ v2 ≤ t29.2.2 → ∀ x3 : Int32, x3 = (t29.1 * 1103515245) + 12345 → wp_X12_sumOf t29.2.1 σ (fun (r4 : Int32) => (¬ r4 = (0 : Int32)) ∧ (∀ x5 : Int32, x5 = ((x3.toUInt32 >>> ((8 : Int32).toUInt32 &&& Int32.toUInt32 31)).toInt32) - ((x3.toUInt32 >>> ((8 : Int32).toUInt32 &&& Int32.toUInt32 31)).toInt32) / r4 * r4 → lpW (wp_X12_walk_L64 x3 v2 t29.2.1 t29.2.2 σ P29 Q) (x5, 0))))
def wp_X12_walk (p1 : Int32) (p2 : Int32) (p3 : Int32) (σ : US) (Q : Int32 → Prop) : Prop := wp_X12_isState p1 σ (fun (r1 : Int32) => (r1 = 0 → Q (-1)) ∧ (¬ r1 = 0 → wp_X12_in p2 0 100 (fun (r2 : Int32) => (¬ r2 = 0 → lpW (wp_X12_walk_L29 p2 σ Q) (p3, p1, 0)) ∧ (r2 = 0 → Q (-1)))))
set_option maxRecDepth 100000 in
set_option maxHeartbeats 4000000 in
theorem c_X12_walk (l : Launch) (D : va_G) (kc : Nat → ClassId) (a : Nat → Nat)  (p1 : Int32) (p2 : Int32) (p3 : Int32) (σ : US) (Q : Int32 → Prop) (h : wp_X12_walk p1 p2 p3 σ Q) : kCi l D (tyL kc) yX12_walk wsX12_walk ({ frames := 2, cells := 0, slots := 0, locals := 51 } : Room) [.ref (a 0), .int p1, .int p2, .int p3] (wM kc a σ) (fun _ : Unit => (wM kc a σ)) 0 0 (fun r _ => Q r) := by
  intro sz
  refine k_begin (cc := cX12_walk) (maxL := 9) (ret := (some .int)) (by decide +kernel) rfl rfl (fun p e s m args below meth c hsz E G ls hl => ?_)
  subst hsz
  have hl : lv_has ls 9 [(0, .ref (a 0)), (1, .int p1), (2, .int p2), (3, .int p3)] := hl
  refine lv_aload_n E.ex E.by dX12_walk_0 rfl (lv_at hl 0 rfl) ?_
  refine lv_iload_n E.ex E.by dX12_walk_1 rfl (lv_at hl 1 rfl) ?_
  refine k_cVi (X := []) (w := (wM kc a σ)) (Z := []) (wnew := (fun _ : Unit => (wM kc a σ))) (As := [.int p1]) (rest := []) E (List.append_nil _).symm G (c_X12_isState l D kc _ _ _ _ h) gX12_walk_X12_isState rfl ⟨rfl, rfl⟩ hd_X12_isState_v ⟨rfl, rfl⟩ 0 (gM_0 _ _ _) rfl rfl hl rfl rfl dX12_walk_2 ⟨rfl, rfl⟩ (fun _ => (List.append_nil _).symm) (fun r1 _u2 hq H locs G => ?_)
  have h := hq
  refine lv_if_eq (tgt := 18) E.ex E.by dX12_walk_5 (by decide) (fun hc14 => ?_) (fun hc14 => ?_)
  · have h := h.1 hc14
    refine lv_iconst (v := (-1)) E.ex E.by dX12_walk_18 (by decide) ?_
    exact k_ret (wof := (fun _ : Unit => (wM kc a σ))) (u := ()) E G rfl h (Nat.le_of_ble_eq_true rfl) (Nat.le_of_ble_eq_true rfl) dX12_walk_19
  · have h := h.2 hc14
    refine lv_iload_n E.ex E.by dX12_walk_8 rfl (lv_at hl 2 rfl) ?_
    refine lv_iconst (v := 0) E.ex E.by dX12_walk_9 (by decide) ?_
    refine lv_bipush (v := 100) E.ex E.by dX12_walk_10 (by decide) ?_
    refine k_cSi (X := (wM kc a σ)) (w := []) (Z := []) (wnew := (fun _ : Unit => (wM kc a σ))) (As := [.int p2, .int 0, .int 100]) (rest := []) E (List.append_nil _).symm G (c_X12_in l D kc _ _ _ _ h) gX12_walk_X12_in rfl ⟨rfl, rfl⟩ hd_X12_in_v ⟨rfl, rfl⟩ rfl hl rfl rfl dX12_walk_12 ⟨rfl, rfl⟩ (fun _ => (List.append_nil _).symm) (fun r2 _u12 hq H locs G => ?_)
    have h := hq
    refine lv_if_ne (tgt := 20) E.ex E.by dX12_walk_15 (by decide) (fun hc13 => ?_) (fun hc13 => ?_)
    · have h := h.1 hc13
      refine lv_iload_n E.ex E.by dX12_walk_20 rfl (lv_at hl 3 rfl) ?_
      refine lv_istore (lv' := [(4, .int p3), (0, .ref (a 0)), (1, .int p1), (2, .int p2), (3, .int p3)]) E.ex E.by dX12_walk_21 hl (by decide) rfl (fun ls hl => ?_)
      refine lv_iload_n E.ex E.by dX12_walk_23 rfl (lv_at hl 2 rfl) ?_
      refine lv_istore (lv' := [(5, .int p1), (4, .int p3), (0, .ref (a 0)), (1, .int p1), (2, .int p2), (3, .int p3)]) E.ex E.by dX12_walk_24 hl (by decide) rfl (fun ls hl => ?_)
      refine lv_iconst (v := 0) E.ex E.by dX12_walk_26 (by decide) ?_
      refine lv_istore (lv' := [(6, .int 0), (5, .int p1), (4, .int p3), (0, .ref (a 0)), (1, .int p1), (2, .int p2), (3, .int p3)]) E.ex E.by dX12_walk_27 hl (by decide) rfl (fun ls hl => ?_)
      refine lpW_ind (fun t3 : Int32 × Int32 × Int32 => ∀ (H : Heap) (locs : List Loc) (ls : Array Slot), kG D (va_A (wM kc a σ) s.heap.size) s (wM kc a σ) H locs → lv_has ls 9 [(0, .ref (a 0)), (2, .int p2), (4, .int t3.1), (5, .int t3.2.1), (6, .int t3.2.2)] → W p l e _ s m args below meth c H locs _ _ _ (F0 m 29 ls [])) (fun P29 IH29 t3 h H locs ls G hl => ?_) _ h _ _ _ G (lv_sub hl [3, 5, 2, 1, 0] rfl)
      refine lv_iload E.ex E.by dX12_walk_29 (lv_at hl 4 rfl) ?_
      refine lv_iload_n E.ex E.by dX12_walk_31 rfl (lv_at hl 1 rfl) ?_
      refine lv_icmp_ge (tgt := 106) E.ex E.by dX12_walk_32 (by decide) (fun hc12 => ?_) (fun hc12 => ?_)
      · have h := h.1 hc12
        refine lv_iload E.ex E.by dX12_walk_106 (lv_at hl 3 rfl) ?_
        exact k_ret (wof := (fun _ : Unit => (wM kc a σ))) (u := ()) E G rfl h (Nat.le_of_ble_eq_true rfl) (Nat.le_of_ble_eq_true rfl) dX12_walk_108
      · have h := h.2 hc12
        refine lv_iload E.ex E.by dX12_walk_35 (lv_at hl 2 rfl) ?_
        refine lv_ldcw (v := 1103515245) E.ex E.by E.ow (E.ts _ lc_X12_walk_358) dX12_walk_37 ?_
        refine lv_imul E.ex E.by dX12_walk_40 ?_
        refine lv_sipush (v := 12345) E.ex E.by dX12_walk_41 (by decide) ?_
        refine lv_iadd E.ex E.by dX12_walk_44 ?_
        refine lv_topi (fun x4 ex4 => ?_)
        have h := h x4 ex4
        refine lv_istore (lv' := [(4, .int x4), (0, .ref (a 0)), (2, .int p2), (5, .int t3.2.1), (6, .int t3.2.2)]) E.ex E.by dX12_walk_45 hl (by decide) rfl (fun ls hl => ?_)
        refine lv_iload E.ex E.by dX12_walk_47 (lv_at hl 0 rfl) ?_
        refine lv_bipush (v := 8) E.ex E.by dX12_walk_49 (by decide) ?_
        refine lv_iushr E.ex E.by dX12_walk_51 rfl ?_
        refine lv_aload_n E.ex E.by dX12_walk_52 rfl (lv_at hl 1 rfl) ?_
        refine lv_iload E.ex E.by dX12_walk_53 (lv_at hl 3 rfl) ?_
        refine k_cVi (X := []) (w := (wM kc a σ)) (Z := []) (wnew := (fun _ : Unit => (wM kc a σ))) (As := [.int t3.2.1]) (rest := [.int ((x4.toUInt32 >>> ((8 : Int32).toUInt32 &&& Int32.toUInt32 31)).toInt32)]) E (List.append_nil _).symm G (c_X12_sumOf l D kc _ _ _ _ h) gX12_walk_X12_sumOf rfl ⟨rfl, rfl⟩ hd_X12_sumOf_v ⟨rfl, rfl⟩ 0 (gM_0 _ _ _) rfl rfl hl rfl rfl dX12_walk_55 ⟨rfl, rfl⟩ (fun _ => (List.append_nil _).symm) (fun r5 _u55 hq H locs G => ?_)
        have h := hq
        refine lv_irem E.ex E.by dX12_walk_58 h.1 ?_
        have h := h.2
        refine lv_topi (fun x6 ex6 => ?_)
        have h := h x6 ex6
        refine lv_istore (lv' := [(7, .int x6), (4, .int x4), (0, .ref (a 0)), (2, .int p2), (5, .int t3.2.1), (6, .int t3.2.2)]) E.ex E.by dX12_walk_59 hl (by decide) rfl (fun ls hl => ?_)
        refine lv_iconst (v := 0) E.ex E.by dX12_walk_61 (by decide) ?_
        refine lv_istore (lv' := [(8, .int 0), (7, .int x6), (4, .int x4), (0, .ref (a 0)), (2, .int p2), (5, .int t3.2.1), (6, .int t3.2.2)]) E.ex E.by dX12_walk_62 hl (by decide) rfl (fun ls hl => ?_)
        refine lpW_ind (fun t7 : Int32 × Int32 => ∀ (H : Heap) (locs : List Loc) (ls : Array Slot), kG D (va_A (wM kc a σ) s.heap.size) s (wM kc a σ) H locs → lv_has ls 9 [(0, .ref (a 0)), (2, .int p2), (4, .int x4), (5, .int t3.2.1), (6, .int t3.2.2), (7, .int t7.1), (8, .int t7.2)] → W p l e _ s m args below meth c H locs _ _ _ (F0 m 64 ls [])) (fun P64 IH64 t7 h H locs ls G hl => ?_) _ h _ _ _ G (lv_sub hl [3, 4, 2, 5, 6, 1, 0] rfl)
        refine lv_aload_n E.ex E.by dX12_walk_64 rfl (lv_at hl 0 rfl) ?_
        refine lv_iload E.ex E.by dX12_walk_65 (lv_at hl 3 rfl) ?_
        refine lv_iload E.ex E.by dX12_walk_67 (lv_at hl 6 rfl) ?_
        refine k_cVi (X := []) (w := (wM kc a σ)) (Z := []) (wnew := (fun _ : Unit => (wM kc a σ))) (As := [.int t3.2.1, .int t7.2]) (rest := []) E (List.append_nil _).symm G (c_X12_weightOf l D kc _ _ _ _ _ h) gX12_walk_X12_weightOf rfl ⟨rfl, rfl⟩ hd_X12_weightOf_v ⟨rfl, rfl⟩ 0 (gM_0 _ _ _) rfl rfl hl rfl rfl dX12_walk_69 ⟨rfl, rfl⟩ (fun _ => (List.append_nil _).symm) (fun r8 _u69 hq H locs G => ?_)
        have h := hq
        refine lv_iload E.ex E.by dX12_walk_72 (lv_at hl 5 rfl) ?_
        refine lv_icmp_gt (tgt := 96) E.ex E.by dX12_walk_74 (by decide) (fun hc11 => ?_) (fun hc11 => ?_)
        · have h := h.1 hc11
          refine lv_iload E.ex E.by dX12_walk_96 (lv_at hl 6 rfl) ?_
          refine lv_istore (lv' := [(5, .int t7.2), (0, .ref (a 0)), (2, .int p2), (4, .int x4), (6, .int t3.2.2), (7, .int t7.1), (8, .int t7.2)]) E.ex E.by dX12_walk_98 hl (by decide) rfl (fun ls hl => ?_)
          refine lv_iinc (k := 4) (v := t3.2.2 + 1) (lv' := [(6, .int (t3.2.2 + 1)), (5, .int t7.2), (0, .ref (a 0)), (2, .int p2), (4, .int x4), (7, .int t7.1), (8, .int t7.2)]) E.ex E.by dX12_walk_100 hl rfl (k_inc1 _) (by decide) rfl (fun ls hl => ?_)
          refine lv_goto (tgt := 29) E.ex E.by dX12_walk_103 (by decide) ?_
          exact IH29 _ h _ _ _ G (lv_sub hl [2, 3, 4, 1, 0] rfl)
        · have h := h.2 hc11
          refine lv_iload E.ex E.by dX12_walk_77 (lv_at hl 5 rfl) ?_
          refine lv_aload_n E.ex E.by dX12_walk_79 rfl (lv_at hl 0 rfl) ?_
          refine lv_iload E.ex E.by dX12_walk_80 (lv_at hl 3 rfl) ?_
          refine lv_iload E.ex E.by dX12_walk_82 (lv_at hl 6 rfl) ?_
          refine k_cVi (X := []) (w := (wM kc a σ)) (Z := []) (wnew := (fun _ : Unit => (wM kc a σ))) (As := [.int t3.2.1, .int t7.2]) (rest := [.int t7.1]) E (List.append_nil _).symm G (c_X12_weightOf l D kc _ _ _ _ _ h) gX12_walk_X12_weightOf rfl ⟨rfl, rfl⟩ hd_X12_weightOf_v ⟨rfl, rfl⟩ 0 (gM_0 _ _ _) rfl rfl hl rfl rfl dX12_walk_84 ⟨rfl, rfl⟩ (fun _ => (List.append_nil _).symm) (fun r9 _u84 hq H locs G => ?_)
          have h := hq
          refine lv_isub E.ex E.by dX12_walk_87 ?_
          refine lv_topi (fun x10 ex10 => ?_)
          have h := h x10 ex10
          refine lv_istore (lv' := [(7, .int x10), (0, .ref (a 0)), (2, .int p2), (4, .int x4), (5, .int t3.2.1), (6, .int t3.2.2), (8, .int t7.2)]) E.ex E.by dX12_walk_88 hl (by decide) rfl (fun ls hl => ?_)
          refine lv_iinc (k := 6) (v := t7.2 + 1) (lv' := [(8, .int (t7.2 + 1)), (7, .int x10), (0, .ref (a 0)), (2, .int p2), (4, .int x4), (5, .int t3.2.1), (6, .int t3.2.2)]) E.ex E.by dX12_walk_90 hl rfl (k_inc1 _) (by decide) rfl (fun ls hl => ?_)
          refine lv_goto (tgt := 64) E.ex E.by dX12_walk_93 (by decide) ?_
          exact IH64 _ h _ _ _ G (lv_sub hl [2, 3, 4, 5, 6, 1, 0] rfl)
    · have h := h.2 hc13
      refine lv_iconst (v := (-1)) E.ex E.by dX12_walk_18 (by decide) ?_
      exact k_ret (wof := (fun _ : Unit => (wM kc a σ))) (u := ()) E G rfl h (Nat.le_of_ble_eq_true rfl) (Nat.le_of_ble_eq_true rfl) dX12_walk_19
