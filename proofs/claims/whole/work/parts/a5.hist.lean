/-! ===== the history ===== -/
theorem iI_uI_n {σ : US} {k j : Nat} {x : Int32} (h : j ≠ k) : iI (uI σ k x) j = iI σ j := if_neg h
def wp_X6_total (η : US) (kp : Nat → US) (κ : US) (Q : Int32 → Prop) : Prop := Q (iI η 1)
def wp_X6_record (η : US) (kp : Nat → US) (κ : US) (Q : (US × (Nat → US)) → Prop) : Prop := ∃ i tt : Nat, i < 8 ∧ tt ≤ 8 ∧ iI η 0 = nI i ∧ iI η 1 = nI tt ∧ wp_X2_copyFrom (kp i) κ (fun k1 => ∀ η1 : US, iI η1 0 = nI ((i + 1) % 8) → iI η1 1 = nI (if tt < 8 then tt + 1 else 8) → Q (η1, kup kp i k1))
def wp_X6_takeBack (η : US) (kp : Nat → US) (κ : US) (Q : Int32 → (US × US) → Prop) : Prop := ∃ i tt : Nat, i < 8 ∧ tt ≤ 8 ∧ iI η 0 = nI i ∧ iI η 1 = nI tt ∧ (tt = 0 → Q 0 (η, κ)) ∧ (0 < tt → wp_X2_copyFrom κ (kp ((i + 7) % 8)) (fun k1 => ∀ η1 : US, iI η1 0 = nI ((i + 7) % 8) → iI η1 1 = nI (tt - 1) → Q 1 (η1, k1)))
theorem wi_X6_slotAt_X6 : ∀ w ∈ wsX60, w ∈ wsX6_slotAt := fun w h => List.mem_cons_of_mem _ (List.mem_append_right _ (h))
theorem fl_X6_slotAt_X6_0 : Cond.fieldLink RX6 11 (TX6 0).1 (TX6 0).2.1 (TX6 0).2.2.1 ∈ wsX6_slotAt := List.mem_of_getElem? (i := 1) (by decide +kernel)
set_option maxRecDepth 100000 in
set_option maxHeartbeats 4000000 in
theorem c_X6_slotAt (l : Launch) (D : va_G) (kc : Nat → ClassId) (w : va_W) (q0 q1 ha hb i : Nat) (x1 x2 : Value) (fk : Nat → Option Nat) (h0 : w[q0]? = some (ha, .inr (8, [.ref hb, x1, x2]))) (h1 : w[q1]? = some (hb, .inl (kc 3, 8, .inr (.inr (.inr (.inr fk)))))) (hi : i < 8) : kCq l D (tyL kc) yX6_slotAt wsX6_slotAt ({ frames := 0, cells := 0, slots := 0, locals := 0 } : Room) [.ref ha, .int (nI i)] (w) (fun _ : Unit => w) (0) (0) (fun o _ => o = fk i) := by
  intro sz
  refine k_begin (cc := cX6_slotAt) (maxL := 2) (ret := (some (.object "ProbabilisticChecker$Chain"))) (by decide +kernel) rfl rfl (fun p e s m args below meth c hsz E G ls hl => ?_)
  subst hsz
  have hl : lv_has ls 2 [(0, .ref ha), (1, .int (nI i))] := hl
  refine lv_iload_n E.ex E.by dX6_slotAt_0 rfl (lv_at hl 1 rfl) ?_
  refine lv_if_lt (tgt := 19) E.ex E.by dX6_slotAt_1 (by decide) (fun hc => absurd hc (nI_pos (by omega))) (fun hc => ?_)
  clear hc
  refine lv_iload_n E.ex E.by dX6_slotAt_4 rfl (lv_at hl 1 rfl) ?_
  refine lv_bipush (v := 8) E.ex E.by dX6_slotAt_5 (by decide) ?_
  refine lv_icmp_ge (tgt := 19) E.ex E.by dX6_slotAt_7 (by decide) (fun hc => absurd hc (by rw [li8]; exact nI_ge hi (by omega))) (fun hc => ?_)
  clear hc
  refine lv_aload_n E.ex E.by dX6_slotAt_10 rfl (lv_at hl 0 rfl) ?_
  refine k_get E G wi_X6_slotAt_X6 (q0) (h0) rfl 0 rfl fl_X6_slotAt_X6_0 (v := .ref hb) rfl dX6_slotAt_11 ?_
  refine lv_iload_n E.ex E.by dX6_slotAt_14 rfl (lv_at hl 1 rfl) ?_
  refine k_aldq E G (q1) (h1) 3 rfl (vp_in_nI hi (by omega)) dX6_slotAt_15 ?_
  rw [nI_clamp (show i < 2 ^ 31 by omega)]
  refine lv_goto (tgt := 20) E.ex E.by dX6_slotAt_16 (by decide) ?_
  refine k_retq (P := (fun o _ => o = fk i)) (wof := (fun _ : Unit => w)) (o := (fk i)) (u := ()) (Or.inl ⟨_, rfl⟩) E G ?_ ?_ ?_ dX6_slotAt_20
  · exact rfl
  · first | exact Nat.le_of_ble_eq_true rfl | omega
  · first | exact Nat.le_of_ble_eq_true rfl | omega
theorem wi_X6_record_X6 : ∀ w ∈ wsX60, w ∈ wsX6_record := fun w h => List.mem_cons_of_mem _ (List.mem_append_left _ (List.mem_append_right _ (h)))
theorem fl_X6_record_X6_1 : Cond.fieldLink RX6 18 (TX6 1).1 (TX6 1).2.1 (TX6 1).2.2.1 ∈ wsX6_record := List.mem_of_getElem? (i := 1) (by decide +kernel)
theorem hd_X6_slotAt_v : yX6_slotAt.cls = RX6 ∧ yX6_slotAt.cls ≠ "java/lang/invoke/MethodHandle" ∧ yX6_slotAt.cls ≠ "java/lang/invoke/VarHandle" ∧ (parseMethodDescriptor yX6_slotAt.desc).map (fun d => d.parameters.length) = some 1 := by decide +kernel
theorem fl_X6_record_X6_2 : Cond.fieldLink RX6 22 (TX6 2).1 (TX6 2).2.1 (TX6 2).2.2.1 ∈ wsX6_record := List.mem_of_getElem? (i := 2) (by decide +kernel)
set_option maxRecDepth 100000 in
set_option maxHeartbeats 4000000 in
theorem c_X6_record (l : Launch) (D : va_G) (kc : Nat → ClassId) (ad : Nat → Nat → Nat) (η : US) (kp : Nat → US) (κ : US) (Q : (US × (Nat → US)) → Prop) (h : wp_X6_record η kp κ Q) : kCv l D (tyL kc) yX6_record wsX6_record ({ frames := 1, cells := 0, slots := 0, locals := 22 } : Room) [.ref (ad 3 0), .ref (ad 1 0)] (fl [wHi kc ad η, wKp kc ad kp, wC kc (ad 1) κ]) (fun u : US × (Nat → US) => (fl [wHi kc ad u.1, wKp kc ad u.2, wC kc (ad 1) κ])) 0 0 (fun u => Q u) := by
  obtain ⟨i, tt, hi, htt, ei, et, h⟩ := h
  match i, hi, ei, h with
  | 0, _, ei, h =>
    by_cases hlt : tt < 8
    · intro sz
      refine k_begin (cc := cX6_record) (maxL := 3) (ret := none) (by decide +kernel) rfl rfl (fun p e s m args below meth c hsz E G ls hl => ?_)
      subst hsz
      have hl : lv_has ls 3 [(0, .ref (ad 3 0)), (1, .ref (ad 1 0))] := hl
      refine lv_aload_n E.ex E.by dX6_record_0 rfl (lv_at hl 0 rfl) ?_
      refine lv_aload_n E.ex E.by dX6_record_1 rfl (lv_at hl 0 rfl) ?_
      refine k_get E G wi_X6_record_X6 (0) (gH_0 _ _ _ _ _) rfl 1 rfl fl_X6_record_X6_1 (v := .int (iI η 0)) rfl dX6_record_2 ?_
      refine lv_topi (fun y1 ey1 => ?_)
      have ey1 : y1 = nI 0 := ey1.trans (ei)
      subst ey1
      refine k_cVq (n := 1) (X := []) (w := (fl [wHi kc ad η, wKp kc ad kp, wC kc (ad 1) κ])) (Z := []) (wnew := (fun _ : Unit => (fl [wHi kc ad η, wKp kc ad kp, wC kc (ad 1) κ]))) (As := [.int (nI 0)]) (rest := []) E (List.append_nil _).symm G (c_X6_slotAt l D kc (fl [wHi kc ad η, wKp kc ad kp, wC kc (ad 1) κ]) 0 1 (ad 3 0) (ad 3 1) 0 _ _ (fun i => some (ad (20 + i) 0)) (gH_0 _ _ _ _ _) rfl (by decide)) gX6_record_X6_slotAt rfl ⟨rfl, rfl⟩ hd_X6_slotAt_v ⟨rfl, rfl⟩ (0) (gH_0 _ _ _ _ _) rfl rfl hl rfl rfl dX6_record_5 (⟨Nat.le_of_ble_eq_true rfl, Nat.le_of_ble_eq_true rfl⟩) (fun _ => (List.append_nil _).symm) (fun r2 u2 hq2 H locs G => ?_)
      subst hq2
      refine lv_astore_n (lv' := [(2, .ref (ad 20 0)), (0, .ref (ad 3 0)), (1, .ref (ad 1 0))]) E.ex E.by dX6_record_8 rfl hl (by decide) rfl (fun ls hl => ?_)
      refine lv_aload_n E.ex E.by dX6_record_9 rfl (lv_at hl 0 rfl) ?_
      refine lv_ifnonnull (tgt := 14) E.ex E.by dX6_record_10 (by decide) ?_
      refine lv_aload_n E.ex E.by dX6_record_14 rfl (lv_at hl 0 rfl) ?_
      refine lv_aload_n E.ex E.by dX6_record_15 rfl (lv_at hl 2 rfl) ?_
      have G := G.cg (wz := fl [wHi kc ad η, wC kc (ad 20) (kp 0), wC kc (ad 21) (kp 1), wC kc (ad 22) (kp 2), wC kc (ad 23) (kp 3), wC kc (ad 24) (kp 4), wC kc (ad 25) (kp 5), wC kc (ad 26) (kp 6), wC kc (ad 27) (kp 7), wC kc (ad 1) κ]) rfl
      have G := kG.sel (L := [wHi kc ad η, wC kc (ad 20) (kp 0), wC kc (ad 21) (kp 1), wC kc (ad 22) (kp 2), wC kc (ad 23) (kp 3), wC kc (ad 24) (kp 4), wC kc (ad 25) (kp 5), wC kc (ad 26) (kp 6), wC kc (ad 27) (kp 7), wC kc (ad 1) κ]) (L' := [wC kc (ad 20) (kp 0), wC kc (ad 1) κ, wHi kc ad η, wC kc (ad 21) (kp 1), wC kc (ad 22) (kp 2), wC kc (ad 23) (kp 3), wC kc (ad 24) (kp 4), wC kc (ad 25) (kp 5), wC kc (ad 26) (kp 6), wC kc (ad 27) (kp 7)]) G [1, 8] rfl
      refine k_cVv (n := 1) (X := []) (w := (xCC kc (ad 20) (ad 1) (kp 0) κ)) (Z := (fl [wHi kc ad η, wC kc (ad 21) (kp 1), wC kc (ad 22) (kp 2), wC kc (ad 23) (kp 3), wC kc (ad 24) (kp 4), wC kc (ad 25) (kp 5), wC kc (ad 26) (kp 6), wC kc (ad 27) (kp 7)])) (wnew := (fun u : US => (fl [wC kc (ad 20) u, wC kc (ad 1) κ, wHi kc ad η, wC kc (ad 21) (kp 1), wC kc (ad 22) (kp 2), wC kc (ad 23) (kp 3), wC kc (ad 24) (kp 4), wC kc (ad 25) (kp 5), wC kc (ad 26) (kp 6), wC kc (ad 27) (kp 7)]))) (As := [.ref (ad 1 0)]) (rest := []) E rfl G (c_X2_copyFrom l D kc (ad 20) (ad 1) _ _ _ h) gX6_record_X2_copyFrom rfl ⟨rfl, rfl⟩ hd_X2_copyFrom_v ⟨rfl, rfl⟩ (0) (gCC_0 _ _ _ _ _) rfl rfl hl rfl rfl dX6_record_16 (⟨rfl, rfl⟩) (fun _ => rfl) (fun u3 hq3 H locs G => ?_)
      have h := hq3
      have G := kG.sel (L := [wC kc (ad 20) u3, wC kc (ad 1) κ, wHi kc ad η, wC kc (ad 21) (kp 1), wC kc (ad 22) (kp 2), wC kc (ad 23) (kp 3), wC kc (ad 24) (kp 4), wC kc (ad 25) (kp 5), wC kc (ad 26) (kp 6), wC kc (ad 27) (kp 7)]) (L' := [wHi kc ad η, wC kc (ad 20) u3, wC kc (ad 21) (kp 1), wC kc (ad 22) (kp 2), wC kc (ad 23) (kp 3), wC kc (ad 24) (kp 4), wC kc (ad 25) (kp 5), wC kc (ad 26) (kp 6), wC kc (ad 27) (kp 7), wC kc (ad 1) κ]) G [2, 0, 1, 1, 1, 1, 1, 1, 1, 0] rfl
      have G := G.cg (wz := (fl [wHi kc ad η, wKp kc ad (kup kp 0 u3), wC kc (ad 1) κ])) rfl
      refine lv_aload_n E.ex E.by dX6_record_19 rfl (lv_at hl 1 rfl) ?_
      refine lv_aload_n E.ex E.by dX6_record_20 rfl (lv_at hl 1 rfl) ?_
      refine k_get E G wi_X6_record_X6 (0) (gH_0 _ _ _ _ _) rfl 1 rfl fl_X6_record_X6_1 (v := .int (iI η 0)) rfl dX6_record_21 ?_
      refine lv_topi (fun y4 ey4 => ?_)
      have ey4 : y4 = nI 0 := ey4.trans (ei)
      subst ey4
      refine lv_iconst (v := 1) E.ex E.by dX6_record_24 (by decide) ?_
      refine lv_iadd E.ex E.by dX6_record_25 ?_
      refine lv_topi (fun y5 ey5 => ?_)
      have ey5 : y5 = nI 1 := ey5.trans (by decide)
      subst ey5
      refine lv_bipush (v := 8) E.ex E.by dX6_record_26 (by decide) ?_
      refine lv_irem E.ex E.by dX6_record_28 (by decide) ?_
      refine lv_topi (fun y6 ey6 => ?_)
      have ey6 : y6 = nI 1 := ey6.trans (by decide)
      subst ey6
      refine k_putX E G wi_X6_record_X6 tyX6_ok nmX6 (0) (gH_0 _ _ _ _ _) rfl 1 rfl fl_X6_record_X6_1 rfl rfl rfl rfl ((fl [wHi kc ad (uI η 0 (nI 1)), wKp kc ad (kup kp 0 u3), wC kc (ad 1) κ])) rfl dX6_record_29 (fun H locs G => ?_)
      obtain ⟨η1, eη1⟩ : ∃ y : US, y = uI η 0 (nI 1) := ⟨_, rfl⟩
      rw [← eη1] at G
      refine lv_aload_n E.ex E.by dX6_record_32 rfl (lv_at hl 1 rfl) ?_
      refine k_get E G wi_X6_record_X6 (0) (gH_0 _ _ _ _ _) rfl 2 rfl fl_X6_record_X6_2 (v := .int (iI η1 1)) rfl dX6_record_33 ?_
      refine lv_topi (fun y7 ey7 => ?_)
      have ey7 : y7 = nI tt := ey7.trans (by rw [eη1]; exact (iI_uI_n (by decide)).trans et)
      subst ey7
      refine lv_bipush (v := 8) E.ex E.by dX6_record_36 (by decide) ?_
      refine lv_icmp_ge (tgt := 51) E.ex E.by dX6_record_38 (by decide) (fun hc => absurd hc (by rw [li8]; exact nI_ge hlt (by omega))) (fun hc => ?_)
      clear hc
      refine lv_aload_n E.ex E.by dX6_record_41 rfl (lv_at hl 1 rfl) ?_
      refine lv_dup E.ex E.by dX6_record_42 rfl ?_
      refine k_get E G wi_X6_record_X6 (0) (gH_0 _ _ _ _ _) rfl 2 rfl fl_X6_record_X6_2 (v := .int (iI η1 1)) rfl dX6_record_43 ?_
      refine lv_topi (fun y8 ey8 => ?_)
      have ey8 : y8 = nI tt := ey8.trans (by rw [eη1]; exact (iI_uI_n (by decide)).trans et)
      subst ey8
      refine lv_iconst (v := 1) E.ex E.by dX6_record_46 (by decide) ?_
      refine lv_iadd E.ex E.by dX6_record_47 ?_
      refine lv_topi (fun y9 ey9 => ?_)
      have ey9 : y9 = nI (tt + 1) := ey9.trans (nI_1 _)
      subst ey9
      refine k_putX E G wi_X6_record_X6 tyX6_ok nmX6 (0) (gH_0 _ _ _ _ _) rfl 2 rfl fl_X6_record_X6_2 rfl rfl rfl rfl ((fl [wHi kc ad (uI η1 1 (nI (tt + 1))), wKp kc ad (kup kp 0 u3), wC kc (ad 1) κ])) rfl dX6_record_48 (fun H locs G => ?_)
      obtain ⟨η2, eη2⟩ : ∃ y : US, y = uI η1 1 (nI (tt + 1)) := ⟨_, rfl⟩
      rw [← eη2] at G
      refine k_retv (wof := (fun u : US × (Nat → US) => (fl [wHi kc ad u.1, wKp kc ad u.2, wC kc (ad 1) κ]))) (u := (η2, (kup kp 0 u3))) E G ?_ ?_ ?_ dX6_record_51
      · exact h η2 (by rw [eη2]; exact (iI_uI_n (by decide)).trans (by rw [eη1]; exact iI_uI _ _ _)) (by rw [if_pos hlt, eη2]; exact iI_uI _ _ _)
      · first | exact Nat.le_of_ble_eq_true rfl | omega
      · first | exact Nat.le_of_ble_eq_true rfl | omega
    · intro sz
      refine k_begin (cc := cX6_record) (maxL := 3) (ret := none) (by decide +kernel) rfl rfl (fun p e s m args below meth c hsz E G ls hl => ?_)
      subst hsz
      have hl : lv_has ls 3 [(0, .ref (ad 3 0)), (1, .ref (ad 1 0))] := hl
      refine lv_aload_n E.ex E.by dX6_record_0 rfl (lv_at hl 0 rfl) ?_
      refine lv_aload_n E.ex E.by dX6_record_1 rfl (lv_at hl 0 rfl) ?_
      refine k_get E G wi_X6_record_X6 (0) (gH_0 _ _ _ _ _) rfl 1 rfl fl_X6_record_X6_1 (v := .int (iI η 0)) rfl dX6_record_2 ?_
      refine lv_topi (fun y1 ey1 => ?_)
      have ey1 : y1 = nI 0 := ey1.trans (ei)
      subst ey1
      refine k_cVq (n := 1) (X := []) (w := (fl [wHi kc ad η, wKp kc ad kp, wC kc (ad 1) κ])) (Z := []) (wnew := (fun _ : Unit => (fl [wHi kc ad η, wKp kc ad kp, wC kc (ad 1) κ]))) (As := [.int (nI 0)]) (rest := []) E (List.append_nil _).symm G (c_X6_slotAt l D kc (fl [wHi kc ad η, wKp kc ad kp, wC kc (ad 1) κ]) 0 1 (ad 3 0) (ad 3 1) 0 _ _ (fun i => some (ad (20 + i) 0)) (gH_0 _ _ _ _ _) rfl (by decide)) gX6_record_X6_slotAt rfl ⟨rfl, rfl⟩ hd_X6_slotAt_v ⟨rfl, rfl⟩ (0) (gH_0 _ _ _ _ _) rfl rfl hl rfl rfl dX6_record_5 (⟨Nat.le_of_ble_eq_true rfl, Nat.le_of_ble_eq_true rfl⟩) (fun _ => (List.append_nil _).symm) (fun r2 u2 hq2 H locs G => ?_)
      subst hq2
      refine lv_astore_n (lv' := [(2, .ref (ad 20 0)), (0, .ref (ad 3 0)), (1, .ref (ad 1 0))]) E.ex E.by dX6_record_8 rfl hl (by decide) rfl (fun ls hl => ?_)
      refine lv_aload_n E.ex E.by dX6_record_9 rfl (lv_at hl 0 rfl) ?_
      refine lv_ifnonnull (tgt := 14) E.ex E.by dX6_record_10 (by decide) ?_
      refine lv_aload_n E.ex E.by dX6_record_14 rfl (lv_at hl 0 rfl) ?_
      refine lv_aload_n E.ex E.by dX6_record_15 rfl (lv_at hl 2 rfl) ?_
      have G := G.cg (wz := fl [wHi kc ad η, wC kc (ad 20) (kp 0), wC kc (ad 21) (kp 1), wC kc (ad 22) (kp 2), wC kc (ad 23) (kp 3), wC kc (ad 24) (kp 4), wC kc (ad 25) (kp 5), wC kc (ad 26) (kp 6), wC kc (ad 27) (kp 7), wC kc (ad 1) κ]) rfl
      have G := kG.sel (L := [wHi kc ad η, wC kc (ad 20) (kp 0), wC kc (ad 21) (kp 1), wC kc (ad 22) (kp 2), wC kc (ad 23) (kp 3), wC kc (ad 24) (kp 4), wC kc (ad 25) (kp 5), wC kc (ad 26) (kp 6), wC kc (ad 27) (kp 7), wC kc (ad 1) κ]) (L' := [wC kc (ad 20) (kp 0), wC kc (ad 1) κ, wHi kc ad η, wC kc (ad 21) (kp 1), wC kc (ad 22) (kp 2), wC kc (ad 23) (kp 3), wC kc (ad 24) (kp 4), wC kc (ad 25) (kp 5), wC kc (ad 26) (kp 6), wC kc (ad 27) (kp 7)]) G [1, 8] rfl
      refine k_cVv (n := 1) (X := []) (w := (xCC kc (ad 20) (ad 1) (kp 0) κ)) (Z := (fl [wHi kc ad η, wC kc (ad 21) (kp 1), wC kc (ad 22) (kp 2), wC kc (ad 23) (kp 3), wC kc (ad 24) (kp 4), wC kc (ad 25) (kp 5), wC kc (ad 26) (kp 6), wC kc (ad 27) (kp 7)])) (wnew := (fun u : US => (fl [wC kc (ad 20) u, wC kc (ad 1) κ, wHi kc ad η, wC kc (ad 21) (kp 1), wC kc (ad 22) (kp 2), wC kc (ad 23) (kp 3), wC kc (ad 24) (kp 4), wC kc (ad 25) (kp 5), wC kc (ad 26) (kp 6), wC kc (ad 27) (kp 7)]))) (As := [.ref (ad 1 0)]) (rest := []) E rfl G (c_X2_copyFrom l D kc (ad 20) (ad 1) _ _ _ h) gX6_record_X2_copyFrom rfl ⟨rfl, rfl⟩ hd_X2_copyFrom_v ⟨rfl, rfl⟩ (0) (gCC_0 _ _ _ _ _) rfl rfl hl rfl rfl dX6_record_16 (⟨rfl, rfl⟩) (fun _ => rfl) (fun u3 hq3 H locs G => ?_)
      have h := hq3
      have G := kG.sel (L := [wC kc (ad 20) u3, wC kc (ad 1) κ, wHi kc ad η, wC kc (ad 21) (kp 1), wC kc (ad 22) (kp 2), wC kc (ad 23) (kp 3), wC kc (ad 24) (kp 4), wC kc (ad 25) (kp 5), wC kc (ad 26) (kp 6), wC kc (ad 27) (kp 7)]) (L' := [wHi kc ad η, wC kc (ad 20) u3, wC kc (ad 21) (kp 1), wC kc (ad 22) (kp 2), wC kc (ad 23) (kp 3), wC kc (ad 24) (kp 4), wC kc (ad 25) (kp 5), wC kc (ad 26) (kp 6), wC kc (ad 27) (kp 7), wC kc (ad 1) κ]) G [2, 0, 1, 1, 1, 1, 1, 1, 1, 0] rfl
      have G := G.cg (wz := (fl [wHi kc ad η, wKp kc ad (kup kp 0 u3), wC kc (ad 1) κ])) rfl
      refine lv_aload_n E.ex E.by dX6_record_19 rfl (lv_at hl 1 rfl) ?_
      refine lv_aload_n E.ex E.by dX6_record_20 rfl (lv_at hl 1 rfl) ?_
      refine k_get E G wi_X6_record_X6 (0) (gH_0 _ _ _ _ _) rfl 1 rfl fl_X6_record_X6_1 (v := .int (iI η 0)) rfl dX6_record_21 ?_
      refine lv_topi (fun y4 ey4 => ?_)
      have ey4 : y4 = nI 0 := ey4.trans (ei)
      subst ey4
      refine lv_iconst (v := 1) E.ex E.by dX6_record_24 (by decide) ?_
      refine lv_iadd E.ex E.by dX6_record_25 ?_
      refine lv_topi (fun y5 ey5 => ?_)
      have ey5 : y5 = nI 1 := ey5.trans (by decide)
      subst ey5
      refine lv_bipush (v := 8) E.ex E.by dX6_record_26 (by decide) ?_
      refine lv_irem E.ex E.by dX6_record_28 (by decide) ?_
      refine lv_topi (fun y6 ey6 => ?_)
      have ey6 : y6 = nI 1 := ey6.trans (by decide)
      subst ey6
      refine k_putX E G wi_X6_record_X6 tyX6_ok nmX6 (0) (gH_0 _ _ _ _ _) rfl 1 rfl fl_X6_record_X6_1 rfl rfl rfl rfl ((fl [wHi kc ad (uI η 0 (nI 1)), wKp kc ad (kup kp 0 u3), wC kc (ad 1) κ])) rfl dX6_record_29 (fun H locs G => ?_)
      obtain ⟨η1, eη1⟩ : ∃ y : US, y = uI η 0 (nI 1) := ⟨_, rfl⟩
      rw [← eη1] at G
      refine lv_aload_n E.ex E.by dX6_record_32 rfl (lv_at hl 1 rfl) ?_
      refine k_get E G wi_X6_record_X6 (0) (gH_0 _ _ _ _ _) rfl 2 rfl fl_X6_record_X6_2 (v := .int (iI η1 1)) rfl dX6_record_33 ?_
      refine lv_topi (fun y7 ey7 => ?_)
      have ey7 : y7 = nI tt := ey7.trans (by rw [eη1]; exact (iI_uI_n (by decide)).trans et)
      subst ey7
      refine lv_bipush (v := 8) E.ex E.by dX6_record_36 (by decide) ?_
      refine lv_icmp_ge (tgt := 51) E.ex E.by dX6_record_38 (by decide) (fun hc => ?_) (fun hc => absurd (by rw [li8]; exact nI_le (by omega) (by omega)) hc)
      clear hc
      refine k_retv (wof := (fun u : US × (Nat → US) => (fl [wHi kc ad u.1, wKp kc ad u.2, wC kc (ad 1) κ]))) (u := (η1, (kup kp 0 u3))) E G ?_ ?_ ?_ dX6_record_51
      · exact h η1 (by rw [eη1]; exact iI_uI _ _ _) (by rw [if_neg (by omega), eη1]; exact (iI_uI_n (by decide)).trans (et.trans (congrArg nI (by omega))))
      · first | exact Nat.le_of_ble_eq_true rfl | omega
      · first | exact Nat.le_of_ble_eq_true rfl | omega
  | 1, _, ei, h =>
    by_cases hlt : tt < 8
    · intro sz
      refine k_begin (cc := cX6_record) (maxL := 3) (ret := none) (by decide +kernel) rfl rfl (fun p e s m args below meth c hsz E G ls hl => ?_)
      subst hsz
      have hl : lv_has ls 3 [(0, .ref (ad 3 0)), (1, .ref (ad 1 0))] := hl
      refine lv_aload_n E.ex E.by dX6_record_0 rfl (lv_at hl 0 rfl) ?_
      refine lv_aload_n E.ex E.by dX6_record_1 rfl (lv_at hl 0 rfl) ?_
      refine k_get E G wi_X6_record_X6 (0) (gH_0 _ _ _ _ _) rfl 1 rfl fl_X6_record_X6_1 (v := .int (iI η 0)) rfl dX6_record_2 ?_
      refine lv_topi (fun y1 ey1 => ?_)
      have ey1 : y1 = nI 1 := ey1.trans (ei)
      subst ey1
      refine k_cVq (n := 1) (X := []) (w := (fl [wHi kc ad η, wKp kc ad kp, wC kc (ad 1) κ])) (Z := []) (wnew := (fun _ : Unit => (fl [wHi kc ad η, wKp kc ad kp, wC kc (ad 1) κ]))) (As := [.int (nI 1)]) (rest := []) E (List.append_nil _).symm G (c_X6_slotAt l D kc (fl [wHi kc ad η, wKp kc ad kp, wC kc (ad 1) κ]) 0 1 (ad 3 0) (ad 3 1) 1 _ _ (fun i => some (ad (20 + i) 0)) (gH_0 _ _ _ _ _) rfl (by decide)) gX6_record_X6_slotAt rfl ⟨rfl, rfl⟩ hd_X6_slotAt_v ⟨rfl, rfl⟩ (0) (gH_0 _ _ _ _ _) rfl rfl hl rfl rfl dX6_record_5 (⟨Nat.le_of_ble_eq_true rfl, Nat.le_of_ble_eq_true rfl⟩) (fun _ => (List.append_nil _).symm) (fun r2 u2 hq2 H locs G => ?_)
      subst hq2
      refine lv_astore_n (lv' := [(2, .ref (ad 21 0)), (0, .ref (ad 3 0)), (1, .ref (ad 1 0))]) E.ex E.by dX6_record_8 rfl hl (by decide) rfl (fun ls hl => ?_)
      refine lv_aload_n E.ex E.by dX6_record_9 rfl (lv_at hl 0 rfl) ?_
      refine lv_ifnonnull (tgt := 14) E.ex E.by dX6_record_10 (by decide) ?_
      refine lv_aload_n E.ex E.by dX6_record_14 rfl (lv_at hl 0 rfl) ?_
      refine lv_aload_n E.ex E.by dX6_record_15 rfl (lv_at hl 2 rfl) ?_
      have G := G.cg (wz := fl [wHi kc ad η, wC kc (ad 20) (kp 0), wC kc (ad 21) (kp 1), wC kc (ad 22) (kp 2), wC kc (ad 23) (kp 3), wC kc (ad 24) (kp 4), wC kc (ad 25) (kp 5), wC kc (ad 26) (kp 6), wC kc (ad 27) (kp 7), wC kc (ad 1) κ]) rfl
      have G := kG.sel (L := [wHi kc ad η, wC kc (ad 20) (kp 0), wC kc (ad 21) (kp 1), wC kc (ad 22) (kp 2), wC kc (ad 23) (kp 3), wC kc (ad 24) (kp 4), wC kc (ad 25) (kp 5), wC kc (ad 26) (kp 6), wC kc (ad 27) (kp 7), wC kc (ad 1) κ]) (L' := [wC kc (ad 21) (kp 1), wC kc (ad 1) κ, wHi kc ad η, wC kc (ad 20) (kp 0), wC kc (ad 22) (kp 2), wC kc (ad 23) (kp 3), wC kc (ad 24) (kp 4), wC kc (ad 25) (kp 5), wC kc (ad 26) (kp 6), wC kc (ad 27) (kp 7)]) G [2, 8] rfl
      refine k_cVv (n := 1) (X := []) (w := (xCC kc (ad 21) (ad 1) (kp 1) κ)) (Z := (fl [wHi kc ad η, wC kc (ad 20) (kp 0), wC kc (ad 22) (kp 2), wC kc (ad 23) (kp 3), wC kc (ad 24) (kp 4), wC kc (ad 25) (kp 5), wC kc (ad 26) (kp 6), wC kc (ad 27) (kp 7)])) (wnew := (fun u : US => (fl [wC kc (ad 21) u, wC kc (ad 1) κ, wHi kc ad η, wC kc (ad 20) (kp 0), wC kc (ad 22) (kp 2), wC kc (ad 23) (kp 3), wC kc (ad 24) (kp 4), wC kc (ad 25) (kp 5), wC kc (ad 26) (kp 6), wC kc (ad 27) (kp 7)]))) (As := [.ref (ad 1 0)]) (rest := []) E rfl G (c_X2_copyFrom l D kc (ad 21) (ad 1) _ _ _ h) gX6_record_X2_copyFrom rfl ⟨rfl, rfl⟩ hd_X2_copyFrom_v ⟨rfl, rfl⟩ (0) (gCC_0 _ _ _ _ _) rfl rfl hl rfl rfl dX6_record_16 (⟨rfl, rfl⟩) (fun _ => rfl) (fun u3 hq3 H locs G => ?_)
      have h := hq3
      have G := kG.sel (L := [wC kc (ad 21) u3, wC kc (ad 1) κ, wHi kc ad η, wC kc (ad 20) (kp 0), wC kc (ad 22) (kp 2), wC kc (ad 23) (kp 3), wC kc (ad 24) (kp 4), wC kc (ad 25) (kp 5), wC kc (ad 26) (kp 6), wC kc (ad 27) (kp 7)]) (L' := [wHi kc ad η, wC kc (ad 20) (kp 0), wC kc (ad 21) u3, wC kc (ad 22) (kp 2), wC kc (ad 23) (kp 3), wC kc (ad 24) (kp 4), wC kc (ad 25) (kp 5), wC kc (ad 26) (kp 6), wC kc (ad 27) (kp 7), wC kc (ad 1) κ]) G [2, 2, 0, 1, 1, 1, 1, 1, 1, 0] rfl
      have G := G.cg (wz := (fl [wHi kc ad η, wKp kc ad (kup kp 1 u3), wC kc (ad 1) κ])) rfl
      refine lv_aload_n E.ex E.by dX6_record_19 rfl (lv_at hl 1 rfl) ?_
      refine lv_aload_n E.ex E.by dX6_record_20 rfl (lv_at hl 1 rfl) ?_
      refine k_get E G wi_X6_record_X6 (0) (gH_0 _ _ _ _ _) rfl 1 rfl fl_X6_record_X6_1 (v := .int (iI η 0)) rfl dX6_record_21 ?_
      refine lv_topi (fun y4 ey4 => ?_)
      have ey4 : y4 = nI 1 := ey4.trans (ei)
      subst ey4
      refine lv_iconst (v := 1) E.ex E.by dX6_record_24 (by decide) ?_
      refine lv_iadd E.ex E.by dX6_record_25 ?_
      refine lv_topi (fun y5 ey5 => ?_)
      have ey5 : y5 = nI 2 := ey5.trans (by decide)
      subst ey5
      refine lv_bipush (v := 8) E.ex E.by dX6_record_26 (by decide) ?_
      refine lv_irem E.ex E.by dX6_record_28 (by decide) ?_
      refine lv_topi (fun y6 ey6 => ?_)
      have ey6 : y6 = nI 2 := ey6.trans (by decide)
      subst ey6
      refine k_putX E G wi_X6_record_X6 tyX6_ok nmX6 (0) (gH_0 _ _ _ _ _) rfl 1 rfl fl_X6_record_X6_1 rfl rfl rfl rfl ((fl [wHi kc ad (uI η 0 (nI 2)), wKp kc ad (kup kp 1 u3), wC kc (ad 1) κ])) rfl dX6_record_29 (fun H locs G => ?_)
      obtain ⟨η1, eη1⟩ : ∃ y : US, y = uI η 0 (nI 2) := ⟨_, rfl⟩
      rw [← eη1] at G
      refine lv_aload_n E.ex E.by dX6_record_32 rfl (lv_at hl 1 rfl) ?_
      refine k_get E G wi_X6_record_X6 (0) (gH_0 _ _ _ _ _) rfl 2 rfl fl_X6_record_X6_2 (v := .int (iI η1 1)) rfl dX6_record_33 ?_
      refine lv_topi (fun y7 ey7 => ?_)
      have ey7 : y7 = nI tt := ey7.trans (by rw [eη1]; exact (iI_uI_n (by decide)).trans et)
      subst ey7
      refine lv_bipush (v := 8) E.ex E.by dX6_record_36 (by decide) ?_
      refine lv_icmp_ge (tgt := 51) E.ex E.by dX6_record_38 (by decide) (fun hc => absurd hc (by rw [li8]; exact nI_ge hlt (by omega))) (fun hc => ?_)
      clear hc
      refine lv_aload_n E.ex E.by dX6_record_41 rfl (lv_at hl 1 rfl) ?_
      refine lv_dup E.ex E.by dX6_record_42 rfl ?_
      refine k_get E G wi_X6_record_X6 (0) (gH_0 _ _ _ _ _) rfl 2 rfl fl_X6_record_X6_2 (v := .int (iI η1 1)) rfl dX6_record_43 ?_
      refine lv_topi (fun y8 ey8 => ?_)
      have ey8 : y8 = nI tt := ey8.trans (by rw [eη1]; exact (iI_uI_n (by decide)).trans et)
      subst ey8
      refine lv_iconst (v := 1) E.ex E.by dX6_record_46 (by decide) ?_
      refine lv_iadd E.ex E.by dX6_record_47 ?_
      refine lv_topi (fun y9 ey9 => ?_)
      have ey9 : y9 = nI (tt + 1) := ey9.trans (nI_1 _)
      subst ey9
      refine k_putX E G wi_X6_record_X6 tyX6_ok nmX6 (0) (gH_0 _ _ _ _ _) rfl 2 rfl fl_X6_record_X6_2 rfl rfl rfl rfl ((fl [wHi kc ad (uI η1 1 (nI (tt + 1))), wKp kc ad (kup kp 1 u3), wC kc (ad 1) κ])) rfl dX6_record_48 (fun H locs G => ?_)
      obtain ⟨η2, eη2⟩ : ∃ y : US, y = uI η1 1 (nI (tt + 1)) := ⟨_, rfl⟩
      rw [← eη2] at G
      refine k_retv (wof := (fun u : US × (Nat → US) => (fl [wHi kc ad u.1, wKp kc ad u.2, wC kc (ad 1) κ]))) (u := (η2, (kup kp 1 u3))) E G ?_ ?_ ?_ dX6_record_51
      · exact h η2 (by rw [eη2]; exact (iI_uI_n (by decide)).trans (by rw [eη1]; exact iI_uI _ _ _)) (by rw [if_pos hlt, eη2]; exact iI_uI _ _ _)
      · first | exact Nat.le_of_ble_eq_true rfl | omega
      · first | exact Nat.le_of_ble_eq_true rfl | omega
    · intro sz
      refine k_begin (cc := cX6_record) (maxL := 3) (ret := none) (by decide +kernel) rfl rfl (fun p e s m args below meth c hsz E G ls hl => ?_)
      subst hsz
      have hl : lv_has ls 3 [(0, .ref (ad 3 0)), (1, .ref (ad 1 0))] := hl
      refine lv_aload_n E.ex E.by dX6_record_0 rfl (lv_at hl 0 rfl) ?_
      refine lv_aload_n E.ex E.by dX6_record_1 rfl (lv_at hl 0 rfl) ?_
      refine k_get E G wi_X6_record_X6 (0) (gH_0 _ _ _ _ _) rfl 1 rfl fl_X6_record_X6_1 (v := .int (iI η 0)) rfl dX6_record_2 ?_
      refine lv_topi (fun y1 ey1 => ?_)
      have ey1 : y1 = nI 1 := ey1.trans (ei)
      subst ey1
      refine k_cVq (n := 1) (X := []) (w := (fl [wHi kc ad η, wKp kc ad kp, wC kc (ad 1) κ])) (Z := []) (wnew := (fun _ : Unit => (fl [wHi kc ad η, wKp kc ad kp, wC kc (ad 1) κ]))) (As := [.int (nI 1)]) (rest := []) E (List.append_nil _).symm G (c_X6_slotAt l D kc (fl [wHi kc ad η, wKp kc ad kp, wC kc (ad 1) κ]) 0 1 (ad 3 0) (ad 3 1) 1 _ _ (fun i => some (ad (20 + i) 0)) (gH_0 _ _ _ _ _) rfl (by decide)) gX6_record_X6_slotAt rfl ⟨rfl, rfl⟩ hd_X6_slotAt_v ⟨rfl, rfl⟩ (0) (gH_0 _ _ _ _ _) rfl rfl hl rfl rfl dX6_record_5 (⟨Nat.le_of_ble_eq_true rfl, Nat.le_of_ble_eq_true rfl⟩) (fun _ => (List.append_nil _).symm) (fun r2 u2 hq2 H locs G => ?_)
      subst hq2
      refine lv_astore_n (lv' := [(2, .ref (ad 21 0)), (0, .ref (ad 3 0)), (1, .ref (ad 1 0))]) E.ex E.by dX6_record_8 rfl hl (by decide) rfl (fun ls hl => ?_)
      refine lv_aload_n E.ex E.by dX6_record_9 rfl (lv_at hl 0 rfl) ?_
      refine lv_ifnonnull (tgt := 14) E.ex E.by dX6_record_10 (by decide) ?_
      refine lv_aload_n E.ex E.by dX6_record_14 rfl (lv_at hl 0 rfl) ?_
      refine lv_aload_n E.ex E.by dX6_record_15 rfl (lv_at hl 2 rfl) ?_
      have G := G.cg (wz := fl [wHi kc ad η, wC kc (ad 20) (kp 0), wC kc (ad 21) (kp 1), wC kc (ad 22) (kp 2), wC kc (ad 23) (kp 3), wC kc (ad 24) (kp 4), wC kc (ad 25) (kp 5), wC kc (ad 26) (kp 6), wC kc (ad 27) (kp 7), wC kc (ad 1) κ]) rfl
      have G := kG.sel (L := [wHi kc ad η, wC kc (ad 20) (kp 0), wC kc (ad 21) (kp 1), wC kc (ad 22) (kp 2), wC kc (ad 23) (kp 3), wC kc (ad 24) (kp 4), wC kc (ad 25) (kp 5), wC kc (ad 26) (kp 6), wC kc (ad 27) (kp 7), wC kc (ad 1) κ]) (L' := [wC kc (ad 21) (kp 1), wC kc (ad 1) κ, wHi kc ad η, wC kc (ad 20) (kp 0), wC kc (ad 22) (kp 2), wC kc (ad 23) (kp 3), wC kc (ad 24) (kp 4), wC kc (ad 25) (kp 5), wC kc (ad 26) (kp 6), wC kc (ad 27) (kp 7)]) G [2, 8] rfl
      refine k_cVv (n := 1) (X := []) (w := (xCC kc (ad 21) (ad 1) (kp 1) κ)) (Z := (fl [wHi kc ad η, wC kc (ad 20) (kp 0), wC kc (ad 22) (kp 2), wC kc (ad 23) (kp 3), wC kc (ad 24) (kp 4), wC kc (ad 25) (kp 5), wC kc (ad 26) (kp 6), wC kc (ad 27) (kp 7)])) (wnew := (fun u : US => (fl [wC kc (ad 21) u, wC kc (ad 1) κ, wHi kc ad η, wC kc (ad 20) (kp 0), wC kc (ad 22) (kp 2), wC kc (ad 23) (kp 3), wC kc (ad 24) (kp 4), wC kc (ad 25) (kp 5), wC kc (ad 26) (kp 6), wC kc (ad 27) (kp 7)]))) (As := [.ref (ad 1 0)]) (rest := []) E rfl G (c_X2_copyFrom l D kc (ad 21) (ad 1) _ _ _ h) gX6_record_X2_copyFrom rfl ⟨rfl, rfl⟩ hd_X2_copyFrom_v ⟨rfl, rfl⟩ (0) (gCC_0 _ _ _ _ _) rfl rfl hl rfl rfl dX6_record_16 (⟨rfl, rfl⟩) (fun _ => rfl) (fun u3 hq3 H locs G => ?_)
      have h := hq3
      have G := kG.sel (L := [wC kc (ad 21) u3, wC kc (ad 1) κ, wHi kc ad η, wC kc (ad 20) (kp 0), wC kc (ad 22) (kp 2), wC kc (ad 23) (kp 3), wC kc (ad 24) (kp 4), wC kc (ad 25) (kp 5), wC kc (ad 26) (kp 6), wC kc (ad 27) (kp 7)]) (L' := [wHi kc ad η, wC kc (ad 20) (kp 0), wC kc (ad 21) u3, wC kc (ad 22) (kp 2), wC kc (ad 23) (kp 3), wC kc (ad 24) (kp 4), wC kc (ad 25) (kp 5), wC kc (ad 26) (kp 6), wC kc (ad 27) (kp 7), wC kc (ad 1) κ]) G [2, 2, 0, 1, 1, 1, 1, 1, 1, 0] rfl
      have G := G.cg (wz := (fl [wHi kc ad η, wKp kc ad (kup kp 1 u3), wC kc (ad 1) κ])) rfl
      refine lv_aload_n E.ex E.by dX6_record_19 rfl (lv_at hl 1 rfl) ?_
      refine lv_aload_n E.ex E.by dX6_record_20 rfl (lv_at hl 1 rfl) ?_
      refine k_get E G wi_X6_record_X6 (0) (gH_0 _ _ _ _ _) rfl 1 rfl fl_X6_record_X6_1 (v := .int (iI η 0)) rfl dX6_record_21 ?_
      refine lv_topi (fun y4 ey4 => ?_)
      have ey4 : y4 = nI 1 := ey4.trans (ei)
      subst ey4
      refine lv_iconst (v := 1) E.ex E.by dX6_record_24 (by decide) ?_
      refine lv_iadd E.ex E.by dX6_record_25 ?_
      refine lv_topi (fun y5 ey5 => ?_)
      have ey5 : y5 = nI 2 := ey5.trans (by decide)
      subst ey5
      refine lv_bipush (v := 8) E.ex E.by dX6_record_26 (by decide) ?_
      refine lv_irem E.ex E.by dX6_record_28 (by decide) ?_
      refine lv_topi (fun y6 ey6 => ?_)
      have ey6 : y6 = nI 2 := ey6.trans (by decide)
      subst ey6
      refine k_putX E G wi_X6_record_X6 tyX6_ok nmX6 (0) (gH_0 _ _ _ _ _) rfl 1 rfl fl_X6_record_X6_1 rfl rfl rfl rfl ((fl [wHi kc ad (uI η 0 (nI 2)), wKp kc ad (kup kp 1 u3), wC kc (ad 1) κ])) rfl dX6_record_29 (fun H locs G => ?_)
      obtain ⟨η1, eη1⟩ : ∃ y : US, y = uI η 0 (nI 2) := ⟨_, rfl⟩
      rw [← eη1] at G
      refine lv_aload_n E.ex E.by dX6_record_32 rfl (lv_at hl 1 rfl) ?_
      refine k_get E G wi_X6_record_X6 (0) (gH_0 _ _ _ _ _) rfl 2 rfl fl_X6_record_X6_2 (v := .int (iI η1 1)) rfl dX6_record_33 ?_
      refine lv_topi (fun y7 ey7 => ?_)
      have ey7 : y7 = nI tt := ey7.trans (by rw [eη1]; exact (iI_uI_n (by decide)).trans et)
      subst ey7
      refine lv_bipush (v := 8) E.ex E.by dX6_record_36 (by decide) ?_
      refine lv_icmp_ge (tgt := 51) E.ex E.by dX6_record_38 (by decide) (fun hc => ?_) (fun hc => absurd (by rw [li8]; exact nI_le (by omega) (by omega)) hc)
      clear hc
      refine k_retv (wof := (fun u : US × (Nat → US) => (fl [wHi kc ad u.1, wKp kc ad u.2, wC kc (ad 1) κ]))) (u := (η1, (kup kp 1 u3))) E G ?_ ?_ ?_ dX6_record_51
      · exact h η1 (by rw [eη1]; exact iI_uI _ _ _) (by rw [if_neg (by omega), eη1]; exact (iI_uI_n (by decide)).trans (et.trans (congrArg nI (by omega))))
      · first | exact Nat.le_of_ble_eq_true rfl | omega
      · first | exact Nat.le_of_ble_eq_true rfl | omega
  | 2, _, ei, h =>
    by_cases hlt : tt < 8
    · intro sz
      refine k_begin (cc := cX6_record) (maxL := 3) (ret := none) (by decide +kernel) rfl rfl (fun p e s m args below meth c hsz E G ls hl => ?_)
      subst hsz
      have hl : lv_has ls 3 [(0, .ref (ad 3 0)), (1, .ref (ad 1 0))] := hl
      refine lv_aload_n E.ex E.by dX6_record_0 rfl (lv_at hl 0 rfl) ?_
      refine lv_aload_n E.ex E.by dX6_record_1 rfl (lv_at hl 0 rfl) ?_
      refine k_get E G wi_X6_record_X6 (0) (gH_0 _ _ _ _ _) rfl 1 rfl fl_X6_record_X6_1 (v := .int (iI η 0)) rfl dX6_record_2 ?_
      refine lv_topi (fun y1 ey1 => ?_)
      have ey1 : y1 = nI 2 := ey1.trans (ei)
      subst ey1
      refine k_cVq (n := 1) (X := []) (w := (fl [wHi kc ad η, wKp kc ad kp, wC kc (ad 1) κ])) (Z := []) (wnew := (fun _ : Unit => (fl [wHi kc ad η, wKp kc ad kp, wC kc (ad 1) κ]))) (As := [.int (nI 2)]) (rest := []) E (List.append_nil _).symm G (c_X6_slotAt l D kc (fl [wHi kc ad η, wKp kc ad kp, wC kc (ad 1) κ]) 0 1 (ad 3 0) (ad 3 1) 2 _ _ (fun i => some (ad (20 + i) 0)) (gH_0 _ _ _ _ _) rfl (by decide)) gX6_record_X6_slotAt rfl ⟨rfl, rfl⟩ hd_X6_slotAt_v ⟨rfl, rfl⟩ (0) (gH_0 _ _ _ _ _) rfl rfl hl rfl rfl dX6_record_5 (⟨Nat.le_of_ble_eq_true rfl, Nat.le_of_ble_eq_true rfl⟩) (fun _ => (List.append_nil _).symm) (fun r2 u2 hq2 H locs G => ?_)
      subst hq2
      refine lv_astore_n (lv' := [(2, .ref (ad 22 0)), (0, .ref (ad 3 0)), (1, .ref (ad 1 0))]) E.ex E.by dX6_record_8 rfl hl (by decide) rfl (fun ls hl => ?_)
      refine lv_aload_n E.ex E.by dX6_record_9 rfl (lv_at hl 0 rfl) ?_
      refine lv_ifnonnull (tgt := 14) E.ex E.by dX6_record_10 (by decide) ?_
      refine lv_aload_n E.ex E.by dX6_record_14 rfl (lv_at hl 0 rfl) ?_
      refine lv_aload_n E.ex E.by dX6_record_15 rfl (lv_at hl 2 rfl) ?_
      have G := G.cg (wz := fl [wHi kc ad η, wC kc (ad 20) (kp 0), wC kc (ad 21) (kp 1), wC kc (ad 22) (kp 2), wC kc (ad 23) (kp 3), wC kc (ad 24) (kp 4), wC kc (ad 25) (kp 5), wC kc (ad 26) (kp 6), wC kc (ad 27) (kp 7), wC kc (ad 1) κ]) rfl
      have G := kG.sel (L := [wHi kc ad η, wC kc (ad 20) (kp 0), wC kc (ad 21) (kp 1), wC kc (ad 22) (kp 2), wC kc (ad 23) (kp 3), wC kc (ad 24) (kp 4), wC kc (ad 25) (kp 5), wC kc (ad 26) (kp 6), wC kc (ad 27) (kp 7), wC kc (ad 1) κ]) (L' := [wC kc (ad 22) (kp 2), wC kc (ad 1) κ, wHi kc ad η, wC kc (ad 20) (kp 0), wC kc (ad 21) (kp 1), wC kc (ad 23) (kp 3), wC kc (ad 24) (kp 4), wC kc (ad 25) (kp 5), wC kc (ad 26) (kp 6), wC kc (ad 27) (kp 7)]) G [3, 8] rfl
      refine k_cVv (n := 1) (X := []) (w := (xCC kc (ad 22) (ad 1) (kp 2) κ)) (Z := (fl [wHi kc ad η, wC kc (ad 20) (kp 0), wC kc (ad 21) (kp 1), wC kc (ad 23) (kp 3), wC kc (ad 24) (kp 4), wC kc (ad 25) (kp 5), wC kc (ad 26) (kp 6), wC kc (ad 27) (kp 7)])) (wnew := (fun u : US => (fl [wC kc (ad 22) u, wC kc (ad 1) κ, wHi kc ad η, wC kc (ad 20) (kp 0), wC kc (ad 21) (kp 1), wC kc (ad 23) (kp 3), wC kc (ad 24) (kp 4), wC kc (ad 25) (kp 5), wC kc (ad 26) (kp 6), wC kc (ad 27) (kp 7)]))) (As := [.ref (ad 1 0)]) (rest := []) E rfl G (c_X2_copyFrom l D kc (ad 22) (ad 1) _ _ _ h) gX6_record_X2_copyFrom rfl ⟨rfl, rfl⟩ hd_X2_copyFrom_v ⟨rfl, rfl⟩ (0) (gCC_0 _ _ _ _ _) rfl rfl hl rfl rfl dX6_record_16 (⟨rfl, rfl⟩) (fun _ => rfl) (fun u3 hq3 H locs G => ?_)
      have h := hq3
      have G := kG.sel (L := [wC kc (ad 22) u3, wC kc (ad 1) κ, wHi kc ad η, wC kc (ad 20) (kp 0), wC kc (ad 21) (kp 1), wC kc (ad 23) (kp 3), wC kc (ad 24) (kp 4), wC kc (ad 25) (kp 5), wC kc (ad 26) (kp 6), wC kc (ad 27) (kp 7)]) (L' := [wHi kc ad η, wC kc (ad 20) (kp 0), wC kc (ad 21) (kp 1), wC kc (ad 22) u3, wC kc (ad 23) (kp 3), wC kc (ad 24) (kp 4), wC kc (ad 25) (kp 5), wC kc (ad 26) (kp 6), wC kc (ad 27) (kp 7), wC kc (ad 1) κ]) G [2, 2, 2, 0, 1, 1, 1, 1, 1, 0] rfl
      have G := G.cg (wz := (fl [wHi kc ad η, wKp kc ad (kup kp 2 u3), wC kc (ad 1) κ])) rfl
      refine lv_aload_n E.ex E.by dX6_record_19 rfl (lv_at hl 1 rfl) ?_
      refine lv_aload_n E.ex E.by dX6_record_20 rfl (lv_at hl 1 rfl) ?_
      refine k_get E G wi_X6_record_X6 (0) (gH_0 _ _ _ _ _) rfl 1 rfl fl_X6_record_X6_1 (v := .int (iI η 0)) rfl dX6_record_21 ?_
      refine lv_topi (fun y4 ey4 => ?_)
      have ey4 : y4 = nI 2 := ey4.trans (ei)
      subst ey4
      refine lv_iconst (v := 1) E.ex E.by dX6_record_24 (by decide) ?_
      refine lv_iadd E.ex E.by dX6_record_25 ?_
      refine lv_topi (fun y5 ey5 => ?_)
      have ey5 : y5 = nI 3 := ey5.trans (by decide)
      subst ey5
      refine lv_bipush (v := 8) E.ex E.by dX6_record_26 (by decide) ?_
      refine lv_irem E.ex E.by dX6_record_28 (by decide) ?_
      refine lv_topi (fun y6 ey6 => ?_)
      have ey6 : y6 = nI 3 := ey6.trans (by decide)
      subst ey6
      refine k_putX E G wi_X6_record_X6 tyX6_ok nmX6 (0) (gH_0 _ _ _ _ _) rfl 1 rfl fl_X6_record_X6_1 rfl rfl rfl rfl ((fl [wHi kc ad (uI η 0 (nI 3)), wKp kc ad (kup kp 2 u3), wC kc (ad 1) κ])) rfl dX6_record_29 (fun H locs G => ?_)
      obtain ⟨η1, eη1⟩ : ∃ y : US, y = uI η 0 (nI 3) := ⟨_, rfl⟩
      rw [← eη1] at G
      refine lv_aload_n E.ex E.by dX6_record_32 rfl (lv_at hl 1 rfl) ?_
      refine k_get E G wi_X6_record_X6 (0) (gH_0 _ _ _ _ _) rfl 2 rfl fl_X6_record_X6_2 (v := .int (iI η1 1)) rfl dX6_record_33 ?_
      refine lv_topi (fun y7 ey7 => ?_)
      have ey7 : y7 = nI tt := ey7.trans (by rw [eη1]; exact (iI_uI_n (by decide)).trans et)
      subst ey7
      refine lv_bipush (v := 8) E.ex E.by dX6_record_36 (by decide) ?_
      refine lv_icmp_ge (tgt := 51) E.ex E.by dX6_record_38 (by decide) (fun hc => absurd hc (by rw [li8]; exact nI_ge hlt (by omega))) (fun hc => ?_)
      clear hc
      refine lv_aload_n E.ex E.by dX6_record_41 rfl (lv_at hl 1 rfl) ?_
      refine lv_dup E.ex E.by dX6_record_42 rfl ?_
      refine k_get E G wi_X6_record_X6 (0) (gH_0 _ _ _ _ _) rfl 2 rfl fl_X6_record_X6_2 (v := .int (iI η1 1)) rfl dX6_record_43 ?_
      refine lv_topi (fun y8 ey8 => ?_)
      have ey8 : y8 = nI tt := ey8.trans (by rw [eη1]; exact (iI_uI_n (by decide)).trans et)
      subst ey8
      refine lv_iconst (v := 1) E.ex E.by dX6_record_46 (by decide) ?_
      refine lv_iadd E.ex E.by dX6_record_47 ?_
      refine lv_topi (fun y9 ey9 => ?_)
      have ey9 : y9 = nI (tt + 1) := ey9.trans (nI_1 _)
      subst ey9
      refine k_putX E G wi_X6_record_X6 tyX6_ok nmX6 (0) (gH_0 _ _ _ _ _) rfl 2 rfl fl_X6_record_X6_2 rfl rfl rfl rfl ((fl [wHi kc ad (uI η1 1 (nI (tt + 1))), wKp kc ad (kup kp 2 u3), wC kc (ad 1) κ])) rfl dX6_record_48 (fun H locs G => ?_)
      obtain ⟨η2, eη2⟩ : ∃ y : US, y = uI η1 1 (nI (tt + 1)) := ⟨_, rfl⟩
      rw [← eη2] at G
      refine k_retv (wof := (fun u : US × (Nat → US) => (fl [wHi kc ad u.1, wKp kc ad u.2, wC kc (ad 1) κ]))) (u := (η2, (kup kp 2 u3))) E G ?_ ?_ ?_ dX6_record_51
      · exact h η2 (by rw [eη2]; exact (iI_uI_n (by decide)).trans (by rw [eη1]; exact iI_uI _ _ _)) (by rw [if_pos hlt, eη2]; exact iI_uI _ _ _)
      · first | exact Nat.le_of_ble_eq_true rfl | omega
      · first | exact Nat.le_of_ble_eq_true rfl | omega
    · intro sz
      refine k_begin (cc := cX6_record) (maxL := 3) (ret := none) (by decide +kernel) rfl rfl (fun p e s m args below meth c hsz E G ls hl => ?_)
      subst hsz
      have hl : lv_has ls 3 [(0, .ref (ad 3 0)), (1, .ref (ad 1 0))] := hl
      refine lv_aload_n E.ex E.by dX6_record_0 rfl (lv_at hl 0 rfl) ?_
      refine lv_aload_n E.ex E.by dX6_record_1 rfl (lv_at hl 0 rfl) ?_
      refine k_get E G wi_X6_record_X6 (0) (gH_0 _ _ _ _ _) rfl 1 rfl fl_X6_record_X6_1 (v := .int (iI η 0)) rfl dX6_record_2 ?_
      refine lv_topi (fun y1 ey1 => ?_)
      have ey1 : y1 = nI 2 := ey1.trans (ei)
      subst ey1
      refine k_cVq (n := 1) (X := []) (w := (fl [wHi kc ad η, wKp kc ad kp, wC kc (ad 1) κ])) (Z := []) (wnew := (fun _ : Unit => (fl [wHi kc ad η, wKp kc ad kp, wC kc (ad 1) κ]))) (As := [.int (nI 2)]) (rest := []) E (List.append_nil _).symm G (c_X6_slotAt l D kc (fl [wHi kc ad η, wKp kc ad kp, wC kc (ad 1) κ]) 0 1 (ad 3 0) (ad 3 1) 2 _ _ (fun i => some (ad (20 + i) 0)) (gH_0 _ _ _ _ _) rfl (by decide)) gX6_record_X6_slotAt rfl ⟨rfl, rfl⟩ hd_X6_slotAt_v ⟨rfl, rfl⟩ (0) (gH_0 _ _ _ _ _) rfl rfl hl rfl rfl dX6_record_5 (⟨Nat.le_of_ble_eq_true rfl, Nat.le_of_ble_eq_true rfl⟩) (fun _ => (List.append_nil _).symm) (fun r2 u2 hq2 H locs G => ?_)
      subst hq2
      refine lv_astore_n (lv' := [(2, .ref (ad 22 0)), (0, .ref (ad 3 0)), (1, .ref (ad 1 0))]) E.ex E.by dX6_record_8 rfl hl (by decide) rfl (fun ls hl => ?_)
      refine lv_aload_n E.ex E.by dX6_record_9 rfl (lv_at hl 0 rfl) ?_
      refine lv_ifnonnull (tgt := 14) E.ex E.by dX6_record_10 (by decide) ?_
      refine lv_aload_n E.ex E.by dX6_record_14 rfl (lv_at hl 0 rfl) ?_
      refine lv_aload_n E.ex E.by dX6_record_15 rfl (lv_at hl 2 rfl) ?_
      have G := G.cg (wz := fl [wHi kc ad η, wC kc (ad 20) (kp 0), wC kc (ad 21) (kp 1), wC kc (ad 22) (kp 2), wC kc (ad 23) (kp 3), wC kc (ad 24) (kp 4), wC kc (ad 25) (kp 5), wC kc (ad 26) (kp 6), wC kc (ad 27) (kp 7), wC kc (ad 1) κ]) rfl
      have G := kG.sel (L := [wHi kc ad η, wC kc (ad 20) (kp 0), wC kc (ad 21) (kp 1), wC kc (ad 22) (kp 2), wC kc (ad 23) (kp 3), wC kc (ad 24) (kp 4), wC kc (ad 25) (kp 5), wC kc (ad 26) (kp 6), wC kc (ad 27) (kp 7), wC kc (ad 1) κ]) (L' := [wC kc (ad 22) (kp 2), wC kc (ad 1) κ, wHi kc ad η, wC kc (ad 20) (kp 0), wC kc (ad 21) (kp 1), wC kc (ad 23) (kp 3), wC kc (ad 24) (kp 4), wC kc (ad 25) (kp 5), wC kc (ad 26) (kp 6), wC kc (ad 27) (kp 7)]) G [3, 8] rfl
      refine k_cVv (n := 1) (X := []) (w := (xCC kc (ad 22) (ad 1) (kp 2) κ)) (Z := (fl [wHi kc ad η, wC kc (ad 20) (kp 0), wC kc (ad 21) (kp 1), wC kc (ad 23) (kp 3), wC kc (ad 24) (kp 4), wC kc (ad 25) (kp 5), wC kc (ad 26) (kp 6), wC kc (ad 27) (kp 7)])) (wnew := (fun u : US => (fl [wC kc (ad 22) u, wC kc (ad 1) κ, wHi kc ad η, wC kc (ad 20) (kp 0), wC kc (ad 21) (kp 1), wC kc (ad 23) (kp 3), wC kc (ad 24) (kp 4), wC kc (ad 25) (kp 5), wC kc (ad 26) (kp 6), wC kc (ad 27) (kp 7)]))) (As := [.ref (ad 1 0)]) (rest := []) E rfl G (c_X2_copyFrom l D kc (ad 22) (ad 1) _ _ _ h) gX6_record_X2_copyFrom rfl ⟨rfl, rfl⟩ hd_X2_copyFrom_v ⟨rfl, rfl⟩ (0) (gCC_0 _ _ _ _ _) rfl rfl hl rfl rfl dX6_record_16 (⟨rfl, rfl⟩) (fun _ => rfl) (fun u3 hq3 H locs G => ?_)
      have h := hq3
      have G := kG.sel (L := [wC kc (ad 22) u3, wC kc (ad 1) κ, wHi kc ad η, wC kc (ad 20) (kp 0), wC kc (ad 21) (kp 1), wC kc (ad 23) (kp 3), wC kc (ad 24) (kp 4), wC kc (ad 25) (kp 5), wC kc (ad 26) (kp 6), wC kc (ad 27) (kp 7)]) (L' := [wHi kc ad η, wC kc (ad 20) (kp 0), wC kc (ad 21) (kp 1), wC kc (ad 22) u3, wC kc (ad 23) (kp 3), wC kc (ad 24) (kp 4), wC kc (ad 25) (kp 5), wC kc (ad 26) (kp 6), wC kc (ad 27) (kp 7), wC kc (ad 1) κ]) G [2, 2, 2, 0, 1, 1, 1, 1, 1, 0] rfl
      have G := G.cg (wz := (fl [wHi kc ad η, wKp kc ad (kup kp 2 u3), wC kc (ad 1) κ])) rfl
      refine lv_aload_n E.ex E.by dX6_record_19 rfl (lv_at hl 1 rfl) ?_
      refine lv_aload_n E.ex E.by dX6_record_20 rfl (lv_at hl 1 rfl) ?_
      refine k_get E G wi_X6_record_X6 (0) (gH_0 _ _ _ _ _) rfl 1 rfl fl_X6_record_X6_1 (v := .int (iI η 0)) rfl dX6_record_21 ?_
      refine lv_topi (fun y4 ey4 => ?_)
      have ey4 : y4 = nI 2 := ey4.trans (ei)
      subst ey4
      refine lv_iconst (v := 1) E.ex E.by dX6_record_24 (by decide) ?_
      refine lv_iadd E.ex E.by dX6_record_25 ?_
      refine lv_topi (fun y5 ey5 => ?_)
      have ey5 : y5 = nI 3 := ey5.trans (by decide)
      subst ey5
      refine lv_bipush (v := 8) E.ex E.by dX6_record_26 (by decide) ?_
      refine lv_irem E.ex E.by dX6_record_28 (by decide) ?_
      refine lv_topi (fun y6 ey6 => ?_)
      have ey6 : y6 = nI 3 := ey6.trans (by decide)
      subst ey6
      refine k_putX E G wi_X6_record_X6 tyX6_ok nmX6 (0) (gH_0 _ _ _ _ _) rfl 1 rfl fl_X6_record_X6_1 rfl rfl rfl rfl ((fl [wHi kc ad (uI η 0 (nI 3)), wKp kc ad (kup kp 2 u3), wC kc (ad 1) κ])) rfl dX6_record_29 (fun H locs G => ?_)
      obtain ⟨η1, eη1⟩ : ∃ y : US, y = uI η 0 (nI 3) := ⟨_, rfl⟩
      rw [← eη1] at G
      refine lv_aload_n E.ex E.by dX6_record_32 rfl (lv_at hl 1 rfl) ?_
      refine k_get E G wi_X6_record_X6 (0) (gH_0 _ _ _ _ _) rfl 2 rfl fl_X6_record_X6_2 (v := .int (iI η1 1)) rfl dX6_record_33 ?_
      refine lv_topi (fun y7 ey7 => ?_)
      have ey7 : y7 = nI tt := ey7.trans (by rw [eη1]; exact (iI_uI_n (by decide)).trans et)
      subst ey7
      refine lv_bipush (v := 8) E.ex E.by dX6_record_36 (by decide) ?_
      refine lv_icmp_ge (tgt := 51) E.ex E.by dX6_record_38 (by decide) (fun hc => ?_) (fun hc => absurd (by rw [li8]; exact nI_le (by omega) (by omega)) hc)
      clear hc
      refine k_retv (wof := (fun u : US × (Nat → US) => (fl [wHi kc ad u.1, wKp kc ad u.2, wC kc (ad 1) κ]))) (u := (η1, (kup kp 2 u3))) E G ?_ ?_ ?_ dX6_record_51
      · exact h η1 (by rw [eη1]; exact iI_uI _ _ _) (by rw [if_neg (by omega), eη1]; exact (iI_uI_n (by decide)).trans (et.trans (congrArg nI (by omega))))
      · first | exact Nat.le_of_ble_eq_true rfl | omega
      · first | exact Nat.le_of_ble_eq_true rfl | omega
  | 3, _, ei, h =>
    by_cases hlt : tt < 8
    · intro sz
      refine k_begin (cc := cX6_record) (maxL := 3) (ret := none) (by decide +kernel) rfl rfl (fun p e s m args below meth c hsz E G ls hl => ?_)
      subst hsz
      have hl : lv_has ls 3 [(0, .ref (ad 3 0)), (1, .ref (ad 1 0))] := hl
      refine lv_aload_n E.ex E.by dX6_record_0 rfl (lv_at hl 0 rfl) ?_
      refine lv_aload_n E.ex E.by dX6_record_1 rfl (lv_at hl 0 rfl) ?_
      refine k_get E G wi_X6_record_X6 (0) (gH_0 _ _ _ _ _) rfl 1 rfl fl_X6_record_X6_1 (v := .int (iI η 0)) rfl dX6_record_2 ?_
      refine lv_topi (fun y1 ey1 => ?_)
      have ey1 : y1 = nI 3 := ey1.trans (ei)
      subst ey1
      refine k_cVq (n := 1) (X := []) (w := (fl [wHi kc ad η, wKp kc ad kp, wC kc (ad 1) κ])) (Z := []) (wnew := (fun _ : Unit => (fl [wHi kc ad η, wKp kc ad kp, wC kc (ad 1) κ]))) (As := [.int (nI 3)]) (rest := []) E (List.append_nil _).symm G (c_X6_slotAt l D kc (fl [wHi kc ad η, wKp kc ad kp, wC kc (ad 1) κ]) 0 1 (ad 3 0) (ad 3 1) 3 _ _ (fun i => some (ad (20 + i) 0)) (gH_0 _ _ _ _ _) rfl (by decide)) gX6_record_X6_slotAt rfl ⟨rfl, rfl⟩ hd_X6_slotAt_v ⟨rfl, rfl⟩ (0) (gH_0 _ _ _ _ _) rfl rfl hl rfl rfl dX6_record_5 (⟨Nat.le_of_ble_eq_true rfl, Nat.le_of_ble_eq_true rfl⟩) (fun _ => (List.append_nil _).symm) (fun r2 u2 hq2 H locs G => ?_)
      subst hq2
      refine lv_astore_n (lv' := [(2, .ref (ad 23 0)), (0, .ref (ad 3 0)), (1, .ref (ad 1 0))]) E.ex E.by dX6_record_8 rfl hl (by decide) rfl (fun ls hl => ?_)
      refine lv_aload_n E.ex E.by dX6_record_9 rfl (lv_at hl 0 rfl) ?_
      refine lv_ifnonnull (tgt := 14) E.ex E.by dX6_record_10 (by decide) ?_
      refine lv_aload_n E.ex E.by dX6_record_14 rfl (lv_at hl 0 rfl) ?_
      refine lv_aload_n E.ex E.by dX6_record_15 rfl (lv_at hl 2 rfl) ?_
      have G := G.cg (wz := fl [wHi kc ad η, wC kc (ad 20) (kp 0), wC kc (ad 21) (kp 1), wC kc (ad 22) (kp 2), wC kc (ad 23) (kp 3), wC kc (ad 24) (kp 4), wC kc (ad 25) (kp 5), wC kc (ad 26) (kp 6), wC kc (ad 27) (kp 7), wC kc (ad 1) κ]) rfl
      have G := kG.sel (L := [wHi kc ad η, wC kc (ad 20) (kp 0), wC kc (ad 21) (kp 1), wC kc (ad 22) (kp 2), wC kc (ad 23) (kp 3), wC kc (ad 24) (kp 4), wC kc (ad 25) (kp 5), wC kc (ad 26) (kp 6), wC kc (ad 27) (kp 7), wC kc (ad 1) κ]) (L' := [wC kc (ad 23) (kp 3), wC kc (ad 1) κ, wHi kc ad η, wC kc (ad 20) (kp 0), wC kc (ad 21) (kp 1), wC kc (ad 22) (kp 2), wC kc (ad 24) (kp 4), wC kc (ad 25) (kp 5), wC kc (ad 26) (kp 6), wC kc (ad 27) (kp 7)]) G [4, 8] rfl
      refine k_cVv (n := 1) (X := []) (w := (xCC kc (ad 23) (ad 1) (kp 3) κ)) (Z := (fl [wHi kc ad η, wC kc (ad 20) (kp 0), wC kc (ad 21) (kp 1), wC kc (ad 22) (kp 2), wC kc (ad 24) (kp 4), wC kc (ad 25) (kp 5), wC kc (ad 26) (kp 6), wC kc (ad 27) (kp 7)])) (wnew := (fun u : US => (fl [wC kc (ad 23) u, wC kc (ad 1) κ, wHi kc ad η, wC kc (ad 20) (kp 0), wC kc (ad 21) (kp 1), wC kc (ad 22) (kp 2), wC kc (ad 24) (kp 4), wC kc (ad 25) (kp 5), wC kc (ad 26) (kp 6), wC kc (ad 27) (kp 7)]))) (As := [.ref (ad 1 0)]) (rest := []) E rfl G (c_X2_copyFrom l D kc (ad 23) (ad 1) _ _ _ h) gX6_record_X2_copyFrom rfl ⟨rfl, rfl⟩ hd_X2_copyFrom_v ⟨rfl, rfl⟩ (0) (gCC_0 _ _ _ _ _) rfl rfl hl rfl rfl dX6_record_16 (⟨rfl, rfl⟩) (fun _ => rfl) (fun u3 hq3 H locs G => ?_)
      have h := hq3
      have G := kG.sel (L := [wC kc (ad 23) u3, wC kc (ad 1) κ, wHi kc ad η, wC kc (ad 20) (kp 0), wC kc (ad 21) (kp 1), wC kc (ad 22) (kp 2), wC kc (ad 24) (kp 4), wC kc (ad 25) (kp 5), wC kc (ad 26) (kp 6), wC kc (ad 27) (kp 7)]) (L' := [wHi kc ad η, wC kc (ad 20) (kp 0), wC kc (ad 21) (kp 1), wC kc (ad 22) (kp 2), wC kc (ad 23) u3, wC kc (ad 24) (kp 4), wC kc (ad 25) (kp 5), wC kc (ad 26) (kp 6), wC kc (ad 27) (kp 7), wC kc (ad 1) κ]) G [2, 2, 2, 2, 0, 1, 1, 1, 1, 0] rfl
      have G := G.cg (wz := (fl [wHi kc ad η, wKp kc ad (kup kp 3 u3), wC kc (ad 1) κ])) rfl
      refine lv_aload_n E.ex E.by dX6_record_19 rfl (lv_at hl 1 rfl) ?_
      refine lv_aload_n E.ex E.by dX6_record_20 rfl (lv_at hl 1 rfl) ?_
      refine k_get E G wi_X6_record_X6 (0) (gH_0 _ _ _ _ _) rfl 1 rfl fl_X6_record_X6_1 (v := .int (iI η 0)) rfl dX6_record_21 ?_
      refine lv_topi (fun y4 ey4 => ?_)
      have ey4 : y4 = nI 3 := ey4.trans (ei)
      subst ey4
      refine lv_iconst (v := 1) E.ex E.by dX6_record_24 (by decide) ?_
      refine lv_iadd E.ex E.by dX6_record_25 ?_
      refine lv_topi (fun y5 ey5 => ?_)
      have ey5 : y5 = nI 4 := ey5.trans (by decide)
      subst ey5
      refine lv_bipush (v := 8) E.ex E.by dX6_record_26 (by decide) ?_
      refine lv_irem E.ex E.by dX6_record_28 (by decide) ?_
      refine lv_topi (fun y6 ey6 => ?_)
      have ey6 : y6 = nI 4 := ey6.trans (by decide)
      subst ey6
      refine k_putX E G wi_X6_record_X6 tyX6_ok nmX6 (0) (gH_0 _ _ _ _ _) rfl 1 rfl fl_X6_record_X6_1 rfl rfl rfl rfl ((fl [wHi kc ad (uI η 0 (nI 4)), wKp kc ad (kup kp 3 u3), wC kc (ad 1) κ])) rfl dX6_record_29 (fun H locs G => ?_)
      obtain ⟨η1, eη1⟩ : ∃ y : US, y = uI η 0 (nI 4) := ⟨_, rfl⟩
      rw [← eη1] at G
      refine lv_aload_n E.ex E.by dX6_record_32 rfl (lv_at hl 1 rfl) ?_
      refine k_get E G wi_X6_record_X6 (0) (gH_0 _ _ _ _ _) rfl 2 rfl fl_X6_record_X6_2 (v := .int (iI η1 1)) rfl dX6_record_33 ?_
      refine lv_topi (fun y7 ey7 => ?_)
      have ey7 : y7 = nI tt := ey7.trans (by rw [eη1]; exact (iI_uI_n (by decide)).trans et)
      subst ey7
      refine lv_bipush (v := 8) E.ex E.by dX6_record_36 (by decide) ?_
      refine lv_icmp_ge (tgt := 51) E.ex E.by dX6_record_38 (by decide) (fun hc => absurd hc (by rw [li8]; exact nI_ge hlt (by omega))) (fun hc => ?_)
      clear hc
      refine lv_aload_n E.ex E.by dX6_record_41 rfl (lv_at hl 1 rfl) ?_
      refine lv_dup E.ex E.by dX6_record_42 rfl ?_
      refine k_get E G wi_X6_record_X6 (0) (gH_0 _ _ _ _ _) rfl 2 rfl fl_X6_record_X6_2 (v := .int (iI η1 1)) rfl dX6_record_43 ?_
      refine lv_topi (fun y8 ey8 => ?_)
      have ey8 : y8 = nI tt := ey8.trans (by rw [eη1]; exact (iI_uI_n (by decide)).trans et)
      subst ey8
      refine lv_iconst (v := 1) E.ex E.by dX6_record_46 (by decide) ?_
      refine lv_iadd E.ex E.by dX6_record_47 ?_
      refine lv_topi (fun y9 ey9 => ?_)
      have ey9 : y9 = nI (tt + 1) := ey9.trans (nI_1 _)
      subst ey9
      refine k_putX E G wi_X6_record_X6 tyX6_ok nmX6 (0) (gH_0 _ _ _ _ _) rfl 2 rfl fl_X6_record_X6_2 rfl rfl rfl rfl ((fl [wHi kc ad (uI η1 1 (nI (tt + 1))), wKp kc ad (kup kp 3 u3), wC kc (ad 1) κ])) rfl dX6_record_48 (fun H locs G => ?_)
      obtain ⟨η2, eη2⟩ : ∃ y : US, y = uI η1 1 (nI (tt + 1)) := ⟨_, rfl⟩
      rw [← eη2] at G
      refine k_retv (wof := (fun u : US × (Nat → US) => (fl [wHi kc ad u.1, wKp kc ad u.2, wC kc (ad 1) κ]))) (u := (η2, (kup kp 3 u3))) E G ?_ ?_ ?_ dX6_record_51
      · exact h η2 (by rw [eη2]; exact (iI_uI_n (by decide)).trans (by rw [eη1]; exact iI_uI _ _ _)) (by rw [if_pos hlt, eη2]; exact iI_uI _ _ _)
      · first | exact Nat.le_of_ble_eq_true rfl | omega
      · first | exact Nat.le_of_ble_eq_true rfl | omega
    · intro sz
      refine k_begin (cc := cX6_record) (maxL := 3) (ret := none) (by decide +kernel) rfl rfl (fun p e s m args below meth c hsz E G ls hl => ?_)
      subst hsz
      have hl : lv_has ls 3 [(0, .ref (ad 3 0)), (1, .ref (ad 1 0))] := hl
      refine lv_aload_n E.ex E.by dX6_record_0 rfl (lv_at hl 0 rfl) ?_
      refine lv_aload_n E.ex E.by dX6_record_1 rfl (lv_at hl 0 rfl) ?_
      refine k_get E G wi_X6_record_X6 (0) (gH_0 _ _ _ _ _) rfl 1 rfl fl_X6_record_X6_1 (v := .int (iI η 0)) rfl dX6_record_2 ?_
      refine lv_topi (fun y1 ey1 => ?_)
      have ey1 : y1 = nI 3 := ey1.trans (ei)
      subst ey1
      refine k_cVq (n := 1) (X := []) (w := (fl [wHi kc ad η, wKp kc ad kp, wC kc (ad 1) κ])) (Z := []) (wnew := (fun _ : Unit => (fl [wHi kc ad η, wKp kc ad kp, wC kc (ad 1) κ]))) (As := [.int (nI 3)]) (rest := []) E (List.append_nil _).symm G (c_X6_slotAt l D kc (fl [wHi kc ad η, wKp kc ad kp, wC kc (ad 1) κ]) 0 1 (ad 3 0) (ad 3 1) 3 _ _ (fun i => some (ad (20 + i) 0)) (gH_0 _ _ _ _ _) rfl (by decide)) gX6_record_X6_slotAt rfl ⟨rfl, rfl⟩ hd_X6_slotAt_v ⟨rfl, rfl⟩ (0) (gH_0 _ _ _ _ _) rfl rfl hl rfl rfl dX6_record_5 (⟨Nat.le_of_ble_eq_true rfl, Nat.le_of_ble_eq_true rfl⟩) (fun _ => (List.append_nil _).symm) (fun r2 u2 hq2 H locs G => ?_)
      subst hq2
      refine lv_astore_n (lv' := [(2, .ref (ad 23 0)), (0, .ref (ad 3 0)), (1, .ref (ad 1 0))]) E.ex E.by dX6_record_8 rfl hl (by decide) rfl (fun ls hl => ?_)
      refine lv_aload_n E.ex E.by dX6_record_9 rfl (lv_at hl 0 rfl) ?_
      refine lv_ifnonnull (tgt := 14) E.ex E.by dX6_record_10 (by decide) ?_
      refine lv_aload_n E.ex E.by dX6_record_14 rfl (lv_at hl 0 rfl) ?_
      refine lv_aload_n E.ex E.by dX6_record_15 rfl (lv_at hl 2 rfl) ?_
      have G := G.cg (wz := fl [wHi kc ad η, wC kc (ad 20) (kp 0), wC kc (ad 21) (kp 1), wC kc (ad 22) (kp 2), wC kc (ad 23) (kp 3), wC kc (ad 24) (kp 4), wC kc (ad 25) (kp 5), wC kc (ad 26) (kp 6), wC kc (ad 27) (kp 7), wC kc (ad 1) κ]) rfl
      have G := kG.sel (L := [wHi kc ad η, wC kc (ad 20) (kp 0), wC kc (ad 21) (kp 1), wC kc (ad 22) (kp 2), wC kc (ad 23) (kp 3), wC kc (ad 24) (kp 4), wC kc (ad 25) (kp 5), wC kc (ad 26) (kp 6), wC kc (ad 27) (kp 7), wC kc (ad 1) κ]) (L' := [wC kc (ad 23) (kp 3), wC kc (ad 1) κ, wHi kc ad η, wC kc (ad 20) (kp 0), wC kc (ad 21) (kp 1), wC kc (ad 22) (kp 2), wC kc (ad 24) (kp 4), wC kc (ad 25) (kp 5), wC kc (ad 26) (kp 6), wC kc (ad 27) (kp 7)]) G [4, 8] rfl
      refine k_cVv (n := 1) (X := []) (w := (xCC kc (ad 23) (ad 1) (kp 3) κ)) (Z := (fl [wHi kc ad η, wC kc (ad 20) (kp 0), wC kc (ad 21) (kp 1), wC kc (ad 22) (kp 2), wC kc (ad 24) (kp 4), wC kc (ad 25) (kp 5), wC kc (ad 26) (kp 6), wC kc (ad 27) (kp 7)])) (wnew := (fun u : US => (fl [wC kc (ad 23) u, wC kc (ad 1) κ, wHi kc ad η, wC kc (ad 20) (kp 0), wC kc (ad 21) (kp 1), wC kc (ad 22) (kp 2), wC kc (ad 24) (kp 4), wC kc (ad 25) (kp 5), wC kc (ad 26) (kp 6), wC kc (ad 27) (kp 7)]))) (As := [.ref (ad 1 0)]) (rest := []) E rfl G (c_X2_copyFrom l D kc (ad 23) (ad 1) _ _ _ h) gX6_record_X2_copyFrom rfl ⟨rfl, rfl⟩ hd_X2_copyFrom_v ⟨rfl, rfl⟩ (0) (gCC_0 _ _ _ _ _) rfl rfl hl rfl rfl dX6_record_16 (⟨rfl, rfl⟩) (fun _ => rfl) (fun u3 hq3 H locs G => ?_)
      have h := hq3
      have G := kG.sel (L := [wC kc (ad 23) u3, wC kc (ad 1) κ, wHi kc ad η, wC kc (ad 20) (kp 0), wC kc (ad 21) (kp 1), wC kc (ad 22) (kp 2), wC kc (ad 24) (kp 4), wC kc (ad 25) (kp 5), wC kc (ad 26) (kp 6), wC kc (ad 27) (kp 7)]) (L' := [wHi kc ad η, wC kc (ad 20) (kp 0), wC kc (ad 21) (kp 1), wC kc (ad 22) (kp 2), wC kc (ad 23) u3, wC kc (ad 24) (kp 4), wC kc (ad 25) (kp 5), wC kc (ad 26) (kp 6), wC kc (ad 27) (kp 7), wC kc (ad 1) κ]) G [2, 2, 2, 2, 0, 1, 1, 1, 1, 0] rfl
      have G := G.cg (wz := (fl [wHi kc ad η, wKp kc ad (kup kp 3 u3), wC kc (ad 1) κ])) rfl
      refine lv_aload_n E.ex E.by dX6_record_19 rfl (lv_at hl 1 rfl) ?_
      refine lv_aload_n E.ex E.by dX6_record_20 rfl (lv_at hl 1 rfl) ?_
      refine k_get E G wi_X6_record_X6 (0) (gH_0 _ _ _ _ _) rfl 1 rfl fl_X6_record_X6_1 (v := .int (iI η 0)) rfl dX6_record_21 ?_
      refine lv_topi (fun y4 ey4 => ?_)
      have ey4 : y4 = nI 3 := ey4.trans (ei)
      subst ey4
      refine lv_iconst (v := 1) E.ex E.by dX6_record_24 (by decide) ?_
      refine lv_iadd E.ex E.by dX6_record_25 ?_
      refine lv_topi (fun y5 ey5 => ?_)
      have ey5 : y5 = nI 4 := ey5.trans (by decide)
      subst ey5
      refine lv_bipush (v := 8) E.ex E.by dX6_record_26 (by decide) ?_
      refine lv_irem E.ex E.by dX6_record_28 (by decide) ?_
      refine lv_topi (fun y6 ey6 => ?_)
      have ey6 : y6 = nI 4 := ey6.trans (by decide)
      subst ey6
      refine k_putX E G wi_X6_record_X6 tyX6_ok nmX6 (0) (gH_0 _ _ _ _ _) rfl 1 rfl fl_X6_record_X6_1 rfl rfl rfl rfl ((fl [wHi kc ad (uI η 0 (nI 4)), wKp kc ad (kup kp 3 u3), wC kc (ad 1) κ])) rfl dX6_record_29 (fun H locs G => ?_)
      obtain ⟨η1, eη1⟩ : ∃ y : US, y = uI η 0 (nI 4) := ⟨_, rfl⟩
      rw [← eη1] at G
      refine lv_aload_n E.ex E.by dX6_record_32 rfl (lv_at hl 1 rfl) ?_
      refine k_get E G wi_X6_record_X6 (0) (gH_0 _ _ _ _ _) rfl 2 rfl fl_X6_record_X6_2 (v := .int (iI η1 1)) rfl dX6_record_33 ?_
      refine lv_topi (fun y7 ey7 => ?_)
      have ey7 : y7 = nI tt := ey7.trans (by rw [eη1]; exact (iI_uI_n (by decide)).trans et)
      subst ey7
      refine lv_bipush (v := 8) E.ex E.by dX6_record_36 (by decide) ?_
      refine lv_icmp_ge (tgt := 51) E.ex E.by dX6_record_38 (by decide) (fun hc => ?_) (fun hc => absurd (by rw [li8]; exact nI_le (by omega) (by omega)) hc)
      clear hc
      refine k_retv (wof := (fun u : US × (Nat → US) => (fl [wHi kc ad u.1, wKp kc ad u.2, wC kc (ad 1) κ]))) (u := (η1, (kup kp 3 u3))) E G ?_ ?_ ?_ dX6_record_51
      · exact h η1 (by rw [eη1]; exact iI_uI _ _ _) (by rw [if_neg (by omega), eη1]; exact (iI_uI_n (by decide)).trans (et.trans (congrArg nI (by omega))))
      · first | exact Nat.le_of_ble_eq_true rfl | omega
      · first | exact Nat.le_of_ble_eq_true rfl | omega
  | 4, _, ei, h =>
    by_cases hlt : tt < 8
    · intro sz
      refine k_begin (cc := cX6_record) (maxL := 3) (ret := none) (by decide +kernel) rfl rfl (fun p e s m args below meth c hsz E G ls hl => ?_)
      subst hsz
      have hl : lv_has ls 3 [(0, .ref (ad 3 0)), (1, .ref (ad 1 0))] := hl
      refine lv_aload_n E.ex E.by dX6_record_0 rfl (lv_at hl 0 rfl) ?_
      refine lv_aload_n E.ex E.by dX6_record_1 rfl (lv_at hl 0 rfl) ?_
      refine k_get E G wi_X6_record_X6 (0) (gH_0 _ _ _ _ _) rfl 1 rfl fl_X6_record_X6_1 (v := .int (iI η 0)) rfl dX6_record_2 ?_
      refine lv_topi (fun y1 ey1 => ?_)
      have ey1 : y1 = nI 4 := ey1.trans (ei)
      subst ey1
      refine k_cVq (n := 1) (X := []) (w := (fl [wHi kc ad η, wKp kc ad kp, wC kc (ad 1) κ])) (Z := []) (wnew := (fun _ : Unit => (fl [wHi kc ad η, wKp kc ad kp, wC kc (ad 1) κ]))) (As := [.int (nI 4)]) (rest := []) E (List.append_nil _).symm G (c_X6_slotAt l D kc (fl [wHi kc ad η, wKp kc ad kp, wC kc (ad 1) κ]) 0 1 (ad 3 0) (ad 3 1) 4 _ _ (fun i => some (ad (20 + i) 0)) (gH_0 _ _ _ _ _) rfl (by decide)) gX6_record_X6_slotAt rfl ⟨rfl, rfl⟩ hd_X6_slotAt_v ⟨rfl, rfl⟩ (0) (gH_0 _ _ _ _ _) rfl rfl hl rfl rfl dX6_record_5 (⟨Nat.le_of_ble_eq_true rfl, Nat.le_of_ble_eq_true rfl⟩) (fun _ => (List.append_nil _).symm) (fun r2 u2 hq2 H locs G => ?_)
      subst hq2
      refine lv_astore_n (lv' := [(2, .ref (ad 24 0)), (0, .ref (ad 3 0)), (1, .ref (ad 1 0))]) E.ex E.by dX6_record_8 rfl hl (by decide) rfl (fun ls hl => ?_)
      refine lv_aload_n E.ex E.by dX6_record_9 rfl (lv_at hl 0 rfl) ?_
      refine lv_ifnonnull (tgt := 14) E.ex E.by dX6_record_10 (by decide) ?_
      refine lv_aload_n E.ex E.by dX6_record_14 rfl (lv_at hl 0 rfl) ?_
      refine lv_aload_n E.ex E.by dX6_record_15 rfl (lv_at hl 2 rfl) ?_
      have G := G.cg (wz := fl [wHi kc ad η, wC kc (ad 20) (kp 0), wC kc (ad 21) (kp 1), wC kc (ad 22) (kp 2), wC kc (ad 23) (kp 3), wC kc (ad 24) (kp 4), wC kc (ad 25) (kp 5), wC kc (ad 26) (kp 6), wC kc (ad 27) (kp 7), wC kc (ad 1) κ]) rfl
      have G := kG.sel (L := [wHi kc ad η, wC kc (ad 20) (kp 0), wC kc (ad 21) (kp 1), wC kc (ad 22) (kp 2), wC kc (ad 23) (kp 3), wC kc (ad 24) (kp 4), wC kc (ad 25) (kp 5), wC kc (ad 26) (kp 6), wC kc (ad 27) (kp 7), wC kc (ad 1) κ]) (L' := [wC kc (ad 24) (kp 4), wC kc (ad 1) κ, wHi kc ad η, wC kc (ad 20) (kp 0), wC kc (ad 21) (kp 1), wC kc (ad 22) (kp 2), wC kc (ad 23) (kp 3), wC kc (ad 25) (kp 5), wC kc (ad 26) (kp 6), wC kc (ad 27) (kp 7)]) G [5, 8] rfl
      refine k_cVv (n := 1) (X := []) (w := (xCC kc (ad 24) (ad 1) (kp 4) κ)) (Z := (fl [wHi kc ad η, wC kc (ad 20) (kp 0), wC kc (ad 21) (kp 1), wC kc (ad 22) (kp 2), wC kc (ad 23) (kp 3), wC kc (ad 25) (kp 5), wC kc (ad 26) (kp 6), wC kc (ad 27) (kp 7)])) (wnew := (fun u : US => (fl [wC kc (ad 24) u, wC kc (ad 1) κ, wHi kc ad η, wC kc (ad 20) (kp 0), wC kc (ad 21) (kp 1), wC kc (ad 22) (kp 2), wC kc (ad 23) (kp 3), wC kc (ad 25) (kp 5), wC kc (ad 26) (kp 6), wC kc (ad 27) (kp 7)]))) (As := [.ref (ad 1 0)]) (rest := []) E rfl G (c_X2_copyFrom l D kc (ad 24) (ad 1) _ _ _ h) gX6_record_X2_copyFrom rfl ⟨rfl, rfl⟩ hd_X2_copyFrom_v ⟨rfl, rfl⟩ (0) (gCC_0 _ _ _ _ _) rfl rfl hl rfl rfl dX6_record_16 (⟨rfl, rfl⟩) (fun _ => rfl) (fun u3 hq3 H locs G => ?_)
      have h := hq3
      have G := kG.sel (L := [wC kc (ad 24) u3, wC kc (ad 1) κ, wHi kc ad η, wC kc (ad 20) (kp 0), wC kc (ad 21) (kp 1), wC kc (ad 22) (kp 2), wC kc (ad 23) (kp 3), wC kc (ad 25) (kp 5), wC kc (ad 26) (kp 6), wC kc (ad 27) (kp 7)]) (L' := [wHi kc ad η, wC kc (ad 20) (kp 0), wC kc (ad 21) (kp 1), wC kc (ad 22) (kp 2), wC kc (ad 23) (kp 3), wC kc (ad 24) u3, wC kc (ad 25) (kp 5), wC kc (ad 26) (kp 6), wC kc (ad 27) (kp 7), wC kc (ad 1) κ]) G [2, 2, 2, 2, 2, 0, 1, 1, 1, 0] rfl
      have G := G.cg (wz := (fl [wHi kc ad η, wKp kc ad (kup kp 4 u3), wC kc (ad 1) κ])) rfl
      refine lv_aload_n E.ex E.by dX6_record_19 rfl (lv_at hl 1 rfl) ?_
      refine lv_aload_n E.ex E.by dX6_record_20 rfl (lv_at hl 1 rfl) ?_
      refine k_get E G wi_X6_record_X6 (0) (gH_0 _ _ _ _ _) rfl 1 rfl fl_X6_record_X6_1 (v := .int (iI η 0)) rfl dX6_record_21 ?_
      refine lv_topi (fun y4 ey4 => ?_)
      have ey4 : y4 = nI 4 := ey4.trans (ei)
      subst ey4
      refine lv_iconst (v := 1) E.ex E.by dX6_record_24 (by decide) ?_
      refine lv_iadd E.ex E.by dX6_record_25 ?_
      refine lv_topi (fun y5 ey5 => ?_)
      have ey5 : y5 = nI 5 := ey5.trans (by decide)
      subst ey5
      refine lv_bipush (v := 8) E.ex E.by dX6_record_26 (by decide) ?_
      refine lv_irem E.ex E.by dX6_record_28 (by decide) ?_
      refine lv_topi (fun y6 ey6 => ?_)
      have ey6 : y6 = nI 5 := ey6.trans (by decide)
      subst ey6
      refine k_putX E G wi_X6_record_X6 tyX6_ok nmX6 (0) (gH_0 _ _ _ _ _) rfl 1 rfl fl_X6_record_X6_1 rfl rfl rfl rfl ((fl [wHi kc ad (uI η 0 (nI 5)), wKp kc ad (kup kp 4 u3), wC kc (ad 1) κ])) rfl dX6_record_29 (fun H locs G => ?_)
      obtain ⟨η1, eη1⟩ : ∃ y : US, y = uI η 0 (nI 5) := ⟨_, rfl⟩
      rw [← eη1] at G
      refine lv_aload_n E.ex E.by dX6_record_32 rfl (lv_at hl 1 rfl) ?_
      refine k_get E G wi_X6_record_X6 (0) (gH_0 _ _ _ _ _) rfl 2 rfl fl_X6_record_X6_2 (v := .int (iI η1 1)) rfl dX6_record_33 ?_
      refine lv_topi (fun y7 ey7 => ?_)
      have ey7 : y7 = nI tt := ey7.trans (by rw [eη1]; exact (iI_uI_n (by decide)).trans et)
      subst ey7
      refine lv_bipush (v := 8) E.ex E.by dX6_record_36 (by decide) ?_
      refine lv_icmp_ge (tgt := 51) E.ex E.by dX6_record_38 (by decide) (fun hc => absurd hc (by rw [li8]; exact nI_ge hlt (by omega))) (fun hc => ?_)
      clear hc
      refine lv_aload_n E.ex E.by dX6_record_41 rfl (lv_at hl 1 rfl) ?_
      refine lv_dup E.ex E.by dX6_record_42 rfl ?_
      refine k_get E G wi_X6_record_X6 (0) (gH_0 _ _ _ _ _) rfl 2 rfl fl_X6_record_X6_2 (v := .int (iI η1 1)) rfl dX6_record_43 ?_
      refine lv_topi (fun y8 ey8 => ?_)
      have ey8 : y8 = nI tt := ey8.trans (by rw [eη1]; exact (iI_uI_n (by decide)).trans et)
      subst ey8
      refine lv_iconst (v := 1) E.ex E.by dX6_record_46 (by decide) ?_
      refine lv_iadd E.ex E.by dX6_record_47 ?_
      refine lv_topi (fun y9 ey9 => ?_)
      have ey9 : y9 = nI (tt + 1) := ey9.trans (nI_1 _)
      subst ey9
      refine k_putX E G wi_X6_record_X6 tyX6_ok nmX6 (0) (gH_0 _ _ _ _ _) rfl 2 rfl fl_X6_record_X6_2 rfl rfl rfl rfl ((fl [wHi kc ad (uI η1 1 (nI (tt + 1))), wKp kc ad (kup kp 4 u3), wC kc (ad 1) κ])) rfl dX6_record_48 (fun H locs G => ?_)
      obtain ⟨η2, eη2⟩ : ∃ y : US, y = uI η1 1 (nI (tt + 1)) := ⟨_, rfl⟩
      rw [← eη2] at G
      refine k_retv (wof := (fun u : US × (Nat → US) => (fl [wHi kc ad u.1, wKp kc ad u.2, wC kc (ad 1) κ]))) (u := (η2, (kup kp 4 u3))) E G ?_ ?_ ?_ dX6_record_51
      · exact h η2 (by rw [eη2]; exact (iI_uI_n (by decide)).trans (by rw [eη1]; exact iI_uI _ _ _)) (by rw [if_pos hlt, eη2]; exact iI_uI _ _ _)
      · first | exact Nat.le_of_ble_eq_true rfl | omega
      · first | exact Nat.le_of_ble_eq_true rfl | omega
    · intro sz
      refine k_begin (cc := cX6_record) (maxL := 3) (ret := none) (by decide +kernel) rfl rfl (fun p e s m args below meth c hsz E G ls hl => ?_)
      subst hsz
      have hl : lv_has ls 3 [(0, .ref (ad 3 0)), (1, .ref (ad 1 0))] := hl
      refine lv_aload_n E.ex E.by dX6_record_0 rfl (lv_at hl 0 rfl) ?_
      refine lv_aload_n E.ex E.by dX6_record_1 rfl (lv_at hl 0 rfl) ?_
      refine k_get E G wi_X6_record_X6 (0) (gH_0 _ _ _ _ _) rfl 1 rfl fl_X6_record_X6_1 (v := .int (iI η 0)) rfl dX6_record_2 ?_
      refine lv_topi (fun y1 ey1 => ?_)
      have ey1 : y1 = nI 4 := ey1.trans (ei)
      subst ey1
      refine k_cVq (n := 1) (X := []) (w := (fl [wHi kc ad η, wKp kc ad kp, wC kc (ad 1) κ])) (Z := []) (wnew := (fun _ : Unit => (fl [wHi kc ad η, wKp kc ad kp, wC kc (ad 1) κ]))) (As := [.int (nI 4)]) (rest := []) E (List.append_nil _).symm G (c_X6_slotAt l D kc (fl [wHi kc ad η, wKp kc ad kp, wC kc (ad 1) κ]) 0 1 (ad 3 0) (ad 3 1) 4 _ _ (fun i => some (ad (20 + i) 0)) (gH_0 _ _ _ _ _) rfl (by decide)) gX6_record_X6_slotAt rfl ⟨rfl, rfl⟩ hd_X6_slotAt_v ⟨rfl, rfl⟩ (0) (gH_0 _ _ _ _ _) rfl rfl hl rfl rfl dX6_record_5 (⟨Nat.le_of_ble_eq_true rfl, Nat.le_of_ble_eq_true rfl⟩) (fun _ => (List.append_nil _).symm) (fun r2 u2 hq2 H locs G => ?_)
      subst hq2
      refine lv_astore_n (lv' := [(2, .ref (ad 24 0)), (0, .ref (ad 3 0)), (1, .ref (ad 1 0))]) E.ex E.by dX6_record_8 rfl hl (by decide) rfl (fun ls hl => ?_)
      refine lv_aload_n E.ex E.by dX6_record_9 rfl (lv_at hl 0 rfl) ?_
      refine lv_ifnonnull (tgt := 14) E.ex E.by dX6_record_10 (by decide) ?_
      refine lv_aload_n E.ex E.by dX6_record_14 rfl (lv_at hl 0 rfl) ?_
      refine lv_aload_n E.ex E.by dX6_record_15 rfl (lv_at hl 2 rfl) ?_
      have G := G.cg (wz := fl [wHi kc ad η, wC kc (ad 20) (kp 0), wC kc (ad 21) (kp 1), wC kc (ad 22) (kp 2), wC kc (ad 23) (kp 3), wC kc (ad 24) (kp 4), wC kc (ad 25) (kp 5), wC kc (ad 26) (kp 6), wC kc (ad 27) (kp 7), wC kc (ad 1) κ]) rfl
      have G := kG.sel (L := [wHi kc ad η, wC kc (ad 20) (kp 0), wC kc (ad 21) (kp 1), wC kc (ad 22) (kp 2), wC kc (ad 23) (kp 3), wC kc (ad 24) (kp 4), wC kc (ad 25) (kp 5), wC kc (ad 26) (kp 6), wC kc (ad 27) (kp 7), wC kc (ad 1) κ]) (L' := [wC kc (ad 24) (kp 4), wC kc (ad 1) κ, wHi kc ad η, wC kc (ad 20) (kp 0), wC kc (ad 21) (kp 1), wC kc (ad 22) (kp 2), wC kc (ad 23) (kp 3), wC kc (ad 25) (kp 5), wC kc (ad 26) (kp 6), wC kc (ad 27) (kp 7)]) G [5, 8] rfl
      refine k_cVv (n := 1) (X := []) (w := (xCC kc (ad 24) (ad 1) (kp 4) κ)) (Z := (fl [wHi kc ad η, wC kc (ad 20) (kp 0), wC kc (ad 21) (kp 1), wC kc (ad 22) (kp 2), wC kc (ad 23) (kp 3), wC kc (ad 25) (kp 5), wC kc (ad 26) (kp 6), wC kc (ad 27) (kp 7)])) (wnew := (fun u : US => (fl [wC kc (ad 24) u, wC kc (ad 1) κ, wHi kc ad η, wC kc (ad 20) (kp 0), wC kc (ad 21) (kp 1), wC kc (ad 22) (kp 2), wC kc (ad 23) (kp 3), wC kc (ad 25) (kp 5), wC kc (ad 26) (kp 6), wC kc (ad 27) (kp 7)]))) (As := [.ref (ad 1 0)]) (rest := []) E rfl G (c_X2_copyFrom l D kc (ad 24) (ad 1) _ _ _ h) gX6_record_X2_copyFrom rfl ⟨rfl, rfl⟩ hd_X2_copyFrom_v ⟨rfl, rfl⟩ (0) (gCC_0 _ _ _ _ _) rfl rfl hl rfl rfl dX6_record_16 (⟨rfl, rfl⟩) (fun _ => rfl) (fun u3 hq3 H locs G => ?_)
      have h := hq3
      have G := kG.sel (L := [wC kc (ad 24) u3, wC kc (ad 1) κ, wHi kc ad η, wC kc (ad 20) (kp 0), wC kc (ad 21) (kp 1), wC kc (ad 22) (kp 2), wC kc (ad 23) (kp 3), wC kc (ad 25) (kp 5), wC kc (ad 26) (kp 6), wC kc (ad 27) (kp 7)]) (L' := [wHi kc ad η, wC kc (ad 20) (kp 0), wC kc (ad 21) (kp 1), wC kc (ad 22) (kp 2), wC kc (ad 23) (kp 3), wC kc (ad 24) u3, wC kc (ad 25) (kp 5), wC kc (ad 26) (kp 6), wC kc (ad 27) (kp 7), wC kc (ad 1) κ]) G [2, 2, 2, 2, 2, 0, 1, 1, 1, 0] rfl
      have G := G.cg (wz := (fl [wHi kc ad η, wKp kc ad (kup kp 4 u3), wC kc (ad 1) κ])) rfl
      refine lv_aload_n E.ex E.by dX6_record_19 rfl (lv_at hl 1 rfl) ?_
      refine lv_aload_n E.ex E.by dX6_record_20 rfl (lv_at hl 1 rfl) ?_
      refine k_get E G wi_X6_record_X6 (0) (gH_0 _ _ _ _ _) rfl 1 rfl fl_X6_record_X6_1 (v := .int (iI η 0)) rfl dX6_record_21 ?_
      refine lv_topi (fun y4 ey4 => ?_)
      have ey4 : y4 = nI 4 := ey4.trans (ei)
      subst ey4
      refine lv_iconst (v := 1) E.ex E.by dX6_record_24 (by decide) ?_
      refine lv_iadd E.ex E.by dX6_record_25 ?_
      refine lv_topi (fun y5 ey5 => ?_)
      have ey5 : y5 = nI 5 := ey5.trans (by decide)
      subst ey5
      refine lv_bipush (v := 8) E.ex E.by dX6_record_26 (by decide) ?_
      refine lv_irem E.ex E.by dX6_record_28 (by decide) ?_
      refine lv_topi (fun y6 ey6 => ?_)
      have ey6 : y6 = nI 5 := ey6.trans (by decide)
      subst ey6
      refine k_putX E G wi_X6_record_X6 tyX6_ok nmX6 (0) (gH_0 _ _ _ _ _) rfl 1 rfl fl_X6_record_X6_1 rfl rfl rfl rfl ((fl [wHi kc ad (uI η 0 (nI 5)), wKp kc ad (kup kp 4 u3), wC kc (ad 1) κ])) rfl dX6_record_29 (fun H locs G => ?_)
      obtain ⟨η1, eη1⟩ : ∃ y : US, y = uI η 0 (nI 5) := ⟨_, rfl⟩
      rw [← eη1] at G
      refine lv_aload_n E.ex E.by dX6_record_32 rfl (lv_at hl 1 rfl) ?_
      refine k_get E G wi_X6_record_X6 (0) (gH_0 _ _ _ _ _) rfl 2 rfl fl_X6_record_X6_2 (v := .int (iI η1 1)) rfl dX6_record_33 ?_
      refine lv_topi (fun y7 ey7 => ?_)
      have ey7 : y7 = nI tt := ey7.trans (by rw [eη1]; exact (iI_uI_n (by decide)).trans et)
      subst ey7
      refine lv_bipush (v := 8) E.ex E.by dX6_record_36 (by decide) ?_
      refine lv_icmp_ge (tgt := 51) E.ex E.by dX6_record_38 (by decide) (fun hc => ?_) (fun hc => absurd (by rw [li8]; exact nI_le (by omega) (by omega)) hc)
      clear hc
      refine k_retv (wof := (fun u : US × (Nat → US) => (fl [wHi kc ad u.1, wKp kc ad u.2, wC kc (ad 1) κ]))) (u := (η1, (kup kp 4 u3))) E G ?_ ?_ ?_ dX6_record_51
      · exact h η1 (by rw [eη1]; exact iI_uI _ _ _) (by rw [if_neg (by omega), eη1]; exact (iI_uI_n (by decide)).trans (et.trans (congrArg nI (by omega))))
      · first | exact Nat.le_of_ble_eq_true rfl | omega
      · first | exact Nat.le_of_ble_eq_true rfl | omega
  | 5, _, ei, h =>
    by_cases hlt : tt < 8
    · intro sz
      refine k_begin (cc := cX6_record) (maxL := 3) (ret := none) (by decide +kernel) rfl rfl (fun p e s m args below meth c hsz E G ls hl => ?_)
      subst hsz
      have hl : lv_has ls 3 [(0, .ref (ad 3 0)), (1, .ref (ad 1 0))] := hl
      refine lv_aload_n E.ex E.by dX6_record_0 rfl (lv_at hl 0 rfl) ?_
      refine lv_aload_n E.ex E.by dX6_record_1 rfl (lv_at hl 0 rfl) ?_
      refine k_get E G wi_X6_record_X6 (0) (gH_0 _ _ _ _ _) rfl 1 rfl fl_X6_record_X6_1 (v := .int (iI η 0)) rfl dX6_record_2 ?_
      refine lv_topi (fun y1 ey1 => ?_)
      have ey1 : y1 = nI 5 := ey1.trans (ei)
      subst ey1
      refine k_cVq (n := 1) (X := []) (w := (fl [wHi kc ad η, wKp kc ad kp, wC kc (ad 1) κ])) (Z := []) (wnew := (fun _ : Unit => (fl [wHi kc ad η, wKp kc ad kp, wC kc (ad 1) κ]))) (As := [.int (nI 5)]) (rest := []) E (List.append_nil _).symm G (c_X6_slotAt l D kc (fl [wHi kc ad η, wKp kc ad kp, wC kc (ad 1) κ]) 0 1 (ad 3 0) (ad 3 1) 5 _ _ (fun i => some (ad (20 + i) 0)) (gH_0 _ _ _ _ _) rfl (by decide)) gX6_record_X6_slotAt rfl ⟨rfl, rfl⟩ hd_X6_slotAt_v ⟨rfl, rfl⟩ (0) (gH_0 _ _ _ _ _) rfl rfl hl rfl rfl dX6_record_5 (⟨Nat.le_of_ble_eq_true rfl, Nat.le_of_ble_eq_true rfl⟩) (fun _ => (List.append_nil _).symm) (fun r2 u2 hq2 H locs G => ?_)
      subst hq2
      refine lv_astore_n (lv' := [(2, .ref (ad 25 0)), (0, .ref (ad 3 0)), (1, .ref (ad 1 0))]) E.ex E.by dX6_record_8 rfl hl (by decide) rfl (fun ls hl => ?_)
      refine lv_aload_n E.ex E.by dX6_record_9 rfl (lv_at hl 0 rfl) ?_
      refine lv_ifnonnull (tgt := 14) E.ex E.by dX6_record_10 (by decide) ?_
      refine lv_aload_n E.ex E.by dX6_record_14 rfl (lv_at hl 0 rfl) ?_
      refine lv_aload_n E.ex E.by dX6_record_15 rfl (lv_at hl 2 rfl) ?_
      have G := G.cg (wz := fl [wHi kc ad η, wC kc (ad 20) (kp 0), wC kc (ad 21) (kp 1), wC kc (ad 22) (kp 2), wC kc (ad 23) (kp 3), wC kc (ad 24) (kp 4), wC kc (ad 25) (kp 5), wC kc (ad 26) (kp 6), wC kc (ad 27) (kp 7), wC kc (ad 1) κ]) rfl
      have G := kG.sel (L := [wHi kc ad η, wC kc (ad 20) (kp 0), wC kc (ad 21) (kp 1), wC kc (ad 22) (kp 2), wC kc (ad 23) (kp 3), wC kc (ad 24) (kp 4), wC kc (ad 25) (kp 5), wC kc (ad 26) (kp 6), wC kc (ad 27) (kp 7), wC kc (ad 1) κ]) (L' := [wC kc (ad 25) (kp 5), wC kc (ad 1) κ, wHi kc ad η, wC kc (ad 20) (kp 0), wC kc (ad 21) (kp 1), wC kc (ad 22) (kp 2), wC kc (ad 23) (kp 3), wC kc (ad 24) (kp 4), wC kc (ad 26) (kp 6), wC kc (ad 27) (kp 7)]) G [6, 8] rfl
      refine k_cVv (n := 1) (X := []) (w := (xCC kc (ad 25) (ad 1) (kp 5) κ)) (Z := (fl [wHi kc ad η, wC kc (ad 20) (kp 0), wC kc (ad 21) (kp 1), wC kc (ad 22) (kp 2), wC kc (ad 23) (kp 3), wC kc (ad 24) (kp 4), wC kc (ad 26) (kp 6), wC kc (ad 27) (kp 7)])) (wnew := (fun u : US => (fl [wC kc (ad 25) u, wC kc (ad 1) κ, wHi kc ad η, wC kc (ad 20) (kp 0), wC kc (ad 21) (kp 1), wC kc (ad 22) (kp 2), wC kc (ad 23) (kp 3), wC kc (ad 24) (kp 4), wC kc (ad 26) (kp 6), wC kc (ad 27) (kp 7)]))) (As := [.ref (ad 1 0)]) (rest := []) E rfl G (c_X2_copyFrom l D kc (ad 25) (ad 1) _ _ _ h) gX6_record_X2_copyFrom rfl ⟨rfl, rfl⟩ hd_X2_copyFrom_v ⟨rfl, rfl⟩ (0) (gCC_0 _ _ _ _ _) rfl rfl hl rfl rfl dX6_record_16 (⟨rfl, rfl⟩) (fun _ => rfl) (fun u3 hq3 H locs G => ?_)
      have h := hq3
      have G := kG.sel (L := [wC kc (ad 25) u3, wC kc (ad 1) κ, wHi kc ad η, wC kc (ad 20) (kp 0), wC kc (ad 21) (kp 1), wC kc (ad 22) (kp 2), wC kc (ad 23) (kp 3), wC kc (ad 24) (kp 4), wC kc (ad 26) (kp 6), wC kc (ad 27) (kp 7)]) (L' := [wHi kc ad η, wC kc (ad 20) (kp 0), wC kc (ad 21) (kp 1), wC kc (ad 22) (kp 2), wC kc (ad 23) (kp 3), wC kc (ad 24) (kp 4), wC kc (ad 25) u3, wC kc (ad 26) (kp 6), wC kc (ad 27) (kp 7), wC kc (ad 1) κ]) G [2, 2, 2, 2, 2, 2, 0, 1, 1, 0] rfl
      have G := G.cg (wz := (fl [wHi kc ad η, wKp kc ad (kup kp 5 u3), wC kc (ad 1) κ])) rfl
      refine lv_aload_n E.ex E.by dX6_record_19 rfl (lv_at hl 1 rfl) ?_
      refine lv_aload_n E.ex E.by dX6_record_20 rfl (lv_at hl 1 rfl) ?_
      refine k_get E G wi_X6_record_X6 (0) (gH_0 _ _ _ _ _) rfl 1 rfl fl_X6_record_X6_1 (v := .int (iI η 0)) rfl dX6_record_21 ?_
      refine lv_topi (fun y4 ey4 => ?_)
      have ey4 : y4 = nI 5 := ey4.trans (ei)
      subst ey4
      refine lv_iconst (v := 1) E.ex E.by dX6_record_24 (by decide) ?_
      refine lv_iadd E.ex E.by dX6_record_25 ?_
      refine lv_topi (fun y5 ey5 => ?_)
      have ey5 : y5 = nI 6 := ey5.trans (by decide)
      subst ey5
      refine lv_bipush (v := 8) E.ex E.by dX6_record_26 (by decide) ?_
      refine lv_irem E.ex E.by dX6_record_28 (by decide) ?_
      refine lv_topi (fun y6 ey6 => ?_)
      have ey6 : y6 = nI 6 := ey6.trans (by decide)
      subst ey6
      refine k_putX E G wi_X6_record_X6 tyX6_ok nmX6 (0) (gH_0 _ _ _ _ _) rfl 1 rfl fl_X6_record_X6_1 rfl rfl rfl rfl ((fl [wHi kc ad (uI η 0 (nI 6)), wKp kc ad (kup kp 5 u3), wC kc (ad 1) κ])) rfl dX6_record_29 (fun H locs G => ?_)
      obtain ⟨η1, eη1⟩ : ∃ y : US, y = uI η 0 (nI 6) := ⟨_, rfl⟩
      rw [← eη1] at G
      refine lv_aload_n E.ex E.by dX6_record_32 rfl (lv_at hl 1 rfl) ?_
      refine k_get E G wi_X6_record_X6 (0) (gH_0 _ _ _ _ _) rfl 2 rfl fl_X6_record_X6_2 (v := .int (iI η1 1)) rfl dX6_record_33 ?_
      refine lv_topi (fun y7 ey7 => ?_)
      have ey7 : y7 = nI tt := ey7.trans (by rw [eη1]; exact (iI_uI_n (by decide)).trans et)
      subst ey7
      refine lv_bipush (v := 8) E.ex E.by dX6_record_36 (by decide) ?_
      refine lv_icmp_ge (tgt := 51) E.ex E.by dX6_record_38 (by decide) (fun hc => absurd hc (by rw [li8]; exact nI_ge hlt (by omega))) (fun hc => ?_)
      clear hc
      refine lv_aload_n E.ex E.by dX6_record_41 rfl (lv_at hl 1 rfl) ?_
      refine lv_dup E.ex E.by dX6_record_42 rfl ?_
      refine k_get E G wi_X6_record_X6 (0) (gH_0 _ _ _ _ _) rfl 2 rfl fl_X6_record_X6_2 (v := .int (iI η1 1)) rfl dX6_record_43 ?_
      refine lv_topi (fun y8 ey8 => ?_)
      have ey8 : y8 = nI tt := ey8.trans (by rw [eη1]; exact (iI_uI_n (by decide)).trans et)
      subst ey8
      refine lv_iconst (v := 1) E.ex E.by dX6_record_46 (by decide) ?_
      refine lv_iadd E.ex E.by dX6_record_47 ?_
      refine lv_topi (fun y9 ey9 => ?_)
      have ey9 : y9 = nI (tt + 1) := ey9.trans (nI_1 _)
      subst ey9
      refine k_putX E G wi_X6_record_X6 tyX6_ok nmX6 (0) (gH_0 _ _ _ _ _) rfl 2 rfl fl_X6_record_X6_2 rfl rfl rfl rfl ((fl [wHi kc ad (uI η1 1 (nI (tt + 1))), wKp kc ad (kup kp 5 u3), wC kc (ad 1) κ])) rfl dX6_record_48 (fun H locs G => ?_)
      obtain ⟨η2, eη2⟩ : ∃ y : US, y = uI η1 1 (nI (tt + 1)) := ⟨_, rfl⟩
      rw [← eη2] at G
      refine k_retv (wof := (fun u : US × (Nat → US) => (fl [wHi kc ad u.1, wKp kc ad u.2, wC kc (ad 1) κ]))) (u := (η2, (kup kp 5 u3))) E G ?_ ?_ ?_ dX6_record_51
      · exact h η2 (by rw [eη2]; exact (iI_uI_n (by decide)).trans (by rw [eη1]; exact iI_uI _ _ _)) (by rw [if_pos hlt, eη2]; exact iI_uI _ _ _)
      · first | exact Nat.le_of_ble_eq_true rfl | omega
      · first | exact Nat.le_of_ble_eq_true rfl | omega
    · intro sz
      refine k_begin (cc := cX6_record) (maxL := 3) (ret := none) (by decide +kernel) rfl rfl (fun p e s m args below meth c hsz E G ls hl => ?_)
      subst hsz
      have hl : lv_has ls 3 [(0, .ref (ad 3 0)), (1, .ref (ad 1 0))] := hl
      refine lv_aload_n E.ex E.by dX6_record_0 rfl (lv_at hl 0 rfl) ?_
      refine lv_aload_n E.ex E.by dX6_record_1 rfl (lv_at hl 0 rfl) ?_
      refine k_get E G wi_X6_record_X6 (0) (gH_0 _ _ _ _ _) rfl 1 rfl fl_X6_record_X6_1 (v := .int (iI η 0)) rfl dX6_record_2 ?_
      refine lv_topi (fun y1 ey1 => ?_)
      have ey1 : y1 = nI 5 := ey1.trans (ei)
      subst ey1
      refine k_cVq (n := 1) (X := []) (w := (fl [wHi kc ad η, wKp kc ad kp, wC kc (ad 1) κ])) (Z := []) (wnew := (fun _ : Unit => (fl [wHi kc ad η, wKp kc ad kp, wC kc (ad 1) κ]))) (As := [.int (nI 5)]) (rest := []) E (List.append_nil _).symm G (c_X6_slotAt l D kc (fl [wHi kc ad η, wKp kc ad kp, wC kc (ad 1) κ]) 0 1 (ad 3 0) (ad 3 1) 5 _ _ (fun i => some (ad (20 + i) 0)) (gH_0 _ _ _ _ _) rfl (by decide)) gX6_record_X6_slotAt rfl ⟨rfl, rfl⟩ hd_X6_slotAt_v ⟨rfl, rfl⟩ (0) (gH_0 _ _ _ _ _) rfl rfl hl rfl rfl dX6_record_5 (⟨Nat.le_of_ble_eq_true rfl, Nat.le_of_ble_eq_true rfl⟩) (fun _ => (List.append_nil _).symm) (fun r2 u2 hq2 H locs G => ?_)
      subst hq2
      refine lv_astore_n (lv' := [(2, .ref (ad 25 0)), (0, .ref (ad 3 0)), (1, .ref (ad 1 0))]) E.ex E.by dX6_record_8 rfl hl (by decide) rfl (fun ls hl => ?_)
      refine lv_aload_n E.ex E.by dX6_record_9 rfl (lv_at hl 0 rfl) ?_
      refine lv_ifnonnull (tgt := 14) E.ex E.by dX6_record_10 (by decide) ?_
      refine lv_aload_n E.ex E.by dX6_record_14 rfl (lv_at hl 0 rfl) ?_
      refine lv_aload_n E.ex E.by dX6_record_15 rfl (lv_at hl 2 rfl) ?_
      have G := G.cg (wz := fl [wHi kc ad η, wC kc (ad 20) (kp 0), wC kc (ad 21) (kp 1), wC kc (ad 22) (kp 2), wC kc (ad 23) (kp 3), wC kc (ad 24) (kp 4), wC kc (ad 25) (kp 5), wC kc (ad 26) (kp 6), wC kc (ad 27) (kp 7), wC kc (ad 1) κ]) rfl
      have G := kG.sel (L := [wHi kc ad η, wC kc (ad 20) (kp 0), wC kc (ad 21) (kp 1), wC kc (ad 22) (kp 2), wC kc (ad 23) (kp 3), wC kc (ad 24) (kp 4), wC kc (ad 25) (kp 5), wC kc (ad 26) (kp 6), wC kc (ad 27) (kp 7), wC kc (ad 1) κ]) (L' := [wC kc (ad 25) (kp 5), wC kc (ad 1) κ, wHi kc ad η, wC kc (ad 20) (kp 0), wC kc (ad 21) (kp 1), wC kc (ad 22) (kp 2), wC kc (ad 23) (kp 3), wC kc (ad 24) (kp 4), wC kc (ad 26) (kp 6), wC kc (ad 27) (kp 7)]) G [6, 8] rfl
      refine k_cVv (n := 1) (X := []) (w := (xCC kc (ad 25) (ad 1) (kp 5) κ)) (Z := (fl [wHi kc ad η, wC kc (ad 20) (kp 0), wC kc (ad 21) (kp 1), wC kc (ad 22) (kp 2), wC kc (ad 23) (kp 3), wC kc (ad 24) (kp 4), wC kc (ad 26) (kp 6), wC kc (ad 27) (kp 7)])) (wnew := (fun u : US => (fl [wC kc (ad 25) u, wC kc (ad 1) κ, wHi kc ad η, wC kc (ad 20) (kp 0), wC kc (ad 21) (kp 1), wC kc (ad 22) (kp 2), wC kc (ad 23) (kp 3), wC kc (ad 24) (kp 4), wC kc (ad 26) (kp 6), wC kc (ad 27) (kp 7)]))) (As := [.ref (ad 1 0)]) (rest := []) E rfl G (c_X2_copyFrom l D kc (ad 25) (ad 1) _ _ _ h) gX6_record_X2_copyFrom rfl ⟨rfl, rfl⟩ hd_X2_copyFrom_v ⟨rfl, rfl⟩ (0) (gCC_0 _ _ _ _ _) rfl rfl hl rfl rfl dX6_record_16 (⟨rfl, rfl⟩) (fun _ => rfl) (fun u3 hq3 H locs G => ?_)
      have h := hq3
      have G := kG.sel (L := [wC kc (ad 25) u3, wC kc (ad 1) κ, wHi kc ad η, wC kc (ad 20) (kp 0), wC kc (ad 21) (kp 1), wC kc (ad 22) (kp 2), wC kc (ad 23) (kp 3), wC kc (ad 24) (kp 4), wC kc (ad 26) (kp 6), wC kc (ad 27) (kp 7)]) (L' := [wHi kc ad η, wC kc (ad 20) (kp 0), wC kc (ad 21) (kp 1), wC kc (ad 22) (kp 2), wC kc (ad 23) (kp 3), wC kc (ad 24) (kp 4), wC kc (ad 25) u3, wC kc (ad 26) (kp 6), wC kc (ad 27) (kp 7), wC kc (ad 1) κ]) G [2, 2, 2, 2, 2, 2, 0, 1, 1, 0] rfl
      have G := G.cg (wz := (fl [wHi kc ad η, wKp kc ad (kup kp 5 u3), wC kc (ad 1) κ])) rfl
      refine lv_aload_n E.ex E.by dX6_record_19 rfl (lv_at hl 1 rfl) ?_
      refine lv_aload_n E.ex E.by dX6_record_20 rfl (lv_at hl 1 rfl) ?_
      refine k_get E G wi_X6_record_X6 (0) (gH_0 _ _ _ _ _) rfl 1 rfl fl_X6_record_X6_1 (v := .int (iI η 0)) rfl dX6_record_21 ?_
      refine lv_topi (fun y4 ey4 => ?_)
      have ey4 : y4 = nI 5 := ey4.trans (ei)
      subst ey4
      refine lv_iconst (v := 1) E.ex E.by dX6_record_24 (by decide) ?_
      refine lv_iadd E.ex E.by dX6_record_25 ?_
      refine lv_topi (fun y5 ey5 => ?_)
      have ey5 : y5 = nI 6 := ey5.trans (by decide)
      subst ey5
      refine lv_bipush (v := 8) E.ex E.by dX6_record_26 (by decide) ?_
      refine lv_irem E.ex E.by dX6_record_28 (by decide) ?_
      refine lv_topi (fun y6 ey6 => ?_)
      have ey6 : y6 = nI 6 := ey6.trans (by decide)
      subst ey6
      refine k_putX E G wi_X6_record_X6 tyX6_ok nmX6 (0) (gH_0 _ _ _ _ _) rfl 1 rfl fl_X6_record_X6_1 rfl rfl rfl rfl ((fl [wHi kc ad (uI η 0 (nI 6)), wKp kc ad (kup kp 5 u3), wC kc (ad 1) κ])) rfl dX6_record_29 (fun H locs G => ?_)
      obtain ⟨η1, eη1⟩ : ∃ y : US, y = uI η 0 (nI 6) := ⟨_, rfl⟩
      rw [← eη1] at G
      refine lv_aload_n E.ex E.by dX6_record_32 rfl (lv_at hl 1 rfl) ?_
      refine k_get E G wi_X6_record_X6 (0) (gH_0 _ _ _ _ _) rfl 2 rfl fl_X6_record_X6_2 (v := .int (iI η1 1)) rfl dX6_record_33 ?_
      refine lv_topi (fun y7 ey7 => ?_)
      have ey7 : y7 = nI tt := ey7.trans (by rw [eη1]; exact (iI_uI_n (by decide)).trans et)
      subst ey7
      refine lv_bipush (v := 8) E.ex E.by dX6_record_36 (by decide) ?_
      refine lv_icmp_ge (tgt := 51) E.ex E.by dX6_record_38 (by decide) (fun hc => ?_) (fun hc => absurd (by rw [li8]; exact nI_le (by omega) (by omega)) hc)
      clear hc
      refine k_retv (wof := (fun u : US × (Nat → US) => (fl [wHi kc ad u.1, wKp kc ad u.2, wC kc (ad 1) κ]))) (u := (η1, (kup kp 5 u3))) E G ?_ ?_ ?_ dX6_record_51
      · exact h η1 (by rw [eη1]; exact iI_uI _ _ _) (by rw [if_neg (by omega), eη1]; exact (iI_uI_n (by decide)).trans (et.trans (congrArg nI (by omega))))
      · first | exact Nat.le_of_ble_eq_true rfl | omega
      · first | exact Nat.le_of_ble_eq_true rfl | omega
  | 6, _, ei, h =>
    by_cases hlt : tt < 8
    · intro sz
      refine k_begin (cc := cX6_record) (maxL := 3) (ret := none) (by decide +kernel) rfl rfl (fun p e s m args below meth c hsz E G ls hl => ?_)
      subst hsz
      have hl : lv_has ls 3 [(0, .ref (ad 3 0)), (1, .ref (ad 1 0))] := hl
      refine lv_aload_n E.ex E.by dX6_record_0 rfl (lv_at hl 0 rfl) ?_
      refine lv_aload_n E.ex E.by dX6_record_1 rfl (lv_at hl 0 rfl) ?_
      refine k_get E G wi_X6_record_X6 (0) (gH_0 _ _ _ _ _) rfl 1 rfl fl_X6_record_X6_1 (v := .int (iI η 0)) rfl dX6_record_2 ?_
      refine lv_topi (fun y1 ey1 => ?_)
      have ey1 : y1 = nI 6 := ey1.trans (ei)
      subst ey1
      refine k_cVq (n := 1) (X := []) (w := (fl [wHi kc ad η, wKp kc ad kp, wC kc (ad 1) κ])) (Z := []) (wnew := (fun _ : Unit => (fl [wHi kc ad η, wKp kc ad kp, wC kc (ad 1) κ]))) (As := [.int (nI 6)]) (rest := []) E (List.append_nil _).symm G (c_X6_slotAt l D kc (fl [wHi kc ad η, wKp kc ad kp, wC kc (ad 1) κ]) 0 1 (ad 3 0) (ad 3 1) 6 _ _ (fun i => some (ad (20 + i) 0)) (gH_0 _ _ _ _ _) rfl (by decide)) gX6_record_X6_slotAt rfl ⟨rfl, rfl⟩ hd_X6_slotAt_v ⟨rfl, rfl⟩ (0) (gH_0 _ _ _ _ _) rfl rfl hl rfl rfl dX6_record_5 (⟨Nat.le_of_ble_eq_true rfl, Nat.le_of_ble_eq_true rfl⟩) (fun _ => (List.append_nil _).symm) (fun r2 u2 hq2 H locs G => ?_)
      subst hq2
      refine lv_astore_n (lv' := [(2, .ref (ad 26 0)), (0, .ref (ad 3 0)), (1, .ref (ad 1 0))]) E.ex E.by dX6_record_8 rfl hl (by decide) rfl (fun ls hl => ?_)
      refine lv_aload_n E.ex E.by dX6_record_9 rfl (lv_at hl 0 rfl) ?_
      refine lv_ifnonnull (tgt := 14) E.ex E.by dX6_record_10 (by decide) ?_
      refine lv_aload_n E.ex E.by dX6_record_14 rfl (lv_at hl 0 rfl) ?_
      refine lv_aload_n E.ex E.by dX6_record_15 rfl (lv_at hl 2 rfl) ?_
      have G := G.cg (wz := fl [wHi kc ad η, wC kc (ad 20) (kp 0), wC kc (ad 21) (kp 1), wC kc (ad 22) (kp 2), wC kc (ad 23) (kp 3), wC kc (ad 24) (kp 4), wC kc (ad 25) (kp 5), wC kc (ad 26) (kp 6), wC kc (ad 27) (kp 7), wC kc (ad 1) κ]) rfl
      have G := kG.sel (L := [wHi kc ad η, wC kc (ad 20) (kp 0), wC kc (ad 21) (kp 1), wC kc (ad 22) (kp 2), wC kc (ad 23) (kp 3), wC kc (ad 24) (kp 4), wC kc (ad 25) (kp 5), wC kc (ad 26) (kp 6), wC kc (ad 27) (kp 7), wC kc (ad 1) κ]) (L' := [wC kc (ad 26) (kp 6), wC kc (ad 1) κ, wHi kc ad η, wC kc (ad 20) (kp 0), wC kc (ad 21) (kp 1), wC kc (ad 22) (kp 2), wC kc (ad 23) (kp 3), wC kc (ad 24) (kp 4), wC kc (ad 25) (kp 5), wC kc (ad 27) (kp 7)]) G [7, 8] rfl
      refine k_cVv (n := 1) (X := []) (w := (xCC kc (ad 26) (ad 1) (kp 6) κ)) (Z := (fl [wHi kc ad η, wC kc (ad 20) (kp 0), wC kc (ad 21) (kp 1), wC kc (ad 22) (kp 2), wC kc (ad 23) (kp 3), wC kc (ad 24) (kp 4), wC kc (ad 25) (kp 5), wC kc (ad 27) (kp 7)])) (wnew := (fun u : US => (fl [wC kc (ad 26) u, wC kc (ad 1) κ, wHi kc ad η, wC kc (ad 20) (kp 0), wC kc (ad 21) (kp 1), wC kc (ad 22) (kp 2), wC kc (ad 23) (kp 3), wC kc (ad 24) (kp 4), wC kc (ad 25) (kp 5), wC kc (ad 27) (kp 7)]))) (As := [.ref (ad 1 0)]) (rest := []) E rfl G (c_X2_copyFrom l D kc (ad 26) (ad 1) _ _ _ h) gX6_record_X2_copyFrom rfl ⟨rfl, rfl⟩ hd_X2_copyFrom_v ⟨rfl, rfl⟩ (0) (gCC_0 _ _ _ _ _) rfl rfl hl rfl rfl dX6_record_16 (⟨rfl, rfl⟩) (fun _ => rfl) (fun u3 hq3 H locs G => ?_)
      have h := hq3
      have G := kG.sel (L := [wC kc (ad 26) u3, wC kc (ad 1) κ, wHi kc ad η, wC kc (ad 20) (kp 0), wC kc (ad 21) (kp 1), wC kc (ad 22) (kp 2), wC kc (ad 23) (kp 3), wC kc (ad 24) (kp 4), wC kc (ad 25) (kp 5), wC kc (ad 27) (kp 7)]) (L' := [wHi kc ad η, wC kc (ad 20) (kp 0), wC kc (ad 21) (kp 1), wC kc (ad 22) (kp 2), wC kc (ad 23) (kp 3), wC kc (ad 24) (kp 4), wC kc (ad 25) (kp 5), wC kc (ad 26) u3, wC kc (ad 27) (kp 7), wC kc (ad 1) κ]) G [2, 2, 2, 2, 2, 2, 2, 0, 1, 0] rfl
      have G := G.cg (wz := (fl [wHi kc ad η, wKp kc ad (kup kp 6 u3), wC kc (ad 1) κ])) rfl
      refine lv_aload_n E.ex E.by dX6_record_19 rfl (lv_at hl 1 rfl) ?_
      refine lv_aload_n E.ex E.by dX6_record_20 rfl (lv_at hl 1 rfl) ?_
      refine k_get E G wi_X6_record_X6 (0) (gH_0 _ _ _ _ _) rfl 1 rfl fl_X6_record_X6_1 (v := .int (iI η 0)) rfl dX6_record_21 ?_
      refine lv_topi (fun y4 ey4 => ?_)
      have ey4 : y4 = nI 6 := ey4.trans (ei)
      subst ey4
      refine lv_iconst (v := 1) E.ex E.by dX6_record_24 (by decide) ?_
      refine lv_iadd E.ex E.by dX6_record_25 ?_
      refine lv_topi (fun y5 ey5 => ?_)
      have ey5 : y5 = nI 7 := ey5.trans (by decide)
      subst ey5
      refine lv_bipush (v := 8) E.ex E.by dX6_record_26 (by decide) ?_
      refine lv_irem E.ex E.by dX6_record_28 (by decide) ?_
      refine lv_topi (fun y6 ey6 => ?_)
      have ey6 : y6 = nI 7 := ey6.trans (by decide)
      subst ey6
      refine k_putX E G wi_X6_record_X6 tyX6_ok nmX6 (0) (gH_0 _ _ _ _ _) rfl 1 rfl fl_X6_record_X6_1 rfl rfl rfl rfl ((fl [wHi kc ad (uI η 0 (nI 7)), wKp kc ad (kup kp 6 u3), wC kc (ad 1) κ])) rfl dX6_record_29 (fun H locs G => ?_)
      obtain ⟨η1, eη1⟩ : ∃ y : US, y = uI η 0 (nI 7) := ⟨_, rfl⟩
      rw [← eη1] at G
      refine lv_aload_n E.ex E.by dX6_record_32 rfl (lv_at hl 1 rfl) ?_
      refine k_get E G wi_X6_record_X6 (0) (gH_0 _ _ _ _ _) rfl 2 rfl fl_X6_record_X6_2 (v := .int (iI η1 1)) rfl dX6_record_33 ?_
      refine lv_topi (fun y7 ey7 => ?_)
      have ey7 : y7 = nI tt := ey7.trans (by rw [eη1]; exact (iI_uI_n (by decide)).trans et)
      subst ey7
      refine lv_bipush (v := 8) E.ex E.by dX6_record_36 (by decide) ?_
      refine lv_icmp_ge (tgt := 51) E.ex E.by dX6_record_38 (by decide) (fun hc => absurd hc (by rw [li8]; exact nI_ge hlt (by omega))) (fun hc => ?_)
      clear hc
      refine lv_aload_n E.ex E.by dX6_record_41 rfl (lv_at hl 1 rfl) ?_
      refine lv_dup E.ex E.by dX6_record_42 rfl ?_
      refine k_get E G wi_X6_record_X6 (0) (gH_0 _ _ _ _ _) rfl 2 rfl fl_X6_record_X6_2 (v := .int (iI η1 1)) rfl dX6_record_43 ?_
      refine lv_topi (fun y8 ey8 => ?_)
      have ey8 : y8 = nI tt := ey8.trans (by rw [eη1]; exact (iI_uI_n (by decide)).trans et)
      subst ey8
      refine lv_iconst (v := 1) E.ex E.by dX6_record_46 (by decide) ?_
      refine lv_iadd E.ex E.by dX6_record_47 ?_
      refine lv_topi (fun y9 ey9 => ?_)
      have ey9 : y9 = nI (tt + 1) := ey9.trans (nI_1 _)
      subst ey9
      refine k_putX E G wi_X6_record_X6 tyX6_ok nmX6 (0) (gH_0 _ _ _ _ _) rfl 2 rfl fl_X6_record_X6_2 rfl rfl rfl rfl ((fl [wHi kc ad (uI η1 1 (nI (tt + 1))), wKp kc ad (kup kp 6 u3), wC kc (ad 1) κ])) rfl dX6_record_48 (fun H locs G => ?_)
      obtain ⟨η2, eη2⟩ : ∃ y : US, y = uI η1 1 (nI (tt + 1)) := ⟨_, rfl⟩
      rw [← eη2] at G
      refine k_retv (wof := (fun u : US × (Nat → US) => (fl [wHi kc ad u.1, wKp kc ad u.2, wC kc (ad 1) κ]))) (u := (η2, (kup kp 6 u3))) E G ?_ ?_ ?_ dX6_record_51
      · exact h η2 (by rw [eη2]; exact (iI_uI_n (by decide)).trans (by rw [eη1]; exact iI_uI _ _ _)) (by rw [if_pos hlt, eη2]; exact iI_uI _ _ _)
      · first | exact Nat.le_of_ble_eq_true rfl | omega
      · first | exact Nat.le_of_ble_eq_true rfl | omega
    · intro sz
      refine k_begin (cc := cX6_record) (maxL := 3) (ret := none) (by decide +kernel) rfl rfl (fun p e s m args below meth c hsz E G ls hl => ?_)
      subst hsz
      have hl : lv_has ls 3 [(0, .ref (ad 3 0)), (1, .ref (ad 1 0))] := hl
      refine lv_aload_n E.ex E.by dX6_record_0 rfl (lv_at hl 0 rfl) ?_
      refine lv_aload_n E.ex E.by dX6_record_1 rfl (lv_at hl 0 rfl) ?_
      refine k_get E G wi_X6_record_X6 (0) (gH_0 _ _ _ _ _) rfl 1 rfl fl_X6_record_X6_1 (v := .int (iI η 0)) rfl dX6_record_2 ?_
      refine lv_topi (fun y1 ey1 => ?_)
      have ey1 : y1 = nI 6 := ey1.trans (ei)
      subst ey1
      refine k_cVq (n := 1) (X := []) (w := (fl [wHi kc ad η, wKp kc ad kp, wC kc (ad 1) κ])) (Z := []) (wnew := (fun _ : Unit => (fl [wHi kc ad η, wKp kc ad kp, wC kc (ad 1) κ]))) (As := [.int (nI 6)]) (rest := []) E (List.append_nil _).symm G (c_X6_slotAt l D kc (fl [wHi kc ad η, wKp kc ad kp, wC kc (ad 1) κ]) 0 1 (ad 3 0) (ad 3 1) 6 _ _ (fun i => some (ad (20 + i) 0)) (gH_0 _ _ _ _ _) rfl (by decide)) gX6_record_X6_slotAt rfl ⟨rfl, rfl⟩ hd_X6_slotAt_v ⟨rfl, rfl⟩ (0) (gH_0 _ _ _ _ _) rfl rfl hl rfl rfl dX6_record_5 (⟨Nat.le_of_ble_eq_true rfl, Nat.le_of_ble_eq_true rfl⟩) (fun _ => (List.append_nil _).symm) (fun r2 u2 hq2 H locs G => ?_)
      subst hq2
      refine lv_astore_n (lv' := [(2, .ref (ad 26 0)), (0, .ref (ad 3 0)), (1, .ref (ad 1 0))]) E.ex E.by dX6_record_8 rfl hl (by decide) rfl (fun ls hl => ?_)
      refine lv_aload_n E.ex E.by dX6_record_9 rfl (lv_at hl 0 rfl) ?_
      refine lv_ifnonnull (tgt := 14) E.ex E.by dX6_record_10 (by decide) ?_
      refine lv_aload_n E.ex E.by dX6_record_14 rfl (lv_at hl 0 rfl) ?_
      refine lv_aload_n E.ex E.by dX6_record_15 rfl (lv_at hl 2 rfl) ?_
      have G := G.cg (wz := fl [wHi kc ad η, wC kc (ad 20) (kp 0), wC kc (ad 21) (kp 1), wC kc (ad 22) (kp 2), wC kc (ad 23) (kp 3), wC kc (ad 24) (kp 4), wC kc (ad 25) (kp 5), wC kc (ad 26) (kp 6), wC kc (ad 27) (kp 7), wC kc (ad 1) κ]) rfl
      have G := kG.sel (L := [wHi kc ad η, wC kc (ad 20) (kp 0), wC kc (ad 21) (kp 1), wC kc (ad 22) (kp 2), wC kc (ad 23) (kp 3), wC kc (ad 24) (kp 4), wC kc (ad 25) (kp 5), wC kc (ad 26) (kp 6), wC kc (ad 27) (kp 7), wC kc (ad 1) κ]) (L' := [wC kc (ad 26) (kp 6), wC kc (ad 1) κ, wHi kc ad η, wC kc (ad 20) (kp 0), wC kc (ad 21) (kp 1), wC kc (ad 22) (kp 2), wC kc (ad 23) (kp 3), wC kc (ad 24) (kp 4), wC kc (ad 25) (kp 5), wC kc (ad 27) (kp 7)]) G [7, 8] rfl
      refine k_cVv (n := 1) (X := []) (w := (xCC kc (ad 26) (ad 1) (kp 6) κ)) (Z := (fl [wHi kc ad η, wC kc (ad 20) (kp 0), wC kc (ad 21) (kp 1), wC kc (ad 22) (kp 2), wC kc (ad 23) (kp 3), wC kc (ad 24) (kp 4), wC kc (ad 25) (kp 5), wC kc (ad 27) (kp 7)])) (wnew := (fun u : US => (fl [wC kc (ad 26) u, wC kc (ad 1) κ, wHi kc ad η, wC kc (ad 20) (kp 0), wC kc (ad 21) (kp 1), wC kc (ad 22) (kp 2), wC kc (ad 23) (kp 3), wC kc (ad 24) (kp 4), wC kc (ad 25) (kp 5), wC kc (ad 27) (kp 7)]))) (As := [.ref (ad 1 0)]) (rest := []) E rfl G (c_X2_copyFrom l D kc (ad 26) (ad 1) _ _ _ h) gX6_record_X2_copyFrom rfl ⟨rfl, rfl⟩ hd_X2_copyFrom_v ⟨rfl, rfl⟩ (0) (gCC_0 _ _ _ _ _) rfl rfl hl rfl rfl dX6_record_16 (⟨rfl, rfl⟩) (fun _ => rfl) (fun u3 hq3 H locs G => ?_)
      have h := hq3
      have G := kG.sel (L := [wC kc (ad 26) u3, wC kc (ad 1) κ, wHi kc ad η, wC kc (ad 20) (kp 0), wC kc (ad 21) (kp 1), wC kc (ad 22) (kp 2), wC kc (ad 23) (kp 3), wC kc (ad 24) (kp 4), wC kc (ad 25) (kp 5), wC kc (ad 27) (kp 7)]) (L' := [wHi kc ad η, wC kc (ad 20) (kp 0), wC kc (ad 21) (kp 1), wC kc (ad 22) (kp 2), wC kc (ad 23) (kp 3), wC kc (ad 24) (kp 4), wC kc (ad 25) (kp 5), wC kc (ad 26) u3, wC kc (ad 27) (kp 7), wC kc (ad 1) κ]) G [2, 2, 2, 2, 2, 2, 2, 0, 1, 0] rfl
      have G := G.cg (wz := (fl [wHi kc ad η, wKp kc ad (kup kp 6 u3), wC kc (ad 1) κ])) rfl
      refine lv_aload_n E.ex E.by dX6_record_19 rfl (lv_at hl 1 rfl) ?_
      refine lv_aload_n E.ex E.by dX6_record_20 rfl (lv_at hl 1 rfl) ?_
      refine k_get E G wi_X6_record_X6 (0) (gH_0 _ _ _ _ _) rfl 1 rfl fl_X6_record_X6_1 (v := .int (iI η 0)) rfl dX6_record_21 ?_
      refine lv_topi (fun y4 ey4 => ?_)
      have ey4 : y4 = nI 6 := ey4.trans (ei)
      subst ey4
      refine lv_iconst (v := 1) E.ex E.by dX6_record_24 (by decide) ?_
      refine lv_iadd E.ex E.by dX6_record_25 ?_
      refine lv_topi (fun y5 ey5 => ?_)
      have ey5 : y5 = nI 7 := ey5.trans (by decide)
      subst ey5
      refine lv_bipush (v := 8) E.ex E.by dX6_record_26 (by decide) ?_
      refine lv_irem E.ex E.by dX6_record_28 (by decide) ?_
      refine lv_topi (fun y6 ey6 => ?_)
      have ey6 : y6 = nI 7 := ey6.trans (by decide)
      subst ey6
      refine k_putX E G wi_X6_record_X6 tyX6_ok nmX6 (0) (gH_0 _ _ _ _ _) rfl 1 rfl fl_X6_record_X6_1 rfl rfl rfl rfl ((fl [wHi kc ad (uI η 0 (nI 7)), wKp kc ad (kup kp 6 u3), wC kc (ad 1) κ])) rfl dX6_record_29 (fun H locs G => ?_)
      obtain ⟨η1, eη1⟩ : ∃ y : US, y = uI η 0 (nI 7) := ⟨_, rfl⟩
      rw [← eη1] at G
      refine lv_aload_n E.ex E.by dX6_record_32 rfl (lv_at hl 1 rfl) ?_
      refine k_get E G wi_X6_record_X6 (0) (gH_0 _ _ _ _ _) rfl 2 rfl fl_X6_record_X6_2 (v := .int (iI η1 1)) rfl dX6_record_33 ?_
      refine lv_topi (fun y7 ey7 => ?_)
      have ey7 : y7 = nI tt := ey7.trans (by rw [eη1]; exact (iI_uI_n (by decide)).trans et)
      subst ey7
      refine lv_bipush (v := 8) E.ex E.by dX6_record_36 (by decide) ?_
      refine lv_icmp_ge (tgt := 51) E.ex E.by dX6_record_38 (by decide) (fun hc => ?_) (fun hc => absurd (by rw [li8]; exact nI_le (by omega) (by omega)) hc)
      clear hc
      refine k_retv (wof := (fun u : US × (Nat → US) => (fl [wHi kc ad u.1, wKp kc ad u.2, wC kc (ad 1) κ]))) (u := (η1, (kup kp 6 u3))) E G ?_ ?_ ?_ dX6_record_51
      · exact h η1 (by rw [eη1]; exact iI_uI _ _ _) (by rw [if_neg (by omega), eη1]; exact (iI_uI_n (by decide)).trans (et.trans (congrArg nI (by omega))))
      · first | exact Nat.le_of_ble_eq_true rfl | omega
      · first | exact Nat.le_of_ble_eq_true rfl | omega
  | 7, _, ei, h =>
    by_cases hlt : tt < 8
    · intro sz
      refine k_begin (cc := cX6_record) (maxL := 3) (ret := none) (by decide +kernel) rfl rfl (fun p e s m args below meth c hsz E G ls hl => ?_)
      subst hsz
      have hl : lv_has ls 3 [(0, .ref (ad 3 0)), (1, .ref (ad 1 0))] := hl
      refine lv_aload_n E.ex E.by dX6_record_0 rfl (lv_at hl 0 rfl) ?_
      refine lv_aload_n E.ex E.by dX6_record_1 rfl (lv_at hl 0 rfl) ?_
      refine k_get E G wi_X6_record_X6 (0) (gH_0 _ _ _ _ _) rfl 1 rfl fl_X6_record_X6_1 (v := .int (iI η 0)) rfl dX6_record_2 ?_
      refine lv_topi (fun y1 ey1 => ?_)
      have ey1 : y1 = nI 7 := ey1.trans (ei)
      subst ey1
      refine k_cVq (n := 1) (X := []) (w := (fl [wHi kc ad η, wKp kc ad kp, wC kc (ad 1) κ])) (Z := []) (wnew := (fun _ : Unit => (fl [wHi kc ad η, wKp kc ad kp, wC kc (ad 1) κ]))) (As := [.int (nI 7)]) (rest := []) E (List.append_nil _).symm G (c_X6_slotAt l D kc (fl [wHi kc ad η, wKp kc ad kp, wC kc (ad 1) κ]) 0 1 (ad 3 0) (ad 3 1) 7 _ _ (fun i => some (ad (20 + i) 0)) (gH_0 _ _ _ _ _) rfl (by decide)) gX6_record_X6_slotAt rfl ⟨rfl, rfl⟩ hd_X6_slotAt_v ⟨rfl, rfl⟩ (0) (gH_0 _ _ _ _ _) rfl rfl hl rfl rfl dX6_record_5 (⟨Nat.le_of_ble_eq_true rfl, Nat.le_of_ble_eq_true rfl⟩) (fun _ => (List.append_nil _).symm) (fun r2 u2 hq2 H locs G => ?_)
      subst hq2
      refine lv_astore_n (lv' := [(2, .ref (ad 27 0)), (0, .ref (ad 3 0)), (1, .ref (ad 1 0))]) E.ex E.by dX6_record_8 rfl hl (by decide) rfl (fun ls hl => ?_)
      refine lv_aload_n E.ex E.by dX6_record_9 rfl (lv_at hl 0 rfl) ?_
      refine lv_ifnonnull (tgt := 14) E.ex E.by dX6_record_10 (by decide) ?_
      refine lv_aload_n E.ex E.by dX6_record_14 rfl (lv_at hl 0 rfl) ?_
      refine lv_aload_n E.ex E.by dX6_record_15 rfl (lv_at hl 2 rfl) ?_
      have G := G.cg (wz := fl [wHi kc ad η, wC kc (ad 20) (kp 0), wC kc (ad 21) (kp 1), wC kc (ad 22) (kp 2), wC kc (ad 23) (kp 3), wC kc (ad 24) (kp 4), wC kc (ad 25) (kp 5), wC kc (ad 26) (kp 6), wC kc (ad 27) (kp 7), wC kc (ad 1) κ]) rfl
      have G := kG.sel (L := [wHi kc ad η, wC kc (ad 20) (kp 0), wC kc (ad 21) (kp 1), wC kc (ad 22) (kp 2), wC kc (ad 23) (kp 3), wC kc (ad 24) (kp 4), wC kc (ad 25) (kp 5), wC kc (ad 26) (kp 6), wC kc (ad 27) (kp 7), wC kc (ad 1) κ]) (L' := [wC kc (ad 27) (kp 7), wC kc (ad 1) κ, wHi kc ad η, wC kc (ad 20) (kp 0), wC kc (ad 21) (kp 1), wC kc (ad 22) (kp 2), wC kc (ad 23) (kp 3), wC kc (ad 24) (kp 4), wC kc (ad 25) (kp 5), wC kc (ad 26) (kp 6)]) G [8, 8] rfl
      refine k_cVv (n := 1) (X := []) (w := (xCC kc (ad 27) (ad 1) (kp 7) κ)) (Z := (fl [wHi kc ad η, wC kc (ad 20) (kp 0), wC kc (ad 21) (kp 1), wC kc (ad 22) (kp 2), wC kc (ad 23) (kp 3), wC kc (ad 24) (kp 4), wC kc (ad 25) (kp 5), wC kc (ad 26) (kp 6)])) (wnew := (fun u : US => (fl [wC kc (ad 27) u, wC kc (ad 1) κ, wHi kc ad η, wC kc (ad 20) (kp 0), wC kc (ad 21) (kp 1), wC kc (ad 22) (kp 2), wC kc (ad 23) (kp 3), wC kc (ad 24) (kp 4), wC kc (ad 25) (kp 5), wC kc (ad 26) (kp 6)]))) (As := [.ref (ad 1 0)]) (rest := []) E rfl G (c_X2_copyFrom l D kc (ad 27) (ad 1) _ _ _ h) gX6_record_X2_copyFrom rfl ⟨rfl, rfl⟩ hd_X2_copyFrom_v ⟨rfl, rfl⟩ (0) (gCC_0 _ _ _ _ _) rfl rfl hl rfl rfl dX6_record_16 (⟨rfl, rfl⟩) (fun _ => rfl) (fun u3 hq3 H locs G => ?_)
      have h := hq3
      have G := kG.sel (L := [wC kc (ad 27) u3, wC kc (ad 1) κ, wHi kc ad η, wC kc (ad 20) (kp 0), wC kc (ad 21) (kp 1), wC kc (ad 22) (kp 2), wC kc (ad 23) (kp 3), wC kc (ad 24) (kp 4), wC kc (ad 25) (kp 5), wC kc (ad 26) (kp 6)]) (L' := [wHi kc ad η, wC kc (ad 20) (kp 0), wC kc (ad 21) (kp 1), wC kc (ad 22) (kp 2), wC kc (ad 23) (kp 3), wC kc (ad 24) (kp 4), wC kc (ad 25) (kp 5), wC kc (ad 26) (kp 6), wC kc (ad 27) u3, wC kc (ad 1) κ]) G [2, 2, 2, 2, 2, 2, 2, 2, 0, 0] rfl
      have G := G.cg (wz := (fl [wHi kc ad η, wKp kc ad (kup kp 7 u3), wC kc (ad 1) κ])) rfl
      refine lv_aload_n E.ex E.by dX6_record_19 rfl (lv_at hl 1 rfl) ?_
      refine lv_aload_n E.ex E.by dX6_record_20 rfl (lv_at hl 1 rfl) ?_
      refine k_get E G wi_X6_record_X6 (0) (gH_0 _ _ _ _ _) rfl 1 rfl fl_X6_record_X6_1 (v := .int (iI η 0)) rfl dX6_record_21 ?_
      refine lv_topi (fun y4 ey4 => ?_)
      have ey4 : y4 = nI 7 := ey4.trans (ei)
      subst ey4
      refine lv_iconst (v := 1) E.ex E.by dX6_record_24 (by decide) ?_
      refine lv_iadd E.ex E.by dX6_record_25 ?_
      refine lv_topi (fun y5 ey5 => ?_)
      have ey5 : y5 = nI 8 := ey5.trans (by decide)
      subst ey5
      refine lv_bipush (v := 8) E.ex E.by dX6_record_26 (by decide) ?_
      refine lv_irem E.ex E.by dX6_record_28 (by decide) ?_
      refine lv_topi (fun y6 ey6 => ?_)
      have ey6 : y6 = nI 0 := ey6.trans (by decide)
      subst ey6
      refine k_putX E G wi_X6_record_X6 tyX6_ok nmX6 (0) (gH_0 _ _ _ _ _) rfl 1 rfl fl_X6_record_X6_1 rfl rfl rfl rfl ((fl [wHi kc ad (uI η 0 (nI 0)), wKp kc ad (kup kp 7 u3), wC kc (ad 1) κ])) rfl dX6_record_29 (fun H locs G => ?_)
      obtain ⟨η1, eη1⟩ : ∃ y : US, y = uI η 0 (nI 0) := ⟨_, rfl⟩
      rw [← eη1] at G
      refine lv_aload_n E.ex E.by dX6_record_32 rfl (lv_at hl 1 rfl) ?_
      refine k_get E G wi_X6_record_X6 (0) (gH_0 _ _ _ _ _) rfl 2 rfl fl_X6_record_X6_2 (v := .int (iI η1 1)) rfl dX6_record_33 ?_
      refine lv_topi (fun y7 ey7 => ?_)
      have ey7 : y7 = nI tt := ey7.trans (by rw [eη1]; exact (iI_uI_n (by decide)).trans et)
      subst ey7
      refine lv_bipush (v := 8) E.ex E.by dX6_record_36 (by decide) ?_
      refine lv_icmp_ge (tgt := 51) E.ex E.by dX6_record_38 (by decide) (fun hc => absurd hc (by rw [li8]; exact nI_ge hlt (by omega))) (fun hc => ?_)
      clear hc
      refine lv_aload_n E.ex E.by dX6_record_41 rfl (lv_at hl 1 rfl) ?_
      refine lv_dup E.ex E.by dX6_record_42 rfl ?_
      refine k_get E G wi_X6_record_X6 (0) (gH_0 _ _ _ _ _) rfl 2 rfl fl_X6_record_X6_2 (v := .int (iI η1 1)) rfl dX6_record_43 ?_
      refine lv_topi (fun y8 ey8 => ?_)
      have ey8 : y8 = nI tt := ey8.trans (by rw [eη1]; exact (iI_uI_n (by decide)).trans et)
      subst ey8
      refine lv_iconst (v := 1) E.ex E.by dX6_record_46 (by decide) ?_
      refine lv_iadd E.ex E.by dX6_record_47 ?_
      refine lv_topi (fun y9 ey9 => ?_)
      have ey9 : y9 = nI (tt + 1) := ey9.trans (nI_1 _)
      subst ey9
      refine k_putX E G wi_X6_record_X6 tyX6_ok nmX6 (0) (gH_0 _ _ _ _ _) rfl 2 rfl fl_X6_record_X6_2 rfl rfl rfl rfl ((fl [wHi kc ad (uI η1 1 (nI (tt + 1))), wKp kc ad (kup kp 7 u3), wC kc (ad 1) κ])) rfl dX6_record_48 (fun H locs G => ?_)
      obtain ⟨η2, eη2⟩ : ∃ y : US, y = uI η1 1 (nI (tt + 1)) := ⟨_, rfl⟩
      rw [← eη2] at G
      refine k_retv (wof := (fun u : US × (Nat → US) => (fl [wHi kc ad u.1, wKp kc ad u.2, wC kc (ad 1) κ]))) (u := (η2, (kup kp 7 u3))) E G ?_ ?_ ?_ dX6_record_51
      · exact h η2 (by rw [eη2]; exact (iI_uI_n (by decide)).trans (by rw [eη1]; exact iI_uI _ _ _)) (by rw [if_pos hlt, eη2]; exact iI_uI _ _ _)
      · first | exact Nat.le_of_ble_eq_true rfl | omega
      · first | exact Nat.le_of_ble_eq_true rfl | omega
    · intro sz
      refine k_begin (cc := cX6_record) (maxL := 3) (ret := none) (by decide +kernel) rfl rfl (fun p e s m args below meth c hsz E G ls hl => ?_)
      subst hsz
      have hl : lv_has ls 3 [(0, .ref (ad 3 0)), (1, .ref (ad 1 0))] := hl
      refine lv_aload_n E.ex E.by dX6_record_0 rfl (lv_at hl 0 rfl) ?_
      refine lv_aload_n E.ex E.by dX6_record_1 rfl (lv_at hl 0 rfl) ?_
      refine k_get E G wi_X6_record_X6 (0) (gH_0 _ _ _ _ _) rfl 1 rfl fl_X6_record_X6_1 (v := .int (iI η 0)) rfl dX6_record_2 ?_
      refine lv_topi (fun y1 ey1 => ?_)
      have ey1 : y1 = nI 7 := ey1.trans (ei)
      subst ey1
      refine k_cVq (n := 1) (X := []) (w := (fl [wHi kc ad η, wKp kc ad kp, wC kc (ad 1) κ])) (Z := []) (wnew := (fun _ : Unit => (fl [wHi kc ad η, wKp kc ad kp, wC kc (ad 1) κ]))) (As := [.int (nI 7)]) (rest := []) E (List.append_nil _).symm G (c_X6_slotAt l D kc (fl [wHi kc ad η, wKp kc ad kp, wC kc (ad 1) κ]) 0 1 (ad 3 0) (ad 3 1) 7 _ _ (fun i => some (ad (20 + i) 0)) (gH_0 _ _ _ _ _) rfl (by decide)) gX6_record_X6_slotAt rfl ⟨rfl, rfl⟩ hd_X6_slotAt_v ⟨rfl, rfl⟩ (0) (gH_0 _ _ _ _ _) rfl rfl hl rfl rfl dX6_record_5 (⟨Nat.le_of_ble_eq_true rfl, Nat.le_of_ble_eq_true rfl⟩) (fun _ => (List.append_nil _).symm) (fun r2 u2 hq2 H locs G => ?_)
      subst hq2
      refine lv_astore_n (lv' := [(2, .ref (ad 27 0)), (0, .ref (ad 3 0)), (1, .ref (ad 1 0))]) E.ex E.by dX6_record_8 rfl hl (by decide) rfl (fun ls hl => ?_)
      refine lv_aload_n E.ex E.by dX6_record_9 rfl (lv_at hl 0 rfl) ?_
      refine lv_ifnonnull (tgt := 14) E.ex E.by dX6_record_10 (by decide) ?_
      refine lv_aload_n E.ex E.by dX6_record_14 rfl (lv_at hl 0 rfl) ?_
      refine lv_aload_n E.ex E.by dX6_record_15 rfl (lv_at hl 2 rfl) ?_
      have G := G.cg (wz := fl [wHi kc ad η, wC kc (ad 20) (kp 0), wC kc (ad 21) (kp 1), wC kc (ad 22) (kp 2), wC kc (ad 23) (kp 3), wC kc (ad 24) (kp 4), wC kc (ad 25) (kp 5), wC kc (ad 26) (kp 6), wC kc (ad 27) (kp 7), wC kc (ad 1) κ]) rfl
      have G := kG.sel (L := [wHi kc ad η, wC kc (ad 20) (kp 0), wC kc (ad 21) (kp 1), wC kc (ad 22) (kp 2), wC kc (ad 23) (kp 3), wC kc (ad 24) (kp 4), wC kc (ad 25) (kp 5), wC kc (ad 26) (kp 6), wC kc (ad 27) (kp 7), wC kc (ad 1) κ]) (L' := [wC kc (ad 27) (kp 7), wC kc (ad 1) κ, wHi kc ad η, wC kc (ad 20) (kp 0), wC kc (ad 21) (kp 1), wC kc (ad 22) (kp 2), wC kc (ad 23) (kp 3), wC kc (ad 24) (kp 4), wC kc (ad 25) (kp 5), wC kc (ad 26) (kp 6)]) G [8, 8] rfl
      refine k_cVv (n := 1) (X := []) (w := (xCC kc (ad 27) (ad 1) (kp 7) κ)) (Z := (fl [wHi kc ad η, wC kc (ad 20) (kp 0), wC kc (ad 21) (kp 1), wC kc (ad 22) (kp 2), wC kc (ad 23) (kp 3), wC kc (ad 24) (kp 4), wC kc (ad 25) (kp 5), wC kc (ad 26) (kp 6)])) (wnew := (fun u : US => (fl [wC kc (ad 27) u, wC kc (ad 1) κ, wHi kc ad η, wC kc (ad 20) (kp 0), wC kc (ad 21) (kp 1), wC kc (ad 22) (kp 2), wC kc (ad 23) (kp 3), wC kc (ad 24) (kp 4), wC kc (ad 25) (kp 5), wC kc (ad 26) (kp 6)]))) (As := [.ref (ad 1 0)]) (rest := []) E rfl G (c_X2_copyFrom l D kc (ad 27) (ad 1) _ _ _ h) gX6_record_X2_copyFrom rfl ⟨rfl, rfl⟩ hd_X2_copyFrom_v ⟨rfl, rfl⟩ (0) (gCC_0 _ _ _ _ _) rfl rfl hl rfl rfl dX6_record_16 (⟨rfl, rfl⟩) (fun _ => rfl) (fun u3 hq3 H locs G => ?_)
      have h := hq3
      have G := kG.sel (L := [wC kc (ad 27) u3, wC kc (ad 1) κ, wHi kc ad η, wC kc (ad 20) (kp 0), wC kc (ad 21) (kp 1), wC kc (ad 22) (kp 2), wC kc (ad 23) (kp 3), wC kc (ad 24) (kp 4), wC kc (ad 25) (kp 5), wC kc (ad 26) (kp 6)]) (L' := [wHi kc ad η, wC kc (ad 20) (kp 0), wC kc (ad 21) (kp 1), wC kc (ad 22) (kp 2), wC kc (ad 23) (kp 3), wC kc (ad 24) (kp 4), wC kc (ad 25) (kp 5), wC kc (ad 26) (kp 6), wC kc (ad 27) u3, wC kc (ad 1) κ]) G [2, 2, 2, 2, 2, 2, 2, 2, 0, 0] rfl
      have G := G.cg (wz := (fl [wHi kc ad η, wKp kc ad (kup kp 7 u3), wC kc (ad 1) κ])) rfl
      refine lv_aload_n E.ex E.by dX6_record_19 rfl (lv_at hl 1 rfl) ?_
      refine lv_aload_n E.ex E.by dX6_record_20 rfl (lv_at hl 1 rfl) ?_
      refine k_get E G wi_X6_record_X6 (0) (gH_0 _ _ _ _ _) rfl 1 rfl fl_X6_record_X6_1 (v := .int (iI η 0)) rfl dX6_record_21 ?_
      refine lv_topi (fun y4 ey4 => ?_)
      have ey4 : y4 = nI 7 := ey4.trans (ei)
      subst ey4
      refine lv_iconst (v := 1) E.ex E.by dX6_record_24 (by decide) ?_
      refine lv_iadd E.ex E.by dX6_record_25 ?_
      refine lv_topi (fun y5 ey5 => ?_)
      have ey5 : y5 = nI 8 := ey5.trans (by decide)
      subst ey5
      refine lv_bipush (v := 8) E.ex E.by dX6_record_26 (by decide) ?_
      refine lv_irem E.ex E.by dX6_record_28 (by decide) ?_
      refine lv_topi (fun y6 ey6 => ?_)
      have ey6 : y6 = nI 0 := ey6.trans (by decide)
      subst ey6
      refine k_putX E G wi_X6_record_X6 tyX6_ok nmX6 (0) (gH_0 _ _ _ _ _) rfl 1 rfl fl_X6_record_X6_1 rfl rfl rfl rfl ((fl [wHi kc ad (uI η 0 (nI 0)), wKp kc ad (kup kp 7 u3), wC kc (ad 1) κ])) rfl dX6_record_29 (fun H locs G => ?_)
      obtain ⟨η1, eη1⟩ : ∃ y : US, y = uI η 0 (nI 0) := ⟨_, rfl⟩
      rw [← eη1] at G
      refine lv_aload_n E.ex E.by dX6_record_32 rfl (lv_at hl 1 rfl) ?_
      refine k_get E G wi_X6_record_X6 (0) (gH_0 _ _ _ _ _) rfl 2 rfl fl_X6_record_X6_2 (v := .int (iI η1 1)) rfl dX6_record_33 ?_
      refine lv_topi (fun y7 ey7 => ?_)
      have ey7 : y7 = nI tt := ey7.trans (by rw [eη1]; exact (iI_uI_n (by decide)).trans et)
      subst ey7
      refine lv_bipush (v := 8) E.ex E.by dX6_record_36 (by decide) ?_
      refine lv_icmp_ge (tgt := 51) E.ex E.by dX6_record_38 (by decide) (fun hc => ?_) (fun hc => absurd (by rw [li8]; exact nI_le (by omega) (by omega)) hc)
      clear hc
      refine k_retv (wof := (fun u : US × (Nat → US) => (fl [wHi kc ad u.1, wKp kc ad u.2, wC kc (ad 1) κ]))) (u := (η1, (kup kp 7 u3))) E G ?_ ?_ ?_ dX6_record_51
      · exact h η1 (by rw [eη1]; exact iI_uI _ _ _) (by rw [if_neg (by omega), eη1]; exact (iI_uI_n (by decide)).trans (et.trans (congrArg nI (by omega))))
      · first | exact Nat.le_of_ble_eq_true rfl | omega
      · first | exact Nat.le_of_ble_eq_true rfl | omega
theorem wi_X6_takeBack_X6 : ∀ w ∈ wsX60, w ∈ wsX6_takeBack := fun w h => List.mem_cons_of_mem _ (List.mem_append_left _ (List.mem_append_right _ (h)))
theorem fl_X6_takeBack_X6_2 : Cond.fieldLink RX6 22 (TX6 2).1 (TX6 2).2.1 (TX6 2).2.2.1 ∈ wsX6_takeBack := List.mem_of_getElem? (i := 1) (by decide +kernel)
theorem fl_X6_takeBack_X6_1 : Cond.fieldLink RX6 18 (TX6 1).1 (TX6 1).2.1 (TX6 1).2.2.1 ∈ wsX6_takeBack := List.mem_of_getElem? (i := 2) (by decide +kernel)
set_option maxRecDepth 100000 in
set_option maxHeartbeats 4000000 in
theorem c_X6_takeBack (l : Launch) (D : va_G) (kc : Nat → ClassId) (ad : Nat → Nat → Nat) (η : US) (kp : Nat → US) (κ : US) (Q : Int32 → (US × US) → Prop) (h : wp_X6_takeBack η kp κ Q) : kCi l D (tyL kc) yX6_takeBack wsX6_takeBack ({ frames := 1, cells := 0, slots := 0, locals := 22 } : Room) [.ref (ad 3 0), .ref (ad 1 0)] (fl [wHi kc ad η, wKp kc ad kp, wC kc (ad 1) κ]) (fun u : US × US => (fl [wHi kc ad u.1, wKp kc ad kp, wC kc (ad 1) u.2])) 0 0 (fun r u => Q r u) := by
  obtain ⟨i, tt, hi, htt, ei, et, h⟩ := h
  by_cases hz : tt = 0
  · intro sz
    refine k_begin (cc := cX6_takeBack) (maxL := 2) (ret := (some .boolean)) (by decide +kernel) rfl rfl (fun p e s m args below meth c hsz E G ls hl => ?_)
    subst hsz
    have hl : lv_has ls 2 [(0, .ref (ad 3 0)), (1, .ref (ad 1 0))] := hl
    refine lv_aload_n E.ex E.by dX6_takeBack_0 rfl (lv_at hl 0 rfl) ?_
    refine k_get E G wi_X6_takeBack_X6 (0) (gH_0 _ _ _ _ _) rfl 2 rfl fl_X6_takeBack_X6_2 (v := .int (iI η 1)) rfl dX6_takeBack_1 ?_
    refine lv_topi (fun y1 ey1 => ?_)
    have ey1 : y1 = nI 0 := ey1.trans (by rw [et, hz])
    subst ey1
    refine lv_if_le (tgt := 11) E.ex E.by dX6_takeBack_4 (by decide) (fun hc => ?_) (fun hc => absurd (by decide) hc)
    clear hc
    refine lv_iconst (v := 0) E.ex E.by dX6_takeBack_11 (by decide) ?_
    refine k_ret (v := 0) (wof := (fun u : US × US => (fl [wHi kc ad u.1, wKp kc ad kp, wC kc (ad 1) u.2]))) (u := (η, κ)) E G rfl ?_ ?_ ?_ dX6_takeBack_12
    · exact h.1 hz
    · first | exact Nat.le_of_ble_eq_true rfl | omega
    · first | exact Nat.le_of_ble_eq_true rfl | omega
  · have hz : 0 < tt := by omega
    match i, hi, ei, h with
    | 0, _, ei, h =>
      intro sz
      refine k_begin (cc := cX6_takeBack) (maxL := 2) (ret := (some .boolean)) (by decide +kernel) rfl rfl (fun p e s m args below meth c hsz E G ls hl => ?_)
      subst hsz
      have hl : lv_has ls 2 [(0, .ref (ad 3 0)), (1, .ref (ad 1 0))] := hl
      refine lv_aload_n E.ex E.by dX6_takeBack_0 rfl (lv_at hl 0 rfl) ?_
      refine k_get E G wi_X6_takeBack_X6 (0) (gH_0 _ _ _ _ _) rfl 2 rfl fl_X6_takeBack_X6_2 (v := .int (iI η 1)) rfl dX6_takeBack_1 ?_
      refine lv_topi (fun y1 ey1 => ?_)
      have ey1 : y1 = nI tt := ey1.trans (et)
      subst ey1
      refine lv_if_le (tgt := 11) E.ex E.by dX6_takeBack_4 (by decide) (fun hc => absurd hc (nI_nle hz (by omega))) (fun hc => ?_)
      clear hc
      refine lv_aload_n E.ex E.by dX6_takeBack_7 rfl (lv_at hl 1 rfl) ?_
      refine lv_ifnonnull (tgt := 13) E.ex E.by dX6_takeBack_8 (by decide) ?_
      refine lv_aload_n E.ex E.by dX6_takeBack_13 rfl (lv_at hl 0 rfl) ?_
      refine lv_aload_n E.ex E.by dX6_takeBack_14 rfl (lv_at hl 0 rfl) ?_
      refine k_get E G wi_X6_takeBack_X6 (0) (gH_0 _ _ _ _ _) rfl 1 rfl fl_X6_takeBack_X6_1 (v := .int (iI η 0)) rfl dX6_takeBack_15 ?_
      refine lv_topi (fun y2 ey2 => ?_)
      have ey2 : y2 = nI 0 := ey2.trans (ei)
      subst ey2
      refine lv_bipush (v := 8) E.ex E.by dX6_takeBack_18 (by decide) ?_
      refine lv_iadd E.ex E.by dX6_takeBack_20 ?_
      refine lv_topi (fun y3 ey3 => ?_)
      have ey3 : y3 = nI 8 := ey3.trans (by decide)
      subst ey3
      refine lv_iconst (v := 1) E.ex E.by dX6_takeBack_21 (by decide) ?_
      refine lv_isub E.ex E.by dX6_takeBack_22 ?_
      refine lv_topi (fun y4 ey4 => ?_)
      have ey4 : y4 = nI 7 := ey4.trans (by decide)
      subst ey4
      refine lv_bipush (v := 8) E.ex E.by dX6_takeBack_23 (by decide) ?_
      refine lv_irem E.ex E.by dX6_takeBack_25 (by decide) ?_
      refine lv_topi (fun y5 ey5 => ?_)
      have ey5 : y5 = nI 7 := ey5.trans (by decide)
      subst ey5
      refine k_putX E G wi_X6_takeBack_X6 tyX6_ok nmX6 (0) (gH_0 _ _ _ _ _) rfl 1 rfl fl_X6_takeBack_X6_1 rfl rfl rfl rfl ((fl [wHi kc ad (uI η 0 (nI 7)), wKp kc ad kp, wC kc (ad 1) κ])) rfl dX6_takeBack_26 (fun H locs G => ?_)
      obtain ⟨η1, eη1⟩ : ∃ y : US, y = uI η 0 (nI 7) := ⟨_, rfl⟩
      rw [← eη1] at G
      refine lv_aload_n E.ex E.by dX6_takeBack_29 rfl (lv_at hl 1 rfl) ?_
      refine lv_aload_n E.ex E.by dX6_takeBack_30 rfl (lv_at hl 0 rfl) ?_
      refine lv_aload_n E.ex E.by dX6_takeBack_31 rfl (lv_at hl 0 rfl) ?_
      refine k_get E G wi_X6_takeBack_X6 (0) (gH_0 _ _ _ _ _) rfl 1 rfl fl_X6_takeBack_X6_1 (v := .int (iI η1 0)) rfl dX6_takeBack_32 ?_
      refine lv_topi (fun y6 ey6 => ?_)
      have ey6 : y6 = nI 7 := ey6.trans (by rw [eη1]; exact iI_uI _ _ _)
      subst ey6
      refine k_cVq (n := 1) (X := []) (w := (fl [wHi kc ad η1, wKp kc ad kp, wC kc (ad 1) κ])) (Z := []) (wnew := (fun _ : Unit => (fl [wHi kc ad η1, wKp kc ad kp, wC kc (ad 1) κ]))) (As := [.int (nI 7)]) (rest := [.ref (ad 1 0)]) E (List.append_nil _).symm G (c_X6_slotAt l D kc (fl [wHi kc ad η1, wKp kc ad kp, wC kc (ad 1) κ]) 0 1 (ad 3 0) (ad 3 1) 7 _ _ (fun i => some (ad (20 + i) 0)) (gH_0 _ _ _ _ _) rfl (by decide)) gX6_takeBack_X6_slotAt rfl ⟨rfl, rfl⟩ hd_X6_slotAt_v ⟨rfl, rfl⟩ (0) (gH_0 _ _ _ _ _) rfl rfl hl rfl rfl dX6_takeBack_35 (⟨Nat.le_of_ble_eq_true rfl, Nat.le_of_ble_eq_true rfl⟩) (fun _ => (List.append_nil _).symm) (fun r7 u7 hq7 H locs G => ?_)
      subst hq7
      have G := G.cg (wz := fl [wHi kc ad η1, wC kc (ad 20) (kp 0), wC kc (ad 21) (kp 1), wC kc (ad 22) (kp 2), wC kc (ad 23) (kp 3), wC kc (ad 24) (kp 4), wC kc (ad 25) (kp 5), wC kc (ad 26) (kp 6), wC kc (ad 27) (kp 7), wC kc (ad 1) κ]) rfl
      have G := kG.sel (L := [wHi kc ad η1, wC kc (ad 20) (kp 0), wC kc (ad 21) (kp 1), wC kc (ad 22) (kp 2), wC kc (ad 23) (kp 3), wC kc (ad 24) (kp 4), wC kc (ad 25) (kp 5), wC kc (ad 26) (kp 6), wC kc (ad 27) (kp 7), wC kc (ad 1) κ]) (L' := [wC kc (ad 1) κ, wC kc (ad 27) (kp 7), wHi kc ad η1, wC kc (ad 20) (kp 0), wC kc (ad 21) (kp 1), wC kc (ad 22) (kp 2), wC kc (ad 23) (kp 3), wC kc (ad 24) (kp 4), wC kc (ad 25) (kp 5), wC kc (ad 26) (kp 6)]) G [9, 8] rfl
      refine k_cVv (n := 1) (X := []) (w := (xCC kc (ad 1) (ad 27) κ (kp 7))) (Z := (fl [wHi kc ad η1, wC kc (ad 20) (kp 0), wC kc (ad 21) (kp 1), wC kc (ad 22) (kp 2), wC kc (ad 23) (kp 3), wC kc (ad 24) (kp 4), wC kc (ad 25) (kp 5), wC kc (ad 26) (kp 6)])) (wnew := (fun u : US => (fl [wC kc (ad 1) u, wC kc (ad 27) (kp 7), wHi kc ad η1, wC kc (ad 20) (kp 0), wC kc (ad 21) (kp 1), wC kc (ad 22) (kp 2), wC kc (ad 23) (kp 3), wC kc (ad 24) (kp 4), wC kc (ad 25) (kp 5), wC kc (ad 26) (kp 6)]))) (As := [.ref (ad 27 0)]) (rest := []) E rfl G (c_X2_copyFrom l D kc (ad 1) (ad 27) _ _ _ (h.2 hz)) gX6_takeBack_X2_copyFrom rfl ⟨rfl, rfl⟩ hd_X2_copyFrom_v ⟨rfl, rfl⟩ (0) (gCC_0 _ _ _ _ _) rfl rfl hl rfl rfl dX6_takeBack_38 (⟨rfl, rfl⟩) (fun _ => rfl) (fun u8 hq8 H locs G => ?_)
      have h := hq8
      have G := kG.sel (L := [wC kc (ad 1) u8, wC kc (ad 27) (kp 7), wHi kc ad η1, wC kc (ad 20) (kp 0), wC kc (ad 21) (kp 1), wC kc (ad 22) (kp 2), wC kc (ad 23) (kp 3), wC kc (ad 24) (kp 4), wC kc (ad 25) (kp 5), wC kc (ad 26) (kp 6)]) (L' := [wHi kc ad η1, wC kc (ad 20) (kp 0), wC kc (ad 21) (kp 1), wC kc (ad 22) (kp 2), wC kc (ad 23) (kp 3), wC kc (ad 24) (kp 4), wC kc (ad 25) (kp 5), wC kc (ad 26) (kp 6), wC kc (ad 27) (kp 7), wC kc (ad 1) u8]) G [2, 2, 2, 2, 2, 2, 2, 2, 1, 0] rfl
      have G := G.cg (wz := (fl [wHi kc ad η1, wKp kc ad kp, wC kc (ad 1) u8])) rfl
      refine lv_aload_n E.ex E.by dX6_takeBack_41 rfl (lv_at hl 0 rfl) ?_
      refine lv_dup E.ex E.by dX6_takeBack_42 rfl ?_
      refine k_get E G wi_X6_takeBack_X6 (0) (gH_0 _ _ _ _ _) rfl 2 rfl fl_X6_takeBack_X6_2 (v := .int (iI η1 1)) rfl dX6_takeBack_43 ?_
      refine lv_topi (fun y9 ey9 => ?_)
      have ey9 : y9 = nI tt := ey9.trans (by rw [eη1]; exact (iI_uI_n (by decide)).trans et)
      subst ey9
      refine lv_iconst (v := 1) E.ex E.by dX6_takeBack_46 (by decide) ?_
      refine lv_isub E.ex E.by dX6_takeBack_47 ?_
      refine lv_topi (fun y10 ey10 => ?_)
      have ey10 : y10 = nI (tt - 1) := ey10.trans (nI_pred1 hz)
      subst ey10
      refine k_putX E G wi_X6_takeBack_X6 tyX6_ok nmX6 (0) (gH_0 _ _ _ _ _) rfl 2 rfl fl_X6_takeBack_X6_2 rfl rfl rfl rfl ((fl [wHi kc ad (uI η1 1 (nI (tt - 1))), wKp kc ad kp, wC kc (ad 1) u8])) rfl dX6_takeBack_48 (fun H locs G => ?_)
      obtain ⟨η2, eη2⟩ : ∃ y : US, y = uI η1 1 (nI (tt - 1)) := ⟨_, rfl⟩
      rw [← eη2] at G
      refine lv_iconst (v := 1) E.ex E.by dX6_takeBack_51 (by decide) ?_
      refine k_ret (v := 1) (wof := (fun u : US × US => (fl [wHi kc ad u.1, wKp kc ad kp, wC kc (ad 1) u.2]))) (u := (η2, u8)) E G rfl ?_ ?_ ?_ dX6_takeBack_52
      · exact h η2 (by rw [eη2]; exact (iI_uI_n (by decide)).trans (by rw [eη1]; exact iI_uI _ _ _)) (by rw [eη2]; exact iI_uI _ _ _)
      · first | exact Nat.le_of_ble_eq_true rfl | omega
      · first | exact Nat.le_of_ble_eq_true rfl | omega
    | 1, _, ei, h =>
      intro sz
      refine k_begin (cc := cX6_takeBack) (maxL := 2) (ret := (some .boolean)) (by decide +kernel) rfl rfl (fun p e s m args below meth c hsz E G ls hl => ?_)
      subst hsz
      have hl : lv_has ls 2 [(0, .ref (ad 3 0)), (1, .ref (ad 1 0))] := hl
      refine lv_aload_n E.ex E.by dX6_takeBack_0 rfl (lv_at hl 0 rfl) ?_
      refine k_get E G wi_X6_takeBack_X6 (0) (gH_0 _ _ _ _ _) rfl 2 rfl fl_X6_takeBack_X6_2 (v := .int (iI η 1)) rfl dX6_takeBack_1 ?_
      refine lv_topi (fun y1 ey1 => ?_)
      have ey1 : y1 = nI tt := ey1.trans (et)
      subst ey1
      refine lv_if_le (tgt := 11) E.ex E.by dX6_takeBack_4 (by decide) (fun hc => absurd hc (nI_nle hz (by omega))) (fun hc => ?_)
      clear hc
      refine lv_aload_n E.ex E.by dX6_takeBack_7 rfl (lv_at hl 1 rfl) ?_
      refine lv_ifnonnull (tgt := 13) E.ex E.by dX6_takeBack_8 (by decide) ?_
      refine lv_aload_n E.ex E.by dX6_takeBack_13 rfl (lv_at hl 0 rfl) ?_
      refine lv_aload_n E.ex E.by dX6_takeBack_14 rfl (lv_at hl 0 rfl) ?_
      refine k_get E G wi_X6_takeBack_X6 (0) (gH_0 _ _ _ _ _) rfl 1 rfl fl_X6_takeBack_X6_1 (v := .int (iI η 0)) rfl dX6_takeBack_15 ?_
      refine lv_topi (fun y2 ey2 => ?_)
      have ey2 : y2 = nI 1 := ey2.trans (ei)
      subst ey2
      refine lv_bipush (v := 8) E.ex E.by dX6_takeBack_18 (by decide) ?_
      refine lv_iadd E.ex E.by dX6_takeBack_20 ?_
      refine lv_topi (fun y3 ey3 => ?_)
      have ey3 : y3 = nI 9 := ey3.trans (by decide)
      subst ey3
      refine lv_iconst (v := 1) E.ex E.by dX6_takeBack_21 (by decide) ?_
      refine lv_isub E.ex E.by dX6_takeBack_22 ?_
      refine lv_topi (fun y4 ey4 => ?_)
      have ey4 : y4 = nI 8 := ey4.trans (by decide)
      subst ey4
      refine lv_bipush (v := 8) E.ex E.by dX6_takeBack_23 (by decide) ?_
      refine lv_irem E.ex E.by dX6_takeBack_25 (by decide) ?_
      refine lv_topi (fun y5 ey5 => ?_)
      have ey5 : y5 = nI 0 := ey5.trans (by decide)
      subst ey5
      refine k_putX E G wi_X6_takeBack_X6 tyX6_ok nmX6 (0) (gH_0 _ _ _ _ _) rfl 1 rfl fl_X6_takeBack_X6_1 rfl rfl rfl rfl ((fl [wHi kc ad (uI η 0 (nI 0)), wKp kc ad kp, wC kc (ad 1) κ])) rfl dX6_takeBack_26 (fun H locs G => ?_)
      obtain ⟨η1, eη1⟩ : ∃ y : US, y = uI η 0 (nI 0) := ⟨_, rfl⟩
      rw [← eη1] at G
      refine lv_aload_n E.ex E.by dX6_takeBack_29 rfl (lv_at hl 1 rfl) ?_
      refine lv_aload_n E.ex E.by dX6_takeBack_30 rfl (lv_at hl 0 rfl) ?_
      refine lv_aload_n E.ex E.by dX6_takeBack_31 rfl (lv_at hl 0 rfl) ?_
      refine k_get E G wi_X6_takeBack_X6 (0) (gH_0 _ _ _ _ _) rfl 1 rfl fl_X6_takeBack_X6_1 (v := .int (iI η1 0)) rfl dX6_takeBack_32 ?_
      refine lv_topi (fun y6 ey6 => ?_)
      have ey6 : y6 = nI 0 := ey6.trans (by rw [eη1]; exact iI_uI _ _ _)
      subst ey6
      refine k_cVq (n := 1) (X := []) (w := (fl [wHi kc ad η1, wKp kc ad kp, wC kc (ad 1) κ])) (Z := []) (wnew := (fun _ : Unit => (fl [wHi kc ad η1, wKp kc ad kp, wC kc (ad 1) κ]))) (As := [.int (nI 0)]) (rest := [.ref (ad 1 0)]) E (List.append_nil _).symm G (c_X6_slotAt l D kc (fl [wHi kc ad η1, wKp kc ad kp, wC kc (ad 1) κ]) 0 1 (ad 3 0) (ad 3 1) 0 _ _ (fun i => some (ad (20 + i) 0)) (gH_0 _ _ _ _ _) rfl (by decide)) gX6_takeBack_X6_slotAt rfl ⟨rfl, rfl⟩ hd_X6_slotAt_v ⟨rfl, rfl⟩ (0) (gH_0 _ _ _ _ _) rfl rfl hl rfl rfl dX6_takeBack_35 (⟨Nat.le_of_ble_eq_true rfl, Nat.le_of_ble_eq_true rfl⟩) (fun _ => (List.append_nil _).symm) (fun r7 u7 hq7 H locs G => ?_)
      subst hq7
      have G := G.cg (wz := fl [wHi kc ad η1, wC kc (ad 20) (kp 0), wC kc (ad 21) (kp 1), wC kc (ad 22) (kp 2), wC kc (ad 23) (kp 3), wC kc (ad 24) (kp 4), wC kc (ad 25) (kp 5), wC kc (ad 26) (kp 6), wC kc (ad 27) (kp 7), wC kc (ad 1) κ]) rfl
      have G := kG.sel (L := [wHi kc ad η1, wC kc (ad 20) (kp 0), wC kc (ad 21) (kp 1), wC kc (ad 22) (kp 2), wC kc (ad 23) (kp 3), wC kc (ad 24) (kp 4), wC kc (ad 25) (kp 5), wC kc (ad 26) (kp 6), wC kc (ad 27) (kp 7), wC kc (ad 1) κ]) (L' := [wC kc (ad 1) κ, wC kc (ad 20) (kp 0), wHi kc ad η1, wC kc (ad 21) (kp 1), wC kc (ad 22) (kp 2), wC kc (ad 23) (kp 3), wC kc (ad 24) (kp 4), wC kc (ad 25) (kp 5), wC kc (ad 26) (kp 6), wC kc (ad 27) (kp 7)]) G [9, 1] rfl
      refine k_cVv (n := 1) (X := []) (w := (xCC kc (ad 1) (ad 20) κ (kp 0))) (Z := (fl [wHi kc ad η1, wC kc (ad 21) (kp 1), wC kc (ad 22) (kp 2), wC kc (ad 23) (kp 3), wC kc (ad 24) (kp 4), wC kc (ad 25) (kp 5), wC kc (ad 26) (kp 6), wC kc (ad 27) (kp 7)])) (wnew := (fun u : US => (fl [wC kc (ad 1) u, wC kc (ad 20) (kp 0), wHi kc ad η1, wC kc (ad 21) (kp 1), wC kc (ad 22) (kp 2), wC kc (ad 23) (kp 3), wC kc (ad 24) (kp 4), wC kc (ad 25) (kp 5), wC kc (ad 26) (kp 6), wC kc (ad 27) (kp 7)]))) (As := [.ref (ad 20 0)]) (rest := []) E rfl G (c_X2_copyFrom l D kc (ad 1) (ad 20) _ _ _ (h.2 hz)) gX6_takeBack_X2_copyFrom rfl ⟨rfl, rfl⟩ hd_X2_copyFrom_v ⟨rfl, rfl⟩ (0) (gCC_0 _ _ _ _ _) rfl rfl hl rfl rfl dX6_takeBack_38 (⟨rfl, rfl⟩) (fun _ => rfl) (fun u8 hq8 H locs G => ?_)
      have h := hq8
      have G := kG.sel (L := [wC kc (ad 1) u8, wC kc (ad 20) (kp 0), wHi kc ad η1, wC kc (ad 21) (kp 1), wC kc (ad 22) (kp 2), wC kc (ad 23) (kp 3), wC kc (ad 24) (kp 4), wC kc (ad 25) (kp 5), wC kc (ad 26) (kp 6), wC kc (ad 27) (kp 7)]) (L' := [wHi kc ad η1, wC kc (ad 20) (kp 0), wC kc (ad 21) (kp 1), wC kc (ad 22) (kp 2), wC kc (ad 23) (kp 3), wC kc (ad 24) (kp 4), wC kc (ad 25) (kp 5), wC kc (ad 26) (kp 6), wC kc (ad 27) (kp 7), wC kc (ad 1) u8]) G [2, 1, 1, 1, 1, 1, 1, 1, 1, 0] rfl
      have G := G.cg (wz := (fl [wHi kc ad η1, wKp kc ad kp, wC kc (ad 1) u8])) rfl
      refine lv_aload_n E.ex E.by dX6_takeBack_41 rfl (lv_at hl 0 rfl) ?_
      refine lv_dup E.ex E.by dX6_takeBack_42 rfl ?_
      refine k_get E G wi_X6_takeBack_X6 (0) (gH_0 _ _ _ _ _) rfl 2 rfl fl_X6_takeBack_X6_2 (v := .int (iI η1 1)) rfl dX6_takeBack_43 ?_
      refine lv_topi (fun y9 ey9 => ?_)
      have ey9 : y9 = nI tt := ey9.trans (by rw [eη1]; exact (iI_uI_n (by decide)).trans et)
      subst ey9
      refine lv_iconst (v := 1) E.ex E.by dX6_takeBack_46 (by decide) ?_
      refine lv_isub E.ex E.by dX6_takeBack_47 ?_
      refine lv_topi (fun y10 ey10 => ?_)
      have ey10 : y10 = nI (tt - 1) := ey10.trans (nI_pred1 hz)
      subst ey10
      refine k_putX E G wi_X6_takeBack_X6 tyX6_ok nmX6 (0) (gH_0 _ _ _ _ _) rfl 2 rfl fl_X6_takeBack_X6_2 rfl rfl rfl rfl ((fl [wHi kc ad (uI η1 1 (nI (tt - 1))), wKp kc ad kp, wC kc (ad 1) u8])) rfl dX6_takeBack_48 (fun H locs G => ?_)
      obtain ⟨η2, eη2⟩ : ∃ y : US, y = uI η1 1 (nI (tt - 1)) := ⟨_, rfl⟩
      rw [← eη2] at G
      refine lv_iconst (v := 1) E.ex E.by dX6_takeBack_51 (by decide) ?_
      refine k_ret (v := 1) (wof := (fun u : US × US => (fl [wHi kc ad u.1, wKp kc ad kp, wC kc (ad 1) u.2]))) (u := (η2, u8)) E G rfl ?_ ?_ ?_ dX6_takeBack_52
      · exact h η2 (by rw [eη2]; exact (iI_uI_n (by decide)).trans (by rw [eη1]; exact iI_uI _ _ _)) (by rw [eη2]; exact iI_uI _ _ _)
      · first | exact Nat.le_of_ble_eq_true rfl | omega
      · first | exact Nat.le_of_ble_eq_true rfl | omega
    | 2, _, ei, h =>
      intro sz
      refine k_begin (cc := cX6_takeBack) (maxL := 2) (ret := (some .boolean)) (by decide +kernel) rfl rfl (fun p e s m args below meth c hsz E G ls hl => ?_)
      subst hsz
      have hl : lv_has ls 2 [(0, .ref (ad 3 0)), (1, .ref (ad 1 0))] := hl
      refine lv_aload_n E.ex E.by dX6_takeBack_0 rfl (lv_at hl 0 rfl) ?_
      refine k_get E G wi_X6_takeBack_X6 (0) (gH_0 _ _ _ _ _) rfl 2 rfl fl_X6_takeBack_X6_2 (v := .int (iI η 1)) rfl dX6_takeBack_1 ?_
      refine lv_topi (fun y1 ey1 => ?_)
      have ey1 : y1 = nI tt := ey1.trans (et)
      subst ey1
      refine lv_if_le (tgt := 11) E.ex E.by dX6_takeBack_4 (by decide) (fun hc => absurd hc (nI_nle hz (by omega))) (fun hc => ?_)
      clear hc
      refine lv_aload_n E.ex E.by dX6_takeBack_7 rfl (lv_at hl 1 rfl) ?_
      refine lv_ifnonnull (tgt := 13) E.ex E.by dX6_takeBack_8 (by decide) ?_
      refine lv_aload_n E.ex E.by dX6_takeBack_13 rfl (lv_at hl 0 rfl) ?_
      refine lv_aload_n E.ex E.by dX6_takeBack_14 rfl (lv_at hl 0 rfl) ?_
      refine k_get E G wi_X6_takeBack_X6 (0) (gH_0 _ _ _ _ _) rfl 1 rfl fl_X6_takeBack_X6_1 (v := .int (iI η 0)) rfl dX6_takeBack_15 ?_
      refine lv_topi (fun y2 ey2 => ?_)
      have ey2 : y2 = nI 2 := ey2.trans (ei)
      subst ey2
      refine lv_bipush (v := 8) E.ex E.by dX6_takeBack_18 (by decide) ?_
      refine lv_iadd E.ex E.by dX6_takeBack_20 ?_
      refine lv_topi (fun y3 ey3 => ?_)
      have ey3 : y3 = nI 10 := ey3.trans (by decide)
      subst ey3
      refine lv_iconst (v := 1) E.ex E.by dX6_takeBack_21 (by decide) ?_
      refine lv_isub E.ex E.by dX6_takeBack_22 ?_
      refine lv_topi (fun y4 ey4 => ?_)
      have ey4 : y4 = nI 9 := ey4.trans (by decide)
      subst ey4
      refine lv_bipush (v := 8) E.ex E.by dX6_takeBack_23 (by decide) ?_
      refine lv_irem E.ex E.by dX6_takeBack_25 (by decide) ?_
      refine lv_topi (fun y5 ey5 => ?_)
      have ey5 : y5 = nI 1 := ey5.trans (by decide)
      subst ey5
      refine k_putX E G wi_X6_takeBack_X6 tyX6_ok nmX6 (0) (gH_0 _ _ _ _ _) rfl 1 rfl fl_X6_takeBack_X6_1 rfl rfl rfl rfl ((fl [wHi kc ad (uI η 0 (nI 1)), wKp kc ad kp, wC kc (ad 1) κ])) rfl dX6_takeBack_26 (fun H locs G => ?_)
      obtain ⟨η1, eη1⟩ : ∃ y : US, y = uI η 0 (nI 1) := ⟨_, rfl⟩
      rw [← eη1] at G
      refine lv_aload_n E.ex E.by dX6_takeBack_29 rfl (lv_at hl 1 rfl) ?_
      refine lv_aload_n E.ex E.by dX6_takeBack_30 rfl (lv_at hl 0 rfl) ?_
      refine lv_aload_n E.ex E.by dX6_takeBack_31 rfl (lv_at hl 0 rfl) ?_
      refine k_get E G wi_X6_takeBack_X6 (0) (gH_0 _ _ _ _ _) rfl 1 rfl fl_X6_takeBack_X6_1 (v := .int (iI η1 0)) rfl dX6_takeBack_32 ?_
      refine lv_topi (fun y6 ey6 => ?_)
      have ey6 : y6 = nI 1 := ey6.trans (by rw [eη1]; exact iI_uI _ _ _)
      subst ey6
      refine k_cVq (n := 1) (X := []) (w := (fl [wHi kc ad η1, wKp kc ad kp, wC kc (ad 1) κ])) (Z := []) (wnew := (fun _ : Unit => (fl [wHi kc ad η1, wKp kc ad kp, wC kc (ad 1) κ]))) (As := [.int (nI 1)]) (rest := [.ref (ad 1 0)]) E (List.append_nil _).symm G (c_X6_slotAt l D kc (fl [wHi kc ad η1, wKp kc ad kp, wC kc (ad 1) κ]) 0 1 (ad 3 0) (ad 3 1) 1 _ _ (fun i => some (ad (20 + i) 0)) (gH_0 _ _ _ _ _) rfl (by decide)) gX6_takeBack_X6_slotAt rfl ⟨rfl, rfl⟩ hd_X6_slotAt_v ⟨rfl, rfl⟩ (0) (gH_0 _ _ _ _ _) rfl rfl hl rfl rfl dX6_takeBack_35 (⟨Nat.le_of_ble_eq_true rfl, Nat.le_of_ble_eq_true rfl⟩) (fun _ => (List.append_nil _).symm) (fun r7 u7 hq7 H locs G => ?_)
      subst hq7
      have G := G.cg (wz := fl [wHi kc ad η1, wC kc (ad 20) (kp 0), wC kc (ad 21) (kp 1), wC kc (ad 22) (kp 2), wC kc (ad 23) (kp 3), wC kc (ad 24) (kp 4), wC kc (ad 25) (kp 5), wC kc (ad 26) (kp 6), wC kc (ad 27) (kp 7), wC kc (ad 1) κ]) rfl
      have G := kG.sel (L := [wHi kc ad η1, wC kc (ad 20) (kp 0), wC kc (ad 21) (kp 1), wC kc (ad 22) (kp 2), wC kc (ad 23) (kp 3), wC kc (ad 24) (kp 4), wC kc (ad 25) (kp 5), wC kc (ad 26) (kp 6), wC kc (ad 27) (kp 7), wC kc (ad 1) κ]) (L' := [wC kc (ad 1) κ, wC kc (ad 21) (kp 1), wHi kc ad η1, wC kc (ad 20) (kp 0), wC kc (ad 22) (kp 2), wC kc (ad 23) (kp 3), wC kc (ad 24) (kp 4), wC kc (ad 25) (kp 5), wC kc (ad 26) (kp 6), wC kc (ad 27) (kp 7)]) G [9, 2] rfl
      refine k_cVv (n := 1) (X := []) (w := (xCC kc (ad 1) (ad 21) κ (kp 1))) (Z := (fl [wHi kc ad η1, wC kc (ad 20) (kp 0), wC kc (ad 22) (kp 2), wC kc (ad 23) (kp 3), wC kc (ad 24) (kp 4), wC kc (ad 25) (kp 5), wC kc (ad 26) (kp 6), wC kc (ad 27) (kp 7)])) (wnew := (fun u : US => (fl [wC kc (ad 1) u, wC kc (ad 21) (kp 1), wHi kc ad η1, wC kc (ad 20) (kp 0), wC kc (ad 22) (kp 2), wC kc (ad 23) (kp 3), wC kc (ad 24) (kp 4), wC kc (ad 25) (kp 5), wC kc (ad 26) (kp 6), wC kc (ad 27) (kp 7)]))) (As := [.ref (ad 21 0)]) (rest := []) E rfl G (c_X2_copyFrom l D kc (ad 1) (ad 21) _ _ _ (h.2 hz)) gX6_takeBack_X2_copyFrom rfl ⟨rfl, rfl⟩ hd_X2_copyFrom_v ⟨rfl, rfl⟩ (0) (gCC_0 _ _ _ _ _) rfl rfl hl rfl rfl dX6_takeBack_38 (⟨rfl, rfl⟩) (fun _ => rfl) (fun u8 hq8 H locs G => ?_)
      have h := hq8
      have G := kG.sel (L := [wC kc (ad 1) u8, wC kc (ad 21) (kp 1), wHi kc ad η1, wC kc (ad 20) (kp 0), wC kc (ad 22) (kp 2), wC kc (ad 23) (kp 3), wC kc (ad 24) (kp 4), wC kc (ad 25) (kp 5), wC kc (ad 26) (kp 6), wC kc (ad 27) (kp 7)]) (L' := [wHi kc ad η1, wC kc (ad 20) (kp 0), wC kc (ad 21) (kp 1), wC kc (ad 22) (kp 2), wC kc (ad 23) (kp 3), wC kc (ad 24) (kp 4), wC kc (ad 25) (kp 5), wC kc (ad 26) (kp 6), wC kc (ad 27) (kp 7), wC kc (ad 1) u8]) G [2, 2, 1, 1, 1, 1, 1, 1, 1, 0] rfl
      have G := G.cg (wz := (fl [wHi kc ad η1, wKp kc ad kp, wC kc (ad 1) u8])) rfl
      refine lv_aload_n E.ex E.by dX6_takeBack_41 rfl (lv_at hl 0 rfl) ?_
      refine lv_dup E.ex E.by dX6_takeBack_42 rfl ?_
      refine k_get E G wi_X6_takeBack_X6 (0) (gH_0 _ _ _ _ _) rfl 2 rfl fl_X6_takeBack_X6_2 (v := .int (iI η1 1)) rfl dX6_takeBack_43 ?_
      refine lv_topi (fun y9 ey9 => ?_)
      have ey9 : y9 = nI tt := ey9.trans (by rw [eη1]; exact (iI_uI_n (by decide)).trans et)
      subst ey9
      refine lv_iconst (v := 1) E.ex E.by dX6_takeBack_46 (by decide) ?_
      refine lv_isub E.ex E.by dX6_takeBack_47 ?_
      refine lv_topi (fun y10 ey10 => ?_)
      have ey10 : y10 = nI (tt - 1) := ey10.trans (nI_pred1 hz)
      subst ey10
      refine k_putX E G wi_X6_takeBack_X6 tyX6_ok nmX6 (0) (gH_0 _ _ _ _ _) rfl 2 rfl fl_X6_takeBack_X6_2 rfl rfl rfl rfl ((fl [wHi kc ad (uI η1 1 (nI (tt - 1))), wKp kc ad kp, wC kc (ad 1) u8])) rfl dX6_takeBack_48 (fun H locs G => ?_)
      obtain ⟨η2, eη2⟩ : ∃ y : US, y = uI η1 1 (nI (tt - 1)) := ⟨_, rfl⟩
      rw [← eη2] at G
      refine lv_iconst (v := 1) E.ex E.by dX6_takeBack_51 (by decide) ?_
      refine k_ret (v := 1) (wof := (fun u : US × US => (fl [wHi kc ad u.1, wKp kc ad kp, wC kc (ad 1) u.2]))) (u := (η2, u8)) E G rfl ?_ ?_ ?_ dX6_takeBack_52
      · exact h η2 (by rw [eη2]; exact (iI_uI_n (by decide)).trans (by rw [eη1]; exact iI_uI _ _ _)) (by rw [eη2]; exact iI_uI _ _ _)
      · first | exact Nat.le_of_ble_eq_true rfl | omega
      · first | exact Nat.le_of_ble_eq_true rfl | omega
    | 3, _, ei, h =>
      intro sz
      refine k_begin (cc := cX6_takeBack) (maxL := 2) (ret := (some .boolean)) (by decide +kernel) rfl rfl (fun p e s m args below meth c hsz E G ls hl => ?_)
      subst hsz
      have hl : lv_has ls 2 [(0, .ref (ad 3 0)), (1, .ref (ad 1 0))] := hl
      refine lv_aload_n E.ex E.by dX6_takeBack_0 rfl (lv_at hl 0 rfl) ?_
      refine k_get E G wi_X6_takeBack_X6 (0) (gH_0 _ _ _ _ _) rfl 2 rfl fl_X6_takeBack_X6_2 (v := .int (iI η 1)) rfl dX6_takeBack_1 ?_
      refine lv_topi (fun y1 ey1 => ?_)
      have ey1 : y1 = nI tt := ey1.trans (et)
      subst ey1
      refine lv_if_le (tgt := 11) E.ex E.by dX6_takeBack_4 (by decide) (fun hc => absurd hc (nI_nle hz (by omega))) (fun hc => ?_)
      clear hc
      refine lv_aload_n E.ex E.by dX6_takeBack_7 rfl (lv_at hl 1 rfl) ?_
      refine lv_ifnonnull (tgt := 13) E.ex E.by dX6_takeBack_8 (by decide) ?_
      refine lv_aload_n E.ex E.by dX6_takeBack_13 rfl (lv_at hl 0 rfl) ?_
      refine lv_aload_n E.ex E.by dX6_takeBack_14 rfl (lv_at hl 0 rfl) ?_
      refine k_get E G wi_X6_takeBack_X6 (0) (gH_0 _ _ _ _ _) rfl 1 rfl fl_X6_takeBack_X6_1 (v := .int (iI η 0)) rfl dX6_takeBack_15 ?_
      refine lv_topi (fun y2 ey2 => ?_)
      have ey2 : y2 = nI 3 := ey2.trans (ei)
      subst ey2
      refine lv_bipush (v := 8) E.ex E.by dX6_takeBack_18 (by decide) ?_
      refine lv_iadd E.ex E.by dX6_takeBack_20 ?_
      refine lv_topi (fun y3 ey3 => ?_)
      have ey3 : y3 = nI 11 := ey3.trans (by decide)
      subst ey3
      refine lv_iconst (v := 1) E.ex E.by dX6_takeBack_21 (by decide) ?_
      refine lv_isub E.ex E.by dX6_takeBack_22 ?_
      refine lv_topi (fun y4 ey4 => ?_)
      have ey4 : y4 = nI 10 := ey4.trans (by decide)
      subst ey4
      refine lv_bipush (v := 8) E.ex E.by dX6_takeBack_23 (by decide) ?_
      refine lv_irem E.ex E.by dX6_takeBack_25 (by decide) ?_
      refine lv_topi (fun y5 ey5 => ?_)
      have ey5 : y5 = nI 2 := ey5.trans (by decide)
      subst ey5
      refine k_putX E G wi_X6_takeBack_X6 tyX6_ok nmX6 (0) (gH_0 _ _ _ _ _) rfl 1 rfl fl_X6_takeBack_X6_1 rfl rfl rfl rfl ((fl [wHi kc ad (uI η 0 (nI 2)), wKp kc ad kp, wC kc (ad 1) κ])) rfl dX6_takeBack_26 (fun H locs G => ?_)
      obtain ⟨η1, eη1⟩ : ∃ y : US, y = uI η 0 (nI 2) := ⟨_, rfl⟩
      rw [← eη1] at G
      refine lv_aload_n E.ex E.by dX6_takeBack_29 rfl (lv_at hl 1 rfl) ?_
      refine lv_aload_n E.ex E.by dX6_takeBack_30 rfl (lv_at hl 0 rfl) ?_
      refine lv_aload_n E.ex E.by dX6_takeBack_31 rfl (lv_at hl 0 rfl) ?_
      refine k_get E G wi_X6_takeBack_X6 (0) (gH_0 _ _ _ _ _) rfl 1 rfl fl_X6_takeBack_X6_1 (v := .int (iI η1 0)) rfl dX6_takeBack_32 ?_
      refine lv_topi (fun y6 ey6 => ?_)
      have ey6 : y6 = nI 2 := ey6.trans (by rw [eη1]; exact iI_uI _ _ _)
      subst ey6
      refine k_cVq (n := 1) (X := []) (w := (fl [wHi kc ad η1, wKp kc ad kp, wC kc (ad 1) κ])) (Z := []) (wnew := (fun _ : Unit => (fl [wHi kc ad η1, wKp kc ad kp, wC kc (ad 1) κ]))) (As := [.int (nI 2)]) (rest := [.ref (ad 1 0)]) E (List.append_nil _).symm G (c_X6_slotAt l D kc (fl [wHi kc ad η1, wKp kc ad kp, wC kc (ad 1) κ]) 0 1 (ad 3 0) (ad 3 1) 2 _ _ (fun i => some (ad (20 + i) 0)) (gH_0 _ _ _ _ _) rfl (by decide)) gX6_takeBack_X6_slotAt rfl ⟨rfl, rfl⟩ hd_X6_slotAt_v ⟨rfl, rfl⟩ (0) (gH_0 _ _ _ _ _) rfl rfl hl rfl rfl dX6_takeBack_35 (⟨Nat.le_of_ble_eq_true rfl, Nat.le_of_ble_eq_true rfl⟩) (fun _ => (List.append_nil _).symm) (fun r7 u7 hq7 H locs G => ?_)
      subst hq7
      have G := G.cg (wz := fl [wHi kc ad η1, wC kc (ad 20) (kp 0), wC kc (ad 21) (kp 1), wC kc (ad 22) (kp 2), wC kc (ad 23) (kp 3), wC kc (ad 24) (kp 4), wC kc (ad 25) (kp 5), wC kc (ad 26) (kp 6), wC kc (ad 27) (kp 7), wC kc (ad 1) κ]) rfl
      have G := kG.sel (L := [wHi kc ad η1, wC kc (ad 20) (kp 0), wC kc (ad 21) (kp 1), wC kc (ad 22) (kp 2), wC kc (ad 23) (kp 3), wC kc (ad 24) (kp 4), wC kc (ad 25) (kp 5), wC kc (ad 26) (kp 6), wC kc (ad 27) (kp 7), wC kc (ad 1) κ]) (L' := [wC kc (ad 1) κ, wC kc (ad 22) (kp 2), wHi kc ad η1, wC kc (ad 20) (kp 0), wC kc (ad 21) (kp 1), wC kc (ad 23) (kp 3), wC kc (ad 24) (kp 4), wC kc (ad 25) (kp 5), wC kc (ad 26) (kp 6), wC kc (ad 27) (kp 7)]) G [9, 3] rfl
      refine k_cVv (n := 1) (X := []) (w := (xCC kc (ad 1) (ad 22) κ (kp 2))) (Z := (fl [wHi kc ad η1, wC kc (ad 20) (kp 0), wC kc (ad 21) (kp 1), wC kc (ad 23) (kp 3), wC kc (ad 24) (kp 4), wC kc (ad 25) (kp 5), wC kc (ad 26) (kp 6), wC kc (ad 27) (kp 7)])) (wnew := (fun u : US => (fl [wC kc (ad 1) u, wC kc (ad 22) (kp 2), wHi kc ad η1, wC kc (ad 20) (kp 0), wC kc (ad 21) (kp 1), wC kc (ad 23) (kp 3), wC kc (ad 24) (kp 4), wC kc (ad 25) (kp 5), wC kc (ad 26) (kp 6), wC kc (ad 27) (kp 7)]))) (As := [.ref (ad 22 0)]) (rest := []) E rfl G (c_X2_copyFrom l D kc (ad 1) (ad 22) _ _ _ (h.2 hz)) gX6_takeBack_X2_copyFrom rfl ⟨rfl, rfl⟩ hd_X2_copyFrom_v ⟨rfl, rfl⟩ (0) (gCC_0 _ _ _ _ _) rfl rfl hl rfl rfl dX6_takeBack_38 (⟨rfl, rfl⟩) (fun _ => rfl) (fun u8 hq8 H locs G => ?_)
      have h := hq8
      have G := kG.sel (L := [wC kc (ad 1) u8, wC kc (ad 22) (kp 2), wHi kc ad η1, wC kc (ad 20) (kp 0), wC kc (ad 21) (kp 1), wC kc (ad 23) (kp 3), wC kc (ad 24) (kp 4), wC kc (ad 25) (kp 5), wC kc (ad 26) (kp 6), wC kc (ad 27) (kp 7)]) (L' := [wHi kc ad η1, wC kc (ad 20) (kp 0), wC kc (ad 21) (kp 1), wC kc (ad 22) (kp 2), wC kc (ad 23) (kp 3), wC kc (ad 24) (kp 4), wC kc (ad 25) (kp 5), wC kc (ad 26) (kp 6), wC kc (ad 27) (kp 7), wC kc (ad 1) u8]) G [2, 2, 2, 1, 1, 1, 1, 1, 1, 0] rfl
      have G := G.cg (wz := (fl [wHi kc ad η1, wKp kc ad kp, wC kc (ad 1) u8])) rfl
      refine lv_aload_n E.ex E.by dX6_takeBack_41 rfl (lv_at hl 0 rfl) ?_
      refine lv_dup E.ex E.by dX6_takeBack_42 rfl ?_
      refine k_get E G wi_X6_takeBack_X6 (0) (gH_0 _ _ _ _ _) rfl 2 rfl fl_X6_takeBack_X6_2 (v := .int (iI η1 1)) rfl dX6_takeBack_43 ?_
      refine lv_topi (fun y9 ey9 => ?_)
      have ey9 : y9 = nI tt := ey9.trans (by rw [eη1]; exact (iI_uI_n (by decide)).trans et)
      subst ey9
      refine lv_iconst (v := 1) E.ex E.by dX6_takeBack_46 (by decide) ?_
      refine lv_isub E.ex E.by dX6_takeBack_47 ?_
      refine lv_topi (fun y10 ey10 => ?_)
      have ey10 : y10 = nI (tt - 1) := ey10.trans (nI_pred1 hz)
      subst ey10
      refine k_putX E G wi_X6_takeBack_X6 tyX6_ok nmX6 (0) (gH_0 _ _ _ _ _) rfl 2 rfl fl_X6_takeBack_X6_2 rfl rfl rfl rfl ((fl [wHi kc ad (uI η1 1 (nI (tt - 1))), wKp kc ad kp, wC kc (ad 1) u8])) rfl dX6_takeBack_48 (fun H locs G => ?_)
      obtain ⟨η2, eη2⟩ : ∃ y : US, y = uI η1 1 (nI (tt - 1)) := ⟨_, rfl⟩
      rw [← eη2] at G
      refine lv_iconst (v := 1) E.ex E.by dX6_takeBack_51 (by decide) ?_
      refine k_ret (v := 1) (wof := (fun u : US × US => (fl [wHi kc ad u.1, wKp kc ad kp, wC kc (ad 1) u.2]))) (u := (η2, u8)) E G rfl ?_ ?_ ?_ dX6_takeBack_52
      · exact h η2 (by rw [eη2]; exact (iI_uI_n (by decide)).trans (by rw [eη1]; exact iI_uI _ _ _)) (by rw [eη2]; exact iI_uI _ _ _)
      · first | exact Nat.le_of_ble_eq_true rfl | omega
      · first | exact Nat.le_of_ble_eq_true rfl | omega
    | 4, _, ei, h =>
      intro sz
      refine k_begin (cc := cX6_takeBack) (maxL := 2) (ret := (some .boolean)) (by decide +kernel) rfl rfl (fun p e s m args below meth c hsz E G ls hl => ?_)
      subst hsz
      have hl : lv_has ls 2 [(0, .ref (ad 3 0)), (1, .ref (ad 1 0))] := hl
      refine lv_aload_n E.ex E.by dX6_takeBack_0 rfl (lv_at hl 0 rfl) ?_
      refine k_get E G wi_X6_takeBack_X6 (0) (gH_0 _ _ _ _ _) rfl 2 rfl fl_X6_takeBack_X6_2 (v := .int (iI η 1)) rfl dX6_takeBack_1 ?_
      refine lv_topi (fun y1 ey1 => ?_)
      have ey1 : y1 = nI tt := ey1.trans (et)
      subst ey1
      refine lv_if_le (tgt := 11) E.ex E.by dX6_takeBack_4 (by decide) (fun hc => absurd hc (nI_nle hz (by omega))) (fun hc => ?_)
      clear hc
      refine lv_aload_n E.ex E.by dX6_takeBack_7 rfl (lv_at hl 1 rfl) ?_
      refine lv_ifnonnull (tgt := 13) E.ex E.by dX6_takeBack_8 (by decide) ?_
      refine lv_aload_n E.ex E.by dX6_takeBack_13 rfl (lv_at hl 0 rfl) ?_
      refine lv_aload_n E.ex E.by dX6_takeBack_14 rfl (lv_at hl 0 rfl) ?_
      refine k_get E G wi_X6_takeBack_X6 (0) (gH_0 _ _ _ _ _) rfl 1 rfl fl_X6_takeBack_X6_1 (v := .int (iI η 0)) rfl dX6_takeBack_15 ?_
      refine lv_topi (fun y2 ey2 => ?_)
      have ey2 : y2 = nI 4 := ey2.trans (ei)
      subst ey2
      refine lv_bipush (v := 8) E.ex E.by dX6_takeBack_18 (by decide) ?_
      refine lv_iadd E.ex E.by dX6_takeBack_20 ?_
      refine lv_topi (fun y3 ey3 => ?_)
      have ey3 : y3 = nI 12 := ey3.trans (by decide)
      subst ey3
      refine lv_iconst (v := 1) E.ex E.by dX6_takeBack_21 (by decide) ?_
      refine lv_isub E.ex E.by dX6_takeBack_22 ?_
      refine lv_topi (fun y4 ey4 => ?_)
      have ey4 : y4 = nI 11 := ey4.trans (by decide)
      subst ey4
      refine lv_bipush (v := 8) E.ex E.by dX6_takeBack_23 (by decide) ?_
      refine lv_irem E.ex E.by dX6_takeBack_25 (by decide) ?_
      refine lv_topi (fun y5 ey5 => ?_)
      have ey5 : y5 = nI 3 := ey5.trans (by decide)
      subst ey5
      refine k_putX E G wi_X6_takeBack_X6 tyX6_ok nmX6 (0) (gH_0 _ _ _ _ _) rfl 1 rfl fl_X6_takeBack_X6_1 rfl rfl rfl rfl ((fl [wHi kc ad (uI η 0 (nI 3)), wKp kc ad kp, wC kc (ad 1) κ])) rfl dX6_takeBack_26 (fun H locs G => ?_)
      obtain ⟨η1, eη1⟩ : ∃ y : US, y = uI η 0 (nI 3) := ⟨_, rfl⟩
      rw [← eη1] at G
      refine lv_aload_n E.ex E.by dX6_takeBack_29 rfl (lv_at hl 1 rfl) ?_
      refine lv_aload_n E.ex E.by dX6_takeBack_30 rfl (lv_at hl 0 rfl) ?_
      refine lv_aload_n E.ex E.by dX6_takeBack_31 rfl (lv_at hl 0 rfl) ?_
      refine k_get E G wi_X6_takeBack_X6 (0) (gH_0 _ _ _ _ _) rfl 1 rfl fl_X6_takeBack_X6_1 (v := .int (iI η1 0)) rfl dX6_takeBack_32 ?_
      refine lv_topi (fun y6 ey6 => ?_)
      have ey6 : y6 = nI 3 := ey6.trans (by rw [eη1]; exact iI_uI _ _ _)
      subst ey6
      refine k_cVq (n := 1) (X := []) (w := (fl [wHi kc ad η1, wKp kc ad kp, wC kc (ad 1) κ])) (Z := []) (wnew := (fun _ : Unit => (fl [wHi kc ad η1, wKp kc ad kp, wC kc (ad 1) κ]))) (As := [.int (nI 3)]) (rest := [.ref (ad 1 0)]) E (List.append_nil _).symm G (c_X6_slotAt l D kc (fl [wHi kc ad η1, wKp kc ad kp, wC kc (ad 1) κ]) 0 1 (ad 3 0) (ad 3 1) 3 _ _ (fun i => some (ad (20 + i) 0)) (gH_0 _ _ _ _ _) rfl (by decide)) gX6_takeBack_X6_slotAt rfl ⟨rfl, rfl⟩ hd_X6_slotAt_v ⟨rfl, rfl⟩ (0) (gH_0 _ _ _ _ _) rfl rfl hl rfl rfl dX6_takeBack_35 (⟨Nat.le_of_ble_eq_true rfl, Nat.le_of_ble_eq_true rfl⟩) (fun _ => (List.append_nil _).symm) (fun r7 u7 hq7 H locs G => ?_)
      subst hq7
      have G := G.cg (wz := fl [wHi kc ad η1, wC kc (ad 20) (kp 0), wC kc (ad 21) (kp 1), wC kc (ad 22) (kp 2), wC kc (ad 23) (kp 3), wC kc (ad 24) (kp 4), wC kc (ad 25) (kp 5), wC kc (ad 26) (kp 6), wC kc (ad 27) (kp 7), wC kc (ad 1) κ]) rfl
      have G := kG.sel (L := [wHi kc ad η1, wC kc (ad 20) (kp 0), wC kc (ad 21) (kp 1), wC kc (ad 22) (kp 2), wC kc (ad 23) (kp 3), wC kc (ad 24) (kp 4), wC kc (ad 25) (kp 5), wC kc (ad 26) (kp 6), wC kc (ad 27) (kp 7), wC kc (ad 1) κ]) (L' := [wC kc (ad 1) κ, wC kc (ad 23) (kp 3), wHi kc ad η1, wC kc (ad 20) (kp 0), wC kc (ad 21) (kp 1), wC kc (ad 22) (kp 2), wC kc (ad 24) (kp 4), wC kc (ad 25) (kp 5), wC kc (ad 26) (kp 6), wC kc (ad 27) (kp 7)]) G [9, 4] rfl
      refine k_cVv (n := 1) (X := []) (w := (xCC kc (ad 1) (ad 23) κ (kp 3))) (Z := (fl [wHi kc ad η1, wC kc (ad 20) (kp 0), wC kc (ad 21) (kp 1), wC kc (ad 22) (kp 2), wC kc (ad 24) (kp 4), wC kc (ad 25) (kp 5), wC kc (ad 26) (kp 6), wC kc (ad 27) (kp 7)])) (wnew := (fun u : US => (fl [wC kc (ad 1) u, wC kc (ad 23) (kp 3), wHi kc ad η1, wC kc (ad 20) (kp 0), wC kc (ad 21) (kp 1), wC kc (ad 22) (kp 2), wC kc (ad 24) (kp 4), wC kc (ad 25) (kp 5), wC kc (ad 26) (kp 6), wC kc (ad 27) (kp 7)]))) (As := [.ref (ad 23 0)]) (rest := []) E rfl G (c_X2_copyFrom l D kc (ad 1) (ad 23) _ _ _ (h.2 hz)) gX6_takeBack_X2_copyFrom rfl ⟨rfl, rfl⟩ hd_X2_copyFrom_v ⟨rfl, rfl⟩ (0) (gCC_0 _ _ _ _ _) rfl rfl hl rfl rfl dX6_takeBack_38 (⟨rfl, rfl⟩) (fun _ => rfl) (fun u8 hq8 H locs G => ?_)
      have h := hq8
      have G := kG.sel (L := [wC kc (ad 1) u8, wC kc (ad 23) (kp 3), wHi kc ad η1, wC kc (ad 20) (kp 0), wC kc (ad 21) (kp 1), wC kc (ad 22) (kp 2), wC kc (ad 24) (kp 4), wC kc (ad 25) (kp 5), wC kc (ad 26) (kp 6), wC kc (ad 27) (kp 7)]) (L' := [wHi kc ad η1, wC kc (ad 20) (kp 0), wC kc (ad 21) (kp 1), wC kc (ad 22) (kp 2), wC kc (ad 23) (kp 3), wC kc (ad 24) (kp 4), wC kc (ad 25) (kp 5), wC kc (ad 26) (kp 6), wC kc (ad 27) (kp 7), wC kc (ad 1) u8]) G [2, 2, 2, 2, 1, 1, 1, 1, 1, 0] rfl
      have G := G.cg (wz := (fl [wHi kc ad η1, wKp kc ad kp, wC kc (ad 1) u8])) rfl
      refine lv_aload_n E.ex E.by dX6_takeBack_41 rfl (lv_at hl 0 rfl) ?_
      refine lv_dup E.ex E.by dX6_takeBack_42 rfl ?_
      refine k_get E G wi_X6_takeBack_X6 (0) (gH_0 _ _ _ _ _) rfl 2 rfl fl_X6_takeBack_X6_2 (v := .int (iI η1 1)) rfl dX6_takeBack_43 ?_
      refine lv_topi (fun y9 ey9 => ?_)
      have ey9 : y9 = nI tt := ey9.trans (by rw [eη1]; exact (iI_uI_n (by decide)).trans et)
      subst ey9
      refine lv_iconst (v := 1) E.ex E.by dX6_takeBack_46 (by decide) ?_
      refine lv_isub E.ex E.by dX6_takeBack_47 ?_
      refine lv_topi (fun y10 ey10 => ?_)
      have ey10 : y10 = nI (tt - 1) := ey10.trans (nI_pred1 hz)
      subst ey10
      refine k_putX E G wi_X6_takeBack_X6 tyX6_ok nmX6 (0) (gH_0 _ _ _ _ _) rfl 2 rfl fl_X6_takeBack_X6_2 rfl rfl rfl rfl ((fl [wHi kc ad (uI η1 1 (nI (tt - 1))), wKp kc ad kp, wC kc (ad 1) u8])) rfl dX6_takeBack_48 (fun H locs G => ?_)
      obtain ⟨η2, eη2⟩ : ∃ y : US, y = uI η1 1 (nI (tt - 1)) := ⟨_, rfl⟩
      rw [← eη2] at G
      refine lv_iconst (v := 1) E.ex E.by dX6_takeBack_51 (by decide) ?_
      refine k_ret (v := 1) (wof := (fun u : US × US => (fl [wHi kc ad u.1, wKp kc ad kp, wC kc (ad 1) u.2]))) (u := (η2, u8)) E G rfl ?_ ?_ ?_ dX6_takeBack_52
      · exact h η2 (by rw [eη2]; exact (iI_uI_n (by decide)).trans (by rw [eη1]; exact iI_uI _ _ _)) (by rw [eη2]; exact iI_uI _ _ _)
      · first | exact Nat.le_of_ble_eq_true rfl | omega
      · first | exact Nat.le_of_ble_eq_true rfl | omega
    | 5, _, ei, h =>
      intro sz
      refine k_begin (cc := cX6_takeBack) (maxL := 2) (ret := (some .boolean)) (by decide +kernel) rfl rfl (fun p e s m args below meth c hsz E G ls hl => ?_)
      subst hsz
      have hl : lv_has ls 2 [(0, .ref (ad 3 0)), (1, .ref (ad 1 0))] := hl
      refine lv_aload_n E.ex E.by dX6_takeBack_0 rfl (lv_at hl 0 rfl) ?_
      refine k_get E G wi_X6_takeBack_X6 (0) (gH_0 _ _ _ _ _) rfl 2 rfl fl_X6_takeBack_X6_2 (v := .int (iI η 1)) rfl dX6_takeBack_1 ?_
      refine lv_topi (fun y1 ey1 => ?_)
      have ey1 : y1 = nI tt := ey1.trans (et)
      subst ey1
      refine lv_if_le (tgt := 11) E.ex E.by dX6_takeBack_4 (by decide) (fun hc => absurd hc (nI_nle hz (by omega))) (fun hc => ?_)
      clear hc
      refine lv_aload_n E.ex E.by dX6_takeBack_7 rfl (lv_at hl 1 rfl) ?_
      refine lv_ifnonnull (tgt := 13) E.ex E.by dX6_takeBack_8 (by decide) ?_
      refine lv_aload_n E.ex E.by dX6_takeBack_13 rfl (lv_at hl 0 rfl) ?_
      refine lv_aload_n E.ex E.by dX6_takeBack_14 rfl (lv_at hl 0 rfl) ?_
      refine k_get E G wi_X6_takeBack_X6 (0) (gH_0 _ _ _ _ _) rfl 1 rfl fl_X6_takeBack_X6_1 (v := .int (iI η 0)) rfl dX6_takeBack_15 ?_
      refine lv_topi (fun y2 ey2 => ?_)
      have ey2 : y2 = nI 5 := ey2.trans (ei)
      subst ey2
      refine lv_bipush (v := 8) E.ex E.by dX6_takeBack_18 (by decide) ?_
      refine lv_iadd E.ex E.by dX6_takeBack_20 ?_
      refine lv_topi (fun y3 ey3 => ?_)
      have ey3 : y3 = nI 13 := ey3.trans (by decide)
      subst ey3
      refine lv_iconst (v := 1) E.ex E.by dX6_takeBack_21 (by decide) ?_
      refine lv_isub E.ex E.by dX6_takeBack_22 ?_
      refine lv_topi (fun y4 ey4 => ?_)
      have ey4 : y4 = nI 12 := ey4.trans (by decide)
      subst ey4
      refine lv_bipush (v := 8) E.ex E.by dX6_takeBack_23 (by decide) ?_
      refine lv_irem E.ex E.by dX6_takeBack_25 (by decide) ?_
      refine lv_topi (fun y5 ey5 => ?_)
      have ey5 : y5 = nI 4 := ey5.trans (by decide)
      subst ey5
      refine k_putX E G wi_X6_takeBack_X6 tyX6_ok nmX6 (0) (gH_0 _ _ _ _ _) rfl 1 rfl fl_X6_takeBack_X6_1 rfl rfl rfl rfl ((fl [wHi kc ad (uI η 0 (nI 4)), wKp kc ad kp, wC kc (ad 1) κ])) rfl dX6_takeBack_26 (fun H locs G => ?_)
      obtain ⟨η1, eη1⟩ : ∃ y : US, y = uI η 0 (nI 4) := ⟨_, rfl⟩
      rw [← eη1] at G
      refine lv_aload_n E.ex E.by dX6_takeBack_29 rfl (lv_at hl 1 rfl) ?_
      refine lv_aload_n E.ex E.by dX6_takeBack_30 rfl (lv_at hl 0 rfl) ?_
      refine lv_aload_n E.ex E.by dX6_takeBack_31 rfl (lv_at hl 0 rfl) ?_
      refine k_get E G wi_X6_takeBack_X6 (0) (gH_0 _ _ _ _ _) rfl 1 rfl fl_X6_takeBack_X6_1 (v := .int (iI η1 0)) rfl dX6_takeBack_32 ?_
      refine lv_topi (fun y6 ey6 => ?_)
      have ey6 : y6 = nI 4 := ey6.trans (by rw [eη1]; exact iI_uI _ _ _)
      subst ey6
      refine k_cVq (n := 1) (X := []) (w := (fl [wHi kc ad η1, wKp kc ad kp, wC kc (ad 1) κ])) (Z := []) (wnew := (fun _ : Unit => (fl [wHi kc ad η1, wKp kc ad kp, wC kc (ad 1) κ]))) (As := [.int (nI 4)]) (rest := [.ref (ad 1 0)]) E (List.append_nil _).symm G (c_X6_slotAt l D kc (fl [wHi kc ad η1, wKp kc ad kp, wC kc (ad 1) κ]) 0 1 (ad 3 0) (ad 3 1) 4 _ _ (fun i => some (ad (20 + i) 0)) (gH_0 _ _ _ _ _) rfl (by decide)) gX6_takeBack_X6_slotAt rfl ⟨rfl, rfl⟩ hd_X6_slotAt_v ⟨rfl, rfl⟩ (0) (gH_0 _ _ _ _ _) rfl rfl hl rfl rfl dX6_takeBack_35 (⟨Nat.le_of_ble_eq_true rfl, Nat.le_of_ble_eq_true rfl⟩) (fun _ => (List.append_nil _).symm) (fun r7 u7 hq7 H locs G => ?_)
      subst hq7
      have G := G.cg (wz := fl [wHi kc ad η1, wC kc (ad 20) (kp 0), wC kc (ad 21) (kp 1), wC kc (ad 22) (kp 2), wC kc (ad 23) (kp 3), wC kc (ad 24) (kp 4), wC kc (ad 25) (kp 5), wC kc (ad 26) (kp 6), wC kc (ad 27) (kp 7), wC kc (ad 1) κ]) rfl
      have G := kG.sel (L := [wHi kc ad η1, wC kc (ad 20) (kp 0), wC kc (ad 21) (kp 1), wC kc (ad 22) (kp 2), wC kc (ad 23) (kp 3), wC kc (ad 24) (kp 4), wC kc (ad 25) (kp 5), wC kc (ad 26) (kp 6), wC kc (ad 27) (kp 7), wC kc (ad 1) κ]) (L' := [wC kc (ad 1) κ, wC kc (ad 24) (kp 4), wHi kc ad η1, wC kc (ad 20) (kp 0), wC kc (ad 21) (kp 1), wC kc (ad 22) (kp 2), wC kc (ad 23) (kp 3), wC kc (ad 25) (kp 5), wC kc (ad 26) (kp 6), wC kc (ad 27) (kp 7)]) G [9, 5] rfl
      refine k_cVv (n := 1) (X := []) (w := (xCC kc (ad 1) (ad 24) κ (kp 4))) (Z := (fl [wHi kc ad η1, wC kc (ad 20) (kp 0), wC kc (ad 21) (kp 1), wC kc (ad 22) (kp 2), wC kc (ad 23) (kp 3), wC kc (ad 25) (kp 5), wC kc (ad 26) (kp 6), wC kc (ad 27) (kp 7)])) (wnew := (fun u : US => (fl [wC kc (ad 1) u, wC kc (ad 24) (kp 4), wHi kc ad η1, wC kc (ad 20) (kp 0), wC kc (ad 21) (kp 1), wC kc (ad 22) (kp 2), wC kc (ad 23) (kp 3), wC kc (ad 25) (kp 5), wC kc (ad 26) (kp 6), wC kc (ad 27) (kp 7)]))) (As := [.ref (ad 24 0)]) (rest := []) E rfl G (c_X2_copyFrom l D kc (ad 1) (ad 24) _ _ _ (h.2 hz)) gX6_takeBack_X2_copyFrom rfl ⟨rfl, rfl⟩ hd_X2_copyFrom_v ⟨rfl, rfl⟩ (0) (gCC_0 _ _ _ _ _) rfl rfl hl rfl rfl dX6_takeBack_38 (⟨rfl, rfl⟩) (fun _ => rfl) (fun u8 hq8 H locs G => ?_)
      have h := hq8
      have G := kG.sel (L := [wC kc (ad 1) u8, wC kc (ad 24) (kp 4), wHi kc ad η1, wC kc (ad 20) (kp 0), wC kc (ad 21) (kp 1), wC kc (ad 22) (kp 2), wC kc (ad 23) (kp 3), wC kc (ad 25) (kp 5), wC kc (ad 26) (kp 6), wC kc (ad 27) (kp 7)]) (L' := [wHi kc ad η1, wC kc (ad 20) (kp 0), wC kc (ad 21) (kp 1), wC kc (ad 22) (kp 2), wC kc (ad 23) (kp 3), wC kc (ad 24) (kp 4), wC kc (ad 25) (kp 5), wC kc (ad 26) (kp 6), wC kc (ad 27) (kp 7), wC kc (ad 1) u8]) G [2, 2, 2, 2, 2, 1, 1, 1, 1, 0] rfl
      have G := G.cg (wz := (fl [wHi kc ad η1, wKp kc ad kp, wC kc (ad 1) u8])) rfl
      refine lv_aload_n E.ex E.by dX6_takeBack_41 rfl (lv_at hl 0 rfl) ?_
      refine lv_dup E.ex E.by dX6_takeBack_42 rfl ?_
      refine k_get E G wi_X6_takeBack_X6 (0) (gH_0 _ _ _ _ _) rfl 2 rfl fl_X6_takeBack_X6_2 (v := .int (iI η1 1)) rfl dX6_takeBack_43 ?_
      refine lv_topi (fun y9 ey9 => ?_)
      have ey9 : y9 = nI tt := ey9.trans (by rw [eη1]; exact (iI_uI_n (by decide)).trans et)
      subst ey9
      refine lv_iconst (v := 1) E.ex E.by dX6_takeBack_46 (by decide) ?_
      refine lv_isub E.ex E.by dX6_takeBack_47 ?_
      refine lv_topi (fun y10 ey10 => ?_)
      have ey10 : y10 = nI (tt - 1) := ey10.trans (nI_pred1 hz)
      subst ey10
      refine k_putX E G wi_X6_takeBack_X6 tyX6_ok nmX6 (0) (gH_0 _ _ _ _ _) rfl 2 rfl fl_X6_takeBack_X6_2 rfl rfl rfl rfl ((fl [wHi kc ad (uI η1 1 (nI (tt - 1))), wKp kc ad kp, wC kc (ad 1) u8])) rfl dX6_takeBack_48 (fun H locs G => ?_)
      obtain ⟨η2, eη2⟩ : ∃ y : US, y = uI η1 1 (nI (tt - 1)) := ⟨_, rfl⟩
      rw [← eη2] at G
      refine lv_iconst (v := 1) E.ex E.by dX6_takeBack_51 (by decide) ?_
      refine k_ret (v := 1) (wof := (fun u : US × US => (fl [wHi kc ad u.1, wKp kc ad kp, wC kc (ad 1) u.2]))) (u := (η2, u8)) E G rfl ?_ ?_ ?_ dX6_takeBack_52
      · exact h η2 (by rw [eη2]; exact (iI_uI_n (by decide)).trans (by rw [eη1]; exact iI_uI _ _ _)) (by rw [eη2]; exact iI_uI _ _ _)
      · first | exact Nat.le_of_ble_eq_true rfl | omega
      · first | exact Nat.le_of_ble_eq_true rfl | omega
    | 6, _, ei, h =>
      intro sz
      refine k_begin (cc := cX6_takeBack) (maxL := 2) (ret := (some .boolean)) (by decide +kernel) rfl rfl (fun p e s m args below meth c hsz E G ls hl => ?_)
      subst hsz
      have hl : lv_has ls 2 [(0, .ref (ad 3 0)), (1, .ref (ad 1 0))] := hl
      refine lv_aload_n E.ex E.by dX6_takeBack_0 rfl (lv_at hl 0 rfl) ?_
      refine k_get E G wi_X6_takeBack_X6 (0) (gH_0 _ _ _ _ _) rfl 2 rfl fl_X6_takeBack_X6_2 (v := .int (iI η 1)) rfl dX6_takeBack_1 ?_
      refine lv_topi (fun y1 ey1 => ?_)
      have ey1 : y1 = nI tt := ey1.trans (et)
      subst ey1
      refine lv_if_le (tgt := 11) E.ex E.by dX6_takeBack_4 (by decide) (fun hc => absurd hc (nI_nle hz (by omega))) (fun hc => ?_)
      clear hc
      refine lv_aload_n E.ex E.by dX6_takeBack_7 rfl (lv_at hl 1 rfl) ?_
      refine lv_ifnonnull (tgt := 13) E.ex E.by dX6_takeBack_8 (by decide) ?_
      refine lv_aload_n E.ex E.by dX6_takeBack_13 rfl (lv_at hl 0 rfl) ?_
      refine lv_aload_n E.ex E.by dX6_takeBack_14 rfl (lv_at hl 0 rfl) ?_
      refine k_get E G wi_X6_takeBack_X6 (0) (gH_0 _ _ _ _ _) rfl 1 rfl fl_X6_takeBack_X6_1 (v := .int (iI η 0)) rfl dX6_takeBack_15 ?_
      refine lv_topi (fun y2 ey2 => ?_)
      have ey2 : y2 = nI 6 := ey2.trans (ei)
      subst ey2
      refine lv_bipush (v := 8) E.ex E.by dX6_takeBack_18 (by decide) ?_
      refine lv_iadd E.ex E.by dX6_takeBack_20 ?_
      refine lv_topi (fun y3 ey3 => ?_)
      have ey3 : y3 = nI 14 := ey3.trans (by decide)
      subst ey3
      refine lv_iconst (v := 1) E.ex E.by dX6_takeBack_21 (by decide) ?_
      refine lv_isub E.ex E.by dX6_takeBack_22 ?_
      refine lv_topi (fun y4 ey4 => ?_)
      have ey4 : y4 = nI 13 := ey4.trans (by decide)
      subst ey4
      refine lv_bipush (v := 8) E.ex E.by dX6_takeBack_23 (by decide) ?_
      refine lv_irem E.ex E.by dX6_takeBack_25 (by decide) ?_
      refine lv_topi (fun y5 ey5 => ?_)
      have ey5 : y5 = nI 5 := ey5.trans (by decide)
      subst ey5
      refine k_putX E G wi_X6_takeBack_X6 tyX6_ok nmX6 (0) (gH_0 _ _ _ _ _) rfl 1 rfl fl_X6_takeBack_X6_1 rfl rfl rfl rfl ((fl [wHi kc ad (uI η 0 (nI 5)), wKp kc ad kp, wC kc (ad 1) κ])) rfl dX6_takeBack_26 (fun H locs G => ?_)
      obtain ⟨η1, eη1⟩ : ∃ y : US, y = uI η 0 (nI 5) := ⟨_, rfl⟩
      rw [← eη1] at G
      refine lv_aload_n E.ex E.by dX6_takeBack_29 rfl (lv_at hl 1 rfl) ?_
      refine lv_aload_n E.ex E.by dX6_takeBack_30 rfl (lv_at hl 0 rfl) ?_
      refine lv_aload_n E.ex E.by dX6_takeBack_31 rfl (lv_at hl 0 rfl) ?_
      refine k_get E G wi_X6_takeBack_X6 (0) (gH_0 _ _ _ _ _) rfl 1 rfl fl_X6_takeBack_X6_1 (v := .int (iI η1 0)) rfl dX6_takeBack_32 ?_
      refine lv_topi (fun y6 ey6 => ?_)
      have ey6 : y6 = nI 5 := ey6.trans (by rw [eη1]; exact iI_uI _ _ _)
      subst ey6
      refine k_cVq (n := 1) (X := []) (w := (fl [wHi kc ad η1, wKp kc ad kp, wC kc (ad 1) κ])) (Z := []) (wnew := (fun _ : Unit => (fl [wHi kc ad η1, wKp kc ad kp, wC kc (ad 1) κ]))) (As := [.int (nI 5)]) (rest := [.ref (ad 1 0)]) E (List.append_nil _).symm G (c_X6_slotAt l D kc (fl [wHi kc ad η1, wKp kc ad kp, wC kc (ad 1) κ]) 0 1 (ad 3 0) (ad 3 1) 5 _ _ (fun i => some (ad (20 + i) 0)) (gH_0 _ _ _ _ _) rfl (by decide)) gX6_takeBack_X6_slotAt rfl ⟨rfl, rfl⟩ hd_X6_slotAt_v ⟨rfl, rfl⟩ (0) (gH_0 _ _ _ _ _) rfl rfl hl rfl rfl dX6_takeBack_35 (⟨Nat.le_of_ble_eq_true rfl, Nat.le_of_ble_eq_true rfl⟩) (fun _ => (List.append_nil _).symm) (fun r7 u7 hq7 H locs G => ?_)
      subst hq7
      have G := G.cg (wz := fl [wHi kc ad η1, wC kc (ad 20) (kp 0), wC kc (ad 21) (kp 1), wC kc (ad 22) (kp 2), wC kc (ad 23) (kp 3), wC kc (ad 24) (kp 4), wC kc (ad 25) (kp 5), wC kc (ad 26) (kp 6), wC kc (ad 27) (kp 7), wC kc (ad 1) κ]) rfl
      have G := kG.sel (L := [wHi kc ad η1, wC kc (ad 20) (kp 0), wC kc (ad 21) (kp 1), wC kc (ad 22) (kp 2), wC kc (ad 23) (kp 3), wC kc (ad 24) (kp 4), wC kc (ad 25) (kp 5), wC kc (ad 26) (kp 6), wC kc (ad 27) (kp 7), wC kc (ad 1) κ]) (L' := [wC kc (ad 1) κ, wC kc (ad 25) (kp 5), wHi kc ad η1, wC kc (ad 20) (kp 0), wC kc (ad 21) (kp 1), wC kc (ad 22) (kp 2), wC kc (ad 23) (kp 3), wC kc (ad 24) (kp 4), wC kc (ad 26) (kp 6), wC kc (ad 27) (kp 7)]) G [9, 6] rfl
      refine k_cVv (n := 1) (X := []) (w := (xCC kc (ad 1) (ad 25) κ (kp 5))) (Z := (fl [wHi kc ad η1, wC kc (ad 20) (kp 0), wC kc (ad 21) (kp 1), wC kc (ad 22) (kp 2), wC kc (ad 23) (kp 3), wC kc (ad 24) (kp 4), wC kc (ad 26) (kp 6), wC kc (ad 27) (kp 7)])) (wnew := (fun u : US => (fl [wC kc (ad 1) u, wC kc (ad 25) (kp 5), wHi kc ad η1, wC kc (ad 20) (kp 0), wC kc (ad 21) (kp 1), wC kc (ad 22) (kp 2), wC kc (ad 23) (kp 3), wC kc (ad 24) (kp 4), wC kc (ad 26) (kp 6), wC kc (ad 27) (kp 7)]))) (As := [.ref (ad 25 0)]) (rest := []) E rfl G (c_X2_copyFrom l D kc (ad 1) (ad 25) _ _ _ (h.2 hz)) gX6_takeBack_X2_copyFrom rfl ⟨rfl, rfl⟩ hd_X2_copyFrom_v ⟨rfl, rfl⟩ (0) (gCC_0 _ _ _ _ _) rfl rfl hl rfl rfl dX6_takeBack_38 (⟨rfl, rfl⟩) (fun _ => rfl) (fun u8 hq8 H locs G => ?_)
      have h := hq8
      have G := kG.sel (L := [wC kc (ad 1) u8, wC kc (ad 25) (kp 5), wHi kc ad η1, wC kc (ad 20) (kp 0), wC kc (ad 21) (kp 1), wC kc (ad 22) (kp 2), wC kc (ad 23) (kp 3), wC kc (ad 24) (kp 4), wC kc (ad 26) (kp 6), wC kc (ad 27) (kp 7)]) (L' := [wHi kc ad η1, wC kc (ad 20) (kp 0), wC kc (ad 21) (kp 1), wC kc (ad 22) (kp 2), wC kc (ad 23) (kp 3), wC kc (ad 24) (kp 4), wC kc (ad 25) (kp 5), wC kc (ad 26) (kp 6), wC kc (ad 27) (kp 7), wC kc (ad 1) u8]) G [2, 2, 2, 2, 2, 2, 1, 1, 1, 0] rfl
      have G := G.cg (wz := (fl [wHi kc ad η1, wKp kc ad kp, wC kc (ad 1) u8])) rfl
      refine lv_aload_n E.ex E.by dX6_takeBack_41 rfl (lv_at hl 0 rfl) ?_
      refine lv_dup E.ex E.by dX6_takeBack_42 rfl ?_
      refine k_get E G wi_X6_takeBack_X6 (0) (gH_0 _ _ _ _ _) rfl 2 rfl fl_X6_takeBack_X6_2 (v := .int (iI η1 1)) rfl dX6_takeBack_43 ?_
      refine lv_topi (fun y9 ey9 => ?_)
      have ey9 : y9 = nI tt := ey9.trans (by rw [eη1]; exact (iI_uI_n (by decide)).trans et)
      subst ey9
      refine lv_iconst (v := 1) E.ex E.by dX6_takeBack_46 (by decide) ?_
      refine lv_isub E.ex E.by dX6_takeBack_47 ?_
      refine lv_topi (fun y10 ey10 => ?_)
      have ey10 : y10 = nI (tt - 1) := ey10.trans (nI_pred1 hz)
      subst ey10
      refine k_putX E G wi_X6_takeBack_X6 tyX6_ok nmX6 (0) (gH_0 _ _ _ _ _) rfl 2 rfl fl_X6_takeBack_X6_2 rfl rfl rfl rfl ((fl [wHi kc ad (uI η1 1 (nI (tt - 1))), wKp kc ad kp, wC kc (ad 1) u8])) rfl dX6_takeBack_48 (fun H locs G => ?_)
      obtain ⟨η2, eη2⟩ : ∃ y : US, y = uI η1 1 (nI (tt - 1)) := ⟨_, rfl⟩
      rw [← eη2] at G
      refine lv_iconst (v := 1) E.ex E.by dX6_takeBack_51 (by decide) ?_
      refine k_ret (v := 1) (wof := (fun u : US × US => (fl [wHi kc ad u.1, wKp kc ad kp, wC kc (ad 1) u.2]))) (u := (η2, u8)) E G rfl ?_ ?_ ?_ dX6_takeBack_52
      · exact h η2 (by rw [eη2]; exact (iI_uI_n (by decide)).trans (by rw [eη1]; exact iI_uI _ _ _)) (by rw [eη2]; exact iI_uI _ _ _)
      · first | exact Nat.le_of_ble_eq_true rfl | omega
      · first | exact Nat.le_of_ble_eq_true rfl | omega
    | 7, _, ei, h =>
      intro sz
      refine k_begin (cc := cX6_takeBack) (maxL := 2) (ret := (some .boolean)) (by decide +kernel) rfl rfl (fun p e s m args below meth c hsz E G ls hl => ?_)
      subst hsz
      have hl : lv_has ls 2 [(0, .ref (ad 3 0)), (1, .ref (ad 1 0))] := hl
      refine lv_aload_n E.ex E.by dX6_takeBack_0 rfl (lv_at hl 0 rfl) ?_
      refine k_get E G wi_X6_takeBack_X6 (0) (gH_0 _ _ _ _ _) rfl 2 rfl fl_X6_takeBack_X6_2 (v := .int (iI η 1)) rfl dX6_takeBack_1 ?_
      refine lv_topi (fun y1 ey1 => ?_)
      have ey1 : y1 = nI tt := ey1.trans (et)
      subst ey1
      refine lv_if_le (tgt := 11) E.ex E.by dX6_takeBack_4 (by decide) (fun hc => absurd hc (nI_nle hz (by omega))) (fun hc => ?_)
      clear hc
      refine lv_aload_n E.ex E.by dX6_takeBack_7 rfl (lv_at hl 1 rfl) ?_
      refine lv_ifnonnull (tgt := 13) E.ex E.by dX6_takeBack_8 (by decide) ?_
      refine lv_aload_n E.ex E.by dX6_takeBack_13 rfl (lv_at hl 0 rfl) ?_
      refine lv_aload_n E.ex E.by dX6_takeBack_14 rfl (lv_at hl 0 rfl) ?_
      refine k_get E G wi_X6_takeBack_X6 (0) (gH_0 _ _ _ _ _) rfl 1 rfl fl_X6_takeBack_X6_1 (v := .int (iI η 0)) rfl dX6_takeBack_15 ?_
      refine lv_topi (fun y2 ey2 => ?_)
      have ey2 : y2 = nI 7 := ey2.trans (ei)
      subst ey2
      refine lv_bipush (v := 8) E.ex E.by dX6_takeBack_18 (by decide) ?_
      refine lv_iadd E.ex E.by dX6_takeBack_20 ?_
      refine lv_topi (fun y3 ey3 => ?_)
      have ey3 : y3 = nI 15 := ey3.trans (by decide)
      subst ey3
      refine lv_iconst (v := 1) E.ex E.by dX6_takeBack_21 (by decide) ?_
      refine lv_isub E.ex E.by dX6_takeBack_22 ?_
      refine lv_topi (fun y4 ey4 => ?_)
      have ey4 : y4 = nI 14 := ey4.trans (by decide)
      subst ey4
      refine lv_bipush (v := 8) E.ex E.by dX6_takeBack_23 (by decide) ?_
      refine lv_irem E.ex E.by dX6_takeBack_25 (by decide) ?_
      refine lv_topi (fun y5 ey5 => ?_)
      have ey5 : y5 = nI 6 := ey5.trans (by decide)
      subst ey5
      refine k_putX E G wi_X6_takeBack_X6 tyX6_ok nmX6 (0) (gH_0 _ _ _ _ _) rfl 1 rfl fl_X6_takeBack_X6_1 rfl rfl rfl rfl ((fl [wHi kc ad (uI η 0 (nI 6)), wKp kc ad kp, wC kc (ad 1) κ])) rfl dX6_takeBack_26 (fun H locs G => ?_)
      obtain ⟨η1, eη1⟩ : ∃ y : US, y = uI η 0 (nI 6) := ⟨_, rfl⟩
      rw [← eη1] at G
      refine lv_aload_n E.ex E.by dX6_takeBack_29 rfl (lv_at hl 1 rfl) ?_
      refine lv_aload_n E.ex E.by dX6_takeBack_30 rfl (lv_at hl 0 rfl) ?_
      refine lv_aload_n E.ex E.by dX6_takeBack_31 rfl (lv_at hl 0 rfl) ?_
      refine k_get E G wi_X6_takeBack_X6 (0) (gH_0 _ _ _ _ _) rfl 1 rfl fl_X6_takeBack_X6_1 (v := .int (iI η1 0)) rfl dX6_takeBack_32 ?_
      refine lv_topi (fun y6 ey6 => ?_)
      have ey6 : y6 = nI 6 := ey6.trans (by rw [eη1]; exact iI_uI _ _ _)
      subst ey6
      refine k_cVq (n := 1) (X := []) (w := (fl [wHi kc ad η1, wKp kc ad kp, wC kc (ad 1) κ])) (Z := []) (wnew := (fun _ : Unit => (fl [wHi kc ad η1, wKp kc ad kp, wC kc (ad 1) κ]))) (As := [.int (nI 6)]) (rest := [.ref (ad 1 0)]) E (List.append_nil _).symm G (c_X6_slotAt l D kc (fl [wHi kc ad η1, wKp kc ad kp, wC kc (ad 1) κ]) 0 1 (ad 3 0) (ad 3 1) 6 _ _ (fun i => some (ad (20 + i) 0)) (gH_0 _ _ _ _ _) rfl (by decide)) gX6_takeBack_X6_slotAt rfl ⟨rfl, rfl⟩ hd_X6_slotAt_v ⟨rfl, rfl⟩ (0) (gH_0 _ _ _ _ _) rfl rfl hl rfl rfl dX6_takeBack_35 (⟨Nat.le_of_ble_eq_true rfl, Nat.le_of_ble_eq_true rfl⟩) (fun _ => (List.append_nil _).symm) (fun r7 u7 hq7 H locs G => ?_)
      subst hq7
      have G := G.cg (wz := fl [wHi kc ad η1, wC kc (ad 20) (kp 0), wC kc (ad 21) (kp 1), wC kc (ad 22) (kp 2), wC kc (ad 23) (kp 3), wC kc (ad 24) (kp 4), wC kc (ad 25) (kp 5), wC kc (ad 26) (kp 6), wC kc (ad 27) (kp 7), wC kc (ad 1) κ]) rfl
      have G := kG.sel (L := [wHi kc ad η1, wC kc (ad 20) (kp 0), wC kc (ad 21) (kp 1), wC kc (ad 22) (kp 2), wC kc (ad 23) (kp 3), wC kc (ad 24) (kp 4), wC kc (ad 25) (kp 5), wC kc (ad 26) (kp 6), wC kc (ad 27) (kp 7), wC kc (ad 1) κ]) (L' := [wC kc (ad 1) κ, wC kc (ad 26) (kp 6), wHi kc ad η1, wC kc (ad 20) (kp 0), wC kc (ad 21) (kp 1), wC kc (ad 22) (kp 2), wC kc (ad 23) (kp 3), wC kc (ad 24) (kp 4), wC kc (ad 25) (kp 5), wC kc (ad 27) (kp 7)]) G [9, 7] rfl
      refine k_cVv (n := 1) (X := []) (w := (xCC kc (ad 1) (ad 26) κ (kp 6))) (Z := (fl [wHi kc ad η1, wC kc (ad 20) (kp 0), wC kc (ad 21) (kp 1), wC kc (ad 22) (kp 2), wC kc (ad 23) (kp 3), wC kc (ad 24) (kp 4), wC kc (ad 25) (kp 5), wC kc (ad 27) (kp 7)])) (wnew := (fun u : US => (fl [wC kc (ad 1) u, wC kc (ad 26) (kp 6), wHi kc ad η1, wC kc (ad 20) (kp 0), wC kc (ad 21) (kp 1), wC kc (ad 22) (kp 2), wC kc (ad 23) (kp 3), wC kc (ad 24) (kp 4), wC kc (ad 25) (kp 5), wC kc (ad 27) (kp 7)]))) (As := [.ref (ad 26 0)]) (rest := []) E rfl G (c_X2_copyFrom l D kc (ad 1) (ad 26) _ _ _ (h.2 hz)) gX6_takeBack_X2_copyFrom rfl ⟨rfl, rfl⟩ hd_X2_copyFrom_v ⟨rfl, rfl⟩ (0) (gCC_0 _ _ _ _ _) rfl rfl hl rfl rfl dX6_takeBack_38 (⟨rfl, rfl⟩) (fun _ => rfl) (fun u8 hq8 H locs G => ?_)
      have h := hq8
      have G := kG.sel (L := [wC kc (ad 1) u8, wC kc (ad 26) (kp 6), wHi kc ad η1, wC kc (ad 20) (kp 0), wC kc (ad 21) (kp 1), wC kc (ad 22) (kp 2), wC kc (ad 23) (kp 3), wC kc (ad 24) (kp 4), wC kc (ad 25) (kp 5), wC kc (ad 27) (kp 7)]) (L' := [wHi kc ad η1, wC kc (ad 20) (kp 0), wC kc (ad 21) (kp 1), wC kc (ad 22) (kp 2), wC kc (ad 23) (kp 3), wC kc (ad 24) (kp 4), wC kc (ad 25) (kp 5), wC kc (ad 26) (kp 6), wC kc (ad 27) (kp 7), wC kc (ad 1) u8]) G [2, 2, 2, 2, 2, 2, 2, 1, 1, 0] rfl
      have G := G.cg (wz := (fl [wHi kc ad η1, wKp kc ad kp, wC kc (ad 1) u8])) rfl
      refine lv_aload_n E.ex E.by dX6_takeBack_41 rfl (lv_at hl 0 rfl) ?_
      refine lv_dup E.ex E.by dX6_takeBack_42 rfl ?_
      refine k_get E G wi_X6_takeBack_X6 (0) (gH_0 _ _ _ _ _) rfl 2 rfl fl_X6_takeBack_X6_2 (v := .int (iI η1 1)) rfl dX6_takeBack_43 ?_
      refine lv_topi (fun y9 ey9 => ?_)
      have ey9 : y9 = nI tt := ey9.trans (by rw [eη1]; exact (iI_uI_n (by decide)).trans et)
      subst ey9
      refine lv_iconst (v := 1) E.ex E.by dX6_takeBack_46 (by decide) ?_
      refine lv_isub E.ex E.by dX6_takeBack_47 ?_
      refine lv_topi (fun y10 ey10 => ?_)
      have ey10 : y10 = nI (tt - 1) := ey10.trans (nI_pred1 hz)
      subst ey10
      refine k_putX E G wi_X6_takeBack_X6 tyX6_ok nmX6 (0) (gH_0 _ _ _ _ _) rfl 2 rfl fl_X6_takeBack_X6_2 rfl rfl rfl rfl ((fl [wHi kc ad (uI η1 1 (nI (tt - 1))), wKp kc ad kp, wC kc (ad 1) u8])) rfl dX6_takeBack_48 (fun H locs G => ?_)
      obtain ⟨η2, eη2⟩ : ∃ y : US, y = uI η1 1 (nI (tt - 1)) := ⟨_, rfl⟩
      rw [← eη2] at G
      refine lv_iconst (v := 1) E.ex E.by dX6_takeBack_51 (by decide) ?_
      refine k_ret (v := 1) (wof := (fun u : US × US => (fl [wHi kc ad u.1, wKp kc ad kp, wC kc (ad 1) u.2]))) (u := (η2, u8)) E G rfl ?_ ?_ ?_ dX6_takeBack_52
      · exact h η2 (by rw [eη2]; exact (iI_uI_n (by decide)).trans (by rw [eη1]; exact iI_uI _ _ _)) (by rw [eη2]; exact iI_uI _ _ _)
      · first | exact Nat.le_of_ble_eq_true rfl | omega
      · first | exact Nat.le_of_ble_eq_true rfl | omega
theorem wi_X6_total_X6 : ∀ w ∈ wsX60, w ∈ wsX6_total := fun w h => List.mem_cons_of_mem _ (List.mem_append_right _ (h))
theorem fl_X6_total_X6_2 : Cond.fieldLink RX6 22 (TX6 2).1 (TX6 2).2.1 (TX6 2).2.2.1 ∈ wsX6_total := List.mem_of_getElem? (i := 1) (by decide +kernel)
set_option maxRecDepth 100000 in
set_option maxHeartbeats 4000000 in
theorem c_X6_total (l : Launch) (D : va_G) (kc : Nat → ClassId) (ad : Nat → Nat → Nat) (η : US) (kp : Nat → US) (κ : US) (Q : Int32 → Prop) (h : wp_X6_total η kp κ Q) : kCi l D (tyL kc) yX6_total wsX6_total ({ frames := 0, cells := 0, slots := 0, locals := 0 } : Room) [.ref (ad 3 0)] (fl [wHi kc ad η, wKp kc ad kp, wC kc (ad 1) κ]) (fun _ : Unit => (fl [wHi kc ad η, wKp kc ad kp, wC kc (ad 1) κ])) 0 0 (fun r _ => Q r) := by
  intro sz
  refine k_begin (cc := cX6_total) (maxL := 1) (ret := (some .int)) (by decide +kernel) rfl rfl (fun p e s m args below meth c hsz E G ls hl => ?_)
  subst hsz
  have hl : lv_has ls 1 [(0, .ref (ad 3 0))] := hl
  refine lv_aload_n E.ex E.by dX6_total_0 rfl (lv_at hl 0 rfl) ?_
  refine k_get E G wi_X6_total_X6 (0) (gH_0 _ _ _ _ _) rfl 2 rfl fl_X6_total_X6_2 (v := .int (iI η 1)) rfl dX6_total_1 ?_
  refine k_ret (v := iI η 1) (wof := (fun _ : Unit => (fl [wHi kc ad η, wKp kc ad kp, wC kc (ad 1) κ]))) (u := ()) E G rfl ?_ ?_ ?_ dX6_total_4
  · exact h
  · first | exact Nat.le_of_ble_eq_true rfl | omega
  · first | exact Nat.le_of_ble_eq_true rfl | omega
