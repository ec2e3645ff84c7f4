/-! ===== the buffer ===== -/
def wp_X11_feed (kc : Nat → ClassId) (p1 : Int32) (μ : US) (fo : Nat → Option Nat) (κ ρ η : US) (kp : Nat → US) (lu σ ε π : US) (β : SBT) (pl : va_W) (Q : Int32 → SBT → Prop) : Prop := ∃ k : Nat, β.1.2 = nI k ∧ k ≤ 50 ∧ β.2.2.1 ≤ 102 ∧ (∀ i, fits .byte (.int (β.2.2.2 i)) = true) ∧ (p1 < 33 → Q (-1) β) ∧ (126 < p1 → Q (-1) β) ∧ (∀ x : Nat, p1 = nI x → 33 ≤ x → x ≤ 126 → (50 ≤ k → Q (-3) β) ∧ (k < 50 → ∀ u : Nat × Nat × (Nat → Int32), k + 1 ≤ u.2.1 → u.2.1 ≤ 102 → (∀ j, j < k → j < β.2.2.1 → u.2.2 j = β.2.2.2 j) → u.2.2 k = p1 → (∀ i, fits .byte (.int (u.2.2 i)) = true) → Q (nI (k + 1)) ((β.1.1, nI (k + 1)), u)))
theorem wi_X11_feed_X11 : ∀ w ∈ wsX110, w ∈ wsX11_feed := fun w h => List.mem_cons_of_mem _ (List.mem_append_left _ (List.mem_append_right _ (h)))
theorem fl_X11_feed_X11_6 : Cond.fieldLink RX11 52 (TX11 6).1 (TX11 6).2.1 (TX11 6).2.2.1 ∈ wsX11_feed := List.mem_of_getElem? (i := 1) (by decide +kernel)
theorem hd_J4_length_8abf5_v : yJ4_length_8abf5.cls = RJ4 ∧ yJ4_length_8abf5.cls ≠ "java/lang/invoke/MethodHandle" ∧ yJ4_length_8abf5.cls ≠ "java/lang/invoke/VarHandle" ∧ (parseMethodDescriptor yJ4_length_8abf5.desc).map (fun d => d.parameters.length) = some 0 := by decide +kernel
theorem hd_J4_append_cf468_v : yJ4_append_cf468.cls = RJ4 ∧ yJ4_append_cf468.cls ≠ "java/lang/invoke/MethodHandle" ∧ yJ4_append_cf468.cls ≠ "java/lang/invoke/VarHandle" ∧ (parseMethodDescriptor yJ4_append_cf468.desc).map (fun d => d.parameters.length) = some 1 := by decide +kernel
set_option maxRecDepth 100000 in
set_option maxHeartbeats 4000000 in
theorem c_X11_feed (l : Launch) (D : va_G) (kc : Nat → ClassId) (ad : Nat → Nat → Nat) (p1 : Int32) (μ : US) (fo : Nat → Option Nat) (κ : US) (ρ : US) (η : US) (kp : Nat → US) (lu : US) (σ : US) (ε : US) (π : US) (β : SBT) (pl : va_W) (Q : Int32 → SBT → Prop) (h : wp_X11_feed kc p1 μ fo κ ρ η kp lu σ ε π β pl Q) : kCi l D (tyL kc) yX11_feed wsX11_feed ({ frames := 6, cells := 1, slots := 102, locals := 146 } : Room) [.ref (ad 0 0), .int p1] (fl [wMn kc ad μ, wFo kc ad fo, wC kc (ad 1) κ, wC kc (ad 2) ρ, wHi kc ad η, wKp kc ad kp, wLu kc (ad 5) (ad 1) lu, wMo kc (ad 6) (ad 1) (ad 7) σ, wE kc (ad 7) ε, wBp kc (ad 9) (ad 1) π, wSb kc ad β, pl]) (fun u : SBT => (fl [wMn kc ad μ, wFo kc ad fo, wC kc (ad 1) κ, wC kc (ad 2) ρ, wHi kc ad η, wKp kc ad kp, wLu kc (ad 5) (ad 1) lu, wMo kc (ad 6) (ad 1) (ad 7) σ, wE kc (ad 7) ε, wBp kc (ad 9) (ad 1) π, wSb kc ad u, pl])) 1 102 (fun r u => Q r u) := by
  obtain ⟨⟨mb, cnt⟩, ba, n, f⟩ := β
  obtain ⟨k, ek, hk, hn, hf, h1, h2, h⟩ := h
  have ek : cnt = nI k := ek
  subst ek
  have hn : n ≤ 102 := hn
  by_cases hc0 : p1 < 33
  · intro sz
    refine k_begin (cc := cX11_feed) (maxL := 2) (ret := (some .int)) (by decide +kernel) rfl rfl (fun p e s m args below meth c hsz E G ls hl => ?_)
    subst hsz
    have hl : lv_has ls 2 [(0, .ref (ad 0 0)), (1, .int p1)] := hl
    have G := kG.sel (L := [wMn kc ad μ, wFo kc ad fo, wC kc (ad 1) κ, wC kc (ad 2) ρ, wHi kc ad η, wKp kc ad kp, wLu kc (ad 5) (ad 1) lu, wMo kc (ad 6) (ad 1) (ad 7) σ, wE kc (ad 7) ε, wBp kc (ad 9) (ad 1) π, wSb kc ad ((mb, nI k), ba, n, f), pl]) (L' := [wSb kc ad ((mb, nI k), ba, n, f), wMn kc ad μ, wFo kc ad fo, wC kc (ad 1) κ, wC kc (ad 2) ρ, wHi kc ad η, wKp kc ad kp, wLu kc (ad 5) (ad 1) lu, wMo kc (ad 6) (ad 1) (ad 7) σ, wE kc (ad 7) ε, wBp kc (ad 9) (ad 1) π, pl]) G [10] rfl
    refine lv_iload_n E.ex E.by dX11_feed_0 rfl (lv_at hl 1 rfl) ?_
    refine lv_bipush (v := 33) E.ex E.by dX11_feed_1 (by decide) ?_
    refine lv_icmp_lt (tgt := 12) E.ex E.by dX11_feed_3 (by decide) (fun hc => ?_) (fun hc => absurd (hc0) hc)
    clear hc
    refine lv_iconst (v := (-1)) E.ex E.by dX11_feed_12 (by decide) ?_
    have G := kG.sel (L := [wSb kc ad ((mb, nI k), ba, n, f), wMn kc ad μ, wFo kc ad fo, wC kc (ad 1) κ, wC kc (ad 2) ρ, wHi kc ad η, wKp kc ad kp, wLu kc (ad 5) (ad 1) lu, wMo kc (ad 6) (ad 1) (ad 7) σ, wE kc (ad 7) ε, wBp kc (ad 9) (ad 1) π, pl]) (L' := [wMn kc ad μ, wFo kc ad fo, wC kc (ad 1) κ, wC kc (ad 2) ρ, wHi kc ad η, wKp kc ad kp, wLu kc (ad 5) (ad 1) lu, wMo kc (ad 6) (ad 1) (ad 7) σ, wE kc (ad 7) ε, wBp kc (ad 9) (ad 1) π, wSb kc ad ((mb, nI k), ba, n, f), pl]) G [1, 1, 1, 1, 1, 1, 1, 1, 1, 1, 0, 0] rfl
    refine k_ret (v := (-1)) (wof := (fun u : SBT => (fl [wMn kc ad μ, wFo kc ad fo, wC kc (ad 1) κ, wC kc (ad 2) ρ, wHi kc ad η, wKp kc ad kp, wLu kc (ad 5) (ad 1) lu, wMo kc (ad 6) (ad 1) (ad 7) σ, wE kc (ad 7) ε, wBp kc (ad 9) (ad 1) π, wSb kc ad u, pl]))) (u := ((mb, nI k), ba, n, f)) E G rfl ?_ ?_ ?_ dX11_feed_13
    · exact h1 hc0
    · first | exact Nat.le_of_ble_eq_true rfl | omega
    · first | exact Nat.le_of_ble_eq_true rfl | omega
  by_cases hc1 : 126 < p1
  · intro sz
    refine k_begin (cc := cX11_feed) (maxL := 2) (ret := (some .int)) (by decide +kernel) rfl rfl (fun p e s m args below meth c hsz E G ls hl => ?_)
    subst hsz
    have hl : lv_has ls 2 [(0, .ref (ad 0 0)), (1, .int p1)] := hl
    have G := kG.sel (L := [wMn kc ad μ, wFo kc ad fo, wC kc (ad 1) κ, wC kc (ad 2) ρ, wHi kc ad η, wKp kc ad kp, wLu kc (ad 5) (ad 1) lu, wMo kc (ad 6) (ad 1) (ad 7) σ, wE kc (ad 7) ε, wBp kc (ad 9) (ad 1) π, wSb kc ad ((mb, nI k), ba, n, f), pl]) (L' := [wSb kc ad ((mb, nI k), ba, n, f), wMn kc ad μ, wFo kc ad fo, wC kc (ad 1) κ, wC kc (ad 2) ρ, wHi kc ad η, wKp kc ad kp, wLu kc (ad 5) (ad 1) lu, wMo kc (ad 6) (ad 1) (ad 7) σ, wE kc (ad 7) ε, wBp kc (ad 9) (ad 1) π, pl]) G [10] rfl
    refine lv_iload_n E.ex E.by dX11_feed_0 rfl (lv_at hl 1 rfl) ?_
    refine lv_bipush (v := 33) E.ex E.by dX11_feed_1 (by decide) ?_
    refine lv_icmp_lt (tgt := 12) E.ex E.by dX11_feed_3 (by decide) (fun hc => absurd hc (hc0)) (fun hc => ?_)
    clear hc
    refine lv_iload_n E.ex E.by dX11_feed_6 rfl (lv_at hl 1 rfl) ?_
    refine lv_bipush (v := 126) E.ex E.by dX11_feed_7 (by decide) ?_
    refine lv_icmp_le (tgt := 14) E.ex E.by dX11_feed_9 (by decide) (fun hc => absurd hc (Int32.not_le.mpr hc1)) (fun hc => ?_)
    clear hc
    refine lv_iconst (v := (-1)) E.ex E.by dX11_feed_12 (by decide) ?_
    have G := kG.sel (L := [wSb kc ad ((mb, nI k), ba, n, f), wMn kc ad μ, wFo kc ad fo, wC kc (ad 1) κ, wC kc (ad 2) ρ, wHi kc ad η, wKp kc ad kp, wLu kc (ad 5) (ad 1) lu, wMo kc (ad 6) (ad 1) (ad 7) σ, wE kc (ad 7) ε, wBp kc (ad 9) (ad 1) π, pl]) (L' := [wMn kc ad μ, wFo kc ad fo, wC kc (ad 1) κ, wC kc (ad 2) ρ, wHi kc ad η, wKp kc ad kp, wLu kc (ad 5) (ad 1) lu, wMo kc (ad 6) (ad 1) (ad 7) σ, wE kc (ad 7) ε, wBp kc (ad 9) (ad 1) π, wSb kc ad ((mb, nI k), ba, n, f), pl]) G [1, 1, 1, 1, 1, 1, 1, 1, 1, 1, 0, 0] rfl
    refine k_ret (v := (-1)) (wof := (fun u : SBT => (fl [wMn kc ad μ, wFo kc ad fo, wC kc (ad 1) κ, wC kc (ad 2) ρ, wHi kc ad η, wKp kc ad kp, wLu kc (ad 5) (ad 1) lu, wMo kc (ad 6) (ad 1) (ad 7) σ, wE kc (ad 7) ε, wBp kc (ad 9) (ad 1) π, wSb kc ad u, pl]))) (u := ((mb, nI k), ba, n, f)) E G rfl ?_ ?_ ?_ dX11_feed_13
    · exact h2 hc1
    · first | exact Nat.le_of_ble_eq_true rfl | omega
    · first | exact Nat.le_of_ble_eq_true rfl | omega
  obtain ⟨x, hx2, rfl⟩ := nI_of (x := p1) (fun z => hc0 (Int32.lt_trans z (by decide)))
  have hxl : 33 ≤ x := by
    rcases Nat.lt_or_ge x 33 with q | q
    · exact absurd (nI_lt q (by omega)) hc0
    · exact q
  have hxu : x ≤ 126 := by
    rcases Nat.lt_or_ge 126 x with q | q
    · exact absurd (nI_lt q hx2) hc1
    · exact q
  have h := h x rfl hxl hxu
  rcases Nat.lt_or_ge k 50 with hk50 | hk50
  · intro sz
    refine k_begin (cc := cX11_feed) (maxL := 2) (ret := (some .int)) (by decide +kernel) rfl rfl (fun p e s m args below meth c hsz E G ls hl => ?_)
    subst hsz
    have hl : lv_has ls 2 [(0, .ref (ad 0 0)), (1, .int (nI x))] := hl
    have G := kG.sel (L := [wMn kc ad μ, wFo kc ad fo, wC kc (ad 1) κ, wC kc (ad 2) ρ, wHi kc ad η, wKp kc ad kp, wLu kc (ad 5) (ad 1) lu, wMo kc (ad 6) (ad 1) (ad 7) σ, wE kc (ad 7) ε, wBp kc (ad 9) (ad 1) π, wSb kc ad ((mb, nI k), ba, n, f), pl]) (L' := [wSb kc ad ((mb, nI k), ba, n, f), wMn kc ad μ, wFo kc ad fo, wC kc (ad 1) κ, wC kc (ad 2) ρ, wHi kc ad η, wKp kc ad kp, wLu kc (ad 5) (ad 1) lu, wMo kc (ad 6) (ad 1) (ad 7) σ, wE kc (ad 7) ε, wBp kc (ad 9) (ad 1) π, pl]) G [10] rfl
    refine lv_iload_n E.ex E.by dX11_feed_0 rfl (lv_at hl 1 rfl) ?_
    refine lv_bipush (v := 33) E.ex E.by dX11_feed_1 (by decide) ?_
    refine lv_icmp_lt (tgt := 12) E.ex E.by dX11_feed_3 (by decide) (fun hc => absurd hc (nI_nlt (show 33 ≤ x by omega) (by omega))) (fun hc => ?_)
    clear hc
    refine lv_iload_n E.ex E.by dX11_feed_6 rfl (lv_at hl 1 rfl) ?_
    refine lv_bipush (v := 126) E.ex E.by dX11_feed_7 (by decide) ?_
    refine lv_icmp_le (tgt := 14) E.ex E.by dX11_feed_9 (by decide) (fun hc => ?_) (fun hc => absurd (nI_le (show x ≤ 126 by omega) (by omega)) hc)
    clear hc
    refine lv_aload_n E.ex E.by dX11_feed_14 rfl (lv_at hl 0 rfl) ?_
    refine k_get E G wi_X11_feed_X11 (2) (rfl) rfl 6 rfl fl_X11_feed_X11_6 (v := .ref (ad 10 0)) rfl dX11_feed_15 ?_
    refine k_cVi (n := 0) (X := []) (w := (fl [wSb kc ad ((mb, nI k), ba, n, f), wMn kc ad μ, wFo kc ad fo, wC kc (ad 1) κ, wC kc (ad 2) ρ, wHi kc ad η, wKp kc ad kp, wLu kc (ad 5) (ad 1) lu, wMo kc (ad 6) (ad 1) (ad 7) σ, wE kc (ad 7) ε, wBp kc (ad 9) (ad 1) π, pl])) (Z := []) (wnew := (fun _ : Unit => (fl [wSb kc ad ((mb, nI k), ba, n, f), wMn kc ad μ, wFo kc ad fo, wC kc (ad 1) κ, wC kc (ad 2) ρ, wHi kc ad η, wKp kc ad kp, wLu kc (ad 5) (ad 1) lu, wMo kc (ad 6) (ad 1) (ad 7) σ, wE kc (ad 7) ε, wBp kc (ad 9) (ad 1) π, pl]))) (As := []) (rest := []) E (List.append_nil _).symm G (c_J4_length l D kc (fl [wSb kc ad ((mb, nI k), ba, n, f), wMn kc ad μ, wFo kc ad fo, wC kc (ad 1) κ, wC kc (ad 2) ρ, wHi kc ad η, wKp kc ad kp, wLu kc (ad 5) (ad 1) lu, wMo kc (ad 6) (ad 1) (ad 7) σ, wE kc (ad 7) ε, wBp kc (ad 9) (ad 1) π, pl]) 0 (ad 10 0) _ mb (nI k) rfl) gX11_feed_J4_length_8abf5 rfl ⟨rfl, rfl⟩ hd_J4_length_8abf5_v ⟨rfl, rfl⟩ (0) (rfl) rfl rfl hl rfl rfl dX11_feed_18 (⟨rfl, rfl⟩) (fun _ => (List.append_nil _).symm) (fun r1 u1 hq1 H locs G => ?_)
    subst hq1
    refine lv_bipush (v := 50) E.ex E.by dX11_feed_21 (by decide) ?_
    refine lv_icmp_lt (tgt := 29) E.ex E.by dX11_feed_23 (by decide) (fun hc => ?_) (fun hc => absurd (nI_lt (show k < 50 by omega) (by omega)) hc)
    clear hc
    refine lv_aload_n E.ex E.by dX11_feed_29 rfl (lv_at hl 0 rfl) ?_
    refine k_get E G wi_X11_feed_X11 (2) (rfl) rfl 6 rfl fl_X11_feed_X11_6 (v := .ref (ad 10 0)) rfl dX11_feed_30 ?_
    refine lv_iload_n E.ex E.by dX11_feed_33 rfl (lv_at hl 1 rfl) ?_
    refine lv_i2c (v := nI x) E.ex E.by dX11_feed_34 ((jk_ch x (by omega)).2.1) ?_
    refine k_cVq (n := 1) (X := []) (w := [(ad 10 0, .inr (1, [.ref ba, .int 0, .int mb, .int (nI k)])), (ba, .inl (kc 2, n, .inl f))]) (Z := (fl [wMn kc ad μ, wFo kc ad fo, wC kc (ad 1) κ, wC kc (ad 2) ρ, wHi kc ad η, wKp kc ad kp, wLu kc (ad 5) (ad 1) lu, wMo kc (ad 6) (ad 1) (ad 7) σ, wE kc (ad 7) ε, wBp kc (ad 9) (ad 1) π, pl])) (wnew := (fun u : Nat × Nat × (Nat → Int32) => (fl [wSb kc ad ((mb, nI (k + 1)), u), wMn kc ad μ, wFo kc ad fo, wC kc (ad 1) κ, wC kc (ad 2) ρ, wHi kc ad η, wKp kc ad kp, wLu kc (ad 5) (ad 1) lu, wMo kc (ad 6) (ad 1) (ad 7) σ, wE kc (ad 7) ε, wBp kc (ad 9) (ad 1) π, pl]))) (As := [.int (nI x)]) (rest := []) E rfl G (c_J4_append l D kc (ad 10 0) ba n k x mb f hf hn (by omega) (by omega)) gX11_feed_J4_append_cf468 rfl ⟨rfl, rfl⟩ hd_J4_append_cf468_v ⟨rfl, rfl⟩ (0) (rfl) rfl rfl hl rfl rfl dX11_feed_35 (⟨Nat.le_of_ble_eq_true rfl, Nat.le_of_ble_eq_true rfl⟩) (fun _ => rfl) (fun r2 u2 hq2 H locs G => ?_)
    obtain ⟨e1, e2, e3, e4, e5, e6⟩ := hq2
    subst e1
    have G : kG D _ s (fl [wSb kc ad ((mb, nI (k + 1)), u2), wMn kc ad μ, wFo kc ad fo, wC kc (ad 1) κ, wC kc (ad 2) ρ, wHi kc ad η, wKp kc ad kp, wLu kc (ad 5) (ad 1) lu, wMo kc (ad 6) (ad 1) (ad 7) σ, wE kc (ad 7) ε, wBp kc (ad 9) (ad 1) π, pl]) H _ := G
    refine lv_pop E.ex E.by dX11_feed_38 rfl ?_
    refine lv_aload_n E.ex E.by dX11_feed_39 rfl (lv_at hl 0 rfl) ?_
    refine k_get E G wi_X11_feed_X11 (2) (rfl) rfl 6 rfl fl_X11_feed_X11_6 (v := .ref (ad 10 0)) rfl dX11_feed_40 ?_
    refine k_cVi (n := 0) (X := []) (w := (fl [wSb kc ad ((mb, nI (k + 1)), u2), wMn kc ad μ, wFo kc ad fo, wC kc (ad 1) κ, wC kc (ad 2) ρ, wHi kc ad η, wKp kc ad kp, wLu kc (ad 5) (ad 1) lu, wMo kc (ad 6) (ad 1) (ad 7) σ, wE kc (ad 7) ε, wBp kc (ad 9) (ad 1) π, pl])) (Z := []) (wnew := (fun _ : Unit => (fl [wSb kc ad ((mb, nI (k + 1)), u2), wMn kc ad μ, wFo kc ad fo, wC kc (ad 1) κ, wC kc (ad 2) ρ, wHi kc ad η, wKp kc ad kp, wLu kc (ad 5) (ad 1) lu, wMo kc (ad 6) (ad 1) (ad 7) σ, wE kc (ad 7) ε, wBp kc (ad 9) (ad 1) π, pl]))) (As := []) (rest := []) E (List.append_nil _).symm G (c_J4_length l D kc (fl [wSb kc ad ((mb, nI (k + 1)), u2), wMn kc ad μ, wFo kc ad fo, wC kc (ad 1) κ, wC kc (ad 2) ρ, wHi kc ad η, wKp kc ad kp, wLu kc (ad 5) (ad 1) lu, wMo kc (ad 6) (ad 1) (ad 7) σ, wE kc (ad 7) ε, wBp kc (ad 9) (ad 1) π, pl]) 0 (ad 10 0) _ mb (nI (k + 1)) rfl) gX11_feed_J4_length_8abf5 rfl ⟨rfl, rfl⟩ hd_J4_length_8abf5_v ⟨rfl, rfl⟩ (0) (rfl) rfl rfl hl rfl rfl dX11_feed_43 (⟨rfl, rfl⟩) (fun _ => (List.append_nil _).symm) (fun r3 u3 hq3 H locs G => ?_)
    subst hq3
    have G := kG.sel (L := [wSb kc ad ((mb, nI (k + 1)), u2), wMn kc ad μ, wFo kc ad fo, wC kc (ad 1) κ, wC kc (ad 2) ρ, wHi kc ad η, wKp kc ad kp, wLu kc (ad 5) (ad 1) lu, wMo kc (ad 6) (ad 1) (ad 7) σ, wE kc (ad 7) ε, wBp kc (ad 9) (ad 1) π, pl]) (L' := [wMn kc ad μ, wFo kc ad fo, wC kc (ad 1) κ, wC kc (ad 2) ρ, wHi kc ad η, wKp kc ad kp, wLu kc (ad 5) (ad 1) lu, wMo kc (ad 6) (ad 1) (ad 7) σ, wE kc (ad 7) ε, wBp kc (ad 9) (ad 1) π, wSb kc ad ((mb, nI (k + 1)), u2), pl]) G [1, 1, 1, 1, 1, 1, 1, 1, 1, 1, 0, 0] rfl
    refine k_ret (v := (nI (k + 1))) (wof := (fun u : SBT => (fl [wMn kc ad μ, wFo kc ad fo, wC kc (ad 1) κ, wC kc (ad 2) ρ, wHi kc ad η, wKp kc ad kp, wLu kc (ad 5) (ad 1) lu, wMo kc (ad 6) (ad 1) (ad 7) σ, wE kc (ad 7) ε, wBp kc (ad 9) (ad 1) π, wSb kc ad u, pl]))) (u := ((mb, nI (k + 1)), u2)) E G rfl ?_ ?_ ?_ dX11_feed_46
    · exact h.2 hk50 u2 e2 e3 e4 e5 e6
    · first | exact Nat.le_of_ble_eq_true rfl | omega
    · first | exact Nat.le_of_ble_eq_true rfl | omega
  · intro sz
    refine k_begin (cc := cX11_feed) (maxL := 2) (ret := (some .int)) (by decide +kernel) rfl rfl (fun p e s m args below meth c hsz E G ls hl => ?_)
    subst hsz
    have hl : lv_has ls 2 [(0, .ref (ad 0 0)), (1, .int (nI x))] := hl
    have G := kG.sel (L := [wMn kc ad μ, wFo kc ad fo, wC kc (ad 1) κ, wC kc (ad 2) ρ, wHi kc ad η, wKp kc ad kp, wLu kc (ad 5) (ad 1) lu, wMo kc (ad 6) (ad 1) (ad 7) σ, wE kc (ad 7) ε, wBp kc (ad 9) (ad 1) π, wSb kc ad ((mb, nI k), ba, n, f), pl]) (L' := [wSb kc ad ((mb, nI k), ba, n, f), wMn kc ad μ, wFo kc ad fo, wC kc (ad 1) κ, wC kc (ad 2) ρ, wHi kc ad η, wKp kc ad kp, wLu kc (ad 5) (ad 1) lu, wMo kc (ad 6) (ad 1) (ad 7) σ, wE kc (ad 7) ε, wBp kc (ad 9) (ad 1) π, pl]) G [10] rfl
    refine lv_iload_n E.ex E.by dX11_feed_0 rfl (lv_at hl 1 rfl) ?_
    refine lv_bipush (v := 33) E.ex E.by dX11_feed_1 (by decide) ?_
    refine lv_icmp_lt (tgt := 12) E.ex E.by dX11_feed_3 (by decide) (fun hc => absurd hc (nI_nlt (show 33 ≤ x by omega) (by omega))) (fun hc => ?_)
    clear hc
    refine lv_iload_n E.ex E.by dX11_feed_6 rfl (lv_at hl 1 rfl) ?_
    refine lv_bipush (v := 126) E.ex E.by dX11_feed_7 (by decide) ?_
    refine lv_icmp_le (tgt := 14) E.ex E.by dX11_feed_9 (by decide) (fun hc => ?_) (fun hc => absurd (nI_le (show x ≤ 126 by omega) (by omega)) hc)
    clear hc
    refine lv_aload_n E.ex E.by dX11_feed_14 rfl (lv_at hl 0 rfl) ?_
    refine k_get E G wi_X11_feed_X11 (2) (rfl) rfl 6 rfl fl_X11_feed_X11_6 (v := .ref (ad 10 0)) rfl dX11_feed_15 ?_
    refine k_cVi (n := 0) (X := []) (w := (fl [wSb kc ad ((mb, nI k), ba, n, f), wMn kc ad μ, wFo kc ad fo, wC kc (ad 1) κ, wC kc (ad 2) ρ, wHi kc ad η, wKp kc ad kp, wLu kc (ad 5) (ad 1) lu, wMo kc (ad 6) (ad 1) (ad 7) σ, wE kc (ad 7) ε, wBp kc (ad 9) (ad 1) π, pl])) (Z := []) (wnew := (fun _ : Unit => (fl [wSb kc ad ((mb, nI k), ba, n, f), wMn kc ad μ, wFo kc ad fo, wC kc (ad 1) κ, wC kc (ad 2) ρ, wHi kc ad η, wKp kc ad kp, wLu kc (ad 5) (ad 1) lu, wMo kc (ad 6) (ad 1) (ad 7) σ, wE kc (ad 7) ε, wBp kc (ad 9) (ad 1) π, pl]))) (As := []) (rest := []) E (List.append_nil _).symm G (c_J4_length l D kc (fl [wSb kc ad ((mb, nI k), ba, n, f), wMn kc ad μ, wFo kc ad fo, wC kc (ad 1) κ, wC kc (ad 2) ρ, wHi kc ad η, wKp kc ad kp, wLu kc (ad 5) (ad 1) lu, wMo kc (ad 6) (ad 1) (ad 7) σ, wE kc (ad 7) ε, wBp kc (ad 9) (ad 1) π, pl]) 0 (ad 10 0) _ mb (nI k) rfl) gX11_feed_J4_length_8abf5 rfl ⟨rfl, rfl⟩ hd_J4_length_8abf5_v ⟨rfl, rfl⟩ (0) (rfl) rfl rfl hl rfl rfl dX11_feed_18 (⟨rfl, rfl⟩) (fun _ => (List.append_nil _).symm) (fun r1 u1 hq1 H locs G => ?_)
    subst hq1
    refine lv_bipush (v := 50) E.ex E.by dX11_feed_21 (by decide) ?_
    refine lv_icmp_lt (tgt := 29) E.ex E.by dX11_feed_23 (by decide) (fun hc => absurd hc (nI_nlt (show 50 ≤ k by omega) (by omega))) (fun hc => ?_)
    clear hc
    refine lv_bipush (v := (-3)) E.ex E.by dX11_feed_26 (by decide) ?_
    have G := kG.sel (L := [wSb kc ad ((mb, nI k), ba, n, f), wMn kc ad μ, wFo kc ad fo, wC kc (ad 1) κ, wC kc (ad 2) ρ, wHi kc ad η, wKp kc ad kp, wLu kc (ad 5) (ad 1) lu, wMo kc (ad 6) (ad 1) (ad 7) σ, wE kc (ad 7) ε, wBp kc (ad 9) (ad 1) π, pl]) (L' := [wMn kc ad μ, wFo kc ad fo, wC kc (ad 1) κ, wC kc (ad 2) ρ, wHi kc ad η, wKp kc ad kp, wLu kc (ad 5) (ad 1) lu, wMo kc (ad 6) (ad 1) (ad 7) σ, wE kc (ad 7) ε, wBp kc (ad 9) (ad 1) π, wSb kc ad ((mb, nI k), ba, n, f), pl]) G [1, 1, 1, 1, 1, 1, 1, 1, 1, 1, 0, 0] rfl
    refine k_ret (v := (-3)) (wof := (fun u : SBT => (fl [wMn kc ad μ, wFo kc ad fo, wC kc (ad 1) κ, wC kc (ad 2) ρ, wHi kc ad η, wKp kc ad kp, wLu kc (ad 5) (ad 1) lu, wMo kc (ad 6) (ad 1) (ad 7) σ, wE kc (ad 7) ε, wBp kc (ad 9) (ad 1) π, wSb kc ad u, pl]))) (u := ((mb, nI k), ba, n, f)) E G rfl ?_ ?_ ?_ dX11_feed_28
    · exact h.1 hk50
    · first | exact Nat.le_of_ble_eq_true rfl | omega
    · first | exact Nat.le_of_ble_eq_true rfl | omega
