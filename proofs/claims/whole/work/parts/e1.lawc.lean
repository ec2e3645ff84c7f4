theorem hd_X11_classOf_v : yX11_classOf.cls = RX11 ∧ yX11_classOf.cls ≠ "java/lang/invoke/MethodHandle" ∧ yX11_classOf.cls ≠ "java/lang/invoke/VarHandle" ∧ (parseMethodDescriptor yX11_classOf.desc).map (fun d => d.parameters.length) = some 1 := by decide +kernel
theorem hd_X12_classOf_v : yX12_classOf.cls = RX12 ∧ yX12_classOf.cls ≠ "java/lang/invoke/MethodHandle" ∧ yX12_classOf.cls ≠ "java/lang/invoke/VarHandle" ∧ (parseMethodDescriptor yX12_classOf.desc).map (fun d => d.parameters.length) = some 1 := by decide +kernel
theorem hd_X11_lumped_v : yX11_lumped.cls = RX11 ∧ yX11_lumped.cls ≠ "java/lang/invoke/MethodHandle" ∧ yX11_lumped.cls ≠ "java/lang/invoke/VarHandle" ∧ (parseMethodDescriptor yX11_lumped.desc).map (fun d => d.parameters.length) = some 3 := by decide +kernel
theorem hd_X12_lumped_v : yX12_lumped.cls = RX12 ∧ yX12_lumped.cls ≠ "java/lang/invoke/MethodHandle" ∧ yX12_lumped.cls ≠ "java/lang/invoke/VarHandle" ∧ (parseMethodDescriptor yX12_lumped.desc).map (fun d => d.parameters.length) = some 3 := by decide +kernel
theorem hd_X11_feed_v : yX11_feed.cls = RX11 ∧ yX11_feed.cls ≠ "java/lang/invoke/MethodHandle" ∧ yX11_feed.cls ≠ "java/lang/invoke/VarHandle" ∧ (parseMethodDescriptor yX11_feed.desc).map (fun d => d.parameters.length) = some 1 := by decide +kernel
theorem hd_X12_feed_v : yX12_feed.cls = RX12 ∧ yX12_feed.cls ≠ "java/lang/invoke/MethodHandle" ∧ yX12_feed.cls ≠ "java/lang/invoke/VarHandle" ∧ (parseMethodDescriptor yX12_feed.desc).map (fun d => d.parameters.length) = some 1 := by decide +kernel
theorem hd_X11_addFormula_v : yX11_addFormula.cls = RX11 ∧ yX11_addFormula.cls ≠ "java/lang/invoke/MethodHandle" ∧ yX11_addFormula.cls ≠ "java/lang/invoke/VarHandle" ∧ (parseMethodDescriptor yX11_addFormula.desc).map (fun d => d.parameters.length) = some 0 := by decide +kernel
theorem hd_X12_addFormula_v : yX12_addFormula.cls = RX12 ∧ yX12_addFormula.cls ≠ "java/lang/invoke/MethodHandle" ∧ yX12_addFormula.cls ≠ "java/lang/invoke/VarHandle" ∧ (parseMethodDescriptor yX12_addFormula.desc).map (fun d => d.parameters.length) = some 0 := by decide +kernel
theorem hd_X11_formulaCount_v : yX11_formulaCount.cls = RX11 ∧ yX11_formulaCount.cls ≠ "java/lang/invoke/MethodHandle" ∧ yX11_formulaCount.cls ≠ "java/lang/invoke/VarHandle" ∧ (parseMethodDescriptor yX11_formulaCount.desc).map (fun d => d.parameters.length) = some 0 := by decide +kernel
theorem hd_X12_formulaCount_v : yX12_formulaCount.cls = RX12 ∧ yX12_formulaCount.cls ≠ "java/lang/invoke/MethodHandle" ∧ yX12_formulaCount.cls ≠ "java/lang/invoke/VarHandle" ∧ (parseMethodDescriptor yX12_formulaCount.desc).map (fun d => d.parameters.length) = some 0 := by decide +kernel
theorem hd_X11_clearFormulas_v : yX11_clearFormulas.cls = RX11 ∧ yX11_clearFormulas.cls ≠ "java/lang/invoke/MethodHandle" ∧ yX11_clearFormulas.cls ≠ "java/lang/invoke/VarHandle" ∧ (parseMethodDescriptor yX11_clearFormulas.desc).map (fun d => d.parameters.length) = some 0 := by decide +kernel
theorem hd_X12_clearFormulas_v : yX12_clearFormulas.cls = RX12 ∧ yX12_clearFormulas.cls ≠ "java/lang/invoke/MethodHandle" ∧ yX12_clearFormulas.cls ≠ "java/lang/invoke/VarHandle" ∧ (parseMethodDescriptor yX12_clearFormulas.desc).map (fun d => d.parameters.length) = some 0 := by decide +kernel
theorem hd_X11_letter_v : yX11_letter.cls = RX11 ∧ yX11_letter.cls ≠ "java/lang/invoke/MethodHandle" ∧ yX11_letter.cls ≠ "java/lang/invoke/VarHandle" ∧ (parseMethodDescriptor yX11_letter.desc).map (fun d => d.parameters.length) = some 2 := by decide +kernel
theorem hd_X12_letter_v : yX12_letter.cls = RX12 ∧ yX12_letter.cls ≠ "java/lang/invoke/MethodHandle" ∧ yX12_letter.cls ≠ "java/lang/invoke/VarHandle" ∧ (parseMethodDescriptor yX12_letter.desc).map (fun d => d.parameters.length) = some 2 := by decide +kernel
section LAWC
variable {p : Program} {l : Launch} {e : Env} {s : State} {m : MethodId} {below : List Frame} {meth : Method} {c : Code} {b L i : Nat} {xs : Nat → Int32} {D : va_G} {kc : Nat → ClassId} {ad : Nat → Nat → Nat} {am : Nat → Nat} {nm : String} {A : AB} {μ κ ρ η lu σ ε π τ : US} {fo : Nat → Option Nat} {kp : Nat → US} {β : SBT} {pl : va_W} {H : Heap} {locs : List Loc} {ls : Array Slot} {cells slots : Nat} {QQ : State → Prop}
set_option maxRecDepth 100000 in
set_option maxHeartbeats 8000000 in
theorem law_classOf (E : kE p s m meth c #[Value.ref b] code 4 RL nm wsL_law ret D (tyL kc)) (hX : va_X b L xs s s.heap) (hbl : b < s.heap.size) (hi : i + 6 ≤ L) (hL : L ≤ 3072) (hc : cells + 132 ≤ 600000) (hs : slots + 1204 ≤ 7302250) (ok : okA A) (C : CSt kc A μ fo κ ρ η kp β pl) (T : RSt A τ) (G : kG D (fun q => s.heap.size ≤ q) s (fl [wMn kc ad μ, wFo kc ad fo, wC kc (ad 1) κ, wC kc (ad 2) ρ, wHi kc ad η, wKp kc ad kp, wLu kc (ad 5) (ad 1) lu, wMo kc (ad 6) (ad 1) (ad 7) σ, wE kc (ad 7) ε, wBp kc (ad 9) (ad 1) π, wSb kc ad β, pl] ++ wM kc am τ) H locs) (hl : lv_has ls 4 [(3, .int (nI i)), (2, .ref (am 0)), (1, .ref (ad 0 0)), (0, .ref b)]) (IH : LGo p l e s m below meth c b i D kc ad am (cells + 132) (slots + 1204) QQ) : W p l e room_1 s m #[Value.ref b] below meth c H locs cells slots QQ (F0 m 522 ls []) := by
  refine lv_aload_n E.ex E.by dL_law_522 rfl (lv_at hl 2 rfl) ?_
  refine lv_aload_n E.ex E.by dL_law_523 rfl (lv_at hl 3 rfl) ?_
  refine lv_iload_n E.ex E.by dL_law_524 rfl (lv_at hl 0 rfl) ?_
  refine lv_iconst (v := 1) E.ex E.by dL_law_525 (by decide) ?_
  refine lv_iadd E.ex E.by dL_law_526 ?_
  refine lv_topi (fun y526 ey526 => ?_)
  have ey526 : y526 = nI (i + 1) := ey526.trans (nI_add i 1)
  subst ey526
  refine va_sld E.ex E.by hX hbl (Nat.not_le.mpr hbl) G.2.2.1 (vp_in_nI (show i + 1 < L by omega) (by omega)) dL_law_527 ?_
  refine k_cVi (n := 1) (X := []) (w := fl [wMn kc ad μ, wFo kc ad fo, wC kc (ad 1) κ, wC kc (ad 2) ρ, wHi kc ad η, wKp kc ad kp, wLu kc (ad 5) (ad 1) lu, wMo kc (ad 6) (ad 1) (ad 7) σ, wE kc (ad 7) ε, wBp kc (ad 9) (ad 1) π, wSb kc ad β, pl]) (Z := wM kc am τ) (wnew := (fun u : US => (fl [wMn kc ad μ, wFo kc ad fo, wC kc (ad 1) κ, wC kc (ad 2) ρ, wHi kc ad η, wKp kc ad kp, wLu kc (ad 5) (ad 1) u, wMo kc (ad 6) (ad 1) (ad 7) σ, wE kc (ad 7) ε, wBp kc (ad 9) (ad 1) π, wSb kc ad β, pl]) ++ wM kc am τ)) (As := [.int (xs (nI (i + 1)).toNatClampNeg)]) (rest := []) E rfl G (c_X11_classOf l D kc ad (xs (nI (i + 1)).toNatClampNeg) μ fo κ ρ η kp lu σ ε π β pl (fun (r : Int32) (_ : US) => r = f_classOf A (xs (nI (i + 1)).toNatClampNeg)) (q11_classOf ok C (fun _ => rfl))) gL_law_X11_classOf rfl ⟨rfl, rfl⟩ hd_X11_classOf_v ⟨rfl, rfl⟩ 0 rfl rfl rfl hl rfl rfl dL_law_528 ⟨Nat.ble_eq_true_of_le (show cells + 0 ≤ 600000 by omega), Nat.ble_eq_true_of_le (show slots + 0 ≤ 7302250 by omega)⟩ (fun _ => rfl) (fun r1 u1 hq1 H locs G => ?_)
  have e1 := hq1
  subst e1
  have C1 := C
  have G : kG D _ s ((fl [wMn kc ad μ, wFo kc ad fo, wC kc (ad 1) κ, wC kc (ad 2) ρ, wHi kc ad η, wKp kc ad kp, wLu kc (ad 5) (ad 1) u1, wMo kc (ad 6) (ad 1) (ad 7) σ, wE kc (ad 7) ε, wBp kc (ad 9) (ad 1) π, wSb kc ad β, pl]) ++ wM kc am τ) H _ := G
  refine lv_aload_n E.ex E.by dL_law_531 rfl (lv_at hl 1 rfl) ?_
  refine lv_aload_n E.ex E.by dL_law_532 rfl (lv_at hl 3 rfl) ?_
  refine lv_iload_n E.ex E.by dL_law_533 rfl (lv_at hl 0 rfl) ?_
  refine lv_iconst (v := 1) E.ex E.by dL_law_534 (by decide) ?_
  refine lv_iadd E.ex E.by dL_law_535 ?_
  refine lv_topi (fun y535 ey535 => ?_)
  have ey535 : y535 = nI (i + 1) := ey535.trans (nI_add i 1)
  subst ey535
  refine va_sld E.ex E.by hX hbl (Nat.not_le.mpr hbl) G.2.2.1 (vp_in_nI (show i + 1 < L by omega) (by omega)) dL_law_536 ?_
  refine k_cVi (n := 1) (X := fl [wMn kc ad μ, wFo kc ad fo, wC kc (ad 1) κ, wC kc (ad 2) ρ, wHi kc ad η, wKp kc ad kp, wLu kc (ad 5) (ad 1) u1, wMo kc (ad 6) (ad 1) (ad 7) σ, wE kc (ad 7) ε, wBp kc (ad 9) (ad 1) π, wSb kc ad β, pl]) (w := wM kc am τ) (Z := []) (wnew := (fun u : US => (fl [wMn kc ad μ, wFo kc ad fo, wC kc (ad 1) κ, wC kc (ad 2) ρ, wHi kc ad η, wKp kc ad kp, wLu kc (ad 5) (ad 1) u1, wMo kc (ad 6) (ad 1) (ad 7) σ, wE kc (ad 7) ε, wBp kc (ad 9) (ad 1) π, wSb kc ad β, pl]) ++ wM kc am u)) (As := [.int (xs (nI (i + 1)).toNatClampNeg)]) (rest := [.int (f_classOf A (xs (nI (i + 1)).toNatClampNeg))]) E (by rw [List.append_nil]) G (c_X12_classOf l D kc am (xs (nI (i + 1)).toNatClampNeg) τ (fun (r : Int32) (u : US) => r = f_classOf A (xs (nI (i + 1)).toNatClampNeg) ∧ RSt A u) (q12_classOf ok T (fun _ T' => ⟨rfl, T'⟩))) gL_law_X12_classOf rfl ⟨rfl, rfl⟩ hd_X12_classOf_v ⟨rfl, rfl⟩ 0 (gM_0 _ _ _) rfl rfl hl rfl rfl dL_law_537 ⟨Nat.ble_eq_true_of_le (show cells + 0 + 0 ≤ 600000 by omega), Nat.ble_eq_true_of_le (show slots + 0 + 0 ≤ 7302250 by omega)⟩ (fun _ => by rw [List.append_nil]) (fun r2 u2 hq2 H locs G => ?_)
  obtain ⟨e2, T1⟩ := hq2
  subst e2
  have G : kG D _ s ((fl [wMn kc ad μ, wFo kc ad fo, wC kc (ad 1) κ, wC kc (ad 2) ρ, wHi kc ad η, wKp kc ad kp, wLu kc (ad 5) (ad 1) u1, wMo kc (ad 6) (ad 1) (ad 7) σ, wE kc (ad 7) ε, wBp kc (ad 9) (ad 1) π, wSb kc ad β, pl]) ++ wM kc am u2) H _ := G
  refine lv_icmp_eq (tgt := 1302) E.ex E.by dL_law_540 (by decide) (fun _ => ?_) (fun hc => absurd rfl hc)
  refine W.widen (k := cells + 132) (n := slots + 1204) (by omega) (by omega) ?_
  exact IH _ _ _ _ _ _ _ _ _ _ _ _ _ _ _ _ _ ok C1 T1 G hl
set_option maxRecDepth 100000 in
set_option maxHeartbeats 8000000 in
theorem law_lumped (E : kE p s m meth c #[Value.ref b] code 4 RL nm wsL_law ret D (tyL kc)) (hX : va_X b L xs s s.heap) (hbl : b < s.heap.size) (hi : i + 6 ≤ L) (hL : L ≤ 3072) (hc : cells + 132 ≤ 600000) (hs : slots + 1204 ≤ 7302250) (ok : okA A) (C : CSt kc A μ fo κ ρ η kp β pl) (T : RSt A τ) (G : kG D (fun q => s.heap.size ≤ q) s (fl [wMn kc ad μ, wFo kc ad fo, wC kc (ad 1) κ, wC kc (ad 2) ρ, wHi kc ad η, wKp kc ad kp, wLu kc (ad 5) (ad 1) lu, wMo kc (ad 6) (ad 1) (ad 7) σ, wE kc (ad 7) ε, wBp kc (ad 9) (ad 1) π, wSb kc ad β, pl] ++ wM kc am τ) H locs) (hl : lv_has ls 4 [(3, .int (nI i)), (2, .ref (am 0)), (1, .ref (ad 0 0)), (0, .ref b)]) (IH : LGo p l e s m below meth c b i D kc ad am (cells + 132) (slots + 1204) QQ) : W p l e room_1 s m #[Value.ref b] below meth c H locs cells slots QQ (F0 m 545 ls []) := by
  refine lv_aload_n E.ex E.by dL_law_545 rfl (lv_at hl 2 rfl) ?_
  refine lv_aload_n E.ex E.by dL_law_546 rfl (lv_at hl 3 rfl) ?_
  refine lv_iload_n E.ex E.by dL_law_547 rfl (lv_at hl 0 rfl) ?_
  refine lv_iconst (v := 1) E.ex E.by dL_law_548 (by decide) ?_
  refine lv_iadd E.ex E.by dL_law_549 ?_
  refine lv_topi (fun y549 ey549 => ?_)
  have ey549 : y549 = nI (i + 1) := ey549.trans (nI_add i 1)
  subst ey549
  refine va_sld E.ex E.by hX hbl (Nat.not_le.mpr hbl) G.2.2.1 (vp_in_nI (show i + 1 < L by omega) (by omega)) dL_law_550 ?_
  refine lv_aload_n E.ex E.by dL_law_551 rfl (lv_at hl 3 rfl) ?_
  refine lv_iload_n E.ex E.by dL_law_552 rfl (lv_at hl 0 rfl) ?_
  refine lv_iconst (v := 2) E.ex E.by dL_law_553 (by decide) ?_
  refine lv_iadd E.ex E.by dL_law_554 ?_
  refine lv_topi (fun y554 ey554 => ?_)
  have ey554 : y554 = nI (i + 2) := ey554.trans (nI_add i 2)
  subst ey554
  refine va_sld E.ex E.by hX hbl (Nat.not_le.mpr hbl) G.2.2.1 (vp_in_nI (show i + 2 < L by omega) (by omega)) dL_law_555 ?_
  refine lv_aload_n E.ex E.by dL_law_556 rfl (lv_at hl 3 rfl) ?_
  refine lv_iload_n E.ex E.by dL_law_557 rfl (lv_at hl 0 rfl) ?_
  refine lv_iconst (v := 3) E.ex E.by dL_law_558 (by decide) ?_
  refine lv_iadd E.ex E.by dL_law_559 ?_
  refine lv_topi (fun y559 ey559 => ?_)
  have ey559 : y559 = nI (i + 3) := ey559.trans (nI_add i 3)
  subst ey559
  refine va_sld E.ex E.by hX hbl (Nat.not_le.mpr hbl) G.2.2.1 (vp_in_nI (show i + 3 < L by omega) (by omega)) dL_law_560 ?_
  refine k_cVl (n := 3) (X := []) (w := fl [wMn kc ad μ, wFo kc ad fo, wC kc (ad 1) κ, wC kc (ad 2) ρ, wHi kc ad η, wKp kc ad kp, wLu kc (ad 5) (ad 1) lu, wMo kc (ad 6) (ad 1) (ad 7) σ, wE kc (ad 7) ε, wBp kc (ad 9) (ad 1) π, wSb kc ad β, pl]) (Z := wM kc am τ) (wnew := (fun u : US × US => (fl [wMn kc ad μ, wFo kc ad fo, wC kc (ad 1) κ, wC kc (ad 2) ρ, wHi kc ad η, wKp kc ad kp, wLu kc (ad 5) (ad 1) u.1, wMo kc (ad 6) (ad 1) (ad 7) u.2, wE kc (ad 7) ε, wBp kc (ad 9) (ad 1) π, wSb kc ad β, pl]) ++ wM kc am τ)) (As := [.int (xs (nI (i + 1)).toNatClampNeg), .int (xs (nI (i + 2)).toNatClampNeg), .int (xs (nI (i + 3)).toNatClampNeg)]) (rest := []) E rfl G (c_X11_lumped l D kc ad (xs (nI (i + 1)).toNatClampNeg) (xs (nI (i + 2)).toNatClampNeg) (xs (nI (i + 3)).toNatClampNeg) μ fo κ ρ η kp lu σ ε π β pl (fun (r : Int64) (_ : US × US) => r = f_lumped A (xs (nI (i + 1)).toNatClampNeg) (xs (nI (i + 2)).toNatClampNeg) (xs (nI (i + 3)).toNatClampNeg)) (q11_lumped ok C (fun _ => rfl))) gL_law_X11_lumped rfl ⟨rfl, rfl⟩ hd_X11_lumped_v ⟨rfl, rfl⟩ 0 rfl rfl rfl hl rfl rfl dL_law_561 ⟨Nat.ble_eq_true_of_le (show cells + 0 ≤ 600000 by omega), Nat.ble_eq_true_of_le (show slots + 0 ≤ 7302250 by omega)⟩ (fun _ => rfl) (fun r1 u1 hq1 H locs G => ?_)
  have e1 := hq1
  subst e1
  have C1 := C
  have G : kG D _ s ((fl [wMn kc ad μ, wFo kc ad fo, wC kc (ad 1) κ, wC kc (ad 2) ρ, wHi kc ad η, wKp kc ad kp, wLu kc (ad 5) (ad 1) u1.1, wMo kc (ad 6) (ad 1) (ad 7) u1.2, wE kc (ad 7) ε, wBp kc (ad 9) (ad 1) π, wSb kc ad β, pl]) ++ wM kc am τ) H _ := G
  refine lv_aload_n E.ex E.by dL_law_564 rfl (lv_at hl 1 rfl) ?_
  refine lv_aload_n E.ex E.by dL_law_565 rfl (lv_at hl 3 rfl) ?_
  refine lv_iload_n E.ex E.by dL_law_566 rfl (lv_at hl 0 rfl) ?_
  refine lv_iconst (v := 1) E.ex E.by dL_law_567 (by decide) ?_
  refine lv_iadd E.ex E.by dL_law_568 ?_
  refine lv_topi (fun y568 ey568 => ?_)
  have ey568 : y568 = nI (i + 1) := ey568.trans (nI_add i 1)
  subst ey568
  refine va_sld E.ex E.by hX hbl (Nat.not_le.mpr hbl) G.2.2.1 (vp_in_nI (show i + 1 < L by omega) (by omega)) dL_law_569 ?_
  refine lv_aload_n E.ex E.by dL_law_570 rfl (lv_at hl 3 rfl) ?_
  refine lv_iload_n E.ex E.by dL_law_571 rfl (lv_at hl 0 rfl) ?_
  refine lv_iconst (v := 2) E.ex E.by dL_law_572 (by decide) ?_
  refine lv_iadd E.ex E.by dL_law_573 ?_
  refine lv_topi (fun y573 ey573 => ?_)
  have ey573 : y573 = nI (i + 2) := ey573.trans (nI_add i 2)
  subst ey573
  refine va_sld E.ex E.by hX hbl (Nat.not_le.mpr hbl) G.2.2.1 (vp_in_nI (show i + 2 < L by omega) (by omega)) dL_law_574 ?_
  refine lv_aload_n E.ex E.by dL_law_575 rfl (lv_at hl 3 rfl) ?_
  refine lv_iload_n E.ex E.by dL_law_576 rfl (lv_at hl 0 rfl) ?_
  refine lv_iconst (v := 3) E.ex E.by dL_law_577 (by decide) ?_
  refine lv_iadd E.ex E.by dL_law_578 ?_
  refine lv_topi (fun y578 ey578 => ?_)
  have ey578 : y578 = nI (i + 3) := ey578.trans (nI_add i 3)
  subst ey578
  refine va_sld E.ex E.by hX hbl (Nat.not_le.mpr hbl) G.2.2.1 (vp_in_nI (show i + 3 < L by omega) (by omega)) dL_law_579 ?_
  refine k_cVl (n := 3) (X := fl [wMn kc ad μ, wFo kc ad fo, wC kc (ad 1) κ, wC kc (ad 2) ρ, wHi kc ad η, wKp kc ad kp, wLu kc (ad 5) (ad 1) u1.1, wMo kc (ad 6) (ad 1) (ad 7) u1.2, wE kc (ad 7) ε, wBp kc (ad 9) (ad 1) π, wSb kc ad β, pl]) (w := wM kc am τ) (Z := []) (wnew := (fun u : US => (fl [wMn kc ad μ, wFo kc ad fo, wC kc (ad 1) κ, wC kc (ad 2) ρ, wHi kc ad η, wKp kc ad kp, wLu kc (ad 5) (ad 1) u1.1, wMo kc (ad 6) (ad 1) (ad 7) u1.2, wE kc (ad 7) ε, wBp kc (ad 9) (ad 1) π, wSb kc ad β, pl]) ++ wM kc am u)) (As := [.int (xs (nI (i + 1)).toNatClampNeg), .int (xs (nI (i + 2)).toNatClampNeg), .int (xs (nI (i + 3)).toNatClampNeg)]) (rest := [.long (f_lumped A (xs (nI (i + 1)).toNatClampNeg) (xs (nI (i + 2)).toNatClampNeg) (xs (nI (i + 3)).toNatClampNeg))]) E (by rw [List.append_nil]) G (c_X12_lumped l D kc am (xs (nI (i + 1)).toNatClampNeg) (xs (nI (i + 2)).toNatClampNeg) (xs (nI (i + 3)).toNatClampNeg) τ (fun (r : Int64) (u : US) => r = f_lumped A (xs (nI (i + 1)).toNatClampNeg) (xs (nI (i + 2)).toNatClampNeg) (xs (nI (i + 3)).toNatClampNeg) ∧ RSt A u) (q12_lumped ok T (fun _ T' => ⟨rfl, T'⟩))) gL_law_X12_lumped rfl ⟨rfl, rfl⟩ hd_X12_lumped_v ⟨rfl, rfl⟩ 0 (gM_0 _ _ _) rfl rfl hl rfl rfl dL_law_580 ⟨Nat.ble_eq_true_of_le (show cells + 0 + 0 ≤ 600000 by omega), Nat.ble_eq_true_of_le (show slots + 0 + 0 ≤ 7302250 by omega)⟩ (fun _ => by rw [List.append_nil]) (fun r2 u2 hq2 H locs G => ?_)
  obtain ⟨e2, T1⟩ := hq2
  subst e2
  have G : kG D _ s ((fl [wMn kc ad μ, wFo kc ad fo, wC kc (ad 1) κ, wC kc (ad 2) ρ, wHi kc ad η, wKp kc ad kp, wLu kc (ad 5) (ad 1) u1.1, wMo kc (ad 6) (ad 1) (ad 7) u1.2, wE kc (ad 7) ε, wBp kc (ad 9) (ad 1) π, wSb kc ad β, pl]) ++ wM kc am u2) H _ := G
  refine W.lcmp E.ex E.by dL_law_583 ?_
  refine lv_if_eq (tgt := 1302) E.ex E.by dL_law_584 (by decide) (fun _ => ?_) (fun hc => absurd (lg_same _) hc)
  refine W.widen (k := cells + 132) (n := slots + 1204) (by omega) (by omega) ?_
  exact IH _ _ _ _ _ _ _ _ _ _ _ _ _ _ _ _ _ ok C1 T1 G hl
set_option maxRecDepth 100000 in
set_option maxHeartbeats 8000000 in
theorem law_feed (E : kE p s m meth c #[Value.ref b] code 4 RL nm wsL_law ret D (tyL kc)) (hX : va_X b L xs s s.heap) (hbl : b < s.heap.size) (hi : i + 6 ≤ L) (hL : L ≤ 3072) (hc : cells + 132 ≤ 600000) (hs : slots + 1204 ≤ 7302250) (ok : okA A) (C : CSt kc A μ fo κ ρ η kp β pl) (T : RSt A τ) (G : kG D (fun q => s.heap.size ≤ q) s (fl [wMn kc ad μ, wFo kc ad fo, wC kc (ad 1) κ, wC kc (ad 2) ρ, wHi kc ad η, wKp kc ad kp, wLu kc (ad 5) (ad 1) lu, wMo kc (ad 6) (ad 1) (ad 7) σ, wE kc (ad 7) ε, wBp kc (ad 9) (ad 1) π, wSb kc ad β, pl] ++ wM kc am τ) H locs) (hl : lv_has ls 4 [(3, .int (nI i)), (2, .ref (am 0)), (1, .ref (ad 0 0)), (0, .ref b)]) (IH : LGo p l e s m below meth c b i D kc ad am (cells + 132) (slots + 1204) QQ) : W p l e room_1 s m #[Value.ref b] below meth c H locs cells slots QQ (F0 m 589 ls []) := by
  refine lv_aload_n E.ex E.by dL_law_589 rfl (lv_at hl 2 rfl) ?_
  refine lv_aload_n E.ex E.by dL_law_590 rfl (lv_at hl 3 rfl) ?_
  refine lv_iload_n E.ex E.by dL_law_591 rfl (lv_at hl 0 rfl) ?_
  refine lv_iconst (v := 1) E.ex E.by dL_law_592 (by decide) ?_
  refine lv_iadd E.ex E.by dL_law_593 ?_
  refine lv_topi (fun y593 ey593 => ?_)
  have ey593 : y593 = nI (i + 1) := ey593.trans (nI_add i 1)
  subst ey593
  refine va_sld E.ex E.by hX hbl (Nat.not_le.mpr hbl) G.2.2.1 (vp_in_nI (show i + 1 < L by omega) (by omega)) dL_law_594 ?_
  refine k_cVi (n := 1) (X := []) (w := fl [wMn kc ad μ, wFo kc ad fo, wC kc (ad 1) κ, wC kc (ad 2) ρ, wHi kc ad η, wKp kc ad kp, wLu kc (ad 5) (ad 1) lu, wMo kc (ad 6) (ad 1) (ad 7) σ, wE kc (ad 7) ε, wBp kc (ad 9) (ad 1) π, wSb kc ad β, pl]) (Z := wM kc am τ) (wnew := (fun u : SBT => (fl [wMn kc ad μ, wFo kc ad fo, wC kc (ad 1) κ, wC kc (ad 2) ρ, wHi kc ad η, wKp kc ad kp, wLu kc (ad 5) (ad 1) lu, wMo kc (ad 6) (ad 1) (ad 7) σ, wE kc (ad 7) ε, wBp kc (ad 9) (ad 1) π, wSb kc ad u, pl]) ++ wM kc am τ)) (As := [.int (xs (nI (i + 1)).toNatClampNeg)]) (rest := []) E rfl G (c_X11_feed l D kc ad (xs (nI (i + 1)).toNatClampNeg) μ fo κ ρ η kp lu σ ε π β pl (fun (r : Int32) (u : SBT) => r = f_feed A (xs (nI (i + 1)).toNatClampNeg) ∧ CSt kc (g_feed A (xs (nI (i + 1)).toNatClampNeg)) μ fo κ ρ η kp u pl) (q11_feed ok C (fun _ C' => ⟨rfl, C'⟩))) gL_law_X11_feed rfl ⟨rfl, rfl⟩ hd_X11_feed_v ⟨rfl, rfl⟩ 0 rfl rfl rfl hl rfl rfl dL_law_595 ⟨Nat.ble_eq_true_of_le (show cells + 1 ≤ 600000 by omega), Nat.ble_eq_true_of_le (show slots + 102 ≤ 7302250 by omega)⟩ (fun _ => rfl) (fun r1 u1 hq1 H locs G => ?_)
  obtain ⟨e1, C1⟩ := hq1
  subst e1
  have G : kG D _ s ((fl [wMn kc ad μ, wFo kc ad fo, wC kc (ad 1) κ, wC kc (ad 2) ρ, wHi kc ad η, wKp kc ad kp, wLu kc (ad 5) (ad 1) lu, wMo kc (ad 6) (ad 1) (ad 7) σ, wE kc (ad 7) ε, wBp kc (ad 9) (ad 1) π, wSb kc ad u1, pl]) ++ wM kc am τ) H _ := G
  refine lv_aload_n E.ex E.by dL_law_598 rfl (lv_at hl 1 rfl) ?_
  refine lv_aload_n E.ex E.by dL_law_599 rfl (lv_at hl 3 rfl) ?_
  refine lv_iload_n E.ex E.by dL_law_600 rfl (lv_at hl 0 rfl) ?_
  refine lv_iconst (v := 1) E.ex E.by dL_law_601 (by decide) ?_
  refine lv_iadd E.ex E.by dL_law_602 ?_
  refine lv_topi (fun y602 ey602 => ?_)
  have ey602 : y602 = nI (i + 1) := ey602.trans (nI_add i 1)
  subst ey602
  refine va_sld E.ex E.by hX hbl (Nat.not_le.mpr hbl) G.2.2.1 (vp_in_nI (show i + 1 < L by omega) (by omega)) dL_law_603 ?_
  refine k_cVi (n := 1) (X := fl [wMn kc ad μ, wFo kc ad fo, wC kc (ad 1) κ, wC kc (ad 2) ρ, wHi kc ad η, wKp kc ad kp, wLu kc (ad 5) (ad 1) lu, wMo kc (ad 6) (ad 1) (ad 7) σ, wE kc (ad 7) ε, wBp kc (ad 9) (ad 1) π, wSb kc ad u1, pl]) (w := wM kc am τ) (Z := []) (wnew := (fun u : US => (fl [wMn kc ad μ, wFo kc ad fo, wC kc (ad 1) κ, wC kc (ad 2) ρ, wHi kc ad η, wKp kc ad kp, wLu kc (ad 5) (ad 1) lu, wMo kc (ad 6) (ad 1) (ad 7) σ, wE kc (ad 7) ε, wBp kc (ad 9) (ad 1) π, wSb kc ad u1, pl]) ++ wM kc am u)) (As := [.int (xs (nI (i + 1)).toNatClampNeg)]) (rest := [.int (f_feed A (xs (nI (i + 1)).toNatClampNeg))]) E (by rw [List.append_nil]) G (c_X12_feed l D kc am (xs (nI (i + 1)).toNatClampNeg) τ (fun (r : Int32) (u : US) => r = f_feed A (xs (nI (i + 1)).toNatClampNeg) ∧ RSt (g_feed A (xs (nI (i + 1)).toNatClampNeg)) u) (q12_feed ok T (fun _ T' => ⟨rfl, T'⟩))) gL_law_X12_feed rfl ⟨rfl, rfl⟩ hd_X12_feed_v ⟨rfl, rfl⟩ 0 (gM_0 _ _ _) rfl rfl hl rfl rfl dL_law_604 ⟨Nat.ble_eq_true_of_le (show cells + 1 + 0 ≤ 600000 by omega), Nat.ble_eq_true_of_le (show slots + 102 + 0 ≤ 7302250 by omega)⟩ (fun _ => by rw [List.append_nil]) (fun r2 u2 hq2 H locs G => ?_)
  obtain ⟨e2, T1⟩ := hq2
  subst e2
  have G : kG D _ s ((fl [wMn kc ad μ, wFo kc ad fo, wC kc (ad 1) κ, wC kc (ad 2) ρ, wHi kc ad η, wKp kc ad kp, wLu kc (ad 5) (ad 1) lu, wMo kc (ad 6) (ad 1) (ad 7) σ, wE kc (ad 7) ε, wBp kc (ad 9) (ad 1) π, wSb kc ad u1, pl]) ++ wM kc am u2) H _ := G
  refine lv_icmp_eq (tgt := 1302) E.ex E.by dL_law_607 (by decide) (fun _ => ?_) (fun hc => absurd rfl hc)
  refine W.widen (k := cells + 132) (n := slots + 1204) (by omega) (by omega) ?_
  exact IH _ _ _ _ _ _ _ _ _ _ _ _ _ _ _ _ _ (ok_feed ok) C1 T1 G hl
set_option maxRecDepth 100000 in
set_option maxHeartbeats 8000000 in
theorem law_addFormula (E : kE p s m meth c #[Value.ref b] code 4 RL nm wsL_law ret D (tyL kc)) (hX : va_X b L xs s s.heap) (hbl : b < s.heap.size) (hi : i + 6 ≤ L) (hL : L ≤ 3072) (hc : cells + 132 ≤ 600000) (hs : slots + 1204 ≤ 7302250) (ok : okA A) (C : CSt kc A μ fo κ ρ η kp β pl) (T : RSt A τ) (G : kG D (fun q => s.heap.size ≤ q) s (fl [wMn kc ad μ, wFo kc ad fo, wC kc (ad 1) κ, wC kc (ad 2) ρ, wHi kc ad η, wKp kc ad kp, wLu kc (ad 5) (ad 1) lu, wMo kc (ad 6) (ad 1) (ad 7) σ, wE kc (ad 7) ε, wBp kc (ad 9) (ad 1) π, wSb kc ad β, pl] ++ wM kc am τ) H locs) (hl : lv_has ls 4 [(3, .int (nI i)), (2, .ref (am 0)), (1, .ref (ad 0 0)), (0, .ref b)]) (IH : LGo p l e s m below meth c b i D kc ad am (cells + 132) (slots + 1204) QQ) : W p l e room_1 s m #[Value.ref b] below meth c H locs cells slots QQ (F0 m 612 ls []) := by
  refine lv_aload_n E.ex E.by dL_law_612 rfl (lv_at hl 2 rfl) ?_
  refine k_cVi (n := 0) (X := []) (w := fl [wMn kc ad μ, wFo kc ad fo, wC kc (ad 1) κ, wC kc (ad 2) ρ, wHi kc ad η, wKp kc ad kp, wLu kc (ad 5) (ad 1) lu, wMo kc (ad 6) (ad 1) (ad 7) σ, wE kc (ad 7) ε, wBp kc (ad 9) (ad 1) π, wSb kc ad β, pl]) (Z := wM kc am τ) (wnew := (fun u : US × (Nat → Option Nat) × SBT × va_W => (fl [wMn kc ad u.1, wFo kc ad u.2.1, wC kc (ad 1) κ, wC kc (ad 2) ρ, wHi kc ad η, wKp kc ad kp, wLu kc (ad 5) (ad 1) lu, wMo kc (ad 6) (ad 1) (ad 7) σ, wE kc (ad 7) ε, wBp kc (ad 9) (ad 1) π, wSb kc ad u.2.2.1, u.2.2.2]) ++ wM kc am τ)) (As := []) (rest := []) E rfl G (c_X11_addFormula l D kc ad  μ fo κ ρ η kp lu σ ε π β pl (fun (r : Int32) (u : US × (Nat → Option Nat) × SBT × va_W) => r = f_addF A ∧ CSt kc (g_addF A) u.1 u.2.1 κ ρ η kp u.2.2.1 u.2.2.2) (q11_addF ok C (fun _ _ _ _ C' => ⟨rfl, C'⟩))) gL_law_X11_addFormula rfl ⟨rfl, rfl⟩ hd_X11_addFormula_v ⟨rfl, rfl⟩ 0 rfl rfl rfl hl rfl rfl dL_law_613 ⟨Nat.ble_eq_true_of_le (show cells + 131 ≤ 600000 by omega), Nat.ble_eq_true_of_le (show slots + 854 ≤ 7302250 by omega)⟩ (fun _ => rfl) (fun r1 u1 hq1 H locs G => ?_)
  obtain ⟨e1, C1⟩ := hq1
  subst e1
  have G : kG D _ s ((fl [wMn kc ad u1.1, wFo kc ad u1.2.1, wC kc (ad 1) κ, wC kc (ad 2) ρ, wHi kc ad η, wKp kc ad kp, wLu kc (ad 5) (ad 1) lu, wMo kc (ad 6) (ad 1) (ad 7) σ, wE kc (ad 7) ε, wBp kc (ad 9) (ad 1) π, wSb kc ad u1.2.2.1, u1.2.2.2]) ++ wM kc am τ) H _ := G
  refine lv_aload_n E.ex E.by dL_law_616 rfl (lv_at hl 1 rfl) ?_
  refine k_cVi (n := 0) (X := fl [wMn kc ad u1.1, wFo kc ad u1.2.1, wC kc (ad 1) κ, wC kc (ad 2) ρ, wHi kc ad η, wKp kc ad kp, wLu kc (ad 5) (ad 1) lu, wMo kc (ad 6) (ad 1) (ad 7) σ, wE kc (ad 7) ε, wBp kc (ad 9) (ad 1) π, wSb kc ad u1.2.2.1, u1.2.2.2]) (w := wM kc am τ) (Z := []) (wnew := (fun u : US => (fl [wMn kc ad u1.1, wFo kc ad u1.2.1, wC kc (ad 1) κ, wC kc (ad 2) ρ, wHi kc ad η, wKp kc ad kp, wLu kc (ad 5) (ad 1) lu, wMo kc (ad 6) (ad 1) (ad 7) σ, wE kc (ad 7) ε, wBp kc (ad 9) (ad 1) π, wSb kc ad u1.2.2.1, u1.2.2.2]) ++ wM kc am u)) (As := []) (rest := [.int (f_addF A)]) E (by rw [List.append_nil]) G (c_X12_addFormula l D kc am  τ (fun (r : Int32) (u : US) => r = f_addF A ∧ RSt (g_addF A) u) (q12_addF ok T (fun _ T' => ⟨rfl, T'⟩))) gL_law_X12_addFormula rfl ⟨rfl, rfl⟩ hd_X12_addFormula_v ⟨rfl, rfl⟩ 0 (gM_0 _ _ _) rfl rfl hl rfl rfl dL_law_617 ⟨Nat.ble_eq_true_of_le (show cells + 131 + 1 ≤ 600000 by omega), Nat.ble_eq_true_of_le (show slots + 854 + 350 ≤ 7302250 by omega)⟩ (fun _ => by rw [List.append_nil]) (fun r2 u2 hq2 H locs G => ?_)
  obtain ⟨e2, T1⟩ := hq2
  subst e2
  have G : kG D _ s ((fl [wMn kc ad u1.1, wFo kc ad u1.2.1, wC kc (ad 1) κ, wC kc (ad 2) ρ, wHi kc ad η, wKp kc ad kp, wLu kc (ad 5) (ad 1) lu, wMo kc (ad 6) (ad 1) (ad 7) σ, wE kc (ad 7) ε, wBp kc (ad 9) (ad 1) π, wSb kc ad u1.2.2.1, u1.2.2.2]) ++ wM kc am u2) H _ := G
  refine lv_icmp_eq (tgt := 1302) E.ex E.by dL_law_620 (by decide) (fun _ => ?_) (fun hc => absurd rfl hc)
  refine W.widen (k := cells + 132) (n := slots + 1204) (by omega) (by omega) ?_
  exact IH _ _ _ _ _ _ _ _ _ _ _ _ _ _ _ _ _ (ok_addF ok) C1 T1 G hl
set_option maxRecDepth 100000 in
set_option maxHeartbeats 8000000 in
theorem law_formulaCount (E : kE p s m meth c #[Value.ref b] code 4 RL nm wsL_law ret D (tyL kc)) (hX : va_X b L xs s s.heap) (hbl : b < s.heap.size) (hi : i + 6 ≤ L) (hL : L ≤ 3072) (hc : cells + 132 ≤ 600000) (hs : slots + 1204 ≤ 7302250) (ok : okA A) (C : CSt kc A μ fo κ ρ η kp β pl) (T : RSt A τ) (G : kG D (fun q => s.heap.size ≤ q) s (fl [wMn kc ad μ, wFo kc ad fo, wC kc (ad 1) κ, wC kc (ad 2) ρ, wHi kc ad η, wKp kc ad kp, wLu kc (ad 5) (ad 1) lu, wMo kc (ad 6) (ad 1) (ad 7) σ, wE kc (ad 7) ε, wBp kc (ad 9) (ad 1) π, wSb kc ad β, pl] ++ wM kc am τ) H locs) (hl : lv_has ls 4 [(3, .int (nI i)), (2, .ref (am 0)), (1, .ref (ad 0 0)), (0, .ref b)]) (IH : LGo p l e s m below meth c b i D kc ad am (cells + 132) (slots + 1204) QQ) : W p l e room_1 s m #[Value.ref b] below meth c H locs cells slots QQ (F0 m 625 ls []) := by
  refine lv_aload_n E.ex E.by dL_law_625 rfl (lv_at hl 2 rfl) ?_
  refine k_cVi (n := 0) (X := []) (w := fl [wMn kc ad μ, wFo kc ad fo, wC kc (ad 1) κ, wC kc (ad 2) ρ, wHi kc ad η, wKp kc ad kp, wLu kc (ad 5) (ad 1) lu, wMo kc (ad 6) (ad 1) (ad 7) σ, wE kc (ad 7) ε, wBp kc (ad 9) (ad 1) π, wSb kc ad β, pl]) (Z := wM kc am τ) (wnew := (fun _ : Unit => (fl [wMn kc ad μ, wFo kc ad fo, wC kc (ad 1) κ, wC kc (ad 2) ρ, wHi kc ad η, wKp kc ad kp, wLu kc (ad 5) (ad 1) lu, wMo kc (ad 6) (ad 1) (ad 7) σ, wE kc (ad 7) ε, wBp kc (ad 9) (ad 1) π, wSb kc ad β, pl]) ++ wM kc am τ)) (As := []) (rest := []) E rfl G (c_X11_formulaCount l D kc ad  μ fo κ ρ η kp lu σ ε π β pl (fun r : Int32 => r = f_formulaCount A) (q11_formulaCount C rfl)) gL_law_X11_formulaCount rfl ⟨rfl, rfl⟩ hd_X11_formulaCount_v ⟨rfl, rfl⟩ 0 rfl rfl rfl hl rfl rfl dL_law_626 ⟨Nat.ble_eq_true_of_le (show cells + 0 ≤ 600000 by omega), Nat.ble_eq_true_of_le (show slots + 0 ≤ 7302250 by omega)⟩ (fun _ => rfl) (fun r1 u1 hq1 H locs G => ?_)
  have e1 := hq1
  subst e1
  have C1 := C
  have G : kG D _ s ((fl [wMn kc ad μ, wFo kc ad fo, wC kc (ad 1) κ, wC kc (ad 2) ρ, wHi kc ad η, wKp kc ad kp, wLu kc (ad 5) (ad 1) lu, wMo kc (ad 6) (ad 1) (ad 7) σ, wE kc (ad 7) ε, wBp kc (ad 9) (ad 1) π, wSb kc ad β, pl]) ++ wM kc am τ) H _ := G
  refine lv_aload_n E.ex E.by dL_law_629 rfl (lv_at hl 1 rfl) ?_
  refine k_cVi (n := 0) (X := fl [wMn kc ad μ, wFo kc ad fo, wC kc (ad 1) κ, wC kc (ad 2) ρ, wHi kc ad η, wKp kc ad kp, wLu kc (ad 5) (ad 1) lu, wMo kc (ad 6) (ad 1) (ad 7) σ, wE kc (ad 7) ε, wBp kc (ad 9) (ad 1) π, wSb kc ad β, pl]) (w := wM kc am τ) (Z := []) (wnew := (fun _ : Unit => (fl [wMn kc ad μ, wFo kc ad fo, wC kc (ad 1) κ, wC kc (ad 2) ρ, wHi kc ad η, wKp kc ad kp, wLu kc (ad 5) (ad 1) lu, wMo kc (ad 6) (ad 1) (ad 7) σ, wE kc (ad 7) ε, wBp kc (ad 9) (ad 1) π, wSb kc ad β, pl]) ++ wM kc am τ)) (As := []) (rest := [.int (f_formulaCount A)]) E (by rw [List.append_nil]) G (c_X12_formulaCount l D kc am  τ (fun r : Int32 => r = f_formulaCount A) (q12_formulaCount T rfl)) gL_law_X12_formulaCount rfl ⟨rfl, rfl⟩ hd_X12_formulaCount_v ⟨rfl, rfl⟩ 0 (gM_0 _ _ _) rfl rfl hl rfl rfl dL_law_630 ⟨Nat.ble_eq_true_of_le (show cells + 0 + 0 ≤ 600000 by omega), Nat.ble_eq_true_of_le (show slots + 0 + 0 ≤ 7302250 by omega)⟩ (fun _ => by rw [List.append_nil]) (fun r2 u2 hq2 H locs G => ?_)
  have e2 := hq2
  subst e2
  have T1 := T
  have G : kG D _ s ((fl [wMn kc ad μ, wFo kc ad fo, wC kc (ad 1) κ, wC kc (ad 2) ρ, wHi kc ad η, wKp kc ad kp, wLu kc (ad 5) (ad 1) lu, wMo kc (ad 6) (ad 1) (ad 7) σ, wE kc (ad 7) ε, wBp kc (ad 9) (ad 1) π, wSb kc ad β, pl]) ++ wM kc am τ) H _ := G
  refine lv_icmp_eq (tgt := 1302) E.ex E.by dL_law_633 (by decide) (fun _ => ?_) (fun hc => absurd rfl hc)
  refine W.widen (k := cells + 132) (n := slots + 1204) (by omega) (by omega) ?_
  exact IH _ _ _ _ _ _ _ _ _ _ _ _ _ _ _ _ _ ok C1 T1 G hl
set_option maxRecDepth 100000 in
set_option maxHeartbeats 8000000 in
theorem law_clearFormulas (E : kE p s m meth c #[Value.ref b] code 4 RL nm wsL_law ret D (tyL kc)) (hX : va_X b L xs s s.heap) (hbl : b < s.heap.size) (hi : i + 6 ≤ L) (hL : L ≤ 3072) (hc : cells + 132 ≤ 600000) (hs : slots + 1204 ≤ 7302250) (ok : okA A) (C : CSt kc A μ fo κ ρ η kp β pl) (T : RSt A τ) (G : kG D (fun q => s.heap.size ≤ q) s (fl [wMn kc ad μ, wFo kc ad fo, wC kc (ad 1) κ, wC kc (ad 2) ρ, wHi kc ad η, wKp kc ad kp, wLu kc (ad 5) (ad 1) lu, wMo kc (ad 6) (ad 1) (ad 7) σ, wE kc (ad 7) ε, wBp kc (ad 9) (ad 1) π, wSb kc ad β, pl] ++ wM kc am τ) H locs) (hl : lv_has ls 4 [(3, .int (nI i)), (2, .ref (am 0)), (1, .ref (ad 0 0)), (0, .ref b)]) (IH : LGo p l e s m below meth c b i D kc ad am (cells + 132) (slots + 1204) QQ) : W p l e room_1 s m #[Value.ref b] below meth c H locs cells slots QQ (F0 m 638 ls []) := by
  refine lv_aload_n E.ex E.by dL_law_638 rfl (lv_at hl 2 rfl) ?_
  refine k_cVi (n := 0) (X := []) (w := fl [wMn kc ad μ, wFo kc ad fo, wC kc (ad 1) κ, wC kc (ad 2) ρ, wHi kc ad η, wKp kc ad kp, wLu kc (ad 5) (ad 1) lu, wMo kc (ad 6) (ad 1) (ad 7) σ, wE kc (ad 7) ε, wBp kc (ad 9) (ad 1) π, wSb kc ad β, pl]) (Z := wM kc am τ) (wnew := (fun u : US × (Nat → Option Nat) => (fl [wMn kc ad u.1, wFo kc ad u.2, wC kc (ad 1) κ, wC kc (ad 2) ρ, wHi kc ad η, wKp kc ad kp, wLu kc (ad 5) (ad 1) lu, wMo kc (ad 6) (ad 1) (ad 7) σ, wE kc (ad 7) ε, wBp kc (ad 9) (ad 1) π, wSb kc ad β, pl]) ++ wM kc am τ)) (As := []) (rest := []) E rfl G (c_X11_clearFormulas l D kc ad  μ fo κ ρ η kp lu σ ε π β pl (fun (r : Int32) (u : US × (Nat → Option Nat)) => r = f_clear A ∧ CSt kc (g_clear A) u.1 u.2 κ ρ η kp β pl) (q11_clear C (fun _ _ C' => ⟨rfl, C'⟩))) gL_law_X11_clearFormulas rfl ⟨rfl, rfl⟩ hd_X11_clearFormulas_v ⟨rfl, rfl⟩ 0 rfl rfl rfl hl rfl rfl dL_law_639 ⟨Nat.ble_eq_true_of_le (show cells + 0 ≤ 600000 by omega), Nat.ble_eq_true_of_le (show slots + 0 ≤ 7302250 by omega)⟩ (fun _ => rfl) (fun r1 u1 hq1 H locs G => ?_)
  obtain ⟨e1, C1⟩ := hq1
  subst e1
  have G : kG D _ s ((fl [wMn kc ad u1.1, wFo kc ad u1.2, wC kc (ad 1) κ, wC kc (ad 2) ρ, wHi kc ad η, wKp kc ad kp, wLu kc (ad 5) (ad 1) lu, wMo kc (ad 6) (ad 1) (ad 7) σ, wE kc (ad 7) ε, wBp kc (ad 9) (ad 1) π, wSb kc ad β, pl]) ++ wM kc am τ) H _ := G
  refine lv_aload_n E.ex E.by dL_law_642 rfl (lv_at hl 1 rfl) ?_
  refine k_cVi (n := 0) (X := fl [wMn kc ad u1.1, wFo kc ad u1.2, wC kc (ad 1) κ, wC kc (ad 2) ρ, wHi kc ad η, wKp kc ad kp, wLu kc (ad 5) (ad 1) lu, wMo kc (ad 6) (ad 1) (ad 7) σ, wE kc (ad 7) ε, wBp kc (ad 9) (ad 1) π, wSb kc ad β, pl]) (w := wM kc am τ) (Z := []) (wnew := (fun u : US => (fl [wMn kc ad u1.1, wFo kc ad u1.2, wC kc (ad 1) κ, wC kc (ad 2) ρ, wHi kc ad η, wKp kc ad kp, wLu kc (ad 5) (ad 1) lu, wMo kc (ad 6) (ad 1) (ad 7) σ, wE kc (ad 7) ε, wBp kc (ad 9) (ad 1) π, wSb kc ad β, pl]) ++ wM kc am u)) (As := []) (rest := [.int (f_clear A)]) E (by rw [List.append_nil]) G (c_X12_clearFormulas l D kc am  τ (fun (r : Int32) (u : US) => r = f_clear A ∧ RSt (g_clear A) u) (q12_clear T (fun _ T' => ⟨rfl, T'⟩))) gL_law_X12_clearFormulas rfl ⟨rfl, rfl⟩ hd_X12_clearFormulas_v ⟨rfl, rfl⟩ 0 (gM_0 _ _ _) rfl rfl hl rfl rfl dL_law_643 ⟨Nat.ble_eq_true_of_le (show cells + 0 + 0 ≤ 600000 by omega), Nat.ble_eq_true_of_le (show slots + 0 + 0 ≤ 7302250 by omega)⟩ (fun _ => by rw [List.append_nil]) (fun r2 u2 hq2 H locs G => ?_)
  obtain ⟨e2, T1⟩ := hq2
  subst e2
  have G : kG D _ s ((fl [wMn kc ad u1.1, wFo kc ad u1.2, wC kc (ad 1) κ, wC kc (ad 2) ρ, wHi kc ad η, wKp kc ad kp, wLu kc (ad 5) (ad 1) lu, wMo kc (ad 6) (ad 1) (ad 7) σ, wE kc (ad 7) ε, wBp kc (ad 9) (ad 1) π, wSb kc ad β, pl]) ++ wM kc am u2) H _ := G
  refine lv_icmp_eq (tgt := 1302) E.ex E.by dL_law_646 (by decide) (fun _ => ?_) (fun hc => absurd rfl hc)
  refine W.widen (k := cells + 132) (n := slots + 1204) (by omega) (by omega) ?_
  exact IH _ _ _ _ _ _ _ _ _ _ _ _ _ _ _ _ _ (ok_clear ok) C1 T1 G hl
set_option maxRecDepth 100000 in
set_option maxHeartbeats 8000000 in
theorem law_letter (E : kE p s m meth c #[Value.ref b] code 4 RL nm wsL_law ret D (tyL kc)) (hX : va_X b L xs s s.heap) (hbl : b < s.heap.size) (hi : i + 6 ≤ L) (hL : L ≤ 3072) (hc : cells + 132 ≤ 600000) (hs : slots + 1204 ≤ 7302250) (ok : okA A) (C : CSt kc A μ fo κ ρ η kp β pl) (T : RSt A τ) (G : kG D (fun q => s.heap.size ≤ q) s (fl [wMn kc ad μ, wFo kc ad fo, wC kc (ad 1) κ, wC kc (ad 2) ρ, wHi kc ad η, wKp kc ad kp, wLu kc (ad 5) (ad 1) lu, wMo kc (ad 6) (ad 1) (ad 7) σ, wE kc (ad 7) ε, wBp kc (ad 9) (ad 1) π, wSb kc ad β, pl] ++ wM kc am τ) H locs) (hl : lv_has ls 4 [(3, .int (nI i)), (2, .ref (am 0)), (1, .ref (ad 0 0)), (0, .ref b)]) (IH : LGo p l e s m below meth c b i D kc ad am (cells + 132) (slots + 1204) QQ) : W p l e room_1 s m #[Value.ref b] below meth c H locs cells slots QQ (F0 m 651 ls []) := by
  refine lv_aload_n E.ex E.by dL_law_651 rfl (lv_at hl 2 rfl) ?_
  refine lv_aload_n E.ex E.by dL_law_652 rfl (lv_at hl 3 rfl) ?_
  refine lv_iload_n E.ex E.by dL_law_653 rfl (lv_at hl 0 rfl) ?_
  refine lv_iconst (v := 1) E.ex E.by dL_law_654 (by decide) ?_
  refine lv_iadd E.ex E.by dL_law_655 ?_
  refine lv_topi (fun y655 ey655 => ?_)
  have ey655 : y655 = nI (i + 1) := ey655.trans (nI_add i 1)
  subst ey655
  refine va_sld E.ex E.by hX hbl (Nat.not_le.mpr hbl) G.2.2.1 (vp_in_nI (show i + 1 < L by omega) (by omega)) dL_law_656 ?_
  refine lv_aload_n E.ex E.by dL_law_657 rfl (lv_at hl 3 rfl) ?_
  refine lv_iload_n E.ex E.by dL_law_658 rfl (lv_at hl 0 rfl) ?_
  refine lv_iconst (v := 2) E.ex E.by dL_law_659 (by decide) ?_
  refine lv_iadd E.ex E.by dL_law_660 ?_
  refine lv_topi (fun y660 ey660 => ?_)
  have ey660 : y660 = nI (i + 2) := ey660.trans (nI_add i 2)
  subst ey660
  refine va_sld E.ex E.by hX hbl (Nat.not_le.mpr hbl) G.2.2.1 (vp_in_nI (show i + 2 < L by omega) (by omega)) dL_law_661 ?_
  refine k_cVi (n := 2) (X := []) (w := fl [wMn kc ad μ, wFo kc ad fo, wC kc (ad 1) κ, wC kc (ad 2) ρ, wHi kc ad η, wKp kc ad kp, wLu kc (ad 5) (ad 1) lu, wMo kc (ad 6) (ad 1) (ad 7) σ, wE kc (ad 7) ε, wBp kc (ad 9) (ad 1) π, wSb kc ad β, pl]) (Z := wM kc am τ) (wnew := (fun _ : Unit => (fl [wMn kc ad μ, wFo kc ad fo, wC kc (ad 1) κ, wC kc (ad 2) ρ, wHi kc ad η, wKp kc ad kp, wLu kc (ad 5) (ad 1) lu, wMo kc (ad 6) (ad 1) (ad 7) σ, wE kc (ad 7) ε, wBp kc (ad 9) (ad 1) π, wSb kc ad β, pl]) ++ wM kc am τ)) (As := [.int (xs (nI (i + 1)).toNatClampNeg), .int (xs (nI (i + 2)).toNatClampNeg)]) (rest := []) E rfl G (c_X11_letter l D kc ad (xs (nI (i + 1)).toNatClampNeg) (xs (nI (i + 2)).toNatClampNeg) μ fo κ ρ η kp lu σ ε π β pl (fun r : Int32 => r = f_letter A (xs (nI (i + 1)).toNatClampNeg) (xs (nI (i + 2)).toNatClampNeg)) (q11_letter ok C rfl)) gL_law_X11_letter rfl ⟨rfl, rfl⟩ hd_X11_letter_v ⟨rfl, rfl⟩ 0 rfl rfl rfl hl rfl rfl dL_law_662 ⟨Nat.ble_eq_true_of_le (show cells + 0 ≤ 600000 by omega), Nat.ble_eq_true_of_le (show slots + 0 ≤ 7302250 by omega)⟩ (fun _ => rfl) (fun r1 u1 hq1 H locs G => ?_)
  have e1 := hq1
  subst e1
  have C1 := C
  have G : kG D _ s ((fl [wMn kc ad μ, wFo kc ad fo, wC kc (ad 1) κ, wC kc (ad 2) ρ, wHi kc ad η, wKp kc ad kp, wLu kc (ad 5) (ad 1) lu, wMo kc (ad 6) (ad 1) (ad 7) σ, wE kc (ad 7) ε, wBp kc (ad 9) (ad 1) π, wSb kc ad β, pl]) ++ wM kc am τ) H _ := G
  refine lv_aload_n E.ex E.by dL_law_665 rfl (lv_at hl 1 rfl) ?_
  refine lv_aload_n E.ex E.by dL_law_666 rfl (lv_at hl 3 rfl) ?_
  refine lv_iload_n E.ex E.by dL_law_667 rfl (lv_at hl 0 rfl) ?_
  refine lv_iconst (v := 1) E.ex E.by dL_law_668 (by decide) ?_
  refine lv_iadd E.ex E.by dL_law_669 ?_
  refine lv_topi (fun y669 ey669 => ?_)
  have ey669 : y669 = nI (i + 1) := ey669.trans (nI_add i 1)
  subst ey669
  refine va_sld E.ex E.by hX hbl (Nat.not_le.mpr hbl) G.2.2.1 (vp_in_nI (show i + 1 < L by omega) (by omega)) dL_law_670 ?_
  refine lv_aload_n E.ex E.by dL_law_671 rfl (lv_at hl 3 rfl) ?_
  refine lv_iload_n E.ex E.by dL_law_672 rfl (lv_at hl 0 rfl) ?_
  refine lv_iconst (v := 2) E.ex E.by dL_law_673 (by decide) ?_
  refine lv_iadd E.ex E.by dL_law_674 ?_
  refine lv_topi (fun y674 ey674 => ?_)
  have ey674 : y674 = nI (i + 2) := ey674.trans (nI_add i 2)
  subst ey674
  refine va_sld E.ex E.by hX hbl (Nat.not_le.mpr hbl) G.2.2.1 (vp_in_nI (show i + 2 < L by omega) (by omega)) dL_law_675 ?_
  refine k_cVi (n := 2) (X := fl [wMn kc ad μ, wFo kc ad fo, wC kc (ad 1) κ, wC kc (ad 2) ρ, wHi kc ad η, wKp kc ad kp, wLu kc (ad 5) (ad 1) lu, wMo kc (ad 6) (ad 1) (ad 7) σ, wE kc (ad 7) ε, wBp kc (ad 9) (ad 1) π, wSb kc ad β, pl]) (w := wM kc am τ) (Z := []) (wnew := (fun _ : Unit => (fl [wMn kc ad μ, wFo kc ad fo, wC kc (ad 1) κ, wC kc (ad 2) ρ, wHi kc ad η, wKp kc ad kp, wLu kc (ad 5) (ad 1) lu, wMo kc (ad 6) (ad 1) (ad 7) σ, wE kc (ad 7) ε, wBp kc (ad 9) (ad 1) π, wSb kc ad β, pl]) ++ wM kc am τ)) (As := [.int (xs (nI (i + 1)).toNatClampNeg), .int (xs (nI (i + 2)).toNatClampNeg)]) (rest := [.int (f_letter A (xs (nI (i + 1)).toNatClampNeg) (xs (nI (i + 2)).toNatClampNeg))]) E (by rw [List.append_nil]) G (c_X12_letter l D kc am (xs (nI (i + 1)).toNatClampNeg) (xs (nI (i + 2)).toNatClampNeg) τ (fun r : Int32 => r = f_letter A (xs (nI (i + 1)).toNatClampNeg) (xs (nI (i + 2)).toNatClampNeg)) (q12_letter ok T rfl)) gL_law_X12_letter rfl ⟨rfl, rfl⟩ hd_X12_letter_v ⟨rfl, rfl⟩ 0 (gM_0 _ _ _) rfl rfl hl rfl rfl dL_law_676 ⟨Nat.ble_eq_true_of_le (show cells + 0 + 0 ≤ 600000 by omega), Nat.ble_eq_true_of_le (show slots + 0 + 0 ≤ 7302250 by omega)⟩ (fun _ => by rw [List.append_nil]) (fun r2 u2 hq2 H locs G => ?_)
  have e2 := hq2
  subst e2
  have T1 := T
  have G : kG D _ s ((fl [wMn kc ad μ, wFo kc ad fo, wC kc (ad 1) κ, wC kc (ad 2) ρ, wHi kc ad η, wKp kc ad kp, wLu kc (ad 5) (ad 1) lu, wMo kc (ad 6) (ad 1) (ad 7) σ, wE kc (ad 7) ε, wBp kc (ad 9) (ad 1) π, wSb kc ad β, pl]) ++ wM kc am τ) H _ := G
  refine lv_icmp_eq (tgt := 1302) E.ex E.by dL_law_679 (by decide) (fun _ => ?_) (fun hc => absurd rfl hc)
  refine W.widen (k := cells + 132) (n := slots + 1204) (by omega) (by omega) ?_
  exact IH _ _ _ _ _ _ _ _ _ _ _ _ _ _ _ _ _ ok C1 T1 G hl
end LAWC
