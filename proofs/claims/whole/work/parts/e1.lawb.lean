theorem hd_X11_labels_v : yX11_labels.cls = RX11 ∧ yX11_labels.cls ≠ "java/lang/invoke/MethodHandle" ∧ yX11_labels.cls ≠ "java/lang/invoke/VarHandle" ∧ (parseMethodDescriptor yX11_labels.desc).map (fun d => d.parameters.length) = some 1 := by decide +kernel
theorem hd_X12_labels_v : yX12_labels.cls = RX12 ∧ yX12_labels.cls ≠ "java/lang/invoke/MethodHandle" ∧ yX12_labels.cls ≠ "java/lang/invoke/VarHandle" ∧ (parseMethodDescriptor yX12_labels.desc).map (fun d => d.parameters.length) = some 1 := by decide +kernel
theorem hd_X11_setReward_v : yX11_setReward.cls = RX11 ∧ yX11_setReward.cls ≠ "java/lang/invoke/MethodHandle" ∧ yX11_setReward.cls ≠ "java/lang/invoke/VarHandle" ∧ (parseMethodDescriptor yX11_setReward.desc).map (fun d => d.parameters.length) = some 2 := by decide +kernel
theorem hd_X12_setReward_v : yX12_setReward.cls = RX12 ∧ yX12_setReward.cls ≠ "java/lang/invoke/MethodHandle" ∧ yX12_setReward.cls ≠ "java/lang/invoke/VarHandle" ∧ (parseMethodDescriptor yX12_setReward.desc).map (fun d => d.parameters.length) = some 2 := by decide +kernel
theorem hd_X11_reward_v : yX11_reward.cls = RX11 ∧ yX11_reward.cls ≠ "java/lang/invoke/MethodHandle" ∧ yX11_reward.cls ≠ "java/lang/invoke/VarHandle" ∧ (parseMethodDescriptor yX11_reward.desc).map (fun d => d.parameters.length) = some 1 := by decide +kernel
theorem hd_X12_reward_v : yX12_reward.cls = RX12 ∧ yX12_reward.cls ≠ "java/lang/invoke/MethodHandle" ∧ yX12_reward.cls ≠ "java/lang/invoke/VarHandle" ∧ (parseMethodDescriptor yX12_reward.desc).map (fun d => d.parameters.length) = some 1 := by decide +kernel
theorem hd_X11_reaches_v : yX11_reaches.cls = RX11 ∧ yX11_reaches.cls ≠ "java/lang/invoke/MethodHandle" ∧ yX11_reaches.cls ≠ "java/lang/invoke/VarHandle" ∧ (parseMethodDescriptor yX11_reaches.desc).map (fun d => d.parameters.length) = some 1 := by decide +kernel
theorem hd_X12_reaches_v : yX12_reaches.cls = RX12 ∧ yX12_reaches.cls ≠ "java/lang/invoke/MethodHandle" ∧ yX12_reaches.cls ≠ "java/lang/invoke/VarHandle" ∧ (parseMethodDescriptor yX12_reaches.desc).map (fun d => d.parameters.length) = some 1 := by decide +kernel
theorem hd_X11_component_v : yX11_component.cls = RX11 ∧ yX11_component.cls ≠ "java/lang/invoke/MethodHandle" ∧ yX11_component.cls ≠ "java/lang/invoke/VarHandle" ∧ (parseMethodDescriptor yX11_component.desc).map (fun d => d.parameters.length) = some 1 := by decide +kernel
theorem hd_X12_component_v : yX12_component.cls = RX12 ∧ yX12_component.cls ≠ "java/lang/invoke/MethodHandle" ∧ yX12_component.cls ≠ "java/lang/invoke/VarHandle" ∧ (parseMethodDescriptor yX12_component.desc).map (fun d => d.parameters.length) = some 1 := by decide +kernel
theorem hd_X11_bottoms_v : yX11_bottoms.cls = RX11 ∧ yX11_bottoms.cls ≠ "java/lang/invoke/MethodHandle" ∧ yX11_bottoms.cls ≠ "java/lang/invoke/VarHandle" ∧ (parseMethodDescriptor yX11_bottoms.desc).map (fun d => d.parameters.length) = some 0 := by decide +kernel
theorem hd_X12_bottoms_v : yX12_bottoms.cls = RX12 ∧ yX12_bottoms.cls ≠ "java/lang/invoke/MethodHandle" ∧ yX12_bottoms.cls ≠ "java/lang/invoke/VarHandle" ∧ (parseMethodDescriptor yX12_bottoms.desc).map (fun d => d.parameters.length) = some 0 := by decide +kernel
theorem hd_X11_classCount_v : yX11_classCount.cls = RX11 ∧ yX11_classCount.cls ≠ "java/lang/invoke/MethodHandle" ∧ yX11_classCount.cls ≠ "java/lang/invoke/VarHandle" ∧ (parseMethodDescriptor yX11_classCount.desc).map (fun d => d.parameters.length) = some 0 := by decide +kernel
theorem hd_X12_classCount_v : yX12_classCount.cls = RX12 ∧ yX12_classCount.cls ≠ "java/lang/invoke/MethodHandle" ∧ yX12_classCount.cls ≠ "java/lang/invoke/VarHandle" ∧ (parseMethodDescriptor yX12_classCount.desc).map (fun d => d.parameters.length) = some 0 := by decide +kernel
section LAWB
variable {p : Program} {l : Launch} {e : Env} {s : State} {m : MethodId} {below : List Frame} {meth : Method} {c : Code} {b L i : Nat} {xs : Nat → Int32} {D : va_G} {kc : Nat → ClassId} {ad : Nat → Nat → Nat} {am : Nat → Nat} {nm : String} {A : AB} {μ κ ρ η lu σ ε π τ : US} {fo : Nat → Option Nat} {kp : Nat → US} {β : SBT} {pl : va_W} {H : Heap} {locs : List Loc} {ls : Array Slot} {cells slots : Nat} {QQ : State → Prop}
set_option maxRecDepth 100000 in
set_option maxHeartbeats 8000000 in
theorem law_labels (E : kE p s m meth c #[Value.ref b] code 4 RL nm wsL_law ret D (tyL kc)) (hX : va_X b L xs s s.heap) (hbl : b < s.heap.size) (hi : i + 6 ≤ L) (hL : L ≤ 3072) (hc : cells + 132 ≤ 600000) (hs : slots + 1204 ≤ 7302250) (ok : okA A) (C : CSt kc A μ fo κ ρ η kp β pl) (T : RSt A τ) (G : kG D (fun q => s.heap.size ≤ q) s (fl [wMn kc ad μ, wFo kc ad fo, wC kc (ad 1) κ, wC kc (ad 2) ρ, wHi kc ad η, wKp kc ad kp, wLu kc (ad 5) (ad 1) lu, wMo kc (ad 6) (ad 1) (ad 7) σ, wE kc (ad 7) ε, wBp kc (ad 9) (ad 1) π, wSb kc ad β, pl] ++ wM kc am τ) H locs) (hl : lv_has ls 4 [(3, .int (nI i)), (2, .ref (am 0)), (1, .ref (ad 0 0)), (0, .ref b)]) (IH : LGo p l e s m below meth c b i D kc ad am (cells + 132) (slots + 1204) QQ) : W p l e room_1 s m #[Value.ref b] below meth c H locs cells slots QQ (F0 m 371 ls []) := by
  refine lv_aload_n E.ex E.by dL_law_371 rfl (lv_at hl 2 rfl) ?_
  refine lv_aload_n E.ex E.by dL_law_372 rfl (lv_at hl 3 rfl) ?_
  refine lv_iload_n E.ex E.by dL_law_373 rfl (lv_at hl 0 rfl) ?_
  refine lv_iconst (v := 1) E.ex E.by dL_law_374 (by decide) ?_
  refine lv_iadd E.ex E.by dL_law_375 ?_
  refine lv_topi (fun y375 ey375 => ?_)
  have ey375 : y375 = nI (i + 1) := ey375.trans (nI_add i 1)
  subst ey375
  refine va_sld E.ex E.by hX hbl (Nat.not_le.mpr hbl) G.2.2.1 (vp_in_nI (show i + 1 < L by omega) (by omega)) dL_law_376 ?_
  refine k_cVi (n := 1) (X := []) (w := fl [wMn kc ad μ, wFo kc ad fo, wC kc (ad 1) κ, wC kc (ad 2) ρ, wHi kc ad η, wKp kc ad kp, wLu kc (ad 5) (ad 1) lu, wMo kc (ad 6) (ad 1) (ad 7) σ, wE kc (ad 7) ε, wBp kc (ad 9) (ad 1) π, wSb kc ad β, pl]) (Z := wM kc am τ) (wnew := (fun _ : Unit => (fl [wMn kc ad μ, wFo kc ad fo, wC kc (ad 1) κ, wC kc (ad 2) ρ, wHi kc ad η, wKp kc ad kp, wLu kc (ad 5) (ad 1) lu, wMo kc (ad 6) (ad 1) (ad 7) σ, wE kc (ad 7) ε, wBp kc (ad 9) (ad 1) π, wSb kc ad β, pl]) ++ wM kc am τ)) (As := [.int (xs (nI (i + 1)).toNatClampNeg)]) (rest := []) E rfl G (c_X11_labels l D kc ad (xs (nI (i + 1)).toNatClampNeg) μ fo κ ρ η kp lu σ ε π β pl (fun r : Int32 => r = f_labels A (xs (nI (i + 1)).toNatClampNeg)) (q11_labels ok C rfl)) gL_law_X11_labels rfl ⟨rfl, rfl⟩ hd_X11_labels_v ⟨rfl, rfl⟩ 0 rfl rfl rfl hl rfl rfl dL_law_377 ⟨Nat.ble_eq_true_of_le (show cells + 0 ≤ 600000 by omega), Nat.ble_eq_true_of_le (show slots + 0 ≤ 7302250 by omega)⟩ (fun _ => rfl) (fun r1 u1 hq1 H locs G => ?_)
  have e1 := hq1
  subst e1
  have C1 := C
  have G : kG D _ s ((fl [wMn kc ad μ, wFo kc ad fo, wC kc (ad 1) κ, wC kc (ad 2) ρ, wHi kc ad η, wKp kc ad kp, wLu kc (ad 5) (ad 1) lu, wMo kc (ad 6) (ad 1) (ad 7) σ, wE kc (ad 7) ε, wBp kc (ad 9) (ad 1) π, wSb kc ad β, pl]) ++ wM kc am τ) H _ := G
  refine lv_aload_n E.ex E.by dL_law_380 rfl (lv_at hl 1 rfl) ?_
  refine lv_aload_n E.ex E.by dL_law_381 rfl (lv_at hl 3 rfl) ?_
  refine lv_iload_n E.ex E.by dL_law_382 rfl (lv_at hl 0 rfl) ?_
  refine lv_iconst (v := 1) E.ex E.by dL_law_383 (by decide) ?_
  refine lv_iadd E.ex E.by dL_law_384 ?_
  refine lv_topi (fun y384 ey384 => ?_)
  have ey384 : y384 = nI (i + 1) := ey384.trans (nI_add i 1)
  subst ey384
  refine va_sld E.ex E.by hX hbl (Nat.not_le.mpr hbl) G.2.2.1 (vp_in_nI (show i + 1 < L by omega) (by omega)) dL_law_385 ?_
  refine k_cVi (n := 1) (X := fl [wMn kc ad μ, wFo kc ad fo, wC kc (ad 1) κ, wC kc (ad 2) ρ, wHi kc ad η, wKp kc ad kp, wLu kc (ad 5) (ad 1) lu, wMo kc (ad 6) (ad 1) (ad 7) σ, wE kc (ad 7) ε, wBp kc (ad 9) (ad 1) π, wSb kc ad β, pl]) (w := wM kc am τ) (Z := []) (wnew := (fun _ : Unit => (fl [wMn kc ad μ, wFo kc ad fo, wC kc (ad 1) κ, wC kc (ad 2) ρ, wHi kc ad η, wKp kc ad kp, wLu kc (ad 5) (ad 1) lu, wMo kc (ad 6) (ad 1) (ad 7) σ, wE kc (ad 7) ε, wBp kc (ad 9) (ad 1) π, wSb kc ad β, pl]) ++ wM kc am τ)) (As := [.int (xs (nI (i + 1)).toNatClampNeg)]) (rest := [.int (f_labels A (xs (nI (i + 1)).toNatClampNeg))]) E (by rw [List.append_nil]) G (c_X12_labels l D kc am (xs (nI (i + 1)).toNatClampNeg) τ (fun r : Int32 => r = f_labels A (xs (nI (i + 1)).toNatClampNeg)) (q12_labels ok T rfl)) gL_law_X12_labels rfl ⟨rfl, rfl⟩ hd_X12_labels_v ⟨rfl, rfl⟩ 0 (gM_0 _ _ _) rfl rfl hl rfl rfl dL_law_386 ⟨Nat.ble_eq_true_of_le (show cells + 0 + 0 ≤ 600000 by omega), Nat.ble_eq_true_of_le (show slots + 0 + 0 ≤ 7302250 by omega)⟩ (fun _ => by rw [List.append_nil]) (fun r2 u2 hq2 H locs G => ?_)
  have e2 := hq2
  subst e2
  have T1 := T
  have G : kG D _ s ((fl [wMn kc ad μ, wFo kc ad fo, wC kc (ad 1) κ, wC kc (ad 2) ρ, wHi kc ad η, wKp kc ad kp, wLu kc (ad 5) (ad 1) lu, wMo kc (ad 6) (ad 1) (ad 7) σ, wE kc (ad 7) ε, wBp kc (ad 9) (ad 1) π, wSb kc ad β, pl]) ++ wM kc am τ) H _ := G
  refine lv_icmp_eq (tgt := 1302) E.ex E.by dL_law_389 (by decide) (fun _ => ?_) (fun hc => absurd rfl hc)
  refine W.widen (k := cells + 132) (n := slots + 1204) (by omega) (by omega) ?_
  exact IH _ _ _ _ _ _ _ _ _ _ _ _ _ _ _ _ _ ok C1 T1 G hl
set_option maxRecDepth 100000 in
set_option maxHeartbeats 8000000 in
theorem law_setReward (E : kE p s m meth c #[Value.ref b] code 4 RL nm wsL_law ret D (tyL kc)) (hX : va_X b L xs s s.heap) (hbl : b < s.heap.size) (hi : i + 6 ≤ L) (hL : L ≤ 3072) (hc : cells + 132 ≤ 600000) (hs : slots + 1204 ≤ 7302250) (ok : okA A) (C : CSt kc A μ fo κ ρ η kp β pl) (T : RSt A τ) (G : kG D (fun q => s.heap.size ≤ q) s (fl [wMn kc ad μ, wFo kc ad fo, wC kc (ad 1) κ, wC kc (ad 2) ρ, wHi kc ad η, wKp kc ad kp, wLu kc (ad 5) (ad 1) lu, wMo kc (ad 6) (ad 1) (ad 7) σ, wE kc (ad 7) ε, wBp kc (ad 9) (ad 1) π, wSb kc ad β, pl] ++ wM kc am τ) H locs) (hl : lv_has ls 4 [(3, .int (nI i)), (2, .ref (am 0)), (1, .ref (ad 0 0)), (0, .ref b)]) (IH : LGo p l e s m below meth c b i D kc ad am (cells + 132) (slots + 1204) QQ) : W p l e room_1 s m #[Value.ref b] below meth c H locs cells slots QQ (F0 m 394 ls []) := by
  refine lv_aload_n E.ex E.by dL_law_394 rfl (lv_at hl 2 rfl) ?_
  refine lv_aload_n E.ex E.by dL_law_395 rfl (lv_at hl 3 rfl) ?_
  refine lv_iload_n E.ex E.by dL_law_396 rfl (lv_at hl 0 rfl) ?_
  refine lv_iconst (v := 1) E.ex E.by dL_law_397 (by decide) ?_
  refine lv_iadd E.ex E.by dL_law_398 ?_
  refine lv_topi (fun y398 ey398 => ?_)
  have ey398 : y398 = nI (i + 1) := ey398.trans (nI_add i 1)
  subst ey398
  refine va_sld E.ex E.by hX hbl (Nat.not_le.mpr hbl) G.2.2.1 (vp_in_nI (show i + 1 < L by omega) (by omega)) dL_law_399 ?_
  refine lv_aload_n E.ex E.by dL_law_400 rfl (lv_at hl 3 rfl) ?_
  refine lv_iload_n E.ex E.by dL_law_401 rfl (lv_at hl 0 rfl) ?_
  refine lv_iconst (v := 2) E.ex E.by dL_law_402 (by decide) ?_
  refine lv_iadd E.ex E.by dL_law_403 ?_
  refine lv_topi (fun y403 ey403 => ?_)
  have ey403 : y403 = nI (i + 2) := ey403.trans (nI_add i 2)
  subst ey403
  refine va_sld E.ex E.by hX hbl (Nat.not_le.mpr hbl) G.2.2.1 (vp_in_nI (show i + 2 < L by omega) (by omega)) dL_law_404 ?_
  refine k_cVi (n := 2) (X := []) (w := fl [wMn kc ad μ, wFo kc ad fo, wC kc (ad 1) κ, wC kc (ad 2) ρ, wHi kc ad η, wKp kc ad kp, wLu kc (ad 5) (ad 1) lu, wMo kc (ad 6) (ad 1) (ad 7) σ, wE kc (ad 7) ε, wBp kc (ad 9) (ad 1) π, wSb kc ad β, pl]) (Z := wM kc am τ) (wnew := (fun u : US × US × (Nat → US) => (fl [wMn kc ad μ, wFo kc ad fo, wC kc (ad 1) u.1, wC kc (ad 2) ρ, wHi kc ad u.2.1, wKp kc ad u.2.2, wLu kc (ad 5) (ad 1) lu, wMo kc (ad 6) (ad 1) (ad 7) σ, wE kc (ad 7) ε, wBp kc (ad 9) (ad 1) π, wSb kc ad β, pl]) ++ wM kc am τ)) (As := [.int (xs (nI (i + 1)).toNatClampNeg), .int (xs (nI (i + 2)).toNatClampNeg)]) (rest := []) E rfl G (c_X11_setReward l D kc ad (xs (nI (i + 1)).toNatClampNeg) (xs (nI (i + 2)).toNatClampNeg) μ fo κ ρ η kp lu σ ε π β pl (fun (r : Int32) (u : US × US × (Nat → US)) => r = f_setReward A (xs (nI (i + 1)).toNatClampNeg) (xs (nI (i + 2)).toNatClampNeg) ∧ CSt kc (g_setReward A (xs (nI (i + 1)).toNatClampNeg) (xs (nI (i + 2)).toNatClampNeg)) μ fo u.1 ρ u.2.1 u.2.2 β pl) (q11_setReward ok C (fun _ _ _ C' => ⟨rfl, C'⟩))) gL_law_X11_setReward rfl ⟨rfl, rfl⟩ hd_X11_setReward_v ⟨rfl, rfl⟩ 0 rfl rfl rfl hl rfl rfl dL_law_405 ⟨Nat.ble_eq_true_of_le (show cells + 0 ≤ 600000 by omega), Nat.ble_eq_true_of_le (show slots + 0 ≤ 7302250 by omega)⟩ (fun _ => rfl) (fun r1 u1 hq1 H locs G => ?_)
  obtain ⟨e1, C1⟩ := hq1
  subst e1
  have G : kG D _ s ((fl [wMn kc ad μ, wFo kc ad fo, wC kc (ad 1) u1.1, wC kc (ad 2) ρ, wHi kc ad u1.2.1, wKp kc ad u1.2.2, wLu kc (ad 5) (ad 1) lu, wMo kc (ad 6) (ad 1) (ad 7) σ, wE kc (ad 7) ε, wBp kc (ad 9) (ad 1) π, wSb kc ad β, pl]) ++ wM kc am τ) H _ := G
  refine lv_aload_n E.ex E.by dL_law_408 rfl (lv_at hl 1 rfl) ?_
  refine lv_aload_n E.ex E.by dL_law_409 rfl (lv_at hl 3 rfl) ?_
  refine lv_iload_n E.ex E.by dL_law_410 rfl (lv_at hl 0 rfl) ?_
  refine lv_iconst (v := 1) E.ex E.by dL_law_411 (by decide) ?_
  refine lv_iadd E.ex E.by dL_law_412 ?_
  refine lv_topi (fun y412 ey412 => ?_)
  have ey412 : y412 = nI (i + 1) := ey412.trans (nI_add i 1)
  subst ey412
  refine va_sld E.ex E.by hX hbl (Nat.not_le.mpr hbl) G.2.2.1 (vp_in_nI (show i + 1 < L by omega) (by omega)) dL_law_413 ?_
  refine lv_aload_n E.ex E.by dL_law_414 rfl (lv_at hl 3 rfl) ?_
  refine lv_iload_n E.ex E.by dL_law_415 rfl (lv_at hl 0 rfl) ?_
  refine lv_iconst (v := 2) E.ex E.by dL_law_416 (by decide) ?_
  refine lv_iadd E.ex E.by dL_law_417 ?_
  refine lv_topi (fun y417 ey417 => ?_)
  have ey417 : y417 = nI (i + 2) := ey417.trans (nI_add i 2)
  subst ey417
  refine va_sld E.ex E.by hX hbl (Nat.not_le.mpr hbl) G.2.2.1 (vp_in_nI (show i + 2 < L by omega) (by omega)) dL_law_418 ?_
  refine k_cVi (n := 2) (X := fl [wMn kc ad μ, wFo kc ad fo, wC kc (ad 1) u1.1, wC kc (ad 2) ρ, wHi kc ad u1.2.1, wKp kc ad u1.2.2, wLu kc (ad 5) (ad 1) lu, wMo kc (ad 6) (ad 1) (ad 7) σ, wE kc (ad 7) ε, wBp kc (ad 9) (ad 1) π, wSb kc ad β, pl]) (w := wM kc am τ) (Z := []) (wnew := (fun u : US => (fl [wMn kc ad μ, wFo kc ad fo, wC kc (ad 1) u1.1, wC kc (ad 2) ρ, wHi kc ad u1.2.1, wKp kc ad u1.2.2, wLu kc (ad 5) (ad 1) lu, wMo kc (ad 6) (ad 1) (ad 7) σ, wE kc (ad 7) ε, wBp kc (ad 9) (ad 1) π, wSb kc ad β, pl]) ++ wM kc am u)) (As := [.int (xs (nI (i + 1)).toNatClampNeg), .int (xs (nI (i + 2)).toNatClampNeg)]) (rest := [.int (f_setReward A (xs (nI (i + 1)).toNatClampNeg) (xs (nI (i + 2)).toNatClampNeg))]) E (by rw [List.append_nil]) G (c_X12_setReward l D kc am (xs (nI (i + 1)).toNatClampNeg) (xs (nI (i + 2)).toNatClampNeg) τ (fun (r : Int32) (u : US) => r = f_setReward A (xs (nI (i + 1)).toNatClampNeg) (xs (nI (i + 2)).toNatClampNeg) ∧ RSt (g_setReward A (xs (nI (i + 1)).toNatClampNeg) (xs (nI (i + 2)).toNatClampNeg)) u) (q12_setReward ok T (fun _ T' => ⟨rfl, T'⟩))) gL_law_X12_setReward rfl ⟨rfl, rfl⟩ hd_X12_setReward_v ⟨rfl, rfl⟩ 0 (gM_0 _ _ _) rfl rfl hl rfl rfl dL_law_419 ⟨Nat.ble_eq_true_of_le (show cells + 0 + 0 ≤ 600000 by omega), Nat.ble_eq_true_of_le (show slots + 0 + 0 ≤ 7302250 by omega)⟩ (fun _ => by rw [List.append_nil]) (fun r2 u2 hq2 H locs G => ?_)
  obtain ⟨e2, T1⟩ := hq2
  subst e2
  have G : kG D _ s ((fl [wMn kc ad μ, wFo kc ad fo, wC kc (ad 1) u1.1, wC kc (ad 2) ρ, wHi kc ad u1.2.1, wKp kc ad u1.2.2, wLu kc (ad 5) (ad 1) lu, wMo kc (ad 6) (ad 1) (ad 7) σ, wE kc (ad 7) ε, wBp kc (ad 9) (ad 1) π, wSb kc ad β, pl]) ++ wM kc am u2) H _ := G
  refine lv_icmp_eq (tgt := 1302) E.ex E.by dL_law_422 (by decide) (fun _ => ?_) (fun hc => absurd rfl hc)
  refine W.widen (k := cells + 132) (n := slots + 1204) (by omega) (by omega) ?_
  exact IH _ _ _ _ _ _ _ _ _ _ _ _ _ _ _ _ _ (ok_setReward ok) C1 T1 G hl
set_option maxRecDepth 100000 in
set_option maxHeartbeats 8000000 in
theorem law_reward (E : kE p s m meth c #[Value.ref b] code 4 RL nm wsL_law ret D (tyL kc)) (hX : va_X b L xs s s.heap) (hbl : b < s.heap.size) (hi : i + 6 ≤ L) (hL : L ≤ 3072) (hc : cells + 132 ≤ 600000) (hs : slots + 1204 ≤ 7302250) (ok : okA A) (C : CSt kc A μ fo κ ρ η kp β pl) (T : RSt A τ) (G : kG D (fun q => s.heap.size ≤ q) s (fl [wMn kc ad μ, wFo kc ad fo, wC kc (ad 1) κ, wC kc (ad 2) ρ, wHi kc ad η, wKp kc ad kp, wLu kc (ad 5) (ad 1) lu, wMo kc (ad 6) (ad 1) (ad 7) σ, wE kc (ad 7) ε, wBp kc (ad 9) (ad 1) π, wSb kc ad β, pl] ++ wM kc am τ) H locs) (hl : lv_has ls 4 [(3, .int (nI i)), (2, .ref (am 0)), (1, .ref (ad 0 0)), (0, .ref b)]) (IH : LGo p l e s m below meth c b i D kc ad am (cells + 132) (slots + 1204) QQ) : W p l e room_1 s m #[Value.ref b] below meth c H locs cells slots QQ (F0 m 427 ls []) := by
  refine lv_aload_n E.ex E.by dL_law_427 rfl (lv_at hl 2 rfl) ?_
  refine lv_aload_n E.ex E.by dL_law_428 rfl (lv_at hl 3 rfl) ?_
  refine lv_iload_n E.ex E.by dL_law_429 rfl (lv_at hl 0 rfl) ?_
  refine lv_iconst (v := 1) E.ex E.by dL_law_430 (by decide) ?_
  refine lv_iadd E.ex E.by dL_law_431 ?_
  refine lv_topi (fun y431 ey431 => ?_)
  have ey431 : y431 = nI (i + 1) := ey431.trans (nI_add i 1)
  subst ey431
  refine va_sld E.ex E.by hX hbl (Nat.not_le.mpr hbl) G.2.2.1 (vp_in_nI (show i + 1 < L by omega) (by omega)) dL_law_432 ?_
  refine k_cVi (n := 1) (X := []) (w := fl [wMn kc ad μ, wFo kc ad fo, wC kc (ad 1) κ, wC kc (ad 2) ρ, wHi kc ad η, wKp kc ad kp, wLu kc (ad 5) (ad 1) lu, wMo kc (ad 6) (ad 1) (ad 7) σ, wE kc (ad 7) ε, wBp kc (ad 9) (ad 1) π, wSb kc ad β, pl]) (Z := wM kc am τ) (wnew := (fun _ : Unit => (fl [wMn kc ad μ, wFo kc ad fo, wC kc (ad 1) κ, wC kc (ad 2) ρ, wHi kc ad η, wKp kc ad kp, wLu kc (ad 5) (ad 1) lu, wMo kc (ad 6) (ad 1) (ad 7) σ, wE kc (ad 7) ε, wBp kc (ad 9) (ad 1) π, wSb kc ad β, pl]) ++ wM kc am τ)) (As := [.int (xs (nI (i + 1)).toNatClampNeg)]) (rest := []) E rfl G (c_X11_reward l D kc ad (xs (nI (i + 1)).toNatClampNeg) μ fo κ ρ η kp lu σ ε π β pl (fun r : Int32 => r = f_reward A (xs (nI (i + 1)).toNatClampNeg)) (q11_reward ok C rfl)) gL_law_X11_reward rfl ⟨rfl, rfl⟩ hd_X11_reward_v ⟨rfl, rfl⟩ 0 rfl rfl rfl hl rfl rfl dL_law_433 ⟨Nat.ble_eq_true_of_le (show cells + 0 ≤ 600000 by omega), Nat.ble_eq_true_of_le (show slots + 0 ≤ 7302250 by omega)⟩ (fun _ => rfl) (fun r1 u1 hq1 H locs G => ?_)
  have e1 := hq1
  subst e1
  have C1 := C
  have G : kG D _ s ((fl [wMn kc ad μ, wFo kc ad fo, wC kc (ad 1) κ, wC kc (ad 2) ρ, wHi kc ad η, wKp kc ad kp, wLu kc (ad 5) (ad 1) lu, wMo kc (ad 6) (ad 1) (ad 7) σ, wE kc (ad 7) ε, wBp kc (ad 9) (ad 1) π, wSb kc ad β, pl]) ++ wM kc am τ) H _ := G
  refine lv_aload_n E.ex E.by dL_law_436 rfl (lv_at hl 1 rfl) ?_
  refine lv_aload_n E.ex E.by dL_law_437 rfl (lv_at hl 3 rfl) ?_
  refine lv_iload_n E.ex E.by dL_law_438 rfl (lv_at hl 0 rfl) ?_
  refine lv_iconst (v := 1) E.ex E.by dL_law_439 (by decide) ?_
  refine lv_iadd E.ex E.by dL_law_440 ?_
  refine lv_topi (fun y440 ey440 => ?_)
  have ey440 : y440 = nI (i + 1) := ey440.trans (nI_add i 1)
  subst ey440
  refine va_sld E.ex E.by hX hbl (Nat.not_le.mpr hbl) G.2.2.1 (vp_in_nI (show i + 1 < L by omega) (by omega)) dL_law_441 ?_
  refine k_cVi (n := 1) (X := fl [wMn kc ad μ, wFo kc ad fo, wC kc (ad 1) κ, wC kc (ad 2) ρ, wHi kc ad η, wKp kc ad kp, wLu kc (ad 5) (ad 1) lu, wMo kc (ad 6) (ad 1) (ad 7) σ, wE kc (ad 7) ε, wBp kc (ad 9) (ad 1) π, wSb kc ad β, pl]) (w := wM kc am τ) (Z := []) (wnew := (fun _ : Unit => (fl [wMn kc ad μ, wFo kc ad fo, wC kc (ad 1) κ, wC kc (ad 2) ρ, wHi kc ad η, wKp kc ad kp, wLu kc (ad 5) (ad 1) lu, wMo kc (ad 6) (ad 1) (ad 7) σ, wE kc (ad 7) ε, wBp kc (ad 9) (ad 1) π, wSb kc ad β, pl]) ++ wM kc am τ)) (As := [.int (xs (nI (i + 1)).toNatClampNeg)]) (rest := [.int (f_reward A (xs (nI (i + 1)).toNatClampNeg))]) E (by rw [List.append_nil]) G (c_X12_reward l D kc am (xs (nI (i + 1)).toNatClampNeg) τ (fun r : Int32 => r = f_reward A (xs (nI (i + 1)).toNatClampNeg)) (q12_reward ok T rfl)) gL_law_X12_reward rfl ⟨rfl, rfl⟩ hd_X12_reward_v ⟨rfl, rfl⟩ 0 (gM_0 _ _ _) rfl rfl hl rfl rfl dL_law_442 ⟨Nat.ble_eq_true_of_le (show cells + 0 + 0 ≤ 600000 by omega), Nat.ble_eq_true_of_le (show slots + 0 + 0 ≤ 7302250 by omega)⟩ (fun _ => by rw [List.append_nil]) (fun r2 u2 hq2 H locs G => ?_)
  have e2 := hq2
  subst e2
  have T1 := T
  have G : kG D _ s ((fl [wMn kc ad μ, wFo kc ad fo, wC kc (ad 1) κ, wC kc (ad 2) ρ, wHi kc ad η, wKp kc ad kp, wLu kc (ad 5) (ad 1) lu, wMo kc (ad 6) (ad 1) (ad 7) σ, wE kc (ad 7) ε, wBp kc (ad 9) (ad 1) π, wSb kc ad β, pl]) ++ wM kc am τ) H _ := G
  refine lv_icmp_eq (tgt := 1302) E.ex E.by dL_law_445 (by decide) (fun _ => ?_) (fun hc => absurd rfl hc)
  refine W.widen (k := cells + 132) (n := slots + 1204) (by omega) (by omega) ?_
  exact IH _ _ _ _ _ _ _ _ _ _ _ _ _ _ _ _ _ ok C1 T1 G hl
set_option maxRecDepth 100000 in
set_option maxHeartbeats 8000000 in
theorem law_reaches (E : kE p s m meth c #[Value.ref b] code 4 RL nm wsL_law ret D (tyL kc)) (hX : va_X b L xs s s.heap) (hbl : b < s.heap.size) (hi : i + 6 ≤ L) (hL : L ≤ 3072) (hc : cells + 132 ≤ 600000) (hs : slots + 1204 ≤ 7302250) (ok : okA A) (C : CSt kc A μ fo κ ρ η kp β pl) (T : RSt A τ) (G : kG D (fun q => s.heap.size ≤ q) s (fl [wMn kc ad μ, wFo kc ad fo, wC kc (ad 1) κ, wC kc (ad 2) ρ, wHi kc ad η, wKp kc ad kp, wLu kc (ad 5) (ad 1) lu, wMo kc (ad 6) (ad 1) (ad 7) σ, wE kc (ad 7) ε, wBp kc (ad 9) (ad 1) π, wSb kc ad β, pl] ++ wM kc am τ) H locs) (hl : lv_has ls 4 [(3, .int (nI i)), (2, .ref (am 0)), (1, .ref (ad 0 0)), (0, .ref b)]) (IH : LGo p l e s m below meth c b i D kc ad am (cells + 132) (slots + 1204) QQ) : W p l e room_1 s m #[Value.ref b] below meth c H locs cells slots QQ (F0 m 450 ls []) := by
  refine lv_aload_n E.ex E.by dL_law_450 rfl (lv_at hl 2 rfl) ?_
  refine lv_aload_n E.ex E.by dL_law_451 rfl (lv_at hl 3 rfl) ?_
  refine lv_iload_n E.ex E.by dL_law_452 rfl (lv_at hl 0 rfl) ?_
  refine lv_iconst (v := 1) E.ex E.by dL_law_453 (by decide) ?_
  refine lv_iadd E.ex E.by dL_law_454 ?_
  refine lv_topi (fun y454 ey454 => ?_)
  have ey454 : y454 = nI (i + 1) := ey454.trans (nI_add i 1)
  subst ey454
  refine va_sld E.ex E.by hX hbl (Nat.not_le.mpr hbl) G.2.2.1 (vp_in_nI (show i + 1 < L by omega) (by omega)) dL_law_455 ?_
  refine k_cVi (n := 1) (X := []) (w := fl [wMn kc ad μ, wFo kc ad fo, wC kc (ad 1) κ, wC kc (ad 2) ρ, wHi kc ad η, wKp kc ad kp, wLu kc (ad 5) (ad 1) lu, wMo kc (ad 6) (ad 1) (ad 7) σ, wE kc (ad 7) ε, wBp kc (ad 9) (ad 1) π, wSb kc ad β, pl]) (Z := wM kc am τ) (wnew := (fun _ : Unit => (fl [wMn kc ad μ, wFo kc ad fo, wC kc (ad 1) κ, wC kc (ad 2) ρ, wHi kc ad η, wKp kc ad kp, wLu kc (ad 5) (ad 1) lu, wMo kc (ad 6) (ad 1) (ad 7) σ, wE kc (ad 7) ε, wBp kc (ad 9) (ad 1) π, wSb kc ad β, pl]) ++ wM kc am τ)) (As := [.int (xs (nI (i + 1)).toNatClampNeg)]) (rest := []) E rfl G (c_X11_reaches l D kc ad (xs (nI (i + 1)).toNatClampNeg) μ fo κ ρ η kp lu σ ε π β pl (fun r : Int32 => r = f_reaches A (xs (nI (i + 1)).toNatClampNeg)) (q11_reaches ok C rfl)) gL_law_X11_reaches rfl ⟨rfl, rfl⟩ hd_X11_reaches_v ⟨rfl, rfl⟩ 0 rfl rfl rfl hl rfl rfl dL_law_456 ⟨Nat.ble_eq_true_of_le (show cells + 0 ≤ 600000 by omega), Nat.ble_eq_true_of_le (show slots + 0 ≤ 7302250 by omega)⟩ (fun _ => rfl) (fun r1 u1 hq1 H locs G => ?_)
  have e1 := hq1
  subst e1
  have C1 := C
  have G : kG D _ s ((fl [wMn kc ad μ, wFo kc ad fo, wC kc (ad 1) κ, wC kc (ad 2) ρ, wHi kc ad η, wKp kc ad kp, wLu kc (ad 5) (ad 1) lu, wMo kc (ad 6) (ad 1) (ad 7) σ, wE kc (ad 7) ε, wBp kc (ad 9) (ad 1) π, wSb kc ad β, pl]) ++ wM kc am τ) H _ := G
  refine lv_aload_n E.ex E.by dL_law_459 rfl (lv_at hl 1 rfl) ?_
  refine lv_aload_n E.ex E.by dL_law_460 rfl (lv_at hl 3 rfl) ?_
  refine lv_iload_n E.ex E.by dL_law_461 rfl (lv_at hl 0 rfl) ?_
  refine lv_iconst (v := 1) E.ex E.by dL_law_462 (by decide) ?_
  refine lv_iadd E.ex E.by dL_law_463 ?_
  refine lv_topi (fun y463 ey463 => ?_)
  have ey463 : y463 = nI (i + 1) := ey463.trans (nI_add i 1)
  subst ey463
  refine va_sld E.ex E.by hX hbl (Nat.not_le.mpr hbl) G.2.2.1 (vp_in_nI (show i + 1 < L by omega) (by omega)) dL_law_464 ?_
  refine k_cVi (n := 1) (X := fl [wMn kc ad μ, wFo kc ad fo, wC kc (ad 1) κ, wC kc (ad 2) ρ, wHi kc ad η, wKp kc ad kp, wLu kc (ad 5) (ad 1) lu, wMo kc (ad 6) (ad 1) (ad 7) σ, wE kc (ad 7) ε, wBp kc (ad 9) (ad 1) π, wSb kc ad β, pl]) (w := wM kc am τ) (Z := []) (wnew := (fun _ : Unit => (fl [wMn kc ad μ, wFo kc ad fo, wC kc (ad 1) κ, wC kc (ad 2) ρ, wHi kc ad η, wKp kc ad kp, wLu kc (ad 5) (ad 1) lu, wMo kc (ad 6) (ad 1) (ad 7) σ, wE kc (ad 7) ε, wBp kc (ad 9) (ad 1) π, wSb kc ad β, pl]) ++ wM kc am τ)) (As := [.int (xs (nI (i + 1)).toNatClampNeg)]) (rest := [.int (f_reaches A (xs (nI (i + 1)).toNatClampNeg))]) E (by rw [List.append_nil]) G (c_X12_reaches l D kc am (xs (nI (i + 1)).toNatClampNeg) τ (fun r : Int32 => r = f_reaches A (xs (nI (i + 1)).toNatClampNeg)) (q12_reaches ok T rfl)) gL_law_X12_reaches rfl ⟨rfl, rfl⟩ hd_X12_reaches_v ⟨rfl, rfl⟩ 0 (gM_0 _ _ _) rfl rfl hl rfl rfl dL_law_465 ⟨Nat.ble_eq_true_of_le (show cells + 0 + 0 ≤ 600000 by omega), Nat.ble_eq_true_of_le (show slots + 0 + 0 ≤ 7302250 by omega)⟩ (fun _ => by rw [List.append_nil]) (fun r2 u2 hq2 H locs G => ?_)
  have e2 := hq2
  subst e2
  have T1 := T
  have G : kG D _ s ((fl [wMn kc ad μ, wFo kc ad fo, wC kc (ad 1) κ, wC kc (ad 2) ρ, wHi kc ad η, wKp kc ad kp, wLu kc (ad 5) (ad 1) lu, wMo kc (ad 6) (ad 1) (ad 7) σ, wE kc (ad 7) ε, wBp kc (ad 9) (ad 1) π, wSb kc ad β, pl]) ++ wM kc am τ) H _ := G
  refine lv_icmp_eq (tgt := 1302) E.ex E.by dL_law_468 (by decide) (fun _ => ?_) (fun hc => absurd rfl hc)
  refine W.widen (k := cells + 132) (n := slots + 1204) (by omega) (by omega) ?_
  exact IH _ _ _ _ _ _ _ _ _ _ _ _ _ _ _ _ _ ok C1 T1 G hl
set_option maxRecDepth 100000 in
set_option maxHeartbeats 8000000 in
theorem law_component (E : kE p s m meth c #[Value.ref b] code 4 RL nm wsL_law ret D (tyL kc)) (hX : va_X b L xs s s.heap) (hbl : b < s.heap.size) (hi : i + 6 ≤ L) (hL : L ≤ 3072) (hc : cells + 132 ≤ 600000) (hs : slots + 1204 ≤ 7302250) (ok : okA A) (C : CSt kc A μ fo κ ρ η kp β pl) (T : RSt A τ) (G : kG D (fun q => s.heap.size ≤ q) s (fl [wMn kc ad μ, wFo kc ad fo, wC kc (ad 1) κ, wC kc (ad 2) ρ, wHi kc ad η, wKp kc ad kp, wLu kc (ad 5) (ad 1) lu, wMo kc (ad 6) (ad 1) (ad 7) σ, wE kc (ad 7) ε, wBp kc (ad 9) (ad 1) π, wSb kc ad β, pl] ++ wM kc am τ) H locs) (hl : lv_has ls 4 [(3, .int (nI i)), (2, .ref (am 0)), (1, .ref (ad 0 0)), (0, .ref b)]) (IH : LGo p l e s m below meth c b i D kc ad am (cells + 132) (slots + 1204) QQ) : W p l e room_1 s m #[Value.ref b] below meth c H locs cells slots QQ (F0 m 473 ls []) := by
  refine lv_aload_n E.ex E.by dL_law_473 rfl (lv_at hl 2 rfl) ?_
  refine lv_aload_n E.ex E.by dL_law_474 rfl (lv_at hl 3 rfl) ?_
  refine lv_iload_n E.ex E.by dL_law_475 rfl (lv_at hl 0 rfl) ?_
  refine lv_iconst (v := 1) E.ex E.by dL_law_476 (by decide) ?_
  refine lv_iadd E.ex E.by dL_law_477 ?_
  refine lv_topi (fun y477 ey477 => ?_)
  have ey477 : y477 = nI (i + 1) := ey477.trans (nI_add i 1)
  subst ey477
  refine va_sld E.ex E.by hX hbl (Nat.not_le.mpr hbl) G.2.2.1 (vp_in_nI (show i + 1 < L by omega) (by omega)) dL_law_478 ?_
  refine k_cVi (n := 1) (X := []) (w := fl [wMn kc ad μ, wFo kc ad fo, wC kc (ad 1) κ, wC kc (ad 2) ρ, wHi kc ad η, wKp kc ad kp, wLu kc (ad 5) (ad 1) lu, wMo kc (ad 6) (ad 1) (ad 7) σ, wE kc (ad 7) ε, wBp kc (ad 9) (ad 1) π, wSb kc ad β, pl]) (Z := wM kc am τ) (wnew := (fun _ : Unit => (fl [wMn kc ad μ, wFo kc ad fo, wC kc (ad 1) κ, wC kc (ad 2) ρ, wHi kc ad η, wKp kc ad kp, wLu kc (ad 5) (ad 1) lu, wMo kc (ad 6) (ad 1) (ad 7) σ, wE kc (ad 7) ε, wBp kc (ad 9) (ad 1) π, wSb kc ad β, pl]) ++ wM kc am τ)) (As := [.int (xs (nI (i + 1)).toNatClampNeg)]) (rest := []) E rfl G (c_X11_component l D kc ad (xs (nI (i + 1)).toNatClampNeg) μ fo κ ρ η kp lu σ ε π β pl (fun r : Int32 => r = f_component A (xs (nI (i + 1)).toNatClampNeg)) (q11_component ok C rfl)) gL_law_X11_component rfl ⟨rfl, rfl⟩ hd_X11_component_v ⟨rfl, rfl⟩ 0 rfl rfl rfl hl rfl rfl dL_law_479 ⟨Nat.ble_eq_true_of_le (show cells + 0 ≤ 600000 by omega), Nat.ble_eq_true_of_le (show slots + 0 ≤ 7302250 by omega)⟩ (fun _ => rfl) (fun r1 u1 hq1 H locs G => ?_)
  have e1 := hq1
  subst e1
  have C1 := C
  have G : kG D _ s ((fl [wMn kc ad μ, wFo kc ad fo, wC kc (ad 1) κ, wC kc (ad 2) ρ, wHi kc ad η, wKp kc ad kp, wLu kc (ad 5) (ad 1) lu, wMo kc (ad 6) (ad 1) (ad 7) σ, wE kc (ad 7) ε, wBp kc (ad 9) (ad 1) π, wSb kc ad β, pl]) ++ wM kc am τ) H _ := G
  refine lv_aload_n E.ex E.by dL_law_482 rfl (lv_at hl 1 rfl) ?_
  refine lv_aload_n E.ex E.by dL_law_483 rfl (lv_at hl 3 rfl) ?_
  refine lv_iload_n E.ex E.by dL_law_484 rfl (lv_at hl 0 rfl) ?_
  refine lv_iconst (v := 1) E.ex E.by dL_law_485 (by decide) ?_
  refine lv_iadd E.ex E.by dL_law_486 ?_
  refine lv_topi (fun y486 ey486 => ?_)
  have ey486 : y486 = nI (i + 1) := ey486.trans (nI_add i 1)
  subst ey486
  refine va_sld E.ex E.by hX hbl (Nat.not_le.mpr hbl) G.2.2.1 (vp_in_nI (show i + 1 < L by omega) (by omega)) dL_law_487 ?_
  refine k_cVi (n := 1) (X := fl [wMn kc ad μ, wFo kc ad fo, wC kc (ad 1) κ, wC kc (ad 2) ρ, wHi kc ad η, wKp kc ad kp, wLu kc (ad 5) (ad 1) lu, wMo kc (ad 6) (ad 1) (ad 7) σ, wE kc (ad 7) ε, wBp kc (ad 9) (ad 1) π, wSb kc ad β, pl]) (w := wM kc am τ) (Z := []) (wnew := (fun _ : Unit => (fl [wMn kc ad μ, wFo kc ad fo, wC kc (ad 1) κ, wC kc (ad 2) ρ, wHi kc ad η, wKp kc ad kp, wLu kc (ad 5) (ad 1) lu, wMo kc (ad 6) (ad 1) (ad 7) σ, wE kc (ad 7) ε, wBp kc (ad 9) (ad 1) π, wSb kc ad β, pl]) ++ wM kc am τ)) (As := [.int (xs (nI (i + 1)).toNatClampNeg)]) (rest := [.int (f_component A (xs (nI (i + 1)).toNatClampNeg))]) E (by rw [List.append_nil]) G (c_X12_component l D kc am (xs (nI (i + 1)).toNatClampNeg) τ (fun r : Int32 => r = f_component A (xs (nI (i + 1)).toNatClampNeg)) (q12_component ok T rfl)) gL_law_X12_component rfl ⟨rfl, rfl⟩ hd_X12_component_v ⟨rfl, rfl⟩ 0 (gM_0 _ _ _) rfl rfl hl rfl rfl dL_law_488 ⟨Nat.ble_eq_true_of_le (show cells + 0 + 0 ≤ 600000 by omega), Nat.ble_eq_true_of_le (show slots + 0 + 0 ≤ 7302250 by omega)⟩ (fun _ => by rw [List.append_nil]) (fun r2 u2 hq2 H locs G => ?_)
  have e2 := hq2
  subst e2
  have T1 := T
  have G : kG D _ s ((fl [wMn kc ad μ, wFo kc ad fo, wC kc (ad 1) κ, wC kc (ad 2) ρ, wHi kc ad η, wKp kc ad kp, wLu kc (ad 5) (ad 1) lu, wMo kc (ad 6) (ad 1) (ad 7) σ, wE kc (ad 7) ε, wBp kc (ad 9) (ad 1) π, wSb kc ad β, pl]) ++ wM kc am τ) H _ := G
  refine lv_icmp_eq (tgt := 1302) E.ex E.by dL_law_491 (by decide) (fun _ => ?_) (fun hc => absurd rfl hc)
  refine W.widen (k := cells + 132) (n := slots + 1204) (by omega) (by omega) ?_
  exact IH _ _ _ _ _ _ _ _ _ _ _ _ _ _ _ _ _ ok C1 T1 G hl
set_option maxRecDepth 100000 in
set_option maxHeartbeats 8000000 in
theorem law_bottoms (E : kE p s m meth c #[Value.ref b] code 4 RL nm wsL_law ret D (tyL kc)) (hX : va_X b L xs s s.heap) (hbl : b < s.heap.size) (hi : i + 6 ≤ L) (hL : L ≤ 3072) (hc : cells + 132 ≤ 600000) (hs : slots + 1204 ≤ 7302250) (ok : okA A) (C : CSt kc A μ fo κ ρ η kp β pl) (T : RSt A τ) (G : kG D (fun q => s.heap.size ≤ q) s (fl [wMn kc ad μ, wFo kc ad fo, wC kc (ad 1) κ, wC kc (ad 2) ρ, wHi kc ad η, wKp kc ad kp, wLu kc (ad 5) (ad 1) lu, wMo kc (ad 6) (ad 1) (ad 7) σ, wE kc (ad 7) ε, wBp kc (ad 9) (ad 1) π, wSb kc ad β, pl] ++ wM kc am τ) H locs) (hl : lv_has ls 4 [(3, .int (nI i)), (2, .ref (am 0)), (1, .ref (ad 0 0)), (0, .ref b)]) (IH : LGo p l e s m below meth c b i D kc ad am (cells + 132) (slots + 1204) QQ) : W p l e room_1 s m #[Value.ref b] below meth c H locs cells slots QQ (F0 m 496 ls []) := by
  refine lv_aload_n E.ex E.by dL_law_496 rfl (lv_at hl 2 rfl) ?_
  refine k_cVi (n := 0) (X := []) (w := fl [wMn kc ad μ, wFo kc ad fo, wC kc (ad 1) κ, wC kc (ad 2) ρ, wHi kc ad η, wKp kc ad kp, wLu kc (ad 5) (ad 1) lu, wMo kc (ad 6) (ad 1) (ad 7) σ, wE kc (ad 7) ε, wBp kc (ad 9) (ad 1) π, wSb kc ad β, pl]) (Z := wM kc am τ) (wnew := (fun _ : Unit => (fl [wMn kc ad μ, wFo kc ad fo, wC kc (ad 1) κ, wC kc (ad 2) ρ, wHi kc ad η, wKp kc ad kp, wLu kc (ad 5) (ad 1) lu, wMo kc (ad 6) (ad 1) (ad 7) σ, wE kc (ad 7) ε, wBp kc (ad 9) (ad 1) π, wSb kc ad β, pl]) ++ wM kc am τ)) (As := []) (rest := []) E rfl G (c_X11_bottoms l D kc ad  μ fo κ ρ η kp lu σ ε π β pl (fun r : Int32 => r = f_bottoms A) (q11_bottoms ok C rfl)) gL_law_X11_bottoms rfl ⟨rfl, rfl⟩ hd_X11_bottoms_v ⟨rfl, rfl⟩ 0 rfl rfl rfl hl rfl rfl dL_law_497 ⟨Nat.ble_eq_true_of_le (show cells + 0 ≤ 600000 by omega), Nat.ble_eq_true_of_le (show slots + 0 ≤ 7302250 by omega)⟩ (fun _ => rfl) (fun r1 u1 hq1 H locs G => ?_)
  have e1 := hq1
  subst e1
  have C1 := C
  have G : kG D _ s ((fl [wMn kc ad μ, wFo kc ad fo, wC kc (ad 1) κ, wC kc (ad 2) ρ, wHi kc ad η, wKp kc ad kp, wLu kc (ad 5) (ad 1) lu, wMo kc (ad 6) (ad 1) (ad 7) σ, wE kc (ad 7) ε, wBp kc (ad 9) (ad 1) π, wSb kc ad β, pl]) ++ wM kc am τ) H _ := G
  refine lv_aload_n E.ex E.by dL_law_500 rfl (lv_at hl 1 rfl) ?_
  refine k_cVi (n := 0) (X := fl [wMn kc ad μ, wFo kc ad fo, wC kc (ad 1) κ, wC kc (ad 2) ρ, wHi kc ad η, wKp kc ad kp, wLu kc (ad 5) (ad 1) lu, wMo kc (ad 6) (ad 1) (ad 7) σ, wE kc (ad 7) ε, wBp kc (ad 9) (ad 1) π, wSb kc ad β, pl]) (w := wM kc am τ) (Z := []) (wnew := (fun _ : Unit => (fl [wMn kc ad μ, wFo kc ad fo, wC kc (ad 1) κ, wC kc (ad 2) ρ, wHi kc ad η, wKp kc ad kp, wLu kc (ad 5) (ad 1) lu, wMo kc (ad 6) (ad 1) (ad 7) σ, wE kc (ad 7) ε, wBp kc (ad 9) (ad 1) π, wSb kc ad β, pl]) ++ wM kc am τ)) (As := []) (rest := [.int (f_bottoms A)]) E (by rw [List.append_nil]) G (c_X12_bottoms l D kc am  τ (fun r : Int32 => r = f_bottoms A) (q12_bottomsA ok T rfl)) gL_law_X12_bottoms rfl ⟨rfl, rfl⟩ hd_X12_bottoms_v ⟨rfl, rfl⟩ 0 (gM_0 _ _ _) rfl rfl hl rfl rfl dL_law_501 ⟨Nat.ble_eq_true_of_le (show cells + 0 + 0 ≤ 600000 by omega), Nat.ble_eq_true_of_le (show slots + 0 + 0 ≤ 7302250 by omega)⟩ (fun _ => by rw [List.append_nil]) (fun r2 u2 hq2 H locs G => ?_)
  have e2 := hq2
  subst e2
  have T1 := T
  have G : kG D _ s ((fl [wMn kc ad μ, wFo kc ad fo, wC kc (ad 1) κ, wC kc (ad 2) ρ, wHi kc ad η, wKp kc ad kp, wLu kc (ad 5) (ad 1) lu, wMo kc (ad 6) (ad 1) (ad 7) σ, wE kc (ad 7) ε, wBp kc (ad 9) (ad 1) π, wSb kc ad β, pl]) ++ wM kc am τ) H _ := G
  refine lv_icmp_eq (tgt := 1302) E.ex E.by dL_law_504 (by decide) (fun _ => ?_) (fun hc => absurd rfl hc)
  refine W.widen (k := cells + 132) (n := slots + 1204) (by omega) (by omega) ?_
  exact IH _ _ _ _ _ _ _ _ _ _ _ _ _ _ _ _ _ ok C1 T1 G hl
set_option maxRecDepth 100000 in
set_option maxHeartbeats 8000000 in
theorem law_classCount (E : kE p s m meth c #[Value.ref b] code 4 RL nm wsL_law ret D (tyL kc)) (hX : va_X b L xs s s.heap) (hbl : b < s.heap.size) (hi : i + 6 ≤ L) (hL : L ≤ 3072) (hc : cells + 132 ≤ 600000) (hs : slots + 1204 ≤ 7302250) (ok : okA A) (C : CSt kc A μ fo κ ρ η kp β pl) (T : RSt A τ) (G : kG D (fun q => s.heap.size ≤ q) s (fl [wMn kc ad μ, wFo kc ad fo, wC kc (ad 1) κ, wC kc (ad 2) ρ, wHi kc ad η, wKp kc ad kp, wLu kc (ad 5) (ad 1) lu, wMo kc (ad 6) (ad 1) (ad 7) σ, wE kc (ad 7) ε, wBp kc (ad 9) (ad 1) π, wSb kc ad β, pl] ++ wM kc am τ) H locs) (hl : lv_has ls 4 [(3, .int (nI i)), (2, .ref (am 0)), (1, .ref (ad 0 0)), (0, .ref b)]) (IH : LGo p l e s m below meth c b i D kc ad am (cells + 132) (slots + 1204) QQ) : W p l e room_1 s m #[Value.ref b] below meth c H locs cells slots QQ (F0 m 509 ls []) := by
  refine lv_aload_n E.ex E.by dL_law_509 rfl (lv_at hl 2 rfl) ?_
  refine k_cVi (n := 0) (X := []) (w := fl [wMn kc ad μ, wFo kc ad fo, wC kc (ad 1) κ, wC kc (ad 2) ρ, wHi kc ad η, wKp kc ad kp, wLu kc (ad 5) (ad 1) lu, wMo kc (ad 6) (ad 1) (ad 7) σ, wE kc (ad 7) ε, wBp kc (ad 9) (ad 1) π, wSb kc ad β, pl]) (Z := wM kc am τ) (wnew := (fun u : US => (fl [wMn kc ad μ, wFo kc ad fo, wC kc (ad 1) κ, wC kc (ad 2) ρ, wHi kc ad η, wKp kc ad kp, wLu kc (ad 5) (ad 1) u, wMo kc (ad 6) (ad 1) (ad 7) σ, wE kc (ad 7) ε, wBp kc (ad 9) (ad 1) π, wSb kc ad β, pl]) ++ wM kc am τ)) (As := []) (rest := []) E rfl G (c_X11_classCount l D kc ad  μ fo κ ρ η kp lu σ ε π β pl (fun (r : Int32) (_ : US) => r = f_classCount A) (q11_classCount ok C (fun _ => rfl))) gL_law_X11_classCount rfl ⟨rfl, rfl⟩ hd_X11_classCount_v ⟨rfl, rfl⟩ 0 rfl rfl rfl hl rfl rfl dL_law_510 ⟨Nat.ble_eq_true_of_le (show cells + 0 ≤ 600000 by omega), Nat.ble_eq_true_of_le (show slots + 0 ≤ 7302250 by omega)⟩ (fun _ => rfl) (fun r1 u1 hq1 H locs G => ?_)
  have e1 := hq1
  subst e1
  have C1 := C
  have G : kG D _ s ((fl [wMn kc ad μ, wFo kc ad fo, wC kc (ad 1) κ, wC kc (ad 2) ρ, wHi kc ad η, wKp kc ad kp, wLu kc (ad 5) (ad 1) u1, wMo kc (ad 6) (ad 1) (ad 7) σ, wE kc (ad 7) ε, wBp kc (ad 9) (ad 1) π, wSb kc ad β, pl]) ++ wM kc am τ) H _ := G
  refine lv_aload_n E.ex E.by dL_law_513 rfl (lv_at hl 1 rfl) ?_
  refine k_cVi (n := 0) (X := fl [wMn kc ad μ, wFo kc ad fo, wC kc (ad 1) κ, wC kc (ad 2) ρ, wHi kc ad η, wKp kc ad kp, wLu kc (ad 5) (ad 1) u1, wMo kc (ad 6) (ad 1) (ad 7) σ, wE kc (ad 7) ε, wBp kc (ad 9) (ad 1) π, wSb kc ad β, pl]) (w := wM kc am τ) (Z := []) (wnew := (fun u : US => (fl [wMn kc ad μ, wFo kc ad fo, wC kc (ad 1) κ, wC kc (ad 2) ρ, wHi kc ad η, wKp kc ad kp, wLu kc (ad 5) (ad 1) u1, wMo kc (ad 6) (ad 1) (ad 7) σ, wE kc (ad 7) ε, wBp kc (ad 9) (ad 1) π, wSb kc ad β, pl]) ++ wM kc am u)) (As := []) (rest := [.int (f_classCount A)]) E (by rw [List.append_nil]) G (c_X12_classCount l D kc am  τ (fun (r : Int32) (u : US) => r = f_classCount A ∧ RSt A u) (q12_classCount ok T (fun _ T' => ⟨rfl, T'⟩))) gL_law_X12_classCount rfl ⟨rfl, rfl⟩ hd_X12_classCount_v ⟨rfl, rfl⟩ 0 (gM_0 _ _ _) rfl rfl hl rfl rfl dL_law_514 ⟨Nat.ble_eq_true_of_le (show cells + 0 + 0 ≤ 600000 by omega), Nat.ble_eq_true_of_le (show slots + 0 + 0 ≤ 7302250 by omega)⟩ (fun _ => by rw [List.append_nil]) (fun r2 u2 hq2 H locs G => ?_)
  obtain ⟨e2, T1⟩ := hq2
  subst e2
  have G : kG D _ s ((fl [wMn kc ad μ, wFo kc ad fo, wC kc (ad 1) κ, wC kc (ad 2) ρ, wHi kc ad η, wKp kc ad kp, wLu kc (ad 5) (ad 1) u1, wMo kc (ad 6) (ad 1) (ad 7) σ, wE kc (ad 7) ε, wBp kc (ad 9) (ad 1) π, wSb kc ad β, pl]) ++ wM kc am u2) H _ := G
  refine lv_icmp_eq (tgt := 1302) E.ex E.by dL_law_517 (by decide) (fun _ => ?_) (fun hc => absurd rfl hc)
  refine W.widen (k := cells + 132) (n := slots + 1204) (by omega) (by omega) ?_
  exact IH _ _ _ _ _ _ _ _ _ _ _ _ _ _ _ _ _ ok C1 T1 G hl
end LAWB
