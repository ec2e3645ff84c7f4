theorem hd_X11_addState_v : yX11_addState.cls = RX11 ∧ yX11_addState.cls ≠ "java/lang/invoke/MethodHandle" ∧ yX11_addState.cls ≠ "java/lang/invoke/VarHandle" ∧ (parseMethodDescriptor yX11_addState.desc).map (fun d => d.parameters.length) = some 0 := by decide +kernel
theorem hd_X12_addState_v : yX12_addState.cls = RX12 ∧ yX12_addState.cls ≠ "java/lang/invoke/MethodHandle" ∧ yX12_addState.cls ≠ "java/lang/invoke/VarHandle" ∧ (parseMethodDescriptor yX12_addState.desc).map (fun d => d.parameters.length) = some 0 := by decide +kernel
theorem hd_X11_removeState_v : yX11_removeState.cls = RX11 ∧ yX11_removeState.cls ≠ "java/lang/invoke/MethodHandle" ∧ yX11_removeState.cls ≠ "java/lang/invoke/VarHandle" ∧ (parseMethodDescriptor yX11_removeState.desc).map (fun d => d.parameters.length) = some 0 := by decide +kernel
theorem hd_X12_removeState_v : yX12_removeState.cls = RX12 ∧ yX12_removeState.cls ≠ "java/lang/invoke/MethodHandle" ∧ yX12_removeState.cls ≠ "java/lang/invoke/VarHandle" ∧ (parseMethodDescriptor yX12_removeState.desc).map (fun d => d.parameters.length) = some 0 := by decide +kernel
theorem hd_X11_stateCount_v : yX11_stateCount.cls = RX11 ∧ yX11_stateCount.cls ≠ "java/lang/invoke/MethodHandle" ∧ yX11_stateCount.cls ≠ "java/lang/invoke/VarHandle" ∧ (parseMethodDescriptor yX11_stateCount.desc).map (fun d => d.parameters.length) = some 0 := by decide +kernel
theorem hd_X12_stateCount_v : yX12_stateCount.cls = RX12 ∧ yX12_stateCount.cls ≠ "java/lang/invoke/MethodHandle" ∧ yX12_stateCount.cls ≠ "java/lang/invoke/VarHandle" ∧ (parseMethodDescriptor yX12_stateCount.desc).map (fun d => d.parameters.length) = some 0 := by decide +kernel
theorem hd_X11_setWeight_v : yX11_setWeight.cls = RX11 ∧ yX11_setWeight.cls ≠ "java/lang/invoke/MethodHandle" ∧ yX11_setWeight.cls ≠ "java/lang/invoke/VarHandle" ∧ (parseMethodDescriptor yX11_setWeight.desc).map (fun d => d.parameters.length) = some 3 := by decide +kernel
theorem hd_X12_setWeight_v : yX12_setWeight.cls = RX12 ∧ yX12_setWeight.cls ≠ "java/lang/invoke/MethodHandle" ∧ yX12_setWeight.cls ≠ "java/lang/invoke/VarHandle" ∧ (parseMethodDescriptor yX12_setWeight.desc).map (fun d => d.parameters.length) = some 3 := by decide +kernel
theorem hd_X11_weight_v : yX11_weight.cls = RX11 ∧ yX11_weight.cls ≠ "java/lang/invoke/MethodHandle" ∧ yX11_weight.cls ≠ "java/lang/invoke/VarHandle" ∧ (parseMethodDescriptor yX11_weight.desc).map (fun d => d.parameters.length) = some 2 := by decide +kernel
theorem hd_X12_weight_v : yX12_weight.cls = RX12 ∧ yX12_weight.cls ≠ "java/lang/invoke/MethodHandle" ∧ yX12_weight.cls ≠ "java/lang/invoke/VarHandle" ∧ (parseMethodDescriptor yX12_weight.desc).map (fun d => d.parameters.length) = some 2 := by decide +kernel
theorem hd_X11_sum_v : yX11_sum.cls = RX11 ∧ yX11_sum.cls ≠ "java/lang/invoke/MethodHandle" ∧ yX11_sum.cls ≠ "java/lang/invoke/VarHandle" ∧ (parseMethodDescriptor yX11_sum.desc).map (fun d => d.parameters.length) = some 1 := by decide +kernel
theorem hd_X12_sum_v : yX12_sum.cls = RX12 ∧ yX12_sum.cls ≠ "java/lang/invoke/MethodHandle" ∧ yX12_sum.cls ≠ "java/lang/invoke/VarHandle" ∧ (parseMethodDescriptor yX12_sum.desc).map (fun d => d.parameters.length) = some 1 := by decide +kernel
theorem hd_X11_setLabels_v : yX11_setLabels.cls = RX11 ∧ yX11_setLabels.cls ≠ "java/lang/invoke/MethodHandle" ∧ yX11_setLabels.cls ≠ "java/lang/invoke/VarHandle" ∧ (parseMethodDescriptor yX11_setLabels.desc).map (fun d => d.parameters.length) = some 2 := by decide +kernel
theorem hd_X12_setLabels_v : yX12_setLabels.cls = RX12 ∧ yX12_setLabels.cls ≠ "java/lang/invoke/MethodHandle" ∧ yX12_setLabels.cls ≠ "java/lang/invoke/VarHandle" ∧ (parseMethodDescriptor yX12_setLabels.desc).map (fun d => d.parameters.length) = some 2 := by decide +kernel
section LAWA
variable {p : Program} {l : Launch} {e : Env} {s : State} {m : MethodId} {below : List Frame} {meth : Method} {c : Code} {b L i : Nat} {xs : Nat → Int32} {D : va_G} {kc : Nat → ClassId} {ad : Nat → Nat → Nat} {am : Nat → Nat} {nm : String} {A : AB} {μ κ ρ η lu σ ε π τ : US} {fo : Nat → Option Nat} {kp : Nat → US} {β : SBT} {pl : va_W} {H : Heap} {locs : List Loc} {ls : Array Slot} {cells slots : Nat} {QQ : State → Prop}
set_option maxRecDepth 100000 in
set_option maxHeartbeats 8000000 in
theorem law_addState (E : kE p s m meth c #[Value.ref b] code 4 RL nm wsL_law ret D (tyL kc)) (hX : va_X b L xs s s.heap) (hbl : b < s.heap.size) (hi : i + 6 ≤ L) (hL : L ≤ 3072) (hc : cells + 132 ≤ 600000) (hs : slots + 1204 ≤ 7302250) (ok : okA A) (C : CSt kc A μ fo κ ρ η kp β pl) (T : RSt A τ) (G : kG D (fun q => s.heap.size ≤ q) s (fl [wMn kc ad μ, wFo kc ad fo, wC kc (ad 1) κ, wC kc (ad 2) ρ, wHi kc ad η, wKp kc ad kp, wLu kc (ad 5) (ad 1) lu, wMo kc (ad 6) (ad 1) (ad 7) σ, wE kc (ad 7) ε, wBp kc (ad 9) (ad 1) π, wSb kc ad β, pl] ++ wM kc am τ) H locs) (hl : lv_has ls 4 [(3, .int (nI i)), (2, .ref (am 0)), (1, .ref (ad 0 0)), (0, .ref b)]) (IH : LGo p l e s m below meth c b i D kc ad am (cells + 132) (slots + 1204) QQ) : W p l e room_1 s m #[Value.ref b] below meth c H locs cells slots QQ (F0 m 200 ls []) := by
  refine lv_aload_n E.ex E.by dL_law_200 rfl (lv_at hl 2 rfl) ?_
  refine k_cVi (n := 0) (X := []) (w := fl [wMn kc ad μ, wFo kc ad fo, wC kc (ad 1) κ, wC kc (ad 2) ρ, wHi kc ad η, wKp kc ad kp, wLu kc (ad 5) (ad 1) lu, wMo kc (ad 6) (ad 1) (ad 7) σ, wE kc (ad 7) ε, wBp kc (ad 9) (ad 1) π, wSb kc ad β, pl]) (Z := wM kc am τ) (wnew := (fun u : US × US × (Nat → US) => (fl [wMn kc ad μ, wFo kc ad fo, wC kc (ad 1) u.1, wC kc (ad 2) ρ, wHi kc ad u.2.1, wKp kc ad u.2.2, wLu kc (ad 5) (ad 1) lu, wMo kc (ad 6) (ad 1) (ad 7) σ, wE kc (ad 7) ε, wBp kc (ad 9) (ad 1) π, wSb kc ad β, pl]) ++ wM kc am τ)) (As := []) (rest := []) E rfl G (c_X11_addState l D kc ad  μ fo κ ρ η kp lu σ ε π β pl (fun (r : Int32) (u : US × US × (Nat → US)) => r = f_addState A ∧ CSt kc (g_addState A) μ fo u.1 ρ u.2.1 u.2.2 β pl) (q11_addState ok C (fun _ _ _ C' => ⟨rfl, C'⟩))) gL_law_X11_addState rfl ⟨rfl, rfl⟩ hd_X11_addState_v ⟨rfl, rfl⟩ 0 rfl rfl rfl hl rfl rfl dL_law_201 ⟨Nat.ble_eq_true_of_le (show cells + 0 ≤ 600000 by omega), Nat.ble_eq_true_of_le (show slots + 0 ≤ 7302250 by omega)⟩ (fun _ => rfl) (fun r1 u1 hq1 H locs G => ?_)
  obtain ⟨e1, C1⟩ := hq1
  subst e1
  have G : kG D _ s ((fl [wMn kc ad μ, wFo kc ad fo, wC kc (ad 1) u1.1, wC kc (ad 2) ρ, wHi kc ad u1.2.1, wKp kc ad u1.2.2, wLu kc (ad 5) (ad 1) lu, wMo kc (ad 6) (ad 1) (ad 7) σ, wE kc (ad 7) ε, wBp kc (ad 9) (ad 1) π, wSb kc ad β, pl]) ++ wM kc am τ) H _ := G
  refine lv_aload_n E.ex E.by dL_law_204 rfl (lv_at hl 1 rfl) ?_
  refine k_cVi (n := 0) (X := fl [wMn kc ad μ, wFo kc ad fo, wC kc (ad 1) u1.1, wC kc (ad 2) ρ, wHi kc ad u1.2.1, wKp kc ad u1.2.2, wLu kc (ad 5) (ad 1) lu, wMo kc (ad 6) (ad 1) (ad 7) σ, wE kc (ad 7) ε, wBp kc (ad 9) (ad 1) π, wSb kc ad β, pl]) (w := wM kc am τ) (Z := []) (wnew := (fun u : US => (fl [wMn kc ad μ, wFo kc ad fo, wC kc (ad 1) u1.1, wC kc (ad 2) ρ, wHi kc ad u1.2.1, wKp kc ad u1.2.2, wLu kc (ad 5) (ad 1) lu, wMo kc (ad 6) (ad 1) (ad 7) σ, wE kc (ad 7) ε, wBp kc (ad 9) (ad 1) π, wSb kc ad β, pl]) ++ wM kc am u)) (As := []) (rest := [.int (f_addState A)]) E (by rw [List.append_nil]) G (c_X12_addState l D kc am  τ (fun (r : Int32) (u : US) => r = f_addState A ∧ RSt (g_addState A) u) (q12_addState ok T (fun _ T' => ⟨rfl, T'⟩))) gL_law_X12_addState rfl ⟨rfl, rfl⟩ hd_X12_addState_v ⟨rfl, rfl⟩ 0 (gM_0 _ _ _) rfl rfl hl rfl rfl dL_law_205 ⟨Nat.ble_eq_true_of_le (show cells + 0 + 0 ≤ 600000 by omega), Nat.ble_eq_true_of_le (show slots + 0 + 0 ≤ 7302250 by omega)⟩ (fun _ => by rw [List.append_nil]) (fun r2 u2 hq2 H locs G => ?_)
  obtain ⟨e2, T1⟩ := hq2
  subst e2
  have G : kG D _ s ((fl [wMn kc ad μ, wFo kc ad fo, wC kc (ad 1) u1.1, wC kc (ad 2) ρ, wHi kc ad u1.2.1, wKp kc ad u1.2.2, wLu kc (ad 5) (ad 1) lu, wMo kc (ad 6) (ad 1) (ad 7) σ, wE kc (ad 7) ε, wBp kc (ad 9) (ad 1) π, wSb kc ad β, pl]) ++ wM kc am u2) H _ := G
  refine lv_icmp_eq (tgt := 1302) E.ex E.by dL_law_208 (by decide) (fun _ => ?_) (fun hc => absurd rfl hc)
  refine W.widen (k := cells + 132) (n := slots + 1204) (by omega) (by omega) ?_
  exact IH _ _ _ _ _ _ _ _ _ _ _ _ _ _ _ _ _ (ok_addState ok) C1 T1 G hl
set_option maxRecDepth 100000 in
set_option maxHeartbeats 8000000 in
theorem law_removeState (E : kE p s m meth c #[Value.ref b] code 4 RL nm wsL_law ret D (tyL kc)) (hX : va_X b L xs s s.heap) (hbl : b < s.heap.size) (hi : i + 6 ≤ L) (hL : L ≤ 3072) (hc : cells + 132 ≤ 600000) (hs : slots + 1204 ≤ 7302250) (ok : okA A) (C : CSt kc A μ fo κ ρ η kp β pl) (T : RSt A τ) (G : kG D (fun q => s.heap.size ≤ q) s (fl [wMn kc ad μ, wFo kc ad fo, wC kc (ad 1) κ, wC kc (ad 2) ρ, wHi kc ad η, wKp kc ad kp, wLu kc (ad 5) (ad 1) lu, wMo kc (ad 6) (ad 1) (ad 7) σ, wE kc (ad 7) ε, wBp kc (ad 9) (ad 1) π, wSb kc ad β, pl] ++ wM kc am τ) H locs) (hl : lv_has ls 4 [(3, .int (nI i)), (2, .ref (am 0)), (1, .ref (ad 0 0)), (0, .ref b)]) (IH : LGo p l e s m below meth c b i D kc ad am (cells + 132) (slots + 1204) QQ) : W p l e room_1 s m #[Value.ref b] below meth c H locs cells slots QQ (F0 m 213 ls []) := by
  refine lv_aload_n E.ex E.by dL_law_213 rfl (lv_at hl 2 rfl) ?_
  refine k_cVi (n := 0) (X := []) (w := fl [wMn kc ad μ, wFo kc ad fo, wC kc (ad 1) κ, wC kc (ad 2) ρ, wHi kc ad η, wKp kc ad kp, wLu kc (ad 5) (ad 1) lu, wMo kc (ad 6) (ad 1) (ad 7) σ, wE kc (ad 7) ε, wBp kc (ad 9) (ad 1) π, wSb kc ad β, pl]) (Z := wM kc am τ) (wnew := (fun u : US × US × (Nat → US) => (fl [wMn kc ad μ, wFo kc ad fo, wC kc (ad 1) u.1, wC kc (ad 2) ρ, wHi kc ad u.2.1, wKp kc ad u.2.2, wLu kc (ad 5) (ad 1) lu, wMo kc (ad 6) (ad 1) (ad 7) σ, wE kc (ad 7) ε, wBp kc (ad 9) (ad 1) π, wSb kc ad β, pl]) ++ wM kc am τ)) (As := []) (rest := []) E rfl G (c_X11_removeState l D kc ad  μ fo κ ρ η kp lu σ ε π β pl (fun (r : Int32) (u : US × US × (Nat → US)) => r = f_removeState A ∧ CSt kc (g_removeState A) μ fo u.1 ρ u.2.1 u.2.2 β pl) (q11_removeState ok C (fun _ _ _ C' => ⟨rfl, C'⟩))) gL_law_X11_removeState rfl ⟨rfl, rfl⟩ hd_X11_removeState_v ⟨rfl, rfl⟩ 0 rfl rfl rfl hl rfl rfl dL_law_214 ⟨Nat.ble_eq_true_of_le (show cells + 0 ≤ 600000 by omega), Nat.ble_eq_true_of_le (show slots + 0 ≤ 7302250 by omega)⟩ (fun _ => rfl) (fun r1 u1 hq1 H locs G => ?_)
  obtain ⟨e1, C1⟩ := hq1
  subst e1
  have G : kG D _ s ((fl [wMn kc ad μ, wFo kc ad fo, wC kc (ad 1) u1.1, wC kc (ad 2) ρ, wHi kc ad u1.2.1, wKp kc ad u1.2.2, wLu kc (ad 5) (ad 1) lu, wMo kc (ad 6) (ad 1) (ad 7) σ, wE kc (ad 7) ε, wBp kc (ad 9) (ad 1) π, wSb kc ad β, pl]) ++ wM kc am τ) H _ := G
  refine lv_aload_n E.ex E.by dL_law_217 rfl (lv_at hl 1 rfl) ?_
  refine k_cVi (n := 0) (X := fl [wMn kc ad μ, wFo kc ad fo, wC kc (ad 1) u1.1, wC kc (ad 2) ρ, wHi kc ad u1.2.1, wKp kc ad u1.2.2, wLu kc (ad 5) (ad 1) lu, wMo kc (ad 6) (ad 1) (ad 7) σ, wE kc (ad 7) ε, wBp kc (ad 9) (ad 1) π, wSb kc ad β, pl]) (w := wM kc am τ) (Z := []) (wnew := (fun u : US => (fl [wMn kc ad μ, wFo kc ad fo, wC kc (ad 1) u1.1, wC kc (ad 2) ρ, wHi kc ad u1.2.1, wKp kc ad u1.2.2, wLu kc (ad 5) (ad 1) lu, wMo kc (ad 6) (ad 1) (ad 7) σ, wE kc (ad 7) ε, wBp kc (ad 9) (ad 1) π, wSb kc ad β, pl]) ++ wM kc am u)) (As := []) (rest := [.int (f_removeState A)]) E (by rw [List.append_nil]) G (c_X12_removeState l D kc am  τ (fun (r : Int32) (u : US) => r = f_removeState A ∧ RSt (g_removeState A) u) (q12_removeState ok T (fun _ T' => ⟨rfl, T'⟩))) gL_law_X12_removeState rfl ⟨rfl, rfl⟩ hd_X12_removeState_v ⟨rfl, rfl⟩ 0 (gM_0 _ _ _) rfl rfl hl rfl rfl dL_law_218 ⟨Nat.ble_eq_true_of_le (show cells + 0 + 0 ≤ 600000 by omega), Nat.ble_eq_true_of_le (show slots + 0 + 0 ≤ 7302250 by omega)⟩ (fun _ => by rw [List.append_nil]) (fun r2 u2 hq2 H locs G => ?_)
  obtain ⟨e2, T1⟩ := hq2
  subst e2
  have G : kG D _ s ((fl [wMn kc ad μ, wFo kc ad fo, wC kc (ad 1) u1.1, wC kc (ad 2) ρ, wHi kc ad u1.2.1, wKp kc ad u1.2.2, wLu kc (ad 5) (ad 1) lu, wMo kc (ad 6) (ad 1) (ad 7) σ, wE kc (ad 7) ε, wBp kc (ad 9) (ad 1) π, wSb kc ad β, pl]) ++ wM kc am u2) H _ := G
  refine lv_icmp_eq (tgt := 1302) E.ex E.by dL_law_221 (by decide) (fun _ => ?_) (fun hc => absurd rfl hc)
  refine W.widen (k := cells + 132) (n := slots + 1204) (by omega) (by omega) ?_
  exact IH _ _ _ _ _ _ _ _ _ _ _ _ _ _ _ _ _ (ok_removeState ok) C1 T1 G hl
set_option maxRecDepth 100000 in
set_option maxHeartbeats 8000000 in
theorem law_stateCount (E : kE p s m meth c #[Value.ref b] code 4 RL nm wsL_law ret D (tyL kc)) (hX : va_X b L xs s s.heap) (hbl : b < s.heap.size) (hi : i + 6 ≤ L) (hL : L ≤ 3072) (hc : cells + 132 ≤ 600000) (hs : slots + 1204 ≤ 7302250) (ok : okA A) (C : CSt kc A μ fo κ ρ η kp β pl) (T : RSt A τ) (G : kG D (fun q => s.heap.size ≤ q) s (fl [wMn kc ad μ, wFo kc ad fo, wC kc (ad 1) κ, wC kc (ad 2) ρ, wHi kc ad η, wKp kc ad kp, wLu kc (ad 5) (ad 1) lu, wMo kc (ad 6) (ad 1) (ad 7) σ, wE kc (ad 7) ε, wBp kc (ad 9) (ad 1) π, wSb kc ad β, pl] ++ wM kc am τ) H locs) (hl : lv_has ls 4 [(3, .int (nI i)), (2, .ref (am 0)), (1, .ref (ad 0 0)), (0, .ref b)]) (IH : LGo p l e s m below meth c b i D kc ad am (cells + 132) (slots + 1204) QQ) : W p l e room_1 s m #[Value.ref b] below meth c H locs cells slots QQ (F0 m 226 ls []) := by
  refine lv_aload_n E.ex E.by dL_law_226 rfl (lv_at hl 2 rfl) ?_
  refine k_cVi (n := 0) (X := []) (w := fl [wMn kc ad μ, wFo kc ad fo, wC kc (ad 1) κ, wC kc (ad 2) ρ, wHi kc ad η, wKp kc ad kp, wLu kc (ad 5) (ad 1) lu, wMo kc (ad 6) (ad 1) (ad 7) σ, wE kc (ad 7) ε, wBp kc (ad 9) (ad 1) π, wSb kc ad β, pl]) (Z := wM kc am τ) (wnew := (fun _ : Unit => (fl [wMn kc ad μ, wFo kc ad fo, wC kc (ad 1) κ, wC kc (ad 2) ρ, wHi kc ad η, wKp kc ad kp, wLu kc (ad 5) (ad 1) lu, wMo kc (ad 6) (ad 1) (ad 7) σ, wE kc (ad 7) ε, wBp kc (ad 9) (ad 1) π, wSb kc ad β, pl]) ++ wM kc am τ)) (As := []) (rest := []) E rfl G (c_X11_stateCount l D kc ad  μ fo κ ρ η kp lu σ ε π β pl (fun r : Int32 => r = f_stateCount A) (q11_stateCount C rfl)) gL_law_X11_stateCount rfl ⟨rfl, rfl⟩ hd_X11_stateCount_v ⟨rfl, rfl⟩ 0 rfl rfl rfl hl rfl rfl dL_law_227 ⟨Nat.ble_eq_true_of_le (show cells + 0 ≤ 600000 by omega), Nat.ble_eq_true_of_le (show slots + 0 ≤ 7302250 by omega)⟩ (fun _ => rfl) (fun r1 u1 hq1 H locs G => ?_)
  have e1 := hq1
  subst e1
  have C1 := C
  have G : kG D _ s ((fl [wMn kc ad μ, wFo kc ad fo, wC kc (ad 1) κ, wC kc (ad 2) ρ, wHi kc ad η, wKp kc ad kp, wLu kc (ad 5) (ad 1) lu, wMo kc (ad 6) (ad 1) (ad 7) σ, wE kc (ad 7) ε, wBp kc (ad 9) (ad 1) π, wSb kc ad β, pl]) ++ wM kc am τ) H _ := G
  refine lv_aload_n E.ex E.by dL_law_230 rfl (lv_at hl 1 rfl) ?_
  refine k_cVi (n := 0) (X := fl [wMn kc ad μ, wFo kc ad fo, wC kc (ad 1) κ, wC kc (ad 2) ρ, wHi kc ad η, wKp kc ad kp, wLu kc (ad 5) (ad 1) lu, wMo kc (ad 6) (ad 1) (ad 7) σ, wE kc (ad 7) ε, wBp kc (ad 9) (ad 1) π, wSb kc ad β, pl]) (w := wM kc am τ) (Z := []) (wnew := (fun _ : Unit => (fl [wMn kc ad μ, wFo kc ad fo, wC kc (ad 1) κ, wC kc (ad 2) ρ, wHi kc ad η, wKp kc ad kp, wLu kc (ad 5) (ad 1) lu, wMo kc (ad 6) (ad 1) (ad 7) σ, wE kc (ad 7) ε, wBp kc (ad 9) (ad 1) π, wSb kc ad β, pl]) ++ wM kc am τ)) (As := []) (rest := [.int (f_stateCount A)]) E (by rw [List.append_nil]) G (c_X12_stateCount l D kc am  τ (fun r : Int32 => r = f_stateCount A) (q12_stateCount T rfl)) gL_law_X12_stateCount rfl ⟨rfl, rfl⟩ hd_X12_stateCount_v ⟨rfl, rfl⟩ 0 (gM_0 _ _ _) rfl rfl hl rfl rfl dL_law_231 ⟨Nat.ble_eq_true_of_le (show cells + 0 + 0 ≤ 600000 by omega), Nat.ble_eq_true_of_le (show slots + 0 + 0 ≤ 7302250 by omega)⟩ (fun _ => by rw [List.append_nil]) (fun r2 u2 hq2 H locs G => ?_)
  have e2 := hq2
  subst e2
  have T1 := T
  have G : kG D _ s ((fl [wMn kc ad μ, wFo kc ad fo, wC kc (ad 1) κ, wC kc (ad 2) ρ, wHi kc ad η, wKp kc ad kp, wLu kc (ad 5) (ad 1) lu, wMo kc (ad 6) (ad 1) (ad 7) σ, wE kc (ad 7) ε, wBp kc (ad 9) (ad 1) π, wSb kc ad β, pl]) ++ wM kc am τ) H _ := G
  refine lv_icmp_eq (tgt := 1302) E.ex E.by dL_law_234 (by decide) (fun _ => ?_) (fun hc => absurd rfl hc)
  refine W.widen (k := cells + 132) (n := slots + 1204) (by omega) (by omega) ?_
  exact IH _ _ _ _ _ _ _ _ _ _ _ _ _ _ _ _ _ ok C1 T1 G hl
set_option maxRecDepth 100000 in
set_option maxHeartbeats 8000000 in
theorem law_setWeight (E : kE p s m meth c #[Value.ref b] code 4 RL nm wsL_law ret D (tyL kc)) (hX : va_X b L xs s s.heap) (hbl : b < s.heap.size) (hi : i + 6 ≤ L) (hL : L ≤ 3072) (hc : cells + 132 ≤ 600000) (hs : slots + 1204 ≤ 7302250) (ok : okA A) (C : CSt kc A μ fo κ ρ η kp β pl) (T : RSt A τ) (G : kG D (fun q => s.heap.size ≤ q) s (fl [wMn kc ad μ, wFo kc ad fo, wC kc (ad 1) κ, wC kc (ad 2) ρ, wHi kc ad η, wKp kc ad kp, wLu kc (ad 5) (ad 1) lu, wMo kc (ad 6) (ad 1) (ad 7) σ, wE kc (ad 7) ε, wBp kc (ad 9) (ad 1) π, wSb kc ad β, pl] ++ wM kc am τ) H locs) (hl : lv_has ls 4 [(3, .int (nI i)), (2, .ref (am 0)), (1, .ref (ad 0 0)), (0, .ref b)]) (IH : LGo p l e s m below meth c b i D kc ad am (cells + 132) (slots + 1204) QQ) : W p l e room_1 s m #[Value.ref b] below meth c H locs cells slots QQ (F0 m 239 ls []) := by
  refine lv_aload_n E.ex E.by dL_law_239 rfl (lv_at hl 2 rfl) ?_
  refine lv_aload_n E.ex E.by dL_law_240 rfl (lv_at hl 3 rfl) ?_
  refine lv_iload_n E.ex E.by dL_law_241 rfl (lv_at hl 0 rfl) ?_
  refine lv_iconst (v := 1) E.ex E.by dL_law_242 (by decide) ?_
  refine lv_iadd E.ex E.by dL_law_243 ?_
  refine lv_topi (fun y243 ey243 => ?_)
  have ey243 : y243 = nI (i + 1) := ey243.trans (nI_add i 1)
  subst ey243
  refine va_sld E.ex E.by hX hbl (Nat.not_le.mpr hbl) G.2.2.1 (vp_in_nI (show i + 1 < L by omega) (by omega)) dL_law_244 ?_
  refine lv_aload_n E.ex E.by dL_law_245 rfl (lv_at hl 3 rfl) ?_
  refine lv_iload_n E.ex E.by dL_law_246 rfl (lv_at hl 0 rfl) ?_
  refine lv_iconst (v := 2) E.ex E.by dL_law_247 (by decide) ?_
  refine lv_iadd E.ex E.by dL_law_248 ?_
  refine lv_topi (fun y248 ey248 => ?_)
  have ey248 : y248 = nI (i + 2) := ey248.trans (nI_add i 2)
  subst ey248
  refine va_sld E.ex E.by hX hbl (Nat.not_le.mpr hbl) G.2.2.1 (vp_in_nI (show i + 2 < L by omega) (by omega)) dL_law_249 ?_
  refine lv_aload_n E.ex E.by dL_law_250 rfl (lv_at hl 3 rfl) ?_
  refine lv_iload_n E.ex E.by dL_law_251 rfl (lv_at hl 0 rfl) ?_
  refine lv_iconst (v := 3) E.ex E.by dL_law_252 (by decide) ?_
  refine lv_iadd E.ex E.by dL_law_253 ?_
  refine lv_topi (fun y253 ey253 => ?_)
  have ey253 : y253 = nI (i + 3) := ey253.trans (nI_add i 3)
  subst ey253
  refine va_sld E.ex E.by hX hbl (Nat.not_le.mpr hbl) G.2.2.1 (vp_in_nI (show i + 3 < L by omega) (by omega)) dL_law_254 ?_
  refine k_cVi (n := 3) (X := []) (w := fl [wMn kc ad μ, wFo kc ad fo, wC kc (ad 1) κ, wC kc (ad 2) ρ, wHi kc ad η, wKp kc ad kp, wLu kc (ad 5) (ad 1) lu, wMo kc (ad 6) (ad 1) (ad 7) σ, wE kc (ad 7) ε, wBp kc (ad 9) (ad 1) π, wSb kc ad β, pl]) (Z := wM kc am τ) (wnew := (fun u : US × US × (Nat → US) => (fl [wMn kc ad μ, wFo kc ad fo, wC kc (ad 1) u.1, wC kc (ad 2) ρ, wHi kc ad u.2.1, wKp kc ad u.2.2, wLu kc (ad 5) (ad 1) lu, wMo kc (ad 6) (ad 1) (ad 7) σ, wE kc (ad 7) ε, wBp kc (ad 9) (ad 1) π, wSb kc ad β, pl]) ++ wM kc am τ)) (As := [.int (xs (nI (i + 1)).toNatClampNeg), .int (xs (nI (i + 2)).toNatClampNeg), .int (xs (nI (i + 3)).toNatClampNeg)]) (rest := []) E rfl G (c_X11_setWeight l D kc ad (xs (nI (i + 1)).toNatClampNeg) (xs (nI (i + 2)).toNatClampNeg) (xs (nI (i + 3)).toNatClampNeg) μ fo κ ρ η kp lu σ ε π β pl (fun (r : Int32) (u : US × US × (Nat → US)) => r = f_setWeight A (xs (nI (i + 1)).toNatClampNeg) (xs (nI (i + 2)).toNatClampNeg) (xs (nI (i + 3)).toNatClampNeg) ∧ CSt kc (g_setWeight A (xs (nI (i + 1)).toNatClampNeg) (xs (nI (i + 2)).toNatClampNeg) (xs (nI (i + 3)).toNatClampNeg)) μ fo u.1 ρ u.2.1 u.2.2 β pl) (q11_setWeight ok C (fun _ _ _ C' => ⟨rfl, C'⟩))) gL_law_X11_setWeight rfl ⟨rfl, rfl⟩ hd_X11_setWeight_v ⟨rfl, rfl⟩ 0 rfl rfl rfl hl rfl rfl dL_law_255 ⟨Nat.ble_eq_true_of_le (show cells + 0 ≤ 600000 by omega), Nat.ble_eq_true_of_le (show slots + 0 ≤ 7302250 by omega)⟩ (fun _ => rfl) (fun r1 u1 hq1 H locs G => ?_)
  obtain ⟨e1, C1⟩ := hq1
  subst e1
  have G : kG D _ s ((fl [wMn kc ad μ, wFo kc ad fo, wC kc (ad 1) u1.1, wC kc (ad 2) ρ, wHi kc ad u1.2.1, wKp kc ad u1.2.2, wLu kc (ad 5) (ad 1) lu, wMo kc (ad 6) (ad 1) (ad 7) σ, wE kc (ad 7) ε, wBp kc (ad 9) (ad 1) π, wSb kc ad β, pl]) ++ wM kc am τ) H _ := G
  refine lv_aload_n E.ex E.by dL_law_258 rfl (lv_at hl 1 rfl) ?_
  refine lv_aload_n E.ex E.by dL_law_259 rfl (lv_at hl 3 rfl) ?_
  refine lv_iload_n E.ex E.by dL_law_260 rfl (lv_at hl 0 rfl) ?_
  refine lv_iconst (v := 1) E.ex E.by dL_law_261 (by decide) ?_
  refine lv_iadd E.ex E.by dL_law_262 ?_
  refine lv_topi (fun y262 ey262 => ?_)
  have ey262 : y262 = nI (i + 1) := ey262.trans (nI_add i 1)
  subst ey262
  refine va_sld E.ex E.by hX hbl (Nat.not_le.mpr hbl) G.2.2.1 (vp_in_nI (show i + 1 < L by omega) (by omega)) dL_law_263 ?_
  refine lv_aload_n E.ex E.by dL_law_264 rfl (lv_at hl 3 rfl) ?_
  refine lv_iload_n E.ex E.by dL_law_265 rfl (lv_at hl 0 rfl) ?_
  refine lv_iconst (v := 2) E.ex E.by dL_law_266 (by decide) ?_
  refine lv_iadd E.ex E.by dL_law_267 ?_
  refine lv_topi (fun y267 ey267 => ?_)
  have ey267 : y267 = nI (i + 2) := ey267.trans (nI_add i 2)
  subst ey267
  refine va_sld E.ex E.by hX hbl (Nat.not_le.mpr hbl) G.2.2.1 (vp_in_nI (show i + 2 < L by omega) (by omega)) dL_law_268 ?_
  refine lv_aload_n E.ex E.by dL_law_269 rfl (lv_at hl 3 rfl) ?_
  refine lv_iload_n E.ex E.by dL_law_270 rfl (lv_at hl 0 rfl) ?_
  refine lv_iconst (v := 3) E.ex E.by dL_law_271 (by decide) ?_
  refine lv_iadd E.ex E.by dL_law_272 ?_
  refine lv_topi (fun y272 ey272 => ?_)
  have ey272 : y272 = nI (i + 3) := ey272.trans (nI_add i 3)
  subst ey272
  refine va_sld E.ex E.by hX hbl (Nat.not_le.mpr hbl) G.2.2.1 (vp_in_nI (show i + 3 < L by omega) (by omega)) dL_law_273 ?_
  refine k_cVi (n := 3) (X := fl [wMn kc ad μ, wFo kc ad fo, wC kc (ad 1) u1.1, wC kc (ad 2) ρ, wHi kc ad u1.2.1, wKp kc ad u1.2.2, wLu kc (ad 5) (ad 1) lu, wMo kc (ad 6) (ad 1) (ad 7) σ, wE kc (ad 7) ε, wBp kc (ad 9) (ad 1) π, wSb kc ad β, pl]) (w := wM kc am τ) (Z := []) (wnew := (fun u : US => (fl [wMn kc ad μ, wFo kc ad fo, wC kc (ad 1) u1.1, wC kc (ad 2) ρ, wHi kc ad u1.2.1, wKp kc ad u1.2.2, wLu kc (ad 5) (ad 1) lu, wMo kc (ad 6) (ad 1) (ad 7) σ, wE kc (ad 7) ε, wBp kc (ad 9) (ad 1) π, wSb kc ad β, pl]) ++ wM kc am u)) (As := [.int (xs (nI (i + 1)).toNatClampNeg), .int (xs (nI (i + 2)).toNatClampNeg), .int (xs (nI (i + 3)).toNatClampNeg)]) (rest := [.int (f_setWeight A (xs (nI (i + 1)).toNatClampNeg) (xs (nI (i + 2)).toNatClampNeg) (xs (nI (i + 3)).toNatClampNeg))]) E (by rw [List.append_nil]) G (c_X12_setWeight l D kc am (xs (nI (i + 1)).toNatClampNeg) (xs (nI (i + 2)).toNatClampNeg) (xs (nI (i + 3)).toNatClampNeg) τ (fun (r : Int32) (u : US) => r = f_setWeight A (xs (nI (i + 1)).toNatClampNeg) (xs (nI (i + 2)).toNatClampNeg) (xs (nI (i + 3)).toNatClampNeg) ∧ RSt (g_setWeight A (xs (nI (i + 1)).toNatClampNeg) (xs (nI (i + 2)).toNatClampNeg) (xs (nI (i + 3)).toNatClampNeg)) u) (q12_setWeight ok T (fun _ T' => ⟨rfl, T'⟩))) gL_law_X12_setWeight rfl ⟨rfl, rfl⟩ hd_X12_setWeight_v ⟨rfl, rfl⟩ 0 (gM_0 _ _ _) rfl rfl hl rfl rfl dL_law_274 ⟨Nat.ble_eq_true_of_le (show cells + 0 + 0 ≤ 600000 by omega), Nat.ble_eq_true_of_le (show slots + 0 + 0 ≤ 7302250 by omega)⟩ (fun _ => by rw [List.append_nil]) (fun r2 u2 hq2 H locs G => ?_)
  obtain ⟨e2, T1⟩ := hq2
  subst e2
  have G : kG D _ s ((fl [wMn kc ad μ, wFo kc ad fo, wC kc (ad 1) u1.1, wC kc (ad 2) ρ, wHi kc ad u1.2.1, wKp kc ad u1.2.2, wLu kc (ad 5) (ad 1) lu, wMo kc (ad 6) (ad 1) (ad 7) σ, wE kc (ad 7) ε, wBp kc (ad 9) (ad 1) π, wSb kc ad β, pl]) ++ wM kc am u2) H _ := G
  refine lv_icmp_eq (tgt := 1302) E.ex E.by dL_law_277 (by decide) (fun _ => ?_) (fun hc => absurd rfl hc)
  refine W.widen (k := cells + 132) (n := slots + 1204) (by omega) (by omega) ?_
  exact IH _ _ _ _ _ _ _ _ _ _ _ _ _ _ _ _ _ (ok_setWeight ok) C1 T1 G hl
set_option maxRecDepth 100000 in
set_option maxHeartbeats 8000000 in
theorem law_weight (E : kE p s m meth c #[Value.ref b] code 4 RL nm wsL_law ret D (tyL kc)) (hX : va_X b L xs s s.heap) (hbl : b < s.heap.size) (hi : i + 6 ≤ L) (hL : L ≤ 3072) (hc : cells + 132 ≤ 600000) (hs : slots + 1204 ≤ 7302250) (ok : okA A) (C : CSt kc A μ fo κ ρ η kp β pl) (T : RSt A τ) (G : kG D (fun q => s.heap.size ≤ q) s (fl [wMn kc ad μ, wFo kc ad fo, wC kc (ad 1) κ, wC kc (ad 2) ρ, wHi kc ad η, wKp kc ad kp, wLu kc (ad 5) (ad 1) lu, wMo kc (ad 6) (ad 1) (ad 7) σ, wE kc (ad 7) ε, wBp kc (ad 9) (ad 1) π, wSb kc ad β, pl] ++ wM kc am τ) H locs) (hl : lv_has ls 4 [(3, .int (nI i)), (2, .ref (am 0)), (1, .ref (ad 0 0)), (0, .ref b)]) (IH : LGo p l e s m below meth c b i D kc ad am (cells + 132) (slots + 1204) QQ) : W p l e room_1 s m #[Value.ref b] below meth c H locs cells slots QQ (F0 m 282 ls []) := by
  refine lv_aload_n E.ex E.by dL_law_282 rfl (lv_at hl 2 rfl) ?_
  refine lv_aload_n E.ex E.by dL_law_283 rfl (lv_at hl 3 rfl) ?_
  refine lv_iload_n E.ex E.by dL_law_284 rfl (lv_at hl 0 rfl) ?_
  refine lv_iconst (v := 1) E.ex E.by dL_law_285 (by decide) ?_
  refine lv_iadd E.ex E.by dL_law_286 ?_
  refine lv_topi (fun y286 ey286 => ?_)
  have ey286 : y286 = nI (i + 1) := ey286.trans (nI_add i 1)
  subst ey286
  refine va_sld E.ex E.by hX hbl (Nat.not_le.mpr hbl) G.2.2.1 (vp_in_nI (show i + 1 < L by omega) (by omega)) dL_law_287 ?_
  refine lv_aload_n E.ex E.by dL_law_288 rfl (lv_at hl 3 rfl) ?_
  refine lv_iload_n E.ex E.by dL_law_289 rfl (lv_at hl 0 rfl) ?_
  refine lv_iconst (v := 2) E.ex E.by dL_law_290 (by decide) ?_
  refine lv_iadd E.ex E.by dL_law_291 ?_
  refine lv_topi (fun y291 ey291 => ?_)
  have ey291 : y291 = nI (i + 2) := ey291.trans (nI_add i 2)
  subst ey291
  refine va_sld E.ex E.by hX hbl (Nat.not_le.mpr hbl) G.2.2.1 (vp_in_nI (show i + 2 < L by omega) (by omega)) dL_law_292 ?_
  refine k_cVi (n := 2) (X := []) (w := fl [wMn kc ad μ, wFo kc ad fo, wC kc (ad 1) κ, wC kc (ad 2) ρ, wHi kc ad η, wKp kc ad kp, wLu kc (ad 5) (ad 1) lu, wMo kc (ad 6) (ad 1) (ad 7) σ, wE kc (ad 7) ε, wBp kc (ad 9) (ad 1) π, wSb kc ad β, pl]) (Z := wM kc am τ) (wnew := (fun _ : Unit => (fl [wMn kc ad μ, wFo kc ad fo, wC kc (ad 1) κ, wC kc (ad 2) ρ, wHi kc ad η, wKp kc ad kp, wLu kc (ad 5) (ad 1) lu, wMo kc (ad 6) (ad 1) (ad 7) σ, wE kc (ad 7) ε, wBp kc (ad 9) (ad 1) π, wSb kc ad β, pl]) ++ wM kc am τ)) (As := [.int (xs (nI (i + 1)).toNatClampNeg), .int (xs (nI (i + 2)).toNatClampNeg)]) (rest := []) E rfl G (c_X11_weight l D kc ad (xs (nI (i + 1)).toNatClampNeg) (xs (nI (i + 2)).toNatClampNeg) μ fo κ ρ η kp lu σ ε π β pl (fun r : Int32 => r = f_weight A (xs (nI (i + 1)).toNatClampNeg) (xs (nI (i + 2)).toNatClampNeg)) (q11_weight ok C rfl)) gL_law_X11_weight rfl ⟨rfl, rfl⟩ hd_X11_weight_v ⟨rfl, rfl⟩ 0 rfl rfl rfl hl rfl rfl dL_law_293 ⟨Nat.ble_eq_true_of_le (show cells + 0 ≤ 600000 by omega), Nat.ble_eq_true_of_le (show slots + 0 ≤ 7302250 by omega)⟩ (fun _ => rfl) (fun r1 u1 hq1 H locs G => ?_)
  have e1 := hq1
  subst e1
  have C1 := C
  have G : kG D _ s ((fl [wMn kc ad μ, wFo kc ad fo, wC kc (ad 1) κ, wC kc (ad 2) ρ, wHi kc ad η, wKp kc ad kp, wLu kc (ad 5) (ad 1) lu, wMo kc (ad 6) (ad 1) (ad 7) σ, wE kc (ad 7) ε, wBp kc (ad 9) (ad 1) π, wSb kc ad β, pl]) ++ wM kc am τ) H _ := G
  refine lv_aload_n E.ex E.by dL_law_296 rfl (lv_at hl 1 rfl) ?_
  refine lv_aload_n E.ex E.by dL_law_297 rfl (lv_at hl 3 rfl) ?_
  refine lv_iload_n E.ex E.by dL_law_298 rfl (lv_at hl 0 rfl) ?_
  refine lv_iconst (v := 1) E.ex E.by dL_law_299 (by decide) ?_
  refine lv_iadd E.ex E.by dL_law_300 ?_
  refine lv_topi (fun y300 ey300 => ?_)
  have ey300 : y300 = nI (i + 1) := ey300.trans (nI_add i 1)
  subst ey300
  refine va_sld E.ex E.by hX hbl (Nat.not_le.mpr hbl) G.2.2.1 (vp_in_nI (show i + 1 < L by omega) (by omega)) dL_law_301 ?_
  refine lv_aload_n E.ex E.by dL_law_302 rfl (lv_at hl 3 rfl) ?_
  refine lv_iload_n E.ex E.by dL_law_303 rfl (lv_at hl 0 rfl) ?_
  refine lv_iconst (v := 2) E.ex E.by dL_law_304 (by decide) ?_
  refine lv_iadd E.ex E.by dL_law_305 ?_
  refine lv_topi (fun y305 ey305 => ?_)
  have ey305 : y305 = nI (i + 2) := ey305.trans (nI_add i 2)
  subst ey305
  refine va_sld E.ex E.by hX hbl (Nat.not_le.mpr hbl) G.2.2.1 (vp_in_nI (show i + 2 < L by omega) (by omega)) dL_law_306 ?_
  refine k_cVi (n := 2) (X := fl [wMn kc ad μ, wFo kc ad fo, wC kc (ad 1) κ, wC kc (ad 2) ρ, wHi kc ad η, wKp kc ad kp, wLu kc (ad 5) (ad 1) lu, wMo kc (ad 6) (ad 1) (ad 7) σ, wE kc (ad 7) ε, wBp kc (ad 9) (ad 1) π, wSb kc ad β, pl]) (w := wM kc am τ) (Z := []) (wnew := (fun _ : Unit => (fl [wMn kc ad μ, wFo kc ad fo, wC kc (ad 1) κ, wC kc (ad 2) ρ, wHi kc ad η, wKp kc ad kp, wLu kc (ad 5) (ad 1) lu, wMo kc (ad 6) (ad 1) (ad 7) σ, wE kc (ad 7) ε, wBp kc (ad 9) (ad 1) π, wSb kc ad β, pl]) ++ wM kc am τ)) (As := [.int (xs (nI (i + 1)).toNatClampNeg), .int (xs (nI (i + 2)).toNatClampNeg)]) (rest := [.int (f_weight A (xs (nI (i + 1)).toNatClampNeg) (xs (nI (i + 2)).toNatClampNeg))]) E (by rw [List.append_nil]) G (c_X12_weight l D kc am (xs (nI (i + 1)).toNatClampNeg) (xs (nI (i + 2)).toNatClampNeg) τ (fun r : Int32 => r = f_weight A (xs (nI (i + 1)).toNatClampNeg) (xs (nI (i + 2)).toNatClampNeg)) (q12_weight ok T rfl)) gL_law_X12_weight rfl ⟨rfl, rfl⟩ hd_X12_weight_v ⟨rfl, rfl⟩ 0 (gM_0 _ _ _) rfl rfl hl rfl rfl dL_law_307 ⟨Nat.ble_eq_true_of_le (show cells + 0 + 0 ≤ 600000 by omega), Nat.ble_eq_true_of_le (show slots + 0 + 0 ≤ 7302250 by omega)⟩ (fun _ => by rw [List.append_nil]) (fun r2 u2 hq2 H locs G => ?_)
  have e2 := hq2
  subst e2
  have T1 := T
  have G : kG D _ s ((fl [wMn kc ad μ, wFo kc ad fo, wC kc (ad 1) κ, wC kc (ad 2) ρ, wHi kc ad η, wKp kc ad kp, wLu kc (ad 5) (ad 1) lu, wMo kc (ad 6) (ad 1) (ad 7) σ, wE kc (ad 7) ε, wBp kc (ad 9) (ad 1) π, wSb kc ad β, pl]) ++ wM kc am τ) H _ := G
  refine lv_icmp_eq (tgt := 1302) E.ex E.by dL_law_310 (by decide) (fun _ => ?_) (fun hc => absurd rfl hc)
  refine W.widen (k := cells + 132) (n := slots + 1204) (by omega) (by omega) ?_
  exact IH _ _ _ _ _ _ _ _ _ _ _ _ _ _ _ _ _ ok C1 T1 G hl
set_option maxRecDepth 100000 in
set_option maxHeartbeats 8000000 in
theorem law_sum (E : kE p s m meth c #[Value.ref b] code 4 RL nm wsL_law ret D (tyL kc)) (hX : va_X b L xs s s.heap) (hbl : b < s.heap.size) (hi : i + 6 ≤ L) (hL : L ≤ 3072) (hc : cells + 132 ≤ 600000) (hs : slots + 1204 ≤ 7302250) (ok : okA A) (C : CSt kc A μ fo κ ρ η kp β pl) (T : RSt A τ) (G : kG D (fun q => s.heap.size ≤ q) s (fl [wMn kc ad μ, wFo kc ad fo, wC kc (ad 1) κ, wC kc (ad 2) ρ, wHi kc ad η, wKp kc ad kp, wLu kc (ad 5) (ad 1) lu, wMo kc (ad 6) (ad 1) (ad 7) σ, wE kc (ad 7) ε, wBp kc (ad 9) (ad 1) π, wSb kc ad β, pl] ++ wM kc am τ) H locs) (hl : lv_has ls 4 [(3, .int (nI i)), (2, .ref (am 0)), (1, .ref (ad 0 0)), (0, .ref b)]) (IH : LGo p l e s m below meth c b i D kc ad am (cells + 132) (slots + 1204) QQ) : W p l e room_1 s m #[Value.ref b] below meth c H locs cells slots QQ (F0 m 315 ls []) := by
  refine lv_aload_n E.ex E.by dL_law_315 rfl (lv_at hl 2 rfl) ?_
  refine lv_aload_n E.ex E.by dL_law_316 rfl (lv_at hl 3 rfl) ?_
  refine lv_iload_n E.ex E.by dL_law_317 rfl (lv_at hl 0 rfl) ?_
  refine lv_iconst (v := 1) E.ex E.by dL_law_318 (by decide) ?_
  refine lv_iadd E.ex E.by dL_law_319 ?_
  refine lv_topi (fun y319 ey319 => ?_)
  have ey319 : y319 = nI (i + 1) := ey319.trans (nI_add i 1)
  subst ey319
  refine va_sld E.ex E.by hX hbl (Nat.not_le.mpr hbl) G.2.2.1 (vp_in_nI (show i + 1 < L by omega) (by omega)) dL_law_320 ?_
  refine k_cVi (n := 1) (X := []) (w := fl [wMn kc ad μ, wFo kc ad fo, wC kc (ad 1) κ, wC kc (ad 2) ρ, wHi kc ad η, wKp kc ad kp, wLu kc (ad 5) (ad 1) lu, wMo kc (ad 6) (ad 1) (ad 7) σ, wE kc (ad 7) ε, wBp kc (ad 9) (ad 1) π, wSb kc ad β, pl]) (Z := wM kc am τ) (wnew := (fun _ : Unit => (fl [wMn kc ad μ, wFo kc ad fo, wC kc (ad 1) κ, wC kc (ad 2) ρ, wHi kc ad η, wKp kc ad kp, wLu kc (ad 5) (ad 1) lu, wMo kc (ad 6) (ad 1) (ad 7) σ, wE kc (ad 7) ε, wBp kc (ad 9) (ad 1) π, wSb kc ad β, pl]) ++ wM kc am τ)) (As := [.int (xs (nI (i + 1)).toNatClampNeg)]) (rest := []) E rfl G (c_X11_sum l D kc ad (xs (nI (i + 1)).toNatClampNeg) μ fo κ ρ η kp lu σ ε π β pl (fun r : Int32 => r = f_sum A (xs (nI (i + 1)).toNatClampNeg)) (q11_sum ok C rfl)) gL_law_X11_sum rfl ⟨rfl, rfl⟩ hd_X11_sum_v ⟨rfl, rfl⟩ 0 rfl rfl rfl hl rfl rfl dL_law_321 ⟨Nat.ble_eq_true_of_le (show cells + 0 ≤ 600000 by omega), Nat.ble_eq_true_of_le (show slots + 0 ≤ 7302250 by omega)⟩ (fun _ => rfl) (fun r1 u1 hq1 H locs G => ?_)
  have e1 := hq1
  subst e1
  have C1 := C
  have G : kG D _ s ((fl [wMn kc ad μ, wFo kc ad fo, wC kc (ad 1) κ, wC kc (ad 2) ρ, wHi kc ad η, wKp kc ad kp, wLu kc (ad 5) (ad 1) lu, wMo kc (ad 6) (ad 1) (ad 7) σ, wE kc (ad 7) ε, wBp kc (ad 9) (ad 1) π, wSb kc ad β, pl]) ++ wM kc am τ) H _ := G
  refine lv_aload_n E.ex E.by dL_law_324 rfl (lv_at hl 1 rfl) ?_
  refine lv_aload_n E.ex E.by dL_law_325 rfl (lv_at hl 3 rfl) ?_
  refine lv_iload_n E.ex E.by dL_law_326 rfl (lv_at hl 0 rfl) ?_
  refine lv_iconst (v := 1) E.ex E.by dL_law_327 (by decide) ?_
  refine lv_iadd E.ex E.by dL_law_328 ?_
  refine lv_topi (fun y328 ey328 => ?_)
  have ey328 : y328 = nI (i + 1) := ey328.trans (nI_add i 1)
  subst ey328
  refine va_sld E.ex E.by hX hbl (Nat.not_le.mpr hbl) G.2.2.1 (vp_in_nI (show i + 1 < L by omega) (by omega)) dL_law_329 ?_
  refine k_cVi (n := 1) (X := fl [wMn kc ad μ, wFo kc ad fo, wC kc (ad 1) κ, wC kc (ad 2) ρ, wHi kc ad η, wKp kc ad kp, wLu kc (ad 5) (ad 1) lu, wMo kc (ad 6) (ad 1) (ad 7) σ, wE kc (ad 7) ε, wBp kc (ad 9) (ad 1) π, wSb kc ad β, pl]) (w := wM kc am τ) (Z := []) (wnew := (fun _ : Unit => (fl [wMn kc ad μ, wFo kc ad fo, wC kc (ad 1) κ, wC kc (ad 2) ρ, wHi kc ad η, wKp kc ad kp, wLu kc (ad 5) (ad 1) lu, wMo kc (ad 6) (ad 1) (ad 7) σ, wE kc (ad 7) ε, wBp kc (ad 9) (ad 1) π, wSb kc ad β, pl]) ++ wM kc am τ)) (As := [.int (xs (nI (i + 1)).toNatClampNeg)]) (rest := [.int (f_sum A (xs (nI (i + 1)).toNatClampNeg))]) E (by rw [List.append_nil]) G (c_X12_sum l D kc am (xs (nI (i + 1)).toNatClampNeg) τ (fun r : Int32 => r = f_sum A (xs (nI (i + 1)).toNatClampNeg)) (q12_sum ok T rfl)) gL_law_X12_sum rfl ⟨rfl, rfl⟩ hd_X12_sum_v ⟨rfl, rfl⟩ 0 (gM_0 _ _ _) rfl rfl hl rfl rfl dL_law_330 ⟨Nat.ble_eq_true_of_le (show cells + 0 + 0 ≤ 600000 by omega), Nat.ble_eq_true_of_le (show slots + 0 + 0 ≤ 7302250 by omega)⟩ (fun _ => by rw [List.append_nil]) (fun r2 u2 hq2 H locs G => ?_)
  have e2 := hq2
  subst e2
  have T1 := T
  have G : kG D _ s ((fl [wMn kc ad μ, wFo kc ad fo, wC kc (ad 1) κ, wC kc (ad 2) ρ, wHi kc ad η, wKp kc ad kp, wLu kc (ad 5) (ad 1) lu, wMo kc (ad 6) (ad 1) (ad 7) σ, wE kc (ad 7) ε, wBp kc (ad 9) (ad 1) π, wSb kc ad β, pl]) ++ wM kc am τ) H _ := G
  refine lv_icmp_eq (tgt := 1302) E.ex E.by dL_law_333 (by decide) (fun _ => ?_) (fun hc => absurd rfl hc)
  refine W.widen (k := cells + 132) (n := slots + 1204) (by omega) (by omega) ?_
  exact IH _ _ _ _ _ _ _ _ _ _ _ _ _ _ _ _ _ ok C1 T1 G hl
set_option maxRecDepth 100000 in
set_option maxHeartbeats 8000000 in
theorem law_setLabels (E : kE p s m meth c #[Value.ref b] code 4 RL nm wsL_law ret D (tyL kc)) (hX : va_X b L xs s s.heap) (hbl : b < s.heap.size) (hi : i + 6 ≤ L) (hL : L ≤ 3072) (hc : cells + 132 ≤ 600000) (hs : slots + 1204 ≤ 7302250) (ok : okA A) (C : CSt kc A μ fo κ ρ η kp β pl) (T : RSt A τ) (G : kG D (fun q => s.heap.size ≤ q) s (fl [wMn kc ad μ, wFo kc ad fo, wC kc (ad 1) κ, wC kc (ad 2) ρ, wHi kc ad η, wKp kc ad kp, wLu kc (ad 5) (ad 1) lu, wMo kc (ad 6) (ad 1) (ad 7) σ, wE kc (ad 7) ε, wBp kc (ad 9) (ad 1) π, wSb kc ad β, pl] ++ wM kc am τ) H locs) (hl : lv_has ls 4 [(3, .int (nI i)), (2, .ref (am 0)), (1, .ref (ad 0 0)), (0, .ref b)]) (IH : LGo p l e s m below meth c b i D kc ad am (cells + 132) (slots + 1204) QQ) : W p l e room_1 s m #[Value.ref b] below meth c H locs cells slots QQ (F0 m 338 ls []) := by
  refine lv_aload_n E.ex E.by dL_law_338 rfl (lv_at hl 2 rfl) ?_
  refine lv_aload_n E.ex E.by dL_law_339 rfl (lv_at hl 3 rfl) ?_
  refine lv_iload_n E.ex E.by dL_law_340 rfl (lv_at hl 0 rfl) ?_
  refine lv_iconst (v := 1) E.ex E.by dL_law_341 (by decide) ?_
  refine lv_iadd E.ex E.by dL_law_342 ?_
  refine lv_topi (fun y342 ey342 => ?_)
  have ey342 : y342 = nI (i + 1) := ey342.trans (nI_add i 1)
  subst ey342
  refine va_sld E.ex E.by hX hbl (Nat.not_le.mpr hbl) G.2.2.1 (vp_in_nI (show i + 1 < L by omega) (by omega)) dL_law_343 ?_
  refine lv_aload_n E.ex E.by dL_law_344 rfl (lv_at hl 3 rfl) ?_
  refine lv_iload_n E.ex E.by dL_law_345 rfl (lv_at hl 0 rfl) ?_
  refine lv_iconst (v := 2) E.ex E.by dL_law_346 (by decide) ?_
  refine lv_iadd E.ex E.by dL_law_347 ?_
  refine lv_topi (fun y347 ey347 => ?_)
  have ey347 : y347 = nI (i + 2) := ey347.trans (nI_add i 2)
  subst ey347
  refine va_sld E.ex E.by hX hbl (Nat.not_le.mpr hbl) G.2.2.1 (vp_in_nI (show i + 2 < L by omega) (by omega)) dL_law_348 ?_
  refine k_cVi (n := 2) (X := []) (w := fl [wMn kc ad μ, wFo kc ad fo, wC kc (ad 1) κ, wC kc (ad 2) ρ, wHi kc ad η, wKp kc ad kp, wLu kc (ad 5) (ad 1) lu, wMo kc (ad 6) (ad 1) (ad 7) σ, wE kc (ad 7) ε, wBp kc (ad 9) (ad 1) π, wSb kc ad β, pl]) (Z := wM kc am τ) (wnew := (fun u : US × US × (Nat → US) => (fl [wMn kc ad μ, wFo kc ad fo, wC kc (ad 1) u.1, wC kc (ad 2) ρ, wHi kc ad u.2.1, wKp kc ad u.2.2, wLu kc (ad 5) (ad 1) lu, wMo kc (ad 6) (ad 1) (ad 7) σ, wE kc (ad 7) ε, wBp kc (ad 9) (ad 1) π, wSb kc ad β, pl]) ++ wM kc am τ)) (As := [.int (xs (nI (i + 1)).toNatClampNeg), .int (xs (nI (i + 2)).toNatClampNeg)]) (rest := []) E rfl G (c_X11_setLabels l D kc ad (xs (nI (i + 1)).toNatClampNeg) (xs (nI (i + 2)).toNatClampNeg) μ fo κ ρ η kp lu σ ε π β pl (fun (r : Int32) (u : US × US × (Nat → US)) => r = f_setLabels A (xs (nI (i + 1)).toNatClampNeg) (xs (nI (i + 2)).toNatClampNeg) ∧ CSt kc (g_setLabels A (xs (nI (i + 1)).toNatClampNeg) (xs (nI (i + 2)).toNatClampNeg)) μ fo u.1 ρ u.2.1 u.2.2 β pl) (q11_setLabels ok C (fun _ _ _ C' => ⟨rfl, C'⟩))) gL_law_X11_setLabels rfl ⟨rfl, rfl⟩ hd_X11_setLabels_v ⟨rfl, rfl⟩ 0 rfl rfl rfl hl rfl rfl dL_law_349 ⟨Nat.ble_eq_true_of_le (show cells + 0 ≤ 600000 by omega), Nat.ble_eq_true_of_le (show slots + 0 ≤ 7302250 by omega)⟩ (fun _ => rfl) (fun r1 u1 hq1 H locs G => ?_)
  obtain ⟨e1, C1⟩ := hq1
  subst e1
  have G : kG D _ s ((fl [wMn kc ad μ, wFo kc ad fo, wC kc (ad 1) u1.1, wC kc (ad 2) ρ, wHi kc ad u1.2.1, wKp kc ad u1.2.2, wLu kc (ad 5) (ad 1) lu, wMo kc (ad 6) (ad 1) (ad 7) σ, wE kc (ad 7) ε, wBp kc (ad 9) (ad 1) π, wSb kc ad β, pl]) ++ wM kc am τ) H _ := G
  refine lv_aload_n E.ex E.by dL_law_352 rfl (lv_at hl 1 rfl) ?_
  refine lv_aload_n E.ex E.by dL_law_353 rfl (lv_at hl 3 rfl) ?_
  refine lv_iload_n E.ex E.by dL_law_354 rfl (lv_at hl 0 rfl) ?_
  refine lv_iconst (v := 1) E.ex E.by dL_law_355 (by decide) ?_
  refine lv_iadd E.ex E.by dL_law_356 ?_
  refine lv_topi (fun y356 ey356 => ?_)
  have ey356 : y356 = nI (i + 1) := ey356.trans (nI_add i 1)
  subst ey356
  refine va_sld E.ex E.by hX hbl (Nat.not_le.mpr hbl) G.2.2.1 (vp_in_nI (show i + 1 < L by omega) (by omega)) dL_law_357 ?_
  refine lv_aload_n E.ex E.by dL_law_358 rfl (lv_at hl 3 rfl) ?_
  refine lv_iload_n E.ex E.by dL_law_359 rfl (lv_at hl 0 rfl) ?_
  refine lv_iconst (v := 2) E.ex E.by dL_law_360 (by decide) ?_
  refine lv_iadd E.ex E.by dL_law_361 ?_
  refine lv_topi (fun y361 ey361 => ?_)
  have ey361 : y361 = nI (i + 2) := ey361.trans (nI_add i 2)
  subst ey361
  refine va_sld E.ex E.by hX hbl (Nat.not_le.mpr hbl) G.2.2.1 (vp_in_nI (show i + 2 < L by omega) (by omega)) dL_law_362 ?_
  refine k_cVi (n := 2) (X := fl [wMn kc ad μ, wFo kc ad fo, wC kc (ad 1) u1.1, wC kc (ad 2) ρ, wHi kc ad u1.2.1, wKp kc ad u1.2.2, wLu kc (ad 5) (ad 1) lu, wMo kc (ad 6) (ad 1) (ad 7) σ, wE kc (ad 7) ε, wBp kc (ad 9) (ad 1) π, wSb kc ad β, pl]) (w := wM kc am τ) (Z := []) (wnew := (fun u : US => (fl [wMn kc ad μ, wFo kc ad fo, wC kc (ad 1) u1.1, wC kc (ad 2) ρ, wHi kc ad u1.2.1, wKp kc ad u1.2.2, wLu kc (ad 5) (ad 1) lu, wMo kc (ad 6) (ad 1) (ad 7) σ, wE kc (ad 7) ε, wBp kc (ad 9) (ad 1) π, wSb kc ad β, pl]) ++ wM kc am u)) (As := [.int (xs (nI (i + 1)).toNatClampNeg), .int (xs (nI (i + 2)).toNatClampNeg)]) (rest := [.int (f_setLabels A (xs (nI (i + 1)).toNatClampNeg) (xs (nI (i + 2)).toNatClampNeg))]) E (by rw [List.append_nil]) G (c_X12_setLabels l D kc am (xs (nI (i + 1)).toNatClampNeg) (xs (nI (i + 2)).toNatClampNeg) τ (fun (r : Int32) (u : US) => r = f_setLabels A (xs (nI (i + 1)).toNatClampNeg) (xs (nI (i + 2)).toNatClampNeg) ∧ RSt (g_setLabels A (xs (nI (i + 1)).toNatClampNeg) (xs (nI (i + 2)).toNatClampNeg)) u) (q12_setLabels ok T (fun _ T' => ⟨rfl, T'⟩))) gL_law_X12_setLabels rfl ⟨rfl, rfl⟩ hd_X12_setLabels_v ⟨rfl, rfl⟩ 0 (gM_0 _ _ _) rfl rfl hl rfl rfl dL_law_363 ⟨Nat.ble_eq_true_of_le (show cells + 0 + 0 ≤ 600000 by omega), Nat.ble_eq_true_of_le (show slots + 0 + 0 ≤ 7302250 by omega)⟩ (fun _ => by rw [List.append_nil]) (fun r2 u2 hq2 H locs G => ?_)
  obtain ⟨e2, T1⟩ := hq2
  subst e2
  have G : kG D _ s ((fl [wMn kc ad μ, wFo kc ad fo, wC kc (ad 1) u1.1, wC kc (ad 2) ρ, wHi kc ad u1.2.1, wKp kc ad u1.2.2, wLu kc (ad 5) (ad 1) lu, wMo kc (ad 6) (ad 1) (ad 7) σ, wE kc (ad 7) ε, wBp kc (ad 9) (ad 1) π, wSb kc ad β, pl]) ++ wM kc am u2) H _ := G
  refine lv_icmp_eq (tgt := 1302) E.ex E.by dL_law_366 (by decide) (fun _ => ?_) (fun hc => absurd rfl hc)
  refine W.widen (k := cells + 132) (n := slots + 1204) (by omega) (by omega) ?_
  exact IH _ _ _ _ _ _ _ _ _ _ _ _ _ _ _ _ _ (ok_setLabels ok) C1 T1 G hl
end LAWA
