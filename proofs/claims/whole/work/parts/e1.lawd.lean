theorem hd_X11_depth_v : yX11_depth.cls = RX11 ∧ yX11_depth.cls ≠ "java/lang/invoke/MethodHandle" ∧ yX11_depth.cls ≠ "java/lang/invoke/VarHandle" ∧ (parseMethodDescriptor yX11_depth.desc).map (fun d => d.parameters.length) = some 1 := by decide +kernel
theorem hd_X12_depth_v : yX12_depth.cls = RX12 ∧ yX12_depth.cls ≠ "java/lang/invoke/MethodHandle" ∧ yX12_depth.cls ≠ "java/lang/invoke/VarHandle" ∧ (parseMethodDescriptor yX12_depth.desc).map (fun d => d.parameters.length) = some 1 := by decide +kernel
theorem hd_X11_holdsIn_v : yX11_holdsIn.cls = RX11 ∧ yX11_holdsIn.cls ≠ "java/lang/invoke/MethodHandle" ∧ yX11_holdsIn.cls ≠ "java/lang/invoke/VarHandle" ∧ (parseMethodDescriptor yX11_holdsIn.desc).map (fun d => d.parameters.length) = some 1 := by decide +kernel
theorem hd_X12_holdsIn_v : yX12_holdsIn.cls = RX12 ∧ yX12_holdsIn.cls ≠ "java/lang/invoke/MethodHandle" ∧ yX12_holdsIn.cls ≠ "java/lang/invoke/VarHandle" ∧ (parseMethodDescriptor yX12_holdsIn.desc).map (fun d => d.parameters.length) = some 1 := by decide +kernel
theorem hd_X11_holds_v : yX11_holds.cls = RX11 ∧ yX11_holds.cls ≠ "java/lang/invoke/MethodHandle" ∧ yX11_holds.cls ≠ "java/lang/invoke/VarHandle" ∧ (parseMethodDescriptor yX11_holds.desc).map (fun d => d.parameters.length) = some 2 := by decide +kernel
theorem hd_X12_holds_v : yX12_holds.cls = RX12 ∧ yX12_holds.cls ≠ "java/lang/invoke/MethodHandle" ∧ yX12_holds.cls ≠ "java/lang/invoke/VarHandle" ∧ (parseMethodDescriptor yX12_holds.desc).map (fun d => d.parameters.length) = some 2 := by decide +kernel
theorem hd_X11_next_v : yX11_next.cls = RX11 ∧ yX11_next.cls ≠ "java/lang/invoke/MethodHandle" ∧ yX11_next.cls ≠ "java/lang/invoke/VarHandle" ∧ (parseMethodDescriptor yX11_next.desc).map (fun d => d.parameters.length) = some 3 := by decide +kernel
theorem hd_X12_next_v : yX12_next.cls = RX12 ∧ yX12_next.cls ≠ "java/lang/invoke/MethodHandle" ∧ yX12_next.cls ≠ "java/lang/invoke/VarHandle" ∧ (parseMethodDescriptor yX12_next.desc).map (fun d => d.parameters.length) = some 3 := by decide +kernel
theorem hd_X11_until_v : yX11_until.cls = RX11 ∧ yX11_until.cls ≠ "java/lang/invoke/MethodHandle" ∧ yX11_until.cls ≠ "java/lang/invoke/VarHandle" ∧ (parseMethodDescriptor yX11_until.desc).map (fun d => d.parameters.length) = some 4 := by decide +kernel
theorem hd_X12_until_v : yX12_until.cls = RX12 ∧ yX12_until.cls ≠ "java/lang/invoke/MethodHandle" ∧ yX12_until.cls ≠ "java/lang/invoke/VarHandle" ∧ (parseMethodDescriptor yX12_until.desc).map (fun d => d.parameters.length) = some 4 := by decide +kernel
theorem hd_X11_within_v : yX11_within.cls = RX11 ∧ yX11_within.cls ≠ "java/lang/invoke/MethodHandle" ∧ yX11_within.cls ≠ "java/lang/invoke/VarHandle" ∧ (parseMethodDescriptor yX11_within.desc).map (fun d => d.parameters.length) = some 5 := by decide +kernel
theorem hd_X12_within_v : yX12_within.cls = RX12 ∧ yX12_within.cls ≠ "java/lang/invoke/MethodHandle" ∧ yX12_within.cls ≠ "java/lang/invoke/VarHandle" ∧ (parseMethodDescriptor yX12_within.desc).map (fun d => d.parameters.length) = some 5 := by decide +kernel
theorem hd_X11_never_v : yX11_never.cls = RX11 ∧ yX11_never.cls ≠ "java/lang/invoke/MethodHandle" ∧ yX11_never.cls ≠ "java/lang/invoke/VarHandle" ∧ (parseMethodDescriptor yX11_never.desc).map (fun d => d.parameters.length) = some 2 := by decide +kernel
theorem hd_X12_never_v : yX12_never.cls = RX12 ∧ yX12_never.cls ≠ "java/lang/invoke/MethodHandle" ∧ yX12_never.cls ≠ "java/lang/invoke/VarHandle" ∧ (parseMethodDescriptor yX12_never.desc).map (fun d => d.parameters.length) = some 2 := by decide +kernel
section LAWD
variable {p : Program} {l : Launch} {e : Env} {s : State} {m : MethodId} {below : List Frame} {meth : Method} {c : Code} {b L i : Nat} {xs : Nat → Int32} {D : va_G} {kc : Nat → ClassId} {ad : Nat → Nat → Nat} {am : Nat → Nat} {nm : String} {A : AB} {μ κ ρ η lu σ ε π τ : US} {fo : Nat → Option Nat} {kp : Nat → US} {β : SBT} {pl : va_W} {H : Heap} {locs : List Loc} {ls : Array Slot} {cells slots : Nat} {QQ : State → Prop}
set_option maxRecDepth 100000 in
set_option maxHeartbeats 8000000 in
theorem law_depth (E : kE p s m meth c #[Value.ref b] code 4 RL nm wsL_law ret D (tyL kc)) (hX : va_X b L xs s s.heap) (hbl : b < s.heap.size) (hi : i + 6 ≤ L) (hL : L ≤ 3072) (hc : cells + 132 ≤ 600000) (hs : slots + 1204 ≤ 7302250) (ok : okA A) (C : CSt kc A μ fo κ ρ η kp β pl) (T : RSt A τ) (G : kG D (fun q => s.heap.size ≤ q) s (fl [wMn kc ad μ, wFo kc ad fo, wC kc (ad 1) κ, wC kc (ad 2) ρ, wHi kc ad η, wKp kc ad kp, wLu kc (ad 5) (ad 1) lu, wMo kc (ad 6) (ad 1) (ad 7) σ, wE kc (ad 7) ε, wBp kc (ad 9) (ad 1) π, wSb kc ad β, pl] ++ wM kc am τ) H locs) (hl : lv_has ls 4 [(3, .int (nI i)), (2, .ref (am 0)), (1, .ref (ad 0 0)), (0, .ref b)]) (IH : LGo p l e s m below meth c b i D kc ad am (cells + 132) (slots + 1204) QQ) : W p l e room_1 s m #[Value.ref b] below meth c H locs cells slots QQ (F0 m 684 ls []) := by
  refine lv_aload_n E.ex E.by dL_law_684 rfl (lv_at hl 2 rfl) ?_
  refine lv_aload_n E.ex E.by dL_law_685 rfl (lv_at hl 3 rfl) ?_
  refine lv_iload_n E.ex E.by dL_law_686 rfl (lv_at hl 0 rfl) ?_
  refine lv_iconst (v := 1) E.ex E.by dL_law_687 (by decide) ?_
  refine lv_iadd E.ex E.by dL_law_688 ?_
  refine lv_topi (fun y688 ey688 => ?_)
  have ey688 : y688 = nI (i + 1) := ey688.trans (nI_add i 1)
  subst ey688
  refine va_sld E.ex E.by hX hbl (Nat.not_le.mpr hbl) G.2.2.1 (vp_in_nI (show i + 1 < L by omega) (by omega)) dL_law_689 ?_
  refine k_cVi (n := 1) (X := []) (w := fl [wMn kc ad μ, wFo kc ad fo, wC kc (ad 1) κ, wC kc (ad 2) ρ, wHi kc ad η, wKp kc ad kp, wLu kc (ad 5) (ad 1) lu, wMo kc (ad 6) (ad 1) (ad 7) σ, wE kc (ad 7) ε, wBp kc (ad 9) (ad 1) π, wSb kc ad β, pl]) (Z := wM kc am τ) (wnew := (fun _ : Unit => (fl [wMn kc ad μ, wFo kc ad fo, wC kc (ad 1) κ, wC kc (ad 2) ρ, wHi kc ad η, wKp kc ad kp, wLu kc (ad 5) (ad 1) lu, wMo kc (ad 6) (ad 1) (ad 7) σ, wE kc (ad 7) ε, wBp kc (ad 9) (ad 1) π, wSb kc ad β, pl]) ++ wM kc am τ)) (As := [.int (xs (nI (i + 1)).toNatClampNeg)]) (rest := []) E rfl G (c_X11_depth l D kc ad (xs (nI (i + 1)).toNatClampNeg) μ fo κ ρ η kp lu σ ε π β pl (fun r : Int32 => r = f_depth A (xs (nI (i + 1)).toNatClampNeg)) (q11_depth ok C rfl)) gL_law_X11_depth rfl ⟨rfl, rfl⟩ hd_X11_depth_v ⟨rfl, rfl⟩ 0 rfl rfl rfl hl rfl rfl dL_law_690 ⟨Nat.ble_eq_true_of_le (show cells + 0 ≤ 600000 by omega), Nat.ble_eq_true_of_le (show slots + 0 ≤ 7302250 by omega)⟩ (fun _ => rfl) (fun r1 u1 hq1 H locs G => ?_)
  have e1 := hq1
  subst e1
  have C1 := C
  have G : kG D _ s ((fl [wMn kc ad μ, wFo kc ad fo, wC kc (ad 1) κ, wC kc (ad 2) ρ, wHi kc ad η, wKp kc ad kp, wLu kc (ad 5) (ad 1) lu, wMo kc (ad 6) (ad 1) (ad 7) σ, wE kc (ad 7) ε, wBp kc (ad 9) (ad 1) π, wSb kc ad β, pl]) ++ wM kc am τ) H _ := G
  refine lv_aload_n E.ex E.by dL_law_693 rfl (lv_at hl 1 rfl) ?_
  refine lv_aload_n E.ex E.by dL_law_694 rfl (lv_at hl 3 rfl) ?_
  refine lv_iload_n E.ex E.by dL_law_695 rfl (lv_at hl 0 rfl) ?_
  refine lv_iconst (v := 1) E.ex E.by dL_law_696 (by decide) ?_
  refine lv_iadd E.ex E.by dL_law_697 ?_
  refine lv_topi (fun y697 ey697 => ?_)
  have ey697 : y697 = nI (i + 1) := ey697.trans (nI_add i 1)
  subst ey697
  refine va_sld E.ex E.by hX hbl (Nat.not_le.mpr hbl) G.2.2.1 (vp_in_nI (show i + 1 < L by omega) (by omega)) dL_law_698 ?_
  refine k_cVi (n := 1) (X := fl [wMn kc ad μ, wFo kc ad fo, wC kc (ad 1) κ, wC kc (ad 2) ρ, wHi kc ad η, wKp kc ad kp, wLu kc (ad 5) (ad 1) lu, wMo kc (ad 6) (ad 1) (ad 7) σ, wE kc (ad 7) ε, wBp kc (ad 9) (ad 1) π, wSb kc ad β, pl]) (w := wM kc am τ) (Z := []) (wnew := (fun _ : Unit => (fl [wMn kc ad μ, wFo kc ad fo, wC kc (ad 1) κ, wC kc (ad 2) ρ, wHi kc ad η, wKp kc ad kp, wLu kc (ad 5) (ad 1) lu, wMo kc (ad 6) (ad 1) (ad 7) σ, wE kc (ad 7) ε, wBp kc (ad 9) (ad 1) π, wSb kc ad β, pl]) ++ wM kc am τ)) (As := [.int (xs (nI (i + 1)).toNatClampNeg)]) (rest := [.int (f_depth A (xs (nI (i + 1)).toNatClampNeg))]) E (by rw [List.append_nil]) G (c_X12_depth l D kc am (xs (nI (i + 1)).toNatClampNeg) τ (fun r : Int32 => r = f_depth A (xs (nI (i + 1)).toNatClampNeg)) (q12_depth ok T rfl)) gL_law_X12_depth rfl ⟨rfl, rfl⟩ hd_X12_depth_v ⟨rfl, rfl⟩ 0 (gM_0 _ _ _) rfl rfl hl rfl rfl dL_law_699 ⟨Nat.ble_eq_true_of_le (show cells + 0 + 0 ≤ 600000 by omega), Nat.ble_eq_true_of_le (show slots + 0 + 0 ≤ 7302250 by omega)⟩ (fun _ => by rw [List.append_nil]) (fun r2 u2 hq2 H locs G => ?_)
  have e2 := hq2
  subst e2
  have T1 := T
  have G : kG D _ s ((fl [wMn kc ad μ, wFo kc ad fo, wC kc (ad 1) κ, wC kc (ad 2) ρ, wHi kc ad η, wKp kc ad kp, wLu kc (ad 5) (ad 1) lu, wMo kc (ad 6) (ad 1) (ad 7) σ, wE kc (ad 7) ε, wBp kc (ad 9) (ad 1) π, wSb kc ad β, pl]) ++ wM kc am τ) H _ := G
  refine lv_icmp_eq (tgt := 1302) E.ex E.by dL_law_702 (by decide) (fun _ => ?_) (fun hc => absurd rfl hc)
  refine W.widen (k := cells + 132) (n := slots + 1204) (by omega) (by omega) ?_
  exact IH _ _ _ _ _ _ _ _ _ _ _ _ _ _ _ _ _ ok C1 T1 G hl
set_option maxRecDepth 100000 in
set_option maxHeartbeats 8000000 in
theorem law_holdsIn (E : kE p s m meth c #[Value.ref b] code 4 RL nm wsL_law ret D (tyL kc)) (hX : va_X b L xs s s.heap) (hbl : b < s.heap.size) (hi : i + 6 ≤ L) (hL : L ≤ 3072) (hc : cells + 132 ≤ 600000) (hs : slots + 1204 ≤ 7302250) (ok : okA A) (C : CSt kc A μ fo κ ρ η kp β pl) (T : RSt A τ) (G : kG D (fun q => s.heap.size ≤ q) s (fl [wMn kc ad μ, wFo kc ad fo, wC kc (ad 1) κ, wC kc (ad 2) ρ, wHi kc ad η, wKp kc ad kp, wLu kc (ad 5) (ad 1) lu, wMo kc (ad 6) (ad 1) (ad 7) σ, wE kc (ad 7) ε, wBp kc (ad 9) (ad 1) π, wSb kc ad β, pl] ++ wM kc am τ) H locs) (hl : lv_has ls 4 [(3, .int (nI i)), (2, .ref (am 0)), (1, .ref (ad 0 0)), (0, .ref b)]) (IH : LGo p l e s m below meth c b i D kc ad am (cells + 132) (slots + 1204) QQ) : W p l e room_1 s m #[Value.ref b] below meth c H locs cells slots QQ (F0 m 707 ls []) := by
  refine lv_aload_n E.ex E.by dL_law_707 rfl (lv_at hl 2 rfl) ?_
  refine lv_aload_n E.ex E.by dL_law_708 rfl (lv_at hl 3 rfl) ?_
  refine lv_iload_n E.ex E.by dL_law_709 rfl (lv_at hl 0 rfl) ?_
  refine lv_iconst (v := 1) E.ex E.by dL_law_710 (by decide) ?_
  refine lv_iadd E.ex E.by dL_law_711 ?_
  refine lv_topi (fun y711 ey711 => ?_)
  have ey711 : y711 = nI (i + 1) := ey711.trans (nI_add i 1)
  subst ey711
  refine va_sld E.ex E.by hX hbl (Nat.not_le.mpr hbl) G.2.2.1 (vp_in_nI (show i + 1 < L by omega) (by omega)) dL_law_712 ?_
  refine k_cVi (n := 1) (X := []) (w := fl [wMn kc ad μ, wFo kc ad fo, wC kc (ad 1) κ, wC kc (ad 2) ρ, wHi kc ad η, wKp kc ad kp, wLu kc (ad 5) (ad 1) lu, wMo kc (ad 6) (ad 1) (ad 7) σ, wE kc (ad 7) ε, wBp kc (ad 9) (ad 1) π, wSb kc ad β, pl]) (Z := wM kc am τ) (wnew := (fun u : US × US => (fl [wMn kc ad μ, wFo kc ad fo, wC kc (ad 1) κ, wC kc (ad 2) ρ, wHi kc ad η, wKp kc ad kp, wLu kc (ad 5) (ad 1) lu, wMo kc (ad 6) (ad 1) (ad 7) u.1, wE kc (ad 7) u.2, wBp kc (ad 9) (ad 1) π, wSb kc ad β, pl]) ++ wM kc am τ)) (As := [.int (xs (nI (i + 1)).toNatClampNeg)]) (rest := []) E rfl G (c_X11_holdsIn l D kc ad (xs (nI (i + 1)).toNatClampNeg) μ fo κ ρ η kp lu σ ε π β pl (fun (r : Int32) (_ : US × US) => r = f_holdsIn A (xs (nI (i + 1)).toNatClampNeg)) (q11_holdsIn ok C (fun _ => rfl))) gL_law_X11_holdsIn rfl ⟨rfl, rfl⟩ hd_X11_holdsIn_v ⟨rfl, rfl⟩ 0 rfl rfl rfl hl rfl rfl dL_law_713 ⟨Nat.ble_eq_true_of_le (show cells + 0 ≤ 600000 by omega), Nat.ble_eq_true_of_le (show slots + 0 ≤ 7302250 by omega)⟩ (fun _ => rfl) (fun r1 u1 hq1 H locs G => ?_)
  have e1 := hq1
  subst e1
  have C1 := C
  have G : kG D _ s ((fl [wMn kc ad μ, wFo kc ad fo, wC kc (ad 1) κ, wC kc (ad 2) ρ, wHi kc ad η, wKp kc ad kp, wLu kc (ad 5) (ad 1) lu, wMo kc (ad 6) (ad 1) (ad 7) u1.1, wE kc (ad 7) u1.2, wBp kc (ad 9) (ad 1) π, wSb kc ad β, pl]) ++ wM kc am τ) H _ := G
  refine lv_aload_n E.ex E.by dL_law_716 rfl (lv_at hl 1 rfl) ?_
  refine lv_aload_n E.ex E.by dL_law_717 rfl (lv_at hl 3 rfl) ?_
  refine lv_iload_n E.ex E.by dL_law_718 rfl (lv_at hl 0 rfl) ?_
  refine lv_iconst (v := 1) E.ex E.by dL_law_719 (by decide) ?_
  refine lv_iadd E.ex E.by dL_law_720 ?_
  refine lv_topi (fun y720 ey720 => ?_)
  have ey720 : y720 = nI (i + 1) := ey720.trans (nI_add i 1)
  subst ey720
  refine va_sld E.ex E.by hX hbl (Nat.not_le.mpr hbl) G.2.2.1 (vp_in_nI (show i + 1 < L by omega) (by omega)) dL_law_721 ?_
  refine k_cVi (n := 1) (X := fl [wMn kc ad μ, wFo kc ad fo, wC kc (ad 1) κ, wC kc (ad 2) ρ, wHi kc ad η, wKp kc ad kp, wLu kc (ad 5) (ad 1) lu, wMo kc (ad 6) (ad 1) (ad 7) u1.1, wE kc (ad 7) u1.2, wBp kc (ad 9) (ad 1) π, wSb kc ad β, pl]) (w := wM kc am τ) (Z := []) (wnew := (fun u : US => (fl [wMn kc ad μ, wFo kc ad fo, wC kc (ad 1) κ, wC kc (ad 2) ρ, wHi kc ad η, wKp kc ad kp, wLu kc (ad 5) (ad 1) lu, wMo kc (ad 6) (ad 1) (ad 7) u1.1, wE kc (ad 7) u1.2, wBp kc (ad 9) (ad 1) π, wSb kc ad β, pl]) ++ wM kc am u)) (As := [.int (xs (nI (i + 1)).toNatClampNeg)]) (rest := [.int (f_holdsIn A (xs (nI (i + 1)).toNatClampNeg))]) E (by rw [List.append_nil]) G (c_X12_holdsIn l D kc am (xs (nI (i + 1)).toNatClampNeg) τ (fun (r : Int32) (u : US) => r = f_holdsIn A (xs (nI (i + 1)).toNatClampNeg) ∧ RSt A u) (q12_holdsIn ok T (fun _ T' => ⟨rfl, T'⟩))) gL_law_X12_holdsIn rfl ⟨rfl, rfl⟩ hd_X12_holdsIn_v ⟨rfl, rfl⟩ 0 (gM_0 _ _ _) rfl rfl hl rfl rfl dL_law_722 ⟨Nat.ble_eq_true_of_le (show cells + 0 + 0 ≤ 600000 by omega), Nat.ble_eq_true_of_le (show slots + 0 + 0 ≤ 7302250 by omega)⟩ (fun _ => by rw [List.append_nil]) (fun r2 u2 hq2 H locs G => ?_)
  obtain ⟨e2, T1⟩ := hq2
  subst e2
  have G : kG D _ s ((fl [wMn kc ad μ, wFo kc ad fo, wC kc (ad 1) κ, wC kc (ad 2) ρ, wHi kc ad η, wKp kc ad kp, wLu kc (ad 5) (ad 1) lu, wMo kc (ad 6) (ad 1) (ad 7) u1.1, wE kc (ad 7) u1.2, wBp kc (ad 9) (ad 1) π, wSb kc ad β, pl]) ++ wM kc am u2) H _ := G
  refine lv_icmp_eq (tgt := 1302) E.ex E.by dL_law_725 (by decide) (fun _ => ?_) (fun hc => absurd rfl hc)
  refine W.widen (k := cells + 132) (n := slots + 1204) (by omega) (by omega) ?_
  exact IH _ _ _ _ _ _ _ _ _ _ _ _ _ _ _ _ _ ok C1 T1 G hl
set_option maxRecDepth 100000 in
set_option maxHeartbeats 8000000 in
theorem law_holds (E : kE p s m meth c #[Value.ref b] code 4 RL nm wsL_law ret D (tyL kc)) (hX : va_X b L xs s s.heap) (hbl : b < s.heap.size) (hi : i + 6 ≤ L) (hL : L ≤ 3072) (hc : cells + 132 ≤ 600000) (hs : slots + 1204 ≤ 7302250) (ok : okA A) (C : CSt kc A μ fo κ ρ η kp β pl) (T : RSt A τ) (G : kG D (fun q => s.heap.size ≤ q) s (fl [wMn kc ad μ, wFo kc ad fo, wC kc (ad 1) κ, wC kc (ad 2) ρ, wHi kc ad η, wKp kc ad kp, wLu kc (ad 5) (ad 1) lu, wMo kc (ad 6) (ad 1) (ad 7) σ, wE kc (ad 7) ε, wBp kc (ad 9) (ad 1) π, wSb kc ad β, pl] ++ wM kc am τ) H locs) (hl : lv_has ls 4 [(3, .int (nI i)), (2, .ref (am 0)), (1, .ref (ad 0 0)), (0, .ref b)]) (IH : LGo p l e s m below meth c b i D kc ad am (cells + 132) (slots + 1204) QQ) : W p l e room_1 s m #[Value.ref b] below meth c H locs cells slots QQ (F0 m 730 ls []) := by
  refine lv_aload_n E.ex E.by dL_law_730 rfl (lv_at hl 2 rfl) ?_
  refine lv_aload_n E.ex E.by dL_law_731 rfl (lv_at hl 3 rfl) ?_
  refine lv_iload_n E.ex E.by dL_law_732 rfl (lv_at hl 0 rfl) ?_
  refine lv_iconst (v := 1) E.ex E.by dL_law_733 (by decide) ?_
  refine lv_iadd E.ex E.by dL_law_734 ?_
  refine lv_topi (fun y734 ey734 => ?_)
  have ey734 : y734 = nI (i + 1) := ey734.trans (nI_add i 1)
  subst ey734
  refine va_sld E.ex E.by hX hbl (Nat.not_le.mpr hbl) G.2.2.1 (vp_in_nI (show i + 1 < L by omega) (by omega)) dL_law_735 ?_
  refine lv_aload_n E.ex E.by dL_law_736 rfl (lv_at hl 3 rfl) ?_
  refine lv_iload_n E.ex E.by dL_law_737 rfl (lv_at hl 0 rfl) ?_
  refine lv_iconst (v := 2) E.ex E.by dL_law_738 (by decide) ?_
  refine lv_iadd E.ex E.by dL_law_739 ?_
  refine lv_topi (fun y739 ey739 => ?_)
  have ey739 : y739 = nI (i + 2) := ey739.trans (nI_add i 2)
  subst ey739
  refine va_sld E.ex E.by hX hbl (Nat.not_le.mpr hbl) G.2.2.1 (vp_in_nI (show i + 2 < L by omega) (by omega)) dL_law_740 ?_
  refine k_cVi (n := 2) (X := []) (w := fl [wMn kc ad μ, wFo kc ad fo, wC kc (ad 1) κ, wC kc (ad 2) ρ, wHi kc ad η, wKp kc ad kp, wLu kc (ad 5) (ad 1) lu, wMo kc (ad 6) (ad 1) (ad 7) σ, wE kc (ad 7) ε, wBp kc (ad 9) (ad 1) π, wSb kc ad β, pl]) (Z := wM kc am τ) (wnew := (fun u : US × US => (fl [wMn kc ad μ, wFo kc ad fo, wC kc (ad 1) κ, wC kc (ad 2) ρ, wHi kc ad η, wKp kc ad kp, wLu kc (ad 5) (ad 1) lu, wMo kc (ad 6) (ad 1) (ad 7) u.1, wE kc (ad 7) u.2, wBp kc (ad 9) (ad 1) π, wSb kc ad β, pl]) ++ wM kc am τ)) (As := [.int (xs (nI (i + 1)).toNatClampNeg), .int (xs (nI (i + 2)).toNatClampNeg)]) (rest := []) E rfl G (c_X11_holds l D kc ad (xs (nI (i + 1)).toNatClampNeg) (xs (nI (i + 2)).toNatClampNeg) μ fo κ ρ η kp lu σ ε π β pl (fun (r : Int32) (_ : US × US) => r = f_holds A (xs (nI (i + 1)).toNatClampNeg) (xs (nI (i + 2)).toNatClampNeg)) (q11_holds ok C (fun _ => rfl))) gL_law_X11_holds rfl ⟨rfl, rfl⟩ hd_X11_holds_v ⟨rfl, rfl⟩ 0 rfl rfl rfl hl rfl rfl dL_law_741 ⟨Nat.ble_eq_true_of_le (show cells + 0 ≤ 600000 by omega), Nat.ble_eq_true_of_le (show slots + 0 ≤ 7302250 by omega)⟩ (fun _ => rfl) (fun r1 u1 hq1 H locs G => ?_)
  have e1 := hq1
  subst e1
  have C1 := C
  have G : kG D _ s ((fl [wMn kc ad μ, wFo kc ad fo, wC kc (ad 1) κ, wC kc (ad 2) ρ, wHi kc ad η, wKp kc ad kp, wLu kc (ad 5) (ad 1) lu, wMo kc (ad 6) (ad 1) (ad 7) u1.1, wE kc (ad 7) u1.2, wBp kc (ad 9) (ad 1) π, wSb kc ad β, pl]) ++ wM kc am τ) H _ := G
  refine lv_aload_n E.ex E.by dL_law_744 rfl (lv_at hl 1 rfl) ?_
  refine lv_aload_n E.ex E.by dL_law_745 rfl (lv_at hl 3 rfl) ?_
  refine lv_iload_n E.ex E.by dL_law_746 rfl (lv_at hl 0 rfl) ?_
  refine lv_iconst (v := 1) E.ex E.by dL_law_747 (by decide) ?_
  refine lv_iadd E.ex E.by dL_law_748 ?_
  refine lv_topi (fun y748 ey748 => ?_)
  have ey748 : y748 = nI (i + 1) := ey748.trans (nI_add i 1)
  subst ey748
  refine va_sld E.ex E.by hX hbl (Nat.not_le.mpr hbl) G.2.2.1 (vp_in_nI (show i + 1 < L by omega) (by omega)) dL_law_749 ?_
  refine lv_aload_n E.ex E.by dL_law_750 rfl (lv_at hl 3 rfl) ?_
  refine lv_iload_n E.ex E.by dL_law_751 rfl (lv_at hl 0 rfl) ?_
  refine lv_iconst (v := 2) E.ex E.by dL_law_752 (by decide) ?_
  refine lv_iadd E.ex E.by dL_law_753 ?_
  refine lv_topi (fun y753 ey753 => ?_)
  have ey753 : y753 = nI (i + 2) := ey753.trans (nI_add i 2)
  subst ey753
  refine va_sld E.ex E.by hX hbl (Nat.not_le.mpr hbl) G.2.2.1 (vp_in_nI (show i + 2 < L by omega) (by omega)) dL_law_754 ?_
  refine k_cVi (n := 2) (X := fl [wMn kc ad μ, wFo kc ad fo, wC kc (ad 1) κ, wC kc (ad 2) ρ, wHi kc ad η, wKp kc ad kp, wLu kc (ad 5) (ad 1) lu, wMo kc (ad 6) (ad 1) (ad 7) u1.1, wE kc (ad 7) u1.2, wBp kc (ad 9) (ad 1) π, wSb kc ad β, pl]) (w := wM kc am τ) (Z := []) (wnew := (fun u : US => (fl [wMn kc ad μ, wFo kc ad fo, wC kc (ad 1) κ, wC kc (ad 2) ρ, wHi kc ad η, wKp kc ad kp, wLu kc (ad 5) (ad 1) lu, wMo kc (ad 6) (ad 1) (ad 7) u1.1, wE kc (ad 7) u1.2, wBp kc (ad 9) (ad 1) π, wSb kc ad β, pl]) ++ wM kc am u)) (As := [.int (xs (nI (i + 1)).toNatClampNeg), .int (xs (nI (i + 2)).toNatClampNeg)]) (rest := [.int (f_holds A (xs (nI (i + 1)).toNatClampNeg) (xs (nI (i + 2)).toNatClampNeg))]) E (by rw [List.append_nil]) G (c_X12_holds l D kc am (xs (nI (i + 1)).toNatClampNeg) (xs (nI (i + 2)).toNatClampNeg) τ (fun (r : Int32) (u : US) => r = f_holds A (xs (nI (i + 1)).toNatClampNeg) (xs (nI (i + 2)).toNatClampNeg) ∧ RSt A u) (q12_holds ok T (fun _ T' => ⟨rfl, T'⟩))) gL_law_X12_holds rfl ⟨rfl, rfl⟩ hd_X12_holds_v ⟨rfl, rfl⟩ 0 (gM_0 _ _ _) rfl rfl hl rfl rfl dL_law_755 ⟨Nat.ble_eq_true_of_le (show cells + 0 + 0 ≤ 600000 by omega), Nat.ble_eq_true_of_le (show slots + 0 + 0 ≤ 7302250 by omega)⟩ (fun _ => by rw [List.append_nil]) (fun r2 u2 hq2 H locs G => ?_)
  obtain ⟨e2, T1⟩ := hq2
  subst e2
  have G : kG D _ s ((fl [wMn kc ad μ, wFo kc ad fo, wC kc (ad 1) κ, wC kc (ad 2) ρ, wHi kc ad η, wKp kc ad kp, wLu kc (ad 5) (ad 1) lu, wMo kc (ad 6) (ad 1) (ad 7) u1.1, wE kc (ad 7) u1.2, wBp kc (ad 9) (ad 1) π, wSb kc ad β, pl]) ++ wM kc am u2) H _ := G
  refine lv_icmp_eq (tgt := 1302) E.ex E.by dL_law_758 (by decide) (fun _ => ?_) (fun hc => absurd rfl hc)
  refine W.widen (k := cells + 132) (n := slots + 1204) (by omega) (by omega) ?_
  exact IH _ _ _ _ _ _ _ _ _ _ _ _ _ _ _ _ _ ok C1 T1 G hl
set_option maxRecDepth 100000 in
set_option maxHeartbeats 8000000 in
theorem law_next (E : kE p s m meth c #[Value.ref b] code 4 RL nm wsL_law ret D (tyL kc)) (hX : va_X b L xs s s.heap) (hbl : b < s.heap.size) (hi : i + 6 ≤ L) (hL : L ≤ 3072) (hc : cells + 132 ≤ 600000) (hs : slots + 1204 ≤ 7302250) (ok : okA A) (C : CSt kc A μ fo κ ρ η kp β pl) (T : RSt A τ) (G : kG D (fun q => s.heap.size ≤ q) s (fl [wMn kc ad μ, wFo kc ad fo, wC kc (ad 1) κ, wC kc (ad 2) ρ, wHi kc ad η, wKp kc ad kp, wLu kc (ad 5) (ad 1) lu, wMo kc (ad 6) (ad 1) (ad 7) σ, wE kc (ad 7) ε, wBp kc (ad 9) (ad 1) π, wSb kc ad β, pl] ++ wM kc am τ) H locs) (hl : lv_has ls 4 [(3, .int (nI i)), (2, .ref (am 0)), (1, .ref (ad 0 0)), (0, .ref b)]) (IH : LGo p l e s m below meth c b i D kc ad am (cells + 132) (slots + 1204) QQ) : W p l e room_1 s m #[Value.ref b] below meth c H locs cells slots QQ (F0 m 763 ls []) := by
  refine lv_aload_n E.ex E.by dL_law_763 rfl (lv_at hl 2 rfl) ?_
  refine lv_aload_n E.ex E.by dL_law_764 rfl (lv_at hl 3 rfl) ?_
  refine lv_iload_n E.ex E.by dL_law_765 rfl (lv_at hl 0 rfl) ?_
  refine lv_iconst (v := 1) E.ex E.by dL_law_766 (by decide) ?_
  refine lv_iadd E.ex E.by dL_law_767 ?_
  refine lv_topi (fun y767 ey767 => ?_)
  have ey767 : y767 = nI (i + 1) := ey767.trans (nI_add i 1)
  subst ey767
  refine va_sld E.ex E.by hX hbl (Nat.not_le.mpr hbl) G.2.2.1 (vp_in_nI (show i + 1 < L by omega) (by omega)) dL_law_768 ?_
  refine lv_aload_n E.ex E.by dL_law_769 rfl (lv_at hl 3 rfl) ?_
  refine lv_iload_n E.ex E.by dL_law_770 rfl (lv_at hl 0 rfl) ?_
  refine lv_iconst (v := 2) E.ex E.by dL_law_771 (by decide) ?_
  refine lv_iadd E.ex E.by dL_law_772 ?_
  refine lv_topi (fun y772 ey772 => ?_)
  have ey772 : y772 = nI (i + 2) := ey772.trans (nI_add i 2)
  subst ey772
  refine va_sld E.ex E.by hX hbl (Nat.not_le.mpr hbl) G.2.2.1 (vp_in_nI (show i + 2 < L by omega) (by omega)) dL_law_773 ?_
  refine lv_aload_n E.ex E.by dL_law_774 rfl (lv_at hl 3 rfl) ?_
  refine lv_iload_n E.ex E.by dL_law_775 rfl (lv_at hl 0 rfl) ?_
  refine lv_iconst (v := 3) E.ex E.by dL_law_776 (by decide) ?_
  refine lv_iadd E.ex E.by dL_law_777 ?_
  refine lv_topi (fun y777 ey777 => ?_)
  have ey777 : y777 = nI (i + 3) := ey777.trans (nI_add i 3)
  subst ey777
  refine va_sld E.ex E.by hX hbl (Nat.not_le.mpr hbl) G.2.2.1 (vp_in_nI (show i + 3 < L by omega) (by omega)) dL_law_778 ?_
  refine k_cVl (n := 3) (X := []) (w := fl [wMn kc ad μ, wFo kc ad fo, wC kc (ad 1) κ, wC kc (ad 2) ρ, wHi kc ad η, wKp kc ad kp, wLu kc (ad 5) (ad 1) lu, wMo kc (ad 6) (ad 1) (ad 7) σ, wE kc (ad 7) ε, wBp kc (ad 9) (ad 1) π, wSb kc ad β, pl]) (Z := wM kc am τ) (wnew := (fun u : US × US => (fl [wMn kc ad μ, wFo kc ad fo, wC kc (ad 1) κ, wC kc (ad 2) ρ, wHi kc ad η, wKp kc ad kp, wLu kc (ad 5) (ad 1) lu, wMo kc (ad 6) (ad 1) (ad 7) u.1, wE kc (ad 7) u.2, wBp kc (ad 9) (ad 1) π, wSb kc ad β, pl]) ++ wM kc am τ)) (As := [.int (xs (nI (i + 1)).toNatClampNeg), .int (xs (nI (i + 2)).toNatClampNeg), .int (xs (nI (i + 3)).toNatClampNeg)]) (rest := []) E rfl G (c_X11_next l D kc ad (xs (nI (i + 1)).toNatClampNeg) (xs (nI (i + 2)).toNatClampNeg) (xs (nI (i + 3)).toNatClampNeg) μ fo κ ρ η kp lu σ ε π β pl (fun (r : Int64) (_ : US × US) => r = f_next A (xs (nI (i + 1)).toNatClampNeg) (xs (nI (i + 2)).toNatClampNeg) (xs (nI (i + 3)).toNatClampNeg)) (q11_next ok C (fun _ => rfl))) gL_law_X11_next rfl ⟨rfl, rfl⟩ hd_X11_next_v ⟨rfl, rfl⟩ 0 rfl rfl rfl hl rfl rfl dL_law_779 ⟨Nat.ble_eq_true_of_le (show cells + 0 ≤ 600000 by omega), Nat.ble_eq_true_of_le (show slots + 0 ≤ 7302250 by omega)⟩ (fun _ => rfl) (fun r1 u1 hq1 H locs G => ?_)
  have e1 := hq1
  subst e1
  have C1 := C
  have G : kG D _ s ((fl [wMn kc ad μ, wFo kc ad fo, wC kc (ad 1) κ, wC kc (ad 2) ρ, wHi kc ad η, wKp kc ad kp, wLu kc (ad 5) (ad 1) lu, wMo kc (ad 6) (ad 1) (ad 7) u1.1, wE kc (ad 7) u1.2, wBp kc (ad 9) (ad 1) π, wSb kc ad β, pl]) ++ wM kc am τ) H _ := G
  refine lv_aload_n E.ex E.by dL_law_782 rfl (lv_at hl 1 rfl) ?_
  refine lv_aload_n E.ex E.by dL_law_783 rfl (lv_at hl 3 rfl) ?_
  refine lv_iload_n E.ex E.by dL_law_784 rfl (lv_at hl 0 rfl) ?_
  refine lv_iconst (v := 1) E.ex E.by dL_law_785 (by decide) ?_
  refine lv_iadd E.ex E.by dL_law_786 ?_
  refine lv_topi (fun y786 ey786 => ?_)
  have ey786 : y786 = nI (i + 1) := ey786.trans (nI_add i 1)
  subst ey786
  refine va_sld E.ex E.by hX hbl (Nat.not_le.mpr hbl) G.2.2.1 (vp_in_nI (show i + 1 < L by omega) (by omega)) dL_law_787 ?_
  refine lv_aload_n E.ex E.by dL_law_788 rfl (lv_at hl 3 rfl) ?_
  refine lv_iload_n E.ex E.by dL_law_789 rfl (lv_at hl 0 rfl) ?_
  refine lv_iconst (v := 2) E.ex E.by dL_law_790 (by decide) ?_
  refine lv_iadd E.ex E.by dL_law_791 ?_
  refine lv_topi (fun y791 ey791 => ?_)
  have ey791 : y791 = nI (i + 2) := ey791.trans (nI_add i 2)
  subst ey791
  refine va_sld E.ex E.by hX hbl (Nat.not_le.mpr hbl) G.2.2.1 (vp_in_nI (show i + 2 < L by omega) (by omega)) dL_law_792 ?_
  refine lv_aload_n E.ex E.by dL_law_793 rfl (lv_at hl 3 rfl) ?_
  refine lv_iload_n E.ex E.by dL_law_794 rfl (lv_at hl 0 rfl) ?_
  refine lv_iconst (v := 3) E.ex E.by dL_law_795 (by decide) ?_
  refine lv_iadd E.ex E.by dL_law_796 ?_
  refine lv_topi (fun y796 ey796 => ?_)
  have ey796 : y796 = nI (i + 3) := ey796.trans (nI_add i 3)
  subst ey796
  refine va_sld E.ex E.by hX hbl (Nat.not_le.mpr hbl) G.2.2.1 (vp_in_nI (show i + 3 < L by omega) (by omega)) dL_law_797 ?_
  refine k_cVl (n := 3) (X := fl [wMn kc ad μ, wFo kc ad fo, wC kc (ad 1) κ, wC kc (ad 2) ρ, wHi kc ad η, wKp kc ad kp, wLu kc (ad 5) (ad 1) lu, wMo kc (ad 6) (ad 1) (ad 7) u1.1, wE kc (ad 7) u1.2, wBp kc (ad 9) (ad 1) π, wSb kc ad β, pl]) (w := wM kc am τ) (Z := []) (wnew := (fun u : US => (fl [wMn kc ad μ, wFo kc ad fo, wC kc (ad 1) κ, wC kc (ad 2) ρ, wHi kc ad η, wKp kc ad kp, wLu kc (ad 5) (ad 1) lu, wMo kc (ad 6) (ad 1) (ad 7) u1.1, wE kc (ad 7) u1.2, wBp kc (ad 9) (ad 1) π, wSb kc ad β, pl]) ++ wM kc am u)) (As := [.int (xs (nI (i + 1)).toNatClampNeg), .int (xs (nI (i + 2)).toNatClampNeg), .int (xs (nI (i + 3)).toNatClampNeg)]) (rest := [.long (f_next A (xs (nI (i + 1)).toNatClampNeg) (xs (nI (i + 2)).toNatClampNeg) (xs (nI (i + 3)).toNatClampNeg))]) E (by rw [List.append_nil]) G (c_X12_next l D kc am (xs (nI (i + 1)).toNatClampNeg) (xs (nI (i + 2)).toNatClampNeg) (xs (nI (i + 3)).toNatClampNeg) τ (fun (r : Int64) (u : US) => r = f_next A (xs (nI (i + 1)).toNatClampNeg) (xs (nI (i + 2)).toNatClampNeg) (xs (nI (i + 3)).toNatClampNeg) ∧ RSt A u) (q12_next ok T (fun _ T' => ⟨rfl, T'⟩))) gL_law_X12_next rfl ⟨rfl, rfl⟩ hd_X12_next_v ⟨rfl, rfl⟩ 0 (gM_0 _ _ _) rfl rfl hl rfl rfl dL_law_798 ⟨Nat.ble_eq_true_of_le (show cells + 0 + 0 ≤ 600000 by omega), Nat.ble_eq_true_of_le (show slots + 0 + 0 ≤ 7302250 by omega)⟩ (fun _ => by rw [List.append_nil]) (fun r2 u2 hq2 H locs G => ?_)
  obtain ⟨e2, T1⟩ := hq2
  subst e2
  have G : kG D _ s ((fl [wMn kc ad μ, wFo kc ad fo, wC kc (ad 1) κ, wC kc (ad 2) ρ, wHi kc ad η, wKp kc ad kp, wLu kc (ad 5) (ad 1) lu, wMo kc (ad 6) (ad 1) (ad 7) u1.1, wE kc (ad 7) u1.2, wBp kc (ad 9) (ad 1) π, wSb kc ad β, pl]) ++ wM kc am u2) H _ := G
  refine W.lcmp E.ex E.by dL_law_801 ?_
  refine lv_if_eq (tgt := 1302) E.ex E.by dL_law_802 (by decide) (fun _ => ?_) (fun hc => absurd (lg_same _) hc)
  refine W.widen (k := cells + 132) (n := slots + 1204) (by omega) (by omega) ?_
  exact IH _ _ _ _ _ _ _ _ _ _ _ _ _ _ _ _ _ ok C1 T1 G hl
set_option maxRecDepth 100000 in
set_option maxHeartbeats 8000000 in
theorem law_until (E : kE p s m meth c #[Value.ref b] code 4 RL nm wsL_law ret D (tyL kc)) (hX : va_X b L xs s s.heap) (hbl : b < s.heap.size) (hi : i + 6 ≤ L) (hL : L ≤ 3072) (hc : cells + 132 ≤ 600000) (hs : slots + 1204 ≤ 7302250) (ok : okA A) (C : CSt kc A μ fo κ ρ η kp β pl) (T : RSt A τ) (G : kG D (fun q => s.heap.size ≤ q) s (fl [wMn kc ad μ, wFo kc ad fo, wC kc (ad 1) κ, wC kc (ad 2) ρ, wHi kc ad η, wKp kc ad kp, wLu kc (ad 5) (ad 1) lu, wMo kc (ad 6) (ad 1) (ad 7) σ, wE kc (ad 7) ε, wBp kc (ad 9) (ad 1) π, wSb kc ad β, pl] ++ wM kc am τ) H locs) (hl : lv_has ls 4 [(3, .int (nI i)), (2, .ref (am 0)), (1, .ref (ad 0 0)), (0, .ref b)]) (IH : LGo p l e s m below meth c b i D kc ad am (cells + 132) (slots + 1204) QQ) : W p l e room_1 s m #[Value.ref b] below meth c H locs cells slots QQ (F0 m 807 ls []) := by
  refine lv_aload_n E.ex E.by dL_law_807 rfl (lv_at hl 2 rfl) ?_
  refine lv_aload_n E.ex E.by dL_law_808 rfl (lv_at hl 3 rfl) ?_
  refine lv_iload_n E.ex E.by dL_law_809 rfl (lv_at hl 0 rfl) ?_
  refine lv_iconst (v := 1) E.ex E.by dL_law_810 (by decide) ?_
  refine lv_iadd E.ex E.by dL_law_811 ?_
  refine lv_topi (fun y811 ey811 => ?_)
  have ey811 : y811 = nI (i + 1) := ey811.trans (nI_add i 1)
  subst ey811
  refine va_sld E.ex E.by hX hbl (Nat.not_le.mpr hbl) G.2.2.1 (vp_in_nI (show i + 1 < L by omega) (by omega)) dL_law_812 ?_
  refine lv_aload_n E.ex E.by dL_law_813 rfl (lv_at hl 3 rfl) ?_
  refine lv_iload_n E.ex E.by dL_law_814 rfl (lv_at hl 0 rfl) ?_
  refine lv_iconst (v := 2) E.ex E.by dL_law_815 (by decide) ?_
  refine lv_iadd E.ex E.by dL_law_816 ?_
  refine lv_topi (fun y816 ey816 => ?_)
  have ey816 : y816 = nI (i + 2) := ey816.trans (nI_add i 2)
  subst ey816
  refine va_sld E.ex E.by hX hbl (Nat.not_le.mpr hbl) G.2.2.1 (vp_in_nI (show i + 2 < L by omega) (by omega)) dL_law_817 ?_
  refine lv_aload_n E.ex E.by dL_law_818 rfl (lv_at hl 3 rfl) ?_
  refine lv_iload_n E.ex E.by dL_law_819 rfl (lv_at hl 0 rfl) ?_
  refine lv_iconst (v := 3) E.ex E.by dL_law_820 (by decide) ?_
  refine lv_iadd E.ex E.by dL_law_821 ?_
  refine lv_topi (fun y821 ey821 => ?_)
  have ey821 : y821 = nI (i + 3) := ey821.trans (nI_add i 3)
  subst ey821
  refine va_sld E.ex E.by hX hbl (Nat.not_le.mpr hbl) G.2.2.1 (vp_in_nI (show i + 3 < L by omega) (by omega)) dL_law_822 ?_
  refine lv_aload_n E.ex E.by dL_law_823 rfl (lv_at hl 3 rfl) ?_
  refine lv_iload_n E.ex E.by dL_law_824 rfl (lv_at hl 0 rfl) ?_
  refine lv_iconst (v := 4) E.ex E.by dL_law_825 (by decide) ?_
  refine lv_iadd E.ex E.by dL_law_826 ?_
  refine lv_topi (fun y826 ey826 => ?_)
  have ey826 : y826 = nI (i + 4) := ey826.trans (nI_add i 4)
  subst ey826
  refine va_sld E.ex E.by hX hbl (Nat.not_le.mpr hbl) G.2.2.1 (vp_in_nI (show i + 4 < L by omega) (by omega)) dL_law_827 ?_
  refine k_cVl (n := 4) (X := []) (w := fl [wMn kc ad μ, wFo kc ad fo, wC kc (ad 1) κ, wC kc (ad 2) ρ, wHi kc ad η, wKp kc ad kp, wLu kc (ad 5) (ad 1) lu, wMo kc (ad 6) (ad 1) (ad 7) σ, wE kc (ad 7) ε, wBp kc (ad 9) (ad 1) π, wSb kc ad β, pl]) (Z := wM kc am τ) (wnew := (fun u : US × US => (fl [wMn kc ad μ, wFo kc ad fo, wC kc (ad 1) κ, wC kc (ad 2) ρ, wHi kc ad η, wKp kc ad kp, wLu kc (ad 5) (ad 1) lu, wMo kc (ad 6) (ad 1) (ad 7) u.1, wE kc (ad 7) u.2, wBp kc (ad 9) (ad 1) π, wSb kc ad β, pl]) ++ wM kc am τ)) (As := [.int (xs (nI (i + 1)).toNatClampNeg), .int (xs (nI (i + 2)).toNatClampNeg), .int (xs (nI (i + 3)).toNatClampNeg), .int (xs (nI (i + 4)).toNatClampNeg)]) (rest := []) E rfl G (c_X11_until l D kc ad (xs (nI (i + 1)).toNatClampNeg) (xs (nI (i + 2)).toNatClampNeg) (xs (nI (i + 3)).toNatClampNeg) (xs (nI (i + 4)).toNatClampNeg) μ fo κ ρ η kp lu σ ε π β pl (fun (r : Int64) (_ : US × US) => r = f_until A (xs (nI (i + 1)).toNatClampNeg) (xs (nI (i + 2)).toNatClampNeg) (xs (nI (i + 3)).toNatClampNeg) (xs (nI (i + 4)).toNatClampNeg)) (q11_until ok C (fun _ => rfl))) gL_law_X11_until rfl ⟨rfl, rfl⟩ hd_X11_until_v ⟨rfl, rfl⟩ 0 rfl rfl rfl hl rfl rfl dL_law_828 ⟨Nat.ble_eq_true_of_le (show cells + 0 ≤ 600000 by omega), Nat.ble_eq_true_of_le (show slots + 0 ≤ 7302250 by omega)⟩ (fun _ => rfl) (fun r1 u1 hq1 H locs G => ?_)
  have e1 := hq1
  subst e1
  have C1 := C
  have G : kG D _ s ((fl [wMn kc ad μ, wFo kc ad fo, wC kc (ad 1) κ, wC kc (ad 2) ρ, wHi kc ad η, wKp kc ad kp, wLu kc (ad 5) (ad 1) lu, wMo kc (ad 6) (ad 1) (ad 7) u1.1, wE kc (ad 7) u1.2, wBp kc (ad 9) (ad 1) π, wSb kc ad β, pl]) ++ wM kc am τ) H _ := G
  refine lv_aload_n E.ex E.by dL_law_831 rfl (lv_at hl 1 rfl) ?_
  refine lv_aload_n E.ex E.by dL_law_832 rfl (lv_at hl 3 rfl) ?_
  refine lv_iload_n E.ex E.by dL_law_833 rfl (lv_at hl 0 rfl) ?_
  refine lv_iconst (v := 1) E.ex E.by dL_law_834 (by decide) ?_
  refine lv_iadd E.ex E.by dL_law_835 ?_
  refine lv_topi (fun y835 ey835 => ?_)
  have ey835 : y835 = nI (i + 1) := ey835.trans (nI_add i 1)
  subst ey835
  refine va_sld E.ex E.by hX hbl (Nat.not_le.mpr hbl) G.2.2.1 (vp_in_nI (show i + 1 < L by omega) (by omega)) dL_law_836 ?_
  refine lv_aload_n E.ex E.by dL_law_837 rfl (lv_at hl 3 rfl) ?_
  refine lv_iload_n E.ex E.by dL_law_838 rfl (lv_at hl 0 rfl) ?_
  refine lv_iconst (v := 2) E.ex E.by dL_law_839 (by decide) ?_
  refine lv_iadd E.ex E.by dL_law_840 ?_
  refine lv_topi (fun y840 ey840 => ?_)
  have ey840 : y840 = nI (i + 2) := ey840.trans (nI_add i 2)
  subst ey840
  refine va_sld E.ex E.by hX hbl (Nat.not_le.mpr hbl) G.2.2.1 (vp_in_nI (show i + 2 < L by omega) (by omega)) dL_law_841 ?_
  refine lv_aload_n E.ex E.by dL_law_842 rfl (lv_at hl 3 rfl) ?_
  refine lv_iload_n E.ex E.by dL_law_843 rfl (lv_at hl 0 rfl) ?_
  refine lv_iconst (v := 3) E.ex E.by dL_law_844 (by decide) ?_
  refine lv_iadd E.ex E.by dL_law_845 ?_
  refine lv_topi (fun y845 ey845 => ?_)
  have ey845 : y845 = nI (i + 3) := ey845.trans (nI_add i 3)
  subst ey845
  refine va_sld E.ex E.by hX hbl (Nat.not_le.mpr hbl) G.2.2.1 (vp_in_nI (show i + 3 < L by omega) (by omega)) dL_law_846 ?_
  refine lv_aload_n E.ex E.by dL_law_847 rfl (lv_at hl 3 rfl) ?_
  refine lv_iload_n E.ex E.by dL_law_848 rfl (lv_at hl 0 rfl) ?_
  refine lv_iconst (v := 4) E.ex E.by dL_law_849 (by decide) ?_
  refine lv_iadd E.ex E.by dL_law_850 ?_
  refine lv_topi (fun y850 ey850 => ?_)
  have ey850 : y850 = nI (i + 4) := ey850.trans (nI_add i 4)
  subst ey850
  refine va_sld E.ex E.by hX hbl (Nat.not_le.mpr hbl) G.2.2.1 (vp_in_nI (show i + 4 < L by omega) (by omega)) dL_law_851 ?_
  refine k_cVl (n := 4) (X := fl [wMn kc ad μ, wFo kc ad fo, wC kc (ad 1) κ, wC kc (ad 2) ρ, wHi kc ad η, wKp kc ad kp, wLu kc (ad 5) (ad 1) lu, wMo kc (ad 6) (ad 1) (ad 7) u1.1, wE kc (ad 7) u1.2, wBp kc (ad 9) (ad 1) π, wSb kc ad β, pl]) (w := wM kc am τ) (Z := []) (wnew := (fun u : US => (fl [wMn kc ad μ, wFo kc ad fo, wC kc (ad 1) κ, wC kc (ad 2) ρ, wHi kc ad η, wKp kc ad kp, wLu kc (ad 5) (ad 1) lu, wMo kc (ad 6) (ad 1) (ad 7) u1.1, wE kc (ad 7) u1.2, wBp kc (ad 9) (ad 1) π, wSb kc ad β, pl]) ++ wM kc am u)) (As := [.int (xs (nI (i + 1)).toNatClampNeg), .int (xs (nI (i + 2)).toNatClampNeg), .int (xs (nI (i + 3)).toNatClampNeg), .int (xs (nI (i + 4)).toNatClampNeg)]) (rest := [.long (f_until A (xs (nI (i + 1)).toNatClampNeg) (xs (nI (i + 2)).toNatClampNeg) (xs (nI (i + 3)).toNatClampNeg) (xs (nI (i + 4)).toNatClampNeg))]) E (by rw [List.append_nil]) G (c_X12_until l D kc am (xs (nI (i + 1)).toNatClampNeg) (xs (nI (i + 2)).toNatClampNeg) (xs (nI (i + 3)).toNatClampNeg) (xs (nI (i + 4)).toNatClampNeg) τ (fun (r : Int64) (u : US) => r = f_until A (xs (nI (i + 1)).toNatClampNeg) (xs (nI (i + 2)).toNatClampNeg) (xs (nI (i + 3)).toNatClampNeg) (xs (nI (i + 4)).toNatClampNeg) ∧ RSt A u) (q12_until ok T (fun _ T' => ⟨rfl, T'⟩))) gL_law_X12_until rfl ⟨rfl, rfl⟩ hd_X12_until_v ⟨rfl, rfl⟩ 0 (gM_0 _ _ _) rfl rfl hl rfl rfl dL_law_852 ⟨Nat.ble_eq_true_of_le (show cells + 0 + 0 ≤ 600000 by omega), Nat.ble_eq_true_of_le (show slots + 0 + 0 ≤ 7302250 by omega)⟩ (fun _ => by rw [List.append_nil]) (fun r2 u2 hq2 H locs G => ?_)
  obtain ⟨e2, T1⟩ := hq2
  subst e2
  have G : kG D _ s ((fl [wMn kc ad μ, wFo kc ad fo, wC kc (ad 1) κ, wC kc (ad 2) ρ, wHi kc ad η, wKp kc ad kp, wLu kc (ad 5) (ad 1) lu, wMo kc (ad 6) (ad 1) (ad 7) u1.1, wE kc (ad 7) u1.2, wBp kc (ad 9) (ad 1) π, wSb kc ad β, pl]) ++ wM kc am u2) H _ := G
  refine W.lcmp E.ex E.by dL_law_855 ?_
  refine lv_if_eq (tgt := 1302) E.ex E.by dL_law_856 (by decide) (fun _ => ?_) (fun hc => absurd (lg_same _) hc)
  refine W.widen (k := cells + 132) (n := slots + 1204) (by omega) (by omega) ?_
  exact IH _ _ _ _ _ _ _ _ _ _ _ _ _ _ _ _ _ ok C1 T1 G hl
set_option maxRecDepth 100000 in
set_option maxHeartbeats 8000000 in
theorem law_within (E : kE p s m meth c #[Value.ref b] code 4 RL nm wsL_law ret D (tyL kc)) (hX : va_X b L xs s s.heap) (hbl : b < s.heap.size) (hi : i + 6 ≤ L) (hL : L ≤ 3072) (hc : cells + 132 ≤ 600000) (hs : slots + 1204 ≤ 7302250) (ok : okA A) (C : CSt kc A μ fo κ ρ η kp β pl) (T : RSt A τ) (G : kG D (fun q => s.heap.size ≤ q) s (fl [wMn kc ad μ, wFo kc ad fo, wC kc (ad 1) κ, wC kc (ad 2) ρ, wHi kc ad η, wKp kc ad kp, wLu kc (ad 5) (ad 1) lu, wMo kc (ad 6) (ad 1) (ad 7) σ, wE kc (ad 7) ε, wBp kc (ad 9) (ad 1) π, wSb kc ad β, pl] ++ wM kc am τ) H locs) (hl : lv_has ls 4 [(3, .int (nI i)), (2, .ref (am 0)), (1, .ref (ad 0 0)), (0, .ref b)]) (IH : LGo p l e s m below meth c b i D kc ad am (cells + 132) (slots + 1204) QQ) : W p l e room_1 s m #[Value.ref b] below meth c H locs cells slots QQ (F0 m 861 ls []) := by
  refine lv_aload_n E.ex E.by dL_law_861 rfl (lv_at hl 2 rfl) ?_
  refine lv_aload_n E.ex E.by dL_law_862 rfl (lv_at hl 3 rfl) ?_
  refine lv_iload_n E.ex E.by dL_law_863 rfl (lv_at hl 0 rfl) ?_
  refine lv_iconst (v := 1) E.ex E.by dL_law_864 (by decide) ?_
  refine lv_iadd E.ex E.by dL_law_865 ?_
  refine lv_topi (fun y865 ey865 => ?_)
  have ey865 : y865 = nI (i + 1) := ey865.trans (nI_add i 1)
  subst ey865
  refine va_sld E.ex E.by hX hbl (Nat.not_le.mpr hbl) G.2.2.1 (vp_in_nI (show i + 1 < L by omega) (by omega)) dL_law_866 ?_
  refine lv_aload_n E.ex E.by dL_law_867 rfl (lv_at hl 3 rfl) ?_
  refine lv_iload_n E.ex E.by dL_law_868 rfl (lv_at hl 0 rfl) ?_
  refine lv_iconst (v := 2) E.ex E.by dL_law_869 (by decide) ?_
  refine lv_iadd E.ex E.by dL_law_870 ?_
  refine lv_topi (fun y870 ey870 => ?_)
  have ey870 : y870 = nI (i + 2) := ey870.trans (nI_add i 2)
  subst ey870
  refine va_sld E.ex E.by hX hbl (Nat.not_le.mpr hbl) G.2.2.1 (vp_in_nI (show i + 2 < L by omega) (by omega)) dL_law_871 ?_
  refine lv_aload_n E.ex E.by dL_law_872 rfl (lv_at hl 3 rfl) ?_
  refine lv_iload_n E.ex E.by dL_law_873 rfl (lv_at hl 0 rfl) ?_
  refine lv_iconst (v := 3) E.ex E.by dL_law_874 (by decide) ?_
  refine lv_iadd E.ex E.by dL_law_875 ?_
  refine lv_topi (fun y875 ey875 => ?_)
  have ey875 : y875 = nI (i + 3) := ey875.trans (nI_add i 3)
  subst ey875
  refine va_sld E.ex E.by hX hbl (Nat.not_le.mpr hbl) G.2.2.1 (vp_in_nI (show i + 3 < L by omega) (by omega)) dL_law_876 ?_
  refine lv_aload_n E.ex E.by dL_law_877 rfl (lv_at hl 3 rfl) ?_
  refine lv_iload_n E.ex E.by dL_law_878 rfl (lv_at hl 0 rfl) ?_
  refine lv_iconst (v := 4) E.ex E.by dL_law_879 (by decide) ?_
  refine lv_iadd E.ex E.by dL_law_880 ?_
  refine lv_topi (fun y880 ey880 => ?_)
  have ey880 : y880 = nI (i + 4) := ey880.trans (nI_add i 4)
  subst ey880
  refine va_sld E.ex E.by hX hbl (Nat.not_le.mpr hbl) G.2.2.1 (vp_in_nI (show i + 4 < L by omega) (by omega)) dL_law_881 ?_
  refine lv_aload_n E.ex E.by dL_law_882 rfl (lv_at hl 3 rfl) ?_
  refine lv_iload_n E.ex E.by dL_law_883 rfl (lv_at hl 0 rfl) ?_
  refine lv_iconst (v := 5) E.ex E.by dL_law_884 (by decide) ?_
  refine lv_iadd E.ex E.by dL_law_885 ?_
  refine lv_topi (fun y885 ey885 => ?_)
  have ey885 : y885 = nI (i + 5) := ey885.trans (nI_add i 5)
  subst ey885
  refine va_sld E.ex E.by hX hbl (Nat.not_le.mpr hbl) G.2.2.1 (vp_in_nI (show i + 5 < L by omega) (by omega)) dL_law_886 ?_
  refine k_cVl (n := 5) (X := []) (w := fl [wMn kc ad μ, wFo kc ad fo, wC kc (ad 1) κ, wC kc (ad 2) ρ, wHi kc ad η, wKp kc ad kp, wLu kc (ad 5) (ad 1) lu, wMo kc (ad 6) (ad 1) (ad 7) σ, wE kc (ad 7) ε, wBp kc (ad 9) (ad 1) π, wSb kc ad β, pl]) (Z := wM kc am τ) (wnew := (fun u : US × US => (fl [wMn kc ad μ, wFo kc ad fo, wC kc (ad 1) κ, wC kc (ad 2) ρ, wHi kc ad η, wKp kc ad kp, wLu kc (ad 5) (ad 1) lu, wMo kc (ad 6) (ad 1) (ad 7) u.1, wE kc (ad 7) u.2, wBp kc (ad 9) (ad 1) π, wSb kc ad β, pl]) ++ wM kc am τ)) (As := [.int (xs (nI (i + 1)).toNatClampNeg), .int (xs (nI (i + 2)).toNatClampNeg), .int (xs (nI (i + 3)).toNatClampNeg), .int (xs (nI (i + 4)).toNatClampNeg), .int (xs (nI (i + 5)).toNatClampNeg)]) (rest := []) E rfl G (c_X11_within l D kc ad (xs (nI (i + 1)).toNatClampNeg) (xs (nI (i + 2)).toNatClampNeg) (xs (nI (i + 3)).toNatClampNeg) (xs (nI (i + 4)).toNatClampNeg) (xs (nI (i + 5)).toNatClampNeg) μ fo κ ρ η kp lu σ ε π β pl (fun (r : Int64) (_ : US × US) => r = f_within A (xs (nI (i + 1)).toNatClampNeg) (xs (nI (i + 2)).toNatClampNeg) (xs (nI (i + 3)).toNatClampNeg) (xs (nI (i + 4)).toNatClampNeg) (xs (nI (i + 5)).toNatClampNeg)) (q11_within ok C (fun _ => rfl))) gL_law_X11_within rfl ⟨rfl, rfl⟩ hd_X11_within_v ⟨rfl, rfl⟩ 0 rfl rfl rfl hl rfl rfl dL_law_887 ⟨Nat.ble_eq_true_of_le (show cells + 0 ≤ 600000 by omega), Nat.ble_eq_true_of_le (show slots + 0 ≤ 7302250 by omega)⟩ (fun _ => rfl) (fun r1 u1 hq1 H locs G => ?_)
  have e1 := hq1
  subst e1
  have C1 := C
  have G : kG D _ s ((fl [wMn kc ad μ, wFo kc ad fo, wC kc (ad 1) κ, wC kc (ad 2) ρ, wHi kc ad η, wKp kc ad kp, wLu kc (ad 5) (ad 1) lu, wMo kc (ad 6) (ad 1) (ad 7) u1.1, wE kc (ad 7) u1.2, wBp kc (ad 9) (ad 1) π, wSb kc ad β, pl]) ++ wM kc am τ) H _ := G
  refine lv_aload_n E.ex E.by dL_law_890 rfl (lv_at hl 1 rfl) ?_
  refine lv_aload_n E.ex E.by dL_law_891 rfl (lv_at hl 3 rfl) ?_
  refine lv_iload_n E.ex E.by dL_law_892 rfl (lv_at hl 0 rfl) ?_
  refine lv_iconst (v := 1) E.ex E.by dL_law_893 (by decide) ?_
  refine lv_iadd E.ex E.by dL_law_894 ?_
  refine lv_topi (fun y894 ey894 => ?_)
  have ey894 : y894 = nI (i + 1) := ey894.trans (nI_add i 1)
  subst ey894
  refine va_sld E.ex E.by hX hbl (Nat.not_le.mpr hbl) G.2.2.1 (vp_in_nI (show i + 1 < L by omega) (by omega)) dL_law_895 ?_
  refine lv_aload_n E.ex E.by dL_law_896 rfl (lv_at hl 3 rfl) ?_
  refine lv_iload_n E.ex E.by dL_law_897 rfl (lv_at hl 0 rfl) ?_
  refine lv_iconst (v := 2) E.ex E.by dL_law_898 (by decide) ?_
  refine lv_iadd E.ex E.by dL_law_899 ?_
  refine lv_topi (fun y899 ey899 => ?_)
  have ey899 : y899 = nI (i + 2) := ey899.trans (nI_add i 2)
  subst ey899
  refine va_sld E.ex E.by hX hbl (Nat.not_le.mpr hbl) G.2.2.1 (vp_in_nI (show i + 2 < L by omega) (by omega)) dL_law_900 ?_
  refine lv_aload_n E.ex E.by dL_law_901 rfl (lv_at hl 3 rfl) ?_
  refine lv_iload_n E.ex E.by dL_law_902 rfl (lv_at hl 0 rfl) ?_
  refine lv_iconst (v := 3) E.ex E.by dL_law_903 (by decide) ?_
  refine lv_iadd E.ex E.by dL_law_904 ?_
  refine lv_topi (fun y904 ey904 => ?_)
  have ey904 : y904 = nI (i + 3) := ey904.trans (nI_add i 3)
  subst ey904
  refine va_sld E.ex E.by hX hbl (Nat.not_le.mpr hbl) G.2.2.1 (vp_in_nI (show i + 3 < L by omega) (by omega)) dL_law_905 ?_
  refine lv_aload_n E.ex E.by dL_law_906 rfl (lv_at hl 3 rfl) ?_
  refine lv_iload_n E.ex E.by dL_law_907 rfl (lv_at hl 0 rfl) ?_
  refine lv_iconst (v := 4) E.ex E.by dL_law_908 (by decide) ?_
  refine lv_iadd E.ex E.by dL_law_909 ?_
  refine lv_topi (fun y909 ey909 => ?_)
  have ey909 : y909 = nI (i + 4) := ey909.trans (nI_add i 4)
  subst ey909
  refine va_sld E.ex E.by hX hbl (Nat.not_le.mpr hbl) G.2.2.1 (vp_in_nI (show i + 4 < L by omega) (by omega)) dL_law_910 ?_
  refine lv_aload_n E.ex E.by dL_law_911 rfl (lv_at hl 3 rfl) ?_
  refine lv_iload_n E.ex E.by dL_law_912 rfl (lv_at hl 0 rfl) ?_
  refine lv_iconst (v := 5) E.ex E.by dL_law_913 (by decide) ?_
  refine lv_iadd E.ex E.by dL_law_914 ?_
  refine lv_topi (fun y914 ey914 => ?_)
  have ey914 : y914 = nI (i + 5) := ey914.trans (nI_add i 5)
  subst ey914
  refine va_sld E.ex E.by hX hbl (Nat.not_le.mpr hbl) G.2.2.1 (vp_in_nI (show i + 5 < L by omega) (by omega)) dL_law_915 ?_
  refine k_cVl (n := 5) (X := fl [wMn kc ad μ, wFo kc ad fo, wC kc (ad 1) κ, wC kc (ad 2) ρ, wHi kc ad η, wKp kc ad kp, wLu kc (ad 5) (ad 1) lu, wMo kc (ad 6) (ad 1) (ad 7) u1.1, wE kc (ad 7) u1.2, wBp kc (ad 9) (ad 1) π, wSb kc ad β, pl]) (w := wM kc am τ) (Z := []) (wnew := (fun u : US => (fl [wMn kc ad μ, wFo kc ad fo, wC kc (ad 1) κ, wC kc (ad 2) ρ, wHi kc ad η, wKp kc ad kp, wLu kc (ad 5) (ad 1) lu, wMo kc (ad 6) (ad 1) (ad 7) u1.1, wE kc (ad 7) u1.2, wBp kc (ad 9) (ad 1) π, wSb kc ad β, pl]) ++ wM kc am u)) (As := [.int (xs (nI (i + 1)).toNatClampNeg), .int (xs (nI (i + 2)).toNatClampNeg), .int (xs (nI (i + 3)).toNatClampNeg), .int (xs (nI (i + 4)).toNatClampNeg), .int (xs (nI (i + 5)).toNatClampNeg)]) (rest := [.long (f_within A (xs (nI (i + 1)).toNatClampNeg) (xs (nI (i + 2)).toNatClampNeg) (xs (nI (i + 3)).toNatClampNeg) (xs (nI (i + 4)).toNatClampNeg) (xs (nI (i + 5)).toNatClampNeg))]) E (by rw [List.append_nil]) G (c_X12_within l D kc am (xs (nI (i + 1)).toNatClampNeg) (xs (nI (i + 2)).toNatClampNeg) (xs (nI (i + 3)).toNatClampNeg) (xs (nI (i + 4)).toNatClampNeg) (xs (nI (i + 5)).toNatClampNeg) τ (fun (r : Int64) (u : US) => r = f_within A (xs (nI (i + 1)).toNatClampNeg) (xs (nI (i + 2)).toNatClampNeg) (xs (nI (i + 3)).toNatClampNeg) (xs (nI (i + 4)).toNatClampNeg) (xs (nI (i + 5)).toNatClampNeg) ∧ RSt A u) (q12_within ok T (fun _ T' => ⟨rfl, T'⟩))) gL_law_X12_within rfl ⟨rfl, rfl⟩ hd_X12_within_v ⟨rfl, rfl⟩ 0 (gM_0 _ _ _) rfl rfl hl rfl rfl dL_law_916 ⟨Nat.ble_eq_true_of_le (show cells + 0 + 0 ≤ 600000 by omega), Nat.ble_eq_true_of_le (show slots + 0 + 0 ≤ 7302250 by omega)⟩ (fun _ => by rw [List.append_nil]) (fun r2 u2 hq2 H locs G => ?_)
  obtain ⟨e2, T1⟩ := hq2
  subst e2
  have G : kG D _ s ((fl [wMn kc ad μ, wFo kc ad fo, wC kc (ad 1) κ, wC kc (ad 2) ρ, wHi kc ad η, wKp kc ad kp, wLu kc (ad 5) (ad 1) lu, wMo kc (ad 6) (ad 1) (ad 7) u1.1, wE kc (ad 7) u1.2, wBp kc (ad 9) (ad 1) π, wSb kc ad β, pl]) ++ wM kc am u2) H _ := G
  refine W.lcmp E.ex E.by dL_law_919 ?_
  refine lv_if_eq (tgt := 1302) E.ex E.by dL_law_920 (by decide) (fun _ => ?_) (fun hc => absurd (lg_same _) hc)
  refine W.widen (k := cells + 132) (n := slots + 1204) (by omega) (by omega) ?_
  exact IH _ _ _ _ _ _ _ _ _ _ _ _ _ _ _ _ _ ok C1 T1 G hl
set_option maxRecDepth 100000 in
set_option maxHeartbeats 8000000 in
theorem law_never (E : kE p s m meth c #[Value.ref b] code 4 RL nm wsL_law ret D (tyL kc)) (hX : va_X b L xs s s.heap) (hbl : b < s.heap.size) (hi : i + 6 ≤ L) (hL : L ≤ 3072) (hc : cells + 132 ≤ 600000) (hs : slots + 1204 ≤ 7302250) (ok : okA A) (C : CSt kc A μ fo κ ρ η kp β pl) (T : RSt A τ) (G : kG D (fun q => s.heap.size ≤ q) s (fl [wMn kc ad μ, wFo kc ad fo, wC kc (ad 1) κ, wC kc (ad 2) ρ, wHi kc ad η, wKp kc ad kp, wLu kc (ad 5) (ad 1) lu, wMo kc (ad 6) (ad 1) (ad 7) σ, wE kc (ad 7) ε, wBp kc (ad 9) (ad 1) π, wSb kc ad β, pl] ++ wM kc am τ) H locs) (hl : lv_has ls 4 [(3, .int (nI i)), (2, .ref (am 0)), (1, .ref (ad 0 0)), (0, .ref b)]) (IH : LGo p l e s m below meth c b i D kc ad am (cells + 132) (slots + 1204) QQ) : W p l e room_1 s m #[Value.ref b] below meth c H locs cells slots QQ (F0 m 925 ls []) := by
  refine lv_aload_n E.ex E.by dL_law_925 rfl (lv_at hl 2 rfl) ?_
  refine lv_aload_n E.ex E.by dL_law_926 rfl (lv_at hl 3 rfl) ?_
  refine lv_iload_n E.ex E.by dL_law_927 rfl (lv_at hl 0 rfl) ?_
  refine lv_iconst (v := 1) E.ex E.by dL_law_928 (by decide) ?_
  refine lv_iadd E.ex E.by dL_law_929 ?_
  refine lv_topi (fun y929 ey929 => ?_)
  have ey929 : y929 = nI (i + 1) := ey929.trans (nI_add i 1)
  subst ey929
  refine va_sld E.ex E.by hX hbl (Nat.not_le.mpr hbl) G.2.2.1 (vp_in_nI (show i + 1 < L by omega) (by omega)) dL_law_930 ?_
  refine lv_aload_n E.ex E.by dL_law_931 rfl (lv_at hl 3 rfl) ?_
  refine lv_iload_n E.ex E.by dL_law_932 rfl (lv_at hl 0 rfl) ?_
  refine lv_iconst (v := 2) E.ex E.by dL_law_933 (by decide) ?_
  refine lv_iadd E.ex E.by dL_law_934 ?_
  refine lv_topi (fun y934 ey934 => ?_)
  have ey934 : y934 = nI (i + 2) := ey934.trans (nI_add i 2)
  subst ey934
  refine va_sld E.ex E.by hX hbl (Nat.not_le.mpr hbl) G.2.2.1 (vp_in_nI (show i + 2 < L by omega) (by omega)) dL_law_935 ?_
  refine k_cVi (n := 2) (X := []) (w := fl [wMn kc ad μ, wFo kc ad fo, wC kc (ad 1) κ, wC kc (ad 2) ρ, wHi kc ad η, wKp kc ad kp, wLu kc (ad 5) (ad 1) lu, wMo kc (ad 6) (ad 1) (ad 7) σ, wE kc (ad 7) ε, wBp kc (ad 9) (ad 1) π, wSb kc ad β, pl]) (Z := wM kc am τ) (wnew := (fun u : US × US => (fl [wMn kc ad μ, wFo kc ad fo, wC kc (ad 1) κ, wC kc (ad 2) ρ, wHi kc ad η, wKp kc ad kp, wLu kc (ad 5) (ad 1) lu, wMo kc (ad 6) (ad 1) (ad 7) u.1, wE kc (ad 7) u.2, wBp kc (ad 9) (ad 1) π, wSb kc ad β, pl]) ++ wM kc am τ)) (As := [.int (xs (nI (i + 1)).toNatClampNeg), .int (xs (nI (i + 2)).toNatClampNeg)]) (rest := []) E rfl G (c_X11_never l D kc ad (xs (nI (i + 1)).toNatClampNeg) (xs (nI (i + 2)).toNatClampNeg) μ fo κ ρ η kp lu σ ε π β pl (fun (r : Int32) (_ : US × US) => r = f_never A (xs (nI (i + 1)).toNatClampNeg) (xs (nI (i + 2)).toNatClampNeg)) (q11_never ok C (fun _ => rfl))) gL_law_X11_never rfl ⟨rfl, rfl⟩ hd_X11_never_v ⟨rfl, rfl⟩ 0 rfl rfl rfl hl rfl rfl dL_law_936 ⟨Nat.ble_eq_true_of_le (show cells + 0 ≤ 600000 by omega), Nat.ble_eq_true_of_le (show slots + 0 ≤ 7302250 by omega)⟩ (fun _ => rfl) (fun r1 u1 hq1 H locs G => ?_)
  have e1 := hq1
  subst e1
  have C1 := C
  have G : kG D _ s ((fl [wMn kc ad μ, wFo kc ad fo, wC kc (ad 1) κ, wC kc (ad 2) ρ, wHi kc ad η, wKp kc ad kp, wLu kc (ad 5) (ad 1) lu, wMo kc (ad 6) (ad 1) (ad 7) u1.1, wE kc (ad 7) u1.2, wBp kc (ad 9) (ad 1) π, wSb kc ad β, pl]) ++ wM kc am τ) H _ := G
  refine lv_aload_n E.ex E.by dL_law_939 rfl (lv_at hl 1 rfl) ?_
  refine lv_aload_n E.ex E.by dL_law_940 rfl (lv_at hl 3 rfl) ?_
  refine lv_iload_n E.ex E.by dL_law_941 rfl (lv_at hl 0 rfl) ?_
  refine lv_iconst (v := 1) E.ex E.by dL_law_942 (by decide) ?_
  refine lv_iadd E.ex E.by dL_law_943 ?_
  refine lv_topi (fun y943 ey943 => ?_)
  have ey943 : y943 = nI (i + 1) := ey943.trans (nI_add i 1)
  subst ey943
  refine va_sld E.ex E.by hX hbl (Nat.not_le.mpr hbl) G.2.2.1 (vp_in_nI (show i + 1 < L by omega) (by omega)) dL_law_944 ?_
  refine lv_aload_n E.ex E.by dL_law_945 rfl (lv_at hl 3 rfl) ?_
  refine lv_iload_n E.ex E.by dL_law_946 rfl (lv_at hl 0 rfl) ?_
  refine lv_iconst (v := 2) E.ex E.by dL_law_947 (by decide) ?_
  refine lv_iadd E.ex E.by dL_law_948 ?_
  refine lv_topi (fun y948 ey948 => ?_)
  have ey948 : y948 = nI (i + 2) := ey948.trans (nI_add i 2)
  subst ey948
  refine va_sld E.ex E.by hX hbl (Nat.not_le.mpr hbl) G.2.2.1 (vp_in_nI (show i + 2 < L by omega) (by omega)) dL_law_949 ?_
  refine k_cVi (n := 2) (X := fl [wMn kc ad μ, wFo kc ad fo, wC kc (ad 1) κ, wC kc (ad 2) ρ, wHi kc ad η, wKp kc ad kp, wLu kc (ad 5) (ad 1) lu, wMo kc (ad 6) (ad 1) (ad 7) u1.1, wE kc (ad 7) u1.2, wBp kc (ad 9) (ad 1) π, wSb kc ad β, pl]) (w := wM kc am τ) (Z := []) (wnew := (fun u : US => (fl [wMn kc ad μ, wFo kc ad fo, wC kc (ad 1) κ, wC kc (ad 2) ρ, wHi kc ad η, wKp kc ad kp, wLu kc (ad 5) (ad 1) lu, wMo kc (ad 6) (ad 1) (ad 7) u1.1, wE kc (ad 7) u1.2, wBp kc (ad 9) (ad 1) π, wSb kc ad β, pl]) ++ wM kc am u)) (As := [.int (xs (nI (i + 1)).toNatClampNeg), .int (xs (nI (i + 2)).toNatClampNeg)]) (rest := [.int (f_never A (xs (nI (i + 1)).toNatClampNeg) (xs (nI (i + 2)).toNatClampNeg))]) E (by rw [List.append_nil]) G (c_X12_never l D kc am (xs (nI (i + 1)).toNatClampNeg) (xs (nI (i + 2)).toNatClampNeg) τ (fun (r : Int32) (u : US) => r = f_never A (xs (nI (i + 1)).toNatClampNeg) (xs (nI (i + 2)).toNatClampNeg) ∧ RSt A u) (q12_never ok T (fun _ T' => ⟨rfl, T'⟩))) gL_law_X12_never rfl ⟨rfl, rfl⟩ hd_X12_never_v ⟨rfl, rfl⟩ 0 (gM_0 _ _ _) rfl rfl hl rfl rfl dL_law_950 ⟨Nat.ble_eq_true_of_le (show cells + 0 + 0 ≤ 600000 by omega), Nat.ble_eq_true_of_le (show slots + 0 + 0 ≤ 7302250 by omega)⟩ (fun _ => by rw [List.append_nil]) (fun r2 u2 hq2 H locs G => ?_)
  obtain ⟨e2, T1⟩ := hq2
  subst e2
  have G : kG D _ s ((fl [wMn kc ad μ, wFo kc ad fo, wC kc (ad 1) κ, wC kc (ad 2) ρ, wHi kc ad η, wKp kc ad kp, wLu kc (ad 5) (ad 1) lu, wMo kc (ad 6) (ad 1) (ad 7) u1.1, wE kc (ad 7) u1.2, wBp kc (ad 9) (ad 1) π, wSb kc ad β, pl]) ++ wM kc am u2) H _ := G
  refine lv_icmp_eq (tgt := 1302) E.ex E.by dL_law_953 (by decide) (fun _ => ?_) (fun hc => absurd rfl hc)
  refine W.widen (k := cells + 132) (n := slots + 1204) (by omega) (by omega) ?_
  exact IH _ _ _ _ _ _ _ _ _ _ _ _ _ _ _ _ _ ok C1 T1 G hl
end LAWD
