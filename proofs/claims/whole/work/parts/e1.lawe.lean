theorem hd_X11_surely_v : yX11_surely.cls = RX11 ∧ yX11_surely.cls ≠ "java/lang/invoke/MethodHandle" ∧ yX11_surely.cls ≠ "java/lang/invoke/VarHandle" ∧ (parseMethodDescriptor yX11_surely.desc).map (fun d => d.parameters.length) = some 2 := by decide +kernel
theorem hd_X12_surely_v : yX12_surely.cls = RX12 ∧ yX12_surely.cls ≠ "java/lang/invoke/MethodHandle" ∧ yX12_surely.cls ≠ "java/lang/invoke/VarHandle" ∧ (parseMethodDescriptor yX12_surely.desc).map (fun d => d.parameters.length) = some 2 := by decide +kernel
theorem hd_X11_steady_v : yX11_steady.cls = RX11 ∧ yX11_steady.cls ≠ "java/lang/invoke/MethodHandle" ∧ yX11_steady.cls ≠ "java/lang/invoke/VarHandle" ∧ (parseMethodDescriptor yX11_steady.desc).map (fun d => d.parameters.length) = some 3 := by decide +kernel
theorem hd_X12_steady_v : yX12_steady.cls = RX12 ∧ yX12_steady.cls ≠ "java/lang/invoke/MethodHandle" ∧ yX12_steady.cls ≠ "java/lang/invoke/VarHandle" ∧ (parseMethodDescriptor yX12_steady.desc).map (fun d => d.parameters.length) = some 3 := by decide +kernel
theorem hd_X11_share_v : yX11_share.cls = RX11 ∧ yX11_share.cls ≠ "java/lang/invoke/MethodHandle" ∧ yX11_share.cls ≠ "java/lang/invoke/VarHandle" ∧ (parseMethodDescriptor yX11_share.desc).map (fun d => d.parameters.length) = some 2 := by decide +kernel
theorem hd_X12_share_v : yX12_share.cls = RX12 ∧ yX12_share.cls ≠ "java/lang/invoke/MethodHandle" ∧ yX12_share.cls ≠ "java/lang/invoke/VarHandle" ∧ (parseMethodDescriptor yX12_share.desc).map (fun d => d.parameters.length) = some 2 := by decide +kernel
theorem hd_X11_expected_v : yX11_expected.cls = RX11 ∧ yX11_expected.cls ≠ "java/lang/invoke/MethodHandle" ∧ yX11_expected.cls ≠ "java/lang/invoke/VarHandle" ∧ (parseMethodDescriptor yX11_expected.desc).map (fun d => d.parameters.length) = some 3 := by decide +kernel
theorem hd_X12_expected_v : yX12_expected.cls = RX12 ∧ yX12_expected.cls ≠ "java/lang/invoke/MethodHandle" ∧ yX12_expected.cls ≠ "java/lang/invoke/VarHandle" ∧ (parseMethodDescriptor yX12_expected.desc).map (fun d => d.parameters.length) = some 3 := by decide +kernel
theorem hd_X11_bestPath_v : yX11_bestPath.cls = RX11 ∧ yX11_bestPath.cls ≠ "java/lang/invoke/MethodHandle" ∧ yX11_bestPath.cls ≠ "java/lang/invoke/VarHandle" ∧ (parseMethodDescriptor yX11_bestPath.desc).map (fun d => d.parameters.length) = some 4 := by decide +kernel
theorem hd_X12_bestPath_v : yX12_bestPath.cls = RX12 ∧ yX12_bestPath.cls ≠ "java/lang/invoke/MethodHandle" ∧ yX12_bestPath.cls ≠ "java/lang/invoke/VarHandle" ∧ (parseMethodDescriptor yX12_bestPath.desc).map (fun d => d.parameters.length) = some 4 := by decide +kernel
theorem hd_X11_bestProduct_v : yX11_bestProduct.cls = RX11 ∧ yX11_bestProduct.cls ≠ "java/lang/invoke/MethodHandle" ∧ yX11_bestProduct.cls ≠ "java/lang/invoke/VarHandle" ∧ (parseMethodDescriptor yX11_bestProduct.desc).map (fun d => d.parameters.length) = some 4 := by decide +kernel
theorem hd_X12_bestProduct_v : yX12_bestProduct.cls = RX12 ∧ yX12_bestProduct.cls ≠ "java/lang/invoke/MethodHandle" ∧ yX12_bestProduct.cls ≠ "java/lang/invoke/VarHandle" ∧ (parseMethodDescriptor yX12_bestProduct.desc).map (fun d => d.parameters.length) = some 4 := by decide +kernel
theorem hd_X11_walk_v : yX11_walk.cls = RX11 ∧ yX11_walk.cls ≠ "java/lang/invoke/MethodHandle" ∧ yX11_walk.cls ≠ "java/lang/invoke/VarHandle" ∧ (parseMethodDescriptor yX11_walk.desc).map (fun d => d.parameters.length) = some 3 := by decide +kernel
theorem hd_X12_walk_v : yX12_walk.cls = RX12 ∧ yX12_walk.cls ≠ "java/lang/invoke/MethodHandle" ∧ yX12_walk.cls ≠ "java/lang/invoke/VarHandle" ∧ (parseMethodDescriptor yX12_walk.desc).map (fun d => d.parameters.length) = some 3 := by decide +kernel
section LAWE
variable {p : Program} {l : Launch} {e : Env} {s : State} {m : MethodId} {below : List Frame} {meth : Method} {c : Code} {b L i : Nat} {xs : Nat → Int32} {D : va_G} {kc : Nat → ClassId} {ad : Nat → Nat → Nat} {am : Nat → Nat} {nm : String} {A : AB} {μ κ ρ η lu σ ε π τ : US} {fo : Nat → Option Nat} {kp : Nat → US} {β : SBT} {pl : va_W} {H : Heap} {locs : List Loc} {ls : Array Slot} {cells slots : Nat} {QQ : State → Prop}
set_option maxRecDepth 100000 in
set_option maxHeartbeats 8000000 in
theorem law_surely (E : kE p s m meth c #[Value.ref b] code 4 RL nm wsL_law ret D (tyL kc)) (hX : va_X b L xs s s.heap) (hbl : b < s.heap.size) (hi : i + 6 ≤ L) (hL : L ≤ 3072) (hc : cells + 132 ≤ 600000) (hs : slots + 1204 ≤ 7302250) (ok : okA A) (C : CSt kc A μ fo κ ρ η kp β pl) (T : RSt A τ) (G : kG D (fun q => s.heap.size ≤ q) s (fl [wMn kc ad μ, wFo kc ad fo, wC kc (ad 1) κ, wC kc (ad 2) ρ, wHi kc ad η, wKp kc ad kp, wLu kc (ad 5) (ad 1) lu, wMo kc (ad 6) (ad 1) (ad 7) σ, wE kc (ad 7) ε, wBp kc (ad 9) (ad 1) π, wSb kc ad β, pl] ++ wM kc am τ) H locs) (hl : lv_has ls 4 [(3, .int (nI i)), (2, .ref (am 0)), (1, .ref (ad 0 0)), (0, .ref b)]) (IH : LGo p l e s m below meth c b i D kc ad am (cells + 132) (slots + 1204) QQ) : W p l e room_1 s m #[Value.ref b] below meth c H locs cells slots QQ (F0 m 958 ls []) := by
  refine lv_aload_n E.ex E.by dL_law_958 rfl (lv_at hl 2 rfl) ?_
  refine lv_aload_n E.ex E.by dL_law_959 rfl (lv_at hl 3 rfl) ?_
  refine lv_iload_n E.ex E.by dL_law_960 rfl (lv_at hl 0 rfl) ?_
  refine lv_iconst (v := 1) E.ex E.by dL_law_961 (by decide) ?_
  refine lv_iadd E.ex E.by dL_law_962 ?_
  refine lv_topi (fun y962 ey962 => ?_)
  have ey962 : y962 = nI (i + 1) := ey962.trans (nI_add i 1)
  subst ey962
  refine va_sld E.ex E.by hX hbl (Nat.not_le.mpr hbl) G.2.2.1 (vp_in_nI (show i + 1 < L by omega) (by omega)) dL_law_963 ?_
  refine lv_aload_n E.ex E.by dL_law_964 rfl (lv_at hl 3 rfl) ?_
  refine lv_iload_n E.ex E.by dL_law_965 rfl (lv_at hl 0 rfl) ?_
  refine lv_iconst (v := 2) E.ex E.by dL_law_966 (by decide) ?_
  refine lv_iadd E.ex E.by dL_law_967 ?_
  refine lv_topi (fun y967 ey967 => ?_)
  have ey967 : y967 = nI (i + 2) := ey967.trans (nI_add i 2)
  subst ey967
  refine va_sld E.ex E.by hX hbl (Nat.not_le.mpr hbl) G.2.2.1 (vp_in_nI (show i + 2 < L by omega) (by omega)) dL_law_968 ?_
  refine k_cVi (n := 2) (X := []) (w := fl [wMn kc ad μ, wFo kc ad fo, wC kc (ad 1) κ, wC kc (ad 2) ρ, wHi kc ad η, wKp kc ad kp, wLu kc (ad 5) (ad 1) lu, wMo kc (ad 6) (ad 1) (ad 7) σ, wE kc (ad 7) ε, wBp kc (ad 9) (ad 1) π, wSb kc ad β, pl]) (Z := wM kc am τ) (wnew := (fun u : US × US => (fl [wMn kc ad μ, wFo kc ad fo, wC kc (ad 1) κ, wC kc (ad 2) ρ, wHi kc ad η, wKp kc ad kp, wLu kc (ad 5) (ad 1) lu, wMo kc (ad 6) (ad 1) (ad 7) u.1, wE kc (ad 7) u.2, wBp kc (ad 9) (ad 1) π, wSb kc ad β, pl]) ++ wM kc am τ)) (As := [.int (xs (nI (i + 1)).toNatClampNeg), .int (xs (nI (i + 2)).toNatClampNeg)]) (rest := []) E rfl G (c_X11_surely l D kc ad (xs (nI (i + 1)).toNatClampNeg) (xs (nI (i + 2)).toNatClampNeg) μ fo κ ρ η kp lu σ ε π β pl (fun (r : Int32) (_ : US × US) => r = f_surely A (xs (nI (i + 1)).toNatClampNeg) (xs (nI (i + 2)).toNatClampNeg)) (q11_surely ok C (fun _ => rfl))) gL_law_X11_surely rfl ⟨rfl, rfl⟩ hd_X11_surely_v ⟨rfl, rfl⟩ 0 rfl rfl rfl hl rfl rfl dL_law_969 ⟨Nat.ble_eq_true_of_le (show cells + 0 ≤ 600000 by omega), Nat.ble_eq_true_of_le (show slots + 0 ≤ 7302250 by omega)⟩ (fun _ => rfl) (fun r1 u1 hq1 H locs G => ?_)
  have e1 := hq1
  subst e1
  have C1 := C
  have G : kG D _ s ((fl [wMn kc ad μ, wFo kc ad fo, wC kc (ad 1) κ, wC kc (ad 2) ρ, wHi kc ad η, wKp kc ad kp, wLu kc (ad 5) (ad 1) lu, wMo kc (ad 6) (ad 1) (ad 7) u1.1, wE kc (ad 7) u1.2, wBp kc (ad 9) (ad 1) π, wSb kc ad β, pl]) ++ wM kc am τ) H _ := G
  refine lv_aload_n E.ex E.by dL_law_972 rfl (lv_at hl 1 rfl) ?_
  refine lv_aload_n E.ex E.by dL_law_973 rfl (lv_at hl 3 rfl) ?_
  refine lv_iload_n E.ex E.by dL_law_974 rfl (lv_at hl 0 rfl) ?_
  refine lv_iconst (v := 1) E.ex E.by dL_law_975 (by decide) ?_
  refine lv_iadd E.ex E.by dL_law_976 ?_
  refine lv_topi (fun y976 ey976 => ?_)
  have ey976 : y976 = nI (i + 1) := ey976.trans (nI_add i 1)
  subst ey976
  refine va_sld E.ex E.by hX hbl (Nat.not_le.mpr hbl) G.2.2.1 (vp_in_nI (show i + 1 < L by omega) (by omega)) dL_law_977 ?_
  refine lv_aload_n E.ex E.by dL_law_978 rfl (lv_at hl 3 rfl) ?_
  refine lv_iload_n E.ex E.by dL_law_979 rfl (lv_at hl 0 rfl) ?_
  refine lv_iconst (v := 2) E.ex E.by dL_law_980 (by decide) ?_
  refine lv_iadd E.ex E.by dL_law_981 ?_
  refine lv_topi (fun y981 ey981 => ?_)
  have ey981 : y981 = nI (i + 2) := ey981.trans (nI_add i 2)
  subst ey981
  refine va_sld E.ex E.by hX hbl (Nat.not_le.mpr hbl) G.2.2.1 (vp_in_nI (show i + 2 < L by omega) (by omega)) dL_law_982 ?_
  refine k_cVi (n := 2) (X := fl [wMn kc ad μ, wFo kc ad fo, wC kc (ad 1) κ, wC kc (ad 2) ρ, wHi kc ad η, wKp kc ad kp, wLu kc (ad 5) (ad 1) lu, wMo kc (ad 6) (ad 1) (ad 7) u1.1, wE kc (ad 7) u1.2, wBp kc (ad 9) (ad 1) π, wSb kc ad β, pl]) (w := wM kc am τ) (Z := []) (wnew := (fun u : US => (fl [wMn kc ad μ, wFo kc ad fo, wC kc (ad 1) κ, wC kc (ad 2) ρ, wHi kc ad η, wKp kc ad kp, wLu kc (ad 5) (ad 1) lu, wMo kc (ad 6) (ad 1) (ad 7) u1.1, wE kc (ad 7) u1.2, wBp kc (ad 9) (ad 1) π, wSb kc ad β, pl]) ++ wM kc am u)) (As := [.int (xs (nI (i + 1)).toNatClampNeg), .int (xs (nI (i + 2)).toNatClampNeg)]) (rest := [.int (f_surely A (xs (nI (i + 1)).toNatClampNeg) (xs (nI (i + 2)).toNatClampNeg))]) E (by rw [List.append_nil]) G (c_X12_surely l D kc am (xs (nI (i + 1)).toNatClampNeg) (xs (nI (i + 2)).toNatClampNeg) τ (fun (r : Int32) (u : US) => r = f_surely A (xs (nI (i + 1)).toNatClampNeg) (xs (nI (i + 2)).toNatClampNeg) ∧ RSt A u) (q12_surely ok T (fun _ T' => ⟨rfl, T'⟩))) gL_law_X12_surely rfl ⟨rfl, rfl⟩ hd_X12_surely_v ⟨rfl, rfl⟩ 0 (gM_0 _ _ _) rfl rfl hl rfl rfl dL_law_983 ⟨Nat.ble_eq_true_of_le (show cells + 0 + 0 ≤ 600000 by omega), Nat.ble_eq_true_of_le (show slots + 0 + 0 ≤ 7302250 by omega)⟩ (fun _ => by rw [List.append_nil]) (fun r2 u2 hq2 H locs G => ?_)
  obtain ⟨e2, T1⟩ := hq2
  subst e2
  have G : kG D _ s ((fl [wMn kc ad μ, wFo kc ad fo, wC kc (ad 1) κ, wC kc (ad 2) ρ, wHi kc ad η, wKp kc ad kp, wLu kc (ad 5) (ad 1) lu, wMo kc (ad 6) (ad 1) (ad 7) u1.1, wE kc (ad 7) u1.2, wBp kc (ad 9) (ad 1) π, wSb kc ad β, pl]) ++ wM kc am u2) H _ := G
  refine lv_icmp_eq (tgt := 1302) E.ex E.by dL_law_986 (by decide) (fun _ => ?_) (fun hc => absurd rfl hc)
  refine W.widen (k := cells + 132) (n := slots + 1204) (by omega) (by omega) ?_
  exact IH _ _ _ _ _ _ _ _ _ _ _ _ _ _ _ _ _ ok C1 T1 G hl
set_option maxRecDepth 100000 in
set_option maxHeartbeats 8000000 in
theorem law_steady (E : kE p s m meth c #[Value.ref b] code 4 RL nm wsL_law ret D (tyL kc)) (hX : va_X b L xs s s.heap) (hbl : b < s.heap.size) (hi : i + 6 ≤ L) (hL : L ≤ 3072) (hc : cells + 132 ≤ 600000) (hs : slots + 1204 ≤ 7302250) (ok : okA A) (C : CSt kc A μ fo κ ρ η kp β pl) (T : RSt A τ) (G : kG D (fun q => s.heap.size ≤ q) s (fl [wMn kc ad μ, wFo kc ad fo, wC kc (ad 1) κ, wC kc (ad 2) ρ, wHi kc ad η, wKp kc ad kp, wLu kc (ad 5) (ad 1) lu, wMo kc (ad 6) (ad 1) (ad 7) σ, wE kc (ad 7) ε, wBp kc (ad 9) (ad 1) π, wSb kc ad β, pl] ++ wM kc am τ) H locs) (hl : lv_has ls 4 [(3, .int (nI i)), (2, .ref (am 0)), (1, .ref (ad 0 0)), (0, .ref b)]) (IH : LGo p l e s m below meth c b i D kc ad am (cells + 132) (slots + 1204) QQ) : W p l e room_1 s m #[Value.ref b] below meth c H locs cells slots QQ (F0 m 991 ls []) := by
  refine lv_aload_n E.ex E.by dL_law_991 rfl (lv_at hl 2 rfl) ?_
  refine lv_aload_n E.ex E.by dL_law_992 rfl (lv_at hl 3 rfl) ?_
  refine lv_iload_n E.ex E.by dL_law_993 rfl (lv_at hl 0 rfl) ?_
  refine lv_iconst (v := 1) E.ex E.by dL_law_994 (by decide) ?_
  refine lv_iadd E.ex E.by dL_law_995 ?_
  refine lv_topi (fun y995 ey995 => ?_)
  have ey995 : y995 = nI (i + 1) := ey995.trans (nI_add i 1)
  subst ey995
  refine va_sld E.ex E.by hX hbl (Nat.not_le.mpr hbl) G.2.2.1 (vp_in_nI (show i + 1 < L by omega) (by omega)) dL_law_996 ?_
  refine lv_aload_n E.ex E.by dL_law_997 rfl (lv_at hl 3 rfl) ?_
  refine lv_iload_n E.ex E.by dL_law_998 rfl (lv_at hl 0 rfl) ?_
  refine lv_iconst (v := 2) E.ex E.by dL_law_999 (by decide) ?_
  refine lv_iadd E.ex E.by dL_law_1000 ?_
  refine lv_topi (fun y1000 ey1000 => ?_)
  have ey1000 : y1000 = nI (i + 2) := ey1000.trans (nI_add i 2)
  subst ey1000
  refine va_sld E.ex E.by hX hbl (Nat.not_le.mpr hbl) G.2.2.1 (vp_in_nI (show i + 2 < L by omega) (by omega)) dL_law_1001 ?_
  refine lv_aload_n E.ex E.by dL_law_1002 rfl (lv_at hl 3 rfl) ?_
  refine lv_iload_n E.ex E.by dL_law_1003 rfl (lv_at hl 0 rfl) ?_
  refine lv_iconst (v := 3) E.ex E.by dL_law_1004 (by decide) ?_
  refine lv_iadd E.ex E.by dL_law_1005 ?_
  refine lv_topi (fun y1005 ey1005 => ?_)
  have ey1005 : y1005 = nI (i + 3) := ey1005.trans (nI_add i 3)
  subst ey1005
  refine va_sld E.ex E.by hX hbl (Nat.not_le.mpr hbl) G.2.2.1 (vp_in_nI (show i + 3 < L by omega) (by omega)) dL_law_1006 ?_
  refine k_cVl (n := 3) (X := []) (w := fl [wMn kc ad μ, wFo kc ad fo, wC kc (ad 1) κ, wC kc (ad 2) ρ, wHi kc ad η, wKp kc ad kp, wLu kc (ad 5) (ad 1) lu, wMo kc (ad 6) (ad 1) (ad 7) σ, wE kc (ad 7) ε, wBp kc (ad 9) (ad 1) π, wSb kc ad β, pl]) (Z := wM kc am τ) (wnew := (fun u : US × US => (fl [wMn kc ad μ, wFo kc ad fo, wC kc (ad 1) κ, wC kc (ad 2) ρ, wHi kc ad η, wKp kc ad kp, wLu kc (ad 5) (ad 1) lu, wMo kc (ad 6) (ad 1) (ad 7) u.1, wE kc (ad 7) u.2, wBp kc (ad 9) (ad 1) π, wSb kc ad β, pl]) ++ wM kc am τ)) (As := [.int (xs (nI (i + 1)).toNatClampNeg), .int (xs (nI (i + 2)).toNatClampNeg), .int (xs (nI (i + 3)).toNatClampNeg)]) (rest := []) E rfl G (c_X11_steady l D kc ad (xs (nI (i + 1)).toNatClampNeg) (xs (nI (i + 2)).toNatClampNeg) (xs (nI (i + 3)).toNatClampNeg) μ fo κ ρ η kp lu σ ε π β pl (fun (r : Int64) (_ : US × US) => r = f_steady A (xs (nI (i + 1)).toNatClampNeg) (xs (nI (i + 2)).toNatClampNeg) (xs (nI (i + 3)).toNatClampNeg)) (q11_steady ok C (fun _ => rfl))) gL_law_X11_steady rfl ⟨rfl, rfl⟩ hd_X11_steady_v ⟨rfl, rfl⟩ 0 rfl rfl rfl hl rfl rfl dL_law_1007 ⟨Nat.ble_eq_true_of_le (show cells + 0 ≤ 600000 by omega), Nat.ble_eq_true_of_le (show slots + 0 ≤ 7302250 by omega)⟩ (fun _ => rfl) (fun r1 u1 hq1 H locs G => ?_)
  have e1 := hq1
  subst e1
  have C1 := C
  have G : kG D _ s ((fl [wMn kc ad μ, wFo kc ad fo, wC kc (ad 1) κ, wC kc (ad 2) ρ, wHi kc ad η, wKp kc ad kp, wLu kc (ad 5) (ad 1) lu, wMo kc (ad 6) (ad 1) (ad 7) u1.1, wE kc (ad 7) u1.2, wBp kc (ad 9) (ad 1) π, wSb kc ad β, pl]) ++ wM kc am τ) H _ := G
  refine lv_aload_n E.ex E.by dL_law_1010 rfl (lv_at hl 1 rfl) ?_
  refine lv_aload_n E.ex E.by dL_law_1011 rfl (lv_at hl 3 rfl) ?_
  refine lv_iload_n E.ex E.by dL_law_1012 rfl (lv_at hl 0 rfl) ?_
  refine lv_iconst (v := 1) E.ex E.by dL_law_1013 (by decide) ?_
  refine lv_iadd E.ex E.by dL_law_1014 ?_
  refine lv_topi (fun y1014 ey1014 => ?_)
  have ey1014 : y1014 = nI (i + 1) := ey1014.trans (nI_add i 1)
  subst ey1014
  refine va_sld E.ex E.by hX hbl (Nat.not_le.mpr hbl) G.2.2.1 (vp_in_nI (show i + 1 < L by omega) (by omega)) dL_law_1015 ?_
  refine lv_aload_n E.ex E.by dL_law_1016 rfl (lv_at hl 3 rfl) ?_
  refine lv_iload_n E.ex E.by dL_law_1017 rfl (lv_at hl 0 rfl) ?_
  refine lv_iconst (v := 2) E.ex E.by dL_law_1018 (by decide) ?_
  refine lv_iadd E.ex E.by dL_law_1019 ?_
  refine lv_topi (fun y1019 ey1019 => ?_)
  have ey1019 : y1019 = nI (i + 2) := ey1019.trans (nI_add i 2)
  subst ey1019
  refine va_sld E.ex E.by hX hbl (Nat.not_le.mpr hbl) G.2.2.1 (vp_in_nI (show i + 2 < L by omega) (by omega)) dL_law_1020 ?_
  refine lv_aload_n E.ex E.by dL_law_1021 rfl (lv_at hl 3 rfl) ?_
  refine lv_iload_n E.ex E.by dL_law_1022 rfl (lv_at hl 0 rfl) ?_
  refine lv_iconst (v := 3) E.ex E.by dL_law_1023 (by decide) ?_
  refine lv_iadd E.ex E.by dL_law_1024 ?_
  refine lv_topi (fun y1024 ey1024 => ?_)
  have ey1024 : y1024 = nI (i + 3) := ey1024.trans (nI_add i 3)
  subst ey1024
  refine va_sld E.ex E.by hX hbl (Nat.not_le.mpr hbl) G.2.2.1 (vp_in_nI (show i + 3 < L by omega) (by omega)) dL_law_1025 ?_
  refine k_cVl (n := 3) (X := fl [wMn kc ad μ, wFo kc ad fo, wC kc (ad 1) κ, wC kc (ad 2) ρ, wHi kc ad η, wKp kc ad kp, wLu kc (ad 5) (ad 1) lu, wMo kc (ad 6) (ad 1) (ad 7) u1.1, wE kc (ad 7) u1.2, wBp kc (ad 9) (ad 1) π, wSb kc ad β, pl]) (w := wM kc am τ) (Z := []) (wnew := (fun u : US => (fl [wMn kc ad μ, wFo kc ad fo, wC kc (ad 1) κ, wC kc (ad 2) ρ, wHi kc ad η, wKp kc ad kp, wLu kc (ad 5) (ad 1) lu, wMo kc (ad 6) (ad 1) (ad 7) u1.1, wE kc (ad 7) u1.2, wBp kc (ad 9) (ad 1) π, wSb kc ad β, pl]) ++ wM kc am u)) (As := [.int (xs (nI (i + 1)).toNatClampNeg), .int (xs (nI (i + 2)).toNatClampNeg), .int (xs (nI (i + 3)).toNatClampNeg)]) (rest := [.long (f_steady A (xs (nI (i + 1)).toNatClampNeg) (xs (nI (i + 2)).toNatClampNeg) (xs (nI (i + 3)).toNatClampNeg))]) E (by rw [List.append_nil]) G (c_X12_steady l D kc am (xs (nI (i + 1)).toNatClampNeg) (xs (nI (i + 2)).toNatClampNeg) (xs (nI (i + 3)).toNatClampNeg) τ (fun (r : Int64) (u : US) => r = f_steady A (xs (nI (i + 1)).toNatClampNeg) (xs (nI (i + 2)).toNatClampNeg) (xs (nI (i + 3)).toNatClampNeg) ∧ RSt A u) (q12_steady ok T (fun _ T' => ⟨rfl, T'⟩))) gL_law_X12_steady rfl ⟨rfl, rfl⟩ hd_X12_steady_v ⟨rfl, rfl⟩ 0 (gM_0 _ _ _) rfl rfl hl rfl rfl dL_law_1026 ⟨Nat.ble_eq_true_of_le (show cells + 0 + 0 ≤ 600000 by omega), Nat.ble_eq_true_of_le (show slots + 0 + 0 ≤ 7302250 by omega)⟩ (fun _ => by rw [List.append_nil]) (fun r2 u2 hq2 H locs G => ?_)
  obtain ⟨e2, T1⟩ := hq2
  subst e2
  have G : kG D _ s ((fl [wMn kc ad μ, wFo kc ad fo, wC kc (ad 1) κ, wC kc (ad 2) ρ, wHi kc ad η, wKp kc ad kp, wLu kc (ad 5) (ad 1) lu, wMo kc (ad 6) (ad 1) (ad 7) u1.1, wE kc (ad 7) u1.2, wBp kc (ad 9) (ad 1) π, wSb kc ad β, pl]) ++ wM kc am u2) H _ := G
  refine W.lcmp E.ex E.by dL_law_1029 ?_
  refine lv_if_eq (tgt := 1302) E.ex E.by dL_law_1030 (by decide) (fun _ => ?_) (fun hc => absurd (lg_same _) hc)
  refine W.widen (k := cells + 132) (n := slots + 1204) (by omega) (by omega) ?_
  exact IH _ _ _ _ _ _ _ _ _ _ _ _ _ _ _ _ _ ok C1 T1 G hl
set_option maxRecDepth 100000 in
set_option maxHeartbeats 8000000 in
theorem law_share (E : kE p s m meth c #[Value.ref b] code 4 RL nm wsL_law ret D (tyL kc)) (hX : va_X b L xs s s.heap) (hbl : b < s.heap.size) (hi : i + 6 ≤ L) (hL : L ≤ 3072) (hc : cells + 132 ≤ 600000) (hs : slots + 1204 ≤ 7302250) (ok : okA A) (C : CSt kc A μ fo κ ρ η kp β pl) (T : RSt A τ) (G : kG D (fun q => s.heap.size ≤ q) s (fl [wMn kc ad μ, wFo kc ad fo, wC kc (ad 1) κ, wC kc (ad 2) ρ, wHi kc ad η, wKp kc ad kp, wLu kc (ad 5) (ad 1) lu, wMo kc (ad 6) (ad 1) (ad 7) σ, wE kc (ad 7) ε, wBp kc (ad 9) (ad 1) π, wSb kc ad β, pl] ++ wM kc am τ) H locs) (hl : lv_has ls 4 [(3, .int (nI i)), (2, .ref (am 0)), (1, .ref (ad 0 0)), (0, .ref b)]) (IH : LGo p l e s m below meth c b i D kc ad am (cells + 132) (slots + 1204) QQ) : W p l e room_1 s m #[Value.ref b] below meth c H locs cells slots QQ (F0 m 1035 ls []) := by
  refine lv_aload_n E.ex E.by dL_law_1035 rfl (lv_at hl 2 rfl) ?_
  refine lv_aload_n E.ex E.by dL_law_1036 rfl (lv_at hl 3 rfl) ?_
  refine lv_iload_n E.ex E.by dL_law_1037 rfl (lv_at hl 0 rfl) ?_
  refine lv_iconst (v := 1) E.ex E.by dL_law_1038 (by decide) ?_
  refine lv_iadd E.ex E.by dL_law_1039 ?_
  refine lv_topi (fun y1039 ey1039 => ?_)
  have ey1039 : y1039 = nI (i + 1) := ey1039.trans (nI_add i 1)
  subst ey1039
  refine va_sld E.ex E.by hX hbl (Nat.not_le.mpr hbl) G.2.2.1 (vp_in_nI (show i + 1 < L by omega) (by omega)) dL_law_1040 ?_
  refine lv_aload_n E.ex E.by dL_law_1041 rfl (lv_at hl 3 rfl) ?_
  refine lv_iload_n E.ex E.by dL_law_1042 rfl (lv_at hl 0 rfl) ?_
  refine lv_iconst (v := 2) E.ex E.by dL_law_1043 (by decide) ?_
  refine lv_iadd E.ex E.by dL_law_1044 ?_
  refine lv_topi (fun y1044 ey1044 => ?_)
  have ey1044 : y1044 = nI (i + 2) := ey1044.trans (nI_add i 2)
  subst ey1044
  refine va_sld E.ex E.by hX hbl (Nat.not_le.mpr hbl) G.2.2.1 (vp_in_nI (show i + 2 < L by omega) (by omega)) dL_law_1045 ?_
  refine k_cVl (n := 2) (X := []) (w := fl [wMn kc ad μ, wFo kc ad fo, wC kc (ad 1) κ, wC kc (ad 2) ρ, wHi kc ad η, wKp kc ad kp, wLu kc (ad 5) (ad 1) lu, wMo kc (ad 6) (ad 1) (ad 7) σ, wE kc (ad 7) ε, wBp kc (ad 9) (ad 1) π, wSb kc ad β, pl]) (Z := wM kc am τ) (wnew := (fun u : US × US => (fl [wMn kc ad μ, wFo kc ad fo, wC kc (ad 1) κ, wC kc (ad 2) ρ, wHi kc ad η, wKp kc ad kp, wLu kc (ad 5) (ad 1) lu, wMo kc (ad 6) (ad 1) (ad 7) u.1, wE kc (ad 7) u.2, wBp kc (ad 9) (ad 1) π, wSb kc ad β, pl]) ++ wM kc am τ)) (As := [.int (xs (nI (i + 1)).toNatClampNeg), .int (xs (nI (i + 2)).toNatClampNeg)]) (rest := []) E rfl G (c_X11_share l D kc ad (xs (nI (i + 1)).toNatClampNeg) (xs (nI (i + 2)).toNatClampNeg) μ fo κ ρ η kp lu σ ε π β pl (fun (r : Int64) (_ : US × US) => r = f_share A (xs (nI (i + 1)).toNatClampNeg) (xs (nI (i + 2)).toNatClampNeg)) (q11_share ok C (fun _ => rfl))) gL_law_X11_share rfl ⟨rfl, rfl⟩ hd_X11_share_v ⟨rfl, rfl⟩ 0 rfl rfl rfl hl rfl rfl dL_law_1046 ⟨Nat.ble_eq_true_of_le (show cells + 0 ≤ 600000 by omega), Nat.ble_eq_true_of_le (show slots + 0 ≤ 7302250 by omega)⟩ (fun _ => rfl) (fun r1 u1 hq1 H locs G => ?_)
  have e1 := hq1
  subst e1
  have C1 := C
  have G : kG D _ s ((fl [wMn kc ad μ, wFo kc ad fo, wC kc (ad 1) κ, wC kc (ad 2) ρ, wHi kc ad η, wKp kc ad kp, wLu kc (ad 5) (ad 1) lu, wMo kc (ad 6) (ad 1) (ad 7) u1.1, wE kc (ad 7) u1.2, wBp kc (ad 9) (ad 1) π, wSb kc ad β, pl]) ++ wM kc am τ) H _ := G
  refine lv_aload_n E.ex E.by dL_law_1049 rfl (lv_at hl 1 rfl) ?_
  refine lv_aload_n E.ex E.by dL_law_1050 rfl (lv_at hl 3 rfl) ?_
  refine lv_iload_n E.ex E.by dL_law_1051 rfl (lv_at hl 0 rfl) ?_
  refine lv_iconst (v := 1) E.ex E.by dL_law_1052 (by decide) ?_
  refine lv_iadd E.ex E.by dL_law_1053 ?_
  refine lv_topi (fun y1053 ey1053 => ?_)
  have ey1053 : y1053 = nI (i + 1) := ey1053.trans (nI_add i 1)
  subst ey1053
  refine va_sld E.ex E.by hX hbl (Nat.not_le.mpr hbl) G.2.2.1 (vp_in_nI (show i + 1 < L by omega) (by omega)) dL_law_1054 ?_
  refine lv_aload_n E.ex E.by dL_law_1055 rfl (lv_at hl 3 rfl) ?_
  refine lv_iload_n E.ex E.by dL_law_1056 rfl (lv_at hl 0 rfl) ?_
  refine lv_iconst (v := 2) E.ex E.by dL_law_1057 (by decide) ?_
  refine lv_iadd E.ex E.by dL_law_1058 ?_
  refine lv_topi (fun y1058 ey1058 => ?_)
  have ey1058 : y1058 = nI (i + 2) := ey1058.trans (nI_add i 2)
  subst ey1058
  refine va_sld E.ex E.by hX hbl (Nat.not_le.mpr hbl) G.2.2.1 (vp_in_nI (show i + 2 < L by omega) (by omega)) dL_law_1059 ?_
  refine k_cVl (n := 2) (X := fl [wMn kc ad μ, wFo kc ad fo, wC kc (ad 1) κ, wC kc (ad 2) ρ, wHi kc ad η, wKp kc ad kp, wLu kc (ad 5) (ad 1) lu, wMo kc (ad 6) (ad 1) (ad 7) u1.1, wE kc (ad 7) u1.2, wBp kc (ad 9) (ad 1) π, wSb kc ad β, pl]) (w := wM kc am τ) (Z := []) (wnew := (fun u : US => (fl [wMn kc ad μ, wFo kc ad fo, wC kc (ad 1) κ, wC kc (ad 2) ρ, wHi kc ad η, wKp kc ad kp, wLu kc (ad 5) (ad 1) lu, wMo kc (ad 6) (ad 1) (ad 7) u1.1, wE kc (ad 7) u1.2, wBp kc (ad 9) (ad 1) π, wSb kc ad β, pl]) ++ wM kc am u)) (As := [.int (xs (nI (i + 1)).toNatClampNeg), .int (xs (nI (i + 2)).toNatClampNeg)]) (rest := [.long (f_share A (xs (nI (i + 1)).toNatClampNeg) (xs (nI (i + 2)).toNatClampNeg))]) E (by rw [List.append_nil]) G (c_X12_share l D kc am (xs (nI (i + 1)).toNatClampNeg) (xs (nI (i + 2)).toNatClampNeg) τ (fun (r : Int64) (u : US) => r = f_share A (xs (nI (i + 1)).toNatClampNeg) (xs (nI (i + 2)).toNatClampNeg) ∧ RSt A u) (q12_share ok T (fun _ T' => ⟨rfl, T'⟩))) gL_law_X12_share rfl ⟨rfl, rfl⟩ hd_X12_share_v ⟨rfl, rfl⟩ 0 (gM_0 _ _ _) rfl rfl hl rfl rfl dL_law_1060 ⟨Nat.ble_eq_true_of_le (show cells + 0 + 0 ≤ 600000 by omega), Nat.ble_eq_true_of_le (show slots + 0 + 0 ≤ 7302250 by omega)⟩ (fun _ => by rw [List.append_nil]) (fun r2 u2 hq2 H locs G => ?_)
  obtain ⟨e2, T1⟩ := hq2
  subst e2
  have G : kG D _ s ((fl [wMn kc ad μ, wFo kc ad fo, wC kc (ad 1) κ, wC kc (ad 2) ρ, wHi kc ad η, wKp kc ad kp, wLu kc (ad 5) (ad 1) lu, wMo kc (ad 6) (ad 1) (ad 7) u1.1, wE kc (ad 7) u1.2, wBp kc (ad 9) (ad 1) π, wSb kc ad β, pl]) ++ wM kc am u2) H _ := G
  refine W.lcmp E.ex E.by dL_law_1063 ?_
  refine lv_if_eq (tgt := 1302) E.ex E.by dL_law_1064 (by decide) (fun _ => ?_) (fun hc => absurd (lg_same _) hc)
  refine W.widen (k := cells + 132) (n := slots + 1204) (by omega) (by omega) ?_
  exact IH _ _ _ _ _ _ _ _ _ _ _ _ _ _ _ _ _ ok C1 T1 G hl
set_option maxRecDepth 100000 in
set_option maxHeartbeats 8000000 in
theorem law_expected (E : kE p s m meth c #[Value.ref b] code 4 RL nm wsL_law ret D (tyL kc)) (hX : va_X b L xs s s.heap) (hbl : b < s.heap.size) (hi : i + 6 ≤ L) (hL : L ≤ 3072) (hc : cells + 132 ≤ 600000) (hs : slots + 1204 ≤ 7302250) (ok : okA A) (C : CSt kc A μ fo κ ρ η kp β pl) (T : RSt A τ) (G : kG D (fun q => s.heap.size ≤ q) s (fl [wMn kc ad μ, wFo kc ad fo, wC kc (ad 1) κ, wC kc (ad 2) ρ, wHi kc ad η, wKp kc ad kp, wLu kc (ad 5) (ad 1) lu, wMo kc (ad 6) (ad 1) (ad 7) σ, wE kc (ad 7) ε, wBp kc (ad 9) (ad 1) π, wSb kc ad β, pl] ++ wM kc am τ) H locs) (hl : lv_has ls 4 [(3, .int (nI i)), (2, .ref (am 0)), (1, .ref (ad 0 0)), (0, .ref b)]) (IH : LGo p l e s m below meth c b i D kc ad am (cells + 132) (slots + 1204) QQ) : W p l e room_1 s m #[Value.ref b] below meth c H locs cells slots QQ (F0 m 1069 ls []) := by
  refine lv_aload_n E.ex E.by dL_law_1069 rfl (lv_at hl 2 rfl) ?_
  refine lv_aload_n E.ex E.by dL_law_1070 rfl (lv_at hl 3 rfl) ?_
  refine lv_iload_n E.ex E.by dL_law_1071 rfl (lv_at hl 0 rfl) ?_
  refine lv_iconst (v := 1) E.ex E.by dL_law_1072 (by decide) ?_
  refine lv_iadd E.ex E.by dL_law_1073 ?_
  refine lv_topi (fun y1073 ey1073 => ?_)
  have ey1073 : y1073 = nI (i + 1) := ey1073.trans (nI_add i 1)
  subst ey1073
  refine va_sld E.ex E.by hX hbl (Nat.not_le.mpr hbl) G.2.2.1 (vp_in_nI (show i + 1 < L by omega) (by omega)) dL_law_1074 ?_
  refine lv_aload_n E.ex E.by dL_law_1075 rfl (lv_at hl 3 rfl) ?_
  refine lv_iload_n E.ex E.by dL_law_1076 rfl (lv_at hl 0 rfl) ?_
  refine lv_iconst (v := 2) E.ex E.by dL_law_1077 (by decide) ?_
  refine lv_iadd E.ex E.by dL_law_1078 ?_
  refine lv_topi (fun y1078 ey1078 => ?_)
  have ey1078 : y1078 = nI (i + 2) := ey1078.trans (nI_add i 2)
  subst ey1078
  refine va_sld E.ex E.by hX hbl (Nat.not_le.mpr hbl) G.2.2.1 (vp_in_nI (show i + 2 < L by omega) (by omega)) dL_law_1079 ?_
  refine lv_aload_n E.ex E.by dL_law_1080 rfl (lv_at hl 3 rfl) ?_
  refine lv_iload_n E.ex E.by dL_law_1081 rfl (lv_at hl 0 rfl) ?_
  refine lv_iconst (v := 3) E.ex E.by dL_law_1082 (by decide) ?_
  refine lv_iadd E.ex E.by dL_law_1083 ?_
  refine lv_topi (fun y1083 ey1083 => ?_)
  have ey1083 : y1083 = nI (i + 3) := ey1083.trans (nI_add i 3)
  subst ey1083
  refine va_sld E.ex E.by hX hbl (Nat.not_le.mpr hbl) G.2.2.1 (vp_in_nI (show i + 3 < L by omega) (by omega)) dL_law_1084 ?_
  refine k_cVl (n := 3) (X := []) (w := fl [wMn kc ad μ, wFo kc ad fo, wC kc (ad 1) κ, wC kc (ad 2) ρ, wHi kc ad η, wKp kc ad kp, wLu kc (ad 5) (ad 1) lu, wMo kc (ad 6) (ad 1) (ad 7) σ, wE kc (ad 7) ε, wBp kc (ad 9) (ad 1) π, wSb kc ad β, pl]) (Z := wM kc am τ) (wnew := (fun u : US × US => (fl [wMn kc ad μ, wFo kc ad fo, wC kc (ad 1) κ, wC kc (ad 2) ρ, wHi kc ad η, wKp kc ad kp, wLu kc (ad 5) (ad 1) lu, wMo kc (ad 6) (ad 1) (ad 7) u.1, wE kc (ad 7) u.2, wBp kc (ad 9) (ad 1) π, wSb kc ad β, pl]) ++ wM kc am τ)) (As := [.int (xs (nI (i + 1)).toNatClampNeg), .int (xs (nI (i + 2)).toNatClampNeg), .int (xs (nI (i + 3)).toNatClampNeg)]) (rest := []) E rfl G (c_X11_expected l D kc ad (xs (nI (i + 1)).toNatClampNeg) (xs (nI (i + 2)).toNatClampNeg) (xs (nI (i + 3)).toNatClampNeg) μ fo κ ρ η kp lu σ ε π β pl (fun (r : Int64) (_ : US × US) => r = f_expected A (xs (nI (i + 1)).toNatClampNeg) (xs (nI (i + 2)).toNatClampNeg) (xs (nI (i + 3)).toNatClampNeg)) (q11_expected ok C (fun _ => rfl))) gL_law_X11_expected rfl ⟨rfl, rfl⟩ hd_X11_expected_v ⟨rfl, rfl⟩ 0 rfl rfl rfl hl rfl rfl dL_law_1085 ⟨Nat.ble_eq_true_of_le (show cells + 0 ≤ 600000 by omega), Nat.ble_eq_true_of_le (show slots + 0 ≤ 7302250 by omega)⟩ (fun _ => rfl) (fun r1 u1 hq1 H locs G => ?_)
  have e1 := hq1
  subst e1
  have C1 := C
  have G : kG D _ s ((fl [wMn kc ad μ, wFo kc ad fo, wC kc (ad 1) κ, wC kc (ad 2) ρ, wHi kc ad η, wKp kc ad kp, wLu kc (ad 5) (ad 1) lu, wMo kc (ad 6) (ad 1) (ad 7) u1.1, wE kc (ad 7) u1.2, wBp kc (ad 9) (ad 1) π, wSb kc ad β, pl]) ++ wM kc am τ) H _ := G
  refine lv_aload_n E.ex E.by dL_law_1088 rfl (lv_at hl 1 rfl) ?_
  refine lv_aload_n E.ex E.by dL_law_1089 rfl (lv_at hl 3 rfl) ?_
  refine lv_iload_n E.ex E.by dL_law_1090 rfl (lv_at hl 0 rfl) ?_
  refine lv_iconst (v := 1) E.ex E.by dL_law_1091 (by decide) ?_
  refine lv_iadd E.ex E.by dL_law_1092 ?_
  refine lv_topi (fun y1092 ey1092 => ?_)
  have ey1092 : y1092 = nI (i + 1) := ey1092.trans (nI_add i 1)
  subst ey1092
  refine va_sld E.ex E.by hX hbl (Nat.not_le.mpr hbl) G.2.2.1 (vp_in_nI (show i + 1 < L by omega) (by omega)) dL_law_1093 ?_
  refine lv_aload_n E.ex E.by dL_law_1094 rfl (lv_at hl 3 rfl) ?_
  refine lv_iload_n E.ex E.by dL_law_1095 rfl (lv_at hl 0 rfl) ?_
  refine lv_iconst (v := 2) E.ex E.by dL_law_1096 (by decide) ?_
  refine lv_iadd E.ex E.by dL_law_1097 ?_
  refine lv_topi (fun y1097 ey1097 => ?_)
  have ey1097 : y1097 = nI (i + 2) := ey1097.trans (nI_add i 2)
  subst ey1097
  refine va_sld E.ex E.by hX hbl (Nat.not_le.mpr hbl) G.2.2.1 (vp_in_nI (show i + 2 < L by omega) (by omega)) dL_law_1098 ?_
  refine lv_aload_n E.ex E.by dL_law_1099 rfl (lv_at hl 3 rfl) ?_
  refine lv_iload_n E.ex E.by dL_law_1100 rfl (lv_at hl 0 rfl) ?_
  refine lv_iconst (v := 3) E.ex E.by dL_law_1101 (by decide) ?_
  refine lv_iadd E.ex E.by dL_law_1102 ?_
  refine lv_topi (fun y1102 ey1102 => ?_)
  have ey1102 : y1102 = nI (i + 3) := ey1102.trans (nI_add i 3)
  subst ey1102
  refine va_sld E.ex E.by hX hbl (Nat.not_le.mpr hbl) G.2.2.1 (vp_in_nI (show i + 3 < L by omega) (by omega)) dL_law_1103 ?_
  refine k_cVl (n := 3) (X := fl [wMn kc ad μ, wFo kc ad fo, wC kc (ad 1) κ, wC kc (ad 2) ρ, wHi kc ad η, wKp kc ad kp, wLu kc (ad 5) (ad 1) lu, wMo kc (ad 6) (ad 1) (ad 7) u1.1, wE kc (ad 7) u1.2, wBp kc (ad 9) (ad 1) π, wSb kc ad β, pl]) (w := wM kc am τ) (Z := []) (wnew := (fun u : US => (fl [wMn kc ad μ, wFo kc ad fo, wC kc (ad 1) κ, wC kc (ad 2) ρ, wHi kc ad η, wKp kc ad kp, wLu kc (ad 5) (ad 1) lu, wMo kc (ad 6) (ad 1) (ad 7) u1.1, wE kc (ad 7) u1.2, wBp kc (ad 9) (ad 1) π, wSb kc ad β, pl]) ++ wM kc am u)) (As := [.int (xs (nI (i + 1)).toNatClampNeg), .int (xs (nI (i + 2)).toNatClampNeg), .int (xs (nI (i + 3)).toNatClampNeg)]) (rest := [.long (f_expected A (xs (nI (i + 1)).toNatClampNeg) (xs (nI (i + 2)).toNatClampNeg) (xs (nI (i + 3)).toNatClampNeg))]) E (by rw [List.append_nil]) G (c_X12_expected l D kc am (xs (nI (i + 1)).toNatClampNeg) (xs (nI (i + 2)).toNatClampNeg) (xs (nI (i + 3)).toNatClampNeg) τ (fun (r : Int64) (u : US) => r = f_expected A (xs (nI (i + 1)).toNatClampNeg) (xs (nI (i + 2)).toNatClampNeg) (xs (nI (i + 3)).toNatClampNeg) ∧ RSt A u) (q12_expected ok T (fun _ T' => ⟨rfl, T'⟩))) gL_law_X12_expected rfl ⟨rfl, rfl⟩ hd_X12_expected_v ⟨rfl, rfl⟩ 0 (gM_0 _ _ _) rfl rfl hl rfl rfl dL_law_1104 ⟨Nat.ble_eq_true_of_le (show cells + 0 + 0 ≤ 600000 by omega), Nat.ble_eq_true_of_le (show slots + 0 + 0 ≤ 7302250 by omega)⟩ (fun _ => by rw [List.append_nil]) (fun r2 u2 hq2 H locs G => ?_)
  obtain ⟨e2, T1⟩ := hq2
  subst e2
  have G : kG D _ s ((fl [wMn kc ad μ, wFo kc ad fo, wC kc (ad 1) κ, wC kc (ad 2) ρ, wHi kc ad η, wKp kc ad kp, wLu kc (ad 5) (ad 1) lu, wMo kc (ad 6) (ad 1) (ad 7) u1.1, wE kc (ad 7) u1.2, wBp kc (ad 9) (ad 1) π, wSb kc ad β, pl]) ++ wM kc am u2) H _ := G
  refine W.lcmp E.ex E.by dL_law_1107 ?_
  refine lv_if_eq (tgt := 1302) E.ex E.by dL_law_1108 (by decide) (fun _ => ?_) (fun hc => absurd (lg_same _) hc)
  refine W.widen (k := cells + 132) (n := slots + 1204) (by omega) (by omega) ?_
  exact IH _ _ _ _ _ _ _ _ _ _ _ _ _ _ _ _ _ ok C1 T1 G hl
set_option maxRecDepth 100000 in
set_option maxHeartbeats 8000000 in
theorem law_bestPath (E : kE p s m meth c #[Value.ref b] code 4 RL nm wsL_law ret D (tyL kc)) (hX : va_X b L xs s s.heap) (hbl : b < s.heap.size) (hi : i + 6 ≤ L) (hL : L ≤ 3072) (hc : cells + 132 ≤ 600000) (hs : slots + 1204 ≤ 7302250) (ok : okA A) (C : CSt kc A μ fo κ ρ η kp β pl) (T : RSt A τ) (G : kG D (fun q => s.heap.size ≤ q) s (fl [wMn kc ad μ, wFo kc ad fo, wC kc (ad 1) κ, wC kc (ad 2) ρ, wHi kc ad η, wKp kc ad kp, wLu kc (ad 5) (ad 1) lu, wMo kc (ad 6) (ad 1) (ad 7) σ, wE kc (ad 7) ε, wBp kc (ad 9) (ad 1) π, wSb kc ad β, pl] ++ wM kc am τ) H locs) (hl : lv_has ls 4 [(3, .int (nI i)), (2, .ref (am 0)), (1, .ref (ad 0 0)), (0, .ref b)]) (IH : LGo p l e s m below meth c b i D kc ad am (cells + 132) (slots + 1204) QQ) : W p l e room_1 s m #[Value.ref b] below meth c H locs cells slots QQ (F0 m 1113 ls []) := by
  refine lv_aload_n E.ex E.by dL_law_1113 rfl (lv_at hl 2 rfl) ?_
  refine lv_aload_n E.ex E.by dL_law_1114 rfl (lv_at hl 3 rfl) ?_
  refine lv_iload_n E.ex E.by dL_law_1115 rfl (lv_at hl 0 rfl) ?_
  refine lv_iconst (v := 1) E.ex E.by dL_law_1116 (by decide) ?_
  refine lv_iadd E.ex E.by dL_law_1117 ?_
  refine lv_topi (fun y1117 ey1117 => ?_)
  have ey1117 : y1117 = nI (i + 1) := ey1117.trans (nI_add i 1)
  subst ey1117
  refine va_sld E.ex E.by hX hbl (Nat.not_le.mpr hbl) G.2.2.1 (vp_in_nI (show i + 1 < L by omega) (by omega)) dL_law_1118 ?_
  refine lv_aload_n E.ex E.by dL_law_1119 rfl (lv_at hl 3 rfl) ?_
  refine lv_iload_n E.ex E.by dL_law_1120 rfl (lv_at hl 0 rfl) ?_
  refine lv_iconst (v := 2) E.ex E.by dL_law_1121 (by decide) ?_
  refine lv_iadd E.ex E.by dL_law_1122 ?_
  refine lv_topi (fun y1122 ey1122 => ?_)
  have ey1122 : y1122 = nI (i + 2) := ey1122.trans (nI_add i 2)
  subst ey1122
  refine va_sld E.ex E.by hX hbl (Nat.not_le.mpr hbl) G.2.2.1 (vp_in_nI (show i + 2 < L by omega) (by omega)) dL_law_1123 ?_
  refine lv_aload_n E.ex E.by dL_law_1124 rfl (lv_at hl 3 rfl) ?_
  refine lv_iload_n E.ex E.by dL_law_1125 rfl (lv_at hl 0 rfl) ?_
  refine lv_iconst (v := 3) E.ex E.by dL_law_1126 (by decide) ?_
  refine lv_iadd E.ex E.by dL_law_1127 ?_
  refine lv_topi (fun y1127 ey1127 => ?_)
  have ey1127 : y1127 = nI (i + 3) := ey1127.trans (nI_add i 3)
  subst ey1127
  refine va_sld E.ex E.by hX hbl (Nat.not_le.mpr hbl) G.2.2.1 (vp_in_nI (show i + 3 < L by omega) (by omega)) dL_law_1128 ?_
  refine lv_aload_n E.ex E.by dL_law_1129 rfl (lv_at hl 3 rfl) ?_
  refine lv_iload_n E.ex E.by dL_law_1130 rfl (lv_at hl 0 rfl) ?_
  refine lv_iconst (v := 4) E.ex E.by dL_law_1131 (by decide) ?_
  refine lv_iadd E.ex E.by dL_law_1132 ?_
  refine lv_topi (fun y1132 ey1132 => ?_)
  have ey1132 : y1132 = nI (i + 4) := ey1132.trans (nI_add i 4)
  subst ey1132
  refine va_sld E.ex E.by hX hbl (Nat.not_le.mpr hbl) G.2.2.1 (vp_in_nI (show i + 4 < L by omega) (by omega)) dL_law_1133 ?_
  refine k_cVi (n := 4) (X := []) (w := fl [wMn kc ad μ, wFo kc ad fo, wC kc (ad 1) κ, wC kc (ad 2) ρ, wHi kc ad η, wKp kc ad kp, wLu kc (ad 5) (ad 1) lu, wMo kc (ad 6) (ad 1) (ad 7) σ, wE kc (ad 7) ε, wBp kc (ad 9) (ad 1) π, wSb kc ad β, pl]) (Z := wM kc am τ) (wnew := (fun u : US × US × US => (fl [wMn kc ad μ, wFo kc ad fo, wC kc (ad 1) κ, wC kc (ad 2) ρ, wHi kc ad η, wKp kc ad kp, wLu kc (ad 5) (ad 1) lu, wMo kc (ad 6) (ad 1) (ad 7) u.1, wE kc (ad 7) u.2.1, wBp kc (ad 9) (ad 1) u.2.2, wSb kc ad β, pl]) ++ wM kc am τ)) (As := [.int (xs (nI (i + 1)).toNatClampNeg), .int (xs (nI (i + 2)).toNatClampNeg), .int (xs (nI (i + 3)).toNatClampNeg), .int (xs (nI (i + 4)).toNatClampNeg)]) (rest := []) E rfl G (c_X11_bestPath l D kc ad (xs (nI (i + 1)).toNatClampNeg) (xs (nI (i + 2)).toNatClampNeg) (xs (nI (i + 3)).toNatClampNeg) (xs (nI (i + 4)).toNatClampNeg) μ fo κ ρ η kp lu σ ε π β pl (fun (r : Int32) (_ : US × US × US) => r = f_bestPath A (xs (nI (i + 1)).toNatClampNeg) (xs (nI (i + 2)).toNatClampNeg) (xs (nI (i + 3)).toNatClampNeg) (xs (nI (i + 4)).toNatClampNeg)) (q11_bestPath ok C (fun _ => rfl))) gL_law_X11_bestPath rfl ⟨rfl, rfl⟩ hd_X11_bestPath_v ⟨rfl, rfl⟩ 0 rfl rfl rfl hl rfl rfl dL_law_1134 ⟨Nat.ble_eq_true_of_le (show cells + 0 ≤ 600000 by omega), Nat.ble_eq_true_of_le (show slots + 0 ≤ 7302250 by omega)⟩ (fun _ => rfl) (fun r1 u1 hq1 H locs G => ?_)
  have e1 := hq1
  subst e1
  have C1 := C
  have G : kG D _ s ((fl [wMn kc ad μ, wFo kc ad fo, wC kc (ad 1) κ, wC kc (ad 2) ρ, wHi kc ad η, wKp kc ad kp, wLu kc (ad 5) (ad 1) lu, wMo kc (ad 6) (ad 1) (ad 7) u1.1, wE kc (ad 7) u1.2.1, wBp kc (ad 9) (ad 1) u1.2.2, wSb kc ad β, pl]) ++ wM kc am τ) H _ := G
  refine lv_aload_n E.ex E.by dL_law_1137 rfl (lv_at hl 1 rfl) ?_
  refine lv_aload_n E.ex E.by dL_law_1138 rfl (lv_at hl 3 rfl) ?_
  refine lv_iload_n E.ex E.by dL_law_1139 rfl (lv_at hl 0 rfl) ?_
  refine lv_iconst (v := 1) E.ex E.by dL_law_1140 (by decide) ?_
  refine lv_iadd E.ex E.by dL_law_1141 ?_
  refine lv_topi (fun y1141 ey1141 => ?_)
  have ey1141 : y1141 = nI (i + 1) := ey1141.trans (nI_add i 1)
  subst ey1141
  refine va_sld E.ex E.by hX hbl (Nat.not_le.mpr hbl) G.2.2.1 (vp_in_nI (show i + 1 < L by omega) (by omega)) dL_law_1142 ?_
  refine lv_aload_n E.ex E.by dL_law_1143 rfl (lv_at hl 3 rfl) ?_
  refine lv_iload_n E.ex E.by dL_law_1144 rfl (lv_at hl 0 rfl) ?_
  refine lv_iconst (v := 2) E.ex E.by dL_law_1145 (by decide) ?_
  refine lv_iadd E.ex E.by dL_law_1146 ?_
  refine lv_topi (fun y1146 ey1146 => ?_)
  have ey1146 : y1146 = nI (i + 2) := ey1146.trans (nI_add i 2)
  subst ey1146
  refine va_sld E.ex E.by hX hbl (Nat.not_le.mpr hbl) G.2.2.1 (vp_in_nI (show i + 2 < L by omega) (by omega)) dL_law_1147 ?_
  refine lv_aload_n E.ex E.by dL_law_1148 rfl (lv_at hl 3 rfl) ?_
  refine lv_iload_n E.ex E.by dL_law_1149 rfl (lv_at hl 0 rfl) ?_
  refine lv_iconst (v := 3) E.ex E.by dL_law_1150 (by decide) ?_
  refine lv_iadd E.ex E.by dL_law_1151 ?_
  refine lv_topi (fun y1151 ey1151 => ?_)
  have ey1151 : y1151 = nI (i + 3) := ey1151.trans (nI_add i 3)
  subst ey1151
  refine va_sld E.ex E.by hX hbl (Nat.not_le.mpr hbl) G.2.2.1 (vp_in_nI (show i + 3 < L by omega) (by omega)) dL_law_1152 ?_
  refine lv_aload_n E.ex E.by dL_law_1153 rfl (lv_at hl 3 rfl) ?_
  refine lv_iload_n E.ex E.by dL_law_1154 rfl (lv_at hl 0 rfl) ?_
  refine lv_iconst (v := 4) E.ex E.by dL_law_1155 (by decide) ?_
  refine lv_iadd E.ex E.by dL_law_1156 ?_
  refine lv_topi (fun y1156 ey1156 => ?_)
  have ey1156 : y1156 = nI (i + 4) := ey1156.trans (nI_add i 4)
  subst ey1156
  refine va_sld E.ex E.by hX hbl (Nat.not_le.mpr hbl) G.2.2.1 (vp_in_nI (show i + 4 < L by omega) (by omega)) dL_law_1157 ?_
  refine k_cVi (n := 4) (X := fl [wMn kc ad μ, wFo kc ad fo, wC kc (ad 1) κ, wC kc (ad 2) ρ, wHi kc ad η, wKp kc ad kp, wLu kc (ad 5) (ad 1) lu, wMo kc (ad 6) (ad 1) (ad 7) u1.1, wE kc (ad 7) u1.2.1, wBp kc (ad 9) (ad 1) u1.2.2, wSb kc ad β, pl]) (w := wM kc am τ) (Z := []) (wnew := (fun u : US => (fl [wMn kc ad μ, wFo kc ad fo, wC kc (ad 1) κ, wC kc (ad 2) ρ, wHi kc ad η, wKp kc ad kp, wLu kc (ad 5) (ad 1) lu, wMo kc (ad 6) (ad 1) (ad 7) u1.1, wE kc (ad 7) u1.2.1, wBp kc (ad 9) (ad 1) u1.2.2, wSb kc ad β, pl]) ++ wM kc am u)) (As := [.int (xs (nI (i + 1)).toNatClampNeg), .int (xs (nI (i + 2)).toNatClampNeg), .int (xs (nI (i + 3)).toNatClampNeg), .int (xs (nI (i + 4)).toNatClampNeg)]) (rest := [.int (f_bestPath A (xs (nI (i + 1)).toNatClampNeg) (xs (nI (i + 2)).toNatClampNeg) (xs (nI (i + 3)).toNatClampNeg) (xs (nI (i + 4)).toNatClampNeg))]) E (by rw [List.append_nil]) G (c_X12_bestPath l D kc am (xs (nI (i + 1)).toNatClampNeg) (xs (nI (i + 2)).toNatClampNeg) (xs (nI (i + 3)).toNatClampNeg) (xs (nI (i + 4)).toNatClampNeg) τ (fun (r : Int32) (u : US) => r = f_bestPath A (xs (nI (i + 1)).toNatClampNeg) (xs (nI (i + 2)).toNatClampNeg) (xs (nI (i + 3)).toNatClampNeg) (xs (nI (i + 4)).toNatClampNeg) ∧ RSt A u) (q12_bestPath ok T (fun _ T' => ⟨rfl, T'⟩))) gL_law_X12_bestPath rfl ⟨rfl, rfl⟩ hd_X12_bestPath_v ⟨rfl, rfl⟩ 0 (gM_0 _ _ _) rfl rfl hl rfl rfl dL_law_1158 ⟨Nat.ble_eq_true_of_le (show cells + 0 + 0 ≤ 600000 by omega), Nat.ble_eq_true_of_le (show slots + 0 + 0 ≤ 7302250 by omega)⟩ (fun _ => by rw [List.append_nil]) (fun r2 u2 hq2 H locs G => ?_)
  obtain ⟨e2, T1⟩ := hq2
  subst e2
  have G : kG D _ s ((fl [wMn kc ad μ, wFo kc ad fo, wC kc (ad 1) κ, wC kc (ad 2) ρ, wHi kc ad η, wKp kc ad kp, wLu kc (ad 5) (ad 1) lu, wMo kc (ad 6) (ad 1) (ad 7) u1.1, wE kc (ad 7) u1.2.1, wBp kc (ad 9) (ad 1) u1.2.2, wSb kc ad β, pl]) ++ wM kc am u2) H _ := G
  refine lv_icmp_eq (tgt := 1302) E.ex E.by dL_law_1161 (by decide) (fun _ => ?_) (fun hc => absurd rfl hc)
  refine W.widen (k := cells + 132) (n := slots + 1204) (by omega) (by omega) ?_
  exact IH _ _ _ _ _ _ _ _ _ _ _ _ _ _ _ _ _ ok C1 T1 G hl
set_option maxRecDepth 100000 in
set_option maxHeartbeats 8000000 in
theorem law_bestProduct (E : kE p s m meth c #[Value.ref b] code 4 RL nm wsL_law ret D (tyL kc)) (hX : va_X b L xs s s.heap) (hbl : b < s.heap.size) (hi : i + 6 ≤ L) (hL : L ≤ 3072) (hc : cells + 132 ≤ 600000) (hs : slots + 1204 ≤ 7302250) (ok : okA A) (C : CSt kc A μ fo κ ρ η kp β pl) (T : RSt A τ) (G : kG D (fun q => s.heap.size ≤ q) s (fl [wMn kc ad μ, wFo kc ad fo, wC kc (ad 1) κ, wC kc (ad 2) ρ, wHi kc ad η, wKp kc ad kp, wLu kc (ad 5) (ad 1) lu, wMo kc (ad 6) (ad 1) (ad 7) σ, wE kc (ad 7) ε, wBp kc (ad 9) (ad 1) π, wSb kc ad β, pl] ++ wM kc am τ) H locs) (hl : lv_has ls 4 [(3, .int (nI i)), (2, .ref (am 0)), (1, .ref (ad 0 0)), (0, .ref b)]) (IH : LGo p l e s m below meth c b i D kc ad am (cells + 132) (slots + 1204) QQ) : W p l e room_1 s m #[Value.ref b] below meth c H locs cells slots QQ (F0 m 1166 ls []) := by
  refine lv_aload_n E.ex E.by dL_law_1166 rfl (lv_at hl 2 rfl) ?_
  refine lv_aload_n E.ex E.by dL_law_1167 rfl (lv_at hl 3 rfl) ?_
  refine lv_iload_n E.ex E.by dL_law_1168 rfl (lv_at hl 0 rfl) ?_
  refine lv_iconst (v := 1) E.ex E.by dL_law_1169 (by decide) ?_
  refine lv_iadd E.ex E.by dL_law_1170 ?_
  refine lv_topi (fun y1170 ey1170 => ?_)
  have ey1170 : y1170 = nI (i + 1) := ey1170.trans (nI_add i 1)
  subst ey1170
  refine va_sld E.ex E.by hX hbl (Nat.not_le.mpr hbl) G.2.2.1 (vp_in_nI (show i + 1 < L by omega) (by omega)) dL_law_1171 ?_
  refine lv_aload_n E.ex E.by dL_law_1172 rfl (lv_at hl 3 rfl) ?_
  refine lv_iload_n E.ex E.by dL_law_1173 rfl (lv_at hl 0 rfl) ?_
  refine lv_iconst (v := 2) E.ex E.by dL_law_1174 (by decide) ?_
  refine lv_iadd E.ex E.by dL_law_1175 ?_
  refine lv_topi (fun y1175 ey1175 => ?_)
  have ey1175 : y1175 = nI (i + 2) := ey1175.trans (nI_add i 2)
  subst ey1175
  refine va_sld E.ex E.by hX hbl (Nat.not_le.mpr hbl) G.2.2.1 (vp_in_nI (show i + 2 < L by omega) (by omega)) dL_law_1176 ?_
  refine lv_aload_n E.ex E.by dL_law_1177 rfl (lv_at hl 3 rfl) ?_
  refine lv_iload_n E.ex E.by dL_law_1178 rfl (lv_at hl 0 rfl) ?_
  refine lv_iconst (v := 3) E.ex E.by dL_law_1179 (by decide) ?_
  refine lv_iadd E.ex E.by dL_law_1180 ?_
  refine lv_topi (fun y1180 ey1180 => ?_)
  have ey1180 : y1180 = nI (i + 3) := ey1180.trans (nI_add i 3)
  subst ey1180
  refine va_sld E.ex E.by hX hbl (Nat.not_le.mpr hbl) G.2.2.1 (vp_in_nI (show i + 3 < L by omega) (by omega)) dL_law_1181 ?_
  refine lv_aload_n E.ex E.by dL_law_1182 rfl (lv_at hl 3 rfl) ?_
  refine lv_iload_n E.ex E.by dL_law_1183 rfl (lv_at hl 0 rfl) ?_
  refine lv_iconst (v := 4) E.ex E.by dL_law_1184 (by decide) ?_
  refine lv_iadd E.ex E.by dL_law_1185 ?_
  refine lv_topi (fun y1185 ey1185 => ?_)
  have ey1185 : y1185 = nI (i + 4) := ey1185.trans (nI_add i 4)
  subst ey1185
  refine va_sld E.ex E.by hX hbl (Nat.not_le.mpr hbl) G.2.2.1 (vp_in_nI (show i + 4 < L by omega) (by omega)) dL_law_1186 ?_
  refine k_cVl (n := 4) (X := []) (w := fl [wMn kc ad μ, wFo kc ad fo, wC kc (ad 1) κ, wC kc (ad 2) ρ, wHi kc ad η, wKp kc ad kp, wLu kc (ad 5) (ad 1) lu, wMo kc (ad 6) (ad 1) (ad 7) σ, wE kc (ad 7) ε, wBp kc (ad 9) (ad 1) π, wSb kc ad β, pl]) (Z := wM kc am τ) (wnew := (fun u : US × US × US => (fl [wMn kc ad μ, wFo kc ad fo, wC kc (ad 1) κ, wC kc (ad 2) ρ, wHi kc ad η, wKp kc ad kp, wLu kc (ad 5) (ad 1) lu, wMo kc (ad 6) (ad 1) (ad 7) u.1, wE kc (ad 7) u.2.1, wBp kc (ad 9) (ad 1) u.2.2, wSb kc ad β, pl]) ++ wM kc am τ)) (As := [.int (xs (nI (i + 1)).toNatClampNeg), .int (xs (nI (i + 2)).toNatClampNeg), .int (xs (nI (i + 3)).toNatClampNeg), .int (xs (nI (i + 4)).toNatClampNeg)]) (rest := []) E rfl G (c_X11_bestProduct l D kc ad (xs (nI (i + 1)).toNatClampNeg) (xs (nI (i + 2)).toNatClampNeg) (xs (nI (i + 3)).toNatClampNeg) (xs (nI (i + 4)).toNatClampNeg) μ fo κ ρ η kp lu σ ε π β pl (fun (r : Int64) (_ : US × US × US) => r = f_bestProduct A (xs (nI (i + 1)).toNatClampNeg) (xs (nI (i + 2)).toNatClampNeg) (xs (nI (i + 3)).toNatClampNeg) (xs (nI (i + 4)).toNatClampNeg)) (q11_bestProduct ok C (fun _ => rfl))) gL_law_X11_bestProduct rfl ⟨rfl, rfl⟩ hd_X11_bestProduct_v ⟨rfl, rfl⟩ 0 rfl rfl rfl hl rfl rfl dL_law_1187 ⟨Nat.ble_eq_true_of_le (show cells + 0 ≤ 600000 by omega), Nat.ble_eq_true_of_le (show slots + 0 ≤ 7302250 by omega)⟩ (fun _ => rfl) (fun r1 u1 hq1 H locs G => ?_)
  have e1 := hq1
  subst e1
  have C1 := C
  have G : kG D _ s ((fl [wMn kc ad μ, wFo kc ad fo, wC kc (ad 1) κ, wC kc (ad 2) ρ, wHi kc ad η, wKp kc ad kp, wLu kc (ad 5) (ad 1) lu, wMo kc (ad 6) (ad 1) (ad 7) u1.1, wE kc (ad 7) u1.2.1, wBp kc (ad 9) (ad 1) u1.2.2, wSb kc ad β, pl]) ++ wM kc am τ) H _ := G
  refine lv_aload_n E.ex E.by dL_law_1190 rfl (lv_at hl 1 rfl) ?_
  refine lv_aload_n E.ex E.by dL_law_1191 rfl (lv_at hl 3 rfl) ?_
  refine lv_iload_n E.ex E.by dL_law_1192 rfl (lv_at hl 0 rfl) ?_
  refine lv_iconst (v := 1) E.ex E.by dL_law_1193 (by decide) ?_
  refine lv_iadd E.ex E.by dL_law_1194 ?_
  refine lv_topi (fun y1194 ey1194 => ?_)
  have ey1194 : y1194 = nI (i + 1) := ey1194.trans (nI_add i 1)
  subst ey1194
  refine va_sld E.ex E.by hX hbl (Nat.not_le.mpr hbl) G.2.2.1 (vp_in_nI (show i + 1 < L by omega) (by omega)) dL_law_1195 ?_
  refine lv_aload_n E.ex E.by dL_law_1196 rfl (lv_at hl 3 rfl) ?_
  refine lv_iload_n E.ex E.by dL_law_1197 rfl (lv_at hl 0 rfl) ?_
  refine lv_iconst (v := 2) E.ex E.by dL_law_1198 (by decide) ?_
  refine lv_iadd E.ex E.by dL_law_1199 ?_
  refine lv_topi (fun y1199 ey1199 => ?_)
  have ey1199 : y1199 = nI (i + 2) := ey1199.trans (nI_add i 2)
  subst ey1199
  refine va_sld E.ex E.by hX hbl (Nat.not_le.mpr hbl) G.2.2.1 (vp_in_nI (show i + 2 < L by omega) (by omega)) dL_law_1200 ?_
  refine lv_aload_n E.ex E.by dL_law_1201 rfl (lv_at hl 3 rfl) ?_
  refine lv_iload_n E.ex E.by dL_law_1202 rfl (lv_at hl 0 rfl) ?_
  refine lv_iconst (v := 3) E.ex E.by dL_law_1203 (by decide) ?_
  refine lv_iadd E.ex E.by dL_law_1204 ?_
  refine lv_topi (fun y1204 ey1204 => ?_)
  have ey1204 : y1204 = nI (i + 3) := ey1204.trans (nI_add i 3)
  subst ey1204
  refine va_sld E.ex E.by hX hbl (Nat.not_le.mpr hbl) G.2.2.1 (vp_in_nI (show i + 3 < L by omega) (by omega)) dL_law_1205 ?_
  refine lv_aload_n E.ex E.by dL_law_1206 rfl (lv_at hl 3 rfl) ?_
  refine lv_iload_n E.ex E.by dL_law_1207 rfl (lv_at hl 0 rfl) ?_
  refine lv_iconst (v := 4) E.ex E.by dL_law_1208 (by decide) ?_
  refine lv_iadd E.ex E.by dL_law_1209 ?_
  refine lv_topi (fun y1209 ey1209 => ?_)
  have ey1209 : y1209 = nI (i + 4) := ey1209.trans (nI_add i 4)
  subst ey1209
  refine va_sld E.ex E.by hX hbl (Nat.not_le.mpr hbl) G.2.2.1 (vp_in_nI (show i + 4 < L by omega) (by omega)) dL_law_1210 ?_
  refine k_cVl (n := 4) (X := fl [wMn kc ad μ, wFo kc ad fo, wC kc (ad 1) κ, wC kc (ad 2) ρ, wHi kc ad η, wKp kc ad kp, wLu kc (ad 5) (ad 1) lu, wMo kc (ad 6) (ad 1) (ad 7) u1.1, wE kc (ad 7) u1.2.1, wBp kc (ad 9) (ad 1) u1.2.2, wSb kc ad β, pl]) (w := wM kc am τ) (Z := []) (wnew := (fun u : US => (fl [wMn kc ad μ, wFo kc ad fo, wC kc (ad 1) κ, wC kc (ad 2) ρ, wHi kc ad η, wKp kc ad kp, wLu kc (ad 5) (ad 1) lu, wMo kc (ad 6) (ad 1) (ad 7) u1.1, wE kc (ad 7) u1.2.1, wBp kc (ad 9) (ad 1) u1.2.2, wSb kc ad β, pl]) ++ wM kc am u)) (As := [.int (xs (nI (i + 1)).toNatClampNeg), .int (xs (nI (i + 2)).toNatClampNeg), .int (xs (nI (i + 3)).toNatClampNeg), .int (xs (nI (i + 4)).toNatClampNeg)]) (rest := [.long (f_bestProduct A (xs (nI (i + 1)).toNatClampNeg) (xs (nI (i + 2)).toNatClampNeg) (xs (nI (i + 3)).toNatClampNeg) (xs (nI (i + 4)).toNatClampNeg))]) E (by rw [List.append_nil]) G (c_X12_bestProduct l D kc am (xs (nI (i + 1)).toNatClampNeg) (xs (nI (i + 2)).toNatClampNeg) (xs (nI (i + 3)).toNatClampNeg) (xs (nI (i + 4)).toNatClampNeg) τ (fun (r : Int64) (u : US) => r = f_bestProduct A (xs (nI (i + 1)).toNatClampNeg) (xs (nI (i + 2)).toNatClampNeg) (xs (nI (i + 3)).toNatClampNeg) (xs (nI (i + 4)).toNatClampNeg) ∧ RSt A u) (q12_bestProduct ok T (fun _ T' => ⟨rfl, T'⟩))) gL_law_X12_bestProduct rfl ⟨rfl, rfl⟩ hd_X12_bestProduct_v ⟨rfl, rfl⟩ 0 (gM_0 _ _ _) rfl rfl hl rfl rfl dL_law_1211 ⟨Nat.ble_eq_true_of_le (show cells + 0 + 0 ≤ 600000 by omega), Nat.ble_eq_true_of_le (show slots + 0 + 0 ≤ 7302250 by omega)⟩ (fun _ => by rw [List.append_nil]) (fun r2 u2 hq2 H locs G => ?_)
  obtain ⟨e2, T1⟩ := hq2
  subst e2
  have G : kG D _ s ((fl [wMn kc ad μ, wFo kc ad fo, wC kc (ad 1) κ, wC kc (ad 2) ρ, wHi kc ad η, wKp kc ad kp, wLu kc (ad 5) (ad 1) lu, wMo kc (ad 6) (ad 1) (ad 7) u1.1, wE kc (ad 7) u1.2.1, wBp kc (ad 9) (ad 1) u1.2.2, wSb kc ad β, pl]) ++ wM kc am u2) H _ := G
  refine W.lcmp E.ex E.by dL_law_1214 ?_
  refine lv_if_eq (tgt := 1302) E.ex E.by dL_law_1215 (by decide) (fun _ => ?_) (fun hc => absurd (lg_same _) hc)
  refine W.widen (k := cells + 132) (n := slots + 1204) (by omega) (by omega) ?_
  exact IH _ _ _ _ _ _ _ _ _ _ _ _ _ _ _ _ _ ok C1 T1 G hl
set_option maxRecDepth 100000 in
set_option maxHeartbeats 8000000 in
theorem law_walk (E : kE p s m meth c #[Value.ref b] code 4 RL nm wsL_law ret D (tyL kc)) (hX : va_X b L xs s s.heap) (hbl : b < s.heap.size) (hi : i + 6 ≤ L) (hL : L ≤ 3072) (hc : cells + 132 ≤ 600000) (hs : slots + 1204 ≤ 7302250) (ok : okA A) (C : CSt kc A μ fo κ ρ η kp β pl) (T : RSt A τ) (G : kG D (fun q => s.heap.size ≤ q) s (fl [wMn kc ad μ, wFo kc ad fo, wC kc (ad 1) κ, wC kc (ad 2) ρ, wHi kc ad η, wKp kc ad kp, wLu kc (ad 5) (ad 1) lu, wMo kc (ad 6) (ad 1) (ad 7) σ, wE kc (ad 7) ε, wBp kc (ad 9) (ad 1) π, wSb kc ad β, pl] ++ wM kc am τ) H locs) (hl : lv_has ls 4 [(3, .int (nI i)), (2, .ref (am 0)), (1, .ref (ad 0 0)), (0, .ref b)]) (IH : LGo p l e s m below meth c b i D kc ad am (cells + 132) (slots + 1204) QQ) : W p l e room_1 s m #[Value.ref b] below meth c H locs cells slots QQ (F0 m 1220 ls []) := by
  refine lv_aload_n E.ex E.by dL_law_1220 rfl (lv_at hl 2 rfl) ?_
  refine lv_aload_n E.ex E.by dL_law_1221 rfl (lv_at hl 3 rfl) ?_
  refine lv_iload_n E.ex E.by dL_law_1222 rfl (lv_at hl 0 rfl) ?_
  refine lv_iconst (v := 1) E.ex E.by dL_law_1223 (by decide) ?_
  refine lv_iadd E.ex E.by dL_law_1224 ?_
  refine lv_topi (fun y1224 ey1224 => ?_)
  have ey1224 : y1224 = nI (i + 1) := ey1224.trans (nI_add i 1)
  subst ey1224
  refine va_sld E.ex E.by hX hbl (Nat.not_le.mpr hbl) G.2.2.1 (vp_in_nI (show i + 1 < L by omega) (by omega)) dL_law_1225 ?_
  refine lv_aload_n E.ex E.by dL_law_1226 rfl (lv_at hl 3 rfl) ?_
  refine lv_iload_n E.ex E.by dL_law_1227 rfl (lv_at hl 0 rfl) ?_
  refine lv_iconst (v := 2) E.ex E.by dL_law_1228 (by decide) ?_
  refine lv_iadd E.ex E.by dL_law_1229 ?_
  refine lv_topi (fun y1229 ey1229 => ?_)
  have ey1229 : y1229 = nI (i + 2) := ey1229.trans (nI_add i 2)
  subst ey1229
  refine va_sld E.ex E.by hX hbl (Nat.not_le.mpr hbl) G.2.2.1 (vp_in_nI (show i + 2 < L by omega) (by omega)) dL_law_1230 ?_
  refine lv_aload_n E.ex E.by dL_law_1231 rfl (lv_at hl 3 rfl) ?_
  refine lv_iload_n E.ex E.by dL_law_1232 rfl (lv_at hl 0 rfl) ?_
  refine lv_iconst (v := 3) E.ex E.by dL_law_1233 (by decide) ?_
  refine lv_iadd E.ex E.by dL_law_1234 ?_
  refine lv_topi (fun y1234 ey1234 => ?_)
  have ey1234 : y1234 = nI (i + 3) := ey1234.trans (nI_add i 3)
  subst ey1234
  refine va_sld E.ex E.by hX hbl (Nat.not_le.mpr hbl) G.2.2.1 (vp_in_nI (show i + 3 < L by omega) (by omega)) dL_law_1235 ?_
  refine k_cVi (n := 3) (X := []) (w := fl [wMn kc ad μ, wFo kc ad fo, wC kc (ad 1) κ, wC kc (ad 2) ρ, wHi kc ad η, wKp kc ad kp, wLu kc (ad 5) (ad 1) lu, wMo kc (ad 6) (ad 1) (ad 7) σ, wE kc (ad 7) ε, wBp kc (ad 9) (ad 1) π, wSb kc ad β, pl]) (Z := wM kc am τ) (wnew := (fun _ : Unit => (fl [wMn kc ad μ, wFo kc ad fo, wC kc (ad 1) κ, wC kc (ad 2) ρ, wHi kc ad η, wKp kc ad kp, wLu kc (ad 5) (ad 1) lu, wMo kc (ad 6) (ad 1) (ad 7) σ, wE kc (ad 7) ε, wBp kc (ad 9) (ad 1) π, wSb kc ad β, pl]) ++ wM kc am τ)) (As := [.int (xs (nI (i + 1)).toNatClampNeg), .int (xs (nI (i + 2)).toNatClampNeg), .int (xs (nI (i + 3)).toNatClampNeg)]) (rest := []) E rfl G (c_X11_walk l D kc ad (xs (nI (i + 1)).toNatClampNeg) (xs (nI (i + 2)).toNatClampNeg) (xs (nI (i + 3)).toNatClampNeg) μ fo κ ρ η kp lu σ ε π β pl (fun r : Int32 => r = f_walk A (xs (nI (i + 1)).toNatClampNeg) (xs (nI (i + 2)).toNatClampNeg) (xs (nI (i + 3)).toNatClampNeg)) (q11_walk ok C rfl)) gL_law_X11_walk rfl ⟨rfl, rfl⟩ hd_X11_walk_v ⟨rfl, rfl⟩ 0 rfl rfl rfl hl rfl rfl dL_law_1236 ⟨Nat.ble_eq_true_of_le (show cells + 0 ≤ 600000 by omega), Nat.ble_eq_true_of_le (show slots + 0 ≤ 7302250 by omega)⟩ (fun _ => rfl) (fun r1 u1 hq1 H locs G => ?_)
  have e1 := hq1
  subst e1
  have C1 := C
  have G : kG D _ s ((fl [wMn kc ad μ, wFo kc ad fo, wC kc (ad 1) κ, wC kc (ad 2) ρ, wHi kc ad η, wKp kc ad kp, wLu kc (ad 5) (ad 1) lu, wMo kc (ad 6) (ad 1) (ad 7) σ, wE kc (ad 7) ε, wBp kc (ad 9) (ad 1) π, wSb kc ad β, pl]) ++ wM kc am τ) H _ := G
  refine lv_aload_n E.ex E.by dL_law_1239 rfl (lv_at hl 1 rfl) ?_
  refine lv_aload_n E.ex E.by dL_law_1240 rfl (lv_at hl 3 rfl) ?_
  refine lv_iload_n E.ex E.by dL_law_1241 rfl (lv_at hl 0 rfl) ?_
  refine lv_iconst (v := 1) E.ex E.by dL_law_1242 (by decide) ?_
  refine lv_iadd E.ex E.by dL_law_1243 ?_
  refine lv_topi (fun y1243 ey1243 => ?_)
  have ey1243 : y1243 = nI (i + 1) := ey1243.trans (nI_add i 1)
  subst ey1243
  refine va_sld E.ex E.by hX hbl (Nat.not_le.mpr hbl) G.2.2.1 (vp_in_nI (show i + 1 < L by omega) (by omega)) dL_law_1244 ?_
  refine lv_aload_n E.ex E.by dL_law_1245 rfl (lv_at hl 3 rfl) ?_
  refine lv_iload_n E.ex E.by dL_law_1246 rfl (lv_at hl 0 rfl) ?_
  refine lv_iconst (v := 2) E.ex E.by dL_law_1247 (by decide) ?_
  refine lv_iadd E.ex E.by dL_law_1248 ?_
  refine lv_topi (fun y1248 ey1248 => ?_)
  have ey1248 : y1248 = nI (i + 2) := ey1248.trans (nI_add i 2)
  subst ey1248
  refine va_sld E.ex E.by hX hbl (Nat.not_le.mpr hbl) G.2.2.1 (vp_in_nI (show i + 2 < L by omega) (by omega)) dL_law_1249 ?_
  refine lv_aload_n E.ex E.by dL_law_1250 rfl (lv_at hl 3 rfl) ?_
  refine lv_iload_n E.ex E.by dL_law_1251 rfl (lv_at hl 0 rfl) ?_
  refine lv_iconst (v := 3) E.ex E.by dL_law_1252 (by decide) ?_
  refine lv_iadd E.ex E.by dL_law_1253 ?_
  refine lv_topi (fun y1253 ey1253 => ?_)
  have ey1253 : y1253 = nI (i + 3) := ey1253.trans (nI_add i 3)
  subst ey1253
  refine va_sld E.ex E.by hX hbl (Nat.not_le.mpr hbl) G.2.2.1 (vp_in_nI (show i + 3 < L by omega) (by omega)) dL_law_1254 ?_
  refine k_cVi (n := 3) (X := fl [wMn kc ad μ, wFo kc ad fo, wC kc (ad 1) κ, wC kc (ad 2) ρ, wHi kc ad η, wKp kc ad kp, wLu kc (ad 5) (ad 1) lu, wMo kc (ad 6) (ad 1) (ad 7) σ, wE kc (ad 7) ε, wBp kc (ad 9) (ad 1) π, wSb kc ad β, pl]) (w := wM kc am τ) (Z := []) (wnew := (fun _ : Unit => (fl [wMn kc ad μ, wFo kc ad fo, wC kc (ad 1) κ, wC kc (ad 2) ρ, wHi kc ad η, wKp kc ad kp, wLu kc (ad 5) (ad 1) lu, wMo kc (ad 6) (ad 1) (ad 7) σ, wE kc (ad 7) ε, wBp kc (ad 9) (ad 1) π, wSb kc ad β, pl]) ++ wM kc am τ)) (As := [.int (xs (nI (i + 1)).toNatClampNeg), .int (xs (nI (i + 2)).toNatClampNeg), .int (xs (nI (i + 3)).toNatClampNeg)]) (rest := [.int (f_walk A (xs (nI (i + 1)).toNatClampNeg) (xs (nI (i + 2)).toNatClampNeg) (xs (nI (i + 3)).toNatClampNeg))]) E (by rw [List.append_nil]) G (c_X12_walk l D kc am (xs (nI (i + 1)).toNatClampNeg) (xs (nI (i + 2)).toNatClampNeg) (xs (nI (i + 3)).toNatClampNeg) τ (fun r : Int32 => r = f_walk A (xs (nI (i + 1)).toNatClampNeg) (xs (nI (i + 2)).toNatClampNeg) (xs (nI (i + 3)).toNatClampNeg)) (q12_walk ok T rfl)) gL_law_X12_walk rfl ⟨rfl, rfl⟩ hd_X12_walk_v ⟨rfl, rfl⟩ 0 (gM_0 _ _ _) rfl rfl hl rfl rfl dL_law_1255 ⟨Nat.ble_eq_true_of_le (show cells + 0 + 0 ≤ 600000 by omega), Nat.ble_eq_true_of_le (show slots + 0 + 0 ≤ 7302250 by omega)⟩ (fun _ => by rw [List.append_nil]) (fun r2 u2 hq2 H locs G => ?_)
  have e2 := hq2
  subst e2
  have T1 := T
  have G : kG D _ s ((fl [wMn kc ad μ, wFo kc ad fo, wC kc (ad 1) κ, wC kc (ad 2) ρ, wHi kc ad η, wKp kc ad kp, wLu kc (ad 5) (ad 1) lu, wMo kc (ad 6) (ad 1) (ad 7) σ, wE kc (ad 7) ε, wBp kc (ad 9) (ad 1) π, wSb kc ad β, pl]) ++ wM kc am τ) H _ := G
  refine lv_icmp_eq (tgt := 1302) E.ex E.by dL_law_1258 (by decide) (fun _ => ?_) (fun hc => absurd rfl hc)
  refine W.widen (k := cells + 132) (n := slots + 1204) (by omega) (by omega) ?_
  exact IH _ _ _ _ _ _ _ _ _ _ _ _ _ _ _ _ _ ok C1 T1 G hl
end LAWE
