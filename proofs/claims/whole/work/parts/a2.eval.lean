/-! ===== the class's worlds; the evaluator ===== -/
abbrev SBT : Type := (Int32 × Int32) × Nat × Nat × (Nat → Int32)
def oMn (ad : Nat → Nat → Nat) (μ : US) : List Value := [.ref (ad 1 0), .ref (ad 2 0), .ref (ad 3 0), .ref (ad 5 0), .ref (ad 6 0), .ref (ad 9 0), .ref (ad 10 0), .ref (ad 0 1), .int (iI μ 0), .int (iI μ 1)]
def wMn (kc : Nat → ClassId) (ad : Nat → Nat → Nat) (μ : US) : va_W := [(ad 0 0, .inr (13, oMn ad μ))]
def wFo (kc : Nat → ClassId) (ad : Nat → Nat → Nat) (fo : Nat → Option Nat) : va_W := [(ad 0 1, .inl (kc 4, 6, .inr (.inr (.inr (.inr fo)))))]
def oHi (ad : Nat → Nat → Nat) (η : US) : List Value := [.ref (ad 3 1), .int (iI η 0), .int (iI η 1)]
def wHi (kc : Nat → ClassId) (ad : Nat → Nat → Nat) (η : US) : va_W := [(ad 3 0, .inr (8, oHi ad η)), (ad 3 1, .inl (kc 3, 8, .inr (.inr (.inr (.inr (fun i => some (ad (20 + i) 0)))))))]
def wKp (kc : Nat → ClassId) (ad : Nat → Nat → Nat) (kp : Nat → US) : va_W := fl [wC kc (ad 20) (kp 0), wC kc (ad 21) (kp 1), wC kc (ad 22) (kp 2), wC kc (ad 23) (kp 3), wC kc (ad 24) (kp 4), wC kc (ad 25) (kp 5), wC kc (ad 26) (kp 6), wC kc (ad 27) (kp 7)]
def wSb (kc : Nat → ClassId) (ad : Nat → Nat → Nat) (β : SBT) : va_W := [(ad 10 0, .inr (1, [.ref β.2.1, .int 0, .int β.1.1, .int β.1.2])), (β.2.1, .inl (kc 2, β.2.2.1, .inl β.2.2.2))]
theorem gV_0 (kc : Nat → ClassId) (ad : Nat → Nat → Nat) (σ : US) (b : va_W) (l : List va_W) : (fl (wMo kc (ad 6) (ad 1) (ad 7) σ :: b :: l))[0]? = some (ad 6 0, .inr (10, oMo (ad 6) (ad 1) (ad 7) σ)) := rfl
theorem gK_0 (kc : Nat → ClassId) (ad : Nat → Nat → Nat) (μ : US) (b : va_W) (l : List va_W) : (fl (wMn kc ad μ :: b :: l))[0]? = some (ad 0 0, .inr (13, oMn ad μ)) := rfl
theorem gK_1 (kc : Nat → ClassId) (ad : Nat → Nat → Nat) (μ : US) (fo : Nat → Option Nat) (b : va_W) (l : List va_W) : (fl (wMn kc ad μ :: wFo kc ad fo :: b :: l))[1]? = some (ad 0 1, .inl (kc 4, 6, .inr (.inr (.inr (.inr fo))))) := rfl
theorem gH_0 (kc : Nat → ClassId) (ad : Nat → Nat → Nat) (η : US) (b : va_W) (l : List va_W) : (fl (wHi kc ad η :: b :: l))[0]? = some (ad 3 0, .inr (8, oHi ad η)) := rfl
def betaU (u e t b : Int32) : US := (fun k => [u, e, t, b].getD k 0, fun _ => 0, fun _ _ => 0, fun _ _ => 0)
theorem NF.mono {w w' : va_W} (h : ∀ x, x ∈ w → x ∈ w') {o : Option Nat} {d l : Nat} (hn : NF w o d l) : NF w' o d l := by
  rcases hn with hn | ⟨a, k, b, t, f, g, ho, hm⟩
  · exact Or.inl hn
  · exact Or.inr ⟨a, k, b, t, f, g, ho, h _ hm⟩
theorem mem_front {x : Nat × va_E} {pl : va_W} (h : x ∈ pl) : ∃ pr : va_W, List.Perm pl ([x] ++ pr) := by
  obtain ⟨s, t, rfl⟩ := List.append_of_mem h
  exact ⟨s ++ t, List.perm_middle⟩
theorem hd_X8_fulfilling_v : yX8_fulfilling.cls = RX8 ∧ yX8_fulfilling.cls ≠ "java/lang/invoke/MethodHandle" ∧ yX8_fulfilling.cls ≠ "java/lang/invoke/VarHandle" ∧ (parseMethodDescriptor yX8_fulfilling.desc).map (fun d => d.parameters.length) = some 1 := by decide +kernel
theorem wi_X11_statesOf_X9 : ∀ w ∈ wsX90, w ∈ wsX11_statesOf := fun w h => List.mem_cons_of_mem _ (List.mem_append_left _ (List.mem_append_left _ (List.mem_append_left _ (List.mem_append_right _ (h)))))
theorem hd_X8_countWithin_v : yX8_countWithin.cls = RX8 ∧ yX8_countWithin.cls ≠ "java/lang/invoke/MethodHandle" ∧ yX8_countWithin.cls ≠ "java/lang/invoke/VarHandle" ∧ (parseMethodDescriptor yX8_countWithin.desc).map (fun d => d.parameters.length) = some 3 := by decide +kernel
theorem hd_X8_solveUntil_v : yX8_solveUntil.cls = RX8 ∧ yX8_solveUntil.cls ≠ "java/lang/invoke/MethodHandle" ∧ yX8_solveUntil.cls ≠ "java/lang/invoke/VarHandle" ∧ (parseMethodDescriptor yX8_solveUntil.desc).map (fun d => d.parameters.length) = some 2 := by decide +kernel
theorem hd_X8_complement_v : yX8_complement.cls = RX8 ∧ yX8_complement.cls ≠ "java/lang/invoke/MethodHandle" ∧ yX8_complement.cls ≠ "java/lang/invoke/VarHandle" ∧ (parseMethodDescriptor yX8_complement.desc).map (fun d => d.parameters.length) = some 0 := by decide +kernel
theorem hd_X8_solveSteady_v : yX8_solveSteady.cls = RX8 ∧ yX8_solveSteady.cls ≠ "java/lang/invoke/MethodHandle" ∧ yX8_solveSteady.cls ≠ "java/lang/invoke/VarHandle" ∧ (parseMethodDescriptor yX8_solveSteady.desc).map (fun d => d.parameters.length) = some 1 := by decide +kernel
theorem hd_X8_solveStep_v : yX8_solveStep.cls = RX8 ∧ yX8_solveStep.cls ≠ "java/lang/invoke/MethodHandle" ∧ yX8_solveStep.cls ≠ "java/lang/invoke/VarHandle" ∧ (parseMethodDescriptor yX8_solveStep.desc).map (fun d => d.parameters.length) = some 1 := by decide +kernel
theorem hd_X2_labelled_v : yX2_labelled.cls = RX2 ∧ yX2_labelled.cls ≠ "java/lang/invoke/MethodHandle" ∧ yX2_labelled.cls ≠ "java/lang/invoke/VarHandle" ∧ (parseMethodDescriptor yX2_labelled.desc).map (fun d => d.parameters.length) = some 1 := by decide +kernel
theorem hd_X8_solveExpected_v : yX8_solveExpected.cls = RX8 ∧ yX8_solveExpected.cls ≠ "java/lang/invoke/MethodHandle" ∧ yX8_solveExpected.cls ≠ "java/lang/invoke/VarHandle" ∧ (parseMethodDescriptor yX8_solveExpected.desc).map (fun d => d.parameters.length) = some 1 := by decide +kernel
theorem hd_X11_statesOf_v : yX11_statesOf.cls = RX11 ∧ yX11_statesOf.cls ≠ "java/lang/invoke/MethodHandle" ∧ yX11_statesOf.cls ≠ "java/lang/invoke/VarHandle" ∧ (parseMethodDescriptor yX11_statesOf.desc).map (fun d => d.parameters.length) = some 3 := by decide +kernel
theorem wi_X11_statesOf_X8 : ∀ w ∈ wsX80, w ∈ wsX11_statesOf := fun w h => List.mem_cons_of_mem _ (List.mem_append_left _ (List.mem_append_left _ (List.mem_append_left _ (List.mem_append_left _ (List.mem_append_right _ (h))))))
def wp_X11_statesOf_J13 (RF : Option Nat → Int32 → US → US → US → va_W → (Int32 → (US × US) → Prop) → Prop) (σ'j13 : US) (ε'j13 : US) (κ : US) (pl : va_W) (Q : Int32 → (US × US) → Prop) : Prop := Q 0 (σ'j13, ε'j13)
def wp_X11_statesOf_J298 (RF : Option Nat → Int32 → US → US → US → va_W → (Int32 → (US × US) → Prop) → Prop) (v0j298 : Nat) (σ'j298 : US) (ε'j298 : US) (κ : US) (pl : va_W) (Q : Int32 → (US × US) → Prop) : Prop := (∃ (k12 : Int32) (b12 : Option Nat) (t12 : Int32) (o12 q12 : Option Nat) (d12 l12 : Int32), (v0j298, .inr (11, [.int k12, va_rf b12, .int t12, va_rf o12, va_rf q12, .int d12, .int l12])) ∈ pl ∧ (∃ (x13 : Nat) (u13 e13 t13 b13 : Int32), b12 = some x13 ∧ (x13, .inr (3, [.int u13, .int e13, .int t13, .int b13])) ∈ pl ∧ wp_X8_fulfilling σ'j298 ε'j298 κ (betaU u13 e13 t13 b13) (fun (r14 : Int32) => Q r14 (σ'j298, ε'j298))))
def wp_X11_statesOf_J177 (RF : Option Nat → Int32 → US → US → US → va_W → (Int32 → (US × US) → Prop) → Prop) (v0j177 : Nat) (σ'j177 : US) (ε'j177 : US) (κ : US) (pl : va_W) (Q : Int32 → (US × US) → Prop) : Prop := (∃ (k24 : Int32) (b24 : Option Nat) (t24 : Int32) (o24 q24 : Option Nat) (d24 l24 : Int32), (v0j177, .inr (11, [.int k24, va_rf b24, .int t24, va_rf o24, va_rf q24, .int d24, .int l24])) ∈ pl ∧ wp_X2_labelled  (k24 - 97) κ (fun (r25 : Int32) => Q r25 (σ'j177, ε'j177)))
def wp_X11_statesOf_B (RF : Option Nat → Int32 → US → US → US → va_W → (Int32 → (US × US) → Prop) → Prop) (p1 : Option Nat) (p2 : Int32) (σ : US) (ε : US) (κ : US) (pl : va_W) (Q : Int32 → (US × US) → Prop) : Prop := (p1 = none → wp_X11_statesOf_J13 RF σ ε κ pl Q) ∧ (∀ a1 : Nat, p1 = some a1 → (p2 ≤ 5 → (∃ (k2 : Int32) (b2 : Option Nat) (t2 : Int32) (o2 q2 : Option Nat) (d2 l2 : Int32), (a1, .inr (11, [.int k2, va_rf b2, .int t2, va_rf o2, va_rf q2, .int d2, .int l2])) ∈ pl ∧ RF o2 (p2 + 1) σ ε κ pl (fun (r3 : Int32) (u4 : US × US) => (∃ (k5 : Int32) (b5 : Option Nat) (t5 : Int32) (o5 q5 : Option Nat) (d5 l5 : Int32), (a1, .inr (11, [.int k5, va_rf b5, .int t5, va_rf o5, va_rf q5, .int d5, .int l5])) ∈ pl ∧ RF q5 (p2 + 1) u4.1 u4.2 κ pl (fun (r6 : Int32) (u7 : US × US) => (∃ (k8 : Int32) (b8 : Option Nat) (t8 : Int32) (o8 q8 : Option Nat) (d8 l8 : Int32), (a1, .inr (11, [.int k8, va_rf b8, .int t8, va_rf o8, va_rf q8, .int d8, .int l8])) ∈ pl ∧ (k8 = 33 → wp_X2_all  κ (fun (r9 : Int32) => Q (r9 &&& (r3 ^^^ (-1))) (u7.1, u7.2))) ∧ (¬ k8 = 33 → (k8 = 38 → Q (r3 &&& r6) (u7.1, u7.2)) ∧ (¬ k8 = 38 → (k8 = 66 → (∃ (k10 : Int32) (b10 : Option Nat) (t10 : Int32) (o10 q10 : Option Nat) (d10 l10 : Int32), (a1, .inr (11, [.int k10, va_rf b10, .int t10, va_rf o10, va_rf q10, .int d10, .int l10])) ∈ pl ∧ wp_X8_countWithin  r3 r6 t10 u7.1 u7.2 κ (fun (u11 : US) => wp_X11_statesOf_J298 RF a1 u11 u7.2 κ pl Q))) ∧ (¬ k8 = 66 → (k8 = 70 → wp_X2_all  κ (fun (r15 : Int32) => wp_X8_solveUntil  r15 r3 u7.1 u7.2 κ (fun (u16 : US × US) => wp_X11_statesOf_J298 RF a1 u16.1 u16.2 κ pl Q))) ∧ (¬ k8 = 70 → (k8 = 71 → wp_X2_all  κ (fun (r17 : Int32) => wp_X2_all  κ (fun (r18 : Int32) => wp_X8_solveUntil  r17 (r18 &&& (r3 ^^^ (-1))) u7.1 u7.2 κ (fun (u19 : US × US) => wp_X8_complement  u19.1 u19.2 κ (fun (u20 : US) => wp_X11_statesOf_J298 RF a1 u20 u19.2 κ pl Q))))) ∧ (¬ k8 = 71 → (k8 = 83 → wp_X8_solveSteady  r3 u7.1 u7.2 κ (fun (u21 : US × US) => wp_X11_statesOf_J298 RF a1 u21.1 u21.2 κ pl Q)) ∧ (¬ k8 = 83 → (k8 = 85 → wp_X8_solveUntil  r3 r6 u7.1 u7.2 κ (fun (u22 : US × US) => wp_X11_statesOf_J298 RF a1 u22.1 u22.2 κ pl Q)) ∧ (¬ k8 = 85 → (k8 = 88 → wp_X8_solveStep  r3 u7.1 u7.2 κ (fun (u23 : US) => wp_X11_statesOf_J298 RF a1 u23 u7.2 κ pl Q)) ∧ (¬ k8 = 88 → (k8 = 97 → wp_X11_statesOf_J177 RF a1 u7.1 u7.2 κ pl Q) ∧ (¬ k8 = 97 → (k8 = 98 → wp_X11_statesOf_J177 RF a1 u7.1 u7.2 κ pl Q) ∧ (¬ k8 = 98 → (k8 = 99 → wp_X11_statesOf_J177 RF a1 u7.1 u7.2 κ pl Q) ∧ (¬ k8 = 99 → (k8 = 100 → wp_X11_statesOf_J177 RF a1 u7.1 u7.2 κ pl Q) ∧ (¬ k8 = 100 → (k8 = 116 → wp_X2_all  κ (fun (r26 : Int32) => Q r26 (u7.1, u7.2))) ∧ (¬ k8 = 116 → (k8 = 124 → Q (r3 ||| r6) (u7.1, u7.2)) ∧ (¬ k8 = 124 → wp_X8_solveExpected  r3 u7.1 u7.2 κ (fun (u27 : US × US) => wp_X11_statesOf_J298 RF a1 u27.1 u27.2 κ pl Q))))))))))))))))))))) ∧ (¬ p2 ≤ 5 → wp_X11_statesOf_J13 RF σ ε κ pl Q))
set_option maxRecDepth 100000 in
set_option maxHeartbeats 4000000 in
theorem c_X11_statesOf_B (l : Launch) (D : va_G) (kc : Nat → ClassId) (ad : Nat → Nat → Nat) (F L : Nat) (RF : Option Nat → Int32 → US → US → US → va_W → (Int32 → (US × US) → Prop) → Prop) (HRF : ∀ (q1 : Option Nat) (q2 : Int32) (σ0 : US) (ε0 : US) (κ0 : US) (pl0 : va_W) (Q0 : Int32 → (US × US) → Prop), RF q1 q2 σ0 ε0 κ0 pl0 Q0 → kCi l D (tyL kc) yX11_statesOf wsX11_statesOf ({ frames := F, cells := 0, slots := 0, locals := L } : Room) [va_rf q1, .ref (ad 6 0), .int q2] (fl [wMo kc (ad 6) (ad 1) (ad 7) σ0, wE kc (ad 7) ε0, wC kc (ad 1) κ0, pl0]) (fun u : US × US => (fl [wMo kc (ad 6) (ad 1) (ad 7) u.1, wE kc (ad 7) u.2, wC kc (ad 1) κ0, pl0])) 0 0 (fun r u => Q0 r u)) (p1 : Option Nat) (p2 : Int32) (σ : US) (ε : US) (κ : US) (pl : va_W) (Q : Int32 → (US × US) → Prop) (h : wp_X11_statesOf_B RF p1 p2 σ ε κ pl Q) : kCi l D (tyL kc) yX11_statesOf wsX11_statesOf ({ frames := F + 5, cells := 0, slots := 0, locals := L + 129 } : Room) [va_rf p1, .ref (ad 6 0), .int p2] (fl [wMo kc (ad 6) (ad 1) (ad 7) σ, wE kc (ad 7) ε, wC kc (ad 1) κ, pl]) (fun u : US × US => (fl [wMo kc (ad 6) (ad 1) (ad 7) u.1, wE kc (ad 7) u.2, wC kc (ad 1) κ, pl])) (0) (0) (fun r u => Q r u) := by
  intro sz
  refine k_begin (cc := cX11_statesOf) (maxL := 6) (ret := (some .int)) (by decide +kernel) rfl (by cases p1 <;> rfl) (fun p e s m args below meth c hsz E G ls hl => ?_)
  subst hsz
  have hl : lv_has ls 6 [(0, va_rf p1), (1, .ref (ad 6 0)), (2, .int p2)] := by cases p1 <;> exact hl
  have K13 : ∀ (σ'j13 : US) (ε'j13 : US) (H : Heap) (locs : List Loc) (ls : Array Slot), kG D (va_A (fl [wMo kc (ad 6) (ad 1) (ad 7) σ, wE kc (ad 7) ε, wC kc (ad 1) κ, pl]) s.heap.size) s (fl [wMo kc (ad 6) (ad 1) (ad 7) σ'j13, wE kc (ad 7) ε'j13, wC kc (ad 1) κ, pl]) H locs → lv_has ls 6 [] → wp_X11_statesOf_J13 RF σ'j13 ε'j13 κ pl Q → W p l e ({ frames := F + 5, cells := 0, slots := 0, locals := L + 129 } : Room) s m args below meth c H locs 0 0 (MQ below (va_Qi (fun r u => Q r u) (kB D (fl [wMo kc (ad 6) (ad 1) (ad 7) σ, wE kc (ad 7) ε, wC kc (ad 1) κ, pl]) s.heap.size (fun u : US × US => (fl [wMo kc (ad 6) (ad 1) (ad 7) u.1, wE kc (ad 7) u.2, wC kc (ad 1) κ, pl]))) (va_A (fl [wMo kc (ad 6) (ad 1) (ad 7) σ, wE kc (ad 7) ε, wC kc (ad 1) κ, pl]) s.heap.size)) args s (0) (0) (va_A (fl [wMo kc (ad 6) (ad 1) (ad 7) σ, wE kc (ad 7) ε, wC kc (ad 1) κ, pl]) s.heap.size)) (F0 m 13 ls []) := by
    intro σ'j13 ε'j13 H locs ls G hl h
    refine lv_iconst (v := 0) E.ex E.by dX11_statesOf_13 (by decide) ?_
    exact k_ret (wof := (fun u : US × US => (fl [wMo kc (ad 6) (ad 1) (ad 7) u.1, wE kc (ad 7) u.2, wC kc (ad 1) κ, pl]))) (u := (σ'j13, ε'j13)) E G rfl h (Nat.le_of_ble_eq_true rfl) (Nat.le_of_ble_eq_true rfl) dX11_statesOf_14
  have K298 : ∀ (v0j298 : Nat) (σ'j298 : US) (ε'j298 : US) (H : Heap) (locs : List Loc) (ls : Array Slot), kG D (va_A (fl [wMo kc (ad 6) (ad 1) (ad 7) σ, wE kc (ad 7) ε, wC kc (ad 1) κ, pl]) s.heap.size) s (fl [wMo kc (ad 6) (ad 1) (ad 7) σ'j298, wE kc (ad 7) ε'j298, wC kc (ad 1) κ, pl]) H locs → lv_has ls 6 [(0, va_rf (some v0j298)), (1, .ref (ad 6 0))] → wp_X11_statesOf_J298 RF v0j298 σ'j298 ε'j298 κ pl Q → W p l e ({ frames := F + 5, cells := 0, slots := 0, locals := L + 129 } : Room) s m args below meth c H locs 0 0 (MQ below (va_Qi (fun r u => Q r u) (kB D (fl [wMo kc (ad 6) (ad 1) (ad 7) σ, wE kc (ad 7) ε, wC kc (ad 1) κ, pl]) s.heap.size (fun u : US × US => (fl [wMo kc (ad 6) (ad 1) (ad 7) u.1, wE kc (ad 7) u.2, wC kc (ad 1) κ, pl]))) (va_A (fl [wMo kc (ad 6) (ad 1) (ad 7) σ, wE kc (ad 7) ε, wC kc (ad 1) κ, pl]) s.heap.size)) args s (0) (0) (va_A (fl [wMo kc (ad 6) (ad 1) (ad 7) σ, wE kc (ad 7) ε, wC kc (ad 1) κ, pl]) s.heap.size)) (F0 m 298 ls []) := by
    intro v0j298 σ'j298 ε'j298 H locs ls G hl h
    refine lv_aload_n E.ex E.by dX11_statesOf_298 rfl (lv_at hl 1 rfl) ?_
    refine k_aload_nR E dX11_statesOf_299 rfl (lv_at hl 0 rfl) ?_
    obtain ⟨k24, b24, t24, o24, q24, d24, l24, hm24, h⟩ := h
    obtain ⟨qi24, hqi24⟩ := List.mem_iff_getElem?.mp (show (v0j298, .inr (11, [.int k24, va_rf b24, .int t24, va_rf o24, va_rf q24, .int d24, .int l24])) ∈ (fl [wMo kc (ad 6) (ad 1) (ad 7) σ'j298, wE kc (ad 7) ε'j298, wC kc (ad 1) κ, pl]) from List.mem_append_right _ (List.mem_append_right _ (List.mem_append_right _ (hm24))))
    refine k_getN E G wi_X11_statesOf_X9 qi24 hqi24 rfl 1 rfl (by decide +kernel) (v := va_rf b24) rfl dX11_statesOf_300 ?_
    obtain ⟨x25, u25, e25, t25, b25, hb25, hm25, h⟩ := h
    subst hb25
    obtain ⟨pr25, hp25⟩ := mem_front hm25
    have G2 : kG D _ s (fl [wMo kc (ad 6) (ad 1) (ad 7) σ'j298, wE kc (ad 7) ε'j298, wC kc (ad 1) κ, [(x25, .inr (3, [.int u25, .int e25, .int t25, .int b25]))] ++ pr25]) H _ := G.lp (List.Perm.append_left _ (List.Perm.append_left _ (List.Perm.append_left _ (show List.Perm pl ([(x25, .inr (3, [.int u25, .int e25, .int t25, .int b25]))] ++ pr25) from hp25))))
    have G2 : kG D _ s (fl [wMo kc (ad 6) (ad 1) (ad 7) σ'j298, wE kc (ad 7) ε'j298, wC kc (ad 1) κ, [(x25, .inr (3, [.int u25, .int e25, .int t25, .int b25]))], pr25]) H _ := G2
    refine k_cVi (n := 1) (X := []) (w := (xMoB kc (ad 6) (ad 7) (ad 1) (fun _ => x25) σ'j298 ε'j298 κ (betaU u25 e25 t25 b25))) (Z := (fl [pr25])) (wnew := (fun _ : Unit => (fl [wMo kc (ad 6) (ad 1) (ad 7) σ'j298, wE kc (ad 7) ε'j298, wC kc (ad 1) κ, [(x25, .inr (3, [.int u25, .int e25, .int t25, .int b25]))], pr25]))) (As := [.ref x25]) (rest := []) E rfl G2 (c_X8_fulfilling l D kc (ad 6) (ad 7) (ad 1) (fun _ => x25) _ _ _ _ _ h) gX11_statesOf_X8_fulfilling rfl ⟨rfl, rfl⟩ hd_X8_fulfilling_v ⟨Nat.ble_eq_true_of_le (show 1 + 1 ≤ F + 5 by omega), Nat.ble_eq_true_of_le (show 8 + (4 + 11) + 28 ≤ L + 129 by omega)⟩ 0 (gMoB_0 _ _ _ _ _ _ _ _ _) rfl rfl hl rfl rfl dX11_statesOf_303 ⟨rfl, rfl⟩ (fun _ => rfl) (fun r26 _u303 hq H locs G => ?_)
    have G : kG D _ s (fl [wMo kc (ad 6) (ad 1) (ad 7) σ'j298, wE kc (ad 7) ε'j298, wC kc (ad 1) κ, ([(x25, .inr (3, [.int u25, .int e25, .int t25, .int b25]))] : va_W) ++ pr25]) H locs := G
    have G : kG D _ s (fl [wMo kc (ad 6) (ad 1) (ad 7) σ'j298, wE kc (ad 7) ε'j298, wC kc (ad 1) κ, pl]) H locs := G.lp (List.Perm.append_left _ (List.Perm.append_left _ (List.Perm.append_left _ (show List.Perm ([(x25, .inr (3, [.int u25, .int e25, .int t25, .int b25]))] ++ pr25) pl from hp25.symm))))
    have h := hq
    exact k_ret (wof := (fun u : US × US => (fl [wMo kc (ad 6) (ad 1) (ad 7) u.1, wE kc (ad 7) u.2, wC kc (ad 1) κ, pl]))) (u := (σ'j298, ε'j298)) E G rfl h (Nat.le_of_ble_eq_true rfl) (Nat.le_of_ble_eq_true rfl) dX11_statesOf_306
  have K177 : ∀ (v0j177 : Nat) (σ'j177 : US) (ε'j177 : US) (H : Heap) (locs : List Loc) (ls : Array Slot), kG D (va_A (fl [wMo kc (ad 6) (ad 1) (ad 7) σ, wE kc (ad 7) ε, wC kc (ad 1) κ, pl]) s.heap.size) s (fl [wMo kc (ad 6) (ad 1) (ad 7) σ'j177, wE kc (ad 7) ε'j177, wC kc (ad 1) κ, pl]) H locs → lv_has ls 6 [(3, .ref (ad 1 0)), (0, va_rf (some v0j177))] → wp_X11_statesOf_J177 RF v0j177 σ'j177 ε'j177 κ pl Q → W p l e ({ frames := F + 5, cells := 0, slots := 0, locals := L + 129 } : Room) s m args below meth c H locs 0 0 (MQ below (va_Qi (fun r u => Q r u) (kB D (fl [wMo kc (ad 6) (ad 1) (ad 7) σ, wE kc (ad 7) ε, wC kc (ad 1) κ, pl]) s.heap.size (fun u : US × US => (fl [wMo kc (ad 6) (ad 1) (ad 7) u.1, wE kc (ad 7) u.2, wC kc (ad 1) κ, pl]))) (va_A (fl [wMo kc (ad 6) (ad 1) (ad 7) σ, wE kc (ad 7) ε, wC kc (ad 1) κ, pl]) s.heap.size)) args s (0) (0) (va_A (fl [wMo kc (ad 6) (ad 1) (ad 7) σ, wE kc (ad 7) ε, wC kc (ad 1) κ, pl]) s.heap.size)) (F0 m 177 ls []) := by
    intro v0j177 σ'j177 ε'j177 H locs ls G hl h
    refine lv_aload_n E.ex E.by dX11_statesOf_177 rfl (lv_at hl 0 rfl) ?_
    refine k_aload_nR E dX11_statesOf_178 rfl (lv_at hl 1 rfl) ?_
    obtain ⟨k27, b27, t27, o27, q27, d27, l27, hm27, h⟩ := h
    obtain ⟨qi27, hqi27⟩ := List.mem_iff_getElem?.mp (show (v0j177, .inr (11, [.int k27, va_rf b27, .int t27, va_rf o27, va_rf q27, .int d27, .int l27])) ∈ (fl [wMo kc (ad 6) (ad 1) (ad 7) σ'j177, wE kc (ad 7) ε'j177, wC kc (ad 1) κ, pl]) from List.mem_append_right _ (List.mem_append_right _ (List.mem_append_right _ (hm27))))
    refine k_getN E G wi_X11_statesOf_X9 qi27 hqi27 rfl 0 rfl (by decide +kernel) (v := .int k27) rfl dX11_statesOf_179 ?_
    refine lv_bipush (v := 97) E.ex E.by dX11_statesOf_182 (by decide) ?_
    refine lv_isub E.ex E.by dX11_statesOf_184 ?_
    have G := kG.sel (L := [wMo kc (ad 6) (ad 1) (ad 7) σ'j177, wE kc (ad 7) ε'j177, wC kc (ad 1) κ, pl]) (L' := [wC kc (ad 1) κ, wMo kc (ad 6) (ad 1) (ad 7) σ'j177, wE kc (ad 7) ε'j177, pl]) G [2] rfl
    refine k_cVi (n := 1) (X := []) (w := (wC kc (ad 1) κ)) (Z := (fl [wMo kc (ad 6) (ad 1) (ad 7) σ'j177, wE kc (ad 7) ε'j177, pl])) (wnew := (fun _ : Unit => (fl [wC kc (ad 1) κ, wMo kc (ad 6) (ad 1) (ad 7) σ'j177, wE kc (ad 7) ε'j177, pl]))) (As := [.int (k27 - 97)]) (rest := []) E rfl G (c_X2_labelled l D kc (ad 1) _ _ _ h) gX11_statesOf_X2_labelled rfl ⟨rfl, rfl⟩ hd_X2_labelled_v ⟨Nat.ble_eq_true_of_le (show 2 + 1 ≤ F + 5 by omega), Nat.ble_eq_true_of_le (show 8 + (4 + 11) + (42) ≤ L + 129 by omega)⟩ 0 (gC_0 _ _ _) rfl rfl hl rfl rfl dX11_statesOf_185 ⟨rfl, rfl⟩ (fun _ => rfl) (fun r28 _u185 hq H locs G => ?_)
    have G := kG.sel (L := [wC kc (ad 1) κ, wMo kc (ad 6) (ad 1) (ad 7) σ'j177, wE kc (ad 7) ε'j177, pl]) (L' := [wMo kc (ad 6) (ad 1) (ad 7) σ'j177, wE kc (ad 7) ε'j177, wC kc (ad 1) κ, pl]) G [1, 1, 0, 0] rfl
    have h := hq
    exact k_ret (wof := (fun u : US × US => (fl [wMo kc (ad 6) (ad 1) (ad 7) u.1, wE kc (ad 7) u.2, wC kc (ad 1) κ, pl]))) (u := (σ'j177, ε'j177)) E G rfl h (Nat.le_of_ble_eq_true rfl) (Nat.le_of_ble_eq_true rfl) dX11_statesOf_188
  refine k_aload_nR E dX11_statesOf_0 rfl (lv_at hl 0 rfl) ?_
  refine k_ifnullR (tgt := 13) E dX11_statesOf_1 (by decide) (fun ho => ?_) (fun a1 ho => ?_)
  · have hza1 := h.1 ho
    subst ho
    have h := hza1
    exact K13 _ _ _ _ _ G (lv_sub hl [] rfl) h
  · have hza1 := h.2 a1 ho
    subst ho
    have h := hza1
    refine lv_aload_n E.ex E.by dX11_statesOf_4 rfl (lv_at hl 1 rfl) ?_
    refine lv_ifnull E.ex E.by dX11_statesOf_5 ?_
    refine lv_iload_n E.ex E.by dX11_statesOf_8 rfl (lv_at hl 2 rfl) ?_
    refine lv_iconst (v := 5) E.ex E.by dX11_statesOf_9 (by decide) ?_
    refine lv_icmp_le (tgt := 15) E.ex E.by dX11_statesOf_10 (by decide) (fun hc23 => ?_) (fun hc23 => ?_)
    · have h := h.1 hc23
      refine lv_aload_n E.ex E.by dX11_statesOf_15 rfl (lv_at hl 1 rfl) ?_
      refine k_getN E G wi_X11_statesOf_X8 0 (gV_0 _ _ _ _ _) rfl 0 rfl (by decide +kernel) (v := .ref (ad 1 0)) rfl dX11_statesOf_16 ?_
      refine lv_astore_n (lv' := [(3, .ref (ad 1 0)), (0, va_rf (some a1)), (1, .ref (ad 6 0)), (2, .int p2)]) E.ex E.by dX11_statesOf_19 rfl hl (by decide) rfl (fun ls hl => ?_)
      refine k_aload_nR E dX11_statesOf_20 rfl (lv_at hl 1 rfl) ?_
      obtain ⟨k2, b2, t2, o2, q2, d2, l2, hm2, h⟩ := h
      obtain ⟨qi2, hqi2⟩ := List.mem_iff_getElem?.mp (show (a1, .inr (11, [.int k2, va_rf b2, .int t2, va_rf o2, va_rf q2, .int d2, .int l2])) ∈ (fl [wMo kc (ad 6) (ad 1) (ad 7) σ, wE kc (ad 7) ε, wC kc (ad 1) κ, pl]) from List.mem_append_right _ (List.mem_append_right _ (List.mem_append_right _ (hm2))))
      refine k_getN E G wi_X11_statesOf_X9 qi2 hqi2 rfl 3 rfl (by decide +kernel) (v := va_rf o2) rfl dX11_statesOf_21 ?_
      refine lv_aload_n E.ex E.by dX11_statesOf_24 rfl (lv_at hl 2 rfl) ?_
      refine lv_iload_n E.ex E.by dX11_statesOf_25 rfl (lv_at hl 3 rfl) ?_
      refine lv_iconst (v := 1) E.ex E.by dX11_statesOf_26 (by decide) ?_
      refine lv_iadd E.ex E.by dX11_statesOf_27 ?_
      refine k_cSi (n := 3) (X := []) (w := (fl [wMo kc (ad 6) (ad 1) (ad 7) σ, wE kc (ad 7) ε, wC kc (ad 1) κ, pl])) (Z := []) (wnew := (fun u : US × US => (fl [wMo kc (ad 6) (ad 1) (ad 7) u.1, wE kc (ad 7) u.2, wC kc (ad 1) κ, pl]))) (As := [va_rf o2, .ref (ad 6 0), .int (p2 + 1)]) (rest := []) E (List.append_nil _).symm G (HRF _ _ _ _ _ _ _ h) gX11_statesOf_X11_statesOf rfl ⟨rfl, rfl⟩ hd_X11_statesOf_v ⟨Nat.ble_eq_true_of_le (show F + 0 + 1 ≤ F + 5 by omega), Nat.ble_eq_true_of_le (show 8 + (6 + 11) + (L + 0) ≤ L + 129 by omega)⟩ rfl hl rfl rfl dX11_statesOf_28 ⟨rfl, rfl⟩ (fun _ => (List.append_nil _).symm) (fun r3 u4 hq H locs G => ?_)
      have h := hq
      refine lv_istore (lv' := [(4, .int r3), (3, .ref (ad 1 0)), (0, va_rf (some a1)), (1, .ref (ad 6 0)), (2, .int p2)]) E.ex E.by dX11_statesOf_31 hl (by decide) rfl (fun ls hl => ?_)
      refine k_aload_nR E dX11_statesOf_33 rfl (lv_at hl 2 rfl) ?_
      obtain ⟨k5, b5, t5, o5, q5, d5, l5, hm5, h⟩ := h
      obtain ⟨qi5, hqi5⟩ := List.mem_iff_getElem?.mp (show (a1, .inr (11, [.int k5, va_rf b5, .int t5, va_rf o5, va_rf q5, .int d5, .int l5])) ∈ (fl [wMo kc (ad 6) (ad 1) (ad 7) u4.1, wE kc (ad 7) u4.2, wC kc (ad 1) κ, pl]) from List.mem_append_right _ (List.mem_append_right _ (List.mem_append_right _ (hm5))))
      refine k_getN E G wi_X11_statesOf_X9 qi5 hqi5 rfl 4 rfl (by decide +kernel) (v := va_rf q5) rfl dX11_statesOf_34 ?_
      refine lv_aload_n E.ex E.by dX11_statesOf_37 rfl (lv_at hl 3 rfl) ?_
      refine lv_iload_n E.ex E.by dX11_statesOf_38 rfl (lv_at hl 4 rfl) ?_
      refine lv_iconst (v := 1) E.ex E.by dX11_statesOf_39 (by decide) ?_
      refine lv_iadd E.ex E.by dX11_statesOf_40 ?_
      refine k_cSi (n := 3) (X := []) (w := (fl [wMo kc (ad 6) (ad 1) (ad 7) u4.1, wE kc (ad 7) u4.2, wC kc (ad 1) κ, pl])) (Z := []) (wnew := (fun u : US × US => (fl [wMo kc (ad 6) (ad 1) (ad 7) u.1, wE kc (ad 7) u.2, wC kc (ad 1) κ, pl]))) (As := [va_rf q5, .ref (ad 6 0), .int (p2 + 1)]) (rest := []) E (List.append_nil _).symm G (HRF _ _ _ _ _ _ _ h) gX11_statesOf_X11_statesOf rfl ⟨rfl, rfl⟩ hd_X11_statesOf_v ⟨Nat.ble_eq_true_of_le (show F + 0 + 1 ≤ F + 5 by omega), Nat.ble_eq_true_of_le (show 8 + (6 + 11) + (L + 0) ≤ L + 129 by omega)⟩ rfl hl rfl rfl dX11_statesOf_41 ⟨rfl, rfl⟩ (fun _ => (List.append_nil _).symm) (fun r6 u7 hq H locs G => ?_)
      have h := hq
      refine lv_istore (lv' := [(5, .int r6), (4, .int r3), (3, .ref (ad 1 0)), (0, va_rf (some a1)), (1, .ref (ad 6 0)), (2, .int p2)]) E.ex E.by dX11_statesOf_44 hl (by decide) rfl (fun ls hl => ?_)
      refine k_aload_nR E dX11_statesOf_46 rfl (lv_at hl 3 rfl) ?_
      obtain ⟨k8, b8, t8, o8, q8, d8, l8, hm8, h⟩ := h
      obtain ⟨qi8, hqi8⟩ := List.mem_iff_getElem?.mp (show (a1, .inr (11, [.int k8, va_rf b8, .int t8, va_rf o8, va_rf q8, .int d8, .int l8])) ∈ (fl [wMo kc (ad 6) (ad 1) (ad 7) u7.1, wE kc (ad 7) u7.2, wC kc (ad 1) κ, pl]) from List.mem_append_right _ (List.mem_append_right _ (List.mem_append_right _ (hm8))))
      refine k_getN E G wi_X11_statesOf_X9 qi8 hqi8 rfl 0 rfl (by decide +kernel) (v := .int k8) rfl dX11_statesOf_47 ?_
      by_cases hs50_0 : k8 = 33
      · have h := h.1 hs50_0
        refine lv_lookup (off := 139) (tgt := 189) E.ex E.by dX11_statesOf_50 (by decide) (by rw [hs50_0]; decide) (by decide) ?_
        refine lv_aload_n E.ex E.by dX11_statesOf_189 rfl (lv_at hl 2 rfl) ?_
        have G := kG.sel (L := [wMo kc (ad 6) (ad 1) (ad 7) u7.1, wE kc (ad 7) u7.2, wC kc (ad 1) κ, pl]) (L' := [wC kc (ad 1) κ, wMo kc (ad 6) (ad 1) (ad 7) u7.1, wE kc (ad 7) u7.2, pl]) G [2] rfl
        refine k_cVi (n := 0) (X := []) (w := (wC kc (ad 1) κ)) (Z := (fl [wMo kc (ad 6) (ad 1) (ad 7) u7.1, wE kc (ad 7) u7.2, pl])) (wnew := (fun _ : Unit => (fl [wC kc (ad 1) κ, wMo kc (ad 6) (ad 1) (ad 7) u7.1, wE kc (ad 7) u7.2, pl]))) (As := []) (rest := []) E rfl G (c_X2_all l D kc (ad 1) _ _ h) gX11_statesOf_X2_all rfl ⟨rfl, rfl⟩ hd_X2_all_v ⟨Nat.ble_eq_true_of_le (show 0 + 1 ≤ F + 5 by omega), Nat.ble_eq_true_of_le (show 8 + (1 + 11) + (0) ≤ L + 129 by omega)⟩ 0 (gC_0 _ _ _) rfl rfl hl rfl rfl dX11_statesOf_190 ⟨rfl, rfl⟩ (fun _ => rfl) (fun r9 _u190 hq H locs G => ?_)
        have G := kG.sel (L := [wC kc (ad 1) κ, wMo kc (ad 6) (ad 1) (ad 7) u7.1, wE kc (ad 7) u7.2, pl]) (L' := [wMo kc (ad 6) (ad 1) (ad 7) u7.1, wE kc (ad 7) u7.2, wC kc (ad 1) κ, pl]) G [1, 1, 0, 0] rfl
        have h := hq
        refine lv_iload E.ex E.by dX11_statesOf_193 (lv_at hl 1 rfl) ?_
        refine lv_iconst (v := (-1)) E.ex E.by dX11_statesOf_195 (by decide) ?_
        refine lv_ixor E.ex E.by dX11_statesOf_196 ?_
        refine lv_iand E.ex E.by dX11_statesOf_197 ?_
        exact k_ret (wof := (fun u : US × US => (fl [wMo kc (ad 6) (ad 1) (ad 7) u.1, wE kc (ad 7) u.2, wC kc (ad 1) κ, pl]))) (u := (u7.1, u7.2)) E G rfl h (Nat.le_of_ble_eq_true rfl) (Nat.le_of_ble_eq_true rfl) dX11_statesOf_198
      · have h := h.2 hs50_0
        by_cases hs50_1 : k8 = 38
        · have h := h.1 hs50_1
          refine lv_lookup (off := 149) (tgt := 199) E.ex E.by dX11_statesOf_50 (by decide) (by rw [hs50_1]; decide) (by decide) ?_
          refine lv_iload E.ex E.by dX11_statesOf_199 (lv_at hl 1 rfl) ?_
          refine lv_iload E.ex E.by dX11_statesOf_201 (lv_at hl 0 rfl) ?_
          refine lv_iand E.ex E.by dX11_statesOf_203 ?_
          exact k_ret (wof := (fun u : US × US => (fl [wMo kc (ad 6) (ad 1) (ad 7) u.1, wE kc (ad 7) u.2, wC kc (ad 1) κ, pl]))) (u := (u7.1, u7.2)) E G rfl h (Nat.le_of_ble_eq_true rfl) (Nat.le_of_ble_eq_true rfl) dX11_statesOf_204
        · have h := h.2 hs50_1
          by_cases hs50_2 : k8 = 66
          · have h := h.1 hs50_2
            refine lv_lookup (off := 218) (tgt := 268) E.ex E.by dX11_statesOf_50 (by decide) (by rw [hs50_2]; decide) (by decide) ?_
            refine lv_aload_n E.ex E.by dX11_statesOf_268 rfl (lv_at hl 4 rfl) ?_
            refine lv_iload E.ex E.by dX11_statesOf_269 (lv_at hl 1 rfl) ?_
            refine lv_iload E.ex E.by dX11_statesOf_271 (lv_at hl 0 rfl) ?_
            refine k_aload_nR E dX11_statesOf_273 rfl (lv_at hl 3 rfl) ?_
            obtain ⟨k10, b10, t10, o10, q10, d10, l10, hm10, h⟩ := h
            obtain ⟨qi10, hqi10⟩ := List.mem_iff_getElem?.mp (show (a1, .inr (11, [.int k10, va_rf b10, .int t10, va_rf o10, va_rf q10, .int d10, .int l10])) ∈ (fl [wMo kc (ad 6) (ad 1) (ad 7) u7.1, wE kc (ad 7) u7.2, wC kc (ad 1) κ, pl]) from List.mem_append_right _ (List.mem_append_right _ (List.mem_append_right _ (hm10))))
            refine k_getN E G wi_X11_statesOf_X9 qi10 hqi10 rfl 2 rfl (by decide +kernel) (v := .int t10) rfl dX11_statesOf_274 ?_
            have G := kG.sel (L := [wMo kc (ad 6) (ad 1) (ad 7) u7.1, wE kc (ad 7) u7.2, wC kc (ad 1) κ, pl]) (L' := [wMo kc (ad 6) (ad 1) (ad 7) u7.1, wE kc (ad 7) u7.2, wC kc (ad 1) κ, pl]) G [0, 0, 0] rfl
            refine k_cVv (n := 3) (X := []) (w := (xMo kc (ad 6) (ad 7) (ad 1) u7.1 u7.2 κ)) (Z := (fl [pl])) (wnew := (fun u : US => (fl [wMo kc (ad 6) (ad 1) (ad 7) u, wE kc (ad 7) u7.2, wC kc (ad 1) κ, pl]))) (As := [.int r3, .int r6, .int t10]) (rest := []) E rfl G (c_X8_countWithin l D kc (ad 6) (ad 7) (ad 1) _ _ _ _ _ _ _ h) gX11_statesOf_X8_countWithin rfl ⟨rfl, rfl⟩ hd_X8_countWithin_v ⟨Nat.ble_eq_true_of_le (show 4 + 1 ≤ F + 5 by omega), Nat.ble_eq_true_of_le (show 8 + (11 + 11) + (95) ≤ L + 129 by omega)⟩ 0 (gMo_0 _ _ _ _ _ _ _) rfl rfl hl rfl rfl dX11_statesOf_277 ⟨rfl, rfl⟩ (fun _ => rfl) (fun u11 hq H locs G => ?_)
            have G := kG.sel (L := [wMo kc (ad 6) (ad 1) (ad 7) u11, wE kc (ad 7) u7.2, wC kc (ad 1) κ, pl]) (L' := [wMo kc (ad 6) (ad 1) (ad 7) u11, wE kc (ad 7) u7.2, wC kc (ad 1) κ, pl]) G [0, 0, 0, 0] rfl
            have h := hq
            refine lv_goto (tgt := 298) E.ex E.by dX11_statesOf_280 (by decide) ?_
            exact K298 _ _ _ _ _ _ G (lv_sub hl [3, 4] rfl) h
          · have h := h.2 hs50_2
            by_cases hs50_3 : k8 = 70
            · have h := h.1 hs50_3
              refine lv_lookup (off := 170) (tgt := 220) E.ex E.by dX11_statesOf_50 (by decide) (by rw [hs50_3]; decide) (by decide) ?_
              refine lv_aload_n E.ex E.by dX11_statesOf_220 rfl (lv_at hl 4 rfl) ?_
              refine lv_aload_n E.ex E.by dX11_statesOf_221 rfl (lv_at hl 2 rfl) ?_
              have G := kG.sel (L := [wMo kc (ad 6) (ad 1) (ad 7) u7.1, wE kc (ad 7) u7.2, wC kc (ad 1) κ, pl]) (L' := [wC kc (ad 1) κ, wMo kc (ad 6) (ad 1) (ad 7) u7.1, wE kc (ad 7) u7.2, pl]) G [2] rfl
              refine k_cVi (n := 0) (X := []) (w := (wC kc (ad 1) κ)) (Z := (fl [wMo kc (ad 6) (ad 1) (ad 7) u7.1, wE kc (ad 7) u7.2, pl])) (wnew := (fun _ : Unit => (fl [wC kc (ad 1) κ, wMo kc (ad 6) (ad 1) (ad 7) u7.1, wE kc (ad 7) u7.2, pl]))) (As := []) (rest := [.ref (ad 6 0)]) E rfl G (c_X2_all l D kc (ad 1) _ _ h) gX11_statesOf_X2_all rfl ⟨rfl, rfl⟩ hd_X2_all_v ⟨Nat.ble_eq_true_of_le (show 0 + 1 ≤ F + 5 by omega), Nat.ble_eq_true_of_le (show 8 + (1 + 11) + (0) ≤ L + 129 by omega)⟩ 0 (gC_0 _ _ _) rfl rfl hl rfl rfl dX11_statesOf_222 ⟨rfl, rfl⟩ (fun _ => rfl) (fun r12 _u222 hq H locs G => ?_)
              have G := kG.sel (L := [wC kc (ad 1) κ, wMo kc (ad 6) (ad 1) (ad 7) u7.1, wE kc (ad 7) u7.2, pl]) (L' := [wMo kc (ad 6) (ad 1) (ad 7) u7.1, wE kc (ad 7) u7.2, wC kc (ad 1) κ, pl]) G [1, 1, 0, 0] rfl
              have h := hq
              refine lv_iload E.ex E.by dX11_statesOf_225 (lv_at hl 1 rfl) ?_
              have G := kG.sel (L := [wMo kc (ad 6) (ad 1) (ad 7) u7.1, wE kc (ad 7) u7.2, wC kc (ad 1) κ, pl]) (L' := [wMo kc (ad 6) (ad 1) (ad 7) u7.1, wE kc (ad 7) u7.2, wC kc (ad 1) κ, pl]) G [0, 0, 0] rfl
              refine k_cVv (n := 2) (X := []) (w := (xMo kc (ad 6) (ad 7) (ad 1) u7.1 u7.2 κ)) (Z := (fl [pl])) (wnew := (fun u : US × US => (fl [wMo kc (ad 6) (ad 1) (ad 7) u.1, wE kc (ad 7) u.2, wC kc (ad 1) κ, pl]))) (As := [.int r12, .int r3]) (rest := []) E rfl G (c_X8_solveUntil l D kc (ad 6) (ad 7) (ad 1) _ _ _ _ _ _ h) gX11_statesOf_X8_solveUntil rfl ⟨rfl, rfl⟩ hd_X8_solveUntil_v ⟨Nat.ble_eq_true_of_le (show 4 + 1 ≤ F + 5 by omega), Nat.ble_eq_true_of_le (show 8 + (5 + 11) + (90) ≤ L + 129 by omega)⟩ 0 (gMo_0 _ _ _ _ _ _ _) rfl rfl hl rfl rfl dX11_statesOf_227 ⟨rfl, rfl⟩ (fun _ => rfl) (fun u13 hq H locs G => ?_)
              have G := kG.sel (L := [wMo kc (ad 6) (ad 1) (ad 7) u13.1, wE kc (ad 7) u13.2, wC kc (ad 1) κ, pl]) (L' := [wMo kc (ad 6) (ad 1) (ad 7) u13.1, wE kc (ad 7) u13.2, wC kc (ad 1) κ, pl]) G [0, 0, 0, 0] rfl
              have h := hq
              refine lv_goto (tgt := 298) E.ex E.by dX11_statesOf_230 (by decide) ?_
              exact K298 _ _ _ _ _ _ G (lv_sub hl [3, 4] rfl) h
            · have h := h.2 hs50_3
              by_cases hs50_4 : k8 = 71
              · have h := h.1 hs50_4
                refine lv_lookup (off := 183) (tgt := 233) E.ex E.by dX11_statesOf_50 (by decide) (by rw [hs50_4]; decide) (by decide) ?_
                refine lv_aload_n E.ex E.by dX11_statesOf_233 rfl (lv_at hl 4 rfl) ?_
                refine lv_aload_n E.ex E.by dX11_statesOf_234 rfl (lv_at hl 2 rfl) ?_
                have G := kG.sel (L := [wMo kc (ad 6) (ad 1) (ad 7) u7.1, wE kc (ad 7) u7.2, wC kc (ad 1) κ, pl]) (L' := [wC kc (ad 1) κ, wMo kc (ad 6) (ad 1) (ad 7) u7.1, wE kc (ad 7) u7.2, pl]) G [2] rfl
                refine k_cVi (n := 0) (X := []) (w := (wC kc (ad 1) κ)) (Z := (fl [wMo kc (ad 6) (ad 1) (ad 7) u7.1, wE kc (ad 7) u7.2, pl])) (wnew := (fun _ : Unit => (fl [wC kc (ad 1) κ, wMo kc (ad 6) (ad 1) (ad 7) u7.1, wE kc (ad 7) u7.2, pl]))) (As := []) (rest := [.ref (ad 6 0)]) E rfl G (c_X2_all l D kc (ad 1) _ _ h) gX11_statesOf_X2_all rfl ⟨rfl, rfl⟩ hd_X2_all_v ⟨Nat.ble_eq_true_of_le (show 0 + 1 ≤ F + 5 by omega), Nat.ble_eq_true_of_le (show 8 + (1 + 11) + (0) ≤ L + 129 by omega)⟩ 0 (gC_0 _ _ _) rfl rfl hl rfl rfl dX11_statesOf_235 ⟨rfl, rfl⟩ (fun _ => rfl) (fun r14 _u235 hq H locs G => ?_)
                have G := kG.sel (L := [wC kc (ad 1) κ, wMo kc (ad 6) (ad 1) (ad 7) u7.1, wE kc (ad 7) u7.2, pl]) (L' := [wMo kc (ad 6) (ad 1) (ad 7) u7.1, wE kc (ad 7) u7.2, wC kc (ad 1) κ, pl]) G [1, 1, 0, 0] rfl
                have h := hq
                refine lv_aload_n E.ex E.by dX11_statesOf_238 rfl (lv_at hl 2 rfl) ?_
                have G := kG.sel (L := [wMo kc (ad 6) (ad 1) (ad 7) u7.1, wE kc (ad 7) u7.2, wC kc (ad 1) κ, pl]) (L' := [wC kc (ad 1) κ, wMo kc (ad 6) (ad 1) (ad 7) u7.1, wE kc (ad 7) u7.2, pl]) G [2] rfl
                refine k_cVi (n := 0) (X := []) (w := (wC kc (ad 1) κ)) (Z := (fl [wMo kc (ad 6) (ad 1) (ad 7) u7.1, wE kc (ad 7) u7.2, pl])) (wnew := (fun _ : Unit => (fl [wC kc (ad 1) κ, wMo kc (ad 6) (ad 1) (ad 7) u7.1, wE kc (ad 7) u7.2, pl]))) (As := []) (rest := [.int r14, .ref (ad 6 0)]) E rfl G (c_X2_all l D kc (ad 1) _ _ h) gX11_statesOf_X2_all rfl ⟨rfl, rfl⟩ hd_X2_all_v ⟨Nat.ble_eq_true_of_le (show 0 + 1 ≤ F + 5 by omega), Nat.ble_eq_true_of_le (show 8 + (1 + 11) + (0) ≤ L + 129 by omega)⟩ 0 (gC_0 _ _ _) rfl rfl hl rfl rfl dX11_statesOf_239 ⟨rfl, rfl⟩ (fun _ => rfl) (fun r15 _u239 hq H locs G => ?_)
                have G := kG.sel (L := [wC kc (ad 1) κ, wMo kc (ad 6) (ad 1) (ad 7) u7.1, wE kc (ad 7) u7.2, pl]) (L' := [wMo kc (ad 6) (ad 1) (ad 7) u7.1, wE kc (ad 7) u7.2, wC kc (ad 1) κ, pl]) G [1, 1, 0, 0] rfl
                have h := hq
                refine lv_iload E.ex E.by dX11_statesOf_242 (lv_at hl 1 rfl) ?_
                refine lv_iconst (v := (-1)) E.ex E.by dX11_statesOf_244 (by decide) ?_
                refine lv_ixor E.ex E.by dX11_statesOf_245 ?_
                refine lv_iand E.ex E.by dX11_statesOf_246 ?_
                have G := kG.sel (L := [wMo kc (ad 6) (ad 1) (ad 7) u7.1, wE kc (ad 7) u7.2, wC kc (ad 1) κ, pl]) (L' := [wMo kc (ad 6) (ad 1) (ad 7) u7.1, wE kc (ad 7) u7.2, wC kc (ad 1) κ, pl]) G [0, 0, 0] rfl
                refine k_cVv (n := 2) (X := []) (w := (xMo kc (ad 6) (ad 7) (ad 1) u7.1 u7.2 κ)) (Z := (fl [pl])) (wnew := (fun u : US × US => (fl [wMo kc (ad 6) (ad 1) (ad 7) u.1, wE kc (ad 7) u.2, wC kc (ad 1) κ, pl]))) (As := [.int r14, .int (r15 &&& (r3 ^^^ (-1)))]) (rest := []) E rfl G (c_X8_solveUntil l D kc (ad 6) (ad 7) (ad 1) _ _ _ _ _ _ h) gX11_statesOf_X8_solveUntil rfl ⟨rfl, rfl⟩ hd_X8_solveUntil_v ⟨Nat.ble_eq_true_of_le (show 4 + 1 ≤ F + 5 by omega), Nat.ble_eq_true_of_le (show 8 + (5 + 11) + (90) ≤ L + 129 by omega)⟩ 0 (gMo_0 _ _ _ _ _ _ _) rfl rfl hl rfl rfl dX11_statesOf_247 ⟨rfl, rfl⟩ (fun _ => rfl) (fun u16 hq H locs G => ?_)
                have G := kG.sel (L := [wMo kc (ad 6) (ad 1) (ad 7) u16.1, wE kc (ad 7) u16.2, wC kc (ad 1) κ, pl]) (L' := [wMo kc (ad 6) (ad 1) (ad 7) u16.1, wE kc (ad 7) u16.2, wC kc (ad 1) κ, pl]) G [0, 0, 0, 0] rfl
                have h := hq
                refine lv_aload_n E.ex E.by dX11_statesOf_250 rfl (lv_at hl 4 rfl) ?_
                have G := kG.sel (L := [wMo kc (ad 6) (ad 1) (ad 7) u16.1, wE kc (ad 7) u16.2, wC kc (ad 1) κ, pl]) (L' := [wMo kc (ad 6) (ad 1) (ad 7) u16.1, wE kc (ad 7) u16.2, wC kc (ad 1) κ, pl]) G [0, 0, 0] rfl
                refine k_cVv (n := 0) (X := []) (w := (xMo kc (ad 6) (ad 7) (ad 1) u16.1 u16.2 κ)) (Z := (fl [pl])) (wnew := (fun u : US => (fl [wMo kc (ad 6) (ad 1) (ad 7) u, wE kc (ad 7) u16.2, wC kc (ad 1) κ, pl]))) (As := []) (rest := []) E rfl G (c_X8_complement l D kc (ad 6) (ad 7) (ad 1) _ _ _ _ h) gX11_statesOf_X8_complement rfl ⟨rfl, rfl⟩ hd_X8_complement_v ⟨Nat.ble_eq_true_of_le (show 2 + 1 ≤ F + 5 by omega), Nat.ble_eq_true_of_le (show 8 + (2 + 11) + (57) ≤ L + 129 by omega)⟩ 0 (gMo_0 _ _ _ _ _ _ _) rfl rfl hl rfl rfl dX11_statesOf_251 ⟨rfl, rfl⟩ (fun _ => rfl) (fun u17 hq H locs G => ?_)
                have G := kG.sel (L := [wMo kc (ad 6) (ad 1) (ad 7) u17, wE kc (ad 7) u16.2, wC kc (ad 1) κ, pl]) (L' := [wMo kc (ad 6) (ad 1) (ad 7) u17, wE kc (ad 7) u16.2, wC kc (ad 1) κ, pl]) G [0, 0, 0, 0] rfl
                have h := hq
                refine lv_goto (tgt := 298) E.ex E.by dX11_statesOf_254 (by decide) ?_
                exact K298 _ _ _ _ _ _ G (lv_sub hl [3, 4] rfl) h
              · have h := h.2 hs50_4
                by_cases hs50_5 : k8 = 83
                · have h := h.1 hs50_5
                  refine lv_lookup (off := 233) (tgt := 283) E.ex E.by dX11_statesOf_50 (by decide) (by rw [hs50_5]; decide) (by decide) ?_
                  refine lv_aload_n E.ex E.by dX11_statesOf_283 rfl (lv_at hl 4 rfl) ?_
                  refine lv_iload E.ex E.by dX11_statesOf_284 (lv_at hl 1 rfl) ?_
                  have G := kG.sel (L := [wMo kc (ad 6) (ad 1) (ad 7) u7.1, wE kc (ad 7) u7.2, wC kc (ad 1) κ, pl]) (L' := [wMo kc (ad 6) (ad 1) (ad 7) u7.1, wE kc (ad 7) u7.2, wC kc (ad 1) κ, pl]) G [0, 0, 0] rfl
                  refine k_cVv (n := 1) (X := []) (w := (xMo kc (ad 6) (ad 7) (ad 1) u7.1 u7.2 κ)) (Z := (fl [pl])) (wnew := (fun u : US × US => (fl [wMo kc (ad 6) (ad 1) (ad 7) u.1, wE kc (ad 7) u.2, wC kc (ad 1) κ, pl]))) (As := [.int r3]) (rest := []) E rfl G (c_X8_solveSteady l D kc (ad 6) (ad 7) (ad 1) _ _ _ _ _ h) gX11_statesOf_X8_solveSteady rfl ⟨rfl, rfl⟩ hd_X8_solveSteady_v ⟨Nat.ble_eq_true_of_le (show 4 + 1 ≤ F + 5 by omega), Nat.ble_eq_true_of_le (show 8 + (8 + 11) + (102) ≤ L + 129 by omega)⟩ 0 (gMo_0 _ _ _ _ _ _ _) rfl rfl hl rfl rfl dX11_statesOf_286 ⟨rfl, rfl⟩ (fun _ => rfl) (fun u18 hq H locs G => ?_)
                  have G := kG.sel (L := [wMo kc (ad 6) (ad 1) (ad 7) u18.1, wE kc (ad 7) u18.2, wC kc (ad 1) κ, pl]) (L' := [wMo kc (ad 6) (ad 1) (ad 7) u18.1, wE kc (ad 7) u18.2, wC kc (ad 1) κ, pl]) G [0, 0, 0, 0] rfl
                  have h := hq
                  refine lv_goto (tgt := 298) E.ex E.by dX11_statesOf_289 (by decide) ?_
                  exact K298 _ _ _ _ _ _ G (lv_sub hl [3, 4] rfl) h
                · have h := h.2 hs50_5
                  by_cases hs50_6 : k8 = 85
                  · have h := h.1 hs50_6
                    refine lv_lookup (off := 207) (tgt := 257) E.ex E.by dX11_statesOf_50 (by decide) (by rw [hs50_6]; decide) (by decide) ?_
                    refine lv_aload_n E.ex E.by dX11_statesOf_257 rfl (lv_at hl 4 rfl) ?_
                    refine lv_iload E.ex E.by dX11_statesOf_258 (lv_at hl 1 rfl) ?_
                    refine lv_iload E.ex E.by dX11_statesOf_260 (lv_at hl 0 rfl) ?_
                    have G := kG.sel (L := [wMo kc (ad 6) (ad 1) (ad 7) u7.1, wE kc (ad 7) u7.2, wC kc (ad 1) κ, pl]) (L' := [wMo kc (ad 6) (ad 1) (ad 7) u7.1, wE kc (ad 7) u7.2, wC kc (ad 1) κ, pl]) G [0, 0, 0] rfl
                    refine k_cVv (n := 2) (X := []) (w := (xMo kc (ad 6) (ad 7) (ad 1) u7.1 u7.2 κ)) (Z := (fl [pl])) (wnew := (fun u : US × US => (fl [wMo kc (ad 6) (ad 1) (ad 7) u.1, wE kc (ad 7) u.2, wC kc (ad 1) κ, pl]))) (As := [.int r3, .int r6]) (rest := []) E rfl G (c_X8_solveUntil l D kc (ad 6) (ad 7) (ad 1) _ _ _ _ _ _ h) gX11_statesOf_X8_solveUntil rfl ⟨rfl, rfl⟩ hd_X8_solveUntil_v ⟨Nat.ble_eq_true_of_le (show 4 + 1 ≤ F + 5 by omega), Nat.ble_eq_true_of_le (show 8 + (5 + 11) + (90) ≤ L + 129 by omega)⟩ 0 (gMo_0 _ _ _ _ _ _ _) rfl rfl hl rfl rfl dX11_statesOf_262 ⟨rfl, rfl⟩ (fun _ => rfl) (fun u19 hq H locs G => ?_)
                    have G := kG.sel (L := [wMo kc (ad 6) (ad 1) (ad 7) u19.1, wE kc (ad 7) u19.2, wC kc (ad 1) κ, pl]) (L' := [wMo kc (ad 6) (ad 1) (ad 7) u19.1, wE kc (ad 7) u19.2, wC kc (ad 1) κ, pl]) G [0, 0, 0, 0] rfl
                    have h := hq
                    refine lv_goto (tgt := 298) E.ex E.by dX11_statesOf_265 (by decide) ?_
                    exact K298 _ _ _ _ _ _ G (lv_sub hl [3, 4] rfl) h
                  · have h := h.2 hs50_6
                    by_cases hs50_7 : k8 = 88
                    · have h := h.1 hs50_7
                      refine lv_lookup (off := 161) (tgt := 211) E.ex E.by dX11_statesOf_50 (by decide) (by rw [hs50_7]; decide) (by decide) ?_
                      refine lv_aload_n E.ex E.by dX11_statesOf_211 rfl (lv_at hl 4 rfl) ?_
                      refine lv_iload E.ex E.by dX11_statesOf_212 (lv_at hl 1 rfl) ?_
                      have G := kG.sel (L := [wMo kc (ad 6) (ad 1) (ad 7) u7.1, wE kc (ad 7) u7.2, wC kc (ad 1) κ, pl]) (L' := [wMo kc (ad 6) (ad 1) (ad 7) u7.1, wE kc (ad 7) u7.2, wC kc (ad 1) κ, pl]) G [0, 0, 0] rfl
                      refine k_cVv (n := 1) (X := []) (w := (xMo kc (ad 6) (ad 7) (ad 1) u7.1 u7.2 κ)) (Z := (fl [pl])) (wnew := (fun u : US => (fl [wMo kc (ad 6) (ad 1) (ad 7) u, wE kc (ad 7) u7.2, wC kc (ad 1) κ, pl]))) (As := [.int r3]) (rest := []) E rfl G (c_X8_solveStep l D kc (ad 6) (ad 7) (ad 1) _ _ _ _ _ h) gX11_statesOf_X8_solveStep rfl ⟨rfl, rfl⟩ hd_X8_solveStep_v ⟨Nat.ble_eq_true_of_le (show 3 + 1 ≤ F + 5 by omega), Nat.ble_eq_true_of_le (show 8 + (3 + 11) + (70) ≤ L + 129 by omega)⟩ 0 (gMo_0 _ _ _ _ _ _ _) rfl rfl hl rfl rfl dX11_statesOf_214 ⟨rfl, rfl⟩ (fun _ => rfl) (fun u20 hq H locs G => ?_)
                      have G := kG.sel (L := [wMo kc (ad 6) (ad 1) (ad 7) u20, wE kc (ad 7) u7.2, wC kc (ad 1) κ, pl]) (L' := [wMo kc (ad 6) (ad 1) (ad 7) u20, wE kc (ad 7) u7.2, wC kc (ad 1) κ, pl]) G [0, 0, 0, 0] rfl
                      have h := hq
                      refine lv_goto (tgt := 298) E.ex E.by dX11_statesOf_217 (by decide) ?_
                      exact K298 _ _ _ _ _ _ G (lv_sub hl [3, 4] rfl) h
                    · have h := h.2 hs50_7
                      by_cases hs50_8 : k8 = 97
                      · have h := h.1 hs50_8
                        refine lv_lookup (off := 127) (tgt := 177) E.ex E.by dX11_statesOf_50 (by decide) (by rw [hs50_8]; decide) (by decide) ?_
                        exact K177 _ _ _ _ _ _ G (lv_sub hl [2, 3] rfl) h
                      · have h := h.2 hs50_8
                        by_cases hs50_9 : k8 = 98
                        · have h := h.1 hs50_9
                          refine lv_lookup (off := 127) (tgt := 177) E.ex E.by dX11_statesOf_50 (by decide) (by rw [hs50_9]; decide) (by decide) ?_
                          exact K177 _ _ _ _ _ _ G (lv_sub hl [2, 3] rfl) h
                        · have h := h.2 hs50_9
                          by_cases hs50_10 : k8 = 99
                          · have h := h.1 hs50_10
                            refine lv_lookup (off := 127) (tgt := 177) E.ex E.by dX11_statesOf_50 (by decide) (by rw [hs50_10]; decide) (by decide) ?_
                            exact K177 _ _ _ _ _ _ G (lv_sub hl [2, 3] rfl) h
                          · have h := h.2 hs50_10
                            by_cases hs50_11 : k8 = 100
                            · have h := h.1 hs50_11
                              refine lv_lookup (off := 127) (tgt := 177) E.ex E.by dX11_statesOf_50 (by decide) (by rw [hs50_11]; decide) (by decide) ?_
                              exact K177 _ _ _ _ _ _ G (lv_sub hl [2, 3] rfl) h
                            · have h := h.2 hs50_11
                              by_cases hs50_12 : k8 = 116
                              · have h := h.1 hs50_12
                                refine lv_lookup (off := 122) (tgt := 172) E.ex E.by dX11_statesOf_50 (by decide) (by rw [hs50_12]; decide) (by decide) ?_
                                refine lv_aload_n E.ex E.by dX11_statesOf_172 rfl (lv_at hl 2 rfl) ?_
                                have G := kG.sel (L := [wMo kc (ad 6) (ad 1) (ad 7) u7.1, wE kc (ad 7) u7.2, wC kc (ad 1) κ, pl]) (L' := [wC kc (ad 1) κ, wMo kc (ad 6) (ad 1) (ad 7) u7.1, wE kc (ad 7) u7.2, pl]) G [2] rfl
                                refine k_cVi (n := 0) (X := []) (w := (wC kc (ad 1) κ)) (Z := (fl [wMo kc (ad 6) (ad 1) (ad 7) u7.1, wE kc (ad 7) u7.2, pl])) (wnew := (fun _ : Unit => (fl [wC kc (ad 1) κ, wMo kc (ad 6) (ad 1) (ad 7) u7.1, wE kc (ad 7) u7.2, pl]))) (As := []) (rest := []) E rfl G (c_X2_all l D kc (ad 1) _ _ h) gX11_statesOf_X2_all rfl ⟨rfl, rfl⟩ hd_X2_all_v ⟨Nat.ble_eq_true_of_le (show 0 + 1 ≤ F + 5 by omega), Nat.ble_eq_true_of_le (show 8 + (1 + 11) + (0) ≤ L + 129 by omega)⟩ 0 (gC_0 _ _ _) rfl rfl hl rfl rfl dX11_statesOf_173 ⟨rfl, rfl⟩ (fun _ => rfl) (fun r21 _u173 hq H locs G => ?_)
                                have G := kG.sel (L := [wC kc (ad 1) κ, wMo kc (ad 6) (ad 1) (ad 7) u7.1, wE kc (ad 7) u7.2, pl]) (L' := [wMo kc (ad 6) (ad 1) (ad 7) u7.1, wE kc (ad 7) u7.2, wC kc (ad 1) κ, pl]) G [1, 1, 0, 0] rfl
                                have h := hq
                                exact k_ret (wof := (fun u : US × US => (fl [wMo kc (ad 6) (ad 1) (ad 7) u.1, wE kc (ad 7) u.2, wC kc (ad 1) κ, pl]))) (u := (u7.1, u7.2)) E G rfl h (Nat.le_of_ble_eq_true rfl) (Nat.le_of_ble_eq_true rfl) dX11_statesOf_176
                              · have h := h.2 hs50_12
                                by_cases hs50_13 : k8 = 124
                                · have h := h.1 hs50_13
                                  refine lv_lookup (off := 155) (tgt := 205) E.ex E.by dX11_statesOf_50 (by decide) (by rw [hs50_13]; decide) (by decide) ?_
                                  refine lv_iload E.ex E.by dX11_statesOf_205 (lv_at hl 1 rfl) ?_
                                  refine lv_iload E.ex E.by dX11_statesOf_207 (lv_at hl 0 rfl) ?_
                                  refine lv_ior E.ex E.by dX11_statesOf_209 ?_
                                  exact k_ret (wof := (fun u : US × US => (fl [wMo kc (ad 6) (ad 1) (ad 7) u.1, wE kc (ad 7) u.2, wC kc (ad 1) κ, pl]))) (u := (u7.1, u7.2)) E G rfl h (Nat.le_of_ble_eq_true rfl) (Nat.le_of_ble_eq_true rfl) dX11_statesOf_210
                                · have h := h.2 hs50_13
                                  refine lv_lookup (off := 242) (tgt := 292) E.ex E.by dX11_statesOf_50 (by decide) ((lv_osw hs50_0 (by decide)).trans ((lv_osw hs50_1 (by decide)).trans ((lv_osw hs50_2 (by decide)).trans ((lv_osw hs50_3 (by decide)).trans ((lv_osw hs50_4 (by decide)).trans ((lv_osw hs50_5 (by decide)).trans ((lv_osw hs50_6 (by decide)).trans ((lv_osw hs50_7 (by decide)).trans ((lv_osw hs50_8 (by decide)).trans ((lv_osw hs50_9 (by decide)).trans ((lv_osw hs50_10 (by decide)).trans ((lv_osw hs50_11 (by decide)).trans ((lv_osw hs50_12 (by decide)).trans ((lv_osw hs50_13 (by decide)).trans (rfl))))))))))))))) (by decide) ?_
                                  refine lv_aload_n E.ex E.by dX11_statesOf_292 rfl (lv_at hl 4 rfl) ?_
                                  refine lv_iload E.ex E.by dX11_statesOf_293 (lv_at hl 1 rfl) ?_
                                  have G := kG.sel (L := [wMo kc (ad 6) (ad 1) (ad 7) u7.1, wE kc (ad 7) u7.2, wC kc (ad 1) κ, pl]) (L' := [wMo kc (ad 6) (ad 1) (ad 7) u7.1, wE kc (ad 7) u7.2, wC kc (ad 1) κ, pl]) G [0, 0, 0] rfl
                                  refine k_cVv (n := 1) (X := []) (w := (xMo kc (ad 6) (ad 7) (ad 1) u7.1 u7.2 κ)) (Z := (fl [pl])) (wnew := (fun u : US × US => (fl [wMo kc (ad 6) (ad 1) (ad 7) u.1, wE kc (ad 7) u.2, wC kc (ad 1) κ, pl]))) (As := [.int r3]) (rest := []) E rfl G (c_X8_solveExpected l D kc (ad 6) (ad 7) (ad 1) _ _ _ _ _ h) gX11_statesOf_X8_solveExpected rfl ⟨rfl, rfl⟩ hd_X8_solveExpected_v ⟨Nat.ble_eq_true_of_le (show 4 + 1 ≤ F + 5 by omega), Nat.ble_eq_true_of_le (show 8 + (4 + 11) + (94) ≤ L + 129 by omega)⟩ 0 (gMo_0 _ _ _ _ _ _ _) rfl rfl hl rfl rfl dX11_statesOf_295 ⟨rfl, rfl⟩ (fun _ => rfl) (fun u22 hq H locs G => ?_)
                                  have G := kG.sel (L := [wMo kc (ad 6) (ad 1) (ad 7) u22.1, wE kc (ad 7) u22.2, wC kc (ad 1) κ, pl]) (L' := [wMo kc (ad 6) (ad 1) (ad 7) u22.1, wE kc (ad 7) u22.2, wC kc (ad 1) κ, pl]) G [0, 0, 0, 0] rfl
                                  have h := hq
                                  exact K298 _ _ _ _ _ _ G (lv_sub hl [3, 4] rfl) h
    · have h := h.2 hc23
      exact K13 _ _ _ _ _ G (lv_sub hl [] rfl) h
def wp_X11_statesOf : Nat → Option Nat → Int32 → US → US → US → va_W → (Int32 → (US × US) → Prop) → Prop
  | 0 => fun _ _ _ _ _ _ _ => False
  | n + 1 => fun p1 p2 σ ε κ pl Q => wp_X11_statesOf_B (wp_X11_statesOf n) p1 p2 σ ε κ pl Q
theorem c_X11_statesOf (l : Launch) (D : va_G) (kc : Nat → ClassId) (ad : Nat → Nat → Nat) (n : Nat) : ∀ (q1 : Option Nat) (q2 : Int32) (σ0 : US) (ε0 : US) (κ0 : US) (pl0 : va_W) (Q0 : Int32 → (US × US) → Prop), wp_X11_statesOf n q1 q2 σ0 ε0 κ0 pl0 Q0 → kCi l D (tyL kc) yX11_statesOf wsX11_statesOf ({ frames := 5 * n, cells := 0, slots := 0, locals := 129 * n } : Room) [va_rf q1, .ref (ad 6 0), .int q2] (fl [wMo kc (ad 6) (ad 1) (ad 7) σ0, wE kc (ad 7) ε0, wC kc (ad 1) κ0, pl0]) (fun u : US × US => (fl [wMo kc (ad 6) (ad 1) (ad 7) u.1, wE kc (ad 7) u.2, wC kc (ad 1) κ0, pl0])) 0 0 (fun r u => Q0 r u) := by
  induction n with
  | zero => intro _ _ _ _ _ _ _ h; exact absurd h (fun h => h)
  | succ n ih => intro _ _ _ _ _ _ _ h; exact c_X11_statesOf_B l D kc ad (5 * n) (129 * n) (wp_X11_statesOf n) ih _ _ _ _ _ _ _ h
