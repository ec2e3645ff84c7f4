/-! ===== the buffer and the formulas: both sides ===== -/
section SPF
variable (A : AB) (p1 : Int32)
def f_feed : Int32 := o1 (inx p1 127) (-1) fun x => if 33 ≤ x then (if A.2.2.2.2.length < 50 then nI (A.2.2.2.2.length + 1) else -3) else -1
def g_feed : AB := o1 (inx p1 127) A fun x => if 33 ≤ x then (if A.2.2.2.2.length < 50 then (A.1, A.2.1, A.2.2.1, A.2.2.2.1, A.2.2.2.2 ++ [x]) else A) else A
def f_clear : Int32 := nI (FN A)
def g_clear : AB := (A.1, A.2.1, A.2.2.1, [], A.2.2.2.2)
def rdA : ST × TR 6 := rdF (tL A.2.2.2.2) A.2.2.2.2.length 6 (false, 0)
def okR : Bool := !(rdA A).1.1 && decide ((rdA A).1.2 = A.2.2.2.2.length)
def f_addF : Int32 := if okR A = true then (if FN A < 6 then nI (FN A) else -3) else -100 - nI (rdA A).1.2
def g_addF : AB := (A.1, A.2.1, A.2.2.1, if okR A = true ∧ FN A < 6 then A.2.2.2.1 ++ [(A.2.2.2.2, (rdA A).2)] else A.2.2.2.1, [])
end SPF
theorem tL_app {l : List Nat} {x j : Nat} (h : j < l.length) : tL (l ++ [x]) j = tL l j := by
  unfold tL
  rw [List.getD_eq_getElem?_getD, List.getD_eq_getElem?_getD, List.getElem?_append_left h]
theorem tL_end {l : List Nat} {x : Nat} : tL (l ++ [x]) l.length = x := by
  unfold tL
  rw [List.getD_eq_getElem?_getD, List.getElem?_append_right (Nat.le_refl _), Nat.sub_self]; rfl
theorem okL_nil : okL [] := ⟨Nat.zero_le _, fun i hi => absurd hi (Nat.not_lt_zero _)⟩
theorem okL_app {l : List Nat} {x : Nat} (h : okL l) (h1 : l.length < 50) (h2 : 33 ≤ x) (h3 : x ≤ 126) : okL (l ++ [x]) := by
  refine ⟨by rw [List.length_append]; show l.length + 1 ≤ 50; omega, fun i hi => ?_⟩
  have hi : i < l.length + 1 := by rw [List.length_append] at hi; exact hi
  by_cases e : i = l.length
  · subst e; rw [tL_end]; exact ⟨h2, h3⟩
  · rw [tL_app (by omega)]; exact h.2 i (by omega)
section OKF
variable {A : AB} {p1 : Int32}
theorem ok_feed (ok : okA A) : okA (g_feed A p1) := by
  unfold g_feed
  cases h : inx p1 127 with
  | none => exact ok
  | some x =>
    have hx := inx_lt h
    rw [o1_s rfl]
    split
    · split
      · rename_i h1 h2
        exact ⟨ok.1, ok.2.1, ok.2.2.1, ok.2.2.2.1, okL_app ok.2.2.2.2 h2 h1 (by omega)⟩
      · exact ok
    · exact ok
theorem ok_clear (ok : okA A) : okA (g_clear A) := ⟨ok.1, ok.2.1, ok.2.2.1, ⟨Nat.zero_le _, fun F h => absurd h (List.not_mem_nil)⟩, ok.2.2.2.2⟩
theorem ok_addF (ok : okA A) : okA (g_addF A) := by
  refine ⟨ok.1, ok.2.1, ok.2.2.1, ?_, okL_nil⟩
  show (if okR A = true ∧ FN A < 6 then A.2.2.2.1 ++ [(A.2.2.2.2, (rdA A).2)] else A.2.2.2.1).length ≤ 6 ∧ ∀ F, F ∈ (if okR A = true ∧ FN A < 6 then A.2.2.2.1 ++ [(A.2.2.2.2, (rdA A).2)] else A.2.2.2.1) → okT 6 F.2 ∧ okL F.1
  split
  · rename_i h
    refine ⟨by rw [List.length_append]; show A.2.2.2.1.length + 1 ≤ 6; have : A.2.2.2.1.length < 6 := h.2; omega, fun F hF => ?_⟩
    rcases List.mem_append.mp hF with h1 | h1
    · exact ok.2.2.2.1.2 F h1
    · rw [List.mem_singleton] at h1
      subst h1
      have h2 : (rdA A).1.1 = false := by
        have h3 := h.1
        unfold okR at h3
        cases h4 : (rdA A).1.1 with
        | false => rfl
        | true => rw [h4] at h3; exact absurd h3 (by simp)
      exact ⟨okT_rd 6 (false, 0) h2, ok.2.2.2.2⟩
  · exact ok.2.2.2.1
end OKF
section CFO
variable {kc : Nat → ClassId} {A : AB} {μ ρ κ η lu σ ε π : US} {fo : Nat → Option Nat} {kp : Nat → US} {β : SBT} {pl : va_W} {p1 : Int32}
theorem q11_feed (ok : okA A) (C : CSt kc A μ fo κ ρ η kp β pl) {Q : Int32 → SBT → Prop} (hQ : ∀ β', CSt kc (g_feed A p1) μ fo κ ρ η kp β' pl → Q (f_feed A p1) β') : wp_X11_feed kc p1 μ fo κ ρ η kp lu σ ε π β pl Q := by
  obtain ⟨b1, b2, b3, b4, b5⟩ := C.2.2.2.2
  obtain ⟨l1, l2⟩ := ok.2.2.2.2
  unfold wp_X11_feed
  unfold f_feed g_feed at hQ
  have bad : (∀ x, inx p1 127 = some x → ¬ 33 ≤ x) → Q (-1) β := fun h => by
    cases e : inx p1 127 with
    | none => rw [o1_n e, o1_n e] at hQ; exact hQ _ C
    | some x => rw [o1_s e, o1_s e, if_neg (h x e), if_neg (h x e)] at hQ; exact hQ _ C
  refine ⟨_, b1, l1, b3, b4, fun h => bad (fun x e => ?_), fun h => bad (fun x e => ?_), fun x hx h33 h126 => ?_⟩
  · obtain ⟨rfl, hx⟩ := inx_eq (by decide) e
    rw [show (33 : Int32) = nI 33 from rfl, nI_ltI (by omega) (by omega)] at h; omega
  · obtain ⟨rfl, hx⟩ := inx_eq (by decide) e
    rw [show (126 : Int32) = nI 126 from rfl, nI_ltI (by omega) (by omega)] at h; omega
  · have e : inx p1 127 = some x := by rw [hx]; exact inx_nI (by omega) (by decide)
    rw [o1_s e, o1_s e, if_pos h33, if_pos h33] at hQ
    refine ⟨fun h50 => ?_, fun h50 u u1 u2 u3 u4 u5 => ?_⟩
    · rw [if_neg (by omega), if_neg (by omega)] at hQ; exact hQ _ C
    · rw [if_pos h50, if_pos h50] at hQ
      refine hQ _ ⟨C.1, C.2.1, C.2.2.1, C.2.2.2.1, ?_, ?_, u2, u5, fun j hj => ?_⟩
      · show nI _ = nI (A.2.2.2.2 ++ [x]).length
        rw [List.length_append]; rfl
      · show (A.2.2.2.2 ++ [x]).length ≤ u.2.1
        rw [List.length_append]; exact u1
      · have hj : j < A.2.2.2.2.length + 1 := by
          have hj : j < (A.2.2.2.2 ++ [x]).length := hj
          rw [List.length_append] at hj; exact hj
        show u.2.2 j = nI (tL (A.2.2.2.2 ++ [x]) j)
        by_cases ej : j = A.2.2.2.2.length
        · subst ej; rw [tL_end, u4, hx]
        · rw [tL_app (by omega), u3 j (by omega) (by omega)]; exact b5 j (by omega)
theorem q11_clear (C : CSt kc A μ fo κ ρ η kp β pl) {Q : Int32 → US × (Nat → Option Nat) → Prop} (hQ : ∀ μ' fo', CSt kc (g_clear A) μ' fo' κ ρ η kp β pl → Q (f_clear A) (μ', fo')) : wp_X11_clearFormulas kc μ fo κ ρ η kp lu σ ε π β pl Q := by
  unfold wp_X11_clearFormulas
  intro x1 hx1
  rw [C.2.2.2.1.1] at hx1
  subst hx1
  refine lpW_of (fun r (t : Int32 × (Nat → Option Nat)) => ∃ k, k + r = 6 ∧ t.1 = nI k) (fun r t ht P hP => ?_) 6 _ ⟨0, rfl, rfl⟩
  obtain ⟨k, hk, ek⟩ := ht
  unfold wp_X11_clearFormulas_L7
  rw [ek]
  refine pk_le 6 k (fun h6 => fun z2 hz2 => ?_) (fun h6 => ⟨vp_in_nI (by omega) (by decide), fun z3 hz3 => ?_⟩)
  · subst hz2
    exact hQ _ _ ⟨C.1, C.2.1, ⟨by rw [iI_uIn (by decide)]; exact C.2.2.1.1, C.2.2.1.2⟩, ⟨iI_uIs, fun j F hj => absurd hj (by simp [g_clear])⟩, C.2.2.2.2⟩
  · exact hP _ (r - 1) (by omega) ⟨k + 1, by omega, nI_1 k⟩
theorem TX.ext {pl' : va_W} {sa : Nat} {t : Nat → Nat} {n : Nat} (E : Ext pl pl') (h : TX kc pl sa t n) : TX kc pl' sa t n := by
  obtain ⟨ba, x2, x3, f, h1, h2, h3⟩ := h
  exact ⟨ba, x2, x3, f, E _ h1, E _ h2, h3⟩
theorem CF.ext {pl' : va_W} {fs : List FM} (E : Ext pl pl') (h : CF kc pl fo fs) : CF kc pl' fo fs := fun j F hj => by
  obtain ⟨a, sa, o, h1, h2, h3, h4⟩ := h j F hj
  exact ⟨a, sa, o, h1, E _ h2, h3.ext E, h4.ext E⟩
theorem Ext.ap (a b : va_W) : Ext b (a ++ b) := fun _ h => List.mem_append_right _ h
theorem q11_addF (ok : okA A) (C : CSt kc A μ fo κ ρ η kp β pl) {Q : Int32 → US × (Nat → Option Nat) × SBT × va_W → Prop} (hQ : ∀ μ' fo' β' pl', CSt kc (g_addF A) μ' fo' κ ρ η kp β' pl' → Q (f_addF A) (μ', fo', β', pl')) : wp_X11_addFormula kc μ fo κ ρ η kp lu σ ε π β pl Q := by
  obtain ⟨b1, b2, b3, b4, b5⟩ := C.2.2.2.2
  obtain ⟨l1, l2⟩ := ok.2.2.2.2
  have l6 := ok.2.2.2.1.1
  obtain ⟨c1, c2⟩ := C.2.2.2.1
  unfold wp_X11_addFormula
  refine ⟨_, b1, l1, b2, b3, b4, fun sa tb g β1 g1 g2 g3 g4 g5 g6 pa => ?_⟩
  have hst : stF (tL A.2.2.2.2) A.2.2.2.2.length g := ⟨fun j hj => ⟨by have := (l2 j hj).2; omega, by rw [g1 j hj]; exact b5 j hj⟩, g2⟩
  have hT : TOK kc (fun _ => sa) (tL A.2.2.2.2) A.2.2.2.2.length ([(sa, .inr (0, [.ref tb, .int 0, .int 0, .int 0])), (tb, .inl (kc 2, A.2.2.2.2.length, .inl g))] ++ pl) := ⟨⟨tb, .int 0, .int 0, g, by simp, by simp, hst, by omega⟩, l1, l2⟩
  have hBU : BU β1 [] := ⟨g3, Nat.zero_le _, g4, g6, fun j hj => absurd hj (Nat.not_lt_zero _)⟩
  have E0 : Ext pl ([(sa, .inr (0, [.ref tb, .int 0, .int 0, .int 0])), (tb, .inl (kc 2, A.2.2.2.2.length, .inl g))] ++ pl) := Ext.ap _ _
  refine (q10_readFormula (kc := kc) (tx := fun _ => sa) (t := tL A.2.2.2.2) (len := A.2.2.2.2.length) 5 (by omega)) _ _ (false, 0) _ hT ⟨rfl, rfl, Nat.zero_le _⟩ (fun o σ' pl' E1 hP hO => ?_)
  have er : rdF (tL A.2.2.2.2) A.2.2.2.2.length (5 + 1) (false, 0) = rdA A := rfl
  rw [er] at hP hO
  have E2 : Ext pl (wPa kc (fun _ => pa) (fun _ => sa) σ' ++ pl') := (E0.tr E1).tr (Ext.ap _ _)
  have hT2 := (hT.ext E1).1
  unfold wp_X10_isDone
  refine ⟨(rdA A).1.2, A.2.2.2.2.length, (rdA A).1.1, tL A.2.2.2.2, hP.1, hP.2.1, by have := hP.2.2; omega, hT2, ?_⟩
  have hbase : ∀ fs : List FM, fs = A.2.2.2.1 → CSt kc (A.1, A.2.1, A.2.2.1, fs, []) μ fo κ ρ η kp β1 (wPa kc (fun _ => pa) (fun _ => sa) σ' ++ pl') := fun fs e => by
    subst e; exact ⟨C.1, C.2.1, C.2.2.1, ⟨c1, c2.ext E2⟩, hBU⟩
  cases hv : okR A with
  | false =>
    have hv' : (!(rdA A).1.1 && decide ((rdA A).1.2 = A.2.2.2.2.length)) = false := hv
    rw [hv']
    refine yes_ rfl ?_
    unfold wp_X10_position
    unfold f_addF g_addF at hQ
    rw [hv, if_neg (show ¬ (false = true ∧ FN A < 6) from fun h => absurd h.1 (by decide)), if_neg (show ¬ false = true by decide), ← hP.1] at hQ
    exact hQ _ _ _ _ (hbase _ rfl)
  | true =>
    have hv' : (!(rdA A).1.1 && decide ((rdA A).1.2 = A.2.2.2.2.length)) = true := hv
    rw [hv']
    refine no_ (show ¬ (1 : Int32) = 0 by decide) ⟨A.2.2.2.1.length, c1, l6, fun h6 => ?_, fun h6 fa => ?_⟩
    · unfold f_addF g_addF at hQ
      rw [hv, if_pos rfl, if_neg (show ¬ FN A < 6 by show ¬ A.2.2.2.1.length < 6; omega)] at hQ
      exact hQ _ _ _ _ (hbase _ (if_neg (fun h => by have : A.2.2.2.1.length < 6 := h.2; omega)))
    · have hF6 : FN A < 6 := h6
      have h11 : (rdA A).1.1 = false := by
        cases h4 : (rdA A).1.1 with
        | false => rfl
        | true => rw [h4] at hv'; exact absurd hv' (by simp)
      unfold f_addF at hQ
      rw [hv, if_pos rfl, if_pos hF6] at hQ
      refine hQ _ _ _ _ ?_
      have eg : g_addF A = (A.1, A.2.1, A.2.2.1, A.2.2.2.1 ++ [(A.2.2.2.2, (rdA A).2)], []) := by
        unfold g_addF; rw [if_pos ⟨hv, hF6⟩]
      rw [eg]
      have E3 : Ext (wPa kc (fun _ => pa) (fun _ => sa) σ' ++ pl') ([(fa, .inr (7, [.ref sa, va_rf o]))] ++ (wPa kc (fun _ => pa) (fun _ => sa) σ' ++ pl')) := Ext.ap _ _
      refine ⟨C.1, C.2.1, ⟨by rw [iI_uIn (by decide)]; exact C.2.2.1.1, C.2.2.1.2⟩, ⟨?_, fun j F hj => ?_⟩, hBU⟩
      · rw [iI_uIs]
        show nI _ = nI (A.2.2.2.1 ++ [(A.2.2.2.2, (rdA A).2)]).length
        rw [List.length_append]; rfl
      · have hj : (A.2.2.2.1 ++ [(A.2.2.2.2, (rdA A).2)])[j]? = some F := hj
        by_cases ej : j < A.2.2.2.1.length
        · rw [List.getElem?_append_left ej] at hj
          obtain ⟨a, sa2, o2', h1, h2, h3, h4⟩ := c2 j F hj
          exact ⟨a, sa2, o2', by rw [va_up_ne _ _ (by omega)]; exact h1, E3 _ (E2 _ h2), (h3.ext E2).ext E3, (h4.ext E2).ext E3⟩
        · have hjl := (List.getElem?_eq_some_iff.mp hj).1
          rw [List.length_append] at hjl
          have hjl : j < A.2.2.2.1.length + 1 := hjl
          have ej2 : j = A.2.2.2.1.length := by omega
          subst ej2
          rw [List.getElem?_append_right (Nat.le_refl _), Nat.sub_self] at hj
          have hj : (A.2.2.2.2, (rdA A).2) = F := Option.some.inj hj
          subst hj
          exact ⟨fa, sa, o, va_up_self _ _ _, List.mem_cons_self, ((hT2.ext (Ext.ap _ _)).ext E3), ((hO.2 h11).ext (Ext.ap _ _)).ext E3⟩
end CFO
