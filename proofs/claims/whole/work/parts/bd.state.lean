/-! ===== the whole state, as one value; what each side has of it ===== -/
abbrev FM : Type := List Nat × TR 6
abbrev AB : Type := CH × List CH × Option CH × List FM × List Nat
def inx (x : Int32) (n : Nat) : Option Nat := if x < 0 then none else if x.toNatClampNeg < n then some x.toNatClampNeg else none
theorem inx_c {n : Nat} (x : Int32) (hn : n < 2 ^ 31) : (inx x n = none ∧ (x < 0 ∨ nI n ≤ x)) ∨ ∃ j : Nat, j < n ∧ x = nI j ∧ inx x n = some j := by
  rcases pk_ix x hn with h | h | ⟨j, hj, rfl⟩
  · exact Or.inl ⟨if_pos h, Or.inl h⟩
  · refine Or.inl ⟨?_, Or.inr h⟩
    have h0 : ¬ x < 0 := by
      intro hc
      rw [Int32.lt_iff_toInt_lt] at hc
      rw [Int32.le_iff_toInt_le, nI_toInt (by omega)] at h
      have : (0 : Int32).toInt = 0 := by decide
      omega
    obtain ⟨j, hj, rfl⟩ := nI_of h0
    rw [nI_leI (by omega) hj] at h
    unfold inx
    rw [if_neg h0, nI_clamp (by omega), if_neg (by omega)]
  · refine Or.inr ⟨j, hj, rfl, ?_⟩
    unfold inx
    rw [if_neg (nn (by omega)), nI_clamp (by omega), if_pos hj]
theorem inx_nI {n j : Nat} (h : j < n) (hn : n < 2 ^ 31) : inx (nI j) n = some j := by
  unfold inx
  rw [if_neg (nn (by omega)), nI_clamp (by omega), if_pos h]
def tL (l : List Nat) (i : Nat) : Nat := l.getD i 0
def okL (l : List Nat) : Prop := l.length ≤ 50 ∧ ∀ i, i < l.length → 33 ≤ tL l i ∧ tL l i ≤ 126
def okA (A : AB) : Prop := okC A.1 ∧ (∀ d, d ∈ A.2.1 → okC d) ∧ (∀ d, A.2.2.1 = some d → okC d) ∧ (A.2.2.2.1.length ≤ 6 ∧ ∀ F, F ∈ A.2.2.2.1 → okT 6 F.2 ∧ okL F.1) ∧ okL A.2.2.2.2
def BU (β : SBT) (b : List Nat) : Prop := β.1.2 = nI b.length ∧ b.length ≤ β.2.2.1 ∧ β.2.2.1 ≤ 102 ∧ (∀ i, fits .byte (.int (β.2.2.2 i)) = true) ∧ ∀ j, j < b.length → β.2.2.2 j = nI (tL b j)
def CF (kc : Nat → ClassId) (pl : va_W) (fo : Nat → Option Nat) (fs : List FM) : Prop := ∀ (j : Nat) (F : FM), fs[j]? = some F → ∃ (a sa : Nat) (o : Option Nat), fo j = some a ∧ (a, .inr (7, [.ref sa, va_rf o])) ∈ pl ∧ TX kc pl sa (tL F.1) F.1.length ∧ CT pl 6 F.2 o
def CSt (kc : Nat → ClassId) (A : AB) (μ : US) (fo : Nat → Option Nat) (κ ρ η : US) (kp : Nat → US) (β : SBT) (pl : va_W) : Prop :=
  RC κ A.1 ∧ RH η kp A.2.1 ∧ (iI μ 1 = bI A.2.2.1.isSome ∧ ∀ d, A.2.2.1 = some d → RC ρ d) ∧ (iI μ 0 = nI A.2.2.2.1.length ∧ CF kc pl fo A.2.2.2.1) ∧ BU β A.2.2.2.2
def RF4 (σ : US) (fs : List FM) : Prop := iI σ 4 = nI fs.length ∧ ∃ m, iI σ 3 = nI m ∧ m ≤ 50 * fs.length ∧ ∀ (j : Nat) (F : FM), fs[j]? = some F → ∃ i, i < m ∧ aA σ 13 j = nI i ∧ RT σ 6 F.2 i ∧ aA σ 16 j = nI F.1.length ∧ ∀ x, x < F.1.length → aA σ 15 (50 * j + x) = nI (tL F.1 x)
def RSt (A : AB) (σ : US) : Prop :=
  RM σ A.1 ∧ RP σ A.2.1 ∧ (iI σ 0 = bI A.2.2.1.isSome ∧ ∀ d, A.2.2.1 = some d → RRow (aA σ 1) d) ∧ RF4 σ A.2.2.2.1 ∧ (iI σ 5 = nI A.2.2.2.2.length ∧ ∀ i, i < A.2.2.2.2.length → aA σ 17 i = nI (tL A.2.2.2.2 i))
theorem RF4.keep {σ σ' : US} {fs : List FM} (ha : ∀ q, 6 ≤ q → q ≤ 16 → aA σ' q = aA σ q) (hi : ∀ k, k = 3 ∨ k = 4 → iI σ' k = iI σ k) (hl : fs.length ≤ 6) (h : RF4 σ fs) : RF4 σ' fs := by
  obtain ⟨h4, m, h3, hm, hF⟩ := h
  refine ⟨by rw [hi 4 (Or.inr rfl)]; exact h4, m, by rw [hi 3 (Or.inl rfl)]; exact h3, hm, fun j F hj => ?_⟩
  obtain ⟨i, a1, a2, a3, a4, a5⟩ := hF j F hj
  refine ⟨i, a1, by rw [ha 13 (by omega) (by omega)]; exact a2, ?_, by rw [ha 16 (by omega) (by omega)]; exact a4, fun x hx => by rw [ha 15 (by omega) (by omega)]; exact a5 x hx⟩
  have hk : ∀ (n : Nat) (U : TR n) (j : Nat), RT σ n U j → RT σ' n U j := by
    intro n
    induction n with
    | zero => intro _ _ g; exact g
    | succ n ih =>
      intro U j g
      unfold RT at g ⊢
      rw [ha 6 (by omega) (by omega), ha 7 (by omega) (by omega), ha 8 (by omega) (by omega), ha 9 (by omega) (by omega), ha 10 (by omega) (by omega), ha 11 (by omega) (by omega), ha 12 (by omega) (by omega)]
      obtain ⟨g1, g2, g3, g4, g5⟩ := g
      refine ⟨g1, g2, g3, fun z => ?_, fun z => ?_⟩
      · obtain ⟨x, x1, x2, x3⟩ := g4 z
        exact ⟨x, x1, x2, ih _ _ x3⟩
      · obtain ⟨x, x1, x2, x3⟩ := g5 z
        exact ⟨x, x1, x2, ih _ _ x3⟩
  exact hk 6 F.2 i a3
theorem RRow.eq {f g : Nat → Int32} {c : CH} (h : RRow f c) (e : g = f) : RRow g c := e ▸ h
theorem KeepM.rs {A : AB} {σ σ' : US} (ok : okA A) (K : KeepM σ σ') (h : RSt A σ) : RSt A σ' := by
  obtain ⟨h1, h2, ⟨h3, h3b⟩, h4, h5, h5b⟩ := h
  have ea : ∀ q, q ≠ 3 → q ≠ 4 → q ≠ 5 → q ≠ 18 → aA σ' q = aA σ q := K.1
  refine ⟨K.rm h1, ⟨by rw [K.2 1 (by omega) (by omega)]; exact h2.1, h2.2.1, fun j c hj => ?_⟩, ⟨by rw [K.2 0 (by omega) (by omega)]; exact h3, fun d hd => ?_⟩, RF4.keep (fun q a b => ea q (by omega) (by omega) (by omega) (by omega)) (fun k hk => K.2 k (by omega) (by omega)) ok.2.2.2.1.1 h4, by rw [K.2 5 (by omega) (by omega)]; exact h5, fun i hi => ?_⟩
  · rw [ea 2 (by omega) (by omega) (by omega) (by omega)]; exact h2.2.2 j c hj
  · rw [ea 1 (by omega) (by omega) (by omega) (by omega)]; exact h3b d hd
  · rw [ea 17 (by omega) (by omega) (by omega) (by omega)]; exact h5b i hi
section CAS
variable {κ σ : US} {c : CH}
theorem q2_hasC (h : RC κ c) (hn : cn c ≤ 8) (x : Int32) {Q : Int32 → Prop} (h0 : inx x (cn c) = none → Q 0) (h1 : ∀ i, i < cn c → x = nI i → inx x (cn c) = some i → Q 1) : wp_X2_has x κ Q := by
  rcases inx_c x (show cn c < 2 ^ 31 by omega) with ⟨e, hx⟩ | ⟨i, hi, rfl, e⟩
  · exact q2_hasN hn hx h (h0 e)
  · refine q2_has h hn (by omega) ?_
    rw [decide_eq_true hi]; exact h1 i hi rfl e
theorem q12_isStateC (h : RM σ c) (hn : cn c ≤ 8) (x : Int32) {Q : Int32 → Prop} (h0 : inx x (cn c) = none → Q 0) (h1 : ∀ i, i < cn c → x = nI i → inx x (cn c) = some i → Q 1) : wp_X12_isState x σ Q := by
  rcases inx_c x (show cn c < 2 ^ 31 by omega) with ⟨e, hx⟩ | ⟨i, hi, rfl, e⟩
  · exact q12_isStateN h hn hx (h0 e)
  · refine q12_isState h hn (by omega) ?_
    rw [decide_eq_true hi]; exact h1 i hi rfl e
/-- in(x, 0, n - 1) -/
theorem q12_in1 {n : Nat} (hn : n < 2 ^ 31) (x : Int32) {Q : Int32 → Prop} (h0 : inx x n = none → Q 0) (h1 : ∀ i, i < n → x = nI i → inx x n = some i → Q 1) : wp_X12_in x 0 (nI n - 1) Q := by
  have e1 : n = 0 → nI n - 1 = -1 := fun h => by rw [h]; rfl
  rcases inx_c x hn with ⟨e, hx | hx⟩ | ⟨i, hi, rfl, e⟩
  · unfold wp_X12_in
    exact ⟨fun _ => h0 e, fun hc => absurd hx hc⟩
  · have hx0 : ¬ x < 0 := by
      intro hc
      rw [Int32.lt_iff_toInt_lt] at hc
      rw [Int32.le_iff_toInt_le, nI_toInt (by omega)] at hx
      have : (0 : Int32).toInt = 0 := by decide
      omega
    obtain ⟨j, hj, rfl⟩ := nI_of hx0
    rw [nI_leI (by omega) hj] at hx
    unfold wp_X12_in
    refine ⟨fun hc => absurd hc hx0, fun _ => ⟨fun _ => h0 e, fun hc => ?_⟩⟩
    exfalso
    apply hc
    by_cases hz : n = 0
    · rw [e1 hz, Int32.lt_iff_toInt_lt, nI_toInt hj]
      have : (-1 : Int32).toInt = -1 := by decide
      rw [this]; omega
    · rw [nI_pred1 (by omega), nI_ltI (by omega) hj]; omega
  · rw [nI_pred1 (by omega)]
    refine q12_in (b := 0) (by omega) (by decide) (by omega) ?_
    rw [decide_eq_true (by omega)]; exact h1 i hi rfl e
/-- in(x, 0, n) of an argument -/
theorem q12_in0 {n : Nat} (hn : n + 1 < 2 ^ 31) (x : Int32) {Q : Int32 → Prop} (h0 : inx x (n + 1) = none → Q 0) (h1 : ∀ i, i < n + 1 → x = nI i → inx x (n + 1) = some i → Q 1) : wp_X12_in x 0 (nI n) Q := by
  have := q12_in1 (n := n + 1) hn x h0 h1
  rw [nI_pred1 (by omega)] at this
  exact this
/-- a part, 0 or 1 -/
theorem q11_part {x : Int32} {A B : Prop} (h0 : inx x 2 = none → A) (h1 : ∀ p, p < 2 → x = nI p → inx x 2 = some p → B) : (x = 0 → B) ∧ (¬ x = 0 → (¬ x = 1 → A) ∧ (x = 1 → B)) := by
  refine ⟨fun hx => ?_, fun hx => ⟨fun hx1 => ?_, fun hx1 => ?_⟩⟩
  · subst hx; exact h1 0 (by omega) rfl rfl
  · rcases inx_c x (show 2 < 2 ^ 31 by decide) with ⟨e, -⟩ | ⟨i, hi, rfl, e⟩
    · exact h0 e
    · rcases (show i = 0 ∨ i = 1 by omega) with rfl | rfl
      · exact absurd rfl hx
      · exact absurd rfl hx1
  · subst hx1; exact h1 1 (by omega) rfl rfl
/-- a range from 0 to n by two comparisons -/
theorem rg_c {x : Int32} {n : Nat} (hn : n + 1 < 2 ^ 31) {A B C : Prop} (h0 : inx x (n + 1) = none → A ∧ C) (h1 : ∀ i, i < n + 1 → x = nI i → inx x (n + 1) = some i → B) : (x < 0 → A) ∧ (¬ x < 0 → (x ≤ nI n → B) ∧ (¬ x ≤ nI n → C)) := by
  rcases inx_c x hn with ⟨e, hx⟩ | ⟨i, hi, rfl, e⟩
  · refine ⟨fun _ => (h0 e).1, fun hc => ⟨fun hle => ?_, fun _ => (h0 e).2⟩⟩
    rcases hx with hx | hx
    · exact absurd hx hc
    · exfalso
      obtain ⟨j, hj, rfl⟩ := nI_of hc
      rw [nI_leI (by omega) hj] at hx
      rw [nI_leI hj (by omega)] at hle
      omega
  · refine ⟨fun hc => absurd hc (nn (by omega)), fun _ => ⟨fun _ => h1 i hi rfl e, fun hc => ?_⟩⟩
    exact absurd ((nI_leI (by omega) (by omega)).mpr (by omega)) hc
end CAS
