/-! ===== the class's model: fractions of all states ===== -/
def FR (σ : US) (k : Nat) (T B : Nat → Nat) : Prop := ∀ i, i < k → aB σ 0 i = lN (T i / gcd1 (T i) (B i)) ∧ aB σ 1 i = lN (B i / gcd1 (T i) (B i))
theorem q8_putz {σ ε κ : US} {k a b : Nat} (hk : k < 8) (ha : a < 2 ^ 63) (hb : b < 2 ^ 63) (hab : 0 < a ∨ 0 < b) {Q : US → Prop} (hQ : Q (uB (uB σ 0 k (lN (a / gcd1 a b))) 1 k (lN (b / gcd1 a b)))) : wp_X8_put (nI k) (lN a) (lN b) σ ε κ Q := by
  unfold wp_X8_put
  refine q_commonDivisor ha hb (q_isIndex hk ⟨fun z => absurd z (by decide), fun _ => ?_⟩)
  have g0 := gcd1_pos a b
  have g1 : gcd1 a b < 2 ^ 63 := by
    have hp : 0 < Nat.gcd a b := by
      rcases hab with h | h
      · exact Nat.gcd_pos_of_pos_left _ h
      · exact Nat.gcd_pos_of_pos_right _ h
    unfold gcd1
    rw [if_neg (by omega)]
    rcases hab with h | h
    · exact Nat.lt_of_le_of_lt (Nat.gcd_le_left _ h) ha
    · exact Nat.lt_of_le_of_lt (Nat.gcd_le_right _ h) hb
  have hne := lN_ne g0 g1
  refine ⟨fun z => absurd ((lg_cmp_eq _ _).mp z) hne, fun _ => ⟨hne, pk_in k 8 hk, fun z3 hz3 => ⟨hne, pk_in k 8 hk, fun z4 hz4 => ?_⟩⟩⟩
  rw [nI_clamp (by omega), pk_lDiv ha g0 g1] at hz3
  rw [nI_clamp (by omega), pk_lDiv hb g0 g1] at hz4
  subst hz3; subst hz4
  exact hQ
theorem FR.put {σ : US} {k : Nat} {T B : Nat → Nat} (h : FR σ k T B) : FR (uB (uB σ 0 k (lN (T k / gcd1 (T k) (B k)))) 1 k (lN (B k / gcd1 (T k) (B k)))) (k + 1) T B := by
  intro i hi
  have e0 : ∀ x y, aB (uB (uB σ 0 k x) 1 k y) 0 = vp_updL (aB σ 0) k x := fun x y => (aB_sB_n _ _ (by decide)).trans (aB_sB σ 0 _)
  have e1 : ∀ x y, aB (uB (uB σ 0 k x) 1 k y) 1 = vp_updL (aB σ 1) k y := fun x y => (aB_sB _ 1 _).trans (by rw [aB_sB_n σ _ (by decide)])
  rw [e0, e1]
  by_cases hik : i = k
  · subst hik; exact ⟨if_pos rfl, if_pos rfl⟩
  · obtain ⟨h1, h2⟩ := h i (by omega)
    exact ⟨(if_neg hik).trans h1, (if_neg hik).trans h2⟩
theorem q8_put {σ ε κ : US} {k : Nat} {T B : Nat → Nat} (hk : k < 8) (h : FR σ k T B) {x y : Int64} (hx : x = lN (T k)) (hy : y = lN (B k)) (ha : T k < 2 ^ 63) (hb : B k < 2 ^ 63) (hab : 0 < T k ∨ 0 < B k) {Q : US → Prop} (hQ : ∀ σ', FR σ' (k + 1) T B → Q σ') : wp_X8_put (nI k) x y σ ε κ Q := by
  rw [hx, hy]
  exact q8_putz hk ha hb hab (hQ _ h.put)
section P8
variable {σ ε κ : US} {c : CH}
theorem q8_part {T B : Nat → Nat} (h : FR σ 8 T B) {i : Nat} (hi : i < 8) {p : Nat} (hp : p < 2) {Q : Int64 → Prop} (hQ : Q (if p = 0 then lN (T i / gcd1 (T i) (B i)) else lN (B i / gcd1 (T i) (B i)))) : wp_X8_part (nI i) (nI p) σ ε κ Q := by
  unfold wp_X8_part
  obtain ⟨h1, h2⟩ := h i hi
  refine q_isIndex hi ⟨fun _ => ⟨fun z => ⟨pk_in i 8 hi, ?_⟩, fun z => ⟨pk_in i 8 hi, ?_⟩⟩, fun z => absurd z (by decide)⟩
  · rw [nI_clamp (by omega), h2]
    rw [li0, nI_eq (by omega) (by decide)] at z
    rw [if_neg z] at hQ; exact hQ
  · rw [nI_clamp (by omega), h1]
    rw [li0, nI_eq (by omega) (by decide)] at z
    rw [if_pos z] at hQ; exact hQ
theorem q8_solveStep (h : RC κ c) (ok : okC c) {G : Nat → Bool} {Q : US → Prop} (hQ : ∀ σ', FR σ' 8 (fun i => stw c i G) (cdiv c) → Q σ') : wp_X8_solveStep (nI (mk G)) σ ε κ Q := by
  unfold wp_X8_solveStep
  refine lp_inv 8 (fun k t => ∃ z, t = (nI k, z) ∧ FR z k (fun i => stw c i G) (cdiv c)) ?_ _ ⟨σ, rfl, fun i hi => absurd hi (Nat.not_lt_zero _)⟩
  rintro k t hk ⟨z, rfl, hz⟩ P hP
  unfold wp_X8_solveStep_L2
  refine pk_le 8 k (fun hk2 => ?_) (fun hk2 => ?_)
  · have : k = 8 := by omega
    subst this; exact hQ z hz
  · refine q2_stepWeightInto h ok hk2 (q2_divisorOf h ok hk2 ?_)
    have h1 := stw_le ok hk2 G
    have h2 := cdiv_le ok k
    have h3 := cdiv_pos c k
    refine q8_put hk2 hz (nI_t64 (by omega)) (nI_t64 (by omega)) (by omega) (by omega) (Or.inr h3) (fun σ' hσ' => ?_)
    rw [li1, nI_add]
    exact hP hk2 _ ⟨σ', rfl, hσ'⟩
theorem neg_t64 {n : Nat} (h : n < 2 ^ 31) : (-(nI n)).toInt64 = lI (-(n : Int)) := by
  have h1 : nI n = Int32.ofInt (n : Int) := rfl
  have h2 : (-(nI n)) = Int32.ofInt (-(n : Int)) := by rw [h1, Int32.ofInt_neg]
  have h3 : (Int32.ofInt (-(n : Int))).toInt = -(n : Int) := Int32.toInt_ofInt_of_le (by omega) (by omega)
  have h4 : (-(nI n)).toInt64.toInt = -(n : Int) := by rw [Int32.toInt_toInt64, h2, h3]
  have h5 : (-(nI n)).toInt64 = Int64.ofInt ((-(nI n)).toInt64.toInt) := (Int64.ofInt_toInt _).symm
  rw [h5, h4]; rfl
/-- the balance of a state -/
theorem q8_balance (h : RC κ c) (ok : okC c) {M : Nat → Nat → Int} (hε : EQ ε M) {i : Nat} (hi : i < 8) (hin : i < cn c) {Q : US → Prop} (hQ : ∀ ε', EQ ε' (fun r j => if r = i then (if j = 8 then 0 else (if i = j then (cdiv c i : Int) else 0) - cst c i j) else M r j) → Q ε') : wp_X8_balance (nI i) σ ε κ Q := by
  unfold wp_X8_balance
  refine q2_has h ok.1 (by omega) (br_n (fun hb => absurd hb (by simp [hin])) (fun _ => ?_))
  refine q3_clearRow hε hi (fun ε1 h1 => q2_divisorOf h ok hi ?_)
  have hc := cdiv_le ok i
  refine q3_put h1 hi (by omega) (x := (cdiv c i : Int)) (by rw [nI_t64 (by omega)]; rfl) (fun ε2 h2 => ?_)
  refine lp_inv 8 (fun k t => ∃ z N, t = (nI k, z) ∧ EQ z N ∧ (∀ r j, r ≠ i → N r j = M r j) ∧ N i 8 = 0 ∧ ∀ j, j < 8 → N i j = (if i = j then (cdiv c i : Int) else 0) - (if j < k then (cst c i j : Int) else 0)) ?_ _ ⟨ε2, _, rfl, h2, fun r j hr => ?_, ?_, fun j hj => ?_⟩
  · rintro k t hk ⟨z, N, rfl, hz, n1, n2, n3⟩ P hP
    unfold wp_X8_balance_L40
    refine pk_le 8 k (fun hk2 => ?_) (fun hk2 => ?_)
    · refine hQ z (hz.of (fun r j hr hj => ?_))
      by_cases hri : r = i
      · subst hri
        rw [if_pos rfl]
        by_cases h8 : j = 8
        · rw [if_pos h8, h8, n2]
        · rw [if_neg h8, n3 j (by omega), if_pos (show j < k by omega)]
      · rw [if_neg hri, n1 r j hri]
    · refine q2_stepWeight h ok hi hk2 ?_
      have hcs : cst c i k < 2 ^ 31 := by
        have h1 := ok.2.1 i k
        unfold cst; split <;> omega
      refine q3_add hz hi (by omega) (x := -(cst c i k : Int)) (neg_t64 hcs) (fun z' hz' => ?_)
      rw [li1, nI_add]
      refine hP hk2 _ ⟨z', _, rfl, hz', fun r j hr => ?_, ?_, fun j hj => ?_⟩
      · rw [upm_n _ _ (by omega), n1 r j hr]
      · rw [upm_n _ _ (by omega), n2]
      · by_cases hjk : j = k
        · subst hjk
          rw [upm_s, n3 j hj, if_neg (Nat.lt_irrefl j), if_pos (Nat.lt_succ_self j)]; omega
        · rw [upm_n _ _ (by omega), n3 j hj]
          by_cases hlt : j < k
          · rw [if_pos hlt, if_pos (show j < k + 1 by omega)]
          · rw [if_neg hlt, if_neg (show ¬ j < k + 1 by omega)]
  · rw [upm_n _ _ (by omega)]; exact if_neg hr
  · rw [upm_n _ _ (by omega)]; exact if_pos rfl
  · by_cases hij : j = i
    · subst hij
      rw [upm_s, if_pos rfl, if_neg (Nat.not_lt_zero j)]; omega
    · rw [upm_n _ _ (by omega)]
      rw [if_pos rfl, if_neg (Ne.symm hij), if_neg (Nat.not_lt_zero j)]; omega
end P8
