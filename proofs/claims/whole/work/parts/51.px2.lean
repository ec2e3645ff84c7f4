/-! ===== Chain's methods in numbers ===== -/
def RC (κ : US) (c : CH) : Prop := iI κ 0 = nI (cn c) ∧ (∀ i j, i < 8 → j < 8 → aA κ 0 (8 * i + j) = nI (cw c i j)) ∧ (∀ i, i < 8 → aA κ 1 i = nI (cl c i)) ∧ (∀ i, i < 8 → aA κ 2 i = nI (cr c i))
theorem bI_0 {P : Int32 → Prop} {b : Bool} (h : P (bI b)) (hb : b = false) : P 0 := by subst hb; exact h
theorem bI_1 {P : Int32 → Prop} {b : Bool} (h : P (bI b)) (hb : b = true) : P 1 := by subst hb; exact h
/-- a branch on a boolean answer -/
theorem br_b {b : Bool} {A B : Prop} (f : b = false → A) (g : b = true → B) : (bI b = 0 → A) ∧ (¬ bI b = 0 → B) := by
  cases b
  · exact ⟨fun _ => f rfl, fun h => absurd rfl h⟩
  · exact ⟨fun h => absurd h (by decide), fun _ => g rfl⟩
theorem br_n {b : Bool} {A B : Prop} (f : b = false → A) (g : b = true → B) : (¬ bI b = 0 → B) ∧ (bI b = 0 → A) := ⟨(br_b f g).2, (br_b f g).1⟩
theorem q_contains {S : Nat → Bool} {i : Nat} (hi : i < 8) {Q : Int32 → Prop} (h : Q (bI (S i))) : wp_X11_contains (nI (mk S)) (nI i) Q := by
  unfold wp_X11_contains
  refine pk_lt i 0 (fun h => by omega) (fun _ => ?_)
  refine pk_le 8 i (fun h => by omega) (fun _ => ?_)
  rw [sI_has S hi]
  cases hS : S i <;> rw [hS] at h
  · exact ⟨fun _ => h, fun hc => absurd hc (by decide)⟩
  · exact ⟨fun hc => absurd rfl hc, fun _ => h⟩
theorem q_isIndex {i : Nat} (hi : i < 8) {Q : Int32 → Prop} (h : Q 1) : wp_X11_isIndex (nI i) Q := by
  unfold wp_X11_isIndex
  refine pk_lt i 0 (fun h => by omega) (fun _ => ?_)
  exact pk_le 8 i (fun h => by omega) (fun _ => h)
theorem li64_0 : (0 : Int64) = lN 0 := rfl
theorem li64_1 : (1 : Int64) = lN 1 := rfl
theorem gcd_halves {g s : Nat} (h : s < g) : 2 * (s * (g % s)) ≤ g * s := by
  rcases Nat.eq_zero_or_pos s with rfl | hs
  · simp
  · have h1 : s * (g / s) + g % s = g := Nat.div_add_mod g s
    have h2 : 1 ≤ g / s := (Nat.one_le_div_iff hs).mpr (by omega)
    have h3 : g % s < s := Nat.mod_lt g hs
    have h4 : s ≤ s * (g / s) := Nat.le_mul_of_pos_right s h2
    have h5 : 2 * (g % s) ≤ g := by omega
    calc 2 * (s * (g % s)) = s * (2 * (g % s)) := by rw [Nat.mul_left_comm]
      _ ≤ s * g := Nat.mul_le_mul_left s h5
      _ = g * s := Nat.mul_comm _ _
def gcd1 (a b : Nat) : Nat := if Nat.gcd a b = 0 then 1 else Nat.gcd a b
theorem q_commonDivisor {a b : Nat} (ha : a < 2 ^ 63) (hb : b < 2 ^ 63) {Q : Int64 → Prop} (h : Q (lN (gcd1 a b))) : wp_X11_commonDivisor (lN a) (lN b) Q := by
  unfold wp_X11_commonDivisor
  have fin : ∀ g : Nat, g < 2 ^ 63 → g = Nat.gcd a b → wp_X11_commonDivisor_J45 (lN g) Q := by
    intro g hg hgc
    unfold wp_X11_commonDivisor_J45
    unfold gcd1 at h
    rw [← hgc] at h
    rw [lg_cmp_le, li64_0, pk_lLE hg (by decide)]
    refine ⟨fun hz => ?_, fun hz => ?_⟩
    · rw [if_pos (by omega)] at h; exact h
    · rw [if_neg (by omega)] at h; exact h
  refine lp_inv 128 (fun j t => ∃ g s : Nat, t = (lN g, lN s, nI j) ∧ g < 2 ^ 63 ∧ s < 2 ^ 63 ∧ Nat.gcd g s = Nat.gcd a b ∧ (1 ≤ j → s < g ∧ g * s * 2 ^ (j - 1) < 2 ^ 126)) ?_ _ ⟨a, b, rfl, ha, hb, rfl, fun h => by omega⟩
  rintro j t hj ⟨g, s, rfl, hg, hs, hgc, hm⟩ P hP
  unfold wp_X11_commonDivisor_L9
  refine pk_le 128 j (fun hj2 => ?_) (fun hj2 => ?_)
  · have : j = 128 := by omega
    subst this
    obtain ⟨h1, h2⟩ := hm (by omega)
    have hs0 : s = 0 := by
      rcases Nat.eq_zero_or_pos s with h3 | h3
      · exact h3
      · exfalso
        have h4 : 1 ≤ g * s := Nat.mul_pos (by omega) h3
        have h5 : 1 * 2 ^ 127 ≤ g * s * 2 ^ (128 - 1) := Nat.mul_le_mul h4 (Nat.le_refl _)
        omega
    subst hs0
    exact fin g hg (by rw [← hgc, Nat.gcd_zero_right])
  · dsimp only
    rw [lg_cmp_eq, li64_0, pk_lEQ hs (by decide)]
    refine ⟨fun hz => ?_, fun hz => ⟨?_, fun x hx => ?_⟩⟩
    · subst hz
      exact fin g hg (by rw [← hgc, Nat.gcd_zero_right])
    · exact hz
    · subst hx
      rw [pk_lRem hg (by omega) hs, nI_1]
      have hlt : g % s < s := Nat.mod_lt g (by omega)
      refine hP hj2 _ ⟨s, g % s, rfl, hs, by omega, ?_, fun _ => ⟨hlt, ?_⟩⟩
      · rw [← hgc, Nat.gcd_comm g s, Nat.gcd_rec s g, Nat.gcd_comm]
      · rcases Nat.eq_zero_or_pos j with h0 | h0
        · subst h0
          have h1 : s * (g % s) ≤ s * s := Nat.mul_le_mul_left s (by omega)
          have h2 : s * s < 2 ^ 63 * 2 ^ 63 := Nat.mul_lt_mul'' hs hs
          show s * (g % s) * 2 ^ 0 < 2 ^ 126
          omega
        · obtain ⟨h1, h2⟩ := hm h0
          have h3 := gcd_halves h1
          have h4 : 2 ^ (j + 1 - 1) = 2 * 2 ^ (j - 1) := by
            rw [show j + 1 - 1 = (j - 1) + 1 by omega, Nat.pow_succ, Nat.mul_comm]
          rw [h4]
          calc s * (g % s) * (2 * 2 ^ (j - 1)) = 2 * (s * (g % s)) * 2 ^ (j - 1) := by
                rw [← Nat.mul_assoc, Nat.mul_comm (s * (g % s)) 2]
            _ ≤ g * s * 2 ^ (j - 1) := Nat.mul_le_mul_right _ h3
            _ < 2 ^ 126 := h2
theorem gcd1_pos (a b : Nat) : 0 < gcd1 a b := by unfold gcd1; split <;> omega
theorem gcd1_le {a b : Nat} (hb : 0 < b) : gcd1 a b = Nat.gcd a b ∧ gcd1 a b ≤ b := by
  have h : 0 < Nat.gcd a b := Nat.gcd_pos_of_pos_right a hb
  have h2 : Nat.gcd a b ≤ b := Nat.gcd_le_right a hb
  unfold gcd1; rw [if_neg (by omega)]; exact ⟨rfl, h2⟩
theorem q_commonMultiple {a b : Nat} (ha : a < 2 ^ 63) (hb : b < 2 ^ 63) (hp : 0 < b) (hm : Nat.lcm a b < 2 ^ 63) {Q : Int64 → Prop} (h : Q (lN (Nat.lcm a b))) : wp_X11_commonMultiple (lN a) (lN b) Q := by
  unfold wp_X11_commonMultiple
  refine q_commonDivisor ha hb ?_
  obtain ⟨h1, h2⟩ := gcd1_le (a := a) hp
  have h3 := gcd1_pos a b
  rw [lg_cmp_eq, li64_0, pk_lEQ (by omega) (by decide), pk_lDiv ha h3 (by omega), lN_mul]
  refine ⟨fun _ => ⟨by omega, ?_⟩, fun h4 => by omega⟩
  have h5 : a / gcd1 a b * b = Nat.lcm a b := by
    rw [h1, Nat.lcm, Nat.div_mul_right_comm (Nat.gcd_dvd_left a b)]
  rw [h5]; exact h
section PX2
variable {κ : US} {c : CH}
theorem q2_has (h : RC κ c) (hn : cn c ≤ 8) {i : Nat} (hi : i < 2 ^ 31) {Q : Int32 → Prop} (hQ : Q (bI (decide (i < cn c)))) : wp_X2_has (nI i) κ Q := by
  unfold wp_X2_has
  refine pk_lt i 0 (fun h => by omega) (fun _ => ?_)
  refine pk_le (cn c) i (fun h1 => bI_0 hQ (by simp; omega)) (fun h1 => ?_) h.1
  refine pk_le 8 i (fun h2 => by omega) (fun _ => bI_1 hQ (by simp; omega))
theorem q2_hasN (hn : cn c ≤ 8) {x : Int32} (hx : x < 0 ∨ nI (cn c) ≤ x) (h : RC κ c) {Q : Int32 → Prop} (hQ : Q 0) : wp_X2_has x κ Q := by
  unfold wp_X2_has
  refine ⟨fun _ => hQ, fun h0 => ⟨fun _ => hQ, fun h1 => ?_⟩⟩
  rcases hx with hx | hx
  · exact absurd hx h0
  · rw [h.1] at h1; exact absurd hx h1
theorem q2_weightOf (h : RC κ c) {i j : Nat} (hi : i < 8) (hj : j < 8) {Q : Int32 → Prop} (hQ : Q (nI (cw c i j))) : wp_X2_weightOf (nI i) (nI j) κ Q := by
  unfold wp_X2_weightOf
  intro x hx
  rw [li8, pk_mul, nI_add, Nat.mul_comm i 8] at hx
  subst hx
  refine pk_lt j 0 (fun h => by omega) (fun _ => ?_)
  refine pk_le 8 j (fun h => by omega) (fun _ => ?_)
  refine pk_lt (8 * i + j) 0 (fun h => by omega) (fun _ => ?_)
  refine pk_le 64 (8 * i + j) (fun h => by omega) (fun _ => ⟨pk_in (8 * i + j) 64 (by omega), ?_⟩)
  rw [nI_clamp (by omega), h.2.1 i j hi hj]; exact hQ
theorem q2_sumOf (h : RC κ c) (ok : okC c) {i : Nat} (hi : i < 8) {Q : Int32 → Prop} (hQ : Q (nI (csum c i))) : wp_X2_sumOf (nI i) κ Q := by
  unfold wp_X2_sumOf
  have hn := ok.1
  refine lp_for (cn c) (fun j => (nI (sumN (cw c i) j), nI j)) (fun j hj P hP => ?_) (fun P => ?_)
  · unfold wp_X2_sumOf_L4
    refine pk_le (cn c) j (fun h => by omega) (fun _ => ?_) h.1
    refine q2_weightOf h hi (by omega) ?_
    intro x hx
    dsimp only at hx ⊢
    rw [nI_add] at hx; subst hx
    rw [nI_1]; exact hP
  · unfold wp_X2_sumOf_L4
    refine pk_le (cn c) (cn c) (fun _ => ?_) (fun h => by omega) h.1
    dsimp only; rw [csum_n ok]; exact hQ
theorem q2_divisorOf (h : RC κ c) (ok : okC c) {i : Nat} (hi : i < 8) {Q : Int32 → Prop} (hQ : Q (nI (cdiv c i))) : wp_X2_divisorOf (nI i) κ Q := by
  unfold wp_X2_divisorOf
  refine q2_sumOf h ok hi ?_
  have h1 := ok.2.2.1 i
  unfold cdiv at hQ
  refine pk_le (csum c i) 0 (fun h2 => ?_) (fun h2 => ?_)
  · rw [if_pos (by omega)] at hQ; exact hQ
  · rw [if_neg (by omega)] at hQ; exact hQ
theorem q2_stepWeight (h : RC κ c) (ok : okC c) {i j : Nat} (hi : i < 8) (hj : j < 8) {Q : Int32 → Prop} (hQ : Q (nI (cst c i j))) : wp_X2_stepWeight (nI i) (nI j) κ Q := by
  unfold wp_X2_stepWeight
  have h1 := ok.2.2.1 i
  unfold cst at hQ
  have e : (nI i = nI j) ↔ i = j := nI_eq (by omega) (by omega)
  refine ⟨fun hne => q2_weightOf h hi hj ?_, fun heq => q2_sumOf h ok hi ?_⟩
  · rw [if_neg (fun z => hne (e.mpr z.1))] at hQ; exact hQ
  · have e2 : (nI (csum c i) = 0) ↔ csum c i = 0 := nI_eq (by omega) (by decide)
    refine ⟨fun hz => q2_weightOf h hi hj ?_, fun hz => ?_⟩
    · rw [if_neg (fun z => hz (e2.mpr z.2))] at hQ; exact hQ
    · rw [if_pos ⟨e.mp heq, e2.mp hz⟩] at hQ; exact hQ
theorem q2_labelsOf (h : RC κ c) (hn : cn c ≤ 8) {i : Nat} (hi : i < cn c) {Q : Int32 → Prop} (hQ : Q (nI (cl c i))) : wp_X2_labelsOf (nI i) κ Q := by
  unfold wp_X2_labelsOf
  refine q2_has h hn (by omega) ?_
  refine br_b (fun hb => by simp at hb; omega) (fun _ => ⟨pk_in i 8 (by omega), ?_⟩)
  rw [nI_clamp (by omega), h.2.2.1 i (by omega)]; exact hQ
theorem q2_rewardOf (h : RC κ c) (hn : cn c ≤ 8) {i : Nat} (hi : i < cn c) {Q : Int32 → Prop} (hQ : Q (nI (cr c i))) : wp_X2_rewardOf (nI i) κ Q := by
  unfold wp_X2_rewardOf
  refine q2_has h hn (by omega) ?_
  refine br_b (fun hb => by simp at hb; omega) (fun _ => ⟨pk_in i 8 (by omega), ?_⟩)
  rw [nI_clamp (by omega), h.2.2.2 i (by omega)]; exact hQ
theorem q2_all (h : RC κ c) (hn : cn c ≤ 8) {Q : Int32 → Prop} (hQ : Q (nI (mk (fun j => decide (j < cn c))))) : wp_X2_all κ Q := by
  unfold wp_X2_all
  rw [h.1, sI_all0 _ hn]; exact hQ
end PX2
