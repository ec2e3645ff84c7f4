/-! ===== Chain: steps, reaching ===== -/
/-- the states to which a step leads -/
def suc (c : CH) (a b : Nat) : Bool := decide (0 < cst c a b)
def Closed (c : CH) (S : Nat → Bool) : Prop := ∀ a b, a < cn c → b < cn c → S a = true → suc c a b = true → S b = true
def Reach (c : CH) (i j : Nat) : Prop := ∀ S : Nat → Bool, S i = true → Closed c S → S j = true
noncomputable def rch (c : CH) (i j : Nat) : Bool := @decide (Reach c i j ∧ j < cn c) (Classical.propDecidable _)
theorem rch_iff {c : CH} {i j : Nat} : rch c i j = true ↔ Reach c i j ∧ j < cn c := by unfold rch; exact @decide_eq_true_iff _ (Classical.propDecidable _)
theorem suc_lt {c : CH} (ok : okC c) {a b : Nat} (ha : a < cn c) (h : suc c a b = true) : b < cn c := by
  unfold suc cst at h
  by_cases hc : a = b ∧ csum c a = 0
  · omega
  · rw [if_neg hc] at h
    rcases Nat.lt_or_ge b (cn c) with h1 | h1
    · exact h1
    · rw [ok.2.2.2.2.2.1 a b (Or.inr h1)] at h; simp at h
def card (S : Nat → Bool) : Nat := sumN (fun i => if S i then 1 else 0) 8
theorem card_le {S : Nat → Bool} {n : Nat} (hn : n ≤ 8) (h : ∀ b, S b = true → b < n) : card S ≤ n := by
  unfold card
  rw [sumN_tail (n := n) hn (fun i h1 _ => by
    cases hS : S i with
    | false => rfl
    | true => have := h i hS; omega)]
  have := sumN_le (f := fun i => if S i then 1 else 0) (b := 1) (n := n) (fun i _ => by split <;> omega)
  omega
theorem card_mono {S T : Nat → Bool} (h : ∀ b, S b = true → T b = true) : card S ≤ card T := sumN_le2 (fun i _ => by
  cases hS : S i with
  | false => simp
  | true => rw [h i hS]; simp)
theorem sumN_lt {f g : Nat → Nat} {n k : Nat} (h : ∀ i, i < n → f i ≤ g i) (hk : k < n) (hl : f k < g k) : sumN f n < sumN g n := by
  induction n with
  | zero => omega
  | succ n ih =>
    rw [sumN, sumN]
    have h2 := h n (by omega)
    rcases Nat.lt_or_ge k n with h1 | h1
    · have := ih (fun i hi => h i (by omega)) h1; omega
    · have : k = n := by omega
      subst this
      have := sumN_le2 (n := k) (fun i hi => h i (by omega)); omega
theorem card_lt {S T : Nat → Bool} (h : ∀ b, S b = true → T b = true) {k : Nat} (hk : k < 8) (h1 : S k = false) (h2 : T k = true) : card S + 1 ≤ card T :=
  sumN_lt (fun i _ => by
    cases hS : S i with
    | false => simp
    | true => rw [h i hS]; simp) hk (by simp [h1, h2])
theorem card_pos {S : Nat → Bool} {k : Nat} (hk : k < 8) (h : S k = true) : 1 ≤ card S := by
  have := sumN_get (f := fun i => if S i then 1 else 0) hk
  simp [h] at this
  exact this
theorem ne_wit {S T : Nat → Bool} (h : ¬ ∀ i, i < 8 → S i = T i) : ∃ i, i < 8 ∧ S i ≠ T i := by
  false_or_by_contra
  rename_i h2
  exact h (fun i hi => by
    false_or_by_contra
    rename_i h3
    exact h2 ⟨i, hi, h3⟩)
section PX2R
variable {κ : US} {c : CH}
theorem q2_successorsOf (h : RC κ c) (ok : okC c) {i : Nat} (hi : i < cn c) {Q : Int32 → Prop} (hQ : Q (nI (mk (suc c i)))) : wp_X2_successorsOf (nI i) κ Q := by
  unfold wp_X2_successorsOf
  have hn := ok.1
  refine lp_for (cn c) (fun j => (nI (mk (fun b => decide (b < j ∧ 0 < cw c i b))), nI j)) (fun j hj P hP => ?_) (fun P => ?_)
  · unfold wp_X2_successorsOf_L4
    refine pk_le (cn c) j (fun h => by omega) (fun _ => ?_) h.1
    refine q2_weightOf h (by omega) (by omega) ?_
    have hw := ok.2.1 i j
    refine pk_le (cw c i j) 0 (fun h0 => ?_) (fun h0 => ?_)
    · dsimp only
      rw [nI_1]
      have e : mk (fun b => decide (b < j ∧ 0 < cw c i b)) = mk (fun b => decide (b < j + 1 ∧ 0 < cw c i b)) := mk_congr (fun b _ => by
        congr 1
        apply propext
        constructor
        · intro ⟨a, d⟩; exact ⟨by omega, d⟩
        · intro ⟨a, d⟩
          have : b ≠ j := fun z => by subst z; omega
          exact ⟨by omega, d⟩)
      rw [e]; exact hP
    · intro x hx
      dsimp only at hx ⊢
      rw [sI_add _ (by omega)] at hx
      subst hx
      rw [nI_1]
      have e : mk (fun b => decide (b < j ∧ 0 < cw c i b) || b == j) = mk (fun b => decide (b < j + 1 ∧ 0 < cw c i b)) := mk_congr (fun b _ => by
        by_cases hb : b = j
        · subst hb; simp; omega
        · have : (b == j) = false := by simp [hb]
          rw [this, Bool.or_false]
          congr 1
          apply propext
          constructor
          · intro ⟨a, d⟩; exact ⟨by omega, d⟩
          · intro ⟨a, d⟩; exact ⟨by omega, d⟩)
      rw [e]; exact hP
  · unfold wp_X2_successorsOf_L4
    refine pk_le (cn c) (cn c) (fun _ => ?_) (fun h => by omega) h.1
    dsimp only
    by_cases hz : csum c i = 0
    · have hall : ∀ b, b < 8 → cw c i b = 0 := fun b hb => by
        have h2 : cw c i b ≤ sumN (cw c i) 8 := sumN_get (f := cw c i) hb
        have h3 : sumN (cw c i) 8 = 0 := hz
        omega
      have e : nI (mk (fun b => decide (b < cn c ∧ 0 < cw c i b))) = 0 := (sI_z _).mpr (fun b hb => by simp [hall b hb])
      refine ⟨fun h => absurd e h, fun _ => ?_⟩
      rw [sI_one0 i (by omega)]
      have e2 : mk (fun j => j == i) = mk (suc c i) := mk_congr (fun b hb => by
        unfold suc cst
        by_cases hb2 : i = b
        · subst hb2; simp [hz]
        · have h5 : ¬ (i = b ∧ csum c i = 0) := fun z => hb2 z.1
          have h6 : (b == i) = false := by simp; omega
          rw [if_neg h5, hall b hb, h6]; rfl)
      rw [e2]; exact hQ
    · have e : mk (fun b => decide (b < cn c ∧ 0 < cw c i b)) = mk (suc c i) := mk_congr (fun b hb => by
        unfold suc cst
        rw [if_neg (fun z => hz z.2)]
        congr 1
        apply propext
        constructor
        · intro ⟨_, d⟩; exact d
        · intro d
          refine ⟨?_, d⟩
          rcases Nat.lt_or_ge b (cn c) with h1 | h1
          · exact h1
          · rw [ok.2.2.2.2.2.1 i b (Or.inr h1)] at d; omega)
      rw [e]
      refine ⟨fun _ => hQ, fun hc => ?_⟩
      exfalso
      have h2 := (sI_z _).mp hc
      apply hz
      refine sumN_zero (fun b hb => ?_)
      have h3 := h2 b hb
      unfold suc cst at h3
      rw [if_neg (fun z => hz z.2)] at h3
      simp at h3; omega
/-- one pass over the states, from a set T: what it adds is reached from T, and has all steps from T -/
theorem q2_pass (h : RC κ c) (ok : okC c) {T : Nat → Bool} (hT : ∀ b, T b = true → b < cn c) {v : Nat} {P6 : Int32 × Int32 → Prop} {Q : Int32 → Prop}
    (hP : ∀ T' : Nat → Bool, (∀ b, T b = true → T' b = true) → (∀ b, T' b = true → b < cn c) → (∀ S : Nat → Bool, (∀ b, T b = true → S b = true) → Closed c S → ∀ b, T' b = true → S b = true) → (∀ a b, a < cn c → T a = true → suc c a b = true → T' b = true) → P6 (nI (mk T'), nI v + 1)) :
    lpW (wp_X2_reachedFrom_L17 (nI v) κ P6 Q) (nI (mk T), 0) := by
  have hn := ok.1
  refine lp_inv (cn c) (fun j t => ∃ T' : Nat → Bool, t = (nI (mk T'), nI j) ∧ (∀ b, T b = true → T' b = true) ∧ (∀ b, T' b = true → b < cn c) ∧ (∀ S : Nat → Bool, (∀ b, T b = true → S b = true) → Closed c S → ∀ b, T' b = true → S b = true) ∧ (∀ a b, a < j → T a = true → suc c a b = true → T' b = true)) ?_ _ ⟨T, rfl, fun _ z => z, hT, fun S z _ => z, fun a b z => by omega⟩
  rintro j t hj ⟨T', rfl, h1, h2, h3, h4⟩ P hPP
  unfold wp_X2_reachedFrom_L17
  refine pk_le (cn c) j (fun hj2 => ?_) (fun hj2 => ?_) h.1
  · have : j = cn c := by omega
    subst this
    exact hP T' h1 h2 h3 h4
  · refine q_contains (by omega) ?_
    refine br_b (fun hb => ?_) (fun hb => ?_)
    · dsimp only; rw [nI_1]
      refine hPP hj2 _ ⟨T', rfl, h1, h2, h3, fun a b ha hTa hs => ?_⟩
      rcases Nat.lt_or_ge a j with h5 | h5
      · exact h4 a b h5 hTa hs
      · have : a = j := by omega
        subst this
        rw [h1 a hTa] at hb; cases hb
    · refine q2_successorsOf h ok hj2 ?_
      intro x hx
      dsimp only at hx ⊢
      rw [sI_or] at hx; subst hx
      rw [nI_1]
      refine hPP hj2 _ ⟨fun b => T' b || suc c j b, rfl, fun b z => by simp [h1 b z], fun b z => ?_, fun S z1 z2 b z3 => ?_, fun a b ha hTa hs => ?_⟩
      · rcases Bool.or_eq_true _ _ |>.mp z with z | z
        · exact h2 b z
        · exact suc_lt ok hj2 z
      · rcases Bool.or_eq_true _ _ |>.mp z3 with z | z
        · exact h3 S z1 z2 b z
        · exact z2 j b hj2 (suc_lt ok hj2 z) (h3 S z1 z2 j hb) z
      · rcases Nat.lt_or_ge a j with h5 | h5
        · simp [h4 a b h5 hTa hs]
        · have : a = j := by omega
          subst this
          simp [hs]
theorem q2_reachedFrom (h : RC κ c) (ok : okC c) {i : Nat} (hi : i < cn c) {Q : Int32 → Prop} (hQ : Q (nI (mk (rch c i)))) : wp_X2_reachedFrom (nI i) κ Q := by
  unfold wp_X2_reachedFrom
  have hn := ok.1
  intro x hx
  rw [sI_one0 i (by omega)] at hx; subst hx
  refine lp_inv (cn c) (fun r t => ∃ T : Nat → Bool, t = (nI (mk T), nI r) ∧ T i = true ∧ (∀ b, T b = true → b < cn c) ∧ (∀ S : Nat → Bool, S i = true → Closed c S → ∀ b, T b = true → S b = true) ∧ (Closed c T ∨ r + 1 ≤ card T)) ?_ _ ⟨fun j => j == i, rfl, by simp, fun b z => by simp at z; omega, fun S z _ b zb => by simp at zb; subst zb; exact z, Or.inr (card_pos (k := i) (by omega) (by simp))⟩
  rintro r t hr ⟨T, rfl, h1, h2, h3, h4⟩ P hPP
  unfold wp_X2_reachedFrom_L6
  refine pk_le (cn c) r (fun hr2 => ?_) (fun hr2 => ?_) h.1
  · have hcl : Closed c T := by
      rcases h4 with h4 | h4
      · exact h4
      · have := card_le hn h2; omega
    have e : mk T = mk (rch c i) := mk_congr (fun b hb => by
      rw [Bool.eq_iff_iff, rch_iff]
      exact ⟨fun z => ⟨fun S z1 z2 => h3 S z1 z2 b z, h2 b z⟩, fun z => z.1 T h1 hcl⟩)
    dsimp only; rw [e]; exact hQ
  · refine q2_pass h ok h2 (fun T' a1 a2 a3 a4 => ?_)
    rw [nI_1]
    refine hPP hr2 _ ⟨T', rfl, a1 i h1, a2, fun S z1 z2 => a3 S (h3 S z1 z2) z2, ?_⟩
    rcases h4 with h4 | h4
    · left
      have e : ∀ b, T' b = T b := fun b => by
        rw [Bool.eq_iff_iff]; exact ⟨a3 T (fun _ z => z) h4 b, a1 b⟩
      intro a b ha hb z1 z2
      rw [e] at z1 ⊢; exact h4 a b ha hb z1 z2
    · by_cases hc : ∀ b, b < 8 → T b = T' b
      · left
        intro a b ha hb z1 z2
        exact a4 a b ha (by rw [hc a (by omega)]; exact z1) z2
      · right
        obtain ⟨b, hb, hne⟩ := ne_wit hc
        have hf : T b = false := by
          cases hTb : T b with
          | false => rfl
          | true => exact absurd (hTb.trans (a1 b hTb).symm) hne
        have ht : T' b = true := by
          cases hTb : T' b with
          | true => rfl
          | false => exact absurd (hf.trans hTb.symm) hne
        have := card_lt a1 hb hf ht
        omega
end PX2R
