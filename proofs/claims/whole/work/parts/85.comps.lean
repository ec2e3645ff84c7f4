/-! ===== the bottom components one after another ===== -/
noncomputable def lowb (c : CH) (k : Nat) : Bool := bot c k && pd (∀ j, j < k → cmp c j k = false)
noncomputable def inB (c : CH) (k i : Nat) : Bool := pd (∃ j, j < k ∧ lowb c j = true ∧ cmp c j i = true)
noncomputable def opn (c : CH) (k i : Nat) : Bool := bot c i && !inB c k i
noncomputable def den (c : CH) (G : Nat → Bool) (j : Nat) : Nat := shB c (cmp c j) / gcd1 (shT c (cmp c j) G) (shB c (cmp c j))
noncomputable def num (c : CH) (G : Nat → Bool) (j : Nat) : Nat := shT c (cmp c j) G / gcd1 (shT c (cmp c j) G) (shB c (cmp c j))
noncomputable def scl (c : CH) (G : Nat → Bool) : Nat → Nat
  | 0 => 1
  | k + 1 => if lowb c k then Nat.lcm (scl c G k) (den c G k) else scl c G k
section CO
variable {c : CH} {G : Nat → Bool}
theorem lowb_iff {k : Nat} : lowb c k = true ↔ bot c k = true ∧ ∀ j, j < k → cmp c j k = false := by
  unfold lowb; rw [Bool.and_eq_true, pd_iff]
theorem inB_iff {k i : Nat} : inB c k i = true ↔ ∃ j, j < k ∧ lowb c j = true ∧ cmp c j i = true := pd_iff
theorem cmp_sy {i j : Nat} (h : cmp c i j = true) : cmp c j i = true := cmp_iff.mpr ⟨(cmp_iff.mp h).2, (cmp_iff.mp h).1⟩
theorem cmp_tr {i j k : Nat} (h1 : cmp c i j = true) (h2 : cmp c j k = true) : cmp c i k = true := cmp_iff.mpr ⟨rch_tr (cmp_iff.mp h1).1 (cmp_iff.mp h2).1, rch_tr (cmp_iff.mp h2).2 (cmp_iff.mp h1).2⟩
/-- every state of a bottom component has a lowest one -/
theorem low_of {k : Nat} (hk : bot c k = true) : ∃ j, j ≤ k ∧ lowb c j = true ∧ cmp c j k = true := by
  have hkk : cmp c k k = true := cmp_iff.mpr ⟨rch_refl (bot_iff.mp hk).1, rch_refl (bot_iff.mp hk).1⟩
  obtain ⟨m, hm, hmin⟩ := least (P := fun j => cmp c j k = true) k hkk
  refine ⟨m, ?_, lowb_iff.mpr ⟨cmp_bot hk (cmp_sy hm), fun j hj => ?_⟩, hm⟩
  · rcases Nat.lt_or_ge k m with h | h
    · exact absurd hkk (hmin k h)
    · exact h
  · cases hx : cmp c j m
    · rfl
    · exact absurd (cmp_tr hx hm) (hmin j hj)
theorem opn_k (k : Nat) : opn c k k = lowb c k := by
  cases hl : lowb c k
  · unfold opn
    cases hb : bot c k
    · rfl
    · obtain ⟨j, hj, h1, h2⟩ := low_of hb
      have hjk : j < k := by
        rcases Nat.lt_or_ge j k with h | h
        · exact h
        · have : j = k := by omega
          rw [this, hl] at h1; exact absurd h1 (by decide)
      rw [inB_iff.mpr ⟨j, hjk, h1, h2⟩]; rfl
  · obtain ⟨hb, hno⟩ := lowb_iff.mp hl
    unfold opn
    rw [hb]
    cases hx : inB c k k
    · rfl
    · obtain ⟨j, hj, _, h2⟩ := inB_iff.mp hx
      rw [hno j hj] at h2; exact absurd h2 (by decide)
theorem inB_s0 {k : Nat} (h : lowb c k = false) (i : Nat) : inB c (k + 1) i = inB c k i := by
  cases hx : inB c k i
  · cases hy : inB c (k + 1) i
    · rfl
    · obtain ⟨j, hj, h1, h2⟩ := inB_iff.mp hy
      have hjk : j < k := by
        rcases Nat.lt_or_ge j k with h3 | h3
        · exact h3
        · have : j = k := by omega
          rw [this, h] at h1; exact absurd h1 (by decide)
      rw [inB_iff.mpr ⟨j, hjk, h1, h2⟩] at hx; exact absurd hx (by decide)
  · obtain ⟨j, hj, h1, h2⟩ := inB_iff.mp hx
    exact inB_iff.mpr ⟨j, by omega, h1, h2⟩
theorem inB_s1 {k : Nat} (h : lowb c k = true) (i : Nat) : inB c (k + 1) i = (inB c k i || cmp c k i) := by
  cases hx : inB c k i
  · cases hy : cmp c k i
    · cases hz : inB c (k + 1) i
      · rfl
      · obtain ⟨j, hj, h1, h2⟩ := inB_iff.mp hz
        rcases Nat.lt_or_ge j k with h3 | h3
        · rw [inB_iff.mpr ⟨j, h3, h1, h2⟩] at hx; exact absurd hx (by decide)
        · have : j = k := by omega
          rw [this, hy] at h2; exact absurd h2 (by decide)
    · exact inB_iff.mpr ⟨k, Nat.lt_succ_self k, h, hy⟩
  · obtain ⟨j, hj, h1, h2⟩ := inB_iff.mp hx
    exact inB_iff.mpr ⟨j, by omega, h1, h2⟩
theorem inB_apart {k i : Nat} (h : lowb c k = true) (hi : inB c k i = true) : cmp c k i = false := by
  cases hx : cmp c k i
  · rfl
  · obtain ⟨j, hj, _, h2⟩ := inB_iff.mp hi
    have := (lowb_iff.mp h).2 j hj
    rw [cmp_tr h2 (cmp_sy hx)] at this; exact absurd this (by decide)
theorem den_pos (ok : okC c) {k : Nat} (h : bot c k = true) : 0 < den c G k ∧ den c G k ≤ 20 ^ card (cmp c k) := by
  have hk : cmp c k k = true := cmp_iff.mpr ⟨rch_refl (bot_iff.mp h).1, rch_refl (bot_iff.mp h).1⟩
  obtain ⟨_, _, h3⟩ := share_eq (G := G) ok (cmp_BC h) hk
  have h4 := shB_le ok (cmp_BC h)
  obtain ⟨g1, g2⟩ := gcd1_le (a := shT c (cmp c k) G) h3
  refine ⟨Nat.div_pos g2 (gcd1_pos _ _), Nat.le_trans (Nat.div_le_self _ _) h4⟩
theorem scl_le (ok : okC c) : ∀ k, 0 < scl c G k ∧ scl c G k ≤ 20 ^ card (inB c k)
  | 0 => ⟨Nat.one_pos, by show 1 ≤ _; exact Nat.pow_pos (by decide)⟩
  | k + 1 => by
    obtain ⟨h1, h2⟩ := scl_le ok k
    show 0 < (if lowb c k then _ else _) ∧ (if lowb c k then _ else _) ≤ _
    cases hl : lowb c k
    · have e : card (inB c (k + 1)) = card (inB c k) := sumN_congr (fun i _ => by rw [inB_s0 hl i])
      rw [e]; exact ⟨h1, h2⟩
    · obtain ⟨d1, d2⟩ := den_pos (G := G) ok (lowb_iff.mp hl).1
      have e : card (inB c (k + 1)) = card (inB c k) + card (cmp c k) := by
        unfold card
        rw [← sumN_add]
        exact sumN_congr (fun i _ => by
          rw [inB_s1 hl i]
          cases hx : inB c k i
          · simp
          · rw [inB_apart hl hx]; simp)
      rw [e, Nat.pow_add]
      refine ⟨Nat.lcm_pos h1 d1, Nat.le_trans ?_ (Nat.mul_le_mul h2 d2)⟩
      exact Nat.le_of_dvd (Nat.mul_pos h1 d1) (Nat.lcm_dvd_mul _ _)
end CO
