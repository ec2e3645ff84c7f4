/-! ===== the last system's bounds ===== -/
section S4
variable {c : CH} {G : Nat → Bool}
theorem num_le (k : Nat) : num c G k ≤ den c G k := Nat.div_le_div_right (shT_le G)
theorem bS_bd (ok : okC c) (i : Nat) (_hi : i < 8) : 0 ≤ bS c G i ∧ bS c G i ≤ if uT c i then 0 else (scl c G 8 : Int) := by
  cases hb : bot c i
  · rw [bS_no hb]
    refine ⟨Int.le_refl _, ?_⟩
    split <;> omega
  · obtain ⟨j, hj, h1, h2⟩ := low_of hb
    have hn := (bot_iff.mp hb).1
    have h8 := ok.1
    have hT : uT c i = false := by unfold uT; rw [hb]; simp
    rw [bS_low (by omega) h1 h2, hT]
    have e1 : scl c G 8 / den c G j * num c G j ≤ scl c G 8 / den c G j * den c G j := Nat.mul_le_mul_left _ (num_le j)
    have e2 := Nat.div_mul_le_self (scl c G 8) (den c G j)
    refine ⟨by omega, ?_⟩
    show ((scl c G 8 / den c G j * num c G j : Nat) : Int) ≤ (scl c G 8 : Int)
    exact_mod_cast Nat.le_trans e1 e2
theorem small_t : ∀ t, t ≤ 8 → 10 ^ t * (20 ^ (8 - t) * (10 * 10 ^ t)) < 2 ^ 63 := by decide
theorem uT_lim (ok : okC c) {p i : Nat} (hp : p ≤ 8) (hi : i < 8) : 0 ≤ MM 8 (UA c (uT c) (bS c G)) p i 8 ∧ MM 8 (UA c (uT c) (bS c G)) p i 8 ≤ ((20 ^ (8 - tc (fun k => !uT c k) 8) * (10 * 10 ^ tc (fun k => !uT c k) 8) : Nat) : Int) := by
  obtain ⟨h1, h2⟩ := UA_right (b := bS c G) ok (uT_lk ok) (sc := (scl c G 8 : Int)) (by omega) (bS_bd ok) hp hi
  obtain ⟨d1, d2, _⟩ := UA_lim (b := bS c G) ok (uT_lk ok) p hp
  refine ⟨h1, Int.le_trans h2 ?_⟩
  have e1 := Int.le_trans d2 (pow_le_i (tc_mono (fun k => !uT c k) hp))
  have e2 : scl c G 8 ≤ 20 ^ (8 - tc (fun k => !uT c k) 8) := Nat.le_trans (scl_le (G := G) ok 8).2 (Nat.pow_le_pow_right (by decide) (by have := uT_inB (c := c) ok; omega))
  have e3 : (scl c G 8 : Int) ≤ ((20 ^ (8 - tc (fun k => !uT c k) 8) : Nat) : Int) := by exact_mod_cast e2
  rw [Int.natCast_mul, Int.natCast_mul, Int.natCast_pow 10]
  exact Int.mul_le_mul e3 (Int.mul_le_mul_of_nonneg_left e1 (by decide)) (by omega) (by omega)
theorem uT_run (ok : okC c) : (∀ p, p < 8 → 0 < dd 8 (UA c (uT c) (bS c G)) p ∧ in64 (dd 8 (UA c (uT c) (bS c G)) p)) ∧ ∀ p i j, p < 8 → i < 8 → j < 9 → i ≠ p → in64 (dd 8 (UA c (uT c) (bS c G)) p * MM 8 (UA c (uT c) (bS c G)) (p + 1) i j) := by
  refine UA_run ok (uT_lk ok) (X := ((20 ^ (8 - tc (fun k => !uT c k) 8) * (10 * 10 ^ tc (fun k => !uT c k) 8) : Nat) : Int)) (fun p i hp hi => ?_) ?_
  · have := uT_lim (G := G) ok (show p + 1 ≤ 8 by omega) hi
    omega
  · have h := small_t (tc (fun k => !uT c k) 8) (tc_le _ 8)
    have h2 : ((10 ^ tc (fun k => !uT c k) 8 * (20 ^ (8 - tc (fun k => !uT c k) 8) * (10 * 10 ^ tc (fun k => !uT c k) 8)) : Nat) : Int) < ((2 ^ 63 : Nat) : Int) := by exact_mod_cast h
    rw [Int.natCast_mul, Int.natCast_pow 10] at h2
    exact h2
end S4
