/-! ===== the reference's steady ===== -/
/-- what a component adds -/
noncomputable def vS (c : CH) (G : Nat → Bool) (i k : Nat) : Int := xS c G k * MM 8 (UA c (uT c) (bU (cmp c k))) 8 i 8
/-- what the components before k add -/
noncomputable def VS (c : CH) (G : Nat → Bool) (i : Nat) : Nat → Nat
  | 0 => 0
  | k + 1 => VS c G i k + (vS c G i k).toNat
/-- the denominator of them all -/
noncomputable def WS (c : CH) (G : Nat → Bool) : Nat := (dd 8 (UA c (uT c) (bS c G)) 8).toNat * scl c G 8
section SR
variable {c : CH} {G : Nat → Bool}
theorem den_scl (k m : Nat) (hk : k < m) (hl : lowb c k = true) : den c G k ∣ scl c G m := by
  induction m with
  | zero => omega
  | succ m ih =>
    show _ ∣ (if lowb c m then _ else _)
    by_cases hkm : k = m
    · subst hkm; rw [if_pos hl]; exact Nat.dvd_lcm_right _ _
    · have := ih (by omega)
      split
      · exact Nat.dvd_trans this (Nat.dvd_lcm_left _ _)
      · exact this
theorem cmp_MM (ok : okC c) {k i : Nat} (hk : lowb c k = true) (hi : i < 8) : 0 ≤ MM 8 (UA c (uT c) (bU (cmp c k))) 8 i 8 := by
  obtain ⟨w, hw, hW⟩ := UA_wts (b := bU (cmp c k)) ok (uT_lk ok)
  exact right0 (UA_dom ok) hw hW (b := 8) (fun r _ => by rw [UA_8]; unfold bU; split <;> decide) 8 (Nat.le_refl 8) i hi
theorem xS_nn (k : Nat) : 0 ≤ xS c G k := by unfold xS; split <;> omega
theorem vS_nn (ok : okC c) {i : Nat} (hi : i < 8) (k : Nat) : 0 ≤ vS c G i k := by
  unfold vS
  cases hl : lowb c k
  · have : xS c G k = 0 := by unfold xS; rw [hl]; rfl
    rw [this]; omega
  · exact Int.mul_nonneg (xS_nn k) (cmp_MM ok hl hi)
theorem VS_all (ok : okC c) {i : Nat} (hi : i < 8) : (VS c G i 8 : Int) = MM 8 (UA c (uT c) (bS c G)) 8 i 8 := by
  have h1 : ∀ n, (VS c G i n : Int) = sL (fun k => vS c G i k) (List.range n) := fun n => by
    induction n with
    | zero => rfl
    | succ n ih =>
      rw [List.range_succ, sL_app, ← ih]
      show ((VS c G i n + (vS c G i n).toNat : Nat) : Int) = _ + (vS c G i n + 0)
      have := vS_nn (G := G) ok hi n
      omega
  rw [h1, UA_sum (U := uT c) (b := bS c G) (x := xS c G) (bb := fun k => bU (cmp c k)) (L := List.range 8) (fun r _ => rfl) hi]
  rfl
theorem VS_mono {i : Nat} : ∀ {k m : Nat}, k ≤ m → VS c G i k ≤ VS c G i m
  | k, 0, h => by have : k = 0 := by omega
                  subst this; exact Nat.le_refl _
  | k, m + 1, h => by
    by_cases hk : k = m + 1
    · subst hk; exact Nat.le_refl _
    · exact Nat.le_trans (VS_mono (k := k) (m := m) (by omega)) (Nat.le_add_right _ _)
/-- a share is at most 1 -/
theorem VS_le (ok : okC c) {i : Nat} (hi : i < 8) {k : Nat} (hk : k ≤ 8) : VS c G i k ≤ WS c G := by
  have h0 := VS_mono (c := c) (G := G) (i := i) hk
  refine Nat.le_trans h0 ?_
  have h1 := VS_all (G := G) ok hi
  obtain ⟨w, hw, hW⟩ := UA_wts (b := bS c G) ok (uT_lk ok)
  have h2 := (right1 (UA_dom ok) hw hW (b := 8) (sc := (scl c G 8 : Int)) (by omega) (fun r hr => by
    rw [UA_8, UA_row ok hr]
    have := bS_bd (G := G) ok r hr
    split
    · rename_i hu; rw [if_pos hu] at this; omega
    · rename_i hu; rw [if_neg hu] at this; omega) 8 (Nat.le_refl 8) i hi).2
  have h3 : sL (MM 8 (UA c (uT c) (bS c G)) 8 i) (List.range 8) = dd 8 (UA c (uT c) (bS c G)) 8 := by
    rw [sL_one (nd_n 8) (mem_n hi) (fun j hj hne => by
      rw [MM_done (List.mem_range.mp hj) (Nat.le_refl 8) hi]; exact if_neg (Ne.symm hne))]
    rw [MM_done hi (Nat.le_refl 8) hi]; exact if_pos rfl
  have h4 := (UA_lim (b := bS c G) ok (uT_lk ok) 8 (Nat.le_refl 8)).1
  rw [h3] at h2
  unfold WS
  have h5 : (VS c G i 8 : Int) ≤ (((dd 8 (UA c (uT c) (bS c G)) 8).toNat * scl c G 8 : Nat) : Int) := by
    rw [h1, Int.natCast_mul, Int.toNat_of_nonneg (Int.le_of_lt h4), Int.mul_comm]; exact h2
  exact_mod_cast h5
theorem WS_bd (ok : okC c) : 0 < WS c G ∧ WS c G ≤ 20 ^ 8 := by
  have h4 := UA_lim (b := bS c G) ok (uT_lk ok) 8 (Nat.le_refl 8)
  have e2 : scl c G 8 ≤ 20 ^ (8 - tc (fun k => !uT c k) 8) := Nat.le_trans (scl_le (G := G) ok 8).2 (Nat.pow_le_pow_right (by decide) (by have := uT_inB (c := c) ok; omega))
  have s1 := (scl_le (G := G) ok 8).1
  unfold WS
  refine ⟨Nat.mul_pos (by omega) s1, ?_⟩
  have e1 : (dd 8 (UA c (uT c) (bS c G)) 8).toNat ≤ 10 ^ tc (fun k => !uT c k) 8 := by
    have h5 : ((dd 8 (UA c (uT c) (bS c G)) 8).toNat : Int) ≤ ((10 ^ tc (fun k => !uT c k) 8 : Nat) : Int) := by
      rw [Int.toNat_of_nonneg (Int.le_of_lt h4.1), Int.natCast_pow]; exact h4.2.1
    exact_mod_cast h5
  have e3 : ∀ t, t ≤ 8 → 10 ^ t * 20 ^ (8 - t) ≤ 20 ^ 8 := by decide
  exact Nat.le_trans (Nat.mul_le_mul e1 e2) (e3 _ (tc_le _ 8))
end SR
