/-! ===== the class's steady ===== -/
section S5
variable {σ ε κ : US} {c : CH} {G : Nat → Bool}
theorem q8_solveSteady (h : RC κ c) (ok : okC c) {Q : US × US → Prop} (hQ : ∀ σ' ε', FR σ' 8 (fun i => (MM 8 (UA c (uT c) (bS c G)) 8 i 8).toNat) (fun _ => (dd 8 (UA c (uT c) (bS c G)) 8).toNat * scl c G 8) → Q (σ', ε')) : wp_X8_solveSteady (nI (mk G)) σ ε κ Q := by
  refine q8_steadyA h ok (fun z e P16 hz => ?_)
  unfold wp_X8_solveSteady_L16
  refine pk_le 8 8 (fun _ => ?_) (fun zz => by omega)
  have hrun := uT_run (G := G) ok
  have hlim := UA_lim (b := bS c G) ok (uT_lk ok) 8 (Nat.le_refl 8)
  have hri : ∀ i, i < 8 → 0 ≤ MM 8 (UA c (uT c) (bS c G)) 8 i 8 ∧ MM 8 (UA c (uT c) (bS c G)) 8 i 8 < 2 ^ 63 := fun i hi => by
    obtain ⟨h1, h2⟩ := uT_lim (G := G) ok (Nat.le_refl 8) hi
    have h3 := small_t (tc (fun k => !uT c k) 8) (tc_le _ 8)
    have h4 : 20 ^ (8 - tc (fun k => !uT c k) 8) * (10 * 10 ^ tc (fun k => !uT c k) 8) ≤ 10 ^ tc (fun k => !uT c k) 8 * (20 ^ (8 - tc (fun k => !uT c k) 8) * (10 * 10 ^ tc (fun k => !uT c k) 8)) := Nat.le_mul_of_pos_left _ (Nat.pow_pos (by decide))
    exact ⟨h1, by omega⟩
  have s0 := scl_63 (G := G) ok 8
  have s1 := (scl_le (G := G) ok 8).1
  have e20 : (20 : Nat) ^ 8 = 25600000000 := by decide
  have hd8 : dd 8 (UA c (uT c) (bS c G)) 8 ≤ 10 ^ 8 := Int.le_trans hlim.2.1 (pow_le_i (tc_le _ 8))
  generalize hA : UA c (uT c) (bS c G) = A at hrun hlim hri hd8 hQ
  refine q3_clear (fun ε1 h1 => ?_)
  refine lp_inv 8 (fun k t => ∃ y N, t = (nI k, y) ∧ EQ y N ∧ ∀ r j, r < 8 → j < 9 → N r j = if r < k then A r j else if r = j then 1 else 0) ?_ _ ⟨ε1, _, rfl, h1, fun r j _ _ => by rw [if_neg (Nat.not_lt_zero r)]⟩
  rintro k t hk ⟨y, N, rfl, hy, hN⟩ P hP
  unfold wp_X8_solveSteady_L95
  refine pk_le 8 k (fun hk2 => ?_) (fun hk2 => ?_)
  · have hyA : EQ y A := hy.of (fun r j hr hj => by rw [hN r j hr hj, if_pos (by omega)])
    refine q3_solve hyA hrun.1 hrun.2 (fun ε4 h4 => ?_)
    refine lp_inv 8 (fun m t => ∃ z, t = (nI m, z) ∧ FR z m (fun i => (MM 8 A 8 i 8).toNat) (fun _ => (dd 8 A 8).toNat * scl c G 8)) ?_ _ ⟨z, rfl, fun i hi => absurd hi (Nat.not_lt_zero _)⟩
    rintro m t hm ⟨z2, rfl, hz2⟩ P175 hP175
    unfold wp_X8_solveSteady_L175
    refine pk_le 8 m (fun hm2 => ?_) (fun hm2 => ?_)
    · have : m = 8 := by omega
      subst this; exact hQ z2 ε4 hz2
    · refine q3_solution h4 hm2 (q3_determinant h4 ?_)
      have e0 : MM 8 A 8 0 0 = dd 8 A 8 := by rw [MM_done (by decide) (Nat.le_refl 8) (by decide)]; exact if_pos rfl
      obtain ⟨r1, r2⟩ := hri m hm2
      have hdp := hlim.1
      have hm1 : (dd 8 A 8).toNat * scl c G 8 ≤ 100000000 * 25600000000 := Nat.mul_le_mul (by omega) (by omega)
      have hm0 : 0 < (dd 8 A 8).toNat * scl c G 8 := Nat.mul_pos (by omega) s1
      rw [e0, lI_nn (Int.le_of_lt hdp)]
      dsimp only
      rw [lN_mul]
      refine q8_put hm2 hz2 (lI_nn r1) rfl (by omega) (by omega) (Or.inr hm0) (fun σ' hσ' => ?_)
      rw [li1, nI_add]
      exact hP175 hm2 _ ⟨σ', rfl, hσ'⟩
  · have next : ∀ z' N', EQ z' N' → (∀ r j, r < 8 → j < 9 → N' r j = if r = k then A r j else N r j) → P (nI k + 1, z') := fun z' N' h1 h2 => by
      rw [li1, nI_add]
      refine hP hk2 _ ⟨z', N', rfl, h1, fun r j hr hj => ?_⟩
      rw [h2 r j hr hj]
      by_cases hrk : r = k
      · rw [if_pos hrk, if_pos (by omega)]
      · rw [if_neg hrk, hN r j hr hj]
        by_cases hlt : r < k
        · rw [if_pos hlt, if_pos (by omega)]
        · rw [if_neg hlt, if_neg (show ¬ r < k + 1 by omega)]
    refine q_contains hk2 (br_n (fun hb => ?_) (fun hb => ?_))
    · -- no bottom state: a balance, or nothing where there is no state
      by_cases hkc : k < cn c
      · have hT : uT c k = true := by unfold uT; simp [hkc, hb]
        refine q8_balance h ok hy hk2 hkc (fun z' hz' => next z' _ hz' (fun r j hr hj => ?_))
        by_cases hrk : r = k
        · subst hrk
          rw [if_pos rfl, if_pos rfl, ← hA]
          by_cases h8 : j = 8
          · subst h8; rw [if_pos rfl, UA_8, bS_no hb]
          · rw [if_neg h8, UA_j (by omega), hT]; rfl
        · rw [if_neg hrk, if_neg hrk]
      · have hT : uT c k = false := by unfold uT; simp [hkc]
        have hsk : P (nI k + 1, y) := next y N hy (fun r j hr hj => by
          by_cases hrk : r = k
          · subst hrk
            rw [if_pos rfl, hN r j hr hj, if_neg (Nat.lt_irrefl r), ← hA]
            by_cases h8 : j = 8
            · subst h8; rw [UA_8, bS_no hb, if_neg (by omega)]
            · rw [UA_j (by omega), hT]; rfl
          · rw [if_neg hrk])
        unfold wp_X8_balance
        exact q2_has h ok.1 (by omega) (br_n (fun _ => hsk) (fun hb2 => absurd hb2 (by simp [hkc])))
    · obtain ⟨j, hjk, j1, j2⟩ := low_of hb
      obtain ⟨j', q1, q2, q3, q4⟩ := hz k hk2 (inB_iff.mpr ⟨j, by omega, j1, j2⟩)
      have hbj := (lowb_iff.mp q1).1
      obtain ⟨d1, d2⟩ := den_pos (G := G) ok hbj
      have hj8 : j' < 8 := by have := (bot_iff.mp hbj).1; have := ok.1; omega
      have d3 : den c G j' < 2 ^ 63 := by
        have h1 : 20 ^ card (cmp c j') ≤ 20 ^ 8 := Nat.pow_le_pow_right (by decide) (by
          have := sumN_le (f := fun i => if cmp c j' i then 1 else 0) (b := 1) (n := 8) (fun i _ => by split <;> omega)
          unfold card; omega)
        omega
      refine ⟨pk_in k 8 hk2, ?_⟩
      rw [nI_clamp (by omega), q3, q4]
      have hne := lN_ne d1 d3
      refine ⟨fun zz => absurd ((lg_cmp_eq _ _).mp zz) hne, fun _ => ⟨pk_in k 8 hk2, hne, pk_in k 8 hk2, ?_⟩⟩
      rw [pk_lDiv (by omega) d1 d3, lN_mul]
      have hT : uT c k = false := by unfold uT; rw [hb]; simp
      refine q3_putRight hy hk2 (x := ((scl c G 8 / den c G j' * num c G j' : Nat) : Int)) rfl (fun z' hz' => next z' _ hz' (fun r q hr hq => ?_))
      by_cases hrk : r = k
      · subst hrk
        rw [if_pos rfl, ← hA]
        by_cases h8 : q = 8
        · subst h8; rw [upm_s, UA_8, bS_low hj8 q1 q2]
        · rw [upm_n _ _ (by omega), UA_j (by omega), hT, hN r q hr hq, if_neg (Nat.lt_irrefl r)]; rfl
      · rw [upm_n _ _ (by omega), if_neg hrk]
end S5
