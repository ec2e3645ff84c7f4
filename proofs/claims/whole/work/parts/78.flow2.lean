/-! ===== the class solves a flow; the flow is as the cofactors ===== -/
section FL2
variable {σ ε κ : US} {c : CH} {S : Nat → Bool} {l : Nat}
theorem q8_solveFlow (h : RC κ c) (ok : okC c) (hS : BC c S) (hl : S l = true) {Q : US → Prop} (hQ : ∀ ε', EQ ε' (MM 8 (FA c S l) 8) → Q ε') : wp_X8_solveFlow (nI (mk S)) (nI l) σ ε κ Q := by
  unfold wp_X8_solveFlow
  have hl8 : l < 8 := by have := hS.1 l hl; have := ok.1; omega
  have hrun := FA_run ok hS hl
  refine q3_clear (fun ε1 h1 => ?_)
  refine lp_inv 8 (fun k t => ∃ z N, t = (nI k, z) ∧ EQ z N ∧ ∀ r j, r < 8 → j < 9 → N r j = if r < k then (if j = 8 then 0 else FA c S l r j) else if r = j then 1 else 0) ?_ _ ⟨ε1, _, rfl, h1, fun r j _ _ => by rw [if_neg (Nat.not_lt_zero r)]⟩
  rintro k t hk ⟨z, N, rfl, hz, hN⟩ P hP
  unfold wp_X8_solveFlow_L9
  refine pk_le 8 k (fun hk2 => ?_) (fun hk2 => ?_)
  · refine q3_putRight hz hl8 (x := 1) rfl (fun z1 hz1 => ?_)
    have hzA : EQ z1 (FA c S l) := hz1.of (fun r j hr hj => by
      by_cases h8 : j = 8
      · subst h8
        rw [FA_8]
        by_cases hrl : r = l
        · subst hrl; rw [upm_s, if_pos rfl]
        · rw [upm_n _ _ (by omega), hN r 8 hr hj, if_pos (by omega), if_pos rfl, if_neg hrl]
      · rw [upm_n _ _ (by omega), hN r j hr hj, if_pos (by omega), if_neg h8])
    exact q3_solve hzA (fun p hp => ⟨(hrun.1 p (by omega)).1, (hrun.1 p (by omega)).2.2⟩) hrun.2 (fun z2 hz2 => hQ z2 hz2)
  · have next : ∀ z' N', EQ z' N' → (∀ r j, r < 8 → j < 9 → N' r j = if r = k then (if j = 8 then 0 else FA c S l r j) else N r j) → P (nI k + 1, z') := fun z' N' h1 h2 => by
      rw [li1, nI_add]
      refine hP hk2 _ ⟨z', N', rfl, h1, fun r j hr hj => ?_⟩
      rw [h2 r j hr hj]
      by_cases hrk : r = k
      · rw [if_pos hrk, if_pos (show r < k + 1 by omega)]
      · rw [if_neg hrk, hN r j hr hj]
        by_cases hlt : r < k
        · rw [if_pos hlt, if_pos (show r < k + 1 by omega)]
        · rw [if_neg hlt, if_neg (show ¬ r < k + 1 by omega)]
    have skipped : lessS S l k = false → P (nI k + 1, z) := fun hno => by
      refine next z N hz (fun r j hr hj => ?_)
      by_cases hrk : r = k
      · subst hrk
        rw [if_pos rfl, hN r j hr hj, if_neg (Nat.lt_irrefl r)]
        by_cases h8 : j = 8
        · subst h8; rw [if_pos rfl, if_neg (by omega)]
        · rw [if_neg h8, FA_triv (by rw [hno]; rfl) j (by omega)]
      · rw [if_neg hrk]
    refine q_contains hk2 (br_b (fun hb => skipped (by unfold lessS; rw [hb]; rfl)) (fun hb => ?_))
    refine ⟨fun hne => ?_, fun heq => ?_⟩
    · have hkl : k ≠ l := fun z => hne (by rw [z])
      have hless : lessS S l k = true := lessS_iff.mpr ⟨hb, hkl⟩
      have d1 := cdiv_le ok k
      refine q2_divisorOf h ok hk2 ?_
      refine q3_put hz hk2 (by omega) (x := (cdiv c k : Int)) (by rw [nI_t64 (by omega)]; rfl) (fun z1 hz1 => ?_)
      refine lp_inv 8 (fun f t => ∃ z N', t = (nI f, z) ∧ EQ z N' ∧ (∀ r j, r ≠ k → N' r j = N r j) ∧ N' k 8 = 0 ∧ ∀ j, j < 8 → N' k j = (if k = j then (cdiv c k : Int) else 0) - (if j < f ∧ S j = true then (cst c j k : Int) else 0)) ?_ _ ⟨z1, _, rfl, hz1, fun r j hr => upm_n _ _ (by omega), ?_, fun j hj => ?_⟩
      · rintro f t hf ⟨z2, N2, rfl, hz2, n1, n2, n3⟩ P52 hP52
        unfold wp_X8_solveFlow_L52
        refine pk_le 8 f (fun hf2 => ?_) (fun hf2 => ?_)
        · refine next z2 N2 hz2 (fun r j hr hj => ?_)
          by_cases hrk : r = k
          · subst hrk
            rw [if_pos rfl]
            by_cases h8 : j = 8
            · subst h8; rw [if_pos rfl, n2]
            · rw [if_neg h8, n3 j (by omega), FA_j (by omega), hless, if_pos rfl]
              by_cases hSj : S j = true
              · rw [if_pos (show j < f ∧ S j = true from ⟨by omega, hSj⟩), if_pos hSj]
              · rw [if_neg (show ¬ (j < f ∧ S j = true) from fun z => hSj z.2), if_neg hSj]
          · rw [if_neg hrk, n1 r j hrk]
        · have step : ∀ z' N3, EQ z' N3 → (∀ r j, r ≠ k → N3 r j = N2 r j) → N3 k 8 = 0 → (∀ j, j < 8 → N3 k j = (if k = j then (cdiv c k : Int) else 0) - (if j < f + 1 ∧ S j = true then (cst c j k : Int) else 0)) → P52 (nI f + 1, z') := fun z' N3 a1 a2 a3 a4 => by
            rw [li1, nI_add]
            exact hP52 hf2 _ ⟨z', N3, rfl, a1, fun r j hr => (a2 r j hr).trans (n1 r j hr), a3, a4⟩
          refine q_contains hf2 (br_b (fun hsf => ?_) (fun hsf => ?_))
          · refine step z2 N2 hz2 (fun _ _ _ => rfl) n2 (fun j hj => ?_)
            rw [n3 j hj]
            by_cases hjf : j = f
            · subst hjf
              rw [if_neg (show ¬ (j < j ∧ S j = true) from fun z => Nat.lt_irrefl j z.1), if_neg (show ¬ (j < j + 1 ∧ S j = true) from fun z => by rw [hsf] at z; exact absurd z.2 (by decide))]
            · by_cases hc : j < f ∧ S j = true
              · rw [if_pos hc, if_pos (show j < f + 1 ∧ S j = true from ⟨by omega, hc.2⟩)]
              · rw [if_neg hc, if_neg (show ¬ (j < f + 1 ∧ S j = true) from fun z => hc ⟨by omega, z.2⟩)]
          · refine q2_stepWeight h ok hf2 hk2 ?_
            have c9 := cst_lt ok f k
            refine q3_add hz2 hk2 (by omega) (x := -(cst c f k : Int)) (neg_t64 (by omega)) (fun z3 hz3 => ?_)
            refine step z3 _ hz3 (fun r j hr => upm_n _ _ (by omega)) (by rw [upm_n _ _ (by omega), n2]) (fun j hj => ?_)
            by_cases hjf : j = f
            · subst hjf
              rw [upm_s, n3 j hj, if_neg (show ¬ (j < j ∧ S j = true) from fun z => Nat.lt_irrefl j z.1), if_pos (show j < j + 1 ∧ S j = true from ⟨Nat.lt_succ_self j, hsf⟩)]; omega
            · rw [upm_n _ _ (by omega), n3 j hj]
              by_cases hc : j < f ∧ S j = true
              · rw [if_pos hc, if_pos (show j < f + 1 ∧ S j = true from ⟨by omega, hc.2⟩)]
              · rw [if_neg hc, if_neg (show ¬ (j < f + 1 ∧ S j = true) from fun z => hc ⟨by omega, z.2⟩)]
      · rw [upm_n _ _ (by omega), hN k 8 hk2 (by decide), if_neg (Nat.lt_irrefl k), if_neg (show ¬ k = 8 by omega)]
      · rw [if_neg (show ¬ (j < 0 ∧ S j = true) from fun z => Nat.not_lt_zero j z.1)]
        by_cases hjk : j = k
        · subst hjk; rw [upm_s, if_pos rfl]; omega
        · rw [upm_n _ _ (by omega), hN k j hk2 (by omega), if_neg (Nat.lt_irrefl k), if_neg (Ne.symm hjk), if_neg (Ne.symm hjk)]; omega
    · have hkl : k = l := (nI_eq (by omega) (by omega)).mp heq
      exact skipped (by unfold lessS; rw [hkl]; simp)
/-- the matrix of a component -/
def LC (c : CH) : Nat → Nat → Int := fun r j => (if r = j then (cdiv c r : Int) else 0) - cst c r j
theorem ul_sum (ok : okC c) (hS : ∀ i, S i = true → i < cn c) (f : Nat → Int) : sL f (ul S (cn c)) = sL (fun j => if S j then f j else 0) (List.range 8) := by
  have h1 := sL_parts ok.1 hS (fun j => if S j then f j else 0)
  have h2 : sL (fun j => if S j then 0 else if S j then f j else 0) (List.range 8) = 0 := sL_0 (fun j _ => by split; rfl; rfl)
  rw [h1, h2, ← sL_map (fun j => if S j then f j else 0) (un (ul S (cn c))), un_map, Int.add_zero]
  exact sL_congr (fun j hj => (if_pos (ul_mem.mp hj).2).symm)
theorem LC_0 (ok : okC c) (hS : BC c S) : ∀ r, r ∈ ul S (cn c) → sL (LC c r) (ul S (cn c)) = 0 := fun r hr => by
  obtain ⟨hrn, hSr⟩ := ul_mem.mp hr
  have hr8 : r < 8 := by have := ok.1; omega
  rw [ul_sum ok hS.1]
  have h1 : sL (fun j => if S j then LC c r j else 0) (List.range 8) = sL (fun j => (if r = j then (cdiv c r : Int) else 0) - cst c r j) (List.range 8) := sL_congr (fun j hj => by
    have hj8 := List.mem_range.mp hj
    cases hSj : S j
    · have hne : ¬ r = j := fun z => by rw [z, hSj] at hSr; exact absurd hSr (by decide)
      have h0 : cst c r j = 0 := by
        by_cases hjn : j < cn c
        · rcases Nat.eq_zero_or_pos (cst c r j) with h0 | h0
          · exact h0
          · have := hS.2.1 r j hSr h0 hjn
            rw [hSj] at this; exact absurd this (by decide)
        · exact cst_out ok hrn (by omega)
      rw [if_neg hne, h0]; rfl
    · rfl)
  rw [h1, sL_sub, sL_diag hr8, sL_range, cst_sum ok hr8]; omega
/-- the flow that the class finds is as the cofactors -/
theorem flow_cof (ok : okC c) (hS : BC c S) (hl : S l = true) {i : Nat} (hi : i < 8) : (if S i then cof (ul S (cn c)) (LC c) i else 0) * dd 8 (FA c S l) 8 = cof (ul S (cn c)) (LC c) l * MM 8 (FA c S l) 8 i 8 := by
  have nd := ul_nd S (cn c)
  refine unique (n := 8) (A := FA c S l) (b := 8) (E := cof (ul S (cn c)) (LC c) l) (Y := fun i => if S i then cof (ul S (cn c)) (LC c) i else 0) (fun r hr => ?_) hi
  rw [FA_8]
  cases hr2 : lessS S l r
  · have e1 : sL (fun j => FA c S l r j * (if S j then cof (ul S (cn c)) (LC c) j else 0)) (List.range 8) = FA c S l r r * (if S r then cof (ul S (cn c)) (LC c) r else 0) := sL_one (nd_n 8) (mem_n hr) (fun j hj hne => by
      rw [FA_triv (by rw [hr2]; rfl) j (List.mem_range.mp hj), if_neg (Ne.symm hne), Int.zero_mul])
    rw [e1, FA_triv (by rw [hr2]; rfl) r hr, if_pos rfl, Int.one_mul]
    by_cases hrl : r = l
    · subst hrl; rw [if_pos hl, if_pos rfl, Int.mul_one]
    · have : S r = false := by
        cases hs : S r
        · rfl
        · rw [lessS_iff.mpr ⟨hs, hrl⟩] at hr2; exact absurd hr2 (by decide)
      rw [this, if_neg hrl, Int.mul_zero]; rfl
  · obtain ⟨hSr, hrl⟩ := lessS_iff.mp hr2
    rw [if_neg hrl, Int.mul_zero]
    have h1 := cof_stay nd (LC_0 ok hS) (t := r) (ul_mem.mpr ⟨hS.1 r hSr, hSr⟩)
    rw [ul_sum ok hS.1] at h1
    refine Eq.trans (sL_congr (fun j hj => ?_)) h1
    rw [FA_j (List.mem_range.mp hj), hr2, if_pos rfl]
    cases hSj : S j
    · have hne : ¬ r = j := fun z => by rw [z, hSj] at hSr; exact absurd hSr (by decide)
      rw [if_neg hne]; simp
    · unfold LC
      by_cases hrj : r = j
      · subst hrj; simp; exact Int.mul_comm _ _
      · rw [if_neg hrj, if_neg (Ne.symm hrj)]; simp; exact Int.mul_comm _ _
end FL2
