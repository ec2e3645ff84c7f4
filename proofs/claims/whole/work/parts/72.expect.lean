/-! ===== expected rewards ===== -/
theorem right0 {n : Nat} {A : Nat → Nat → Int} {w : Nat → Int} (h0 : Dom n 1 A) (hp : ∀ j, 0 < w j) (hw : Wts n w A) {b : Nat} (hb : ∀ i, i < n → 0 ≤ A i b) : ∀ k, k ≤ n → ∀ i, i < n → 0 ≤ MM n A k i b
  | 0, _, i, hi => by rw [MM_0 hi]; exact hb i hi
  | k + 1, hk, i, hi => by
    have ih := right0 h0 hp hw hb k (by omega)
    obtain ⟨hd, hD, hW⟩ := dom_all h0 hp hw k (by omega)
    have hpiv := dom_piv hk hD hp hW
    by_cases hik : i = k
    · subst hik; rw [MM_k]; exact ih i hi
    · have h1 := MM_s (A := A) (j := b) hk hi hik
      have h3 := Int.mul_nonneg (Int.le_of_lt hpiv) (ih i hi)
      have h4 := i_np (ih k hk) (hD.1 i k hi hk hik)
      rw [Int.mul_comm] at h4
      exact i_le hd (by rw [h1, Int.mul_zero]; omega)
theorem can_ex {c : CH} {F G : Nat → Bool} {s : Nat} (h : can c F G s = true) : ∃ g, G g = true := by
  rcases Classical.em (∃ g, G g = true) with h1 | h1
  · exact h1
  · have := (can_iff.mp h).1 (fun _ => false) (fun b hb => absurd ⟨b, hb⟩ h1) (fun a b _ _ _ hS _ => hS)
    exact absurd this (by decide)
theorem can_goal {c : CH} {F G : Nat → Bool} {s : Nat} (h : G s = true) (hs : s < cn c) : can c F G s = true := can_iff.mpr ⟨fun S h1 _ => h1 s h, hs⟩
theorem ul_lt {U : Nat → Bool} {g : Nat} (hU : U g = false) : ∀ {k : Nat}, g < k → (ul U k).length + 1 ≤ k
  | 0, h => by omega
  | k + 1, h => by
    by_cases hg : g = k
    · subst hg; rw [ul_f hU]; have := ul_len U g; omega
    · have := ul_lt hU (k := k) (by omega)
      cases hk : U k
      · rw [ul_f hk]; omega
      · rw [ul_t hk, List.length_append]; have : [k].length = 1 := rfl; omega
/-- all states -/
def allS (c : CH) (j : Nat) : Bool := decide (j < cn c)
/-- the unknowns of an expected reward, and its right side -/
noncomputable def uE (c : CH) (G : Nat → Bool) (i : Nat) : Bool := sur c (allS c) G i && !G i
noncomputable def bE (c : CH) (G : Nat → Bool) (i : Nat) : Int := if uE c G i then (cdiv c i * cr c i : Nat) else 0
section EXP
variable {c : CH} {G : Nat → Bool}
theorem sur_can {i : Nat} (h : sur c (allS c) G i = true) : i < cn c ∧ can c (allS c) G i = true := by
  unfold sur at h
  rw [Bool.and_eq_true] at h
  have hi : i < cn c := by simpa using h.1
  refine ⟨hi, ?_⟩
  cases hc : can c (allS c) G i
  · have hn : nev c (allS c) G i = true := by unfold nev; simp [hi, hc]
    rw [can_goal hn hi] at h
    exact absurd h.2 (by decide)
  · rfl
theorem uE_iff {i : Nat} : uE c G i = true ↔ sur c (allS c) G i = true ∧ G i = false := by unfold uE; simp
theorem uE_lt (i : Nat) (h : uE c G i = true) : i < cn c := (sur_can (uE_iff.mp h).1).1
theorem uE_lk (ok : okC c) (hG : ∀ b, G b = true → b < cn c) : LK c (uE c G) := LK_of (F := allS c) ok hG (fun s hs => ⟨(sur_can (uE_iff.mp hs).1).2, (uE_iff.mp hs).2⟩)
theorem uE_miss (ok : okC c) (hG : ∀ b, G b = true → b < cn c) : (∃ g, g < cn c ∧ uE c G g = false) ∨ ∀ i, uE c G i = false := by
  rcases Classical.em (∃ i, uE c G i = true) with ⟨i, hi⟩ | h
  · obtain ⟨g, hg⟩ := can_ex (sur_can (uE_iff.mp hi).1).2
    refine Or.inl ⟨g, hG g hg, ?_⟩
    unfold uE; rw [hg]; simp
  · right
    intro i
    cases hu : uE c G i
    · rfl
    · exact absurd ⟨i, hu⟩ h
theorem uE_7 (ok : okC c) (hG : ∀ b, G b = true → b < cn c) : ∃ g, g < 8 ∧ uE c G g = false := by
  rcases uE_miss ok hG with ⟨g, hg, h⟩ | h
  · exact ⟨g, by have := ok.1; omega, h⟩
  · exact ⟨0, by decide, h 0⟩
theorem bE_bd (ok : okC c) (i : Nat) : 0 ≤ bE c G i ∧ bE c G i ≤ 90 := by
  have h1 := cdiv_le ok i
  have h2 := ok.2.2.2.2.1 i
  have h3 : cdiv c i * cr c i ≤ 10 * 9 := Nat.mul_le_mul h1 h2
  unfold bE
  split <;> omega
theorem pow20 {m n : Nat} (h : m ≤ n) : (20 : Int) ^ m ≤ 20 ^ n := by
  have h1 : (20 : Nat) ^ m ≤ 20 ^ n := Nat.pow_le_pow_right (by decide) h
  have h2 : ((20 ^ m : Nat) : Int) ≤ ((20 ^ n : Nat) : Int) := by exact_mod_cast h1
  rw [Int.natCast_pow, Int.natCast_pow] at h2; exact h2
theorem uE_lim (ok : okC c) (hG : ∀ b, G b = true → b < cn c) {p i : Nat} (hp : p ≤ 8) (hi : i < 8) : 0 ≤ MM 8 (UA c (uE c G) (bE c G)) p i 8 ∧ MM 8 (UA c (uE c G) (bE c G)) p i 8 ≤ 90 * 20 ^ 7 := by
  obtain ⟨w, hw, hW⟩ := UA_wts (b := bE c G) ok (uE_lk ok hG)
  have h1 := right0 (UA_dom ok) hw hW (b := 8) (fun i _ => by rw [UA_8]; exact (bE_bd ok i).1) p hp i hi
  have h2 := right2 (UA_dom ok) hw hW (tr := fun k => !uE c G k) (fun k hk ht j hj => UA_triv hk ht j hj) (b := 8) (be := 90) (fun i _ => by rw [UA_8]; have := bE_bd (G := G) ok i; omega) (fun i _ ht => by
    rw [UA_8]; unfold bE
    cases hu : uE c G i
    · rfl
    · rw [hu] at ht; exact absurd ht (by decide)) p hp i hi
  obtain ⟨g, hg, hg2⟩ := uE_7 ok hG
  have h3 : tc (fun k => !uE c G k) p ≤ 7 := by
    have a1 := tc_lt (fun k => !uE c G k) hg (by rw [hg2]; rfl)
    have a2 := tc_mono (fun k => !uE c G k) hp
    omega
  have h4 := pow20 h3
  exact ⟨h1, by omega⟩
theorem uE_run (ok : okC c) (hG : ∀ b, G b = true → b < cn c) : (∀ p, p < 8 → 0 < dd 8 (UA c (uE c G) (bE c G)) p ∧ in64 (dd 8 (UA c (uE c G) (bE c G)) p)) ∧ ∀ p i j, p < 8 → i < 8 → j < 9 → i ≠ p → in64 (dd 8 (UA c (uE c G) (bE c G)) p * MM 8 (UA c (uE c G) (bE c G)) (p + 1) i j) := by
  refine UA_run ok (uE_lk ok hG) (X := 90 * 20 ^ 7) (fun p i hp hi => ?_) ?_
  · have := uE_lim ok hG (show p + 1 ≤ 8 by omega) hi
    omega
  · obtain ⟨g, hg, hg2⟩ := uE_7 ok hG
    have a1 := tc_lt (fun k => !uE c G k) hg (by rw [hg2]; rfl)
    have := pow_le_i (show tc (fun k => !uE c G k) 8 ≤ 7 by omega)
    omega
/-- the fraction of a state -/
noncomputable def eT (c : CH) (G : Nat → Bool) (i : Nat) : Nat := if sur c (allS c) G i then (MM 8 (UA c (uE c G) (bE c G)) 8 i 8).toNat else 1
noncomputable def eB (c : CH) (G : Nat → Bool) (i : Nat) : Nat := if sur c (allS c) G i then (dd 8 (UA c (uE c G) (bE c G)) 8).toNat else 0
theorem q8_solveExpected {σ ε κ : US} (h : RC κ c) (ok : okC c) (hG : ∀ b, G b = true → b < cn c) {Q : US × US → Prop} (hQ : ∀ σ' ε', FR σ' 8 (eT c G) (eB c G) → Q (σ', ε')) : wp_X8_solveExpected (nI (mk G)) σ ε κ Q := by
  unfold wp_X8_solveExpected
  refine q2_all h ok.1 ?_
  refine q2_surelyUntil (F := allS c) h ok hG ?_
  have hrun := uE_run ok hG
  have hlim := UA_lim (b := bE c G) ok (uE_lk ok hG) 8 (Nat.le_refl 8)
  have hri : ∀ i, i < 8 → 0 ≤ MM 8 (UA c (uE c G) (bE c G)) 8 i 8 ∧ MM 8 (UA c (uE c G) (bE c G)) 8 i 8 ≤ 90 * 20 ^ 7 := fun i hi => uE_lim ok hG (Nat.le_refl 8) hi
  have eUb : ∀ k, uE c G k = false → bE c G k = 0 := fun k hk => by unfold bE; rw [hk]; rfl
  have hEA : ∀ i, eT c G i = if sur c (allS c) G i then (MM 8 (UA c (uE c G) (bE c G)) 8 i 8).toNat else 1 := fun i => rfl
  have hEB : ∀ i, eB c G i = if sur c (allS c) G i then (dd 8 (UA c (uE c G) (bE c G)) 8).toNat else 0 := fun i => rfl
  generalize hA : UA c (uE c G) (bE c G) = A at hrun hlim hri hEA hEB
  refine q3_clear (fun ε1 h1 => ?_)
  refine lp_inv 8 (fun k t => ∃ z N, t = (nI k, z) ∧ EQ z N ∧ ∀ r j, r < 8 → j < 9 → N r j = if r < k then A r j else if r = j then 1 else 0) ?_ _ ⟨ε1, _, rfl, h1, fun r j _ _ => by rw [if_neg (Nat.not_lt_zero r)]⟩
  rintro k t hk ⟨z, N, rfl, hz, hN⟩ P hP
  unfold wp_X8_solveExpected_L25
  refine pk_le 8 k (fun hk2 => ?_) (fun hk2 => ?_)
  · have hzA : EQ z A := hz.of (fun r j hr hj => by rw [hN r j hr hj, if_pos (by omega)])
    have h8 : (10 : Int) ^ tc (fun k => !uE c G k) 8 ≤ 10 ^ 8 := pow_le_i (tc_le _ 8)
    refine q3_solve hzA hrun.1 hrun.2 (fun ε4 h4 => ?_)
    refine lp_inv 8 (fun m t => ∃ z, t = (nI m, z) ∧ FR z m (eT c G) (eB c G)) ?_ _ ⟨σ, rfl, fun i hi => absurd hi (Nat.not_lt_zero _)⟩
    rintro m t hm ⟨z2, rfl, hz2⟩ P90 hP90
    unfold wp_X8_solveExpected_L90
    refine pk_le 8 m (fun hm2 => ?_) (fun hm2 => ?_)
    · have : m = 8 := by omega
      subst this; exact hQ z2 ε4 hz2
    · have eA := hEA m
      have eB' := hEB m
      refine q_contains hm2 (br_b (fun hs => ?_) (fun hs => ?_))
      · rw [hs] at eA eB'
        have eA2 : eT c G m = 1 := eA
        have eB2 : eB c G m = 0 := eB'
        refine q8_put hm2 hz2 (by rw [eA2]; rfl) (by rw [eB2]; rfl) (by rw [eA2]; decide) (by rw [eB2]; decide) (Or.inl (by rw [eA2]; decide)) (fun σ' hσ' => ?_)
        rw [li1, nI_add]
        exact hP90 hm2 _ ⟨σ', rfl, hσ'⟩
      · rw [hs, if_pos rfl] at eA eB'
        refine q3_solution h4 hm2 (q3_determinant h4 ?_)
        have e0 : MM 8 A 8 0 0 = dd 8 A 8 := by rw [MM_done (by decide) (Nat.le_refl 8) (by decide)]; exact if_pos rfl
        obtain ⟨r1, r2⟩ := hri m hm2
        rw [e0]
        refine q8_put hm2 hz2 (by rw [eA]; exact lI_nn r1) (by rw [eB']; exact lI_nn (by omega)) (by omega) (by omega) (Or.inr (by omega)) (fun σ' hσ' => ?_)
        rw [li1, nI_add]
        exact hP90 hm2 _ ⟨σ', rfl, hσ'⟩
  · have next : ∀ z' N', EQ z' N' → (∀ r j, r < 8 → j < 9 → N' r j = if r = k then A r j else N r j) → P (nI k + 1, z') := fun z' N' h1 h2 => by
      rw [li1, nI_add]
      refine hP hk2 _ ⟨z', N', rfl, h1, fun r j hr hj => ?_⟩
      rw [h2 r j hr hj]
      by_cases hrk : r = k
      · rw [if_pos hrk, if_pos (by omega)]
      · rw [if_neg hrk, hN r j hr hj]
        by_cases hlt : r < k
        · rw [if_pos hlt, if_pos (by omega)]
        · rw [if_neg hlt, if_neg (show ¬ r < k + 1 by omega)]
    rw [sI_diff]
    refine q_contains (S := uE c G) hk2 (br_b (fun hb => ?_) (fun hb => ?_))
    · refine next z N hz (fun r j hr hj => ?_)
      by_cases hrk : r = k
      · subst hrk
        rw [if_pos rfl, hN r j hr hj, if_neg (Nat.lt_irrefl r), ← hA]
        by_cases h8 : j = 8
        · subst h8
          rw [UA_8, if_neg (by omega), eUb r hb]
        · rw [UA_j (by omega), hb]; rfl
      · rw [if_neg hrk]
    · have hkc := uE_lt k hb
      refine q8_balance h ok hz hk2 hkc (fun z1 hz1 => q2_divisorOf h ok hk2 (q2_rewardOf h ok.1 hkc ?_))
      have d1 := cdiv_le ok k
      have d2 := ok.2.2.2.2.1 k
      refine q3_putRight hz1 hk2 (x := bE c G k) (by
        rw [nI_t64 (by omega), nI_t64 (by omega), lN_mul, lI_N]
        unfold bE; rw [hb, if_pos rfl]) (fun z' hz' => next z' _ hz' (fun r j hr hj => ?_))
      by_cases hrk : r = k
      · subst hrk
        rw [if_pos rfl, ← hA]
        by_cases h8 : j = 8
        · subst h8
          rw [upm_s, UA_8]
        · rw [upm_n _ _ (by omega)]
          rw [if_pos rfl, if_neg h8, UA_j (by omega), hb]; rfl
      · rw [upm_n _ _ (by omega)]
        rw [if_neg hrk, if_neg hrk]
end EXP
