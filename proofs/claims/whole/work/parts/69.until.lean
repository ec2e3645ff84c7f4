/-! ===== the class solves an until ===== -/
theorem mul_bd {d m X Y : Int} (h0 : 0 ≤ d) (h1 : d ≤ X) (h2 : -Y ≤ m) (h3 : m ≤ Y) : -(X * Y) ≤ d * m ∧ d * m ≤ X * Y := by
  have hY : 0 ≤ Y := by omega
  have a := Int.mul_le_mul_of_nonneg_left h3 h0
  have b := Int.mul_le_mul_of_nonneg_right h1 hY
  have e := Int.mul_le_mul_of_nonneg_left h2 h0
  rw [Int.mul_neg] at e
  omega
theorem pow_le_i {m n : Nat} (h : m ≤ n) : (10 : Int) ^ m ≤ 10 ^ n := by
  have h1 : (10 : Nat) ^ m ≤ 10 ^ n := Nat.pow_le_pow_right (by decide) h
  have h2 : ((10 ^ m : Nat) : Int) ≤ ((10 ^ n : Nat) : Int) := by exact_mod_cast h1
  rw [Int.natCast_pow, Int.natCast_pow] at h2; exact h2
theorem dom_diag {n : Nat} {d : Int} {M : Nat → Nat → Int} (h : Dom n d M) {i : Nat} (hi : i < n) : 0 ≤ M i i := by
  have h1 := sL_le1 (nd_n n) (mem_n hi) (f := M i) (fun q hq hqi => h.1 i q hi (List.mem_range.mp hq) (Ne.symm hqi))
  have h2 := h.2.1 i hi
  omega
theorem dom_bd {n : Nat} {d : Int} {M : Nat → Nat → Int} (h : Dom n d M) (hd : 0 < d) {i j : Nat} (hi : i < n) (hj : j < n) : -(10 * d) ≤ M i j ∧ M i j ≤ 10 * d := by
  by_cases hij : i = j
  · subst hij
    have := dom_diag h hi
    have := h.2.2 i hi
    omega
  · have := h.1 i j hi hj hij
    have := dom_off h hi hj hij
    omega
theorem lI_nn {x : Int} (h : 0 ≤ x) : lI x = lN x.toNat := by rw [lI_N, Int.toNat_of_nonneg h]
section UNT
variable {σ ε κ : US} {c : CH} {U : Nat → Bool} {b : Nat → Int}
/-- the determinants of the class's system stay small -/
theorem UA_lim (ok : okC c) (hL : LK c U) : ∀ p, p ≤ 8 → 0 < dd 8 (UA c U b) p ∧ dd 8 (UA c U b) p ≤ 10 ^ tc (fun k => !U k) p ∧ ∀ i j, i < 8 → j < 8 → -(10 * dd 8 (UA c U b) p) ≤ MM 8 (UA c U b) p i j ∧ MM 8 (UA c U b) p i j ≤ 10 * dd 8 (UA c U b) p := by
  intro p hp
  obtain ⟨w, hw, hW⟩ := UA_wts (b := b) ok hL
  obtain ⟨h1, h2, _⟩ := dom_all (UA_dom ok) hw hW p hp
  exact ⟨h1, dd_le (UA_dom ok) hw hW (tr := fun k => !U k) (fun k hk ht j hj => UA_triv hk ht j hj) p hp, fun i j hi hj => dom_bd h2 h1 hi hj⟩
/-- what a run of the elimination needs: a bound of the right sides -/
theorem UA_run (ok : okC c) (hL : LK c U) {X : Int} (hX : ∀ p i, p < 8 → i < 8 → -X ≤ MM 8 (UA c U b) (p + 1) i 8 ∧ MM 8 (UA c U b) (p + 1) i 8 ≤ X) (hX2 : 10 ^ tc (fun k => !U k) 8 * X < 2 ^ 63) : (∀ p, p < 8 → 0 < dd 8 (UA c U b) p ∧ in64 (dd 8 (UA c U b) p)) ∧ ∀ p i j, p < 8 → i < 8 → j < 9 → i ≠ p → in64 (dd 8 (UA c U b) p * MM 8 (UA c U b) (p + 1) i j) := by
  have t8 : ∀ p, p ≤ 8 → (10 : Int) ^ tc (fun k => !U k) p ≤ 10 ^ 8 := fun p hp => pow_le_i (Nat.le_trans (tc_le _ p) hp)
  refine ⟨fun p hp => ?_, fun p i j hp hi hj _ => ?_⟩
  · obtain ⟨h1, h2, _⟩ := UA_lim (b := b) ok hL p (by omega)
    have := t8 p (by omega)
    exact ⟨h1, by unfold in64; omega⟩
  · obtain ⟨h1, h2, _⟩ := UA_lim (b := b) ok hL p (by omega)
    obtain ⟨g1, g2, g3⟩ := UA_lim (b := b) ok hL (p + 1) (by omega)
    by_cases h8 : j = 8
    · subst h8
      obtain ⟨x1, x2⟩ := hX p i hp hi
      have := mul_bd (Int.le_of_lt h1) (Int.le_trans h2 (pow_le_i (tc_mono _ (show p ≤ 8 by omega)))) x1 x2
      unfold in64; omega
    · obtain ⟨x1, x2⟩ := g3 i j hi (by omega)
      have e1 := t8 p (by omega)
      have e2 := t8 (p + 1) (by omega)
      have := mul_bd (X := 10 ^ 8) (Y := 10 ^ 9) (Int.le_of_lt h1) (by omega) (show -(10 ^ 9) ≤ MM 8 (UA c U b) (p + 1) i j by omega) (by omega)
      unfold in64; omega
/-- a right side that the rows outweigh, times a scale -/
theorem UA_right (ok : okC c) (hL : LK c U) {sc : Int} (hs : 0 ≤ sc) (hb : ∀ i, i < 8 → 0 ≤ b i ∧ b i ≤ if U i then 0 else sc) {p i : Nat} (hp : p ≤ 8) (hi : i < 8) : 0 ≤ MM 8 (UA c U b) p i 8 ∧ MM 8 (UA c U b) p i 8 ≤ sc * (10 * dd 8 (UA c U b) p) := by
  obtain ⟨w, hw, hW⟩ := UA_wts (b := b) ok hL
  refine right1_le (UA_dom ok) hw hW hs (fun i hi => ?_) hp hi
  rw [UA_8, UA_row ok hi]
  have := hb i hi
  split
  · rename_i hU; rw [if_pos hU] at this; omega
  · rename_i hU; rw [if_neg hU] at this; omega
/-- the unknowns of an until, and its right side -/
noncomputable def uU (c : CH) (F G : Nat → Bool) (i : Nat) : Bool := can c F G i && !G i
def bU (G : Nat → Bool) (i : Nat) : Int := if G i then 1 else 0
theorem uU_lk (ok : okC c) {F G : Nat → Bool} (hG : ∀ b, G b = true → b < cn c) : LK c (uU c F G) := LK_of ok hG (fun s hs => by
  unfold uU at hs
  simpa using hs)
theorem bU_ok (F G : Nat → Bool) (i : Nat) (_hi : i < 8) : 0 ≤ bU G i ∧ bU G i ≤ if uU c F G i then 0 else 1 := by
  unfold bU uU
  cases hG : G i
  · simp only [Bool.false_eq_true, if_false]
    split <;> decide
  · simp
theorem uU_lim (ok : okC c) {F G : Nat → Bool} (hG : ∀ b, G b = true → b < cn c) {p i : Nat} (hp : p ≤ 8) (hi : i < 8) : 0 ≤ MM 8 (UA c (uU c F G) (bU G)) p i 8 ∧ MM 8 (UA c (uU c F G) (bU G)) p i 8 ≤ 10 ^ 9 := by
  obtain ⟨h1, h2⟩ := UA_right (b := bU G) ok (uU_lk (F := F) ok hG) (sc := 1) (by decide) (bU_ok F G) hp hi
  obtain ⟨_, h3, _⟩ := UA_lim (b := bU G) ok (uU_lk (F := F) ok hG) p hp
  have h4 : (10 : Int) ^ tc (fun k => !uU c F G k) p ≤ 10 ^ 8 := pow_le_i (Nat.le_trans (tc_le _ p) hp)
  exact ⟨h1, by omega⟩
theorem q8_solveUntil (h : RC κ c) (ok : okC c) {F G : Nat → Bool} (hG : ∀ b, G b = true → b < cn c) {Q : US × US → Prop} (hQ : ∀ σ' ε', FR σ' 8 (fun i => (MM 8 (UA c (uU c F G) (bU G)) 8 i 8).toNat) (fun _ => (dd 8 (UA c (uU c F G) (bU G)) 8).toNat) → Q (σ', ε')) : wp_X8_solveUntil (nI (mk F)) (nI (mk G)) σ ε κ Q := by
  unfold wp_X8_solveUntil
  refine q2_canReach h ok hG (fun x2 hx2 => ?_)
  rw [sI_diff] at hx2
  have hx3 : x2 = nI (mk (uU c F G)) := hx2
  subst hx3
  have hLK := uU_lk (F := F) ok hG
  generalize hA : UA c (uU c F G) (bU G) = A at hQ
  refine q3_clear (fun ε1 h1 => ?_)
  refine lp_inv 8 (fun k t => ∃ z N, t = (nI k, z) ∧ EQ z N ∧ ∀ r j, r < 8 → j < 9 → N r j = if r < k then A r j else if r = j then 1 else 0) ?_ _ ⟨ε1, _, rfl, h1, fun r j _ _ => by rw [if_neg (Nat.not_lt_zero r)]⟩
  rintro k t hk ⟨z, N, rfl, hz, hN⟩ P hP
  unfold wp_X8_solveUntil_L24
  refine pk_le 8 k (fun hk2 => ?_) (fun hk2 => ?_)
  · have hzA : EQ z A := hz.of (fun r j hr hj => by rw [hN r j hr hj, if_pos (by omega)])
    have hrun := UA_run (b := bU G) ok hLK (X := 10 ^ 9) (fun p i hp hi => by
      have := uU_lim (F := F) ok hG (show p + 1 ≤ 8 by omega) hi
      omega) (by
      have h4 : (10 : Int) ^ tc (fun k => !uU c F G k) 8 ≤ 10 ^ 8 := pow_le_i (tc_le _ 8)
      omega)
    have hlim := UA_lim (b := bU G) ok hLK 8 (Nat.le_refl 8)
    have hri : ∀ i, i < 8 → 0 ≤ MM 8 A 8 i 8 ∧ MM 8 A 8 i 8 ≤ 10 ^ 9 := fun i hi => by rw [← hA]; exact uU_lim (F := F) ok hG (Nat.le_refl 8) hi
    rw [hA] at hrun hlim
    have h8 : (10 : Int) ^ tc (fun k => !uU c F G k) 8 ≤ 10 ^ 8 := pow_le_i (tc_le _ 8)
    refine q3_solve hzA hrun.1 hrun.2 (fun ε4 h4 => ?_)
    refine lp_inv 8 (fun m t => ∃ z, t = (nI m, z) ∧ FR z m (fun i => (MM 8 A 8 i 8).toNat) (fun _ => (dd 8 A 8).toNat)) ?_ _ ⟨σ, rfl, fun i hi => absurd hi (Nat.not_lt_zero _)⟩
    rintro m t hm ⟨z2, rfl, hz2⟩ P84 hP84
    unfold wp_X8_solveUntil_L84
    refine pk_le 8 m (fun hm2 => ?_) (fun hm2 => ?_)
    · have : m = 8 := by omega
      subst this; exact hQ z2 ε4 hz2
    · refine q3_solution h4 hm2 (q3_determinant h4 ?_)
      have e0 : MM 8 A 8 0 0 = dd 8 A 8 := by rw [MM_done (by decide) (Nat.le_refl 8) (by decide)]; exact if_pos rfl
      obtain ⟨r1, r2⟩ := hri m hm2
      rw [e0]
      refine q8_put hm2 hz2 (lI_nn r1) (lI_nn (by omega)) (by omega) (by omega) (Or.inr (by omega)) (fun σ' hσ' => ?_)
      rw [li1, nI_add]
      exact hP84 hm2 _ ⟨σ', rfl, hσ'⟩
  · -- one row
    have next : ∀ z' N', EQ z' N' → (∀ r j, r < 8 → j < 9 → N' r j = if r = k then A r j else N r j) → P (nI k + 1, z') := fun z' N' h1 h2 => by
      rw [li1, nI_add]
      refine hP hk2 _ ⟨z', N', rfl, h1, fun r j hr hj => ?_⟩
      rw [h2 r j hr hj]
      by_cases hrk : r = k
      · rw [if_pos hrk, if_pos (by omega)]
      · rw [if_neg hrk, hN r j hr hj]
        by_cases hlt : r < k
        · rw [if_pos hlt, if_pos (by omega)]
        · rw [if_neg hlt, if_neg (show ¬ r < k + 1 by omega)]
    refine q_contains hk2 (br_b (fun hb => ?_) (fun hb => ?_))
    · refine q_contains hk2 (br_b (fun hg => ?_) (fun hg => ?_))
      · refine next z N hz (fun r j hr hj => ?_)
        by_cases hrk : r = k
        · subst hrk
          rw [if_pos rfl, hN r j hr hj, if_neg (Nat.lt_irrefl r), ← hA]
          by_cases h8 : j = 8
          · subst h8
            rw [UA_8, if_neg (by omega)]
            unfold bU; rw [hg]; rfl
          · rw [UA_j (by omega), hb]; rfl
        · rw [if_neg hrk]
      · refine q3_putRight hz hk2 (x := 1) rfl (fun z' hz' => next z' _ hz' (fun r j hr hj => ?_))
        by_cases hrk : r = k
        · subst hrk
          rw [if_pos rfl, ← hA]
          by_cases h8 : j = 8
          · subst h8
            rw [upm_s, UA_8]
            unfold bU; rw [hg]; rfl
          · rw [upm_n _ _ (by omega), UA_j (by omega), hb, hN r j hr hj, if_neg (Nat.lt_irrefl r)]; rfl
        · rw [upm_n _ _ (by omega), if_neg hrk]
    · have hkc : k < cn c := by
        unfold uU at hb
        rw [Bool.and_eq_true] at hb
        exact (can_iff.mp hb.1).2
      refine q8_balance h ok hz hk2 hkc (fun z' hz' => next z' _ hz' (fun r j hr hj => ?_))
      by_cases hrk : r = k
      · subst hrk
        rw [if_pos rfl, if_pos rfl, ← hA]
        by_cases h8 : j = 8
        · subst h8
          rw [if_pos rfl, UA_8]
          unfold uU at hb
          unfold bU
          cases hg : G r
          · rfl
          · rw [hg] at hb; simp at hb
        · rw [if_neg h8, UA_j (by omega), hb]; rfl
      · rw [if_neg hrk, if_neg hrk]
end UNT
