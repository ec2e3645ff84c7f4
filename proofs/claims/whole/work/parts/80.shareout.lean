/-! ===== the class's shares ===== -/
/-- the visits that the class counts -/
def cvs (c : CH) (S : Nat → Bool) (l k : Nat) : Nat := if S k then cdiv c k * (MM 8 (FA c S l) 8 k 8).toNat else 0
def shT (c : CH) (S G : Nat → Bool) : Nat := sumN (fun i => if G i then vis c S i else 0) 8
def shB (c : CH) (S : Nat → Bool) : Nat := sumN (vis c S) 8
section SO
variable {σ ε κ : US} {c : CH} {S G : Nat → Bool} {l : Nat}
theorem flow_nn (ok : okC c) (hS : BC c S) (hl : S l = true) {i : Nat} (hi : i < 8) : 0 ≤ MM 8 (FA c S l) 8 i 8 ∧ MM 8 (FA c S l) 8 i 8 ≤ 25600000000 := by
  have h1 := flow_cof ok hS hl hi
  have h2 := cof_bd ok hS hl
  have h3 := ((FA_run ok hS hl).1 8 (Nat.le_refl 8)).1
  have h4 := MM_bd (n := 8) (A := FA c S l) (b := 20) (by decide) 8 i 8 (fun q hq => FA_nrm ok hS hl q (by omega))
  have e20 : (20 : Nat) ^ 8 = 25600000000 := by decide
  have h5 : 0 ≤ (if S i then cof (ul S (cn c)) (LC c) i else 0) := by
    split
    · rename_i hi2; exact Int.le_of_lt (cof_bd ok hS hi2).1
    · exact Int.le_refl _
  have h6 := Int.mul_nonneg h5 (Int.le_of_lt h3)
  rw [h1] at h6
  exact ⟨i_le h2.1 (by rw [Int.mul_zero]; exact h6), by omega⟩
theorem vis_cvs (ok : okC c) (hS : BC c S) (hl : S l = true) {i : Nat} (hi : i < 8) : vis c S i * (dd 8 (FA c S l) 8).toNat = (cof (ul S (cn c)) (LC c) l).toNat * cvs c S l i := by
  unfold vis cvs
  cases hs : S i
  · simp
  · have h1 := flow_cof ok hS hl hi
    rw [hs, if_pos rfl] at h1
    have h2 := cof_bd ok hS hl
    have h3 := ((FA_run ok hS hl).1 8 (Nat.le_refl 8)).1
    have h4 := cof_bd ok hS hs
    obtain ⟨h5, _⟩ := flow_nn ok hS hl hi
    have h6 : (cof (ul S (cn c)) (LC c) i).toNat * (dd 8 (FA c S l) 8).toNat = (cof (ul S (cn c)) (LC c) l).toNat * (MM 8 (FA c S l) 8 i 8).toNat := by
      have : (((cof (ul S (cn c)) (LC c) i).toNat * (dd 8 (FA c S l) 8).toNat : Nat) : Int) = (((cof (ul S (cn c)) (LC c) l).toNat * (MM 8 (FA c S l) 8 i 8).toNat : Nat) : Int) := by
        rw [Int.natCast_mul, Int.natCast_mul, Int.toNat_of_nonneg (Int.le_of_lt h4.1), Int.toNat_of_nonneg (Int.le_of_lt h3), Int.toNat_of_nonneg (Int.le_of_lt h2.1), Int.toNat_of_nonneg h5]
        exact h1
      exact_mod_cast this
    rw [if_pos rfl, if_pos rfl]
    grind
/-- the same share on both sides -/
theorem share_eq (ok : okC c) (hS : BC c S) (hl : S l = true) : shT c S G * sumN (cvs c S l) 8 = sumN (fun i => if G i then cvs c S l i else 0) 8 * shB c S ∧ 0 < sumN (cvs c S l) 8 ∧ 0 < shB c S := by
  have hl8 : l < 8 := by have := hS.1 l hl; have := ok.1; omega
  have h3 := ((FA_run ok hS hl).1 8 (Nat.le_refl 8)).1
  have h2 := cof_bd ok hS hl
  have e1 : sumN (fun i => (dd 8 (FA c S l) 8).toNat * (if G i then vis c S i else 0)) 8 = sumN (fun i => (cof (ul S (cn c)) (LC c) l).toNat * (if G i then cvs c S l i else 0)) 8 := sumN_congr (fun i hi => by
    split
    · rw [Nat.mul_comm, vis_cvs ok hS hl hi]
    · simp)
  have e2 : sumN (fun i => (dd 8 (FA c S l) 8).toNat * vis c S i) 8 = sumN (fun i => (cof (ul S (cn c)) (LC c) l).toNat * cvs c S l i) 8 := sumN_congr (fun i hi => by
    rw [Nat.mul_comm, vis_cvs ok hS hl hi])
  rw [sumN_mul, sumN_mul] at e1 e2
  have p2 : 0 < shB c S := by
    have g1 : vis c S l ≤ shB c S := sumN_get hl8
    have g2 : 0 < vis c S l := by
      unfold vis; rw [if_pos hl]
      exact Nat.mul_pos (by omega) (cdiv_pos c l)
    omega
  have d0 : 0 < (dd 8 (FA c S l) 8).toNat := by omega
  have c0 : 0 < (cof (ul S (cn c)) (LC c) l).toNat := by omega
  change (dd 8 (FA c S l) 8).toNat * shT c S G = _ at e1
  change (dd 8 (FA c S l) 8).toNat * shB c S = _ at e2
  generalize (dd 8 (FA c S l) 8).toNat = d at *
  generalize (cof (ul S (cn c)) (LC c) l).toNat = q at *
  generalize sumN (cvs c S l) 8 = b at *
  generalize sumN (fun i => if G i then cvs c S l i else 0) 8 = a at *
  generalize shB c S = B at *
  generalize shT c S G = T at *
  refine ⟨?_, ?_, p2⟩
  · refine Nat.eq_of_mul_eq_mul_left (Nat.mul_pos d0 c0) ?_
    calc d * q * (T * b) = (d * T) * (q * b) := by grind
      _ = (q * a) * (d * B) := by rw [e1, ← e2]
      _ = d * q * (a * B) := by grind
  · rcases Nat.eq_zero_or_pos b with hb | hb
    · rw [hb, Nat.mul_zero] at e2
      have := Nat.mul_pos d0 p2
      omega
    · exact hb
theorem q8_shareOut (h : RC κ c) (ok : okC c) (hS : BC c S) (hl : S l = true) (hE : EQ ε (MM 8 (FA c S l) 8)) {Q : US → Prop} (hQ : ∀ σ', (∀ i, i < 8 → S i = true → aB σ' 0 i = lN (shT c S G / gcd1 (shT c S G) (shB c S)) ∧ aB σ' 1 i = lN (shB c S / gcd1 (shT c S G) (shB c S))) → (∀ i, i < 8 → S i = false → aB σ' 0 i = aB σ 0 i ∧ aB σ' 1 i = aB σ 1 i) → Q σ') : wp_X8_shareOut (nI (mk S)) (nI (mk G)) σ ε κ Q := by
  unfold wp_X8_shareOut
  obtain ⟨s1, s2, s3⟩ := share_eq (G := G) ok hS hl
  obtain ⟨r1, r2⟩ := red_eq s3 s2 s1
  have cb : ∀ i, i < 8 → cvs c S l i ≤ 256000000000 := fun i hi => by
    obtain ⟨f1, f2⟩ := flow_nn ok hS hl hi
    unfold cvs
    split
    · have := Nat.mul_le_mul (cdiv_le ok i) (show (MM 8 (FA c S l) 8 i 8).toNat ≤ 25600000000 by omega)
      omega
    · omega
  have b1 : sumN (cvs c S l) 8 ≤ 256000000000 * 8 := sumN_le cb
  have b2 : sumN (fun i => if G i then cvs c S l i else 0) 8 ≤ 256000000000 * 8 := sumN_le (fun i hi => by
    have := cb i hi
    split <;> omega)
  refine lp_for 8 (fun j => (lN (sumN (fun i => if G i then cvs c S l i else 0) j), lN (sumN (cvs c S l) j), nI j)) (fun j hj P hP => ?_) (fun P => ?_)
  · unfold wp_X8_shareOut_L8
    refine pk_le 8 j (fun z => by omega) (fun _ => ?_)
    dsimp only
    obtain ⟨f1, f2⟩ := flow_nn ok hS hl hj
    rw [sumN_s, sumN_s] at hP
    refine q_contains hj (br_b (fun hs => ?_) (fun hs => ?_))
    · have e : cvs c S l j = 0 := by unfold cvs; rw [hs]; rfl
      rw [nI_1]
      rw [e] at hP
      simpa using hP
    · have d1 := cdiv_le ok j
      refine q2_divisorOf h ok hj (q3_solution hE hj ?_)
      have e : cvs c S l j = cdiv c j * (MM 8 (FA c S l) 8 j 8).toNat := by unfold cvs; rw [if_pos hs]
      intro x13 hx13 x14 hx14
      rw [nI_t64 (by omega), lI_nn f1, lN_mul, ← e] at hx13
      subst hx13
      rw [lN_add] at hx14
      subst hx14
      refine q_contains hj (br_b (fun hg x hx => ?_) (fun hg x hx => ?_))
      · rw [li64_0, lN_add] at hx
        subst hx
        rw [nI_1]
        rw [hg] at hP; exact hP
      · rw [lN_add] at hx
        subst hx
        rw [nI_1]
        rw [hg] at hP; exact hP
  · unfold wp_X8_shareOut_L8
    refine pk_le 8 8 (fun _ => ?_) (fun z => by omega)
    dsimp only
    refine lp_inv 8 (fun k t => ∃ z, t = (nI k, z) ∧ (∀ i, i < k → S i = true → aB z 0 i = lN (shT c S G / gcd1 (shT c S G) (shB c S)) ∧ aB z 1 i = lN (shB c S / gcd1 (shT c S G) (shB c S))) ∧ ∀ i, i < 8 → (S i = false ∨ k ≤ i) → aB z 0 i = aB σ 0 i ∧ aB z 1 i = aB σ 1 i) ?_ _ ⟨σ, rfl, fun i hi => absurd hi (Nat.not_lt_zero _), fun i _ _ => ⟨rfl, rfl⟩⟩
    rintro k t hk ⟨z, rfl, hz, ho⟩ P80 hP80
    unfold wp_X8_shareOut_L80
    refine pk_le 8 k (fun hk2 => ?_) (fun hk2 => ?_)
    · have : k = 8 := by omega
      subst this
      exact hQ z (fun i hi hs => hz i hi hs) (fun i hi hs => ho i hi (Or.inl hs))
    · refine q_contains hk2 (br_b (fun hs => ?_) (fun hs => ?_))
      · rw [li1, nI_add]
        refine hP80 hk2 _ ⟨z, rfl, fun i hi hsi => ?_, fun i hi hor => ho i hi ?_⟩
        · have : i ≠ k := fun zz => by rw [zz, hs] at hsi; exact absurd hsi (by decide)
          exact hz i (by omega) hsi
        · rcases hor with h1 | h1
          · exact Or.inl h1
          · exact Or.inr (by omega)
      · refine q8_putz hk2 (by omega) (by omega) (Or.inr s2) ?_
        rw [← r1, ← r2, li1, nI_add]
        have e0 : ∀ x y, aB (uB (uB z 0 k x) 1 k y) 0 = vp_updL (aB z 0) k x := fun x y => (aB_sB_n _ _ (by decide)).trans (aB_sB z 0 _)
        have e1 : ∀ x y, aB (uB (uB z 0 k x) 1 k y) 1 = vp_updL (aB z 1) k y := fun x y => (aB_sB _ 1 _).trans (by rw [aB_sB_n z _ (by decide)])
        refine hP80 hk2 _ ⟨_, rfl, fun i hi hsi => ?_, fun i hi hor => ?_⟩
        · rw [e0, e1]
          by_cases hik : i = k
          · subst hik; exact ⟨if_pos rfl, if_pos rfl⟩
          · obtain ⟨m0, m1⟩ := hz i (by omega) hsi
            exact ⟨(if_neg hik).trans m0, (if_neg hik).trans m1⟩
        · have hik : ¬ i = k := fun zz => by
            rcases hor with h1 | h1
            · rw [zz, hs] at h1; exact absurd h1 (by decide)
            · omega
          rw [e0, e1]
          obtain ⟨m0, m1⟩ := ho i hi (by
            rcases hor with h1 | h1
            · exact Or.inl h1
            · exact Or.inr (by omega))
          exact ⟨(if_neg hik).trans m0, (if_neg hik).trans m1⟩
end SO
