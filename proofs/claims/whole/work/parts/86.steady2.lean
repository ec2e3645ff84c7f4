/-! ===== the class works the bottom components out ===== -/
/-- the shares that stand in the model's rows for the states of the components before k -/
def SHR (c : CH) (G : Nat → Bool) (k : Nat) (z : US) : Prop := ∀ i, i < 8 → inB c k i = true → ∃ j, lowb c j = true ∧ cmp c j i = true ∧ aB z 0 i = lN (num c G j) ∧ aB z 1 i = lN (den c G j)
section S2
variable {σ ε κ : US} {c : CH} {G : Nat → Bool}
theorem scl_63 (ok : okC c) (k : Nat) : scl c G k ≤ 20 ^ 8 := by
  have h1 := (scl_le (G := G) ok k).2
  have h2 : card (inB c k) ≤ 8 := by
    have := sumN_le (f := fun i => if inB c k i then 1 else 0) (b := 1) (n := 8) (fun i _ => by split <;> omega)
    unfold card; omega
  exact Nat.le_trans h1 (Nat.pow_le_pow_right (by decide) h2)
theorem q8_steadyA (h : RC κ c) (ok : okC c) {Q : US × US → Prop} (hQ : ∀ z e P16, SHR c G 8 z → wp_X8_solveSteady_L16 (nI (mk (bot c))) (nI (mk G)) κ Q P16 (nI (mk (opn c 8)), lN (scl c G 8), nI 8, z, e)) : wp_X8_solveSteady (nI (mk G)) σ ε κ Q := by
  unfold wp_X8_solveSteady
  refine q2_bottomStates h ok ?_
  have e0 : mk (bot c) = mk (opn c 0) := mk_congr (fun i _ => by
    unfold opn
    have : inB c 0 i = false := by
      cases hx : inB c 0 i
      · rfl
      · obtain ⟨j, hj, _⟩ := inB_iff.mp hx
        exact absurd hj (Nat.not_lt_zero j)
    rw [this]; simp)
  refine lp_inv 8 (fun k t => ∃ z e, t = (nI (mk (opn c k)), lN (scl c G k), nI k, z, e) ∧ SHR c G k z) ?_ _ ⟨σ, ε, by rw [← e0]; rfl, fun i _ hi => by
    obtain ⟨j, hj, _⟩ := inB_iff.mp hi
    exact absurd hj (Nat.not_lt_zero j)⟩
  rintro k t hk ⟨z, e, rfl, hz⟩ P hP
  by_cases hk8 : k = 8
  · subst hk8; exact hQ z e P hz
  · have hk2 : k < 8 := by omega
    unfold wp_X8_solveSteady_L16
    refine pk_le 8 k (fun z => by omega) (fun _ => ?_)
    refine q_contains hk2 (br_b (fun hb => ?_) (fun hb => ?_))
    · rw [opn_k] at hb
      rw [li1, nI_add]
      refine hP hk2 _ ⟨z, e, ?_, fun i hi hin => hz i hi (by rw [← inB_s0 hb i]; exact hin)⟩
      have e1 : mk (opn c k) = mk (opn c (k + 1)) := mk_congr (fun i _ => by unfold opn; rw [inB_s0 hb i])
      have e2 : scl c G (k + 1) = scl c G k := by show (if lowb c k then _ else _) = _; rw [hb]; rfl
      rw [e1, e2]
    · rw [opn_k] at hb
      have hbot := (lowb_iff.mp hb).1
      have hkn := (bot_iff.mp hbot).1
      have hS := cmp_BC hbot
      have hkk : cmp c k k = true := cmp_iff.mpr ⟨rch_refl hkn, rch_refl hkn⟩
      have er : mk (rch c k) = mk (cmp c k) := mk_congr (fun o _ => bot_cmp hbot o)
      refine q2_reachedFrom h ok hkn ?_
      rw [er]
      refine q8_solveFlow h ok hS hkk (fun e1 he1 => q8_shareOut (G := G) h ok hS hkk he1 (fun z1 hin hout => ⟨pk_in k 8 hk2, ?_⟩))
      rw [nI_clamp (by omega), (hin k hk2 hkk).2]
      obtain ⟨d1, d2⟩ := den_pos (G := G) ok hbot
      have es : scl c G (k + 1) = Nat.lcm (scl c G k) (den c G k) := by show (if lowb c k then _ else _) = _; rw [hb]; rfl
      have b0 := scl_63 (G := G) ok k
      have b1 := scl_63 (G := G) ok (k + 1)
      have b2 : den c G k ≤ Nat.lcm (scl c G k) (den c G k) := Nat.le_of_dvd (Nat.lcm_pos (scl_le (G := G) ok k).1 d1) (Nat.dvd_lcm_right _ _)
      have e20 : (20 : Nat) ^ 8 = 25600000000 := by decide
      rw [es] at b1
      refine q_commonMultiple (a := scl c G k) (b := den c G k) (by omega) (by omega) d1 (by omega) (fun x37 hx37 => ?_)
      rw [sI_diff] at hx37
      subst hx37
      rw [li1, nI_add]
      refine hP hk2 _ ⟨z1, e1, ?_, fun i hi hi2 => ?_⟩
      · have e1 : mk (fun i => opn c k i && !cmp c k i) = mk (opn c (k + 1)) := mk_congr (fun i _ => by
          unfold opn; rw [inB_s1 hb i]
          cases bot c i <;> cases inB c k i <;> cases cmp c k i <;> rfl)
        rw [e1, es]
      · rw [inB_s1 hb i] at hi2
        cases hc : cmp c k i
        · rw [hc, Bool.or_false] at hi2
          obtain ⟨j, j1, j2, j3, j4⟩ := hz i hi hi2
          obtain ⟨o0, o1⟩ := hout i hi hc
          exact ⟨j, j1, j2, o0.trans j3, o1.trans j4⟩
        · obtain ⟨m0, m1⟩ := hin i hi hc
          exact ⟨k, hb, hc, m0, m1⟩
end S2
