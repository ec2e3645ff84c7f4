/-! ===== best paths of the reference: what stands is reduced ===== -/
theorem gcd1_red {a b : Nat} (hb : 0 < b) : gcd1 (a / gcd1 a b) (b / gcd1 a b) = 1 := by
  obtain ⟨e, hle⟩ := gcd1_le (a := a) hb
  have hg : 0 < Nat.gcd a b := Nat.gcd_pos_of_pos_right a hb
  rw [e]
  have ha : a / Nat.gcd a b * Nat.gcd a b = a := Nat.div_mul_cancel (Nat.gcd_dvd_left a b)
  have hb2 : b / Nat.gcd a b * Nat.gcd a b = b := Nat.div_mul_cancel (Nat.gcd_dvd_right a b)
  have h1 : Nat.gcd (a / Nat.gcd a b) (b / Nat.gcd a b) * Nat.gcd a b ∣ a := by
    have h := Nat.mul_dvd_mul_right (Nat.gcd_dvd_left (a / Nat.gcd a b) (b / Nat.gcd a b)) (Nat.gcd a b)
    rw [ha] at h; exact h
  have h2 : Nat.gcd (a / Nat.gcd a b) (b / Nat.gcd a b) * Nat.gcd a b ∣ b := by
    have h := Nat.mul_dvd_mul_right (Nat.gcd_dvd_right (a / Nat.gcd a b) (b / Nat.gcd a b)) (Nat.gcd a b)
    rw [hb2] at h; exact h
  have h3 := Nat.le_of_dvd hg (Nat.dvd_gcd h1 h2)
  have h4 : 0 < Nat.gcd (a / Nat.gcd a b) (b / Nat.gcd a b) := by
    refine Nat.gcd_pos_of_pos_right _ ?_
    rcases Nat.eq_zero_or_pos (b / Nat.gcd a b) with h0 | h0
    · rw [h0, Nat.zero_mul] at hb2; omega
    · exact h0
  have h5 : Nat.gcd (a / Nat.gcd a b) (b / Nat.gcd a b) = 1 := by
    rcases Nat.lt_or_ge 1 (Nat.gcd (a / Nat.gcd a b) (b / Nat.gcd a b)) with h6 | h6
    · have h7 := Nat.mul_lt_mul_of_pos_right h6 hg
      omega
    · omega
  unfold gcd1
  rw [h5]; rfl
section BRG
variable {σ : US} {c : CH} {F G U : Nat → Bool}
def RpG (c : CH) (z : US) (v : BV) : Prop := RpR c z v ∧ ∀ s, s < cn c → gcd1 (v.2.1 s) (v.2.2 s) = 1
theorem stv_g {v : BV} (h : ∀ s, s < cn c → gcd1 (v.2.1 s) (v.2.2 s) = 1) {s l a b : Nat} (hg : gcd1 a b = 1) : ∀ x, x < cn c → gcd1 ((stv v s l a b).2.1 x) ((stv v s l a b).2.2 x) = 1 := fun x hx => by
  by_cases hxs : x = s
  · subst hxs
    obtain ⟨g1, g2, g3⟩ := stv_s v x l a b
    rw [g2, g3]; exact hg
  · obtain ⟨g1, g2, g3⟩ := stv_n v l a b hxs
    rw [g2, g3]; exact h x hx
theorem q12_findBestG (h : RM σ c) (ok : okC c) (hF : ∀ b, F b = true → b < cn c) (hG : ∀ b, G b = true → b < cn c) {Q : US → Prop} (hQ : ∀ z v, KeepM σ z → RpG c z v → BI c (uB2 F G) G v → CvA c (uB2 F G) G v → Q z) : wp_X12_findBest (nI (mk F)) (nI (mk G)) σ Q := by
  have hn := ok.1
  have hU : ∀ s, uB2 F G s = true → s < cn c := fun s hs => hF s (by unfold uB2 at hs; simp at hs; exact hs.1)
  have hcz : ∀ s j, uB2 F G s = true → cn c ≤ j → cst c s j = 0 := fun s j hs hj => by
    rcases Nat.eq_zero_or_pos (cst c s j) with h0 | h0
    · exact h0
    · have := suc_lt ok (hU s hs) (suc_iff.mpr h0); omega
  unfold wp_X12_findBest
  refine lp_inv (cn c) (fun k t => ∃ z, t = (nI k, z) ∧ KeepM σ z ∧ ∀ s, s < k → aB z 4 s = lN (if G s then 1 else 0) ∧ aB z 5 s = lN 1 ∧ aA z 18 s = nI (if G s then 0 else 8)) ?_ _ ⟨σ, rfl, KeepM.rf σ, fun s hs => absurd hs (Nat.not_lt_zero _)⟩
  rintro k t hk ⟨z, rfl, hkz, hz⟩ P hP
  unfold wp_X12_findBest_L2
  have hRz := hkz.rm h
  dsimp only
  refine rd_n hRz ?_
  rw [cl0, hRz.n]
  refine pk_le (cn c) k (fun hk2 => ?_) (fun hk2 => ?_)
  · have hkc : k = cn c := by omega
    subst hkc
    have hB0 : BI c (uB2 F G) G (fun s => if G s then 1 else 0, fun s => if G s then 1 else 0, fun _ => 1) := fun s hs => by
      refine ⟨fun hg => ⟨if_pos hg, if_pos hg⟩, fun h0 => ?_, Nat.one_pos, ?_, show 1 ≤ 10 ^ 7 by decide⟩
      · have hg : G s = true := by
          cases hg : G s
          · dsimp only at h0; rw [hg] at h0; exact absurd h0 (by decide)
          · rfl
        dsimp only
        rw [hg]
        exact ⟨1, 1, ⟨all8_iff.mpr hs, hg, rfl, rfl⟩, rfl, by decide, by decide, by decide⟩
      · dsimp only; split <;> decide
    refine lp_inv 9 (fun r t => ∃ z v m, t = (nI m, z) ∧ KeepM σ z ∧ RpG c z v ∧ BI c (uB2 F G) G v ∧ ((m = 1 ∧ r ≤ 8 ∧ Cv c (uB2 F G) G r v) ∨ (m = 0 ∧ CvA c (uB2 F G) G v))) ?_ _ ⟨z, (fun s => if G s then 1 else 0, fun s => if G s then 1 else 0, fun _ => 1), 1, rfl, hkz, ⟨fun s hs => ?_, fun s _ => by dsimp only; cases G s <;> decide⟩, hB0, Or.inl ⟨rfl, by omega, Cv_0 hB0⟩⟩
    · rintro r t hr ⟨z2, v2, m, rfl, hk2, hR2, hB2, hm⟩ P66 hP66
      unfold wp_X12_findBest_L66
      rcases hm with ⟨rfl, hr8, hC2⟩ | ⟨rfl, hA2⟩
      · refine ⟨fun z => absurd (show nI 1 = 0 from z) (by decide), fun _ => ?_⟩
        -- a pass
        refine lp_inv (cn c) (fun s t => ∃ z v m, t = (nI m, nI s, z) ∧ KeepM σ z ∧ RpG c z v ∧ PI c (uB2 F G) G r s 0 v ∧ m ≤ 1 ∧ (7 ≤ r → m = 0) ∧ (m = 0 → ∀ a j, a < s → j < 8 → Stq c (uB2 F G) a j v v)) ?_ _ ⟨z2, v2, 0, rfl, hk2, hR2, PI_0 hB2 hC2, by omega, fun _ => rfl, fun _ a j ha => absurd ha (Nat.not_lt_zero _)⟩
        rintro s t hs ⟨z3, v3, m3, rfl, hk3, hR3, hP3, hm1, hm7, hmf⟩ P75 hP75
        unfold wp_X12_findBest_L75
        have hRz3 := hk3.rm h
        dsimp only
        refine rd_n hRz3 ?_
        rw [cl0, hRz3.n]
        refine pk_le (cn c) s (fun hs2 => ?_) (fun hs2 => ?_)
        · have hsc : s = cn c := by omega
          subst hsc
          have hfill : ∀ d, cn c + d ≤ 8 → PI c (uB2 F G) G r (cn c + d) 0 v3 := fun d => by
            induction d with
            | zero => exact fun _ => hP3
            | succ d ih =>
              intro hd
              have h1 := ih (by omega)
              exact PI_row ⟨h1.1, h1.2.1, PC_fill h1.2.2.1 (fun hu => by have h5 : cn c + d < cn c := hU _ hu; omega), h1.2.2.2⟩
          have h8 := hfill (8 - cn c) (by omega)
          have e8 : cn c + (8 - cn c) = 8 := by omega
          rw [e8] at h8
          have hCr := PI_end h8
          refine hP66 (by omega) _ ⟨z3, v3, m3, rfl, hk3, hR3, hP3.1, ?_⟩
          by_cases hm0 : m3 = 0
          · refine Or.inr ⟨hm0, fix_all ok uB2_G hP3.1 (fun a j ha hj => ?_)⟩
            by_cases hac : a < cn c
            · exact hmf hm0 a j hac hj
            · exact Or.inl ⟨fun hx => hac (hU a hx.1), rfl⟩
          · exact Or.inl ⟨by omega, by
              rcases Nat.lt_or_ge r 7 with h1 | h1
              · omega
              · exact absurd (hm7 h1) hm0, hCr⟩
        · have hs8 : s < 8 := by omega
          refine lp_inv (cn c) (fun j t => ∃ z v m, t = (nI m, nI j, z) ∧ KeepM σ z ∧ RpG c z v ∧ PI c (uB2 F G) G r s j v ∧ m ≤ 1 ∧ (7 ≤ r → m = 0) ∧ (m = 0 → (∀ a j, a < s → j < 8 → Stq c (uB2 F G) a j v v) ∧ ∀ i, i < j → Stq c (uB2 F G) s i v v)) ?_ _ ⟨z3, v3, m3, rfl, hk3, hR3, hP3, hm1, hm7, fun h0 => ⟨hmf h0, fun i hi => absurd hi (Nat.not_lt_zero _)⟩⟩
          rintro j t hj ⟨z4, v4, m4, rfl, hk4, hR4, hP4, hq1, hq7, hqf⟩ P89 hP89
          unfold wp_X12_findBest_L89
          have hRz4 := hk4.rm h
          dsimp only
          refine rd_n hRz4 ?_
          rw [cl0, hRz4.n]
          -- the row is done
          have done : (∀ i, j ≤ i → i < 8 → ¬ (uB2 F G s = true ∧ 0 < cst c s i)) → P75 (nI m4, nI s + 1, z4) := fun hd => by
            rw [li1, nI_add]
            refine hP75 hs2 _ ⟨z4, v4, m4, rfl, hk4, hR4, PI_row ⟨hP4.1, hP4.2.1, PC_fill hP4.2.2.1 (fun hu i h1 h2 => ?_), hP4.2.2.2⟩, hq1, hq7, fun h0 a i ha hi => ?_⟩
            · rcases Nat.eq_zero_or_pos (cst c s i) with h0 | h0
              · exact h0
              · exact absurd ⟨hu, h0⟩ (hd i h1 h2)
            · by_cases has : a = s
              · subst has
                by_cases hij : i < j
                · exact (hqf h0).2 i hij
                · exact Or.inl ⟨fun hx => hd i (by omega) hi ⟨hx.1, hx.2.1⟩, rfl⟩
              · exact (hqf h0).1 a i (by omega) hi
          refine pk_le (cn c) j (fun hj2 => done (fun i h1 h2 hx => ?_)) (fun hj2 => ?_)
          · have := hcz s i hx.1 (by omega); omega
          · have hj8 : j < 8 := by omega
            rw [sI_diff]
            show wp_X12_has (nI (mk (uB2 F G))) (nI s) _
            have stay : Stq c (uB2 F G) s j v4 v4 → P89 (nI m4, nI j + 1, z4) := fun hq => by
              rw [li1, nI_add]
              refine hP89 hj2 _ ⟨z4, v4, m4, rfl, hk4, hR4, PI_step ok uB2_G hP4 hs8 hj8 hq, hq1, hq7, fun h0 => ⟨(hqf h0).1, fun i hi => ?_⟩⟩
              by_cases hij : i = j
              · subst hij; exact hq
              · exact (hqf h0).2 i (by omega)
            have hB4 := hP4.1
            obtain ⟨r1, r2, r3, r4⟩ := hR4.1 j hj2
            obtain ⟨s1, s2, s3, s4⟩ := hR4.1 s hs2
            obtain ⟨_, aj, bj, pj, qj⟩ := hB4 j hj8
            have hBs := (hB4 s hs8).2.2.1
            have hc := cst_lt ok s j
            have hd := cdiv_le ok s
            have hLj := BI_len hB4 hj8
            have hLs := BI_len hB4 hs8
            refine q12_has hs8 (br_b (fun hb => done (fun i _ _ hx => by rw [hb] at hx; exact absurd hx.1 (by decide))) (fun hb => ?_))
            refine q12_weightOf hRz4 ok hs8 hj8 ⟨fun hz0 => stay (Or.inl ⟨fun hx => ?_, rfl⟩), fun hnz => ⟨pk_in j 8 hj8, ?_⟩⟩
            · rw [li0, nI_leI (by omega) (by omega)] at hz0; omega
            · rw [li0, nI_leI (by omega) (by omega)] at hnz
              rw [nI_clamp (by omega), r1, lg_cmp_le, li64_0, pk_lLE (by omega) (by omega)]
              refine ⟨fun hz0 => stay (Or.inl ⟨fun hx => ?_, rfl⟩), fun hA => ?_⟩
              · obtain ⟨_, _, _, _, h5, _⟩ := aj hx.2.2; omega
              · have hLp : 0 < v4.1 j := by
                  rcases Nat.eq_zero_or_pos (v4.1 j) with h0 | h0
                  · have := r4 h0; omega
                  · exact h0
                have hsj : sto v4 j = v4.1 j - 1 := by unfold sto; rw [if_neg (by omega)]
                have hX : 0 < cst c s j * v4.2.1 j * v4.2.2 s := Nat.mul_pos (Nat.mul_pos (by omega) (by omega)) hBs
                have low : ¬ (v4.2.1 s * (cdiv c s * v4.2.2 j) < cst c s j * v4.2.1 j * v4.2.2 s ∨ (cst c s j * v4.2.1 j * v4.2.2 s = v4.2.1 s * (cdiv c s * v4.2.2 j) ∧ sto v4 j + 1 < sto v4 s)) → dm v4 s (v4.1 j) (cst c s j * v4.2.1 j) (cdiv c s * v4.2.2 j) := fun hno => by
                  have hL0 : 0 < v4.1 s := by
                    rcases Nat.eq_zero_or_pos (v4.1 s) with h0 | h0
                    · refine absurd (Or.inl ?_) hno
                      rw [s4 h0, Nat.zero_mul]; exact hX
                    · exact h0
                  have hss : sto v4 s = v4.1 s - 1 := by unfold sto; rw [if_neg (by omega)]
                  refine ⟨hL0, ?_⟩
                  by_cases he : cst c s j * v4.2.1 j * v4.2.2 s = v4.2.1 s * (cdiv c s * v4.2.2 j)
                  · refine Or.inr ⟨he, ?_⟩
                    rcases Nat.lt_or_ge (v4.1 j + 1) (v4.1 s) with h1 | h1
                    · exact absurd (Or.inr ⟨he, by omega⟩) hno
                    · exact h1
                  · refine Or.inl ?_
                    rcases Nat.lt_or_ge (v4.2.1 s * (cdiv c s * v4.2.2 j)) (cst c s j * v4.2.1 j * v4.2.2 s) with h1 | h1
                    · exact absurd (Or.inl h1) hno
                    · omega
                refine q12_compared hR4.1 hRz4 ok hB4 hs2 hj2 (fun hup => ⟨fun z => absurd z (by decide), fun _ => ?_⟩) (fun he => ⟨fun _ => stay (Or.inr (Or.inl ⟨low (fun hx => by rcases hx with h1 | h1 <;> omega), rfl⟩)), fun z => absurd (by decide) z⟩) (fun hlt => ⟨fun _ => stay (Or.inr (Or.inl ⟨low (fun hx => by rcases hx with h1 | h1 <;> rcases hlt with h2 | h2 <;> omega), rfl⟩)), fun z => absurd (by decide) z⟩)
                have hnd : ¬ dm v4 s (v4.1 j) (cst c s j * v4.2.1 j) (cdiv c s * v4.2.2 j) := fun hd => by
                  obtain ⟨d0, d1⟩ := hd
                  have hss : sto v4 s = v4.1 s - 1 := by unfold sto; rw [if_neg (by omega)]
                  rcases hup with h1 | h1 <;> rcases d1 with d1 | d1 <;> omega
                -- the change
                refine q12_weightOf hRz4 ok hs8 hj8 ⟨pk_in j 8 hj8, q12_sumOf hRz4 ok hs8 ⟨pk_in j 8 hj8, ?_⟩⟩
                rw [r2, nI_t64 (by omega), nI_t64 (by omega), lN_mul, lN_mul]
                have m1 : cst c s j * v4.2.1 j ≤ 9 * 9 ^ 7 := Nat.mul_le_mul hc pj
                have m2 : cdiv c s * v4.2.2 j ≤ 10 * 10 ^ 7 := Nat.mul_le_mul hd qj
                have p1 : 0 < cst c s j * v4.2.1 j := Nat.mul_pos (by omega) (by omega)
                have p2 : 0 < cdiv c s * v4.2.2 j := Nat.mul_pos (cdiv_pos c s) bj
                refine q12_give (by omega) (by omega) p2 (fun u6 hg6 => ⟨pk_in s 8 hs8, fun z7 h7 => ⟨pk_in s 8 hs8, fun z8 h8 => ⟨pk_in j 8 hj8, pk_in s 8 hs8, fun z9 h9 => ?_⟩⟩⟩)
                rw [nI_clamp (by omega)] at h7 h8
                have e7j : lJ z7 1 = lJ u6 1 := by rw [h7]
                rw [hg6.2.2.1] at h7
                rw [e7j, hg6.2.2.2] at h8
                have hR6 : RpR c u6 v4 := fun x hx => by
                  have := hR4.1 x hx
                  show u6.2.2.2 4 x = _ ∧ u6.2.2.2 5 x = _ ∧ u6.2.2.1 18 x = _ ∧ _
                  rw [hg6.2.1]; exact this
                have e18 : aA z8 18 = aA z4 18 := by
                  rw [h8, h7]; show u6.2.2.1 18 = _; rw [hg6.2.1]
                rw [nI_clamp (show s < 2 ^ 31 by omega), e18, r3, hsj, li1, nI_add] at h9
                have el : v4.1 j - 1 + 1 = v4.1 j := by omega
                rw [el] at h9
                obtain ⟨q1, q2, q3⟩ := red_dvd (a := cst c s j * v4.2.1 j) p2
                have gp := gcd1_pos (cst c s j * v4.2.1 j) (cdiv c s * v4.2.2 j)
                have hα : 0 < cst c s j * v4.2.1 j / gcd1 (cst c s j * v4.2.1 j) (cdiv c s * v4.2.2 j) := by
                  rcases Nat.eq_zero_or_pos (cst c s j * v4.2.1 j / gcd1 (cst c s j * v4.2.1 j) (cdiv c s * v4.2.2 j)) with h0 | h0
                  · rw [h0, Nat.zero_mul] at q3
                    have := Nat.mul_pos p1 q2; omega
                  · exact h0
                have hStq : Stq c (uB2 F G) s j v4 (stv v4 s (v4.1 j + 1) (cst c s j * v4.2.1 j / gcd1 (cst c s j * v4.2.1 j) (cdiv c s * v4.2.2 j)) (cdiv c s * v4.2.2 j / gcd1 (cst c s j * v4.2.1 j) (cdiv c s * v4.2.2 j))) := Or.inr (Or.inr ⟨hb, by omega, hLp, hnd, _, _, q3, hα, Nat.div_le_self _ _, q2, Nat.div_le_self _ _, rfl⟩)
                have hPn := PI_step ok uB2_G hP4 hs8 hj8 hStq
                have hln : v4.1 j + 1 ≤ 8 := by
                  have := BI_len hPn.1 hs8
                  rw [(stv_s v4 s _ _ _).1] at this; exact this
                have hK9 : KeepM u6 z9 := by
                  rw [h9, h8, h7]
                  exact ⟨fun q _ _ _ h18 => aA_sA_n _ _ h18, fun _ _ _ => rfl⟩
                have e1 : (1 : Int32) = nI 1 := rfl
                rw [li1, nI_add]
                refine hP89 hj2 _ ⟨z9, _, 1, rfl, (hk4.tr hg6.keep).tr hK9, ⟨RpR_put hR6 h7 h8 h9 (by omega), stv_g hR4.2 (gcd1_red p2)⟩, hPn, Nat.le_refl _, fun h7r => ?_, fun z => absurd z (by decide)⟩
                exact absurd (no_upd ok hB4 (Cv_all ok h7r hB4 hP4.2.1) hs8 hj8 hb (by omega) hLp) hnd
      · exact ⟨fun _ => hQ z2 v2 hk2 hR2 hB2 hA2, fun z => absurd rfl z⟩
    · obtain ⟨a1, a2, a3⟩ := hz s hs
      refine ⟨a1, a2, ?_, ?_⟩
      · rw [a3]
        have key : ∀ x : Nat, (if G s = true then 0 else 8) = (if (if G s = true then 1 else 0) = 0 then 8 else (if G s = true then 1 else 0) - 1) := fun _ => by
          cases G s <;> rfl
        exact congrArg nI (key 0)
      · dsimp only
        cases G s
        · exact fun _ => rfl
        · intro h; exact absurd h (by decide)
  · have hk8 : k < 8 := by omega
    have hj30 : ∀ x, (x = if G k then 1 else 0) → wp_X12_findBest_J30 (nI (mk F)) (nI (mk G)) (nI k) z (lN x) (nI k) P Q := fun x hx => by
      unfold wp_X12_findBest_J30
      refine ⟨pk_in k 8 hk8, fun z69 h69 => ⟨pk_in k 8 hk8, fun z70 h70 => ?_⟩⟩
      rw [nI_clamp (by omega)] at h69 h70
      have hgo : ∀ y, (y = if G k then 0 else 8) → P (nI k + 1, uA z70 18 k (nI y)) := fun y hy => by
        rw [li1, nI_add]
        have hK : KeepM z (uA z70 18 k (nI y)) := by
          rw [h70, h69]; exact ⟨fun q _ _ _ h18 => aA_sA_n _ _ h18, fun _ _ _ => rfl⟩
        refine hP hk2 _ ⟨_, rfl, hkz.tr hK, fun s hs => ?_⟩
        have e0 : aB (uA z70 18 k (nI y)) 4 s = if s = k then lN x else aB z 4 s := by
          show aB z70 4 s = _
          rw [h70, aB_sB_n _ _ (by decide), h69, aB_sB]; rfl
        have e1 : aB (uA z70 18 k (nI y)) 5 s = if s = k then lN 1 else aB z 5 s := by
          show aB z70 5 s = _
          rw [h70, aB_sB, h69, aB_sB_n _ _ (by decide)]; rfl
        have e2 : aA (uA z70 18 k (nI y)) 18 s = if s = k then nI y else aA z 18 s := by
          rw [aA_sA, h70, h69]; rfl
        rw [e0, e1, e2]
        by_cases hsk : s = k
        · subst hsk
          rw [if_pos rfl, if_pos rfl, if_pos rfl, ← hx, ← hy]; exact ⟨rfl, rfl, rfl⟩
        · rw [if_neg hsk, if_neg hsk, if_neg hsk]; exact hz s (by omega)
      refine q12_has hk8 (br_b (fun hb => ⟨pk_in k 8 hk8, fun z72 h72 => ?_⟩) (fun hb => ⟨pk_in k 8 hk8, fun z73 h73 => ?_⟩))
      · rw [nI_clamp (by omega)] at h72
        subst h72; exact hgo 8 (by rw [hb]; rfl)
      · rw [nI_clamp (by omega)] at h73
        subst h73; exact hgo 0 (by rw [hb]; rfl)
    exact q12_has hk8 (br_b (fun hb => hj30 0 (by rw [hb]; rfl)) (fun hb => hj30 1 (by rw [hb]; rfl)))
end BRG
