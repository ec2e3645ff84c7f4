/-! ===== the reference's steady ===== -/
section S6
variable {σ : US} {c : CH} {G : Nat → Bool}
theorem VS_no {i k : Nat} (h : lowb c k = false) : VS c G i (k + 1) = VS c G i k := by
  have h1 : xS c G k = 0 := by unfold xS; rw [h]; rfl
  have h2 : vS c G i k = 0 := by unfold vS; rw [h1, Int.zero_mul]
  show VS c G i k + (vS c G i k).toNat = _
  rw [h2]; rfl
theorem lowb_lt {k : Nat} (h : lowb c k = true) : k < cn c := (bot_iff.mp (lowb_iff.mp h).1).1
theorem VS_stay {i : Nat} : ∀ m, VS c G i (cn c + m) = VS c G i (cn c)
  | 0 => rfl
  | m + 1 => by
    rw [← Nat.add_assoc, VS_no, VS_stay m]
    cases h : lowb c (cn c + m)
    · rfl
    · have := lowb_lt h; omega
theorem VS_8 (ok : okC c) {i : Nat} : VS c G i 8 = VS c G i (cn c) := by
  have h1 := VS_stay (c := c) (G := G) (i := i) (8 - cn c)
  have h2 : cn c + (8 - cn c) = 8 := by have := ok.1; omega
  rw [h2] at h1; exact h1
theorem nmd_le (ok : okC c) {k : Nat} (h : bot c k = true) : num c G k ≤ den c G k := by
  unfold num den
  exact Nat.div_le_div_right (shT_le G)
theorem den_20 (ok : okC c) {k : Nat} (h : bot c k = true) : den c G k ≤ 20 ^ 8 := by
  refine Nat.le_trans (den_pos (G := G) ok h).2 (Nat.pow_le_pow_right (by decide) (card_8 _))
theorem shB_20 (ok : okC c) {k : Nat} (h : bot c k = true) : shB c (cmp c k) ≤ 20 ^ 8 := Nat.le_trans (shB_le ok (cmp_BC h)) (Nat.pow_le_pow_right (by decide) (card_8 _))
theorem q12_findSteady (h : RM σ c) (ok : okC c) {i : Nat} (hi : i < cn c) {Q : US → Prop} (hQ : ∀ σ', KeepM σ σ' → Gv σ' (VS c G i 8) (WS c G) → Q σ') : wp_X12_findSteady (nI (mk G)) (nI i) σ Q := by
  have hw := WS_bd (G := G) ok
  have hn := ok.1
  have e20 : (20 : Nat) ^ 8 = 25600000000 := by decide
  have e0 : nI (mk (inB c 0)) = 0 := (sI_z _).mpr (fun i _ => by
    cases hx : inB c 0 i
    · rfl
    · obtain ⟨j, hj, _⟩ := inB_iff.mp hx
      exact absurd hj (Nat.not_lt_zero j))
  have g0 : gcd1 0 (WS c G) = WS c G := by unfold gcd1; rw [Nat.gcd_zero_left, if_neg (by omega)]
  unfold wp_X12_findSteady
  refine lp_inv (cn c) (fun k t => ∃ z n d, t = (lN n, lN d, nI (mk (inB c k)), nI k, z) ∧ KeepM σ z ∧ n = VS c G i k / gcd1 (VS c G i k) (WS c G) ∧ d = WS c G / gcd1 (VS c G i k) (WS c G)) ?_ _ ⟨σ, 0, 1, by rw [e0]; rfl, KeepM.rf σ, by show 0 = 0 / _; rw [Nat.zero_div], by show 1 = WS c G / gcd1 0 (WS c G); rw [g0, Nat.div_self hw.1]⟩
  rintro k t hk ⟨z, n, d, rfl, hz, en, ed⟩ P hP
  have hzR := hz.rm h
  have hSF := SF_red (G := G) ok (i := i) (k := k)
  rw [← en, ← ed] at hSF
  obtain ⟨s1, s2, s3⟩ := hSF
  have hV := VS_le (G := G) ok (i := i) (by omega) (k := k) (by omega)
  have hnd := le_of_red hw.1 s1 hV
  have hdW : d ≤ WS c G := Nat.le_of_dvd hw.1 s3
  unfold wp_X12_findSteady_L11
  dsimp only
  refine rd_n hzR ?_
  rw [cl0, hzR.n]
  refine pk_le (cn c) k (fun hk2 => ?_) (fun hk2 => ?_)
  · have hkc : k = cn c := by omega
    subst hkc
    refine q12_give (by omega) (by omega) s2 (fun σ' hg => hQ σ' (hz.tr hg.keep) ?_)
    obtain ⟨r1, r2⟩ := red_eq s2 hw.1 s1
    rw [VS_8 ok]
    exact ⟨by rw [hg.2.2.1, r1], by rw [hg.2.2.2, r2]⟩
  · have hk8 : k < 8 := by omega
    have skip : lowb c k = false → P (lN n, lN d, nI (mk (inB c k)), nI k + 1, z) := fun hl => by
      rw [li1, nI_add]
      refine hP hk2 _ ⟨z, n, d, ?_, hz, by rw [VS_no hl]; exact en, by rw [VS_no hl]; exact ed⟩
      have : mk (inB c (k + 1)) = mk (inB c k) := mk_congr (fun j _ => inB_s0 hl j)
      rw [this]
    have hopn := opn_k (c := c) k
    refine q12_isBottom hzR ok hk2 (br_b (fun hb => skip ?_) (fun hb => ?_))
    · cases hl : lowb c k
      · rfl
      · rw [(lowb_iff.mp hl).1] at hb; exact absurd hb (by decide)
    refine q12_has hk8 (br_n (fun hs => ?_) (fun hs => skip ?_))
    · have hl : lowb c k = true := by rw [← hopn]; unfold opn; rw [hb, hs]; rfl
      have hBC := cmp_BC hb
      refine q12_componentOf hzR ok hk2 (fun x5 hx5 => ?_)
      rw [sI_or] at hx5
      have e5 : mk (fun j => inB c k j || cmp c k j) = mk (inB c (k + 1)) := mk_congr (fun j _ => (inB_s1 hl j).symm)
      rw [e5] at hx5
      subst hx5
      refine q12_all hzR hn ?_
      show wp_X12_findUntil (nI (mk (allS c))) _ _ _ _
      refine q12_findUntil hzR ok (F := allS c) hBC.1 hi (fun u7 hk7 hg7 x8 hx8 x9 hx9 => ?_)
      have hR7 := (hz.tr hk7).rm h
      have d1 := (UA_lim (b := bU (cmp c k)) ok (uU_lk (F := allS c) ok hBC.1) 8 (Nat.le_refl 8))
      have u1 := uU_lim (F := allS c) ok hBC.1 (Nat.le_refl 8) (show i < 8 by omega)
      have u2 := until_le1 (F := allS c) ok hBC.1 (show i < 8 by omega)
      have hstep : ∀ p q, _ → _ := fun p q => step_red (G := G) ok (i := i) (k := k) (p := p) (q := q) (by omega) hk8 hl
      generalize hT : (MM 8 (UA c (uU c (allS c) (cmp c k)) (bU (cmp c k))) 8 i 8).toNat = T at *
      generalize hB : (dd 8 (UA c (uU c (allS c) (cmp c k)) (bU (cmp c k))) 8).toNat = B at *
      have hdl : dd 8 (UA c (uU c (allS c) (cmp c k)) (bU (cmp c k))) 8 ≤ 10 ^ 8 := Int.le_trans d1.2.1 (pow_le_i (tc_le _ 8))
      have hB0 : 0 < B := by omega
      have hB8 : B ≤ 100000000 := by omega
      have hTB : T ≤ B := by omega
      obtain ⟨r1, r2, r3⟩ := red_dvd (a := T) hB0
      rw [hg7.1] at hx8
      rw [hg7.2] at hx9
      have hst := hstep _ _ r3
      have hpq : T / gcd1 T B ≤ B / gcd1 T B := Nat.div_le_div_right hTB
      have hqB : B / gcd1 T B ≤ B := Nat.div_le_self _ _
      generalize T / gcd1 T B = p at *
      generalize B / gcd1 T B = q at *
      subst hx8; subst hx9
      refine q12_findShares hR7 ok hBC (fun u11 hk11 hv11 => ?_)
      have hK11 := (hz.tr hk7).tr hk11
      have hR11 := hK11.rm h
      have eB : sumN (vis c (cmp c k)) (cn c) = shB c (cmp c k) := (sumN_tail hn (fun j hj _ => by
        unfold vis
        cases hc : cmp c k j
        · rfl
        · have := hBC.1 j hc; omega)).symm
      rw [eB]
      have hbB := shB_20 ok hb
      have hdp := (den_pos (G := G) ok hb).1
      have hd20 := den_20 (G := G) ok hb
      have hnl := nmd_le (G := G) ok hb
      have hshT : shT c (cmp c k) G ≤ shB c (cmp c k) := shT_le G
      have hsB0 : 0 < shB c (cmp c k) := (share_eq (G := G) ok hBC (cmp_iff.mpr ⟨rch_refl hk2, rch_refl hk2⟩)).2.2
      refine lp_inv (cn c) (fun m t => t = (lN (sumN (fun j => if G j && cmp c k j then vis c (cmp c k) j else 0) m), nI m)) ?_ _ rfl
      rintro m t hm rfl P93 hP93
      unfold wp_X12_findSteady_L93
      dsimp only
      refine rd_n hR11 ?_
      rw [cl0, hR11.n]
      refine pk_le (cn c) m (fun hm2 => ?_) (fun hm2 => ?_)
      · have hmc : m = cn c := by omega
        subst hmc
        have eT : sumN (fun j => if G j && cmp c k j then vis c (cmp c k) j else 0) (cn c) = shT c (cmp c k) G := by
          unfold shT
          refine Eq.trans (sumN_congr (fun j _ => ?_)) (sumN_tail hn (fun j hj _ => ?_)).symm
          · cases hg : G j
            · rfl
            · cases hc : cmp c k j
              · unfold vis; rw [hc]; rfl
              · rfl
          · unfold vis
            cases hc : cmp c k j
            · split <;> rfl
            · have := hBC.1 j hc; omega
        rw [eT]
        refine q12_give (by omega) (by omega) hsB0 (fun u12 hg12 => ?_)
        have e12a : lJ u12 0 = lN (num c G k) := hg12.2.2.1
        have e12b : lJ u12 1 = lN (den c G k) := hg12.2.2.2
        rw [e12a, e12b, lN_mul, lN_mul]
        have hqd0 : 0 < q * den c G k := Nat.mul_pos r2 hdp
        have hqd : q * den c G k ≤ 100000000 * 25600000000 := Nat.mul_le_mul (by omega) (by omega)
        have hpn : p * num c G k ≤ q * den c G k := Nat.mul_le_mul hpq hnl
        refine q12_give (by omega) (by omega) hqd0 (fun u13 hg13 => ?_)
        obtain ⟨t1, t2⟩ := red_eq hqd0 hw.1 hst
        obtain ⟨t3, t4, t5⟩ := red_dvd (a := (vS c G i k).toNat) hw.1
        have e13a : lJ u13 0 = lN ((vS c G i k).toNat / gcd1 (vS c G i k).toNat (WS c G)) := by rw [hg13.2.2.1, t1]
        have e13b : lJ u13 1 = lN (WS c G / gcd1 (vS c G i k).toNat (WS c G)) := by rw [hg13.2.2.2, t2]
        rw [e13a, e13b]
        have hva : (vS c G i k).toNat ≤ WS c G := by
          have h1 : VS c G i (k + 1) = VS c G i k + (vS c G i k).toNat := rfl
          have h2 := VS_le (G := G) ok (i := i) (by omega) (k := k + 1) (by omega)
          omega
        have hab := le_of_red hw.1 t5 hva
        have hbW : WS c G / gcd1 (vS c G i k).toNat (WS c G) ≤ WS c G := Nat.div_le_self _ _
        generalize (vS c G i k).toNat / gcd1 (vS c G i k).toNat (WS c G) = a at *
        generalize WS c G / gcd1 (vS c G i k).toNat (WS c G) = b at *
        have hsum := sum_red (V := VS c G i k) (v := (vS c G i k).toNat) s2 s1 t5
        refine q12_common (by omega) (by omega) ?_
        have hg0 : 0 < Nat.gcd d b := Nat.gcd_pos_of_pos_left b s2
        have hgd : Nat.gcd d b ≤ d := Nat.le_of_dvd s2 (Nat.gcd_dvd_left d b)
        have hne := lN_ne hg0 (show Nat.gcd d b < 2 ^ 63 by omega)
        refine ⟨hne, hne, hne, ?_⟩
        rw [pk_lDiv (by omega) hg0 (by omega), pk_lDiv (by omega) hg0 (by omega), lN_mul, lN_mul, lN_mul, lN_add]
        have hlcm : d / Nat.gcd d b * b ∣ WS c G := by
          have h1 : d / Nat.gcd d b * b = Nat.lcm d b := by
            unfold Nat.lcm; exact (Nat.div_mul_right_comm (Nat.gcd_dvd_left d b) b)
          rw [h1]; exact Nat.lcm_dvd s3 t3
        have hD0 : 0 < d / Nat.gcd d b * b := Nat.mul_pos (Nat.div_pos hgd hg0) t4
        have hDW := Nat.le_of_dvd hw.1 hlcm
        have hN : n * (b / Nat.gcd d b) + a * (d / Nat.gcd d b) ≤ WS c G * WS c G + WS c G * WS c G := Nat.add_le_add (Nat.mul_le_mul (by omega) (Nat.le_trans (Nat.div_le_self _ _) hbW)) (Nat.mul_le_mul (by omega) (Nat.le_trans (Nat.div_le_self _ _) hdW))
        have hN2 : n * (b / Nat.gcd d b) + a * (d / Nat.gcd d b) ≤ d / Nat.gcd d b * b := by
          refine le_of_red hw.1 hsum ?_
          exact VS_le (G := G) ok (i := i) (by omega) (k := k + 1) (by omega)
        generalize hNN : n * (b / Nat.gcd d b) + a * (d / Nat.gcd d b) = N at *
        generalize hDD : d / Nat.gcd d b * b = D at *
        refine q12_give (by omega) (by omega) hD0 (fun u15 hg15 x16 hx16 x17 hx17 => ?_)
        obtain ⟨w1, w2⟩ := red_eq hD0 hw.1 hsum
        rw [hg15.2.2.1] at hx16
        rw [hg15.2.2.2] at hx17
        subst hx16; subst hx17
        rw [li1, nI_add]
        refine hP hk2 _ ⟨u15, _, _, rfl, ((hK11.tr hg12.keep).tr hg13.keep).tr hg15.keep, ?_, ?_⟩
        · exact w1
        · exact w2
      · have hm8 : m < 8 := by omega
        rw [sI_and]
        refine q12_has hm8 (br_b (fun hb0 x hx => ?_) (fun hb1 => ⟨pk_in m 8 hm8, fun x hx => ?_⟩))
        · rw [li64_0, lN_add] at hx
          subst hx
          rw [li1, nI_add]
          refine hP93 hm2 _ ?_
          rw [sumN_s, hb0]; rfl
        · rw [nI_clamp (by omega), hv11 m hm2, lN_add] at hx
          subst hx
          rw [li1, nI_add]
          refine hP93 hm2 _ ?_
          rw [sumN_s, hb1]; rfl
    · cases hl : lowb c k
      · rfl
      · rw [← hopn] at hl; unfold opn at hl; rw [hs] at hl; simp at hl
end S6
