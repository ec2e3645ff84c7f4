/-! ===== bounded untils, the reference ===== -/
def KW (σ z : US) : Prop := z.1 = σ.1 ∧ z.2.1 = σ.2.1 ∧ z.2.2.1 = σ.2.2.1
theorem KW.keep {σ z : US} (h : KW σ z) : KeepM σ z := ⟨fun q _ _ _ _ => by show z.2.2.1 q = σ.2.2.1 q; rw [h.2.2], fun k _ _ => by show z.1 k = σ.1 k; rw [h.1]⟩
section WR
variable {σ : US} {c : CH} {F G : Nat → Bool}
theorem cst_out (ok : okC c) {k t : Nat} (hk : k < cn c) (ht : cn c ≤ t) : cst c k t = 0 := by
  unfold cst
  rw [if_neg (by omega)]
  exact ok.2.2.2.2.2.1 k t (Or.inr ht)
theorem q12_findWithin (h : RM σ c) (ok : okC c) (hF : ∀ b, F b = true → b < cn c) {n : Nat} (hn : n ≤ 6) (hr : rfd c n = false) {i : Nat} (hi : i < cn c) {Q : US → Prop} (hQ : ∀ σ', KeepM σ σ' → Gv σ' (wcn c F G n i) (lcmN c (cn c) ^ n) → Q σ') : wp_X12_findWithin (nI (mk F)) (nI (mk G)) (nI n) (nI i) σ Q := by
  unfold wp_X12_findWithin
  refine q12_multiple h ok ?_
  have hc := ok.1
  have hL := lcmN_pos ok (cn c)
  have l1 := lcmN_le ok (cn c)
  have hpow : ∀ j, j ≤ n → lcmN c (cn c) ^ j ≤ 10 ^ 15 := fun j hj => by
    have h1 : ¬ 10 ^ 15 < lcmN c (cn c) ^ n := by unfold rfd at hr; simpa using hr
    have h2 := pow_mono1 hL hj
    omega
  refine lp_inv (cn c) (fun k t => ∃ z, t = (nI k, z) ∧ KW σ z ∧ ∀ i, i < k → aB z 1 i = lN (wcn c F G 0 i)) ?_ _ ⟨σ, rfl, ⟨rfl, rfl, rfl⟩, fun i hi => absurd hi (Nat.not_lt_zero _)⟩
  rintro k t hk ⟨z, rfl, hkz, hz⟩ P hP
  unfold wp_X12_findWithin_L12
  have hRz := hkz.keep.rm h
  dsimp only
  refine rd_n hRz ?_
  rw [cl0, hRz.n]
  refine pk_le (cn c) k (fun hk2 => ?_) (fun hk2 => ?_)
  · refine lp_inv n (fun j t => ∃ z, t = (lN (lcmN c (cn c) ^ j), nI j, z) ∧ KW σ z ∧ ∀ i, i < cn c → aB z 1 i = lN (wcn c F G j i)) ?_ _ ⟨z, by rw [Nat.pow_zero]; rfl, hkz, fun i hi => hz i (by omega)⟩
    rintro j t hj ⟨z1, rfl, hk1, hz1⟩ P53 hP53
    unfold wp_X12_findWithin_L53
    refine pk_le n j (fun hj2 => ⟨pk_in i 8 (by omega), ?_⟩) (fun hj2 x3 hx3 => ?_)
    · have : j = n := by omega
      subst this
      have hp := hpow j (Nat.le_refl j)
      have hp0 : 0 < lcmN c (cn c) ^ j := Nat.pow_pos hL
      have hw := wcn_le ok (G := G) hF j i (by omega)
      rw [nI_clamp (by omega), hz1 i hi]
      refine q12_give (by omega) (by omega) hp0 (fun σ' hg => hQ σ' (hk1.keep.tr hg.keep) ⟨hg.2.2.1, hg.2.2.2⟩)
    · dsimp only at hx3
      rw [lN_mul, ← Nat.pow_succ] at hx3
      subst hx3
      refine lp_inv (cn c) (fun m t => ∃ z, t = (nI m, z) ∧ KW σ z ∧ (∀ i, i < cn c → aB z 1 i = lN (wcn c F G j i)) ∧ ∀ i, i < m → aB z 2 i = lN (wcn c F G (j + 1) i)) ?_ _ ⟨z1, rfl, hk1, hz1, fun i hi => absurd hi (Nat.not_lt_zero _)⟩
      rintro m t hm ⟨z2, rfl, hk2, hz2, hl2⟩ P69 hP69
      unfold wp_X12_findWithin_L69
      have hR2 := hk2.keep.rm h
      dsimp only
      refine rd_n hR2 ?_
      rw [cl0, hR2.n]
      refine pk_le (cn c) m (fun hm2 => ?_) (fun hm2 => ?_)
      · refine ⟨by decide, by decide, by decide, by decide, by decide, fun z4 hz4 => ?_⟩
        have e8 : (8 : Int32).toNatClampNeg = 8 := by decide
        rw [e8] at hz4
        subst hz4
        rw [li1, nI_add]
        refine hP53 hj2 _ ⟨_, rfl, hk2, fun i hi => ?_⟩
        rw [aB_sB, pk_cpy_in (Nat.zero_le _) (show i < 0 + 8 by omega)]
        have e9 : 0 + (i - 0) = i := by omega
        rw [e9]; exact hl2 i (by omega)
      · -- the sum of a row, and what stands there before
        have inner : ∀ v z3, z3 = uB z2 2 m (lN v) → ((F m && !G m) = true → v = 0) → ((F m && !G m) = false → v = wcn c F G (j + 1) m) → lpW (wp_X12_findWithin_L105 (nI (mk F)) (nI (mk G)) (nI n) (nI i) (lN (lcmN c (cn c))) (lN (lcmN c (cn c) ^ j.succ)) (nI j) (nI m) P P53 P69 Q) (0, z3) := fun v z3 hz3 hv1 hv2 => by
          subst hz3
          have next : ∀ z5, KW σ z5 → (∀ i, i < cn c → aB z5 1 i = lN (wcn c F G j i)) → (∀ i, i < m → aB z5 2 i = lN (wcn c F G (j + 1) i)) → aB z5 2 m = lN (wcn c F G (j + 1) m) → P69 (nI m + 1, z5) := fun z5 a1 a2 a3 a4 => by
            rw [li1, nI_add]
            refine hP69 hm2 _ ⟨z5, rfl, a1, a2, fun i hi => ?_⟩
            by_cases him : i = m
            · subst him; exact a4
            · exact a3 i (by omega)
          refine lp_inv (cn c) (fun q t => ∃ z, t = (nI q, z) ∧ KW σ z ∧ (∀ i, i < cn c → aB z 1 i = lN (wcn c F G j i)) ∧ (∀ i, i < m → aB z 2 i = lN (wcn c F G (j + 1) i)) ∧ aB z 2 m = lN (v + if F m && !G m then lcmN c (cn c) / cdiv c m * sumN (fun t => cst c m t * wcn c F G j t) q else 0)) ?_ _ ⟨_, rfl, hk2, fun i hi => ?_, fun i hi => ?_, ?_⟩
          · rintro q t hq ⟨z4, rfl, hk4, hz4, hl4, hm4⟩ P105 hP105
            unfold wp_X12_findWithin_L105
            have hR4 := hk4.keep.rm h
            dsimp only
            refine rd_n hR4 ?_
            rw [cl0, hR4.n]
            refine pk_le (cn c) q (fun hq2 => ?_) (fun hq2 => ?_)
            · refine next z4 hk4 hz4 hl4 ?_
              rw [hm4]
              have : q = cn c := by omega
              subst this
              cases hfg : F m && !G m
              · rw [hv2 hfg]; rfl
              · rw [hv1 hfg, if_pos rfl, Nat.zero_add]
                rw [Bool.and_eq_true] at hfg
                have hg : G m = false := by simpa using hfg.2
                rw [wcn_s, hg, hfg.1]
                have : sumN (fun t => cst c m t * wcn c F G j t) 8 = sumN (fun t => cst c m t * wcn c F G j t) (cn c) := sumN_tail hc (fun t h1 _ => by rw [cst_out ok hm2 h1, Nat.zero_mul])
                rw [this]; rfl
            · rw [sI_diff]
              refine q12_has (by omega) (br_b (fun hfg => ?_) (fun hfg => ⟨pk_in m 8 (by omega), ?_⟩))
              · refine next z4 hk4 hz4 hl4 ?_
                rw [hm4, hv2 hfg, hfg]; rfl
              · skip
                have d1 := cdiv_le ok m
                have d2 := cdiv_pos c m
                have c1 := cst_lt ok m q
                refine q12_weightOf hR4 ok (by omega) (by omega) (q12_sumOf hR4 ok (by omega) ?_)
                rw [nI_t64 (by omega), nI_t64 (by omega), pk_lDiv (by omega) d2 (by omega), nI_clamp (show m < 2 ^ 31 by omega), nI_clamp (show q < 2 ^ 31 by omega), hm4, hz4 q hq2, hfg]
                refine ⟨lN_ne d2 (by omega), pk_in q 8 (by omega), pk_in m 8 (by omega), fun z10 hz10 => ?_⟩
                rw [lN_mul, lN_mul, lN_add] at hz10
                subst hz10
                rw [li1, nI_add]
                refine hP105 hq2 _ ⟨_, rfl, hk4, fun i hi => ?_, fun i hi => ?_, ?_⟩
                · rw [aB_sB_n _ _ (by decide)]; exact hz4 i hi
                · rw [aB_sB]; exact (if_neg (by omega)).trans (hl4 i hi)
                · rw [aB_sB]
                  refine (if_pos rfl).trans (congrArg lN ?_)
                  rw [if_pos rfl, if_pos hfg, sumN_s]
                  grind
          · rw [aB_sB_n _ _ (by decide)]; exact hz2 i hi
          · rw [aB_sB]; exact (if_neg (by omega)).trans (hl2 i hi)
          · rw [aB_sB]
            refine (if_pos rfl).trans (congrArg lN ?_)
            split
            · show v = v + _ * 0
              omega
            · rfl
        refine q12_has (by omega) (br_b (fun hg => ⟨pk_in m 8 (by omega), fun z6 hz6 => ?_⟩) (fun hg => ⟨pk_in m 8 (by omega), fun z20 hz20 => ?_⟩))
        · rw [nI_clamp (by omega)] at hz6
          refine inner 0 z6 hz6 (fun _ => rfl) (fun hno => ?_)
          rw [hg] at hno
          have : F m = false := by simpa using hno
          rw [wcn_s, hg, this]; rfl
        · rw [nI_clamp (by omega)] at hz20
          refine inner _ z20 hz20 (fun hyes => ?_) (fun _ => ?_)
          · rw [hg] at hyes; simp at hyes
          · rw [wcn_s, hg]; rfl
  · have next : ∀ v z', v = wcn c F G 0 k → z' = uB z 1 k (lN v) → P (nI k + 1, z') := fun v z' hv hz' => by
      subst hz'
      rw [li1, nI_add]
      refine hP hk2 _ ⟨_, rfl, hkz, fun i hi => ?_⟩
      rw [aB_sB]
      by_cases hik : i = k
      · subst hik; rw [← hv]; exact if_pos rfl
      · exact (if_neg hik).trans (hz i (by omega))
    refine q12_has (by omega) (br_b (fun hg => ⟨pk_in k 8 (by omega), fun z78 hz78 => ?_⟩) (fun hg => ⟨pk_in k 8 (by omega), fun z79 hz79 => ?_⟩))
    · rw [nI_clamp (by omega)] at hz78
      exact next 0 _ (by rw [wcn_0, hg]; rfl) hz78
    · rw [nI_clamp (by omega)] at hz79
      exact next 1 _ (by rw [wcn_0, hg]; rfl) hz79
end WR
