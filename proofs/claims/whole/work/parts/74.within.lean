/-! ===== bounded untils ===== -/
theorem sumN_s {f : Nat → Nat} {n : Nat} : sumN f (n + 1) = sumN f n + f n := rfl
section WI
variable {σ ε κ : US} {c : CH} {F G : Nat → Bool}
theorem wcn_0 {s : Nat} : wcn c F G 0 s = if G s then 1 else 0 := rfl
theorem wcn_s {k s : Nat} : wcn c F G (k + 1) s = if G s then lcmN c (cn c) ^ (k + 1) else if F s then lcmN c (cn c) / cdiv c s * sumN (fun t => cst c s t * wcn c F G k t) 8 else 0 := rfl
theorem cst_lt (ok : okC c) (i j : Nat) : cst c i j ≤ 9 := by
  have h1 := ok.2.1 i j
  unfold cst; split <;> omega
theorem q8_countBefore (h : RC κ c) (ok : okC c) {k s : Nat} (hs : s < 8) (hz : ∀ i, i < 8 → aB σ 2 i = lN (wcn c F G k i)) {Q : Int64 → Prop} (hQ : Q (lN (lcmN c (cn c) / cdiv c s * sumN (fun t => cst c s t * wcn c F G k t) 8))) : wp_X8_countBefore (nI s) (lN (lcmN c (cn c))) σ ε κ Q := by
  unfold wp_X8_countBefore
  refine q2_divisorOf h ok hs ?_
  have d1 := cdiv_le ok s
  have d2 := cdiv_pos c s
  have l1 := lcmN_le ok (cn c)
  refine ⟨fun _ => ?_, fun z => ?_⟩
  · refine lp_for 8 (fun j => (lN (sumN (fun t => cst c s t * wcn c F G k t) j), nI j)) (fun j hj P hP => ?_) (fun P => ?_)
    · unfold wp_X8_countBefore_L23
      refine pk_le 8 j (fun z => by omega) (fun _ => ?_)
      refine q2_stepWeight h ok hs hj ⟨pk_in j 8 hj, fun x hx => ?_⟩
      have c1 := cst_lt ok s j
      rw [nI_clamp (by omega), nI_t64 (by omega), hz j hj, lN_mul] at hx
      dsimp only at hx
      rw [lN_add] at hx
      subst hx
      rw [nI_1]; exact hP
    · unfold wp_X8_countBefore_L23
      refine pk_le 8 8 (fun _ => ?_) (fun z => by omega)
      rw [nI_t64 (by omega)]
      refine ⟨lN_ne d2 (by omega), ?_⟩
      rw [pk_lDiv (by omega) d2 (by omega)]
      dsimp only
      rw [lN_mul]; exact hQ
  · rw [li0, nI_eq (by omega) (by decide)] at z; omega
theorem q8_countWithin (h : RC κ c) (ok : okC c) (hF : ∀ b, F b = true → b < cn c) {n : Nat} (hn : n ≤ 6) (hr : rfd c n = false) {Q : US → Prop} (hQ : ∀ σ', FR σ' 8 (wcn c F G n) (fun _ => lcmN c (cn c) ^ n) → Q σ') : wp_X8_countWithin (nI (mk F)) (nI (mk G)) (nI n) σ ε κ Q := by
  unfold wp_X8_countWithin
  refine q2_commonDivisors h ok ?_
  have hL := lcmN_pos ok (cn c)
  have hpow : ∀ j, j ≤ n → lcmN c (cn c) ^ j ≤ 10 ^ 15 := fun j hj => by
    have h1 : ¬ 10 ^ 15 < lcmN c (cn c) ^ n := by unfold rfd at hr; simpa using hr
    have h2 := pow_mono1 hL hj
    omega
  -- the counts of no step
  refine lp_inv 8 (fun k t => ∃ z, t = (nI k, z) ∧ ∀ i, i < k → aB z 2 i = lN (wcn c F G 0 i)) ?_ _ ⟨σ, rfl, fun i hi => absurd hi (Nat.not_lt_zero _)⟩
  rintro k t hk ⟨z, rfl, hz⟩ P hP
  unfold wp_X8_countWithin_L15
  refine pk_le 8 k (fun hk2 => ?_) (fun hk2 => ?_)
  · have hz8 : ∀ i, i < 8 → aB z 2 i = lN (wcn c F G 0 i) := fun i hi => hz i (by omega)
    refine lp_inv n (fun j t => ∃ z, t = (lN (lcmN c (cn c) ^ j), nI j, z) ∧ ∀ i, i < 8 → aB z 2 i = lN (wcn c F G j i)) ?_ _ ⟨z, by rw [Nat.pow_zero]; rfl, hz8⟩
    rintro j t hj ⟨z1, rfl, hz1⟩ P52 hP52
    have fin : j = n → lpW (wp_X8_countWithin_L190 (lN (lcmN c (cn c) ^ j)) ε κ P P52 Q) (0, z1) := fun hjn => by
      subst hjn
      have hp := hpow j (Nat.le_refl j)
      have hp0 : 0 < lcmN c (cn c) ^ j := Nat.pow_pos hL
      refine lp_inv 8 (fun m t => ∃ z, t = (nI m, z) ∧ FR z m (wcn c F G j) (fun _ => lcmN c (cn c) ^ j) ∧ ∀ i, i < 8 → aB z 2 i = lN (wcn c F G j i)) ?_ _ ⟨z1, rfl, fun i hi => absurd hi (Nat.not_lt_zero _), hz1⟩
      rintro m t hm ⟨z2, rfl, hf2, hz2⟩ P190 hP190
      unfold wp_X8_countWithin_L190
      refine pk_le 8 m (fun hm2 => ?_) (fun hm2 => ⟨pk_in m 8 hm2, ?_⟩)
      · have : m = 8 := by omega
        subst this; exact hQ z2 hf2
      · rw [nI_clamp (by omega), hz2 m hm2]
        have hw := wcn_le ok (G := G) hF j m hm2
        refine q8_putz hm2 (by omega) (by omega) (Or.inr hp0) ?_
        rw [li1, nI_add]
        refine hP190 hm2 _ ⟨_, rfl, hf2.put, fun i hi => ?_⟩
        rw [aB_sB_n _ _ (by decide), aB_sB_n _ _ (by decide)]; exact hz2 i hi
    unfold wp_X8_countWithin_L52
    refine pk_le n j (fun hj2 => fin (by omega)) (fun hj2 => pk_le 6 j (fun hj3 => by omega) (fun _ x10 hx10 => ?_))
    dsimp only at hx10
    rw [lN_mul, ← Nat.pow_succ] at hx10
    subst hx10
    refine lp_inv 8 (fun m t => ∃ z, t = (nI m, z) ∧ (∀ i, i < 8 → aB z 2 i = lN (wcn c F G j i)) ∧ ∀ i, i < m → aB z 3 i = lN (wcn c F G (j + 1) i)) ?_ _ ⟨z1, rfl, hz1, fun i hi => absurd hi (Nat.not_lt_zero _)⟩
    rintro m t hm ⟨z2, rfl, hz2, hl2⟩ P75 hP75
    unfold wp_X8_countWithin_L75
    refine pk_le 8 m (fun hm2 => ?_) (fun hm2 => ?_)
    · refine lp_inv 8 (fun q t => ∃ z, t = (nI q, z) ∧ (∀ i, i < 8 → aB z 3 i = lN (wcn c F G (j + 1) i)) ∧ ∀ i, i < q → aB z 2 i = lN (wcn c F G (j + 1) i)) ?_ _ ⟨z2, rfl, fun i hi => hl2 i (by omega), fun i hi => absurd hi (Nat.not_lt_zero _)⟩
      rintro q t hq ⟨z3, rfl, hz3, hl3⟩ P154 hP154
      unfold wp_X8_countWithin_L154
      refine pk_le 8 q (fun hq2 => ?_) (fun hq2 => ⟨pk_in q 8 hq2, pk_in q 8 hq2, fun z11 hz11 => ?_⟩)
      · rw [li1, nI_add]
        exact hP52 hj2 _ ⟨z3, rfl, fun i hi => hl3 i (by omega)⟩
      · rw [nI_clamp (by omega), hz3 q hq2] at hz11
        subst hz11
        rw [li1, nI_add]
        refine hP154 hq2 _ ⟨_, rfl, fun i hi => ?_, fun i hi => ?_⟩
        · rw [aB_sB_n _ _ (by decide)]; exact hz3 i hi
        · rw [aB_sB]
          by_cases hiq : i = q
          · subst hiq; exact if_pos rfl
          · exact (if_neg hiq).trans (hl3 i (by omega))
    · have next : ∀ v z', v = wcn c F G (j + 1) m → z' = uB z2 3 m (lN v) → P75 (nI m + 1, z') := fun v z' hv hz' => by
        subst hz'
        rw [li1, nI_add]
        refine hP75 hm2 _ ⟨_, rfl, fun i hi => ?_, fun i hi => ?_⟩
        · rw [aB_sB_n _ _ (by decide)]; exact hz2 i hi
        · rw [aB_sB]
          by_cases him : i = m
          · subst him; rw [← hv]; exact if_pos rfl
          · exact (if_neg him).trans (hl2 i (by omega))
      have stay : (F m && !G m) = false → wp_X8_countWithin_J105 (nI (mk F)) (nI (mk G)) (nI n) (lN (lcmN c (cn c))) (lN (lcmN c (cn c) ^ j.succ)) (nI j) (nI m) z2 ε κ 0 P52 P75 Q := fun hno => by
        unfold wp_X8_countWithin_J105
        refine ⟨fun _ => ?_, fun z => absurd rfl z⟩
        refine q_contains hm2 (br_b (fun hg => ⟨pk_in m 8 hm2, fun z18 hz18 => ?_⟩) (fun hg => ⟨pk_in m 8 hm2, fun z19 hz19 => ?_⟩))
        · rw [nI_clamp (by omega)] at hz18
          refine next 0 _ ?_ hz18
          rw [wcn_s, hg]
          have : F m = false := by rw [hg] at hno; simpa using hno
          rw [this]; rfl
        · rw [nI_clamp (by omega)] at hz19
          refine next (lcmN c (cn c) ^ (j + 1)) _ ?_ hz19
          rw [wcn_s, hg]; rfl
      refine q_contains hm2 (br_b (fun hf => ?_) (fun hf => ?_))
      · exact stay (by rw [hf]; rfl)
      · refine q_contains hm2 (br_n (fun hg => ?_) (fun hg => ?_))
        · unfold wp_X8_countWithin_J105
          refine ⟨fun z => absurd z (by decide), fun _ => ?_⟩
          refine q8_countBefore h ok hm2 hz2 ⟨pk_in m 8 hm2, fun z22 hz22 => ?_⟩
          rw [nI_clamp (by omega)] at hz22
          refine next _ _ ?_ hz22
          rw [wcn_s, hg, hf]; rfl
        · exact stay (by rw [hf, hg]; rfl)
  · have next : ∀ v z', v = wcn c F G 0 k → z' = uB z 2 k (lN v) → P (nI k + 1, z') := fun v z' hv hz' => by
      subst hz'
      rw [li1, nI_add]
      refine hP hk2 _ ⟨_, rfl, fun i hi => ?_⟩
      rw [aB_sB]
      by_cases hik : i = k
      · subst hik; rw [← hv]; exact if_pos rfl
      · exact (if_neg hik).trans (hz i (by omega))
    refine q_contains hk2 (br_b (fun hg => ⟨pk_in k 8 hk2, fun z80 hz80 => ?_⟩) (fun hg => ⟨pk_in k 8 hk2, fun z81 hz81 => ?_⟩))
    · rw [nI_clamp (by omega)] at hz80
      exact next 0 _ (by rw [wcn_0, hg]; rfl) hz80
    · rw [nI_clamp (by omega)] at hz81
      exact next 1 _ (by rw [wcn_0, hg]; rfl) hz81
end WI
