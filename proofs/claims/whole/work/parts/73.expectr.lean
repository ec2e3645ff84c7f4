/-! ===== the reference's expected reward is the class's ===== -/
section ER
variable {σ : US} {c : CH} {G : Nat → Bool}
theorem q12_findExpected (h : RM σ c) (ok : okC c) (hG : ∀ b, G b = true → b < cn c) {i : Nat} (hi : i < cn c) {Q : Int32 → US → Prop} (h0 : sur c (allS c) G i = false → Q 0 σ) (hQ : sur c (allS c) G i = true → ∀ σ', KeepM σ σ' → Gv σ' (eT c G i) (eB c G i) → Q 1 σ') : wp_X12_findExpected (nI (mk G)) (nI i) σ Q := by
  have hn := ok.1
  have hLK := uE_lk ok hG
  have hU : ∀ i, uE c G i = true → i < cn c := uE_lt
  unfold wp_X12_findExpected
  refine q12_all h hn (q12_surelyOf (F := allS c) h ok hG (q12_has (by omega) (br_n (fun hs => h0 hs) (fun hs => ?_))))
  obtain ⟨u1, u2⟩ := uE_lim ok hG (Nat.le_refl 8) (show i < 8 by omega)
  obtain ⟨v1, v2, _⟩ := UA_lim (b := bE c G) ok hLK 8 (Nat.le_refl 8)
  have eT1 : eT c G i = (MM 8 (UA c (uE c G) (bE c G)) 8 i 8).toNat := by unfold eT; rw [if_pos hs]
  have eB1 : eB c G i = (dd 8 (UA c (uE c G) (bE c G)) 8).toNat := by unfold eB; rw [if_pos hs]
  rw [eT1, eB1] at hQ
  refine q12_has (by omega) (br_b (fun hg => ?_) (fun hg => ?_))
  · have hui : uE c G i = true := uE_iff.mpr ⟨hs, hg⟩
    refine q12_all h hn (q12_surelyOf (F := allS c) h ok hG ?_)
    rw [sI_diff]
    show wp_X12_begin (nI (mk (uE c G))) σ _
    refine q12_begin h ok (fun σ1 hk1 hun1 hA1 => ?_)
    have hl := ul8 ok hU
    have nd := ul_nd (uE c G) (cn c)
    have hx := fun r hr => un_U ok hU (r := r) hr
    have hl7 : (ul (uE c G) (cn c)).length ≤ 7 := by
      rcases uE_miss ok hG with ⟨g, hg1, hg2⟩ | hno
      · have := ul_lt hg2 hg1; omega
      · rw [hno i] at hui; exact absurd hui (by decide)
    generalize hle : ul (uE c G) (cn c) = l at hun1 hA1 hl nd hx hl7
    refine lp_inv l.length (fun k t => ∃ z M, t = (nI k, z) ∧ KB σ z ∧ UN z l ∧ AQ l.length z M ∧ ∀ r q, r < l.length → q < 9 → M r q = if q = 8 ∧ r < k then bE c G (un l r) else RA c l r q) ?_ _ ⟨σ1, _, rfl, hk1, hun1, hA1, fun r q _ _ => by rw [if_neg (by omega)]⟩
    rintro k t hk ⟨z, M, rfl, hkz, hunz, hz, hM⟩ P hP
    unfold wp_X12_findExpected_L53
    dsimp only
    rw [hunz.1]
    have hRz : RM z c := hkz.keep.rm h
    refine pk_le l.length k (fun hk2 => ?_) (fun hk2 => ⟨pk_in k 8 (by omega), ?_⟩)
    · have hzA : AQ l.length z (RB c l (fun r => bE c G (un l r))) := hz.of (fun r q hr hq => by
        rw [hM r q hr hq]
        by_cases h8 : q = 8
        · subst h8; rw [if_pos ⟨rfl, by omega⟩, RB_8]
        · rw [if_neg (by omega), RB_q h8])
      subst hle
      have hright : ∀ p r, p ≤ (ul (uE c G) (cn c)).length → r < (ul (uE c G) (cn c)).length → 0 ≤ MM (ul (uE c G) (cn c)).length (RB c (ul (uE c G) (cn c)) (fun r => bE c G (un (ul (uE c G) (cn c)) r))) p r 8 ∧ MM (ul (uE c G) (cn c)).length (RB c (ul (uE c G) (cn c)) (fun r => bE c G (un (ul (uE c G) (cn c)) r))) p r 8 ≤ 90 * 20 ^ 7 := fun p r hp hr => by
        obtain ⟨w, hw, hW⟩ := RB_wts (b := fun r => bE c G (un (ul (uE c G) (cn c)) r)) ok hU hLK
        have x1 := right0 (RB_dom ok hU) hw hW (b := 8) (fun q _ => by rw [RB_8]; exact (bE_bd ok _).1) p hp r hr
        have x2 := right2 (RB_dom ok hU) hw hW (tr := fun _ => false) (fun _ _ ht => absurd ht (by decide)) (b := 8) (be := 90) (fun q _ => by rw [RB_8]; have := bE_bd (G := G) ok (un (ul (uE c G) (cn c)) q); omega) (fun _ _ ht => absurd ht (by decide)) p hp r hr
        have x3 := pow20 (show tc (fun _ => false) p ≤ 7 by have := tc_le (fun _ => false) p; omega)
        exact ⟨x1, by omega⟩
      have hrun := RB_run (b := fun r => bE c G (un (ul (uE c G) (cn c)) r)) ok hU hLK (X := 90 * 20 ^ 7) (fun p a q hp ha hq hq8 => RB_zero hl hq hq8 ha) (fun p a hp ha => by
        have := hright (p + 1) a (by omega) ha
        omega) (by
        have : (10 : Int) ^ (ul (uE c G) (cn c)).length ≤ 10 ^ 7 := pow_le_i hl7
        omega)
      refine q12_giveSolved ok nd hl (fun r hr => by have := (hx r hr).1; omega) hunz hzA hrun (ul_mem.mpr ⟨hi, hui⟩) (by omega) (fun r hr => by
        have := hright (ul (uE c G) (cn c)).length r (Nat.le_refl _) hr
        omega) (fun σ' r hks hr hur hgv => hQ hs σ' (hkz.keep.tr hks) ?_)
      have heq := sys_eq ok hU (b8 := bE c G) (br := fun r => bE c G (un (ul (uE c G) (cn c)) r)) (dn := dd (ul (uE c G) (cn c)).length (RB c (ul (uE c G) (cn c)) (fun r => bE c G (un (ul (uE c G) (cn c)) r))) (ul (uE c G) (cn c)).length) (X := fun q => MM (ul (uE c G) (cn c)).length (RB c (ul (uE c G) (cn c)) (fun r => bE c G (un (ul (uE c G) (cn c)) r))) (ul (uE c G) (cn c)).length q 8) (fun q hq => by
        have := solved (A := RB c (ul (uE c G) (cn c)) (fun r => bE c G (un (ul (uE c G) (cn c)) r))) (b := 8) hq
        rw [RB_8] at this
        exact this) (fun q hq => by
        rw [sL_0 (fun j _ => by
          split
          · rfl
          · rename_i hj
            have : bE c G j = 0 := by unfold bE; rw [if_neg hj]
            rw [this, Int.mul_zero])]
        omega) hr
      rw [hur] at heq
      refine Gv.of hgv (hright _ r (Nat.le_refl _) hr).1 (hrun.1 _ (Nat.le_refl _)).1 u1 v1 ?_
      rw [heq, Int.mul_comm]
    · rw [nI_clamp (by omega), hunz.2 k hk2]
      have hku := (hx k hk2).1
      have d1 := cdiv_le ok (un l k)
      have d2 := ok.2.2.2.2.1 (un l k)
      refine q12_sumOf hRz ok (by omega) ⟨pk_in k 8 (by omega), ?_⟩
      rw [ixr]
      obtain ⟨p1, p2⟩ := rd_r hRz (show un l k < 8 by omega)
      refine ⟨p1, ?_⟩
      rw [p2, nI_t64 (by omega), nI_t64 (by omega), lN_mul]
      refine q12_right hz hk2 hl (x := bE c G (un l k)) (by
        rw [lI_N]; unfold bE; rw [if_pos (hx k hk2).2]) (fun z' hk' hun' hz' => ?_)
      rw [li1, nI_add]
      refine hP hk2 _ ⟨z', _, rfl, hkz.tr hk', hun' l hunz, hz', fun r q hr hq => ?_⟩
      by_cases h1 : r = k ∧ q = 8
      · obtain ⟨rfl, rfl⟩ := h1
        rw [upm_s, if_pos ⟨rfl, Nat.lt_succ_self r⟩]
      · rw [upm_n _ _ h1, hM r q hr hq]
        by_cases h2 : q = 8 ∧ r < k
        · rw [if_pos h2, if_pos ⟨h2.1, by omega⟩]
        · rw [if_neg h2, if_neg (by omega)]
  · have hu : uE c G i = false := by unfold uE; rw [hg]; simp
    have ht := (triv_row (A := UA c (uE c G) (bE c G)) (show i < 8 by omega) (fun j hj => UA_triv (b := bE c G) (show i < 8 by omega) (by rw [hu]; rfl) j hj) (fun q hq => (UA_lim (b := bE c G) ok hLK q hq).1) 8 8 (Nat.le_refl 8)).2
    have e0 : bE c G i = 0 := by unfold bE; rw [hu]; rfl
    rw [UA_8, e0] at ht
    refine q12_give (a := 0) (b := 1) (by decide) (by decide) (by decide) (fun σ' hg2 => hQ hs σ' hg2.keep ?_)
    exact Gv.of (a := 0) (b := 1) ⟨hg2.2.2.1, hg2.2.2.2⟩ (by decide) (by decide) u1 v1 (by rw [ht]; omega)
end ER
