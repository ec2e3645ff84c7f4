/-! ===== the class's parser, P and the whole ===== -/
section PARE
variable (t : Nat → Nat) (len : Nat)
def prF (n : Nat) (s : ST) : ST × TR (n + 1) :=
  if pk t len (exF t len 91 (bnF t len s).1) = 85 ∨ pk t len (exF t len 91 (bnF t len s).1) = 66 then
    (exF t len 93 (rdF t len n (exF t len 44 (rdF t len n (wyF t len (exF t len 91 (bnF t len s).1)).1).1)).1,
     tnd (pk t len (exF t len 91 (bnF t len s).1)) (wyF t len (exF t len 91 (bnF t len s).1)).2 (bnF t len s).2 (rdF t len n (wyF t len (exF t len 91 (bnF t len s).1)).1).2 (rdF t len n (exF t len 44 (rdF t len n (wyF t len (exF t len 91 (bnF t len s).1)).1).1)).2)
  else
    (exF t len 93 (rdF t len n (wyF t len (exF t len 91 (bnF t len s).1)).1).1,
     tnd (pk t len (exF t len 91 (bnF t len s).1)) (wyF t len (exF t len 91 (bnF t len s).1)).2 (bnF t len s).2 (rdF t len n (wyF t len (exF t len 91 (bnF t len s).1)).1).2 (trU n))
end PARE
section PARF
variable {kc : Nat → ClassId} {tx t : Nat → Nat} {len : Nat} {pl : va_W} {σ : US} {s : ST} {n : Nat} {RF : Int32 → US → va_W → (Option Nat → (US × va_W) → Prop) → Prop}
theorem wyF_m {s : ST} (h : pk t len s ≠ 66) : (wyF t len s).2 = 0 := by unfold wyF; rw [if_neg h]
theorem q10_readProbability (HR : RFok kc tx t len n RF) (hn : n ≤ 5) (hT : TOK kc tx t len pl) (h : PS len σ s) {Q : Option Nat → US × va_W → Prop}
    (hQ : ∀ o σ' pl', Ext pl pl' → PS len σ' (prF t len n s).1 → PO pl' (n + 1) (prF t len n s) o → Q o (σ', pl')) : wp_X10_readProbability kc tx RF (nI (5 - n)) σ pl Q := by
  unfold wp_X10_readProbability
  refine q10_readBound hT h (fun qb σ1 pl1 hz1 P1 => ?_)
  dsimp only
  have E1 : Ext pl pl1 := by rw [hz1]; exact Ext.cs _ pl
  have hT1 := hT.ext E1
  have hb1 : (qb, .inr (3, [.int (bI (bnF t len s).2.1), .int (bI (bnF t len s).2.2.1), .int (nI (bnF t len s).2.2.2.1), .int (nI (bnF t len s).2.2.2.2)])) ∈ pl1 := by rw [hz1]; exact List.mem_cons_self
  refine q10_expect (x := 91) hT1 P1 (by decide) (by decide) (fun σ2 h2 => ?_)
  have hw7 := pk_lt7 hT1 (exF t len 91 (bnF t len s).1)
  have hm6 := wyF_le (t := t) (len := len) (exF t len 91 (bnF t len s).1)
  unfold prF at hQ
  have hbl : (exF t len 91 (bnF t len s).1).1 = false → (bnF t len s).2.2.2.1 < 100 ∧ (bnF t len s).2.2.2.2 < 100 ∧ 0 < (bnF t len s).2.2.2.2 := fun hc => bnF_bd (exF_ok hc).1
  generalize hs1 : exF t len 91 (bnF t len s).1 = s1 at h2 hw7 hm6 hbl hQ
  generalize (bnF t len s).2 = b at hb1 hbl hQ
  -- the parts behind the sign
  have j71 : ∀ σ3, PS len σ3 (wyF t len s1).1 → wp_X10_readProbability_J71 kc tx RF (nI (pk t len s1)) (some qb) (nI (5 - n)) σ3 pl1 (nI (wyF t len s1).2) Q := by
    intro σ3 h3
    unfold wp_X10_readProbability_J71
    rw [lvl1 hn]
    refine HR _ _ _ _ hT1 h3 (fun o1 σ4 pl4 E4 P4 O4 => ?_)
    dsimp only
    have hT4 := hT1.ext E4
    have hb4 := E4 _ hb1
    have j97 : (pk t len s1 = 85 ∨ pk t len s1 = 66) → wp_X10_readProbability_J97 kc tx RF o1 (nI (wyF t len s1).2) (nI (pk t len s1)) (some qb) (nI (5 - n)) σ4 pl4 Q := by
      intro hw
      rw [if_pos hw] at hQ
      unfold wp_X10_readProbability_J97
      refine q10_expect (x := 44) hT4 P4 (by decide) (by decide) (fun σ5 h5 => ?_)
      rw [lvl1 hn]
      refine HR _ _ _ _ hT4 h5 (fun o2 σ6 pl6 E6 P6 O6 => ?_)
      dsimp only
      refine q10_prJ112 (w := pk t len s1) (m := (wyF t len s1).2) (T1 := (rdF t len n (wyF t len s1).1).2) (T2 := (rdF t len n (exF t len 44 (rdF t len n (wyF t len s1).1).1)).2) hn (hT4.ext E6) P6 hm6 (fun hc => wyF_m hc) (E6 _ hb4) (O4.1.ext E6) O6.1 (fun hc => hbl (ok_of_wy (ok_of_rd (exF_ok (ok_of_rd hc)).1)).1) (fun hc => ?_) (fun hc _ => ⟨O6.2 hc, okT_rd n _ hc⟩) (fun hc => absurd hw hc) (fun o σ' pl' E => hQ o σ' pl' (((E1.tr E4).tr E6).tr E))
      have g1 := (exF_ok (ok_of_rd hc)).1
      exact ⟨(ok_of_wy (ok_of_rd g1)).2, (O4.2 g1).ext E6, okT_rd n _ g1⟩
    refine pk_eq (pk t len s1) 85 (fun hw => j97 (Or.inl hw)) (fun hw => ?_)
    refine And.symm (pk_eq (pk t len s1) 66 (fun hw2 => j97 (Or.inr hw2)) (fun hw2 => ?_))
    have hw3 : ¬ (pk t len s1 = 85 ∨ pk t len s1 = 66) := by omega
    rw [if_neg hw3] at hQ
    refine q10_prJ112 (w := pk t len s1) (m := (wyF t len s1).2) (T1 := (rdF t len n (wyF t len s1).1).2) (T2 := trU n) hn hT4 P4 hm6 (fun hc => wyF_m hc) hb4 O4.1 (NB.no _ _) (fun hc => hbl (ok_of_wy (ok_of_rd hc)).1) (fun hc => ⟨(ok_of_wy (ok_of_rd hc)).2, O4.2 hc, okT_rd n _ hc⟩) (fun _ hc => absurd hc hw3) (fun _ => rfl) (fun o σ' pl' E => hQ o σ' pl' ((E1.tr E4).tr E))
  -- the sign itself
  have j51 : ∀ σ3, PS len σ3 (if isW (pk t len s1) then s1 else (true, s1.2)) → wp_X10_readProbability_J51 kc tx RF (nI (pk t len s1)) (some qb) (nI (5 - n)) σ3 pl1 Q := by
    intro σ3 h3
    unfold wp_X10_readProbability_J51
    have go : ∀ σ4, PS len σ4 (wy1 t len s1) → (¬ (nI (pk t len s1)) = 66 → wp_X10_readProbability_J71 kc tx RF (nI (pk t len s1)) (some qb) (nI (5 - n)) σ4 pl1 0 Q) ∧ ((nI (pk t len s1)) = 66 → wp_X10_readSteps kc tx σ4 pl1 (fun (r17 : Int32) (u18 : US) => wp_X10_readProbability_J71 kc tx RF (nI (pk t len s1)) (some qb) (nI (5 - n)) u18 pl1 r17 Q)) := by
      intro σ4 h4
      refine And.symm (pk_eq (pk t len s1) 66 (fun hw => ?_) (fun hw => ?_))
      · refine q10_readSteps hT1 h4 (fun σ5 h5 => ?_)
        have e : wyF t len s1 = stF1 t len (wy1 t len s1) := by unfold wyF; rw [if_pos hw]
        rw [← e] at h5 ⊢
        exact j71 σ5 h5
      · have e : wyF t len s1 = (wy1 t len s1, 0) := by unfold wyF; rw [if_neg hw]
        have hh := j71 σ4 (by rw [e]; exact h4)
        rw [e] at hh; exact hh
    cases hw : isW (pk t len s1)
    · rw [hw, if_neg (by decide)] at h3
      refine q10_skipT h3 rfl ?_
      refine go σ3 ?_
      unfold wy1; rw [hw, if_neg (by decide), skF_T]; exact h3
    · rw [hw, if_pos rfl] at h3
      refine q10_skip (x := pk t len s1) hT1 h3 (fun hc => ?_) (by omega) (fun σ4 h4 => go σ4 ?_)
      · rw [hc] at hw; exact absurd hw (by decide)
      · unfold wy1; rw [hw, if_pos rfl]; exact h4
  refine q10_peek hT1 h2 ?_
  have yes : isW (pk t len s1) = true → wp_X10_readProbability_J51 kc tx RF (nI (pk t len s1)) (some qb) (nI (5 - n)) σ2 pl1 Q := fun hw => j51 σ2 (by rw [hw, if_pos rfl]; exact h2)
  refine pk_eq (pk t len s1) 88 (fun hw => yes (decide_eq_true (by omega))) (fun w1 => ?_)
  refine pk_eq (pk t len s1) 70 (fun hw => yes (decide_eq_true (by omega))) (fun w2 => ?_)
  refine pk_eq (pk t len s1) 71 (fun hw => yes (decide_eq_true (by omega))) (fun w3 => ?_)
  refine pk_eq (pk t len s1) 85 (fun hw => yes (decide_eq_true (by omega))) (fun w4 => ?_)
  refine pk_eq (pk t len s1) 66 (fun hw => yes (decide_eq_true (by omega))) (fun w5 => ?_)
  intro z hz
  subst hz
  have hw : isW (pk t len s1) = false := decide_eq_false (by omega)
  exact j51 _ (by rw [hw, if_neg (by decide)]; exact h2.fail)
/-- behind an error, or too deep -/
theorem q10_J56F (h : PS len σ s) (hf : s.1 = true) {v : Int32} {Q : Option Nat → US × va_W → Prop} (hQ : ∀ σ', PS len σ' (true, s.2) → Q none (σ', pl)) : wp_X10_readFormula_J56 kc tx RF v σ pl Q := by
  unfold wp_X10_readFormula_J56
  refine q10_skipT h hf ⟨fun _ => ?_, fun hc => absurd rfl hc⟩
  refine q10_skipT h hf ⟨fun _ => ?_, fun hc => absurd rfl hc⟩
  refine q10_skipT h hf ⟨fun _ => ?_, fun hc => absurd rfl hc⟩
  refine q10_skipT h hf ⟨fun _ => ?_, fun hc => absurd rfl hc⟩
  refine q10_skipT h hf ⟨fun _ => ?_, fun hc => absurd rfl hc⟩
  intro z hz
  subst hz
  exact hQ _ h.fail
theorem sk_y {x p : Nat} (h : chr t len p = x) : skF t len x (false, p) = (true, (false, p + 1)) := by unfold skF; rw [if_pos ⟨rfl, h⟩]
theorem sk_n {x p : Nat} (h : chr t len p ≠ x) : skF t len x (false, p) = (false, (false, p)) := by unfold skF; rw [if_neg (fun hc => h hc.2)]
theorem q10_J56 (HR : RFok kc tx t len n RF) (hn : n ≤ 5) (hT : TOK kc tx t len pl) {p : Nat} (h : PS len σ (false, p)) (h116 : chr t len p ≠ 116) (hab : ¬ (97 ≤ chr t len p ∧ chr t len p ≤ 100)) (hn0 : n ≠ 0) {Q : Option Nat → US × va_W → Prop}
    (hQ : ∀ o σ' pl', Ext pl pl' → PS len σ' (rdF t len (n + 1) (false, p)).1 → PO pl' (n + 1) (rdF t len (n + 1) (false, p)) o → Q o (σ', pl')) : wp_X10_readFormula_J56 kc tx RF (nI (5 - n)) σ pl Q := by
  unfold wp_X10_readFormula_J56
  have hg : ¬ (n = 0 ∨ (false : Bool) = true) := by intro hc; rcases hc with hc | hc
                                                    · exact hn0 hc
                                                    · cases hc
  unfold rdF at hQ
  rw [pk_f, if_neg h116, if_neg hab, if_neg hg] at hQ
  refine q10_skip (x := 33) hT h (by decide) (by decide) (fun σ1 h1 => br_b (fun hb => ?_) (fun hb => ?_))
  · have hc33 : chr t len p ≠ 33 := fun hc => by rw [sk_y hc] at hb; cases hb
    rw [sk_n hc33] at h1
    rw [if_neg hc33] at hQ
    refine q10_skip (x := 40) hT h1 (by decide) (by decide) (fun σ2 h2 => br_b (fun hb => ?_) (fun hb => ?_))
    · have hc40 : chr t len p ≠ 40 := fun hc => by rw [sk_y hc] at hb; cases hb
      rw [sk_n hc40] at h2
      rw [if_neg hc40] at hQ
      refine q10_skip (x := 80) hT h2 (by decide) (by decide) (fun σ3 h3 => br_b (fun hb => ?_) (fun hb => ?_))
      · have hc80 : chr t len p ≠ 80 := fun hc => by rw [sk_y hc] at hb; cases hb
        rw [sk_n hc80] at h3
        rw [if_neg hc80] at hQ
        refine q10_skip (x := 83) hT h3 (by decide) (by decide) (fun σ4 h4 => br_b (fun hb => ?_) (fun hb => ?_))
        · have hc83 : chr t len p ≠ 83 := fun hc => by rw [sk_y hc] at hb; cases hb
          rw [sk_n hc83] at h4
          refine q10_skip (x := 82) hT h4 (by decide) (by decide) (fun σ5 h5 => br_b (fun hb => ?_) (fun hb => ?_))
          · have hc82 : chr t len p ≠ 82 := fun hc => by rw [sk_y hc] at hb; cases hb
            rw [sk_n hc82] at h5
            rw [if_neg (by omega)] at hQ
            intro z hz
            subst hz
            exact hQ _ _ _ (Ext.rf pl) h5.fail ⟨NB.no _ _, fun hc => by cases hc⟩
          · have hc : chr t len p = 82 := by
              by_cases hc : chr t len p = 82
              · exact hc
              · rw [sk_n hc] at hb; cases hb
            rw [sk_y hc] at h5
            rw [if_pos (Or.inr hc)] at hQ
            rw [hc] at hQ
            exact q10_readBounded (k := 82) HR hn hT h5 (Or.inr rfl) hQ
        · have hc : chr t len p = 83 := by
            by_cases hc : chr t len p = 83
            · exact hc
            · rw [sk_n hc] at hb; cases hb
          rw [sk_y hc] at h4
          rw [if_pos (Or.inl hc)] at hQ
          rw [hc] at hQ
          exact q10_readBounded (k := 83) HR hn hT h4 (Or.inl rfl) hQ
      · have hc : chr t len p = 80 := by
          by_cases hc : chr t len p = 80
          · exact hc
          · rw [sk_n hc] at hb; cases hb
        rw [sk_y hc] at h3
        rw [if_pos hc] at hQ
        exact q10_readProbability HR hn hT h3 hQ
    · have hc : chr t len p = 40 := by
        by_cases hc : chr t len p = 40
        · exact hc
        · rw [sk_n hc] at hb; cases hb
      rw [sk_y hc] at h2
      rw [if_pos hc] at hQ
      exact q10_readPair HR hn hT h2 hQ
  · have hc : chr t len p = 33 := by
      by_cases hc : chr t len p = 33
      · exact hc
      · rw [sk_n hc] at hb; cases hb
    rw [sk_y hc] at h1
    rw [if_pos hc] at hQ
    unfold wp_X10_readOpposite
    intro nw
    rw [lvl1 hn]
    refine HR _ _ _ _ hT h1 (fun o1 σ2 pl2 E2 P2 O2 => ?_)
    dsimp only
    refine q9_mk (st := 0) (n := n) ((rdF t len n (false, p + 1)).1.1 = false) (tnd 33 0 bb0 (rdF t len n (false, p + 1)).2 (trU n)) (by omega) hn O2.1 (NB.no _ _) (fun hc => ?_) (fun z Ez Nz Cz => hQ _ _ _ (E2.tr Ez) P2 ⟨Nz, Cz⟩)
    exact ⟨⟨Or.inr (Or.inr (Or.inl rfl)), bb0_lt, fun _ => okT_rd n _ hc, fun (g : hasT 33 = true) => tf g (by decide)⟩, rfl, rfl, fun (g : isB 33 = true) => tf g (by decide), fun _ => rfl, fun _ => O2.2 hc, fun (g : hasT 33 = true) => tf g (by decide), fun (g : hasO 33 = false) => tf (by decide) g, fun _ => rfl⟩
theorem q10_leaf (hn : n ≤ 5) (hT : TOK kc tx t len pl) (h : PS len σ s) {k m : Nat} (hv : pk t len s = if k = 97 then 97 + m else k) (hk : k = 116 ∨ (k = 97 ∧ m < 4)) {Q : Option Nat → US × va_W → Prop}
    (hQ : ∀ o σ' pl', Ext pl pl' → PS len σ' (s.1, s.2 + 1) → PO pl' (n + 1) ((s.1, s.2 + 1), tnd k m bb0 (trU n) (trU n)) o → Q o (σ', pl')) : wp_X10_readFormula_J23 kc tx RF (nI (pk t len s)) σ pl Q := by
  unfold wp_X10_readFormula_J23
  intro z hz nw
  subst hz
  have hp : pk t len s ≠ 0 := by
    rw [hv]; split
    · omega
    · omega
  refine q9_mk (st := 0) (n := n) ((s.1, s.2 + 1).1 = false) (tnd k m bb0 (trU n) (trU n)) (by omega) hn (NB.no _ _) (NB.no _ _) (fun hc => ?_) (fun z Ez Nz Cz => hQ _ _ _ Ez (h.inc (pkp_lt hp)) ⟨Nz, Cz⟩)
  have kk : hasO k = false ∧ hasT k = false ∧ isB k = false ∧ (if k = 66 then m else 0) = 0 := by
    rcases hk with rfl | ⟨rfl, hm⟩
    · exact ⟨rfl, rfl, rfl, rfl⟩
    · exact ⟨rfl, rfl, rfl, rfl⟩
  obtain ⟨ko, kt, kb, km⟩ := kk
  refine ⟨⟨?_, bb0_lt, fun (g : hasO k = true) => tf g ko, fun (g : hasT k = true) => tf g kt⟩, congrArg nI hv, km.symm, fun (g : isB k = true) => tf g kb, fun _ => rfl, fun (g : hasO k = true) => tf g ko, fun (g : hasT k = true) => tf g kt, fun _ => rfl, fun _ => rfl⟩
  rcases hk with rfl | ⟨rfl, hm⟩
  · exact Or.inl rfl
  · exact Or.inr (Or.inl ⟨rfl, hm⟩)
theorem q10_B (HR : n ≠ 0 → RFok kc tx t len n RF) (hn : n ≤ 5) (hT : TOK kc tx t len pl) (h : PS len σ s) {Q : Option Nat → US × va_W → Prop}
    (hQ : ∀ o σ' pl', Ext pl pl' → PS len σ' (rdF t len (n + 1) s).1 → PO pl' (n + 1) (rdF t len (n + 1) s) o → Q o (σ', pl')) : wp_X10_readFormula_B kc tx RF (nI (5 - n)) σ pl Q := by
  unfold wp_X10_readFormula_B
  refine q10_peek hT h ?_
  have h7 := pk_lt7 hT s
  have j46 : pk t len s ≠ 116 → ¬ (97 ≤ pk t len s ∧ pk t len s ≤ 100) → wp_X10_readFormula_J46 kc tx RF (nI (5 - n)) σ pl Q := by
    intro h116 hab
    unfold wp_X10_readFormula_J46
    have bad : (n = 0 ∨ s.1 = true) → ∀ σ', PS len σ' (true, s.2) → Q none (σ', pl) := by
      intro hb σ' h'
      unfold rdF at hQ
      rw [if_neg h116, if_neg hab, if_pos hb] at hQ
      exact hQ _ _ _ (Ext.rf pl) h' ⟨NB.no _ _, fun hc => by cases hc⟩
    refine pk_lt (5 - n) 5 (fun hlt => ?_) (fun hge z hz => ?_)
    · obtain ⟨f, p⟩ := s
      cases f
      · rw [pk_f] at h116 hab
        exact q10_J56 (HR (by omega)) hn hT h h116 hab (by omega) hQ
      · exact q10_J56F h rfl (bad (Or.inr rfl))
    · subst hz
      exact q10_J56F h.fail rfl (bad (Or.inl (by omega)))
  refine pk_eq (pk t len s) 116 (fun h116 => ?_) (fun h116 => ?_)
  · unfold rdF at hQ
    rw [if_pos h116] at hQ
    exact q10_leaf (k := 116) (m := 0) hn hT h (by rw [h116]; rfl) (Or.inl rfl) hQ
  · refine pk_lt (pk t len s) 97 (fun hc => j46 h116 (by omega)) (fun h97 => ?_)
    refine pk_lt 100 (pk t len s) (fun hc => j46 h116 (by omega)) (fun h100 => ?_)
    unfold rdF at hQ
    rw [if_neg h116, if_pos ⟨h97, h100⟩] at hQ
    exact q10_leaf (k := 97) (m := pk t len s - 97) hn hT h (by rw [if_pos rfl]; omega) (Or.inr ⟨rfl, by omega⟩) hQ
theorem q10_readFormula : ∀ n, n ≤ 5 → RFok kc tx t len (n + 1) (wp_X10_readFormula kc tx (n + 1))
  | 0, _ => fun σ pl s Q hT h hQ => q10_B (n := 0) (fun hc => absurd rfl hc) (by omega) hT h hQ
  | n + 1, hn => fun σ pl s Q hT h hQ => by
    have e : nI (6 - (n + 1 + 1)) = nI (5 - (n + 1)) := by congr 1; omega
    rw [e]
    exact q10_B (n := n + 1) (fun _ => q10_readFormula n (by omega)) hn hT h hQ
end PARF
