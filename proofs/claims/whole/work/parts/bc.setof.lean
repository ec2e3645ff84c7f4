/-! ===== the reference: the states in which a formula holds ===== -/
theorem Gave.kv {σ σ' : US} {a b : Nat} (h : Gave σ σ' a b) : KeepM σ σ' ∧ Gv σ' a b :=
  ⟨⟨fun q _ _ _ _ => by show σ'.2.2.1 q = σ.2.2.1 q; rw [h.2.1], fun k _ _ => by show σ'.1 k = σ.1 k; rw [h.1]⟩, h.2.2⟩
theorem lN_sb {a b : Nat} (h : b ≤ a) : lN a - lN b = lN (a - b) := by
  rw [lI_N, lI_N, lI_N, lI_sub]
  exact congrArg lI (by omega)
theorem relc_1 : ∀ up oe : Bool, relc up oe = 62 → up = false := by decide
theorem relc_2 : ∀ up oe : Bool, relc up oe = 103 → up = false := by decide
theorem relc_3 : ∀ up oe : Bool, ¬ relc up oe = 62 → ¬ relc up oe = 103 → up = true := by decide
section STF
variable {c : CH} {σ : US} {F G : Nat → Bool}
theorem stw_90 (ok : okC c) (i : Nat) : stw c i F ≤ 90 := by
  refine Nat.le_trans (sumN_le (b := 9) (fun j _ => ?_)) (by omega)
  have := ok.2.1 i j
  unfold cst
  split <;> (try split) <;> omega
theorem q12_find (h : RM σ c) (ok : okC c) (hF : ∀ b, F b = true → b < cn c) (hG : ∀ b, G b = true → b < cn c) {k m i s : Nat} (hi : i < 300) (hs : s < cn c) (hk : k < 2 ^ 31) (e6 : aA σ 6 i = nI k) (e9 : k = 66 → aA σ 9 i = nI m ∧ m ≤ 6 ∧ rfd c m = false) {Q : Int32 → US → Prop}
    (h0 : (k ≠ 66 ∧ k ≠ 70 ∧ k ≠ 71 ∧ k ≠ 83 ∧ k ≠ 85 ∧ k ≠ 88) → vT c k m F G s = 1 → vB c k m F G s = 0 → Q 0 σ)
    (h1 : ∀ σ', KeepM σ σ' → Gv σ' (vT c k m F G s) (vB c k m F G s) → Q 1 σ') : wp_X12_find (nI i) (nI (mk F)) (nI (mk G)) (nI s) σ Q := by
  have hn := ok.1
  have v : vp_in (nI i) 300 := vp_in_nI hi (by decide)
  unfold wp_X12_find
  refine ⟨v, fun x hx => ?_⟩
  rw [nI_clamp (by omega), e6] at hx
  subst hx
  unfold vT vB at h0 h1
  refine pk_eq k 66 (fun g => ⟨v, ?_⟩) (fun g1 => ?_)
  · subst g
    obtain ⟨a9, m6, hr⟩ := e9 rfl
    rw [nI_clamp (by omega), a9]
    refine q12_findWithin h ok hF m6 hr hs (fun σ' K V => h1 σ' K ?_)
    simpa using V
  refine pk_eq k 70 (fun g => ?_) (fun g2 => ?_)
  · subst g
    refine q12_all h hn ?_
    refine q12_findUntil (F := allS c) h ok hF hs (fun σ' K V => h1 σ' K ?_)
    have V : Gv σ' (ut c (allS c) F s) (ub c (allS c) F) := V
    simpa using V
  refine pk_eq k 71 (fun g => ?_) (fun g3 => ?_)
  · subst g
    refine q12_all h hn (q12_all h hn ?_)
    rw [sI_diff]
    refine q12_findUntil (F := allS c) (G := cpl c F) h ok (cpl_lt c F) hs (fun σ' K V => ?_)
    have hu := ut_le (F := allS c) (G := cpl c F) ok (cpl_lt c F) (show s < 8 by omega)
    have g2 := gcd1_le (a := ut c (allS c) (cpl c F) s) hu.2.1
    have g0 := gcd1_pos (ut c (allS c) (cpl c F) s) (ub c (allS c) (cpl c F))
    have V : Gv σ' (ut c (allS c) (cpl c F) s) (ub c (allS c) (cpl c F)) := V
    have hle : ut c (allS c) (cpl c F) s / gcd1 (ut c (allS c) (cpl c F) s) (ub c (allS c) (cpl c F)) ≤ ub c (allS c) (cpl c F) / gcd1 (ut c (allS c) (cpl c F) s) (ub c (allS c) (cpl c F)) := Nat.div_le_div_right hu.1
    have hpos := Nat.div_pos g2.2 g0
    have hsm := Nat.div_le_self (ub c (allS c) (cpl c F)) (gcd1 (ut c (allS c) (cpl c F) s) (ub c (allS c) (cpl c F)))
    rw [V.1, V.2, lN_sb hle]
    refine q12_give (Nat.lt_of_le_of_lt (Nat.le_trans (Nat.sub_le _ _) hsm) (by omega)) (Nat.lt_of_le_of_lt hsm (by omega)) hpos (fun σ2 V2 => ?_)
    obtain ⟨K2, V3⟩ := V2.kv
    refine h1 σ2 (K.tr K2) ?_
    simpa using V3
  refine pk_eq k 83 (fun g => ?_) (fun g4 => ?_)
  · subst g
    refine q12_findSteady h ok hs (fun σ' K V => h1 σ' K ?_)
    simpa using V
  refine pk_eq k 85 (fun g => ?_) (fun g5 => ?_)
  · subst g
    refine q12_findUntil h ok hG hs (fun σ' K V => h1 σ' K ?_)
    have V : Gv σ' (ut c F G s) (ub c F G) := V
    simpa using V
  refine pk_eq k 88 (fun g => ?_) (fun g6 => ?_)
  · subst g
    refine q12_weightInto h ok hs ?_
    refine q12_sumOf h ok (by omega) ?_
    have w90 := stw_90 (F := F) ok s
    have c10 := cdiv_le ok s
    rw [nI_t64 (by omega), nI_t64 (by omega)]
    refine q12_give (by omega) (by omega) (cdiv_pos c s) (fun σ2 V2 => ?_)
    obtain ⟨K2, V3⟩ := V2.kv
    refine h1 σ2 K2 ?_
    simpa using V3
  · simp only [if_neg g1, if_neg g2, if_neg g3, if_neg g4, if_neg g5, if_neg g6] at h0 h1
    refine q12_findExpected h ok hF hs (fun hsur => ⟨kbo0, h0 ⟨g1, g2, g3, g4, g5, g6⟩ ?_ ?_⟩) (fun hsur σ' K V => ⟨kbo1, h1 σ' K V⟩)
    · unfold eT; rw [hsur]; rfl
    · unfold eB; rw [hsur]; rfl
/-- the loop over the states -/
theorem q12_setL {RF : Int32 → US → (Int32 → US → Prop) → Prop} (h : RM σ c) (ok : okC c) (hF : ∀ b, F b = true → b < cn c) (hG : ∀ b, G b = true → b < cn c) {k m i : Nat} {up oe : Bool} {top bot : Nat} (hi : i < 300) (hk : k < 2 ^ 31) (e6 : aA σ 6 i = nI k) (e9 : k = 66 → aA σ 9 i = nI m ∧ m ≤ 6 ∧ rfd c m = false) (e10 : aA σ 10 i = relc up oe) (e11 : aA σ 11 i = nI top) (e12 : aA σ 12 i = nI bot) (ht : top < 100) (hb : bot < 100) (hb0 : 0 < bot) {Q : Int32 → US → Prop}
    (hQ : ∀ σ', KeepM σ σ' → Q (nI (mk (fun o => decide (o < cn c) && fulf up oe top bot (vT c k m F G o / gcd1 (vT c k m F G o) (vB c k m F G o)) (vB c k m F G o / gcd1 (vT c k m F G o) (vB c k m F G o))))) σ') : lpW (wp_X12_setOf_L162 RF (nI (mk G)) (nI (mk F)) (nI i) Q) (0, 0, σ) := by
  have hn := ok.1
  have v : vp_in (nI i) 300 := vp_in_nI hi (by decide)
  have hvv : ∀ s, s < 8 → vT c k m F G s < 2 ^ 56 ∧ vB c k m F G s < 2 ^ 56 := fun s hs => vv_lt ok hF hG (fun g => (e9 g).2.2) hs
  have hinf : ∀ s, vT c k m F G s = 1 → vB c k m F G s = 0 → fulf up oe top bot (vT c k m F G s / gcd1 (vT c k m F G s) (vB c k m F G s)) (vB c k m F G s / gcd1 (vT c k m F G s) (vB c k m F G s)) = !up := fun s a b => by
    rw [a, b]; exact fulf_inf hb0
  have hfd : ∀ (σ1 : US) (s : Nat), RM σ1 c → s < cn c → aA σ1 6 i = nI k → (k = 66 → aA σ1 9 i = nI m ∧ m ≤ 6 ∧ rfd c m = false) → ∀ (Q : Int32 → US → Prop), (vT c k m F G s = 1 → vB c k m F G s = 0 → Q 0 σ1) → (∀ σ', KeepM σ1 σ' → Gv σ' (vT c k m F G s) (vB c k m F G s) → Q 1 σ') → wp_X12_find (nI i) (nI (mk F)) (nI (mk G)) (nI s) σ1 Q := fun σ1 s h1 hs a6 a9 Q q0 q1 => q12_find h1 ok hF hG hi hs hk a6 a9 (fun _ => q0) q1
  generalize vT c k m F G = T at hvv hinf hfd hQ
  generalize vB c k m F G = B at hvv hinf hfd hQ
  rw [show (0 : Int32) = nI (mk (fun o => decide (o < 0) && fulf up oe top bot (T o / gcd1 (T o) (B o)) (B o / gcd1 (T o) (B o)))) from mk_none]
  refine lp_inv (cn c) (fun j t => ∃ z, t = (nI (mk (fun o => decide (o < j) && fulf up oe top bot (T o / gcd1 (T o) (B o)) (B o / gcd1 (T o) (B o)))), nI j, z) ∧ KeepM σ z) ?_ _ ⟨σ, rfl, KeepM.rf σ⟩
  rintro j t hj ⟨z, rfl, K⟩ P hP
  have hz := K.rm h
  have keep : ∀ {z2 : US}, KeepM σ z2 → ∀ q, 6 ≤ q → q ≤ 12 → aA z2 q = aA σ q := fun K2 q h1 h2 => K2.1 q (by omega) (by omega) (by omega) (by omega)
  unfold wp_X12_setOf_L162
  refine rd_n hz ?_
  rw [cl0, hz.n]
  refine pk_le (cn c) j (fun hc => ?_) (fun hc => ?_)
  · have e : j = cn c := by omega
    subst e
    exact hQ z K
  · dsimp only
    have step : ∀ z2, KeepM σ z2 → ∀ r : Bool, r = fulf up oe top bot (T j / gcd1 (T j) (B j)) (B j / gcd1 (T j) (B j)) → wp_X12_setOf_J226 RF (nI i) (nI (mk (fun o => decide (o < j) && fulf up oe top bot (T o / gcd1 (T o) (B o)) (B o / gcd1 (T o) (B o))))) (nI (mk F)) (nI (mk G)) (nI j) z2 (bI r) P Q := by
      intro z2 K2 r hr
      unfold wp_X12_setOf_J226
      refine br_b (fun hx x hxx => ?_) (fun hx x hxx => ?_)
      · rw [sI_orz] at hxx
        rw [hxx, mk_step0 (S := fun o => fulf up oe top bot (T o / gcd1 (T o) (B o)) (B o / gcd1 (T o) (B o))) (by rw [← hr]; exact hx), nI_1]
        exact hP hc _ ⟨z2, rfl, K2⟩
      · rw [sI_add _ (by omega)] at hxx
        rw [hxx, mk_step1 (S := fun o => fulf up oe top bot (T o / gcd1 (T o) (B o)) (B o / gcd1 (T o) (B o))) (by rw [← hr]; exact hx), nI_1]
        exact hP hc _ ⟨z2, rfl, K2⟩
    refine hfd z j hz hc (by rw [keep K 6 (by omega) (by omega)]; exact e6) (fun g => by rw [keep K 9 (by omega) (by omega)]; exact e9 g) _ (fun a b => ⟨fun _ => ⟨v, ?_⟩, fun hx => absurd rfl hx⟩) (fun z2 K2 V => ⟨fun hx => absurd hx (by decide), fun _ => ?_⟩)
    · have hi2 := hinf j a b
      rw [nI_clamp (by omega), keep K 10 (by omega) (by omega), e10]
      have y : up = false → wp_X12_setOf_J221 RF (nI i) (nI (mk (fun o => decide (o < j) && fulf up oe top bot (T o / gcd1 (T o) (B o)) (B o / gcd1 (T o) (B o))))) (nI (mk F)) (nI (mk G)) (nI j) z P Q := fun hu => by
        unfold wp_X12_setOf_J221
        exact step z K true (by rw [hi2, hu]; rfl)
      have nno : up = true → wp_X12_setOf_J226 RF (nI i) (nI (mk (fun o => decide (o < j) && fulf up oe top bot (T o / gcd1 (T o) (B o)) (B o / gcd1 (T o) (B o))))) (nI (mk F)) (nI (mk G)) (nI j) z 0 P Q := fun hu => step z K false (by rw [hi2, hu]; rfl)
      refine ⟨fun hx => y ?_, fun hx => ⟨v, fun hx2 => nno ?_, fun hx2 => y ?_⟩⟩
      · exact relc_1 _ _ hx
      · exact relc_3 _ _ hx hx2
      · exact relc_2 _ _ hx2
    · have K3 := K.tr K2
      have hv := hvv j (by omega)
      refine q12_fulfils hi ht hb (dv56 hv.1) (dv56 hv.2) V.1 V.2 (by rw [keep K3 10 (by omega) (by omega)]; exact e10) (by rw [keep K3 11 (by omega) (by omega)]; exact e11) (by rw [keep K3 12 (by omega) (by omega)]; exact e12) ?_
      exact step z2 K3 _ rfl
/-- a label's states -/
theorem q12_setA {RF : Int32 → US → (Int32 → US → Prop) → Prop} (h : RM σ c) (ok : okC c) {m i : Nat} (hi : i < 300) (hm : m < 4) (e9 : aA σ 9 i = nI m) {Q : Int32 → US → Prop} (hQ : Q (nI (mk (fun o => decide (o < cn c) && bit (cl c o) m))) σ) : lpW (wp_X12_setOf_L29 RF (nI i) σ Q) (0, 0) := by
  have hn := ok.1
  have v : vp_in (nI i) 300 := vp_in_nI hi (by decide)
  rw [show (0 : Int32) = nI (mk (fun o => decide (o < 0) && bit (cl c o) m)) from mk_none]
  refine lp_for (cn c) (fun j => (nI (mk (fun o => decide (o < j) && bit (cl c o) m)), nI j)) (fun j hj P hP => ?_) (fun P => ?_)
  · unfold wp_X12_setOf_L29
    refine rd_n h ?_
    rw [cl0, h.n]
    refine pk_le (cn c) j (fun hc => by omega) (fun _ => ?_)
    dsimp only
    rw [ixl]
    obtain ⟨g1, g2⟩ := rd_l h (show j < 8 by omega)
    refine ⟨g1, v, ?_⟩
    rw [g2, nI_clamp (by omega), e9]
    have hl := ok.2.2.2.1 j
    rw [← bit_ext0 (cl c j) (by omega)]
    refine q12_has (S := bit (cl c j)) (by omega) (br_b (fun hb x hx => ?_) (fun hb x hx => ?_))
    · rw [sI_orz] at hx; subst hx
      rw [mk_step0 (S := fun o => bit (cl c o) m) hb, nI_1]; exact hP
    · rw [sI_add _ (by omega)] at hx; subst hx
      rw [mk_step1 (S := fun o => bit (cl c o) m) hb, nI_1]; exact hP
  · unfold wp_X12_setOf_L29
    refine rd_n h ?_
    rw [cl0, h.n]
    exact pk_le (cn c) (cn c) (fun _ => hQ) (fun hc => by omega)
end STF
section STG
variable {c : CH}
theorem q12_setOf (ok : okC c) : ∀ (n : Nat) (T : TR n) (i f : Nat) (σ : US) (Q : Int32 → US → Prop), n ≤ f → i < 300 → RM σ c → RT σ n T i → okT n T → rfd c (lng n T) = false → (∀ σ', KeepM σ σ' → Q (nI (mk (sm c n T))) σ') → wp_X12_setOf f (nI i) σ Q
  | 0, _, _, _, _, _, _, _, _, h, _, _, _ => absurd h (fun h => h)
  | n + 1, T, i, f, σ, Q, hf, hi, hM, h, hok, hr, hQ => by
    have hk125 := okT_k hok
    have hn := ok.1
    have hS := sm_s c n T
    generalize hst : sm c (n + 1) T = S at hQ hS
    obtain ⟨e6, e9, eb, h1, h2⟩ := h
    obtain ⟨hk, ⟨hb1, hb2, hb3⟩, o1, o2⟩ := hok
    cases f with
    | zero => omega
    | succ f =>
    have hl1 : hasO T.1.1 = true → lng n T.2.1 ≤ lng (n + 1) T := fun g => by
      show _ ≤ max (max (if hasO T.1.1 then lng n T.2.1 else 0) _) _
      rw [if_pos g]; omega
    have hl2 : hasT T.1.1 = true → lng n T.2.2 ≤ lng (n + 1) T := fun g => by
      show _ ≤ max (max _ (if hasT T.1.1 then lng n T.2.2 else 0)) _
      rw [if_pos g]; omega
    have hl3 : T.1.1 = 66 → T.1.2.1 ≤ lng (n + 1) T := fun g => by
      show _ ≤ max _ (if T.1.1 = 66 then T.1.2.1 else 0)
      rw [if_pos g]; omega
    have v : vp_in (nI i) 300 := vp_in_nI hi (by decide)
    have sme : ∀ {R : Nat → Bool}, (∀ x, S x = R x) → ∀ σ', KeepM σ σ' → Q (nI (mk R)) σ' := fun hx σ' K => by
      have := hQ σ' K
      rw [mk_congr (fun y _ => hx y)] at this
      exact this
    show wp_X12_setOf_B (wp_X12_setOf f) (nI i) σ Q
    unfold wp_X12_setOf_B
    refine ⟨v, fun x hx => ?_⟩
    rw [nI_clamp (by omega), e6] at hx
    subst hx
    rw [nI_clamp (by omega)]
    refine And.symm (pk_eq T.1.1 116 (fun g => ?_) (fun g1 => And.symm (pk_eq T.1.1 97 (fun g => ?_) (fun g2 => ⟨v, ?_⟩))))
    · refine q12_all hM hn ?_
      exact sme (fun y => by rw [hS y, if_pos g]) σ (KeepM.rf σ)
    · have hm4 : T.1.2.1 < 4 := by omega
      refine q12_setA hM ok hi hm4 (e9 (Or.inl g)) ?_
      exact sme (fun y => by rw [hS y, if_neg g1, if_pos g]) σ (KeepM.rf σ)
    · have gO : hasO T.1.1 = true := decide_eq_true ⟨g1, g2⟩
      obtain ⟨j, j1, j2, j3⟩ := h1 gO
      rw [j2]
      refine q12_setOf ok n T.2.1 j f σ _ (by omega) (by omega) hM j3 (o1 gO) (rfd_le ok (hl1 gO) hr) (fun σ1 K1 => ?_)
      have hM1 := K1.rm hM
      have keep : ∀ {z2 : US}, KeepM σ z2 → ∀ q, 6 ≤ q → q ≤ 12 → aA z2 q = aA σ q := fun K2 q h1 h2 => K2.1 q (by omega) (by omega) (by omega) (by omega)
      have hF := sm_lt c n T.2.1
      have hG := sm_lt c n T.2.2
      -- the end, whatever stands for the second one
      have j114 : ∀ (σ2 : US) (G : Nat → Bool), KeepM σ σ2 → (∀ b, G b = true → b < cn c) → (hasT T.1.1 = true → G = sm c n T.2.2) → wp_X12_setOf_J114 (wp_X12_setOf f) (nI (mk (sm c n T.2.1))) 0 (nI T.1.1) (nI i) σ2 (nI (mk G)) Q := by
        intro σ2 G K2 hGl hGe
        have hM2 := K2.rm hM
        unfold wp_X12_setOf_J114
        refine And.symm (pk_eq T.1.1 33 (fun g => ?_) (fun g3 => ?_))
        · refine q12_all hM2 hn ?_
          rw [sI_diff]
          exact sme (fun y => by rw [hS y, if_neg g1, if_neg g2, if_pos g]) σ2 K2
        · refine q12_isBounded (by omega) (And.symm (br_b (fun hb => ?_) (fun hb => ?_)))
          · have hb := of_decide_eq_false hb
            refine And.symm (pk_eq T.1.1 38 (fun g => ?_) (fun g4 => ?_))
            · have gT : hasT T.1.1 = true := decide_eq_true (Or.inl g)
              rw [hGe gT, sI_and]
              exact sme (fun y => by rw [hS y, if_neg g1, if_neg g2, if_neg g3, if_pos g]) σ2 K2
            · have g5 : T.1.1 = 124 := by omega
              have gT : hasT T.1.1 = true := decide_eq_true (Or.inr (Or.inl g5))
              rw [hGe gT, sI_or]
              exact sme (fun y => by rw [hS y, if_neg g1, if_neg g2, if_neg g3, if_neg g4, if_pos g5]) σ2 K2
          · obtain ⟨b1, b2, b3⟩ := eb hb
            have hb := of_decide_eq_true hb
            refine q12_setL (k := T.1.1) (m := T.1.2.1) hM2 ok hF hGl hi (by omega) (by rw [keep K2 6 (by omega) (by omega)]; exact e6) (fun g => ⟨by rw [keep K2 9 (by omega) (by omega)]; exact e9 (Or.inr g), by omega, rfd_le ok (hl3 g) hr⟩) (by rw [keep K2 10 (by omega) (by omega)]; exact b1) (by rw [keep K2 11 (by omega) (by omega)]; exact b2) (by rw [keep K2 12 (by omega) (by omega)]; exact b3) hb1 hb2 hb3 (fun σ3 K3 => ?_)
            refine sme (fun y => ?_) σ3 (K2.tr K3)
            rw [hS y, if_neg g1, if_neg g2, if_neg g3, if_neg (by omega), if_neg (by omega)]
            by_cases gT : hasT T.1.1 = true
            · rw [hGe gT]
            · have gT : ¬ (T.1.1 = 38 ∨ T.1.1 = 124 ∨ T.1.1 = 85 ∨ T.1.1 = 66) := fun hx => gT (decide_eq_true hx)
              have eT : ∀ G1 G2 : Nat → Bool, vT c T.1.1 T.1.2.1 (sm c n T.2.1) G1 y = vT c T.1.1 T.1.2.1 (sm c n T.2.1) G2 y := fun G1 G2 => by
                unfold vT
                rw [if_neg (show ¬ T.1.1 = 85 by omega), if_neg (show ¬ T.1.1 = 85 by omega), if_neg (show ¬ T.1.1 = 66 by omega), if_neg (show ¬ T.1.1 = 66 by omega)]
              have eB2 : ∀ G1 G2 : Nat → Bool, vB c T.1.1 T.1.2.1 (sm c n T.2.1) G1 y = vB c T.1.1 T.1.2.1 (sm c n T.2.1) G2 y := fun G1 G2 => by
                unfold vB
                rw [if_neg (show ¬ T.1.1 = 85 by omega), if_neg (show ¬ T.1.1 = 85 by omega)]
              rw [eT (sm c n T.2.2) G, eB2 (sm c n T.2.2) G]
      refine q12_hasTwo (by omega) (br_b (fun hb => ?_) (fun hb => ⟨v, ?_⟩))
      · rw [show (0 : Int32) = nI (mk (fun _ => false)) from rfl]
        exact j114 σ1 (fun _ => false) K1 (fun b hx => by cases hx) (fun hx => tf hx hb)
      · obtain ⟨j', j1', j2', j3'⟩ := h2 hb
        rw [keep K1 8 (by omega) (by omega), j2']
        refine q12_setOf ok n T.2.2 j' f σ1 _ (by omega) (by omega) hM1 (K1.rt j3') (o2 hb) (rfd_le ok (hl2 hb) hr) (fun σ2 K2 => ?_)
        exact j114 σ2 _ (K1.tr K2) hG (fun _ => rfl)
end STG
