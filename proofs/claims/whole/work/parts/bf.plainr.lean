/-! ===== the methods that ask: the reference ===== -/
section RPL
variable {A : AB} {σ : US} {p1 p2 p3 : Int32}
theorem q12_stateCount (C : RSt A σ) {Q : Int32 → Prop} (hQ : Q (f_stateCount A)) : wp_X12_stateCount σ Q := by
  unfold wp_X12_stateCount
  refine rd_n C.1 ?_
  rw [cl0, C.1.n]; exact hQ
theorem q12_weight (ok : okA A) (C : RSt A σ) {Q : Int32 → Prop} (hQ : Q (f_weight A p1 p2)) : wp_X12_weight p1 p2 σ Q := by
  unfold wp_X12_weight
  unfold f_weight at hQ
  have hn := ok.1.1
  refine q12_isStateC C.1 hn p1 (fun e => ⟨fun _ => ?_, fun hc => absurd rfl hc⟩) (fun i hi hx e => ⟨fun hc => absurd hc (by decide), fun _ => ?_⟩)
  · rw [o1_n e] at hQ; exact hQ
  · rw [o1_s e] at hQ
    refine q12_isStateC C.1 hn p2 (fun e => ⟨fun _ => ?_, fun hc => absurd rfl hc⟩) (fun j hj hx2 e => ⟨fun hc => absurd hc (by decide), fun _ => ?_⟩)
    · rw [o1_n e] at hQ; exact hQ
    · rw [o1_s e] at hQ
      subst hx; subst hx2
      obtain ⟨v, w⟩ := rd_w C.1 (show i < 8 by omega) (show j < 8 by omega)
      rw [ixw]
      exact ⟨v, by rw [w]; exact hQ⟩
theorem q12_sum (ok : okA A) (C : RSt A σ) {Q : Int32 → Prop} (hQ : Q (f_sum A p1)) : wp_X12_sum p1 σ Q := by
  unfold wp_X12_sum
  unfold f_sum at hQ
  have hn := ok.1.1
  refine q12_isStateC C.1 hn p1 (fun e => ⟨fun _ => ?_, fun hc => absurd rfl hc⟩) (fun i hi hx e => ⟨fun hc => absurd hc (by decide), fun _ => ?_⟩)
  · rw [o1_n e] at hQ; exact hQ
  · rw [o1_s e] at hQ
    subst hx
    exact q12_toldSum C.1 (by omega) hQ
theorem q12_labels (ok : okA A) (C : RSt A σ) {Q : Int32 → Prop} (hQ : Q (f_labels A p1)) : wp_X12_labels p1 σ Q := by
  unfold wp_X12_labels
  unfold f_labels at hQ
  have hn := ok.1.1
  refine q12_isStateC C.1 hn p1 (fun e => ⟨fun _ => ?_, fun hc => absurd rfl hc⟩) (fun i hi hx e => ⟨fun hc => absurd hc (by decide), fun _ => ?_⟩)
  · rw [o1_n e] at hQ; exact hQ
  · rw [o1_s e] at hQ
    subst hx
    obtain ⟨v, w⟩ := rd_l C.1 (show i < 8 by omega)
    rw [ixl]
    exact ⟨v, by rw [w]; exact hQ⟩
theorem q12_reward (ok : okA A) (C : RSt A σ) {Q : Int32 → Prop} (hQ : Q (f_reward A p1)) : wp_X12_reward p1 σ Q := by
  unfold wp_X12_reward
  unfold f_reward at hQ
  have hn := ok.1.1
  refine q12_isStateC C.1 hn p1 (fun e => ⟨fun _ => ?_, fun hc => absurd rfl hc⟩) (fun i hi hx e => ⟨fun hc => absurd hc (by decide), fun _ => ?_⟩)
  · rw [o1_n e] at hQ; exact hQ
  · rw [o1_s e] at hQ
    subst hx
    obtain ⟨v, w⟩ := rd_r C.1 (show i < 8 by omega)
    rw [ixr]
    exact ⟨v, by rw [w]; exact hQ⟩
theorem q12_reaches (ok : okA A) (C : RSt A σ) {Q : Int32 → Prop} (hQ : Q (f_reaches A p1)) : wp_X12_reaches p1 σ Q := by
  unfold wp_X12_reaches
  unfold f_reaches at hQ
  have hn := ok.1.1
  refine q12_isStateC C.1 hn p1 (fun e => ⟨fun _ => ?_, fun hc => absurd rfl hc⟩) (fun i hi hx e => ⟨fun hc => absurd hc (by decide), fun _ => ?_⟩)
  · rw [o1_n e] at hQ; exact hQ
  · rw [o1_s e] at hQ
    subst hx
    exact q12_reachOf C.1 ok.1 hi hQ
theorem q12_component (ok : okA A) (C : RSt A σ) {Q : Int32 → Prop} (hQ : Q (f_component A p1)) : wp_X12_component p1 σ Q := by
  unfold wp_X12_component
  unfold f_component at hQ
  have hn := ok.1.1
  refine q12_isStateC C.1 hn p1 (fun e => ⟨fun _ => ?_, fun hc => absurd rfl hc⟩) (fun i hi hx e => ⟨fun hc => absurd hc (by decide), fun _ => ?_⟩)
  · rw [o1_n e] at hQ; exact hQ
  · rw [o1_s e] at hQ
    subst hx
    exact q12_componentOf C.1 ok.1 hi hQ
theorem q12_bottomsA (ok : okA A) (C : RSt A σ) {Q : Int32 → Prop} (hQ : Q (f_bottoms A)) : wp_X12_bottoms σ Q := q12_bottoms C.1 ok.1 hQ
theorem q12_classCount (ok : okA A) (C : RSt A σ) {Q : Int32 → US → Prop} (hQ : ∀ σ', RSt A σ' → Q (f_classCount A) σ') : wp_X12_classCount σ Q := by
  unfold wp_X12_classCount
  exact q12_findClasses C.1 ok.1 (fun σ' K _ _ _ => hQ σ' (K.rs ok C))
theorem q12_classOf (ok : okA A) (C : RSt A σ) {Q : Int32 → US → Prop} (hQ : ∀ σ', RSt A σ' → Q (f_classOf A p1) σ') : wp_X12_classOf p1 σ Q := by
  unfold wp_X12_classOf
  unfold f_classOf at hQ
  have hn := ok.1.1
  refine q12_isStateC C.1 hn p1 (fun e => ⟨fun hc => absurd rfl hc, fun _ => ?_⟩) (fun i hi hx e => ⟨fun _ => ?_, fun hc => absurd hc (by decide)⟩)
  · rw [o1_n e] at hQ; exact hQ _ C
  · rw [o1_s e] at hQ
    subst hx
    refine q12_findClasses C.1 ok.1 (fun σ' K _ _ hk => ⟨vp_in_nI (by omega) (by decide), ?_⟩)
    rw [nI_clamp (by omega), hk i hi]
    exact hQ σ' (K.rs ok C)
theorem q12_isPartC (x : Int32) {Q : Int32 → Prop} (h0 : inx x 2 = none → Q 0) (h1 : ∀ p, p < 2 → x = nI p → inx x 2 = some p → Q 1) : wp_X12_isPart x Q := by
  unfold wp_X12_isPart
  exact q12_in0 (n := 1) (by decide) x (fun e => ⟨kbo0, h0 e⟩) (fun i hi hx e => ⟨kbo1, h1 i hi hx e⟩)
theorem Gv.toPv {T B p : Nat} (h : Gv σ T B) (hp : p < 2) {Q : Int64 → Prop} (hQ : Q (pv T B p)) : wp_X12_part (nI p) σ Q := by
  refine q12_part hp ?_
  unfold pv at hQ
  rw [h.1, h.2]; exact hQ
theorem q12_lumped (ok : okA A) (C : RSt A σ) {Q : Int64 → US → Prop} (hQ : ∀ σ', RSt A σ' → Q (f_lumped A p1 p2 p3) σ') : wp_X12_lumped p1 p2 p3 σ Q := by
  unfold wp_X12_lumped
  unfold f_lumped at hQ
  have hn := ok.1.1
  refine q12_isStateC C.1 hn p1 (fun e => ⟨fun _ => ?_, fun hc => absurd rfl hc⟩) (fun i hi hx e => ⟨fun hc => absurd hc (by decide), fun _ => ?_⟩)
  · rw [o1_n e] at hQ; exact hQ _ C
  · rw [o1_s e] at hQ
    refine q12_isPartC p3 (fun e => ⟨fun _ => ?_, fun hc => absurd rfl hc⟩) (fun p hp hx2 e => ⟨fun hc => absurd hc (by decide), fun _ => ?_⟩)
    · rw [o1_n e] at hQ; exact hQ _ C
    · rw [o1_s e] at hQ
      subst hx; subst hx2
      have hle := lump_le A.1
      refine q12_findClasses C.1 ok.1 (fun u K _ _ hk => ?_)
      have hu := K.rm C.1
      refine q12_in1 (by omega) p2 (fun e => ⟨fun hc => absurd rfl hc, fun _ => ?_⟩) (fun q hq hx e => ⟨fun _ => ?_, fun hc => absurd hc (by decide)⟩)
      · rw [o1_n e] at hQ; exact hQ _ (K.rs ok C)
      · rw [o1_s e] at hQ
        subst hx
        refine q12_statesOf hu ok.1 (f := (lump A.1).1) (fun k hk2 => ⟨hk k hk2, by have := lump_lt A.1 hk2; omega⟩) (by omega) ?_
        refine q12_weightInto hu ok.1 hi ?_
        refine q12_sumOf hu ok.1 (by omega) ?_
        have w90 := stw_90 (F := fun s => decide (s < cn A.1) && (lump A.1).1 s == q) ok.1 i
        have c10 := cdiv_le ok.1 i
        rw [nI_t64 (by omega), nI_t64 (by omega)]
        refine q12_give (by omega) (by omega) (cdiv_pos A.1 i) (fun σ2 V2 => ?_)
        obtain ⟨K2, V3⟩ := V2.kv
        exact V3.toPv hp (hQ _ ((K.tr K2).rs ok C))
theorem q12_formulaCount (C : RSt A σ) {Q : Int32 → Prop} (hQ : Q (f_formulaCount A)) : wp_X12_formulaCount σ Q := by
  unfold wp_X12_formulaCount
  rw [C.2.2.2.1.1]; exact hQ
theorem q12_isFormulaC (ok : okA A) (C : RSt A σ) (x : Int32) {Q : Int32 → Prop} (h0 : inx x A.2.2.2.1.length = none → Q 0) (h1 : ∀ j, j < A.2.2.2.1.length → x = nI j → inx x A.2.2.2.1.length = some j → Q 1) : wp_X12_isFormula x σ Q := by
  unfold wp_X12_isFormula
  have l6 := ok.2.2.2.1.1
  rw [C.2.2.2.1.1]
  exact q12_in1 (by omega) x (fun e => ⟨kbo0, h0 e⟩) (fun i hi hx e => ⟨kbo1, h1 i hi hx e⟩)
/-- a formula of the reference -/
theorem RSt.fm (ok : okA A) (C : RSt A σ) {j : Nat} (hj : j < A.2.2.2.1.length) : vp_in (nI j) 6 ∧ j < 6 ∧ okT 6 (A.2.2.2.1.getD j ([], trU 6)).2 ∧ okL (A.2.2.2.1.getD j ([], trU 6)).1 ∧ ∃ i, i < 300 ∧ aA σ 13 j = nI i ∧ RT σ 6 (A.2.2.2.1.getD j ([], trU 6)).2 i ∧ aA σ 16 j = nI (A.2.2.2.1.getD j ([], trU 6)).1.length ∧ ∀ x, x < (A.2.2.2.1.getD j ([], trU 6)).1.length → aA σ 15 (50 * j + x) = nI (tL (A.2.2.2.1.getD j ([], trU 6)).1 x) := by
  obtain ⟨l6, hF⟩ := ok.2.2.2.1
  have hg := getD_some hj ([], trU 6)
  obtain ⟨-, m, -, hm, h⟩ := C.2.2.2.1
  obtain ⟨i, a1, a2, a3, a4, a5⟩ := h j _ hg
  have hm2 := hF _ (List.mem_of_getElem? hg)
  exact ⟨vp_in_nI (by omega) (by decide), by omega, hm2.1, hm2.2, i, by omega, a2, a3, a4, a5⟩
theorem q12_letter (ok : okA A) (C : RSt A σ) {Q : Int32 → Prop} (hQ : Q (f_letter A p1 p2)) : wp_X12_letter p1 p2 σ Q := by
  unfold wp_X12_letter
  unfold f_letter at hQ
  refine q12_isFormulaC ok C p1 (fun e => ⟨fun hc => absurd rfl hc, fun _ => ?_⟩) (fun j hj hx e => ⟨fun _ => ?_, fun hc => absurd hc (by decide)⟩)
  · rw [o1_n e] at hQ; exact hQ
  · rw [o1_s e] at hQ
    subst hx
    obtain ⟨v, j6, -, hl, i, -, -, -, a4, a5⟩ := C.fm ok hj
    have hl50 := hl.1
    refine ⟨v, ?_⟩
    rw [nI_clamp (by omega), a4]
    refine q12_in1 (by omega) p2 (fun e => ⟨fun _ => ?_, fun hc => absurd rfl hc⟩) (fun x hx hx2 e => ⟨fun hc => absurd hc (by decide), fun _ => ?_⟩)
    · rw [o1_n e] at hQ; exact hQ
    · rw [o1_s e] at hQ
      subst hx2
      have e50 : (50 : Int32) * nI j + nI x = nI (50 * j + x) := by rw [show (50 : Int32) = nI 50 from rfl, pk_mul, nI_add]
      rw [e50]
      refine ⟨vp_in_nI (by omega) (by decide), ?_⟩
      rw [nI_clamp (by omega), a5 x hx]; exact hQ
theorem q12_depth (ok : okA A) (C : RSt A σ) {Q : Int32 → Prop} (hQ : Q (f_depth A p1)) : wp_X12_depth p1 σ Q := by
  unfold wp_X12_depth
  unfold f_depth at hQ
  refine q12_isFormulaC ok C p1 (fun e => ⟨fun _ => ?_, fun hc => absurd rfl hc⟩) (fun j hj hx e => ⟨fun hc => absurd hc (by decide), fun _ => ?_⟩)
  · rw [o1_n e] at hQ; exact hQ
  · rw [o1_s e] at hQ
    subst hx
    obtain ⟨v, j6, hk, hl, i, i3, a2, a3, a4, a5⟩ := C.fm ok hj
    refine ⟨v, ?_⟩
    rw [nI_clamp (by omega), a2]
    exact q12_depthOf 6 _ i 8 _ (by omega) (by omega) i3 a3 hk hQ
theorem q12_walk (ok : okA A) (C : RSt A σ) {Q : Int32 → Prop} (hQ : Q (f_walk A p1 p2 p3)) : wp_X12_walk p1 p2 p3 σ Q := by
  unfold wp_X12_walk
  unfold f_walk at hQ
  have hn := ok.1.1
  refine q12_isStateC C.1 hn p1 (fun e => ⟨fun _ => ?_, fun hc => absurd rfl hc⟩) (fun i hi hx e => ⟨fun hc => absurd hc (by decide), fun _ => ?_⟩)
  · rw [o1_n e] at hQ; exact hQ
  · rw [o1_s e] at hQ
    subst hx
    refine q12_in0 (n := 100) (by decide) p2 (fun e => ⟨fun hc => absurd rfl hc, fun _ => ?_⟩) (fun m hm hx2 e => ⟨fun _ => ?_, fun hc => absurd hc (by decide)⟩)
    · rw [o1_n e] at hQ; exact hQ
    · rw [o1_s e] at hQ
      subst hx2
      exact q12_walkL C.1 ok.1 hi (by omega) p3 hQ
end RPL
