/-! ===== the methods that evaluate: the reference ===== -/
section REV
variable {A : AB} {σ : US} {p1 p2 p3 p4 p5 : Int32}
theorem q12_ref (ok : okA A) (C : RSt A σ) {j : Nat} (h : inx p1 (FN A) = some j) {Q : Int32 → Prop} (hQ : Q (bI (rfd A.1 (lng 6 (fmT A j))))) : vp_in p1 6 ∧ wp_X12_isRefusedNode 8 (aA σ 13 (p1).toNatClampNeg) σ Q := by
  have l6 := ok.2.2.2.1.1
  obtain ⟨rfl, hj⟩ := inx_eq (show FN A < 2 ^ 31 by show A.2.2.2.1.length < _; omega) h
  obtain ⟨v, j6, hk, hl, i, i3, a2, a3, a4, a5⟩ := C.fm ok hj
  refine ⟨v, ?_⟩
  rw [nI_clamp (by omega), a2]
  exact q12_isRefusedNode C.1 ok.1 6 _ i 8 Q (by omega) i3 a3 hk hQ
theorem q12_st (ok : okA A) (C : RSt A σ) {j : Nat} (h : inx p1 (FN A) = some j) (hr : rfd A.1 (lng 6 (fmT A j)) = false) {Q : Int32 → US → Prop} (hQ : ∀ σ', RSt A σ' → Q (nI (mk (sm A.1 6 (fmT A j)))) σ') : vp_in p1 6 ∧ wp_X12_setOf 8 (aA σ 13 (p1).toNatClampNeg) σ Q := by
  have l6 := ok.2.2.2.1.1
  obtain ⟨rfl, hj⟩ := inx_eq (show FN A < 2 ^ 31 by show A.2.2.2.1.length < _; omega) h
  obtain ⟨v, j6, hk, hl, i, i3, a2, a3, a4, a5⟩ := C.fm ok hj
  refine ⟨v, ?_⟩
  rw [nI_clamp (by omega), a2]
  exact q12_setOf ok.1 6 _ i 8 σ Q (by omega) i3 C.1 a3 hk hr (fun σ' K => hQ σ' (K.rs ok C))
theorem q12_hindersSets (ok : okA A) (C : RSt A σ) {Q : Int32 → Prop} (h1 : inx p1 (FN A) = none → Q (-1)) (h2 : inx p2 (FN A) = none → Q (-1)) (h3 : ∀ j k, inx p1 (FN A) = some j → inx p2 (FN A) = some k → (rfd A.1 (lng 6 (fmT A j)) || rfd A.1 (lng 6 (fmT A k))) = true → Q (-4)) (h4 : ∀ j k, inx p1 (FN A) = some j → inx p2 (FN A) = some k → (rfd A.1 (lng 6 (fmT A j)) || rfd A.1 (lng 6 (fmT A k))) = false → Q 0) : wp_X12_hindersSets p1 p2 σ Q := by
  unfold wp_X12_hindersSets
  refine q12_isFormulaC ok C p1 (fun e => ⟨fun _ => h1 e, fun z => absurd rfl z⟩) (fun j hj hx e => ⟨fun z => absurd z (by decide), fun _ => ?_⟩)
  refine q12_isFormulaC ok C p2 (fun e2 => ⟨fun z => absurd rfl z, fun _ => h2 e2⟩) (fun k hk hx2 e2 => ⟨fun _ => ?_, fun z => absurd z (by decide)⟩)
  refine q12_ref ok C e ?_
  cases hv : rfd A.1 (lng 6 (fmT A j)) with
  | true => exact ⟨fun _ => h3 j k e e2 (by rw [hv]; rfl), fun z => absurd z (show ¬ (1 : Int32) = 0 by decide)⟩
  | false =>
    refine ⟨fun z => absurd rfl z, fun _ => q12_ref ok C e2 ?_⟩
    cases hv2 : rfd A.1 (lng 6 (fmT A k)) with
    | true => exact ⟨fun z => absurd z (show ¬ (1 : Int32) = 0 by decide), fun _ => h3 j k e e2 (by rw [hv, hv2]; rfl)⟩
    | false => exact ⟨fun _ => h4 j k e e2 (by rw [hv, hv2]; rfl), fun z => absurd rfl z⟩
theorem q12_hinders (ok : okA A) (C : RSt A σ) {Q : Int32 → Prop} (h1 : inx p1 (FN A) = none → Q (-1)) (h2 : inx p2 (FN A) = none → Q (-1)) (h5 : inx p3 (cn A.1) = none → Q (-1)) (h6 : inx p4 2 = none → Q (-1)) (h3 : ∀ i p j k, inx p3 (cn A.1) = some i → inx p4 2 = some p → inx p1 (FN A) = some j → inx p2 (FN A) = some k → (rfd A.1 (lng 6 (fmT A j)) || rfd A.1 (lng 6 (fmT A k))) = true → Q (-4)) (h4 : ∀ i p j k, inx p3 (cn A.1) = some i → inx p4 2 = some p → inx p1 (FN A) = some j → inx p2 (FN A) = some k → (rfd A.1 (lng 6 (fmT A j)) || rfd A.1 (lng 6 (fmT A k))) = false → Q 0) : wp_X12_hinders p1 p2 p3 p4 σ Q := by
  unfold wp_X12_hinders
  have hn := ok.1.1
  refine q12_isFormulaC ok C p1 (fun e => ⟨fun _ => h1 e, fun z => absurd rfl z⟩) (fun j hj hx e => ⟨fun z => absurd z (by decide), fun _ => ?_⟩)
  refine q12_isFormulaC ok C p2 (fun e2 => ⟨fun _ => h2 e2, fun z => absurd rfl z⟩) (fun k hk hx2 e2 => ⟨fun z => absurd z (by decide), fun _ => ?_⟩)
  refine q12_isStateC C.1 hn p3 (fun e3 => ⟨fun _ => h5 e3, fun z => absurd rfl z⟩) (fun i hi hx3 e3 => ⟨fun z => absurd z (by decide), fun _ => ?_⟩)
  refine q12_isPartC p4 (fun e4 => ⟨fun z => absurd rfl z, fun _ => h6 e4⟩) (fun p hp hx4 e4 => ⟨fun _ => ?_, fun z => absurd z (by decide)⟩)
  refine q12_ref ok C e ?_
  cases hv : rfd A.1 (lng 6 (fmT A j)) with
  | true => exact ⟨fun _ => h3 i p j k e3 e4 e e2 (by rw [hv]; rfl), fun z => absurd z (show ¬ (1 : Int32) = 0 by decide)⟩
  | false =>
    refine ⟨fun z => absurd rfl z, fun _ => q12_ref ok C e2 ?_⟩
    cases hv2 : rfd A.1 (lng 6 (fmT A k)) with
    | true => exact ⟨fun z => absurd z (show ¬ (1 : Int32) = 0 by decide), fun _ => h3 i p j k e3 e4 e e2 (by rw [hv, hv2]; rfl)⟩
    | false => exact ⟨fun _ => h4 i p j k e3 e4 e e2 (by rw [hv, hv2]; rfl), fun z => absurd rfl z⟩
theorem q12_e2 (ok : okA A) (C : RSt A σ) {X : Prop} {E : Int32 → Prop} {f : (Nat → Bool) → (Nat → Bool) → Int32} (hE : ∀ z, z = o2 A p1 p2 (-1) (-4) f → E z) (hX : ∀ j k, inx p1 (FN A) = some j → inx p2 (FN A) = some k → rfd A.1 (lng 6 (fmT A j)) = false → rfd A.1 (lng 6 (fmT A k)) = false → o2 A p1 p2 (-1) (-4) f = f (sm A.1 6 (fmT A j)) (sm A.1 6 (fmT A k)) → X) : wp_X12_hindersSets p1 p2 σ (fun r2 => (0 ≤ r2 → X) ∧ (¬ 0 ≤ r2 → E r2)) := by
  refine q12_hindersSets ok C (fun e => ?_) (fun e => ?_) (fun j k e1 e2 hr => ?_) (fun j k e1 e2 hr => ?_)
  · exact no_ (by decide) (hE _ (o2_1 e).symm)
  · exact no_ (by decide) (hE _ (o2_2 e).symm)
  · exact no_ (by decide) (hE _ (o2_3 e1 e2 hr).symm)
  · exact yes_ (by decide) (hX j k e1 e2 (or_ff hr).1 (or_ff hr).2 (o2_4 e1 e2 hr))
theorem q12_ae (ok : okA A) (C : RSt A σ) {X : Prop} {E : Int64 → Prop} {f : Nat → Nat → (Nat → Bool) → (Nat → Bool) → Int64} (hE : ∀ z, z = oa A p3 p4 (-1) (fun i p => o2 A p1 p2 (-1) (-4) (f i p)) → E z) (hX : ∀ i p j k, i < cn A.1 → p < 2 → p3 = nI i → p4 = nI p → inx p1 (FN A) = some j → inx p2 (FN A) = some k → rfd A.1 (lng 6 (fmT A j)) = false → rfd A.1 (lng 6 (fmT A k)) = false → oa A p3 p4 (-1) (fun i p => o2 A p1 p2 (-1) (-4) (f i p)) = f i p (sm A.1 6 (fmT A j)) (sm A.1 6 (fmT A k)) → X) : wp_X12_hinders p1 p2 p3 p4 σ (fun r2 => (0 ≤ r2 → X) ∧ (¬ 0 ≤ r2 → E r2.toInt64)) := by
  have hn := ok.1.1
  have bad : (inx p1 (FN A) = none ∨ inx p2 (FN A) = none) → oa A p3 p4 (-1 : Int64) (fun i p => o2 A p1 p2 (-1) (-4) (f i p)) = -1 := fun h => by
    unfold oa
    cases h1 : inx p3 (cn A.1) with
    | none => rfl
    | some i =>
      rw [o1_s rfl]
      cases h2 : inx p4 2 with
      | none => rfl
      | some p =>
        rw [o1_s rfl]
        rcases h with h | h
        · exact o2_1 h
        · exact o2_2 h
  refine q12_hinders ok C (fun e => ?_) (fun e => ?_) (fun e => ?_) (fun e => ?_) (fun i p j k e3 e4 e1 e2 hr => ?_) (fun i p j k e3 e4 e1 e2 hr => ?_)
  · exact no_ (by decide) (by rw [e64_1]; exact hE _ (bad (Or.inl e)).symm)
  · exact no_ (by decide) (by rw [e64_1]; exact hE _ (bad (Or.inr e)).symm)
  · exact no_ (by decide) (by rw [e64_1]; exact hE _ (oa_1 e).symm)
  · exact no_ (by decide) (by rw [e64_1]; exact hE _ (oa_2 e).symm)
  · exact no_ (by decide) (by rw [e64_4]; exact hE _ (by rw [oa_3 e3 e4]; exact (o2_3 e1 e2 hr).symm))
  · obtain ⟨hx, hi⟩ := inx_eq (show cn A.1 < 2 ^ 31 by omega) e3
    obtain ⟨hx2, hp⟩ := inx_eq (show 2 < 2 ^ 31 by decide) e4
    exact yes_ (by decide) (hX i p j k hi hp hx hx2 e1 e2 (or_ff hr).1 (or_ff hr).2 (by rw [oa_3 e3 e4]; exact o2_4 e1 e2 hr))
theorem q12_holdsIn (ok : okA A) (C : RSt A σ) {Q : Int32 → US → Prop} (hQ : ∀ σ', RSt A σ' → Q (f_holdsIn A p1) σ') : wp_X12_holdsIn p1 σ Q := by
  unfold wp_X12_holdsIn
  unfold f_holdsIn at hQ
  refine q12_isFormulaC ok C p1 (fun e => ⟨fun z => absurd rfl z, fun _ => ?_⟩) (fun j hj hx e => ⟨fun _ => q12_ref ok C e ?_, fun z => absurd z (by decide)⟩)
  · rw [o2_1 e] at hQ; exact hQ _ C
  · cases hv : rfd A.1 (lng 6 (fmT A j)) with
    | true =>
      rw [o2_3 e e (by rw [hv]; rfl)] at hQ
      exact ⟨fun z => absurd z (show ¬ (1 : Int32) = 0 by decide), fun _ => hQ _ C⟩
    | false =>
      rw [o2_4 e e (by rw [hv]; rfl)] at hQ
      exact ⟨fun _ => q12_st ok C e hv (fun σ' C' => hQ _ C'), fun z => absurd rfl z⟩
theorem q12_holds (ok : okA A) (C : RSt A σ) {Q : Int32 → US → Prop} (hQ : ∀ σ', RSt A σ' → Q (f_holds A p1 p2) σ') : wp_X12_holds p1 p2 σ Q := by
  unfold wp_X12_holds
  unfold f_holds at hQ
  have hn := ok.1.1
  refine q12_isFormulaC ok C p1 (fun e => ⟨fun _ => ?_, fun z => absurd rfl z⟩) (fun j hj hx e => ⟨fun z => absurd z (by decide), fun _ => ?_⟩)
  · have h : o1 (inx p2 (cn A.1)) (-1 : Int32) (fun i => o2 A p1 p1 (-1) (-4) fun F _ => bI (F i)) = -1 := by
      cases inx p2 (cn A.1) with
      | none => rfl
      | some i => rw [o1_s rfl]; exact o2_1 e
    rw [h] at hQ; exact hQ _ C
  · refine q12_isStateC C.1 hn p2 (fun e2 => ⟨fun z => absurd rfl z, fun _ => ?_⟩) (fun i hi hx2 e2 => ⟨fun _ => q12_ref ok C e ?_, fun z => absurd z (by decide)⟩)
    · rw [o1_n e2] at hQ; exact hQ _ C
    · rw [o1_s e2] at hQ
      cases hv : rfd A.1 (lng 6 (fmT A j)) with
      | true =>
        rw [o2_3 e e (by rw [hv]; rfl)] at hQ
        exact ⟨fun z => absurd z (show ¬ (1 : Int32) = 0 by decide), fun _ => hQ _ C⟩
      | false =>
        rw [o2_4 e e (by rw [hv]; rfl)] at hQ
        refine ⟨fun _ => q12_st ok C e hv (fun σ' C' => ?_), fun z => absurd rfl z⟩
        subst hx2
        refine q12_has (by omega) ?_
        cases hv2 : sm A.1 6 (fmT A j) i with
        | false => rw [hv2] at hQ; exact yes_ rfl (hQ _ C')
        | true => rw [hv2] at hQ; exact no_ (show ¬ (1 : Int32) = 0 by decide) (hQ _ C')
theorem q12_next (ok : okA A) (C : RSt A σ) {Q : Int64 → US → Prop} (hQ : ∀ σ', RSt A σ' → Q (f_next A p1 p2 p3) σ') : wp_X12_next p1 p2 p3 σ Q := by
  unfold wp_X12_next
  unfold f_next at hQ
  have hn := ok.1.1
  refine q12_ae (f := fun i p F _ => pv (stw A.1 i F) (cdiv A.1 i) p) (E := fun z => Q z σ) ok C (fun z hz => hz ▸ hQ _ C) (fun i p j k hi hp hx hx2 e1 e2 r1 r2 ev => ?_)
  rw [ev] at hQ
  refine q12_st ok C e1 r1 (fun u Cu => ?_)
  subst hx; subst hx2
  refine q12_weightInto Cu.1 ok.1 hi ?_
  refine q12_sumOf Cu.1 ok.1 (by omega) ?_
  have w90 := stw_90 (F := sm A.1 6 (fmT A j)) ok.1 i
  have c10 := cdiv_le ok.1 i
  rw [nI_t64 (by omega), nI_t64 (by omega)]
  refine q12_give (by omega) (by omega) (cdiv_pos A.1 i) (fun σ2 V2 => ?_)
  obtain ⟨K2, V3⟩ := V2.kv
  exact V3.toPv hp (hQ _ (K2.rs ok Cu))
theorem q12_until (ok : okA A) (C : RSt A σ) {Q : Int64 → US → Prop} (hQ : ∀ σ', RSt A σ' → Q (f_until A p1 p2 p3 p4) σ') : wp_X12_until p1 p2 p3 p4 σ Q := by
  unfold wp_X12_until
  unfold f_until at hQ
  have hn := ok.1.1
  refine q12_ae (f := fun i p F G => pv (ut A.1 F G i) (ub A.1 F G) p) (E := fun z => Q z σ) ok C (fun z hz => hz ▸ hQ _ C) (fun i p j k hi hp hx hx2 e1 e2 r1 r2 ev => ?_)
  rw [ev] at hQ
  refine q12_st ok C e1 r1 (fun u Cu => q12_st ok Cu e2 r2 (fun u2 Cu2 => ?_))
  subst hx; subst hx2
  refine q12_findUntil Cu2.1 ok.1 (sm_lt A.1 6 _) hi (fun σ' K V => ?_)
  exact V.toPv hp (hQ _ (K.rs ok Cu2))
theorem q12_never (ok : okA A) (C : RSt A σ) {Q : Int32 → US → Prop} (hQ : ∀ σ', RSt A σ' → Q (f_never A p1 p2) σ') : wp_X12_never p1 p2 σ Q := by
  unfold wp_X12_never
  unfold f_never at hQ
  refine q12_e2 (f := fun F G => nI (mk (nev A.1 F G))) (E := fun z => Q z σ) ok C (fun z hz => hz ▸ hQ _ C) (fun j k e1 e2 r1 r2 ev => ?_)
  rw [ev] at hQ
  exact q12_st ok C e1 r1 (fun u Cu => q12_st ok Cu e2 r2 (fun u2 Cu2 => q12_neverOf Cu2.1 ok.1 (sm_lt A.1 6 _) (hQ _ Cu2)))
theorem q12_surely (ok : okA A) (C : RSt A σ) {Q : Int32 → US → Prop} (hQ : ∀ σ', RSt A σ' → Q (f_surely A p1 p2) σ') : wp_X12_surely p1 p2 σ Q := by
  unfold wp_X12_surely
  unfold f_surely at hQ
  refine q12_e2 (f := fun F G => nI (mk (sur A.1 F G))) (E := fun z => Q z σ) ok C (fun z hz => hz ▸ hQ _ C) (fun j k e1 e2 r1 r2 ev => ?_)
  rw [ev] at hQ
  exact q12_st ok C e1 r1 (fun u Cu => q12_st ok Cu e2 r2 (fun u2 Cu2 => q12_surelyOf Cu2.1 ok.1 (sm_lt A.1 6 _) (hQ _ Cu2)))
theorem q12_steady (ok : okA A) (C : RSt A σ) {Q : Int64 → US → Prop} (hQ : ∀ σ', RSt A σ' → Q (f_steady A p1 p2 p3) σ') : wp_X12_steady p1 p2 p3 σ Q := by
  unfold wp_X12_steady
  unfold f_steady at hQ
  have hn := ok.1.1
  refine q12_ae (f := fun i p F _ => pv (VS A.1 F i 8) (WS A.1 F) p) (E := fun z => Q z σ) ok C (fun z hz => hz ▸ hQ _ C) (fun i p j k hi hp hx hx2 e1 e2 r1 r2 ev => ?_)
  rw [ev] at hQ
  refine q12_st ok C e1 r1 (fun u Cu => ?_)
  subst hx; subst hx2
  exact q12_findSteady Cu.1 ok.1 hi (fun σ' K V => V.toPv hp (hQ _ (K.rs ok Cu)))
theorem q12_share (ok : okA A) (C : RSt A σ) {Q : Int64 → US → Prop} (hQ : ∀ σ', RSt A σ' → Q (f_share A p1 p2) σ') : wp_X12_share p1 p2 σ Q := by
  unfold wp_X12_share
  unfold f_share at hQ
  have hn := ok.1.1
  refine q12_isStateC C.1 hn p1 (fun e => ⟨fun _ => ?_, fun z => absurd rfl z⟩) (fun i hi hx e => ⟨fun z => absurd z (by decide), fun _ => ?_⟩)
  · rw [oa_1 e] at hQ; exact hQ _ C
  · refine q12_isPartC p2 (fun e2 => ⟨fun z => absurd rfl z, fun _ => ?_⟩) (fun p hp hx2 e2 => ⟨fun _ => ?_, fun z => absurd z (by decide)⟩)
    · rw [oa_2 e2] at hQ; exact hQ _ C
    · rw [oa_3 e e2] at hQ
      subst hx; subst hx2
      rw [sI_one0 i (by omega)]
      exact q12_findSteady C.1 ok.1 hi (fun σ' K V => V.toPv hp (hQ _ (K.rs ok C)))
theorem q12_expected (ok : okA A) (C : RSt A σ) {Q : Int64 → US → Prop} (hQ : ∀ σ', RSt A σ' → Q (f_expected A p1 p2 p3) σ') : wp_X12_expected p1 p2 p3 σ Q := by
  unfold wp_X12_expected
  unfold f_expected at hQ
  have hn := ok.1.1
  refine q12_ae (f := fun i p F _ => if sur A.1 (allS A.1) F i = true then pv (eT A.1 F i) (eB A.1 F i) p else -5) (E := fun z => Q z σ) ok C (fun z hz => hz ▸ hQ _ C) (fun i p j k hi hp hx hx2 e1 e2 r1 r2 ev => ?_)
  rw [ev] at hQ
  refine q12_st ok C e1 r1 (fun u Cu => ?_)
  subst hx; subst hx2
  refine q12_findExpected Cu.1 ok.1 (sm_lt A.1 6 _) hi (fun hv => ?_) (fun hv σ' K V => ?_)
  · rw [if_neg (by rw [hv]; decide)] at hQ
    exact yes_ rfl (hQ _ Cu)
  · rw [if_pos hv] at hQ
    exact no_ (by decide) (V.toPv hp (hQ _ (K.rs ok Cu)))
theorem q12_within (ok : okA A) (C : RSt A σ) {Q : Int64 → US → Prop} (hQ : ∀ σ', RSt A σ' → Q (f_within A p1 p2 p3 p4 p5) σ') : wp_X12_within p1 p2 p3 p4 p5 σ Q := by
  unfold wp_X12_within
  unfold f_within at hQ
  have hn := ok.1.1
  have j24 : ∀ r : Int32, r ≠ 0 → ¬ 0 ≤ r → Q r.toInt64 σ → wp_X12_within_J24 p1 p2 p3 p4 p5 σ r Q := fun r h0 h1 h => by
    unfold wp_X12_within_J24 wp_X12_within_J44 wp_X12_within_J46
    exact ⟨fun _ => ⟨fun z => absurd z h1, fun _ => h⟩, fun z => absurd z h0⟩
  have bad3 : inx p3 7 = none → oa A p4 p5 (-1 : Int64) (fun i p => o1 (inx p3 7) (-1) fun m => o2 A p1 p2 (-1) (-4) fun F G => if rfd A.1 m = true then -4 else pv (wcn A.1 F G m i) (lcmN A.1 (cn A.1) ^ m) p) = -1 := fun e => by
    unfold oa
    cases inx p4 (cn A.1) with
    | none => rfl
    | some i =>
      rw [o1_s rfl]
      cases inx p5 2 with
      | none => rfl
      | some p =>
        rw [o1_s rfl]
        exact o1_n e _ _
  refine q12_in0 (n := 6) (by decide) p3 (fun e => ⟨fun z => absurd rfl z, fun _ => ?_⟩) (fun m hm hx3 e3 => ⟨fun _ => ?_, fun z => absurd z (by decide)⟩)
  · rw [bad3 e] at hQ
    exact j24 _ (by decide) (by decide) (by rw [e64_1]; exact hQ _ C)
  · have bad : (inx p1 (FN A) = none ∨ inx p2 (FN A) = none) → oa A p4 p5 (-1 : Int64) (fun i p => o1 (inx p3 7) (-1) fun m => o2 A p1 p2 (-1) (-4) fun F G => if rfd A.1 m = true then -4 else pv (wcn A.1 F G m i) (lcmN A.1 (cn A.1) ^ m) p) = -1 := fun h => by
      unfold oa
      cases inx p4 (cn A.1) with
      | none => rfl
      | some i =>
        rw [o1_s rfl]
        cases inx p5 2 with
        | none => rfl
        | some p =>
          rw [o1_s rfl]
          refine Eq.trans (o1_s e3 _ _) ?_
          rcases h with h | h
          · exact o2_1 h
          · exact o2_2 h
    refine q12_hinders ok C (fun e => ?_) (fun e => ?_) (fun e => ?_) (fun e => ?_) (fun i p j k e4 e5 e1 e2 hr => ?_) (fun i p j k e4 e5 e1 e2 hr => ?_)
    · rw [bad (Or.inl e)] at hQ; exact j24 _ (by decide) (by decide) (by rw [e64_1]; exact hQ _ C)
    · rw [bad (Or.inr e)] at hQ; exact j24 _ (by decide) (by decide) (by rw [e64_1]; exact hQ _ C)
    · rw [oa_1 e] at hQ; exact j24 _ (by decide) (by decide) (by rw [e64_1]; exact hQ _ C)
    · rw [oa_2 e] at hQ; exact j24 _ (by decide) (by decide) (by rw [e64_1]; exact hQ _ C)
    · rw [oa_3 e4 e5, o1_s e3, o2_3 e1 e2 hr] at hQ; exact j24 _ (by decide) (by decide) (by rw [e64_4]; exact hQ _ C)
    · rw [oa_3 e4 e5, o1_s e3, o2_4 e1 e2 hr] at hQ
      obtain ⟨hx, hi⟩ := inx_eq (show cn A.1 < 2 ^ 31 by omega) e4
      obtain ⟨hx2, hp⟩ := inx_eq (show 2 < 2 ^ 31 by decide) e5
      unfold wp_X12_within_J24
      refine ⟨fun z => absurd rfl z, fun _ => ?_⟩
      subst hx3
      refine q12_isRefused C.1 ok.1 (by omega) ?_
      cases hv : rfd A.1 m with
      | true =>
        rw [if_pos hv] at hQ
        refine ⟨fun z => absurd z (show ¬ (1 : Int32) = 0 by decide), fun _ => ?_⟩
        unfold wp_X12_within_J46
        exact ⟨fun z => absurd z (by decide), fun _ => by rw [e64_4]; exact hQ _ C⟩
      | false =>
        rw [if_neg (by rw [hv]; decide)] at hQ
        refine ⟨fun _ => ?_, fun z => absurd rfl z⟩
        unfold wp_X12_within_J44 wp_X12_within_J46
        refine ⟨fun _ => ?_, fun z => absurd (show (0 : Int32) ≤ 0 by decide) z⟩
        refine q12_st ok C e1 (or_ff hr).1 (fun u Cu => q12_st ok Cu e2 (or_ff hr).2 (fun u2 Cu2 => ?_))
        subst hx; subst hx2
        exact q12_findWithin Cu2.1 ok.1 (sm_lt A.1 6 _) (by omega) hv hi (fun σ' K V => V.toPv hp (hQ _ (K.rs ok Cu2)))
theorem q12_bestWalk {c : CH} {F G : Nat → Bool} {z : US} {v : BV} (ok : okC c) (h : RM z c) (hF : ∀ b, F b = true → b < cn c) (hR : RpR c z v) (hB : BI c (uB2 F G) G v) (hC : CvA c (uB2 F G) G v) {i m : Nat} (hi : i < cn c) (hm : m < v.1 i) {Q : Int32 → US → Prop} (hQ : Q (nI (pth c (uB2 F G) v i m)) z) : lpW (wp_X12_bestPath_L101 (nI m) z Q) (nI i, 0) := by
  have hn := ok.1
  have hU : ∀ s, uB2 F G s = true → s < cn c := fun s hs => hF s (by unfold uB2 at hs; simp at hs; exact hs.1)
  have hl8 := BI_len hB (show i < 8 by omega)
  have hlt : ∀ k, k ≤ m → pth c (uB2 F G) v i k < cn c := by
    intro k
    induction k with
    | zero => intro _; exact hi
    | succ k ih =>
      intro hk
      have h1 := ih (by omega)
      have h2 := pth_len ok hB hC (show i < 8 by omega) k (by omega)
      have h3 := nxt_ok ok hB hC (pth_lt (c := c) (U := uB2 F G) (v := v) (show i < 8 by omega) k) (by omega)
      exact suc_lt ok h1 (suc_iff.mpr (nxb_iff.mp h3).1)
  refine lpW_of (fun r (t : Int32 × Int32) => ∃ k, k + r = m ∧ t.2 = nI k ∧ t.1 = nI (pth c (uB2 F G) v i k)) (fun r t ht P hP => ?_) m _ ⟨0, by omega, rfl, rfl⟩
  obtain ⟨k, hk, e2, e1⟩ := ht
  unfold wp_X12_bestPath_L101
  rw [e2, e1]
  refine pk_le m k (fun hmk => ?_) (fun hmk => ?_)
  · have e : k = m := by omega
    subst e; exact hQ
  · have h2 := pth_len ok hB hC (show i < 8 by omega) k (by omega)
    refine q12_nextOnBest hR h ok hU hB hC (hlt k (by omega)) (by omega) ?_
    refine hP _ (r - 1) (by omega) ⟨k + 1, by omega, nI_1 k, rfl⟩
theorem q12_bestPath (ok : okA A) (C : RSt A σ) {Q : Int32 → US → Prop} (hQ : ∀ σ', RSt A σ' → Q (f_bestPath A p1 p2 p3 p4) σ') : wp_X12_bestPath p1 p2 p3 p4 σ Q := by
  unfold wp_X12_bestPath
  unfold f_bestPath at hQ
  have hn := ok.1.1
  refine ⟨fun hm => ?_, fun hm => q12_isStateC C.1 hn p3 (fun e => ⟨fun z => absurd rfl z, fun _ => ?_⟩) (fun i hi hx e => ⟨fun _ => ?_, fun z => absurd z (by decide)⟩)⟩
  · have e : o1 (inx p3 (cn A.1)) (-1 : Int32) (fun i => if p4 < -1 then -1 else o2 A p1 p2 (-1) (-4) fun F G => if (bst A.1 (uB2 F G) G).1 i = 0 then -2 else if p4 < 0 then nI ((bst A.1 (uB2 F G) G).1 i) else o1 (inx p4 ((bst A.1 (uB2 F G) G).1 i)) (-2) fun m => nI (pth A.1 (uB2 F G) (bst A.1 (uB2 F G) G) i m)) = -1 := by
      cases inx p3 (cn A.1) with
      | none => rfl
      | some i => rw [o1_s rfl, if_pos hm]
    rw [e] at hQ; exact hQ _ C
  · rw [o1_n e] at hQ; exact hQ _ C
  · rw [o1_s e, if_neg hm] at hQ
    subst hx
    refine q12_e2 (f := fun F G => if (bst A.1 (uB2 F G) G).1 i = 0 then -2 else if p4 < 0 then nI ((bst A.1 (uB2 F G) G).1 i) else o1 (inx p4 ((bst A.1 (uB2 F G) G).1 i)) (-2) fun m => nI (pth A.1 (uB2 F G) (bst A.1 (uB2 F G) G) i m)) (E := fun z => Q z σ) ok C (fun z hz => hz ▸ hQ _ C) (fun j k e1 e2 r1 r2 ev => ?_)
    rw [ev] at hQ
    refine q12_st ok C e1 r1 (fun u Cu => q12_st ok Cu e2 r2 (fun u2 Cu2 => ?_))
    refine q12_findBestG Cu2.1 ok.1 (sm_lt A.1 6 _) (sm_lt A.1 6 _) (fun z v K hR hB hC => ?_)
    have Cz := K.rs ok Cu2
    have hi8 : i < 8 := by omega
    obtain ⟨el, -⟩ := bst_pv (p := 0) hB hC hi8
    have hle := BI_len hB hi8
    obtain ⟨z1, z2, z3, z4⟩ := hR.1 i hi
    have hb9 := (hB i hi8).2.2.2.1
    rw [← el] at hQ
    have v8 : vp_in (nI i) 8 := vp_in_nI hi8 (by decide)
    refine ⟨v8, ?_⟩
    rw [nI_clamp (by omega), z1, lg_cmp_eq, li64_0, pk_lEQ (by omega) (by omega)]
    have key : v.2.1 i = 0 ↔ v.1 i = 0 := by
      refine ⟨fun h => ?_, z4⟩
      rcases Nat.eq_zero_or_pos (v.1 i) with h0 | h0
      · exact h0
      · obtain ⟨_, _, _, _, h5, _⟩ := (hB i hi8).2.1 h0
        omega
    rw [key, z3]
    refine ⟨fun h0 => ?_, fun h0 => ⟨v8, ?_⟩⟩
    · rw [if_pos h0] at hQ; exact hQ _ Cz
    · rw [if_neg h0] at hQ
      have es : sto v i = v.1 i - 1 := by unfold sto; rw [if_neg h0]
      rw [es]
      rcases inx_c p4 (show v.1 i < 2 ^ 31 by omega) with ⟨e3, h3⟩ | ⟨m, hm2, rfl, e3⟩
      · by_cases hneg : p4 < 0
        · rw [if_pos hneg] at hQ
          have hlt : p4 ≤ nI (v.1 i - 1) := by
            rw [Int32.lt_iff_toInt_lt] at hneg
            rw [Int32.le_iff_toInt_le, nI_toInt (by omega)]
            have : (0 : Int32).toInt = 0 := by decide
            omega
          refine ⟨fun _ => ⟨fun hc => ?_, fun _ => ⟨v8, ?_⟩⟩, fun hc => absurd hlt hc⟩
          · exfalso
            rw [Int32.le_iff_toInt_le] at hc
            rw [Int32.lt_iff_toInt_lt] at hneg
            omega
          · rw [nI_1, show v.1 i - 1 + 1 = v.1 i by omega]; exact hQ _ Cz
        · rw [if_neg hneg, o1_n e3] at hQ
          refine ⟨fun hc => ?_, fun _ => hQ _ Cz⟩
          exfalso
          rcases h3 with h3 | h3
          · exact hneg h3
          · rw [Int32.le_iff_toInt_le, nI_toInt (by omega)] at h3
            rw [Int32.le_iff_toInt_le, nI_toInt (by omega)] at hc
            omega
      · rw [if_neg (nn (by omega)), o1_s e3, ← bst_pth hB hC hi8] at hQ
        refine ⟨fun _ => ⟨fun _ => ?_, fun hc => ?_⟩, fun hc => ?_⟩
        · exact q12_bestWalk ok.1 Cz.1 (sm_lt A.1 6 _) hR.1 hB hC hi hm2 (hQ _ Cz)
        · exact absurd (show (0 : Int32) ≤ nI m by rw [li0]; exact nI_le (Nat.zero_le _) (by omega)) hc
        · exact absurd (show nI m ≤ nI (v.1 i - 1) from nI_le (by omega) (by omega)) hc
theorem q12_bestProduct (ok : okA A) (C : RSt A σ) {Q : Int64 → US → Prop} (hQ : ∀ σ', RSt A σ' → Q (f_bestProduct A p1 p2 p3 p4) σ') : wp_X12_bestProduct p1 p2 p3 p4 σ Q := by
  unfold wp_X12_bestProduct
  unfold f_bestProduct at hQ
  have hn := ok.1.1
  refine q12_ae (f := fun i p F G => if (bst A.1 (uB2 F G) G).1 i = 0 then -2 else pv ((bst A.1 (uB2 F G) G).2.1 i) ((bst A.1 (uB2 F G) G).2.2 i) p) (E := fun z => Q z σ) ok C (fun z hz => hz ▸ hQ _ C) (fun i p j k hi hp hx hx2 e1 e2 r1 r2 ev => ?_)
  rw [ev] at hQ
  refine q12_st ok C e1 r1 (fun u Cu => q12_st ok Cu e2 r2 (fun u2 Cu2 => ?_))
  subst hx; subst hx2
  refine q12_findBestG Cu2.1 ok.1 (sm_lt A.1 6 _) (sm_lt A.1 6 _) (fun z v K hR hB hC => ?_)
  have Cz := K.rs ok Cu2
  have hi8 : i < 8 := by omega
  obtain ⟨el, ep⟩ := bst_pv (p := p) hB hC hi8
  have hle := BI_len hB hi8
  obtain ⟨z1, z2, z3, z4⟩ := hR.1 i hi
  have hg := hR.2 i hi
  have hb9 := (hB i hi8).2.2.2.1
  rw [← el] at hQ
  have v8 : vp_in (nI i) 8 := vp_in_nI hi8 (by decide)
  refine ⟨v8, ?_⟩
  rw [nI_clamp (by omega), z1, z2, lg_cmp_eq, li64_0, pk_lEQ (by omega) (by omega)]
  have key : v.2.1 i = 0 ↔ v.1 i = 0 := by
    refine ⟨fun h => ?_, z4⟩
    rcases Nat.eq_zero_or_pos (v.1 i) with h0 | h0
    · exact h0
    · obtain ⟨_, _, _, _, h5, _⟩ := (hB i hi8).2.1 h0
      omega
  rw [key]
  refine ⟨fun h0 => ?_, fun h0 => ?_⟩
  · rw [if_neg h0, ← ep (by omega)] at hQ
    unfold pv at hQ
    rw [hg, Nat.div_one, Nat.div_one] at hQ
    refine ⟨fun hp0 => ⟨v8, ?_⟩, fun hp0 => ⟨v8, ?_⟩⟩
    · rw [li0, nI_eq (by omega) (by decide)] at hp0
      rw [if_neg hp0] at hQ; exact hQ _ Cz
    · rw [li0, nI_eq (by omega) (by decide)] at hp0
      rw [if_pos hp0] at hQ; exact hQ _ Cz
  · rw [if_pos h0] at hQ; exact hQ _ Cz
end REV
