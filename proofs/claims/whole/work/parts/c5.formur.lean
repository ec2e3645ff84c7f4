/-! ===== the buffer and the formulas: the reference ===== -/
section RFO
variable {A : AB} {σ : US} {p1 : Int32}
theorem q12_feed (ok : okA A) (C : RSt A σ) {Q : Int32 → US → Prop} (hQ : ∀ σ', RSt (g_feed A p1) σ' → Q (f_feed A p1) σ') : wp_X12_feed p1 σ Q := by
  obtain ⟨l1, l2⟩ := ok.2.2.2.2
  obtain ⟨h1, h2, ⟨h3, h3b⟩, h4, h5, h5b⟩ := id C
  unfold wp_X12_feed
  unfold f_feed g_feed at hQ
  rcases inx_c p1 (show 127 < 2 ^ 31 by decide) with ⟨e, hx⟩ | ⟨x, hx, rfl, e⟩
  · rw [o1_n e, o1_n e] at hQ
    unfold wp_X12_in
    refine ⟨fun _ => ⟨fun z => absurd rfl z, fun _ => hQ _ C⟩, fun hc => ⟨fun _ => ⟨fun z => absurd rfl z, fun _ => hQ _ C⟩, fun hc2 => ?_⟩⟩
    exfalso
    rw [show (33 : Int32) = nI 33 from rfl, Int32.lt_iff_toInt_lt, nI_toInt (by omega)] at hc
    rw [show (126 : Int32) = nI 126 from rfl, Int32.lt_iff_toInt_lt, nI_toInt (by omega)] at hc2
    rcases hx with hx | hx
    · rw [Int32.lt_iff_toInt_lt] at hx
      have : (0 : Int32).toInt = 0 := by decide
      omega
    · rw [Int32.le_iff_toInt_le, nI_toInt (by omega)] at hx
      omega
  · rw [o1_s e, o1_s e] at hQ
    refine q12_in (b := 33) (d := 126) (by omega) (by decide) (by decide) ?_
    by_cases h33 : 33 ≤ x
    · rw [decide_eq_true (show 33 ≤ x ∧ x ≤ 126 by omega)]
      rw [if_pos h33, if_pos h33] at hQ
      refine ⟨fun _ => ?_, fun z => absurd z (show ¬ (1 : Int32) = 0 by decide)⟩
      refine And.symm (pk_eq A.2.2.2.2.length 50 (fun h50 => ?_) (fun h50 => ?_) h5 rfl)
      · rw [if_neg (by omega), if_neg (by omega)] at hQ; exact hQ _ C
      · rw [if_pos (by omega), if_pos (by omega)] at hQ
        rw [h5, nI_clamp (by omega)]
        refine ⟨vp_in_nI (by omega) (by decide), fun z2 hz2 z3 hz3 => ?_⟩
        subst hz2
        subst hz3
        have e3 : iI (uI (uA σ 17 A.2.2.2.2.length (nI x)) 5 (iI (uA σ 17 A.2.2.2.2.length (nI x)) 5 + 1)) 5 = nI (A.2.2.2.2.length + 1) := by
          rw [iI_uIs]
          show iI σ 5 + 1 = _
          rw [h5, nI_1]
        rw [e3]
        refine hQ _ ⟨h1, h2.cg rfl rfl, ⟨by rw [iI_uIn (by decide)]; exact h3, h3b⟩, RF4.keep (fun q a b => aA_sAn (by omega)) (fun k hk => iI_uIn (by omega)) ok.2.2.2.1.1 h4, ?_, fun i hi => ?_⟩
        · rw [e3]
          show nI _ = nI (A.2.2.2.2 ++ [x]).length
          rw [List.length_append]; rfl
        · have hi : i < A.2.2.2.2.length + 1 := by
            have hi : i < (A.2.2.2.2 ++ [x]).length := hi
            rw [List.length_append] at hi; exact hi
          show aA (uA σ 17 A.2.2.2.2.length (nI x)) 17 i = nI (tL (A.2.2.2.2 ++ [x]) i)
          rw [aA_uA]
          by_cases ei : i = A.2.2.2.2.length
          · subst ei; rw [tL_end, if_pos ⟨rfl, rfl⟩]
          · rw [tL_app (by omega), if_neg (fun hc => ei hc.2)]; exact h5b i (by omega)
    · rw [decide_eq_false (show ¬ (33 ≤ x ∧ x ≤ 126) by omega)]
      rw [if_neg h33, if_neg h33] at hQ
      exact ⟨fun z => absurd rfl z, fun _ => hQ _ C⟩
theorem q12_clear (C : RSt A σ) {Q : Int32 → US → Prop} (hQ : ∀ σ', RSt (g_clear A) σ' → Q (f_clear A) σ') : wp_X12_clearFormulas σ Q := by
  obtain ⟨h1, h2, ⟨h3, h3b⟩, h4, h5, h5b⟩ := id C
  unfold wp_X12_clearFormulas
  intro x1 hx1 z2 hz2 z3 hz3
  rw [h4.1] at hx1
  subst hx1
  subst hz2
  subst hz3
  refine hQ _ ⟨h1, h2.cg rfl ((iI_uIn (by decide)).trans (iI_uIn (by decide))), ⟨((iI_uIn (by decide)).trans (iI_uIn (by decide))).trans h3, h3b⟩, ⟨(iI_uIn (by decide)).trans iI_uIs, 0, iI_uIs, Nat.zero_le _, fun j F hj => absurd hj (by simp [g_clear])⟩, ((iI_uIn (by decide)).trans (iI_uIn (by decide))).trans h5, h5b⟩
theorem RT.keep6 {σ σ' : US} {N : Nat} (h : ∀ q x, 6 ≤ q → q ≤ 12 → x < N → aA σ' q x = aA σ q x) : ∀ (n : Nat) (T : TR n) (i : Nat), i < N → RT σ n T i → RT σ' n T i
  | 0, _, _, _, g => g
  | n + 1, T, i, hi, g => by
    unfold RT at g ⊢
    obtain ⟨g1, g2, g3, g4, g5⟩ := g
    refine ⟨by rw [h 6 i (by omega) (by omega) hi]; exact g1, fun z => by rw [h 9 i (by omega) (by omega) hi]; exact g2 z, fun z => by rw [h 10 i (by omega) (by omega) hi, h 11 i (by omega) (by omega) hi, h 12 i (by omega) (by omega) hi]; exact g3 z, fun z => ?_, fun z => ?_⟩
    · obtain ⟨j, j1, j2, j3⟩ := g4 z
      exact ⟨j, j1, by rw [h 7 i (by omega) (by omega) hi]; exact j2, RT.keep6 h n _ j (by omega) j3⟩
    · obtain ⟨j, j1, j2, j3⟩ := g5 z
      exact ⟨j, j1, by rw [h 8 i (by omega) (by omega) hi]; exact j2, RT.keep6 h n _ j (by omega) j3⟩
abbrev HF (σ : US) (m : Nat) (fs : List FM) : Prop := ∀ (j : Nat) (F : FM), fs[j]? = some F → ∃ i, i < m ∧ aA σ 13 j = nI i ∧ RT σ 6 F.2 i ∧ aA σ 16 j = nI F.1.length ∧ ∀ x, x < F.1.length → aA σ 15 (50 * j + x) = nI (tL F.1 x)
theorem HF.kr {N m : Nat} {fs : List FM} {z σ' : US} (K : KR N z σ') (hm : m ≤ N) (hF : HF z m fs) : HF σ' m fs := fun j F hj => by
  obtain ⟨i, a1, a2, a3, a4, a5⟩ := hF j F hj
  exact ⟨i, a1, by rw [K.1 13 (by omega)]; exact a2, RT.keep (N := m) (fun q x hx => K.2.1 q x (by omega)) 6 F.2 i a1 a3, by rw [K.1 16 (by omega)]; exact a4, fun x hx => by rw [K.1 15 (by omega)]; exact a5 x hx⟩
theorem HF.rows {m : Nat} {fs : List FM} {z σ' : US} (h : ∀ q, aA σ' q = aA z q) (hF : HF z m fs) : HF σ' m fs := fun j F hj => by
  obtain ⟨i, a1, a2, a3, a4, a5⟩ := hF j F hj
  exact ⟨i, a1, by rw [h 13]; exact a2, RT.keep6 (N := m) (fun q x _ _ _ => by rw [h q]) 6 F.2 i a1 a3, by rw [h 16]; exact a4, fun x hx => by rw [h 15]; exact a5 x hx⟩
theorem q12_after (ok : okA A) (C : RSt A σ) {m N : Nat} (hm : m ≤ 50 * FN A) (hF : HF σ m A.2.2.2.1) (hN : m ≤ N) {σ' : US} (K : KR N σ σ') (s0 : Int32) {fs : List FM} (efs : fs = A.2.2.2.1) : RSt (A.1, A.2.1, A.2.2.1, fs, []) (uI (uI (uI σ' 8 s0) 5 0) 3 (nI m)) := by
  subst efs
  obtain ⟨h1, h2, ⟨h3, h3b⟩, h4, h5, h5b⟩ := C
  have ei : ∀ k, k ≠ 8 → k ≠ 5 → k ≠ 3 → k < 6 → iI (uI (uI (uI σ' 8 s0) 5 0) 3 (nI m)) k = iI σ k := fun k a b c d => by
    rw [iI_uIn c, iI_uIn b, iI_uIn a]; exact K.2.2.1 k d c
  have e5 : iI (uI (uI (uI σ' 8 s0) 5 0) 3 (nI m)) 5 = nI 0 := by rw [iI_uIn (by decide), iI_uIs]; rfl
  refine ⟨?_, h2.cg (K.1 2 (by omega)) (ei 1 (by decide) (by decide) (by decide) (by decide)), ⟨(ei 0 (by decide) (by decide) (by decide) (by decide)).trans h3, fun d hd => ?_⟩, ⟨(ei 4 (by decide) (by decide) (by decide) (by decide)).trans h4.1, m, iI_uIs, hm, HF.rows (z := σ') (fun _ => rfl) (HF.kr K hN hF)⟩, e5, fun i hi => absurd hi (Nat.not_lt_zero _)⟩
  · show RRow (aA σ' 0) A.1
    rw [K.1 0 (by omega)]; exact h1
  · show RRow (aA σ' 1) d
    rw [K.1 1 (by omega)]; exact h3b d hd
theorem q12_J45 (ok : okA A) (C : RSt A σ) {m N : Nat} (hm : m ≤ 50 * FN A) (hF : HF σ m A.2.2.2.1) (hN : m ≤ N) {σ' : US} (K : KR N σ σ') (e8 : iI σ' 8 = bI (rdA A).1.1) (e6 : iI σ' 6 = nI (rdA A).1.2) (hle : (rdA A).1.2 ≤ A.2.2.2.2.length) {i : Int32} (hS : FN A < 6 → (rdA A).1.1 = false → ∃ m' iN, i = nI iN ∧ iN < m' ∧ m ≤ m' ∧ m' ≤ 50 * FN A + 50 ∧ RT σ' 6 (rdA A).2 iN ∧ iI σ' 3 = nI m' ∧ iN < 300) {Q : Int32 → US → Prop} (hQ : ∀ σ'', RSt (g_addF A) σ'' → Q (f_addF A) σ'') : wp_X12_addFormula_J45 (nI A.2.2.2.2.length) (nI m) σ' i Q := by
  have C0 := C
  obtain ⟨h1, h2, ⟨h3, h3b⟩, h4, h5, h5b⟩ := C
  obtain ⟨l1, l2⟩ := ok.2.2.2.2
  have l6 := ok.2.2.2.1.1
  have e5 : iI σ' 5 = nI A.2.2.2.2.length := (K.2.2.1 5 (by omega) (by omega)).trans h5
  have e4 : iI σ' 4 = nI (FN A) := (K.2.2.1 4 (by omega) (by omega)).trans h4.1
  have l6' : FN A ≤ 6 := l6
  have bad : okR A = false → wp_X12_addFormula_J70 i (nI A.2.2.2.2.length) (nI m) σ' 1 Q := fun hv => by
    unfold wp_X12_addFormula_J70
    refine ⟨⟨kbo1, rfl⟩, fun z8 hz8 z9 hz9 => ?_⟩
    subst hz8
    subst hz9
    have e : iI (uI (uI σ' 8 1) 5 0) 8 = 1 := (iI_uIn (by decide)).trans iI_uIs
    rw [e]
    refine ⟨fun z => absurd z (by decide), fun _ z16 hz16 => ?_⟩
    subst hz16
    have e2 : iI (uI (uI (uI σ' 8 1) 5 0) 3 (nI m)) 6 = nI (rdA A).1.2 := ((iI_uIn (by decide)).trans ((iI_uIn (by decide)).trans (iI_uIn (by decide)))).trans e6
    rw [e2]
    unfold f_addF at hQ
    rw [if_neg (by rw [hv]; decide)] at hQ
    exact hQ _ (q12_after ok C0 hm hF hN K 1 (if_neg (fun h => by rw [hv] at h; exact absurd h.1 (by decide))))
  have good : okR A = true → wp_X12_addFormula_J70 i (nI A.2.2.2.2.length) (nI m) σ' 0 Q := fun hv => by
    unfold wp_X12_addFormula_J70
    refine ⟨⟨kbo0, rfl⟩, fun z8 hz8 z9 hz9 => ?_⟩
    subst hz8
    have e : iI z9 8 = 0 := by rw [hz9]; exact (iI_uIn (by decide)).trans iI_uIs
    have e49 : iI z9 4 = nI (FN A) := by rw [hz9]; exact ((iI_uIn (by decide)).trans (iI_uIn (by decide))).trans e4
    rw [e]
    refine ⟨fun _ => ?_, fun z => absurd rfl z⟩
    refine And.symm (pk_eq (FN A) 6 (fun h6 => ?_) (fun h6 => ?_) e49 rfl)
    · intro z14 hz14
      subst hz9
      subst hz14
      unfold f_addF at hQ
      rw [if_pos hv, if_neg (by omega)] at hQ
      exact hQ _ (q12_after ok C0 hm hF hN K 0 (if_neg (fun h => by omega)))
    · have hF6 : FN A < 6 := by have : FN A ≤ 6 := l6; omega
      have h11 : (rdA A).1.1 = false := by
        unfold okR at hv
        cases h4 : (rdA A).1.1 with
        | false => rfl
        | true => rw [h4] at hv; exact absurd hv (by simp)
      obtain ⟨m', iN, rfl, s1, s2, s3, s4, s5, s6⟩ := hS hF6 h11
      unfold f_addF at hQ
      rw [if_pos hv, if_pos hF6] at hQ
      have eg : g_addF A = (A.1, A.2.1, A.2.2.1, A.2.2.2.1 ++ [(A.2.2.2.2, (rdA A).2)], []) := by
        unfold g_addF; rw [if_pos ⟨hv, hF6⟩]
      rw [eg] at hQ
      have e50 : (50 : Int32) * nI (FN A) = nI (50 * FN A) := by rw [show (50 : Int32) = nI 50 from rfl, pk_mul]
      rw [e49, e50]
      refine ⟨n0, nn (by omega), nn (by omega), by rw [cl0, nI_clamp (by omega)]; omega, by rw [nI_clamp (by omega), nI_clamp (by omega)]; omega, fun z10 hz10 => ?_⟩
      rw [cl0, nI_clamp (by omega), nI_clamp (by omega)] at hz10
      have e410 : iI z10 4 = nI (FN A) := by rw [hz10]; exact e49
      rw [e410]
      refine ⟨vp_in_nI hF6 (by decide), fun z11 hz11 => ?_⟩
      rw [nI_clamp (by omega)] at hz11
      have e411 : iI z11 4 = nI (FN A) := by rw [hz11]; exact e410
      rw [e411]
      refine ⟨vp_in_nI hF6 (by decide), fun z12 hz12 z13 hz13 => ?_⟩
      rw [nI_clamp (by omega)] at hz12
      have e412 : iI z12 4 = nI (FN A) := by rw [hz12]; exact e411
      rw [e412, nI_1] at hz13
      have e413 : iI z13 4 - 1 = nI (FN A) := by rw [hz13, iI_uIs, nI_pred1 (by omega)]; rfl
      rw [e413]
      have ai : ∀ q, q ≠ 13 → q ≠ 15 → q ≠ 16 → aA z13 q = aA σ' q := fun q a b c => by
        rw [hz13]
        show aA z12 q = _
        rw [hz12]
        refine (aA_sAn a).trans ?_
        rw [hz11]
        refine (aA_sAn c).trans ?_
        rw [hz10]
        refine (aA_sAn b).trans ?_
        rw [hz9]
      have a13 : ∀ j, aA z13 13 j = if j = FN A then nI iN else aA σ' 13 j := fun j => by
        rw [hz13]
        show aA z12 13 j = _
        rw [hz12, aA_uA]
        by_cases ej : j = FN A
        · rw [if_pos ⟨rfl, ej⟩, if_pos ej]
        · rw [if_neg (fun h => ej h.2), if_neg ej, hz11]
          show aA (uA z10 16 (FN A) (nI A.2.2.2.2.length)) 13 j = _
          rw [aA_uA, if_neg (fun h => by omega), hz10]
          show aA (sA z9 15 _) 13 j = _
          rw [aA_sAn (by decide), hz9]
      have a16 : ∀ j, aA z13 16 j = if j = FN A then nI A.2.2.2.2.length else aA σ' 16 j := fun j => by
        rw [hz13]
        show aA z12 16 j = _
        rw [hz12, aA_uA, if_neg (fun h => by omega), hz11, aA_uA]
        by_cases ej : j = FN A
        · rw [if_pos ⟨rfl, ej⟩, if_pos ej]
        · rw [if_neg (fun h => ej h.2), if_neg ej, hz10]
          show aA (sA z9 15 _) 16 j = _
          rw [aA_sAn (by decide), hz9]
      have a15 : aA z13 15 = va_cpy (aA σ' 17) (aA σ' 15) 0 (50 * FN A) A.2.2.2.2.length := by
        rw [hz13]
        show aA z12 15 = _
        rw [hz12]
        refine (aA_sAn (by decide)).trans ?_
        rw [hz11]
        refine (aA_sAn (by decide)).trans ?_
        rw [hz10, aA_sAs, hz9]
      have ii : ∀ k, k ≠ 4 → k ≠ 5 → k ≠ 8 → iI z13 k = iI σ' k := fun k a b c => by
        rw [hz13, iI_uIn a]
        show iI z12 k = _
        rw [hz12]
        show iI z11 k = _
        rw [hz11]
        show iI z10 k = _
        rw [hz10]
        show iI z9 k = _
        rw [hz9, iI_uIn b, iI_uIn c]
      refine hQ _ ⟨?_, h2.cg ?_ ?_, ⟨?_, fun d hd => ?_⟩, ⟨?_, m', (ii 3 (by decide) (by decide) (by decide)).trans s5, ?_, fun j F hj => ?_⟩, ?_, fun x hx => absurd hx (Nat.not_lt_zero _)⟩
      · show RRow (aA z13 0) A.1
        rw [ai 0 (by decide) (by decide) (by decide), K.1 0 (by omega)]; exact h1
      · rw [ai 2 (by decide) (by decide) (by decide), K.1 2 (by omega)]
      · rw [ii 1 (by decide) (by decide) (by decide)]; exact K.2.2.1 1 (by omega) (by omega)
      · rw [ii 0 (by decide) (by decide) (by decide), K.2.2.1 0 (by omega) (by omega)]; exact h3
      · rw [ai 1 (by decide) (by decide) (by decide), K.1 1 (by omega)]; exact h3b d hd
      · rw [hz13, iI_uIs]
        show nI _ = nI (A.2.2.2.1 ++ [(A.2.2.2.2, (rdA A).2)]).length
        rw [List.length_append]; rfl
      · show m' ≤ 50 * (A.2.2.2.1 ++ [(A.2.2.2.2, (rdA A).2)]).length
        rw [List.length_append]
        show m' ≤ 50 * (FN A + 1)
        omega
      · have hj : (A.2.2.2.1 ++ [(A.2.2.2.2, (rdA A).2)])[j]? = some F := hj
        have hk6 : ∀ q x, 6 ≤ q → q ≤ 12 → x < 300 → aA z13 q x = aA σ' q x := fun q x a b _ => by rw [ai q (by omega) (by omega) (by omega)]
        by_cases ej : j < A.2.2.2.1.length
        · rw [List.getElem?_append_left ej] at hj
          obtain ⟨i0, b1, b2, b3, b4, b5⟩ := HF.kr K hN hF j F hj
          have hFl : F.1.length ≤ 50 := (ok.2.2.2.1.2 F (List.mem_of_getElem? hj)).2.1
          have ejn : j ≠ FN A := by show j ≠ A.2.2.2.1.length; omega
          have ejl : j < FN A := ej
          refine ⟨i0, by omega, ?_, RT.keep6 hk6 6 F.2 i0 (by omega) b3, ?_, fun x hx => ?_⟩
          · rw [a13, if_neg ejn]; exact b2
          · rw [a16, if_neg ejn]; exact b4
          · rw [a15, pk_cpy_out (Or.inl (by omega))]; exact b5 x hx
        · have hjl := (List.getElem?_eq_some_iff.mp hj).1
          rw [List.length_append] at hjl
          have hjl : j < A.2.2.2.1.length + 1 := hjl
          have ej2 : j = FN A := by show j = A.2.2.2.1.length; omega
          subst ej2
          have hj : (A.2.2.2.1 ++ [(A.2.2.2.2, (rdA A).2)])[A.2.2.2.1.length]? = some F := hj
          rw [List.getElem?_append_right (Nat.le_refl _), Nat.sub_self] at hj
          have hj : (A.2.2.2.2, (rdA A).2) = F := Option.some.inj hj
          subst hj
          refine ⟨iN, s1, by rw [a13, if_pos rfl], RT.keep6 hk6 6 _ iN s6 s4, by rw [a16, if_pos rfl], fun x hx => ?_⟩
          have hx : x < A.2.2.2.2.length := hx
          rw [a15, pk_cpy_in (by omega) (by omega), K.1 17 (by omega)]
          rw [show 0 + (50 * FN A + x - 50 * FN A) = x by omega]
          exact h5b x hx
      · show iI z13 5 = nI 0
        rw [hz13, iI_uIn (by decide)]
        show iI z12 5 = _
        rw [hz12]
        show iI z11 5 = _
        rw [hz11]
        show iI z10 5 = _
        rw [hz10]
        show iI z9 5 = _
        rw [hz9, iI_uIs]; rfl
  unfold wp_X12_addFormula_J45 wp_X12_addFormula_J65
  rw [e8, e5, e6]
  cases h11 : (rdA A).1.1 with
  | true => exact ⟨fun _ => bad (by unfold okR; rw [h11]; rfl), fun z => absurd z (show ¬ (1 : Int32) = 0 by decide)⟩
  | false =>
    refine ⟨fun z => absurd rfl z, fun _ => ?_⟩
    refine pk_le A.2.2.2.2.length (rdA A).1.2 (fun hp => good ?_) (fun hp => bad ?_)
    · unfold okR
      rw [h11, decide_eq_true (show (rdA A).1.2 = A.2.2.2.2.length by omega)]; rfl
    · unfold okR
      rw [h11, decide_eq_false (show ¬ (rdA A).1.2 = A.2.2.2.2.length by omega)]; rfl
theorem RSt.u68 (ok : okA A) (C : RSt A σ) (x y z : Int32) : RSt A (uI (uI (uI σ 6 x) 7 y) 8 z) := by
  obtain ⟨h1, h2, ⟨h3, h3b⟩, h4, h5, h5b⟩ := C
  have ei : ∀ k, k < 6 → iI (uI (uI (uI σ 6 x) 7 y) 8 z) k = iI σ k := fun k hk => by
    rw [iI_uIn (by omega), iI_uIn (by omega), iI_uIn (by omega)]
  exact ⟨h1, h2.cg rfl (ei 1 (by omega)), ⟨(ei 0 (by omega)).trans h3, h3b⟩, RF4.keep (σ := σ) (fun q a b => rfl) (fun k hk => ei k (by omega)) ok.2.2.2.1.1 h4, (ei 5 (by omega)).trans h5, h5b⟩
theorem kI_a (s : US) (g : Nat → Int32) (j i q x : Nat) : aA (kI s g j i) q x = if q = j ∧ 250 ≤ x ∧ x < 300 then g (50 * i + (x - 250)) else aA s q x := by
  show aA (sA s j _) q x = _
  by_cases hq : q = j
  · subst hq
    rw [aA_sAs]
    unfold va_cpy
    by_cases hx : 250 ≤ x ∧ x < 250 + 50
    · rw [if_pos hx, if_pos ⟨rfl, hx.1, by omega⟩]
    · rw [if_neg hx, if_neg (fun h => hx ⟨h.2.1, by omega⟩)]
  · rw [aA_sAn hq, if_neg (fun h => hq h.1)]
theorem kO_in (f g : Nat → Int32) (i y : Nat) (h : y < 50) : kO f g i (50 * i + y) = f (250 + y) := by
  show va_cpy f g 250 (50 * i) 50 _ = _
  rw [pk_cpy_in (by omega) (by omega)]; congr 1; omega
theorem kO_out (f g : Nat → Int32) (i j y : Nat) (h : y < 50) (hij : i ≠ j) : kO f g i (50 * j + y) = g (50 * j + y) := by
  show va_cpy f g 250 (50 * i) 50 _ = _
  exact pk_cpy_out (by omega)
theorem kpO_at (s : US) (g : Nat → Int32) (i y : Nat) (hi : i < 7) (hy : y < 50) : kpO s g (50 * i + y) = aA s (6 + i) (250 + y) := by
  unfold kpO
  rcases (show i = 0 ∨ i = 1 ∨ i = 2 ∨ i = 3 ∨ i = 4 ∨ i = 5 ∨ i = 6 by omega) with rfl | rfl | rfl | rfl | rfl | rfl | rfl
  · rw [kO_out _ _ _ _ _ hy (by decide), kO_out _ _ _ _ _ hy (by decide), kO_out _ _ _ _ _ hy (by decide), kO_out _ _ _ _ _ hy (by decide), kO_out _ _ _ _ _ hy (by decide), kO_out _ _ _ _ _ hy (by decide), kO_in _ _ _ _ hy]
  · rw [kO_out _ _ _ _ _ hy (by decide), kO_out _ _ _ _ _ hy (by decide), kO_out _ _ _ _ _ hy (by decide), kO_out _ _ _ _ _ hy (by decide), kO_out _ _ _ _ _ hy (by decide), kO_in _ _ _ _ hy]
  · rw [kO_out _ _ _ _ _ hy (by decide), kO_out _ _ _ _ _ hy (by decide), kO_out _ _ _ _ _ hy (by decide), kO_out _ _ _ _ _ hy (by decide), kO_in _ _ _ _ hy]
  · rw [kO_out _ _ _ _ _ hy (by decide), kO_out _ _ _ _ _ hy (by decide), kO_out _ _ _ _ _ hy (by decide), kO_in _ _ _ _ hy]
  · rw [kO_out _ _ _ _ _ hy (by decide), kO_out _ _ _ _ _ hy (by decide), kO_in _ _ _ _ hy]
  · rw [kO_out _ _ _ _ _ hy (by decide), kO_in _ _ _ _ hy]
  · rw [kO_in _ _ _ _ hy]
/-- reading a formula for which there is no room leaves the nodes -/
theorem KR.try {z u : US} {x : Int32} (K : KR 250 (uI z 3 x) u) (y : Int32) (g : Nat → Int32) : KR 300 z (kpI (uI u 3 y) (kpO z g)) := by
  have hin : ∀ q x, 6 ≤ q → q ≤ 12 → 250 ≤ x → x < 300 → aA (kpI (uI u 3 y) (kpO z g)) q x = aA z q x := fun q x a b c d => by
    have h := kpO_at z g (q - 6) (x - 250) (by omega) (by omega)
    rw [show 6 + (q - 6) = q by omega, show 250 + (x - 250) = x by omega] at h
    unfold kpI
    rw [kI_a, kI_a, kI_a, kI_a, kI_a, kI_a, kI_a]
    rcases (show q = 6 ∨ q = 7 ∨ q = 8 ∨ q = 9 ∨ q = 10 ∨ q = 11 ∨ q = 12 by omega) with rfl | rfl | rfl | rfl | rfl | rfl | rfl
    · rw [if_neg (by omega), if_neg (by omega), if_neg (by omega), if_neg (by omega), if_neg (by omega), if_neg (by omega), if_pos ⟨rfl, c, d⟩]; exact h
    · rw [if_neg (by omega), if_neg (by omega), if_neg (by omega), if_neg (by omega), if_neg (by omega), if_pos ⟨rfl, c, d⟩]; exact h
    · rw [if_neg (by omega), if_neg (by omega), if_neg (by omega), if_neg (by omega), if_pos ⟨rfl, c, d⟩]; exact h
    · rw [if_neg (by omega), if_neg (by omega), if_neg (by omega), if_pos ⟨rfl, c, d⟩]; exact h
    · rw [if_neg (by omega), if_neg (by omega), if_pos ⟨rfl, c, d⟩]; exact h
    · rw [if_neg (by omega), if_pos ⟨rfl, c, d⟩]; exact h
    · rw [if_pos ⟨rfl, c, d⟩]; exact h
  have hout : ∀ q x, (q < 6 ∨ 12 < q ∨ x < 250 ∨ 300 ≤ x) → aA (kpI (uI u 3 y) (kpO z g)) q x = aA u q x := fun q x h => by
    unfold kpI
    rw [kI_a, kI_a, kI_a, kI_a, kI_a, kI_a, kI_a]
    rw [if_neg (by omega), if_neg (by omega), if_neg (by omega), if_neg (by omega), if_neg (by omega), if_neg (by omega), if_neg (by omega)]
  refine ⟨fun q hq => funext fun x => ?_, fun q x hx => ?_, fun k h1 h2 => ?_, K.2.2.2.1, K.2.2.2.2⟩
  · rw [hout q x (by omega), K.1 q hq]
  · by_cases hq : q < 6 ∨ 12 < q
    · rw [hout q x (by omega), K.1 q hq]
    · by_cases h250 : x < 250
      · rw [hout q x (by omega)]; exact K.2.1 q x h250
      · exact hin q x (by omega) (by omega) (by omega) hx
  · show iI (uI u 3 y) k = _
    rw [iI_uIn h2, K.2.2.1 k h1 h2, iI_uIn h2]
theorem q12_addF (ok : okA A) (C : RSt A σ) {Q : Int32 → US → Prop} (hQ : ∀ σ', RSt (g_addF A) σ' → Q (f_addF A) σ') : wp_X12_addFormula σ Q := by
  unfold wp_X12_addFormula
  intro z1 hz1 z2 hz2 z3 hz3 x4 hx4 x5 hx5
  subst hz1
  subst hz2
  have C3 : RSt A z3 := by rw [hz3]; exact C.u68 ok 0 0 0
  have e6 : iI z3 6 = nI 0 := by rw [hz3, iI_uIn (by decide), iI_uIn (by decide), iI_uIs]; rfl
  have e7 : iI z3 7 = nI 0 := by rw [hz3, iI_uIn (by decide), iI_uIs]; rfl
  have e8 : iI z3 8 = bI false := by rw [hz3, iI_uIs]; rfl
  clear hz3
  obtain ⟨h1, h2, h3, ⟨f4, m, f3, hm, hF⟩, h5, h5b⟩ := id C3
  obtain ⟨l1, l2⟩ := ok.2.2.2.2
  have l6 := ok.2.2.2.1.1
  have hT : TK (tL A.2.2.2.2) A.2.2.2.2.length := ⟨l1, l2⟩
  rw [f3] at hx4
  rw [h5] at hx5
  subst hx4
  subst hx5
  have er : rdF (tL A.2.2.2.2) A.2.2.2.2.length (5 + 1) (false, 0) = rdA A := rfl
  refine And.symm (And.symm (pk_le 6 A.2.2.2.1.length (fun h6 => ?_) (fun h6 => ?_) rfl f4))
  · have hPR : PR (tL A.2.2.2.2) A.2.2.2.2.length (uI z3 3 250) (false, 0) 250 0 := ⟨(iI_uIn (by decide)).trans e6, (iI_uIn (by decide)).trans e8, Nat.zero_le _, (iI_uIn (by decide)).trans h5, (iI_uIn (by decide)).trans e7, iI_uIs, h5b⟩
    unfold wp_X12_tryFormula
    refine q12_readFormula hT 5 (by omega) _ (false, 0) 250 0 _ hPR rfl (by show 250 + (_ - 0) ≤ 300; omega) (fun i σ' hG => ?_)
    obtain ⟨m', hP, K, -, -, -⟩ := hG
    rw [er] at hP
    have hN : FN A = 6 := by show A.2.2.2.1.length = 6; omega
    refine q12_J45 (N := 300) ok C3 hm hF (by omega) (KR.try K (iI z3 3) _) ?_ ?_ hP.2.2.1 (fun h => by omega) hQ
    · show iI (uI σ' 3 (iI z3 3)) 8 = _
      exact (iI_uIn (by decide)).trans hP.2.1
    · show iI (uI σ' 3 (iI z3 3)) 6 = _
      exact (iI_uIn (by decide)).trans hP.1
  · have hPR : PR (tL A.2.2.2.2) A.2.2.2.2.length z3 (false, 0) m 0 := ⟨e6, e8, Nat.zero_le _, h5, e7, f3, h5b⟩
    refine q12_readFormula hT 5 (by omega) _ (false, 0) m 0 _ hPR rfl (by show m + (_ - 0) ≤ 300; omega) (fun i σ' hG => ?_)
    obtain ⟨m', hP, K, hmm, hmb, hi⟩ := hG
    rw [er] at hP hmb hi
    have hb : (rdA A).1.2 ≤ A.2.2.2.2.length := hP.2.2.1
    have hmb : m' + 0 ≤ m + (rdA A).1.2 := hmb
    have hm2 : m ≤ 50 * FN A := hm
    refine q12_J45 (N := m) ok C3 hm hF (Nat.le_refl _) K hP.2.1 hP.1 hP.2.2.1 (fun h hf => ?_) hQ
    obtain ⟨iN, w1, w2, w3, w4⟩ := hi hf
    exact ⟨m', iN, w1, w3, hmm, by omega, w4, hP.2.2.2.2.2.1, by omega⟩
end RFO
