/-! ===== the reference sets its equations up ===== -/
def ul (U : Nat → Bool) (k : Nat) : List Nat := (List.range k).filter U
def un (l : List Nat) (r : Nat) : Nat := l.getD r 0
theorem ul_t {U : Nat → Bool} {k : Nat} (h : U k = true) : ul U (k + 1) = ul U k ++ [k] := by
  unfold ul; rw [List.range_succ, List.filter_append]; simp [h]
theorem ul_f {U : Nat → Bool} {k : Nat} (h : U k = false) : ul U (k + 1) = ul U k := by
  unfold ul; rw [List.range_succ, List.filter_append]; simp [h]
theorem ul_mem {U : Nat → Bool} {k j : Nat} : j ∈ ul U k ↔ j < k ∧ U j = true := by
  unfold ul; rw [List.mem_filter, List.mem_range]
theorem ul_nd (U : Nat → Bool) (k : Nat) : (ul U k).Nodup := List.Pairwise.filter _ List.nodup_range
theorem ul_len (U : Nat → Bool) (k : Nat) : (ul U k).length ≤ k := by
  have := List.length_filter_le U (List.range k)
  rw [List.length_range] at this; exact this
theorem un_l {l m : List Nat} {r : Nat} (h : r < l.length) : un (l ++ m) r = un l r := by
  unfold un; rw [List.getD_eq_getElem?_getD, List.getD_eq_getElem?_getD, List.getElem?_append_left h]
theorem un_e {l : List Nat} {k : Nat} : un (l ++ [k]) l.length = k := by
  unfold un; rw [List.getD_eq_getElem?_getD, List.getElem?_append_right (Nat.le_refl _)]; simp
theorem un_mem {l : List Nat} {r : Nat} (h : r < l.length) : un l r ∈ l := by
  unfold un; rw [List.getD_eq_getElem?_getD, List.getElem?_eq_getElem h]; exact List.getElem_mem h
theorem un_map (l : List Nat) : (List.range l.length).map (un l) = l := by
  refine List.ext_getElem (by simp) (fun i h1 h2 => ?_)
  simp only [List.getElem_map, List.getElem_range]
  unfold un; rw [List.getD_eq_getElem?_getD, List.getElem?_eq_getElem h2]; rfl
theorem un_inj {l : List Nat} (nd : l.Nodup) {r s : Nat} (hr : r < l.length) (hs : s < l.length) (h : un l r = un l s) : r = s := by
  unfold un at h
  rw [List.getD_eq_getElem?_getD, List.getElem?_eq_getElem hr, List.getD_eq_getElem?_getD, List.getElem?_eq_getElem hs] at h
  exact (List.getElem_inj nd).mp h
theorem un_of {l : List Nat} {j : Nat} (h : j ∈ l) : ∃ r, r < l.length ∧ un l r = j := by
  obtain ⟨r, hr, e⟩ := List.getElem_of_mem h
  exact ⟨r, hr, by unfold un; rw [List.getD_eq_getElem?_getD, List.getElem?_eq_getElem hr]; exact e⟩
/-- what setting up leaves as it was -/
def KB (σ σ' : US) : Prop := (∀ k, k ≠ 2 → iI σ' k = iI σ k) ∧ σ'.2.1 = σ.2.1 ∧ (∀ q, q ≠ 5 → aA σ' q = aA σ q) ∧ (∀ k, k ≠ 0 → aB σ' k = aB σ k)
theorem KB.rf (σ : US) : KB σ σ := ⟨fun _ _ => rfl, rfl, fun _ _ => rfl, fun _ _ => rfl⟩
theorem KB.tr {a b c : US} (h1 : KB a b) (h2 : KB b c) : KB a c := ⟨fun k hk => (h2.1 k hk).trans (h1.1 k hk), h2.2.1.trans h1.2.1, fun k hk => (h2.2.2.1 k hk).trans (h1.2.2.1 k hk), fun k hk => (h2.2.2.2 k hk).trans (h1.2.2.2 k hk)⟩
theorem KB.keep {σ σ' : US} (h : KB σ σ') : KeepM σ σ' := ⟨fun q _ _ h5 _ => h.2.2.1 q h5, fun k hk _ => h.1 k hk⟩
theorem KB.uB (σ : US) (i : Nat) (x : Int64) : KB σ (uB σ 0 i x) := ⟨fun _ _ => rfl, rfl, fun _ _ => rfl, fun _ hk => aB_sB_n σ _ hk⟩
theorem KB.uA (σ : US) (i : Nat) (x : Int32) : KB σ (uA σ 5 i x) := ⟨fun _ _ => rfl, rfl, fun _ hq => aA_sA_n σ _ hq, fun _ _ => rfl⟩
theorem KB.uI (σ : US) (x : Int32) : KB σ (uI σ 2 x) := ⟨fun _ hk => kup_n hk, rfl, fun _ _ => rfl, fun _ _ => rfl⟩
/-- the unknowns stand in their row -/
def UN (σ : US) (l : List Nat) : Prop := iI σ 2 = nI l.length ∧ ∀ r, r < l.length → aA σ 5 r = nI (un l r)
/-- the equations of the reference -/
def RA (c : CH) (l : List Nat) : Nat → Nat → Int := fun r q => (if r = q then (cdiv c (un l r) : Int) else 0) - (if q < l.length then (cst c (un l r) (un l q) : Int) else 0)
section PB
variable {σ : US} {c : CH}
theorem q12_begin (h : RM σ c) (ok : okC c) {U : Nat → Bool} {Q : US → Prop} (hQ : ∀ σ', KB σ σ' → UN σ' (ul U (cn c)) → AQ (ul U (cn c)).length σ' (RA c (ul U (cn c))) → Q σ') : wp_X12_begin (nI (mk U)) σ Q := by
  unfold wp_X12_begin
  intro z1 hz1
  subst hz1
  have hn := ok.1
  refine lp_inv (cn c) (fun k t => ∃ z, t = (nI k, z) ∧ KB σ z ∧ UN z (ul U k)) ?_ _ ⟨uI σ 2 0, rfl, KB.uI σ 0, iI_uI σ 2 0, fun r hr => absurd hr (Nat.not_lt_zero _)⟩
  rintro k t hk ⟨z, rfl, hkz, hun⟩ P hP
  unfold wp_X12_begin_L7
  have hRz : RM z c := hkz.keep.rm h
  dsimp only
  refine rd_n hRz ?_
  rw [cl0, hRz.n]
  have hlen := ul_len U k
  refine pk_le (cn c) k (fun hk2 => ?_) (fun hk2 => ?_)
  · have : k = cn c := by omega
    subst this
    generalize hl : ul U (cn c) = l at hun hQ hlen
    have hml : ∀ r, r < l.length → un l r < cn c := fun r hr => by
      have h2 : un l r ∈ ul U (cn c) := by rw [hl]; exact un_mem hr
      exact (ul_mem.mp h2).1
    have h0 : AQ 8 z (fun r q => (aB z 0 (9 * r + q)).toInt) := fun i j _ _ => (Int64.ofInt_toInt _).symm
    refine lp_inv l.length (fun r t => ∃ z1 N, t = (nI r, z1) ∧ KB z z1 ∧ UN z1 l ∧ AQ 8 z1 N ∧ ∀ i j, i < r → j < 9 → N i j = RA c l i j) ?_ _ ⟨z, _, rfl, KB.rf z, hun, h0, fun i j hi => by omega⟩
    rintro r t hr ⟨z1, N, rfl, hk1, hun1, hz1, hN⟩ P53 hP53
    unfold wp_X12_begin_L53
    dsimp only
    rw [hun1.1]
    refine pk_le l.length r (fun hr2 => ?_) (fun hr2 => ?_)
    · exact hQ z1 (hkz.tr hk1) hun1 (fun i j hi hj => by rw [← hN i j (by omega) hj]; exact hz1 i j (by omega) hj)
    · refine lp_inv 9 (fun q t => ∃ z2 N, t = (nI q, z2) ∧ KB z z2 ∧ UN z2 l ∧ AQ 8 z2 N ∧ (∀ i j, i < r → j < 9 → N i j = RA c l i j) ∧ ∀ j, j < q → N r j = RA c l r j) ?_ _ ⟨z1, N, rfl, hk1, hun1, hz1, hN, fun j hj => by omega⟩
      rintro q t hq ⟨z2, N2, rfl, hk2, hun2, hz2, hN2, hr3⟩ P63 hP63
      unfold wp_X12_begin_L63
      refine pk_le 9 q (fun hq2 => ?_) (fun hq2 => ?_)
      · rw [li1, nI_add]
        refine hP53 hr2 _ ⟨z2, N2, rfl, hk2, hun2, hz2, fun i j hi hj => ?_⟩
        by_cases hir : i = r
        · subst hir; exact hr3 j (by omega)
        · exact hN2 i j (by omega) hj
      · have hR2 : RM z2 c := hk2.keep.rm hRz
        -- the cell is put
        have put : ∀ (x : Int), x = RA c l r q → ∀ z3, z3 = uB z2 0 (9 * r + q) (lI x) → P63 (nI (q + 1), z3) := fun x hx z3 hz3 => by
          subst hz3
          refine hP63 hq2 _ ⟨_, _, rfl, hk2.tr (KB.uB z2 _ _), hun2, hz2.put hq2 x, fun i j hi hj => ?_, fun j hj => ?_⟩
          · rw [upm_n _ _ (by omega)]; exact hN2 i j hi hj
          · by_cases hjq : j = q
            · subst hjq; rw [upm_s]; exact hx
            · rw [upm_n _ _ (by omega)]; exact hr3 j (by omega)
        have join : ∀ w : Nat, (w : Int) = (if q < l.length then (cst c (un l r) (un l q) : Int) else 0) → wp_X12_begin_J98 (nI r) (nI q) z2 (lN w) P53 P63 Q := fun w hw => by
          unfold wp_X12_begin_J98
          rw [ix9, nI_clamp (show 9 * r + q < 2 ^ 31 by omega), nI_clamp (show r < 2 ^ 31 by omega), hun2.2 r hr2]
          have hur := hml r hr2
          refine ⟨fun hne => ⟨pk_in (9 * r + q) 72 (by omega), fun z3 hz3 => ?_⟩, fun heq => ⟨pk_in r 8 (by omega), ?_⟩⟩
          · have hne2 : r ≠ q := fun z => hne (by rw [z])
            rw [li1, nI_add]
            refine put (0 - (w : Int)) ?_ z3 (by rw [hz3, lI_N, show (0 : Int64) = lI 0 from rfl, lI_sub])
            unfold RA; rw [if_neg hne2, hw]
          · have heq2 : r = q := (nI_eq (by omega) (by omega)).mp heq
            refine q12_sumOf hR2 ok (by omega) ⟨pk_in (9 * r + q) 72 (by omega), fun z3 hz3 => ?_⟩
            have hcd := cdiv_le ok (un l r)
            rw [nI_t64 (by omega), lI_N, lI_N, lI_sub] at hz3
            rw [li1, nI_add]
            refine put ((cdiv c (un l r) : Int) - (w : Int)) ?_ z3 hz3
            unfold RA; rw [if_pos heq2, hw]
        dsimp only
        rw [hun2.1]
        refine pk_le l.length q (fun hql => ?_) (fun hql => ⟨pk_in r 8 (by omega), pk_in q 8 (by omega), ?_⟩)
        · exact join 0 (by rw [if_neg (by omega)]; rfl)
        · rw [nI_clamp (show r < 2 ^ 31 by omega), nI_clamp (show q < 2 ^ 31 by omega), hun2.2 r hr2, hun2.2 q hql]
          have hur := hml r hr2
          have huq := hml q hql
          refine q12_weightOf hR2 ok (by omega) (by omega) ?_
          have hcs : cst c (un l r) (un l q) < 2 ^ 31 := by
            have h1 := ok.2.1 (un l r) (un l q)
            unfold cst; split <;> omega
          rw [nI_t64 hcs]
          exact join _ (by rw [if_pos hql])
  · refine q12_has (by omega) (br_b (fun hb => ?_) (fun hb => ?_))
    · rw [nI_1]
      refine hP hk2 _ ⟨z, rfl, hkz, ?_⟩
      rw [ul_f hb]; exact hun
    · rw [hun.1]
      refine ⟨pk_in (ul U k).length 8 (by omega), fun z33 hz33 z34 hz34 => ?_⟩
      rw [nI_clamp (by omega)] at hz33
      subst hz33; subst hz34
      rw [nI_1]
      refine hP hk2 _ ⟨_, rfl, (hkz.tr (KB.uA z _ _)).tr (KB.uI _ _), ?_⟩
      rw [ul_t hb]
      refine ⟨?_, fun r hr => ?_⟩
      · rw [List.length_append]
        refine (iI_uI _ 2 _).trans ?_
        show iI z 2 + 1 = _
        rw [hun.1, li1, nI_add]; rfl
      · rw [List.length_append] at hr
        have e : ∀ x, aA (uI (uA z 5 (ul U k).length x) 2 (iI (uA z 5 (ul U k).length x) 2 + 1)) 5 = upd (aA z 5) (ul U k).length x := fun x => aA_sA z 5 _
        rw [e]
        by_cases hrl : r = (ul U k).length
        · subst hrl; rw [un_e]; exact pk_us
        · have hr2 : r < (ul U k).length := by have : [k].length = 1 := rfl; omega
          rw [un_l hr2, ← hun.2 r hr2]; exact pk_un hrl
theorem q12_placeOf {l : List Nat} (hl : l.length ≤ 8) (hb : ∀ r, r < l.length → un l r < 8) (h : UN σ l) {j : Nat} (hj : j ∈ l) (hj8 : j < 8) (nd : l.Nodup) {Q : Int32 → Prop} (hQ : ∀ r, r < l.length → un l r = j → Q (nI r)) : wp_X12_placeOf (nI j) σ Q := by
  obtain ⟨r0, hr0, e0⟩ := un_of hj
  unfold wp_X12_placeOf
  refine lp_inv r0 (fun r t => t = nI r) ?_ _ rfl
  rintro r t hr rfl P hP
  unfold wp_X12_placeOf_L2
  refine ⟨pk_in r 8 (by omega), ?_⟩
  rw [nI_clamp (by omega), h.2 r (by omega), nI_eq (by have := hb r (by omega); omega) (by omega)]
  refine ⟨fun e => hQ r (by omega) e, fun hne => ?_⟩
  have : r ≠ r0 := fun z => hne (by rw [z]; exact e0)
  rw [li1, nI_add]
  exact hP (by omega) _ rfl
theorem q12_right {n : Nat} {M : Nat → Nat → Int} (h : AQ n σ M) {i : Nat} (hi : i < n) (hn : n ≤ 8) {x : Int} {v : Int64} (hv : v = lI x) {Q : US → Prop} (hQ : ∀ σ', KB σ σ' → (∀ l, UN σ l → UN σ' l) → AQ n σ' (upm M i 8 x) → Q σ') : wp_X12_right (nI i) v σ Q := by
  unfold wp_X12_right
  rw [li8, ix9]
  refine ⟨pk_in (9 * i + 8) 72 (by omega), fun z1 hz1 => ?_⟩
  rw [nI_clamp (by omega), hv] at hz1
  subst hz1
  exact hQ _ (KB.uB σ _ _) (fun l hl => hl) (h.put (by decide) x)
end PB
