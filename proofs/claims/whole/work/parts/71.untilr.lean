/-! ===== the reference's until is the class's ===== -/
def Gv (σ : US) (a b : Nat) : Prop := lJ σ 0 = lN (a / gcd1 a b) ∧ lJ σ 1 = lN (b / gcd1 a b)
theorem Gv.of {σ : US} {a b c d : Int} (h : Gv σ a.toNat b.toNat) (ha : 0 ≤ a) (hb : 0 < b) (hc : 0 ≤ c) (hd : 0 < d) (e : a * d = c * b) : Gv σ c.toNat d.toNat := by
  have h1 : a.toNat * d.toNat = c.toNat * b.toNat := by
    have h2 : ((a.toNat * d.toNat : Nat) : Int) = ((c.toNat * b.toNat : Nat) : Int) := by
      rw [Int.natCast_mul, Int.natCast_mul, Int.toNat_of_nonneg ha, Int.toNat_of_nonneg hc, Int.toNat_of_nonneg (Int.le_of_lt hb), Int.toNat_of_nonneg (Int.le_of_lt hd)]
      exact e
    exact_mod_cast h2
  obtain ⟨e1, e2⟩ := red_eq (a := a.toNat) (b := b.toNat) (c := c.toNat) (d := d.toNat) (by omega) (by omega) h1
  exact ⟨by rw [← e1]; exact h.1, by rw [← e2]; exact h.2⟩
theorem uU_iff {c : CH} {F G : Nat → Bool} {i : Nat} : uU c F G i = true ↔ can c F G i = true ∧ G i = false := by unfold uU; simp
section UR
variable {σ : US} {c : CH}
theorem q12_giveSolved (ok : okC c) {l : List Nat} {A : Nat → Nat → Int} (nd : l.Nodup) (hl : l.length ≤ 8) (hb8 : ∀ r, r < l.length → un l r < 8) (hun : UN σ l) (hA : AQ l.length σ A) (hrun : (∀ p, p ≤ l.length → 0 < dd l.length A p ∧ in64 (dd l.length A p)) ∧ ∀ p i j, p < l.length → i < l.length → j < 9 → i ≠ p → in64 (dd l.length A p * MM l.length A (p + 1) i j)) {i : Nat} (hi : i ∈ l) (hi8 : i < 8) (hnn : ∀ r, r < l.length → 0 ≤ MM l.length A l.length r 8 ∧ MM l.length A l.length r 8 < 2 ^ 63) {Q : US → Prop} (hQ : ∀ σ' r, KeepM σ σ' → r < l.length → un l r = i → Gv σ' (MM l.length A l.length r 8).toNat (dd l.length A l.length).toNat → Q σ') : wp_X12_giveSolved (nI i) σ Q := by
  unfold wp_X12_giveSolved
  refine q12_solve hl hun.1 hA hrun.1 hrun.2 (fun σ1 hk h1 _ => ?_)
  have hun1 : UN σ1 l := ⟨(congrFun hk.1 2).trans hun.1, fun r hr => by
    have : aA σ1 5 = aA σ 5 := congrFun hk.2.1 5
    rw [this]; exact hun.2 r hr⟩
  refine q12_placeOf hl hb8 hun1 hi hi8 nd (fun r hr hur => ?_)
  rw [li8]
  refine q12_at h1 hr hl (by decide) (q12_at h1 hr hl (by omega) ?_)
  obtain ⟨n1, n2⟩ := hnn r hr
  obtain ⟨d1, d2⟩ := hrun.1 l.length (Nat.le_refl _)
  have e : MM l.length A l.length r r = dd l.length A l.length := by rw [MM_done hr (Nat.le_refl _) hr]; exact if_pos rfl
  rw [e, lI_nn n1, lI_nn (Int.le_of_lt d1)]
  have d3 := d2.2
  refine q12_give (by omega) (by omega) (by omega) (fun σ' hg => ?_)
  exact hQ σ' r (hk.keep.tr hg.keep) hr hur ⟨hg.2.2.1, hg.2.2.2⟩
/-- both systems have one solution -/
theorem sys_eq (ok : okC c) {U : Nat → Bool} (hU : ∀ i, U i = true → i < cn c) {b8 br : Nat → Int} {dn : Int} {X : Nat → Int}
    (hX : ∀ r, r < (ul U (cn c)).length → br r * dn = sL (fun q => RB c (ul U (cn c)) br r q * X q) (List.range (ul U (cn c)).length))
    (hbr : ∀ r, r < (ul U (cn c)).length → br r = b8 (un (ul U (cn c)) r) + sL (fun j => if U j then 0 else (cst c (un (ul U (cn c)) r) j : Int) * b8 j) (List.range 8))
    {r : Nat} (hr : r < (ul U (cn c)).length) : X r * dd 8 (UA c U b8) 8 = dn * MM 8 (UA c U b8) 8 (un (ul U (cn c)) r) 8 := by
  have h8 := ul8 ok hU
  have nd := ul_nd U (cn c)
  have key : ∀ f : Nat → Int, ∀ q, q < (ul U (cn c)).length → sL (fun p => if un (ul U (cn c)) p = un (ul U (cn c)) q then f p else 0) (List.range (ul U (cn c)).length) = f q := fun f q hq => by
    rw [sL_one (nd_n _) (mem_n hq) (fun p hp hne => if_neg (fun z => hne (un_inj nd (List.mem_range.mp hp) hq z)))]
    exact if_pos rfl
  have hY := unique (n := 8) (A := UA c U b8) (b := 8) (E := dn) (Y := fun j => if U j then sL (fun p => if un (ul U (cn c)) p = j then X p else 0) (List.range (ul U (cn c)).length) else dn * b8 j) (fun i hi => ?_) (i := un (ul U (cn c)) r) (by have := (un_U ok hU hr).1; have := ok.1; omega)
  · skip
    rw [if_pos (un_U ok hU hr).2, key X r hr] at hY
    exact hY
  · rw [UA_8]
    cases hUi : U i
    · rw [sL_one (nd_n 8) (mem_n hi) (fun j hj hne => by
        rw [UA_j (List.mem_range.mp hj), hUi]
        show (if i = j then (1 : Int) else 0) * _ = 0
        rw [if_neg (Ne.symm hne), Int.zero_mul])]
      rw [UA_j hi, hUi]
      skip
      show (if i = i then (1 : Int) else 0) * (dn * b8 i) = _
      rw [if_pos rfl, Int.one_mul]
    · obtain ⟨q0, hq0, e0⟩ := un_of (ul_mem.mpr ⟨hU i hUi, hUi⟩)
      rw [sL_parts ok.1 hU]
      have s1 : sL (fun q => UA c U b8 i (un (ul U (cn c)) q) * (if U (un (ul U (cn c)) q) then sL (fun p => if un (ul U (cn c)) p = un (ul U (cn c)) q then X p else 0) (List.range (ul U (cn c)).length) else dn * b8 (un (ul U (cn c)) q))) (List.range (ul U (cn c)).length) = br q0 * dn := by
        rw [hX q0 hq0]
        refine sL_congr (fun q hq => ?_)
        have hq2 := List.mem_range.mp hq
        have hun8 : un (ul U (cn c)) q < 8 := by have := (un_U ok hU hq2).1; have := ok.1; omega
        rw [if_pos (un_U ok hU hq2).2, key X q hq2, UA_j hun8, hUi, if_pos rfl, RB_i hq2 h8, e0]
        by_cases hqq : q0 = q
        · subst hqq; rw [e0, if_pos rfl, if_pos rfl]
        · rw [if_neg hqq, if_neg (fun z => hqq (un_inj nd hq0 hq2 (by rw [e0]; exact z)))]
      have s2 : sL (fun j => if U j then 0 else UA c U b8 i j * (if U j then sL (fun p => if un (ul U (cn c)) p = j then X p else 0) (List.range (ul U (cn c)).length) else dn * b8 j)) (List.range 8) = (- dn) * sL (fun j => if U j then 0 else (cst c i j : Int) * b8 j) (List.range 8) := by
        rw [← sL_mul]
        refine sL_congr (fun j hj => ?_)
        cases hUj : U j
        · have hij : ¬ i = j := fun z => by rw [z, hUj] at hUi; exact absurd hUi (by decide)
          rw [UA_j (List.mem_range.mp hj), hUi, if_pos rfl, if_neg hij]
          simp only [Bool.false_eq_true, if_false]
          grind
        · simp
      skip
      rw [s1, s2, hbr q0 hq0, e0]
      grind
theorem stw_out {U G : Nat → Bool} (hGU : ∀ j, G j = true → U j = false) {i : Nat} : (stw c i G : Int) = sL (fun j => if U j then 0 else (cst c i j : Int) * bU G j) (List.range 8) := by
  unfold stw
  rw [← sL_range]
  refine sL_congr (fun j _ => ?_)
  unfold bU
  cases hG : G j
  · simp
  · rw [hGU j hG]; simp
theorem q12_findUntil (h : RM σ c) (ok : okC c) {F G : Nat → Bool} (hG : ∀ b, G b = true → b < cn c) {i : Nat} (hi : i < cn c) {Q : US → Prop} (hQ : ∀ σ', KeepM σ σ' → Gv σ' (MM 8 (UA c (uU c F G) (bU G)) 8 i 8).toNat (dd 8 (UA c (uU c F G) (bU G)) 8).toNat → Q σ') : wp_X12_findUntil (nI (mk F)) (nI (mk G)) (nI i) σ Q := by
  have hn := ok.1
  have hLK := uU_lk (F := F) ok hG
  have hU : ∀ i, uU c F G i = true → i < cn c := fun i hu => by
    unfold uU at hu
    rw [Bool.and_eq_true] at hu
    exact (can_iff.mp hu.1).2
  obtain ⟨u1, u2⟩ := uU_lim (F := F) ok hG (Nat.le_refl 8) (show i < 8 by omega)
  obtain ⟨v1, v2, _⟩ := UA_lim (b := bU G) ok hLK 8 (Nat.le_refl 8)
  -- what is known without equations
  have easy : uU c F G i = false → wp_X12_findUntil_J25 (nI (mk G)) (nI i) σ Q := fun hu => by
    obtain ⟨w, hw, hW⟩ := UA_wts (b := bU G) ok hLK
    have ht := (triv_row (A := UA c (uU c F G) (bU G)) (show i < 8 by omega) (fun j hj => UA_triv (b := bU G) (show i < 8 by omega) (by rw [hu]; rfl) j hj) (fun q hq => (UA_lim (b := bU G) ok hLK q hq).1) 8 8 (Nat.le_refl 8)).2
    rw [UA_8] at ht
    unfold wp_X12_findUntil_J25
    refine q12_has (by omega) (br_b (fun hg => ?_) (fun hg => ?_))
    · refine q12_give (a := 0) (b := 1) (by decide) (by decide) (by decide) (fun σ' hg2 => hQ σ' hg2.keep ?_)
      have : bU G i = 0 := by unfold bU; rw [hg]; rfl
      exact Gv.of (a := 0) (b := 1) ⟨hg2.2.2.1, hg2.2.2.2⟩ (by decide) (by decide) u1 v1 (by rw [ht, this]; omega)
    · refine q12_give (a := 1) (b := 1) (by decide) (by decide) (by decide) (fun σ' hg2 => hQ σ' hg2.keep ?_)
      have : bU G i = 1 := by unfold bU; rw [hg]; rfl
      exact Gv.of (a := 1) (b := 1) ⟨hg2.2.2.1, hg2.2.2.2⟩ (by decide) (by decide) u1 v1 (by rw [ht, this]; omega)
  unfold wp_X12_findUntil
  refine q12_neverOf h ok hG (q12_has (by omega) (br_n (fun hnv => ?_) (fun hnv => ?_)))
  · refine q12_has (by omega) (br_b (fun hg => ?_) (fun hg => ?_))
    · have hcan : can c F G i = true := by
        unfold nev at hnv
        cases hc : can c F G i
        · rw [hc] at hnv; simp [hi] at hnv
        · rfl
      have hui : uU c F G i = true := by unfold uU; rw [hcan, hg]; rfl
      refine q12_all h hn ?_
      rw [sI_diff, sI_diff]
      have eU : mk (fun i => (decide (i < cn c) && !nev c F G i) && !G i) = mk (uU c F G) := mk_congr (fun j _ => by
        unfold uU nev
        by_cases hj : j < cn c
        · simp [hj]
        · have : can c F G j = false := by
            cases hc : can c F G j
            · rfl
            · exact absurd (can_iff.mp hc).2 hj
          simp [hj, this])
      rw [eU]
      refine q12_begin h ok (fun σ1 hk1 hun1 hA1 => ?_)
      have hl := ul8 ok hU
      have nd := ul_nd (uU c F G) (cn c)
      have hx := fun r hr => un_U ok hU (r := r) hr
      have hst : ∀ i, i < 8 → stw c i G ≤ 10 := fun i hi => Nat.le_trans (stw_le ok hi G) (cdiv_le ok i)
      generalize hle : ul (uU c F G) (cn c) = l at hun1 hA1 hl nd hx
      -- the right sides
      refine lp_inv l.length (fun k t => ∃ z M, t = (nI k, z) ∧ KB σ z ∧ UN z l ∧ AQ l.length z M ∧ ∀ r q, r < l.length → q < 9 → M r q = if q = 8 ∧ r < k then (stw c (un l r) G : Int) else RA c l r q) ?_ _ ⟨σ1, _, rfl, hk1, hun1, hA1, fun r q _ _ => by rw [if_neg (by omega)]⟩
      rintro k t hk ⟨z, M, rfl, hkz, hunz, hz, hM⟩ P hP
      unfold wp_X12_findUntil_L64
      dsimp only
      rw [hunz.1]
      refine pk_le l.length k (fun hk2 => ?_) (fun hk2 => ⟨pk_in k 8 (by omega), ?_⟩)
      · have hzA : AQ l.length z (RB c l (fun r => (stw c (un l r) G : Int))) := hz.of (fun r q hr hq => by
          rw [hM r q hr hq]
          by_cases h8 : q = 8
          · subst h8; rw [if_pos ⟨rfl, by omega⟩, RB_8]
          · rw [if_neg (by omega), RB_q h8])
        subst hle
        have hright : ∀ p r, p ≤ (ul (uU c F G) (cn c)).length → r < (ul (uU c F G) (cn c)).length → 0 ≤ MM (ul (uU c F G) (cn c)).length (RB c (ul (uU c F G) (cn c)) (fun r => (stw c (un (ul (uU c F G) (cn c)) r) G : Int))) p r 8 ∧ MM (ul (uU c F G) (cn c)).length (RB c (ul (uU c F G) (cn c)) (fun r => (stw c (un (ul (uU c F G) (cn c)) r) G : Int))) p r 8 ≤ 10 ^ 9 := fun p r hp hr => by
          obtain ⟨w, hw, hW⟩ := RB_wts (b := fun r => (stw c (un (ul (uU c F G) (cn c)) r) G : Int)) ok hU hLK
          obtain ⟨x1, x2⟩ := right1_le (RB_dom ok hU) hw hW (b := 8) (sc := 1) (by decide) (fun q hq => by
            rw [RB_8, RB_row ok hU hq]
            refine ⟨by omega, ?_⟩
            rw [stw_out (U := uU c F G) (fun j hj => by unfold uU; rw [hj]; simp), Int.one_mul]
            unfold outw
            exact sL_mono (fun j _ => by
              unfold bU
              split
              · exact Int.le_refl _
              · split <;> omega)) hp hr
          obtain ⟨_, y2, _⟩ := RB_lim (b := fun r => (stw c (un (ul (uU c F G) (cn c)) r) G : Int)) ok hU hLK p hp
          have y3 : (10 : Int) ^ p ≤ 10 ^ 8 := pow_le_i (by omega)
          exact ⟨x1, by omega⟩
        have hrun := RB_run (b := fun r => (stw c (un (ul (uU c F G) (cn c)) r) G : Int)) ok hU hLK (X := 10 ^ 9) (fun p a q hp ha hq hq8 => RB_zero hl hq hq8 ha) (fun p a hp ha => by
          have := hright (p + 1) a (by omega) ha
          omega) (by
          have : (10 : Int) ^ (ul (uU c F G) (cn c)).length ≤ 10 ^ 8 := pow_le_i hl
          omega)
        refine q12_giveSolved ok nd hl (fun r hr => by have := (hx r hr).1; omega) hunz hzA hrun (ul_mem.mpr ⟨hi, hui⟩) (by omega) (fun r hr => by
          have := hright (ul (uU c F G) (cn c)).length r (Nat.le_refl _) hr
          omega) (fun σ' r hks hr hur hgv => hQ σ' (hkz.keep.tr hks) ?_)
        have heq := sys_eq ok hU (b8 := bU G) (br := fun r => (stw c (un (ul (uU c F G) (cn c)) r) G : Int)) (dn := dd (ul (uU c F G) (cn c)).length (RB c (ul (uU c F G) (cn c)) (fun r => (stw c (un (ul (uU c F G) (cn c)) r) G : Int))) (ul (uU c F G) (cn c)).length) (X := fun q => MM (ul (uU c F G) (cn c)).length (RB c (ul (uU c F G) (cn c)) (fun r => (stw c (un (ul (uU c F G) (cn c)) r) G : Int))) (ul (uU c F G) (cn c)).length q 8) (fun q hq => by
          have := solved (A := RB c (ul (uU c F G) (cn c)) (fun r => (stw c (un (ul (uU c F G) (cn c)) r) G : Int))) (b := 8) hq
          rw [RB_8] at this
          exact this) (fun q hq => by
          rw [stw_out (U := uU c F G) (fun j hj => by unfold uU; rw [hj]; simp)]
          have hq2 := (hx q hq).2
          have : bU G (un (ul (uU c F G) (cn c)) q) = 0 := by
            have := (uU_iff.mp hq2).2
            unfold bU
            rw [this]; rfl
          rw [this]; omega) hr
        rw [hur] at heq
        refine Gv.of hgv (hright _ r (Nat.le_refl _) hr).1 (hrun.1 _ (Nat.le_refl _)).1 u1 v1 ?_
        rw [heq, Int.mul_comm]
      · rw [nI_clamp (by omega), hunz.2 k hk2]
        have hku := (hx k hk2).1
        refine q12_weightInto (hkz.keep.rm h) ok hku ?_
        have hs := hst (un l k) (by omega)
        rw [nI_t64 (by omega)]
        refine q12_right hz hk2 hl (x := (stw c (un l k) G : Int)) rfl (fun z' hk' hun' hz' => ?_)
        rw [li1, nI_add]
        refine hP hk2 _ ⟨z', _, rfl, hkz.tr hk', hun' l hunz, hz', fun r q hr hq => ?_⟩
        by_cases h1 : r = k ∧ q = 8
        · obtain ⟨rfl, rfl⟩ := h1
          rw [upm_s, if_pos ⟨rfl, Nat.lt_succ_self r⟩]
        · rw [upm_n _ _ h1, hM r q hr hq]
          by_cases h2 : q = 8 ∧ r < k
          · rw [if_pos h2, if_pos ⟨h2.1, by omega⟩]
          · rw [if_neg h2, if_neg (by omega)]
    · exact easy (by unfold uU; rw [hg]; simp)
  · refine easy ?_
    unfold nev at hnv
    unfold uU
    rw [Bool.and_eq_true] at hnv
    have : can c F G i = false := by simpa using hnv.2
    rw [this]; rfl
end UR
