/-! ===== the reference's equations ===== -/
def AQ (n : Nat) (σ : US) (M : Nat → Nat → Int) : Prop := ∀ i j, i < n → j < 9 → aB σ 0 (9 * i + j) = lI (M i j)
/-- what solving leaves as it was -/
def KS (σ σ' : US) : Prop := σ'.1 = σ.1 ∧ σ'.2.2.1 = σ.2.2.1 ∧ (∀ k, k ≠ 2 → lJ σ' k = lJ σ k) ∧ (∀ k, k ≠ 0 → aB σ' k = aB σ k)
theorem KS.rf (σ : US) : KS σ σ := ⟨rfl, rfl, fun _ _ => rfl, fun _ _ => rfl⟩
theorem KS.tr {a b c : US} (h1 : KS a b) (h2 : KS b c) : KS a c := ⟨h2.1.trans h1.1, h2.2.1.trans h1.2.1, fun k hk => (h2.2.2.1 k hk).trans (h1.2.2.1 k hk), fun k hk => (h2.2.2.2 k hk).trans (h1.2.2.2 k hk)⟩
theorem KS.uB (σ : US) (i : Nat) (x : Int64) : KS σ (uB σ 0 i x) := ⟨rfl, rfl, fun _ _ => rfl, fun _ hk => aB_sB_n σ _ hk⟩
theorem KS.uJ (σ : US) (x : Int64) : KS σ (uJ σ 2 x) := ⟨rfl, rfl, fun _ hk => lJ_uJ_n σ x hk, fun _ _ => rfl⟩
theorem KS.keep {σ σ' : US} (h : KS σ σ') : KeepM σ σ' := ⟨fun q _ _ _ _ => by show σ'.2.2.1 q = σ.2.2.1 q; rw [h.2.1], fun k _ _ => by show σ'.1 k = σ.1 k; rw [h.1]⟩
theorem AQ.of {n : Nat} {σ : US} {M N : Nat → Nat → Int} (h : AQ n σ M) (e : ∀ i j, i < n → j < 9 → M i j = N i j) : AQ n σ N := fun i j hi hj => by rw [← e i j hi hj]; exact h i j hi hj
theorem AQ.put {n : Nat} {σ : US} {M : Nat → Nat → Int} (h : AQ n σ M) {i j : Nat} (hj : j < 9) (x : Int) : AQ n (uB σ 0 (9 * i + j) (lI x)) (upm M i j x) := by
  intro r c hr hc
  have e : aB (uB σ 0 (9 * i + j) (lI x)) 0 = vp_updL (aB σ 0) (9 * i + j) (lI x) := aB_sB σ 0 _
  rw [e]
  by_cases hrc : r = i ∧ c = j
  · obtain ⟨rfl, rfl⟩ := hrc
    rw [upm_s]; exact if_pos rfl
  · rw [upm_n M x hrc, ← h r c hr hc]
    exact if_neg (by omega)
section PEM
variable {n : Nat} {σ : US} {M : Nat → Nat → Int}
theorem ix9 {i j : Nat} : 9 * nI i + nI j = nI (9 * i + j) := by rw [li9, pk_mul, nI_add]
theorem q12_at (h : AQ n σ M) {i j : Nat} (hi : i < n) (hn : n ≤ 8) (hj : j < 9) {Q : Int64 → Prop} (hQ : Q (lI (M i j))) : wp_X12_at (nI i) (nI j) σ Q := by
  unfold wp_X12_at
  rw [ix9]
  refine ⟨pk_in (9 * i + j) 72 (by omega), ?_⟩
  rw [nI_clamp (by omega), h i j hi hj]; exact hQ
theorem q12_solve {A : Nat → Nat → Int} (hn : n ≤ 8) (hu : iI σ 2 = nI n) (h : AQ n σ A) (hd : ∀ p, p ≤ n → 0 < dd n A p ∧ in64 (dd n A p)) (hb : ∀ p i j, p < n → i < n → j < 9 → i ≠ p → in64 (dd n A p * MM n A (p + 1) i j)) {Q : US → Prop} (hQ : ∀ σ', KS σ σ' → AQ n σ' (MM n A n) → lJ σ' 2 = lI (dd n A n) → Q σ') : wp_X12_solve σ Q := by
  unfold wp_X12_solve
  intro z1 hz1
  subst hz1
  have e1 : (1 : Int64) = lI (dd n A 0) := by rw [dd_0]; rfl
  refine lp_inv n (fun p t => ∃ z, t = (lI (dd n A p), nI p, z) ∧ KS σ z ∧ AQ n z (MM n A p)) ?_ _ ⟨uJ σ 2 1, by rw [e1]; rfl, KS.uJ σ 1, h.of (fun i j hi _ => (MM_0 hi).symm)⟩
  rintro p t hp ⟨z, rfl, hk, hz⟩ P hP
  unfold wp_X12_solve_L9
  have hu1 : iI z 2 = nI n := (congrFun hk.1 2).trans hu
  dsimp only
  rw [hu1]
  refine pk_le n p (fun hp2 z2 hz2 => ?_) (fun hp2 => ?_)
  · have : p = n := by omega
    subst this; subst hz2
    exact hQ _ (hk.tr (KS.uJ z _)) hz (lJ_uJ z 2 _)
  · have hpv := hd (p + 1) hp2
    rw [dd_s] at hpv
    have hp0 := hd p (by omega)
    refine lpW_of (fun _ t => t = nI p) ?_ 0 _ rfl
    rintro k t rfl P20 _
    unfold wp_X12_solve_L20
    refine q12_at hz hp2 hn (by omega) ⟨fun _ => ?_, fun z0 => absurd ((lI_eq hpv.2 (by unfold in64; omega)).mp (((lg_cmp_eq _ _).mp z0).trans (show (0 : Int64) = lI 0 from rfl))) (by have := hpv.1; omega)⟩
    -- a row changes places with itself
    refine lp_inv 9 (fun c t => ∃ z1, t = (nI c, z1) ∧ KS σ z1 ∧ AQ n z1 (MM n A p)) ?_ _ ⟨z, rfl, hk, hz⟩
    rintro c t hc ⟨z1, rfl, hk1, hz1⟩ P41 hP41
    unfold wp_X12_solve_L41
    refine pk_le 9 c (fun hc2 => ?_) (fun hc2 => ?_)
    · refine q12_at hz1 hp2 hn (by omega) ?_
      refine lp_inv n (fun r t => ∃ z2, t = (nI r, z2) ∧ KS σ z2 ∧ AQ n z2 (fun i j => if i < r ∧ i ≠ p then MM n A (p + 1) i j else MM n A p i j)) ?_ _ ⟨z1, rfl, hk1, hz1.of (fun i j _ _ => (if_neg (by omega)).symm)⟩
      rintro r t hr ⟨z2, rfl, hk2, hz2⟩ P109 hP109
      unfold wp_X12_solve_L109
      have hu2 : iI z2 2 = nI n := (congrFun hk2.1 2).trans hu
      dsimp only
      rw [hu2]
      refine pk_le n r (fun hr2 => ?_) (fun hr2 => ⟨fun heq => ?_, fun hne => ?_⟩)
      · rw [li1, nI_add]
        refine hP hp2 _ ⟨z2, by rw [dd_s], hk2, hz2.of (fun i j hi _ => ?_)⟩
        by_cases hip : i = p
        · subst hip; rw [if_neg (by omega), MM_k]
        · rw [if_pos ⟨by omega, hip⟩]
      · have hrp : r = p := (nI_eq (by omega) (by omega)).mp heq
        rw [li1, nI_add]
        refine hP109 hr2 _ ⟨z2, rfl, hk2, hz2.of (fun i j _ _ => ?_)⟩
        by_cases c1 : i < r ∧ i ≠ p
        · rw [if_pos c1, if_pos ⟨by omega, c1.2⟩]
        · rw [if_neg c1, if_neg (by omega)]
      · have hrp : r ≠ p := fun z => hne (by rw [z])
        have hne0 : ¬ lI (dd n A p) = 0 := fun z0 => absurd ((lI_eq hp0.2 (by unfold in64; omega)).mp (z0.trans (show (0 : Int64) = lI 0 from rfl))) (by have := hp0.1; omega)
        have erp : (if r < r ∧ r ≠ p then MM n A (p + 1) r p else MM n A p r p) = MM n A p r p := if_neg (by omega)
        refine q12_at hz2 hr2 hn (by omega) ?_
        rw [erp]
        refine lp_inv 9 (fun k t => ∃ z3, t = (nI k, z3) ∧ KS σ z3 ∧ AQ n z3 (fun i j => if (i < r ∧ i ≠ p) ∨ (i = r ∧ j < k) then MM n A (p + 1) i j else MM n A p i j)) ?_ _ ⟨z2, rfl, hk2, hz2.of (fun i j _ _ => by
          by_cases c1 : i < r ∧ i ≠ p
          · rw [if_pos c1, if_pos (Or.inl c1)]
          · rw [if_neg c1, if_neg (by omega)])⟩
        rintro k t hk9 ⟨z3, rfl, hk3, hz3⟩ P136 hP136
        unfold wp_X12_solve_L136
        refine pk_le 9 k (fun hk92 => ?_) (fun hk92 => ?_)
        · rw [li1, nI_add]
          refine hP109 hr2 _ ⟨z3, rfl, hk3, hz3.of (fun i j _ hj => ?_)⟩
          by_cases c1 : i < r + 1 ∧ i ≠ p
          · rw [if_pos c1, if_pos (by omega)]
          · rw [if_neg c1, if_neg (by omega)]
        · have e1 : (if (r < r ∧ r ≠ p) ∨ (r = r ∧ k < k) then MM n A (p + 1) r k else MM n A p r k) = MM n A p r k := if_neg (by omega)
          have e2 : (if (p < r ∧ p ≠ p) ∨ (p = r ∧ k < k) then MM n A (p + 1) p k else MM n A p p k) = MM n A p p k := if_neg (by omega)
          refine q12_at hz3 hr2 hn hk92 (q12_at hz3 hp2 hn hk92 ⟨hne0, ?_⟩)
          rw [ix9, e1, e2, lI_mul, lI_mul, lI_sub, ← MM_s hp2 hr2 hrp, lI_div (by have := hp0.1; omega) hp0.2 (hb p r k hp2 hr2 hk92 hrp)]
          refine ⟨pk_in (9 * r + k) 72 (by omega), fun z8 hz8 => ?_⟩
          rw [nI_clamp (by omega)] at hz8
          subst hz8
          rw [li1, nI_add]
          refine hP136 hk92 _ ⟨_, rfl, hk3.tr (KS.uB z3 _ _), (hz3.put hk92 _).of (fun i j _ _ => ?_)⟩
          unfold upm
          by_cases c0 : i = r ∧ j = k
          · rw [if_pos c0, if_pos (by omega), c0.1, c0.2]
          · rw [if_neg c0]
            dsimp only
            by_cases c1 : (i < r ∧ i ≠ p) ∨ (i = r ∧ j < k)
            · rw [if_pos c1, if_pos (by omega)]
            · rw [if_neg c1, if_neg (by omega)]
    · refine q12_at hz1 hp2 hn hc2 (q12_at hz1 hp2 hn hc2 ?_)
      rw [ix9]
      refine ⟨pk_in (9 * p + c) 72 (by omega), fun z28 hz28 => ⟨pk_in (9 * p + c) 72 (by omega), fun z29 hz29 => ?_⟩⟩
      rw [nI_clamp (by omega)] at hz28 hz29
      subst hz28; subst hz29
      rw [li1, nI_add]
      refine hP41 hc2 _ ⟨_, rfl, (hk1.tr (KS.uB z1 _ _)).tr (KS.uB _ _ _), ((hz1.put hc2 _).put hc2 _).of (fun i j _ _ => ?_)⟩
      unfold upm
      by_cases c0 : i = p ∧ j = c
      · rw [if_pos c0, c0.1, c0.2]
      · rw [if_neg c0, if_neg c0]
end PEM
