/-! ===== the class's equations: a matrix of whole numbers in its cells ===== -/
def lI (x : Int) : Int64 := Int64.ofInt x
theorem lI_N (n : Nat) : lN n = lI (n : Int) := rfl
theorem lI_add (a b : Int) : lI a + lI b = lI (a + b) := (Int64.ofInt_add a b).symm
theorem lI_mul (a b : Int) : lI a * lI b = lI (a * b) := (Int64.ofInt_mul a b).symm
theorem lI_sub (a b : Int) : lI a - lI b = lI (a - b) := (Int64.ofInt_sub a b).symm
theorem lI_neg (a : Int) : - lI a = lI (-a) := (Int64.ofInt_neg a).symm
def in64 (x : Int) : Prop := -(2 ^ 63) ≤ x ∧ x < 2 ^ 63
theorem lI_to {x : Int} (h : in64 x) : (lI x).toInt = x := by
  unfold lI
  exact Int64.toInt_ofInt_of_le (by have := h.1; omega) (by have := h.2; omega)
theorem lI_eq {a b : Int} (ha : in64 a) (hb : in64 b) : lI a = lI b ↔ a = b := by
  constructor
  · intro h
    have := congrArg Int64.toInt h
    rw [lI_to ha, lI_to hb] at this; exact this
  · intro h; rw [h]
theorem lI_div {d x : Int} (hd : d ≠ 0) (hd2 : in64 d) (hx : in64 (d * x)) : lI (d * x) / lI d = lI x := by
  have h := Int64.ofInt_tdiv (a := d * x) (b := d) (by have := hx.1; exact this) (by have := hx.2; exact Int.le_of_lt_add_one this) (by have := hd2.1; exact this) (by have := hd2.2; exact Int.le_of_lt_add_one this)
  rw [Int.mul_tdiv_cancel_left _ hd] at h
  exact h.symm
theorem aB_sB (σ : US) (k : Nat) (f : Nat → Int64) : aB (sB σ k f) k = f := kup_s
theorem aB_sB_n (σ : US) {j k : Nat} (f : Nat → Int64) (h : j ≠ k) : aB (sB σ k f) j = aB σ j := kup_n h
/-- the cells of a state of the equations -/
def EQ (ε : US) (M : Nat → Nat → Int) : Prop := ∀ i j, i < 8 → j < 9 → aB ε 0 (9 * i + j) = lI (M i j)
def upm (M : Nat → Nat → Int) (i j : Nat) (x : Int) : Nat → Nat → Int := fun r c => if r = i ∧ c = j then x else M r c
theorem upm_s (M : Nat → Nat → Int) (i j : Nat) (x : Int) : upm M i j x i j = x := if_pos ⟨rfl, rfl⟩
theorem upm_n (M : Nat → Nat → Int) {i j r c : Nat} (x : Int) (h : ¬ (r = i ∧ c = j)) : upm M i j x r c = M r c := if_neg h
theorem EQ.put {ε : US} {M : Nat → Nat → Int} (h : EQ ε M) {i j : Nat} (hj : j < 9) (x : Int) : EQ (uB ε 0 (9 * i + j) (lI x)) (upm M i j x) := by
  intro r c hr hc
  have e : aB (uB ε 0 (9 * i + j) (lI x)) 0 = vp_updL (aB ε 0) (9 * i + j) (lI x) := aB_sB ε 0 _
  rw [e]
  by_cases hrc : r = i ∧ c = j
  · obtain ⟨rfl, rfl⟩ := hrc
    rw [upm_s]; exact if_pos rfl
  · rw [upm_n M x hrc, ← h r c hr hc]
    exact if_neg (by omega)
section PE
variable {ε : US} {M : Nat → Nat → Int}
theorem q3_put (h : EQ ε M) {i j : Nat} (hi : i < 8) (hj : j < 9) {x : Int} {v : Int64} (hv : v = lI x) {Q : US → Prop} (hQ : ∀ ε', EQ ε' (upm M i j x) → Q ε') : wp_X3_put (nI i) (nI j) v ε Q := by
  unfold wp_X3_put
  intro x1 hx1
  rw [li9, pk_mul, nI_add, Nat.mul_comm] at hx1; subst hx1; subst hv
  refine pk_lt j 0 (fun z => by omega) (fun _ => pk_le 9 j (fun z => by omega) (fun _ => pk_lt (9 * i + j) 0 (fun z => by omega) (fun _ => pk_le 72 (9 * i + j) (fun z => by omega) (fun _ => ⟨pk_in (9 * i + j) 72 (by omega), fun z hz => ?_⟩))))
  rw [nI_clamp (by omega)] at hz
  subst hz
  exact hQ _ (h.put hj x)
theorem q3_get (h : EQ ε M) {i j : Nat} (hi : i < 8) (hj : j < 9) {Q : Int64 → Prop} (hQ : Q (lI (M i j))) : wp_X3_get (nI i) (nI j) ε Q := by
  unfold wp_X3_get
  intro x1 hx1
  rw [li9, pk_mul, nI_add, Nat.mul_comm] at hx1; subst hx1
  refine pk_lt j 0 (fun z => by omega) (fun _ => pk_le 9 j (fun z => by omega) (fun _ => pk_lt (9 * i + j) 0 (fun z => by omega) (fun _ => pk_le 72 (9 * i + j) (fun z => by omega) (fun _ => ⟨pk_in (9 * i + j) 72 (by omega), ?_⟩))))
  rw [nI_clamp (by omega), h i j hi hj]; exact hQ
theorem EQ.of {ε : US} {M N : Nat → Nat → Int} (h : EQ ε M) (e : ∀ i j, i < 8 → j < 9 → M i j = N i j) : EQ ε N := fun i j hi hj => by rw [← e i j hi hj]; exact h i j hi hj
theorem q3_add (h : EQ ε M) {i j : Nat} (hi : i < 8) (hj : j < 9) {x : Int} {v : Int64} (hv : v = lI x) {Q : US → Prop} (hQ : ∀ ε', EQ ε' (upm M i j (M i j + x)) → Q ε') : wp_X3_add (nI i) (nI j) v ε Q := by
  unfold wp_X3_add
  refine q3_get h hi hj ?_
  exact q3_put h hi hj (by rw [hv, lI_add]) hQ
theorem q3_putRight (h : EQ ε M) {i : Nat} (hi : i < 8) {x : Int} {v : Int64} (hv : v = lI x) {Q : US → Prop} (hQ : ∀ ε', EQ ε' (upm M i 8 x) → Q ε') : wp_X3_putRight (nI i) v ε Q := by
  unfold wp_X3_putRight
  exact q3_put h hi (by decide) hv hQ
theorem q3_clearRow (h : EQ ε M) {i : Nat} (hi : i < 8) {Q : US → Prop} (hQ : ∀ ε', EQ ε' (fun r c => if r = i then 0 else M r c) → Q ε') : wp_X3_clearRow (nI i) ε Q := by
  unfold wp_X3_clearRow
  refine lp_inv 9 (fun k t => ∃ z, t = (nI k, z) ∧ EQ z (fun r c => if r = i ∧ c < k then 0 else M r c)) ?_ _ ⟨ε, rfl, h.of (fun r c _ _ => (if_neg (by omega)).symm)⟩
  rintro k t hk ⟨z, rfl, hz⟩ P hP
  unfold wp_X3_clearRow_L2
  refine pk_le 9 k (fun hk2 => ?_) (fun hk2 => ?_)
  · refine hQ z (hz.of (fun r c _ hc => ?_))
    by_cases hr : r = i
    · rw [if_pos ⟨hr, by omega⟩, if_pos hr]
    · rw [if_neg (by omega), if_neg hr]
  · refine q3_put hz hi hk2 (x := 0) rfl (fun z' hz' => ?_)
    rw [li1, nI_add]
    refine hP hk2 _ ⟨z', rfl, hz'.of (fun r c _ _ => ?_)⟩
    unfold upm
    by_cases hr : r = i ∧ c = k
    · rw [if_pos hr, if_pos ⟨hr.1, by omega⟩]
    · rw [if_neg hr]
      dsimp only
      by_cases h2 : r = i ∧ c < k
      · rw [if_pos h2, if_pos ⟨h2.1, by omega⟩]
      · rw [if_neg h2, if_neg (by omega)]
theorem q3_clear {Q : US → Prop} (hQ : ∀ ε', EQ ε' (fun r c => if r = c then 1 else 0) → Q ε') : wp_X3_clear ε Q := by
  unfold wp_X3_clear
  have h0 : EQ ε (fun r c => (aB ε 0 (9 * r + c)).toInt) := fun i j _ _ => (Int64.ofInt_toInt _).symm
  refine lp_inv 8 (fun k t => ∃ z M, t = (nI k, z) ∧ EQ z M ∧ ∀ r c, r < k → M r c = if r = c then 1 else 0) ?_ _ ⟨ε, _, rfl, h0, fun r c hr => by omega⟩
  rintro k t hk ⟨z, M, rfl, hz, hM⟩ P hP
  unfold wp_X3_clear_L2
  refine pk_le 8 k (fun hk2 => ?_) (fun hk2 => ?_)
  · exact hQ z (hz.of (fun r c hr _ => hM r c (by omega)))
  · refine q3_clearRow hz hk2 (fun z1 hz1 => ?_)
    refine q3_put hz1 hk2 (by omega) (x := 1) rfl (fun z2 hz2 => ?_)
    rw [li1, nI_add]
    refine hP hk2 _ ⟨z2, _, rfl, hz2, fun r c hr => ?_⟩
    unfold upm
    by_cases h1 : r = k ∧ c = k
    · rw [if_pos h1, if_pos (by omega)]
    · rw [if_neg h1]
      dsimp only
      by_cases h2 : r = k
      · rw [if_pos h2, if_neg (by omega)]
      · rw [if_neg h2]; exact hM r c (by omega)
theorem q3_eliminate (h : EQ ε M) {i p : Nat} (hi : i < 8) (hp : p < 8) (hip : i ≠ p) {d : Int} (hd : d ≠ 0) (hd2 : in64 d) {N : Nat → Int} (hN : ∀ c, c < 9 → d * N c = M p p * M i c - M i p * M p c ∧ in64 (d * N c)) {Q : US → Prop} (hQ : ∀ ε', EQ ε' (fun r c => if r = i then N c else M r c) → Q ε') : wp_X3_eliminate (nI i) (nI p) (lI d) ε Q := by
  unfold wp_X3_eliminate
  have e0 : (0 : Int64) = lI 0 := rfl
  have hne : ¬ lI d = 0 := fun z => hd ((lI_eq hd2 (by unfold in64; omega)).mp (z.trans e0))
  refine ⟨fun _ => ?_, fun z => absurd ((lg_cmp_eq _ _).mp z) hne⟩
  refine q3_get h hi (by omega) (q3_get h hp (by omega) ?_)
  refine lp_inv 9 (fun k t => ∃ z, t = (nI k, z) ∧ EQ z (fun r c => if r = i ∧ c < k then N c else M r c)) ?_ _ ⟨ε, rfl, h.of (fun r c _ _ => (if_neg (by omega)).symm)⟩
  rintro k t hk ⟨z, rfl, hz⟩ P hP
  unfold wp_X3_eliminate_L26
  refine pk_le 9 k (fun hk2 => ?_) (fun hk2 => ?_)
  · refine hQ z (hz.of (fun r c _ hc => ?_))
    by_cases hr : r = i
    · rw [if_pos ⟨hr, by omega⟩, if_pos hr]
    · rw [if_neg (by omega), if_neg hr]
  · refine q3_get hz hi hk2 (q3_get hz hp hk2 ⟨hne, ?_⟩)
    have e1 : (if i = i ∧ k < k then N k else M i k) = M i k := if_neg (by omega)
    have e2 : (if p = i ∧ k < k then N k else M p k) = M p k := if_neg (by omega)
    rw [e1, e2, lI_mul, lI_mul, lI_sub, ← (hN k hk2).1, lI_div hd hd2 (hN k hk2).2]
    refine q3_put hz hi hk2 (x := N k) rfl (fun z' hz' => ?_)
    rw [li1, nI_add]
    refine hP hk2 _ ⟨z', rfl, hz'.of (fun r c _ _ => ?_)⟩
    unfold upm
    by_cases hr : r = i ∧ c = k
    · rw [if_pos hr, if_pos ⟨hr.1, by omega⟩, hr.2]
    · rw [if_neg hr]
      dsimp only
      by_cases h2 : r = i ∧ c < k
      · rw [if_pos h2, if_pos ⟨h2.1, by omega⟩]
      · rw [if_neg h2, if_neg (by omega)]
/-- the elimination of the class ends with what the determinants say -/
theorem q3_solve {A : Nat → Nat → Int} (h : EQ ε A) (hd : ∀ p, p < 8 → 0 < dd 8 A p ∧ in64 (dd 8 A p)) (hb : ∀ p i j, p < 8 → i < 8 → j < 9 → i ≠ p → in64 (dd 8 A p * MM 8 A (p + 1) i j)) {Q : US → Prop} (hQ : ∀ ε', EQ ε' (MM 8 A 8) → Q ε') : wp_X3_solve ε Q := by
  unfold wp_X3_solve
  have e1 : (1 : Int64) = lI (dd 8 A 0) := by rw [dd_0]; rfl
  rw [e1]
  refine lp_inv 8 (fun p t => ∃ z, t = (lI (dd 8 A p), nI p, z) ∧ EQ z (MM 8 A p)) ?_ _ ⟨ε, rfl, h.of (fun i j hi _ => (MM_0 hi).symm)⟩
  rintro p t hp ⟨z, rfl, hz⟩ P hP
  unfold wp_X3_solve_L4
  refine pk_le 8 p (fun hp2 => ?_) (fun hp2 => ?_)
  · have : p = 8 := by omega
    subst this; exact hQ z hz
  · refine lp_inv 8 (fun r t => ∃ z, t = (nI r, z) ∧ EQ z (fun i j => if i < r ∧ i ≠ p then MM 8 A (p + 1) i j else MM 8 A p i j)) ?_ _ ⟨z, rfl, hz.of (fun i j _ _ => (if_neg (by omega)).symm)⟩
    rintro r t hr ⟨z1, rfl, hz1⟩ P13 hP13
    unfold wp_X3_solve_L13
    have epp : ∀ j, (if p < r ∧ p ≠ p then MM 8 A (p + 1) p j else MM 8 A p p j) = MM 8 A p p j := fun j => if_neg (by omega)
    refine pk_le 8 r (fun hr2 => ?_) (fun hr2 => ?_)
    · refine q3_get hz1 hp2 (by omega) ?_
      rw [epp, ← dd_s, li1, nI_add]
      refine hP hp2 _ ⟨z1, rfl, hz1.of (fun i j hi _ => ?_)⟩
      by_cases hip : i = p
      · subst hip; rw [if_neg (by omega), MM_k]
      · rw [if_pos ⟨by omega, hip⟩]
    · refine ⟨fun heq => ?_, fun hne => ?_⟩
      · have hrp : r = p := (nI_eq (by omega) (by omega)).mp heq
        rw [li1, nI_add]
        refine hP13 hr2 _ ⟨z1, rfl, hz1.of (fun i j _ _ => ?_)⟩
        by_cases c1 : i < r ∧ i ≠ p
        · rw [if_pos c1, if_pos ⟨by omega, c1.2⟩]
        · rw [if_neg c1, if_neg (by omega)]
      · have hrp : r ≠ p := fun z => hne (by rw [z])
        have err : ∀ j, (if r < r ∧ r ≠ p then MM 8 A (p + 1) r j else MM 8 A p r j) = MM 8 A p r j := fun j => if_neg (by omega)
        refine q3_eliminate hz1 hr2 hp2 hrp (by have := (hd p hp2).1; omega) (hd p hp2).2 (N := fun c => MM 8 A (p + 1) r c) (fun c hc => ⟨?_, hb p r c hp2 hr2 hc hrp⟩) (fun z2 hz2 => ?_)
        · rw [epp, epp, err, err]
          exact MM_s hp2 hr2 hrp
        · rw [li1, nI_add]
          refine hP13 hr2 _ ⟨z2, rfl, hz2.of (fun i j _ _ => ?_)⟩
          by_cases c0 : i = r
          · subst c0; rw [if_pos rfl, if_pos ⟨by omega, hrp⟩]
          · rw [if_neg c0]
            by_cases c1 : i < r ∧ i ≠ p
            · rw [if_pos c1, if_pos ⟨by omega, c1.2⟩]
            · rw [if_neg c1, if_neg (by omega)]
theorem q3_solution (h : EQ ε M) {i : Nat} (hi : i < 8) {Q : Int64 → Prop} (hQ : Q (lI (M i 8))) : wp_X3_solution (nI i) ε Q := by
  unfold wp_X3_solution
  exact q3_get h hi (by decide) hQ
theorem q3_determinant (h : EQ ε M) {Q : Int64 → Prop} (hQ : Q (lI (M 0 0))) : wp_X3_determinant ε Q := by
  unfold wp_X3_determinant
  exact q3_get h (i := 0) (j := 0) (by decide) (by decide) hQ
end PE
