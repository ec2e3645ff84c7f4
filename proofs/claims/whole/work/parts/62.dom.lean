/-! ===== diagonals that outweigh their rows ===== -/
theorem i_np {a b : Int} (ha : 0 ≤ a) (hb : b ≤ 0) : a * b ≤ 0 := by
  have := Int.mul_nonneg ha (show 0 ≤ -b by omega)
  rw [Int.mul_neg] at this; omega
theorem i_nn {a b : Int} (ha : a ≤ 0) (hb : b ≤ 0) : 0 ≤ a * b := by
  have := Int.mul_nonneg (show 0 ≤ -a by omega) (show 0 ≤ -b by omega)
  rw [Int.neg_mul_neg] at this; exact this
theorem i_pos {a b : Int} (h : 0 < a * b) (hb : 0 < b) : 0 < a := by
  rcases Int.lt_or_le 0 a with h1 | h1
  · exact h1
  · have := i_np (a := b) (b := a) (by omega) h1
    rw [Int.mul_comm] at this; omega
theorem i_le {d x y : Int} (hd : 0 < d) (h : d * x ≤ d * y) : x ≤ y := Int.le_of_mul_le_mul_left h hd
theorem i_lt {d x y : Int} (hd : 0 < d) (h : d * x < d * y) : x < y := Int.lt_of_mul_lt_mul_left h (by omega)
theorem i_cancel {d x y : Int} (hd : 0 < d) (h : d * x = d * y) : x = y := Int.eq_of_mul_eq_mul_left (by omega) h
theorem sL_mono {f g : Nat → Int} : ∀ {l : List Nat}, (∀ j, j ∈ l → f j ≤ g j) → sL f l ≤ sL g l
  | [], _ => Int.le_refl _
  | a :: l, h => Int.add_le_add (h a List.mem_cons_self) (sL_mono (fun j hj => h j (List.mem_cons_of_mem _ hj)))
theorem sL_le1 {J : List Nat} (nd : J.Nodup) {i : Nat} (hi : i ∈ J) {f : Nat → Int} (h : ∀ j, j ∈ J → j ≠ i → f j ≤ 0) : sL f J ≤ f i := by
  have h1 := sL_one nd hi (f := fun j => if j = i then f i else 0) (fun j _ hj => if_neg hj)
  have h2 : sL f J ≤ sL (fun j => if j = i then f i else 0) J := sL_mono (fun j hj => by
    split
    · rename_i e; rw [e]; exact Int.le_refl _
    · rename_i e; exact h j hj e)
  rw [h1, if_pos rfl] at h2; exact h2
theorem sL_le2 {J : List Nat} (nd : J.Nodup) {i k : Nat} (hi : i ∈ J) (hk : k ∈ J) (hne : i ≠ k) {f : Nat → Int} (h : ∀ j, j ∈ J → j ≠ i → f j ≤ 0) : sL f J ≤ f i + f k := by
  have h1 := sL_two nd hi hk hne (f := fun j => if j = i then f i else if j = k then f k else 0) (fun j _ hji hjk => by rw [if_neg hji, if_neg hjk])
  have h2 : sL f J ≤ sL (fun j => if j = i then f i else if j = k then f k else 0) J := sL_mono (fun j hj => by
    split
    · rename_i e; rw [e]; exact Int.le_refl _
    · split
      · rename_i e; rw [e]; exact Int.le_refl _
      · rename_i e _; exact h j hj e)
  rw [h1, if_pos rfl, if_neg (Ne.symm hne), if_pos rfl] at h2; exact h2
def Dom (n : Nat) (d : Int) (M : Nat → Nat → Int) : Prop := (∀ i j, i < n → j < n → i ≠ j → M i j ≤ 0) ∧ (∀ i, i < n → 0 ≤ sL (M i) (List.range n)) ∧ (∀ i, i < n → M i i ≤ 10 * d)
def Wts (n : Nat) (w : Nat → Int) (M : Nat → Nat → Int) : Prop := ∀ i, i < n → 0 < sL (fun j => M i j * w j) (List.range n)
theorem row_comb {l : List Nat} {d p q : Int} {f f' g x : Nat → Int} (h : ∀ j, j ∈ l → d * f' j = p * f j - q * g j) : d * sL (fun j => f' j * x j) l = p * sL (fun j => f j * x j) l - q * sL (fun j => g j * x j) l := by
  rw [← sL_mul, ← sL_mul, ← sL_mul]
  have h1 := sL_add (fun j => p * (f j * x j)) (fun j => - (q * (g j * x j))) l
  have h2 := sL_mul (-1) (fun j => q * (g j * x j)) l
  have h3 : sL (fun j => -1 * (q * (g j * x j))) l = sL (fun j => - (q * (g j * x j))) l := sL_congr (fun j _ => by omega)
  have h4 : sL (fun j => d * (f' j * x j)) l = sL (fun j => p * (f j * x j) + - (q * (g j * x j))) l := sL_congr (fun j hj => by
    have := h j hj
    have e : d * (f' j * x j) = (d * f' j) * x j := by grind
    rw [e, this]; grind)
  rw [h4, h1, ← h3, h2]; omega
theorem row_comb1 {l : List Nat} {d p q : Int} {f f' g : Nat → Int} (h : ∀ j, j ∈ l → d * f' j = p * f j - q * g j) : d * sL f' l = p * sL f l - q * sL g l := by
  have h1 := row_comb (x := fun _ => 1) h
  have e : ∀ f : Nat → Int, sL (fun j => f j * 1) l = sL f l := fun f => sL_congr (fun j _ => Int.mul_one _)
  rw [e f, e f', e g] at h1; exact h1
section DOM
variable {n : Nat} {A : Nat → Nat → Int} {w : Nat → Int}
theorem dom_piv {k : Nat} {d : Int} {M : Nat → Nat → Int} (hk : k < n) (h : Dom n d M) (hp : ∀ j, 0 < w j) (hw : Wts n w M) : 0 < M k k := by
  have h1 := hw k hk
  have h2 := sL_le1 (nd_n n) (mem_n hk) (f := fun j => M k j * w j) (fun j hj hne => by
    have h3 := h.1 k j hk (List.mem_range.mp hj) (Ne.symm hne)
    have h4 := hp j
    have := i_np (a := w j) (b := M k j) (by omega) h3
    rw [Int.mul_comm] at this; exact this)
  exact i_pos (show 0 < M k k * w k by exact Int.lt_of_lt_of_le h1 h2) (hp k)
/-- every stage keeps what the first one has -/
theorem dom_all (h0 : Dom n 1 A) (hp : ∀ j, 0 < w j) (hw : Wts n w A) : ∀ k, k ≤ n → 0 < dd n A k ∧ Dom n (dd n A k) (MM n A k) ∧ Wts n w (MM n A k)
  | 0, _ => by
    rw [dd_0]
    refine ⟨by decide, ⟨fun i j hi hj hne => ?_, fun i hi => ?_, fun i hi => ?_⟩, fun i hi => ?_⟩
    · rw [MM_0 hi]; exact h0.1 i j hi hj hne
    · have : MM n A 0 i = A i := by funext j; exact MM_0 hi
      rw [this]; exact h0.2.1 i hi
    · rw [MM_0 hi]; exact h0.2.2 i hi
    · have : MM n A 0 i = A i := by funext j; exact MM_0 hi
      rw [this]; exact hw i hi
  | k + 1, hk => by
    obtain ⟨hd, hD, hW⟩ := dom_all h0 hp hw k (by omega)
    have hkn : k < n := hk
    have hpiv := dom_piv hkn hD hp hW
    rw [dd_s]
    refine ⟨hpiv, ⟨fun i j hi hj hne => ?_, fun i hi => ?_, fun i hi => ?_⟩, fun i hi => ?_⟩
    · by_cases hik : i = k
      · subst hik; rw [MM_k]; exact hD.1 i j hi hj hne
      · by_cases hjk : j = k
        · subst hjk; rw [MM_done (Nat.lt_succ_self j) hk hi, if_neg hne]; exact Int.le_refl _
        · have h1 := MM_s (A := A) (j := j) hkn hi hik
          have h2 := i_np (Int.le_of_lt hpiv) (hD.1 i j hi hj hne)
          have h3 := i_nn (hD.1 i k hi hkn hik) (hD.1 k j hkn hj (Ne.symm hjk))
          exact i_le hd (by rw [h1, Int.mul_zero]; omega)
    · by_cases hik : i = k
      · subst hik
        have : MM n A (i + 1) i = MM n A i i := by funext j; exact MM_k
        rw [this]; exact hD.2.1 i hi
      · have h1 := row_comb1 (l := List.range n) (f' := MM n A (k + 1) i) (fun j _ => MM_s (A := A) (j := j) hkn hi hik)
        have h2 := Int.mul_nonneg (Int.le_of_lt hpiv) (hD.2.1 i hi)
        have h3 := i_np (hD.2.1 k hkn) (hD.1 i k hi hkn hik)
        rw [Int.mul_comm] at h3
        exact i_le hd (by rw [h1, Int.mul_zero]; omega)
    · by_cases hik : i = k
      · subst hik; rw [MM_k]; omega
      · have h1 := MM_s (A := A) (j := i) hkn hi hik
        have h2 := Int.mul_le_mul_of_nonneg_left (hD.2.2 i hi) (Int.le_of_lt hpiv)
        have h3 := i_nn (hD.1 i k hi hkn hik) (hD.1 k i hkn hi (Ne.symm hik))
        refine i_le hd ?_
        have e : dd n A k * (10 * MM n A k k k) = MM n A k k k * (10 * dd n A k) := by grind
        rw [h1, e]; omega
    · by_cases hik : i = k
      · subst hik
        have : MM n A (i + 1) i = MM n A i i := by funext j; exact MM_k
        rw [this]; exact hW i hi
      · have h1 := row_comb (l := List.range n) (x := w) (f' := MM n A (k + 1) i) (fun j _ => MM_s (A := A) (j := j) hkn hi hik)
        have h2 := Int.mul_pos hpiv (hW i hi)
        have h3 := i_np (Int.le_of_lt (hW k hkn)) (hD.1 i k hi hkn hik)
        rw [Int.mul_comm] at h3
        exact i_lt hd (by rw [h1, Int.mul_zero]; omega)
theorem dom_off {d : Int} {M : Nat → Nat → Int} (hD : Dom n d M) {i j : Nat} (hi : i < n) (hj : j < n) (hne : i ≠ j) : - (10 * d) ≤ M i j := by
  have h1 := sL_le2 (nd_n n) (mem_n hi) (mem_n hj) hne (f := M i) (fun q hq hqi => hD.1 i q hi (List.mem_range.mp hq) (Ne.symm hqi))
  have h2 := hD.2.1 i hi
  have h3 := hD.2.2 i hi
  omega
/-- a row that says 'this value is that' -/
theorem triv_row {k : Nat} (hk : k < n) (ht : ∀ j, j < n → A k j = if k = j then 1 else 0) (hp : ∀ q, q ≤ n → 0 < dd n A q) (b : Nat) : ∀ q, q ≤ n → (∀ j, j < n → MM n A q k j = if k = j then dd n A q else 0) ∧ MM n A q k b = dd n A q * A k b
  | 0, _ => by
    rw [dd_0, MM_0 hk]
    exact ⟨fun j hj => by rw [MM_0 hk]; exact ht j hj, by omega⟩
  | q + 1, hq => by
    obtain ⟨h1, h2⟩ := triv_row hk ht hp b q (by omega)
    rw [dd_s]
    by_cases hkq : k = q
    · subst hkq
      have e : MM n A k k k = dd n A k := by rw [h1 k hk, if_pos rfl]
      rw [e]
      exact ⟨fun j hj => by rw [MM_k]; exact h1 j hj, by rw [MM_k]; exact h2⟩
    · have h3 : MM n A q k q = 0 := by rw [h1 q hq, if_neg hkq]
      refine ⟨fun j hj => i_cancel (hp q (by omega)) ?_, i_cancel (hp q (by omega)) ?_⟩
      · rw [MM_s hq hk hkq, h3, h1 j hj]
        split <;> grind
      · rw [MM_s hq hk hkq, h3, h2]; grind
/-- how many rows before one say more -/
def tc (tr : Nat → Bool) : Nat → Nat
  | 0 => 0
  | k + 1 => if tr k then tc tr k else tc tr k + 1
theorem dd_le (h0 : Dom n 1 A) (hp : ∀ j, 0 < w j) (hw : Wts n w A) {tr : Nat → Bool} (ht : ∀ k, k < n → tr k = true → ∀ j, j < n → A k j = if k = j then 1 else 0) : ∀ k, k ≤ n → dd n A k ≤ 10 ^ tc tr k
  | 0, _ => by rw [dd_0]; exact Int.le_refl _
  | k + 1, hk => by
    have h1 := dd_le h0 hp hw ht k (by omega)
    have hall := dom_all h0 hp hw
    rw [dd_s]
    unfold tc
    split
    · rename_i htr
      have h2 := (triv_row hk (ht k hk htr) (fun q hq => (hall q hq).1) 0 k (by omega)).1 k hk
      rw [h2, if_pos rfl]; exact h1
    · have h2 := (hall k (by omega)).2.1.2.2 k hk
      rw [Int.pow_succ]; omega
/-- a right side that the rows outweigh -/
theorem right1 (h0 : Dom n 1 A) (hp : ∀ j, 0 < w j) (hw : Wts n w A) {b : Nat} {sc : Int} (hs : 0 ≤ sc) (hb : ∀ i, i < n → 0 ≤ A i b ∧ A i b ≤ sc * sL (A i) (List.range n)) : ∀ k, k ≤ n → ∀ i, i < n → 0 ≤ MM n A k i b ∧ MM n A k i b ≤ sc * sL (MM n A k i) (List.range n)
  | 0, _, i, hi => by
    have : MM n A 0 i = A i := by funext j; exact MM_0 hi
    rw [this]; exact hb i hi
  | k + 1, hk, i, hi => by
    have ih := right1 h0 hp hw hs hb k (by omega)
    obtain ⟨hd, hD, hW⟩ := dom_all h0 hp hw k (by omega)
    have hpiv := dom_piv hk hD hp hW
    by_cases hik : i = k
    · subst hik
      have : MM n A (i + 1) i = MM n A i i := by funext j; exact MM_k
      rw [this]; exact ih i hi
    · have h1 := MM_s (A := A) (j := b) hk hi hik
      have h2 := row_comb1 (l := List.range n) (f' := MM n A (k + 1) i) (fun j _ => MM_s (A := A) (j := j) hk hi hik)
      have h3 := Int.mul_nonneg (Int.le_of_lt hpiv) (ih i hi).1
      have h4 := i_np (ih k hk).1 (hD.1 i k hi hk hik)
      rw [Int.mul_comm] at h4
      refine ⟨i_le hd (by rw [h1, Int.mul_zero]; omega), i_le hd ?_⟩
      have h5 := Int.mul_nonneg (Int.le_of_lt hpiv) (show 0 ≤ sc * sL (MM n A k i) (List.range n) - MM n A k i b by have := (ih i hi).2; omega)
      have h6 := i_np (show 0 ≤ sc * sL (MM n A k k) (List.range n) - MM n A k k b by have := (ih k hk).2; omega) (hD.1 i k hi hk hik)
      have e : dd n A k * (sc * sL (MM n A (k + 1) i) (List.range n)) = sc * (dd n A k * sL (MM n A (k + 1) i) (List.range n)) := by grind
      rw [h1, e, h2]
      grind
theorem right1_le (h0 : Dom n 1 A) (hp : ∀ j, 0 < w j) (hw : Wts n w A) {b : Nat} {sc : Int} (hs : 0 ≤ sc) (hb : ∀ i, i < n → 0 ≤ A i b ∧ A i b ≤ sc * sL (A i) (List.range n)) {k i : Nat} (hk : k ≤ n) (hi : i < n) : 0 ≤ MM n A k i b ∧ MM n A k i b ≤ sc * (10 * dd n A k) := by
  obtain ⟨h1, h2⟩ := right1 h0 hp hw hs hb k hk i hi
  obtain ⟨hd, hD, hW⟩ := dom_all h0 hp hw k hk
  have h3 := sL_le1 (nd_n n) (mem_n hi) (f := MM n A k i) (fun q hq hqi => hD.1 i q hi (List.mem_range.mp hq) (Ne.symm hqi))
  have h4 := Int.mul_le_mul_of_nonneg_left (Int.le_trans h3 (hD.2.2 i hi)) hs
  exact ⟨h1, Int.le_trans h2 h4⟩
/-- any right side that stands in no such row -/
theorem right2 (h0 : Dom n 1 A) (hp : ∀ j, 0 < w j) (hw : Wts n w A) {tr : Nat → Bool} (ht : ∀ k, k < n → tr k = true → ∀ j, j < n → A k j = if k = j then 1 else 0) {b : Nat} {be : Int} (hb : ∀ i, i < n → - be ≤ A i b ∧ A i b ≤ be) (hb0 : ∀ i, i < n → tr i = true → A i b = 0) : ∀ k, k ≤ n → ∀ i, i < n → - (be * 20 ^ tc tr k) ≤ MM n A k i b ∧ MM n A k i b ≤ be * 20 ^ tc tr k
  | 0, _, i, hi => by
    rw [MM_0 hi]
    have := hb i hi
    show - (be * 1) ≤ _ ∧ _ ≤ be * 1
    omega
  | k + 1, hk, i, hi => by
    have ih := right2 h0 hp hw ht hb hb0 k (by omega)
    have hall := dom_all h0 hp hw
    obtain ⟨hd, hD, hW⟩ := hall k (by omega)
    have hpiv := dom_piv hk hD hp hW
    unfold tc
    generalize hx : be * 20 ^ tc tr k = x at ih
    have hx0 : 0 ≤ x := by have := ih i hi; omega
    split
    · rename_i htr
      rw [hx]
      by_cases hik : i = k
      · subst hik; rw [MM_k]; exact ih i hi
      · have h1 := MM_s (A := A) (j := b) hk hi hik
        obtain ⟨h2, h3⟩ := triv_row hk (ht k hk htr) (fun q hq => (hall q hq).1) b k (by omega)
        rw [h2 k hk, if_pos rfl, h3, hb0 k hk htr] at h1
        have : MM n A (k + 1) i b = MM n A k i b := i_cancel hd (by rw [h1]; grind)
        rw [this]; exact ih i hi
    · have e20 : be * 20 ^ (tc tr k + 1) = 20 * x := by rw [Int.pow_succ, ← hx]; grind
      rw [e20]
      by_cases hik : i = k
      · subst hik; rw [MM_k]; have := ih i hi; omega
      · have h1 := MM_s (A := A) (j := b) hk hi hik
        have a1 := hD.2.2 k hk
        have a2 := hD.1 i k hi hk hik
        have a3 := dom_off hD hi hk hik
        obtain ⟨b1, b2⟩ := ih i hi
        obtain ⟨b3, b4⟩ := ih k hk
        -- products within their bounds
        have c1 := Int.mul_le_mul_of_nonneg_left b2 (Int.le_of_lt hpiv)
        have c2 := Int.mul_le_mul_of_nonneg_left b1 (Int.le_of_lt hpiv)
        have c3 := Int.mul_le_mul_of_nonneg_right a1 hx0
        have c4 := Int.mul_le_mul_of_nonneg_left b4 (show 0 ≤ - MM n A k i k by omega)
        have c5 := Int.mul_le_mul_of_nonneg_left b3 (show 0 ≤ - MM n A k i k by omega)
        have c6 := Int.mul_le_mul_of_nonneg_right (show - MM n A k i k ≤ 10 * dd n A k by omega) hx0
        refine ⟨i_le hd ?_, i_le hd ?_⟩
        · rw [h1]; grind
        · rw [h1]; grind
end DOM
