/-! ===== the reference's systems ===== -/
theorem sL_map (f : Nat → Int) (u : Nat → Nat) : ∀ l : List Nat, sL f (l.map u) = sL (fun q => f (u q)) l
  | [] => rfl
  | a :: l => by show f (u a) + sL f (l.map u) = _; rw [sL_map f u l]; rfl
theorem sL_filter (f : Nat → Int) (U : Nat → Bool) : ∀ l : List Nat, sL f (l.filter U) = sL (fun j => if U j then f j else 0) l
  | [] => rfl
  | a :: l => by
    show _ = (if U a then f a else 0) + _
    rw [← sL_filter f U l]
    cases h : U a
    · rw [List.filter_cons_of_neg (by simp [h])]; simp
    · rw [List.filter_cons_of_pos h, if_pos rfl]; rfl
theorem ul_ext {U : Nat → Bool} {n : Nat} (h : ∀ i, U i = true → i < n) : ∀ m, ul U (n + m) = ul U n
  | 0 => rfl
  | m + 1 => by
    have : U (n + m) = false := by
      cases hU : U (n + m)
      · rfl
      · have := h _ hU; omega
    show ul U (n + m + 1) = _
    rw [ul_f this]; exact ul_ext h m
/-- a sum over all states, the members of a set by their numbers -/
theorem sL_parts {U : Nat → Bool} {n : Nat} (hn : n ≤ 8) (h : ∀ i, U i = true → i < n) (f : Nat → Int) : sL f (List.range 8) = sL (fun q => f (un (ul U n) q)) (List.range (ul U n).length) + sL (fun j => if U j then 0 else f j) (List.range 8) := by
  rw [← sL_map f (un (ul U n)), un_map]
  have e : ul U n = (List.range 8).filter U := by
    have := ul_ext h (8 - n)
    rw [show n + (8 - n) = 8 by omega] at this
    rw [← this]; rfl
  rw [e, sL_filter, ← sL_add]
  exact sL_congr (fun j _ => by split <;> omega)
/-- a system of the reference with a right side -/
def RB (c : CH) (l : List Nat) (b : Nat → Int) : Nat → Nat → Int := fun r q => if q = 8 then b r else RA c l r q
section RS
variable {c : CH} {U : Nat → Bool} {b : Nat → Int}
theorem RB_8 {l : List Nat} {r : Nat} : RB c l b r 8 = b r := if_pos rfl
theorem RB_q {l : List Nat} {r q : Nat} (h : q ≠ 8) : RB c l b r q = RA c l r q := if_neg h
theorem RB_i {l : List Nat} {r q : Nat} (h : q < l.length) (h8 : l.length ≤ 8) : RB c l b r q = (if r = q then (cdiv c (un l r) : Int) else 0) - cst c (un l r) (un l q) := by
  rw [RB_q (by omega)]; unfold RA; rw [if_pos h]
/-- what leads out of a set -/
def outw (c : CH) (U : Nat → Bool) (i : Nat) : Int := sL (fun j => if U j then 0 else (cst c i j : Int)) (List.range 8)
theorem outw_get {i j : Nat} (hj : j < 8) (h : U j = false) : (cst c i j : Int) ≤ outw c U i := by
  unfold outw
  have h1 := sL_one (nd_n 8) (mem_n hj) (f := fun q => if q = j then (cst c i j : Int) else 0) (fun q _ hq => if_neg hq)
  have h2 : sL (fun q => if q = j then (cst c i j : Int) else 0) (List.range 8) ≤ sL (fun j => if U j then 0 else (cst c i j : Int)) (List.range 8) := sL_mono (fun q _ => by
    by_cases hq : q = j
    · subst hq; rw [if_pos rfl, h]; exact Int.le_refl _
    · rw [if_neg hq]; split <;> omega)
  rw [h1, if_pos rfl] at h2; exact h2
theorem ul8 (ok : okC c) (hU : ∀ i, U i = true → i < cn c) : (ul U (cn c)).length ≤ 8 := Nat.le_trans (ul_len U _) ok.1
theorem un_U (ok : okC c) (hU : ∀ i, U i = true → i < cn c) {r : Nat} (h : r < (ul U (cn c)).length) : un (ul U (cn c)) r < cn c ∧ U (un (ul U (cn c)) r) = true := ul_mem.mp (un_mem h)
theorem RB_row (ok : okC c) (hU : ∀ i, U i = true → i < cn c) {r : Nat} (hr : r < (ul U (cn c)).length) : sL (RB c (ul U (cn c)) b r) (List.range (ul U (cn c)).length) = outw c U (un (ul U (cn c)) r) := by
  have h8 := ul8 ok hU
  have h1 : sL (RB c (ul U (cn c)) b r) (List.range (ul U (cn c)).length) = sL (fun q => (if r = q then (cdiv c (un (ul U (cn c)) r) : Int) else 0) - cst c (un (ul U (cn c)) r) (un (ul U (cn c)) q)) (List.range (ul U (cn c)).length) := sL_congr (fun q hq => RB_i (List.mem_range.mp hq) h8)
  have hu := (un_U ok hU hr).1
  have h2 := sL_parts ok.1 hU (fun j => (cst c (un (ul U (cn c)) r) j : Int))
  have h3 := cst_sum ok (show un (ul U (cn c)) r < 8 by have := ok.1; omega)
  rw [sL_range, h3] at h2
  rw [h1, sL_sub, sL_diag hr]
  unfold outw
  omega
theorem RB_dom (ok : okC c) (hU : ∀ i, U i = true → i < cn c) : Dom (ul U (cn c)).length 1 (RB c (ul U (cn c)) b) := by
  have h8 := ul8 ok hU
  refine ⟨fun i j hi hj hne => ?_, fun i hi => ?_, fun i hi => ?_⟩
  · rw [RB_i hj h8, if_neg hne]; omega
  · rw [RB_row ok hU hi]
    unfold outw
    have := sL_mono (l := List.range 8) (f := fun _ => 0) (g := fun j => if U j then 0 else (cst c (un (ul U (cn c)) i) j : Int)) (fun j _ => by split <;> omega)
    rw [sL_0 (f := fun _ => 0) (fun _ _ => rfl)] at this
    exact this
  · rw [RB_i hi h8, if_pos rfl]
    have := cdiv_le ok (un (ul U (cn c)) i)
    omega
theorem RB_wts (ok : okC c) (hU : ∀ i, U i = true → i < cn c) (h : LK c U) : ∃ w : Nat → Int, (∀ j, 0 < w j) ∧ Wts (ul U (cn c)).length w (RB c (ul U (cn c)) b) := by
  obtain ⟨K, rk, hK, hr⟩ := h
  have h8 := ul8 ok hU
  refine wts_of (RB_dom ok hU) (K := K) (rk := fun q => rk (un (ul U (cn c)) q)) (fun q => hK _) (fun i hi => ?_)
  obtain ⟨hu1, hu2⟩ := un_U ok hU hi
  obtain ⟨t, ht, hc, hlt⟩ := hr _ hu2
  cases hUt : U t
  · left
    rw [RB_row ok hU hi]
    have := outw_get (c := c) (i := un (ul U (cn c)) i) (show t < 8 by have := ok.1; omega) hUt
    omega
  · right
    obtain ⟨q, hq, e⟩ := un_of (ul_mem.mpr ⟨ht, hUt⟩)
    have hqi : q ≠ i := fun z => by
      subst z
      rw [e] at hlt; omega
    refine ⟨q, hq, hqi, ?_, by show rk (un _ q) < rk (un _ i); rw [e]; exact hlt⟩
    rw [RB_i hq h8, if_neg (Ne.symm hqi), e]; omega
theorem RB_lim (ok : okC c) (hU : ∀ i, U i = true → i < cn c) (hL : LK c U) : ∀ p, p ≤ (ul U (cn c)).length → 0 < dd (ul U (cn c)).length (RB c (ul U (cn c)) b) p ∧ dd (ul U (cn c)).length (RB c (ul U (cn c)) b) p ≤ 10 ^ p ∧ ∀ i j, i < (ul U (cn c)).length → j < (ul U (cn c)).length → -(10 * dd (ul U (cn c)).length (RB c (ul U (cn c)) b) p) ≤ MM (ul U (cn c)).length (RB c (ul U (cn c)) b) p i j ∧ MM (ul U (cn c)).length (RB c (ul U (cn c)) b) p i j ≤ 10 * dd (ul U (cn c)).length (RB c (ul U (cn c)) b) p := by
  intro p hp
  obtain ⟨w, hw, hW⟩ := RB_wts (b := b) ok hU hL
  obtain ⟨h1, h2, _⟩ := dom_all (RB_dom ok hU) hw hW p hp
  have h3 := dd_le (RB_dom ok hU) hw hW (tr := fun _ => false) (fun k hk ht j hj => absurd ht (by decide)) p hp
  exact ⟨h1, Int.le_trans h3 (pow_le_i (tc_le _ p)), fun i j hi hj => dom_bd h2 h1 hi hj⟩
theorem RB_run (ok : okC c) (hU : ∀ i, U i = true → i < cn c) (hL : LK c U) {X : Int} (hX0 : ∀ p i j, p < (ul U (cn c)).length → i < (ul U (cn c)).length → (ul U (cn c)).length ≤ j → j < 8 → MM (ul U (cn c)).length (RB c (ul U (cn c)) b) (p + 1) i j = 0) (hX : ∀ p i, p < (ul U (cn c)).length → i < (ul U (cn c)).length → -X ≤ MM (ul U (cn c)).length (RB c (ul U (cn c)) b) (p + 1) i 8 ∧ MM (ul U (cn c)).length (RB c (ul U (cn c)) b) (p + 1) i 8 ≤ X) (hX2 : 10 ^ (ul U (cn c)).length * X < 2 ^ 63) : (∀ p, p ≤ (ul U (cn c)).length → 0 < dd (ul U (cn c)).length (RB c (ul U (cn c)) b) p ∧ in64 (dd (ul U (cn c)).length (RB c (ul U (cn c)) b) p)) ∧ ∀ p i j, p < (ul U (cn c)).length → i < (ul U (cn c)).length → j < 9 → i ≠ p → in64 (dd (ul U (cn c)).length (RB c (ul U (cn c)) b) p * MM (ul U (cn c)).length (RB c (ul U (cn c)) b) (p + 1) i j) := by
  have h8 := ul8 ok hU
  have hlim := RB_lim (b := b) ok hU hL
  generalize hl : (ul U (cn c)).length = n at *
  have t8 : ∀ p, p ≤ n → (10 : Int) ^ p ≤ 10 ^ 8 := fun p hp => pow_le_i (by omega)
  refine ⟨fun p hp => ?_, fun p i j hp hi hj _ => ?_⟩
  · obtain ⟨h1, h2, _⟩ := hlim p hp
    have := t8 p hp
    exact ⟨h1, by unfold in64; omega⟩
  · obtain ⟨h1, h2, _⟩ := hlim p (by omega)
    obtain ⟨g1, g2, g3⟩ := hlim (p + 1) (by omega)
    by_cases h9 : j = 8
    · subst h9
      obtain ⟨x1, x2⟩ := hX p i hp hi
      have := mul_bd (Int.le_of_lt h1) (Int.le_trans h2 (pow_le_i (show p ≤ n by omega))) x1 x2
      unfold in64; omega
    · by_cases hjn : j < n
      · obtain ⟨x1, x2⟩ := g3 i j hi hjn
        have e1 := t8 p (by omega)
        have e2 := t8 (p + 1) (by omega)
        have := mul_bd (X := 10 ^ 8) (Y := 10 ^ 9) (Int.le_of_lt h1) (by omega) (show -(10 ^ 9) ≤ MM n (RB c (ul U (cn c)) b) (p + 1) i j by omega) (by omega)
        unfold in64; omega
      · rw [hX0 p i j hp hi (by omega) (by omega), Int.mul_zero]
        unfold in64; omega
end RS
/-- a column of zeros stays one -/
theorem MM_zero {n : Nat} {A : Nat → Nat → Int} {j : Nat} (h : ∀ i, i < n → A i j = 0) {k i : Nat} (hi : i < n) : MM n A k i j = 0 := by
  unfold MM
  exact dt_0col (nd_n n) _ (mem_n hi) _ (fun r hr => h r (List.mem_range.mp hr))
theorem RB_zero {c : CH} {l : List Nat} {b : Nat → Int} (hl : l.length ≤ 8) {j : Nat} (h1 : l.length ≤ j) (h2 : j < 8) {k i : Nat} (hi : i < l.length) : MM l.length (RB c l b) k i j = 0 := MM_zero (fun r hr => by
  rw [RB_q (by omega)]
  unfold RA
  rw [if_neg (show ¬ r = j by omega), if_neg (by omega)]; rfl) hi
