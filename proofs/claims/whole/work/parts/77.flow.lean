/-! ===== the flow of a component ===== -/
/-- states that all lead to one another and nowhere else -/
def BC (c : CH) (S : Nat → Bool) : Prop := (∀ i, S i = true → i < cn c) ∧ (∀ i j, S i = true → 0 < cst c i j → j < cn c → S j = true) ∧ ∀ i j, S i = true → S j = true → rch c i j = true
theorem rch_can {c : CH} {F G : Nat → Bool} {i j : Nat} (hF : ∀ s, s < cn c → F s = true) (hi : i < cn c) (hj : G j = true) (h : rch c i j = true) : can c F G i = true := by
  refine can_iff.mpr ⟨fun S h1 h2 => ?_, hi⟩
  cases hS : S i
  · have h3 := (rch_iff.mp h).1 (fun s => !S s) (by rw [hS]; rfl) (fun a b ha hb hSa hsuc => by
      cases hSb : S b
      · show (!S b) = true; rw [hSb]; rfl
      · have := h2 a b ha hb (hF a ha) hSb hsuc
        dsimp only at hSa
        rw [this] at hSa; exact absurd hSa (by decide))
    skip
    rw [h1 j hj] at h3; exact absurd h3 (by decide)
  · rfl
def lessS (S : Nat → Bool) (l i : Nat) : Bool := S i && !(i == l)
theorem lessS_iff {S : Nat → Bool} {l i : Nat} : lessS S l i = true ↔ S i = true ∧ i ≠ l := by unfold lessS; simp
theorem less_lk {c : CH} (ok : okC c) {S : Nat → Bool} (h : BC c S) {l : Nat} (hl : S l = true) : LK c (lessS S l) := LK_of (F := allS c) (G := fun j => j == l) ok (fun b hb => by
  have : b = l := by simpa using hb
  rw [this]; exact h.1 l hl) (fun s hs => by
  obtain ⟨h1, h2⟩ := lessS_iff.mp hs
  exact ⟨rch_can (fun t ht => by unfold allS; simp [ht]) (h.1 s h1) (j := l) (by simp) (h.2.2 s l h1 hl), by simp [h2]⟩)
/-- the class's equations of a flow -/
def FA (c : CH) (S : Nat → Bool) (l : Nat) : Nat → Nat → Int := fun i j => if j = 8 then (if i = l then 1 else 0) else if lessS S l i then (if i = j then (cdiv c i : Int) else 0) - (if S j then (cst c j i : Int) else 0) else if i = j then 1 else 0
section FL
variable {c : CH} {S : Nat → Bool} {l : Nat}
theorem FA_8 {i : Nat} : FA c S l i 8 = if i = l then 1 else 0 := if_pos rfl
theorem FA_j {i j : Nat} (hj : j < 8) : FA c S l i j = if lessS S l i then (if i = j then (cdiv c i : Int) else 0) - (if S j then (cst c j i : Int) else 0) else if i = j then 1 else 0 := if_neg (by omega)
theorem FA_off {i j : Nat} (hj : j < 8) (hne : i ≠ j) : FA c S l i j ≤ 0 := by
  rw [FA_j hj, if_neg hne, if_neg hne]
  split
  · split <;> omega
  · exact Int.le_refl _
theorem FA_diag (ok : okC c) {i : Nat} (hi : i < 8) : FA c S l i i ≤ 10 ∧ -10 ≤ FA c S l i i := by
  have h1 := cdiv_le ok i
  have h2 := cst_lt ok i i
  rw [FA_j hi, if_pos rfl, if_pos rfl]
  split
  · split <;> omega
  · omega
theorem FA_triv {k : Nat} (h : (!lessS S l k) = true) (j : Nat) (hj : j < 8) : FA c S l k j = if k = j then 1 else 0 := by
  have : lessS S l k = false := by cases hU : lessS S l k; rfl; rw [hU] at h; exact absurd h (by decide)
  rw [FA_j hj, this]; rfl
theorem sL_nn {f : Nat → Int} {J : List Nat} (h : ∀ j, j ∈ J → 0 ≤ f j) : 0 ≤ sL f J := by
  have := sL_mono (l := J) (f := fun _ => 0) (g := f) h
  rw [sL_0 (f := fun _ => 0) (fun _ _ => rfl)] at this
  exact this
theorem FA_wts (ok : okC c) (h : BC c S) (hl : S l = true) : ∃ u : Nat → Int, (∀ j, 0 < u j) ∧ ∀ j, j < 8 → 0 < sL (fun i => u i * FA c S l i j) (List.range 8) := by
  have hl8 : l < 8 := by have := h.1 l hl; have := ok.1; omega
  obtain ⟨w, hw, hW⟩ := UA_wts (b := fun _ => 0) ok (less_lk ok h hl)
  have hB : 0 ≤ sL w (List.range 8) := sL_nn (fun j _ => Int.le_of_lt (hw j))
  refine ⟨fun i => if i = l then 10 * sL w (List.range 8) + 1 else w i, fun j => ?_, fun j hj => ?_⟩
  · dsimp only
    split
    · omega
    · exact hw j
  · by_cases hjU : lessS S l j = true
    · -- a member: as in the rows of a balance
      obtain ⟨hSj, hjl⟩ := lessS_iff.mp hjU
      have h1 := hW j hj
      refine Int.lt_of_lt_of_le h1 (sL_mono (fun i hi => ?_))
      have hi8 := List.mem_range.mp hi
      rw [UA_j hi8, hjU, if_pos rfl, FA_j hj, hSj, if_pos rfl]
      have c0 : (0 : Int) ≤ (cst c j i : Int) * w i := Int.mul_nonneg (by omega) (Int.le_of_lt (hw i))
      by_cases hij : i = j
      · subst hij
        dsimp only
        rw [hjU, if_pos rfl, if_pos rfl, if_neg hjl]
        skip
        skip
        exact Int.le_of_eq (Int.mul_comm _ _)
      · rw [if_neg (Ne.symm hij), if_neg hij, if_neg hij]
        dsimp only
        by_cases hiU : lessS S l i = true
        · rw [if_pos hiU, if_neg (lessS_iff.mp hiU).2]
          exact Int.le_of_eq (Int.mul_comm _ _)
        · rw [if_neg hiU, Int.mul_zero]
          grind
    · by_cases hjl : j = l
      · subst hjl
        have h1 : sL (fun i => if i = j then 10 * sL w (List.range 8) + 1 else - (9 * w i)) (List.range 8) ≤ sL (fun i => (if i = j then 10 * sL w (List.range 8) + 1 else w i) * FA c S j i j) (List.range 8) := sL_mono (fun i hi => by
          by_cases hij : i = j
          · subst hij
            have e : FA c S i i i = 1 := by
              rw [FA_triv (by have : lessS S i i = false := by unfold lessS; simp
                              rw [this]; rfl) i hj]; exact if_pos rfl
            rw [if_pos rfl, if_pos rfl, e]; omega
          · rw [if_neg hij, if_neg hij, FA_j hj, if_neg hij, hl, if_pos rfl]
            have c9 := cst_lt ok j i
            have c0 : (cst c j i : Int) * w i ≤ 9 * w i := Int.mul_le_mul_of_nonneg_right (by omega) (Int.le_of_lt (hw i))
            have w0 := hw i
            split
            · grind
            · omega)
        have h2 : sL (fun i => if i = j then 10 * sL w (List.range 8) + 1 else - (9 * w i)) (List.range 8) = (10 * sL w (List.range 8) + 1 + 9 * w j) + sL (fun i => -9 * w i) (List.range 8) := by
          have a1 := sL_add (fun i => if i = j then 10 * sL w (List.range 8) + 1 + 9 * w j else 0) (fun i => -9 * w i) (List.range 8)
          have a2 := sL_one (nd_n 8) (mem_n hj) (f := fun i => if i = j then 10 * sL w (List.range 8) + 1 + 9 * w j else 0) (fun i _ hi => if_neg hi)
          rw [a2, if_pos rfl] at a1
          rw [← a1]
          exact sL_congr (fun i _ => by
            by_cases hij : i = j
            · subst hij; rw [if_pos rfl, if_pos rfl]; omega
            · rw [if_neg hij, if_neg hij]; omega)
        rw [sL_mul] at h2
        have w0 := hw j
        refine Int.lt_of_lt_of_le ?_ h1
        omega
      · have hSj : S j = false := by
          cases hs : S j
          · rfl
          · exact absurd (lessS_iff.mpr ⟨hs, hjl⟩) hjU
        have e : ∀ i, i ∈ List.range 8 → i ≠ j → (fun i => (if i = l then 10 * sL w (List.range 8) + 1 else w i) * FA c S l i j) i = 0 := fun i _ hij => by
          dsimp only
          rw [FA_j hj, if_neg hij, if_neg hij, hSj]
          simp
        rw [sL_one (nd_n 8) (mem_n hj) e]
        skip
        have hno : lessS S l j = false := by cases hx : lessS S l j; rfl; exact absurd hx hjU
        rw [if_neg hjl, FA_triv (by rw [hno]; rfl) j hj, if_pos rfl]
        have := hw j
        omega
theorem sN_le {f g : Nat → Nat} : ∀ {J : List Nat}, (∀ j, j ∈ J → f j ≤ g j) → sN f J ≤ sN g J
  | [], _ => Nat.le_refl _
  | a :: J, h => Nat.add_le_add (h a List.mem_cons_self) (sN_le (fun j hj => h j (List.mem_cons_of_mem _ hj)))
theorem sN_range (f : Nat → Nat) : ∀ n, sN f (List.range n) = sumN f n := by
  have app : ∀ l m : List Nat, sN f (l ++ m) = sN f l + sN f m := fun l m => by
    induction l with
    | nil => show sN f m = 0 + _; omega
    | cons a l ih => show f a + sN f (l ++ m) = f a + sN f l + sN f m; rw [ih]; omega
  intro n
  induction n with
  | zero => rfl
  | succ n ih => rw [List.range_succ, app, ih]; rfl
theorem FA_nrm (ok : okC c) (h : BC c S) (hl : S l = true) (q : Nat) (hq : q < 8 ∨ q = 8) : nrm (List.range 8) (colA (FA c S l) q) ≤ 20 := by
  unfold nrm
  rw [sN_range]
  have one : ∀ q, sumN (fun i => if i = q then 1 else 0) 8 ≤ 1 := fun q => by
    have key : ∀ n, sumN (fun i => if i = q then 1 else 0) n ≤ (if q < n then 1 else 0) := fun n => by
      induction n with
      | zero => exact Nat.zero_le _
      | succ n ih =>
        rw [sumN_s]
        skip
        split at ih <;> split <;> split <;> omega
    have := key 8
    split at this <;> omega
  rcases hq with hq | rfl
  · by_cases hSq : S q = true
    · have hqn := h.1 q hSq
      have b1 : sumN (fun r => (colA (FA c S l) q r).natAbs) 8 ≤ sumN (fun r => (if r = q then 10 else 0) + cst c q r) 8 := sumN_le2 (fun r hr => by
        show (FA c S l r q).natAbs ≤ _
        have d1 := cdiv_le ok r
        rw [FA_j hq, hSq]
        split
        · rw [if_pos rfl]
          split <;> omega
        · split <;> omega)
      have b2 : sumN (fun r => (if r = q then 10 else 0) + cst c q r) 8 = sumN (fun r => if r = q then 10 else 0) 8 + sumN (fun r => cst c q r) 8 := sumN_add
      have b3 : sumN (fun r => if r = q then 10 else 0) 8 = 10 * sumN (fun r => if r = q then 1 else 0) 8 := by
        rw [← sumN_mul]
        exact sumN_congr (fun r _ => by split <;> rfl)
      have b4 := cst_sum ok hq
      have b5 := cdiv_le ok q
      have b6 := one q
      have b7 : sumN (fun r => cst c q r) 8 = cdiv c q := b4
      omega
    · have hSq2 : S q = false := by cases hs : S q; rfl; exact absurd hs hSq
      have hno : lessS S l q = false := by unfold lessS; rw [hSq2]; rfl
      have b1 : sumN (fun r => (colA (FA c S l) q r).natAbs) 8 ≤ sumN (fun r => if r = q then 1 else 0) 8 := sumN_le2 (fun r hr => by
        show (FA c S l r q).natAbs ≤ _
        by_cases hrq : r = q
        · subst hrq
          rw [FA_triv (by rw [hno]; rfl) r hq, if_pos rfl, if_pos rfl]; decide
        · rw [FA_j hq, if_neg hrq, if_neg hrq, hSq2]
          simp)
      have := one q
      omega
  · have b1 : sumN (fun r => (colA (FA c S l) 8 r).natAbs) 8 ≤ sumN (fun r => if r = l then 1 else 0) 8 := sumN_le2 (fun r hr => by
      show (FA c S l r 8).natAbs ≤ _
      rw [FA_8]
      split <;> simp)
    have := one l
    omega
/-- what a run of the elimination needs -/
theorem FA_run (ok : okC c) (h : BC c S) (hl : S l = true) : (∀ p, p ≤ 8 → 0 < dd 8 (FA c S l) p ∧ dd 8 (FA c S l) p ≤ 10 ^ 8 ∧ in64 (dd 8 (FA c S l) p)) ∧ ∀ p i j, p < 8 → i < 8 → j < 9 → i ≠ p → in64 (dd 8 (FA c S l) p * MM 8 (FA c S l) (p + 1) i j) := by
  obtain ⟨u, hu, hU⟩ := FA_wts ok h hl
  have hall := col_all (n := 8) (A := FA c S l) hu (fun i j _ hj hne => FA_off hj hne) (fun i hi => (FA_diag ok hi).1) hU
  have hdd := col_dd (n := 8) (A := FA c S l) hu (fun i j _ hj hne => FA_off hj hne) (fun i hi => (FA_diag ok hi).1) hU (tr := fun k => !lessS S l k) (fun k _ ht j hj => FA_triv ht j hj)
  have hd8 : ∀ p, p ≤ 8 → dd 8 (FA c S l) p ≤ 10 ^ 8 := fun p hp => Int.le_trans (hdd p hp) (pow_le_i (Nat.le_trans (tc_le _ p) hp))
  refine ⟨fun p hp => ?_, fun p i j hp hi hj _ => ?_⟩
  · have h1 := (hall p hp).1
    have h2 := hd8 p hp
    exact ⟨h1, h2, by unfold in64; omega⟩
  · have h1 := (hall p (by omega)).1
    have h2 := hd8 p (by omega)
    have h3 := MM_bd (n := 8) (A := FA c S l) (b := 20) (by decide) (p + 1) i j (fun q hq => FA_nrm ok h hl q (by omega))
    have e20 : (20 : Nat) ^ 8 = 25600000000 := by decide
    have := mul_bd (X := 10 ^ 8) (Y := 25600000000) (m := MM 8 (FA c S l) (p + 1) i j) (Int.le_of_lt h1) h2 (by omega) (by omega)
    unfold in64; omega
end FL
