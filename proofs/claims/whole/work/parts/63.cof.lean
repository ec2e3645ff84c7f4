/-! ===== weights out of ranks; systems whose columns are outweighed; norms; cofactors ===== -/
section DOM2
variable {n : Nat} {A : Nat → Nat → Int}
theorem wts_of (h0 : Dom n 1 A) {K : Nat} {rk : Nat → Nat} (hK : ∀ j, rk j ≤ K) (h : ∀ i, i < n → 0 < sL (A i) (List.range n) ∨ ∃ j, j < n ∧ j ≠ i ∧ A i j ≤ -1 ∧ rk j < rk i) : ∃ w : Nat → Int, (∀ j, 0 < w j) ∧ Wts n w A := by
  have ep : ∀ j, (0 : Int) < 20 ^ (K - rk j) := fun j => Int.pow_pos (by decide)
  have ek : ∀ j, (20 : Int) ^ (K - rk j) ≤ 20 ^ K := fun j => by
    have h1 : (20 : Nat) ^ (K - rk j) ≤ 20 ^ K := Nat.pow_le_pow_right (by decide) (Nat.sub_le _ _)
    have h2 : ((20 ^ (K - rk j) : Nat) : Int) ≤ ((20 ^ K : Nat) : Int) := by exact_mod_cast h1
    rw [Int.natCast_pow, Int.natCast_pow] at h2; exact h2
  have e1 : (20 : Int) ^ (K + 1) = 20 * 20 ^ K := by rw [Int.pow_succ]; grind
  refine ⟨fun j => 20 ^ (K + 1) - 20 ^ (K - rk j), fun j => ?_, fun i hi => ?_⟩
  · have := ep j; have := ek j
    show (0 : Int) < 20 ^ (K + 1) - 20 ^ (K - rk j)
    rw [e1]; omega
  · have h1 := row_comb (l := List.range n) (d := 1) (p := 1) (q := 1) (f' := fun j => A i j * (20 ^ (K + 1) - 20 ^ (K - rk j))) (f := fun j => A i j * 20 ^ (K + 1)) (g := fun j => A i j * 20 ^ (K - rk j)) (x := fun _ => 1) (fun j _ => by grind)
    have e : ∀ f : Nat → Int, sL (fun j => f j * 1) (List.range n) = sL f (List.range n) := fun f => sL_congr (fun j _ => Int.mul_one _)
    rw [e, e, e] at h1
    have h2 : sL (fun j => A i j * 20 ^ (K + 1)) (List.range n) = 20 ^ (K + 1) * sL (A i) (List.range n) := by
      rw [← sL_mul]; exact sL_congr (fun j _ => Int.mul_comm _ _)
    rw [h2] at h1
    have hn0 := h0.2.1 i hi
    have off : ∀ j, j ∈ List.range n → j ≠ i → A i j * 20 ^ (K - rk j) ≤ 0 := fun j hj hne => by
      have := i_np (Int.le_of_lt (ep j)) (h0.1 i j hi (List.mem_range.mp hj) (Ne.symm hne))
      rw [Int.mul_comm] at this; exact this
    have hdi := Int.mul_le_mul_of_nonneg_right (h0.2.2 i hi) (Int.le_of_lt (ep i))
    rcases h i hi with h3 | ⟨j, hj, hne, haj, hr⟩
    · have h4 := sL_le1 (nd_n n) (mem_n hi) off
      have h5 := ek i
      have h6 := ep i
      have h7 := Int.mul_le_mul_of_nonneg_left (show 1 ≤ sL (A i) (List.range n) by omega) (show (0 : Int) ≤ 20 ^ (K + 1) by omega)
      show 0 < sL (fun j => A i j * (20 ^ (K + 1) - 20 ^ (K - rk j))) (List.range n)
      omega
    · have h4 := sL_le2 (nd_n n) (mem_n hi) (mem_n hj) (Ne.symm hne) (f := fun j => A i j * 20 ^ (K - rk j)) (fun q hq hqi => off q hq hqi)
      have h6 := ep i
      have h7 := Int.mul_nonneg (show (0 : Int) ≤ 20 ^ (K + 1) by have := ek i; omega) hn0
      have h8 := Int.mul_le_mul_of_nonneg_right haj (Int.le_of_lt (ep j))
      have h9 : (20 : Int) * 20 ^ (K - rk i) ≤ 20 ^ (K - rk j) := by
        have h10 : (20 : Nat) ^ (K - rk i + 1) ≤ 20 ^ (K - rk j) := Nat.pow_le_pow_right (by decide) (by have := hK i; omega)
        have h11 : ((20 ^ (K - rk i + 1) : Nat) : Int) ≤ ((20 ^ (K - rk j) : Nat) : Int) := by exact_mod_cast h10
        rw [Int.natCast_pow, Int.natCast_pow, Int.pow_succ, Int.mul_comm] at h11; exact h11
      show 0 < sL (fun j => A i j * (20 ^ (K + 1) - 20 ^ (K - rk j))) (List.range n)
      omega
def Uk (n : Nat) (A : Nat → Nat → Int) (u : Nat → Int) (k j : Nat) : Int := sL (fun i => if i < k then 0 else u i * MM n A k i j) (List.range n)
theorem col_all {u : Nat → Int} (hp : ∀ j, 0 < u j) (h1 : ∀ i j, i < n → j < n → i ≠ j → A i j ≤ 0) (h2 : ∀ i, i < n → A i i ≤ 10) (h3 : ∀ j, j < n → 0 < sL (fun i => u i * A i j) (List.range n)) : ∀ k, k ≤ n → 0 < dd n A k ∧ (∀ i j, k ≤ i → k ≤ j → i < n → j < n → i ≠ j → MM n A k i j ≤ 0) ∧ (∀ i, k ≤ i → i < n → MM n A k i i ≤ 10 * dd n A k) ∧ (∀ j, k ≤ j → j < n → 0 < Uk n A u k j)
  | 0, _ => by
    rw [dd_0]
    refine ⟨by decide, fun i j _ _ hi hj hne => ?_, fun i _ hi => ?_, fun j _ hj => ?_⟩
    · rw [MM_0 hi]; exact h1 i j hi hj hne
    · rw [MM_0 hi]; exact h2 i hi
    · have : Uk n A u 0 j = sL (fun i => u i * A i j) (List.range n) := sL_congr (fun i hi => by
        rw [if_neg (by omega), MM_0 (List.mem_range.mp hi)])
      rw [this]; exact h3 j hj
  | k + 1, hk => by
    obtain ⟨hd, hO, hG, hU⟩ := col_all hp h1 h2 h3 k (by omega)
    have hkn : k < n := hk
    have hpiv : 0 < MM n A k k k := by
      have a1 := hU k (Nat.le_refl _) hkn
      have a2 := sL_le1 (nd_n n) (mem_n hkn) (f := fun i => if i < k then 0 else u i * MM n A k i k) (fun i hi hne => by
        split
        · exact Int.le_refl _
        · exact i_np (Int.le_of_lt (hp i)) (hO i k (by omega) (Nat.le_refl _) (List.mem_range.mp hi) hkn hne))
      rw [if_neg (Nat.lt_irrefl k)] at a2
      have a3 : 0 < u k * MM n A k k k := Int.lt_of_lt_of_le a1 a2
      rw [Int.mul_comm] at a3
      exact i_pos a3 (hp k)
    rw [dd_s]
    refine ⟨hpiv, fun i j hi hj hin hjn hne => ?_, fun i hi hin => ?_, fun j hj hjn => ?_⟩
    · have a1 := MM_s (A := A) (j := j) hkn hin (show i ≠ k by omega)
      have a2 := i_np (Int.le_of_lt hpiv) (hO i j (by omega) (by omega) hin hjn hne)
      have a3 := i_nn (hO i k (by omega) (Nat.le_refl _) hin hkn (by omega)) (hO k j (Nat.le_refl _) (by omega) hkn hjn (by omega))
      exact i_le hd (by rw [a1, Int.mul_zero]; omega)
    · have a1 := MM_s (A := A) (j := i) hkn hin (show i ≠ k by omega)
      have a2 := Int.mul_le_mul_of_nonneg_left (hG i (by omega) hin) (Int.le_of_lt hpiv)
      have a3 := i_nn (hO i k (by omega) (Nat.le_refl _) hin hkn (by omega)) (hO k i (Nat.le_refl _) (by omega) hkn hin (by omega))
      refine i_le hd ?_
      have e : dd n A k * (10 * MM n A k k k) = MM n A k k k * (10 * dd n A k) := by grind
      rw [a1, e]; omega
    · have a1 := row_comb1 (l := List.range n) (d := dd n A k) (p := MM n A k k k) (q := MM n A k k j) (f' := fun i => if i < k + 1 then 0 else u i * MM n A (k + 1) i j) (f := fun i => if i < k then 0 else u i * MM n A k i j) (g := fun i => if i < k then 0 else u i * MM n A k i k) (fun i hi => by
        by_cases c1 : i < k
        · rw [if_pos (by omega), if_pos c1, if_pos c1]; omega
        · by_cases c2 : i = k
          · subst c2
            rw [if_pos (by omega), if_neg c1, if_neg c1]; grind
          · rw [if_neg (by omega), if_neg c1, if_neg c1]
            have := MM_s (A := A) (j := j) hkn (List.mem_range.mp hi) c2
            have e : dd n A k * (u i * MM n A (k + 1) i j) = u i * (dd n A k * MM n A (k + 1) i j) := by grind
            rw [e, this]; grind)
      have a2 := Int.mul_pos hpiv (hU j (by omega) hjn)
      have a3 := i_np (Int.le_of_lt (hU k (Nat.le_refl _) hkn)) (hO k j (Nat.le_refl _) (by omega) hkn hjn (by omega))
      rw [Int.mul_comm] at a3
      unfold Uk at a2 a3 ⊢
      exact i_lt hd (by rw [a1, Int.mul_zero]; omega)
theorem col_dd {u : Nat → Int} (hp : ∀ j, 0 < u j) (h1 : ∀ i j, i < n → j < n → i ≠ j → A i j ≤ 0) (h2 : ∀ i, i < n → A i i ≤ 10) (h3 : ∀ j, j < n → 0 < sL (fun i => u i * A i j) (List.range n)) {tr : Nat → Bool} (ht : ∀ k, k < n → tr k = true → ∀ j, j < n → A k j = if k = j then 1 else 0) : ∀ k, k ≤ n → dd n A k ≤ 10 ^ tc tr k
  | 0, _ => by rw [dd_0]; exact Int.le_refl _
  | k + 1, hk => by
    have a1 := col_dd hp h1 h2 h3 ht k (by omega)
    have hall := col_all hp h1 h2 h3
    rw [dd_s]
    unfold tc
    split
    · rename_i htr
      have a2 := (triv_row hk (ht k hk htr) (fun q hq => (hall q hq).1) 0 k (by omega)).1 k hk
      rw [a2, if_pos rfl]; exact a1
    · have a2 := (hall k (by omega)).2.2.1 k (Nat.le_refl _) hk
      rw [Int.pow_succ]; omega
end DOM2
/-! norms of columns -/
def sN (f : Nat → Nat) : List Nat → Nat
  | [] => 0
  | a :: l => f a + sN f l
def nrm (rs : List Nat) (a : Col) : Nat := sN (fun r => (a r).natAbs) rs
def pl (N : Col → Nat) : List Col → Nat
  | [] => 1
  | a :: l => N a * pl N l
theorem pl_mono {N N' : Col → Nat} (h : ∀ a, N a ≤ N' a) : ∀ l, pl N l ≤ pl N' l
  | [] => Nat.le_refl _
  | a :: l => Nat.mul_le_mul (h a) (pl_mono h l)
theorem iot_bd (r : Nat) (N : Col → Nat) : ∀ (l : List Col) (F : List Col → Int) (K : Nat), (∀ l', (F l').natAbs ≤ K * pl N l') → (iot r l F).natAbs ≤ K * pl (fun a => (a r).natAbs + N a) l
  | [], _, _, _ => Nat.zero_le _
  | a :: l, F, K, h => by
    have h1 := iot_bd r N l (fun l' => F (a :: l')) (K * N a) (fun l' => by
      have := h (a :: l')
      rw [Nat.mul_assoc]; exact this)
    have h2 := h l
    have h3 : pl N l ≤ pl (fun a => (a r).natAbs + N a) l := pl_mono (fun a => Nat.le_add_left _ _) l
    have h4 : (a r * F l).natAbs ≤ (a r).natAbs * (K * pl (fun a => (a r).natAbs + N a) l) := by
      rw [Int.natAbs_mul]
      exact Nat.mul_le_mul_left _ (Nat.le_trans h2 (Nat.mul_le_mul_left K h3))
    show (a r * F l - iot r l (fun l' => F (a :: l'))).natAbs ≤ K * (((a r).natAbs + N a) * pl (fun a => (a r).natAbs + N a) l)
    have h5 : (a r * F l - iot r l (fun l' => F (a :: l'))).natAbs ≤ (a r * F l).natAbs + (iot r l (fun l' => F (a :: l'))).natAbs := by omega
    have h6 : K * (((a r).natAbs + N a) * pl (fun a => (a r).natAbs + N a) l) = (a r).natAbs * (K * pl (fun a => (a r).natAbs + N a) l) + K * N a * pl (fun a => (a r).natAbs + N a) l := by grind
    omega
theorem D_bd : ∀ (rs : List Nat) (l : List Col), (D rs l).natAbs ≤ pl (nrm rs) l
  | [], [] => Nat.le_refl _
  | [], _ :: _ => Nat.zero_le _
  | r :: rs, l => by
    have := iot_bd r (nrm rs) l (D rs) 1 (fun l' => by rw [Nat.one_mul]; exact D_bd rs l')
    rw [Nat.one_mul] at this; exact this
theorem pl_le {N : Col → Nat} {b : Nat} : ∀ {l : List Col}, (∀ a, a ∈ l → N a ≤ b) → pl N l ≤ b ^ l.length
  | [], _ => Nat.le_refl _
  | a :: l, h => by
    show N a * pl N l ≤ b ^ (l.length + 1)
    rw [Nat.pow_succ, Nat.mul_comm]
    exact Nat.mul_le_mul (pl_le (fun c hc => h c (List.mem_cons_of_mem _ hc))) (h a List.mem_cons_self)
theorem sN_unit (j : Nat) : ∀ (rs : List Nat), rs.Nodup → nrm rs (colE j) ≤ 1
  | [], _ => Nat.zero_le _
  | r :: rs, nd => by
    have h := List.nodup_cons.mp nd
    show (colE j r).natAbs + nrm rs (colE j) ≤ 1
    by_cases hr : r = j
    · subst hr
      have : nrm rs (colE r) = 0 := by
        have key : ∀ l : List Nat, r ∉ l → nrm l (colE r) = 0 := by
          intro l
          induction l with
          | nil => intro _; rfl
          | cons a l ih =>
            intro hn
            show (colE r a).natAbs + nrm l (colE r) = 0
            rw [ih (fun z => hn (List.mem_cons_of_mem _ z))]
            have : colE r a = 0 := if_neg (fun z => hn (by rw [z]; exact List.mem_cons_self))
            rw [this]; rfl
        exact key rs h.1
      rw [this]
      have : colE r r = 1 := if_pos rfl
      rw [this]; decide
    · have : colE j r = 0 := if_neg hr
      rw [this]
      have := sN_unit j rs h.2
      show 0 + _ ≤ 1
      omega
theorem MM_bd {n : Nat} {A : Nat → Nat → Int} {b : Nat} (hb1 : 1 ≤ b) (k i j : Nat) (hb : ∀ q, q < n ∨ q = j → nrm (List.range n) (colA A q) ≤ b) : (MM n A k i j).natAbs ≤ b ^ n := by
  unfold MM dt
  refine Nat.le_trans (D_bd _ _) ?_
  have h := pl_le (N := nrm (List.range n)) (b := b) (l := (List.range n).map (up (Bk A k) i (colA A j))) (fun a ha => by
    obtain ⟨q, hq, rfl⟩ := List.mem_map.mp ha
    unfold up
    split
    · exact hb j (Or.inr rfl)
    · unfold Bk
      split
      · exact hb q (Or.inl (List.mem_range.mp hq))
      · exact Nat.le_trans (sN_unit q _ (nd_n n)) hb1)
  rw [List.length_map, List.length_range] at h; exact h
/-! cofactors of a matrix whose rows add up to 0 -/
section COF
variable {J : List Nat} {L : Nat → Nat → Int}
def cof (J : List Nat) (L : Nat → Nat → Int) (j : Nat) : Int := dt J J (up (colA L) j (colE j))
theorem dt_0col (nd : J.Nodup) (rs : List Nat) {i : Nat} (hi : i ∈ J) (c : Nat → Col) {v : Col} (hv : ∀ r, r ∈ rs → v r = 0) : dt rs J (up c i v) = 0 := by
  have h1 := dt_lin rs nd hi c (c i) (c i) 0 0
  have h2 : dt rs J (up c i v) = dt rs J (up c i (fun r => 0 * c i r + 0 * c i r)) := dt_same (fun j _ r hr => by
    by_cases hj : j = i
    · subst hj; rw [up_s, up_s, hv r hr]; omega
    · rw [up_n _ _ hj, up_n _ _ hj])
  rw [h2, h1]; omega
theorem sing (nd : J.Nodup) (h0 : ∀ r, r ∈ J → sL (L r) J = 0) {i : Nat} (hi : i ∈ J) : dt J J (colA L) = 0 := by
  have h1 := dt_sum J nd hi (colA L) (fun _ => 1) (colA L) J
  have h2 := dt_0col nd J hi (colA L) (v := fun r => sL (fun j => 1 * colA L j r) J) (fun r hr => by
    rw [← h0 r hr]; exact sL_congr (fun j _ => Int.one_mul _))
  rw [h2, sL_one nd hi (fun j hj hne => by
    rw [dt_eq J nd hi hj (Ne.symm hne) (up (colA L) i (colA L j)) (by rw [up_s, up_n _ _ hne])]; omega), up_id] at h1
  omega
theorem cof_row (nd : J.Nodup) (h0 : ∀ r, r ∈ J → sL (L r) J = 0) {i j : Nat} (hi : i ∈ J) (hj : j ∈ J) : dt J J (up (colA L) i (colE j)) = cof J L j := by
  by_cases hij : i = j
  · subst hij; rfl
  · have h1 := dt_sum J nd hj (up (colA L) i (colE j)) (fun _ => 1) (colA L) J
    have h2 := dt_0col nd J hj (up (colA L) i (colE j)) (v := fun r => sL (fun q => 1 * colA L q r) J) (fun r hr => by
      rw [← h0 r hr]; exact sL_congr (fun q _ => Int.one_mul _))
    rw [h2, sL_two nd hj hi (Ne.symm hij) (fun q hq hqj hqi => by
      rw [dt_eq J nd hj hq (Ne.symm hqj) (up (up (colA L) i (colE j)) j (colA L q)) (by rw [up_s, up_n _ _ hqj, up_n _ _ hqi])]; omega)] at h1
    have e1 : up (up (colA L) i (colE j)) j (colA L j) = up (colA L) i (colE j) := by
      have : colA L j = up (colA L) i (colE j) j := (up_n _ _ (Ne.symm hij)).symm
      rw [this, up_id]
    have e2 : dt J J (up (up (colA L) i (colE j)) j (colA L i)) = - cof J L j := by
      rw [dt_swap J nd hi hj hij (colA L) (colE j) (colA L i), up_id]; rfl
    rw [e1, e2] at h1
    omega
/-- the cofactors stay as they are under the matrix -/
theorem cof_stay (nd : J.Nodup) (h0 : ∀ r, r ∈ J → sL (L r) J = 0) {t : Nat} (ht : t ∈ J) : sL (fun j => cof J L j * L j t) J = 0 := by
  have h1 := dt_sum J nd ht (colA L) (fun j => L j t) colE J
  have h2 : dt J J (up (colA L) t (fun r => sL (fun j => L j t * colE j r) J)) = dt J J (up (colA L) t (colA L t)) := dt_same (fun j _ r hr => by
    by_cases hj : j = t
    · subst hj
      rw [up_s, up_s, sL_one nd hr (fun q _ hq => by
        have : colE q r = 0 := if_neg (Ne.symm hq)
        rw [this]; omega)]
      have : colE r r = 1 := if_pos rfl
      rw [this, Int.mul_one]; rfl
    · rw [up_n _ _ hj, up_n _ _ hj])
  rw [h2, up_id, sing nd h0 ht] at h1
  rw [h1]
  exact sL_congr (fun j hj => by rw [cof_row nd h0 ht hj, Int.mul_comm])
/-! a row and a column less -/
def sg : List Nat → Int
  | [] => 1
  | _ :: l => - sg l
theorem sg_sq : ∀ l, sg l * sg l = 1
  | [] => rfl
  | a :: l => by show - sg l * - sg l = 1; rw [Int.neg_mul_neg]; exact sg_sq l
theorem row_out (j : Nat) (Q : List Nat) : ∀ (P : List Nat) (l : List Col), D (P ++ j :: Q) l = sg P * D (j :: (P ++ Q)) l
  | [], l => (Int.one_mul _).symm
  | s :: P, l => by
    have h1 : iot s l (D (P ++ j :: Q)) = sg P * iot s l (fun l' => iot j l' (D (P ++ Q))) := by
      have h2 := iot_lin s (sg P) 0 l (fun l' => iot j l' (D (P ++ Q))) (fun _ => 0)
      have e : D (P ++ j :: Q) = fun l' => sg P * iot j l' (D (P ++ Q)) + 0 * 0 := by
        funext l'; rw [row_out j Q P l']
        show sg P * iot j l' (D (P ++ Q)) = _
        omega
      rw [e, h2]; omega
    have h3 := iot_anti s j l (D (P ++ Q))
    show iot s l (D (P ++ j :: Q)) = - sg P * iot j l (fun l' => iot s l' (D (P ++ Q)))
    rw [h1]
    have : iot s l (fun l' => iot j l' (D (P ++ Q))) = - iot j l (fun l' => iot s l' (D (P ++ Q))) := by omega
    rw [this]; grind
theorem col_out {F : List Col → Int} (hF : Alt F) (c : Nat → Col) (e : Col) (Q : List Col) : ∀ (P : List Nat) (pre : List Col), F (pre ++ (P.map c ++ e :: Q)) = sg P * F (pre ++ e :: (P.map c ++ Q))
  | [], pre => (Int.one_mul _).symm
  | s :: P, pre => by
    have h1 := col_out hF c e Q P (pre ++ [c s])
    simp only [List.append_assoc, List.singleton_append] at h1
    show F (pre ++ c s :: (P.map c ++ e :: Q)) = - sg P * F (pre ++ e :: c s :: (P.map c ++ Q))
    rw [h1, hF pre (c s) e]; grind
theorem D_zcol (z : Col) : ∀ (R : List Nat), (∀ r, r ∈ R → z r = 0) → ∀ l, D R (z :: l) = 0
  | [], _, _ => rfl
  | r :: R, h, l => by
    show z r * D R l - iot r l (fun l' => D R (z :: l')) = 0
    rw [h r List.mem_cons_self, iot_0 r l (fun l' => D_zcol z R (fun q hq => h q (List.mem_cons_of_mem _ hq)) l')]; omega
theorem cof_less {P Q : List Nat} {j : Nat} (hP : j ∉ P) (hQ : j ∉ Q) : cof (P ++ j :: Q) L j = dt (P ++ Q) (P ++ Q) (colA L) := by
  unfold cof
  rw [dt_at _ P Q (colA L) j _ hP hQ, row_out j Q P]
  have h1 := col_out (D_alt (j :: (P ++ Q))) (colA L) (colE j) (Q.map (colA L)) P []
  rw [List.nil_append, List.nil_append] at h1
  rw [h1, ← Int.mul_assoc, sg_sq, Int.one_mul]
  show colE j j * D (P ++ Q) (P.map (colA L) ++ Q.map (colA L)) - iot j (P.map (colA L) ++ Q.map (colA L)) (fun l => D (P ++ Q) (colE j :: l)) = _
  rw [iot_0 j _ (fun l => D_zcol (colE j) (P ++ Q) (fun r hr => if_neg (fun e => by
    subst e
    rcases List.mem_append.mp hr with h | h
    · exact hP h
    · exact hQ h)) l)]
  have : colE j j = 1 := if_pos rfl
  unfold dt
  rw [this, List.map_append]; omega
end COF
/-! rows by their numbers -/
theorem iot_re (u : Nat → Nat) (r : Nat) : ∀ (l : List Col) (F G : List Col → Int), (∀ l', F l' = G (l'.map (fun a q => a (u q)))) → iot (u r) l F = iot r (l.map (fun a q => a (u q))) G
  | [], _, _, _ => rfl
  | a :: l, F, G, h => by
    show a (u r) * F l - iot (u r) l (fun l' => F (a :: l')) = a (u r) * G (l.map (fun a q => a (u q))) - iot r (l.map (fun a q => a (u q))) (fun l' => G ((fun q => a (u q)) :: l'))
    rw [h l, iot_re u r l (fun l' => F (a :: l')) (fun l' => G ((fun q => a (u q)) :: l')) (fun l' => h (a :: l'))]
theorem D_re (u : Nat → Nat) : ∀ (rs : List Nat) (l : List Col), D (rs.map u) l = D rs (l.map (fun a q => a (u q)))
  | [], [] => rfl
  | [], _ :: _ => rfl
  | r :: rs, l => iot_re u r l (D (rs.map u)) (D rs) (fun l' => D_re u rs l')
theorem dt_re (u : Nat → Nat) (n : Nat) (L : Nat → Nat → Int) : dt ((List.range n).map u) ((List.range n).map u) (colA L) = dd n (fun r c => L (u r) (u c)) n := by
  unfold dd dt
  rw [D_re, List.map_map, List.map_map]
  refine congrArg (D (List.range n)) (List.map_congr_left (fun j hj => ?_))
  show (fun q => L (u q) (u j)) = Bk (fun r c => L (u r) (u c)) n j
  unfold Bk
  rw [if_pos (List.mem_range.mp hj)]; rfl
