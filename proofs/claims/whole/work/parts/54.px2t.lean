/-! ===== Chain: weights into sets, multiples, draws, changes ===== -/
/-- the weight of the steps into a set -/
def stw (c : CH) (i : Nat) (S : Nat → Bool) : Nat := sumN (fun j => if S j then cst c i j else 0) 8
theorem stw_0 {c : CH} {i : Nat} (hi : i < 8) (h : csum c i = 0) (S : Nat → Bool) : stw c i S = if S i then 1 else 0 := by
  have hall : ∀ b, b < 8 → cw c i b = 0 := fun b hb => by
    have h2 : cw c i b ≤ sumN (cw c i) 8 := sumN_get (f := cw c i) hb
    have h3 : sumN (cw c i) 8 = 0 := h
    omega
  have e : ∀ j, j < 8 → (if S j then cst c i j else 0) = if j = i then (if S i then 1 else 0) else 0 := fun j hj => by
    unfold cst
    by_cases hji : j = i
    · subst hji; simp [h]
    · have : ¬ (i = j ∧ csum c i = 0) := fun z => hji z.1.symm
      rw [if_neg this, hall j hj, if_neg hji]; split <;> rfl
  unfold stw
  rw [sumN_congr e]
  have key : ∀ n, sumN (fun j => if j = i then (if S i then 1 else 0) else 0) n = if i < n then (if S i then 1 else 0) else 0 := by
    intro n
    induction n with
    | zero => simp [sumN]
    | succ n ih =>
      rw [sumN, ih]
      by_cases h1 : i < n
      · have h2 : ¬ n = i := by omega
        simp [h1, h2, show i < n + 1 by omega]
      · by_cases h2 : n = i
        · subst h2; simp
        · simp [h1, h2, show ¬ i < n + 1 by omega]
  rw [key, if_pos hi]
theorem stw_1 {c : CH} (ok : okC c) {i : Nat} (h : csum c i ≠ 0) (S : Nat → Bool) : stw c i S = sumN (fun j => if S j then cw c i j else 0) (cn c) := by
  unfold stw
  rw [← sumN_tail (f := fun j => if S j then cw c i j else 0) ok.1 (fun j h1 _ => by rw [ok.2.2.2.2.2.1 i j (Or.inr h1)]; split <;> rfl)]
  refine sumN_congr (fun j _ => ?_)
  have e : cst c i j = cw c i j := by unfold cst; rw [if_neg (fun z => h z.2)]
  rw [e]
theorem stw_le {c : CH} (ok : okC c) {i : Nat} (hi : i < 8) (S : Nat → Bool) : stw c i S ≤ cdiv c i := by
  by_cases h : csum c i = 0
  · rw [stw_0 hi h]; unfold cdiv; rw [if_pos h]; split <;> omega
  · rw [stw_1 ok h]; unfold cdiv; rw [if_neg h, ← csum_n ok]
    exact sumN_le2 (fun j _ => by split <;> omega)
def lcmN (c : CH) : Nat → Nat
  | 0 => 1
  | k + 1 => Nat.lcm (lcmN c k) (cdiv c k)
theorem cdiv_2520 : ∀ d, d ≤ 10 → 0 < d → d ∣ 2520 := by decide
theorem lcmN_dvd {c : CH} (ok : okC c) : ∀ k, lcmN c k ∣ 2520
  | 0 => Nat.one_dvd _
  | k + 1 => Nat.lcm_dvd (lcmN_dvd ok k) (cdiv_2520 _ (cdiv_le ok k) (cdiv_pos c k))
theorem lcmN_le {c : CH} (ok : okC c) (k : Nat) : lcmN c k ≤ 2520 := Nat.le_of_dvd (by decide) (lcmN_dvd ok k)
theorem lcmN_pos {c : CH} (ok : okC c) (k : Nat) : 0 < lcmN c k := Nat.pos_of_dvd_of_pos (lcmN_dvd ok k) (by decide)
def drwF (w : Nat → Nat) : Nat → Nat → Nat → Nat
  | 0, t, _ => t
  | f + 1, t, r => if r < w t then t else drwF w f (t + 1) (r - w t)
def drw (c : CH) (i d : Nat) : Nat := if csum c i = 0 then i else drwF (cw c i) 8 0 (d % csum c i)
theorem pk_le0 {n : Nat} (h : n < 2 ^ 31) : (0 : Int32) ≤ nI n := nI_pos' h
theorem nI_t64 {n : Nat} (h : n < 2 ^ 31) : (nI n).toInt64 = lN n := nI_l h
theorem iI_uI (σ : US) (k : Nat) (x : Int32) : iI (uI σ k x) k = x := kup_s
theorem lJ_uJ (σ : US) (k : Nat) (x : Int64) : lJ (uJ σ k x) k = x := kup_s
section PX2T
variable {κ : US} {c : CH}
theorem q2_stepWeightInto (h : RC κ c) (ok : okC c) {i : Nat} (hi : i < 8) {S : Nat → Bool} {Q : Int32 → Prop} (hQ : Q (nI (stw c i S))) : wp_X2_stepWeightInto (nI i) (nI (mk S)) κ Q := by
  unfold wp_X2_stepWeightInto
  have hn := ok.1
  refine lp_for (cn c) (fun j => (nI (sumN (fun j => if S j then cw c i j else 0) j), nI j)) (fun j hj P hP => ?_) (fun P => ?_)
  · unfold wp_X2_stepWeightInto_L5
    refine pk_le (cn c) j (fun h => by omega) (fun _ => ?_) h.1
    refine q_contains (by omega) ?_
    refine br_b (fun hb => ?_) (fun hb => ?_)
    · dsimp only; rw [nI_1]
      rw [show sumN (fun j => if S j then cw c i j else 0) (j + 1) = sumN (fun j => if S j then cw c i j else 0) j from by rw [sumN, hb]; simp] at hP
      exact hP
    · refine q2_weightOf h hi (by omega) ?_
      intro x hx
      dsimp only at hx ⊢
      rw [nI_add] at hx; subst hx
      rw [nI_1]
      rw [show sumN (fun j => if S j then cw c i j else 0) (j + 1) = sumN (fun j => if S j then cw c i j else 0) j + cw c i j from by rw [sumN, hb]; simp] at hP
      exact hP
  · unfold wp_X2_stepWeightInto_L5
    refine pk_le (cn c) (cn c) (fun _ => ?_) (fun h => by omega) h.1
    have hz : csum c i = 0 → sumN (fun j => if S j then cw c i j else 0) (cn c) = 0 := fun hz => by
      have h1 := csum_n ok i
      have h2 : sumN (fun j => if S j then cw c i j else 0) (cn c) ≤ sumN (cw c i) (cn c) := sumN_le2 (fun j _ => by split <;> omega)
      omega
    have h10 := ok.2.2.1 i
    have e2 : (nI (csum c i) = 0) ↔ csum c i = 0 := nI_eq (by omega) (by decide)
    refine q_contains hi ?_
    refine br_b (fun hb => ?_) (fun hb => ?_)
    · dsimp only
      by_cases h0 : csum c i = 0
      · rw [stw_0 hi h0, hb] at hQ
        rw [hz h0]; exact hQ
      · rw [stw_1 ok h0] at hQ; exact hQ
    · refine q2_sumOf h ok hi ⟨fun h1 => ?_, fun h1 => ?_⟩
      · have h0 : csum c i ≠ 0 := fun z => h1 (e2.mpr z)
        rw [stw_1 ok h0] at hQ; exact hQ
      · rw [stw_0 hi (e2.mp h1), hb] at hQ; exact hQ
theorem q2_labelled (h : RC κ c) (ok : okC c) {b : Nat} (hb : b < 8) {Q : Int32 → Prop} (hQ : Q (nI (mk (fun i => decide (i < cn c) && bit (cl c i) b)))) : wp_X2_labelled (nI b) κ Q := by
  unfold wp_X2_labelled
  have hn := ok.1
  rw [show (0 : Int32) = nI (mk (fun o => decide (o < 0) && bit (cl c o) b)) from mk_none]
  refine lp_for (cn c) (fun j => (nI (mk (fun o => decide (o < j) && bit (cl c o) b)), nI j)) (fun j hj P hP => ?_) (fun P => ?_)
  · unfold wp_X2_labelled_L4
    refine pk_le (cn c) j (fun h => by omega) (fun _ => ?_) h.1
    refine q2_labelsOf h hn hj ?_
    have hl := ok.2.2.2.1 j
    rw [← bit_ext0 (cl c j) (by omega)]
    refine q_contains hb ?_
    refine br_b (fun hz => ?_) (fun hz => ?_)
    · dsimp only; rw [nI_1, mk_step0 (S := fun o => bit (cl c o) b) hz]; exact hP
    · intro x hx
      dsimp only at hx ⊢
      rw [sI_add _ (by omega)] at hx; subst hx
      rw [nI_1, mk_step1 (S := fun o => bit (cl c o) b) hz]; exact hP
  · unfold wp_X2_labelled_L4
    exact pk_le (cn c) (cn c) (fun _ => hQ) (fun h => by omega) h.1
theorem q2_commonDivisors (h : RC κ c) (ok : okC c) {Q : Int64 → Prop} (hQ : Q (lN (lcmN c (cn c)))) : wp_X2_commonDivisors κ Q := by
  unfold wp_X2_commonDivisors
  have hn := ok.1
  refine lp_for (cn c) (fun j => (lN (lcmN c j), nI j)) (fun j hj P hP => ?_) (fun P => ?_)
  · unfold wp_X2_commonDivisors_L4
    refine pk_le (cn c) j (fun h => by omega) (fun _ => ?_) h.1
    refine q2_divisorOf h ok (by omega) ?_
    have h1 := cdiv_le ok j
    have h2 := lcmN_le ok j
    have h3 := lcmN_le ok (j + 1)
    rw [nI_t64 (by omega)]
    refine q_commonMultiple (by omega) (by omega) (cdiv_pos c j) (by show lcmN c (j + 1) < _; omega) ?_
    dsimp only; rw [nI_1]; exact hP
  · unfold wp_X2_commonDivisors_L4
    exact pk_le (cn c) (cn c) (fun _ => hQ) (fun h => by omega) h.1
theorem q2_drawn (h : RC κ c) (ok : okC c) {i d : Nat} (hi : i < cn c) (hd : d < 2 ^ 31) {Q : Int32 → Prop} (hQ : Q (nI (drw c i d))) : wp_X2_drawn (nI i) (nI d) κ Q := by
  unfold wp_X2_drawn
  have hn := ok.1
  refine q2_sumOf h ok (by omega) ?_
  have h10 := ok.2.2.1 i
  unfold drw at hQ
  refine pk_lt 0 (csum c i) (fun h0 => ⟨?_, fun x hx => ?_⟩) (fun h0 => ?_)
  · intro z
    have := (nI_eq (a := csum c i) (b := 0) (by omega) (by decide)).mp z
    omega
  · rw [if_neg (by omega)] at hQ
    rw [pk_rem hd h0 (by omega)] at hx; subst hx
    have hr : d % csum c i < csum c i := Nat.mod_lt _ h0
    have hs := csum_n ok i
    generalize d % csum c i = r at hr hQ
    refine lp_inv (cn c) (fun j t => sumN (cw c i) j ≤ r ∧ t = (nI (r - sumN (cw c i) j), nI j) ∧ drwF (cw c i) (8 - j) j (r - sumN (cw c i) j) = drwF (cw c i) 8 0 r) ?_ _ ⟨Nat.zero_le _, rfl, rfl⟩
    rintro j t hj ⟨h1, rfl, h2⟩ P hP
    unfold wp_X2_drawn_L20
    refine pk_le (cn c) j (fun hj2 => ?_) (fun hj2 => ?_) h.1
    · have : j = cn c := by omega
      subst this; omega
    · refine q2_weightOf h (by omega) (by omega) ?_
      intro x hx
      dsimp only at hx ⊢
      have hw := ok.2.1 i j
      have h8 : 8 - j = (8 - (j + 1)) + 1 := by omega
      rw [h8] at h2
      unfold drwF at h2
      rcases Nat.lt_or_ge (r - sumN (cw c i) j) (cw c i j) with h3 | h3
      · rw [if_pos h3] at h2
        refine ⟨fun hc => ?_, fun _ => ?_⟩
        · exfalso
          have h4 := pk_sneg (a := r - sumN (cw c i) j) (b := cw c i j) (by omega) h3
          rw [← hx, Int32.lt_iff_toInt_lt] at h4
          rw [Int32.le_iff_toInt_le] at hc
          omega
        · rw [h2]; exact hQ
      · rw [if_neg (by omega)] at h2
        rw [pk_sub h3] at hx
        have h5 : r - sumN (cw c i) j - cw c i j = r - sumN (cw c i) (j + 1) := by rw [sumN]; omega
        rw [h5] at hx h2
        refine ⟨fun _ => ?_, fun hc => ?_⟩
        · rw [hx, nI_1]
          exact hP hj2 _ ⟨by rw [sumN]; omega, rfl, h2⟩
        · exact absurd (by rw [hx]; exact pk_le0 (by omega)) hc
  · rw [if_pos (by omega)] at hQ; exact hQ
theorem RC_I {κ κ' : US} (h : RC κ c) (h0 : iI κ' 0 = nI (cn c)) (h1 : aA κ' 0 = aA κ 0) (h2 : aA κ' 1 = aA κ 1) (h3 : aA κ' 2 = aA κ 2) : RC κ' c := ⟨h0, fun i j a b => by rw [h1]; exact h.2.1 i j a b, fun i a => by rw [h2]; exact h.2.2.1 i a, fun i a => by rw [h3]; exact h.2.2.2 i a⟩
theorem q2_grow (h : RC κ c) (hn : cn c < 8) {Q : US → Prop} (hQ : ∀ κ', RC κ' (cn c + 1, c.2) → Q κ') : wp_X2_grow κ Q := by
  unfold wp_X2_grow
  refine pk_le 8 (cn c) (fun h => by omega) (fun _ z hz => ?_) rfl h.1
  subst hz
  refine hQ _ ⟨?_, h.2⟩
  refine Eq.trans (iI_uI _ _ _) ?_
  rw [h.1, nI_1]
theorem q2_putWeight (h : RC κ c) (hn : cn c ≤ 8) {i j x : Nat} (hi : i < cn c) (hj : j < cn c) {Q : US → Prop} (hQ : ∀ κ', RC κ' (cn c, (fun a b => if a = i ∧ b = j then x else cw c a b), c.2.2) → Q κ') : wp_X2_putWeight (nI i) (nI j) (nI x) κ Q := by
  unfold wp_X2_putWeight
  intro y hy
  rw [li8, pk_mul, nI_add, Nat.mul_comm i 8] at hy
  subst hy
  refine q2_has h hn (by omega) (br_b (fun hb => by simp at hb; omega) (fun _ => ?_))
  refine q2_has h hn (by omega) (br_b (fun hb => by simp at hb; omega) (fun _ => ?_))
  refine pk_le 64 (8 * i + j) (fun h => by omega) (fun _ => ⟨pk_in (8 * i + j) 64 (by omega), fun z hz => ?_⟩)
  subst hz
  rw [nI_clamp (by omega)]
  refine hQ _ ⟨h.1, fun a b ha hb => ?_, h.2.2⟩
  show upd (aA κ 0) _ _ _ = nI (if a = i ∧ b = j then x else cw c a b)
  by_cases hab : a = i ∧ b = j
  · rw [hab.1, hab.2, pk_us]; simp
  · rw [pk_un (by omega), if_neg hab]; exact h.2.1 a b ha hb
theorem q2_putLabels (h : RC κ c) (hn : cn c ≤ 8) {i x : Nat} (hi : i < cn c) {Q : US → Prop} (hQ : ∀ κ', RC κ' (cn c, cw c, (fun a => if a = i then x else cl c a), cr c) → Q κ') : wp_X2_putLabels (nI i) (nI x) κ Q := by
  unfold wp_X2_putLabels
  refine q2_has h hn (by omega) (br_b (fun hb => by simp at hb; omega) (fun _ => ?_))
  refine ⟨pk_in i 8 (by omega), fun z hz => ?_⟩
  subst hz
  rw [nI_clamp (by omega)]
  refine hQ _ ⟨h.1, h.2.1, fun a ha => ?_, h.2.2.2⟩
  show upd (aA κ 1) _ _ _ = nI (if a = i then x else cl c a)
  by_cases hab : a = i
  · rw [hab, pk_us]; simp
  · rw [pk_un hab, if_neg hab]; exact h.2.2.1 a ha
theorem q2_putReward (h : RC κ c) (hn : cn c ≤ 8) {i x : Nat} (hi : i < cn c) {Q : US → Prop} (hQ : ∀ κ', RC κ' (cn c, cw c, cl c, (fun a => if a = i then x else cr c a)) → Q κ') : wp_X2_putReward (nI i) (nI x) κ Q := by
  unfold wp_X2_putReward
  refine q2_has h hn (by omega) (br_b (fun hb => by simp at hb; omega) (fun _ => ?_))
  refine ⟨pk_in i 8 (by omega), fun z hz => ?_⟩
  subst hz
  rw [nI_clamp (by omega)]
  refine hQ _ ⟨h.1, h.2.1, h.2.2.1, fun a ha => ?_⟩
  show upd (aA κ 2) _ _ _ = nI (if a = i then x else cr c a)
  by_cases hab : a = i
  · rw [hab, pk_us]; simp
  · rw [pk_un hab, if_neg hab]; exact h.2.2.2 a ha
/-- the chain without its last state -/
def shr (c : CH) : CH := (cn c - 1, (fun a b => if a = cn c - 1 ∨ b = cn c - 1 then 0 else cw c a b), (fun a => if a = cn c - 1 then 0 else cl c a), (fun a => if a = cn c - 1 then 0 else cr c a))
theorem q2_putWeightO (h : RC κ c) (hn : cn c ≤ 8) {i j : Nat} (hi : i < 8) (hj : j < 8) (hz : cn c ≤ i ∨ cn c ≤ j → cw c i j = 0) {Q : US → Prop} (hQ : ∀ κ', RC κ' (cn c, (fun a b => if a = i ∧ b = j then 0 else cw c a b), c.2.2) → Q κ') : wp_X2_putWeight (nI i) (nI j) 0 κ Q := by
  by_cases h1 : i < cn c ∧ j < cn c
  · exact q2_putWeight h hn h1.1 h1.2 hQ
  · have hsame : RC κ (cn c, (fun a b => if a = i ∧ b = j then 0 else cw c a b), c.2.2) := ⟨h.1, fun a b ha hb => by
      show _ = nI (if a = i ∧ b = j then 0 else cw c a b)
      by_cases hab : a = i ∧ b = j
      · rw [if_pos hab, hab.1, hab.2, h.2.1 i j hi hj, hz (by omega)]
      · rw [if_neg hab]; exact h.2.1 a b ha hb, h.2.2⟩
    unfold wp_X2_putWeight
    intro y hy
    refine q2_has h hn (by omega) (br_b (fun _ => hQ _ hsame) (fun hb => ?_))
    refine q2_has h hn (by omega) (br_b (fun _ => hQ _ hsame) (fun hb2 => ?_))
    simp at hb hb2
    exact absurd ⟨hb, hb2⟩ h1
theorem q2_shrink (h : RC κ c) (ok : okC c) (h0 : 0 < cn c) {Q : US → Prop} (hQ : ∀ κ', RC κ' (shr c) → Q κ') : wp_X2_shrink κ Q := by
  unfold wp_X2_shrink
  have hn := ok.1
  refine pk_lt 0 (cn c) (fun _ x hx => ?_) (fun h => by omega) rfl h.1
  rw [h.1, li1, pk_sub (by omega)] at hx; subst hx
  refine lp_inv 8 (fun j t => ∃ κ1 : US, t = (nI j, κ1) ∧ RC κ1 (cn c, (fun a b => if (a = cn c - 1 ∧ b < j) ∨ (b = cn c - 1 ∧ a < j) then 0 else cw c a b), c.2.2)) ?_ _ ⟨κ, rfl, h.1, fun a b ha hb => by rw [h.2.1 a b ha hb]; exact congrArg nI (if_neg (by omega)).symm, h.2.2⟩
  rintro j t hj ⟨κ1, rfl, hR⟩ P hP
  unfold wp_X2_shrink_L17
  refine pk_le 8 j (fun hj2 => ?_) (fun hj2 => ?_)
  · have : j = 8 := by omega
    subst this
    refine q2_putLabels (c := (cn c, _, c.2.2)) hR hn (by show cn c - 1 < cn c; omega) (x := 0) (fun κ2 h2 => ?_)
    refine q2_putReward (c := (cn c, _, _, cr c)) h2 hn (by show cn c - 1 < cn c; omega) (x := 0) (fun κ3 h3 => ?_)
    intro z hz
    subst hz
    refine hQ _ ⟨?_, fun a b ha hb => ?_, h3.2.2⟩
    · exact iI_uI _ _ _
    · show aA κ3 0 (8 * a + b) = nI (if a = cn c - 1 ∨ b = cn c - 1 then 0 else cw c a b)
      rw [h3.2.1 a b ha hb]
      show nI (if (a = cn c - 1 ∧ b < 8) ∨ (b = cn c - 1 ∧ a < 8) then 0 else cw c a b) = _
      congr 1
      by_cases hab : a = cn c - 1 ∨ b = cn c - 1
      · rw [if_pos hab, if_pos (by omega)]
      · rw [if_neg hab, if_neg (by omega)]
  · dsimp only
    have hzero : ∀ a b, cn c ≤ a ∨ cn c ≤ b → (if (a = cn c - 1 ∧ b < j) ∨ (b = cn c - 1 ∧ a < j) then 0 else cw c a b) = 0 := fun a b hab => by
      split
      · rfl
      · exact ok.2.2.2.2.2.1 a b hab
    refine q2_putWeightO (c := (cn c, _, c.2.2)) hR hn (i := cn c - 1) (j := j) (by omega) hj2 (fun z => hzero _ _ z) (fun κ2 h2 => ?_)
    refine q2_putWeightO (c := (cn c, _, c.2.2)) h2 hn (i := j) (j := cn c - 1) hj2 (by omega) (fun z => ?_) (fun κ3 h3 => ?_)
    · show (if _ then 0 else _) = 0
      split
      · rfl
      · exact hzero _ _ z
    · rw [nI_1]
      refine hP hj2 _ ⟨κ3, rfl, h3.1, fun a b ha hb => ?_, h3.2.2⟩
      rw [h3.2.1 a b ha hb]
      show nI (if a = j ∧ b = cn c - 1 then 0 else if a = cn c - 1 ∧ b = j then 0 else if (a = cn c - 1 ∧ b < j) ∨ (b = cn c - 1 ∧ a < j) then 0 else cw c a b) = nI (if (a = cn c - 1 ∧ b < j + 1) ∨ (b = cn c - 1 ∧ a < j + 1) then 0 else cw c a b)
      congr 1
      by_cases z1 : a = j ∧ b = cn c - 1
      · rw [if_pos z1, if_pos (by omega)]
      · rw [if_neg z1]
        by_cases z2 : a = cn c - 1 ∧ b = j
        · rw [if_pos z2, if_pos (by omega)]
        · rw [if_neg z2]
          by_cases z3 : (a = cn c - 1 ∧ b < j) ∨ (b = cn c - 1 ∧ a < j)
          · rw [if_pos z3, if_pos (by omega)]
          · rw [if_neg z3, if_neg (by omega)]
theorem q2_copyFrom {ρ : US} (h : RC ρ c) {Q : US → Prop} (hQ : ∀ κ', RC κ' c → Q κ') : wp_X2_copyFrom κ ρ Q := by
  unfold wp_X2_copyFrom
  refine lp_inv 64 (fun j t => ∃ κ1 : US, t = (nI j, κ1) ∧ ∀ k, k < j → aA κ1 0 k = aA ρ 0 k) ?_ _ ⟨κ, rfl, fun k z => by omega⟩
  rintro j t hj ⟨κ1, rfl, h1⟩ P hP
  unfold wp_X2_copyFrom_L7
  have fin : j = 64 → lpW (wp_X2_copyFrom_L45 ρ P Q) (0, κ1) := by
    intro hj2
    subst hj2
    refine lp_inv 8 (fun j t => ∃ κ2 : US, t = (nI j, κ2) ∧ (∀ k, k < 64 → aA κ2 0 k = aA ρ 0 k) ∧ (∀ k, k < j → aA κ2 1 k = aA ρ 1 k ∧ aA κ2 2 k = aA ρ 2 k)) ?_ _ ⟨κ1, rfl, h1, fun k z => by omega⟩
    rintro j t hj ⟨κ2, rfl, h2, h3⟩ P2 hP2
    unfold wp_X2_copyFrom_L45
    refine pk_le 8 j (fun hj2 => ?_) (fun hj2 => ?_)
    · intro z hz
      subst hz
      refine hQ _ ⟨?_, fun a b ha hb => ?_, fun a ha => ?_, fun a ha => ?_⟩
      · exact (iI_uI _ _ _).trans h.1
      · show aA κ2 0 _ = _
        rw [h2 _ (by omega)]; exact h.2.1 a b ha hb
      · show aA κ2 1 _ = _
        rw [(h3 a (by omega)).1]; exact h.2.2.1 a ha
      · show aA κ2 2 _ = _
        rw [(h3 a (by omega)).2]; exact h.2.2.2 a ha
    · refine ⟨pk_in j 8 hj2, pk_in j 8 hj2, fun z hz => ⟨pk_in j 8 hj2, pk_in j 8 hj2, fun z2 hz2 => ?_⟩⟩
      dsimp only at hz hz2 ⊢
      rw [nI_clamp (by omega)] at hz hz2
      rw [nI_1]
      refine hP2 hj2 _ ⟨z2, rfl, fun k hk => ?_, fun k hk => ?_⟩
      · subst hz2; subst hz
        exact h2 k hk
      · subst hz2; subst hz
        by_cases hkj : k = j
        · subst hkj
          exact ⟨pk_us, pk_us⟩
        · exact ⟨(pk_un hkj).trans (h3 k (by omega)).1, (pk_un hkj).trans (h3 k (by omega)).2⟩
  refine pk_le 64 j (fun hj2 => fin (by omega)) (fun hj2 => ?_)
  refine pk_le 64 j (fun hj3 => by omega) (fun _ => ?_)
  refine ⟨pk_in j 64 hj2, pk_in j 64 hj2, fun z hz => ?_⟩
  dsimp only at hz ⊢
  rw [nI_clamp (by omega)] at hz
  rw [nI_1]
  refine hP hj2 _ ⟨z, rfl, fun k hk => ?_⟩
  subst hz
  by_cases hkj : k = j
  · subst hkj; exact pk_us
  · exact (pk_un hkj).trans (h1 k (by omega))
end PX2T
