/-! ===== lumping: the classes, and Lumping's methods ===== -/
/-- whether two states are alike, as the numbers f tell the classes so far -/
def alk (c : CH) (f : Nat → Nat) (tot i k : Nat) : Bool := decide (cl c i = cl c k ∧ cr c i = cr c k ∧ f i = f k ∧ ∀ q, q < tot → stw c i (fun s => decide (s < cn c) && f s == q) * cdiv c k = stw c k (fun s => decide (s < cn c) && f s == q) * cdiv c i)
def inn (al : Nat → Nat → Bool) (f : Nat → Nat) (cnt k : Nat) : Nat → Nat
  | 0 => cnt
  | m + 1 => if inn al f cnt k m = cnt ∧ al m k = true then f m else inn al f cnt k m
def numb (al : Nat → Nat → Bool) : Nat → (Nat → Nat) × Nat
  | 0 => (fun _ => 0, 0)
  | k + 1 => (fun j => if j = k then inn al (numb al k).1 (numb al k).2 k k else (numb al k).1 j, if inn al (numb al k).1 (numb al k).2 k k = (numb al k).2 then (numb al k).2 + 1 else (numb al k).2)
def stg (c : CH) : Nat → (Nat → Nat) × Nat
  | 0 => (fun _ => 0, if cn c = 0 then 0 else 1)
  | r + 1 => numb (alk c (stg c r).1 (stg c r).2) (cn c)
def lump (c : CH) : (Nat → Nat) × Nat := stg c 9
theorem inn_cases (al : Nat → Nat → Bool) (f : Nat → Nat) (cnt k : Nat) : ∀ m, (inn al f cnt k m = cnt ∧ ∀ t, t < m → al t k = true → f t = cnt) ∨ ∃ t, t < m ∧ al t k = true ∧ inn al f cnt k m = f t
  | 0 => Or.inl ⟨rfl, fun t h => by omega⟩
  | m + 1 => by
    rcases inn_cases al f cnt k m with ⟨h1, h2⟩ | ⟨t, h1, h2, h3⟩
    · unfold inn
      by_cases h : al m k = true
      · rw [if_pos ⟨h1, h⟩]; exact Or.inr ⟨m, by omega, h, rfl⟩
      · rw [if_neg (fun z => h z.2)]
        exact Or.inl ⟨h1, fun t ht hal => by
          rcases Nat.lt_or_ge t m with h3 | h3
          · exact h2 t h3 hal
          · have : t = m := by omega
            subst this; exact absurd hal h⟩
    · unfold inn
      split
      · rename_i h; exact Or.inr ⟨m, by omega, h.2, rfl⟩
      · exact Or.inr ⟨t, by omega, h2, h3⟩
theorem numb_old (al : Nat → Nat → Bool) {k j : Nat} (h : j < k) : ∀ m, k ≤ m → (numb al m).1 j = (numb al k).1 j
  | 0, hm => by omega
  | m + 1, hm => by
    rcases Nat.lt_or_ge m k with h1 | h1
    · have : k = m + 1 := by omega
      subst this; rfl
    · rw [← numb_old al h m h1]
      show (if j = m then _ else _) = _
      rw [if_neg (by omega)]
/-- numbered by first occurrence -/
def FO (f cf : Nat → Nat) (n : Nat) : Prop := cf 0 = 0 ∧ ∀ k, k < n → f k < cf (k + 1) ∧ cf k ≤ cf (k + 1) ∧ ((f k = cf k ∧ cf (k + 1) = cf k + 1) ∨ (∃ t, t < k ∧ f k = f t ∧ cf (k + 1) = cf k))
theorem FO_lt {f cf : Nat → Nat} {n : Nat} (h : FO f cf n) : ∀ {j k : Nat}, j < k → k ≤ n → f j < cf k := by
  intro j k
  induction k with
  | zero => intro h1; omega
  | succ k ih =>
    intro h1 h2
    have hk := h.2 k (by omega)
    rcases Nat.lt_or_ge j k with h3 | h3
    · exact Nat.lt_of_lt_of_le (ih h3 (by omega)) hk.2.1
    · have : j = k := by omega
      subst this; exact hk.1
theorem FO_le {f cf : Nat → Nat} {n : Nat} (h : FO f cf n) : ∀ k, k ≤ n → cf k ≤ k
  | 0, _ => by rw [h.1]; exact Nat.le_refl _
  | k + 1, hk => by
    have h1 := FO_le h k (by omega)
    have h2 := (h.2 k (by omega)).2.2
    rcases h2 with ⟨_, h2⟩ | ⟨_, _, _, h2⟩ <;> omega
theorem numb_step (al : Nat → Nat → Bool) (k : Nat) (hlt : ∀ t, t < k → (numb al k).1 t < (numb al k).2) : ((numb al (k + 1)).1 k = (numb al k).2 ∧ (numb al (k + 1)).2 = (numb al k).2 + 1) ∨ (∃ t, t < k ∧ al t k = true ∧ (numb al (k + 1)).1 k = (numb al k).1 t ∧ (numb al (k + 1)).2 = (numb al k).2) := by
  have e1 : (numb al (k + 1)).1 k = inn al (numb al k).1 (numb al k).2 k k := by show (if k = k then _ else _) = _; rw [if_pos rfl]
  have e2 : (numb al (k + 1)).2 = if inn al (numb al k).1 (numb al k).2 k k = (numb al k).2 then (numb al k).2 + 1 else (numb al k).2 := rfl
  rcases inn_cases al (numb al k).1 (numb al k).2 k k with ⟨h1, _⟩ | ⟨t, h1, h2, h3⟩
  · left; rw [e1, e2, h1, if_pos rfl]; exact ⟨rfl, rfl⟩
  · right
    have h4 := hlt t h1
    exact ⟨t, h1, h2, by rw [e1, h3], by rw [e2, h3, if_neg (by omega)]⟩
theorem numb_lt (al : Nat → Nat → Bool) : ∀ k t, t < k → (numb al k).1 t < (numb al k).2
  | 0, t, h => by omega
  | k + 1, t, h => by
    have ih := numb_lt al k
    have hs := numb_step al k ih
    rcases Nat.lt_or_ge t k with h1 | h1
    · have h2 := ih t h1
      rw [numb_old al h1 (k + 1) (by omega)]
      rcases hs with ⟨_, hs⟩ | ⟨_, _, _, _, hs⟩ <;> omega
    · have : t = k := by omega
      subst this
      rcases hs with ⟨h3, hs⟩ | ⟨u, hu, _, h3, hs⟩
      · omega
      · have := ih u hu; omega
theorem numb_FO (al : Nat → Nat → Bool) (n : Nat) : FO (numb al n).1 (fun k => (numb al k).2) n := by
  refine ⟨rfl, fun k hk => ?_⟩
  have e : (numb al n).1 k = (numb al (k + 1)).1 k := numb_old al (by omega) n (by omega)
  have h1 := numb_lt al (k + 1) k (by omega)
  rcases numb_step al k (numb_lt al k) with ⟨h2, h3⟩ | ⟨t, ht, _, h2, h3⟩
  · exact ⟨by rw [e]; exact h1, by dsimp only; omega, Or.inl ⟨by rw [e]; exact h2, h3⟩⟩
  · exact ⟨by rw [e]; exact h1, by dsimp only; omega, Or.inr ⟨t, ht, by rw [e, h2, numb_old al ht n (by omega)], h3⟩⟩
theorem numb_ref {al : Nat → Nat → Bool} {f : Nat → Nat} {n : Nat} (h : ∀ i k, i < n → k < n → al i k = true → f i = f k) : ∀ k, k ≤ n → ∀ i j, i < k → j < k → (numb al n).1 i = (numb al n).1 j → f i = f j
  | 0, _, i, j, hi, _, _ => by omega
  | k + 1, hk, i, j, hi, hj, e => by
    have ih := numb_ref h k (by omega)
    have key : ∀ t, t < k → (numb al n).1 k = (numb al n).1 t → f k = f t := by
      intro t ht he
      rw [numb_old al (show k < k + 1 by omega) n (by omega)] at he
      rcases numb_step al k (numb_lt al k) with ⟨h2, h3⟩ | ⟨u, hu, hal, h2, h3⟩
      · rw [h2, numb_old al ht n (by omega)] at he
        have := numb_lt al k t ht; omega
      · rw [h2, ← numb_old al hu n (by omega)] at he
        rw [← h u k (by omega) (by omega) hal]
        exact ih u t hu ht he
    rcases Nat.lt_or_ge i k with h1 | h1
    · rcases Nat.lt_or_ge j k with h2 | h2
      · exact ih i j h1 h2 e
      · have : j = k := by omega
        subst this; exact (key i h1 e.symm).symm
    · have : i = k := by omega
      subst this
      rcases Nat.lt_or_ge j i with h2 | h2
      · exact key j h2 e
      · have : j = i := by omega
        subst this; rfl
/-- a finer numbering has at least as many numbers; if as many, it is the same -/
theorem FO_finer {f cf g cg : Nat → Nat} {n : Nat} (hf : FO f cf n) (hg : FO g cg n) (href : ∀ i j, i < n → j < n → g i = g j → f i = f j) : ∀ k, k ≤ n → cf k ≤ cg k ∧ (cf k = cg k → ∀ j, j < k → g j = f j)
  | 0, _ => ⟨by rw [hf.1]; exact Nat.zero_le _, fun _ j h => by omega⟩
  | k + 1, hk => by
    obtain ⟨h1, h2⟩ := FO_finer hf hg href k (by omega)
    obtain ⟨a1, a2, a3⟩ := hf.2 k (by omega)
    obtain ⟨b1, b2, b3⟩ := hg.2 k (by omega)
    rcases a3 with ⟨a3, a4⟩ | ⟨t, ht, a3, a4⟩
    · rcases b3 with ⟨b3, b4⟩ | ⟨u, hu, b3, b4⟩
      · refine ⟨by omega, fun e j hj => ?_⟩
        rcases Nat.lt_or_ge j k with h3 | h3
        · exact h2 (by omega) j h3
        · have : j = k := by omega
          subst this; omega
      · exfalso
        have := href k u (by omega) (by omega) b3
        have h5 := FO_lt hf hu (show k ≤ n by omega)
        omega
    · refine ⟨by omega, fun e j hj => ?_⟩
      have h4 : cf k = cg k := by omega
      rcases Nat.lt_or_ge j k with h3 | h3
      · exact h2 h4 j h3
      · have : j = k := by omega
        subst this
        rcases b3 with ⟨b3, b4⟩ | ⟨u, hu, b3, b4⟩
        · omega
        · rw [b3, h2 h4 u hu]
          exact (href j u (by omega) (by omega) b3).symm
theorem numb_congr {al al' : Nat → Nat → Bool} : ∀ {n : Nat}, (∀ i k, i < n → k < n → al i k = al' i k) → numb al n = numb al' n
  | 0, _ => rfl
  | n + 1, h => by
    have ih := numb_congr (n := n) (fun i k a b => h i k (by omega) (by omega))
    have hin : ∀ (f : Nat → Nat) (cnt : Nat) m, m ≤ n → inn al f cnt n m = inn al' f cnt n m := by
      intro f cnt m
      induction m with
      | zero => intro _; rfl
      | succ m ihm =>
        intro hm
        unfold inn
        rw [ihm (by omega), h m n (by omega) (by omega)]
    unfold numb
    rw [ih, hin _ _ n (Nat.le_refl _)]
theorem alk_congr {c : CH} {f g : Nat → Nat} {tot : Nat} (h : ∀ k, k < cn c → f k = g k) {i k : Nat} (hi : i < cn c) (hk : k < cn c) : alk c f tot i k = alk c g tot i k := by
  unfold alk
  have e : ∀ q, (fun s => decide (s < cn c) && f s == q) = (fun s => decide (s < cn c) && g s == q) := fun q => by
    funext s
    by_cases hs : s < cn c
    · rw [h s hs]
    · simp [hs]
  rw [h i hi, h k hk]
  simp only [e]
def stgC (c : CH) (r : Nat) : Nat → Nat := match r with
  | 0 => fun k => if k = 0 then 0 else 1
  | r + 1 => fun k => (numb (alk c (stg c r).1 (stg c r).2) k).2
theorem stg_FO (c : CH) : ∀ r, FO (stg c r).1 (stgC c r) (cn c)
  | 0 => by
    refine ⟨rfl, fun k hk => ?_⟩
    unfold stgC stg
    dsimp only
    refine ⟨by simp, by split <;> simp, ?_⟩
    by_cases h : k = 0
    · subst h; left; simp
    · right; exact ⟨0, by omega, rfl, by simp [h]⟩
  | r + 1 => numb_FO _ _
theorem stgC_n (c : CH) : ∀ r, stgC c r (cn c) = (stg c r).2
  | 0 => by unfold stgC stg; rfl
  | r + 1 => rfl
theorem stg_ref (c : CH) (r : Nat) : ∀ i j, i < cn c → j < cn c → (stg c (r + 1)).1 i = (stg c (r + 1)).1 j → (stg c r).1 i = (stg c r).1 j :=
  fun i j hi hj => numb_ref (n := cn c) (fun i k _ _ h => by unfold alk at h; simp at h; exact h.2.2.1) (cn c) (Nat.le_refl _) i j hi hj
theorem stg_mono (c : CH) (r : Nat) : (stg c r).2 ≤ (stg c (r + 1)).2 ∧ ((stg c r).2 = (stg c (r + 1)).2 → ∀ j, j < cn c → (stg c (r + 1)).1 j = (stg c r).1 j) := by
  have h := FO_finer (stg_FO c r) (stg_FO c (r + 1)) (stg_ref c r) (cn c) (Nat.le_refl _)
  rw [stgC_n, stgC_n] at h
  exact h
theorem stg_le (c : CH) (r : Nat) : (stg c r).2 ≤ cn c := by
  rw [← stgC_n]; exact FO_le (stg_FO c r) (cn c) (Nat.le_refl _)
theorem stg_lt (c : CH) (r : Nat) {k : Nat} (hk : k < cn c) : (stg c r).1 k < (stg c r).2 := by
  rw [← stgC_n]; exact FO_lt (stg_FO c r) hk (Nat.le_refl _)
/-- once the number of classes stays, all stays -/
theorem stg_next {c : CH} {r : Nat} (h : (stg c r).2 = (stg c (r + 1)).2) : stg c (r + 2) = stg c (r + 1) := by
  have h1 := (stg_mono c r).2 h
  show numb (alk c (stg c (r + 1)).1 (stg c (r + 1)).2) (cn c) = numb (alk c (stg c r).1 (stg c r).2) (cn c)
  rw [← h]
  exact numb_congr (fun i k hi hk => alk_congr h1 hi hk)
theorem stg_stays {c : CH} {r : Nat} (h : (stg c r).2 = (stg c (r + 1)).2) : ∀ q, stg c (r + 1 + q) = stg c (r + 1)
  | 0 => rfl
  | q + 1 => by
    have h2 : (stg c (r + q)).2 = (stg c (r + q + 1)).2 ∧ stg c (r + 1 + q) = stg c (r + 1) := ⟨by
      cases q with
      | zero => exact h
      | succ q =>
        have a := stg_stays h q
        have b := stg_stays h (q + 1)
        rw [show r + (q + 1) = r + 1 + q by omega, show r + 1 + q + 1 = r + 1 + (q + 1) by omega, a, b], stg_stays h q⟩
    rw [show r + 1 + (q + 1) = (r + q) + 2 by omega, stg_next h2.1, show r + q + 1 = r + 1 + q by omega]
    exact h2.2
theorem stg_lump {c : CH} {r : Nat} (hr : r + 1 ≤ 9) (h : (stg c r).2 = (stg c (r + 1)).2) : stg c (r + 1) = lump c := by
  unfold lump
  rw [show 9 = r + 1 + (9 - (r + 1)) by omega, stg_stays h]
section PX7
variable {σ κ : US} {c : CH}
theorem q7_members (h : RC κ c) (ok : okC c) {f : Nat → Nat} (hf : ∀ k, k < cn c → aA σ 0 k = nI (f k) ∧ f k ≤ 8) {q : Nat} (hq : q ≤ 8) {Q : Int32 → Prop} (hQ : Q (nI (mk (fun s => decide (s < cn c) && f s == q)))) : wp_X7_members (nI q) σ κ Q := by
  unfold wp_X7_members
  have hn := ok.1
  have e0 : mk (fun s => decide (s < cn c) && f s == q) = mk (fun s => decide (s < 8) && (decide (s < cn c) && f s == q)) := (mk_all (fun o ho => by simp at ho; omega)).symm
  rw [e0] at hQ
  rw [show (0 : Int32) = nI (mk (fun o => decide (o < 0) && (decide (o < cn c) && f o == q))) from mk_none]
  refine lp_for 8 (fun j => (nI (mk (fun o => decide (o < j) && (decide (o < cn c) && f o == q))), nI j)) (fun j hj P hP => ?_) (fun P => ?_)
  · unfold wp_X7_members_L4
    refine pk_le 8 j (fun h => by omega) (fun _ => ?_)
    refine q2_has h hn (by omega) (br_b (fun hb => ?_) (fun hb => ?_))
    · dsimp only; rw [nI_1, mk_step0 (by simp [hb])]; exact hP
    · simp at hb
      obtain ⟨h1, h2⟩ := hf j hb
      refine ⟨pk_in j 8 hj, ?_⟩
      dsimp only
      rw [nI_clamp (by omega), h1, nI_eq (by omega) (by omega), nI_1]
      refine ⟨fun hne => ?_, fun heq x hx => ?_⟩
      · rw [mk_step0 (by simp [hne])]; exact hP
      · rw [sI_add _ hj] at hx; subst hx
        rw [mk_step1 (by simp [heq, hb])]; exact hP
  · unfold wp_X7_members_L4
    exact pk_le 8 8 (fun _ => hQ) (fun h => by omega)
theorem q7_isAlike (h : RC κ c) (ok : okC c) {f : Nat → Nat} (hf : ∀ k, k < cn c → aA σ 0 k = nI (f k) ∧ f k ≤ 8) {tot : Nat} (ht : iI σ 0 = nI tot) (ht8 : tot ≤ 8) {i k : Nat} (hi : i < cn c) (hk : k < cn c) {Q : Int32 → Prop} (hQ : Q (bI (alk c f tot i k))) : wp_X7_isAlike (nI i) (nI k) σ κ Q := by
  unfold wp_X7_isAlike
  have hn := ok.1
  have l1 := ok.2.2.2.1 i
  have l2 := ok.2.2.2.1 k
  have r1 := ok.2.2.2.2.1 i
  have r2 := ok.2.2.2.2.1 k
  have no : ¬ (cl c i = cl c k ∧ cr c i = cr c k ∧ f i = f k ∧ ∀ q, q < tot → stw c i (fun s => decide (s < cn c) && f s == q) * cdiv c k = stw c k (fun s => decide (s < cn c) && f s == q) * cdiv c i) → Q 0 := fun z => bI_0 hQ (decide_eq_false z)
  refine q2_labelsOf h hn hi (q2_labelsOf h hn hk ?_)
  rw [nI_eq (by omega) (by omega)]
  refine ⟨fun z => no (fun y => z y.1), fun e1 => ?_⟩
  refine q2_rewardOf h hn hi (q2_rewardOf h hn hk ?_)
  rw [nI_eq (by omega) (by omega)]
  refine ⟨fun z => no (fun y => z y.2.1), fun e2 => ?_⟩
  unfold wp_X7_numberOf
  refine q_isIndex (by omega) ⟨fun z => absurd z (by decide), fun _ => ⟨pk_in i 8 (by omega), ?_⟩⟩
  refine q_isIndex (by omega) ⟨fun z => absurd z (by decide), fun _ => ⟨pk_in k 8 (by omega), ?_⟩⟩
  obtain ⟨a1, a2⟩ := hf i hi
  obtain ⟨b1, b2⟩ := hf k hk
  rw [nI_clamp (by omega), nI_clamp (by omega), a1, b1, nI_eq (by omega) (by omega)]
  refine ⟨fun e3 => ?_, fun z => no (fun y => z y.2.2.1)⟩
  refine lp_inv tot (fun j t => t = nI j ∧ ∀ q, q < j → stw c i (fun s => decide (s < cn c) && f s == q) * cdiv c k = stw c k (fun s => decide (s < cn c) && f s == q) * cdiv c i) ?_ _ ⟨rfl, fun q z => by omega⟩
  rintro j t hj ⟨rfl, hall⟩ P hP
  unfold wp_X7_isAlike_L55
  refine pk_le tot j (fun hj2 => ?_) (fun hj2 => ?_) ht
  · have : j = tot := by omega
    subst this
    exact bI_1 hQ (decide_eq_true ⟨e1, e2, e3, hall⟩)
  · refine q7_members h ok hf (by omega) ?_
    refine q2_stepWeightInto h ok (by omega) (q2_divisorOf h ok (by omega) (fun x hx => ?_))
    refine q2_stepWeightInto h ok (by omega) (q2_divisorOf h ok (by omega) (fun y hy => ?_))
    rw [pk_mul] at hx hy
    subst hx hy
    have s1 := stw_le ok (i := i) (by omega) (fun s => decide (s < cn c) && f s == j)
    have s2 := stw_le ok (i := k) (by omega) (fun s => decide (s < cn c) && f s == j)
    have d1 := cdiv_le ok i
    have d2 := cdiv_le ok k
    have m1 : stw c i (fun s => decide (s < cn c) && f s == j) * cdiv c k ≤ 10 * 10 := Nat.mul_le_mul (by omega) d2
    have m2 : stw c k (fun s => decide (s < cn c) && f s == j) * cdiv c i ≤ 10 * 10 := Nat.mul_le_mul (by omega) d1
    rw [nI_eq (by omega) (by omega), nI_1]
    refine ⟨fun e => hP hj2 _ ⟨rfl, fun q hq => ?_⟩, fun z => no (fun y => z (y.2.2.2 j hj2))⟩
    rcases Nat.lt_or_ge q j with h5 | h5
    · exact hall q h5
    · have : q = j := by omega
      subst this; exact e
theorem q7_split (h : RC κ c) (ok : okC c) {f : Nat → Nat} (hf : ∀ k, k < cn c → aA σ 0 k = nI (f k) ∧ f k ≤ 8) {tot : Nat} (ht : iI σ 0 = nI tot) (ht8 : tot ≤ 8) {Q : Int32 → US → Prop} (hQ : ∀ σ' : US, iI σ' 0 = nI tot → (∀ k, k < cn c → aA σ' 1 k = nI ((numb (alk c f tot) (cn c)).1 k)) → Q (nI (numb (alk c f tot) (cn c)).2) σ') : wp_X7_split σ κ Q := by
  unfold wp_X7_split
  have hn := ok.1
  generalize hal : alk c f tot = al at hQ
  have mle : ∀ j, j ≤ cn c → (numb al j).2 ≤ j := fun j hj => FO_le (numb_FO al (cn c)) j hj
  refine lp_inv 8 (fun j t => ∃ σ1 : US, t = (nI (numb al (min j (cn c))).2, nI j, σ1) ∧ aA σ1 0 = aA σ 0 ∧ iI σ1 0 = nI tot ∧ (∀ k, k < j → k < cn c → aA σ1 1 k = nI ((numb al (min j (cn c))).1 k))) ?_ _ ⟨σ, by rw [Nat.zero_min]; rfl, rfl, ht, fun k z => by omega⟩
  rintro j t hj ⟨σ1, rfl, h1, h2, h3⟩ P hP
  unfold wp_X7_split_L4
  refine pk_le 8 j (fun hj2 => ?_) (fun hj2 => ?_)
  · have : j = 8 := by omega
    subst this
    rw [Nat.min_eq_right hn] at h3 ⊢
    exact hQ σ1 h2 (fun k hk => h3 k (by omega) hk)
  · refine q2_has h hn (by omega) (br_n (fun hb => ?_) (fun hb => ?_))
    · simp at hb
      dsimp only
      rw [nI_1]
      rw [Nat.min_eq_right hb] at h3 ⊢
      refine hP hj2 _ ⟨σ1, by rw [Nat.min_eq_right (by omega)], h1, h2, fun k hk hkn => ?_⟩
      rw [Nat.min_eq_right (by omega)]
      exact h3 k (by omega) hkn
    · simp at hb
      rw [Nat.min_eq_left (by omega)] at h3 ⊢
      dsimp only
      have hf1 : ∀ k, k < cn c → aA σ1 0 k = nI (f k) ∧ f k ≤ 8 := fun k hk => by rw [h1]; exact hf k hk
      have hcj := mle j (by omega)
      have hlt := numb_lt al j
      have join : ∀ v : Nat, v = inn al (numb al j).1 (numb al j).2 j j → v ≤ 8 → wp_X7_split_J64 (nI (numb al j).2) (nI j) (nI v) σ1 κ P Q := by
        intro v hv hv8
        unfold wp_X7_split_J64
        refine ⟨pk_in j 8 hj2, fun z hz => ?_⟩
        rw [nI_clamp (by omega)] at hz
        rw [nI_eq (by omega) (by omega), nI_1, nI_1]
        have e1 : ∀ k, k < j + 1 → k < cn c → aA z 1 k = nI ((numb al (j + 1)).1 k) := fun k hk hkn => by
          subst hz
          show upd (aA σ1 1) j _ k = nI (if k = j then _ else _)
          by_cases hkj : k = j
          · subst hkj; rw [pk_us, if_pos rfl, hv]
          · rw [pk_un hkj, if_neg hkj]; exact h3 k (by omega) hkn
        have z0 : aA z 0 = aA σ 0 := by subst hz; exact h1
        have z1 : iI z 0 = nI tot := by subst hz; exact h2
        refine ⟨fun hne => ?_, fun heq => ?_⟩
        · refine hP hj2 _ ⟨z, ?_, z0, z1, ?_⟩
          · rw [Nat.min_eq_left (by omega)]
            show _ = (nI (if inn al (numb al j).1 (numb al j).2 j j = (numb al j).2 then _ else _), _)
            rw [← hv, if_neg hne]
          · rw [Nat.min_eq_left (by omega)]; exact e1
        · refine hP hj2 _ ⟨z, ?_, z0, z1, ?_⟩
          · rw [Nat.min_eq_left (by omega)]
            show _ = (nI (if inn al (numb al j).1 (numb al j).2 j j = (numb al j).2 then _ else _), _)
            rw [← hv, if_pos heq]
          · rw [Nat.min_eq_left (by omega)]; exact e1
      have hinn : ∀ m, m ≤ j → inn al (numb al j).1 (numb al j).2 j m ≤ 8 := fun m hm => by
        rcases inn_cases al (numb al j).1 (numb al j).2 j m with ⟨z, _⟩ | ⟨t, ht2, _, z⟩
        · omega
        · have := hlt t (by omega); omega
      have stays : ∀ m, m ≤ j → inn al (numb al j).1 (numb al j).2 j m ≠ (numb al j).2 → inn al (numb al j).1 (numb al j).2 j j = inn al (numb al j).1 (numb al j).2 j m := by
        intro m hm hne
        have : ∀ d, inn al (numb al j).1 (numb al j).2 j (m + d) = inn al (numb al j).1 (numb al j).2 j m := by
          intro d
          induction d with
          | zero => rfl
          | succ d ih =>
            rw [show m + (d + 1) = (m + d) + 1 by omega]
            rw [inn, ih, if_neg (fun z => hne z.1)]
        have h9 := this (j - m)
        rw [show m + (j - m) = j by omega] at h9
        exact h9
      refine lp_inv j (fun m t => t = (nI (inn al (numb al j).1 (numb al j).2 j m), nI m)) ?_ _ rfl
      rintro m t hm rfl P2 hP2
      unfold wp_X7_split_L29
      dsimp only
      refine pk_le j m (fun hm2 => ?_) (fun hm2 => ?_)
      · have : m = j := by omega
        subst this
        exact join _ rfl (hinn m (Nat.le_refl _))
      · have h8 := hinn m hm
        rw [nI_eq (by omega) (by omega)]
        refine ⟨fun hne => join _ (stays m hm hne).symm h8, fun heq => ?_⟩
        refine q7_isAlike h ok hf1 h2 ht8 (by omega) hb (br_b (fun hz => ?_) (fun hz => ?_))
        · rw [hal] at hz
          rw [nI_1]
          refine hP2 hm2 _ ?_
          have : inn al (numb al j).1 (numb al j).2 j (m + 1) = inn al (numb al j).1 (numb al j).2 j m := by
            rw [inn, if_neg (fun z => by rw [z.2] at hz; cases hz)]
          rw [this]
        · rw [hal] at hz
          refine ⟨pk_in m 8 (by omega), fun x hx => ?_⟩
          rw [nI_clamp (by omega), h3 m (by omega) (by omega)] at hx; subst hx
          rw [nI_1]
          refine hP2 hm2 _ ?_
          have : inn al (numb al j).1 (numb al j).2 j (m + 1) = (numb al j).1 m := by
            rw [inn, if_pos ⟨heq, hz⟩]
          rw [this]
theorem q7_refine (h : RC κ c) (ok : okC c) {Q : US → Prop} (hQ : ∀ σ' : US, iI σ' 0 = nI (lump c).2 → (∀ k, k < cn c → aA σ' 0 k = nI ((lump c).1 k)) → Q σ') : wp_X7_refine σ κ Q := by
  unfold wp_X7_refine
  have hn := ok.1
  refine lp_inv 8 (fun j t => ∃ σ1 : US, t = (nI j, σ1) ∧ ∀ k, k < j → aA σ1 0 k = nI 0) ?_ _ ⟨σ, rfl, fun k z => by omega⟩
  rintro j t hj ⟨σ1, rfl, h1⟩ P hP
  unfold wp_X7_refine_L2
  refine pk_le 8 j (fun hj2 => ?_) (fun hj2 => ?_)
  · intro z hz
    unfold wp_X2_size
    have main : ∀ v0 : Nat, v0 = (if cn c = 0 then 0 else 1) → lpW (wp_X7_refine_L44 κ P Q) (nI v0, 0, z) := by
      intro v0 hv0
      refine lp_inv 9 (fun r t => ∃ (σ2 : US) (T : Nat), t = (nI (stg c r).2, nI r, σ2) ∧ iI σ2 0 = nI T ∧ T ≤ 8 ∧ (∀ k, k < cn c → aA σ2 0 k = nI ((stg c r).1 k)) ∧ ((r = 0 ∧ T = 0) ∨ (∃ r', r = r' + 1 ∧ T = (stg c r').2)) ∧ r ≤ (stg c r).2 + (if T < (stg c r).2 then 0 else 9)) ?_ _ ⟨z, 0, by rw [hv0]; rfl, ?_, by omega, fun k hk => ?_, Or.inl ⟨rfl, rfl⟩, by omega⟩
      · rintro r t hr ⟨σ2, T, rfl, a1, a2, a3, a4, a5⟩ P44 hP44
        unfold wp_X7_refine_L44
        dsimp only
        have hle := stg_le c r
        have done : (stg c r).2 ≤ T → Q σ2 := by
          intro hT
          rcases a4 with ⟨a4, a6⟩ | ⟨r', a4, a6⟩
          · subst a4; subst a6
            have h0 : cn c = 0 := by
              by_cases hc : cn c = 0
              · exact hc
              · have : (stg c 0).2 = 1 := by show (if cn c = 0 then 0 else 1) = 1; rw [if_neg hc]
                omega
            have hl : (lump c).2 = 0 := by have := stg_le c 9; unfold lump; omega
            exact hQ σ2 (by rw [hl]; exact a1) (fun k hk => by omega)
          · subst a4; subst a6
            have e1 : (stg c r').2 = (stg c (r' + 1)).2 := Nat.le_antisymm (stg_mono c r').1 hT
            have e2 := stg_lump (by omega) e1
            exact hQ σ2 (by rw [← e2, ← e1]; exact a1) (fun k hk => by rw [← e2]; exact a3 k hk)
        refine pk_lt 8 r (fun hr2 => ?_) (fun hr2 => ?_)
        · refine done ?_
          false_or_by_contra
          rename_i hc
          rw [if_pos (by omega)] at a5
          omega
        · refine pk_le (stg c r).2 T (fun hT => done hT) (fun hT => ?_) rfl a1
          intro z3 hz3
          have b1 : iI z3 0 = nI (stg c r).2 := by subst hz3; exact iI_uI _ _ _
          have b3 : ∀ k, k < cn c → aA z3 0 k = nI ((stg c r).1 k) ∧ (stg c r).1 k ≤ 8 := fun k hk => ⟨by subst hz3; exact a3 k hk, by have := stg_lt c r hk; omega⟩
          refine q7_split h ok b3 b1 (by omega) (fun σ3 c1 c2 => ?_)
          refine lp_inv 8 (fun j t => ∃ σ4 : US, t = (nI j, σ4) ∧ iI σ4 0 = nI (stg c r).2 ∧ (∀ k, k < cn c → aA σ4 1 k = nI ((stg c (r + 1)).1 k)) ∧ (∀ k, k < j → aA σ4 0 k = aA σ4 1 k)) ?_ _ ⟨σ3, rfl, c1, c2, fun k z => by omega⟩
          rintro q t hq ⟨σ4, rfl, d1, d2, d3⟩ P70 hP70
          unfold wp_X7_refine_L70
          dsimp only
          refine pk_le 8 q (fun hq2 => ?_) (fun hq2 => ?_)
          · rw [nI_1]
            refine hP44 (by omega) _ ⟨σ4, (stg c r).2, rfl, d1, by omega, fun k hk => by rw [d3 k (by omega)]; exact d2 k hk, Or.inr ⟨r, rfl, rfl⟩, ?_⟩
            have m1 := (stg_mono c r).1
            rw [if_pos (by omega)] at a5
            split <;> omega
          · refine ⟨pk_in q 8 hq2, pk_in q 8 hq2, fun z6 hz6 => ?_⟩
            rw [nI_clamp (by omega)] at hz6
            rw [nI_1]
            refine hP70 hq2 _ ⟨z6, rfl, by subst hz6; exact d1, fun k hk => by subst hz6; exact d2 k hk, fun k hk => ?_⟩
            subst hz6
            show upd (aA σ4 0) q _ k = aA σ4 1 k
            by_cases hkq : k = q
            · subst hkq; rw [pk_us]
            · rw [pk_un hkq]; exact d3 k (by omega)
      · subst hz; exact iI_uI _ _ _
      · subst hz; exact h1 k (by omega)
    refine pk_le (cn c) 0 (fun hc => main 0 (by rw [if_pos (by omega)])) (fun hc => main 1 (by rw [if_neg (by omega)])) h.1
  · refine ⟨pk_in j 8 hj2, fun z hz => ?_⟩
    rw [nI_clamp (by omega)] at hz
    dsimp only
    rw [nI_1]
    refine hP hj2 _ ⟨z, rfl, fun k hk => ?_⟩
    subst hz
    show upd (aA σ1 0) j 0 k = nI 0
    by_cases hkj : k = j
    · subst hkj; exact pk_us
    · rw [pk_un hkj]; exact h1 k (by omega)
end PX7
