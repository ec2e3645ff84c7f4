/-! ===== the reference: classes ===== -/
section PM3
variable {σ : US} {c : CH}
theorem q12_statesOf (h : RM σ c) (ok : okC c) {f : Nat → Nat} (hf : ∀ k, k < cn c → aA σ 3 k = nI (f k) ∧ f k ≤ 8) {q : Nat} (hq : q ≤ 8) {Q : Int32 → Prop} (hQ : Q (nI (mk (fun s => decide (s < cn c) && f s == q)))) : wp_X12_statesOf (nI q) σ Q := by
  unfold wp_X12_statesOf
  have hn := ok.1
  rw [show (0 : Int32) = nI (mk (fun o => decide (o < 0) && (f o == q))) from mk_none]
  refine lp_for (cn c) (fun j => (nI (mk (fun o => decide (o < j) && (f o == q))), nI j)) (fun j hj P hP => ?_) (fun P => ?_)
  · unfold wp_X12_statesOf_L4
    refine rd_n h ?_
    rw [cl0, h.n]
    refine pk_le (cn c) j (fun h => by omega) (fun _ => ?_)
    obtain ⟨h1, h2⟩ := hf j hj
    refine ⟨pk_in j 8 (by omega), ?_⟩
    dsimp only
    rw [nI_clamp (by omega), h1, nI_eq (by omega) (by omega), nI_1]
    refine ⟨fun hne x hx => ?_, fun heq x hx => ?_⟩
    · rw [sI_orz] at hx; subst hx
      rw [mk_step0 (S := fun o => f o == q) (by simp [hne])]; exact hP
    · rw [sI_add _ (by omega)] at hx; subst hx
      rw [mk_step1 (S := fun o => f o == q) (by simp [heq])]; exact hP
  · unfold wp_X12_statesOf_L4
    refine rd_n h ?_
    rw [cl0, h.n]
    exact pk_le (cn c) (cn c) (fun _ => hQ) (fun h => by omega)
/-- alike by steps and the numbers so far -/
def alm (c : CH) (f : Nat → Nat) (tot k t : Nat) : Bool := decide (f k = f t ∧ ∀ q, q < tot → stw c k (fun s => decide (s < cn c) && f s == q) * cdiv c t = stw c t (fun s => decide (s < cn c) && f s == q) * cdiv c k)
theorem q12_stepAlike (h : RM σ c) (ok : okC c) {f : Nat → Nat} (hf : ∀ k, k < cn c → aA σ 3 k = nI (f k) ∧ f k ≤ 8) {tot : Nat} (ht8 : tot ≤ 8) {k t : Nat} (hk : k < cn c) (ht : t < cn c) {Q : Int32 → Prop} (hQ : Q (bI (alm c f tot k t))) : wp_X12_stepAlike (nI k) (nI t) (nI tot) σ Q := by
  unfold wp_X12_stepAlike
  have hn := ok.1
  obtain ⟨a1, a2⟩ := hf k hk
  obtain ⟨b1, b2⟩ := hf t ht
  refine ⟨pk_in k 8 (by omega), pk_in t 8 (by omega), ?_⟩
  rw [nI_clamp (by omega), nI_clamp (by omega), a1, b1, nI_eq (by omega) (by omega)]
  have no : ¬ (f k = f t ∧ ∀ q, q < tot → stw c k (fun s => decide (s < cn c) && f s == q) * cdiv c t = stw c t (fun s => decide (s < cn c) && f s == q) * cdiv c k) → Q 0 := fun z => bI_0 hQ (decide_eq_false z)
  refine ⟨fun hne => ?_, fun heq => ?_⟩
  · refine lpW_of (fun _ t => t = (0, 0)) ?_ 0 _ rfl
    rintro q s rfl P _
    unfold wp_X12_stepAlike_L25
    have z := no (fun y => hne y.1)
    exact ⟨fun _ => ⟨kbo0, z⟩, fun _ => ⟨fun _ => ⟨kbo0, z⟩, fun y => absurd rfl y⟩⟩
  · refine lp_inv tot (fun j s => (s = (1, nI j) ∧ ∀ q, q < j → stw c k (fun s => decide (s < cn c) && f s == q) * cdiv c t = stw c t (fun s => decide (s < cn c) && f s == q) * cdiv c k) ∨ (s = (0, nI j) ∧ Q 0)) ?_ _ (Or.inl ⟨rfl, fun q z => by omega⟩)
    rintro j s hj hs P hP
    unfold wp_X12_stepAlike_L25
    rcases hs with ⟨rfl, hall⟩ | ⟨rfl, hq0⟩
    · refine pk_le tot j (fun hj2 => ?_) (fun hj2 => ?_)
      · have : j = tot := by omega
        subst this
        exact ⟨kbo1, bI_1 hQ (decide_eq_true ⟨heq, hall⟩)⟩
      · refine ⟨fun z => absurd z (show ¬ ((1 : Int32) = 0) by decide), fun _ => ?_⟩
        refine q12_statesOf h ok hf (by omega) (q12_weightInto h ok hk (q12_sumOf h ok (by omega) ?_))
        refine q12_statesOf h ok hf (by omega) (q12_weightInto h ok ht (q12_sumOf h ok (by omega) ?_))
        rw [pk_mul, pk_mul]
        have s1 := stw_le ok (i := k) (by omega) (fun s => decide (s < cn c) && f s == j)
        have s2 := stw_le ok (i := t) (by omega) (fun s => decide (s < cn c) && f s == j)
        have d1 := cdiv_le ok k
        have d2 := cdiv_le ok t
        have m1 : stw c k (fun s => decide (s < cn c) && f s == j) * cdiv c t ≤ 10 * 10 := Nat.mul_le_mul (by omega) d2
        have m2 : stw c t (fun s => decide (s < cn c) && f s == j) * cdiv c k ≤ 10 * 10 := Nat.mul_le_mul (by omega) d1
        rw [nI_eq (by omega) (by omega)]
        dsimp only
        rw [nI_1]
        refine ⟨fun z => hP hj2 _ (Or.inr ⟨rfl, no (fun y => z (y.2 j hj2))⟩), fun e => hP hj2 _ (Or.inl ⟨rfl, fun q hq => ?_⟩)⟩
        rcases Nat.lt_or_ge q j with h5 | h5
        · exact hall q h5
        · have : q = j := by omega
          subst this; exact e
    · exact ⟨fun _ => ⟨kbo0, hq0⟩, fun _ => ⟨fun _ => ⟨kbo0, hq0⟩, fun y => absurd rfl y⟩⟩
theorem inn_congr {al al' : Nat → Nat → Bool} {f f' : Nat → Nat} {cnt k : Nat} : ∀ m, (∀ t, t < m → al t k = al' t k ∧ f t = f' t) → inn al f cnt k m = inn al' f' cnt k m
  | 0, _ => rfl
  | m + 1, h => by
    rw [inn, inn, inn_congr m (fun t ht => h t (by omega)), (h m (by omega)).1, (h m (by omega)).2]
/-- the numbers of one stage, written by the two loops of findClasses: what the inner loop does -/
theorem q12_inn {al : Nat → Nat → Bool} {k cnt : Nat} (hk : k < 8) (hc : cnt ≤ 8) {f : Nat → Nat} (hflt : ∀ t, t < k → f t < cnt) {row : Nat} {σ0 : US} {body : (Int32 × US → Prop) → Int32 × US → Prop} {Fin : US → Prop}
    (hfin : ∀ z : US, (∀ q, q ≠ row → aA z q = aA σ0 q) → z.1 = σ0.1 → z.2.1 = σ0.2.1 → z.2.2.2 = σ0.2.2.2 → (∀ j, j ≠ k → aA z row j = aA σ0 row j) → aA z row k = nI (inn al f cnt k k) → Fin z)
    (hrow : ∀ t, t < k → aA σ0 row t = nI (f t))
    (hstep : ∀ (m : Nat) (z : US) (P : Int32 × US → Prop), m < k → (∀ q, q ≠ row → aA z q = aA σ0 q) → z.1 = σ0.1 → (∀ j, j ≠ k → aA z row j = aA σ0 row j) → aA z row k = nI cnt → (al m k = false → P (nI (m + 1), uA z row k (nI cnt))) → (al m k = true → P (nI (m + 1), uA z row k (aA z row m))) → body P (nI m, z))
    (hstop : ∀ (m : Nat) (z : US) (P : Int32 × US → Prop), m ≤ k → (m = k ∨ ¬ aA z row k = nI cnt) → Fin z → body P (nI m, z))
    {z0 : US} (h0 : (∀ q, q ≠ row → aA z0 q = aA σ0 q) ∧ z0.1 = σ0.1 ∧ z0.2.1 = σ0.2.1 ∧ z0.2.2.2 = σ0.2.2.2 ∧ (∀ j, j ≠ k → aA z0 row j = aA σ0 row j) ∧ aA z0 row k = nI cnt) : lpW body (nI 0, z0) := by
  have hinn : ∀ m, m ≤ k → inn al f cnt k m ≤ cnt ∧ (inn al f cnt k m ≠ cnt → inn al f cnt k k = inn al f cnt k m) := by
    intro m hm
    constructor
    · rcases inn_cases al f cnt k m with ⟨z, _⟩ | ⟨t, ht2, _, z⟩
      · omega
      · have := hflt t (by omega); omega
    · intro hne
      have : ∀ d, inn al f cnt k (m + d) = inn al f cnt k m := by
        intro d
        induction d with
        | zero => rfl
        | succ d ih =>
          rw [show m + (d + 1) = (m + d) + 1 by omega, inn, ih, if_neg (fun z => hne z.1)]
      have h9 := this (k - m)
      rw [show m + (k - m) = k by omega] at h9
      exact h9
  refine lp_inv k (fun m t => ∃ z : US, t = (nI m, z) ∧ (∀ q, q ≠ row → aA z q = aA σ0 q) ∧ z.1 = σ0.1 ∧ z.2.1 = σ0.2.1 ∧ z.2.2.2 = σ0.2.2.2 ∧ (∀ j, j ≠ k → aA z row j = aA σ0 row j) ∧ aA z row k = nI (inn al f cnt k m)) ?_ _ ⟨z0, rfl, h0.1, h0.2.1, h0.2.2.1, h0.2.2.2.1, h0.2.2.2.2.1, h0.2.2.2.2.2⟩
  rintro m t hm ⟨z, rfl, a1, a2, a3, a4, a5, a6⟩ P hP
  obtain ⟨b1, b2⟩ := hinn m hm
  by_cases hmk : m = k
  · subst hmk
    exact hstop m z P hm (Or.inl rfl) (hfin z a1 a2 a3 a4 a5 a6)
  · by_cases hne : inn al f cnt k m = cnt
    · have e6 : aA z row k = nI cnt := by rw [a6, hne]
      refine hstep m z P (by omega) a1 a2 a5 e6 (fun hal => ?_) (fun hal => ?_)
      · refine hP (by omega) _ ⟨_, rfl, fun q hq => ?_, a2, a3, a4, fun j hj => ?_, ?_⟩
        · show kup z.2.2.1 row _ q = _
          rw [kup_n hq]; exact a1 q hq
        · show kup z.2.2.1 row _ row j = _
          rw [kup_s, pk_un hj]; exact a5 j hj
        · show kup z.2.2.1 row _ row k = _
          rw [kup_s, pk_us, inn, if_neg (fun y => by rw [y.2] at hal; cases hal), hne]
      · refine hP (by omega) _ ⟨_, rfl, fun q hq => ?_, a2, a3, a4, fun j hj => ?_, ?_⟩
        · show kup z.2.2.1 row _ q = _
          rw [kup_n hq]; exact a1 q hq
        · show kup z.2.2.1 row _ row j = _
          rw [kup_s, pk_un hj]; exact a5 j hj
        · show kup z.2.2.1 row _ row k = _
          rw [kup_s, pk_us, inn, if_pos ⟨hne, hal⟩, a5 m (by omega), hrow m (by omega)]
    · refine hstop m z P hm (Or.inr (fun y => hne ?_)) (hfin z a1 a2 a3 a4 a5 (by rw [a6, b2 hne]))
      rw [a6] at y
      exact (nI_eq (by omega) (by omega)).mp y
end PM3
