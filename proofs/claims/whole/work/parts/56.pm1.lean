/-! ===== the reference: chain, sums, sets ===== -/
def RRow (f : Nat → Int32) (c : CH) : Prop := f 0 = nI (cn c) ∧ (∀ i j, i < 8 → j < 8 → f (1 + 8 * i + j) = nI (cw c i j)) ∧ (∀ i, i < 8 → f (65 + i) = nI (cl c i)) ∧ (∀ i, i < 8 → f (73 + i) = nI (cr c i))
def RM (σ : US) (c : CH) : Prop := RRow (aA σ 0) c
theorem cl0 : (0 : Int32).toNatClampNeg = 0 := by decide
theorem vin0 {n : Nat} (h : 0 < n) (hn : n < 2 ^ 31) : vp_in 0 n := by rw [li0]; exact vp_in_nI h hn
theorem sI_orz (S : Nat → Bool) : nI (mk S) ||| 0 = nI (mk S) := by
  rw [show (0 : Int32) = nI (mk (fun _ => false)) from rfl, sI_or]
  exact congrArg nI (mk_congr (fun i _ => by simp))
theorem q12_in {a b d : Nat} (ha : a < 2 ^ 31) (hb : b < 2 ^ 31) (hd : d < 2 ^ 31) {Q : Int32 → Prop} (hQ : Q (bI (decide (b ≤ a ∧ a ≤ d)))) : wp_X12_in (nI a) (nI b) (nI d) Q := by
  unfold wp_X12_in
  refine pk_lt a b (fun h => bI_0 hQ (decide_eq_false (by omega))) (fun h => ?_)
  exact pk_lt d a (fun h => bI_0 hQ (decide_eq_false (by omega))) (fun h2 => bI_1 hQ (decide_eq_true ⟨h, h2⟩))
theorem in_neg {x : Int32} {d : Nat} (hd : d < 2 ^ 31) {Q : Int32 → Prop} (hx : x < 0) (hQ : Q 0) : wp_X12_in x 0 (nI d) Q := by
  unfold wp_X12_in
  exact ⟨fun _ => hQ, fun h => absurd hx h⟩
theorem q12_has {S : Nat → Bool} {i : Nat} (hi : i < 8) {Q : Int32 → Prop} (h : Q (bI (S i))) : wp_X12_has (nI (mk S)) (nI i) Q := by
  unfold wp_X12_has
  rw [sI_has S hi]
  cases hS : S i <;> rw [hS] at h
  · exact ⟨fun _ => h, fun hc => absurd hc (by decide)⟩
  · exact ⟨fun hc => absurd rfl hc, fun _ => h⟩
theorem nI_pred1 {n : Nat} (h : 0 < n) : nI n - 1 = nI (n - 1) := by rw [li1, pk_sub h]
section PM1
variable {σ : US} {c : CH}
theorem RM.n (h : RM σ c) : aA σ 0 0 = nI (cn c) := h.1
theorem q12_isState (h : RM σ c) (hn : cn c ≤ 8) {i : Nat} (hi : i < 2 ^ 31) {Q : Int32 → Prop} (hQ : Q (bI (decide (i < cn c)))) : wp_X12_isState (nI i) σ Q := by
  unfold wp_X12_isState
  refine ⟨vin0 (by decide) (by decide), ?_⟩
  rw [cl0, h.n]
  by_cases h0 : cn c = 0
  · have e : nI (cn c) - 1 = -1 := by rw [h0]; rfl
    rw [e]
    unfold wp_X12_in
    refine ⟨fun hc => absurd hc (by rw [li0, nI_ltI hi (by decide)]; omega), fun _ => ⟨fun _ => ⟨kbo0, bI_0 hQ (decide_eq_false (by omega))⟩, fun hc => ?_⟩⟩
    exfalso
    apply hc
    rw [Int32.lt_iff_toInt_lt, nI_toInt hi]
    have : (-1 : Int32).toInt = -1 := by decide
    rw [this]; omega
  · rw [nI_pred1 (by omega)]
    refine q12_in hi (by decide) (by omega) ?_
    refine ⟨kbo_bI _, ?_⟩
    have e : decide (0 ≤ i ∧ i ≤ cn c - 1) = decide (i < cn c) := by congr 1; apply propext; omega
    rw [e]; exact hQ
theorem q12_isStateN (h : RM σ c) (hn : cn c ≤ 8) {x : Int32} (hx : x < 0 ∨ nI (cn c) ≤ x) {Q : Int32 → Prop} (hQ : Q 0) : wp_X12_isState x σ Q := by
  rcases hx with hx | hx
  · unfold wp_X12_isState
    refine ⟨vin0 (by decide) (by decide), ?_⟩
    unfold wp_X12_in
    exact ⟨fun _ => ⟨kbo0, hQ⟩, fun hc => absurd hx hc⟩
  · have h0 : ¬ x < 0 := by
      intro hc
      rw [Int32.lt_iff_toInt_lt] at hc
      rw [Int32.le_iff_toInt_le, nI_toInt (by omega)] at hx
      have : (0 : Int32).toInt = 0 := by decide
      omega
    obtain ⟨j, hj, rfl⟩ := nI_of h0
    rw [nI_leI (by omega) hj] at hx
    exact q12_isState h hn hj (by rw [show decide (j < cn c) = false from decide_eq_false (by omega)]; exact hQ)
theorem q12_all (h : RM σ c) (hn : cn c ≤ 8) {Q : Int32 → Prop} (hQ : Q (nI (mk (fun j => decide (j < cn c))))) : wp_X12_all σ Q := by
  unfold wp_X12_all
  refine ⟨vin0 (by decide) (by decide), ?_⟩
  rw [cl0, h.n, sI_all0 _ hn]; exact hQ
theorem ixw {i j : Nat} : (1 + (8 * nI i)) + nI j = nI (1 + 8 * i + j) := by rw [li1, li8, pk_mul, nI_add, nI_add]
theorem ixl {i : Nat} : 65 + nI i = nI (65 + i) := by rw [li65, nI_add]
theorem ixr {i : Nat} : 73 + nI i = nI (73 + i) := by rw [li73, nI_add]
theorem rd_w (h : RM σ c) {i j : Nat} (hi : i < 8) (hj : j < 8) : vp_in (nI (1 + 8 * i + j)) 81 ∧ aA σ 0 (nI (1 + 8 * i + j)).toNatClampNeg = nI (cw c i j) := ⟨vp_in_nI (by omega) (by decide), by rw [nI_clamp (by omega)]; exact h.2.1 i j hi hj⟩
theorem rd_l (h : RM σ c) {i : Nat} (hi : i < 8) : vp_in (nI (65 + i)) 81 ∧ aA σ 0 (nI (65 + i)).toNatClampNeg = nI (cl c i) := ⟨vp_in_nI (by omega) (by decide), by rw [nI_clamp (by omega)]; exact h.2.2.1 i hi⟩
theorem rd_r (h : RM σ c) {i : Nat} (hi : i < 8) : vp_in (nI (73 + i)) 81 ∧ aA σ 0 (nI (73 + i)).toNatClampNeg = nI (cr c i) := ⟨vp_in_nI (by omega) (by decide), by rw [nI_clamp (by omega)]; exact h.2.2.2 i hi⟩
theorem rd_n (h : RM σ c) {A : Prop} (hA : A) : vp_in 0 81 ∧ A := ⟨vin0 (by decide) (by decide), hA⟩
theorem q12_toldSum (h : RM σ c) {i : Nat} (hi : i < 8) {Q : Int32 → Prop} (hQ : Q (nI (csum c i))) : wp_X12_toldSum (nI i) σ Q := by
  unfold wp_X12_toldSum
  refine lp_for 8 (fun j => (nI (sumN (cw c i) j), nI j)) (fun j hj P hP => ?_) (fun P => ?_)
  · unfold wp_X12_toldSum_L4
    refine pk_le 8 j (fun h => by omega) (fun _ => ?_)
    dsimp only
    rw [ixw]
    obtain ⟨h1, h2⟩ := rd_w h hi hj
    refine ⟨h1, fun x hx => ?_⟩
    rw [h2, nI_add] at hx; subst hx
    rw [nI_1]; exact hP
  · unfold wp_X12_toldSum_L4
    exact pk_le 8 8 (fun _ => hQ) (fun h => by omega)
theorem q12_sumOf (h : RM σ c) (ok : okC c) {i : Nat} (hi : i < 8) {Q : Int32 → Prop} (hQ : Q (nI (cdiv c i))) : wp_X12_sumOf (nI i) σ Q := by
  unfold wp_X12_sumOf
  refine q12_toldSum h hi ?_
  have h1 := ok.2.2.1 i
  unfold cdiv at hQ
  rw [li1]
  by_cases z : nI 1 < nI (csum c i)
  · rw [if_pos z]
    have h2 := z
    rw [nI_ltI (by decide) (by omega)] at h2
    rw [if_neg (by omega)] at hQ; exact hQ
  · rw [if_neg z]
    have h2 := z
    rw [nI_ltI (by decide) (by omega)] at h2
    split at hQ
    · exact hQ
    · have : csum c i = 1 := by omega
      rw [this] at hQ; exact hQ
theorem q12_weightOf (h : RM σ c) (ok : okC c) {i j : Nat} (hi : i < 8) (hj : j < 8) {Q : Int32 → Prop} (hQ : Q (nI (cst c i j))) : wp_X12_weightOf (nI i) (nI j) σ Q := by
  unfold wp_X12_weightOf
  have h1 := ok.2.2.1 i
  unfold cst at hQ
  have e : (nI i = nI j) ↔ i = j := nI_eq (by omega) (by omega)
  have jn : (¬ (i = j ∧ csum c i = 0)) → wp_X12_weightOf_J17 (nI i) (nI j) σ Q := fun hne => by
    unfold wp_X12_weightOf_J17
    rw [ixw]
    obtain ⟨h2, h3⟩ := rd_w h hi hj
    rw [h3]
    rw [if_neg hne] at hQ
    exact ⟨h2, hQ⟩
  refine ⟨fun hne => jn (fun z => hne (e.mpr z.1)), fun heq => q12_toldSum h hi ?_⟩
  have e2 : (nI (csum c i) = 0) ↔ csum c i = 0 := nI_eq (by omega) (by decide)
  refine ⟨fun hz => jn (fun z => hz (e2.mpr z.2)), fun hz => ?_⟩
  rw [if_pos ⟨e.mp heq, e2.mp hz⟩] at hQ; exact hQ
theorem stw_n (ok : okC c) {i : Nat} (hi : i < cn c) (S : Nat → Bool) : stw c i S = sumN (fun j => if S j then cst c i j else 0) (cn c) :=
  sumN_tail ok.1 (fun j h1 _ => by
    have : cst c i j = 0 := by
      unfold cst
      rw [if_neg (by omega)]
      exact ok.2.2.2.2.2.1 i j (Or.inr h1)
    rw [this]; split <;> rfl)
theorem q12_weightInto (h : RM σ c) (ok : okC c) {i : Nat} (hi : i < cn c) {S : Nat → Bool} {Q : Int32 → Prop} (hQ : Q (nI (stw c i S))) : wp_X12_weightInto (nI i) (nI (mk S)) σ Q := by
  unfold wp_X12_weightInto
  have hn := ok.1
  rw [stw_n ok hi] at hQ
  refine lp_for (cn c) (fun j => (nI (sumN (fun j => if S j then cst c i j else 0) j), nI j)) (fun j hj P hP => ?_) (fun P => ?_)
  · unfold wp_X12_weightInto_L5
    refine rd_n h ?_
    rw [cl0, h.n]
    refine pk_le (cn c) j (fun h => by omega) (fun _ => ?_)
    refine q12_has (by omega) (br_b (fun hb x hx => ?_) (fun hb => ?_))
    · dsimp only at hx ⊢
      rw [li0, nI_add, Nat.add_zero] at hx; subst hx
      rw [nI_1]
      rw [show sumN (fun j => if S j then cst c i j else 0) (j + 1) = sumN (fun j => if S j then cst c i j else 0) j from by rw [sumN, hb]; simp] at hP
      exact hP
    · refine q12_weightOf h ok (by omega) (by omega) (fun x hx => ?_)
      dsimp only at hx ⊢
      rw [nI_add] at hx; subst hx
      rw [nI_1]
      rw [show sumN (fun j => if S j then cst c i j else 0) (j + 1) = sumN (fun j => if S j then cst c i j else 0) j + cst c i j from by rw [sumN, hb]; simp] at hP
      exact hP
  · unfold wp_X12_weightInto_L5
    refine rd_n h ?_
    rw [cl0, h.n]
    exact pk_le (cn c) (cn c) (fun _ => hQ) (fun h => by omega)
theorem suc_iff {i j : Nat} : suc c i j = true ↔ 0 < cst c i j := by unfold suc; simp
/-- the inner pass: the steps from one state -/
theorem q12_reach_in (h : RM σ c) (ok : okC c) {T : Nat → Bool} {v : Nat} (hv : v < cn c) {v2 : Int32} {P6 P16 : Int32 × Int32 → Prop} {Q : Int32 → Prop} (hT : T v = true)
    (hP : P16 (nI (mk (fun b => T b || suc c v b)), nI (v + 1))) : lpW (wp_X12_reachOf_L30 v2 (nI v) σ P6 P16 Q) (nI (mk T), 0) := by
  have hn := ok.1
  have e0 : mk T = mk (fun b => T b || (decide (b < 0) && suc c v b)) := mk_congr (fun b _ => by simp)
  rw [e0]
  refine lp_for (cn c) (fun j => (nI (mk (fun b => T b || (decide (b < j) && suc c v b))), nI j)) (fun j hj P hPj => ?_) (fun P => ?_)
  · unfold wp_X12_reachOf_L30
    refine rd_n h ?_
    rw [cl0, h.n]
    refine pk_le (cn c) j (fun h => by omega) (fun _ => ?_)
    refine q12_has (by omega) (br_b (fun hb => by simp [hT] at hb) (fun hb => ?_))
    refine q12_weightOf h ok (by omega) (by omega) ?_
    have hw : cst c v j < 2 ^ 31 := by
      unfold cst; split
      · decide
      · have := ok.2.1 v j; omega
    refine pk_le (cst c v j) 0 (fun h0 x hx => ?_) (fun h0 x hx => ?_)
    · dsimp only at hx ⊢
      rw [sI_orz] at hx; subst hx
      rw [nI_1]
      have e : mk (fun b => T b || (decide (b < j) && suc c v b)) = mk (fun b => T b || (decide (b < j + 1) && suc c v b)) := mk_congr (fun b _ => by
        by_cases hbj : b = j
        · subst hbj
          have : suc c v b = false := by unfold suc; simp; omega
          simp [this]
        · have : decide (b < j) = decide (b < j + 1) := by congr 1; apply propext; omega
          rw [this])
      rw [e]; exact hPj
    · dsimp only at hx ⊢
      rw [sI_add _ (by omega)] at hx; subst hx
      rw [nI_1]
      have e : mk (fun b => (T b || (decide (b < j) && suc c v b)) || b == j) = mk (fun b => T b || (decide (b < j + 1) && suc c v b)) := mk_congr (fun b _ => by
        by_cases hbj : b = j
        · subst hbj
          have : suc c v b = true := suc_iff.mpr (by omega)
          simp [this]
        · have h1 : decide (b < j) = decide (b < j + 1) := by congr 1; apply propext; omega
          have h2 : (b == j) = false := by simp [hbj]
          rw [h1, h2, Bool.or_false])
      rw [e]; exact hPj
  · unfold wp_X12_reachOf_L30
    refine rd_n h ?_
    rw [cl0, h.n]
    refine pk_le (cn c) (cn c) (fun _ => ?_) (fun h => by omega)
    rw [nI_1]
    have e : mk (fun b => T b || (decide (b < cn c) && suc c v b)) = mk (fun b => T b || suc c v b) := mk_congr (fun b _ => by
      cases hs : suc c v b with
      | false => simp
      | true => simp [suc_lt ok hv hs])
    dsimp only
    rw [e]; exact hP
theorem q12_reach_in0 (h : RM σ c) (ok : okC c) {T : Nat → Bool} {v : Nat} (hv : v < cn c) {v2 : Int32} {P6 P16 : Int32 × Int32 → Prop} {Q : Int32 → Prop} (hT : T v = false)
    (hP : P16 (nI (mk T), nI (v + 1))) : lpW (wp_X12_reachOf_L30 v2 (nI v) σ P6 P16 Q) (nI (mk T), 0) := by
  have hn := ok.1
  refine lpW_of (fun _ t => t = (nI (mk T), 0)) ?_ 0 _ rfl
  rintro k t rfl P _
  unfold wp_X12_reachOf_L30
  refine rd_n h ?_
  rw [cl0, h.n]
  refine pk_le (cn c) 0 (fun h => by omega) (fun _ => ?_)
  refine q12_has (by omega) (br_b (fun hb => ?_) (fun hb => by rw [hT] at hb; cases hb))
  rw [nI_1]; exact hP
theorem q12_pass (h : RM σ c) (ok : okC c) {T : Nat → Bool} (hT : ∀ b, T b = true → b < cn c) {P6 : Int32 × Int32 → Prop} {Q : Int32 → Prop}
    (hP : ∀ T' : Nat → Bool, (∀ b, T b = true → T' b = true) → (∀ b, T' b = true → b < cn c) → (∀ S : Nat → Bool, (∀ b, T b = true → S b = true) → Closed c S → ∀ b, T' b = true → S b = true) → (∀ a b, a < cn c → T a = true → suc c a b = true → T' b = true) → (mk T' = mk T → P6 (nI (mk T'), 0)) ∧ (mk T' ≠ mk T → P6 (nI (mk T'), 1))) :
    lpW (wp_X12_reachOf_L16 (nI (mk T)) σ P6 Q) (nI (mk T), 0) := by
  have hn := ok.1
  refine lp_inv (cn c) (fun j t => ∃ T' : Nat → Bool, t = (nI (mk T'), nI j) ∧ (∀ b, T b = true → T' b = true) ∧ (∀ b, T' b = true → b < cn c) ∧ (∀ S : Nat → Bool, (∀ b, T b = true → S b = true) → Closed c S → ∀ b, T' b = true → S b = true) ∧ (∀ a b, a < j → T a = true → suc c a b = true → T' b = true)) ?_ _ ⟨T, rfl, fun _ z => z, hT, fun S z _ => z, fun a b z => by omega⟩
  rintro j t hj ⟨T', rfl, h1, h2, h3, h4⟩ P hPP
  unfold wp_X12_reachOf_L16
  refine rd_n h ?_
  rw [cl0, h.n]
  refine pk_le (cn c) j (fun hj2 => ?_) (fun hj2 => ?_)
  · have : j = cn c := by omega
    subst this
    obtain ⟨p1, p2⟩ := hP T' h1 h2 h3 h4
    have m1 := mk_lt T
    have m2 := mk_lt T'
    dsimp only
    rw [nI_eq (by omega) (by omega)]
    exact ⟨p1, p2⟩
  · dsimp only
    cases hb : T' j with
    | false =>
      refine q12_reach_in0 h ok hj2 hb ?_
      refine hPP hj2 _ ⟨T', rfl, h1, h2, h3, fun a b ha hTa hs => ?_⟩
      rcases Nat.lt_or_ge a j with h5 | h5
      · exact h4 a b h5 hTa hs
      · have : a = j := by omega
        subst this
        rw [h1 a hTa] at hb; cases hb
    | true =>
      refine q12_reach_in h ok hj2 hb ?_
      refine hPP hj2 _ ⟨fun b => T' b || suc c j b, rfl, fun b z => by simp [h1 b z], fun b z => ?_, fun S z1 z2 b z3 => ?_, fun a b ha hTa hs => ?_⟩
      · rcases Bool.or_eq_true _ _ |>.mp z with z | z
        · exact h2 b z
        · exact suc_lt ok hj2 z
      · rcases Bool.or_eq_true _ _ |>.mp z3 with z | z
        · exact h3 S z1 z2 b z
        · exact z2 j b hj2 (suc_lt ok hj2 z) (h3 S z1 z2 j hb) z
      · rcases Nat.lt_or_ge a j with h5 | h5
        · simp [h4 a b h5 hTa hs]
        · have : a = j := by omega
          subst this
          simp [hs]
theorem card_grow {T T' : Nat → Bool} (a1 : ∀ b, T b = true → T' b = true) (hne : mk T' ≠ mk T) : card T + 1 ≤ card T' := by
  have hc : ¬ ∀ b, b < 8 → T b = T' b := fun z => hne (mk_congr (fun b hb => (z b hb).symm))
  obtain ⟨b, hb, hne2⟩ := ne_wit hc
  have hf : T b = false := by
    cases hTb : T b with
    | false => rfl
    | true => exact absurd (hTb.trans (a1 b hTb).symm) hne2
  have ht : T' b = true := by
    cases hTb : T' b with
    | true => rfl
    | false => exact absurd (hf.trans hTb.symm) hne2
  exact card_lt a1 hb hf ht
theorem card_8 (T : Nat → Bool) : card T ≤ 8 := by
  unfold card
  exact Nat.le_trans (sumN_le (b := 1) (fun i _ => by split <;> omega)) (by decide)
theorem q12_reachOf (h : RM σ c) (ok : okC c) {i : Nat} (hi : i < cn c) {Q : Int32 → Prop} (hQ : Q (nI (mk (rch c i)))) : wp_X12_reachOf (nI i) σ Q := by
  unfold wp_X12_reachOf
  have hn := ok.1
  intro x hx
  rw [sI_one0 i (by omega)] at hx; subst hx
  refine lpW_of (fun k t => ∃ (T : Nat → Bool) (m : Nat), t = (nI (mk T), nI m) ∧ m ≤ 1 ∧ T i = true ∧ (∀ b, T b = true → b < cn c) ∧ (∀ S : Nat → Bool, S i = true → Closed c S → ∀ b, T b = true → S b = true) ∧ (m = 0 → Closed c T) ∧ (m = 1 → 8 - card T + 1 ≤ k)) ?_ 9 _ ⟨fun j => j == i, 1, rfl, by omega, by simp, fun b z => by simp at z; omega, fun S z _ b zb => by simp at zb; subst zb; exact z, fun z => by omega, fun _ => by omega⟩
  rintro k t ⟨T, m, rfl, hm, h1, h2, h3, h4, h5⟩ P hPP
  unfold wp_X12_reachOf_L6
  refine pk_eq m 0 (fun hm0 => ?_) (fun hm0 => ?_)
  · have hcl := h4 hm0
    have e : mk T = mk (rch c i) := mk_congr (fun b hb => by
      rw [Bool.eq_iff_iff, rch_iff]
      exact ⟨fun z => ⟨fun S z1 z2 => h3 S z1 z2 b z, h2 b z⟩, fun z => z.1 T h1 hcl⟩)
    dsimp only; rw [e]; exact hQ
  · refine q12_pass h ok h2 (fun T' a1 a2 a3 a4 => ⟨fun he => ?_, fun he => ?_⟩)
    · refine hPP _ (k - 1) (by have := h5 (by omega); omega) ⟨T', 0, rfl, by omega, a1 i h1, a2, fun S z1 z2 => a3 S (h3 S z1 z2) z2, fun _ => ?_, fun z => by omega⟩
      intro a b ha hb z1 z2
      refine a4 a b ha ?_ z2
      rw [← mk_inj he (by omega)]; exact z1
    · have hg := card_grow a1 he
      have h8 := card_8 T'
      exact hPP _ (k - 1) (by have := h5 (by omega); omega) ⟨T', 1, rfl, by omega, a1 i h1, a2, fun S z1 z2 => a3 S (h3 S z1 z2) z2, fun z => by omega, fun _ => by have := h5 (by omega); omega⟩
end PM1
