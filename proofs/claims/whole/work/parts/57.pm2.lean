/-! ===== the reference: components, until, classes ===== -/
section PM2
variable {σ : US} {c : CH}
theorem q12_componentOf (h : RM σ c) (ok : okC c) {i : Nat} (hi : i < cn c) {Q : Int32 → Prop} (hQ : Q (nI (mk (cmp c i)))) : wp_X12_componentOf (nI i) σ Q := by
  unfold wp_X12_componentOf
  have hn := ok.1
  refine q12_reachOf h ok hi ?_
  rw [show (0 : Int32) = nI (mk (fun o => decide (o < 0) && cmp c i o)) from mk_none]
  refine lp_for (cn c) (fun j => (nI (mk (fun o => decide (o < j) && cmp c i o)), nI j)) (fun j hj P hP => ?_) (fun P => ?_)
  · unfold wp_X12_componentOf_L11
    refine rd_n h ?_
    rw [cl0, h.n]
    refine pk_le (cn c) j (fun h => by omega) (fun _ => ?_)
    refine q12_has (by omega) (br_b (fun hb x hx => ?_) (fun hb => ?_))
    · dsimp only at hx ⊢
      rw [sI_orz] at hx; subst hx
      rw [nI_1, mk_step0 (S := cmp c i) (by simp [cmp, hb])]; exact hP
    · refine q12_reachOf h ok hj (q12_has (by omega) (br_b (fun hb2 x hx => ?_) (fun hb2 x hx => ?_)))
      · dsimp only at hx ⊢
        rw [sI_orz] at hx; subst hx
        rw [nI_1, mk_step0 (S := cmp c i) (by simp [cmp, hb2])]; exact hP
      · dsimp only at hx ⊢
        rw [sI_add _ (by omega)] at hx; subst hx
        rw [nI_1, mk_step1 (S := cmp c i) (by simp [cmp, hb, hb2])]; exact hP
  · unfold wp_X12_componentOf_L11
    refine rd_n h ?_
    rw [cl0, h.n]
    refine pk_le (cn c) (cn c) (fun _ => ?_) (fun h => by omega)
    dsimp only
    rw [mk_all (S := cmp c i) (fun o ho => by simp [cmp, rch_iff] at ho; exact ho.1.2)]; exact hQ
theorem q12_isBottom (h : RM σ c) (ok : okC c) {i : Nat} (hi : i < cn c) {Q : Int32 → Prop} (hQ : Q (bI (bot c i))) : wp_X12_isBottom (nI i) σ Q := by
  unfold wp_X12_isBottom
  refine q12_componentOf h ok hi (q12_reachOf h ok hi ?_)
  have e : (nI (mk (cmp c i)) = nI (mk (rch c i))) ↔ bot c i = true := by
    rw [sI_eq]
    unfold bot
    simp only [hi, decide_true, Bool.true_and, pd_iff]
    constructor
    · intro z o ho
      have h1 := z o (by have := (rch_iff.mp ho).2; have := ok.1; omega)
      unfold cmp at h1
      rw [ho] at h1
      simpa using h1
    · intro z o ho
      unfold cmp
      cases hr : rch c i o with
      | false => rfl
      | true => simp [z o hr]
  rw [e]
  cases hb : bot c i with
  | false => rw [hb] at hQ; exact ⟨fun _ => hQ, fun z => by cases z⟩
  | true => rw [hb] at hQ; exact ⟨fun z => absurd rfl z, fun _ => hQ⟩
theorem q12_bottoms (h : RM σ c) (ok : okC c) {Q : Int32 → Prop} (hQ : Q (nI (mk (bot c)))) : wp_X12_bottoms σ Q := by
  unfold wp_X12_bottoms
  have hn := ok.1
  rw [show (0 : Int32) = nI (mk (fun o => decide (o < 0) && bot c o)) from mk_none]
  refine lp_for (cn c) (fun j => (nI (mk (fun o => decide (o < j) && bot c o)), nI j)) (fun j hj P hP => ?_) (fun P => ?_)
  · unfold wp_X12_bottoms_L4
    refine rd_n h ?_
    rw [cl0, h.n]
    refine pk_le (cn c) j (fun h => by omega) (fun _ => ?_)
    refine q12_isBottom h ok hj (br_b (fun hb x hx => ?_) (fun hb x hx => ?_))
    · dsimp only at hx ⊢
      rw [sI_orz] at hx; subst hx
      rw [nI_1, mk_step0 hb]; exact hP
    · dsimp only at hx ⊢
      rw [sI_add _ (by omega)] at hx; subst hx
      rw [nI_1, mk_step1 hb]; exact hP
  · unfold wp_X12_bottoms_L4
    refine rd_n h ?_
    rw [cl0, h.n]
    refine pk_le (cn c) (cn c) (fun _ => ?_) (fun h => by omega)
    dsimp only
    rw [mk_all (S := bot c) (fun o ho => by unfold bot at ho; simp at ho; exact ho.1)]; exact hQ
/-- one pass: those of F that step into T are added -/
theorem stw_pos (ok : okC c) {i : Nat} (hi : i < cn c) (S : Nat → Bool) : 0 < stw c i S ↔ ∃ b, b < cn c ∧ S b = true ∧ suc c i b = true := by
  rw [stw_n ok hi]
  constructor
  · intro hp
    false_or_by_contra
    rename_i hc
    have : sumN (fun j => if S j then cst c i j else 0) (cn c) = 0 := sumN_zero (fun j hj => by
      cases hS : S j with
      | false => simp
      | true =>
        have : ¬ suc c i j = true := fun z => hc ⟨j, hj, hS, z⟩
        rw [suc_iff] at this
        simp; omega)
    omega
  · rintro ⟨b, hb, hS, hs⟩
    have := sumN_get (f := fun j => if S j then cst c i j else 0) hb
    simp only [hS, if_true] at this
    have := suc_iff.mp hs
    omega
theorem canSet {F G T : Nat → Bool} (h1 : ∀ b, G b = true → T b = true) (h2 : ∀ b, T b = true → b < cn c) (h3 : ∀ S : Nat → Bool, (∀ b, G b = true → S b = true) → CanCl c F S → ∀ b, T b = true → S b = true) (hcl : CanCl c F T) : ∀ b, T b = can c F G b := fun b => by
  rw [Bool.eq_iff_iff, can_iff]
  exact ⟨fun z => ⟨fun S z1 z2 => h3 S z1 z2 b z, h2 b z⟩, fun z => z.1 T h1 hcl⟩
/-- a pass of the until: from T, over the states, T' gains those of F with a step into T -/
def Gain (c : CH) (F T : Nat → Bool) (j b : Nat) : Bool := T b || (decide (b < j) && (F b && decide (0 < stw c b T)))
theorem gain0 {F T : Nat → Bool} : mk (Gain c F T 0) = mk T := mk_congr (fun b _ => by simp [Gain])
theorem gain_s0 {F T : Nat → Bool} {j : Nat} (h : (F j && decide (0 < stw c j T)) = false) : mk (Gain c F T j) = mk (Gain c F T (j + 1)) := mk_congr (fun b _ => by
  unfold Gain
  by_cases hb : b = j
  · subst hb; rw [h]; simp
  · have : decide (b < j) = decide (b < j + 1) := by congr 1; apply propext; omega
    rw [this])
theorem gain_s1 {F T : Nat → Bool} {j : Nat} (h : (F j && decide (0 < stw c j T)) = true) : mk (fun b => Gain c F T j b || b == j) = mk (Gain c F T (j + 1)) := mk_congr (fun b _ => by
  unfold Gain
  by_cases hb : b = j
  · subst hb; rw [h]; simp
  · have h1 : decide (b < j) = decide (b < j + 1) := by congr 1; apply propext; omega
    have h2 : (b == j) = false := by simp [hb]
    rw [h1, h2, Bool.or_false])
theorem gain_all (ok : okC c) {F T : Nat → Bool} (hT : ∀ b, T b = true → b < cn c) {S : Nat → Bool} (h1 : ∀ b, T b = true → S b = true) (h2 : CanCl c F S) (b : Nat) (hb : Gain c F T (cn c) b = true) : S b = true := by
  unfold Gain at hb
  rcases Bool.or_eq_true _ _ |>.mp hb with hb | hb
  · exact h1 b hb
  · simp at hb
    obtain ⟨hb1, hb2, hb3⟩ := hb
    obtain ⟨o, ho, hTo, hs⟩ := (stw_pos ok hb1 T).mp hb3
    exact h2 b o hb1 ho hb2 (h1 o hTo) hs
theorem gain_cl (ok : okC c) {F T : Nat → Bool} (he : mk (Gain c F T (cn c)) = mk T) : CanCl c F T := by
  intro a b ha hb hF hTb hs
  have h1 : Gain c F T (cn c) a = true := by
    unfold Gain
    have h2 : 0 < stw c a T := (stw_pos ok ha T).mpr ⟨b, hb, hTb, hs⟩
    simp [ha, hF, h2]
  rw [← mk_inj he (by have := ok.1; omega)]; exact h1
/-- the closing argument of both loops of the until -/
theorem until_loop (ok : okC c) {F G : Nat → Bool} (hG : ∀ b, G b = true → b < cn c) {body : (Int32 × Int32 → Prop) → Int32 × Int32 → Prop}
    (hend : ∀ P : Int32 × Int32 → Prop, body P (nI (mk (can c F G)), 0))
    (hpass : ∀ (T : Nat → Bool) (P : Int32 × Int32 → Prop), (∀ b, T b = true → b < cn c) → (mk (Gain c F T (cn c)) = mk T → P (nI (mk (Gain c F T (cn c))), 0)) → (mk (Gain c F T (cn c)) ≠ mk T → P (nI (mk (Gain c F T (cn c))), 1)) → body P (nI (mk T), 1)) : lpW body (nI (mk G), 1) := by
  refine lpW_of (fun k t => ∃ (T : Nat → Bool) (m : Nat), t = (nI (mk T), nI m) ∧ m ≤ 1 ∧ (∀ b, G b = true → T b = true) ∧ (∀ b, T b = true → b < cn c) ∧ (∀ S : Nat → Bool, (∀ b, G b = true → S b = true) → CanCl c F S → ∀ b, T b = true → S b = true) ∧ (m = 0 → CanCl c F T) ∧ (m = 1 → 8 - card T + 1 ≤ k)) ?_ 9 _ ⟨G, 1, rfl, by omega, fun _ z => z, hG, fun S z _ b zb => z b zb, fun z => by omega, fun _ => by omega⟩
  rintro k t ⟨T, m, rfl, hm, h1, h2, h3, h4, h5⟩ P hPP
  have h2' : ∀ b, Gain c F T (cn c) b = true → b < cn c := fun b hb => by
    unfold Gain at hb
    rcases Bool.or_eq_true _ _ |>.mp hb with hb | hb
    · exact h2 b hb
    · simp at hb; exact hb.1
  have a1 : ∀ b, T b = true → Gain c F T (cn c) b = true := fun b hb => by unfold Gain; simp [hb]
  rcases (show m = 0 ∨ m = 1 by omega) with rfl | rfl
  · have e : mk T = mk (can c F G) := mk_congr (fun b _ => canSet h1 h2 h3 (h4 rfl) b)
    rw [e]; exact hend P
  · refine hpass T P h2 (fun he => ?_) (fun he => ?_)
    · have hk := h5 rfl
      refine hPP _ (k - 1) (by omega) ⟨Gain c F T (cn c), 0, rfl, by omega, fun b hb => a1 b (h1 b hb), h2', fun S z1 z2 => gain_all ok h2 (h3 S z1 z2) z2, fun _ => ?_, fun z => by omega⟩
      intro a b ha hb hF hTb hs
      have hn := ok.1
      exact a1 a (gain_cl ok he a b ha hb hF (by rw [← mk_inj he (by omega)]; exact hTb) hs)
    · have hk := h5 rfl
      have hg := card_grow a1 he
      have h8 := card_8 (Gain c F T (cn c))
      exact hPP _ (k - 1) (by omega) ⟨Gain c F T (cn c), 1, rfl, by omega, fun b hb => a1 b (h1 b hb), h2', fun S z1 z2 => gain_all ok h2 (h3 S z1 z2) z2, fun z => by omega, fun _ => by omega⟩
theorem q12_neverOf (h : RM σ c) (ok : okC c) {F G : Nat → Bool} (hG : ∀ b, G b = true → b < cn c) {Q : Int32 → Prop} (hQ : Q (nI (mk (nev c F G)))) : wp_X12_neverOf (nI (mk F)) (nI (mk G)) σ Q := by
  unfold wp_X12_neverOf
  have hn := ok.1
  refine until_loop ok (F := F) hG (fun P => ?_) (fun T P hT p1 p2 => ?_)
  · unfold wp_X12_neverOf_L5
    refine ⟨fun _ => q12_all h hn ?_, fun z => absurd rfl z⟩
    dsimp only
    rw [sI_diff]; exact hQ
  · unfold wp_X12_neverOf_L5
    refine ⟨fun z => absurd z (show ¬ ((1 : Int32) = 0) by decide), fun _ => ?_⟩
    dsimp only
    have e0 : lpW (wp_X12_neverOf_L16 (nI (mk F)) (nI (mk T)) σ P Q) (nI (mk (Gain c F T 0)), 0) := by
      refine lp_for (cn c) (fun j => (nI (mk (Gain c F T j)), nI j)) (fun j hj P2 hP2 => ?_) (fun P2 => ?_)
      · unfold wp_X12_neverOf_L16
        refine rd_n h ?_
        rw [cl0, h.n]
        refine pk_le (cn c) j (fun h => by omega) (fun _ => ?_)
        have hsl := stw_le ok (i := j) (by omega) T
        have hdl := cdiv_le ok j
        refine q12_has (by omega) (br_b (fun hb x hx => ?_) (fun hb => q12_weightInto h ok hj ?_))
        · dsimp only at hx ⊢
          rw [sI_orz] at hx; subst hx
          rw [nI_1, gain_s0 (by simp [hb])]; exact hP2
        · refine pk_le (stw c j T) 0 (fun hz x hx => ?_) (fun hz x hx => ?_)
          · dsimp only at hx ⊢
            rw [sI_orz] at hx; subst hx
            rw [nI_1, gain_s0 (by simp; omega)]; exact hP2
          · dsimp only at hx ⊢
            rw [sI_add _ (by omega)] at hx; subst hx
            rw [nI_1, gain_s1 (by simp [hb]; omega)]; exact hP2
      · unfold wp_X12_neverOf_L16
        refine rd_n h ?_
        rw [cl0, h.n]
        refine pk_le (cn c) (cn c) (fun _ => ?_) (fun h => by omega)
        dsimp only
        have m1 := mk_lt T
        have m2 := mk_lt (Gain c F T (cn c))
        rw [nI_eq (by omega) (by omega)]
        exact ⟨p1, p2⟩
    rw [gain0] at e0; exact e0
theorem q12_surelyOf (h : RM σ c) (ok : okC c) {F G : Nat → Bool} (hG : ∀ b, G b = true → b < cn c) {Q : Int32 → Prop} (hQ : Q (nI (mk (sur c F G)))) : wp_X12_surelyOf (nI (mk F)) (nI (mk G)) σ Q := by
  unfold wp_X12_surelyOf
  have hn := ok.1
  refine q12_neverOf h ok hG ?_
  have hout : ∀ a, a < cn c → G a = false → F a = false → nev c F G a = true := fun a ha hg hf => by
    have : can c F G a = false := by
      cases hc : can c F G a with
      | false => rfl
      | true =>
        have := (can_iff.mp hc).1 (fun x => G x || F x) (fun b hb => by simp [hb]) (fun x y _ _ hx _ _ => by simp [hx])
        simp [hg, hf] at this
    unfold nev
    simp [ha, this]
  have hcan : ∀ b, can c (fun i => !G i) (nev c F G) b = can c (fun i => F i && !G i) (nev c F G) b := fun b => by
    rw [Bool.eq_iff_iff, can_iff, can_iff]
    refine and_congr_left (fun _ => ⟨fun z S z1 z2 => z S z1 (fun x y hx hy h1 h2 h3 => ?_), fun z S z1 z2 => z S z1 (fun x y hx hy h1 h2 h3 => z2 x y hx hy (by simp at h1; simp [h1.2]) h2 h3)⟩)
    simp at h1
    cases hf : F x with
    | true => exact z2 x y hx hy (by simp [hf, h1]) h2 h3
    | false => exact z1 x (hout x hx h1 hf)
  refine until_loop ok (F := fun i => !G i) nev_lt (fun P => ?_) (fun T P hT p1 p2 => ?_)
  · unfold wp_X12_surelyOf_L10
    refine ⟨fun _ => q12_all h hn ?_, fun z => absurd rfl z⟩
    dsimp only
    rw [sI_diff]
    have e : mk (fun i => decide (i < cn c) && !can c (fun i => !G i) (nev c F G) i) = mk (sur c F G) := mk_congr (fun i _ => by unfold sur; rw [hcan])
    rw [e]; exact hQ
  · unfold wp_X12_surelyOf_L10
    refine ⟨fun z => absurd z (show ¬ ((1 : Int32) = 0) by decide), fun _ => ?_⟩
    dsimp only
    have e0 : lpW (wp_X12_surelyOf_L21 (nI (mk G)) (nI (mk T)) σ P Q) (nI (mk (Gain c (fun i => !G i) T 0)), 0) := by
      refine lp_for (cn c) (fun j => (nI (mk (Gain c (fun i => !G i) T j)), nI j)) (fun j hj P2 hP2 => ?_) (fun P2 => ?_)
      · unfold wp_X12_surelyOf_L21
        refine rd_n h ?_
        rw [cl0, h.n]
        refine pk_le (cn c) j (fun h => by omega) (fun _ => ?_)
        have hsl := stw_le ok (i := j) (by omega) T
        have hdl := cdiv_le ok j
        refine q12_has (by omega) (br_n (fun hb => q12_weightInto h ok hj ?_) (fun hb x hx => ?_))
        · refine pk_le (stw c j T) 0 (fun hz x hx => ?_) (fun hz x hx => ?_)
          · dsimp only at hx ⊢
            rw [sI_orz] at hx; subst hx
            rw [nI_1, gain_s0 (by simp; omega)]; exact hP2
          · dsimp only at hx ⊢
            rw [sI_add _ (by omega)] at hx; subst hx
            rw [nI_1, gain_s1 (by simp [hb]; omega)]; exact hP2
        · dsimp only at hx ⊢
          rw [sI_orz] at hx; subst hx
          rw [nI_1, gain_s0 (by simp [hb])]; exact hP2
      · unfold wp_X12_surelyOf_L21
        refine rd_n h ?_
        rw [cl0, h.n]
        refine pk_le (cn c) (cn c) (fun _ => ?_) (fun h => by omega)
        dsimp only
        have m1 := mk_lt T
        have m2 := mk_lt (Gain c (fun i => !G i) T (cn c))
        rw [nI_eq (by omega) (by omega)]
        exact ⟨p1, p2⟩
    rw [gain0] at e0; exact e0
end PM2
