/-! ===== Chain: components, until ===== -/
noncomputable def pd (p : Prop) : Bool := @decide p (Classical.propDecidable p)
theorem pd_iff {p : Prop} : pd p = true ↔ p := @decide_eq_true_iff p (Classical.propDecidable p)
theorem pd_f {p : Prop} : pd p = false ↔ ¬ p := @decide_eq_false_iff_not p (Classical.propDecidable p)
/-- a set grows by one bit -/
theorem mk_grow {S : Nat → Bool} {j : Nat} {b : Bool} : (b = false → mk (fun o => decide (o < j) && S o) = mk (fun o => decide (o < j) && S o)) := fun _ => rfl
theorem mk_step0 {S : Nat → Bool} {j : Nat} (h : S j = false) : mk (fun o => decide (o < j) && S o) = mk (fun o => decide (o < j + 1) && S o) := mk_congr (fun o _ => by
  by_cases ho : o = j
  · subst ho; simp [h]
  · have : decide (o < j) = decide (o < j + 1) := by congr 1; apply propext; omega
    rw [this])
theorem mk_step1 {S : Nat → Bool} {j : Nat} (h : S j = true) : mk (fun o => (decide (o < j) && S o) || o == j) = mk (fun o => decide (o < j + 1) && S o) := mk_congr (fun o _ => by
  by_cases ho : o = j
  · subst ho; simp [h]
  · have h1 : decide (o < j) = decide (o < j + 1) := by congr 1; apply propext; omega
    have h2 : (o == j) = false := by simp [ho]
    rw [h1, h2, Bool.or_false])
theorem mk_none {S : Nat → Bool} : (0 : Int32) = nI (mk (fun o => decide (o < 0) && S o)) := by
  rw [show (0 : Int32) = nI (mk (fun _ => false)) from rfl]
  exact congrArg nI (mk_congr (fun o _ => by simp))
theorem mk_all {S : Nat → Bool} {n : Nat} (h : ∀ o, S o = true → o < n) : mk (fun o => decide (o < n) && S o) = mk S := mk_congr (fun o _ => by
  cases hS : S o with
  | false => simp
  | true => simp [h o hS])
noncomputable def cmp (c : CH) (i o : Nat) : Bool := rch c i o && rch c o i
/-- the goal, and those of F from which steps through F come to it -/
def CanCl (c : CH) (F S : Nat → Bool) : Prop := ∀ a b, a < cn c → b < cn c → F a = true → S b = true → suc c a b = true → S a = true
def Can (c : CH) (F G : Nat → Bool) (j : Nat) : Prop := ∀ S : Nat → Bool, (∀ b, G b = true → S b = true) → CanCl c F S → S j = true
noncomputable def can (c : CH) (F G : Nat → Bool) (j : Nat) : Bool := pd (Can c F G j ∧ j < cn c)
theorem can_iff {c : CH} {F G : Nat → Bool} {j : Nat} : can c F G j = true ↔ Can c F G j ∧ j < cn c := by exact pd_iff
noncomputable def nev (c : CH) (F G : Nat → Bool) (j : Nat) : Bool := decide (j < cn c) && !can c F G j
noncomputable def sur (c : CH) (F G : Nat → Bool) (j : Nat) : Bool := decide (j < cn c) && !can c (fun i => F i && !G i) (nev c F G) j
noncomputable def bot (c : CH) (i : Nat) : Bool := decide (i < cn c) && pd (∀ o, rch c i o = true → rch c o i = true)
section PX2S
variable {κ : US} {c : CH}
theorem q2_componentOf (h : RC κ c) (ok : okC c) {i : Nat} (hi : i < cn c) {Q : Int32 → Prop} (hQ : Q (nI (mk (cmp c i)))) : wp_X2_componentOf (nI i) κ Q := by
  unfold wp_X2_componentOf
  have hn := ok.1
  refine q2_reachedFrom h ok hi ?_
  rw [show (0 : Int32) = nI (mk (fun o => decide (o < 0) && cmp c i o)) from mk_none]
  refine lp_for (cn c) (fun j => (nI (mk (fun o => decide (o < j) && cmp c i o)), nI j)) (fun j hj P hP => ?_) (fun P => ?_)
  · unfold wp_X2_componentOf_L11
    refine pk_le (cn c) j (fun h => by omega) (fun _ => ?_) h.1
    refine q_contains (by omega) ?_
    refine br_b (fun hb => ?_) (fun hb => ?_)
    · dsimp only; rw [nI_1, mk_step0 (by simp [cmp, hb])]; exact hP
    · refine q2_reachedFrom h ok hj ?_
      refine q_contains (by omega) ?_
      refine br_b (fun hb2 => ?_) (fun hb2 => ?_)
      · dsimp only; rw [nI_1, mk_step0 (by simp [cmp, hb2])]; exact hP
      · intro x hx
        dsimp only at hx ⊢
        rw [sI_add _ (by omega)] at hx; subst hx
        rw [nI_1, mk_step1 (by simp [cmp, hb, hb2])]; exact hP
  · unfold wp_X2_componentOf_L11
    refine pk_le (cn c) (cn c) (fun _ => ?_) (fun h => by omega) h.1
    dsimp only
    rw [mk_all (fun o ho => by simp [cmp, rch_iff] at ho; exact ho.1.2)]; exact hQ
theorem q2_bottomStates (h : RC κ c) (ok : okC c) {Q : Int32 → Prop} (hQ : Q (nI (mk (bot c)))) : wp_X2_bottomStates κ Q := by
  unfold wp_X2_bottomStates
  have hn := ok.1
  refine q2_all h hn ?_
  have e0 : mk (fun j => decide (j < cn c)) = mk (fun o => decide (o < cn c) && (decide (¬ o < 0) || bot c o)) := mk_congr (fun o _ => by simp)
  rw [e0]
  refine lp_for (cn c) (fun j => (nI (mk (fun o => decide (o < cn c) && (decide (¬ o < j) || bot c o))), nI j)) (fun j hj P hP => ?_) (fun P => ?_)
  · unfold wp_X2_bottomStates_L7
    refine pk_le (cn c) j (fun h => by omega) (fun _ => ?_) h.1
    refine q2_reachedFrom h ok hj ?_
    have e1 : mk (fun o => decide (o < cn c) && (decide (¬ o < j) || bot c o)) = mk (fun o => (decide (o < cn c) && (decide (¬ o < j) || bot c o)) && !(o == j && pd (∃ q, q < 0 ∧ rch c j q = true ∧ rch c q j = false))) := mk_congr (fun o _ => by
      have : pd (∃ q, q < 0 ∧ rch c j q = true ∧ rch c q j = false) = false := pd_f.mpr (fun ⟨q, z, _⟩ => by omega)
      rw [this]; simp)
    dsimp only
    rw [e1]
    refine lp_for (cn c) (fun k => (nI (mk (fun o => (decide (o < cn c) && (decide (¬ o < j) || bot c o)) && !(o == j && pd (∃ q, q < k ∧ rch c j q = true ∧ rch c q j = false)))), nI k)) (fun k hk P2 hP2 => ?_) (fun P2 => ?_)
    · have keep : (rch c j k = true → rch c k j = true) → mk (fun o => (decide (o < cn c) && (decide (¬ o < j) || bot c o)) && !(o == j && pd (∃ q, q < k ∧ rch c j q = true ∧ rch c q j = false))) = mk (fun o => (decide (o < cn c) && (decide (¬ o < j) || bot c o)) && !(o == j && pd (∃ q, q < k + 1 ∧ rch c j q = true ∧ rch c q j = false))) := fun hk2 => mk_congr (fun o _ => by
        have : (∃ q, q < k ∧ rch c j q = true ∧ rch c q j = false) = (∃ q, q < k + 1 ∧ rch c j q = true ∧ rch c q j = false) := by
          apply propext
          constructor
          · rintro ⟨q, z1, z2, z3⟩; exact ⟨q, by omega, z2, z3⟩
          · rintro ⟨q, z1, z2, z3⟩
            have : q ≠ k := fun z => by subst z; rw [hk2 z2] at z3; cases z3
            exact ⟨q, by omega, z2, z3⟩
        rw [this])
      unfold wp_X2_bottomStates_L24
      refine pk_le (cn c) k (fun h => by omega) (fun _ => ?_) h.1
      refine q_contains (by omega) ?_
      refine br_b (fun hb => ?_) (fun hb => ?_)
      · dsimp only; rw [nI_1, keep (fun z => by rw [z] at hb; cases hb)]; exact hP2
      · refine q2_reachedFrom h ok hk ?_
        refine q_contains (by omega) ?_
        refine br_n (fun hb2 => ?_) (fun hb2 => ?_)
        · intro x hx
          dsimp only at hx ⊢
          rw [sI_clr _ (by omega)] at hx; subst hx
          rw [nI_1]
          have e2 : mk (fun o => ((decide (o < cn c) && (decide (¬ o < j) || bot c o)) && !(o == j && pd (∃ q, q < k ∧ rch c j q = true ∧ rch c q j = false))) && !(o == j)) = mk (fun o => (decide (o < cn c) && (decide (¬ o < j) || bot c o)) && !(o == j && pd (∃ q, q < k + 1 ∧ rch c j q = true ∧ rch c q j = false))) := mk_congr (fun o _ => by
            have h5 : pd (∃ q, q < k + 1 ∧ rch c j q = true ∧ rch c q j = false) = true := pd_iff.mpr ⟨k, by omega, hb, hb2⟩
            rw [h5]
            cases (o == j) <;> simp)
          rw [e2]; exact hP2
        · dsimp only; rw [nI_1, keep (fun _ => hb2)]; exact hP2
    · unfold wp_X2_bottomStates_L24
      refine pk_le (cn c) (cn c) (fun _ => ?_) (fun h => by omega) h.1
      dsimp only
      rw [nI_1]
      have e3 : mk (fun o => (decide (o < cn c) && (decide (¬ o < j) || bot c o)) && !(o == j && pd (∃ q, q < cn c ∧ rch c j q = true ∧ rch c q j = false))) = mk (fun o => decide (o < cn c) && (decide (¬ o < j + 1) || bot c o)) := mk_congr (fun o _ => by
        by_cases ho : o = j
        · subst ho
          have h5 : pd (∃ q, q < cn c ∧ rch c o q = true ∧ rch c q o = false) = !pd (∀ q, rch c o q = true → rch c q o = true) := by
            rw [Bool.eq_iff_iff, Bool.not_eq_true', pd_iff, pd_f]
            constructor
            · rintro ⟨q, z1, z2, z3⟩ z; rw [z q z2] at z3; cases z3
            · intro z
              false_or_by_contra
              rename_i z2
              exact z (fun q z3 => by
                cases z4 : rch c q o with
                | true => rfl
                | false => exact absurd ⟨q, (rch_iff.mp z3).2, z3, z4⟩ z2)
          rw [h5]
          unfold bot
          simp [hj]
        · have h6 : (o == j) = false := by simp [ho]
          have h7 : decide (¬ o < j) = decide (¬ o < j + 1) := by congr 1; apply propext; omega
          rw [h6, h7]; simp)
      rw [e3]; exact hP
  · unfold wp_X2_bottomStates_L7
    refine pk_le (cn c) (cn c) (fun _ => ?_) (fun h => by omega) h.1
    dsimp only
    have e4 : mk (fun o => decide (o < cn c) && (decide (¬ o < cn c) || bot c o)) = mk (bot c) := mk_congr (fun o _ => by
      unfold bot
      by_cases ho : o < cn c <;> simp [ho])
    rw [e4]; exact hQ
theorem q2_canPass (h : RC κ c) (ok : okC c) {F T : Nat → Bool} (hT : ∀ b, T b = true → b < cn c) {v : Nat} {P5 : Int32 × Int32 → Prop} {Q : Int32 → Prop}
    (hP : ∀ T' : Nat → Bool, (∀ b, T b = true → T' b = true) → (∀ b, T' b = true → b < cn c) → (∀ S : Nat → Bool, (∀ b, T b = true → S b = true) → CanCl c F S → ∀ b, T' b = true → S b = true) → (∀ a b, a < cn c → b < cn c → F a = true → T b = true → suc c a b = true → T' a = true) → P5 (nI (mk T'), nI v + 1)) :
    lpW (wp_X2_canReach_L17 (nI (mk F)) (nI v) κ P5 Q) (nI (mk T), 0) := by
  have hn := ok.1
  refine lp_inv (cn c) (fun j t => ∃ T' : Nat → Bool, t = (nI (mk T'), nI j) ∧ (∀ b, T b = true → T' b = true) ∧ (∀ b, T' b = true → b < cn c) ∧ (∀ S : Nat → Bool, (∀ b, T b = true → S b = true) → CanCl c F S → ∀ b, T' b = true → S b = true) ∧ (∀ a b, a < j → b < cn c → F a = true → T b = true → suc c a b = true → T' a = true)) ?_ _ ⟨T, rfl, fun _ z => z, hT, fun S z _ => z, fun a b z => by omega⟩
  rintro j t hj ⟨T', rfl, h1, h2, h3, h4⟩ P hPP
  unfold wp_X2_canReach_L17
  refine pk_le (cn c) j (fun hj2 => ?_) (fun hj2 => ?_) h.1
  · have : j = cn c := by omega
    subst this
    exact hP T' h1 h2 h3 h4
  · have same : (∀ b, b < cn c → F j = true → T b = true → suc c j b = true → T' j = true) → P (nI (mk T'), nI (j + 1)) := fun hs => hPP hj2 _ ⟨T', rfl, h1, h2, h3, fun a b ha hb hF hTb hs2 => by
      rcases Nat.lt_or_ge a j with h5 | h5
      · exact h4 a b h5 hb hF hTb hs2
      · have : a = j := by omega
        subst this; exact hs b hb hF hTb hs2⟩
    refine q_contains (by omega) ?_
    refine br_b (fun hb => ?_) (fun hb => ?_)
    · dsimp only; rw [nI_1]
      exact same (fun b _ hF => by rw [hF] at hb; cases hb)
    · refine q2_successorsOf h ok hj2 ?_
      dsimp only
      rw [sI_and, sI_z, nI_1]
      refine ⟨fun hz => ?_, fun hz => ?_⟩
      · exact same (fun b hb2 hF hTb hs => by
          have := hz b (by omega)
          rw [hs, h1 b hTb] at this; cases this)
      · intro x hx
        rw [sI_add _ (by omega)] at hx; subst hx
        obtain ⟨k, hk, hne⟩ := ne_wit (S := fun b => suc c j b && T' b) (T := fun _ => false) hz
        have hk2 : suc c j k = true ∧ T' k = true := by
          cases h8 : suc c j k <;> cases h9 : T' k <;> simp [h8, h9] at hne ⊢
        refine hPP hj2 _ ⟨fun b => T' b || b == j, rfl, fun b z => by simp [h1 b z], fun b z => ?_, fun S z1 z2 b z3 => ?_, fun a b ha hb3 hF hTb hs => ?_⟩
        · rcases Bool.or_eq_true _ _ |>.mp z with z | z
          · exact h2 b z
          · simp at z; omega
        · rcases Bool.or_eq_true _ _ |>.mp z3 with z | z
          · exact h3 S z1 z2 b z
          · simp at z; subst z
            exact z2 b k hj2 (h2 k hk2.2) hb (h3 S z1 z2 k hk2.2) hk2.1
        · rcases Nat.lt_or_ge a j with h5 | h5
          · simp [h4 a b h5 hb3 hF hTb hs]
          · have : a = j := by omega
            subst this; simp
theorem q2_canReach (h : RC κ c) (ok : okC c) {F G : Nat → Bool} (hG : ∀ b, G b = true → b < cn c) {Q : Int32 → Prop} (hQ : Q (nI (mk (can c F G)))) : wp_X2_canReach (nI (mk F)) (nI (mk G)) κ Q := by
  unfold wp_X2_canReach
  have hn := ok.1
  refine lp_inv (cn c) (fun r t => ∃ T : Nat → Bool, t = (nI (mk T), nI r) ∧ (∀ b, G b = true → T b = true) ∧ (∀ b, T b = true → b < cn c) ∧ (∀ S : Nat → Bool, (∀ b, G b = true → S b = true) → CanCl c F S → ∀ b, T b = true → S b = true) ∧ (CanCl c F T ∨ r + 1 ≤ card T)) ?_ _ ⟨G, rfl, fun _ z => z, hG, fun S z _ b zb => z b zb, ?_⟩
  · rintro r t hr ⟨T, rfl, h1, h2, h3, h4⟩ P hPP
    unfold wp_X2_canReach_L5
    refine pk_le (cn c) r (fun hr2 => ?_) (fun hr2 => ?_) h.1
    · have hcl : CanCl c F T := by
        rcases h4 with h4 | h4
        · exact h4
        · have := card_le hn h2; omega
      have e : mk T = mk (can c F G) := mk_congr (fun b hb => by
        rw [Bool.eq_iff_iff, can_iff]
        exact ⟨fun z => ⟨fun S z1 z2 => h3 S z1 z2 b z, h2 b z⟩, fun z => z.1 T h1 hcl⟩)
      dsimp only; rw [e]; exact hQ
    · refine q2_canPass h ok h2 (fun T' a1 a2 a3 a4 => ?_)
      rw [nI_1]
      refine hPP hr2 _ ⟨T', rfl, fun b z => a1 b (h1 b z), a2, fun S z1 z2 => a3 S (h3 S z1 z2) z2, ?_⟩
      rcases h4 with h4 | h4
      · left
        have e : ∀ b, T' b = T b := fun b => by
          rw [Bool.eq_iff_iff]; exact ⟨a3 T (fun _ z => z) h4 b, a1 b⟩
        intro a b ha hb z1 z2 z3
        rw [e] at z2 ⊢; exact h4 a b ha hb z1 z2 z3
      · by_cases hc : ∀ b, b < 8 → T b = T' b
        · left
          intro a b ha hb z1 z2 z3
          exact a4 a b ha hb z1 (by rw [hc b (by omega)]; exact z2) z3
        · right
          obtain ⟨b, hb, hne⟩ := ne_wit hc
          have hf : T b = false := by
            cases hTb : T b with
            | false => rfl
            | true => exact absurd (hTb.trans (a1 b hTb).symm) hne
          have ht : T' b = true := by
            cases hTb : T' b with
            | true => rfl
            | false => exact absurd (hf.trans hTb.symm) hne
          have := card_lt a1 hb hf ht
          omega
  · by_cases hz : ∃ b, G b = true
    · obtain ⟨b, hb⟩ := hz
      right; exact card_pos (k := b) (by have := hG b hb; omega) hb
    · left; intro a b _ _ _ z; exact absurd ⟨b, z⟩ hz
theorem q2_neverUntil (h : RC κ c) (ok : okC c) {F G : Nat → Bool} (hG : ∀ b, G b = true → b < cn c) {Q : Int32 → Prop} (hQ : Q (nI (mk (nev c F G)))) : wp_X2_neverUntil (nI (mk F)) (nI (mk G)) κ Q := by
  unfold wp_X2_neverUntil
  refine q2_all h ok.1 (q2_canReach h ok hG ?_)
  rw [sI_diff]; exact hQ
theorem nev_lt {F G : Nat → Bool} (b : Nat) (hb : nev c F G b = true) : b < cn c := by unfold nev at hb; simp at hb; exact hb.1
theorem q2_surelyUntil (h : RC κ c) (ok : okC c) {F G : Nat → Bool} (hG : ∀ b, G b = true → b < cn c) {Q : Int32 → Prop} (hQ : Q (nI (mk (sur c F G)))) : wp_X2_surelyUntil (nI (mk F)) (nI (mk G)) κ Q := by
  unfold wp_X2_surelyUntil
  refine q2_all h ok.1 (q2_canReach h ok hG ?_)
  intro x hx
  rw [sI_diff] at hx; subst hx
  refine q2_all h ok.1 ?_
  rw [sI_diff]
  refine q2_canReach h ok (G := nev c F G) nev_lt ?_
  rw [sI_diff]; exact hQ
end PX2S
