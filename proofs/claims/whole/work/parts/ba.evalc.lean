/-! ===== in which states a formula holds: the class ===== -/
noncomputable def ut (c : CH) (F G : Nat → Bool) (i : Nat) : Nat := (MM 8 (UA c (uU c F G) (bU G)) 8 i 8).toNat
noncomputable def ub (c : CH) (F G : Nat → Bool) : Nat := (dd 8 (UA c (uU c F G) (bU G)) 8).toNat
def cpl (c : CH) (F : Nat → Bool) (i : Nat) : Bool := decide (i < cn c) && !F i
noncomputable def vT (c : CH) (k m : Nat) (F G : Nat → Bool) (i : Nat) : Nat :=
  if k = 88 then stw c i F else if k = 70 then ut c (allS c) F i
  else if k = 71 then ub c (allS c) (cpl c F) / gcd1 (ut c (allS c) (cpl c F) i) (ub c (allS c) (cpl c F)) - ut c (allS c) (cpl c F) i / gcd1 (ut c (allS c) (cpl c F) i) (ub c (allS c) (cpl c F))
  else if k = 85 then ut c F G i else if k = 66 then wcn c F G m i else if k = 83 then VS c F i 8 else eT c F i
noncomputable def vB (c : CH) (k m : Nat) (F G : Nat → Bool) (i : Nat) : Nat :=
  if k = 88 then cdiv c i else if k = 70 then ub c (allS c) F
  else if k = 71 then ub c (allS c) (cpl c F) / gcd1 (ut c (allS c) (cpl c F) i) (ub c (allS c) (cpl c F))
  else if k = 85 then ub c F G else if k = 66 then lcmN c (cn c) ^ m else if k = 83 then WS c F else eB c F i
/-- the states in which a formula holds -/
noncomputable def sm (c : CH) : (n : Nat) → TR n → Nat → Bool
  | 0, _, _ => false
  | n + 1, T, i =>
    if T.1.1 = 116 then decide (i < cn c)
    else if T.1.1 = 97 then decide (i < cn c) && bit (cl c i) T.1.2.1
    else if T.1.1 = 33 then decide (i < cn c) && !sm c n T.2.1 i
    else if T.1.1 = 38 then sm c n T.2.1 i && sm c n T.2.2 i
    else if T.1.1 = 124 then sm c n T.2.1 i || sm c n T.2.2 i
    else decide (i < cn c) && fulf T.1.2.2.1 T.1.2.2.2.1 T.1.2.2.2.2.1 T.1.2.2.2.2.2 (vT c T.1.1 T.1.2.1 (sm c n T.2.1) (sm c n T.2.2) i / gcd1 (vT c T.1.1 T.1.2.1 (sm c n T.2.1) (sm c n T.2.2) i) (vB c T.1.1 T.1.2.1 (sm c n T.2.1) (sm c n T.2.2) i)) (vB c T.1.1 T.1.2.1 (sm c n T.2.1) (sm c n T.2.2) i / gcd1 (vT c T.1.1 T.1.2.1 (sm c n T.2.1) (sm c n T.2.2) i) (vB c T.1.1 T.1.2.1 (sm c n T.2.1) (sm c n T.2.2) i))
theorem sm_s (c : CH) (n : Nat) (T : TR (n + 1)) (i : Nat) : sm c (n + 1) T i = (
    if T.1.1 = 116 then decide (i < cn c)
    else if T.1.1 = 97 then decide (i < cn c) && bit (cl c i) T.1.2.1
    else if T.1.1 = 33 then decide (i < cn c) && !sm c n T.2.1 i
    else if T.1.1 = 38 then sm c n T.2.1 i && sm c n T.2.2 i
    else if T.1.1 = 124 then sm c n T.2.1 i || sm c n T.2.2 i
    else decide (i < cn c) && fulf T.1.2.2.1 T.1.2.2.2.1 T.1.2.2.2.2.1 T.1.2.2.2.2.2 (vT c T.1.1 T.1.2.1 (sm c n T.2.1) (sm c n T.2.2) i / gcd1 (vT c T.1.1 T.1.2.1 (sm c n T.2.1) (sm c n T.2.2) i) (vB c T.1.1 T.1.2.1 (sm c n T.2.1) (sm c n T.2.2) i)) (vB c T.1.1 T.1.2.1 (sm c n T.2.1) (sm c n T.2.2) i / gcd1 (vT c T.1.1 T.1.2.1 (sm c n T.2.1) (sm c n T.2.2) i) (vB c T.1.1 T.1.2.1 (sm c n T.2.1) (sm c n T.2.2) i))) := by
  rw [sm]
theorem sm_lt (c : CH) : ∀ (n : Nat) (T : TR n) (b : Nat), sm c n T b = true → b < cn c
  | 0, _, _, h => by cases h
  | n + 1, T, b, h => by
    unfold sm at h
    split at h
    · simpa using h
    split at h
    · simp at h; exact h.1
    split at h
    · simp at h; exact h.1
    split at h
    · simp at h; exact sm_lt c n T.2.1 b h.1
    split at h
    · simp at h
      rcases h with h | h
      · exact sm_lt c n T.2.1 b h
      · exact sm_lt c n T.2.2 b h
    · simp at h; exact h.1
theorem cpl_lt (c : CH) (F : Nat → Bool) (b : Nat) (h : cpl c F b = true) : b < cn c := by unfold cpl at h; simp at h; exact h.1
section EVB
variable {c : CH} {F G : Nat → Bool}
theorem ut_le (ok : okC c) (hG : ∀ b, G b = true → b < cn c) {i : Nat} (hi : i < 8) : ut c F G i ≤ ub c F G ∧ 0 < ub c F G ∧ ub c F G ≤ 10 ^ 8 := by
  have h1 := until_le1 (F := F) ok hG hi
  obtain ⟨h2, h3, -⟩ := UA_lim (b := bU G) ok (uU_lk (F := F) ok hG) 8 (Nat.le_refl 8)
  have h4 := pow_le_i (tc_le (fun k => !uU c F G k) 8)
  unfold ut ub
  have h5 : dd 8 (UA c (uU c F G) (bU G)) 8 ≤ 10 ^ 8 := Int.le_trans h3 h4
  have e : (10 : Int) ^ 8 = 100000000 := by decide
  rw [e] at h5
  omega
theorem eT_le (ok : okC c) (hG : ∀ b, G b = true → b < cn c) {i : Nat} (hi : i < 8) : eT c G i < 2 ^ 56 ∧ eB c G i < 2 ^ 56 := by
  unfold eT eB
  obtain ⟨h2, h3, -⟩ := UA_lim (b := bE c G) ok (uE_lk ok hG) 8 (Nat.le_refl 8)
  have h4 := pow_le_i (tc_le (fun k => !uE c G k) 8)
  have h5 := (uE_lim ok hG (Nat.le_refl 8) hi).2
  have e : (10 : Int) ^ 8 = 100000000 := by decide
  have e2 : (90 : Int) * 20 ^ 7 = 115200000000 := by decide
  rw [e2] at h5
  rw [e] at h4
  split
  · omega
  · omega
theorem vv_lt (ok : okC c) {k m : Nat} (hF : ∀ b, F b = true → b < cn c) (hG : ∀ b, G b = true → b < cn c) (hr : k = 66 → rfd c m = false) {i : Nat} (hi : i < 8) : vT c k m F G i < 2 ^ 56 ∧ vB c k m F G i < 2 ^ 56 := by
  unfold vT vB
  by_cases k1 : k = 88
  · rw [if_pos k1, if_pos k1]
    have h1 := cdiv_le ok i
    have h2 : stw c i F ≤ 90 := by
      refine Nat.le_trans (sumN_le (b := 9) (fun j _ => ?_)) (by omega)
      have := ok.2.1 i j
      unfold cst
      split <;> (try split) <;> omega
    omega
  rw [if_neg k1, if_neg k1]
  by_cases k2 : k = 70
  · rw [if_pos k2, if_pos k2]
    have := ut_le (F := allS c) ok hF hi
    omega
  rw [if_neg k2, if_neg k2]
  by_cases k3 : k = 71
  · rw [if_pos k3, if_pos k3]
    have h1 := ut_le (F := allS c) (G := cpl c F) ok (cpl_lt c F) hi
    have h2 := Nat.div_le_self (ub c (allS c) (cpl c F)) (gcd1 (ut c (allS c) (cpl c F) i) (ub c (allS c) (cpl c F)))
    exact ⟨Nat.lt_of_le_of_lt (Nat.le_trans (Nat.sub_le _ _) h2) (by omega), Nat.lt_of_le_of_lt h2 (by omega)⟩
  rw [if_neg k3, if_neg k3]
  by_cases k4 : k = 85
  · rw [if_pos k4, if_pos k4]
    have := ut_le (F := F) ok hG hi
    omega
  rw [if_neg k4, if_neg k4]
  by_cases k5 : k = 66
  · rw [if_pos k5, if_pos k5]
    have h1 := wcn_le ok (G := G) hF m i hi
    have h2 : lcmN c (cn c) ^ m ≤ 10 ^ 15 := by
      have := hr k5
      unfold rfd at this
      simpa using this
    omega
  rw [if_neg k5, if_neg k5]
  by_cases k6 : k = 83
  · rw [if_pos k6, if_pos k6]
    have h1 := VS_le (G := F) ok hi (Nat.le_refl 8)
    have h2 := (WS_bd (G := F) ok).2
    omega
  rw [if_neg k6, if_neg k6]
  exact eT_le ok hF hi
theorem dv56 {a g : Nat} (h : a < 2 ^ 56) : a / g < 2 ^ 56 := Nat.lt_of_le_of_lt (Nat.div_le_self a g) h
end EVB
theorem yes_ {P A B : Prop} (h : P) (g : A) : (P → A) ∧ (¬ P → B) := ⟨fun _ => g, fun n => absurd h n⟩
theorem no_ {P A B : Prop} (h : ¬ P) (g : B) : (P → A) ∧ (¬ P → B) := ⟨fun p => absurd p h, fun _ => g⟩
section EVC
variable {c : CH} {κ σ ε : US} {pl : va_W}
theorem q4_none {f : Nat} (hf : 1 ≤ f) {lv : Int32} {Q : Int32 → US × US → Prop} (hQ : Q 0 (σ, ε)) : wp_X11_statesOf f none lv σ ε κ pl Q := by
  cases f with
  | zero => omega
  | succ f =>
    show wp_X11_statesOf_B (wp_X11_statesOf f) none lv σ ε κ pl Q
    unfold wp_X11_statesOf_B
    exact ⟨fun _ => hQ, fun a ha => by cases ha⟩
theorem q4_J322 {RF : Option Nat → Int32 → US → US → US → va_W → (Int32 → (US × US) → Prop) → Prop} (h : RC κ c) (ok : okC c) {a : Nat} {kd st d l : Int32} {xb : Nat} {o1 o2 : Option Nat} {up oe : Bool} {top bot : Nat} (hm : (a, .inr (11, [.int kd, va_rf (some xb), .int st, va_rf o1, va_rf o2, .int d, .int l])) ∈ pl) (hb : (xb, .inr (3, [.int (bI up), .int (bI oe), .int (nI top), .int (nI bot)])) ∈ pl) (ht : top < 100) (hbt : bot < 100)
    {T B : Nat → Nat} (hF : FR σ 8 T B) (hT : ∀ i, i < 8 → T i < 2 ^ 56 ∧ B i < 2 ^ 56) {Q : Int32 → US × US → Prop} (hQ : Q (nI (mk (fun i => decide (i < cn c) && fulf up oe top bot (T i / gcd1 (T i) (B i)) (B i / gcd1 (T i) (B i))))) (σ, ε)) : wp_X11_statesOf_J298 RF a σ ε κ pl Q := by
  unfold wp_X11_statesOf_J298
  refine ⟨kd, some xb, st, o1, o2, d, l, hm, xb, bI up, bI oe, nI top, nI bot, rfl, hb, ?_⟩
  exact q8_fulfilling h ok (β := betaU (bI up) (bI oe) (nI top) (nI bot)) ⟨rfl, rfl, rfl, rfl⟩ ht hbt hF (fun i hi => ⟨dv56 (hT i hi).1, dv56 (hT i hi).2⟩) hQ
theorem rfd_le {c : CH} (ok : okC c) {j k : Nat} (h : j ≤ k) (hk : rfd c k = false) : rfd c j = false := by
  cases e : rfd c j
  · rfl
  · rw [rfd_mono ok h e] at hk; cases hk
theorem q4_statesOf (h : RC κ c) (ok : okC c) : ∀ (n : Nat) (T : TR n) (o : Option Nat) (f lev : Nat) (σ ε : US) (Q : Int32 → US × US → Prop), n + 1 ≤ f → lev + n ≤ 6 → CT pl n T o → okT n T → rfd c (lng n T) = false → (∀ σ' ε', Q (nI (mk (sm c n T))) (σ', ε')) → wp_X11_statesOf f o (nI lev) σ ε κ pl Q
  | 0, _, _, _, _, _, _, _, _, _, hc, _, _, _ => absurd hc (fun h => h)
  | n + 1, T, o, f, lev, σ, ε, Q, hf, hlev, hc, hok, hr, hQ => by
    obtain ⟨a, ob, o1, o2, rfl, hm, hb, hc1, hc2, hn1, hn2⟩ := hc
    obtain ⟨hk, ⟨hb1, hb2, hb3⟩, ho1, ho2⟩ := hok
    have hl1 : hasO T.1.1 = true → lng n T.2.1 ≤ lng (n + 1) T := fun g => by
      show _ ≤ max (max (if hasO T.1.1 then lng n T.2.1 else 0) _) _
      rw [if_pos g]; omega
    have hl2 : hasT T.1.1 = true → lng n T.2.2 ≤ lng (n + 1) T := fun g => by
      show _ ≤ max (max _ (if hasT T.1.1 then lng n T.2.2 else 0)) _
      rw [if_pos g]; omega
    have hl3 : T.1.1 = 66 → T.1.2.1 ≤ lng (n + 1) T := fun g => by
      show _ ≤ max _ (if T.1.1 = 66 then T.1.2.1 else 0)
      rw [if_pos g]; omega
    cases f with
    | zero => omega
    | succ f =>
    have ch1 : ∀ (σ1 ε1 : US) (Q1 : Int32 → US × US → Prop), (∀ σ' ε', Q1 (nI (mk (fun i => hasO T.1.1 && sm c n T.2.1 i))) (σ', ε')) → wp_X11_statesOf f o1 (nI lev + 1) σ1 ε1 κ pl Q1 := by
      intro σ1 ε1 Q1 h1
      cases g : hasO T.1.1
      · rw [hn1 g]
        rw [g] at h1
        exact q4_none (by omega) (h1 σ1 ε1)
      · rw [g] at h1
        rw [nI_1]
        exact q4_statesOf h ok n T.2.1 o1 f (lev + 1) σ1 ε1 Q1 (by omega) (by omega) (hc1 g) (ho1 g) (rfd_le ok (hl1 g) hr) h1
    have ch2 : ∀ (σ1 ε1 : US) (Q1 : Int32 → US × US → Prop), (∀ σ' ε', Q1 (nI (mk (fun i => hasT T.1.1 && sm c n T.2.2 i))) (σ', ε')) → wp_X11_statesOf f o2 (nI lev + 1) σ1 ε1 κ pl Q1 := by
      intro σ1 ε1 Q1 h1
      cases g : hasT T.1.1
      · rw [hn2 g]
        rw [g] at h1
        exact q4_none (by omega) (h1 σ1 ε1)
      · rw [g] at h1
        rw [nI_1]
        exact q4_statesOf h ok n T.2.2 o2 f (lev + 1) σ1 ε1 Q1 (by omega) (by omega) (hc2 g) (ho2 g) (rfd_le ok (hl2 g) hr) h1
    have hF := sm_lt c n T.2.1
    have hG := sm_lt c n T.2.2
    have hvv : ∀ i, i < 8 → vT c T.1.1 T.1.2.1 (sm c n T.2.1) (sm c n T.2.2) i < 2 ^ 56 ∧ vB c T.1.1 T.1.2.1 (sm c n T.2.1) (sm c n T.2.2) i < 2 ^ 56 := fun i hi => vv_lt ok hF hG (fun g => rfd_le ok (hl3 g) hr) hi
    show wp_X11_statesOf_B (wp_X11_statesOf f) (some a) (nI lev) σ ε κ pl Q
    unfold wp_X11_statesOf_B
    refine ⟨fun hx => absurd hx (by simp), fun a1 ha1 => ?_⟩
    cases ha1
    refine pk_le lev 5 (fun _ => ?_) (fun hx => by omega)
    refine ⟨_, _, _, _, _, _, _, hm, ch1 _ _ _ (fun σ1 ε1 => ⟨_, _, _, _, _, _, _, hm, ch2 _ _ _ (fun σ2 ε2 => ⟨_, _, _, _, _, _, _, hm, ?_⟩)⟩)⟩
    dsimp only
    have hnn := ok.1
    have hS := sm_s c n T
    generalize hst : sm c (n + 1) T = S at hQ hS
    obtain ⟨⟨k, m, up, oe, top, bot⟩, x, y⟩ := T
    simp only at hm hb hk hb1 hb2 hb3 hvv hl3 hF hG hS ⊢
    clear hst
    generalize hsx : sm c n x = F at *
    generalize hsy : sm c n y = G at *
    -- a bounded formula
    have bd : isB k = true → k ≠ 116 → k ≠ 97 → k ≠ 33 → k ≠ 38 → k ≠ 124 → ∀ (σ3 ε3 : US), FR σ3 8 (vT c k m F G) (vB c k m F G) → wp_X11_statesOf_J298 (wp_X11_statesOf f) a σ3 ε3 κ pl Q := by
      intro gb g1 g2 g3 g4 g5 σ3 ε3 hFR
      obtain ⟨xb, rfl, hxb⟩ := hb gb
      refine q4_J322 h ok hm hxb hb1 hb2 hFR hvv ?_
      have e : S = fun i => decide (i < cn c) && fulf up oe top bot (vT c k m F G i / gcd1 (vT c k m F G i) (vB c k m F G i)) (vB c k m F G i / gcd1 (vT c k m F G i) (vB c k m F G i)) := by
        funext i
        rw [hS i]
        simp only [if_neg g1, if_neg g2, if_neg g3, if_neg g4, if_neg g5]
      rw [← e]; exact hQ σ3 ε3
    have eO : hasO k = true → (fun i => hasO k && F i) = F := fun g => by funext i; rw [g]; rfl
    have eT2 : hasT k = true → (fun i => hasT k && G i) = G := fun g => by funext i; rw [g]; rfl
    have sme : ∀ {R : Nat → Bool}, (∀ i, S i = R i) → ∀ σ' ε', Q (nI (mk R)) (σ', ε') := fun hS σ' ε' => by
      have := hQ σ' ε'
      rw [mk_congr (fun i _ => hS i)] at this
      exact this
    rcases hk with rfl | ⟨rfl, hm4⟩ | rfl | rfl | rfl | ⟨rfl, hm6⟩ | rfl | rfl | rfl | rfl | rfl | rfl
    · refine no_ (show ¬ (nI 116 : Int32) = 33 by decide) ?_
      refine no_ (show ¬ (nI 116 : Int32) = 38 by decide) ?_
      refine no_ (show ¬ (nI 116 : Int32) = 66 by decide) ?_
      refine no_ (show ¬ (nI 116 : Int32) = 70 by decide) ?_
      refine no_ (show ¬ (nI 116 : Int32) = 71 by decide) ?_
      refine no_ (show ¬ (nI 116 : Int32) = 83 by decide) ?_
      refine no_ (show ¬ (nI 116 : Int32) = 85 by decide) ?_
      refine no_ (show ¬ (nI 116 : Int32) = 88 by decide) ?_
      refine no_ (show ¬ (nI 116 : Int32) = 97 by decide) ?_
      refine no_ (show ¬ (nI 116 : Int32) = 98 by decide) ?_
      refine no_ (show ¬ (nI 116 : Int32) = 99 by decide) ?_
      refine no_ (show ¬ (nI 116 : Int32) = 100 by decide) ?_
      refine yes_ (show (nI 116 : Int32) = 116 from rfl) ?_
      refine q2_all h ok.1 ?_
      exact sme (fun i => by rw [hS]; simp) σ2 ε2
    · have hJ : wp_X11_statesOf_J177 (wp_X11_statesOf f) a σ2 ε2 κ pl Q := by
        unfold wp_X11_statesOf_J177
        refine ⟨_, _, _, _, _, _, _, hm, ?_⟩
        have e : nI (97 + m) - 97 = nI m := by rw [show (97 : Int32) = nI 97 from rfl, pk_sub (by omega)]; congr 1; omega
        show wp_X2_labelled (nI (97 + m) - 97) κ _
        rw [e]
        refine q2_labelled h ok (by omega) ?_
        exact sme (fun i => by rw [hS]; simp) σ2 ε2
      rcases (show m = 0 ∨ m = 1 ∨ m = 2 ∨ m = 3 by omega) with rfl | rfl | rfl | rfl
      · refine no_ (show ¬ (nI 97 : Int32) = 33 by decide) ?_
        refine no_ (show ¬ (nI 97 : Int32) = 38 by decide) ?_
        refine no_ (show ¬ (nI 97 : Int32) = 66 by decide) ?_
        refine no_ (show ¬ (nI 97 : Int32) = 70 by decide) ?_
        refine no_ (show ¬ (nI 97 : Int32) = 71 by decide) ?_
        refine no_ (show ¬ (nI 97 : Int32) = 83 by decide) ?_
        refine no_ (show ¬ (nI 97 : Int32) = 85 by decide) ?_
        refine no_ (show ¬ (nI 97 : Int32) = 88 by decide) ?_
        refine yes_ (show (nI 97 : Int32) = 97 from rfl) ?_
        exact hJ
      · refine no_ (show ¬ (nI 98 : Int32) = 33 by decide) ?_
        refine no_ (show ¬ (nI 98 : Int32) = 38 by decide) ?_
        refine no_ (show ¬ (nI 98 : Int32) = 66 by decide) ?_
        refine no_ (show ¬ (nI 98 : Int32) = 70 by decide) ?_
        refine no_ (show ¬ (nI 98 : Int32) = 71 by decide) ?_
        refine no_ (show ¬ (nI 98 : Int32) = 83 by decide) ?_
        refine no_ (show ¬ (nI 98 : Int32) = 85 by decide) ?_
        refine no_ (show ¬ (nI 98 : Int32) = 88 by decide) ?_
        refine no_ (show ¬ (nI 98 : Int32) = 97 by decide) ?_
        refine yes_ (show (nI 98 : Int32) = 98 from rfl) ?_
        exact hJ
      · refine no_ (show ¬ (nI 99 : Int32) = 33 by decide) ?_
        refine no_ (show ¬ (nI 99 : Int32) = 38 by decide) ?_
        refine no_ (show ¬ (nI 99 : Int32) = 66 by decide) ?_
        refine no_ (show ¬ (nI 99 : Int32) = 70 by decide) ?_
        refine no_ (show ¬ (nI 99 : Int32) = 71 by decide) ?_
        refine no_ (show ¬ (nI 99 : Int32) = 83 by decide) ?_
        refine no_ (show ¬ (nI 99 : Int32) = 85 by decide) ?_
        refine no_ (show ¬ (nI 99 : Int32) = 88 by decide) ?_
        refine no_ (show ¬ (nI 99 : Int32) = 97 by decide) ?_
        refine no_ (show ¬ (nI 99 : Int32) = 98 by decide) ?_
        refine yes_ (show (nI 99 : Int32) = 99 from rfl) ?_
        exact hJ
      · refine no_ (show ¬ (nI 100 : Int32) = 33 by decide) ?_
        refine no_ (show ¬ (nI 100 : Int32) = 38 by decide) ?_
        refine no_ (show ¬ (nI 100 : Int32) = 66 by decide) ?_
        refine no_ (show ¬ (nI 100 : Int32) = 70 by decide) ?_
        refine no_ (show ¬ (nI 100 : Int32) = 71 by decide) ?_
        refine no_ (show ¬ (nI 100 : Int32) = 83 by decide) ?_
        refine no_ (show ¬ (nI 100 : Int32) = 85 by decide) ?_
        refine no_ (show ¬ (nI 100 : Int32) = 88 by decide) ?_
        refine no_ (show ¬ (nI 100 : Int32) = 97 by decide) ?_
        refine no_ (show ¬ (nI 100 : Int32) = 98 by decide) ?_
        refine no_ (show ¬ (nI 100 : Int32) = 99 by decide) ?_
        refine yes_ (show (nI 100 : Int32) = 100 from rfl) ?_
        exact hJ
    · refine yes_ (show (nI 33 : Int32) = 33 from rfl) ?_
      refine q2_all h ok.1 ?_
      rw [eO (by decide)]
      rw [sI_diff]
      exact sme (fun i => by rw [hS]; simp) σ2 ε2
    · refine no_ (show ¬ (nI 38 : Int32) = 33 by decide) ?_
      refine yes_ (show (nI 38 : Int32) = 38 from rfl) ?_
      rw [eO (by decide), eT2 (by decide), sI_and]
      exact sme (fun i => by rw [hS]; simp) σ2 ε2
    · refine no_ (show ¬ (nI 124 : Int32) = 33 by decide) ?_
      refine no_ (show ¬ (nI 124 : Int32) = 38 by decide) ?_
      refine no_ (show ¬ (nI 124 : Int32) = 66 by decide) ?_
      refine no_ (show ¬ (nI 124 : Int32) = 70 by decide) ?_
      refine no_ (show ¬ (nI 124 : Int32) = 71 by decide) ?_
      refine no_ (show ¬ (nI 124 : Int32) = 83 by decide) ?_
      refine no_ (show ¬ (nI 124 : Int32) = 85 by decide) ?_
      refine no_ (show ¬ (nI 124 : Int32) = 88 by decide) ?_
      refine no_ (show ¬ (nI 124 : Int32) = 97 by decide) ?_
      refine no_ (show ¬ (nI 124 : Int32) = 98 by decide) ?_
      refine no_ (show ¬ (nI 124 : Int32) = 99 by decide) ?_
      refine no_ (show ¬ (nI 124 : Int32) = 100 by decide) ?_
      refine no_ (show ¬ (nI 124 : Int32) = 116 by decide) ?_
      refine yes_ (show (nI 124 : Int32) = 124 from rfl) ?_
      rw [eO (by decide), eT2 (by decide), sI_or]
      exact sme (fun i => by rw [hS]; simp) σ2 ε2
    · refine no_ (show ¬ (nI 66 : Int32) = 33 by decide) ?_
      refine no_ (show ¬ (nI 66 : Int32) = 38 by decide) ?_
      refine yes_ (show (nI 66 : Int32) = 66 from rfl) ?_
      refine ⟨_, _, _, _, _, _, _, hm, ?_⟩
      rw [eO (by decide), eT2 (by decide)]
      refine q8_countWithin (n := m) h ok hF hm6 (rfd_le ok (hl3 rfl) hr) (fun σ3 h3 => ?_)
      exact bd (by decide) (by decide) (by decide) (by decide) (by decide) (by decide) σ3 ε2 h3
    · refine no_ (show ¬ (nI 70 : Int32) = 33 by decide) ?_
      refine no_ (show ¬ (nI 70 : Int32) = 38 by decide) ?_
      refine no_ (show ¬ (nI 70 : Int32) = 66 by decide) ?_
      refine yes_ (show (nI 70 : Int32) = 70 from rfl) ?_
      refine q2_all h ok.1 ?_
      rw [eO (by decide)]
      refine q8_solveUntil (F := allS c) h ok hF (fun σ3 ε3 h3 => ?_)
      exact bd (by decide) (by decide) (by decide) (by decide) (by decide) (by decide) σ3 ε3 h3
    · refine no_ (show ¬ (nI 71 : Int32) = 33 by decide) ?_
      refine no_ (show ¬ (nI 71 : Int32) = 38 by decide) ?_
      refine no_ (show ¬ (nI 71 : Int32) = 66 by decide) ?_
      refine no_ (show ¬ (nI 71 : Int32) = 70 by decide) ?_
      refine yes_ (show (nI 71 : Int32) = 71 from rfl) ?_
      refine q2_all h ok.1 ?_
      refine q2_all h ok.1 ?_
      rw [eO (by decide), sI_diff]
      refine q8_solveUntil (F := allS c) (G := cpl c F) h ok (cpl_lt c F) (fun σ3 ε3 h3 => ?_)
      refine q8_complement h3 (fun i hi => ?_) (fun σ4 h4 => ?_)
      · have h1 := ut_le (F := allS c) (G := cpl c F) ok (cpl_lt c F) hi
        have h2 := gcd1_le (a := ut c (allS c) (cpl c F) i) h1.2.1
        have h0 := gcd1_pos (ut c (allS c) (cpl c F) i) (ub c (allS c) (cpl c F))
        refine ⟨Nat.div_le_div_right h1.1, Nat.div_pos h2.2 h0, ?_⟩
        have := Nat.div_le_self (ub c (allS c) (cpl c F)) (gcd1 (ut c (allS c) (cpl c F) i) (ub c (allS c) (cpl c F)))
        show ub c (allS c) (cpl c F) / gcd1 (ut c (allS c) (cpl c F) i) (ub c (allS c) (cpl c F)) < 2 ^ 63
        omega
      · exact bd (by decide) (by decide) (by decide) (by decide) (by decide) (by decide) σ4 ε3 h4
    · refine no_ (show ¬ (nI 85 : Int32) = 33 by decide) ?_
      refine no_ (show ¬ (nI 85 : Int32) = 38 by decide) ?_
      refine no_ (show ¬ (nI 85 : Int32) = 66 by decide) ?_
      refine no_ (show ¬ (nI 85 : Int32) = 70 by decide) ?_
      refine no_ (show ¬ (nI 85 : Int32) = 71 by decide) ?_
      refine no_ (show ¬ (nI 85 : Int32) = 83 by decide) ?_
      refine yes_ (show (nI 85 : Int32) = 85 from rfl) ?_
      rw [eO (by decide), eT2 (by decide)]
      refine q8_solveUntil h ok hG (fun σ3 ε3 h3 => ?_)
      exact bd (by decide) (by decide) (by decide) (by decide) (by decide) (by decide) σ3 ε3 h3
    · refine no_ (show ¬ (nI 88 : Int32) = 33 by decide) ?_
      refine no_ (show ¬ (nI 88 : Int32) = 38 by decide) ?_
      refine no_ (show ¬ (nI 88 : Int32) = 66 by decide) ?_
      refine no_ (show ¬ (nI 88 : Int32) = 70 by decide) ?_
      refine no_ (show ¬ (nI 88 : Int32) = 71 by decide) ?_
      refine no_ (show ¬ (nI 88 : Int32) = 83 by decide) ?_
      refine no_ (show ¬ (nI 88 : Int32) = 85 by decide) ?_
      refine yes_ (show (nI 88 : Int32) = 88 from rfl) ?_
      rw [eO (by decide)]
      refine q8_solveStep h ok (fun σ3 h3 => ?_)
      exact bd (by decide) (by decide) (by decide) (by decide) (by decide) (by decide) σ3 ε2 h3
    · refine no_ (show ¬ (nI 83 : Int32) = 33 by decide) ?_
      refine no_ (show ¬ (nI 83 : Int32) = 38 by decide) ?_
      refine no_ (show ¬ (nI 83 : Int32) = 66 by decide) ?_
      refine no_ (show ¬ (nI 83 : Int32) = 70 by decide) ?_
      refine no_ (show ¬ (nI 83 : Int32) = 71 by decide) ?_
      refine yes_ (show (nI 83 : Int32) = 83 from rfl) ?_
      rw [eO (by decide)]
      refine q8_solveSteady h ok (fun σ3 ε3 h3 => ?_)
      refine bd (by decide) (by decide) (by decide) (by decide) (by decide) (by decide) σ3 ε3 (fun i hi => ?_)
      have e : (MM 8 (UA c (uT c) (bS c F)) 8 i 8).toNat = VS c F i 8 := by rw [← VS_all ok hi]; rfl
      have h4 := h3 i hi
      simp only at h4
      rw [e] at h4
      exact h4
    · refine no_ (show ¬ (nI 82 : Int32) = 33 by decide) ?_
      refine no_ (show ¬ (nI 82 : Int32) = 38 by decide) ?_
      refine no_ (show ¬ (nI 82 : Int32) = 66 by decide) ?_
      refine no_ (show ¬ (nI 82 : Int32) = 70 by decide) ?_
      refine no_ (show ¬ (nI 82 : Int32) = 71 by decide) ?_
      refine no_ (show ¬ (nI 82 : Int32) = 83 by decide) ?_
      refine no_ (show ¬ (nI 82 : Int32) = 85 by decide) ?_
      refine no_ (show ¬ (nI 82 : Int32) = 88 by decide) ?_
      refine no_ (show ¬ (nI 82 : Int32) = 97 by decide) ?_
      refine no_ (show ¬ (nI 82 : Int32) = 98 by decide) ?_
      refine no_ (show ¬ (nI 82 : Int32) = 99 by decide) ?_
      refine no_ (show ¬ (nI 82 : Int32) = 100 by decide) ?_
      refine no_ (show ¬ (nI 82 : Int32) = 116 by decide) ?_
      refine no_ (show ¬ (nI 82 : Int32) = 124 by decide) ?_
      rw [eO (by decide)]
      refine q8_solveExpected h ok hF (fun σ3 ε3 h3 => ?_)
      exact bd (by decide) (by decide) (by decide) (by decide) (by decide) (by decide) σ3 ε3 h3
end EVC
