/-! ===== the reference: depth, refusal, the states in which a formula holds ===== -/
theorem KeepM.rt {σ σ' : US} (h : KeepM σ σ') {n : Nat} {T : TR n} {i : Nat} (hR : RT σ n T i) : RT σ' n T i := by
  have hk : ∀ (m : Nat) (U : TR m) (j : Nat), RT σ m U j → RT σ' m U j := by
    intro m
    induction m with
    | zero => intro _ _ g; exact g
    | succ m ih =>
      intro U j g
      unfold RT at g ⊢
      have e : ∀ q, 6 ≤ q → q ≤ 12 → aA σ' q = aA σ q := fun q h1 h2 => h.1 q (by omega) (by omega) (by omega) (by omega)
      rw [e 6 (by omega) (by omega), e 7 (by omega) (by omega), e 8 (by omega) (by omega), e 9 (by omega) (by omega), e 10 (by omega) (by omega), e 11 (by omega) (by omega), e 12 (by omega) (by omega)]
      obtain ⟨g1, g2, g3, g4, g5⟩ := g
      refine ⟨g1, g2, g3, fun z => ?_, fun z => ?_⟩
      · obtain ⟨x, x1, x2, x3⟩ := g4 z
        exact ⟨x, x1, x2, ih _ _ x3⟩
      · obtain ⟨x, x1, x2, x3⟩ := g5 z
        exact ⟨x, x1, x2, ih _ _ x3⟩
  exact hk n T i hR
theorem okT_k {n : Nat} {T : TR (n + 1)} (h : okT (n + 1) T) : T.1.1 < 125 := by
  have h := h.1
  omega
theorem q12_hasOne {k : Nat} (hk : k < 2 ^ 31) {Q : Int32 → Prop} (hQ : Q (bI (hasO k))) : wp_X12_hasOne (nI k) Q := by
  unfold wp_X12_hasOne
  refine pk_eq k 116 (fun hc => ?_) (fun hc => pk_eq k 97 (fun hc2 => ?_) (fun hc2 => ?_))
  · subst hc; exact hQ
  · subst hc2; exact hQ
  · have e : hasO k = true := decide_eq_true ⟨hc, hc2⟩
    rw [e] at hQ; exact hQ
theorem q12_hasTwo {k : Nat} (hk : k < 2 ^ 31) {Q : Int32 → Prop} (hQ : Q (bI (hasT k))) : wp_X12_hasTwo (nI k) Q := by
  unfold wp_X12_hasTwo
  refine pk_eq k 38 (fun hc => ?_) (fun h1 => pk_eq k 124 (fun hc => ?_) (fun h2 => pk_eq k 85 (fun hc => ?_) (fun h3 => And.symm (pk_eq k 66 (fun hc => ?_) (fun h4 => ?_)))))
  · subst hc; exact hQ
  · subst hc; exact hQ
  · subst hc; exact hQ
  · subst hc; exact hQ
  · have e : hasT k = false := decide_eq_false (by omega)
    rw [e] at hQ; exact hQ
theorem q12_isBounded {k : Nat} (hk : k < 2 ^ 31) {Q : Int32 → Prop} (hQ : Q (bI (isB k))) : wp_X12_isBounded (nI k) Q := by
  unfold wp_X12_isBounded
  exact q12_inb (b := 65) (d := 90) hk (by decide) (by decide) hQ
theorem ifmax {a b : Nat} (ha : a < 2 ^ 31) (hb : b < 2 ^ 31) : (if nI a < nI b then nI b else nI a) = nI (max a b) := by
  by_cases h : a < b
  · rw [if_pos ((nI_ltI ha hb).mpr h)]; congr 1; omega
  · rw [if_neg (fun hc => h ((nI_ltI ha hb).mp hc))]; congr 1; omega
section EVR
variable {c : CH} {σ : US}
theorem q12_depthOf : ∀ (n : Nat) (T : TR n) (i f : Nat) (Q : Int32 → Prop), n ≤ f → n ≤ 1000 → i < 300 → RT σ n T i → okT n T → Q (nI (dpt n T)) → wp_X12_depthOf f (nI i) σ Q
  | 0, _, _, _, _, _, _, _, h, _, _ => absurd h (fun h => h)
  | n + 1, T, i, f, Q, hf, hn, hi, h, hok, hQ => by
    have hk := okT_k hok
    obtain ⟨e6, -, -, h1, h2⟩ := h
    obtain ⟨-, -, o1, o2⟩ := hok
    cases f with
    | zero => omega
    | succ f =>
    show wp_X12_depthOf_B (wp_X12_depthOf f) (nI i) σ Q
    have v : vp_in (nI i) 300 := vp_in_nI hi (by decide)
    have d1 := dpt_le n T.2.1
    have d2 := dpt_le n T.2.2
    have hQ : Q (nI (max (if hasO T.1.1 then dpt n T.2.1 else 0) (if hasT T.1.1 then dpt n T.2.2 else 0) + (if isB T.1.1 then 1 else 0))) := hQ
    have j57 : wp_X12_depthOf_J57 (wp_X12_depthOf f) (nI i) σ (nI (max (if hasO T.1.1 then dpt n T.2.1 else 0) (if hasT T.1.1 then dpt n T.2.2 else 0))) Q := by
      unfold wp_X12_depthOf_J57
      refine ⟨v, ?_⟩
      rw [nI_clamp (by omega), e6]
      refine q12_isBounded (by omega) (br_b (fun hb => ?_) (fun hb => ?_))
      · rw [hb] at hQ; exact hQ
      · rw [hb] at hQ; rw [nI_1]; exact hQ
    have j26 : wp_X12_depthOf_J26 (wp_X12_depthOf f) (nI i) σ (nI (if hasO T.1.1 then dpt n T.2.1 else 0)) Q := by
      unfold wp_X12_depthOf_J26
      refine ⟨v, ?_⟩
      rw [nI_clamp (by omega), e6]
      refine q12_hasTwo (by omega) (br_b (fun hb => ?_) (fun hb => ⟨v, ?_⟩))
      · rw [hb] at j57
        rw [show max (if hasO T.1.1 then dpt n T.2.1 else 0) (if false = true then dpt n T.2.2 else 0) = (if hasO T.1.1 then dpt n T.2.1 else 0) from by simp] at j57
        exact j57
      · obtain ⟨j, j1, j2, j3⟩ := h2 hb
        rw [j2]
        refine q12_depthOf n T.2.2 j f _ (by omega) (by omega) (by omega) j3 (o2 hb) ?_
        rw [hb, if_pos rfl] at j57
        rw [ifmax (by split <;> omega) (by omega)]; exact j57
    unfold wp_X12_depthOf_B
    refine ⟨v, ?_⟩
    rw [nI_clamp (by omega), e6]
    refine q12_hasOne (by omega) (br_b (fun hb => ?_) (fun hb => ⟨v, ?_⟩))
    · rw [hb] at j26; exact j26
    · obtain ⟨j, j1, j2, j3⟩ := h1 hb
      rw [j2]
      refine q12_depthOf n T.2.1 j f _ (by omega) (by omega) (by omega) j3 (o1 hb) ?_
      rw [hb] at j26; exact j26
theorem rfd_0 (c : CH) : rfd c 0 = false := by unfold rfd; rw [Nat.pow_zero]; decide
theorem rfd_max (ok : okC c) (a b : Nat) : rfd c (max a b) = (rfd c a || rfd c b) := by
  rcases Nat.le_total a b with h | h
  · rw [Nat.max_eq_right h]
    cases e : rfd c a
    · simp
    · rw [rfd_mono ok h e]; rfl
  · rw [Nat.max_eq_left h]
    cases e : rfd c b
    · simp
    · rw [rfd_mono ok h e]; rfl
theorem q12_isRefusedNode (hM : RM σ c) (okc : okC c) : ∀ (n : Nat) (T : TR n) (i f : Nat) (Q : Int32 → Prop), n ≤ f → i < 300 → RT σ n T i → okT n T → Q (bI (rfd c (lng n T))) → wp_X12_isRefusedNode f (nI i) σ Q
  | 0, _, _, _, _, _, _, h, _, _ => absurd h (fun h => h)
  | n + 1, T, i, f, Q, hf, hi, h, hok, hQ => by
    have hk := okT_k hok
    obtain ⟨e6, e9, -, h1, h2⟩ := h
    obtain ⟨hkk, -, o1, o2⟩ := hok
    cases f with
    | zero => omega
    | succ f =>
    show wp_X12_isRefusedNode_B (wp_X12_isRefusedNode f) (nI i) σ Q
    have v : vp_in (nI i) 300 := vp_in_nI hi (by decide)
    have el : lng (n + 1) T = max (max (if hasO T.1.1 then lng n T.2.1 else 0) (if hasT T.1.1 then lng n T.2.2 else 0)) (if T.1.1 = 66 then T.1.2.1 else 0) := rfl
    rw [el, rfd_max okc, rfd_max okc] at hQ
    generalize hL1 : (if hasO T.1.1 then lng n T.2.1 else 0) = L1 at hQ
    generalize hL2 : (if hasT T.1.1 then lng n T.2.2 else 0) = L2 at hQ
    generalize hL3 : (if T.1.1 = 66 then T.1.2.1 else 0) = L3 at hQ
    have j64t : (rfd c L1 = true ∨ rfd c L3 = true) → wp_X12_isRefusedNode_J64 (wp_X12_isRefusedNode f) (nI i) σ 1 Q := fun hr => by
      unfold wp_X12_isRefusedNode_J64
      refine ⟨fun _ => ?_, fun hc => absurd hc (by decide)⟩
      have e : ((rfd c L1 || rfd c L2) || rfd c L3) = true := by rcases hr with hr | hr <;> simp [hr]
      rw [e] at hQ; exact hQ
    have j64f : rfd c L1 = false → rfd c L3 = false → wp_X12_isRefusedNode_J64 (wp_X12_isRefusedNode f) (nI i) σ 0 Q := fun r1 r3 => by
      unfold wp_X12_isRefusedNode_J64
      rw [r1, r3] at hQ
      refine ⟨fun hc => absurd rfl hc, fun _ => ⟨v, ?_⟩⟩
      rw [nI_clamp (by omega), e6]
      refine q12_hasTwo (by omega) (br_b (fun hb => ?_) (fun hb => ⟨v, ?_⟩))
      · rw [hb] at hL2
        have hL2 : 0 = L2 := hL2
        rw [← hL2, rfd_0] at hQ; exact hQ
      · obtain ⟨j, j1, j2, j3⟩ := h2 hb
        rw [j2]
        refine q12_isRefusedNode hM okc n T.2.2 j f _ (by omega) (by omega) j3 (o2 hb) ?_
        rw [hb, if_pos rfl] at hL2
        rw [hL2]
        refine br_b (fun hx => ?_) (fun hx => ?_)
        · rw [hx] at hQ; exact hQ
        · rw [hx] at hQ; exact hQ
    have j28 : rfd c L3 = false → wp_X12_isRefusedNode_J28 (wp_X12_isRefusedNode f) (nI i) σ Q := fun r3 => by
      unfold wp_X12_isRefusedNode_J28 wp_X12_isRefusedNode_J29
      refine ⟨fun hc => absurd rfl hc, fun _ => ⟨v, ?_⟩⟩
      rw [nI_clamp (by omega), e6]
      refine q12_hasOne (by omega) (br_b (fun hb => ?_) (fun hb => ⟨v, ?_⟩))
      · rw [hb] at hL1
        have hL1 : 0 = L1 := hL1
        exact j64f (by rw [← hL1]; exact rfd_0 c) r3
      · obtain ⟨j, j1, j2, j3⟩ := h1 hb
        rw [j2]
        refine q12_isRefusedNode hM okc n T.2.1 j f _ (by omega) (by omega) j3 (o1 hb) ?_
        rw [hb, if_pos rfl] at hL1
        rw [hL1]
        exact br_b (fun hx => j64f hx r3) (fun hx => j64t (Or.inl hx))
    unfold wp_X12_isRefusedNode_B
    refine ⟨v, ?_⟩
    rw [nI_clamp (by omega), e6]
    refine And.symm (pk_eq T.1.1 66 (fun hc => ⟨v, ?_⟩) (fun hc => j28 ?_))
    · rw [e9 (Or.inr hc)]
      rw [if_pos hc] at hL3
      have hm6 : T.1.2.1 ≤ 6 := by omega
      refine q12_isRefused hM okc (by omega) ?_
      rw [hL3]
      refine br_b (fun hx => j28 hx) (fun hx => ?_)
      unfold wp_X12_isRefusedNode_J29
      exact ⟨fun _ => j64t (Or.inr hx), fun hc => absurd hc (by decide)⟩
    · rw [if_neg hc] at hL3
      rw [← hL3]; exact rfd_0 c
end EVR
