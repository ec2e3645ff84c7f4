/-! ===== the reference's parser, the whole ===== -/
section WFD
variable (t : Nat → Nat) (len : Nat)
def wF (n : Nat) (s : ST) : ST × TR n × TR n :=
  if pk t len s = 85 ∨ pk t len s = 66 then ((rdF t len n (exF t len 44 (rdF t len n (wyF t len s).1).1)).1, (rdF t len n (wyF t len s).1).2, (rdF t len n (exF t len 44 (rdF t len n (wyF t len s).1).1)).2)
  else ((rdF t len n (wyF t len s).1).1, (rdF t len n (wyF t len s).1).2, trU n)
end WFD
section PART
variable {t : Nat → Nat} {len : Nat} {σ : US} {s : ST} {m op n : Nat} {RF : US → (Int32 → US → Prop) → Prop}
theorem wF_T {p : Nat} (h : (wyF t len s).1 = (true, p)) : (wF t len n s).1 = (true, p) := by
  unfold wF
  have e1 : (rdF t len n (wyF t len s).1).1 = (true, p) := by rw [h, rdF_T]
  split
  · show (rdF t len n (exF t len 44 (rdF t len n (wyF t len s).1).1)).1 = _
    rw [e1, exF_T, rdF_T]
  · exact e1
theorem prF_wF (n : Nat) (s : ST) : prF t len n s = (exF t len 93 (wF t len n (exF t len 91 (bnF t len s).1)).1, tnd (pk t len (exF t len 91 (bnF t len s).1)) (wyF t len (exF t len 91 (bnF t len s).1)).2 (bnF t len s).2 (wF t len n (exF t len 91 (bnF t len s).1)).2.1 (wF t len n (exF t len 91 (bnF t len s).1)).2.2) := by
  unfold prF wF
  split <;> rfl
theorem q12_J106 (HR : RRok t len n RF) (hT : TK t len) {σ1 : US} (h : PR t len σ1 (wyF t len s).1 m op) (hop : op = 6 - n) (hm : m + (len - s.2) ≤ 300) (hs : s.2 < len) (hp : s.2 + 1 ≤ (wyF t len s).1.2) (K1 : KR m σ σ1) (b : BB) (hw : isW (pk t len s) = true) {Q : Int32 → US → Prop}
    (hQ : ∀ i σ', WG t len n σ m s op b (wF t len n s).1 (wF t len n s).2.1 (wF t len n s).2.2 i σ' → Q i σ') : wp_X12_readWay_J106 RF (nI (wyF t len s).2) (nI (pk t len s)) σ1 Q := by
  unfold wp_X12_readWay_J106
  have h7 := pk_le7 hT s
  have hw := of_decide_eq_true hw
  have hw97 : pk t len s ≠ 97 := by omega
  refine HR σ1 _ m op _ h hop (by omega) (fun i1 σ2 G => ?_)
  obtain ⟨m1, P1, K2, h1, h2, g1⟩ := G
  have hl1 := P1.2.2.1
  have two : (pk t len s = 85 ∨ pk t len s = 66) → wp_X12_readWay_J126 RF i1 (nI (wyF t len s).2) (nI (pk t len s)) σ2 Q := by
    intro h2w
    unfold wF at hQ
    rw [if_pos h2w] at hQ
    unfold wp_X12_readWay_J126
    refine q12_wants (x := 44) hT P1 (by decide) (by decide) (fun u hu ku => ?_)
    have hx := (Mv.ex (t := t) (len := len) (x := 44) (by omega) (rdF t len n (wyF t len s).1).1).1
    have hl2 := hu.2.2.1
    refine HR u _ m1 op _ hu hop (by omega) (fun i2 σ3 G => ?_)
    obtain ⟨m2, P2, K3, h3, h4, g2⟩ := G
    have hl3 := P2.2.2.1
    have K4 : KR m1 σ2 σ3 := (ku.kr m1).tr K3 (Nat.le_refl _)
    have K : KR m σ σ3 := (K1.tr K2 (Nat.le_refl _)).tr K4 h1
    refine q12_J138 (b := b) (T1 := (rdF t len n (wyF t len s).1).2) (T2 := (rdF t len n (exF t len 44 (rdF t len n (wyF t len s).1).1)).2) (m0 := m) P2 (fun _ => by omega) (by omega) hw97 (fun hf _ => ?_) (fun hf _ => ?_) (fun hf => ?_) (fun hf σ' P' K' N => ?_)
    · obtain ⟨j, j1, j2, j3, j4⟩ := g1 (exF_ok (ok_of_rd hf)).1
      exact ⟨j, j1, by omega, RT.keep K4.2.1 n _ j j3 j4⟩
    · obtain ⟨j, j1, j2, j3, j4⟩ := g2 hf
      exact ⟨j, j1, j3, j4⟩
    · exact hQ _ _ ⟨m2, P2, K, by omega, by simp only; omega, fun hc => tf (b := (rdF t len n (exF t len 44 (rdF t len n (wyF t len s).1).1)).1.1) hf hc⟩
    · exact hQ _ _ ⟨m2 + 1, P', K.tr K' (by omega), by omega, by simp only; omega, fun _ => N⟩
  refine pk_eq (pk t len s) 85 (fun hc => two (Or.inl hc)) (fun hc => And.symm (pk_eq (pk t len s) 66 (fun hc2 => two (Or.inr hc2)) (fun hc2 => ?_)))
  have h2w : ¬ (pk t len s = 85 ∨ pk t len s = 66) := by omega
  unfold wF at hQ
  rw [if_neg h2w] at hQ
  refine q12_J138 (b := b) (T1 := (rdF t len n (wyF t len s).1).2) (T2 := trU n) (m0 := m) P1 (fun _ => by omega) (by omega) hw97 (fun hf _ => ?_) (fun hf ht => ?_) (fun hf => ?_) (fun hf σ' P' K' N => ?_)
  · obtain ⟨j, j1, j2, j3, j4⟩ := g1 hf
    exact ⟨j, j1, j3, j4⟩
  · have ht := of_decide_eq_true ht
    omega
  · exact hQ _ _ ⟨m1, P1, K1.tr K2 (Nat.le_refl _), by omega, by simp only; omega, fun hc => tf (b := (rdF t len n (wyF t len s).1).1.1) hf hc⟩
  · exact hQ _ _ ⟨m1 + 1, P', (K1.tr K2 (Nat.le_refl _)).tr K' h1, by omega, by simp only; omega, fun _ => N⟩
theorem q12_readWay (HR : RRok t len n RF) (hT : TK t len) (h : PR t len σ s m op) (hop : op = 6 - n) (hm : m + (len - s.2) ≤ 300) (b : BB) {Q : Int32 → US → Prop}
    (hQ : ∀ i σ', WG t len n σ m s op b (wF t len n s).1 (wF t len n s).2.1 (wF t len n s).2.2 i σ' → Q i σ') : wp_X12_readWay RF σ Q := by
  unfold wp_X12_readWay
  refine q12_here hT h ?_
  rw [h.2.1]
  have h7 := chr_le hT s.2
  have bad : ∀ {σ1 : US} {p : Nat}, (wyF t len s).1 = (true, p) → PR t len σ1 (true, p) m op → KR m σ σ1 → s.2 ≤ p → Q 0 σ1 := fun e P K hp => by
    have e2 := wF_T (n := n) e
    refine hQ _ _ ⟨m, ?_, K, Nat.le_refl _, ?_, fun hc => ?_⟩
    · rw [e2]; exact P
    · rw [e2]; simp only; omega
    · rw [e2] at hc; cases hc
  refine ⟨fun hf z hz => ?_, fun hf => ?_⟩
  · subst hz
    have hf := bI_t hf
    refine bad (p := s.2) ?_ h.fail (KP.u8 _ _ |>.kr m) (Nat.le_refl _)
    obtain ⟨f, p⟩ := s
    cases f
    · cases hf
    · rw [wyF_T]
  · have hf := bI_f hf
    have yes : isW (chr t len s.2) = true → wp_X12_readWay_J49 RF (nI (chr t len s.2)) σ Q := by
      intro hw
      unfold wp_X12_readWay_J49
      have ep : pk t len s = chr t len s.2 := pkf_s hf
      have hw2 := of_decide_eq_true hw
      have hp0 : pk t len s ≠ 0 := by omega
      have hlt := pkp_lt hp0
      have e1 : wy1 t len s = (false, s.2 + 1) := by
        unfold wy1
        rw [ep, hw, if_pos rfl]
        unfold skF
        rw [if_pos ⟨hf, rfl⟩]
      intro z3 hz3
      have P3 : PR t len z3 (false, s.2 + 1) m op := by
        subst hz3
        have hi := h.inc hlt
        rw [hf] at hi; exact hi
      have K3 : KR m σ z3 := by subst hz3; exact (KP.u6 _ _).kr m
      rw [← ep]
      refine And.symm (pk_eq (pk t len s) 66 (fun h66 => ?_) (fun h66 => ?_))
      · have e2 : wyF t len s = stF1 t len (false, s.2 + 1) := by unfold wyF; rw [if_pos h66, e1]
        have h72 := chr_le hT (s.2 + 1)
        refine q12_here hT P3 (q12_in (b := 48) (d := 54) (by simp only; omega) (by decide) (by decide) (And.symm (br_b (fun hb z20 hz20 => ?_) (fun hb => ?_))))
        · have hb := of_decide_eq_false hb
          have e3 : (wyF t len s).1 = (true, s.2 + 1) := by
            rw [e2]; unfold stF1; rw [pk_f, if_neg hb]
          subst hz20
          exact bad e3 P3.fail (K3.tr ((KP.u8 _ _).kr m) (Nat.le_refl _)) (by omega)
        · have hb := of_decide_eq_true hb
          have hb1 : 48 ≤ chr t len (s.2 + 1) := hb.1
          have e3 : wyF t len s = ((false, s.2 + 1 + 1), chr t len (s.2 + 1) - 48) := by
            rw [e2]; unfold stF1; rw [pk_f, if_pos hb]
          refine q12_here hT P3 ?_
          intro x18 hx18 z19 hz19
          have hx : x18 = nI (wyF t len s).2 := by rw [hx18, e3]; exact pk_sub hb1
          rw [hx]
          refine q12_J106 HR hT (σ := σ) (b := b) ?_ hop hm hlt ?_ ?_ (by rw [ep]; exact hw) hQ
          · rw [e3]; subst hz19
            exact P3.inc (pkp_lt (t := t) (by rw [pk_f]; omega))
          · rw [e3]; simp only; omega
          · subst hz19; exact K3.tr ((KP.u6 _ _).kr m) (Nat.le_refl _)
      · have e2 : wyF t len s = ((false, s.2 + 1), 0) := by unfold wyF; rw [if_neg h66, e1]
        have hh := q12_J106 HR hT (σ := σ) (σ1 := z3) (b := b) (Q := Q) (by rw [e2]; exact P3) hop hm hlt (by rw [e2]; exact Nat.le_refl _) K3 (by rw [ep]; exact hw) hQ
        rw [e2] at hh; exact hh
    refine pk_eq (chr t len s.2) 88 (fun hc => yes (decide_eq_true (by omega))) (fun w1 => ?_)
    refine pk_eq (chr t len s.2) 70 (fun hc => yes (decide_eq_true (by omega))) (fun w2 => ?_)
    refine pk_eq (chr t len s.2) 71 (fun hc => yes (decide_eq_true (by omega))) (fun w3 => ?_)
    refine pk_eq (chr t len s.2) 85 (fun hc => yes (decide_eq_true (by omega))) (fun w4 => ?_)
    refine pk_eq (chr t len s.2) 66 (fun hc => yes (decide_eq_true (by omega))) (fun w5 => ?_)
    intro z hz
    subst hz
    refine bad (p := s.2) ?_ h.fail (KP.u8 _ _ |>.kr m) (Nat.le_refl _)
    have ew : isW (pk t len s) = false := by rw [pkf_s hf]; exact decide_eq_false (by omega)
    have e1 : wy1 t len s = (true, s.2) := by unfold wy1; rw [ew, if_neg (by decide), skF_T]
    unfold wyF
    rw [if_neg (by rw [pkf_s hf]; exact w5), e1]
theorem q12_readBounded (HR : RRok t len n RF) (hT : TK t len) {p : Nat} (h : PR t len σ (false, p) m op) (hop : op = 6 - n) (hm : m + (len - p) ≤ 300) (hk : chr t len p = 80 ∨ chr t len p = 83 ∨ chr t len p = 82) (hn0 : n ≠ 0) {Q : Int32 → US → Prop}
    (hQ : ∀ i σ', RG t len (n + 1) σ m (false, p) op (rdF t len (n + 1) (false, p)) i σ' → Q i σ') : wp_X12_readBounded RF (nI (chr t len p)) σ Q := by
  have hlt : p < len := pkp_lt (t := t) (s := (false, p)) (by rw [pk_f]; omega)
  have hg : ¬ (n = 0 ∨ (false : Bool) = true) := by
    intro hc; rcases hc with hc | hc
    · exact hn0 hc
    · cases hc
  unfold wp_X12_readBounded
  intro z1 hz1
  have P1 : PR t len z1 (false, p + 1) m op := by subst hz1; exact h.inc hlt
  have K1 : KR m σ z1 := by subst hz1; exact (KP.u6 _ _).kr m
  refine q12_readBound hT P1 (fun u2 P2 k2 B2 => ?_)
  intro x3 hx3 x4 hx4 x5 hx5
  refine q12_wants (x := 91) hT P2 (by decide) (by decide) (fun u6 P6 k6 => ?_)
  have K6 : KR m σ u6 := (K1.tr (k2.kr m) (Nat.le_refl _)).tr (k6.kr m) (Nat.le_refl _)
  have hmv := ((Mv.bn (t := t) (len := len) (false, p + 1)).tr (Mv.ex (t := t) (x := 91) (by omega) _)).1
  have hmv : p + 1 ≤ (exF t len 91 (bnF t len (false, p + 1)).1).2 := hmv
  have hl6 := P6.2.2.1
  unfold rdF at hQ
  rw [pk_f, if_neg (by omega), if_neg (by omega), if_neg hg, if_neg (by omega), if_neg (by omega)] at hQ
  refine And.symm (pk_eq (chr t len p) 80 (fun h80 => ?_) (fun h80 => ?_))
  · rw [if_pos h80] at hQ
    refine q12_readWay HR hT P6 hop (by omega) (bnF t len (false, p + 1)).2 (fun i σ' G => ?_)
    obtain ⟨m', P', K', a1, a2, a3⟩ := G
    have hl' := P'.2.2.1
    refine q12_J67 (m := m) (n := n) (T := tnd (pk t len (exF t len 91 (bnF t len (false, p + 1)).1)) (wyF t len (exF t len 91 (bnF t len (false, p + 1)).1)).2 (bnF t len (false, p + 1)).2 (wF t len n (exF t len 91 (bnF t len (false, p + 1)).1)).2.1 (wF t len n (exF t len 91 (bnF t len (false, p + 1)).1)).2.2) hT P' (by omega) (fun hf => ?_) (fun σ'' P'' K'' N => hQ _ _ ?_)
    · refine ⟨a3 hf, ?_⟩
      have ok2 : (bnF t len (false, p + 1)).1.1 = false := by
        have o1 : (wyF t len (exF t len 91 (bnF t len (false, p + 1)).1)).1.1 = false := by
          cases e : (wyF t len (exF t len 91 (bnF t len (false, p + 1)).1)).1.1
          · rfl
          · have e2 := wF_T (n := n) (s := exF t len 91 (bnF t len (false, p + 1)).1) (t := t) (len := len) (p := (wyF t len (exF t len 91 (bnF t len (false, p + 1)).1)).1.2) (by rw [← e])
            rw [e2] at hf; cases hf
        exact (exF_ok (ok_of_wy o1).1).1
      obtain ⟨b1, b2, b3⟩ := B2 ok2
      exact ⟨hx3.trans b1, hx4.trans b2, hx5.trans b3⟩
    · have er := prF_wF (t := t) (len := len) n (false, p + 1)
      unfold prF at er
      rw [er]
      have hx := (Mv.ex (t := t) (len := len) (x := 93) (by omega) (wF t len n (exF t len 91 (bnF t len (false, p + 1)).1)).1).1
      exact ⟨m', P'', (K6.tr K' (Nat.le_refl _)).tr K'' (Nat.le_refl _), a1, by simp only; omega, N⟩
  · rw [if_neg h80, if_pos (by omega)] at hQ
    refine HR u6 _ m op _ P6 hop (by omega) (fun i1 σ3 G => ?_)
    obtain ⟨m1, P3, K3, h1, h2, g1⟩ := G
    have hl3 := P3.2.2.1
    have K3' : KR m σ σ3 := K6.tr K3 (Nat.le_refl _)
    have hx := (Mv.ex (t := t) (len := len) (x := 93) (by omega) (rdF t len n (exF t len 91 (bnF t len (false, p + 1)).1)).1).1
    refine q12_mk2 (b := (bnF t len (false, p + 1)).2) (T1 := (rdF t len n (exF t len 91 (bnF t len (false, p + 1)).1)).2) (T2 := trU n) (m0 := m) P3 (fun _ => by omega) h1 (by omega) (fun hf _ => ?_) (fun hf ht => ?_) (fun hf => ?_) (fun hf σ' P' K' N _ => ?_)
    · obtain ⟨j, j1, j2, j3, j4⟩ := g1 hf
      exact ⟨j, j1, j3, j4⟩
    · have ht := of_decide_eq_true ht
      omega
    · refine q12_J67 (m := m) (n := n) (T := tnd (chr t len p) 0 (bnF t len (false, p + 1)).2 (rdF t len n (exF t len 91 (bnF t len (false, p + 1)).1)).2 (trU n)) hT P3 (by omega) (fun hc => tf hf hc) (fun σ'' P'' K'' N => hQ _ _ ?_)
      exact ⟨m1, P'', K3'.tr K'' (Nat.le_refl _), h1, by simp only; omega, N⟩
    · refine q12_J67 (m := m) (n := n) (T := tnd (chr t len p) 0 (bnF t len (false, p + 1)).2 (rdF t len n (exF t len 91 (bnF t len (false, p + 1)).1)).2 (trU n)) hT P' (by omega) (fun hc => ⟨N (by omega), ?_⟩) (fun σ'' P'' K'' N => hQ _ _ ?_)
      · have ok2 : (bnF t len (false, p + 1)).1.1 = false := (exF_ok (ok_of_rd hf)).1
        obtain ⟨b1, b2, b3⟩ := B2 ok2
        exact ⟨hx3.trans b1, hx4.trans b2, hx5.trans b3⟩
      · exact ⟨m1 + 1, P'', (K3'.tr K' h1).tr K'' (Nat.le_refl _), by omega, by simp only; omega, N⟩
end PART
