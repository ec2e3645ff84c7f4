/-! ===== the reference's parser reads the same ===== -/
theorem aA_uA (σ : US) (k i : Nat) (x : Int32) (q j : Nat) : aA (uA σ k i x) q j = if q = k ∧ j = i then x else aA σ q j := by
  show kup σ.2.2.1 k (upd (σ.2.2.1 k) i x) q j = _
  by_cases hq : q = k
  · subst hq
    rw [kup_s]
    by_cases hj : j = i
    · subst hj; rw [if_pos ⟨rfl, rfl⟩]; exact pk_us
    · rw [if_neg (fun hc => hj hc.2)]; exact pk_un hj
  · rw [kup_n hq, if_neg (fun hc => hq hc.1)]
theorem iI_uA (σ : US) (k i : Nat) (x : Int32) (j : Nat) : iI (uA σ k i x) j = iI σ j := rfl
theorem aA_uI (σ : US) (k : Nat) (x : Int32) (q j : Nat) : aA (uI σ k x) q j = aA σ q j := rfl
/-- what the reader keeps: all but the rows of nodes from m on, and the reader's own numbers -/
def KR (m : Nat) (σ σ' : US) : Prop := (∀ q, q < 6 ∨ 12 < q → aA σ' q = aA σ q) ∧ (∀ q x, x < m → aA σ' q x = aA σ q x) ∧ (∀ k, k < 6 → k ≠ 3 → iI σ' k = iI σ k) ∧ σ'.2.1 = σ.2.1 ∧ σ'.2.2.2 = σ.2.2.2
theorem KR.rf (m : Nat) (σ : US) : KR m σ σ := ⟨fun _ _ => rfl, fun _ _ _ => rfl, fun _ _ _ => rfl, rfl, rfl⟩
theorem KR.tr {m m2 : Nat} {a b c : US} (h : KR m a b) (g : KR m2 b c) (hm : m ≤ m2) : KR m a c :=
  ⟨fun q hq => (g.1 q hq).trans (h.1 q hq), fun q x hx => (g.2.1 q x (by omega)).trans (h.2.1 q x hx), fun k h1 h2 => (g.2.2.1 k h1 h2).trans (h.2.2.1 k h1 h2), g.2.2.2.1.trans h.2.2.2.1, g.2.2.2.2.trans h.2.2.2.2⟩
/-- only the place and the error -/
def KP (σ σ' : US) : Prop := σ'.2 = σ.2 ∧ ∀ k, k ≠ 6 → k ≠ 8 → iI σ' k = iI σ k
theorem KP.rf (σ : US) : KP σ σ := ⟨rfl, fun _ _ _ => rfl⟩
theorem KP.tr {a b c : US} (h : KP a b) (g : KP b c) : KP a c := ⟨g.1.trans h.1, fun k h1 h2 => (g.2 k h1 h2).trans (h.2 k h1 h2)⟩
theorem KP.a {σ σ' : US} (h : KP σ σ') (q : Nat) : aA σ' q = aA σ q := by show σ'.2.2.1 q = σ.2.2.1 q; rw [h.1]
theorem KP.kr {σ σ' : US} (h : KP σ σ') (m : Nat) : KR m σ σ' := ⟨fun q _ => h.a q, fun q x _ => by rw [h.a q], fun k h1 _ => h.2 k (by omega) (by omega), by rw [h.1], by rw [h.1]⟩
theorem KP.u6 (σ : US) (x : Int32) : KP σ (uI σ 6 x) := ⟨rfl, fun k h1 _ => iI_uIn h1⟩
theorem KP.u8 (σ : US) (x : Int32) : KP σ (uI σ 8 x) := ⟨rfl, fun k _ h2 => iI_uIn h2⟩
theorem KR.u {σ : US} {k : Nat} (m : Nat) (x : Int32) (hk : k = 3 ∨ 6 ≤ k) : KR m σ (uI σ k x) := ⟨fun _ _ => rfl, fun _ _ _ => rfl, fun j h1 h2 => iI_uIn (by omega), rfl, rfl⟩
theorem KR.ua {σ : US} {k i m : Nat} (x : Int32) (hk : 6 ≤ k ∧ k ≤ 12) (hi : m ≤ i) : KR m σ (uA σ k i x) := by
  refine ⟨fun q hq => aA_sAn (by omega), fun q y hy => ?_, fun j h1 h2 => rfl, rfl, rfl⟩
  rw [aA_uA, if_neg (by omega)]
def RT (σ : US) : (n : Nat) → TR n → Nat → Prop
  | 0, _, _ => False
  | n + 1, T, i => aA σ 6 i = nI T.1.1 ∧ (T.1.1 = 97 ∨ T.1.1 = 66 → aA σ 9 i = nI T.1.2.1) ∧ (isB T.1.1 = true → aA σ 10 i = relc T.1.2.2.1 T.1.2.2.2.1 ∧ aA σ 11 i = nI T.1.2.2.2.2.1 ∧ aA σ 12 i = nI T.1.2.2.2.2.2) ∧ (hasO T.1.1 = true → ∃ j, j < i ∧ aA σ 7 i = nI j ∧ RT σ n T.2.1 j) ∧ (hasT T.1.1 = true → ∃ j, j < i ∧ aA σ 8 i = nI j ∧ RT σ n T.2.2 j)
theorem RT.keep {σ σ' : US} {N : Nat} (h : ∀ q x, x < N → aA σ' q x = aA σ q x) : ∀ (n : Nat) (T : TR n) (i : Nat), i < N → RT σ n T i → RT σ' n T i
  | 0, _, _, _, h => h
  | n + 1, T, i, hi, g => by
    unfold RT at g ⊢
    obtain ⟨g1, g2, g3, g4, g5⟩ := g
    refine ⟨by rw [h _ _ hi]; exact g1, fun z => by rw [h _ _ hi]; exact g2 z, fun z => by rw [h _ _ hi, h _ _ hi, h _ _ hi]; exact g3 z, fun z => ?_, fun z => ?_⟩
    · obtain ⟨j, j1, j2, j3⟩ := g4 z
      exact ⟨j, j1, by rw [h _ _ hi]; exact j2, RT.keep h n _ j (by omega) j3⟩
    · obtain ⟨j, j1, j2, j3⟩ := g5 z
      exact ⟨j, j1, by rw [h _ _ hi]; exact j2, RT.keep h n _ j (by omega) j3⟩
def TK (t : Nat → Nat) (len : Nat) : Prop := len ≤ 50 ∧ ∀ i, i < len → 33 ≤ t i ∧ t i ≤ 126
def PR (t : Nat → Nat) (len : Nat) (σ : US) (s : ST) (m op : Nat) : Prop := iI σ 6 = nI s.2 ∧ iI σ 8 = bI s.1 ∧ s.2 ≤ len ∧ iI σ 5 = nI len ∧ iI σ 7 = nI op ∧ iI σ 3 = nI m ∧ ∀ i, i < len → aA σ 17 i = nI (t i)
section PARR
variable {t : Nat → Nat} {len : Nat} {σ : US} {s : ST} {m op : Nat}
theorem chr_le (hT : TK t len) (p : Nat) : chr t len p ≤ 126 := by
  unfold chr
  split
  · rename_i h; exact (hT.2 p h).2
  · omega
theorem pk_le7 (hT : TK t len) (s : ST) : pk t len s ≤ 126 := by
  unfold pk
  split
  · omega
  · exact chr_le hT _
theorem PR.kp {σ' : US} {s' : ST} (h : PR t len σ s m op) (k : KP σ σ') (h6 : iI σ' 6 = nI s'.2) (h8 : iI σ' 8 = bI s'.1) (hl : s'.2 ≤ len) : PR t len σ' s' m op :=
  ⟨h6, h8, hl, by rw [k.2 5 (by omega) (by omega)]; exact h.2.2.2.1, by rw [k.2 7 (by omega) (by omega)]; exact h.2.2.2.2.1, by rw [k.2 3 (by omega) (by omega)]; exact h.2.2.2.2.2.1, fun i hi => by rw [k.a 17]; exact h.2.2.2.2.2.2 i hi⟩
theorem PR.inc (h : PR t len σ s m op) (hl : s.2 < len) : PR t len (uI σ 6 (iI σ 6 + 1)) (s.1, s.2 + 1) m op := by
  refine h.kp (KP.u6 σ _) ?_ ?_ hl
  · rw [iI_uIs, h.1, nI_1]
  · rw [iI_uIn (by decide)]; exact h.2.1
theorem PR.fail (h : PR t len σ s m op) : PR t len (uI σ 8 1) (true, s.2) m op := by
  refine h.kp (KP.u8 σ _) ?_ iI_uIs h.2.2.1
  rw [iI_uIn (by decide)]; exact h.1
theorem PR.u {k : Nat} {x : Int32} (h : PR t len σ s m op) (hk : 9 ≤ k) : PR t len (uI σ k x) s m op :=
  ⟨(iI_uIn (by omega)).trans h.1, (iI_uIn (by omega)).trans h.2.1, h.2.2.1, (iI_uIn (by omega)).trans h.2.2.2.1, (iI_uIn (by omega)).trans h.2.2.2.2.1, (iI_uIn (by omega)).trans h.2.2.2.2.2.1, h.2.2.2.2.2.2⟩
theorem PR.ua {k i : Nat} {x : Int32} (h : PR t len σ s m op) (hk : k ≠ 17) : PR t len (uA σ k i x) s m op :=
  ⟨h.1, h.2.1, h.2.2.1, h.2.2.2.1, h.2.2.2.2.1, h.2.2.2.2.2.1, fun j hj => by rw [aA_uA, if_neg (by omega)]; exact h.2.2.2.2.2.2 j hj⟩
theorem q12_here (hT : TK t len) (h : PR t len σ s m op) {Q : Int32 → Prop} (hQ : Q (nI (chr t len s.2))) : wp_X12_here σ Q := by
  unfold wp_X12_here
  have h50 := hT.1
  have hs := h.2.2.1
  unfold chr at hQ
  refine pk_le len s.2 (fun hc => ?_) (fun hc => ⟨?_, ?_⟩) h.2.2.2.1 h.1
  · rw [if_neg (by omega)] at hQ; exact hQ
  · rw [h.1]; exact vp_in_nI (by omega) (by decide)
  · rw [if_pos hc] at hQ
    rw [h.1, nI_clamp (by omega), h.2.2.2.2.2.2 _ hc]; exact hQ
theorem q12_wants (hT : TK t len) (h : PR t len σ s m op) {x : Nat} (hx0 : x ≠ 0) (hx : x < 2 ^ 31) {Q : US → Prop} (hQ : ∀ σ', PR t len σ' (exF t len x s) m op → KP σ σ' → Q σ') : wp_X12_wants (nI x) σ Q := by
  unfold wp_X12_wants
  rw [h.2.1]
  have h7 := chr_le hT s.2
  have bad : ¬ (s.1 = false ∧ chr t len s.2 = x) → ∀ z : US, z = uI σ 8 1 → Q z := fun hc z hz => by
    subst hz
    unfold exF at hQ
    rw [if_neg hc] at hQ
    exact hQ _ h.fail (KP.u8 _ _)
  refine ⟨fun hf => bad (fun hc => hf (by rw [hc.1]; rfl)), fun hf => q12_here hT h ⟨fun he => bad (fun hc => he (by rw [hc.2])), fun he z hz => ?_⟩⟩
  rw [nI_eq (by omega) hx] at he
  have hf := bI_f hf
  subst hz
  unfold exF at hQ
  rw [if_pos ⟨hf, he⟩] at hQ
  have hi := h.inc (pkp_lt (t := t) (chr_pk hx0 ⟨hf, he⟩))
  rw [hf] at hi
  exact hQ _ hi (KP.u6 _ _)
theorem q12_wantsT (h : PR t len σ s m op) (hf : s.1 = true) {x : Int32} {Q : US → Prop} (hQ : ∀ σ', PR t len σ' (true, s.2) m op → KP σ σ' → Q σ') : wp_X12_wants x σ Q := by
  unfold wp_X12_wants
  rw [h.2.1, hf]
  refine ⟨fun _ z hz => ?_, fun hc => absurd hc (by decide)⟩
  subst hz
  exact hQ _ h.fail (KP.u8 _ _)
theorem q12_inb {a b d : Nat} (ha : a < 2 ^ 31) (hb : b < 2 ^ 31) (hd : d < 2 ^ 31) {Q : Int32 → Prop} (hQ : Q (bI (decide (b ≤ a ∧ a ≤ d)))) : wp_X12_in (nI a) (nI b) (nI d) (fun r => kbo r ∧ Q r) := q12_in ha hb hd ⟨kbo_bI _, hQ⟩
theorem q12_isDigit (hT : TK t len) (h : PR t len σ s m op) {Q : Int32 → Prop} (hQ : Q (bI (decide (48 ≤ chr t len s.2 ∧ chr t len s.2 ≤ 57)))) : wp_X12_isDigit σ Q := by
  unfold wp_X12_isDigit
  have h7 := chr_le hT s.2
  exact q12_here hT h (q12_inb (b := 48) (d := 57) (by omega) (by decide) (by decide) hQ)
theorem pkf_s {s : ST} (hf : s.1 = false) : pk t len s = chr t len s.2 := by unfold pk; rw [hf]; rfl
theorem q12_readNumber (hT : TK t len) (h : PR t len σ s m op) {Q : Int32 → US → Prop} (hQ : ∀ σ', PR t len σ' (nuF t len s).1 m op → KP σ σ' → Q (nI (nuF t len s).2) σ') : wp_X12_readNumber σ Q := by
  unfold wp_X12_readNumber
  rw [h.2.1]
  have h7 := chr_le hT s.2
  refine ⟨fun hf z hz => ?_, fun hf => q12_isDigit hT h (And.symm (br_b (fun hb z hz => ?_) (fun hb => ?_)))⟩
  · subst hz
    have hf := bI_t hf
    obtain ⟨f, p⟩ := s
    cases f
    · cases hf
    · rw [nuF_T] at hQ; exact hQ _ h.fail (KP.u8 _ _)
  · subst hz
    have hf := bI_f hf
    have hb := of_decide_eq_false hb
    have e : nuF t len s = ((true, s.2), 0) := by
      have e1 : num1 t len s = ((true, s.2), 0) := by unfold num1; rw [pkf_s hf, if_neg hb]
      unfold nuF; rw [e1]; unfold num2; rw [pk_T, if_neg (by omega)]
    rw [e] at hQ
    exact hQ _ h.fail (KP.u8 _ _)
  · have hf := bI_f hf
    have hb := of_decide_eq_true hb
    have e1 : num1 t len s = ((false, s.2 + 1), chr t len s.2 - 48) := by unfold num1; rw [pkf_s hf, if_pos hb, hf]
    refine q12_here hT h ?_
    intro x4 hx4 z5 hz5
    have hx4 : x4 = nI (chr t len s.2 - 48) := by rw [hx4]; exact pk_sub hb.1
    have h5 : PR t len z5 (false, s.2 + 1) m op := by
      subst hz5
      have hi := h.inc (pkp_lt (t := t) (by rw [pkf_s hf]; omega))
      rw [hf] at hi; exact hi
    have k5 : KP σ z5 := by subst hz5; exact KP.u6 _ _
    have h72 := chr_le hT (s.2 + 1)
    refine q12_isDigit hT h5 (br_b (fun hb2 => ?_) (fun hb2 => ?_))
    · have hb2 := of_decide_eq_false hb2
      have e : nuF t len s = ((false, s.2 + 1), chr t len s.2 - 48) := by
        unfold nuF; rw [e1]; unfold num2; rw [pk_f, if_neg hb2]
      rw [e] at hQ
      rw [hx4]; exact hQ _ h5 k5
    · have hb2 := of_decide_eq_true hb2
      have e : nuF t len s = ((false, s.2 + 1 + 1), (chr t len s.2 - 48) * 10 + (chr t len (s.2 + 1) - 48)) := by
        unfold nuF; rw [e1]; unfold num2; rw [pk_f, if_pos hb2]
      refine q12_here hT h5 ?_
      intro x8 hx8 z9 hz9
      have hx8 : x8 = nI ((chr t len s.2 - 48) * 10 + (chr t len (s.2 + 1) - 48)) := by
        rw [hx8, hx4]
        show nI 10 * nI (chr t len s.2 - 48) + nI (chr t len (s.2 + 1)) - nI 48 = _
        have hb21 : 48 ≤ chr t len (s.2 + 1) := hb2.1
        rw [pk_mul, nI_add, pk_sub (by omega)]; congr 1; omega
      rw [e] at hQ
      rw [hx8]
      subst hz9
      exact hQ _ (h5.inc (pkp_lt (t := t) (by rw [pk_f]; have := hb2.1; simp only at this; omega))) (k5.tr (KP.u6 _ _))
theorem bnF_1 {p : Nat} (h1 : bn1 t len s = (true, p)) : (bnF t len s).1 = (true, p) := by
  have h2 : bn2 t len s = (false, (true, p)) := by unfold bn2; rw [h1, skF_T]
  have h3 : bn3 t len s = ((true, p), 0) := by unfold bn3; rw [h2, nuF_T]
  have h4 : bn4 t len s = ((true, p), 1) := by unfold bn4; rw [h3, skF_T]; rfl
  show bn5 t len s = _
  unfold bn5; rw [h4, if_neg (by simp)]
/-- the reader's own numbers only, and no node -/
def KQ (σ σ' : US) : Prop := σ'.2 = σ.2 ∧ ∀ k, k < 6 ∨ k = 7 → iI σ' k = iI σ k
theorem KQ.kr {σ σ' : US} (h : KQ σ σ') (m : Nat) : KR m σ σ' := ⟨fun q _ => by show σ'.2.2.1 q = σ.2.2.1 q; rw [h.1], fun q x _ => by show σ'.2.2.1 q x = σ.2.2.1 q x; rw [h.1], fun k h1 _ => h.2 k (Or.inl h1), by rw [h.1], by rw [h.1]⟩
theorem KP.kq {σ σ' : US} (h : KP σ σ') : KQ σ σ' := ⟨h.1, fun k hk => h.2 k (by omega) (by omega)⟩
theorem KQ.tr {a b c : US} (h : KQ a b) (g : KQ b c) : KQ a c := ⟨g.1.trans h.1, fun k h1 => (g.2 k h1).trans (h.2 k h1)⟩
theorem KQ.u {σ : US} {k : Nat} (x : Int32) (hk : 6 ≤ k) (h7 : k ≠ 7) : KQ σ (uI σ k x) := ⟨rfl, fun j hj => iI_uIn (by omega)⟩
def Bd (σ : US) (b : BB) : Prop := iI σ 9 = relc b.1 b.2.1 ∧ iI σ 10 = nI b.2.2.1 ∧ iI σ 11 = nI b.2.2.2
theorem q12_readBound (hT : TK t len) (h : PR t len σ s m op) {Q : US → Prop} (hQ : ∀ σ', PR t len σ' (bnF t len s).1 m op → KQ σ σ' → ((bnF t len s).1.1 = false → Bd σ' (bnF t len s).2) → Q σ') : wp_X12_readBound σ Q := by
  -- behind the sign
  have j81 : ∀ σ1, PR t len σ1 (bn2 t len s).2 m op → KQ σ σ1 → iI σ1 9 = relc (skF t len 60 s).1 (bn2 t len s).1 → wp_X12_readBound_J81 σ1 Q := by
    intro σ1 h1 k1 e9
    unfold wp_X12_readBound_J81
    refine q12_readNumber hT h1 (fun σ2 h2 k2 => ?_)
    intro z8 hz8 z9 hz9
    have P9 : PR t len z9 (bn3 t len s).1 m op := by
      subst hz9; subst hz8; exact (PR.u (PR.u h2 (by omega)) (by omega))
    have Q9 : KQ σ z9 := by
      subst hz9; subst hz8
      exact ((k1.tr k2.kq).tr (KQ.u _ (by omega) (by omega))).tr (KQ.u _ (by omega) (by omega))
    have e99 : iI z9 9 = relc (skF t len 60 s).1 (bn2 t len s).1 := by
      subst hz9; subst hz8
      rw [iI_uIn (by decide), iI_uIn (by decide), k2.2 9 (by omega) (by omega)]; exact e9
    have e910 : iI z9 10 = nI (bn3 t len s).2 := by
      subst hz9; subst hz8
      rw [iI_uIn (by decide), iI_uIs]; rfl
    have e911 : iI z9 11 = 1 := by subst hz9; exact iI_uIs
    clear hz9 hz8
    rw [P9.2.1]
    have one : bn4 t len s = ((bn3 t len s).1, 1) → Q z9 := fun e4 => by
      have e5 : bn5 t len s = (bn3 t len s).1 := by
        unfold bn5; rw [e4, if_neg (by simp)]
      refine hQ z9 ?_ Q9 (fun _ => ⟨e99, e910, ?_⟩)
      · show PR t len z9 (bn5 t len s) m op
        rw [e5]; exact P9
      · rw [e911]
        show (1 : Int32) = nI (bn4 t len s).2
        rw [e4]; rfl
    have h7 := chr_le hT (bn3 t len s).1.2
    have no : ¬ ((bn3 t len s).1.1 = false ∧ chr t len (bn3 t len s).1.2 = 47) → Q z9 := fun hc => one (by
      have e : skF t len 47 (bn3 t len s).1 = (false, (bn3 t len s).1) := by unfold skF; rw [if_neg hc]
      unfold bn4; rw [e]; rfl)
    refine ⟨fun hf => no (fun hc => hf (by rw [hc.1]; rfl)), fun hf => q12_here hT P9 ⟨fun he => no (fun hc => he (by rw [hc.2]; rfl)), fun he z11 hz11 => ?_⟩⟩
    have hf := bI_f hf
    have he : chr t len (bn3 t len s).1.2 = 47 := (nI_eq (by omega) (by decide)).mp he
    have e47 : skF t len 47 (bn3 t len s).1 = (true, (false, (bn3 t len s).1.2 + 1)) := by unfold skF; rw [if_pos ⟨hf, he⟩]
    have e4 : bn4 t len s = nuF t len (false, (bn3 t len s).1.2 + 1) := by unfold bn4; rw [e47]; rfl
    have P11 : PR t len z11 (false, (bn3 t len s).1.2 + 1) m op := by
      subst hz11
      have hi := P9.inc (pkp_lt (t := t) (chr_pk (by omega) ⟨hf, he⟩))
      rw [hf] at hi; exact hi
    have K11 : KP z9 z11 := by subst hz11; exact KP.u6 _ _
    refine q12_readNumber hT P11 (fun σ3 h3 k3 => ?_)
    rw [← e4] at h3 ⊢
    intro z14 hz14
    have P14 : PR t len z14 (bn4 t len s).1 m op := by subst hz14; exact PR.u h3 (by omega)
    have Q14 : KQ σ z14 := by
      subst hz14; exact (Q9.tr (K11.tr k3).kq).tr (KQ.u _ (by omega) (by omega))
    have B14 : Bd z14 (bnF t len s).2 := by
      subst hz14
      refine ⟨?_, ?_, iI_uIs⟩
      · rw [iI_uIn (by decide), k3.2 9 (by omega) (by omega), K11.2 9 (by omega) (by omega)]; exact e99
      · rw [iI_uIn (by decide), k3.2 10 (by omega) (by omega), K11.2 10 (by omega) (by omega)]; exact e910
    have e14 : iI z14 11 = nI (bn4 t len s).2 := B14.2.2
    have hlt : (bn4 t len s).2 < 100 := (bnF_lt (t := t) (len := len) s).2
    rw [P14.2.1, e14]
    have good : ¬ ((bn4 t len s).1.1 = false ∧ (bn4 t len s).2 = 0) → Q z14 := fun hc => by
      have e5 : bn5 t len s = (bn4 t len s).1 := by unfold bn5; rw [if_neg hc]
      refine hQ z14 ?_ Q14 (fun _ => B14)
      show PR t len z14 (bn5 t len s) m op
      rw [e5]; exact P14
    refine ⟨fun hf4 => good (fun hc => hf4 (by rw [hc.1]; rfl)), fun hf4 => ⟨fun h0 => good (fun hc => h0 (by rw [hc.2]; rfl)), fun h0 z15 hz15 z16 hz16 => ?_⟩⟩
    have h0 : (bn4 t len s).2 = 0 := (nI_eq (by omega) (by decide)).mp h0
    have h5 := bn4_0 ⟨bI_f hf4, h0⟩
    have e5 : bn5 t len s = (true, (bn4 t len s).1.2 - 1) := by unfold bn5; rw [if_pos ⟨bI_f hf4, h0⟩]
    have K16 : KP z14 z16 := by subst hz16; subst hz15; exact (KP.u8 _ _).tr (KP.u6 _ _)
    refine hQ z16 ?_ (Q14.tr K16.kq) (fun hc => ?_)
    · show PR t len z16 (bn5 t len s) m op
      rw [e5]
      refine P14.kp K16 ?_ ?_ ?_
      · subst hz16; subst hz15
        rw [iI_uIs, iI_uIn (by decide), P14.1, nI_pred1 (by omega)]
      · subst hz16; subst hz15
        rw [iI_uIn (by decide)]; exact iI_uIs
      · have := P14.2.2.1; show _ - 1 ≤ len; omega
    · exfalso
      have hc : (bn5 t len s).1 = false := hc
      rw [e5] at hc; cases hc
  have h7 := chr_le hT s.2
  -- the sign
  have j30 : s.1 = false → (chr t len s.2 = 60 ∨ chr t len s.2 = 62) → wp_X12_readBound_J30 (nI (chr t len s.2)) σ Q := by
    intro hf hc
    have e1 : bn1 t len s = (false, s.2 + 1) ∧ (skF t len 60 s).1 = decide (chr t len s.2 = 60) := by
      unfold bn1 skF exF
      rcases hc with hc | hc <;> simp [hf, hc]
    unfold wp_X12_readBound_J30
    intro z3 hz3 z4 hz4
    have P3 : PR t len z3 (false, s.2 + 1) m op := by
      subst hz3
      have hi := h.inc (pkp_lt (t := t) (by rw [pkf_s hf]; omega))
      rw [hf] at hi; exact hi
    have P4 : PR t len z4 (false, s.2 + 1) m op := by subst hz4; exact PR.u P3 (by omega)
    have Q4 : KQ σ z4 := by subst hz4; subst hz3; exact (KP.u6 _ _).kq.tr (KQ.u _ (by omega) (by omega))
    have e49 : iI z4 9 = nI (chr t len s.2) := by subst hz4; exact iI_uIs
    have h72 := chr_le hT (s.2 + 1)
    refine q12_here hT P4 ⟨fun he => ?_, fun he z21 hz21 => ?_⟩
    · have e2 : bn2 t len s = (false, (false, s.2 + 1)) := by
        unfold bn2 skF; rw [e1.1, if_neg]
        rintro ⟨-, hc2⟩
        exact he (by rw [hc2]; rfl)
      refine j81 z4 (by rw [e2]; exact P4) Q4 ?_
      rw [e49, e1.2, e2]
      rcases hc with hc | hc <;> rw [hc] <;> rfl
    · have he : chr t len (s.2 + 1) = 61 := (nI_eq (by simpa using (by omega : chr t len (s.2 + 1) < 2 ^ 31)) (by decide)).mp he
      have e2 : bn2 t len s = (true, (false, s.2 + 1 + 1)) := by
        unfold bn2 skF; rw [e1.1, if_pos ⟨rfl, he⟩]
      have P21 : PR t len z21 (false, s.2 + 1 + 1) m op := by
        subst hz21
        exact P4.inc (pkp_lt (t := t) (by rw [pk_f, he]; omega))
      have Q21 : KQ σ z21 := by subst hz21; exact Q4.tr (KP.u6 _ _).kq
      have fin : ∀ x : Int32, x = relc (decide (chr t len s.2 = 60)) true → wp_X12_readBound_J78 z21 x Q := by
        intro x hx
        unfold wp_X12_readBound_J78
        intro z22 hz22
        refine j81 z22 ?_ ?_ ?_
        · rw [e2]; subst hz22; exact PR.u P21 (by omega)
        · subst hz22; exact Q21.tr (KQ.u _ (by omega) (by omega))
        · subst hz22; rw [iI_uIs, e1.2, e2]; exact hx
      refine And.symm (pk_eq (chr t len s.2) 60 (fun hc60 => fin _ ?_) (fun hc60 => fin _ ?_))
      · rw [hc60]; rfl
      · rw [show decide (chr t len s.2 = 60) = false from decide_eq_false hc60]; rfl
  unfold wp_X12_readBound
  refine q12_here hT h ?_
  rw [h.2.1]
  have bad : ∀ p, bn1 t len s = (true, p) → p = s.2 → ∀ z : US, z = uI σ 8 1 → Q z := fun p e1 ep z hz => by
    subst hz
    have e := bnF_1 e1
    refine hQ _ ?_ (KP.u8 _ _).kq (fun hc => ?_)
    · rw [e, ep]; exact h.fail
    · rw [e] at hc; cases hc
  refine ⟨fun hf => ?_, fun hf => ?_⟩
  · have hf := bI_t hf
    refine bad s.2 ?_ rfl
    obtain ⟨f, p⟩ := s
    cases f
    · cases hf
    · unfold bn1; rw [skF_T, exF_T]; rfl
  · have hf := bI_f hf
    refine pk_eq (chr t len s.2) 60 (fun hc => j30 hf (Or.inl hc)) (fun hc => ?_)
    refine pk_eq (chr t len s.2) 62 (fun hc2 => j30 hf (Or.inr hc2)) (fun hc2 => ?_)
    refine bad s.2 ?_ rfl
    unfold bn1 skF exF
    simp [hc, hc2]
end PARR
