/-! ===== the class's parser reads what the text says ===== -/
def CT (pl : va_W) : (n : Nat) → TR n → Option Nat → Prop
  | 0, _, _ => False
  | n + 1, T, o => ∃ (q : Nat) (ob o1 o2 : Option Nat), o = some q ∧ (q, .inr (11, [.int (nI (if T.1.1 = 97 then 97 + T.1.2.1 else T.1.1)), va_rf ob, .int (nI (if T.1.1 = 66 then T.1.2.1 else 0)), va_rf o1, va_rf o2, .int (nI (dpt (n + 1) T)), .int (nI (lng (n + 1) T))])) ∈ pl ∧ (isB T.1.1 = true → ∃ xb : Nat, ob = some xb ∧ (xb, .inr (3, [.int (bI T.1.2.2.1), .int (bI T.1.2.2.2.1), .int (nI T.1.2.2.2.2.1), .int (nI T.1.2.2.2.2.2)])) ∈ pl) ∧ (hasO T.1.1 = true → CT pl n T.2.1 o1) ∧ (hasT T.1.1 = true → CT pl n T.2.2 o2) ∧ (hasO T.1.1 = false → o1 = none) ∧ (hasT T.1.1 = false → o2 = none)
def Ext (pl pl' : va_W) : Prop := ∀ x, x ∈ pl → x ∈ pl'
theorem Ext.rf (pl : va_W) : Ext pl pl := fun _ h => h
theorem Ext.tr {a b c : va_W} (h : Ext a b) (g : Ext b c) : Ext a c := fun x hx => g x (h x hx)
theorem Ext.cs (x : Nat × va_E) (pl : va_W) : Ext pl (x :: pl) := fun _ h => List.mem_cons_of_mem _ h
theorem CT.ext {pl pl' : va_W} (E : Ext pl pl') : ∀ (n : Nat) (T : TR n) (o : Option Nat), CT pl n T o → CT pl' n T o
  | 0, _, _, h => h
  | n + 1, T, o, h => by
    unfold CT at h ⊢
    obtain ⟨q, ob, o1, o2, e, hm, hb, h1, h2, h3, h4⟩ := h
    exact ⟨q, ob, o1, o2, e, E _ hm, fun hi => (hb hi).elim fun xb hx => ⟨xb, hx.1, E _ hx.2⟩, fun hi => CT.ext E n _ _ (h1 hi), fun hi => CT.ext E n _ _ (h2 hi), h3, h4⟩
theorem NF.ext {pl pl' : va_W} (E : Ext pl pl') {o : Option Nat} {d l : Nat} (h : NF pl o d l) : NF pl' o d l := by
  rcases h with h | ⟨a, k, b, t, f, g, h1, h2⟩
  · exact Or.inl h
  · exact Or.inr ⟨a, k, b, t, f, g, h1, E _ h2⟩
theorem NF.none (pl : va_W) : NF pl none 0 0 := Or.inl ⟨rfl, rfl, rfl⟩
theorem CT.nf {pl : va_W} : ∀ {n : Nat} {T : TR n} {o : Option Nat}, CT pl n T o → NF pl o (dpt n T) (lng n T)
  | 0, _, _, h => absurd h (fun h => h)
  | n + 1, T, o, h => by
    unfold CT at h
    obtain ⟨q, ob, o1, o2, e, hm, -⟩ := h
    exact Or.inr ⟨q, _, _, _, _, _, e, hm⟩
def NB (pl : va_W) (n : Nat) (o : Option Nat) : Prop := ∃ d l : Nat, NF pl o d l ∧ d ≤ n ∧ l ≤ 6
/-- what a reader leaves: a node of no account behind an error, else the tree -/
def PO (pl : va_W) (n : Nat) (r : ST × TR n) (o : Option Nat) : Prop := NB pl n o ∧ (r.1.1 = false → CT pl n r.2 o)
def PS (len : Nat) (σ : US) (s : ST) : Prop := iI σ 0 = nI s.2 ∧ iI σ 1 = bI s.1 ∧ s.2 ≤ len
def TOK (kc : Nat → ClassId) (tx : Nat → Nat) (t : Nat → Nat) (len : Nat) (pl : va_W) : Prop := TX kc pl (tx 0) t len ∧ len ≤ 50 ∧ ∀ i, i < len → 33 ≤ t i ∧ t i ≤ 126
theorem TOK.ext {kc : Nat → ClassId} {tx t : Nat → Nat} {len : Nat} {pl pl' : va_W} (E : Ext pl pl') (h : TOK kc tx t len pl) : TOK kc tx t len pl' := by
  obtain ⟨⟨ba, x2, x3, f, h1, h2, h3⟩, h4⟩ := h
  exact ⟨⟨ba, x2, x3, f, E _ h1, E _ h2, h3⟩, h4⟩
section PARC
variable {kc : Nat → ClassId} {tx t : Nat → Nat} {len : Nat} {pl : va_W} {σ : US} {s : ST}
theorem PS.inc (h : PS len σ s) (hl : s.2 < len) : PS len (uI σ 0 (iI σ 0 + 1)) (s.1, s.2 + 1) := by
  refine ⟨?_, ?_, hl⟩
  · rw [iI_uIs, h.1, nI_1]
  · rw [iI_uIn (by decide)]; exact h.2.1
theorem PS.fail (h : PS len σ s) : PS len (uI σ 1 1) (true, s.2) := by
  refine ⟨?_, iI_uIs, h.2.2⟩
  rw [iI_uIn (by decide)]; exact h.1
theorem chr_lt (hT : TOK kc tx t len pl) (p : Nat) : chr t len p ≤ 126 := by
  unfold chr
  split
  · rename_i h; exact (hT.2.2 p h).2
  · omega
theorem pk_lt7 (hT : TOK kc tx t len pl) (s : ST) : pk t len s ≤ 126 := by
  unfold pk
  split
  · omega
  · exact chr_lt hT _
theorem q10_peek (hT : TOK kc tx t len pl) (h : PS len σ s) {Q : Int32 → Prop} (hQ : Q (nI (pk t len s))) : wp_X10_peek kc tx σ pl Q := by
  unfold wp_X10_peek
  have h50 := hT.2.1
  have h3 := h.2.2
  refine ⟨s.2, len, s.1, t, h.1, h.2.1, by omega, hT.1, ?_⟩
  have e : (if !s.1 && decide (s.2 < len) then nI (t s.2) else 0) = nI (pk t len s) := by
    obtain ⟨f, p⟩ := s
    cases f
    · unfold pk chr
      by_cases hp : p < len
      · simp [hp]
      · simp [hp]; rfl
    · rfl
  rw [e]; exact hQ
theorem bI_f {b : Bool} (h : bI b = 0) : b = false := (bI_eq0 b).mp h
theorem bI_t {b : Bool} (h : ¬ bI b = 0) : b = true := by
  cases b
  · exact absurd rfl h
  · rfl
theorem q10_skip (hT : TOK kc tx t len pl) (h : PS len σ s) {x : Nat} (hx0 : x ≠ 0) (hx : x < 2 ^ 31) {Q : Int32 → US → Prop} (hQ : ∀ σ', PS len σ' (skF t len x s).2 → Q (bI (skF t len x s).1) σ') : wp_X10_skip kc tx (nI x) σ pl Q := by
  unfold wp_X10_skip
  rw [h.2.1]
  refine ⟨fun hf => ?_, fun hf => q10_peek hT h ⟨fun he z hz => ?_, fun he => ?_⟩⟩
  · have e : skF t len x s = (false, s) := by unfold skF; rw [if_neg (fun hc => hf (by rw [hc.1]; rfl))]
    rw [e] at hQ; exact hQ σ h
  · have hf := bI_f hf
    have h7 := pk_lt7 hT s
    rw [nI_eq (by omega) hx] at he
    have hp := pk_pos (t := t) (len := len) (s := s) (by omega)
    have hx2 : chr t len s.2 = x := by
      unfold pk at he; rw [hf] at he; exact he
    have e : skF t len x s = (true, (false, s.2 + 1)) := by
      unfold skF; rw [if_pos ⟨hf, hx2⟩]
    rw [e] at hQ; subst hz
    have hi := h.inc hp.2.1
    rw [hf] at hi
    exact hQ _ hi
  · have hf := bI_f hf
    have h7 := pk_lt7 hT s
    rw [nI_eq (by omega) hx] at he
    have e : skF t len x s = (false, s) := by
      unfold skF; rw [if_neg]
      rintro ⟨-, hc⟩
      apply he
      unfold pk; rw [hf]; exact hc
    rw [e] at hQ; exact hQ σ h
/-- a skip behind an error, of any sign -/
theorem q10_skipT (h : PS len σ s) (hf : s.1 = true) {x : Int32} {Q : Int32 → US → Prop} (hQ : Q 0 σ) : wp_X10_skip kc tx x σ pl Q := by
  unfold wp_X10_skip
  rw [h.2.1, hf]
  exact ⟨fun _ => hQ, fun hc => absurd hc (by decide)⟩
theorem q10_expect (hT : TOK kc tx t len pl) (h : PS len σ s) {x : Nat} (hx0 : x ≠ 0) (hx : x < 2 ^ 31) {Q : US → Prop} (hQ : ∀ σ', PS len σ' (exF t len x s) → Q σ') : wp_X10_expect kc tx (nI x) σ pl Q := by
  unfold wp_X10_expect
  refine q10_skip hT h hx0 hx (fun σ' h' => ?_)
  unfold exF at hQ
  unfold skF at h'
  by_cases g : s.1 = false ∧ chr t len s.2 = x
  · rw [if_pos g] at hQ h'
    have e : (skF t len x s).1 = true := by unfold skF; rw [if_pos g]
    rw [e]
    exact ⟨fun _ => hQ _ h', fun hc => absurd hc (by decide)⟩
  · rw [if_neg g] at hQ h'
    have e : (skF t len x s).1 = false := by unfold skF; rw [if_neg g]
    rw [e]
    refine ⟨fun hc => absurd rfl hc, fun _ z hz => ?_⟩
    subst hz
    exact hQ _ h'.fail
theorem q10_readNumber (hT : TOK kc tx t len pl) (h : PS len σ s) {Q : Int32 → US → Prop} (hQ : ∀ σ', PS len σ' (nuF t len s).1 → Q (nI (nuF t len s).2) σ') : wp_X10_readNumber kc tx σ pl Q := by
  unfold wp_X10_readNumber
  have h10 := num1_lt (t := t) (len := len) s
  have h100 := nuF_lt (t := t) (len := len) s
  refine lp_inv 2 (fun j z => (j = 0 ∧ z = (nI 0, nI 0, σ)) ∨ (j = 1 ∧ ∃ σ1, z = (nI (num1 t len s).2, nI 1, σ1) ∧ PS len σ1 (num1 t len s).1) ∨ (j = 2 ∧ ∃ σ1, z = (nI (nuF t len s).2, nI 2, σ1) ∧ PS len σ1 (nuF t len s).1)) ?_ _ (Or.inl ⟨rfl, rfl⟩)
  rintro j z hj hI P hP
  unfold wp_X10_readNumber_L4
  rcases hI with ⟨rfl, rfl⟩ | ⟨rfl, σ1, rfl, h1⟩ | ⟨rfl, σ1, rfl, h1⟩
  · refine pk_le 2 0 (fun hc => by omega) (fun _ => q10_peek hT h ?_)
    have h7 := pk_lt7 hT s
    have hn : ¬ (48 ≤ pk t len s ∧ pk t len s ≤ 57) → (¬ (nI 0 : Int32) = 0 → P (nI 0, nI 0 + 1, σ)) ∧ ((nI 0 : Int32) = 0 → ∀ z2 : US, z2 = uI σ 1 1 → P (nI 0, nI 0 + 1, z2)) := fun hc => by
      refine ⟨fun h0 => absurd rfl h0, fun _ z2 hz => ?_⟩
      subst hz
      have e : num1 t len s = ((true, s.2), 0) := by unfold num1; rw [if_neg hc]
      refine hP (by omega) _ (Or.inr (Or.inl ⟨rfl, uI σ 1 1, ?_, ?_⟩))
      · rw [e]; rfl
      · rw [e]; exact h.fail
    refine pk_lt (pk t len s) 48 (fun hc => hn (by omega)) (fun hc => pk_lt 57 (pk t len s) (fun hc2 => hn (by omega)) (fun hc2 => ?_))
    intro x hx z2 hz
    have e : num1 t len s = ((s.1, s.2 + 1), pk t len s - 48) := by unfold num1; rw [if_pos (by omega)]
    have e2 : x = nI (num1 t len s).2 := by
      rw [hx, e]
      show nI 0 * nI 10 + (nI (pk t len s) - nI 48) = _
      rw [pk_mul, pk_sub hc, nI_add]; congr 1; omega
    subst hz
    refine hP (by omega) _ (Or.inr (Or.inl ⟨rfl, uI σ 0 (iI σ 0 + 1), ?_, ?_⟩))
    · rw [e2]; rfl
    · rw [e]; exact h.inc (pkp_lt (t := t) (by omega))
  · refine pk_le 2 1 (fun hc => by omega) (fun _ => q10_peek hT h1 ?_)
    have h7 := pk_lt7 hT (num1 t len s).1
    have hn : ¬ (48 ≤ pk t len (num1 t len s).1 ∧ pk t len (num1 t len s).1 ≤ 57) → (¬ (nI 1 : Int32) = 0 → P (nI (num1 t len s).2, nI 1 + 1, σ1)) ∧ ((nI 1 : Int32) = 0 → ∀ z2 : US, z2 = uI σ1 1 1 → P (nI (num1 t len s).2, nI 1 + 1, z2)) := fun hc => by
      refine ⟨fun _ => ?_, fun h0 => absurd h0 (by decide)⟩
      have e : nuF t len s = num1 t len s := by unfold nuF num2; rw [if_neg hc]
      refine hP (by omega) _ (Or.inr (Or.inr ⟨rfl, σ1, ?_, ?_⟩))
      · rw [e]; rfl
      · rw [e]; exact h1
    refine pk_lt (pk t len (num1 t len s).1) 48 (fun hc => hn (by omega)) (fun hc => pk_lt 57 (pk t len (num1 t len s).1) (fun hc2 => hn (by omega)) (fun hc2 => ?_))
    intro x hx z2 hz
    have e : nuF t len s = (((num1 t len s).1.1, (num1 t len s).1.2 + 1), (num1 t len s).2 * 10 + (pk t len (num1 t len s).1 - 48)) := by unfold nuF num2; rw [if_pos (by omega)]
    have e2 : x = nI (nuF t len s).2 := by
      rw [hx, e]
      show nI _ * nI 10 + (nI (pk t len (num1 t len s).1) - nI 48) = _
      rw [pk_mul, pk_sub hc, nI_add]
    subst hz
    refine hP (by omega) _ (Or.inr (Or.inr ⟨rfl, uI σ1 0 (iI σ1 0 + 1), ?_, ?_⟩))
    · rw [e2]; rfl
    · rw [e]; exact h1.inc (pkp_lt (t := t) (by omega))
  · refine pk_le 2 2 (fun _ => hQ _ h1) (fun hc => by omega)
theorem q10_readSteps (hT : TOK kc tx t len pl) (h : PS len σ s) {Q : Int32 → US → Prop} (hQ : ∀ σ', PS len σ' (stF1 t len s).1 → Q (nI (stF1 t len s).2) σ') : wp_X10_readSteps kc tx σ pl Q := by
  unfold wp_X10_readSteps
  refine q10_peek hT h ?_
  have h7 := pk_lt7 hT s
  have hn : ¬ (48 ≤ pk t len s ∧ pk t len s ≤ 54) → ∀ z : US, z = uI σ 1 1 → Q 0 z := fun hc z hz => by
    subst hz
    have e : stF1 t len s = ((true, s.2), 0) := by unfold stF1; rw [if_neg hc]
    rw [e] at hQ
    exact hQ _ h.fail
  refine pk_lt (pk t len s) 48 (fun hc => hn (by omega)) (fun hc => pk_le (pk t len s) 54 (fun hc2 => ?_) (fun hc2 => hn (by omega)))
  intro z hz
  subst hz
  have e : stF1 t len s = ((s.1, s.2 + 1), pk t len s - 48) := by unfold stF1; rw [if_pos (by omega)]
  rw [e] at hQ
  have e2 : nI (pk t len s) - 48 = nI (pk t len s - 48) := pk_sub hc
  rw [e2]
  exact hQ _ (h.inc (pkp_lt (t := t) (by omega)))
theorem q1_init {u e tp bt : Int32} {ub eb : Bool} (h1 : u = bI ub) (h2 : e = bI eb) {q : Nat} {Q : va_W → Prop} (hQ : ∀ z : va_W, z = (q, .inr (3, [.int u, .int e, .int tp, .int bt])) :: pl → Q z) : wp_X1_init u e tp bt q pl Q := ⟨ub, eb, h1, h2, hQ⟩
theorem q10_readBound (hT : TOK kc tx t len pl) (h : PS len σ s) {Q : Option Nat → US × va_W → Prop} (hQ : ∀ (q : Nat) (σ' : US) (pl' : va_W), pl' = (q, .inr (3, [.int (bI (bnF t len s).2.1), .int (bI (bnF t len s).2.2.1), .int (nI (bnF t len s).2.2.2.1), .int (nI (bnF t len s).2.2.2.2)])) :: pl → PS len σ' (bnF t len s).1 → Q (some q) (σ', pl')) : wp_X10_readBound kc tx σ pl Q := by
  have fin : ∀ σ1, PS len σ1 (bn5 t len s) → wp_X10_readBound_J75 kc tx (nI (bn4 t len s).2) (nI (bn3 t len s).2) (bI (bn2 t len s).1) (bI (skF t len 60 s).1) σ1 pl Q := by
    intro σ1 h1
    unfold wp_X10_readBound_J75
    intro q
    exact q1_init rfl rfl (fun z hz => hQ q σ1 z hz h1)
  have j46 : ∀ σ1, PS len σ1 (bn4 t len s).1 → wp_X10_readBound_J46 kc tx (nI (bn3 t len s).2) (bI (bn2 t len s).1) (bI (skF t len 60 s).1) σ1 pl (nI (bn4 t len s).2) Q := by
    intro σ1 h1
    unfold wp_X10_readBound_J46
    rw [h1.2.1]
    have hb := (bnF_lt (t := t) (len := len) s).2
    have hb : (bn4 t len s).2 < 100 := hb
    refine ⟨fun hf => fin σ1 ?_, fun hf => ⟨fun h0 => fin σ1 ?_, fun h0 z11 hz z12 hz2 => ?_⟩⟩
    · have e : bn5 t len s = (bn4 t len s).1 := by unfold bn5; rw [if_neg (fun hc => hf (by rw [hc.1]; rfl))]
      rw [e]; exact h1
    · have e : bn5 t len s = (bn4 t len s).1 := by unfold bn5; rw [if_neg (fun hc => h0 (by rw [hc.2]; rfl))]
      rw [e]; exact h1
    · have hz0 : (bn4 t len s).2 = 0 := (nI_eq (by omega) (by decide)).mp h0
      have h5 := bn4_0 ⟨bI_f hf, hz0⟩
      have e : bn5 t len s = (true, (bn4 t len s).1.2 - 1) := by unfold bn5; rw [if_pos ⟨bI_f hf, hz0⟩]
      rw [h0]
      have hh := fin z12 (by
        rw [e]; subst hz2; subst hz
        refine ⟨?_, iI_uIs, ?_⟩
        · rw [iI_uIn (by decide), iI_uIs, h1.1, nI_pred1 (by omega)]
        · have := h1.2.2; show _ - 1 ≤ len; omega)
      rw [h0] at hh; exact hh
  have j17 : ∀ σ1, PS len σ1 (bn1 t len s) → wp_X10_readBound_J17 kc tx (bI (skF t len 60 s).1) σ1 pl Q := by
    intro σ1 h1
    unfold wp_X10_readBound_J17
    refine q10_skip (x := 61) hT h1 (by decide) (by decide) (fun σ2 h2 => ?_)
    refine q10_readNumber hT h2 (fun σ3 h3 => ?_)
    refine q10_skip (x := 47) hT (s := (bn3 t len s).1) h3 (by decide) (by decide) (fun σ4 h4 => ?_)
    refine br_b (fun hb => ?_) (fun hb => ?_)
    · have e : bn4 t len s = ((skF t len 47 (bn3 t len s).1).2, 1) := by unfold bn4; rw [if_neg (by rw [hb]; decide)]
      have hh := j46 σ4 (by rw [e]; exact h4)
      rw [e] at hh; exact hh
    · have e : bn4 t len s = nuF t len (skF t len 47 (bn3 t len s).1).2 := by unfold bn4; rw [if_pos hb]
      refine q10_readNumber hT h4 (fun σ5 h5 => ?_)
      have hh := j46 σ5 (by rw [e]; exact h5)
      rw [e] at hh; exact hh
  unfold wp_X10_readBound
  refine q10_skip (x := 60) hT h (by decide) (by decide) (fun σ1 h1 => ?_)
  refine And.symm (br_b (fun hb => ?_) (fun hb => j17 σ1 ?_))
  · have e : (skF t len 60 s).2 = s := by
      unfold skF at hb ⊢; split at hb
      · cases hb
      · rename_i g; rw [if_neg g]
    rw [e] at h1
    refine q10_expect (x := 62) hT h1 (by decide) (by decide) (fun σ2 h2 => j17 σ2 ?_)
    unfold bn1; rw [if_neg (by rw [hb]; decide)]; exact h2
  · unfold bn1; rw [if_pos hb]; exact h1
end PARC
