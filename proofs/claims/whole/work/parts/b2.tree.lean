/-! ===== formulas: their trees, and what a text says ===== -/
abbrev BB : Type := Bool × Bool × Nat × Nat
abbrev DD : Type := Nat × Nat × BB
def TR : Nat → Type
  | 0 => Unit
  | n + 1 => DD × TR n × TR n
def bb0 : BB := (false, false, 0, 1)
def trU : (n : Nat) → TR n
  | 0 => ()
  | n + 1 => ((0, 0, bb0), trU n, trU n)
def tnd {n : Nat} (k m : Nat) (b : BB) (x y : TR n) : TR (n + 1) := ((k, m, b), x, y)
def hasO (k : Nat) : Bool := decide (k ≠ 116 ∧ k ≠ 97)
def hasT (k : Nat) : Bool := decide (k = 38 ∨ k = 124 ∨ k = 85 ∨ k = 66)
def isB (k : Nat) : Bool := decide (65 ≤ k ∧ k ≤ 90)
def dpt : (n : Nat) → TR n → Nat
  | 0, _ => 0
  | n + 1, T => max (if hasO T.1.1 then dpt n T.2.1 else 0) (if hasT T.1.1 then dpt n T.2.2 else 0) + (if isB T.1.1 then 1 else 0)
def lng : (n : Nat) → TR n → Nat
  | 0, _ => 0
  | n + 1, T => max (max (if hasO T.1.1 then lng n T.2.1 else 0) (if hasT T.1.1 then lng n T.2.2 else 0)) (if T.1.1 = 66 then T.1.2.1 else 0)
def okT : (n : Nat) → TR n → Prop
  | 0, _ => False
  | n + 1, T => (T.1.1 = 116 ∨ (T.1.1 = 97 ∧ T.1.2.1 < 4) ∨ T.1.1 = 33 ∨ T.1.1 = 38 ∨ T.1.1 = 124 ∨ (T.1.1 = 66 ∧ T.1.2.1 ≤ 6) ∨ T.1.1 = 70 ∨ T.1.1 = 71 ∨ T.1.1 = 85 ∨ T.1.1 = 88 ∨ T.1.1 = 83 ∨ T.1.1 = 82) ∧ (T.1.2.2.2.2.1 < 100 ∧ T.1.2.2.2.2.2 < 100 ∧ 0 < T.1.2.2.2.2.2) ∧ (hasO T.1.1 = true → okT n T.2.1) ∧ (hasT T.1.1 = true → okT n T.2.2)
theorem dpt_le : ∀ (n : Nat) (T : TR n), dpt n T ≤ n
  | 0, _ => Nat.le_refl _
  | n + 1, T => by
    have h1 := dpt_le n T.2.1
    have h2 := dpt_le n T.2.2
    unfold dpt
    have h3 : (if hasO T.1.1 then dpt n T.2.1 else 0) ≤ n := by split <;> omega
    have h4 : (if hasT T.1.1 then dpt n T.2.2 else 0) ≤ n := by split <;> omega
    have h5 : (if isB T.1.1 then 1 else 0) ≤ 1 := by split <;> omega
    omega
theorem lng_le : ∀ (n : Nat) (T : TR n), okT n T → lng n T ≤ 6
  | 0, _, h => absurd h (fun h => h)
  | n + 1, T, h => by
    unfold okT at h
    obtain ⟨hk, -, ho, ht⟩ := h
    unfold lng
    have h3 : (if hasO T.1.1 then lng n T.2.1 else 0) ≤ 6 := by
      split
      · rename_i g; exact lng_le n _ (ho g)
      · omega
    have h4 : (if hasT T.1.1 then lng n T.2.2 else 0) ≤ 6 := by
      split
      · rename_i g; exact lng_le n _ (ht g)
      · omega
    have h5 : (if T.1.1 = 66 then T.1.2.1 else 0) ≤ 6 := by split <;> omega
    omega
abbrev ST : Type := Bool × Nat
section RDF
variable (t : Nat → Nat) (len : Nat)
def chr (p : Nat) : Nat := if p < len then t p else 0
def pk (s : ST) : Nat := if s.1 then 0 else chr t len s.2
def skF (x : Nat) (s : ST) : Bool × ST := if s.1 = false ∧ chr t len s.2 = x then (true, (false, s.2 + 1)) else (false, s)
def exF (x : Nat) (s : ST) : ST := if s.1 = false ∧ chr t len s.2 = x then (false, s.2 + 1) else (true, s.2)
def num1 (s : ST) : ST × Nat := if 48 ≤ pk t len s ∧ pk t len s ≤ 57 then ((s.1, s.2 + 1), pk t len s - 48) else ((true, s.2), 0)
def num2 (r : ST × Nat) : ST × Nat := if 48 ≤ pk t len r.1 ∧ pk t len r.1 ≤ 57 then ((r.1.1, r.1.2 + 1), r.2 * 10 + (pk t len r.1 - 48)) else r
def nuF (s : ST) : ST × Nat := num2 t len (num1 t len s)
def bn1 (s : ST) : ST := if (skF t len 60 s).1 = true then (skF t len 60 s).2 else exF t len 62 s
def bn2 (s : ST) : Bool × ST := skF t len 61 (bn1 t len s)
def bn3 (s : ST) : ST × Nat := nuF t len (bn2 t len s).2
def bn4 (s : ST) : ST × Nat := if (skF t len 47 (bn3 t len s).1).1 = true then nuF t len (skF t len 47 (bn3 t len s).1).2 else ((skF t len 47 (bn3 t len s).1).2, 1)
def bn5 (s : ST) : ST := if (bn4 t len s).1.1 = false ∧ (bn4 t len s).2 = 0 then (true, (bn4 t len s).1.2 - 1) else (bn4 t len s).1
def bnF (s : ST) : ST × BB := (bn5 t len s, ((skF t len 60 s).1, (bn2 t len s).1, (bn3 t len s).2, (bn4 t len s).2))
def isW (w : Nat) : Bool := decide (w = 88 ∨ w = 70 ∨ w = 71 ∨ w = 85 ∨ w = 66)
def wy1 (s : ST) : ST := (skF t len (pk t len s) (if isW (pk t len s) then s else (true, s.2))).2
def stF1 (s : ST) : ST × Nat := if 48 ≤ pk t len s ∧ pk t len s ≤ 54 then ((s.1, s.2 + 1), pk t len s - 48) else ((true, s.2), 0)
def wyF (s : ST) : ST × Nat := if pk t len s = 66 then stF1 t len (wy1 t len s) else (wy1 t len s, 0)
def rdF : (n : Nat) → ST → ST × TR n
  | 0, s => ((true, s.2), ())
  | n + 1, s =>
    if pk t len s = 116 then ((s.1, s.2 + 1), tnd 116 0 bb0 (trU n) (trU n))
    else if 97 ≤ pk t len s ∧ pk t len s ≤ 100 then ((s.1, s.2 + 1), tnd 97 (pk t len s - 97) bb0 (trU n) (trU n))
    else if n = 0 ∨ s.1 = true then ((true, s.2), trU (n + 1))
    else if pk t len s = 33 then ((rdF n (false, s.2 + 1)).1, tnd 33 0 bb0 (rdF n (false, s.2 + 1)).2 (trU n))
    else if pk t len s = 40 then
      (exF t len 41 (rdF n (if (skF t len 38 (rdF n (false, s.2 + 1)).1).1 = true then (skF t len 38 (rdF n (false, s.2 + 1)).1).2 else exF t len 124 (rdF n (false, s.2 + 1)).1)).1,
       tnd (if (skF t len 38 (rdF n (false, s.2 + 1)).1).1 = true then 38 else 124) 0 bb0 (rdF n (false, s.2 + 1)).2 (rdF n (if (skF t len 38 (rdF n (false, s.2 + 1)).1).1 = true then (skF t len 38 (rdF n (false, s.2 + 1)).1).2 else exF t len 124 (rdF n (false, s.2 + 1)).1)).2)
    else if pk t len s = 80 then
      if pk t len (exF t len 91 (bnF t len (false, s.2 + 1)).1) = 85 ∨ pk t len (exF t len 91 (bnF t len (false, s.2 + 1)).1) = 66 then
        (exF t len 93 (rdF n (exF t len 44 (rdF n (wyF t len (exF t len 91 (bnF t len (false, s.2 + 1)).1)).1).1)).1,
         tnd (pk t len (exF t len 91 (bnF t len (false, s.2 + 1)).1)) (wyF t len (exF t len 91 (bnF t len (false, s.2 + 1)).1)).2 (bnF t len (false, s.2 + 1)).2 (rdF n (wyF t len (exF t len 91 (bnF t len (false, s.2 + 1)).1)).1).2 (rdF n (exF t len 44 (rdF n (wyF t len (exF t len 91 (bnF t len (false, s.2 + 1)).1)).1).1)).2)
      else
        (exF t len 93 (rdF n (wyF t len (exF t len 91 (bnF t len (false, s.2 + 1)).1)).1).1,
         tnd (pk t len (exF t len 91 (bnF t len (false, s.2 + 1)).1)) (wyF t len (exF t len 91 (bnF t len (false, s.2 + 1)).1)).2 (bnF t len (false, s.2 + 1)).2 (rdF n (wyF t len (exF t len 91 (bnF t len (false, s.2 + 1)).1)).1).2 (trU n))
    else if pk t len s = 83 ∨ pk t len s = 82 then
      (exF t len 93 (rdF n (exF t len 91 (bnF t len (false, s.2 + 1)).1)).1, tnd (pk t len s) 0 (bnF t len (false, s.2 + 1)).2 (rdF n (exF t len 91 (bnF t len (false, s.2 + 1)).1)).2 (trU n))
    else ((true, s.2), trU (n + 1))
end RDF
section RDL
variable {t : Nat → Nat} {len : Nat}
theorem pk_T (p : Nat) : pk t len (true, p) = 0 := rfl
theorem pk_f (p : Nat) : pk t len (false, p) = chr t len p := rfl
theorem pk_pos {s : ST} (h : pk t len s ≠ 0) : s.1 = false ∧ s.2 < len ∧ pk t len s = t s.2 := by
  obtain ⟨f, p⟩ := s
  cases f
  · unfold pk chr at h ⊢
    by_cases hp : p < len
    · simp [hp]
    · simp [hp] at h
  · exact absurd rfl h
theorem skF_T (x p : Nat) : skF t len x (true, p) = (false, (true, p)) := by unfold skF; rw [if_neg (by simp)]
theorem exF_T (x p : Nat) : exF t len x (true, p) = (true, p) := by unfold exF; rw [if_neg (by simp)]
theorem nuF_T (p : Nat) : nuF t len (true, p) = ((true, p), 0) := by
  have h : num1 t len (true, p) = ((true, p), 0) := by unfold num1; rw [pk_T, if_neg (by omega)]
  unfold nuF; rw [h]; unfold num2; rw [pk_T, if_neg (by omega)]
theorem bnF_T (p : Nat) : (bnF t len (true, p)).1 = (true, p) := by
  have h1 : bn1 t len (true, p) = (true, p) := by unfold bn1; rw [skF_T, exF_T]; rfl
  have h2 : bn2 t len (true, p) = (false, (true, p)) := by unfold bn2; rw [h1, skF_T]
  have h3 : bn3 t len (true, p) = ((true, p), 0) := by unfold bn3; rw [h2, nuF_T]
  have h4 : bn4 t len (true, p) = ((true, p), 1) := by unfold bn4; rw [h3, skF_T]; rfl
  show bn5 t len (true, p) = _
  unfold bn5; rw [h4, if_neg (by simp)]
theorem wy1_T (p : Nat) : wy1 t len (true, p) = (true, p) := by
  unfold wy1; rw [pk_T]; show (skF t len 0 (true, p)).2 = _; rw [skF_T]
theorem wyF_T (p : Nat) : wyF t len (true, p) = ((true, p), 0) := by
  unfold wyF; rw [pk_T, if_neg (by omega), wy1_T]
theorem rdF_T : ∀ (n p : Nat), (rdF t len n (true, p)).1 = (true, p)
  | 0, _ => rfl
  | n + 1, p => by
    unfold rdF
    rw [pk_T, if_neg (by omega), if_neg (by omega), if_pos (Or.inr rfl)]
/-- positions: how a reader moves -/
def Mv (len : Nat) (s s' : ST) : Prop := s.2 ≤ s'.2 ∧ (s.2 ≤ len → s'.2 ≤ len)
theorem Mv.rf (s : ST) : Mv len s s := ⟨Nat.le_refl _, fun h => h⟩
theorem Mv.tr {a b c : ST} (h : Mv len a b) (g : Mv len b c) : Mv len a c := ⟨Nat.le_trans h.1 g.1, fun x => g.2 (h.2 x)⟩
theorem Mv.fl {a : ST} {f : Bool} (b : ST) (h : Mv len a b) : Mv len a (f, b.2) := h
theorem pkp_lt {s : ST} (h : pk t len s ≠ 0) : s.2 < len := (pk_pos h).2.1
theorem Mv.inc {s : ST} {f : Bool} (h : pk t len s ≠ 0) : Mv len s (f, s.2 + 1) := ⟨Nat.le_succ _, fun _ => pkp_lt h⟩
theorem chr_pk {s : ST} {x : Nat} (hx : x ≠ 0) (h : s.1 = false ∧ chr t len s.2 = x) : pk t len s ≠ 0 := by
  unfold pk; rw [h.1, h.2]; simpa using hx
theorem Mv.sk {x : Nat} (hx : x ≠ 0) (s : ST) : Mv len s (skF t len x s).2 := by
  unfold skF
  split
  · rename_i h; exact Mv.inc (chr_pk hx h)
  · exact Mv.rf s
theorem Mv.ex {x : Nat} (hx : x ≠ 0) (s : ST) : Mv len s (exF t len x s) := by
  unfold exF
  split
  · rename_i h; exact Mv.inc (chr_pk hx h)
  · exact Mv.rf s
theorem Mv.nu1 (s : ST) : Mv len s (num1 t len s).1 := by
  unfold num1
  split
  · rename_i h; exact Mv.inc (t := t) (by omega)
  · exact Mv.rf s
theorem Mv.nu2 (r : ST × Nat) : Mv len r.1 (num2 t len r).1 := by
  unfold num2
  split
  · rename_i h; exact Mv.inc (t := t) (by omega)
  · exact Mv.rf r.1
theorem Mv.nu (s : ST) : Mv len s (nuF t len s).1 := (Mv.nu1 s).tr (Mv.nu2 _)
theorem num1_inc {s : ST} (h : (num1 t len s).1.1 = false) : (num1 t len s).1.2 = s.2 + 1 := by
  unfold num1 at h ⊢
  split at h
  · rename_i g; rw [if_pos g]
  · cases h
theorem nu_inc {s : ST} (h : (nuF t len s).1.1 = false) : s.2 + 1 ≤ (nuF t len s).1.2 := by
  have h1 : (num1 t len s).1.1 = false := by
    unfold nuF num2 at h
    split at h <;> exact h
  have h2 := num1_inc h1
  have h3 := (Mv.nu2 (t := t) (len := len) (num1 t len s)).1
  unfold nuF; omega
theorem num1_lt (s : ST) : (num1 t len s).2 < 10 := by unfold num1; split <;> simp only <;> omega
theorem nuF_lt (s : ST) : (nuF t len s).2 < 100 := by
  have h := num1_lt (t := t) (len := len) s
  unfold nuF num2
  split
  · simp only; omega
  · omega
theorem Mv.b1 (s : ST) : Mv len s (bn1 t len s) := by
  unfold bn1; split
  · exact Mv.sk (by omega) s
  · exact Mv.ex (by omega) s
theorem Mv.b3 (s : ST) : Mv len s (bn3 t len s).1 := ((Mv.b1 s).tr (Mv.sk (x := 61) (t := t) (by omega) _)).tr (Mv.nu _)
theorem Mv.b4 (s : ST) : Mv len s (bn4 t len s).1 := by
  unfold bn4; split
  · exact ((Mv.b3 s).tr (Mv.sk (x := 47) (t := t) (by omega) _)).tr (Mv.nu _)
  · exact (Mv.b3 s).tr (Mv.sk (x := 47) (t := t) (by omega) _)
theorem bn4_0 {s : ST} (h : (bn4 t len s).1.1 = false ∧ (bn4 t len s).2 = 0) : (bn3 t len s).1.2 + 1 ≤ (bn4 t len s).1.2 := by
  unfold bn4 at h ⊢
  split at h
  · rename_i g
    rw [if_pos g]
    have h1 := nu_inc h.1
    have h2 := (Mv.sk (t := t) (len := len) (x := 47) (by omega) (bn3 t len s).1).1
    omega
  · exact absurd h.2 (by simp)
theorem Mv.bn (s : ST) : Mv len s (bnF t len s).1 := by
  show Mv len s (bn5 t len s)
  unfold bn5
  have h4 := Mv.b4 (t := t) (len := len) s
  have h3 := Mv.b3 (t := t) (len := len) s
  split
  · rename_i h
    have h5 := bn4_0 h
    exact ⟨by have := h3.1; show s.2 ≤ _ - 1; omega, fun hs => by have := h4.2 hs; show _ - 1 ≤ _; omega⟩
  · exact h4
theorem bnF_lt (s : ST) : (bnF t len s).2.2.2.1 < 100 ∧ (bnF t len s).2.2.2.2 < 100 := by
  refine ⟨nuF_lt _, ?_⟩
  show (bn4 t len s).2 < 100
  unfold bn4; split
  · exact nuF_lt _
  · show 1 < 100; omega
theorem Mv.w1 (s : ST) : Mv len s (wy1 t len s) := by
  unfold wy1
  cases h : isW (pk t len s)
  · rw [if_neg (by simp)]
    show Mv len s (skF t len _ (true, s.2)).2
    rw [skF_T]; exact Mv.rf s
  · rw [if_pos rfl]
    exact Mv.sk (by intro hc; rw [hc] at h; exact absurd h (by decide)) s
theorem Mv.st (s : ST) : Mv len s (stF1 t len s).1 := by
  unfold stF1
  split
  · exact Mv.inc (t := t) (by omega)
  · exact Mv.rf s
theorem Mv.wy (s : ST) : Mv len s (wyF t len s).1 := by
  unfold wyF; split
  · exact (Mv.w1 s).tr (Mv.st _)
  · exact Mv.w1 s
theorem wyF_le (s : ST) : (wyF t len s).2 ≤ 6 := by
  unfold wyF; split
  · unfold stF1; split <;> simp only <;> omega
  · simp
theorem Mv.s1 {s : ST} {s' : ST} (h : pk t len s ≠ 0) (g : Mv len (false, s.2 + 1) s') : Mv len s s' := (Mv.inc h).tr g
theorem Mv.op (s : ST) : Mv len s (if (skF t len 38 s).1 = true then (skF t len 38 s).2 else exF t len 124 s) := by
  split
  · exact Mv.sk (by omega) s
  · exact Mv.ex (by omega) s
theorem Mv.rd : ∀ (n : Nat) (s : ST), Mv len s (rdF t len n s).1
  | 0, s => Mv.rf s
  | n + 1, s => by
    unfold rdF
    split
    · exact Mv.inc (t := t) (by omega)
    split
    · exact Mv.inc (t := t) (by omega)
    split
    · exact Mv.rf s
    split
    · exact Mv.s1 (t := t) (by omega) (Mv.rd n _)
    split
    · exact Mv.s1 (t := t) (by omega) ((((Mv.rd n _).tr (Mv.op _)).tr (Mv.rd n _)).tr (Mv.ex (by omega) _))
    split
    · split
      · exact Mv.s1 (t := t) (by omega) ((((((Mv.bn _).tr (Mv.ex (by omega) _)).tr (Mv.wy _)).tr (Mv.rd n _)).tr (Mv.ex (by omega) _)).tr (Mv.rd n _) |>.tr (Mv.ex (by omega) _))
      · exact Mv.s1 (t := t) (by omega) (((((Mv.bn _).tr (Mv.ex (by omega) _)).tr (Mv.wy _)).tr (Mv.rd n _)).tr (Mv.ex (by omega) _))
    split
    · exact Mv.s1 (t := t) (by omega) ((((Mv.bn _).tr (Mv.ex (by omega) _)).tr (Mv.rd n _)).tr (Mv.ex (by omega) _))
    · exact Mv.rf s
theorem exF_ok {x : Nat} {s : ST} (h : (exF t len x s).1 = false) : s.1 = false ∧ chr t len s.2 = x := by
  unfold exF at h
  split at h
  · rename_i g; exact g
  · cases h
theorem ok_of_rd {n : Nat} {s : ST} (h : (rdF t len n s).1.1 = false) : s.1 = false := by
  obtain ⟨f, p⟩ := s
  cases f
  · rfl
  · rw [rdF_T] at h; cases h
theorem ok_of_bn {s : ST} (h : (bnF t len s).1.1 = false) : s.1 = false := by
  obtain ⟨f, p⟩ := s
  cases f
  · rfl
  · rw [bnF_T] at h; cases h
theorem ok_of_wy {s : ST} (h : (wyF t len s).1.1 = false) : s.1 = false ∧ isW (pk t len s) = true := by
  have h1 : (wy1 t len s).1 = false := by
    unfold wyF at h
    split at h
    · unfold stF1 at h; split at h
      · exact h
      · cases h
    · exact h
  unfold wy1 at h1
  cases hw : isW (pk t len s)
  · rw [hw, if_neg (by simp), skF_T] at h1; cases h1
  · rw [hw, if_pos rfl] at h1
    refine ⟨?_, rfl⟩
    obtain ⟨f, p⟩ := s
    cases f
    · rfl
    · rw [skF_T] at h1; cases h1
theorem bnF_bd {s : ST} (h : (bnF t len s).1.1 = false) : (bnF t len s).2.2.2.1 < 100 ∧ (bnF t len s).2.2.2.2 < 100 ∧ 0 < (bnF t len s).2.2.2.2 := by
  have h0 := bnF_lt (t := t) (len := len) s
  refine ⟨h0.1, h0.2, ?_⟩
  have h : (bn5 t len s).1 = false := h
  show 0 < (bn4 t len s).2
  unfold bn5 at h
  split at h
  · cases h
  · rename_i g
    exact Nat.pos_of_ne_zero (fun hz => g ⟨h, hz⟩)
theorem bb0_lt : bb0.2.2.1 < 100 ∧ bb0.2.2.2 < 100 ∧ 0 < bb0.2.2.2 := by decide
theorem okT_rd : ∀ (n : Nat) (s : ST), (rdF t len n s).1.1 = false → okT n (rdF t len n s).2
  | 0, s, h => by cases h
  | n + 1, s, h => by
    unfold rdF at h ⊢
    split
    · exact ⟨Or.inl rfl, bb0_lt, fun (hc : hasO 116 = true) => absurd hc (by decide), fun (hc : hasT 116 = true) => absurd hc (by decide)⟩
    rename_i g1; rw [if_neg g1] at h
    split
    · rename_i g2
      exact ⟨Or.inr (Or.inl ⟨rfl, by show _ - 97 < 4; omega⟩), bb0_lt, fun (hc : hasO 97 = true) => absurd hc (by decide), fun (hc : hasT 97 = true) => absurd hc (by decide)⟩
    rename_i g2; rw [if_neg g2] at h
    split
    · rename_i g3; rw [if_pos g3] at h; cases h
    rename_i g3; rw [if_neg g3] at h
    split
    · rename_i g4; rw [if_pos g4] at h
      exact ⟨Or.inr (Or.inr (Or.inl rfl)), bb0_lt, fun _ => okT_rd n _ h, fun (hc : hasT 33 = true) => absurd hc (by decide)⟩
    rename_i g4; rw [if_neg g4] at h
    split
    · rename_i g5; rw [if_pos g5] at h
      have h2 := (exF_ok h).1
      have h3 := ok_of_rd h2
      have h4 : (rdF t len n (false, s.2 + 1)).1.1 = false := by
        by_cases hs : (skF t len 38 (rdF t len n (false, s.2 + 1)).1).1 = true
        · unfold skF at hs; split at hs
          · rename_i g; exact g.1
          · cases hs
        · rw [if_neg hs] at h3; exact (exF_ok h3).1
      refine ⟨?_, bb0_lt, fun _ => okT_rd n _ h4, fun _ => okT_rd n _ h2⟩
      by_cases g : (skF t len 38 (rdF t len n (false, s.2 + 1)).1).1 = true
      · exact Or.inr (Or.inr (Or.inr (Or.inl (if_pos g))))
      · exact Or.inr (Or.inr (Or.inr (Or.inr (Or.inl (if_neg g)))))
    rename_i g5; rw [if_neg g5] at h
    split
    · rename_i g6; rw [if_pos g6] at h
      split
      · rename_i g7; rw [if_pos g7] at h
        have h1 := (exF_ok h).1
        have h2 := (exF_ok (ok_of_rd h1)).1
        have h3 := ok_of_wy (ok_of_rd h2)
        refine ⟨?_, bnF_bd (exF_ok h3.1).1, fun _ => okT_rd n _ h2, fun _ => okT_rd n _ h1⟩
        rcases g7 with g7 | g7
        · exact Or.inr (Or.inr (Or.inr (Or.inr (Or.inr (Or.inr (Or.inr (Or.inr (Or.inl g7))))))))
        · exact Or.inr (Or.inr (Or.inr (Or.inr (Or.inr (Or.inl ⟨g7, wyF_le _⟩)))))
      · rename_i g7; rw [if_neg g7] at h
        have h2 := (exF_ok h).1
        have h30 := ok_of_wy (ok_of_rd h2)
        have h3 := h30.2
        refine ⟨?_, bnF_bd (exF_ok h30.1).1, fun _ => okT_rd n _ h2, fun hc => ?_⟩
        · unfold isW at h3
          have h3 := of_decide_eq_true h3
          show pk t len _ = 116 ∨ _
          rcases h3 with e | e | e | e | e
          · exact Or.inr (Or.inr (Or.inr (Or.inr (Or.inr (Or.inr (Or.inr (Or.inr (Or.inr (Or.inl e)))))))))
          · exact Or.inr (Or.inr (Or.inr (Or.inr (Or.inr (Or.inr (Or.inl e))))))
          · exact Or.inr (Or.inr (Or.inr (Or.inr (Or.inr (Or.inr (Or.inr (Or.inl e)))))))
          · exact absurd (Or.inl e) g7
          · exact absurd (Or.inr e) g7
        · have hc := of_decide_eq_true hc
          have h3 := of_decide_eq_true h3
          exfalso
          have hc : pk t len (exF t len 91 (bnF t len (false, s.2 + 1)).1) = 38 ∨ pk t len (exF t len 91 (bnF t len (false, s.2 + 1)).1) = 124 ∨ pk t len (exF t len 91 (bnF t len (false, s.2 + 1)).1) = 85 ∨ pk t len (exF t len 91 (bnF t len (false, s.2 + 1)).1) = 66 := hc
          omega
    rename_i g6; rw [if_neg g6] at h
    split
    · rename_i g7; rw [if_pos g7] at h
      have h2 := (exF_ok h).1
      refine ⟨?_, bnF_bd (exF_ok (ok_of_rd h2)).1, fun _ => okT_rd n _ h2, fun hc => ?_⟩
      · rcases g7 with e | e
        · exact Or.inr (Or.inr (Or.inr (Or.inr (Or.inr (Or.inr (Or.inr (Or.inr (Or.inr (Or.inr (Or.inl e))))))))))
        · exact Or.inr (Or.inr (Or.inr (Or.inr (Or.inr (Or.inr (Or.inr (Or.inr (Or.inr (Or.inr (Or.inr e))))))))))
      · have hc := of_decide_eq_true hc
        have hc : pk t len s = 38 ∨ pk t len s = 124 ∨ pk t len s = 85 ∨ pk t len s = 66 := hc
        omega
    · rename_i g7; rw [if_neg g7] at h; cases h
end RDL
