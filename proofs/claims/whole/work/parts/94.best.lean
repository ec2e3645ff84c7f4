/-! ===== best paths: the mathematics ===== -/
section BM
variable {c : CH} {U G : Nat → Bool}
theorem fr_le {a b x d e f : Nat} (h1 : a * d ≤ x * b) (h2 : x * f ≤ e * d) (hd : 0 < d) : a * f ≤ e * b := by
  refine Nat.le_of_mul_le_mul_right (c := d) ?_ hd
  calc a * f * d = (a * d) * f := by grind
    _ ≤ (x * b) * f := Nat.mul_le_mul_right f h1
    _ = (x * f) * b := by grind
    _ ≤ (e * d) * b := Nat.mul_le_mul_right b h2
    _ = e * b * d := by grind
theorem fr_ltr {a b x d e f : Nat} (h1 : a * d ≤ x * b) (h2 : x * f < e * d) (hb : 0 < b) : a * f < e * b := by
  refine Nat.lt_of_mul_lt_mul_right (a := d) ?_
  calc a * f * d = (a * d) * f := by grind
    _ ≤ (x * b) * f := Nat.mul_le_mul_right f h1
    _ = (x * f) * b := by grind
    _ < (e * d) * b := Nat.mul_lt_mul_of_pos_right h2 hb
    _ = e * b * d := by grind
theorem fr_ltl {a b x d e f : Nat} (h1 : a * d < x * b) (h2 : x * f ≤ e * d) (hf : 0 < f) : a * f < e * b := by
  refine Nat.lt_of_mul_lt_mul_right (a := d) ?_
  calc a * f * d = (a * d) * f := by grind
    _ < (x * b) * f := Nat.mul_lt_mul_of_pos_right h1 hf
    _ = (x * f) * b := by grind
    _ ≤ (e * d) * b := Nat.mul_le_mul_right b h2
    _ = e * b * d := by grind
theorem fr_eq {a b x d e f : Nat} (h1 : a * d = x * b) (h2 : x * f = e * d) (hd : 0 < d) : a * f = e * b := by
  refine Nat.eq_of_mul_eq_mul_right hd ?_
  calc a * f * d = (a * d) * f := by grind
    _ = (x * b) * f := by rw [h1]
    _ = (x * f) * b := by grind
    _ = (e * d) * b := by rw [h2]
    _ = e * b * d := by grind
theorem cst_cdiv (ok : okC c) {x t : Nat} (hx : x < 8) (ht : t < 8) : cst c x t ≤ cdiv c x := by
  rw [← cst_sum ok hx]; exact sumN_get ht
/-- a walk of l steps from x through U to G, all of it in S, whose chances multiply to a / b -/
def WK (c : CH) (U G S : Nat → Bool) : Nat → Nat → Nat → Nat → Prop
  | 0, x, a, b => S x = true ∧ G x = true ∧ a = 1 ∧ b = 1
  | l + 1, x, a, b => S x = true ∧ U x = true ∧ ∃ t a' b', 0 < cst c x t ∧ a = cst c x t * a' ∧ b = cdiv c x * b' ∧ WK c U G S l t a' b'
def HD (c : CH) (U G S : Nat → Bool) (s : Nat) : Nat → Nat → Nat → Prop
  | 0, a, b => S s = true ∧ G s = true ∧ a = 1 ∧ b = 1
  | l + 1, a, b => S s = true ∧ U s = true ∧ ∃ t a' b', 0 < cst c s t ∧ a = cst c s t * a' ∧ b = cdiv c s * b' ∧ WK c U G (lessS S s) l t a' b'
theorem WK_mem {S : Nat → Bool} : ∀ {l x a b : Nat}, WK c U G S l x a b → S x = true
  | 0, _, _, _, h => h.1
  | _ + 1, _, _, _, h => h.1
theorem WK_pos {S : Nat → Bool} : ∀ {l x a b : Nat}, WK c U G S l x a b → 0 < a ∧ 0 < b
  | 0, _, _, _, h => by rw [h.2.2.1, h.2.2.2]; exact ⟨by decide, by decide⟩
  | l + 1, x, _, _, ⟨_, _, t, a', b', h1, h2, h3, h4⟩ => by
    obtain ⟨p, q⟩ := WK_pos h4
    rw [h2, h3]; exact ⟨Nat.mul_pos h1 p, Nat.mul_pos (cdiv_pos c x) q⟩
theorem WK_mono {S T : Nat → Bool} (h : ∀ x, S x = true → T x = true) : ∀ {l x a b : Nat}, WK c U G S l x a b → WK c U G T l x a b
  | 0, _, _, _, h1 => ⟨h _ h1.1, h1.2⟩
  | _ + 1, _, _, _, ⟨h1, h2, t, a', b', h3, h4, h5, h6⟩ => ⟨h _ h1, h2, t, a', b', h3, h4, h5, WK_mono h h6⟩
theorem WK_last (ok : okC c) {S : Nat → Bool} (hS : ∀ x, S x = true → x < 8) (s : Nat) : ∀ (l x a b : Nat), WK c U G S l x a b → WK c U G (lessS S s) l x a b ∨ ∃ l' a' b', l' ≤ l ∧ HD c U G S s l' a' b' ∧ a * b' ≤ a' * b
  | 0, x, _, _, ⟨h1, h2, h3, h4⟩ => by
    by_cases hx : x = s
    · subst hx; exact Or.inr ⟨0, 1, 1, Nat.le_refl _, ⟨h1, h2, rfl, rfl⟩, by rw [h3, h4]; decide⟩
    · exact Or.inl ⟨lessS_iff.mpr ⟨h1, hx⟩, h2, h3, h4⟩
  | l + 1, x, a, b, ⟨h1, h2, t, a', b', h3, h4, h5, hw⟩ => by
    rcases WK_last ok hS s l t a' b' hw with h | ⟨l', a2, b2, hl, hd, hle⟩
    · by_cases hx : x = s
      · subst hx; exact Or.inr ⟨l + 1, a, b, Nat.le_refl _, ⟨h1, h2, t, a', b', h3, h4, h5, h⟩, Nat.le_refl _⟩
      · exact Or.inl ⟨lessS_iff.mpr ⟨h1, hx⟩, h2, t, a', b', h3, h4, h5, h⟩
    · refine Or.inr ⟨l', a2, b2, by omega, hd, ?_⟩
      have hc := cst_cdiv ok (hS _ h1) (hS _ (WK_mem hw))
      rw [h4, h5]
      calc cst c x t * a' * b2 = cst c x t * (a' * b2) := by rw [Nat.mul_assoc]
        _ ≤ cdiv c x * (a2 * b') := Nat.mul_le_mul hc hle
        _ = a2 * (cdiv c x * b') := by grind
theorem WK_short (ok : okC c) : ∀ (n : Nat) (S : Nat → Bool), (∀ x, S x = true → x < 8) → card S ≤ n → ∀ l x a b, WK c U G S l x a b → ∃ l' a' b', l' ≤ l ∧ l' + 1 ≤ n ∧ WK c U G S l' x a' b' ∧ a * b' ≤ a' * b := by
  intro n
  induction n with
  | zero =>
    intro S hS hn l x a b h
    have := card_pos (hS x (WK_mem h)) (WK_mem h); omega
  | succ n ih =>
    intro S hS hn l x a b h
    have hx := hS x (WK_mem h)
    rcases WK_last ok hS x l x a b h with h1 | ⟨l', a', b', hl, hd, hle⟩
    · exact absurd rfl (lessS_iff.mp (WK_mem h1)).2
    · cases l' with
      | zero => exact ⟨0, a', b', by omega, by omega, hd, hle⟩
      | succ k =>
        obtain ⟨d1, d2, t, a2, b2, d3, d4, d5, hw⟩ := hd
        have hc := card_lt (S := lessS S x) (T := S) (fun y hy => (lessS_iff.mp hy).1) hx (by unfold lessS; simp) d1
        obtain ⟨l2, a3, b3, e1, e2, e3, e4⟩ := ih (lessS S x) (fun y hy => hS y (lessS_iff.mp hy).1) (by omega) k t a2 b2 hw
        refine ⟨l2 + 1, cst c x t * a3, cdiv c x * b3, by omega, by omega, ⟨d1, d2, t, a3, b3, d3, rfl, rfl, WK_mono (fun y hy => (lessS_iff.mp hy).1) e3⟩, ?_⟩
        refine fr_le hle ?_ (show 0 < b' by rw [d5]; exact Nat.mul_pos (cdiv_pos c x) (WK_pos hw).2)
        rw [d4, d5]
        calc cst c x t * a2 * (cdiv c x * b3) = cst c x t * cdiv c x * (a2 * b3) := by grind
          _ ≤ cst c x t * cdiv c x * (a3 * b2) := Nat.mul_le_mul_left _ e4
          _ = cst c x t * a3 * (cdiv c x * b2) := by grind
/-- a row of values: the number of states of the path (0: none), and the fraction -/
abbrev BV : Type := (Nat → Nat) × (Nat → Nat) × (Nat → Nat)
def dm (v : BV) (t l a b : Nat) : Prop := 0 < v.1 t ∧ (a * v.2.2 t < v.2.1 t * b ∨ (a * v.2.2 t = v.2.1 t * b ∧ v.1 t ≤ l + 1))
def GW (c : CH) (v : BV) (U G : Nat → Bool) : Nat → (Nat → Bool) → Nat → Nat → Nat → Prop
  | 0, S, x, a, b => S x = true ∧ G x = true ∧ a = 1 ∧ b = 1
  | l + 1, S, x, a, b => S x = true ∧ U x = true ∧ ∃ t a' b', 0 < cst c x t ∧ a = cst c x t * a' ∧ b = cdiv c x * b' ∧ GW c v U G l (lessS S x) t a' b' ∧ dm v t l a' b'
def all8 (x : Nat) : Bool := decide (x < 8)
theorem all8_iff {x : Nat} : all8 x = true ↔ x < 8 := by unfold all8; simp
theorem GW_pos {v : BV} : ∀ {l : Nat} {S : Nat → Bool} {x a b : Nat}, GW c v U G l S x a b → S x = true ∧ 0 < a ∧ 0 < b
  | 0, _, _, _, _, h => ⟨h.1, by rw [h.2.2.1]; decide, by rw [h.2.2.2]; decide⟩
  | l + 1, _, x, _, _, ⟨h0, _, t, a', b', h1, h2, h3, h4, _⟩ => by
    obtain ⟨_, p, q⟩ := GW_pos h4
    rw [h2, h3]; exact ⟨h0, Nat.mul_pos h1 p, Nat.mul_pos (cdiv_pos c x) q⟩
theorem GW_mono {v v' : BV} (h : ∀ t l a b, 0 < b → dm v t l a b → dm v' t l a b) : ∀ {l : Nat} {S : Nat → Bool} {x a b : Nat}, GW c v U G l S x a b → GW c v' U G l S x a b
  | 0, _, _, _, _, h1 => h1
  | _ + 1, _, _, _, _, ⟨h1, h2, t, a', b', h3, h4, h5, h6, h7⟩ => ⟨h1, h2, t, a', b', h3, h4, h5, GW_mono h h6, h _ _ _ _ (GW_pos h6).2.2 h7⟩
theorem GW_len {v : BV} : ∀ {l : Nat} {S : Nat → Bool} {x a b : Nat}, (∀ x, S x = true → x < 8) → GW c v U G l S x a b → l + 1 ≤ card S
  | 0, _, x, _, _, hS, h => card_pos (hS x h.1) h.1
  | l + 1, S, x, _, _, hS, ⟨h1, _, t, a', b', _, _, _, h6, _⟩ => by
    have := GW_len (S := lessS S x) (fun y hy => hS y (lessS_iff.mp hy).1) h6
    have hc := card_lt (S := lessS S x) (T := S) (fun y hy => (lessS_iff.mp hy).1) (hS x h1) (by unfold lessS; simp) h1
    omega
theorem GW_bd (ok : okC c) {v : BV} : ∀ {l : Nat} {S : Nat → Bool} {x a b : Nat}, GW c v U G l S x a b → a ≤ 9 ^ l ∧ b ≤ 10 ^ l
  | 0, _, _, _, _, h => by rw [h.2.2.1, h.2.2.2]; exact ⟨by decide, by decide⟩
  | l + 1, _, x, _, _, ⟨_, _, t, a', b', _, h2, h3, h4, _⟩ => by
    obtain ⟨p, q⟩ := GW_bd ok h4
    rw [h2, h3, Nat.pow_succ, Nat.pow_succ, Nat.mul_comm (9 ^ l), Nat.mul_comm (10 ^ l)]
    exact ⟨Nat.mul_le_mul (cst_lt ok x t) p, Nat.mul_le_mul (cdiv_le ok x) q⟩
theorem GW_WK {v : BV} {T : Nat → Bool} : ∀ {l : Nat} {S : Nat → Bool} {x a b : Nat}, (∀ x, S x = true → T x = true) → GW c v U G l S x a b → WK c U G T l x a b
  | 0, _, _, _, _, hS, h => ⟨hS _ h.1, h.2⟩
  | _ + 1, S, x, _, _, hS, ⟨h1, h2, t, a', b', h3, h4, h5, h6, _⟩ => ⟨hS _ h1, h2, t, a', b', h3, h4, h5, GW_WK (S := lessS S x) (fun y hy => hS y (lessS_iff.mp hy).1) h6⟩
theorem lessS_comm (S : Nat → Bool) (x s : Nat) : lessS (lessS S x) s = lessS (lessS S s) x := by
  funext y; unfold lessS; cases S y <;> cases (y == x) <;> cases (y == s) <;> rfl
theorem GW_occ (ok : okC c) {v : BV} (s : Nat) : ∀ {l : Nat} {S : Nat → Bool} {x a b : Nat}, (∀ x, S x = true → x < 8) → GW c v U G l S x a b → dm v x l a b → GW c v U G l (lessS S s) x a b ∨ ∃ l2 a2 b2, l2 ≤ l ∧ a * b2 ≤ a2 * b ∧ 0 < b2 ∧ dm v s l2 a2 b2
  | 0, S, x, a, b, _, ⟨h1, h2, h3, h4⟩, hd => by
    by_cases hx : x = s
    · subst hx; exact Or.inr ⟨0, a, b, Nat.le_refl _, Nat.le_refl _, by rw [h4]; decide, hd⟩
    · exact Or.inl ⟨lessS_iff.mpr ⟨h1, hx⟩, h2, h3, h4⟩
  | l + 1, S, x, a, b, hS, hg, hd => by
    by_cases hx : x = s
    · subst hx; exact Or.inr ⟨l + 1, a, b, Nat.le_refl _, Nat.le_refl _, (GW_pos hg).2.2, hd⟩
    · obtain ⟨h1, h2, t, a', b', h3, h4, h5, h6, h7⟩ := hg
      rcases GW_occ ok s (S := lessS S x) (fun y hy => hS y (lessS_iff.mp hy).1) h6 h7 with h | ⟨l2, a2, b2, e1, e2, e3, e4⟩
      · refine Or.inl ⟨lessS_iff.mpr ⟨h1, hx⟩, h2, t, a', b', h3, h4, h5, ?_, h7⟩
        rw [lessS_comm]; exact h
      · refine Or.inr ⟨l2, a2, b2, by omega, ?_, e3, e4⟩
        have hc := cst_cdiv ok (hS _ h1) (hS t (lessS_iff.mp (GW_pos h6).1).1)
        rw [h4, h5]
        calc cst c x t * a' * b2 = cst c x t * (a' * b2) := by rw [Nat.mul_assoc]
          _ ≤ cdiv c x * (a2 * b') := Nat.mul_le_mul hc e2
          _ = a2 * (cdiv c x * b') := by grind
def stv (v : BV) (s l a b : Nat) : BV := (fun x => if x = s then l else v.1 x, fun x => if x = s then a else v.2.1 x, fun x => if x = s then b else v.2.2 x)
theorem stv_s (v : BV) (s l a b : Nat) : (stv v s l a b).1 s = l ∧ (stv v s l a b).2.1 s = a ∧ (stv v s l a b).2.2 s = b := ⟨if_pos rfl, if_pos rfl, if_pos rfl⟩
theorem stv_n (v : BV) {s x : Nat} (l a b : Nat) (h : x ≠ s) : (stv v s l a b).1 x = v.1 x ∧ (stv v s l a b).2.1 x = v.2.1 x ∧ (stv v s l a b).2.2 x = v.2.2 x := ⟨if_neg h, if_neg h, if_neg h⟩
/-- what each value is: a path without a state twice, whose rests are no better than what stands -/
def BI (c : CH) (U G : Nat → Bool) (v : BV) : Prop := ∀ s, s < 8 → (G s = true → v.1 s = 1 ∧ v.2.1 s = v.2.2 s) ∧ (0 < v.1 s → ∃ a b, GW c v U G (v.1 s - 1) all8 s a b ∧ v.2.1 s * b = a * v.2.2 s ∧ 0 < v.2.1 s ∧ v.2.1 s ≤ a ∧ v.2.2 s ≤ b) ∧ 0 < v.2.2 s ∧ v.2.1 s ≤ 9 ^ 7 ∧ v.2.2 s ≤ 10 ^ 7
theorem all8_8 : ∀ x, all8 x = true → x < 8 := fun _ h => all8_iff.mp h
theorem BI_len {v : BV} (h : BI c U G v) {s : Nat} (hs : s < 8) : v.1 s ≤ 8 := by
  rcases Nat.eq_zero_or_pos (v.1 s) with h0 | h0
  · omega
  · obtain ⟨a, b, hg, _⟩ := (h s hs).2.1 h0
    have h1 := GW_len all8_8 hg
    have h2 := card_8 all8
    omega
theorem BI_self {v : BV} (h : BI c U G v) {s : Nat} (hs : s < 8) (h0 : 0 < v.1 s) : ∃ a b, WK c U G all8 (v.1 s - 1) s a b ∧ GW c v U G (v.1 s - 1) all8 s a b ∧ v.2.1 s * b = a * v.2.2 s ∧ 0 < b ∧ dm v s (v.1 s - 1) a b := by
  obtain ⟨a, b, hg, he, _⟩ := (h s hs).2.1 h0
  exact ⟨a, b, GW_WK (fun _ h => h) hg, hg, he, (GW_pos hg).2.2, h0, Or.inr ⟨he.symm, by omega⟩⟩
theorem BI_upd (ok : okC c) (hUG : ∀ s, U s = true → G s = false) {v : BV} (h : BI c U G v) {s t : Nat} (hs : s < 8) (ht : t < 8) (hU : U s = true) (hc : 0 < cst c s t) (hL : 0 < v.1 t) (hn : ¬ dm v s (v.1 t) (cst c s t * v.2.1 t) (cdiv c s * v.2.2 t)) {α β : Nat} (he : α * (cdiv c s * v.2.2 t) = cst c s t * v.2.1 t * β) (hα : 0 < α) (hα2 : α ≤ cst c s t * v.2.1 t) (hβ : 0 < β) (hβ2 : β ≤ cdiv c s * v.2.2 t) :
    BI c U G (stv v s (v.1 t + 1) α β) ∧ (∀ x l a b, x < 8 → 0 < b → dm v x l a b → dm (stv v s (v.1 t + 1) α β) x l a b) ∧ dm (stv v s (v.1 t + 1) α β) s (v.1 t) (cst c s t * v.2.1 t) (cdiv c s * v.2.2 t) := by
  have hs3 := stv_s v s (v.1 t + 1) α β
  have hn3 : ∀ {x : Nat}, x ≠ s → _ := fun {x} hx => stv_n v (s := s) (x := x) (v.1 t + 1) α β hx
  have hBt := (h t ht).2.2.1
  have hBs := (h s hs).2.2.1
  have hq := cdiv_pos c s
  have hqB : 0 < cdiv c s * v.2.2 t := Nat.mul_pos hq hBt
  have hmono : ∀ x l a b, x < 8 → 0 < b → dm v x l a b → dm (stv v s (v.1 t + 1) α β) x l a b := fun x l a b hx hb hd => by
    by_cases hxs : x = s
    · subst hxs
      unfold dm; rw [hs3.1, hs3.2.1, hs3.2.2]
      refine ⟨by omega, ?_⟩
      obtain ⟨d0, d1⟩ := hd
      have hcmp : v.2.1 x * (cdiv c x * v.2.2 t) < cst c x t * v.2.1 t * v.2.2 x ∨ (v.2.1 x * (cdiv c x * v.2.2 t) = cst c x t * v.2.1 t * v.2.2 x ∧ v.1 t + 1 < v.1 x) := by
        by_cases h1 : cst c x t * v.2.1 t * v.2.2 x < v.2.1 x * (cdiv c x * v.2.2 t)
        · exact absurd ⟨d0, Or.inl h1⟩ hn
        · by_cases h2 : cst c x t * v.2.1 t * v.2.2 x = v.2.1 x * (cdiv c x * v.2.2 t)
          · refine Or.inr ⟨h2.symm, ?_⟩
            rcases Nat.lt_or_ge (v.1 t + 1) (v.1 x) with h3 | h3
            · exact h3
            · exact absurd ⟨d0, Or.inr ⟨h2, h3⟩⟩ hn
          · exact Or.inl (by omega)
      -- what stands against the new one
      have hnew : v.2.1 x * β < α * v.2.2 x ∨ (v.2.1 x * β = α * v.2.2 x ∧ v.1 t + 1 < v.1 x) := by
        rcases hcmp with h1 | ⟨h1, h2⟩
        · exact Or.inl (fr_ltl h1 (Nat.le_of_eq (by rw [← he])) hβ)
        · exact Or.inr ⟨fr_eq h1 (by rw [← he]) hqB, h2⟩
      rcases d1 with d1 | ⟨d1, d2⟩
      · rcases hnew with h1 | ⟨h1, _⟩
        · exact Or.inl (fr_ltr (Nat.le_of_lt d1) h1 hb)
        · exact Or.inl (fr_ltl d1 (Nat.le_of_eq h1) hβ)
      · rcases hnew with h1 | ⟨h1, h2⟩
        · exact Or.inl (fr_ltr (Nat.le_of_eq d1) h1 hb)
        · exact Or.inr ⟨fr_eq d1 h1 hBs, by omega⟩
    · obtain ⟨e1, e2, e3⟩ := hn3 hxs
      unfold dm; rw [e1, e2, e3]; exact hd
  have hself : dm (stv v s (v.1 t + 1) α β) s (v.1 t) (cst c s t * v.2.1 t) (cdiv c s * v.2.2 t) := by
    unfold dm; rw [hs3.1, hs3.2.1, hs3.2.2]
    exact ⟨by omega, Or.inr ⟨he.symm, Nat.le_refl _⟩⟩
  refine ⟨fun x hx => ?_, hmono, hself⟩
  have hmono2 : ∀ {l : Nat} {S : Nat → Bool} {y a b : Nat}, (∀ z, S z = true → z < 8) → GW c v U G l S y a b → GW c (stv v s (v.1 t + 1) α β) U G l S y a b := by
    intro l
    induction l with
    | zero => intro S y a b _ h1; exact h1
    | succ l ih =>
      rintro S y a b hS ⟨h1, h2, z, a', b', h3, h4, h5, h6, h7⟩
      have hS2 : ∀ w, lessS S y w = true → w < 8 := fun w hw => hS w (lessS_iff.mp hw).1
      exact ⟨h1, h2, z, a', b', h3, h4, h5, ih hS2 h6, hmono _ _ _ _ (hS2 z (GW_pos h6).1) (GW_pos h6).2.2 h7⟩
  by_cases hxs : x = s
  · subst hxs
    rw [hs3.1, hs3.2.1, hs3.2.2]
    obtain ⟨at_, bt, g1, g2, g3, g4, g5⟩ := (h t ht).2.1 hL
    have hdt : dm v t (v.1 t - 1) at_ bt := ⟨hL, Or.inr ⟨g2.symm, by omega⟩⟩
    have hbt := (GW_pos g1).2.2
    have hcc := cst_cdiv ok hx ht
    rcases GW_occ ok x all8_8 g1 hdt with hg | ⟨l2, a2, b2, e1, e2, e3, e4⟩
    · have hW : GW c v U G (v.1 t) all8 x (cst c x t * at_) (cdiv c x * bt) := by
        have hh : v.1 t = (v.1 t - 1) + 1 := by omega
        rw [hh]
        exact ⟨all8_iff.mpr hx, hU, t, at_, bt, hc, rfl, rfl, hg, hdt⟩
      have hbd := GW_bd ok hW
      have hlen := GW_len all8_8 hW
      have hc8 := card_8 all8
      have p9 : 9 ^ v.1 t ≤ 9 ^ 7 := Nat.pow_le_pow_right (by decide) (by omega)
      have p10 : 10 ^ v.1 t ≤ 10 ^ 7 := Nat.pow_le_pow_right (by decide) (by omega)
      have b1 : α ≤ cst c x t * at_ := Nat.le_trans hα2 (Nat.mul_le_mul_left _ g4)
      have b2 : β ≤ cdiv c x * bt := Nat.le_trans hβ2 (Nat.mul_le_mul_left _ g5)
      refine ⟨fun hg => absurd hg (by rw [hUG x hU]; decide), fun _ => ⟨_, _, hmono2 all8_8 hW, ?_, hα, b1, b2⟩, hβ, by omega, by omega⟩
      refine fr_eq (x := cst c x t * v.2.1 t) (d := cdiv c x * v.2.2 t) he ?_ hqB
      calc cst c x t * v.2.1 t * (cdiv c x * bt) = cst c x t * cdiv c x * (v.2.1 t * bt) := by grind
        _ = cst c x t * cdiv c x * (at_ * v.2.2 t) := by rw [g2]
        _ = cst c x t * at_ * (cdiv c x * v.2.2 t) := by grind
    · refine absurd ?_ hn
      obtain ⟨f0, f1⟩ := e4
      have k1 : cst c x t * v.2.1 t * bt ≤ at_ * (cdiv c x * v.2.2 t) := by
        calc cst c x t * v.2.1 t * bt = cst c x t * (v.2.1 t * bt) := by rw [Nat.mul_assoc]
          _ = cst c x t * (at_ * v.2.2 t) := by rw [g2]
          _ ≤ cdiv c x * (at_ * v.2.2 t) := Nat.mul_le_mul_right _ hcc
          _ = at_ * (cdiv c x * v.2.2 t) := by grind
      have k2 : cst c x t * v.2.1 t * b2 ≤ a2 * (cdiv c x * v.2.2 t) := fr_le k1 e2 hbt
      refine ⟨f0, ?_⟩
      rcases f1 with f1 | ⟨f1, f2⟩
      · exact Or.inl (fr_ltr k2 f1 hqB)
      · have k3 := fr_le k2 (Nat.le_of_eq f1) e3
        rcases Nat.lt_or_eq_of_le k3 with k4 | k4
        · exact Or.inl k4
        · exact Or.inr ⟨k4, by omega⟩
  · obtain ⟨e1, e2, e3⟩ := hn3 hxs
    rw [e1, e2, e3]
    obtain ⟨h1, h2, h3⟩ := h x hx
    refine ⟨h1, fun h0 => ?_, h3⟩
    obtain ⟨a, b, g1, g2⟩ := h2 h0
    exact ⟨a, b, hmono2 all8_8 g1, g2⟩
/-- no walk of at most r steps is better than what stands -/
def Cv (c : CH) (U G : Nat → Bool) (r : Nat) (v : BV) : Prop := ∀ l x a b, l ≤ r → WK c U G all8 l x a b → dm v x l a b
def CvA (c : CH) (U G : Nat → Bool) (v : BV) : Prop := ∀ l x a b, WK c U G all8 l x a b → dm v x l a b
theorem Cv_0 {v : BV} (h : BI c U G v) : Cv c U G 0 v := fun l x a b hl hw => by
  have : l = 0 := by omega
  subst this
  obtain ⟨w1, w2, w3, w4⟩ := hw
  obtain ⟨g1, g2⟩ := (h x (all8_iff.mp w1)).1 w2
  refine ⟨by omega, Or.inr ⟨?_, by omega⟩⟩
  rw [w3, w4, Nat.one_mul, Nat.mul_one, g2]
theorem Cv_all (ok : okC c) {r : Nat} (hr : 7 ≤ r) {v : BV} (hB : BI c U G v) (h : Cv c U G r v) : CvA c U G v := fun l x a b hw => by
  obtain ⟨l', a', b', h1, h2, h3, h4⟩ := WK_short ok 8 all8 all8_8 (card_8 _) l x a b hw
  obtain ⟨d0, d1⟩ := h l' x a' b' (by omega) h3
  have hb := (WK_pos hw).2
  have hb' := (WK_pos h3).2
  refine ⟨d0, ?_⟩
  rcases d1 with d1 | ⟨d1, d2⟩
  · exact Or.inl (fr_ltr h4 d1 hb)
  · have k := fr_le h4 (Nat.le_of_eq d1) hb'
    rcases Nat.lt_or_eq_of_le k with k4 | k4
    · exact Or.inl k4
    · exact Or.inr ⟨k4, by omega⟩
theorem dm_step {v v' : BV} {s j l a b : Nat} (h1 : dm v' s (v.1 j) (cst c s j * v.2.1 j) (cdiv c s * v.2.2 j)) (hc : 0 < cst c s j) (hBj : 0 < v.2.2 j) (hBs : 0 < v'.2.2 s) (h2 : dm v j l a b) (hb : 0 < b) : dm v' s (l + 1) (cst c s j * a) (cdiv c s * b) := by
  obtain ⟨e0, e1⟩ := h1
  obtain ⟨d0, d1⟩ := h2
  have hq := cdiv_pos c s
  have k1 : ∀ {x y : Nat}, x ≤ y → cst c s j * cdiv c s * x ≤ cst c s j * cdiv c s * y := fun h => Nat.mul_le_mul_left _ h
  have r1 : cst c s j * a * (cdiv c s * v.2.2 j) = cst c s j * cdiv c s * (a * v.2.2 j) := by grind
  have r2 : cst c s j * v.2.1 j * (cdiv c s * b) = cst c s j * cdiv c s * (v.2.1 j * b) := by grind
  have hqb : 0 < cdiv c s * b := Nat.mul_pos hq hb
  have hqB : 0 < cdiv c s * v.2.2 j := Nat.mul_pos hq hBj
  refine ⟨e0, ?_⟩
  rcases d1 with d1 | ⟨d1, d2⟩
  · have k2 : cst c s j * a * (cdiv c s * v.2.2 j) < cst c s j * v.2.1 j * (cdiv c s * b) := by
      rw [r1, r2]; exact Nat.mul_lt_mul_of_pos_left d1 (Nat.mul_pos hc hq)
    rcases e1 with e1 | ⟨e1, _⟩
    · exact Or.inl (fr_ltr (Nat.le_of_lt k2) e1 hqb)
    · exact Or.inl (fr_ltl k2 (Nat.le_of_eq e1) hBs)
  · have k2 : cst c s j * a * (cdiv c s * v.2.2 j) = cst c s j * v.2.1 j * (cdiv c s * b) := by rw [r1, r2, d1]
    rcases e1 with e1 | ⟨e1, e2⟩
    · exact Or.inl (fr_ltr (Nat.le_of_eq k2) e1 hqb)
    · exact Or.inr ⟨fr_eq k2 e1 hqB, by omega⟩
/-- one look at a step from s to j -/
def Stq (c : CH) (U : Nat → Bool) (s j : Nat) (v v' : BV) : Prop :=
  (¬ (U s = true ∧ 0 < cst c s j ∧ 0 < v.1 j) ∧ v' = v) ∨ (dm v s (v.1 j) (cst c s j * v.2.1 j) (cdiv c s * v.2.2 j) ∧ v' = v) ∨
  (U s = true ∧ 0 < cst c s j ∧ 0 < v.1 j ∧ ¬ dm v s (v.1 j) (cst c s j * v.2.1 j) (cdiv c s * v.2.2 j) ∧ ∃ α β, α * (cdiv c s * v.2.2 j) = cst c s j * v.2.1 j * β ∧ 0 < α ∧ α ≤ cst c s j * v.2.1 j ∧ 0 < β ∧ β ≤ cdiv c s * v.2.2 j ∧ v' = stv v s (v.1 j + 1) α β)
/-- the walks whose first step from s leads below j are no better -/
def PC (c : CH) (U G : Nat → Bool) (r : Nat) (v : BV) (s j : Nat) : Prop := ∀ l t a b, l ≤ r → U s = true → t < j → 0 < cst c s t → WK c U G all8 l t a b → dm v s (l + 1) (cst c s t * a) (cdiv c s * b)
/-- a pass, at state s and step j -/
def PI (c : CH) (U G : Nat → Bool) (r s j : Nat) (v : BV) : Prop := BI c U G v ∧ Cv c U G r v ∧ PC c U G r v s j ∧ ∀ x, x < s → PC c U G r v x 8
theorem PI_step (ok : okC c) (hUG : ∀ s, U s = true → G s = false) {r s j : Nat} {v v' : BV} (h : PI c U G r s j v) (hs : s < 8) (hj : j < 8) (hS : Stq c U s j v v') : PI c U G r s (j + 1) v' := by
  obtain ⟨h1, h2, h3, h4⟩ := h
  rcases hS with ⟨hn, rfl⟩ | ⟨hd, rfl⟩ | ⟨u1, u2, u3, u4, α, β, e1, e2, e3, e4, e5, rfl⟩
  · refine ⟨h1, h2, fun l t a b hl hu ht hc hw => ?_, h4⟩
    by_cases htj : t = j
    · subst htj
      exact absurd ⟨hu, hc, (h2 l t a b hl hw).1⟩ hn
    · exact h3 l t a b hl hu (by omega) hc hw
  · refine ⟨h1, h2, fun l t a b hl hu ht hc hw => ?_, h4⟩
    by_cases htj : t = j
    · subst htj
      exact dm_step hd hc (h1 t hj).2.2.1 (h1 s hs).2.2.1 (h2 l t a b hl hw) (WK_pos hw).2
    · exact h3 l t a b hl hu (by omega) hc hw
  · obtain ⟨n1, n2, n3⟩ := BI_upd ok hUG h1 hs hj u1 u2 u3 u4 e1 e2 e3 e4 e5
    have hpos : ∀ {x t b : Nat}, 0 < b → 0 < cdiv c x * b := fun hb => Nat.mul_pos (cdiv_pos c _) hb
    refine ⟨n1, fun l x a b hl hw => n2 x l a b (all8_iff.mp (WK_mem hw)) (WK_pos hw).2 (h2 l x a b hl hw), fun l t a b hl hu ht hc hw => ?_, fun x hx l t a b hl hu ht hc hw => n2 _ _ _ _ (by omega) (hpos (x := x) (t := t) (WK_pos hw).2) (h4 x hx l t a b hl hu ht hc hw)⟩
    by_cases htj : t = j
    · subst htj
      refine dm_step n3 hc (h1 t hj).2.2.1 ?_ (h2 l t a b hl hw) (WK_pos hw).2
      exact (n1 s hs).2.2.1
    · exact n2 _ _ _ _ hs (hpos (x := s) (t := t) (WK_pos hw).2) (h3 l t a b hl hu (by omega) hc hw)
theorem PI_row {r s : Nat} {v : BV} (h : PI c U G r s 8 v) : PI c U G r (s + 1) 0 v := ⟨h.1, h.2.1, fun _ _ _ _ _ _ ht => absurd ht (Nat.not_lt_zero _), fun x hx => by
  by_cases hxs : x = s
  · subst hxs; exact h.2.2.1
  · exact h.2.2.2 x (by omega)⟩
theorem PI_0 {r : Nat} {v : BV} (h : BI c U G v) (h2 : Cv c U G r v) : PI c U G r 0 0 v := ⟨h, h2, fun _ _ _ _ _ _ ht => absurd ht (Nat.not_lt_zero _), fun x hx => absurd hx (Nat.not_lt_zero _)⟩
theorem PI_end {r j : Nat} {v : BV} (h : PI c U G r 8 j v) : Cv c U G (r + 1) v := fun l x a b hl hw => by
  cases l with
  | zero => exact Cv_0 h.1 0 x a b (Nat.le_refl _) hw
  | succ l =>
    obtain ⟨w1, w2, t, a', b', w3, w4, w5, w6⟩ := hw
    rw [w4, w5]
    exact h.2.2.2 x (all8_iff.mp w1) l t a' b' (by omega) w2 (all8_iff.mp (WK_mem w6)) w3 w6
/-- nothing is left out: where no step leads on, or no state goes on -/
theorem PC_fill {r s j : Nat} {v : BV} (h : PC c U G r v s j) (h0 : U s = true → ∀ t, j ≤ t → t < 8 → cst c s t = 0) : PC c U G r v s 8 := fun l t a b hl hu ht hc hw => by
  rcases Nat.lt_or_ge t j with h1 | h1
  · exact h l t a b hl hu h1 hc hw
  · have := h0 hu t h1 ht; omega
theorem no_upd (ok : okC c) {v : BV} (hB : BI c U G v) (hC : CvA c U G v) {s j : Nat} (hs : s < 8) (hj : j < 8) (hu : U s = true) (hc : 0 < cst c s j) (hL : 0 < v.1 j) : dm v s (v.1 j) (cst c s j * v.2.1 j) (cdiv c s * v.2.2 j) := by
  obtain ⟨a, b, w1, _, w3, w4, _⟩ := BI_self hB hj hL
  have hw : WK c U G all8 (v.1 j - 1 + 1) s (cst c s j * a) (cdiv c s * b) := ⟨all8_iff.mpr hs, hu, j, a, b, hc, rfl, rfl, w1⟩
  obtain ⟨d0, d1⟩ := hC _ _ _ _ hw
  have hq := cdiv_pos c s
  have k : cst c s j * v.2.1 j * (cdiv c s * b) = cst c s j * a * (cdiv c s * v.2.2 j) := by
    calc cst c s j * v.2.1 j * (cdiv c s * b) = cst c s j * cdiv c s * (v.2.1 j * b) := by grind
      _ = cst c s j * cdiv c s * (a * v.2.2 j) := by rw [w3]
      _ = cst c s j * a * (cdiv c s * v.2.2 j) := by grind
  have hqb : 0 < cdiv c s * b := Nat.mul_pos hq w4
  have hqB : 0 < cdiv c s * v.2.2 j := Nat.mul_pos hq (hB j hj).2.2.1
  refine ⟨d0, ?_⟩
  rcases d1 with d1 | ⟨d1, d2⟩
  · exact Or.inl (fr_ltr (Nat.le_of_eq k) d1 hqB)
  · exact Or.inr ⟨fr_eq k d1 hqb, by omega⟩
/-- a pass that changes nothing -/
theorem fix_all (ok : okC c) (hUG : ∀ s, U s = true → G s = false) {v : BV} (hB : BI c U G v) (hf : ∀ s j, s < 8 → j < 8 → Stq c U s j v v) : CvA c U G v := by
  have hr : ∀ r, Cv c U G r v := fun r => by
    induction r with
    | zero => exact Cv_0 hB
    | succ r ih =>
      have h1 : ∀ s, s ≤ 8 → PI c U G r s 0 v := fun s => by
        induction s with
        | zero => exact fun _ => PI_0 hB ih
        | succ s ihs =>
          intro hs
          have h2 : ∀ j, j ≤ 8 → PI c U G r s j v := fun j => by
            induction j with
            | zero => exact fun _ => ihs (by omega)
            | succ j ihj => exact fun hj => PI_step ok hUG (ihj (by omega)) (by omega) (by omega) (hf s j (by omega) (by omega))
          exact PI_row (h2 8 (Nat.le_refl _))
      exact PI_end (h1 8 (Nat.le_refl _))
  exact fun l x a b hw => hr l l x a b (Nat.le_refl _) hw
/-- two such rows are the same but for the form of the fractions -/
theorem best_one {v w : BV} (hv : BI c U G v) (hvc : CvA c U G v) (hw : BI c U G w) (hwc : CvA c U G w) {s : Nat} (hs : s < 8) : v.1 s = w.1 s ∧ (0 < v.1 s → v.2.1 s * w.2.2 s = w.2.1 s * v.2.2 s) := by
  have half : ∀ {v w : BV}, BI c U G v → CvA c U G w → 0 < v.1 s → 0 < w.1 s ∧ (v.2.1 s * w.2.2 s < w.2.1 s * v.2.2 s ∨ (v.2.1 s * w.2.2 s = w.2.1 s * v.2.2 s ∧ w.1 s ≤ v.1 s)) := fun {v w} h1 h2 h0 => by
    obtain ⟨a, b, w1, _, w3, w4, _⟩ := BI_self h1 hs h0
    obtain ⟨d0, d1⟩ := h2 _ _ _ _ w1
    refine ⟨d0, ?_⟩
    rcases d1 with d1 | ⟨d1, d2⟩
    · exact Or.inl (fr_ltr (Nat.le_of_eq w3) d1 (h1 s hs).2.2.1)
    · exact Or.inr ⟨fr_eq w3 d1 w4, by omega⟩
  rcases Nat.eq_zero_or_pos (v.1 s) with h0 | h0
  · rcases Nat.eq_zero_or_pos (w.1 s) with h1 | h1
    · exact ⟨by omega, fun h => by omega⟩
    · have := (half hw hvc h1).1; omega
  · obtain ⟨p0, p1⟩ := half hv hwc h0
    obtain ⟨_, q1⟩ := half hw hvc p0
    have e : v.2.1 s * w.2.2 s = w.2.1 s * v.2.2 s := by
      rcases p1 with p1 | p1
      · rcases q1 with q1 | q1
        · omega
        · exact q1.1.symm
      · exact p1.1
    refine ⟨?_, fun _ => e⟩
    rcases p1 with p1 | p1 <;> rcases q1 with q1 | q1 <;> omega
end BM
