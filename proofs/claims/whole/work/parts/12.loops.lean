/-! ===== loops as predicates; the states of worlds ===== -/
def itW {S : Type} (body : (S → Prop) → S → Prop) : Nat → S → Prop
  | 0, _ => False
  | n + 1, s => body (itW body n) s
def lpW {S : Type} (body : (S → Prop) → S → Prop) (s : S) : Prop := ∃ n, itW body n s
theorem lpW_ind {S : Type} {body : (S → Prop) → S → Prop} (G : S → Prop) (hstep : ∀ P : S → Prop, (∀ s, P s → G s) → ∀ s, body P s → G s) (s : S) (h : lpW body s) : G s := by
  obtain ⟨n, h⟩ := h
  induction n generalizing s with
  | zero => exact absurd h (fun h => h)
  | succ n ih => exact hstep (itW body n) ih s h
theorem lpW_of {S : Type} {body : (S → Prop) → S → Prop} (I : Nat → S → Prop) (h : ∀ k s, I k s → ∀ P : S → Prop, (∀ s' k', k = k' + 1 → I k' s' → P s') → body P s) (k : Nat) (s : S) (hI : I k s) : lpW body s := by
  refine ⟨k + 1, ?_⟩
  induction k generalizing s with
  | zero => exact h 0 s hI _ (fun s' k' e _ => absurd e (by omega))
  | succ k ih => exact h (k + 1) s hI _ (fun s' k' e h' => by cases e; exact ih s' h')
/-- a state: ints, longs, int rows, long rows, each by its number -/
abbrev US : Type := (Nat → Int32) × (Nat → Int64) × (Nat → Nat → Int32) × (Nat → Nat → Int64)
abbrev iI (σ : US) (k : Nat) : Int32 := σ.1 k
abbrev lJ (σ : US) (k : Nat) : Int64 := σ.2.1 k
abbrev aA (σ : US) (k : Nat) : Nat → Int32 := σ.2.2.1 k
abbrev aB (σ : US) (k : Nat) : Nat → Int64 := σ.2.2.2 k
def kup {α : Type} (f : Nat → α) (k : Nat) (x : α) : Nat → α := fun j => if j = k then x else f j
theorem kup_s {α : Type} {f : Nat → α} {k : Nat} {x : α} : kup f k x k = x := if_pos rfl
theorem kup_n {α : Type} {f : Nat → α} {k j : Nat} {x : α} (h : j ≠ k) : kup f k x j = f j := if_neg h
abbrev uI (σ : US) (k : Nat) (x : Int32) : US := (kup σ.1 k x, σ.2)
abbrev uJ (σ : US) (k : Nat) (x : Int64) : US := (σ.1, kup σ.2.1 k x, σ.2.2)
abbrev sA (σ : US) (k : Nat) (f : Nat → Int32) : US := (σ.1, σ.2.1, kup σ.2.2.1 k f, σ.2.2.2)
abbrev sB (σ : US) (k : Nat) (f : Nat → Int64) : US := (σ.1, σ.2.1, σ.2.2.1, kup σ.2.2.2 k f)
abbrev uA (σ : US) (k i : Nat) (x : Int32) : US := sA σ k (upd (aA σ k) i x)
abbrev uB (σ : US) (k i : Nat) (x : Int64) : US := sB σ k (vp_updL (aB σ k) i x)
/-- an int that a boolean, a char field or answer takes as it is -/
def kbo (v : Int32) : Prop := narrow .boolean (.int v) = .int v
def kch (v : Int32) : Prop := narrow .char (.int v) = .int v
abbrev tyL (kc : Nat → ClassId) : List (ClassId × FieldType) := [(kc 0, .int), (kc 1, .long), (kc 2, .byte), (kc 3, .object RX2), (kc 4, .object RX5)]
theorem k_inc1 (x : Int32) : x + Int32.ofInt 1 = x + 1 := rfl
theorem k_incm1 (x : Int32) : x + Int32.ofInt (-1) = x + (-1) := rfl
