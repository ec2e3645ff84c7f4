/-! ===== the mathematics of chains: numbers, sets, sums ===== -/
theorem lp_for {S : Type} {body : (S → Prop) → S → Prop} (N : Nat) (val : Nat → S) (hs : ∀ j, j < N → ∀ P : S → Prop, P (val (j + 1)) → body P (val j)) (hx : ∀ P : S → Prop, body P (val N)) : lpW body (val 0) := by
  refine lpW_of (fun k s => ∃ j, j ≤ N ∧ k = N - j ∧ s = val j) ?_ N (val 0) ⟨0, Nat.zero_le _, rfl, rfl⟩
  rintro k s ⟨j, hj, hk, rfl⟩ P hP
  rcases Nat.lt_or_ge j N with h | h
  · exact hs j h P (hP _ (N - (j + 1)) (by omega) ⟨j + 1, by omega, rfl, rfl⟩)
  · have : j = N := by omega
    subst this; exact hx P
theorem lp_inv {S : Type} {body : (S → Prop) → S → Prop} (N : Nat) (I : Nat → S → Prop) (hs : ∀ j s, j ≤ N → I j s → ∀ P : S → Prop, (j < N → ∀ s', I (j + 1) s' → P s') → body P s) (s : S) (h0 : I 0 s) : lpW body s := by
  refine lpW_of (fun k s => ∃ j, j ≤ N ∧ k = N - j ∧ I j s) ?_ N s ⟨0, Nat.zero_le _, rfl, h0⟩
  rintro k s ⟨j, hj, hk, hI⟩ P hP
  exact hs j s hj hI P (fun h s' hI' => hP _ (N - (j + 1)) (by omega) ⟨j + 1, by omega, rfl, hI'⟩)
theorem li0 : (0 : Int32) = nI 0 := rfl
theorem li1 : (1 : Int32) = nI 1 := rfl
theorem li2 : (2 : Int32) = nI 2 := rfl
theorem li3 : (3 : Int32) = nI 3 := rfl
theorem li4 : (4 : Int32) = nI 4 := rfl
theorem li5 : (5 : Int32) = nI 5 := rfl
theorem li6 : (6 : Int32) = nI 6 := rfl
theorem li7 : (7 : Int32) = nI 7 := rfl
theorem li8 : (8 : Int32) = nI 8 := rfl
theorem li9 : (9 : Int32) = nI 9 := rfl
theorem li10 : (10 : Int32) = nI 10 := rfl
theorem li15 : (15 : Int32) = nI 15 := rfl
theorem li31 : (31 : Int32) = nI 31 := rfl
theorem li65 : (65 : Int32) = nI 65 := rfl
theorem li73 : (73 : Int32) = nI 73 := rfl
theorem li81 : (81 : Int32) = nI 81 := rfl
theorem kbo0 : kbo 0 := rfl
theorem kbo1 : kbo 1 := rfl
def bI (b : Bool) : Int32 := if b then 1 else 0
theorem kbo_bI (b : Bool) : kbo (bI b) := by cases b <;> rfl
theorem bI_eq0 (b : Bool) : bI b = 0 ↔ b = false := by cases b <;> simp [bI] <;> decide
theorem bI_nI (b : Bool) : bI b = nI (if b then 1 else 0) := by cases b <;> rfl
/-- the sum of the first n -/
def sumN (f : Nat → Nat) : Nat → Nat
  | 0 => 0
  | n + 1 => sumN f n + f n
theorem sumN_congr {f g : Nat → Nat} : ∀ {n : Nat}, (∀ i, i < n → f i = g i) → sumN f n = sumN g n
  | 0, _ => rfl
  | n + 1, h => by rw [sumN, sumN, sumN_congr (fun i hi => h i (by omega)), h n (by omega)]
theorem sumN_zero {f : Nat → Nat} : ∀ {n : Nat}, (∀ i, i < n → f i = 0) → sumN f n = 0
  | 0, _ => rfl
  | n + 1, h => by rw [sumN, sumN_zero (fun i hi => h i (by omega)), h n (by omega)]
theorem sumN_mono {f : Nat → Nat} {n m : Nat} (h : n ≤ m) : sumN f n ≤ sumN f m := by
  induction m with
  | zero => have : n = 0 := by omega
            subst this; exact Nat.le_refl _
  | succ m ih =>
    rcases Nat.lt_or_ge m n with h1 | h1
    · have : n = m + 1 := by omega
      subst this; exact Nat.le_refl _
    · exact Nat.le_trans (ih h1) (by rw [sumN]; omega)
theorem sumN_tail {f : Nat → Nat} {n m : Nat} (h : n ≤ m) (hz : ∀ i, n ≤ i → i < m → f i = 0) : sumN f m = sumN f n := by
  induction m with
  | zero => have : n = 0 := by omega
            subst this; rfl
  | succ m ih =>
    rcases Nat.lt_or_ge m n with h1 | h1
    · have : n = m + 1 := by omega
      subst this; rfl
    · rw [sumN, ih h1 (fun i a b => hz i a (by omega)), hz m h1 (by omega)]
      omega
theorem sumN_le {f : Nat → Nat} {b : Nat} : ∀ {n : Nat}, (∀ i, i < n → f i ≤ b) → sumN f n ≤ b * n
  | 0, _ => Nat.zero_le _
  | n + 1, h => by
    have h1 := sumN_le (n := n) (fun i hi => h i (by omega))
    have h2 := h n (by omega)
    rw [sumN, Nat.mul_add]; omega
theorem sumN_get {f : Nat → Nat} {n i : Nat} (h : i < n) : f i ≤ sumN f n := by
  have h1 := sumN_mono (f := f) (show i + 1 ≤ n from h)
  have h2 : sumN f (i + 1) = sumN f i + f i := rfl
  omega
theorem sumN_add {f g : Nat → Nat} : ∀ {n : Nat}, sumN (fun i => f i + g i) n = sumN f n + sumN g n
  | 0 => rfl
  | n + 1 => by rw [sumN, sumN, sumN, sumN_add]; omega
theorem sumN_le2 {f g : Nat → Nat} : ∀ {n : Nat}, (∀ i, i < n → f i ≤ g i) → sumN f n ≤ sumN g n
  | 0, _ => Nat.le_refl _
  | n + 1, h => by
    have h1 := sumN_le2 (n := n) (fun i hi => h i (by omega))
    have h2 := h n (by omega)
    rw [sumN, sumN]; omega
/-- a chain: the number of states, the weights, the labels, the rewards -/
abbrev CH : Type := Nat × (Nat → Nat → Nat) × (Nat → Nat) × (Nat → Nat)
abbrev cn (c : CH) : Nat := c.1
abbrev cw (c : CH) : Nat → Nat → Nat := c.2.1
abbrev cl (c : CH) : Nat → Nat := c.2.2.1
abbrev cr (c : CH) : Nat → Nat := c.2.2.2
def csum (c : CH) (i : Nat) : Nat := sumN (cw c i) 8
def cdiv (c : CH) (i : Nat) : Nat := if csum c i = 0 then 1 else csum c i
def cst (c : CH) (i j : Nat) : Nat := if i = j ∧ csum c i = 0 then 1 else cw c i j
def okC (c : CH) : Prop := cn c ≤ 8 ∧ (∀ i j, cw c i j ≤ 9) ∧ (∀ i, csum c i ≤ 10) ∧ (∀ i, cl c i ≤ 15) ∧ (∀ i, cr c i ≤ 9) ∧ (∀ i j, cn c ≤ i ∨ cn c ≤ j → cw c i j = 0) ∧ (∀ i, cn c ≤ i → cl c i = 0 ∧ cr c i = 0)
theorem csum_n {c : CH} (h : okC c) (i : Nat) : sumN (cw c i) (cn c) = csum c i := (sumN_tail h.1 (fun j h1 _ => h.2.2.2.2.2.1 i j (Or.inr h1))).symm
theorem csum_to {c : CH} (h : okC c) (i k : Nat) (hk : k ≤ 8) : sumN (cw c i) k ≤ 10 := Nat.le_trans (sumN_mono hk) (h.2.2.1 i)
theorem csum_out {c : CH} (h : okC c) {i : Nat} (hi : cn c ≤ i) : csum c i = 0 := sumN_zero (fun j _ => h.2.2.2.2.2.1 i j (Or.inl hi))
theorem cdiv_pos (c : CH) (i : Nat) : 0 < cdiv c i := by unfold cdiv; split <;> omega
theorem cdiv_le {c : CH} (h : okC c) (i : Nat) : cdiv c i ≤ 10 := by have := h.2.2.1 i; unfold cdiv; split <;> omega
/-- sets of at most 8 states as numbers -/
def mk (S : Nat → Bool) : Nat := sumN (fun i => if S i then 2 ^ i else 0) 8
theorem mk_bits : ∀ b0 b1 b2 b3 b4 b5 b6 b7 : Bool, ∀ i, i < 8 → ((0 + (if b0 then 2 ^ 0 else 0) + (if b1 then 2 ^ 1 else 0) + (if b2 then 2 ^ 2 else 0) + (if b3 then 2 ^ 3 else 0) + (if b4 then 2 ^ 4 else 0) + (if b5 then 2 ^ 5 else 0) + (if b6 then 2 ^ 6 else 0) + (if b7 then 2 ^ 7 else 0)) / 2 ^ i % 2 == 1) = (match i with | 0 => b0 | 1 => b1 | 2 => b2 | 3 => b3 | 4 => b4 | 5 => b5 | 6 => b6 | _ => b7) ∧ (0 + (if b0 then 2 ^ 0 else 0) + (if b1 then 2 ^ 1 else 0) + (if b2 then 2 ^ 2 else 0) + (if b3 then 2 ^ 3 else 0) + (if b4 then 2 ^ 4 else 0) + (if b5 then 2 ^ 5 else 0) + (if b6 then 2 ^ 6 else 0) + (if b7 then 2 ^ 7 else 0)) < 256 := by decide +kernel
theorem mk_lt (S : Nat → Bool) : mk S < 256 := (mk_bits (S 0) (S 1) (S 2) (S 3) (S 4) (S 5) (S 6) (S 7) 0 (by omega)).2
def bit (m i : Nat) : Bool := m / 2 ^ i % 2 == 1
theorem bit_mk (S : Nat → Bool) {i : Nat} (h : i < 8) : bit (mk S) i = S i := by
  have h1 := (mk_bits (S 0) (S 1) (S 2) (S 3) (S 4) (S 5) (S 6) (S 7) i h).1
  refine Eq.trans h1 ?_
  match i, h with
  | 0, _ => rfl
  | 1, _ => rfl
  | 2, _ => rfl
  | 3, _ => rfl
  | 4, _ => rfl
  | 5, _ => rfl
  | 6, _ => rfl
  | 7, _ => rfl
theorem bit_ext0 : ∀ m, m < 256 → mk (bit m) = m := by decide +kernel
theorem mk_congr {S T : Nat → Bool} (h : ∀ i, i < 8 → S i = T i) : mk S = mk T := sumN_congr (fun i hi => by rw [h i hi])
theorem bit_ext {m k : Nat} (hm : m < 256) (hk : k < 256) (h : ∀ i, i < 8 → bit m i = bit k i) : m = k := by
  rw [← bit_ext0 m hm, ← bit_ext0 k hk]; exact mk_congr h
theorem mk_inj {S T : Nat → Bool} (h : mk S = mk T) {i : Nat} (hi : i < 8) : S i = T i := by rw [← bit_mk S hi, ← bit_mk T hi, h]
theorem mk_eq {m : Nat} {S : Nat → Bool} (hm : m < 256) (h : ∀ i, i < 8 → bit m i = S i) : m = mk S := by rw [← bit_ext0 m hm]; exact mk_congr h
theorem sI_has0 : ∀ m, m < 256 → ∀ i, i < 8 → (nI m >>> (nI i &&& 31)) &&& 1 = bI (bit m i) := by decide +kernel
theorem sI_or0 : ∀ m, m < 256 → ∀ i, i < 8 → nI m ||| (1 <<< (nI i &&& 31)) = nI (mk (fun j => bit m j || j == i)) := by decide +kernel
theorem sI_one0 : ∀ i, i < 8 → (1 : Int32) <<< (nI i &&& 31) = nI (mk (fun j => j == i)) := by decide +kernel
theorem sI_clr0 : ∀ m, m < 256 → ∀ i, i < 8 → nI m &&& ((1 <<< (nI i &&& 31)) ^^^ (-1)) = nI (mk (fun j => bit m j && !(j == i))) := by decide +kernel
theorem sI_all0 : ∀ n, n ≤ 8 → (1 : Int32) <<< (nI n &&& 31) - 1 = nI (mk (fun j => decide (j < n))) := by decide +kernel
theorem sI_xor0 : ∀ m, m < 256 → ∀ i, i < 8 → bit (255 - m) i = !bit m i := by decide +kernel
theorem nI_and (a b : Nat) : nI a &&& nI b = nI (a &&& b) := by
  apply Int32.toBitVec_inj.mp
  show BitVec.ofNat 32 a &&& BitVec.ofNat 32 b = BitVec.ofNat 32 (a &&& b)
  exact (BitVec.ofNat_and).symm
theorem nI_or (a b : Nat) : nI a ||| nI b = nI (a ||| b) := by
  apply Int32.toBitVec_inj.mp
  show BitVec.ofNat 32 a ||| BitVec.ofNat 32 b = BitVec.ofNat 32 (a ||| b)
  exact (BitVec.ofNat_or).symm
theorem bit_tb (m i : Nat) : bit m i = m.testBit i := by
  unfold bit; rw [Nat.testBit_eq_decide_div_mod_eq]; by_cases h : m / 2 ^ i % 2 = 1 <;> simp [h]
theorem sI_and (S T : Nat → Bool) : nI (mk S) &&& nI (mk T) = nI (mk (fun i => S i && T i)) := by
  rw [nI_and]; congr 1
  refine mk_eq (Nat.lt_of_le_of_lt Nat.and_le_left (mk_lt S)) (fun i hi => ?_)
  rw [bit_tb, Nat.testBit_and, ← bit_tb, ← bit_tb, bit_mk S hi, bit_mk T hi]
theorem sI_or (S T : Nat → Bool) : nI (mk S) ||| nI (mk T) = nI (mk (fun i => S i || T i)) := by
  rw [nI_or]; congr 1
  refine mk_eq (Nat.or_lt_two_pow (n := 8) (mk_lt S) (mk_lt T)) (fun i hi => ?_)
  rw [bit_tb, Nat.testBit_or, ← bit_tb, ← bit_tb, bit_mk S hi, bit_mk T hi]
theorem sI_not0 : ∀ m, m < 256 → nI m ^^^ (-1) = nI (2 ^ 32 - 1 - m) ∧ ∀ i, i < 8 → bit (2 ^ 32 - 1 - m) i = !bit m i := by decide +kernel
theorem sI_diff (S T : Nat → Bool) : nI (mk S) &&& (nI (mk T) ^^^ (-1)) = nI (mk (fun i => S i && !T i)) := by
  obtain ⟨h1, h2⟩ := sI_not0 (mk T) (mk_lt T)
  rw [h1, nI_and]; congr 1
  refine mk_eq (Nat.lt_of_le_of_lt Nat.and_le_left (mk_lt S)) (fun i hi => ?_)
  rw [bit_tb, Nat.testBit_and, ← bit_tb, ← bit_tb, h2 i hi, bit_mk S hi, bit_mk T hi]
theorem sI_has (S : Nat → Bool) {i : Nat} (h : i < 8) : (nI (mk S) >>> (nI i &&& 31)) &&& 1 = bI (S i) := by rw [sI_has0 _ (mk_lt S) i h, bit_mk S h]
theorem sI_add (S : Nat → Bool) {i : Nat} (h : i < 8) : nI (mk S) ||| (1 <<< (nI i &&& 31)) = nI (mk (fun j => S j || j == i)) := by
  rw [sI_or0 _ (mk_lt S) i h]; congr 1; exact mk_congr (fun j hj => by rw [bit_mk S hj])
theorem sI_clr (S : Nat → Bool) {i : Nat} (h : i < 8) : nI (mk S) &&& ((1 <<< (nI i &&& 31)) ^^^ (-1)) = nI (mk (fun j => S j && !(j == i))) := by
  rw [sI_clr0 _ (mk_lt S) i h]; congr 1; exact mk_congr (fun j hj => by rw [bit_mk S hj])
theorem sI_eq (S T : Nat → Bool) : nI (mk S) = nI (mk T) ↔ ∀ i, i < 8 → S i = T i := by
  rw [nI_eq (Nat.lt_trans (mk_lt S) (by decide)) (Nat.lt_trans (mk_lt T) (by decide))]
  exact ⟨fun h i hi => mk_inj h hi, fun h => mk_congr h⟩
theorem sI_z (S : Nat → Bool) : nI (mk S) = 0 ↔ ∀ i, i < 8 → S i = false := by
  rw [show (0 : Int32) = nI (mk (fun _ => false)) from rfl, sI_eq]
