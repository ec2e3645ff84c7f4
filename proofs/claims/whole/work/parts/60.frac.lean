/-! ===== fractions, multiples, bounded untils ===== -/
theorem red_eq {a b c d : Nat} (hb : 0 < b) (hd : 0 < d) (h : a * d = c * b) : a / gcd1 a b = c / gcd1 c d ∧ b / gcd1 a b = d / gcd1 c d := by
  obtain ⟨g1, _⟩ := gcd1_le (a := a) hb
  obtain ⟨g2, _⟩ := gcd1_le (a := c) hd
  rw [g1, g2]
  have p1 : 0 < Nat.gcd a b := Nat.gcd_pos_of_pos_right a hb
  have p2 : 0 < Nat.gcd c d := Nat.gcd_pos_of_pos_right c hd
  obtain ⟨a', ha⟩ := Nat.gcd_dvd_left a b
  obtain ⟨b', hb'⟩ := Nat.gcd_dvd_right a b
  obtain ⟨c', hc⟩ := Nat.gcd_dvd_left c d
  obtain ⟨d', hd'⟩ := Nat.gcd_dvd_right c d
  have co1 : Nat.gcd a' b' = 1 := by
    have h1 : Nat.gcd (Nat.gcd a b * a') (Nat.gcd a b * b') = Nat.gcd a b * Nat.gcd a' b' := Nat.gcd_mul_left _ _ _
    rw [← ha, ← hb'] at h1
    have h2 : Nat.gcd a b * 1 = Nat.gcd a b * Nat.gcd a' b' := by omega
    exact (Nat.eq_of_mul_eq_mul_left p1 h2).symm
  have co2 : Nat.gcd c' d' = 1 := by
    have h1 : Nat.gcd (Nat.gcd c d * c') (Nat.gcd c d * d') = Nat.gcd c d * Nat.gcd c' d' := Nat.gcd_mul_left _ _ _
    rw [← hc, ← hd'] at h1
    have h2 : Nat.gcd c d * 1 = Nat.gcd c d * Nat.gcd c' d' := by omega
    exact (Nat.eq_of_mul_eq_mul_left p2 h2).symm
  have e1 : a / Nat.gcd a b = a' := Nat.div_eq_of_eq_mul_right p1 ha
  have e2 : b / Nat.gcd a b = b' := Nat.div_eq_of_eq_mul_right p1 hb'
  have e3 : c / Nat.gcd c d = c' := Nat.div_eq_of_eq_mul_right p2 hc
  have e4 : d / Nat.gcd c d = d' := Nat.div_eq_of_eq_mul_right p2 hd'
  rw [e1, e2, e3, e4]
  have hx : a' * d' = c' * b' := by
    have h3 : (Nat.gcd a b * Nat.gcd c d) * (a' * d') = (Nat.gcd a b * Nat.gcd c d) * (c' * b') := by
      calc (Nat.gcd a b * Nat.gcd c d) * (a' * d') = (Nat.gcd a b * a') * (Nat.gcd c d * d') := by
            rw [Nat.mul_mul_mul_comm]
        _ = a * d := by rw [← ha, ← hd']
        _ = c * b := h
        _ = (Nat.gcd c d * c') * (Nat.gcd a b * b') := by rw [← hc, ← hb']
        _ = (Nat.gcd a b * Nat.gcd c d) * (c' * b') := by
            rw [Nat.mul_mul_mul_comm, Nat.mul_comm (Nat.gcd c d)]
    exact Nat.eq_of_mul_eq_mul_left (Nat.mul_pos p1 p2) h3
  have d1 : a' ∣ c' := Nat.Coprime.dvd_of_dvd_mul_right (show Nat.Coprime a' b' from co1) (⟨d', hx.symm⟩ : a' ∣ c' * b')
  have d2 : c' ∣ a' := Nat.Coprime.dvd_of_dvd_mul_right (show Nat.Coprime c' d' from co2) (⟨b', hx⟩ : c' ∣ a' * d')
  have ea : a' = c' := Nat.dvd_antisymm d1 d2
  have d3 : b' ∣ d' := Nat.Coprime.dvd_of_dvd_mul_left (show Nat.Coprime b' a' from (Nat.gcd_comm b' a').trans co1) (⟨c', by rw [hx, Nat.mul_comm]⟩ : b' ∣ a' * d')
  have d4 : d' ∣ b' := Nat.Coprime.dvd_of_dvd_mul_left (show Nat.Coprime d' c' from (Nat.gcd_comm d' c').trans co2) (⟨a', by rw [← hx, Nat.mul_comm]⟩ : d' ∣ c' * b')
  exact ⟨ea, Nat.dvd_antisymm d3 d4⟩
theorem q12_common {a b : Nat} (ha : a < 2 ^ 63) (hb : b < 2 ^ 63) {Q : Int64 → Prop} (h : Q (lN (Nat.gcd a b))) : wp_X12_common (lN a) (lN b) Q := by
  unfold wp_X12_common
  have loop : lpW (wp_X12_common_L28 Q) (lN a, lN b) := by
    refine lpW_of (fun k t => ∃ x y : Nat, t = (lN x, lN y) ∧ x < 2 ^ 63 ∧ y < 2 ^ 63 ∧ Nat.gcd x y = Nat.gcd a b ∧ y ≤ k) ?_ b _ ⟨a, b, rfl, ha, hb, rfl, Nat.le_refl _⟩
    rintro k t ⟨x, y, rfl, hx, hy, hg, hk⟩ P hP
    unfold wp_X12_common_L28
    dsimp only
    rw [lg_cmp_le, li64_0, pk_lLE hy (by decide), pk_lEQ hy (by decide)]
    refine ⟨fun h0 => ?_, fun h0 => ⟨by omega, fun z hz => ?_⟩⟩
    · have : y = 0 := by omega
      subst this
      rw [Nat.gcd_zero_right] at hg
      rw [hg]; exact h
    · rw [pk_lRem hx (by omega) hy] at hz; subst hz
      have hlt : x % y < y := Nat.mod_lt x (by omega)
      refine hP _ (k - 1) (by omega) ⟨y, x % y, rfl, hy, by omega, ?_, by omega⟩
      rw [← hg, Nat.gcd_comm x y, Nat.gcd_rec y x, Nat.gcd_comm]
  have j : wp_X12_common_J12 (lN b) (lN a) Q := by
    unfold wp_X12_common_J12
    rw [lg_cmp_ge, li64_0, pk_lLE (by decide) hb]
    exact ⟨fun _ => loop, fun z => absurd (Nat.zero_le _) z⟩
  rw [lg_cmp_ge, li64_0, pk_lLE (by decide) ha]
  exact ⟨fun _ => j, fun z => absurd (Nat.zero_le _) z⟩
theorem lJ_uJ_n (σ : US) {j k : Nat} (x : Int64) (h : j ≠ k) : lJ (uJ σ k x) j = lJ σ j := kup_n h
theorem lN_ne {n : Nat} (h : 0 < n) (h2 : n < 2 ^ 63) : ¬ (lN n = 0) := fun z => by
  have z2 : lN n = lN 0 := z
  rw [pk_lEQ h2 (by decide)] at z2; omega
/-- what give leaves -/
def Gave (σ σ' : US) (a b : Nat) : Prop := σ'.1 = σ.1 ∧ σ'.2.2 = σ.2.2 ∧ lJ σ' 0 = lN (a / gcd1 a b) ∧ lJ σ' 1 = lN (b / gcd1 a b)
theorem q12_give {a b : Nat} {σ : US} (ha : a < 2 ^ 63) (hb : b < 2 ^ 63) (hp : 0 < b) {Q : US → Prop} (h : ∀ σ', Gave σ σ' a b → Q σ') : wp_X12_give (lN a) (lN b) σ Q := by
  unfold wp_X12_give
  refine q12_common ha hb ?_
  obtain ⟨g1, g2⟩ := gcd1_le (a := a) hp
  have g3 := gcd1_pos a b
  rw [lg_cmp_ge, li64_0, pk_lLE (by decide) hb]
  refine ⟨fun _ => ?_, fun z => absurd (Nat.zero_le _) z⟩
  unfold wp_X12_give_J21
  rw [← g1, pk_lDiv ha g3 (by omega), pk_lDiv hb g3 (by omega)]
  refine ⟨lN_ne g3 (by omega), fun z2 hz2 => ⟨lN_ne g3 (by omega), fun z3 hz3 => ?_⟩⟩
  subst hz2; subst hz3
  refine h _ ⟨rfl, rfl, ?_, lJ_uJ _ _ _⟩
  exact (lJ_uJ_n _ _ (by decide)).trans (lJ_uJ _ _ _)
theorem Gave.keep {σ σ' : US} {a b : Nat} (h : Gave σ σ' a b) : KeepM σ σ' := ⟨fun q _ _ _ _ => by show σ'.2.2.1 q = σ.2.2.1 q; rw [h.2.1], fun k _ _ => by show σ'.1 k = σ.1 k; rw [h.1]⟩
theorem q12_part {σ : US} {p : Nat} (hp : p < 2) {Q : Int64 → Prop} (h : Q (if p = 0 then lJ σ 0 else lJ σ 1)) : wp_X12_part (nI p) σ Q := by
  unfold wp_X12_part
  rw [li0, nI_eq (by omega) (by decide)]
  exact ⟨fun z => by rw [if_neg z] at h; exact h, fun z => by rw [if_pos z] at h; exact h⟩
section PF
variable {σ κ : US} {c : CH}
theorem q12_multiple (h : RM σ c) (ok : okC c) {Q : Int64 → Prop} (hQ : Q (lN (lcmN c (cn c)))) : wp_X12_multiple σ Q := by
  unfold wp_X12_multiple
  have hn := ok.1
  refine lp_for (cn c) (fun j => (lN (lcmN c j), nI j)) (fun j hj P hP => ?_) (fun P => ?_)
  · unfold wp_X12_multiple_L4
    refine rd_n h ?_
    rw [cl0, h.n]
    refine pk_le (cn c) j (fun h => by omega) (fun _ => ?_)
    have h1 := cdiv_le ok j
    have h2 := lcmN_le ok j
    have h3 := cdiv_pos c j
    refine q12_sumOf h ok (by omega) ?_
    rw [nI_t64 (by omega)]
    refine q12_common (by omega) (by omega) ?_
    have hg : 0 < Nat.gcd (lcmN c j) (cdiv c j) := Nat.gcd_pos_of_pos_right _ h3
    have hg2 : Nat.gcd (lcmN c j) (cdiv c j) ≤ cdiv c j := Nat.gcd_le_right _ h3
    refine ⟨lN_ne hg (by omega), q12_sumOf h ok (by omega) (fun x hx => ?_)⟩
    rw [nI_t64 (by omega), pk_lDiv (by omega) hg (by omega), lN_mul] at hx
    have e : lcmN c j / Nat.gcd (lcmN c j) (cdiv c j) * cdiv c j = lcmN c (j + 1) := by
      show _ = Nat.lcm _ _
      rw [Nat.lcm, Nat.div_mul_right_comm (Nat.gcd_dvd_left _ _)]
    rw [e] at hx; subst hx
    dsimp only
    rw [nI_1]; exact hP
  · unfold wp_X12_multiple_L4
    refine rd_n h ?_
    rw [cl0, h.n]
    exact pk_le (cn c) (cn c) (fun _ => hQ) (fun h => by omega)
/-- a bounded until with so many steps is refused -/
def rfd (c : CH) (k : Nat) : Bool := decide (10 ^ 15 < lcmN c (cn c) ^ k)
theorem pow_mono1 {L j k : Nat} (hL : 0 < L) (h : j ≤ k) : L ^ j ≤ L ^ k := Nat.pow_le_pow_right hL h
theorem rfd_mono (ok : okC c) {j k : Nat} (h : j ≤ k) (hj : rfd c j = true) : rfd c k = true := by
  unfold rfd at hj ⊢
  have := pow_mono1 (lcmN_pos ok (cn c)) h
  simp at hj ⊢; omega
theorem liG : (1000000000000000 : Int64) = lN (10 ^ 15) := rfl
theorem q12_isRefused (h : RM σ c) (ok : okC c) {k : Nat} (hk : k < 2 ^ 31) {Q : Int32 → Prop} (hQ : Q (bI (rfd c k))) : wp_X12_isRefused (nI k) σ Q := by
  unfold wp_X12_isRefused
  refine q12_multiple h ok ?_
  have hL := lcmN_pos ok (cn c)
  have hL2 := lcmN_le ok (cn c)
  generalize hLe : lcmN c (cn c) = L at hL hL2
  have fin : ∀ v : Nat, v < 2 ^ 63 → (decide (10 ^ 15 < v) = rfd c k) → wp_X12_isRefused_J36 (lN v) σ Q := by
    intro v hv he
    unfold wp_X12_isRefused_J36
    rw [lg_cmp_le, liG, pk_lLE hv (by decide)]
    refine ⟨fun z => bI_0 hQ (by rw [← he]; simpa using z), fun z => bI_1 hQ (by rw [← he]; simp; omega)⟩
  refine lp_inv k (fun j t => t = (lN (L ^ j), nI j) ∧ L ^ j < 2 ^ 62) ?_ _ ⟨by rw [Nat.pow_zero]; rfl, by rw [Nat.pow_zero]; decide⟩
  rintro j t hj ⟨rfl, hb⟩ P hP
  unfold wp_X12_isRefused_L11
  dsimp only
  refine pk_le k j (fun hj2 => ?_) (fun hj2 => ?_)
  · have : j = k := by omega
    subst this
    exact fin _ (by omega) (by unfold rfd; rw [hLe])
  · rw [lg_cmp_gt, liG, pk_lLT (by decide) (by omega)]
    refine ⟨fun z => fin _ (by omega) ?_, fun z x hx => ?_⟩
    · have : rfd c j = true := by unfold rfd; rw [hLe]; simpa using z
      rw [rfd_mono ok hj this]; simpa using z
    · rw [lN_mul, ← Nat.pow_succ] at hx; subst hx
      rw [nI_1]
      refine hP hj2 _ ⟨rfl, ?_⟩
      rw [Nat.pow_succ]
      have : L ^ j * L ≤ 10 ^ 15 * 2520 := Nat.mul_le_mul (by omega) hL2
      omega
theorem q8_refuses {σ ε : US} (h : RC κ c) (ok : okC c) {k : Nat} (hk : k < 2 ^ 31) {Q : Int32 → Prop} (hQ : Q (bI (rfd c k))) : wp_X8_refuses (nI k) σ ε κ Q := by
  unfold wp_X8_refuses
  refine q2_commonDivisors h ok ?_
  have hL := lcmN_pos ok (cn c)
  have hL2 := lcmN_le ok (cn c)
  generalize hLe : lcmN c (cn c) = L at hL hL2
  refine lp_inv k (fun j t => t = (lN (L ^ j), nI j) ∧ L ^ j ≤ 10 ^ 15) ?_ _ ⟨by rw [Nat.pow_zero]; rfl, by rw [Nat.pow_zero]; decide⟩
  rintro j t hj ⟨rfl, hb⟩ P hP
  unfold wp_X8_refuses_L14
  dsimp only
  refine pk_le k j (fun hj2 => ?_) (fun hj2 x hx => ?_)
  · have : j = k := by omega
    subst this
    exact bI_0 hQ (by unfold rfd; rw [hLe]; simp; omega)
  · have hm : L ^ j * L ≤ 10 ^ 15 * 2520 := Nat.mul_le_mul hb hL2
    rw [lN_mul, ← Nat.pow_succ] at hx; subst hx
    rw [← Nat.pow_succ] at hm
    rw [lg_cmp_le, liG, pk_lLE (by omega) (by decide), nI_1]
    refine ⟨fun z => hP hj2 _ ⟨rfl, z⟩, fun z => bI_1 hQ ?_⟩
    refine rfd_mono ok (show j + 1 ≤ k from hj2) ?_
    unfold rfd; rw [hLe]; simp only [decide_eq_true_eq]; exact Nat.lt_of_not_le z
/-- the counts of bounded untils -/
def wcn (c : CH) (F G : Nat → Bool) : Nat → Nat → Nat
  | 0, s => if G s then 1 else 0
  | k + 1, s => if G s then lcmN c (cn c) ^ (k + 1) else if F s then lcmN c (cn c) / cdiv c s * sumN (fun t => cst c s t * wcn c F G k t) 8 else 0
theorem cst_sum (ok : okC c) {s : Nat} (hs : s < 8) : sumN (cst c s) 8 = cdiv c s := by
  have h := stw_0 (c := c) hs
  unfold cdiv
  by_cases h0 : csum c s = 0
  · have := h h0 (fun _ => true)
    unfold stw at this
    simpa [h0] using this
  · rw [if_neg h0]
    unfold csum
    refine sumN_congr (fun j _ => ?_)
    unfold cst; rw [if_neg (fun z => h0 z.2)]
theorem sumN_mul {f : Nat → Nat} {b : Nat} : ∀ {n : Nat}, sumN (fun i => b * f i) n = b * sumN f n
  | 0 => rfl
  | n + 1 => by rw [sumN, sumN, sumN_mul, Nat.mul_add]
theorem cdiv_lcm (ok : okC c) : ∀ {k s : Nat}, s < k → cdiv c s ∣ lcmN c k
  | 0, s, h => by omega
  | k + 1, s, h => by
    show _ ∣ Nat.lcm _ _
    rcases Nat.lt_or_ge s k with h1 | h1
    · exact Nat.dvd_trans (cdiv_lcm ok h1) (Nat.dvd_lcm_left _ _)
    · have : s = k := by omega
      subst this; exact Nat.dvd_lcm_right _ _
theorem sumN_bd {f g : Nat → Nat} {b : Nat} {n : Nat} (h : ∀ i, i < n → g i ≤ b) : sumN (fun i => f i * g i) n ≤ sumN f n * b := by
  have h1 : sumN (fun i => f i * g i) n ≤ sumN (fun i => b * f i) n := sumN_le2 (fun i hi => by
    have := Nat.mul_le_mul_left (f i) (h i hi)
    rw [Nat.mul_comm b]; exact this)
  rw [sumN_mul, Nat.mul_comm b] at h1; exact h1
theorem wcn_le (ok : okC c) {F G : Nat → Bool} (hF : ∀ b, F b = true → b < cn c) : ∀ k s, s < 8 → wcn c F G k s ≤ lcmN c (cn c) ^ k
  | 0, s, _ => by unfold wcn; split <;> simp
  | k + 1, s, hs => by
    unfold wcn
    split
    · exact Nat.le_refl _
    · split
      · rename_i hFs
        obtain ⟨e, he⟩ := cdiv_lcm ok (hF s hFs)
        have hp := cdiv_pos c s
        have h1 : lcmN c (cn c) / cdiv c s = e := Nat.div_eq_of_eq_mul_right hp he
        have h2 := sumN_bd (f := cst c s) (g := wcn c F G k) (n := 8) (fun t ht => wcn_le ok hF k t ht)
        rw [cst_sum ok hs] at h2
        rw [h1]
        calc e * sumN (fun t => cst c s t * wcn c F G k t) 8 ≤ e * (cdiv c s * lcmN c (cn c) ^ k) := Nat.mul_le_mul_left e h2
          _ = lcmN c (cn c) ^ (k + 1) := by
              rw [← Nat.mul_assoc, Nat.mul_comm e, ← he, Nat.pow_succ, Nat.mul_comm]
      · exact Nat.zero_le _
end PF
