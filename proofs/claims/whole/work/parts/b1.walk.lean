/-! ===== walk: both sides draw the same steps ===== -/
theorem drwF_lt (w : Nat → Nat) (n : Nat) : ∀ (f t r : Nat), t ≤ n → n ≤ t + f → sumN w t + r < sumN w n → drwF w f t r < n
  | 0, t, r, h1, h2, h3 => by
    have : t = n := by omega
    subst this; omega
  | f + 1, t, r, h1, h2, h3 => by
    have htn : t < n := by
      rcases Nat.lt_or_ge t n with h | h
      · exact h
      · have : t = n := by omega
        subst this; omega
    unfold drwF
    split
    · exact htn
    · refine drwF_lt w n f (t + 1) (r - w t) (by omega) (by omega) ?_
      rw [sumN]; omega
theorem drw_lt {c : CH} (ok : okC c) {i d : Nat} (hi : i < cn c) : drw c i d < cn c := by
  unfold drw
  split
  · exact hi
  · rename_i h0
    refine drwF_lt _ _ 8 0 _ (Nat.zero_le _) (by have := ok.1; omega) ?_
    have h1 := csum_n ok i
    have h2 : d % csum c i < csum c i := Nat.mod_lt _ (by omega)
    rw [h1]
    show 0 + _ < _
    omega
theorem us8 (x : Int32) : (x.toUInt32 >>> ((8 : Int32).toUInt32 &&& Int32.toUInt32 31)).toInt32 = nI (x.toBitVec.toNat / 256) := by
  have h := pk_ushr x 8 8 (by decide)
  have hx : x.toBitVec.toNat < 2 ^ 32 := x.toBitVec.isLt
  apply Int32.toBitVec_inj.mp
  apply BitVec.eq_of_toNat_eq
  rw [h, pk_tn (by omega)]
theorem us8_lt (x : Int32) : x.toBitVec.toNat / 256 < 2 ^ 31 := by
  have hx : x.toBitVec.toNat < 2 ^ 32 := x.toBitVec.isLt
  omega
def zst (z : Int32) : Int32 := (z * 1103515245) + 12345
def wlk (f : Int32 → Int32) (c : CH) : Nat → Nat → Int32 → Nat
  | 0, i, _ => i
  | k + 1, i, z => wlk f c k (drw c i ((f z).toBitVec.toNat / 256)) (f z)
theorem wlk_0 (f : Int32 → Int32) (c : CH) (i : Nat) (z : Int32) : wlk f c 0 i z = i := rfl
theorem wlk_s (f : Int32 → Int32) (c : CH) (k i : Nat) (z : Int32) : wlk f c (k + 1) i z = wlk f c k (drw c i ((f z).toBitVec.toNat / 256)) (f z) := by rw [wlk]
section WLK
variable {κ σ : US} {c : CH}
theorem q12_drawn (h : RM σ c) (ok : okC c) {i d : Nat} (hi : i < cn c) {v2 v4 v6 : Int32} {P29 : Int32 × Int32 × Int32 → Prop} {Q : Int32 → Prop} (hP : P29 (v4, nI (drw c i d), v6 + 1)) : lpW (wp_X12_walk_L64 v4 v2 (nI i) v6 σ P29 Q) (nI (d % cdiv c i), 0) := by
  have hn := ok.1
  unfold cdiv
  unfold drw at hP
  by_cases h0 : csum c i = 0
  · rw [if_pos h0, Nat.mod_one]
    rw [if_pos h0] at hP
    refine lp_inv i (fun j t => t = (nI 0, nI j)) ?_ _ rfl
    rintro j t hj rfl P hP'
    unfold wp_X12_walk_L64
    refine q12_weightOf h ok (by omega) (by omega) ?_
    dsimp only
    have hz : cw c i j = 0 := by
      have h1 := sumN_get (f := cw c i) (show j < 8 by omega)
      unfold csum at h0
      omega
    by_cases hji : i = j
    · have e : cst c i j = 1 := if_pos ⟨hji, h0⟩
      rw [e]
      refine pk_lt 0 1 (fun _ => ?_) (fun hc => by omega)
      rw [← hji]; exact hP
    · have e : cst c i j = 0 := by unfold cst; rw [if_neg (fun hc => hji hc.1)]; exact hz
      rw [e]
      refine pk_lt 0 0 (fun hc => by omega) (fun _ => ?_)
      refine q12_weightOf h ok (by omega) (by omega) ?_
      intro x hx
      rw [e, pk_sub (Nat.le_refl _)] at hx
      subst hx
      refine hP' (by omega) _ ?_
      rw [nI_1]
  · rw [if_neg h0]
    rw [if_neg h0] at hP
    have h10 := ok.2.2.1 i
    have hr : d % csum c i < csum c i := Nat.mod_lt _ (by omega)
    have hs := csum_n ok i
    generalize d % csum c i = r at hr hP
    refine lp_inv (cn c) (fun j t => sumN (cw c i) j ≤ r ∧ t = (nI (r - sumN (cw c i) j), nI j) ∧ drwF (cw c i) (8 - j) j (r - sumN (cw c i) j) = drwF (cw c i) 8 0 r) ?_ _ ⟨Nat.zero_le _, rfl, rfl⟩
    rintro j t hj ⟨h1, rfl, h2⟩ P hP'
    have hjn : j < cn c := by
      rcases Nat.lt_or_ge j (cn c) with h | h
      · exact h
      · have : j = cn c := by omega
        subst this; omega
    unfold wp_X12_walk_L64
    refine q12_weightOf h ok (by omega) (by omega) ?_
    dsimp only
    have e : cst c i j = cw c i j := if_neg (fun hc => h0 hc.2)
    have hw := ok.2.1 i j
    have h8 : 8 - j = (8 - (j + 1)) + 1 := by omega
    rw [h8] at h2
    unfold drwF at h2
    rw [e]
    refine pk_lt (r - sumN (cw c i) j) (cw c i j) (fun h3 => ?_) (fun h3 => ?_)
    · rw [if_pos h3] at h2
      rw [h2]; exact hP
    · rw [if_neg (by omega)] at h2
      refine q12_weightOf h ok (by omega) (by omega) ?_
      intro x hx
      rw [e, pk_sub h3] at hx
      subst hx
      have h5 : r - sumN (cw c i) j - cw c i j = r - sumN (cw c i) (j + 1) := by rw [sumN]; omega
      rw [h5] at h2 ⊢
      rw [nI_1]
      exact hP' hjn _ ⟨by rw [sumN]; omega, rfl, h2⟩
theorem q12_walkL (h : RM σ c) (ok : okC c) {i m : Nat} (hi : i < cn c) (hm : m ≤ 100) (z : Int32) {Q : Int32 → Prop} (hQ : Q (nI (wlk zst c m i z))) : lpW (wp_X12_walk_L29 (nI m) σ Q) (z, nI i, 0) := by
  have hn := ok.1
  refine lp_inv m (fun j t => ∃ a y, t = (y, nI a, nI j) ∧ a < cn c ∧ wlk zst c (m - j) a y = wlk zst c m i z) ?_ _ ⟨i, z, rfl, hi, rfl⟩
  rintro j t hj ⟨a, y, rfl, ha, hw⟩ P hP
  unfold wp_X12_walk_L29
  refine pk_le m j (fun hmj => ?_) (fun hmj => ?_)
  · have : m - j = 0 := by omega
    rw [this, wlk_0] at hw
    rw [hw]; exact hQ
  · intro x hx
    dsimp only at hx ⊢
    have hx : x = zst y := hx
    subst hx
    refine q12_sumOf h ok (by omega) ?_
    have hp := cdiv_pos c a
    have hc10 := cdiv_le ok a
    refine ⟨fun hc => ?_, fun x5 hx5 => ?_⟩
    · rw [li0, nI_eq (by omega) (by decide)] at hc
      omega
    · rw [us8, pk_rem (us8_lt _) hp (by omega)] at hx5
      subst hx5
      refine q12_drawn h ok ha ?_
      rw [nI_1]
      refine hP hmj _ ⟨_, _, rfl, drw_lt ok ha, ?_⟩
      have e : m - j = (m - (j + 1)) + 1 := by omega
      rw [e, wlk_s] at hw
      exact hw
end WLK
section WLC
variable {κ : US} {c : CH}
theorem q11_walkL (h : RC κ c) (ok : okC c) {i m : Nat} (hi : i < cn c) (hm : m ≤ 100) (z : Int32) {kc : Nat → ClassId} {μ ρ η lu σ ε π : US} {fo : Nat → Option Nat} {kp : Nat → US} {β : SBT} {pl : va_W} {Q : Int32 → Prop} (hQ : Q (nI (wlk zst c m i z))) : lpW (wp_X11_walk_L32 kc (nI m) μ fo κ ρ η kp lu σ ε π β pl Q) (nI i, z, 0) := by
  have hn := ok.1
  refine lp_inv m (fun j t => ∃ a y, t = (nI a, y, nI j) ∧ a < cn c ∧ wlk zst c (m - j) a y = wlk zst c m i z) ?_ _ ⟨i, z, rfl, hi, rfl⟩
  rintro j t hj ⟨a, y, rfl, ha, hw⟩ P hP
  unfold wp_X11_walk_L32
  refine pk_le m j (fun hmj => ?_) (fun hmj => ?_)
  · have : m - j = 0 := by omega
    rw [this, wlk_0] at hw
    rw [hw]; exact hQ
  · intro x hx
    dsimp only at hx ⊢
    have hx : x = zst y := hx
    subst hx
    rw [us8]
    refine q2_drawn h ok ha (us8_lt _) ?_
    rw [nI_1]
    refine hP hmj _ ⟨_, _, rfl, drw_lt ok ha, ?_⟩
    have e : m - j = (m - (j + 1)) + 1 := by omega
    rw [e, wlk_s] at hw
    exact hw
end WLC
