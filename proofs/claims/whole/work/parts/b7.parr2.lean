/-! ===== the reference's parser, formulas ===== -/
/-- a node but for its bound -/
def RT0 (σ : US) (n : Nat) (T : TR (n + 1)) (i : Nat) : Prop := aA σ 6 i = nI T.1.1 ∧ (T.1.1 = 97 ∨ T.1.1 = 66 → aA σ 9 i = nI T.1.2.1) ∧ (hasO T.1.1 = true → ∃ j, j < i ∧ aA σ 7 i = nI j ∧ RT σ n T.2.1 j) ∧ (hasT T.1.1 = true → ∃ j, j < i ∧ aA σ 8 i = nI j ∧ RT σ n T.2.2 j)
def RX (σ : US) (n : Nat) (T : TR (n + 1)) (m m' : Nat) (v : Int32) : Prop := ∃ i, v = nI i ∧ m ≤ i ∧ i < m' ∧ RT0 σ n T i
def RG (t : Nat → Nat) (len n : Nat) (σ0 : US) (m : Nat) (s : ST) (op : Nat) (r : ST × TR n) (i : Int32) (σ' : US) : Prop := ∃ m', PR t len σ' r.1 m' op ∧ KR m σ0 σ' ∧ m ≤ m' ∧ m' + s.2 ≤ m + r.1.2 ∧ (r.1.1 = false → ∃ iN, i = nI iN ∧ m ≤ iN ∧ iN < m' ∧ RT σ' n r.2 iN)
def RRok (t : Nat → Nat) (len n : Nat) (RF : US → (Int32 → US → Prop) → Prop) : Prop := ∀ (σ : US) (s : ST) (m op : Nat) (Q : Int32 → US → Prop), PR t len σ s m op → op = 6 - n → m + (len - s.2) ≤ 300 → (∀ i σ', RG t len n σ m s op (rdF t len n s) i σ' → Q i σ') → RF σ Q
section PARS
variable {t : Nat → Nat} {len : Nat} {σ : US} {s : ST} {m op n : Nat} {RF : US → (Int32 → US → Prop) → Prop}
theorem q12_node (h : PR t len σ s m op) (hm : s.1 = false → m < 300) {p1 p2 p3 : Int32} {Q : Int32 → US → Prop} (h0 : s.1 = true → Q 0 σ)
    (h1 : s.1 = false → ∀ σ', PR t len σ' s (m + 1) op → KR m σ σ' → aA σ' 6 m = p1 → aA σ' 7 m = p2 → aA σ' 8 m = p3 → aA σ' 9 m = 0 → Q (nI m) σ') : wp_X12_node p1 p2 p3 σ Q := by
  unfold wp_X12_node
  rw [h.2.1]
  refine ⟨fun hf => ?_, fun hf => h0 (bI_t hf)⟩
  have hf := bI_f hf
  have hm := hm hf
  have e3 : iI σ 3 = nI m := h.2.2.2.2.2.1
  have v : vp_in (nI m) 300 := vp_in_nI hm (by decide)
  rw [e3, nI_clamp (by omega)]
  refine ⟨v, fun z1 hz1 => ?_⟩
  have e31 : iI z1 3 = nI m := by subst hz1; exact e3
  rw [e31, nI_clamp (by omega)]
  refine ⟨v, fun z2 hz2 => ?_⟩
  have e32 : iI z2 3 = nI m := by subst hz2; exact e31
  rw [e32, nI_clamp (by omega)]
  refine ⟨v, fun z3 hz3 => ?_⟩
  have e33 : iI z3 3 = nI m := by subst hz3; exact e32
  rw [e33, nI_clamp (by omega)]
  refine ⟨v, fun z4 hz4 z5 hz5 => ?_⟩
  have e34 : iI z4 3 = nI m := by subst hz4; exact e33
  have e35 : iI z5 3 = nI (m + 1) := by subst hz5; rw [iI_uIs, e34, nI_1]
  have er : iI z5 3 - 1 = nI m := by rw [e35, nI_pred1 (by omega)]; rfl
  rw [er]
  refine h1 hf z5 ?_ ?_ ?_ ?_ ?_ ?_
  · subst hz5
    have P4 : PR t len z4 s m op := by subst hz4; subst hz3; subst hz2; subst hz1; exact ((((h.ua (by decide)).ua (by decide)).ua (by decide)).ua (by decide))
    exact ⟨(iI_uIn (by decide)).trans P4.1, (iI_uIn (by decide)).trans P4.2.1, P4.2.2.1, (iI_uIn (by decide)).trans P4.2.2.2.1, (iI_uIn (by decide)).trans P4.2.2.2.2.1, e35, P4.2.2.2.2.2.2⟩
  · subst hz5; subst hz4; subst hz3; subst hz2; subst hz1
    exact ((((KR.ua _ (by decide) (Nat.le_refl m)).tr (KR.ua _ (by decide) (Nat.le_refl m)) (Nat.le_refl m)).tr (KR.ua _ (by decide) (Nat.le_refl m)) (Nat.le_refl m)).tr (KR.ua _ (by decide) (Nat.le_refl m)) (Nat.le_refl m)).tr (KR.u m _ (Or.inl rfl)) (Nat.le_refl m)
  · subst hz5; subst hz4; subst hz3; subst hz2; subst hz1
    rw [aA_uI, aA_uA, if_neg (by omega), aA_uA, if_neg (by omega), aA_uA, if_neg (by omega), aA_uA, if_pos ⟨rfl, rfl⟩]
  · subst hz5; subst hz4; subst hz3; subst hz2
    rw [aA_uI, aA_uA, if_neg (by omega), aA_uA, if_neg (by omega), aA_uA, if_pos ⟨rfl, rfl⟩]
  · subst hz5; subst hz4; subst hz3
    rw [aA_uI, aA_uA, if_neg (by omega), aA_uA, if_pos ⟨rfl, rfl⟩]
  · subst hz5; subst hz4
    rw [aA_uI, aA_uA, if_pos ⟨rfl, rfl⟩]
/-- the end of a bounded formula -/
theorem q12_J67 (hT : TK t len) {m' : Nat} (h : PR t len σ s m' op) (hm : m' ≤ 300) {T : TR (n + 1)} {v5 x3 x4 x5 : Int32} (g : s.1 = false → RX σ n T m m' v5 ∧ x3 = relc T.1.2.2.1 T.1.2.2.2.1 ∧ x4 = nI T.1.2.2.2.2.1 ∧ x5 = nI T.1.2.2.2.2.2) {Q : Int32 → US → Prop}
    (hQ : ∀ σ', PR t len σ' (exF t len 93 s) m' op → KR m σ σ' → ((exF t len 93 s).1 = false → ∃ iN, v5 = nI iN ∧ m ≤ iN ∧ iN < m' ∧ RT σ' (n + 1) T iN) → Q v5 σ') : wp_X12_readBounded_J67 RF v5 x5 x4 x3 σ Q := by
  unfold wp_X12_readBounded_J67
  refine q12_wants (x := 93) hT h (by decide) (by decide) (fun u hu ku => ?_)
  rw [hu.2.1]
  refine ⟨fun hf => hQ u hu (ku.kr m) (fun hc => absurd (by rw [hc]; rfl) hf), fun hf => ?_⟩
  have hf := bI_f hf
  obtain ⟨⟨i, rfl, hmi, him, r1, r2, r3, r4⟩, e3, e4, e5⟩ := g (exF_ok hf).1
  have v : vp_in (nI i) 300 := vp_in_nI (by omega) (by decide)
  rw [nI_clamp (by omega)]
  refine ⟨v, fun z1 hz1 => ⟨v, fun z2 hz2 => ⟨v, fun z3 hz3 => ?_⟩⟩⟩
  have K : KR i u z3 := by
    subst hz3; subst hz2; subst hz1
    exact ((KR.ua _ (by decide) (Nat.le_refl i)).tr (KR.ua _ (by decide) (Nat.le_refl i)) (Nat.le_refl i)).tr (KR.ua _ (by decide) (Nat.le_refl i)) (Nat.le_refl i)
  have old : ∀ q, q < 10 → aA z3 q i = aA σ q i := fun q hq => by
    subst hz3; subst hz2; subst hz1
    rw [aA_uA, if_neg (by omega), aA_uA, if_neg (by omega), aA_uA, if_neg (by omega), ku.a q]
  have keep : ∀ q x, x < i → aA z3 q x = aA σ q x := fun q x hx => (K.2.1 q x hx).trans (by rw [ku.a q])
  refine hQ z3 ?_ ((ku.kr m).tr K hmi) (fun _ => ⟨i, rfl, hmi, him, ?_⟩)
  · subst hz3; subst hz2; subst hz1
    exact ((hu.ua (by decide)).ua (by decide)).ua (by decide)
  · unfold RT
    refine ⟨by rw [old 6 (by omega)]; exact r1, fun z => by rw [old 9 (by omega)]; exact r2 z, fun _ => ⟨?_, ?_, ?_⟩, fun z => ?_, fun z => ?_⟩
    · subst hz3; subst hz2; subst hz1
      rw [aA_uA, if_neg (by omega), aA_uA, if_neg (by omega), aA_uA, if_pos ⟨rfl, rfl⟩]; exact e3
    · subst hz3; subst hz2
      rw [aA_uA, if_neg (by omega), aA_uA, if_pos ⟨rfl, rfl⟩]; exact e4
    · subst hz3
      rw [aA_uA, if_pos ⟨rfl, rfl⟩]; exact e5
    · obtain ⟨j, j1, j2, j3⟩ := r3 z
      exact ⟨j, j1, by rw [old 7 (by omega)]; exact j2, RT.keep keep n _ j j1 j3⟩
    · obtain ⟨j, j1, j2, j3⟩ := r4 z
      exact ⟨j, j1, by rw [old 8 (by omega)]; exact j2, RT.keep keep n _ j j1 j3⟩
/-- a node of two parts that are read -/
theorem q12_mk2 (h : PR t len σ s m op) (hm : s.1 = false → m < 300) {k : Nat} {b : BB} {T1 T2 : TR n} {i1 i2 : Int32} {m0 : Nat} (hm0 : m0 ≤ m) (hk97 : k ≠ 97)
    (g1 : s.1 = false → hasO k = true → ∃ j, i1 = nI j ∧ j < m ∧ RT σ n T1 j) (g2 : s.1 = false → hasT k = true → ∃ j, i2 = nI j ∧ j < m ∧ RT σ n T2 j) {Q : Int32 → US → Prop} (h0 : s.1 = true → Q 0 σ)
    (h1 : s.1 = false → ∀ σ', PR t len σ' s (m + 1) op → KR m σ σ' → (k ≠ 66 → RX σ' n (tnd k 0 b T1 T2) m0 (m + 1) (nI m)) → (∀ d : Nat, ∀ z : US, z = uA σ' 9 m (nI d) → PR t len z s (m + 1) op ∧ KR m σ z ∧ RX z n (tnd k d b T1 T2) m0 (m + 1) (nI m)) → Q (nI m) σ') : wp_X12_node (nI k) i1 i2 σ Q := by
  refine q12_node h hm h0 (fun hf σ' P' K' e6 e7 e8 e9 => h1 hf σ' P' K' (fun hk => ?_) (fun d z hz => ?_))
  · refine ⟨m, rfl, hm0, Nat.lt_succ_self m, e6, fun hc => ?_, fun ho => ?_, fun ht => ?_⟩
    · rcases hc with hc | hc
      · exact absurd hc hk97
      · exact absurd hc hk
    · obtain ⟨j, j1, j2, j3⟩ := g1 hf ho
      exact ⟨j, j2, e7.trans j1, RT.keep K'.2.1 n _ j j2 j3⟩
    · obtain ⟨j, j1, j2, j3⟩ := g2 hf ht
      exact ⟨j, j2, e8.trans j1, RT.keep K'.2.1 n _ j j2 j3⟩
  · subst hz
    have K2 : KR m σ (uA σ' 9 m (nI d)) := K'.tr (KR.ua _ (by decide) (Nat.le_refl m)) (Nat.le_refl m)
    refine ⟨P'.ua (by decide), K2, m, rfl, hm0, Nat.lt_succ_self m, ?_, fun _ => ?_, fun ho => ?_, fun ht => ?_⟩
    · rw [aA_uA, if_neg (by omega)]; exact e6
    · rw [aA_uA, if_pos ⟨rfl, rfl⟩]; rfl
    · obtain ⟨j, j1, j2, j3⟩ := g1 hf ho
      exact ⟨j, j2, by rw [aA_uA, if_neg (by omega)]; exact e7.trans j1, RT.keep K2.2.1 n _ j j2 j3⟩
    · obtain ⟨j, j1, j2, j3⟩ := g2 hf ht
      exact ⟨j, j2, by rw [aA_uA, if_neg (by omega)]; exact e8.trans j1, RT.keep K2.2.1 n _ j j2 j3⟩
/-- what a way leaves -/
def WG (t : Nat → Nat) (len n : Nat) (σ0 : US) (m : Nat) (s : ST) (op : Nat) (b : BB) (sF : ST) (T1 T2 : TR n) (i : Int32) (σ' : US) : Prop := ∃ m', PR t len σ' sF m' op ∧ KR m σ0 σ' ∧ m ≤ m' ∧ m' + s.2 ≤ m + sF.2 ∧ (sF.1 = false → RX σ' n (tnd (pk t len s) (wyF t len s).2 b T1 T2) m m' i)
theorem q12_J138 (h : PR t len σ s m op) (hm : s.1 = false → m < 300) {w d : Nat} {b : BB} {T1 T2 : TR n} {i1 i2 : Int32} {m0 : Nat} (hm0 : m0 ≤ m) (hk97 : w ≠ 97)
    (g1 : s.1 = false → hasO w = true → ∃ j, i1 = nI j ∧ j < m ∧ RT σ n T1 j) (g2 : s.1 = false → hasT w = true → ∃ j, i2 = nI j ∧ j < m ∧ RT σ n T2 j) {Q : Int32 → US → Prop} (h0 : s.1 = true → Q 0 σ)
    (h1 : s.1 = false → ∀ σ', PR t len σ' s (m + 1) op → KR m σ σ' → RX σ' n (tnd w d b T1 T2) m0 (m + 1) (nI m) → Q (nI m) σ') : wp_X12_readWay_J138 RF i2 i1 (nI d) (nI w) σ Q := by
  unfold wp_X12_readWay_J138
  refine q12_mk2 (b := b) (T1 := T1) (T2 := T2) h hm hm0 hk97 g1 g2 (fun hf => ?_) (fun hf σ' P' K' _ N => ?_)
  · rw [h.2.1, hf]
    exact ⟨fun _ => h0 hf, fun hc => absurd hc (by decide)⟩
  · rw [P'.2.1, hf]
    refine ⟨fun hc => absurd rfl hc, fun _ => ⟨vp_in_nI (hm hf) (by decide), fun z hz => ?_⟩⟩
    rw [nI_clamp (by have := hm hf; omega)] at hz
    obtain ⟨a1, a2, a3⟩ := N d z hz
    exact h1 hf z a1 a2 a3
end PARS
