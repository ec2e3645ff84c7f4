/-! ===== best paths: the class ===== -/
def RpC (z : US) (v : BV) : Prop := ∀ s, s < 8 → aB z 0 s = lN (v.2.1 s) ∧ aB z 1 s = lN (v.2.2 s) ∧ aA z 0 s = nI (v.1 s)
def uB2 (F G : Nat → Bool) (i : Nat) : Bool := F i && !G i
theorem uB2_G {F G : Nat → Bool} (s : Nat) (h : uB2 F G s = true) : G s = false := by unfold uB2 at h; simp at h; exact h.2
theorem lI_lt {a b : Int} (ha : in64 a) (hb : in64 b) : lI a < lI b ↔ a < b := by
  rw [Int64.lt_iff_toInt_lt, lI_to ha, lI_to hb]
def fnd (p : Nat → Bool) (d : Nat) : Nat → Nat → Nat
  | 0, _ => d
  | n + 1, j => if p j then j else fnd p d n (j + 1)
theorem fnd_congr {p q : Nat → Bool} {d : Nat} : ∀ {n j : Nat}, (∀ i, i < j + n → p i = q i) → fnd p d n j = fnd q d n j
  | 0, _, _ => rfl
  | n + 1, j, h => by
    show (if p j then j else _) = (if q j then j else _)
    rw [h j (by omega), fnd_congr (n := n) (j := j + 1) (fun i hi => h i (by omega))]
section BC1
variable {σ κ : US} {c : CH} {F G U : Nat → Bool}
/-- t goes on from s on a best path -/
def nxb (c : CH) (v : BV) (s t : Nat) : Bool := decide (0 < cst c s t ∧ 0 < v.1 t ∧ cst c s t * v.2.1 t * v.2.2 s = v.2.1 s * (cdiv c s * v.2.2 t) ∧ v.1 t + 1 = v.1 s)
def nxt (c : CH) (U : Nat → Bool) (v : BV) (s : Nat) : Nat := fnd (fun t => U s && nxb c v s t) s 8 0
def pth (c : CH) (U : Nat → Bool) (v : BV) (s : Nat) : Nat → Nat
  | 0 => s
  | i + 1 => nxt c U v (pth c U v s i)
theorem fnd_lt {p : Nat → Bool} {d m : Nat} (hd : d < m) : ∀ {n j : Nat}, j + n ≤ m → fnd p d n j < m
  | 0, _, _ => hd
  | n + 1, j, h => by
    show (if p j then j else _) < m
    split
    · omega
    · exact fnd_lt hd (by omega)
theorem nxt_lt {v : BV} {s : Nat} (hs : s < 8) : nxt c U v s < 8 := fnd_lt hs (by omega)
theorem pth_lt {v : BV} {s : Nat} (hs : s < 8) : ∀ i, pth c U v s i < 8
  | 0 => hs
  | i + 1 => nxt_lt (pth_lt hs i)
theorem q0_lengthFrom {v : BV} (h : RpC σ v) {s : Nat} (hs : s < 8) {Q : Int32 → Prop} (hQ : Q (nI (v.1 s))) : wp_X0_lengthFrom (nI s) σ κ Q := by
  unfold wp_X0_lengthFrom
  refine q_isIndex hs ⟨fun z => absurd z (by decide), fun _ => ⟨pk_in s 8 hs, ?_⟩⟩
  rw [nI_clamp (by omega), (h s hs).2.2]; exact hQ
theorem q0_isStep {v : BV} (h : RpC σ v) (hk : RC κ c) (ok : okC c) (hB : BI c U G v) (hU : iI σ 0 = nI (mk U)) {s t : Nat} (hs : s < 8) (ht : t < 8) {Q : Int32 → Prop} (hQ : Q (bI (decide (U s = true ∧ 0 < cst c s t ∧ 0 < v.1 t)))) : wp_X0_isStep (nI s) (nI t) σ κ Q := by
  unfold wp_X0_isStep
  rw [hU]
  have hL := BI_len hB ht
  have hc := cst_lt ok s t
  refine q_contains hs (br_b (fun hb => bI_0 hQ (by simp [hb])) (fun hb => ?_))
  refine q2_stepWeight hk ok hs ht ⟨fun hle => bI_0 hQ ?_, fun hgt => q0_lengthFrom h ht ⟨fun hle => bI_0 hQ ?_, fun hgt2 => bI_1 hQ ?_⟩⟩
  · rw [li0, nI_leI (by omega) (by omega)] at hle
    simp; omega
  · rw [li0, nI_leI (by omega) (by omega)] at hle
    simp; omega
  · rw [li0, nI_leI (by omega) (by omega)] at hgt hgt2
    simp [hb]; omega
theorem gain_bd (ok : okC c) {v : BV} (hB : BI c U G v) {s t : Nat} (hs : s < 8) (ht : t < 8) : cst c s t * v.2.1 t * v.2.2 s ≤ 9 * 9 ^ 7 * 10 ^ 7 ∧ v.2.1 s * (cdiv c s * v.2.2 t) ≤ 9 ^ 7 * (10 * 10 ^ 7) := by
  obtain ⟨_, _, _, a1, b1⟩ := hB s hs
  obtain ⟨_, _, _, a2, b2⟩ := hB t ht
  exact ⟨Nat.mul_le_mul (Nat.mul_le_mul (cst_lt ok s t) a2) b1, Nat.mul_le_mul a1 (Nat.mul_le_mul (cdiv_le ok s) b2)⟩
theorem q0_gainOf {v : BV} (h : RpC σ v) (hk : RC κ c) (ok : okC c) (hB : BI c U G v) {s t : Nat} (hs : s < 8) (ht : t < 8) {Q : Int64 → Prop} (hQ : Q (lI ((cst c s t * v.2.1 t * v.2.2 s : Nat) - (v.2.1 s * (cdiv c s * v.2.2 t) : Nat)))) : wp_X0_gainOf (nI s) (nI t) σ κ Q := by
  unfold wp_X0_gainOf
  have hc := cst_lt ok s t
  have hd := cdiv_le ok s
  refine q_isIndex hs ⟨fun z => absurd z (by decide), fun _ => q_isIndex ht ⟨fun _ => ?_, fun z => absurd z (by decide)⟩⟩
  refine q2_stepWeight hk ok hs ht ⟨pk_in t 8 ht, pk_in s 8 hs, fun x4 hx4 => ⟨pk_in s 8 hs, q2_divisorOf hk ok hs ⟨pk_in t 8 ht, fun x6 hx6 => ?_⟩⟩⟩
  rw [nI_clamp (by omega), nI_clamp (by omega), nI_t64 (by omega), (h t ht).1, (h s hs).2.1, lN_mul, lN_mul] at hx4
  rw [nI_clamp (by omega), nI_clamp (by omega), nI_t64 (by omega), (h s hs).1, (h t ht).2.1, lN_mul, lN_mul, Nat.mul_assoc] at hx6
  subst hx4; subst hx6
  rw [lI_N, lI_N, lI_sub]; exact hQ
theorem RpC_put {v : BV} (h : RpC σ v) {s l a b : Nat} (hs : s < 8) : RpC (uA (uB (uB σ 0 s (lN a)) 1 s (lN b)) 0 s (nI l)) (stv v s l a b) := fun x hx => by
  have e0 : aB (uA (uB (uB σ 0 s (lN a)) 1 s (lN b)) 0 s (nI l)) 0 x = if x = s then lN a else aB σ 0 x := by
    show aB (uB (uB σ 0 s (lN a)) 1 s (lN b)) 0 x = _
    rw [aB_sB_n _ _ (by decide), aB_sB]; rfl
  have e1 : aB (uA (uB (uB σ 0 s (lN a)) 1 s (lN b)) 0 s (nI l)) 1 x = if x = s then lN b else aB σ 1 x := by
    show aB (uB (uB σ 0 s (lN a)) 1 s (lN b)) 1 x = _
    rw [aB_sB, aB_sB_n _ _ (by decide)]; rfl
  have e2 : aA (uA (uB (uB σ 0 s (lN a)) 1 s (lN b)) 0 s (nI l)) 0 x = if x = s then nI l else aA σ 0 x := by
    rw [aA_sA]; rfl
  rw [e0, e1, e2]
  by_cases hxs : x = s
  · subst hxs
    obtain ⟨g1, g2, g3⟩ := stv_s v x l a b
    rw [if_pos rfl, if_pos rfl, if_pos rfl, g1, g2, g3]; exact ⟨rfl, rfl, rfl⟩
  · obtain ⟨g1, g2, g3⟩ := stv_n v l a b hxs
    rw [if_neg hxs, if_neg hxs, if_neg hxs, g1, g2, g3]; exact h x hx
theorem q0_improve {r s : Nat} {v : BV} (h : RpC σ v) (hk : RC κ c) (ok : okC c) (hUG : ∀ s, U s = true → G s = false) (hU : iI σ 0 = nI (mk U)) (hs : s < 8) (hP : PI c U G r s 0 v) {Q : US → Prop} (hQ : ∀ z w, RpC z w → iI z 0 = nI (mk U) → PI c U G r s 8 w → Q z) : wp_X0_improve (nI s) σ κ Q := by
  unfold wp_X0_improve
  refine lp_inv 8 (fun j t => ∃ z w, t = (nI j, z) ∧ RpC z w ∧ iI z 0 = nI (mk U) ∧ PI c U G r s j w) ?_ _ ⟨σ, v, rfl, h, hU, hP⟩
  rintro j t hj ⟨z, w, rfl, hz, hzU, hw⟩ P hP
  unfold wp_X0_improve_L2
  refine pk_le 8 j (fun hj2 => ?_) (fun hj2 => ?_)
  · have : j = 8 := by omega
    subst this; exact hQ z w hz hzU hw
  · have hB := hw.1
    have hgo : ∀ z' w', RpC z' w' → iI z' 0 = nI (mk U) → Stq c U s j w w' → P (nI j + 1, z') := fun z' w' h1 h2 h3 => by
      rw [li1, nI_add]
      exact hP hj2 _ ⟨z', w', rfl, h1, h2, PI_step ok hUG hw hs hj2 h3⟩
    have hLj := BI_len hB hj2
    have hLs := BI_len hB hs
    refine q0_isStep hz hk ok hB hzU hs hj2 (br_n (fun hb => ?_) (fun hb => ?_))
    · exact hgo z w hz hzU (Or.inl ⟨by simpa using hb, rfl⟩)
    · have hb2 : U s = true ∧ 0 < cst c s j ∧ 0 < w.1 j := by simpa using hb
      obtain ⟨b1, b2, b3⟩ := hb2
      obtain ⟨g1, g2⟩ := gain_bd ok hB hs hj2
      have hBs := (hB s hs).2.2.1
      have hBj := (hB j hj2).2.2.1
      have hAj : 0 < w.2.1 j := by
        obtain ⟨_, _, _, _, h5, _⟩ := (hB j hj2).2.1 b3; exact h5
      -- the change
      have chg : ¬ dm w s (w.1 j) (cst c s j * w.2.1 j) (cdiv c s * w.2.2 j) → wp_X0_improve_J77 (nI s) (nI j) z κ P Q := fun hn => by
        unfold wp_X0_improve_J77
        have hc := cst_lt ok s j
        have hd := cdiv_le ok s
        refine q2_stepWeight hk ok hs hj2 ⟨pk_in j 8 hj2, pk_in s 8 hs, fun z4 hz4 => q2_divisorOf hk ok hs ⟨pk_in j 8 hj2, pk_in s 8 hs, fun z6 hz6 => ⟨pk_in j 8 hj2, pk_in s 8 hs, fun z7 hz7 => ?_⟩⟩⟩
        rw [nI_clamp (by omega), nI_clamp (by omega), nI_t64 (by omega), (hz j hj2).1, lN_mul] at hz4
        have e4 : aB z4 1 = aB z 1 := by rw [hz4]; exact aB_sB_n z _ (by decide)
        rw [nI_clamp (by omega), nI_clamp (by omega), nI_t64 (by omega), e4, (hz j hj2).2.1, lN_mul] at hz6
        have e6 : aA z6 0 = aA z 0 := by rw [hz6, hz4]
        rw [nI_clamp (by omega), nI_clamp (by omega), e6, (hz j hj2).2.2, li1, nI_add] at hz7
        have hR := RpC_put hz (s := s) (l := w.1 j + 1) (a := cst c s j * w.2.1 j) (b := cdiv c s * w.2.2 j) hs
        rw [← hz4, ← hz6, ← hz7] at hR
        refine hgo z7 _ hR (by rw [hz7, hz6, hz4]; exact hzU) (Or.inr (Or.inr ⟨b1, b2, b3, hn, _, _, rfl, Nat.mul_pos b2 hAj, Nat.le_refl _, Nat.mul_pos (cdiv_pos c s) hBj, Nat.le_refl _, rfl⟩))
      refine q0_gainOf hz hk ok hB hs hj2 ⟨pk_in s 8 hs, ?_⟩
      rw [nI_clamp (by omega), (hz s hs).2.2]
      have hcmp : ∀ x y : Nat, x ≤ 9 * 9 ^ 7 * 10 ^ 7 → y ≤ 9 ^ 7 * (10 * 10 ^ 7) → (0 < lg_cmp (lI ((x : Int) - y)) 0 ↔ y < x) ∧ (lg_cmp (lI ((x : Int) - y)) 0 = 0 ↔ x = y) := fun x y hx hy => by
        have i1 : in64 ((x : Int) - y) := by unfold in64; omega
        have i0 : in64 0 := by unfold in64; decide
        have e0 : (0 : Int64) = lI 0 := rfl
        rw [lg_cmp_gt, lg_cmp_eq, e0, lI_lt i0 i1, lI_eq i1 i0]
        exact ⟨by omega, by omega⟩
      obtain ⟨c1, c2⟩ := hcmp _ _ g1 g2
      refine ⟨fun hne => ?_, fun heq => ?_⟩
      · rw [li0, nI_eq (by omega) (by omega)] at hne
        unfold wp_X0_improve_J41
        refine ⟨fun zz => absurd rfl zz, fun _ => ⟨fun hg => ?_, fun hg => ⟨fun hn0 => ?_, fun h0 => ⟨pk_in j 8 hj2, pk_in s 8 hs, ?_⟩⟩⟩⟩
        · have hg := c1.mp hg
          refine chg (fun hd => ?_)
          obtain ⟨_, hd | ⟨hd, _⟩⟩ := hd <;> omega
        · have h1 : ¬ _ := fun h => hg (c1.mpr h)
          have h2 : ¬ _ := fun h => hn0 (c2.mpr h)
          exact hgo z w hz hzU (Or.inr (Or.inl ⟨⟨by omega, Or.inl (by omega)⟩, rfl⟩))
        · have h0 := c2.mp h0
          rw [nI_clamp (by omega), nI_clamp (by omega), (hz s hs).2.2, (hz j hj2).2.2, li1, nI_add]
          refine pk_le _ _ (fun hle => ?_) (fun hgt => ?_) rfl rfl (by omega) (by omega)
          · exact hgo z w hz hzU (Or.inr (Or.inl ⟨⟨by omega, Or.inr ⟨h0, hle⟩⟩, rfl⟩))
          · refine chg (fun hd => ?_)
            obtain ⟨_, hd | ⟨_, hd⟩⟩ := hd <;> omega
      · rw [li0, nI_eq (by omega) (by omega)] at heq
        unfold wp_X0_improve_J41
        refine ⟨fun _ => chg (fun hd => ?_), fun zz => absurd zz (by decide)⟩
        have := hd.1; omega
theorem q0_search (hk : RC κ c) (ok : okC c) {Q : US → Prop} (hQ : ∀ z v, RpC z v → iI z 0 = nI (mk (uB2 F G)) → BI c (uB2 F G) G v → CvA c (uB2 F G) G v → Q z) : wp_X0_search (nI (mk F)) (nI (mk G)) σ κ Q := by
  unfold wp_X0_search
  intro z1 hz1
  rw [sI_diff] at hz1
  have hU1 : iI z1 0 = nI (mk (uB2 F G)) := by rw [hz1, iI_uI]; rfl
  clear hz1
  refine lp_inv 8 (fun k t => ∃ z, t = (nI k, z) ∧ iI z 0 = nI (mk (uB2 F G)) ∧ ∀ s, s < k → aB z 0 s = lN 1 ∧ aB z 1 s = lN 1 ∧ aA z 0 s = nI (if G s then 1 else 0)) ?_ _ ⟨z1, rfl, hU1, fun s hs => absurd hs (Nat.not_lt_zero _)⟩
  rintro k t hk8 ⟨z, rfl, hzU, hz⟩ P hP
  unfold wp_X0_search_L11
  refine pk_le 8 k (fun hk2 => ?_) (fun hk2 => ?_)
  · have hk8 : k = 8 := by omega
    subst hk8
    have hB0 : BI c (uB2 F G) G (fun s => if G s then 1 else 0, fun _ => 1, fun _ => 1) := fun s hs => by
      refine ⟨fun hg => ⟨if_pos hg, rfl⟩, fun h0 => ?_, Nat.one_pos, show 1 ≤ 9 ^ 7 by decide, show 1 ≤ 10 ^ 7 by decide⟩
      have hg : G s = true := by
        cases hg : G s
        · dsimp only at h0; rw [hg] at h0; exact absurd h0 (by decide)
        · rfl
      dsimp only
      rw [hg]
      exact ⟨1, 1, ⟨all8_iff.mpr hs, hg, rfl, rfl⟩, rfl, by decide, by decide, by decide⟩
    refine lp_inv 8 (fun r t => ∃ z v, t = (nI r, z) ∧ RpC z v ∧ iI z 0 = nI (mk (uB2 F G)) ∧ BI c (uB2 F G) G v ∧ Cv c (uB2 F G) G r v) ?_ _ ⟨z, (fun s => if G s then 1 else 0, fun _ => 1, fun _ => 1), rfl, fun s hs => hz s hs, hzU, hB0, Cv_0 hB0⟩
    rintro r t hr ⟨z2, v, rfl, hz2, hU2, hB2, hC2⟩ P58 hP58
    unfold wp_X0_search_L58
    refine pk_le 8 r (fun hr2 => ?_) (fun hr2 => ?_)
    · have : r = 8 := by omega
      subst this
      exact hQ z2 v hz2 hU2 hB2 (Cv_all ok (by omega) hB2 hC2)
    · refine lp_inv 8 (fun s t => ∃ z v, t = (nI s, z) ∧ RpC z v ∧ iI z 0 = nI (mk (uB2 F G)) ∧ PI c (uB2 F G) G r s 0 v) ?_ _ ⟨z2, v, rfl, hz2, hU2, PI_0 hB2 hC2⟩
      rintro s t hs ⟨z3, v3, rfl, hz3, hU3, hP3⟩ P67 hP67
      unfold wp_X0_search_L67
      refine pk_le 8 s (fun hs2 => ?_) (fun hs2 => ?_)
      · have : s = 8 := by omega
        subst this
        rw [li1, nI_add]
        exact hP58 hr2 _ ⟨z3, v3, rfl, hz3, hU3, hP3.1, PI_end hP3⟩
      · refine q0_improve hz3 hk ok uB2_G hU3 hs2 hP3 (fun z' w hR hU' hPw => ?_)
        rw [li1, nI_add]
        exact hP67 hs2 _ ⟨z', w, rfl, hR, hU', PI_row hPw⟩
  · refine ⟨pk_in k 8 hk2, fun z13 h13 => ⟨pk_in k 8 hk2, fun z14 h14 => ?_⟩⟩
    rw [nI_clamp (by omega)] at h13 h14
    have hgo : ∀ x, (x = 1 ↔ G k = true) → (x = 0 ∨ x = 1) → P (nI k + 1, uA z14 0 k (nI x)) := fun x hx hx2 => by
      rw [li1, nI_add]
      refine hP hk2 _ ⟨_, rfl, by rw [h14, h13]; exact hzU, fun s hs => ?_⟩
      have e0 : aB (uA z14 0 k (nI x)) 0 s = if s = k then lN 1 else aB z 0 s := by
        show aB z14 0 s = _
        rw [h14, aB_sB_n _ _ (by decide), h13, aB_sB]; rfl
      have e1 : aB (uA z14 0 k (nI x)) 1 s = if s = k then lN 1 else aB z 1 s := by
        show aB z14 1 s = _
        rw [h14, aB_sB, h13, aB_sB_n _ _ (by decide)]; rfl
      have e2 : aA (uA z14 0 k (nI x)) 0 s = if s = k then nI x else aA z 0 s := by
        rw [aA_sA, h14, h13]; rfl
      rw [e0, e1, e2]
      by_cases hsk : s = k
      · subst hsk
        rw [if_pos rfl, if_pos rfl, if_pos rfl]
        refine ⟨rfl, rfl, ?_⟩
        rcases hx2 with h0 | h1
        · rw [if_neg (fun hg => by have := hx.mpr hg; omega), h0]
        · rw [if_pos (hx.mp h1), h1]
      · rw [if_neg hsk, if_neg hsk, if_neg hsk]; exact hz s (by omega)
    refine q_contains hk2 (br_b (fun hb => ⟨pk_in k 8 hk2, fun z16 h16 => ?_⟩) (fun hb => ⟨pk_in k 8 hk2, fun z17 h17 => ?_⟩))
    · rw [nI_clamp (by omega)] at h16
      subst h16
      exact hgo 0 (by rw [hb]; decide) (Or.inl rfl)
    · rw [nI_clamp (by omega)] at h17
      subst h17
      exact hgo 1 (by rw [hb]; decide) (Or.inr rfl)
theorem q0_product {v : BV} (h : RpC σ v) (hB : BI c U G v) {s : Nat} (hs : s < 8) {p : Nat} (hp : p < 2) {Q : Int64 → Prop} (hQ : Q (if p = 0 then lN (v.2.1 s / gcd1 (v.2.1 s) (v.2.2 s)) else lN (v.2.2 s / gcd1 (v.2.1 s) (v.2.2 s)))) : wp_X0_product (nI s) (nI p) σ κ Q := by
  unfold wp_X0_product
  obtain ⟨_, _, b0, a1, b1⟩ := hB s hs
  obtain ⟨h1, h2, _⟩ := h s hs
  have g0 := gcd1_pos (v.2.1 s) (v.2.2 s)
  have g1 := (gcd1_le (a := v.2.1 s) b0).2
  refine q_isIndex hs ⟨fun _ => ⟨pk_in s 8 hs, pk_in s 8 hs, ?_⟩, fun z => absurd z (by decide)⟩
  rw [nI_clamp (by omega), h1, h2]
  have hne := lN_ne g0 (show gcd1 (v.2.1 s) (v.2.2 s) < 2 ^ 63 by omega)
  refine q_commonDivisor (by omega) (by omega) ⟨fun _ => ⟨fun hp0 => ⟨pk_in s 8 hs, hne, ?_⟩, fun hp0 => ⟨pk_in s 8 hs, hne, ?_⟩⟩, fun zz => absurd ((lg_cmp_eq _ _).mp zz) hne⟩
  · rw [pk_lDiv (by omega) g0 (by omega)]
    rw [li0, nI_eq (by omega) (by omega)] at hp0
    rw [if_neg hp0] at hQ; exact hQ
  · rw [pk_lDiv (by omega) g0 (by omega)]
    rw [li0, nI_eq (by omega) (by omega)] at hp0
    rw [if_pos hp0] at hQ; exact hQ
theorem q0_following {v : BV} (h : RpC σ v) (hk : RC κ c) (ok : okC c) (hB : BI c U G v) (hU : iI σ 0 = nI (mk U)) {s : Nat} (hs : s < 8) {Q : Int32 → Prop} (hQ : Q (nI (nxt c U v s))) : wp_X0_following (nI s) σ κ Q := by
  unfold wp_X0_following
  refine lp_inv 8 (fun j t => t = nI j ∧ fnd (fun t => U s && nxb c v s t) s (8 - j) j = nxt c U v s) ?_ _ ⟨rfl, rfl⟩
  rintro j t hj ⟨rfl, hf⟩ P hP
  unfold wp_X0_following_L2
  refine pk_le 8 j (fun hj2 => ?_) (fun hj2 => ?_)
  · have : j = 8 := by omega
    subst this
    have e : s = nxt c U v s := hf
    rw [← e] at hQ; exact hQ
  · have hjn : 8 - j = (8 - (j + 1)) + 1 := by omega
    rw [hjn] at hf
    have hf : (if (U s && nxb c v s j) = true then j else fnd (fun t => U s && nxb c v s t) s (8 - (j + 1)) (j + 1)) = nxt c U v s := hf
    have no : (U s && nxb c v s j) = false → P (nI j + 1) := fun hn => by
      rw [hn, if_neg (by decide)] at hf
      rw [li1, nI_add]; exact hP hj2 _ ⟨rfl, hf⟩
    have hLj := BI_len hB hj2
    have hLs := BI_len hB hs
    refine q0_isStep h hk ok hB hU hs hj2 (br_b (fun hb => no ?_) (fun hb => ?_))
    · unfold nxb
      cases hu : U s
      · rfl
      · rw [hu] at hb
        simp at hb ⊢
        intro h1 h2; have := hb h1; omega
    · have hb2 : U s = true ∧ 0 < cst c s j ∧ 0 < v.1 j := by simpa using hb
      obtain ⟨b1, b2, b3⟩ := hb2
      obtain ⟨g1, g2⟩ := gain_bd ok hB hs hj2
      have hcmp : ∀ x y : Nat, x ≤ 9 * 9 ^ 7 * 10 ^ 7 → y ≤ 9 ^ 7 * (10 * 10 ^ 7) → (lg_cmp (lI ((x : Int) - y)) 0 = 0 ↔ x = y) := fun x y hx hy => by
        have i1 : in64 ((x : Int) - y) := by unfold in64; omega
        have i0 : in64 0 := by unfold in64; decide
        have e0 : (0 : Int64) = lI 0 := rfl
        rw [lg_cmp_eq, e0, lI_eq i1 i0]; omega
      have c2 := hcmp _ _ g1 g2
      refine q0_gainOf h hk ok hB hs hj2 ⟨fun hn => no ?_, fun h0 => ⟨pk_in j 8 hj2, ?_⟩⟩
      · have h2 : ¬ _ := fun h => hn (c2.mpr h)
        rw [b1]; unfold nxb; simp; intro _ _ h5; exact absurd h5 h2
      · have h0 := c2.mp h0
        rw [nI_clamp (by omega), (h j hj2).2.2, li1, nI_add]
        refine q0_lengthFrom h hs ⟨fun hn => no ?_, fun he => ?_⟩
        · rw [nI_eq (by omega) (by omega)] at hn
          rw [b1]; unfold nxb; simp; intro _ _ _; exact hn
        · rw [nI_eq (by omega) (by omega)] at he
          have : (U s && nxb c v s j) = true := by rw [b1]; unfold nxb; simp; exact ⟨b2, b3, h0, he⟩
          rw [this, if_pos rfl] at hf
          rw [← hf] at hQ; exact hQ
theorem q0_stateAt {v : BV} (h : RpC σ v) (hk : RC κ c) (ok : okC c) (hB : BI c U G v) (hU : iI σ 0 = nI (mk U)) {s n : Nat} (hs : s < 8) (hn : n ≤ 8) {Q : Int32 → Prop} (hQ : Q (nI (pth c U v s n))) : wp_X0_stateAt (nI s) (nI n) σ κ Q := by
  unfold wp_X0_stateAt
  refine lp_inv n (fun j t => t = (nI (pth c U v s j), nI j)) ?_ _ rfl
  rintro j t hj rfl P hP
  unfold wp_X0_stateAt_L5
  refine pk_le n j (fun hj2 => ?_) (fun hj2 => ?_)
  · have : j = n := by omega
    subst this; exact hQ
  · refine pk_le 8 j (fun hj3 => by omega) (fun hj3 => q0_following h hk ok hB hU (pth_lt hs j) ?_)
    rw [li1, nI_add]
    exact hP hj2 _ rfl
end BC1
