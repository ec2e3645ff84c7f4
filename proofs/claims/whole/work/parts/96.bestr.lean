/-! ===== best paths: the reference ===== -/
def sto (v : BV) (s : Nat) : Nat := if v.1 s = 0 then 8 else v.1 s - 1
def RpR (c : CH) (z : US) (v : BV) : Prop := ∀ s, s < cn c → aB z 4 s = lN (v.2.1 s) ∧ aB z 5 s = lN (v.2.2 s) ∧ aA z 18 s = nI (sto v s) ∧ (v.1 s = 0 → v.2.1 s = 0)
theorem fnd_of {p : Nat → Bool} {d : Nat} : ∀ {n j : Nat}, (∃ t, j ≤ t ∧ t < j + n ∧ p t = true) → p (fnd p d n j) = true
  | 0, j, ⟨t, h1, h2, _⟩ => by omega
  | n + 1, j, ⟨t, h1, h2, h3⟩ => by
    show p (if p j then j else _) = true
    by_cases hj : p j = true
    · rw [if_pos hj]; exact hj
    · rw [if_neg hj]
      refine fnd_of ⟨t, ?_, by omega, h3⟩
      have : t ≠ j := fun e => hj (e ▸ h3)
      omega
section BR1
variable {σ : US} {c : CH} {F G U : Nat → Bool}
theorem nxb_iff {v : BV} {s t : Nat} : nxb c v s t = true ↔ 0 < cst c s t ∧ 0 < v.1 t ∧ cst c s t * v.2.1 t * v.2.2 s = v.2.1 s * (cdiv c s * v.2.2 t) ∧ v.1 t + 1 = v.1 s := by unfold nxb; simp
theorem nxb_ex (ok : okC c) {v : BV} (hB : BI c U G v) (hC : CvA c U G v) {s : Nat} (hs : s < 8) (h2 : 2 ≤ v.1 s) : U s = true ∧ ∃ t, t < 8 ∧ nxb c v s t = true := by
  obtain ⟨a, b, w1, w2, w3, w4, _⟩ := BI_self hB hs (by omega)
  have hl : v.1 s - 1 = (v.1 s - 2) + 1 := by omega
  rw [hl] at w2
  obtain ⟨g1, g2, t, a', b', g3, g4, g5, g6, g7⟩ := w2
  have ht := all8_iff.mp (lessS_iff.mp (GW_pos g6).1).1
  have hb' := (GW_pos g6).2.2
  have hn := no_upd ok hB hC hs ht g2 g3 g7.1
  have hq := cdiv_pos c s
  have hBs := (hB s hs).2.2.1
  have hBt := (hB t ht).2.2.1
  have hqB : 0 < cdiv c s * v.2.2 t := Nat.mul_pos hq hBt
  have hqb : 0 < cdiv c s * b' := Nat.mul_pos hq hb'
  have hlen := BI_len hB hs
  -- what stands is the walk's
  have e1 : v.2.1 s * (cdiv c s * b') = cst c s t * a' * v.2.2 s := by rw [← g5, ← g4]; exact w3
  -- the walk's is no better than the step's
  have e2 : cst c s t * a' * (cdiv c s * v.2.2 t) = cst c s t * cdiv c s * (a' * v.2.2 t) := by grind
  have e3 : cst c s t * v.2.1 t * (cdiv c s * b') = cst c s t * cdiv c s * (v.2.1 t * b') := by grind
  have k0 : a' * v.2.2 t ≤ v.2.1 t * b' := by rcases g7.2 with h | h <;> omega
  have k1 : cst c s t * a' * (cdiv c s * v.2.2 t) ≤ cst c s t * v.2.1 t * (cdiv c s * b') := by rw [e2, e3]; exact Nat.mul_le_mul_left _ k0
  have k2 : v.2.1 s * (cdiv c s * v.2.2 t) ≤ cst c s t * v.2.1 t * v.2.2 s := fr_le (Nat.le_of_eq e1) k1 hqb
  obtain ⟨n0, n1⟩ := hn
  have hL : v.1 s ≤ v.1 t + 1 ∧ cst c s t * v.2.1 t * v.2.2 s = v.2.1 s * (cdiv c s * v.2.2 t) := by
    rcases n1 with n1 | ⟨n1, n2⟩
    · omega
    · exact ⟨n2, n1⟩
  refine ⟨g2, t, ht, nxb_iff.mpr ⟨g3, g7.1, hL.2, ?_⟩⟩
  rcases g7.2 with h | ⟨_, h⟩
  · -- better than the walk: then the step were better than what stands
    have k3 : cst c s t * a' * (cdiv c s * v.2.2 t) < cst c s t * v.2.1 t * (cdiv c s * b') := by rw [e2, e3]; exact Nat.mul_lt_mul_of_pos_left h (Nat.mul_pos g3 hq)
    have k4 : v.2.1 s * (cdiv c s * v.2.2 t) < cst c s t * v.2.1 t * v.2.2 s := fr_ltr (Nat.le_of_eq e1) k3 hBs
    omega
  · omega
theorem nxt_ok (ok : okC c) {v : BV} (hB : BI c U G v) (hC : CvA c U G v) {s : Nat} (hs : s < 8) (h2 : 2 ≤ v.1 s) : nxb c v s (nxt c U v s) = true := by
  obtain ⟨hu, t, ht, hn⟩ := nxb_ex ok hB hC hs h2
  have h := fnd_of (p := fun t => U s && nxb c v s t) (d := s) (n := 8) (j := 0) ⟨t, by omega, by omega, by show (U s && nxb c v s t) = true; rw [hu, hn]; rfl⟩
  have h : (U s && nxb c v s (nxt c U v s)) = true := h
  rw [hu] at h; simpa using h
theorem pth_len (ok : okC c) {v : BV} (hB : BI c U G v) (hC : CvA c U G v) {s : Nat} (hs : s < 8) : ∀ i, i < v.1 s → v.1 (pth c U v s i) + i = v.1 s
  | 0, _ => rfl
  | i + 1, h => by
    have h1 := pth_len ok hB hC hs i (by omega)
    have h2 := nxt_ok ok hB hC (pth_lt (c := c) (U := U) (v := v) hs i) (by omega)
    have h3 := (nxb_iff.mp h2).2.2.2
    show v.1 (nxt c U v (pth c U v s i)) + (i + 1) = v.1 s
    omega
theorem q12_compared {v : BV} (hR : RpR c σ v) (h : RM σ c) (ok : okC c) (hB : BI c U G v) {s t : Nat} (hs : s < cn c) (ht : t < cn c) {Q : Int32 → Prop} (h1 : v.2.1 s * (cdiv c s * v.2.2 t) < cst c s t * v.2.1 t * v.2.2 s ∨ (cst c s t * v.2.1 t * v.2.2 s = v.2.1 s * (cdiv c s * v.2.2 t) ∧ sto v t + 1 < sto v s) → Q 1) (h0 : cst c s t * v.2.1 t * v.2.2 s = v.2.1 s * (cdiv c s * v.2.2 t) ∧ sto v t + 1 = sto v s → Q 0) (hm : cst c s t * v.2.1 t * v.2.2 s < v.2.1 s * (cdiv c s * v.2.2 t) ∨ (cst c s t * v.2.1 t * v.2.2 s = v.2.1 s * (cdiv c s * v.2.2 t) ∧ sto v s < sto v t + 1) → Q (-1)) : wp_X12_compared (nI s) (nI t) σ Q := by
  have hn := ok.1
  have hs8 : s < 8 := by omega
  have ht8 : t < 8 := by omega
  have hc := cst_lt ok s t
  have hd := cdiv_le ok s
  obtain ⟨s1, s2, s3, _⟩ := hR s hs
  obtain ⟨t1, t2, t3, _⟩ := hR t ht
  obtain ⟨g1, g2⟩ := gain_bd ok hB hs8 ht8
  have hls : sto v s ≤ 8 := by have := BI_len hB hs8; unfold sto; split <;> omega
  have hlt : sto v t ≤ 8 := by have := BI_len hB ht8; unfold sto; split <;> omega
  unfold wp_X12_compared
  refine q12_weightOf h ok hs8 ht8 ⟨pk_in t 8 ht8, pk_in s 8 hs8, fun x2 hx2 => ⟨pk_in s 8 hs8, q12_sumOf h ok hs8 ⟨pk_in t 8 ht8, fun x4 hx4 => ?_⟩⟩⟩
  rw [nI_clamp (by omega), nI_clamp (by omega), nI_t64 (by omega), t1, s2, lN_mul, lN_mul] at hx2
  rw [nI_clamp (by omega), nI_clamp (by omega), nI_t64 (by omega), s1, t2, lN_mul, lN_mul, Nat.mul_assoc] at hx4
  subst hx2; subst hx4
  rw [lg_cmp_eq, lg_cmp_le, pk_lEQ (by omega) (by omega), pk_lLE (by omega) (by omega)]
  refine ⟨fun he => ⟨pk_in t 8 ht8, pk_in s 8 hs8, ?_⟩, fun hne => ⟨fun hle => hm (Or.inl (by omega)), fun hgt => h1 (Or.inl (by omega))⟩⟩
  rw [nI_clamp (by omega), nI_clamp (by omega), s3, t3, li1, nI_add]
  refine pk_le _ _ (fun hle => ⟨pk_in t 8 ht8, pk_in s 8 hs8, ?_⟩) (fun hgt => h1 (Or.inr ⟨he, hgt⟩)) rfl rfl (by omega) (by omega)
  exact pk_le _ _ (fun hge => h0 ⟨he, by omega⟩) (fun hlt2 => hm (Or.inr ⟨he, hlt2⟩)) rfl rfl (by omega) (by omega)
theorem q12_nextOnBest {v : BV} (hR : RpR c σ v) (h : RM σ c) (ok : okC c) (hU : ∀ s, U s = true → s < cn c) (hB : BI c U G v) (hC : CvA c U G v) {s : Nat} (hs : s < cn c) (h2 : 2 ≤ v.1 s) {Q : Int32 → Prop} (hQ : Q (nI (nxt c U v s))) : wp_X12_nextOnBest (nI s) σ Q := by
  have hn := ok.1
  have hs8 : s < 8 := by omega
  obtain ⟨hu, t0, ht0, hn0⟩ := nxb_ex ok hB hC hs8 h2
  have ht0c : t0 < cn c := suc_lt ok hs (suc_iff.mpr (nxb_iff.mp hn0).1)
  unfold wp_X12_nextOnBest
  refine lp_inv 8 (fun j t => t = nI j ∧ j ≤ t0 ∧ fnd (fun t => U s && nxb c v s t) s (8 - j) j = nxt c U v s) ?_ _ ⟨rfl, Nat.zero_le _, rfl⟩
  rintro j t hj ⟨rfl, hjt, hf⟩ P hP
  have hjc : j < cn c := by omega
  have hj8 : j < 8 := by omega
  have hjn : 8 - j = (8 - (j + 1)) + 1 := by omega
  rw [hjn] at hf
  have hf : (if (U s && nxb c v s j) = true then j else fnd (fun t => U s && nxb c v s t) s (8 - (j + 1)) (j + 1)) = nxt c U v s := hf
  have no : nxb c v s j = false → P (nI j + 1) := fun hn => by
    have hne : j ≠ t0 := fun e => by rw [e, hn0] at hn; exact absurd hn (by decide)
    rw [hn, Bool.and_false, if_neg (by decide)] at hf
    rw [li1, nI_add]; exact hP hj8 _ ⟨rfl, by omega, hf⟩
  have nof : ¬ nxb c v s j = true → nxb c v s j = false := fun h => by cases hx : nxb c v s j; rfl; exact absurd hx h
  unfold wp_X12_nextOnBest_L2
  have hc := cst_lt ok s j
  obtain ⟨j1, j2, j3, j4⟩ := hR j hjc
  obtain ⟨s1, s2, s3, s4⟩ := hR s hs
  obtain ⟨_, aj, bj, pj, _⟩ := hB j hj8
  have hLj := BI_len hB hj8
  refine q12_weightOf h ok hs8 hj8 ⟨fun hz => no (nof (fun hx => ?_)), fun hnz => ⟨pk_in j 8 hj8, ?_⟩⟩
  · rw [li0, nI_eq (by omega) (by omega)] at hz
    have := (nxb_iff.mp hx).1; omega
  · rw [li0, nI_eq (by omega) (by omega)] at hnz
    rw [nI_clamp (by omega), j1, lg_cmp_eq, li64_0, pk_lEQ (by omega) (by omega)]
    refine ⟨fun hz => no (nof (fun hx => ?_)), fun hA => ?_⟩
    · have hLp := (nxb_iff.mp hx).2.1
      obtain ⟨_, _, _, _, h5, _⟩ := aj hLp; omega
    · have hLp : 0 < v.1 j := by
        rcases Nat.eq_zero_or_pos (v.1 j) with h0 | h0
        · exact absurd (j4 h0) hA
        · exact h0
      have hnot : ¬ (cst c s j * v.2.1 j * v.2.2 s = v.2.1 s * (cdiv c s * v.2.2 j) ∧ sto v j + 1 = sto v s) → P (nI j + 1) := fun hne => no (nof (fun hx => hne (by
        obtain ⟨_, x2, x3, x4⟩ := nxb_iff.mp hx
        refine ⟨x3, ?_⟩
        unfold sto; rw [if_neg (by omega), if_neg (by omega)]; omega)))
      refine q12_compared hR h ok hB hs hjc (fun hgt => ⟨fun z => absurd z (by decide), fun _ => hnot (fun hx => ?_)⟩) (fun he => ⟨fun _ => ?_, fun z => absurd rfl z⟩) (fun hlt => ⟨fun z => absurd z (by decide), fun _ => hnot (fun hx => ?_)⟩)
      · rcases hgt with h1 | h1 <;> omega
      · have hx : nxb c v s j = true := nxb_iff.mpr ⟨by omega, hLp, he.1, by
          have := he.2
          unfold sto at this; rw [if_neg (by omega), if_neg (by omega)] at this; omega⟩
        rw [hu, hx, Bool.true_and, if_pos rfl] at hf
        rw [← hf] at hQ; exact hQ
      · rcases hlt with h1 | h1 <;> omega
theorem RpR_put {v : BV} (hR : RpR c σ v) {s l a b : Nat} {z7 z8 z9 : US} (h7 : z7 = uB σ 4 s (lN a)) (h8 : z8 = uB z7 5 s (lN b)) (h9 : z9 = uA z8 18 s (nI l)) (hl : l ≤ 7) : RpR c z9 (stv v s (l + 1) a b) := fun x hx => by
  have e0 : aB z9 4 x = if x = s then lN a else aB σ 4 x := by
    rw [h9]; show aB z8 4 x = _
    rw [h8, aB_sB_n _ _ (by decide), h7, aB_sB]; rfl
  have e1 : aB z9 5 x = if x = s then lN b else aB σ 5 x := by
    rw [h9]; show aB z8 5 x = _
    rw [h8, aB_sB, h7, aB_sB_n _ _ (by decide)]; rfl
  have e2 : aA z9 18 x = if x = s then nI l else aA σ 18 x := by
    rw [h9, aA_sA, h8, h7]; rfl
  rw [e0, e1, e2]
  by_cases hxs : x = s
  · subst hxs
    obtain ⟨g1, g2, g3⟩ := stv_s v x (l + 1) a b
    rw [if_pos rfl, if_pos rfl, if_pos rfl, g1, g2, g3]
    refine ⟨rfl, rfl, ?_, fun h => by omega⟩
    unfold sto; rw [g1, if_neg (by omega)]; rfl
  · obtain ⟨g1, g2, g3⟩ := stv_n v (l + 1) a b hxs
    rw [if_neg hxs, if_neg hxs, if_neg hxs, g1, g2, g3]
    obtain ⟨r1, r2, r3, r4⟩ := hR x hx
    refine ⟨r1, r2, ?_, r4⟩
    unfold sto; rw [g1]; exact r3
theorem q12_findBest (h : RM σ c) (ok : okC c) (hF : ∀ b, F b = true → b < cn c) (hG : ∀ b, G b = true → b < cn c) {Q : US → Prop} (hQ : ∀ z v, KeepM σ z → RpR c z v → BI c (uB2 F G) G v → CvA c (uB2 F G) G v → Q z) : wp_X12_findBest (nI (mk F)) (nI (mk G)) σ Q := by
  have hn := ok.1
  have hU : ∀ s, uB2 F G s = true → s < cn c := fun s hs => hF s (by unfold uB2 at hs; simp at hs; exact hs.1)
  have hcz : ∀ s j, uB2 F G s = true → cn c ≤ j → cst c s j = 0 := fun s j hs hj => by
    rcases Nat.eq_zero_or_pos (cst c s j) with h0 | h0
    · exact h0
    · have := suc_lt ok (hU s hs) (suc_iff.mpr h0); omega
  unfold wp_X12_findBest
  refine lp_inv (cn c) (fun k t => ∃ z, t = (nI k, z) ∧ KeepM σ z ∧ ∀ s, s < k → aB z 4 s = lN (if G s then 1 else 0) ∧ aB z 5 s = lN 1 ∧ aA z 18 s = nI (if G s then 0 else 8)) ?_ _ ⟨σ, rfl, KeepM.rf σ, fun s hs => absurd hs (Nat.not_lt_zero _)⟩
  rintro k t hk ⟨z, rfl, hkz, hz⟩ P hP
  unfold wp_X12_findBest_L2
  have hRz := hkz.rm h
  dsimp only
  refine rd_n hRz ?_
  rw [cl0, hRz.n]
  refine pk_le (cn c) k (fun hk2 => ?_) (fun hk2 => ?_)
  · have hkc : k = cn c := by omega
    subst hkc
    have hB0 : BI c (uB2 F G) G (fun s => if G s then 1 else 0, fun s => if G s then 1 else 0, fun _ => 1) := fun s hs => by
      refine ⟨fun hg => ⟨if_pos hg, if_pos hg⟩, fun h0 => ?_, Nat.one_pos, ?_, show 1 ≤ 10 ^ 7 by decide⟩
      · have hg : G s = true := by
          cases hg : G s
          · dsimp only at h0; rw [hg] at h0; exact absurd h0 (by decide)
          · rfl
        dsimp only
        rw [hg]
        exact ⟨1, 1, ⟨all8_iff.mpr hs, hg, rfl, rfl⟩, rfl, by decide, by decide, by decide⟩
      · dsimp only; split <;> decide
    refine lp_inv 9 (fun r t => ∃ z v m, t = (nI m, z) ∧ KeepM σ z ∧ RpR c z v ∧ BI c (uB2 F G) G v ∧ ((m = 1 ∧ r ≤ 8 ∧ Cv c (uB2 F G) G r v) ∨ (m = 0 ∧ CvA c (uB2 F G) G v))) ?_ _ ⟨z, (fun s => if G s then 1 else 0, fun s => if G s then 1 else 0, fun _ => 1), 1, rfl, hkz, fun s hs => ?_, hB0, Or.inl ⟨rfl, by omega, Cv_0 hB0⟩⟩
    · rintro r t hr ⟨z2, v2, m, rfl, hk2, hR2, hB2, hm⟩ P66 hP66
      unfold wp_X12_findBest_L66
      rcases hm with ⟨rfl, hr8, hC2⟩ | ⟨rfl, hA2⟩
      · refine ⟨fun z => absurd (show nI 1 = 0 from z) (by decide), fun _ => ?_⟩
        -- a pass
        refine lp_inv (cn c) (fun s t => ∃ z v m, t = (nI m, nI s, z) ∧ KeepM σ z ∧ RpR c z v ∧ PI c (uB2 F G) G r s 0 v ∧ m ≤ 1 ∧ (7 ≤ r → m = 0) ∧ (m = 0 → ∀ a j, a < s → j < 8 → Stq c (uB2 F G) a j v v)) ?_ _ ⟨z2, v2, 0, rfl, hk2, hR2, PI_0 hB2 hC2, by omega, fun _ => rfl, fun _ a j ha => absurd ha (Nat.not_lt_zero _)⟩
        rintro s t hs ⟨z3, v3, m3, rfl, hk3, hR3, hP3, hm1, hm7, hmf⟩ P75 hP75
        unfold wp_X12_findBest_L75
        have hRz3 := hk3.rm h
        dsimp only
        refine rd_n hRz3 ?_
        rw [cl0, hRz3.n]
        refine pk_le (cn c) s (fun hs2 => ?_) (fun hs2 => ?_)
        · have hsc : s = cn c := by omega
          subst hsc
          have hfill : ∀ d, cn c + d ≤ 8 → PI c (uB2 F G) G r (cn c + d) 0 v3 := fun d => by
            induction d with
            | zero => exact fun _ => hP3
            | succ d ih =>
              intro hd
              have h1 := ih (by omega)
              exact PI_row ⟨h1.1, h1.2.1, PC_fill h1.2.2.1 (fun hu => by have h5 : cn c + d < cn c := hU _ hu; omega), h1.2.2.2⟩
          have h8 := hfill (8 - cn c) (by omega)
          have e8 : cn c + (8 - cn c) = 8 := by omega
          rw [e8] at h8
          have hCr := PI_end h8
          refine hP66 (by omega) _ ⟨z3, v3, m3, rfl, hk3, hR3, hP3.1, ?_⟩
          by_cases hm0 : m3 = 0
          · refine Or.inr ⟨hm0, fix_all ok uB2_G hP3.1 (fun a j ha hj => ?_)⟩
            by_cases hac : a < cn c
            · exact hmf hm0 a j hac hj
            · exact Or.inl ⟨fun hx => hac (hU a hx.1), rfl⟩
          · exact Or.inl ⟨by omega, by
              rcases Nat.lt_or_ge r 7 with h1 | h1
              · omega
              · exact absurd (hm7 h1) hm0, hCr⟩
        · have hs8 : s < 8 := by omega
          refine lp_inv (cn c) (fun j t => ∃ z v m, t = (nI m, nI j, z) ∧ KeepM σ z ∧ RpR c z v ∧ PI c (uB2 F G) G r s j v ∧ m ≤ 1 ∧ (7 ≤ r → m = 0) ∧ (m = 0 → (∀ a j, a < s → j < 8 → Stq c (uB2 F G) a j v v) ∧ ∀ i, i < j → Stq c (uB2 F G) s i v v)) ?_ _ ⟨z3, v3, m3, rfl, hk3, hR3, hP3, hm1, hm7, fun h0 => ⟨hmf h0, fun i hi => absurd hi (Nat.not_lt_zero _)⟩⟩
          rintro j t hj ⟨z4, v4, m4, rfl, hk4, hR4, hP4, hq1, hq7, hqf⟩ P89 hP89
          unfold wp_X12_findBest_L89
          have hRz4 := hk4.rm h
          dsimp only
          refine rd_n hRz4 ?_
          rw [cl0, hRz4.n]
          -- the row is done
          have done : (∀ i, j ≤ i → i < 8 → ¬ (uB2 F G s = true ∧ 0 < cst c s i)) → P75 (nI m4, nI s + 1, z4) := fun hd => by
            rw [li1, nI_add]
            refine hP75 hs2 _ ⟨z4, v4, m4, rfl, hk4, hR4, PI_row ⟨hP4.1, hP4.2.1, PC_fill hP4.2.2.1 (fun hu i h1 h2 => ?_), hP4.2.2.2⟩, hq1, hq7, fun h0 a i ha hi => ?_⟩
            · rcases Nat.eq_zero_or_pos (cst c s i) with h0 | h0
              · exact h0
              · exact absurd ⟨hu, h0⟩ (hd i h1 h2)
            · by_cases has : a = s
              · subst has
                by_cases hij : i < j
                · exact (hqf h0).2 i hij
                · exact Or.inl ⟨fun hx => hd i (by omega) hi ⟨hx.1, hx.2.1⟩, rfl⟩
              · exact (hqf h0).1 a i (by omega) hi
          refine pk_le (cn c) j (fun hj2 => done (fun i h1 h2 hx => ?_)) (fun hj2 => ?_)
          · have := hcz s i hx.1 (by omega); omega
          · have hj8 : j < 8 := by omega
            rw [sI_diff]
            show wp_X12_has (nI (mk (uB2 F G))) (nI s) _
            have stay : Stq c (uB2 F G) s j v4 v4 → P89 (nI m4, nI j + 1, z4) := fun hq => by
              rw [li1, nI_add]
              refine hP89 hj2 _ ⟨z4, v4, m4, rfl, hk4, hR4, PI_step ok uB2_G hP4 hs8 hj8 hq, hq1, hq7, fun h0 => ⟨(hqf h0).1, fun i hi => ?_⟩⟩
              by_cases hij : i = j
              · subst hij; exact hq
              · exact (hqf h0).2 i (by omega)
            have hB4 := hP4.1
            obtain ⟨r1, r2, r3, r4⟩ := hR4 j hj2
            obtain ⟨s1, s2, s3, s4⟩ := hR4 s hs2
            obtain ⟨_, aj, bj, pj, qj⟩ := hB4 j hj8
            have hBs := (hB4 s hs8).2.2.1
            have hc := cst_lt ok s j
            have hd := cdiv_le ok s
            have hLj := BI_len hB4 hj8
            have hLs := BI_len hB4 hs8
            refine q12_has hs8 (br_b (fun hb => done (fun i _ _ hx => by rw [hb] at hx; exact absurd hx.1 (by decide))) (fun hb => ?_))
            refine q12_weightOf hRz4 ok hs8 hj8 ⟨fun hz0 => stay (Or.inl ⟨fun hx => ?_, rfl⟩), fun hnz => ⟨pk_in j 8 hj8, ?_⟩⟩
            · rw [li0, nI_leI (by omega) (by omega)] at hz0; omega
            · rw [li0, nI_leI (by omega) (by omega)] at hnz
              rw [nI_clamp (by omega), r1, lg_cmp_le, li64_0, pk_lLE (by omega) (by omega)]
              refine ⟨fun hz0 => stay (Or.inl ⟨fun hx => ?_, rfl⟩), fun hA => ?_⟩
              · obtain ⟨_, _, _, _, h5, _⟩ := aj hx.2.2; omega
              · have hLp : 0 < v4.1 j := by
                  rcases Nat.eq_zero_or_pos (v4.1 j) with h0 | h0
                  · have := r4 h0; omega
                  · exact h0
                have hsj : sto v4 j = v4.1 j - 1 := by unfold sto; rw [if_neg (by omega)]
                have hX : 0 < cst c s j * v4.2.1 j * v4.2.2 s := Nat.mul_pos (Nat.mul_pos (by omega) (by omega)) hBs
                have low : ¬ (v4.2.1 s * (cdiv c s * v4.2.2 j) < cst c s j * v4.2.1 j * v4.2.2 s ∨ (cst c s j * v4.2.1 j * v4.2.2 s = v4.2.1 s * (cdiv c s * v4.2.2 j) ∧ sto v4 j + 1 < sto v4 s)) → dm v4 s (v4.1 j) (cst c s j * v4.2.1 j) (cdiv c s * v4.2.2 j) := fun hno => by
                  have hL0 : 0 < v4.1 s := by
                    rcases Nat.eq_zero_or_pos (v4.1 s) with h0 | h0
                    · refine absurd (Or.inl ?_) hno
                      rw [s4 h0, Nat.zero_mul]; exact hX
                    · exact h0
                  have hss : sto v4 s = v4.1 s - 1 := by unfold sto; rw [if_neg (by omega)]
                  refine ⟨hL0, ?_⟩
                  by_cases he : cst c s j * v4.2.1 j * v4.2.2 s = v4.2.1 s * (cdiv c s * v4.2.2 j)
                  · refine Or.inr ⟨he, ?_⟩
                    rcases Nat.lt_or_ge (v4.1 j + 1) (v4.1 s) with h1 | h1
                    · exact absurd (Or.inr ⟨he, by omega⟩) hno
                    · exact h1
                  · refine Or.inl ?_
                    rcases Nat.lt_or_ge (v4.2.1 s * (cdiv c s * v4.2.2 j)) (cst c s j * v4.2.1 j * v4.2.2 s) with h1 | h1
                    · exact absurd (Or.inl h1) hno
                    · omega
                refine q12_compared hR4 hRz4 ok hB4 hs2 hj2 (fun hup => ⟨fun z => absurd z (by decide), fun _ => ?_⟩) (fun he => ⟨fun _ => stay (Or.inr (Or.inl ⟨low (fun hx => by rcases hx with h1 | h1 <;> omega), rfl⟩)), fun z => absurd (by decide) z⟩) (fun hlt => ⟨fun _ => stay (Or.inr (Or.inl ⟨low (fun hx => by rcases hx with h1 | h1 <;> rcases hlt with h2 | h2 <;> omega), rfl⟩)), fun z => absurd (by decide) z⟩)
                have hnd : ¬ dm v4 s (v4.1 j) (cst c s j * v4.2.1 j) (cdiv c s * v4.2.2 j) := fun hd => by
                  obtain ⟨d0, d1⟩ := hd
                  have hss : sto v4 s = v4.1 s - 1 := by unfold sto; rw [if_neg (by omega)]
                  rcases hup with h1 | h1 <;> rcases d1 with d1 | d1 <;> omega
                -- the change
                refine q12_weightOf hRz4 ok hs8 hj8 ⟨pk_in j 8 hj8, q12_sumOf hRz4 ok hs8 ⟨pk_in j 8 hj8, ?_⟩⟩
                rw [r2, nI_t64 (by omega), nI_t64 (by omega), lN_mul, lN_mul]
                have m1 : cst c s j * v4.2.1 j ≤ 9 * 9 ^ 7 := Nat.mul_le_mul hc pj
                have m2 : cdiv c s * v4.2.2 j ≤ 10 * 10 ^ 7 := Nat.mul_le_mul hd qj
                have p1 : 0 < cst c s j * v4.2.1 j := Nat.mul_pos (by omega) (by omega)
                have p2 : 0 < cdiv c s * v4.2.2 j := Nat.mul_pos (cdiv_pos c s) bj
                refine q12_give (by omega) (by omega) p2 (fun u6 hg6 => ⟨pk_in s 8 hs8, fun z7 h7 => ⟨pk_in s 8 hs8, fun z8 h8 => ⟨pk_in j 8 hj8, pk_in s 8 hs8, fun z9 h9 => ?_⟩⟩⟩)
                rw [nI_clamp (by omega)] at h7 h8
                have e7j : lJ z7 1 = lJ u6 1 := by rw [h7]
                rw [hg6.2.2.1] at h7
                rw [e7j, hg6.2.2.2] at h8
                have hR6 : RpR c u6 v4 := fun x hx => by
                  have := hR4 x hx
                  show u6.2.2.2 4 x = _ ∧ u6.2.2.2 5 x = _ ∧ u6.2.2.1 18 x = _ ∧ _
                  rw [hg6.2.1]; exact this
                have e18 : aA z8 18 = aA z4 18 := by
                  rw [h8, h7]; show u6.2.2.1 18 = _; rw [hg6.2.1]
                rw [nI_clamp (show s < 2 ^ 31 by omega), e18, r3, hsj, li1, nI_add] at h9
                have el : v4.1 j - 1 + 1 = v4.1 j := by omega
                rw [el] at h9
                obtain ⟨q1, q2, q3⟩ := red_dvd (a := cst c s j * v4.2.1 j) p2
                have gp := gcd1_pos (cst c s j * v4.2.1 j) (cdiv c s * v4.2.2 j)
                have hα : 0 < cst c s j * v4.2.1 j / gcd1 (cst c s j * v4.2.1 j) (cdiv c s * v4.2.2 j) := by
                  rcases Nat.eq_zero_or_pos (cst c s j * v4.2.1 j / gcd1 (cst c s j * v4.2.1 j) (cdiv c s * v4.2.2 j)) with h0 | h0
                  · rw [h0, Nat.zero_mul] at q3
                    have := Nat.mul_pos p1 q2; omega
                  · exact h0
                have hStq : Stq c (uB2 F G) s j v4 (stv v4 s (v4.1 j + 1) (cst c s j * v4.2.1 j / gcd1 (cst c s j * v4.2.1 j) (cdiv c s * v4.2.2 j)) (cdiv c s * v4.2.2 j / gcd1 (cst c s j * v4.2.1 j) (cdiv c s * v4.2.2 j))) := Or.inr (Or.inr ⟨hb, by omega, hLp, hnd, _, _, q3, hα, Nat.div_le_self _ _, q2, Nat.div_le_self _ _, rfl⟩)
                have hPn := PI_step ok uB2_G hP4 hs8 hj8 hStq
                have hln : v4.1 j + 1 ≤ 8 := by
                  have := BI_len hPn.1 hs8
                  rw [(stv_s v4 s _ _ _).1] at this; exact this
                have hK9 : KeepM u6 z9 := by
                  rw [h9, h8, h7]
                  exact ⟨fun q _ _ _ h18 => aA_sA_n _ _ h18, fun _ _ _ => rfl⟩
                have e1 : (1 : Int32) = nI 1 := rfl
                rw [li1, nI_add]
                refine hP89 hj2 _ ⟨z9, _, 1, rfl, (hk4.tr hg6.keep).tr hK9, RpR_put hR6 h7 h8 h9 (by omega), hPn, Nat.le_refl _, fun h7r => ?_, fun z => absurd z (by decide)⟩
                exact absurd (no_upd ok hB4 (Cv_all ok h7r hB4 hP4.2.1) hs8 hj8 hb (by omega) hLp) hnd
      · exact ⟨fun _ => hQ z2 v2 hk2 hR2 hB2 hA2, fun z => absurd rfl z⟩
    · obtain ⟨a1, a2, a3⟩ := hz s hs
      refine ⟨a1, a2, ?_, ?_⟩
      · rw [a3]
        have key : ∀ x : Nat, (if G s = true then 0 else 8) = (if (if G s = true then 1 else 0) = 0 then 8 else (if G s = true then 1 else 0) - 1) := fun _ => by
          cases G s <;> rfl
        exact congrArg nI (key 0)
      · dsimp only
        cases G s
        · exact fun _ => rfl
        · intro h; exact absurd h (by decide)
  · have hk8 : k < 8 := by omega
    have hj30 : ∀ x, (x = if G k then 1 else 0) → wp_X12_findBest_J30 (nI (mk F)) (nI (mk G)) (nI k) z (lN x) (nI k) P Q := fun x hx => by
      unfold wp_X12_findBest_J30
      refine ⟨pk_in k 8 hk8, fun z69 h69 => ⟨pk_in k 8 hk8, fun z70 h70 => ?_⟩⟩
      rw [nI_clamp (by omega)] at h69 h70
      have hgo : ∀ y, (y = if G k then 0 else 8) → P (nI k + 1, uA z70 18 k (nI y)) := fun y hy => by
        rw [li1, nI_add]
        have hK : KeepM z (uA z70 18 k (nI y)) := by
          rw [h70, h69]; exact ⟨fun q _ _ _ h18 => aA_sA_n _ _ h18, fun _ _ _ => rfl⟩
        refine hP hk2 _ ⟨_, rfl, hkz.tr hK, fun s hs => ?_⟩
        have e0 : aB (uA z70 18 k (nI y)) 4 s = if s = k then lN x else aB z 4 s := by
          show aB z70 4 s = _
          rw [h70, aB_sB_n _ _ (by decide), h69, aB_sB]; rfl
        have e1 : aB (uA z70 18 k (nI y)) 5 s = if s = k then lN 1 else aB z 5 s := by
          show aB z70 5 s = _
          rw [h70, aB_sB, h69, aB_sB_n _ _ (by decide)]; rfl
        have e2 : aA (uA z70 18 k (nI y)) 18 s = if s = k then nI y else aA z 18 s := by
          rw [aA_sA, h70, h69]; rfl
        rw [e0, e1, e2]
        by_cases hsk : s = k
        · subst hsk
          rw [if_pos rfl, if_pos rfl, if_pos rfl, ← hx, ← hy]; exact ⟨rfl, rfl, rfl⟩
        · rw [if_neg hsk, if_neg hsk, if_neg hsk]; exact hz s (by omega)
      refine q12_has hk8 (br_b (fun hb => ⟨pk_in k 8 hk8, fun z72 h72 => ?_⟩) (fun hb => ⟨pk_in k 8 hk8, fun z73 h73 => ?_⟩))
      · rw [nI_clamp (by omega)] at h72
        subst h72; exact hgo 8 (by rw [hb]; rfl)
      · rw [nI_clamp (by omega)] at h73
        subst h73; exact hgo 0 (by rw [hb]; rfl)
    exact q12_has hk8 (br_b (fun hb => hj30 0 (by rw [hb]; rfl)) (fun hb => hj30 1 (by rw [hb]; rfl)))
/-- the row of values that both come to -/
noncomputable def bst (c : CH) (U G : Nat → Bool) : BV := @dite BV (∃ v, BI c U G v ∧ CvA c U G v) (Classical.propDecidable _) (fun h => h.choose) (fun _ => (fun _ => 0, fun _ => 0, fun _ => 1))
theorem bst_ok {v : BV} (h1 : BI c U G v) (h2 : CvA c U G v) : BI c U G (bst c U G) ∧ CvA c U G (bst c U G) := by
  have h : ∃ v, BI c U G v ∧ CvA c U G v := ⟨v, h1, h2⟩
  unfold bst
  rw [dif_pos h]; exact h.choose_spec
theorem nxb_same {v w : BV} (hv : BI c U G v) (hvc : CvA c U G v) (hw : BI c U G w) (hwc : CvA c U G w) {s t : Nat} (hs : s < 8) (ht : t < 8) (h : nxb c v s t = true) : nxb c w s t = true := by
  obtain ⟨h1, h2, h3, h4⟩ := nxb_iff.mp h
  obtain ⟨s1, s2⟩ := best_one hv hvc hw hwc hs
  obtain ⟨t1, t2⟩ := best_one hv hvc hw hwc ht
  have s2 := s2 (by omega)
  have t2 := t2 h2
  refine nxb_iff.mpr ⟨h1, by omega, ?_, by omega⟩
  have k1 : cst c s t * w.2.1 t * (cdiv c s * v.2.2 t) = cst c s t * v.2.1 t * (cdiv c s * w.2.2 t) := by
    calc cst c s t * w.2.1 t * (cdiv c s * v.2.2 t) = cst c s t * cdiv c s * (w.2.1 t * v.2.2 t) := by grind
      _ = cst c s t * cdiv c s * (v.2.1 t * w.2.2 t) := by rw [t2]
      _ = cst c s t * v.2.1 t * (cdiv c s * w.2.2 t) := by grind
  have k2 : cst c s t * w.2.1 t * v.2.2 s = v.2.1 s * (cdiv c s * w.2.2 t) := fr_eq k1 h3 (Nat.mul_pos (cdiv_pos c s) (hv t ht).2.2.1)
  exact fr_eq k2 s2 (hv s hs).2.2.1
theorem nxt_same {v w : BV} (hv : BI c U G v) (hvc : CvA c U G v) (hw : BI c U G w) (hwc : CvA c U G w) {s : Nat} (hs : s < 8) : nxt c U v s = nxt c U w s := fnd_congr (fun i hi => by
  have h1 : nxb c v s i = nxb c w s i := by
    cases h : nxb c v s i
    · cases h2 : nxb c w s i
      · rfl
      · rw [nxb_same hw hwc hv hvc hs (by omega) h2] at h; exact absurd h (by decide)
    · exact (nxb_same hv hvc hw hwc hs (by omega) h).symm
  show (U s && nxb c v s i) = (U s && nxb c w s i)
  rw [h1])
theorem pth_same {v w : BV} (hv : BI c U G v) (hvc : CvA c U G v) (hw : BI c U G w) (hwc : CvA c U G w) {s : Nat} (hs : s < 8) : ∀ i, pth c U v s i = pth c U w s i
  | 0 => rfl
  | i + 1 => by
    show nxt c U v (pth c U v s i) = nxt c U w (pth c U w s i)
    rw [← pth_same hv hvc hw hwc hs i]
    exact nxt_same hv hvc hw hwc (pth_lt hs i)
end BR1
