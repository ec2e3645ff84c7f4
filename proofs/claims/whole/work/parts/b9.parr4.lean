/-! ===== the reference's parser, done ===== -/
section PARU
variable {t : Nat → Nat} {len : Nat} {σ : US} {s : ST} {m op n : Nat} {RF : US → (Int32 → US → Prop) → Prop}
theorem PR.opn {op' : Nat} {x : Int32} (h : PR t len σ s m op) (hx : x = nI op') : PR t len (uI σ 7 x) s m op' :=
  ⟨(iI_uIn (by decide)).trans h.1, (iI_uIn (by decide)).trans h.2.1, h.2.2.1, (iI_uIn (by decide)).trans h.2.2.2.1, iI_uIs.trans hx, (iI_uIn (by decide)).trans h.2.2.2.2.2.1, h.2.2.2.2.2.2⟩
/-- a node without a bound is whole -/
theorem RT.of0 {σ : US} {T : TR (n + 1)} {i : Nat} (hb : isB T.1.1 = false) (h : RT0 σ n T i) : RT σ (n + 1) T i := ⟨h.1, h.2.1, fun hc => tf hc hb, h.2.2.1, h.2.2.2⟩
theorem RT0.of {σ : US} {k d : Nat} {b : BB} {T1 T2 : TR n} {i : Nat} (hb : isB k = false) (h : RT0 σ n (tnd k d b T1 T2) i) : RT σ (n + 1) (tnd k d b T1 T2) i := RT.of0 (T := tnd k d b T1 T2) hb h
theorem q12_J79 (HR : RRok t len n RF) (hT : TK t len) {m0 : Nat} {s1 : ST} {σ0 : US} {p : Nat} (h : PR t len σ s1 m op) (hop : op = 6 - n) (hm0 : m0 + (len - p) ≤ 300) (hmm : m0 ≤ m) (hpos : m + (p + 1) ≤ m0 + s1.2) (K : KR m0 σ0 σ) {k : Nat} (hk : s1.1 = false → (k = 38 ∨ k = 124) ∧ chr t len s1.2 = k) {T1 : TR n} {i1 : Int32} (g1 : s1.1 = false → ∃ j, i1 = nI j ∧ m0 ≤ j ∧ j < m ∧ RT σ n T1 j) {Q : Int32 → US → Prop}
    (hQ : ∀ i σ', RG t len (n + 1) σ0 m0 (false, p) op (exF t len 41 (rdF t len n (exF t len k s1)).1, tnd k 0 bb0 T1 (rdF t len n (exF t len k s1)).2) i σ' → Q i σ') : wp_X12_readNested_J79 RF (nI k) i1 σ Q := by
  unfold wp_X12_readNested_J79
  have go : ∀ u, PR t len u (exF t len k s1) m op → KP σ u → s1.2 ≤ (exF t len k s1).2 → RF u (fun (r6 : Int32) (u7 : US) => wp_X12_wants 41 u7 (fun (u8 : US) => wp_X12_node (nI k) i1 r6 u8 (fun (r9 : Int32) (u10 : US) => Q r9 u10))) := by
    intro u hu ku hx0
    have hlu := hu.2.2.1
    refine HR u _ m op _ hu hop (by omega) (fun i2 σ3 G => ?_)
    obtain ⟨m2, P2, K3, h3, h4, g2⟩ := G
    refine q12_wants (x := 41) hT P2 (by decide) (by decide) (fun u8 h8 k8 => ?_)
    have hl3 := h8.2.2.1
    have hx := (Mv.ex (t := t) (len := len) (x := 41) (by omega) (rdF t len n (exF t len k s1)).1).1
    have K4 : KR m σ u8 := ((ku.kr m).tr K3 (Nat.le_refl _)).tr (k8.kr m) (Nat.le_refl _)
    have K48 : KR m2 σ3 u8 := k8.kr m2
    have K5 : KR m0 σ0 u8 := K.tr K4 hmm
    by_cases hok : (exF t len 41 (rdF t len n (exF t len k s1)).1).1 = false
    · have o2 := (exF_ok hok).1
      have o1 := (exF_ok (ok_of_rd o2)).1
      obtain ⟨hk2, -⟩ := hk o1
      obtain ⟨kb, ko, kt, -⟩ := k38 hk2
      refine q12_mk2 (b := bb0) (T1 := T1) (T2 := (rdF t len n (exF t len k s1)).2) (m0 := m0) h8 (fun _ => by omega) (by omega) (by omega) (fun hf _ => ?_) (fun hf _ => ?_) (fun hf => ?_) (fun hf σ' P' K' N _ => ?_)
      · obtain ⟨j, j1, j2, j3, j4⟩ := g1 o1
        exact ⟨j, j1, by omega, RT.keep K4.2.1 n _ j j3 j4⟩
      · obtain ⟨j, j1, j2, j3, j4⟩ := g2 o2
        exact ⟨j, j1, j3, RT.keep K48.2.1 n _ j j3 j4⟩
      · exact tf hf hok
      · obtain ⟨i, e, a1, a2, a3⟩ := N (by omega)
        exact hQ _ _ ⟨m2 + 1, P', K5.tr K' (by omega), by omega, by simp only; omega, fun _ => ⟨i, e, a1, a2, RT0.of kb a3⟩⟩
    · refine q12_node h8 (fun hc => absurd hc hok) (fun _ => ?_) (fun hc => absurd hc hok)
      exact hQ _ _ ⟨m2, h8, K5, by omega, by simp only; omega, fun hc => absurd hc hok⟩
  by_cases hf : s1.1 = false
  · obtain ⟨hk1, hk2⟩ := hk hf
    have hk0 : k ≠ 0 := by omega
    exact q12_wants (x := k) hT h hk0 (by omega) (fun u hu ku => go u hu ku (Mv.ex (t := t) (len := len) (x := k) hk0 s1).1)
  · have hf : s1.1 = true := by simpa using hf
    have e : exF t len k s1 = (true, s1.2) := by unfold exF; rw [if_neg (by rw [hf]; simp)]
    refine q12_wantsT h hf (fun u hu ku => go u ?_ ku ?_)
    · rw [e]; exact hu
    · rw [e]; exact Nat.le_refl _
theorem q12_readNested (HR : RRok t len n RF) (hT : TK t len) {p : Nat} (h : PR t len σ (false, p) m op) (hop : op = 6 - n) (hm : m + (len - p) ≤ 300) (hk : chr t len p = 33 ∨ chr t len p = 40 ∨ chr t len p = 80 ∨ chr t len p = 83 ∨ chr t len p = 82) (hn0 : n ≠ 0) {Q : Int32 → US → Prop}
    (hQ : ∀ i σ', RG t len (n + 1) σ m (false, p) op (rdF t len (n + 1) (false, p)) i σ' → Q i σ') : wp_X12_readNested RF (nI (chr t len p)) σ Q := by
  have hlt : p < len := pkp_lt (t := t) (s := (false, p)) (by rw [pk_f]; omega)
  have hg : ¬ (n = 0 ∨ (false : Bool) = true) := by
    intro hc; rcases hc with hc | hc
    · exact hn0 hc
    · cases hc
  unfold wp_X12_readNested
  refine And.symm (pk_eq (chr t len p) 33 (fun h33 z1 hz1 => ?_) (fun h33 => pk_eq (chr t len p) 40 (fun h40 z1 hz1 => ?_) (fun h40 => ?_)))
  · have P1 : PR t len z1 (false, p + 1) m op := by subst hz1; exact h.inc hlt
    have K1 : KR m σ z1 := by subst hz1; exact (KP.u6 _ _).kr m
    unfold rdF at hQ
    rw [pk_f, if_neg (by omega), if_neg (by omega), if_neg hg, if_pos h33] at hQ
    refine HR z1 _ m op _ P1 hop (by simp only; omega) (fun i1 σ2 G => ?_)
    obtain ⟨m1, P2, K2, h1, h2, g1⟩ := G
    have hl2 := P2.2.2.1
    simp only at h2
    refine q12_mk2 (k := 33) (b := bb0) (T1 := (rdF t len n (false, p + 1)).2) (T2 := trU n) (m0 := m) P2 (fun _ => by omega) h1 (by decide) (fun hf _ => ?_) (fun hf ht => tf ht (by decide)) (fun hf => ?_) (fun hf σ' P' K' N _ => ?_)
    · obtain ⟨j, j1, j2, j3, j4⟩ := g1 hf
      exact ⟨j, j1, j3, j4⟩
    · exact hQ _ _ ⟨m1, P2, K1.tr K2 (Nat.le_refl _), h1, by simp only; omega, fun hc => tf (b := (rdF t len n (false, p + 1)).1.1) hf hc⟩
    · obtain ⟨i, e, a1, a2, a3⟩ := N (by decide)
      exact hQ _ _ ⟨m1 + 1, P', (K1.tr K2 (Nat.le_refl _)).tr K' h1, by omega, by simp only; omega, fun _ => ⟨i, e, a1, a2, RT0.of (by decide) a3⟩⟩
  · have P1 : PR t len z1 (false, p + 1) m op := by subst hz1; exact h.inc hlt
    have K1 : KR m σ z1 := by subst hz1; exact (KP.u6 _ _).kr m
    unfold rdF at hQ
    rw [pk_f, if_neg (by omega), if_neg (by omega), if_neg hg, if_neg (by omega), if_pos h40] at hQ
    refine HR z1 _ m op _ P1 hop (by simp only; omega) (fun i1 σ2 G => ?_)
    obtain ⟨m1, P2, K2, h1, h2, g1⟩ := G
    simp only at h2
    have K12 : KR m σ σ2 := K1.tr K2 (Nat.le_refl _)
    have h7 := chr_le hT (rdF t len n (false, p + 1)).1.2
    refine q12_here hT P2 ?_
    generalize hr : rdF t len n (false, p + 1) = r1 at P2 h2 g1 h7 hQ ⊢
    by_cases hf : r1.1.1 = false
    · -- no error yet
      refine pk_eq (chr t len r1.1.2) 38 (fun hc => ?_) (fun hc => pk_eq (chr t len r1.1.2) 124 (fun hc2 => ?_) (fun hc2 z hz => ?_))
      · have e : skF t len 38 r1.1 = (true, (false, r1.1.2 + 1)) := by unfold skF; rw [if_pos ⟨hf, hc⟩]
        have e2 : exF t len 38 r1.1 = (false, r1.1.2 + 1) := by unfold exF; rw [if_pos ⟨hf, hc⟩]
        rw [e, if_pos rfl, if_pos rfl] at hQ
        rw [hc]
        refine q12_J79 HR hT (k := 38) (T1 := r1.2) P2 hop hm h1 (by omega) K12 (fun _ => ⟨Or.inl rfl, hc⟩) g1 (fun i σ' G => hQ i σ' ?_)
        rw [e2] at G; exact G
      · have e : skF t len 38 r1.1 = (false, r1.1) := by unfold skF; rw [if_neg (fun hx => hc hx.2)]
        rw [e, if_neg (by simp), if_neg (by simp)] at hQ
        rw [hc2]
        exact q12_J79 HR hT (k := 124) (T1 := r1.2) P2 hop hm h1 (by omega) K12 (fun _ => ⟨Or.inr rfl, hc2⟩) g1 hQ
      · have e : skF t len 38 r1.1 = (false, r1.1) := by unfold skF; rw [if_neg (fun hx => hc hx.2)]
        have e2 : exF t len 124 r1.1 = (true, r1.1.2) := by unfold exF; rw [if_neg (fun hx => hc2 hx.2)]
        rw [e, if_neg (by simp), if_neg (by simp), e2] at hQ
        subst hz
        refine q12_J79 HR hT (k := chr t len r1.1.2) (s1 := (true, r1.1.2)) (T1 := r1.2) P2.fail hop hm h1 (by omega) (K12.tr ((KP.u8 _ _).kr m) (Nat.le_refl _)) (fun hx => by cases hx) (fun hx => by cases hx) (fun i σ' G => hQ i σ' ?_)
        obtain ⟨m', a1, a2, a3, a4, -⟩ := G
        rw [exF_T] at a1 a4
        refine ⟨m', a1, a2, a3, a4, fun hx => ?_⟩
        have hx : (exF t len 41 (rdF t len n (true, r1.1.2)).1).1 = false := hx
        rw [rdF_T, exF_T] at hx; cases hx
    · have hf : r1.1.1 = true := by simpa using hf
      obtain ⟨r11, r12⟩ := r1
      obtain ⟨f1, p1⟩ := r11
      have hf : f1 = true := hf
      subst hf
      have h7 : chr t len p1 ≤ 126 := h7
      have h2 : m1 + (p + 1) ≤ m + p1 := h2
      rw [skF_T, if_neg (by simp), if_neg (by simp), exF_T] at hQ
      have fin : ∀ (σ3 : US), PR t len σ3 (true, p1) m1 op → KR m σ σ3 → wp_X12_readNested_J79 RF (nI (chr t len p1)) i1 σ3 Q := fun σ3 P3 K3 => by
        refine q12_J79 HR hT (k := chr t len p1) (s1 := (true, p1)) (T1 := r12) P3 hop hm h1 h2 K3 (fun hx => by cases hx) (fun hx => by cases hx) (fun i σ' G => hQ i σ' ?_)
        obtain ⟨m', a1, a2, a3, a4, -⟩ := G
        rw [exF_T] at a1 a4
        refine ⟨m', a1, a2, a3, a4, fun hx => ?_⟩
        have hx : (exF t len 41 (rdF t len n (true, p1)).1).1 = false := hx
        rw [rdF_T, exF_T] at hx; cases hx
      refine pk_eq (chr t len p1) 38 (fun hc => fin _ P2 K12) (fun hc => pk_eq (chr t len p1) 124 (fun hc2 => fin _ P2 K12) (fun hc2 z hz => ?_))
      subst hz
      exact fin _ P2.fail (K12.tr ((KP.u8 _ _).kr m) (Nat.le_refl _))
  · exact q12_readBounded HR hT h hop hm (by omega) hn0 hQ
theorem q12_B (HR : n ≠ 0 → RRok t len n RF) (hT : TK t len) (hn : n ≤ 5) (h : PR t len σ s m op) (hop : op = 6 - (n + 1)) (hm : m + (len - s.2) ≤ 300) {Q : Int32 → US → Prop}
    (hQ : ∀ i σ', RG t len (n + 1) σ m s op (rdF t len (n + 1) s) i σ' → Q i σ') : wp_X12_readFormula_B RF σ Q := by
  unfold wp_X12_readFormula_B
  rw [h.2.1]
  have h7 := chr_le hT s.2
  refine ⟨fun hf => ?_, fun hf => ?_⟩
  · have hf := bI_f hf
    obtain ⟨f, p⟩ := s
    have hf : f = false := hf
    subst hf
    simp only at h7 hm
    -- a leaf
    have leaf : ∀ k d : Nat, chr t len p ≠ 0 → (k = 116 ∨ k = 97) → chr t len p = (if k = 97 then 97 + d else k) → (k = 116 → d = 0) → d < 4 → (∀ i σ', RG t len (n + 1) σ m (false, p) op ((false, p + 1), tnd k d bb0 (trU n) (trU n)) i σ' → Q i σ') → wp_X12_readFormula_J31 RF (nI (chr t len p)) σ Q := by
      intro k d hc0 hk he hd hd4 hQ
      unfold wp_X12_readFormula_J31
      have hlt : p < len := pkp_lt (t := t) (s := (false, p)) (by rw [pk_f]; exact hc0)
      intro z2 hz2
      have P2 : PR t len z2 (false, p + 1) m op := by subst hz2; exact h.inc hlt
      have K2 : KR m σ z2 := by subst hz2; exact (KP.u6 _ _).kr m
      have fin : wp_X12_readFormula_J55 RF (nI (chr t len p)) z2 (nI k) Q := by
        unfold wp_X12_readFormula_J55
        have hkk : hasO k = false ∧ hasT k = false ∧ isB k = false := by rcases hk with rfl | rfl <;> decide
        refine q12_node P2 (fun _ => by omega) (fun hx => by cases hx) (fun _ σ' P' K' e6 e7 e8 e9 => ?_)
        have v : vp_in (nI m) 300 := vp_in_nI (by omega) (by decide)
        rw [nI_clamp (by omega)]
        have done : ∀ z : US, z = uA σ' 9 m (nI d) → Q (nI m) z := fun z hz => by
          subst hz
          refine hQ _ _ ⟨m + 1, P'.ua (by decide), (K2.tr K' (Nat.le_refl _)).tr (KR.ua _ (by decide) (Nat.le_refl m)) (Nat.le_refl _), by omega, by simp only; omega, fun _ => ⟨m, rfl, Nat.le_refl _, Nat.lt_succ_self m, ?_⟩⟩
          refine ⟨?_, fun _ => ?_, fun hc => tf hc hkk.2.2, fun hc => tf hc hkk.1, fun hc => tf hc hkk.2.1⟩
          · rw [aA_uA, if_neg (by omega)]; exact e6
          · rw [aA_uA, if_pos ⟨rfl, rfl⟩]; rfl
        refine And.symm (pk_eq (chr t len p) 116 (fun hc => ⟨v, fun z hz => done z ?_⟩) (fun hc => ⟨v, fun z hz => done z ?_⟩))
        · have hk : k = 116 := by
            rcases hk with rfl | rfl
            · rfl
            · exfalso
              rw [if_pos rfl] at he
              omega
          rw [hz, hd hk]; rfl
        · have hk : k = 97 := by
            rcases hk with rfl | rfl
            · exact absurd he hc
            · rfl
          subst hk
          rw [if_pos rfl] at he
          rw [hz, he, show (97 : Int32) = nI 97 from rfl, pk_sub (by omega)]
          congr 2; omega
      refine And.symm (pk_eq (chr t len p) 116 (fun hc => ?_) (fun hc => ?_))
      · have hk : k = 116 := by
          rcases hk with rfl | rfl
          · rfl
          · rw [if_pos rfl] at he; omega
        rw [hk] at fin; exact fin
      · have hk : k = 97 := by
          rcases hk with rfl | rfl
          · exact absurd he hc
          · rfl
        rw [hk] at fin; exact fin
    refine q12_here hT h ?_
    refine pk_eq (chr t len p) 116 (fun h116 => ?_) (fun h116 => ?_)
    · unfold rdF at hQ
      rw [pk_f, if_pos h116] at hQ
      exact leaf 116 0 (by omega) (Or.inl rfl) h116 (fun _ => rfl) (by omega) hQ
    · refine q12_in (b := 97) (d := 100) (by simp only; omega) (by decide) (by decide) (br_b (fun hb => ?_) (fun hb => ?_))
      · have hb := of_decide_eq_false hb
        have bad : (rdF t len (n + 1) (false, p)).1 = (true, p) → ∀ σ1, PR t len σ1 (true, p) m op → KR m σ σ1 → Q 0 σ1 := fun e σ1 P K => hQ _ _ ⟨m, by rw [e]; exact P, K, Nat.le_refl _, by rw [e]; exact Nat.le_refl _, fun hc => by rw [e] at hc; cases hc⟩
        have j118 : (chr t len p = 33 ∨ chr t len p = 40 ∨ chr t len p = 80 ∨ chr t len p = 83 ∨ chr t len p = 82) → wp_X12_readFormula_J113 RF (nI (chr t len p)) σ Q := by
          intro hk
          unfold wp_X12_readFormula_J113 wp_X12_readFormula_J118
          refine ⟨fun hc => absurd hc (by decide), fun _ => And.symm (pk_eq op 5 (fun h5 z hz => ?_) (fun h5 z hz => ?_) h.2.2.2.2.1 rfl)⟩
          · subst hz
            refine bad ?_ _ h.fail ((KP.u8 _ _).kr m)
            unfold rdF
            rw [pk_f, if_neg h116, if_neg hb, if_pos (Or.inl (by omega))]
          · have P1 : PR t len z (false, p) m (op + 1) := by
              subst hz
              exact h.opn (by rw [h.2.2.2.2.1, nI_1])
            have K1 : KR m σ z := by subst hz; exact KR.u m _ (by omega)
            refine q12_readNested (HR (by omega)) hT P1 (by omega) hm hk (by omega) (fun i σ' G => ?_)
            intro z14 hz14
            obtain ⟨m', a1, a2, a3, a4, a5⟩ := G
            refine hQ i z14 ⟨m', ?_, ?_, a3, a4, fun hc => ?_⟩
            · subst hz14
              refine a1.opn ?_
              rw [a1.2.2.2.2.1, nI_pred1 (by omega)]; rfl
            · subst hz14
              exact (K1.tr a2 (Nat.le_refl _)).tr (KR.u m _ (by omega)) (Nat.le_refl _)
            · obtain ⟨j, j1, j2, j3, j4⟩ := a5 hc
              refine ⟨j, j1, j2, j3, RT.keep (N := m') (fun q x hx => ?_) _ _ j j3 j4⟩
              subst hz14; rfl
        refine pk_eq (chr t len p) 33 (fun hc => j118 (by omega)) (fun w1 => ?_)
        refine pk_eq (chr t len p) 40 (fun hc => j118 (by omega)) (fun w2 => ?_)
        refine pk_eq (chr t len p) 80 (fun hc => j118 (by omega)) (fun w3 => ?_)
        refine pk_eq (chr t len p) 83 (fun hc => j118 (by omega)) (fun w4 => ?_)
        refine And.symm (pk_eq (chr t len p) 82 (fun hc => j118 (by omega)) (fun w5 => ?_))
        unfold wp_X12_readFormula_J118
        refine ⟨fun _ z hz => ?_, fun hc => absurd rfl hc⟩
        subst hz
        refine bad ?_ _ h.fail ((KP.u8 _ _).kr m)
        unfold rdF
        rw [pk_f, if_neg h116, if_neg hb]
        by_cases g : n = 0 ∨ (false : Bool) = true
        · rw [if_pos g]
        · rw [if_neg g, if_neg w1, if_neg w2, if_neg w3, if_neg (by omega)]
      · have hb : 97 ≤ chr t len p ∧ chr t len p ≤ 100 := of_decide_eq_true hb
        unfold rdF at hQ
        rw [pk_f, if_neg h116, if_pos hb] at hQ
        exact leaf 97 (chr t len p - 97) (by omega) (Or.inr rfl) (by rw [if_pos rfl]; omega) (fun hc => absurd hc (by decide)) (by omega) hQ
  · have hf := bI_t hf
    obtain ⟨f, p⟩ := s
    have hf : f = true := hf
    subst hf
    have e := rdF_T (t := t) (len := len) (n + 1) p
    refine hQ _ _ ⟨m, ?_, KR.rf _ _, Nat.le_refl _, ?_, fun hc => ?_⟩
    · rw [e]; exact h
    · rw [e]; exact Nat.le_refl _
    · rw [e] at hc; cases hc
theorem q12_readFormula (hT : TK t len) : ∀ n, n ≤ 5 → RRok t len (n + 1) (wp_X12_readFormula (n + 1))
  | 0, _ => fun σ s m op Q h hop hm hQ => q12_B (n := 0) (fun hc => absurd rfl hc) hT (by omega) h hop hm hQ
  | n + 1, hn => fun σ s m op Q h hop hm hQ => q12_B (n := n + 1) (fun _ => q12_readFormula hT n (by omega)) hT hn h hop hm hQ
end PARU
