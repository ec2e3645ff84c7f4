/-! ===== the reference: findClasses ===== -/
theorem aA_sA (σ : US) (k : Nat) (f : Nat → Int32) : aA (sA σ k f) k = f := kup_s
theorem aA_sA_n (σ : US) {j k : Nat} (f : Nat → Int32) (h : j ≠ k) : aA (sA σ k f) j = aA σ j := kup_n h
/-- what the reference keeps over a call that computes -/
def KeepM (σ σ' : US) : Prop := (∀ q, q ≠ 3 → q ≠ 4 → q ≠ 5 → q ≠ 18 → aA σ' q = aA σ q) ∧ (∀ k, k ≠ 2 → k < 6 → iI σ' k = iI σ k)
theorem KeepM.rf (σ : US) : KeepM σ σ := ⟨fun _ _ _ _ _ => rfl, fun _ _ _ => rfl⟩
theorem KeepM.tr {a b c : US} (h1 : KeepM a b) (h2 : KeepM b c) : KeepM a c := ⟨fun q x y z w => (h2.1 q x y z w).trans (h1.1 q x y z w), fun k x y => (h2.2 k x y).trans (h1.2 k x y)⟩
theorem KeepM.rm {σ σ' : US} {c : CH} (h : KeepM σ σ') (hR : RM σ c) : RM σ' c := by
  unfold RM at hR ⊢
  rw [h.1 0 (by omega) (by omega) (by omega) (by omega)]; exact hR
theorem stw_all {c : CH} (ok : okC c) {i : Nat} (hi : i < cn c) : stw c i (fun s => decide (s < cn c) && (0 : Nat) == 0) = cdiv c i := by
  have hn := ok.1
  unfold cdiv
  by_cases h : csum c i = 0
  · rw [stw_0 (by omega) h, if_pos h]; simp [hi]
  · rw [stw_1 ok h, if_neg h, ← csum_n ok]
    exact sumN_congr (fun j hj => by simp [hj])
def al0 (c : CH) (t k : Nat) : Bool := decide (cl c k = cl c t ∧ cr c k = cr c t)
theorem stg_1 {c : CH} (ok : okC c) (h0 : cn c ≠ 0) : stg c 1 = numb (al0 c) (cn c) := by
  show numb (alk c (stg c 0).1 (stg c 0).2) (cn c) = _
  have e : (stg c 0).2 = 1 := by show (if cn c = 0 then 0 else 1) = 1; rw [if_neg h0]
  rw [e]
  refine numb_congr (fun i k hi hk => ?_)
  unfold alk al0
  congr 1
  apply propext
  constructor
  · intro ⟨a, b, _, _⟩; exact ⟨a.symm, b.symm⟩
  · intro ⟨a, b⟩
    refine ⟨a.symm, b.symm, rfl, fun q hq => ?_⟩
    have : q = 0 := by omega
    subst this
    have e1 := stw_all ok hi
    have e2 := stw_all ok hk
    show stw c i (fun s => decide (s < cn c) && (0 : Nat) == 0) * _ = stw c k (fun s => decide (s < cn c) && (0 : Nat) == 0) * _
    rw [e1, e2, Nat.mul_comm]
theorem stg_lab {c : CH} (r : Nat) {i j : Nat} (hi : i < cn c) (hj : j < cn c) (h : (stg c (r + 1)).1 i = (stg c (r + 1)).1 j) : cl c i = cl c j ∧ cr c i = cr c j :=
  ⟨numb_ref (f := cl c) (n := cn c) (fun i k _ _ h => by unfold alk at h; simp at h; exact h.1) (cn c) (Nat.le_refl _) i j hi hj h,
   numb_ref (f := cr c) (n := cn c) (fun i k _ _ h => by unfold alk at h; simp at h; exact h.2.1) (cn c) (Nat.le_refl _) i j hi hj h⟩
theorem stg_m {c : CH} (r : Nat) : stg c (r + 2) = numb (fun t k => alm c (stg c (r + 1)).1 (stg c (r + 1)).2 k t) (cn c) := by
  show numb (alk c (stg c (r + 1)).1 (stg c (r + 1)).2) (cn c) = _
  refine numb_congr (fun i k hi hk => ?_)
  unfold alk alm
  congr 1
  apply propext
  constructor
  · intro ⟨_, _, a, b⟩; exact ⟨a.symm, fun q hq => (b q hq).symm⟩
  · intro ⟨a, b⟩
    obtain ⟨l1, l2⟩ := stg_lab r hi hk a.symm
    exact ⟨l1, l2, a.symm, fun q hq => (b q hq).symm⟩
theorem numb_s {al : Nat → Nat → Bool} {k : Nat} : (numb al (k + 1)).1 k = inn al (numb al k).1 (numb al k).2 k k ∧ (numb al (k + 1)).2 = if inn al (numb al k).1 (numb al k).2 k k = (numb al k).2 then (numb al k).2 + 1 else (numb al k).2 := ⟨if_pos rfl, rfl⟩
section PM4
variable {σ : US} {c : CH}
theorem q12_findClasses (h : RM σ c) (ok : okC c) {Q : Int32 → US → Prop} (hQ : ∀ σ' : US, KeepM σ σ' → σ'.2.1 = σ.2.1 → σ'.2.2.2 = σ.2.2.2 → (∀ k, k < cn c → aA σ' 3 k = nI ((lump c).1 k)) → Q (nI (lump c).2) σ') : wp_X12_findClasses σ Q := by
  unfold wp_X12_findClasses
  have hn := ok.1
  have mle : ∀ (al : Nat → Nat → Bool) (j : Nat), j ≤ cn c → (numb al j).2 ≤ j := fun al j hj => FO_le (numb_FO al (cn c)) j hj
  -- the second loop: from the numbers of stage 1 on
  have second : ∀ (σ1 : US) (P4 : Int32 × Int32 × US → Prop), cn c ≠ 0 → (∀ q, q ≠ 3 → aA σ1 q = aA σ q) → σ1.1 = σ.1 → σ1.2.1 = σ.2.1 → σ1.2.2.2 = σ.2.2.2 → (∀ k, k < cn c → aA σ1 3 k = nI ((stg c 1).1 k)) → lpW (wp_X12_findClasses_L128 P4 Q) (nI (stg c 1).2, 0, σ1) := by
    intro σ1 P4 h0 a1 a2 a3 a4 a5
    refine lp_inv 9 (fun r t => ∃ (z : US) (b : Nat), t = (nI (stg c (r + 1)).2, nI b, z) ∧ b ≤ 8 ∧ (∀ q, q ≠ 3 → q ≠ 4 → aA z q = aA σ q) ∧ z.1 = σ.1 ∧ z.2.1 = σ.2.1 ∧ z.2.2.2 = σ.2.2.2 ∧ (∀ k, k < cn c → aA z 3 k = nI ((stg c (r + 1)).1 k)) ∧ ((r = 0 ∧ b = 0) ∨ (∃ r', r = r' + 1 ∧ b = (stg c (r' + 1)).2)) ∧ r + 1 ≤ (stg c (r + 1)).2 + (if b = (stg c (r + 1)).2 then 1 else 0)) ?_ _ ⟨σ1, 0, rfl, by omega, fun q h3 _ => a1 q h3, a2, a3, a4, a5, Or.inl ⟨rfl, rfl⟩, Nat.le_trans (Nat.succ_le_of_lt (Nat.lt_of_le_of_lt (Nat.zero_le _) (stg_lt c 1 (Nat.pos_of_ne_zero h0)))) (Nat.le_add_right _ _)⟩
    rintro r t hr ⟨z, b, rfl, b0, b1, b2, b3, b4, b5, b6, b7⟩ P hP
    unfold wp_X12_findClasses_L128
    dsimp only
    have hle := stg_le c (r + 1)
    have hpos : 1 ≤ (stg c (r + 1)).2 := Nat.succ_le_of_lt (Nat.lt_of_le_of_lt (Nat.zero_le _) (stg_lt c (r + 1) (Nat.pos_of_ne_zero h0)))
    rw [nI_eq (by omega) (by omega)]
    have hkz : KeepM σ z := ⟨fun q x y _ _ => b1 q x y, fun k _ _ => by show z.1 k = σ.1 k; rw [b2]⟩
    refine ⟨fun heq => ?_, fun hne => ?_⟩
    · rcases b6 with ⟨b6, b8⟩ | ⟨r', b6, b8⟩
      · omega
      · subst b6
        have e1 : (stg c (r' + 1)).2 = (stg c (r' + 1 + 1)).2 := by rw [← b8]; exact heq
        rw [if_pos heq] at b7
        have e2 := stg_lump (r := r' + 1) (by omega) e1
        rw [e2] at b5 ⊢
        exact hQ z hkz b3 b4 b5
    · have hr9 : r < 9 := by
        rw [if_neg hne] at b7; omega
      -- one stage
      have hRz : RM z c := hkz.rm h
      have hf : ∀ k, k < cn c → aA z 3 k = nI ((stg c (r + 1)).1 k) ∧ (stg c (r + 1)).1 k ≤ 8 := fun k hk => ⟨b5 k hk, by have := stg_lt c (r + 1) hk; omega⟩
      have est := stg_m (c := c) r
      generalize hal : (fun t k => alm c (stg c (r + 1)).1 (stg c (r + 1)).2 k t) = al at est
      have hlt := numb_lt al
      refine lp_inv (cn c) (fun j t => ∃ z1 : US, t = (nI (numb al j).2, nI j, z1) ∧ (∀ q, q ≠ 4 → aA z1 q = aA z q) ∧ z1.1 = z.1 ∧ z1.2.1 = z.2.1 ∧ z1.2.2.2 = z.2.2.2 ∧ (∀ k, k < j → aA z1 4 k = nI ((numb al j).1 k))) ?_ _ ⟨z, rfl, fun _ _ => rfl, rfl, rfl, rfl, fun k y => by omega⟩
      rintro j t hj ⟨z1, rfl, d1, d2, d3, d4, d5⟩ P139 hP139
      unfold wp_X12_findClasses_L139
      dsimp only
      have hk1 : KeepM z z1 := ⟨fun q _ y _ _ => d1 q y, fun k _ _ => by show z1.1 k = z.1 k; rw [d2]⟩
      have hR1 : RM z1 c := hk1.rm hRz
      refine rd_n hR1 ?_
      rw [cl0, hR1.n]
      refine pk_le (cn c) j (fun hj2 => ?_) (fun hj2 => ?_)
      · have : j = cn c := by omega
        subst this
        refine ⟨by decide, by decide, by decide, by decide, by decide, fun z2 hz2 => ?_⟩
        rw [← est]
        have e8 : (8 : Int32).toNatClampNeg = 8 := by decide
        rw [e8] at hz2
        refine hP hr9 _ ⟨z2, (stg c (r + 1)).2, rfl, by omega, fun q x y => ?_, ?_, ?_, ?_, fun k hk => ?_, Or.inr ⟨r, rfl, rfl⟩, ?_⟩
        · subst hz2
          show kup z1.2.2.1 3 _ q = _
          rw [kup_n x]; exact (d1 q y).trans (b1 q x y)
        · subst hz2; exact d2.trans b2
        · subst hz2; exact d3.trans b3
        · subst hz2; exact d4.trans b4
        · subst hz2
          refine (congrFun (aA_sA z1 3 _) k).trans ?_
          rw [pk_cpy_in (Nat.zero_le _) (show k < 0 + 8 by omega)]
          have e9 : 0 + (k - 0) = k := by omega
          rw [e9, est]; exact d5 k hk
        · rw [if_neg hne] at b7
          have m1 := (stg_mono c (r + 1)).1
          split <;> omega
      · refine ⟨pk_in j 8 (by omega), fun z2 hz2 => ?_⟩
        rw [nI_clamp (by omega)] at hz2
        have hcj := mle al j (by omega)
        refine q12_inn (al := al) (k := j) (cnt := (numb al j).2) (f := (numb al j).1) (row := 4) (σ0 := z1) (Fin := fun z3 => wp_X12_findClasses_J209 (nI (numb al j).2) (nI (stg c (r + 1)).2) (nI j) z3 P P139 Q) (by omega) (by omega) (fun t ht => hlt j t ht) ?_ d5 ?_ ?_ ?_
        · intro z3 f1 f2 f3 f4 f5 f6
          show wp_X12_findClasses_J209 _ _ _ _ _ _ _
          unfold wp_X12_findClasses_J209
          have hin : inn al (numb al j).1 (numb al j).2 j j ≤ 8 := by
            rcases inn_cases al (numb al j).1 (numb al j).2 j j with ⟨y, _⟩ | ⟨t, ht2, _, y⟩
            · omega
            · have := hlt j t ht2; omega
          refine ⟨pk_in j 8 (by omega), ?_⟩
          rw [nI_clamp (by omega), f6, nI_eq (by omega) (by omega), nI_1]
          have fin : ∀ v : Nat, v = (numb al (j + 1)).2 → P139 (nI v, nI (j + 1), z3) := fun v hv => by
            refine hP139 hj2 _ ⟨z3, by rw [hv], fun q y => (f1 q y).trans (d1 q y), f2.trans d2, f3.trans d3, f4.trans d4, fun k hk => ?_⟩
            by_cases hkj : k = j
            · subst hkj; rw [f6, numb_s.1]
            · rw [f5 k hkj, d5 k (by omega), numb_old al (show k < j by omega) (j + 1) (by omega)]
          refine ⟨fun hne2 x hx => ?_, fun heq2 x hx => ?_⟩
          · rw [li0, nI_add] at hx; subst hx
            exact fin _ (by rw [numb_s.2, if_neg hne2]; rfl)
          · rw [nI_1] at hx; subst hx
            exact fin _ (by rw [numb_s.2, if_pos heq2])
        · intro m z3 P3 hm f1 f2 f5 f6 g1 g2
          unfold wp_X12_findClasses_L159
          dsimp only
          have hk3 : KeepM z1 z3 := ⟨fun q _ y _ _ => f1 q y, fun k _ _ => by show z3.1 k = z1.1 k; rw [f2]⟩
          have hR3 : RM z3 c := hk3.rm hR1
          have hf3 : ∀ k, k < cn c → aA z3 3 k = nI ((stg c (r + 1)).1 k) ∧ (stg c (r + 1)).1 k ≤ 8 := fun k hk => by
            rw [f1 3 (by omega), d1 3 (by omega)]; exact hf k hk
          refine pk_le j m (fun y => by omega) (fun _ => ⟨pk_in j 8 (by omega), ?_⟩)
          rw [nI_clamp (by omega), f6]
          refine ⟨fun y => absurd rfl y, fun _ => ?_⟩
          refine q12_stepAlike hR3 ok hf3 (by omega) hj2 (by omega) ?_
          have eal : alm c (stg c (r + 1)).1 (stg c (r + 1)).2 j m = al m j := by rw [← hal]
          rw [eal]
          refine br_b (fun hb => ⟨pk_in j 8 (by omega), fun z7 hz7 => ?_⟩) (fun hb => ⟨pk_in m 8 (by omega), pk_in j 8 (by omega), fun z8 hz8 => ?_⟩)
          · subst hz7
            rw [nI_1]; exact g1 hb
          · rw [nI_clamp (by omega)] at hz8
            subst hz8
            rw [nI_1]; exact g2 hb
        · intro m z3 P3 hm hs hfin
          unfold wp_X12_findClasses_L159
          dsimp only
          refine pk_le j m (fun _ => hfin) (fun y => ⟨pk_in j 8 (by omega), ?_⟩)
          rw [nI_clamp (by omega)]
          rcases hs with hs | hs
          · omega
          · exact ⟨fun _ => hfin, fun y2 => absurd y2 hs⟩
        · subst hz2
          refine ⟨fun q hq => ?_, rfl, rfl, rfl, fun q hq => ?_, ?_⟩
          · show kup z1.2.2.1 4 _ q = _
            rw [kup_n hq]
          · exact (congrFun (kup_s (f := z1.2.2.1) (k := 4)) q).trans (pk_un hq)
          · exact (congrFun (kup_s (f := z1.2.2.1) (k := 4)) j).trans pk_us
  -- the first loop: by labels and rewards
  refine lp_inv (cn c) (fun j t => ∃ z1 : US, t = (nI (numb (al0 c) j).2, nI j, z1) ∧ (∀ q, q ≠ 3 → aA z1 q = aA σ q) ∧ z1.1 = σ.1 ∧ z1.2.1 = σ.2.1 ∧ z1.2.2.2 = σ.2.2.2 ∧ (∀ k, k < j → aA z1 3 k = nI ((numb (al0 c) j).1 k))) ?_ _ ⟨σ, rfl, fun _ _ => rfl, rfl, rfl, rfl, fun k y => by omega⟩
  rintro j t hj ⟨z1, rfl, d1, d2, d3, d4, d5⟩ P hP
  unfold wp_X12_findClasses_L4
  dsimp only
  have hk1 : KeepM σ z1 := ⟨fun q y _ _ _ => d1 q y, fun k _ _ => by show z1.1 k = σ.1 k; rw [d2]⟩
  have hR1 : RM z1 c := hk1.rm h
  have hlt := numb_lt (al0 c)
  refine rd_n hR1 ?_
  rw [cl0, hR1.n]
  refine pk_le (cn c) j (fun hj2 => ?_) (fun hj2 => ?_)
  · have : j = cn c := by omega
    subst this
    by_cases h0 : cn c = 0
    · refine lpW_of (fun _ t => t = (nI (numb (al0 c) (cn c)).2, 0, z1)) ?_ 0 _ rfl
      rintro k t rfl P2 _
      unfold wp_X12_findClasses_L128
      dsimp only
      have e0 : (numb (al0 c) (cn c)).2 = 0 := by rw [h0]; rfl
      have e1 : (lump c).2 = 0 := by have := stg_le c 9; unfold lump; omega
      rw [e0]
      refine ⟨fun _ => ?_, fun y => absurd rfl y⟩
      have := hQ z1 hk1 d3 d4 (fun k hk => by omega)
      rw [e1] at this; exact this
    · rw [← stg_1 ok h0] at d5 ⊢
      exact second z1 P h0 d1 d2 d3 d4 d5
  · refine ⟨pk_in j 8 (by omega), fun z2 hz2 => ?_⟩
    rw [nI_clamp (by omega)] at hz2
    have hcj := mle (al0 c) j (by omega)
    refine q12_inn (al := al0 c) (k := j) (cnt := (numb (al0 c) j).2) (f := (numb (al0 c) j).1) (row := 3) (σ0 := z1) (Fin := fun z3 => wp_X12_findClasses_J102 (nI (numb (al0 c) j).2) (nI j) z3 P Q) (by omega) (by omega) (fun t ht => hlt j t ht) ?_ d5 ?_ ?_ ?_
    · intro z3 f1 f2 f3 f4 f5 f6
      show wp_X12_findClasses_J102 _ _ _ _ _
      unfold wp_X12_findClasses_J102
      have hin : inn (al0 c) (numb (al0 c) j).1 (numb (al0 c) j).2 j j ≤ 8 := by
        rcases inn_cases (al0 c) (numb (al0 c) j).1 (numb (al0 c) j).2 j j with ⟨y, _⟩ | ⟨t, ht2, _, y⟩
        · omega
        · have := hlt j t ht2; omega
      refine ⟨pk_in j 8 (by omega), ?_⟩
      rw [nI_clamp (by omega), f6, nI_eq (by omega) (by omega), nI_1]
      have fin : ∀ v : Nat, v = (numb (al0 c) (j + 1)).2 → P (nI v, nI (j + 1), z3) := fun v hv => by
        refine hP hj2 _ ⟨z3, by rw [hv], fun q y => (f1 q y).trans (d1 q y), f2.trans d2, f3.trans d3, f4.trans d4, fun k hk => ?_⟩
        by_cases hkj : k = j
        · subst hkj; rw [f6, numb_s.1]
        · rw [f5 k hkj, d5 k (by omega), numb_old (al0 c) (show k < j by omega) (j + 1) (by omega)]
      refine ⟨fun hne2 x hx => ?_, fun heq2 x hx => ?_⟩
      · rw [li0, nI_add] at hx; subst hx
        exact fin _ (by rw [numb_s.2, if_neg hne2]; rfl)
      · rw [nI_1] at hx; subst hx
        exact fin _ (by rw [numb_s.2, if_pos heq2])
    · intro m z3 P3 hm f1 f2 f5 f6 g1 g2
      unfold wp_X12_findClasses_L23
      dsimp only
      have hk3 : KeepM z1 z3 := ⟨fun q y _ _ _ => f1 q y, fun k _ _ => by show z3.1 k = z1.1 k; rw [f2]⟩
      have hR3 : RM z3 c := hk3.rm hR1
      refine pk_le j m (fun y => by omega) (fun _ => ⟨pk_in j 8 (by omega), ?_⟩)
      rw [nI_clamp (by omega), f6]
      refine ⟨fun y => absurd rfl y, fun _ => ?_⟩
      have l1 := ok.2.2.2.1 j
      have l2 := ok.2.2.2.1 m
      have r1 := ok.2.2.2.2.1 j
      have r2 := ok.2.2.2.2.1 m
      rw [ixl, ixl, ixr, ixr]
      obtain ⟨p1, p2⟩ := rd_l hR3 (show j < 8 by omega)
      obtain ⟨p3, p4⟩ := rd_l hR3 (show m < 8 by omega)
      obtain ⟨p5, p6⟩ := rd_r hR3 (show j < 8 by omega)
      obtain ⟨p7, p8⟩ := rd_r hR3 (show m < 8 by omega)
      refine ⟨p1, p3, ?_⟩
      rw [p2, p4, nI_eq (by omega) (by omega)]
      refine ⟨fun hne => ⟨pk_in j 8 (by omega), fun z7 hz7 => ?_⟩, fun heq => ⟨p5, p7, ?_⟩⟩
      · subst hz7
        rw [nI_1]; exact g1 (decide_eq_false (fun y => hne y.1))
      · rw [p6, p8, nI_eq (by omega) (by omega)]
        refine ⟨fun hne => ⟨pk_in j 8 (by omega), fun z7 hz7 => ?_⟩, fun heq2 => ⟨pk_in m 8 (by omega), pk_in j 8 (by omega), fun z8 hz8 => ?_⟩⟩
        · subst hz7
          rw [nI_1]; exact g1 (decide_eq_false (fun y => hne y.2))
        · rw [nI_clamp (by omega)] at hz8
          subst hz8
          rw [nI_1]; exact g2 (decide_eq_true ⟨heq, heq2⟩)
    · intro m z3 P3 hm hs hfin
      unfold wp_X12_findClasses_L23
      dsimp only
      refine pk_le j m (fun _ => hfin) (fun y => ⟨pk_in j 8 (by omega), ?_⟩)
      rw [nI_clamp (by omega)]
      rcases hs with hs | hs
      · omega
      · exact ⟨fun _ => hfin, fun y2 => absurd y2 hs⟩
    · subst hz2
      refine ⟨fun q hq => ?_, rfl, rfl, rfl, fun q hq => ?_, ?_⟩
      · show kup z1.2.2.1 3 _ q = _
        rw [kup_n hq]
      · exact (congrFun (kup_s (f := z1.2.2.1) (k := 3)) q).trans (pk_un hq)
      · exact (congrFun (kup_s (f := z1.2.2.1) (k := 3)) j).trans pk_us
end PM4
