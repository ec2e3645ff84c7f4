/-! ===== the class's parser, formulas ===== -/
def RFok (kc : Nat → ClassId) (tx t : Nat → Nat) (len n : Nat) (RF : Int32 → US → va_W → (Option Nat → (US × va_W) → Prop) → Prop) : Prop := ∀ (σ : US) (pl : va_W) (s : ST) (Q : Option Nat → US × va_W → Prop), TOK kc tx t len pl → PS len σ s → (∀ o σ' pl', Ext pl pl' → PS len σ' (rdF t len n s).1 → PO pl' n (rdF t len n s) o → Q o (σ', pl')) → RF (nI (6 - n)) σ pl Q
theorem NB.ext {pl pl' : va_W} (E : Ext pl pl') {n : Nat} {o : Option Nat} (h : NB pl n o) : NB pl' n o := by
  obtain ⟨d, l, h1, h2⟩ := h
  exact ⟨d, l, h1.ext E, h2⟩
theorem NB.no (pl : va_W) (n : Nat) : NB pl n none := ⟨0, 0, NF.none pl, Nat.zero_le _, Nat.zero_le _⟩
theorem q9_mk {pl : va_W} {n : Nat} (C : Prop) (T : TR (n + 1)) {kd : Int32} {ob o1 o2 : Option Nat} {st q : Nat} (hst : st ≤ 6) (hn : n ≤ 5) (h1 : NB pl n o1) (h2 : NB pl n o2)
    (hC : C → okT (n + 1) T ∧ kd = nI (if T.1.1 = 97 then 97 + T.1.2.1 else T.1.1) ∧ st = (if T.1.1 = 66 then T.1.2.1 else 0) ∧ (isB T.1.1 = true → ∃ xb : Nat, ob = some xb ∧ (xb, .inr (3, [.int (bI T.1.2.2.1), .int (bI T.1.2.2.2.1), .int (nI T.1.2.2.2.2.1), .int (nI T.1.2.2.2.2.2)])) ∈ pl) ∧ (isB T.1.1 = false → ob = none) ∧ (hasO T.1.1 = true → CT pl n T.2.1 o1) ∧ (hasT T.1.1 = true → CT pl n T.2.2 o2) ∧ (hasO T.1.1 = false → o1 = none) ∧ (hasT T.1.1 = false → o2 = none))
    {Q : va_W → Prop} (hQ : ∀ z, Ext pl z → NB z (n + 1) (some q) → (C → CT z (n + 1) T (some q)) → Q z) : wp_X9_init kd ob (nI st) o1 o2 q pl Q := by
  by_cases hc : C
  · obtain ⟨ok, ek, es, hb, hb0, ho, ht, ho0, ht0⟩ := hC hc
    have L := lng_le (n + 1) T ok
    have Dd := dpt_le (n + 1) T
    have n1 : NF pl o1 (if hasO T.1.1 then dpt n T.2.1 else 0) (if hasO T.1.1 then lng n T.2.1 else 0) := by
      cases g : hasO T.1.1
      · rw [ho0 g]; exact NF.none pl
      · exact (ho g).nf
    have n2 : NF pl o2 (if hasT T.1.1 then dpt n T.2.2 else 0) (if hasT T.1.1 then lng n T.2.2 else 0) := by
      cases g : hasT T.1.1
      · rw [ht0 g]; exact NF.none pl
      · exact (ht g).nf
    have eb : (if ob = none then 0 else 1) = if isB T.1.1 then 1 else 0 := by
      cases g : isB T.1.1
      · rw [hb0 g]; rfl
      · obtain ⟨xb, e, -⟩ := hb g
        rw [e]; rfl
    have ed : dpt (n + 1) T = max (if hasO T.1.1 then dpt n T.2.1 else 0) (if hasT T.1.1 then dpt n T.2.2 else 0) + (if ob = none then 0 else 1) := by rw [eb]; rfl
    have el : lng (n + 1) T = max (max (if hasO T.1.1 then lng n T.2.1 else 0) (if hasT T.1.1 then lng n T.2.2 else 0)) st := by rw [es]; rfl
    generalize (if hasO T.1.1 then dpt n T.2.1 else 0) = d1 at n1 ed
    generalize (if hasT T.1.1 then dpt n T.2.2 else 0) = d2 at n2 ed
    generalize (if hasO T.1.1 then lng n T.2.1 else 0) = l1 at n1 el
    generalize (if hasT T.1.1 then lng n T.2.2 else 0) = l2 at n2 el
    refine ⟨st, d1, l1, d2, l2, rfl, by omega, by omega, by omega, by omega, by omega, n1, n2, fun z hz => ?_⟩
    rw [← ed, ← el] at hz
    have E : Ext pl z := by rw [hz]; exact Ext.cs _ pl
    refine hQ z E ⟨_, _, Or.inr ⟨q, kd, va_rf ob, .int (nI st), va_rf o1, va_rf o2, rfl, ?_⟩, Dd, L⟩ (fun _ => ?_)
    · rw [hz]; exact List.mem_cons_self
    · unfold CT
      refine ⟨q, ob, o1, o2, rfl, ?_, fun g => ?_, fun g => (ho g).ext E, fun g => (ht g).ext E, ho0, ht0⟩
      · rw [hz, ek, es]; exact List.mem_cons_self
      · obtain ⟨xb, e, hm⟩ := hb g
        exact ⟨xb, e, E _ hm⟩
  · obtain ⟨d1, l1, n1, a1, b1⟩ := h1
    obtain ⟨d2, l2, n2, a2, b2⟩ := h2
    refine ⟨st, d1, l1, d2, l2, rfl, by omega, by omega, by omega, by omega, by omega, n1, n2, fun z hz => ?_⟩
    have E : Ext pl z := by rw [hz]; exact Ext.cs _ pl
    refine hQ z E ⟨_, _, Or.inr ⟨q, kd, va_rf ob, .int (nI st), va_rf o1, va_rf o2, rfl, by rw [hz]; exact List.mem_cons_self⟩, ?_, by omega⟩ (fun h => absurd h hc)
    have : (if ob = none then 0 else 1) ≤ 1 := by split <;> omega
    omega
theorem tf {b : Bool} {X : Prop} (h1 : b = true) (h2 : b = false) : X := by rw [h2] at h1; cases h1
theorem k38 {k : Nat} (h : k = 38 ∨ k = 124) : isB k = false ∧ hasO k = true ∧ hasT k = true ∧ (if k = 97 then 97 + 0 else k) = k ∧ (if k = 66 then 0 else 0) = 0 := by rcases h with rfl | rfl <;> decide
theorem k83 {k : Nat} (h : k = 83 ∨ k = 82) : isB k = true ∧ hasO k = true ∧ hasT k = false ∧ (if k = 97 then 97 + 0 else k) = k ∧ (if k = 66 then 0 else 0) = 0 := by rcases h with rfl | rfl <;> decide
section PARD
variable {kc : Nat → ClassId} {tx t : Nat → Nat} {len : Nat} {pl : va_W} {σ : US} {s : ST} {n : Nat} {RF : Int32 → US → va_W → (Option Nat → (US × va_W) → Prop) → Prop}
theorem lvl1 (hn : n ≤ 5) : nI (5 - n) + 1 = nI (6 - n) := by rw [li1, nI_add]; congr 1; omega
theorem q10_pairJ (HR : RFok kc tx t len n RF) (hn : n ≤ 5) (hT : TOK kc tx t len pl) (h : PS len σ s) {T1 : TR n} {o1 : Option Nat} (h1 : NB pl n o1) (c1 : s.1 = false → CT pl n T1 o1) {k : Nat} (hk : k = 38 ∨ k = 124) (hok : (exF t len 41 (rdF t len n s).1).1 = false → okT n T1) {Q : Option Nat → US × va_W → Prop}
    (hQ : ∀ o σ' pl', Ext pl pl' → PS len σ' (exF t len 41 (rdF t len n s).1) → PO pl' (n + 1) (exF t len 41 (rdF t len n s).1, tnd k 0 bb0 T1 (rdF t len n s).2) o → Q o (σ', pl')) : wp_X10_readPair_J29 kc tx RF (nI k) o1 (nI (5 - n)) σ pl Q := by
  unfold wp_X10_readPair_J29
  rw [lvl1 hn]
  refine HR _ _ s _ hT h (fun o2 σ2 pl2 E2 P2 O2 => ?_)
  dsimp only
  refine q10_expect (x := 41) (hT.ext E2) P2 (by decide) (by decide) (fun σ3 h3 => ?_)
  intro nw
  refine q9_mk (st := 0) (n := n) ((exF t len 41 (rdF t len n s).1).1 = false) (tnd k 0 bb0 T1 (rdF t len n s).2) (by omega) hn (h1.ext E2) O2.1 (fun hc => ?_) (fun z Ez Nz Cz => hQ _ _ _ (E2.tr Ez) h3 ⟨Nz, Cz⟩)
  have hr := (exF_ok hc).1
  have hs := ok_of_rd hr
  obtain ⟨kb, ko, kt, ks, km⟩ := k38 hk
  refine ⟨⟨?_, bb0_lt, fun _ => hok hc, fun _ => okT_rd n _ hr⟩, congrArg nI ks.symm, km.symm, fun (g : isB k = true) => tf g kb, fun _ => rfl, fun _ => (c1 hs).ext E2, fun _ => O2.2 hr, fun (g : hasO k = false) => tf ko g, fun (g : hasT k = false) => tf kt g⟩
  rcases hk with rfl | rfl
  · exact Or.inr (Or.inr (Or.inr (Or.inl rfl)))
  · exact Or.inr (Or.inr (Or.inr (Or.inr (Or.inl rfl))))
theorem q10_readPair (HR : RFok kc tx t len n RF) (hn : n ≤ 5) (hT : TOK kc tx t len pl) (h : PS len σ s) {Q : Option Nat → US × va_W → Prop}
    (hQ : ∀ o σ' pl', Ext pl pl' → PS len σ' (exF t len 41 (rdF t len n (if (skF t len 38 (rdF t len n s).1).1 = true then (skF t len 38 (rdF t len n s).1).2 else exF t len 124 (rdF t len n s).1)).1) → PO pl' (n + 1) (exF t len 41 (rdF t len n (if (skF t len 38 (rdF t len n s).1).1 = true then (skF t len 38 (rdF t len n s).1).2 else exF t len 124 (rdF t len n s).1)).1, tnd (if (skF t len 38 (rdF t len n s).1).1 = true then 38 else 124) 0 bb0 (rdF t len n s).2 (rdF t len n (if (skF t len 38 (rdF t len n s).1).1 = true then (skF t len 38 (rdF t len n s).1).2 else exF t len 124 (rdF t len n s).1)).2) o → Q o (σ', pl')) : wp_X10_readPair kc tx RF (nI (5 - n)) σ pl Q := by
  unfold wp_X10_readPair
  rw [lvl1 hn]
  refine HR _ _ s _ hT h (fun o1 σ1 pl1 E1 P1 O1 => ?_)
  dsimp only
  have hT1 := hT.ext E1
  refine q10_skip (x := 38) hT1 P1 (by decide) (by decide) (fun σ2 h2 => ?_)
  have okk : ∀ s2 : ST, (s2.1 = false → (rdF t len n s).1.1 = false) → (exF t len 41 (rdF t len n s2).1).1 = false → okT n (rdF t len n s).2 := fun s2 g hc => okT_rd n _ (g (ok_of_rd (exF_ok hc).1))
  refine And.symm (br_b (fun hb => ?_) (fun hb => ?_))
  · rw [if_neg (by rw [hb]; decide), if_neg (by rw [hb]; decide)] at hQ
    have e : (skF t len 38 (rdF t len n s).1).2 = (rdF t len n s).1 := by
      unfold skF at hb ⊢; split at hb
      · cases hb
      · rename_i g; rw [if_neg g]
    rw [e] at h2
    refine q10_expect (x := 124) hT1 h2 (by decide) (by decide) (fun σ3 h3 => ?_)
    have g : (exF t len 124 (rdF t len n s).1).1 = false → (rdF t len n s).1.1 = false := fun g => (exF_ok g).1
    exact q10_pairJ HR hn hT1 h3 O1.1 (fun g2 => O1.2 (g g2)) (Or.inr rfl) (okk _ g) (fun o σ' pl' E => hQ o σ' pl' (E1.tr E))
  · rw [if_pos hb, if_pos hb] at hQ
    have g : (skF t len 38 (rdF t len n s).1).2.1 = false → (rdF t len n s).1.1 = false := fun _ => by
      unfold skF at hb; split at hb
      · rename_i g; exact g.1
      · cases hb
    exact q10_pairJ HR hn hT1 h2 O1.1 (fun g2 => O1.2 (g g2)) (Or.inl rfl) (okk _ g) (fun o σ' pl' E => hQ o σ' pl' (E1.tr E))
theorem q10_readBounded (HR : RFok kc tx t len n RF) (hn : n ≤ 5) (hT : TOK kc tx t len pl) (h : PS len σ s) {k : Nat} (hk : k = 83 ∨ k = 82) {Q : Option Nat → US × va_W → Prop}
    (hQ : ∀ o σ' pl', Ext pl pl' → PS len σ' (exF t len 93 (rdF t len n (exF t len 91 (bnF t len s).1)).1) → PO pl' (n + 1) (exF t len 93 (rdF t len n (exF t len 91 (bnF t len s).1)).1, tnd k 0 (bnF t len s).2 (rdF t len n (exF t len 91 (bnF t len s).1)).2 (trU n)) o → Q o (σ', pl')) : wp_X10_readBounded kc tx RF (nI k) (nI (5 - n)) σ pl Q := by
  unfold wp_X10_readBounded
  refine q10_readBound hT h (fun q1 σ1 pl1 hz1 P1 => ?_)
  dsimp only
  have E1 : Ext pl pl1 := by rw [hz1]; exact Ext.cs _ pl
  refine q10_expect (x := 91) (hT.ext E1) P1 (by decide) (by decide) (fun σ2 h2 => ?_)
  rw [lvl1 hn]
  refine HR _ _ _ _ (hT.ext E1) h2 (fun o2 σ3 pl3 E3 P3 O3 => ?_)
  dsimp only
  refine q10_expect (x := 93) ((hT.ext E1).ext E3) P3 (by decide) (by decide) (fun σ4 h4 => ?_)
  intro nw
  refine q9_mk (st := 0) (n := n) ((exF t len 93 (rdF t len n (exF t len 91 (bnF t len s).1)).1).1 = false) (tnd k 0 (bnF t len s).2 (rdF t len n (exF t len 91 (bnF t len s).1)).2 (trU n)) (by omega) hn O3.1 (NB.no _ _) (fun hc => ?_) (fun z Ez Nz Cz => hQ _ _ _ ((E1.tr E3).tr Ez) h4 ⟨Nz, Cz⟩)
  have hr := (exF_ok hc).1
  obtain ⟨kb, ko, kt, ks, km⟩ := k83 hk
  refine ⟨⟨?_, bnF_bd (exF_ok (ok_of_rd hr)).1, fun _ => okT_rd n _ hr, fun (g : hasT k = true) => tf g kt⟩, congrArg nI ks.symm, km.symm, fun _ => ⟨q1, rfl, E3 _ (by rw [hz1]; exact List.mem_cons_self)⟩, fun (g : isB k = false) => tf kb g, fun _ => O3.2 hr, fun (g : hasT k = true) => tf g kt, fun (g : hasO k = false) => tf ko g, fun _ => rfl⟩
  rcases hk with rfl | rfl
  · exact Or.inr (Or.inr (Or.inr (Or.inr (Or.inr (Or.inr (Or.inr (Or.inr (Or.inr (Or.inr (Or.inl rfl))))))))))
  · exact Or.inr (Or.inr (Or.inr (Or.inr (Or.inr (Or.inr (Or.inr (Or.inr (Or.inr (Or.inr (Or.inr rfl))))))))))
/-- the end of P: the bound ob, the sign w, the steps m, the parts -/
theorem q10_prJ112 (hn : n ≤ 5) (hT : TOK kc tx t len pl) (h : PS len σ s) {w m qb : Nat} {b : BB} {T1 T2 : TR n} {o1 o2 : Option Nat} (hm : m ≤ 6) (hm0 : w ≠ 66 → m = 0) (hb : (qb, .inr (3, [.int (bI b.1), .int (bI b.2.1), .int (nI b.2.2.1), .int (nI b.2.2.2)])) ∈ pl) (h1 : NB pl n o1) (h2 : NB pl n o2) (hbl : s.1 = false → b.2.2.1 < 100 ∧ b.2.2.2 < 100 ∧ 0 < b.2.2.2) (c1 : s.1 = false → isW w = true ∧ CT pl n T1 o1 ∧ okT n T1) (c2 : s.1 = false → (w = 85 ∨ w = 66) → CT pl n T2 o2 ∧ okT n T2) (c3 : ¬ (w = 85 ∨ w = 66) → o2 = none) {Q : Option Nat → US × va_W → Prop}
    (hQ : ∀ o σ' pl', Ext pl pl' → PS len σ' (exF t len 93 s) → PO pl' (n + 1) (exF t len 93 s, tnd w m b T1 T2) o → Q o (σ', pl')) : wp_X10_readProbability_J112 kc tx RF o2 o1 (nI m) (nI w) (some qb) σ pl Q := by
  unfold wp_X10_readProbability_J112
  refine q10_expect (x := 93) hT h (by decide) (by decide) (fun σ4 h4 => ?_)
  intro nw
  refine q9_mk (st := m) (n := n) ((exF t len 93 s).1 = false) (tnd w m b T1 T2) hm hn h1 h2 (fun hc => ?_) (fun z Ez Nz Cz => hQ _ _ _ Ez h4 ⟨Nz, Cz⟩)
  have hs := (exF_ok hc).1
  obtain ⟨hw, hc1, hk1⟩ := c1 hs
  have hw := of_decide_eq_true hw
  have e97 : (if w = 97 then 97 + m else w) = w := if_neg (by omega)
  have eT : hasT w = true → w = 85 ∨ w = 66 := fun g => by
    have g := of_decide_eq_true g
    omega
  refine ⟨⟨?_, hbl hs, fun _ => hk1, fun g => (c2 hs (eT g)).2⟩, ?_, ?_, fun _ => ⟨qb, rfl, hb⟩, fun g => ?_, fun _ => hc1, fun g => (c2 hs (eT g)).1, fun g => ?_, fun g => c3 (fun g2 => ?_)⟩
  · show w = 116 ∨ _
    rcases hw with e | e | e | e | e
    · exact Or.inr (Or.inr (Or.inr (Or.inr (Or.inr (Or.inr (Or.inr (Or.inr (Or.inr (Or.inl e)))))))))
    · exact Or.inr (Or.inr (Or.inr (Or.inr (Or.inr (Or.inr (Or.inl e))))))
    · exact Or.inr (Or.inr (Or.inr (Or.inr (Or.inr (Or.inr (Or.inr (Or.inl e)))))))
    · exact Or.inr (Or.inr (Or.inr (Or.inr (Or.inr (Or.inr (Or.inr (Or.inr (Or.inl e))))))))
    · exact Or.inr (Or.inr (Or.inr (Or.inr (Or.inr (Or.inl ⟨e, hm⟩)))))
  · show nI w = nI (if w = 97 then 97 + m else w)
    rw [e97]
  · show m = if w = 66 then m else 0
    split
    · rfl
    · rename_i g; exact hm0 g
  · exfalso
    have g := of_decide_eq_false g
    exact g (show 65 ≤ w ∧ w ≤ 90 by omega)
  · exfalso
    have g := of_decide_eq_false g
    exact g (show w ≠ 116 ∧ w ≠ 97 by omega)
  · have g := of_decide_eq_false g
    exact g (show w = 38 ∨ w = 124 ∨ w = 85 ∨ w = 66 by omega)
end PARD
