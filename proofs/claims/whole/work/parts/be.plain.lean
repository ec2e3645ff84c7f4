/-! ===== the methods that ask, both sides ===== -/
def pv (T B p : Nat) : Int64 := if p = 0 then lN (T / gcd1 T B) else lN (B / gcd1 T B)
def o1 {α : Type} (o : Option Nat) (e : α) (f : Nat → α) : α := match o with | some i => f i | none => e
theorem o1_n {α : Type} {o : Option Nat} (h : o = none) (e : α) (f : Nat → α) : o1 o e f = e := by rw [h]; rfl
theorem o1_s {α : Type} {o : Option Nat} {i : Nat} (h : o = some i) (e : α) (f : Nat → α) : o1 o e f = f i := by rw [h]; rfl
section SPEC
variable (A : AB) (p1 p2 p3 p4 p5 : Int32)
def f_stateCount : Int32 := nI (cn A.1)
def f_weight : Int32 := o1 (inx p1 (cn A.1)) (-1) fun i => o1 (inx p2 (cn A.1)) (-1) fun j => nI (cw A.1 i j)
def f_sum : Int32 := o1 (inx p1 (cn A.1)) (-1) fun i => nI (csum A.1 i)
def f_labels : Int32 := o1 (inx p1 (cn A.1)) (-1) fun i => nI (cl A.1 i)
def f_reward : Int32 := o1 (inx p1 (cn A.1)) (-1) fun i => nI (cr A.1 i)
noncomputable def f_reaches : Int32 := o1 (inx p1 (cn A.1)) (-1) fun i => nI (mk (rch A.1 i))
noncomputable def f_component : Int32 := o1 (inx p1 (cn A.1)) (-1) fun i => nI (mk (cmp A.1 i))
noncomputable def f_bottoms : Int32 := nI (mk (bot A.1))
def f_classCount : Int32 := nI (lump A.1).2
def f_classOf : Int32 := o1 (inx p1 (cn A.1)) (-1) fun i => nI ((lump A.1).1 i)
def f_lumped : Int64 := o1 (inx p1 (cn A.1)) (-1) fun i => o1 (inx p3 2) (-1) fun p => o1 (inx p2 (lump A.1).2) (-1) fun q => pv (stw A.1 i (fun s => decide (s < cn A.1) && (lump A.1).1 s == q)) (cdiv A.1 i) p
def f_formulaCount : Int32 := nI A.2.2.2.1.length
def f_letter : Int32 := o1 (inx p1 A.2.2.2.1.length) (-1) fun j => o1 (inx p2 (A.2.2.2.1.getD j ([], trU 6)).1.length) (-2) fun i => nI (tL (A.2.2.2.1.getD j ([], trU 6)).1 i)
def f_depth : Int32 := o1 (inx p1 A.2.2.2.1.length) (-1) fun j => nI (dpt 6 (A.2.2.2.1.getD j ([], trU 6)).2)
def f_walk : Int32 := o1 (inx p1 (cn A.1)) (-1) fun i => o1 (inx p2 101) (-1) fun m => nI (wlk zst A.1 m i p3)
end SPEC
theorem lump_lt (c : CH) {k : Nat} (hk : k < cn c) : (lump c).1 k < (lump c).2 := stg_lt c 9 hk
theorem lump_le (c : CH) : (lump c).2 ≤ cn c := stg_le c 9
section CPL
variable {kc : Nat → ClassId} {A : AB} {μ ρ κ η lu σ ε π : US} {fo : Nat → Option Nat} {kp : Nat → US} {β : SBT} {pl : va_W} {p1 p2 p3 : Int32}
theorem getD_some {α : Type} {l : List α} {j : Nat} (h : j < l.length) (d : α) : l[j]? = some (l.getD j d) := by
  rw [List.getD_eq_getElem?_getD, List.getElem?_eq_getElem h]; rfl
theorem q11_stateCount (C : CSt kc A μ fo κ ρ η kp β pl) {Q : Int32 → Prop} (hQ : Q (f_stateCount A)) : wp_X11_stateCount kc μ fo κ ρ η kp lu σ ε π β pl Q := by
  unfold wp_X11_stateCount wp_X2_size
  rw [C.1.1]; exact hQ
theorem q11_weight (ok : okA A) (C : CSt kc A μ fo κ ρ η kp β pl) {Q : Int32 → Prop} (hQ : Q (f_weight A p1 p2)) : wp_X11_weight kc p1 p2 μ fo κ ρ η kp lu σ ε π β pl Q := by
  unfold wp_X11_weight
  unfold f_weight at hQ
  have hn := ok.1.1
  refine q2_hasC C.1 hn p1 (fun e => ⟨fun _ => ?_, fun hc => absurd rfl hc⟩) (fun i hi hx e => ⟨fun hc => absurd hc (by decide), fun _ => ?_⟩)
  · rw [o1_n e] at hQ; exact hQ
  · rw [o1_s e] at hQ
    refine q2_hasC C.1 hn p2 (fun e => ⟨fun _ => ?_, fun hc => absurd rfl hc⟩) (fun j hj hx2 e => ⟨fun hc => absurd hc (by decide), fun _ => ?_⟩)
    · rw [o1_n e] at hQ; exact hQ
    · rw [o1_s e] at hQ
      subst hx; subst hx2
      exact q2_weightOf C.1 (by omega) (by omega) hQ
theorem q11_sum (ok : okA A) (C : CSt kc A μ fo κ ρ η kp β pl) {Q : Int32 → Prop} (hQ : Q (f_sum A p1)) : wp_X11_sum kc p1 μ fo κ ρ η kp lu σ ε π β pl Q := by
  unfold wp_X11_sum
  unfold f_sum at hQ
  have hn := ok.1.1
  refine q2_hasC C.1 hn p1 (fun e => ⟨fun _ => ?_, fun hc => absurd rfl hc⟩) (fun i hi hx e => ⟨fun hc => absurd hc (by decide), fun _ => ?_⟩)
  · rw [o1_n e] at hQ; exact hQ
  · rw [o1_s e] at hQ
    subst hx
    exact q2_sumOf C.1 ok.1 (by omega) hQ
theorem q11_labels (ok : okA A) (C : CSt kc A μ fo κ ρ η kp β pl) {Q : Int32 → Prop} (hQ : Q (f_labels A p1)) : wp_X11_labels kc p1 μ fo κ ρ η kp lu σ ε π β pl Q := by
  unfold wp_X11_labels
  unfold f_labels at hQ
  have hn := ok.1.1
  refine q2_hasC C.1 hn p1 (fun e => ⟨fun _ => ?_, fun hc => absurd rfl hc⟩) (fun i hi hx e => ⟨fun hc => absurd hc (by decide), fun _ => ?_⟩)
  · rw [o1_n e] at hQ; exact hQ
  · rw [o1_s e] at hQ
    subst hx
    exact q2_labelsOf C.1 hn hi hQ
theorem q11_reward (ok : okA A) (C : CSt kc A μ fo κ ρ η kp β pl) {Q : Int32 → Prop} (hQ : Q (f_reward A p1)) : wp_X11_reward kc p1 μ fo κ ρ η kp lu σ ε π β pl Q := by
  unfold wp_X11_reward
  unfold f_reward at hQ
  have hn := ok.1.1
  refine q2_hasC C.1 hn p1 (fun e => ⟨fun _ => ?_, fun hc => absurd rfl hc⟩) (fun i hi hx e => ⟨fun hc => absurd hc (by decide), fun _ => ?_⟩)
  · rw [o1_n e] at hQ; exact hQ
  · rw [o1_s e] at hQ
    subst hx
    exact q2_rewardOf C.1 hn hi hQ
theorem q11_reaches (ok : okA A) (C : CSt kc A μ fo κ ρ η kp β pl) {Q : Int32 → Prop} (hQ : Q (f_reaches A p1)) : wp_X11_reaches kc p1 μ fo κ ρ η kp lu σ ε π β pl Q := by
  unfold wp_X11_reaches
  unfold f_reaches at hQ
  have hn := ok.1.1
  refine q2_hasC C.1 hn p1 (fun e => ⟨fun _ => ?_, fun hc => absurd rfl hc⟩) (fun i hi hx e => ⟨fun hc => absurd hc (by decide), fun _ => ?_⟩)
  · rw [o1_n e] at hQ; exact hQ
  · rw [o1_s e] at hQ
    subst hx
    exact q2_reachedFrom C.1 ok.1 hi hQ
theorem q11_component (ok : okA A) (C : CSt kc A μ fo κ ρ η kp β pl) {Q : Int32 → Prop} (hQ : Q (f_component A p1)) : wp_X11_component kc p1 μ fo κ ρ η kp lu σ ε π β pl Q := by
  unfold wp_X11_component
  unfold f_component at hQ
  have hn := ok.1.1
  refine q2_hasC C.1 hn p1 (fun e => ⟨fun _ => ?_, fun hc => absurd rfl hc⟩) (fun i hi hx e => ⟨fun hc => absurd hc (by decide), fun _ => ?_⟩)
  · rw [o1_n e] at hQ; exact hQ
  · rw [o1_s e] at hQ
    subst hx
    exact q2_componentOf C.1 ok.1 hi hQ
theorem q11_bottoms (ok : okA A) (C : CSt kc A μ fo κ ρ η kp β pl) {Q : Int32 → Prop} (hQ : Q (f_bottoms A)) : wp_X11_bottoms kc μ fo κ ρ η kp lu σ ε π β pl Q := by
  unfold wp_X11_bottoms
  exact q2_bottomStates C.1 ok.1 hQ
theorem q11_classCount (ok : okA A) (C : CSt kc A μ fo κ ρ η kp β pl) {Q : Int32 → US → Prop} (hQ : ∀ u, Q (f_classCount A) u) : wp_X11_classCount kc μ fo κ ρ η kp lu σ ε π β pl Q := by
  unfold wp_X11_classCount
  refine q7_refine C.1 ok.1 (fun u hu _ => ?_)
  unfold wp_X7_total
  rw [hu]; exact hQ u
theorem q11_classOf (ok : okA A) (C : CSt kc A μ fo κ ρ η kp β pl) {Q : Int32 → US → Prop} (hQ : ∀ u, Q (f_classOf A p1) u) : wp_X11_classOf kc p1 μ fo κ ρ η kp lu σ ε π β pl Q := by
  unfold wp_X11_classOf
  unfold f_classOf at hQ
  have hn := ok.1.1
  refine q2_hasC C.1 hn p1 (fun e => ⟨fun hc => absurd rfl hc, fun _ => ?_⟩) (fun i hi hx e => ⟨fun _ => ?_, fun hc => absurd hc (by decide)⟩)
  · rw [o1_n e] at hQ; exact hQ _
  · rw [o1_s e] at hQ
    subst hx
    refine q7_refine C.1 ok.1 (fun u hu hk => ?_)
    unfold wp_X7_numberOf
    refine q_isIndex (show i < 8 by omega) ⟨fun hc => absurd hc (by decide), fun _ => ⟨vp_in_nI (by omega) (by decide), ?_⟩⟩
    rw [nI_clamp (by omega), hk i hi]; exact hQ u
theorem q11_asks (ok : okA A) (C : CSt kc A μ fo κ ρ η kp β pl) {Q : Int32 → Prop} (h0 : inx p1 (cn A.1) = none → Q 0) (h1 : inx p2 2 = none → Q 0) (h2 : ∀ i p, i < cn A.1 → p < 2 → p1 = nI i → p2 = nI p → inx p1 (cn A.1) = some i → inx p2 2 = some p → Q 1) : wp_X11_asksValue kc p1 p2 μ fo κ ρ η kp lu σ ε π β pl Q := by
  unfold wp_X11_asksValue
  have hn := ok.1.1
  refine q2_hasC C.1 hn p1 (fun e => ⟨fun _ => h0 e, fun hc => absurd rfl hc⟩) (fun i hi hx e => ⟨fun hc => absurd hc (by decide), fun _ => q11_part h1 (fun p hp hx2 e2 => h2 i p hi hp hx hx2 e e2)⟩)
theorem q11_lumped (ok : okA A) (C : CSt kc A μ fo κ ρ η kp β pl) {Q : Int64 → US × US → Prop} (hQ : ∀ u, Q (f_lumped A p1 p2 p3) u) : wp_X11_lumped kc p1 p2 p3 μ fo κ ρ η kp lu σ ε π β pl Q := by
  unfold wp_X11_lumped
  unfold f_lumped at hQ
  have hn := ok.1.1
  refine q11_asks ok C (fun e => ⟨fun hc => absurd rfl hc, fun _ => ?_⟩) (fun e => ⟨fun hc => absurd rfl hc, fun _ => ?_⟩) (fun i p hi hp hx hx2 e e2 => ⟨fun _ => ?_, fun hc => absurd hc (by decide)⟩)
  · rw [o1_n e] at hQ; exact hQ _
  · cases g : inx p1 (cn A.1) with
    | none => rw [o1_n g] at hQ; exact hQ _
    | some i => rw [o1_s g, o1_n e] at hQ; exact hQ _
  · rw [o1_s e, o1_s e2] at hQ
    subst hx; subst hx2
    refine q7_refine C.1 ok.1 (fun u hu hk => ?_)
    have hle := lump_le A.1
    rcases inx_c p2 (show (lump A.1).2 < 2 ^ 31 by omega) with ⟨e3, hx⟩ | ⟨q, hq, rfl, e3⟩
    · rw [o1_n e3] at hQ
      refine ⟨fun _ => hQ _, fun hneg => ?_⟩
      unfold wp_X7_total
      rw [hu]
      refine ⟨fun hc => ?_, fun _ => hQ _⟩
      exfalso
      rcases hx with hx | hx
      · exact hneg hx
      · obtain ⟨y, hy, rfl⟩ := nI_of hneg
        rw [nI_leI (by omega) hy] at hx
        rw [nI_ltI hy (by omega)] at hc
        omega
    · rw [o1_s e3] at hQ
      refine ⟨fun hc => absurd hc (nn (by omega)), fun _ => ?_⟩
      unfold wp_X7_total
      rw [hu]
      refine pk_lt q (lump A.1).2 (fun _ => ?_) (fun hc => by omega)
      refine q7_members C.1 ok.1 (f := (lump A.1).1) (fun k hk2 => ⟨hk k hk2, by have := lump_lt A.1 hk2; omega⟩) (by omega) ?_
      refine q8_solveStep C.1 ok.1 (fun s4 h4 => ?_)
      refine q8_part h4 (by omega) hp ?_
      exact hQ _
theorem q11_formulaCount (C : CSt kc A μ fo κ ρ η kp β pl) {Q : Int32 → Prop} (hQ : Q (f_formulaCount A)) : wp_X11_formulaCount kc μ fo κ ρ η kp lu σ ε π β pl Q := by
  unfold wp_X11_formulaCount
  rw [C.2.2.2.1.1]; exact hQ
theorem q11_find (ok : okA A) (C : CSt kc A μ fo κ ρ η kp β pl) {Q : Option Nat → Prop} (h0 : inx p1 A.2.2.2.1.length = none → Q none) (h1 : ∀ j F a sa o, j < A.2.2.2.1.length → p1 = nI j → inx p1 A.2.2.2.1.length = some j → A.2.2.2.1.getD j ([], trU 6) = F → (a, .inr (7, [.ref sa, va_rf o])) ∈ pl → TX kc pl sa (tL F.1) F.1.length → CT pl 6 F.2 o → okT 6 F.2 → okL F.1 → Q (some a)) : wp_X11_find kc p1 μ fo κ ρ η kp lu σ ε π β pl Q := by
  unfold wp_X11_find
  obtain ⟨l6, hF⟩ := ok.2.2.2.1
  have e0 := C.2.2.2.1.1
  rw [e0]
  rcases inx_c p1 (show A.2.2.2.1.length < 2 ^ 31 by omega) with ⟨e, hx⟩ | ⟨j, hj, rfl, e⟩
  · have hn := h0 e
    refine ⟨fun _ => hn, fun hneg => ⟨fun _ => hn, fun hle => ?_⟩⟩
    exfalso
    rcases hx with hx | hx
    · exact hneg hx
    · exact hle hx
  · refine ⟨fun hc => absurd hc (nn (by omega)), fun _ => pk_le A.2.2.2.1.length j (fun hc => by omega) (fun _ => pk_le 6 j (fun hc => by omega) (fun _ => ⟨vp_in_nI (by omega) (by decide), fun o1 ho => ?_⟩))⟩
    have hg := getD_some hj ([], trU 6)
    obtain ⟨a, sa, o, f1, f2, f3, f4⟩ := C.2.2.2.1.2 j _ hg
    rw [nI_clamp (by omega), f1] at ho
    subst ho
    have hm := hF _ (List.mem_of_getElem? hg)
    exact h1 j _ a sa o hj rfl e rfl f2 f3 f4 hm.1 hm.2
theorem q11_letter (ok : okA A) (C : CSt kc A μ fo κ ρ η kp β pl) {Q : Int32 → Prop} (hQ : Q (f_letter A p1 p2)) : wp_X11_letter kc p1 p2 μ fo κ ρ η kp lu σ ε π β pl Q := by
  unfold wp_X11_letter
  unfold f_letter at hQ
  refine q11_find ok C (fun e => ⟨fun _ => ?_, fun a ha => (by cases ha)⟩) (fun j F a sa o hj hx e eF m1 m2 m3 _ hl => ⟨fun hc => (by cases hc), fun a2 ha => ?_⟩)
  · rw [o1_n e] at hQ; exact hQ
  · cases ha
    rw [o1_s e, eF] at hQ
    refine ⟨sa, va_rf o, tL F.1, F.1.length, m1, m2, fun r hr => ?_⟩
    subst hr
    have hl50 := hl.1
    unfold inx at hQ
    by_cases h0 : p2 < 0
    · rw [if_pos h0] at hQ ⊢; exact hQ
    · rw [if_neg h0] at hQ ⊢
      by_cases h1 : p2.toNatClampNeg < F.1.length
      · rw [if_pos h1] at hQ ⊢; exact hQ
      · rw [if_neg h1] at hQ ⊢; exact hQ
theorem q11_depth (ok : okA A) (C : CSt kc A μ fo κ ρ η kp β pl) {Q : Int32 → Prop} (hQ : Q (f_depth A p1)) : wp_X11_depth kc p1 μ fo κ ρ η kp lu σ ε π β pl Q := by
  unfold wp_X11_depth
  unfold f_depth at hQ
  refine q11_find ok C (fun e => ⟨fun _ => ?_, fun a ha => (by cases ha)⟩) (fun j F a sa o hj hx e eF m1 m2 m3 _ hl => ⟨fun hc => (by cases hc), fun a2 ha => ?_⟩)
  · rw [o1_n e] at hQ; exact hQ
  · cases ha
    rw [o1_s e, eF] at hQ
    exact ⟨.ref sa, o, dpt 6 F.2, lng 6 F.2, m1, m3.nf, fun r hr => by subst hr; exact hQ⟩
theorem q11_walk (ok : okA A) (C : CSt kc A μ fo κ ρ η kp β pl) {Q : Int32 → Prop} (hQ : Q (f_walk A p1 p2 p3)) : wp_X11_walk kc p1 p2 p3 μ fo κ ρ η kp lu σ ε π β pl Q := by
  unfold wp_X11_walk
  unfold f_walk at hQ
  have hn := ok.1.1
  refine q2_hasC C.1 hn p1 (fun e => ⟨fun _ => ?_, fun hc => absurd rfl hc⟩) (fun i hi hx e => ⟨fun hc => absurd hc (by decide), fun _ => ?_⟩)
  · rw [o1_n e] at hQ; exact hQ
  · rw [o1_s e] at hQ
    subst hx
    refine rg_c (n := 100) (by decide) (fun e => ?_) (fun m hm hx2 e => ?_)
    · rw [o1_n e] at hQ; exact ⟨hQ, hQ⟩
    · rw [o1_s e] at hQ
      subst hx2
      exact q11_walkL C.1 ok.1 hi (by omega) p3 hQ
end CPL
