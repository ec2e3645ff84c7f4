/-! ===== the methods that evaluate: the class, the rest ===== -/
theorem eB_pos {c : CH} {G : Nat → Bool} (ok : okC c) (hG : ∀ b, G b = true → b < cn c) {i : Nat} (hi : i < 8) (hv : sur c (allS c) G i = true) : 0 < eB c G i := by
  unfold eB
  obtain ⟨h2, -, -⟩ := UA_lim (b := bE c G) ok (uE_lk ok hG) 8 (Nat.le_refl 8)
  rw [if_pos hv]
  omega
section CEW
variable {kc : Nat → ClassId} {A : AB} {μ ρ κ η lu lu2 σ ε π σ2 ε2 π2 : US} {fo : Nat → Option Nat} {kp : Nat → US} {β : SBT} {pl : va_W} {p1 p2 p3 p4 p5 : Int32}
theorem q11_within (ok : okA A) (C : CSt kc A μ fo κ ρ η kp β pl) {Q : Int64 → US × US → Prop} (hQ : ∀ u, Q (f_within A p1 p2 p3 p4 p5) u) : wp_X11_within kc p1 p2 p3 p4 p5 μ fo κ ρ η kp lu σ ε π β pl Q := by
  unfold wp_X11_within
  unfold f_within at hQ
  have hn := ok.1.1
  have f0 : Q (-1) (σ, ε) → wp_X11_within_J28 kc p1 p2 p3 p4 p5 μ fo κ ρ η kp lu σ ε π β pl p2 p1 Q := fun h => by
    unfold wp_X11_within_J28 wp_X11_within_J29
    refine q11_errorOf ok C (fun _ => ?_) (fun _ => ?_) (fun _ => ?_) (fun z => absurd rfl z) (fun z => absurd rfl z) <;> exact no_ (by decide) (by rw [e64_1]; exact h)
  refine q11_asks ok C (fun e => ⟨fun _ => f0 ?_, fun z => absurd rfl z⟩) (fun e => ⟨fun _ => f0 ?_, fun z => absurd rfl z⟩) (fun i p hi hp hx hx2 e e2 => ⟨fun z => absurd z (by decide), fun _ => ?_⟩)
  · rw [oa_1 e] at hQ; exact hQ _
  · rw [oa_2 e] at hQ; exact hQ _
  · rw [oa_3 e e2] at hQ
    rcases inx_c p3 (show 7 < 2 ^ 31 by decide) with ⟨e3, h3⟩ | ⟨m, hm, rfl, e3⟩
    · rw [o1_n e3] at hQ
      refine ⟨fun _ => f0 (hQ _), fun hneg => ⟨fun _ => f0 (hQ _), fun hle => ?_⟩⟩
      exfalso
      rcases h3 with h3 | h3
      · exact hneg h3
      · obtain ⟨y, hy, rfl⟩ := nI_of hneg
        rw [nI_leI (by omega) hy] at h3
        exact hle (by rw [show (6 : Int32) = nI 6 from rfl, nI_ltI (by omega) hy]; omega)
    · rw [o1_s e3] at hQ
      refine ⟨fun hc => absurd hc (nn (by omega)), fun _ => ⟨fun hc => ?_, fun _ => ?_⟩⟩
      · exfalso
        rw [show (6 : Int32) = nI 6 from rfl, nI_ltI (by omega) (by omega)] at hc
        omega
      · unfold wp_X11_within_J29
        refine q11_errorOf ok C (fun z => absurd z (by decide)) (fun e4 => ?_) (fun e4 => ?_) (fun _ j k e4 e5 hr => ?_) (fun _ j k e4 e5 hr => ?_)
        · rw [o2_1 e4] at hQ; exact no_ (by decide) (by rw [e64_1]; exact hQ _)
        · rw [o2_2 e4] at hQ; exact no_ (by decide) (by rw [e64_1]; exact hQ _)
        · rw [o2_3 e4 e5 hr] at hQ; exact no_ (by decide) (by rw [e64_4]; exact hQ _)
        · rw [o2_4 e4 e5 hr] at hQ
          refine yes_ rfl ?_
          refine q8_refuses C.1 ok.1 (by omega) ?_
          cases hv : rfd A.1 m with
          | true =>
            rw [if_pos hv] at hQ
            exact no_ (show ¬ (1 : Int32) = 0 by decide) (hQ _)
          | false =>
            rw [if_neg (by rw [hv]; decide)] at hQ
            refine yes_ rfl ?_
            refine q11_st ok C e4 (or_ff hr).1 (fun u => q11_st ok C e5 (or_ff hr).2 (fun u2 => ?_))
            subst hx; subst hx2
            exact q8_countWithin C.1 ok.1 (sm_lt A.1 6 _) (by omega) hv (fun s4 h4 => q8_part h4 (by omega) hp (hQ _))
theorem q8_isInfinite {T B : Nat → Nat} (h : FR σ 8 T B) {i : Nat} (hi : i < 8) (hb : B i < 2 ^ 63) {Q : Int32 → Prop} (h0 : 0 < B i → Q 0) (h1 : B i = 0 → Q 1) : wp_X8_isInfinite (nI i) σ ε κ Q := by
  unfold wp_X8_isInfinite
  obtain ⟨-, h2⟩ := h i hi
  refine q_isIndex hi ⟨fun z => absurd z (by decide), fun _ => ⟨pk_in i 8 hi, ?_⟩⟩
  have hs := Nat.div_le_self (B i) (gcd1 (T i) (B i))
  rw [nI_clamp (by omega), h2, lg_cmp_eq, li64_0, pk_lEQ (by omega) (by omega)]
  have key : B i / gcd1 (T i) (B i) = 0 ↔ B i = 0 := by
    refine ⟨fun h => ?_, fun h => by rw [h]; exact Nat.zero_div _⟩
    rcases Nat.eq_zero_or_pos (B i) with h0 | h0
    · exact h0
    · have g := (gcd1_le (a := T i) h0).2
      have := Nat.div_pos g (gcd1_pos (T i) (B i))
      omega
  rw [key]
  exact ⟨fun hne => h0 (by omega), h1⟩
theorem q11_expected (ok : okA A) (C : CSt kc A μ fo κ ρ η kp β pl) {Q : Int64 → US × US → Prop} (hQ : ∀ u, Q (f_expected A p1 p2 p3) u) : wp_X11_expected kc p1 p2 p3 μ fo κ ρ η kp lu σ ε π β pl Q := by
  unfold wp_X11_expected
  unfold f_expected at hQ
  have hn := ok.1.1
  refine q11_ae (f := fun i p F _ => if sur A.1 (allS A.1) F i = true then pv (eT A.1 F i) (eB A.1 F i) p else -5) (E := fun z => Q z (σ, ε)) ok C (fun z hz => hz ▸ hQ _) (fun i p j k hi hp hx hx2 e1 e2 r1 r2 ev => ?_)
  rw [ev] at hQ
  refine q11_st ok C e1 r1 (fun u => ?_)
  subst hx; subst hx2
  refine q8_solveExpected C.1 ok.1 (sm_lt A.1 6 _) (fun s4 e4 h4 => ?_)
  have hl := (eT_le ok.1 (sm_lt A.1 6 (fmT A j)) (show i < 8 by omega)).2
  refine q8_isInfinite h4 (by omega) (by omega) (fun hb => ?_) (fun hb => ?_)
  · refine yes_ rfl ?_
    cases hv : sur A.1 (allS A.1) (sm A.1 6 (fmT A j)) i with
    | false =>
      unfold eB at hb
      rw [if_neg (by rw [hv]; decide)] at hb
      omega
    | true =>
      rw [if_pos hv] at hQ
      exact q8_part h4 (by omega) hp (hQ _)
  · refine no_ (by decide) ?_
    cases hv : sur A.1 (allS A.1) (sm A.1 6 (fmT A j)) i with
    | false =>
      rw [if_neg (by rw [hv]; decide)] at hQ
      exact hQ _
    | true =>
      exfalso
      have := eB_pos ok.1 (sm_lt A.1 6 (fmT A j)) (show i < 8 by omega) hv
      omega
theorem q11_bestPath (ok : okA A) (C : CSt kc A μ fo κ ρ η kp β pl) {Q : Int32 → US × US × US → Prop} (hQ : ∀ u, Q (f_bestPath A p1 p2 p3 p4) u) : wp_X11_bestPath kc p1 p2 p3 p4 μ fo κ ρ η kp lu σ ε π β pl Q := by
  unfold wp_X11_bestPath
  unfold f_bestPath at hQ
  have hn := ok.1.1
  have f0 : Q (-1) (σ, ε, π) → wp_X11_bestPath_J24 kc p1 p2 p3 p4 μ fo κ ρ η kp lu σ ε π β pl p2 p1 Q := fun h => by
    unfold wp_X11_bestPath_J24 wp_X11_bestPath_J25
    refine q11_errorOf ok C (fun _ => ?_) (fun _ => ?_) (fun _ => ?_) (fun z => absurd rfl z) (fun z => absurd rfl z) <;> exact no_ (by decide) h
  refine q2_hasC C.1 hn p3 (fun e => ⟨fun _ => f0 ?_, fun z => absurd rfl z⟩) (fun i hi hx e => ⟨fun z => absurd z (by decide), fun _ => ⟨fun hm => f0 ?_, fun hm => ?_⟩⟩)
  · rw [o1_n e] at hQ; exact hQ _
  · rw [o1_s e, if_pos hm] at hQ; exact hQ _
  · rw [o1_s e, if_neg hm] at hQ
    subst hx
    unfold wp_X11_bestPath_J25
    refine q11_e2 (f := fun F G => if (bst A.1 (uB2 F G) G).1 i = 0 then -2 else if p4 < 0 then nI ((bst A.1 (uB2 F G) G).1 i) else o1 (inx p4 ((bst A.1 (uB2 F G) G).1 i)) (-2) fun m => nI (pth A.1 (uB2 F G) (bst A.1 (uB2 F G) G) i m)) (E := fun z => Q z (σ, ε, π)) ok C (fun z hz => hz ▸ hQ _) (fun j k e1 e2 r1 r2 ev => ?_)
    rw [ev] at hQ
    refine q11_st ok C e1 r1 (fun u => q11_st ok C e2 r2 (fun u2 => ?_))
    refine q0_search C.1 ok.1 (fun z v hR hU hB hC => ?_)
    have hi8 : i < 8 := by omega
    obtain ⟨el, -⟩ := bst_pv (p := 0) hB hC hi8
    have hle := BI_len hB hi8
    rw [← el] at hQ
    refine q0_lengthFrom hR hi8 ?_
    refine pk_eq (v.1 i) 0 (fun h0 => ?_) (fun h0 => ?_) rfl rfl
    · rw [if_pos h0] at hQ; exact hQ _
    · rw [if_neg h0] at hQ
      rcases inx_c p4 (show v.1 i < 2 ^ 31 by omega) with ⟨e3, h3⟩ | ⟨m, hm2, rfl, e3⟩
      · by_cases hneg : p4 < 0
        · rw [if_pos hneg] at hQ
          have hlt : p4 < nI (v.1 i) := by
            rw [Int32.lt_iff_toInt_lt] at hneg ⊢
            rw [nI_toInt (by omega)]
            have : (0 : Int32).toInt = 0 := by decide
            omega
          refine ⟨fun _ => ⟨fun hc => ?_, fun _ => hQ _⟩, fun hc => absurd hlt hc⟩
          exfalso
          rw [Int32.le_iff_toInt_le] at hc
          rw [Int32.lt_iff_toInt_lt] at hneg
          omega
        · rw [if_neg hneg, o1_n e3] at hQ
          refine ⟨fun hc => ?_, fun _ => hQ _⟩
          exfalso
          rcases h3 with h3 | h3
          · exact hneg h3
          · rw [Int32.le_iff_toInt_le] at h3
            rw [Int32.lt_iff_toInt_lt] at hc
            omega
      · rw [if_neg (nn (by omega)), o1_s e3, ← bst_pth hB hC hi8] at hQ
        refine ⟨fun _ => ⟨fun _ => ?_, fun hc => ?_⟩, fun hc => ?_⟩
        · exact q0_stateAt hR C.1 ok.1 hB hU hi8 (by omega) (hQ _)
        · exact absurd (show (0 : Int32) ≤ nI m by rw [li0]; exact nI_le (Nat.zero_le _) (by omega)) hc
        · exact absurd (show nI m < nI (v.1 i) from nI_lt hm2 (by omega)) hc
theorem q11_bestProduct (ok : okA A) (C : CSt kc A μ fo κ ρ η kp β pl) {Q : Int64 → US × US × US → Prop} (hQ : ∀ u, Q (f_bestProduct A p1 p2 p3 p4) u) : wp_X11_bestProduct kc p1 p2 p3 p4 μ fo κ ρ η kp lu σ ε π β pl Q := by
  unfold wp_X11_bestProduct
  unfold f_bestProduct at hQ
  have hn := ok.1.1
  refine q11_ae (f := fun i p F G => if (bst A.1 (uB2 F G) G).1 i = 0 then -2 else pv ((bst A.1 (uB2 F G) G).2.1 i) ((bst A.1 (uB2 F G) G).2.2 i) p) (E := fun z => Q z (σ, ε, π)) ok C (fun z hz => hz ▸ hQ _) (fun i p j k hi hp hx hx2 e1 e2 r1 r2 ev => ?_)
  rw [ev] at hQ
  refine q11_st ok C e1 r1 (fun u => q11_st ok C e2 r2 (fun u2 => ?_))
  subst hx; subst hx2
  refine q0_search C.1 ok.1 (fun z v hR hU hB hC => ?_)
  have hi8 : i < 8 := by omega
  obtain ⟨el, ep⟩ := bst_pv (p := p) hB hC hi8
  have hle := BI_len hB hi8
  rw [← el] at hQ
  refine q0_lengthFrom hR hi8 ?_
  refine And.symm (pk_eq (v.1 i) 0 (fun h0 => ?_) (fun h0 => ?_) rfl rfl)
  · rw [if_pos h0] at hQ; exact hQ _
  · rw [if_neg h0, ← ep (by omega)] at hQ
    exact q0_product hR hB hi8 hp (hQ _)
end CEW
