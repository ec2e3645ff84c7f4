section LAWZ
variable {p : Program} {l : Launch} {e : Env} {s : State} {m : MethodId} {below : List Frame} {meth : Method} {c : Code} {b L i : Nat} {xs : Nat → Int32} {D : va_G} {kc : Nat → ClassId} {ad : Nat → Nat → Nat} {am : Nat → Nat} {nm : String} {A : AB} {μ κ ρ η lu σ ε π τ : US} {fo : Nat → Option Nat} {kp : Nat → US} {β : SBT} {pl : va_W} {H : Heap} {locs : List Loc} {ls : Array Slot} {cells slots : Nat} {QQ : State → Prop}
set_option maxRecDepth 100000 in
set_option maxHeartbeats 8000000 in
theorem law_disp (E : kE p s m meth c #[Value.ref b] code 4 RL nm wsL_law ret D (tyL kc)) (hX : va_X b L xs s s.heap) (hbl : b < s.heap.size) (hi : i + 6 ≤ L) (hL : L ≤ 3072) (hc : cells + 132 ≤ 600000) (hs : slots + 1204 ≤ 7302250) (ok : okA A) (C : CSt kc A μ fo κ ρ η kp β pl) (T : RSt A τ) (G : kG D (fun q => s.heap.size ≤ q) s (fl [wMn kc ad μ, wFo kc ad fo, wC kc (ad 1) κ, wC kc (ad 2) ρ, wHi kc ad η, wKp kc ad kp, wLu kc (ad 5) (ad 1) lu, wMo kc (ad 6) (ad 1) (ad 7) σ, wE kc (ad 7) ε, wBp kc (ad 9) (ad 1) π, wSb kc ad β, pl] ++ wM kc am τ) H locs) (hl : lv_has ls 4 [(3, .int (nI i)), (2, .ref (am 0)), (1, .ref (ad 0 0)), (0, .ref b)]) (IH : LGo p l e s m below meth c b i D kc ad am (cells + 132) (slots + 1204) QQ) : W p l e room_1 s m #[Value.ref b] below meth c H locs cells slots QQ (F0 m 27 ls []) := by
  refine lv_aload_n E.ex E.by dL_law_27 rfl (lv_at hl 3 rfl) ?_
  refine lv_iload_n E.ex E.by dL_law_28 rfl (lv_at hl 0 rfl) ?_
  refine va_sld E.ex E.by hX hbl (Nat.not_le.mpr hbl) G.2.2.1 (vp_in_nI (show i < L by omega) (by omega)) dL_law_29 ?_
  refine lv_bipush (v := 63) E.ex E.by dL_law_30 (by decide) ?_
  refine lv_iand E.ex E.by dL_law_32 ?_
  generalize (xs (nI i).toNatClampNeg &&& 63) = x
  by_cases h0 : x.toInt < 0 ∨ 37 < x.toInt
  · refine lv_tableOut (tgt := 1302) E.ex E.by dL_law_33 h0 (by decide) ?_
    refine W.widen (k := cells + 132) (n := slots + 1204) (by omega) (by omega) ?_
    exact IH _ _ _ _ _ _ _ _ _ _ _ _ _ _ _ _ _ ok C T G hl
  · obtain ⟨k, hk, hk37⟩ : ∃ k : Nat, x.toInt = k ∧ k ≤ 37 := ⟨x.toInt.toNat, by omega, by omega⟩
    rcases (show k = 0 ∨ k = 1 ∨ k = 2 ∨ k = 3 ∨ k = 4 ∨ k = 5 ∨ k = 6 ∨ k = 7 ∨ k = 8 ∨ k = 9 ∨ k = 10 ∨ k = 11 ∨ k = 12 ∨ k = 13 ∨ k = 14 ∨ k = 15 ∨ k = 16 ∨ k = 17 ∨ k = 18 ∨ k = 19 ∨ k = 20 ∨ k = 21 ∨ k = 22 ∨ k = 23 ∨ k = 24 ∨ k = 25 ∨ k = 26 ∨ k = 27 ∨ k = 28 ∨ k = 29 ∨ k = 30 ∨ k = 31 ∨ k = 32 ∨ k = 33 ∨ k = 34 ∨ k = 35 ∨ k = 36 ∨ k = 37 by omega) with rfl | rfl | rfl | rfl | rfl | rfl | rfl | rfl | rfl | rfl | rfl | rfl | rfl | rfl | rfl | rfl | rfl | rfl | rfl | rfl | rfl | rfl | rfl | rfl | rfl | rfl | rfl | rfl | rfl | rfl | rfl | rfl | rfl | rfl | rfl | rfl | rfl | rfl
    · refine lv_tableIn (off := 167) (tgt := 200) E.ex E.by dL_law_33 (by omega) (by omega) (by rw [hk]; rfl) (by decide) ?_
      exact law_addState E hX hbl hi hL hc hs ok C T G hl IH
    · refine lv_tableIn (off := 180) (tgt := 213) E.ex E.by dL_law_33 (by omega) (by omega) (by rw [hk]; rfl) (by decide) ?_
      exact law_removeState E hX hbl hi hL hc hs ok C T G hl IH
    · refine lv_tableIn (off := 193) (tgt := 226) E.ex E.by dL_law_33 (by omega) (by omega) (by rw [hk]; rfl) (by decide) ?_
      exact law_stateCount E hX hbl hi hL hc hs ok C T G hl IH
    · refine lv_tableIn (off := 206) (tgt := 239) E.ex E.by dL_law_33 (by omega) (by omega) (by rw [hk]; rfl) (by decide) ?_
      exact law_setWeight E hX hbl hi hL hc hs ok C T G hl IH
    · refine lv_tableIn (off := 249) (tgt := 282) E.ex E.by dL_law_33 (by omega) (by omega) (by rw [hk]; rfl) (by decide) ?_
      exact law_weight E hX hbl hi hL hc hs ok C T G hl IH
    · refine lv_tableIn (off := 282) (tgt := 315) E.ex E.by dL_law_33 (by omega) (by omega) (by rw [hk]; rfl) (by decide) ?_
      exact law_sum E hX hbl hi hL hc hs ok C T G hl IH
    · refine lv_tableIn (off := 305) (tgt := 338) E.ex E.by dL_law_33 (by omega) (by omega) (by rw [hk]; rfl) (by decide) ?_
      exact law_setLabels E hX hbl hi hL hc hs ok C T G hl IH
    · refine lv_tableIn (off := 338) (tgt := 371) E.ex E.by dL_law_33 (by omega) (by omega) (by rw [hk]; rfl) (by decide) ?_
      exact law_labels E hX hbl hi hL hc hs ok C T G hl IH
    · refine lv_tableIn (off := 361) (tgt := 394) E.ex E.by dL_law_33 (by omega) (by omega) (by rw [hk]; rfl) (by decide) ?_
      exact law_setReward E hX hbl hi hL hc hs ok C T G hl IH
    · refine lv_tableIn (off := 394) (tgt := 427) E.ex E.by dL_law_33 (by omega) (by omega) (by rw [hk]; rfl) (by decide) ?_
      exact law_reward E hX hbl hi hL hc hs ok C T G hl IH
    · refine lv_tableIn (off := 417) (tgt := 450) E.ex E.by dL_law_33 (by omega) (by omega) (by rw [hk]; rfl) (by decide) ?_
      exact law_reaches E hX hbl hi hL hc hs ok C T G hl IH
    · refine lv_tableIn (off := 440) (tgt := 473) E.ex E.by dL_law_33 (by omega) (by omega) (by rw [hk]; rfl) (by decide) ?_
      exact law_component E hX hbl hi hL hc hs ok C T G hl IH
    · refine lv_tableIn (off := 463) (tgt := 496) E.ex E.by dL_law_33 (by omega) (by omega) (by rw [hk]; rfl) (by decide) ?_
      exact law_bottoms E hX hbl hi hL hc hs ok C T G hl IH
    · refine lv_tableIn (off := 476) (tgt := 509) E.ex E.by dL_law_33 (by omega) (by omega) (by rw [hk]; rfl) (by decide) ?_
      exact law_classCount E hX hbl hi hL hc hs ok C T G hl IH
    · refine lv_tableIn (off := 489) (tgt := 522) E.ex E.by dL_law_33 (by omega) (by omega) (by rw [hk]; rfl) (by decide) ?_
      exact law_classOf E hX hbl hi hL hc hs ok C T G hl IH
    · refine lv_tableIn (off := 512) (tgt := 545) E.ex E.by dL_law_33 (by omega) (by omega) (by rw [hk]; rfl) (by decide) ?_
      exact law_lumped E hX hbl hi hL hc hs ok C T G hl IH
    · refine lv_tableIn (off := 556) (tgt := 589) E.ex E.by dL_law_33 (by omega) (by omega) (by rw [hk]; rfl) (by decide) ?_
      exact law_feed E hX hbl hi hL hc hs ok C T G hl IH
    · refine lv_tableIn (off := 579) (tgt := 612) E.ex E.by dL_law_33 (by omega) (by omega) (by rw [hk]; rfl) (by decide) ?_
      exact law_addFormula E hX hbl hi hL hc hs ok C T G hl IH
    · refine lv_tableIn (off := 592) (tgt := 625) E.ex E.by dL_law_33 (by omega) (by omega) (by rw [hk]; rfl) (by decide) ?_
      exact law_formulaCount E hX hbl hi hL hc hs ok C T G hl IH
    · refine lv_tableIn (off := 605) (tgt := 638) E.ex E.by dL_law_33 (by omega) (by omega) (by rw [hk]; rfl) (by decide) ?_
      exact law_clearFormulas E hX hbl hi hL hc hs ok C T G hl IH
    · refine lv_tableIn (off := 618) (tgt := 651) E.ex E.by dL_law_33 (by omega) (by omega) (by rw [hk]; rfl) (by decide) ?_
      exact law_letter E hX hbl hi hL hc hs ok C T G hl IH
    · refine lv_tableIn (off := 651) (tgt := 684) E.ex E.by dL_law_33 (by omega) (by omega) (by rw [hk]; rfl) (by decide) ?_
      exact law_depth E hX hbl hi hL hc hs ok C T G hl IH
    · refine lv_tableIn (off := 674) (tgt := 707) E.ex E.by dL_law_33 (by omega) (by omega) (by rw [hk]; rfl) (by decide) ?_
      exact law_holdsIn E hX hbl hi hL hc hs ok C T G hl IH
    · refine lv_tableIn (off := 697) (tgt := 730) E.ex E.by dL_law_33 (by omega) (by omega) (by rw [hk]; rfl) (by decide) ?_
      exact law_holds E hX hbl hi hL hc hs ok C T G hl IH
    · refine lv_tableIn (off := 730) (tgt := 763) E.ex E.by dL_law_33 (by omega) (by omega) (by rw [hk]; rfl) (by decide) ?_
      exact law_next E hX hbl hi hL hc hs ok C T G hl IH
    · refine lv_tableIn (off := 774) (tgt := 807) E.ex E.by dL_law_33 (by omega) (by omega) (by rw [hk]; rfl) (by decide) ?_
      exact law_until E hX hbl hi hL hc hs ok C T G hl IH
    · refine lv_tableIn (off := 828) (tgt := 861) E.ex E.by dL_law_33 (by omega) (by omega) (by rw [hk]; rfl) (by decide) ?_
      exact law_within E hX hbl hi hL hc hs ok C T G hl IH
    · refine lv_tableIn (off := 892) (tgt := 925) E.ex E.by dL_law_33 (by omega) (by omega) (by rw [hk]; rfl) (by decide) ?_
      exact law_never E hX hbl hi hL hc hs ok C T G hl IH
    · refine lv_tableIn (off := 925) (tgt := 958) E.ex E.by dL_law_33 (by omega) (by omega) (by rw [hk]; rfl) (by decide) ?_
      exact law_surely E hX hbl hi hL hc hs ok C T G hl IH
    · refine lv_tableIn (off := 958) (tgt := 991) E.ex E.by dL_law_33 (by omega) (by omega) (by rw [hk]; rfl) (by decide) ?_
      exact law_steady E hX hbl hi hL hc hs ok C T G hl IH
    · refine lv_tableIn (off := 1002) (tgt := 1035) E.ex E.by dL_law_33 (by omega) (by omega) (by rw [hk]; rfl) (by decide) ?_
      exact law_share E hX hbl hi hL hc hs ok C T G hl IH
    · refine lv_tableIn (off := 1036) (tgt := 1069) E.ex E.by dL_law_33 (by omega) (by omega) (by rw [hk]; rfl) (by decide) ?_
      exact law_expected E hX hbl hi hL hc hs ok C T G hl IH
    · refine lv_tableIn (off := 1080) (tgt := 1113) E.ex E.by dL_law_33 (by omega) (by omega) (by rw [hk]; rfl) (by decide) ?_
      exact law_bestPath E hX hbl hi hL hc hs ok C T G hl IH
    · refine lv_tableIn (off := 1133) (tgt := 1166) E.ex E.by dL_law_33 (by omega) (by omega) (by rw [hk]; rfl) (by decide) ?_
      exact law_bestProduct E hX hbl hi hL hc hs ok C T G hl IH
    · refine lv_tableIn (off := 1187) (tgt := 1220) E.ex E.by dL_law_33 (by omega) (by omega) (by rw [hk]; rfl) (by decide) ?_
      exact law_walk E hX hbl hi hL hc hs ok C T G hl IH
    · refine lv_tableIn (off := 1230) (tgt := 1263) E.ex E.by dL_law_33 (by omega) (by omega) (by rw [hk]; rfl) (by decide) ?_
      exact law_save E hX hbl hi hL hc hs ok C T G hl IH
    · refine lv_tableIn (off := 1243) (tgt := 1276) E.ex E.by dL_law_33 (by omega) (by omega) (by rw [hk]; rfl) (by decide) ?_
      exact law_restore E hX hbl hi hL hc hs ok C T G hl IH
    · refine lv_tableIn (off := 1256) (tgt := 1289) E.ex E.by dL_law_33 (by omega) (by omega) (by rw [hk]; rfl) (by decide) ?_
      exact law_undo E hX hbl hi hL hc hs ok C T G hl IH
set_option maxRecDepth 100000 in
set_option maxHeartbeats 8000000 in
theorem law_loop (E : kE p s m meth c #[Value.ref b] code 4 RL nm wsL_law ret D (tyL kc)) (hX : va_X b L xs s s.heap) (hbl : b < s.heap.size) (hL : L ≤ 3072) (hr : meth.sig.returnType = ret) (hlocks : meth.locks = false) : ∀ (n i cells slots : Nat), i ≤ L + 6 → L < i + 6 * (n + 1) → cells + 132 * n ≤ 600000 → slots + 1204 * n ≤ 7302250 → ∀ (A : AB) (μ : US) (fo : Nat → Option Nat) (κ ρ η : US) (kp : Nat → US) (lu σ ε π : US) (β : SBT) (pl : va_W) (τ : US) (H : Heap) (locs : List Loc) (ls : Array Slot), okA A → CSt kc A μ fo κ ρ η kp β pl → RSt A τ → kG D (fun q => s.heap.size ≤ q) s (fl [wMn kc ad μ, wFo kc ad fo, wC kc (ad 1) κ, wC kc (ad 2) ρ, wHi kc ad η, wKp kc ad kp, wLu kc (ad 5) (ad 1) lu, wMo kc (ad 6) (ad 1) (ad 7) σ, wE kc (ad 7) ε, wBp kc (ad 9) (ad 1) π, wSb kc ad β, pl] ++ wM kc am τ) H locs → lv_has ls 4 [(3, .int (nI i)), (2, .ref (am 0)), (1, .ref (ad 0 0)), (0, .ref b)] → W p l e room_1 s m #[Value.ref b] below meth c H locs cells slots (lw_Z below #[Value.ref b] s) (F0 m 18 ls []) := by
  intro n
  induction n with
  | zero =>
    intro i cells slots hi hn hc hs A μ fo κ ρ η kp lu σ ε π β pl τ H locs ls ok C T G hl
    have hgt : nI L - 6 < nI i := by
      have e1 : (nI L - nI 6).toInt = (L : Int) - (6 : Nat) := pk_sub_toInt (by omega) (by omega)
      rw [Int32.lt_iff_toInt_lt, nI_toInt (by omega)]
      have e2 : (nI L - 6).toInt = (L : Int) - (6 : Nat) := e1
      omega
    refine lv_iload_n E.ex E.by dL_law_18 rfl (lv_at hl 0 rfl) ?_
    refine lv_aload_n E.ex E.by dL_law_19 rfl (lv_at hl 3 rfl) ?_
    refine va_slen E.ex E.by hX hbl (Nat.not_le.mpr hbl) G.2.2.1 dL_law_20 ?_
    refine lv_bipush (v := 6) E.ex E.by dL_law_21 (by decide) ?_
    refine lv_isub E.ex E.by dL_law_23 ?_
    refine lv_icmp_gt (tgt := 1308) E.ex E.by dL_law_24 (by decide) (fun _ => ?_) (fun hc => absurd hgt hc)
    refine lv_iconst (v := 1) E.ex E.by dL_law_1308 (by decide) ?_
    refine va_forget (fun q hq => G.2.2.1.2.2 q hq) ?_
    refine W.widen (k := 600000) (n := 7302250) (by omega) (by omega) ?_
    exact lw_ret E.ex E.by hr hlocks dL_law_1309
  | succ n ih =>
    intro i cells slots hi hn hc hs A μ fo κ ρ η kp lu σ ε π β pl τ H locs ls ok C T G hl
    have e1 : (nI L - nI 6).toInt = (L : Int) - (6 : Nat) := pk_sub_toInt (by omega) (by omega)
    have e2 : (nI L - 6).toInt = (L : Int) - (6 : Nat) := e1
    refine lv_iload_n E.ex E.by dL_law_18 rfl (lv_at hl 0 rfl) ?_
    refine lv_aload_n E.ex E.by dL_law_19 rfl (lv_at hl 3 rfl) ?_
    refine va_slen E.ex E.by hX hbl (Nat.not_le.mpr hbl) G.2.2.1 dL_law_20 ?_
    refine lv_bipush (v := 6) E.ex E.by dL_law_21 (by decide) ?_
    refine lv_isub E.ex E.by dL_law_23 ?_
    refine lv_icmp_gt (tgt := 1308) E.ex E.by dL_law_24 (by decide) (fun _ => ?_) (fun hgt => ?_)
    · refine lv_iconst (v := 1) E.ex E.by dL_law_1308 (by decide) ?_
      refine va_forget (fun q hq => G.2.2.1.2.2 q hq) ?_
      refine W.widen (k := 600000) (n := 7302250) (by omega) (by omega) ?_
      exact lw_ret E.ex E.by hr hlocks dL_law_1309
    · have hi6 : i + 6 ≤ L := by
        have hgt : ¬ nI L - 6 < nI i := hgt
        rw [Int32.lt_iff_toInt_lt, nI_toInt (by omega)] at hgt
        omega
      refine law_disp E hX hbl hi6 hL (by omega) (by omega) ok C T G hl ?_
      intro A2 μ2 fo2 κ2 ρ2 η2 kp2 lu2 σ2 ε2 π2 β2 pl2 τ2 H2 locs2 ls2 ok2 C2 T2 G2 hl2
      refine lv_iinc (k := 0) (v := nI (i + 6)) (lv' := [(3, .int (nI (i + 6))), (2, .ref (am 0)), (1, .ref (ad 0 0)), (0, .ref b)]) E.ex E.by dL_law_1302 hl2 rfl (nI_add i 6) (by decide) rfl (fun ls3 hl3 => ?_)
      refine lv_goto (tgt := 18) E.ex E.by dL_law_1305 (by decide) ?_
      exact ih (i + 6) (cells + 132) (slots + 1204) (by omega) (by omega) (by omega) (by omega) A2 μ2 fo2 κ2 ρ2 η2 kp2 lu2 σ2 ε2 π2 β2 pl2 τ2 H2 locs2 ls3 ok2 C2 T2 G2 hl3
end LAWZ
