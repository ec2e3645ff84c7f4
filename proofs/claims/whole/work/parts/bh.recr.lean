/-! ===== the methods that change the chain: the reference ===== -/
theorem RRow.upw {f : Nat → Int32} {c : CH} (h : RRow f c) {i j w : Nat} (hi : i < 8) (hj : j < 8) : RRow (upd f (1 + 8 * i + j) (nI w)) (setW c i j w) := by
  refine ⟨?_, fun a b ha hb => ?_, fun a ha => ?_, fun a ha => ?_⟩
  · rw [pk_un (by omega)]; exact h.1
  · show upd f (1 + 8 * i + j) (nI w) (1 + 8 * a + b) = nI (if a = i ∧ b = j then w else cw c a b)
    by_cases e : a = i ∧ b = j
    · obtain ⟨rfl, rfl⟩ := e
      rw [pk_us, if_pos ⟨rfl, rfl⟩]
    · rw [pk_un (by omega), if_neg e]; exact h.2.1 a b ha hb
  · rw [pk_un (by omega)]; exact h.2.2.1 a ha
  · rw [pk_un (by omega)]; exact h.2.2.2 a ha
theorem RRow.upl {f : Nat → Int32} {c : CH} (h : RRow f c) {i x : Nat} (hi : i < 8) : RRow (upd f (65 + i) (nI x)) (setL c i x) := by
  refine ⟨?_, fun a b ha hb => ?_, fun a ha => ?_, fun a ha => ?_⟩
  · rw [pk_un (by omega)]; exact h.1
  · rw [pk_un (by omega)]; exact h.2.1 a b ha hb
  · show upd f (65 + i) (nI x) (65 + a) = nI (if a = i then x else cl c a)
    by_cases e : a = i
    · subst e; rw [pk_us, if_pos rfl]
    · rw [pk_un (by omega), if_neg e]; exact h.2.2.1 a ha
  · rw [pk_un (by omega)]; exact h.2.2.2 a ha
theorem RRow.upr {f : Nat → Int32} {c : CH} (h : RRow f c) {i x : Nat} (hi : i < 8) : RRow (upd f (73 + i) (nI x)) (setR c i x) := by
  refine ⟨?_, fun a b ha hb => ?_, fun a ha => ?_, fun a ha => ?_⟩
  · rw [pk_un (by omega)]; exact h.1
  · rw [pk_un (by omega)]; exact h.2.1 a b ha hb
  · rw [pk_un (by omega)]; exact h.2.2.1 a ha
  · show upd f (73 + i) (nI x) (73 + a) = nI (if a = i then x else cr c a)
    by_cases e : a = i
    · subst e; rw [pk_us, if_pos rfl]
    · rw [pk_un (by omega), if_neg e]; exact h.2.2.2 a ha
theorem RRow.upn {f : Nat → Int32} {c : CH} (h : RRow f c) (m : Nat) : RRow (upd f 0 (nI m)) (m, c.2) := by
  refine ⟨pk_us, fun a b ha hb => ?_, fun a ha => ?_, fun a ha => ?_⟩
  · rw [pk_un (by omega)]; exact h.2.1 a b ha hb
  · rw [pk_un (by omega)]; exact h.2.2.1 a ha
  · rw [pk_un (by omega)]; exact h.2.2.2 a ha
/-- after i steps of the clearing of state g -/
def shk (c : CH) (g i : Nat) : CH := (g, (fun a b => if (a < i ∧ b = g) ∨ (a = g ∧ b < i) then 0 else cw c a b), c.2.2)
theorem shk_0 {f : Nat → Int32} {c : CH} {g : Nat} (h : RRow f (g, c.2)) : RRow f (shk c g 0) := by
  refine ⟨h.1, fun a b ha hb => ?_, h.2.2.1, h.2.2.2⟩
  show f _ = nI (if (a < 0 ∧ b = g) ∨ (a = g ∧ b < 0) then 0 else cw c a b)
  rw [if_neg (by omega)]; exact h.2.1 a b ha hb
theorem shk_s {f : Nat → Int32} {c : CH} {g i : Nat} (hg : g < 8) (hi : i < 8) (h : RRow f (shk c g i)) : RRow (upd (upd f (1 + 8 * i + g) (nI 0)) (1 + 8 * g + i) (nI 0)) (shk c g (i + 1)) := by
  have h2 := (h.upw (w := 0) hi hg).upw (w := 0) hg hi
  refine ⟨h2.1, fun a b ha hb => ?_, h2.2.2.1, h2.2.2.2⟩
  rw [h2.2.1 a b ha hb]
  show nI (if a = g ∧ b = i then 0 else if a = i ∧ b = g then 0 else if (a < i ∧ b = g) ∨ (a = g ∧ b < i) then 0 else cw c a b) = nI (if (a < i + 1 ∧ b = g) ∨ (a = g ∧ b < i + 1) then 0 else cw c a b)
  congr 1
  by_cases e : (a < i + 1 ∧ b = g) ∨ (a = g ∧ b < i + 1)
  · rw [if_pos e]
    split
    · rfl
    · split
      · rfl
      · rw [if_pos (by omega)]
  · rw [if_neg e, if_neg (by omega), if_neg (by omega), if_neg (by omega)]
theorem shk_8 {f : Nat → Int32} {c : CH} (hn : 0 < cn c) (h8 : cn c ≤ 8) (h : RRow f (shk c (cn c - 1) 8)) : RRow (upd (upd f (65 + (cn c - 1)) (nI 0)) (73 + (cn c - 1)) (nI 0)) (shr c) := by
  have h2 := (h.upl (i := cn c - 1) (x := 0) (by omega)).upr (i := cn c - 1) (x := 0) (by omega)
  refine ⟨h2.1, fun a b ha hb => ?_, h2.2.2.1, h2.2.2.2⟩
  rw [h2.2.1 a b ha hb]
  show nI (if (a < 8 ∧ b = cn c - 1) ∨ (a = cn c - 1 ∧ b < 8) then 0 else cw c a b) = nI (if a = cn c - 1 ∨ b = cn c - 1 then 0 else cw c a b)
  congr 1
  by_cases e : a = cn c - 1 ∨ b = cn c - 1
  · rw [if_pos e, if_pos (by omega)]
  · rw [if_neg e, if_neg (by omega)]
section RRC
variable {A : AB} {σ : US} {p1 p2 p3 : Int32}
theorem RP.cg {σ σ' : US} {hs : List CH} (h : RP σ hs) (ha : aA σ' 2 = aA σ 2) (hi : iI σ' 1 = iI σ 1) : RP σ' hs := ⟨by rw [hi]; exact h.1, h.2.1, fun j c hj => by rw [ha]; exact h.2.2 j c hj⟩
theorem RSt.ch (ok : okA A) (C : RSt A σ) {σ' : US} {c : CH} {hs : List CH} (h : RM σ' c) (H : RP σ' hs) (ha : ∀ q, q ≠ 0 → q ≠ 2 → aA σ' q = aA σ q) (hi : ∀ k, k ≠ 1 → iI σ' k = iI σ k) : RSt (c, hs, A.2.2) σ' := by
  obtain ⟨-, -, ⟨h3, h3b⟩, h4, h5, h5b⟩ := C
  refine ⟨h, H, ⟨by rw [hi 0 (by omega)]; exact h3, fun d hd => by rw [ha 1 (by omega) (by omega)]; exact h3b d hd⟩, RF4.keep (fun q a b => ha q (by omega) (by omega)) (fun k hk => hi k (by omega)) ok.2.2.2.1.1 h4, by rw [hi 5 (by omega)]; exact h5, fun i hx => by rw [ha 17 (by omega) (by omega)]; exact h5b i hx⟩
theorem RSt.up (ok : okA A) (C : RSt A σ) {u1 : US} {hs : List CH} (P : RP u1 hs) (K : KH σ u1) {f : Nat → Int32} {c : CH} (h : RRow f c) : RSt (c, hs, A.2.2) (sA u1 0 f) :=
  RSt.ch ok C (σ' := sA u1 0 f) (by unfold RM; rw [aA_sAs]; exact h) (P.cg (aA_sAn (by omega)) rfl) (fun q h0 h2 => (aA_sAn h0).trans (K.1 q h2)) (fun k hk => K.2.1 k hk)
theorem q12_addState (ok : okA A) (C : RSt A σ) {Q : Int32 → US → Prop} (hQ : ∀ σ', RSt (g_addState A) σ' → Q (f_addState A) σ') : wp_X12_addState σ Q := by
  unfold wp_X12_addState
  unfold f_addState g_addState at hQ
  have hn := ok.1.1
  refine rd_n C.1 ?_
  rw [cl0, C.1.n]
  refine And.symm (pk_eq (cn A.1) 8 (fun h8 => ?_) (fun h8 => ?_) rfl rfl)
  · rw [if_neg (by omega), if_neg (by omega)] at hQ
    exact hQ _ C
  · rw [if_pos (by omega), if_pos (by omega)] at hQ
    refine q12_change C.1 C.2.1 (fun u1 P K => ?_)
    have e0 : aA u1 0 = aA σ 0 := K.1 0 (by omega)
    have v0 : vp_in 0 81 := vin0 (by decide) (by decide)
    refine ⟨v0, v0, fun z2 hz => ⟨v0, ?_⟩⟩
    subst hz
    have e1 : aA u1 0 0 + 1 = nI (cn A.1 + 1) := by rw [e0, C.1.n, nI_1]
    have e2 : aA (uA u1 0 0 (nI (cn A.1 + 1))) 0 0 - 1 = nI (cn A.1) := by rw [aA_sAs, pk_us, nI_pred1 (by omega)]; rfl
    rw [e1, e2]
    refine hQ _ (C.up ok P K ?_)
    rw [e0]
    exact RRow.upn (show RRow (aA σ 0) A.1 from C.1) _
theorem q12_removeState (ok : okA A) (C : RSt A σ) {Q : Int32 → US → Prop} (hQ : ∀ σ', RSt (g_removeState A) σ' → Q (f_removeState A) σ') : wp_X12_removeState σ Q := by
  unfold wp_X12_removeState
  unfold f_removeState g_removeState at hQ
  have hn := ok.1.1
  have v0 : vp_in 0 81 := vin0 (by decide) (by decide)
  refine rd_n C.1 ?_
  rw [cl0, C.1.n]
  refine And.symm (pk_eq (cn A.1) 0 (fun h8 => ?_) (fun h8 => ?_) rfl rfl)
  · rw [if_neg (by omega), if_neg (by omega)] at hQ
    exact hQ _ C
  · rw [if_pos (by omega), if_pos (by omega)] at hQ
    refine q12_change C.1 C.2.1 (fun u1 P K => ?_)
    have e0 : aA u1 0 = aA σ 0 := K.1 0 (by omega)
    refine ⟨v0, v0, fun z2 hz => ⟨v0, fun x3 hx3 => ?_⟩⟩
    have e1 : aA u1 0 0 - 1 = nI (cn A.1 - 1) := by rw [e0, C.1.n, nI_pred1 (by omega)]
    rw [e1] at hz
    have hx : x3 = nI (cn A.1 - 1) := by rw [hx3, hz, aA_sAs, pk_us]
    have hM : RRow (aA z2 0) (shk A.1 (cn A.1 - 1) 0) := by
      rw [hz, aA_sAs, e0]
      exact shk_0 (RRow.upn (show RRow (aA σ 0) A.1 from C.1) _)
    have hz2 : ∃ f, z2 = sA u1 0 f ∧ RRow f (shk A.1 (cn A.1 - 1) 0) := ⟨_, hz, by rw [hz, aA_sAs] at hM; exact hM⟩
    clear hx3 hM hz
    subst hx
    refine lpW_of (fun r (t : Int32 × US) => ∃ k, k + r = 8 ∧ t.1 = nI k ∧ ∃ f, t.2 = sA u1 0 f ∧ RRow f (shk A.1 (cn A.1 - 1) k)) (fun r t ht P2 hP => ?_) 8 _ ⟨0, rfl, rfl, hz2⟩
    obtain ⟨k, hk, ek, f, ef, hf⟩ := ht
    unfold wp_X12_removeState_L35
    rw [ek, ef, ixw, ixw, ixl, ixr]
    refine pk_le 8 k (fun h8 => ?_) (fun h8 => ?_)
    · have k8 : k = 8 := by omega
      subst k8
      refine ⟨vp_in_nI (by omega) (by decide), fun z4 hz4 => ⟨vp_in_nI (by omega) (by decide), fun z5 hz5 => ?_⟩⟩
      rw [nI_clamp (by omega)] at hz4 hz5
      subst hz4
      subst hz5
      have e3 : uA (uA (sA u1 0 f) 0 (65 + (cn A.1 - 1)) 0) 0 (73 + (cn A.1 - 1)) 0 = sA u1 0 (upd (upd f (65 + (cn A.1 - 1)) (nI 0)) (73 + (cn A.1 - 1)) (nI 0)) := by
        rw [li0]
        unfold uA sA
        simp only [kup_s]
        congr 3
        funext q
        unfold kup
        split <;> rfl
      rw [e3]
      exact hQ _ (C.up ok P K (shk_8 (by omega) hn hf))
    · refine ⟨vp_in_nI (by omega) (by decide), fun z4 hz4 => ⟨vp_in_nI (by omega) (by decide), fun z5 hz5 => ?_⟩⟩
      rw [nI_clamp (by omega)] at hz4 hz5
      subst hz4
      subst hz5
      refine hP _ (r - 1) (by omega) ⟨k + 1, by omega, nI_1 k, upd (upd f (1 + 8 * k + (cn A.1 - 1)) (nI 0)) (1 + 8 * (cn A.1 - 1) + k) (nI 0), ?_, shk_s (by omega) (by omega) hf⟩
      rw [li0]
      unfold uA sA
      simp only [kup_s]
      congr 3
      funext q
      unfold kup
      split <;> rfl
theorem q12_setWeight (ok : okA A) (C : RSt A σ) {Q : Int32 → US → Prop} (hQ : ∀ σ', RSt (g_setWeight A p1 p2 p3) σ' → Q (f_setWeight A p1 p2 p3) σ') : wp_X12_setWeight p1 p2 p3 σ Q := by
  unfold wp_X12_setWeight
  unfold f_setWeight g_setWeight at hQ
  have hn := ok.1.1
  refine q12_isStateC C.1 hn p1 (fun e => ⟨fun _ => ?_, fun hc => absurd rfl hc⟩) (fun i hi hx e => ⟨fun hc => absurd hc (by decide), fun _ => ?_⟩)
  · rw [o1_n e, o1_n e] at hQ; exact hQ _ C
  · rw [o1_s e, o1_s e] at hQ
    refine q12_isStateC C.1 hn p2 (fun e => ⟨fun _ => ?_, fun hc => absurd rfl hc⟩) (fun j hj hx2 e => ⟨fun hc => absurd hc (by decide), fun _ => ?_⟩)
    · rw [o1_n e, o1_n e] at hQ; exact hQ _ C
    · rw [o1_s e, o1_s e] at hQ
      subst hx; subst hx2
      refine q12_in0 (n := 9) (by decide) p3 (fun e => ⟨fun hc => absurd rfl hc, fun _ => ?_⟩) (fun w hw hx3 e => ⟨fun _ => ?_, fun hc => absurd hc (by decide)⟩)
      · rw [o1_n e, o1_n e] at hQ; exact hQ _ C
      · rw [o1_s e, o1_s e] at hQ
        subst hx3
        obtain ⟨v, w1⟩ := rd_w C.1 (show i < 8 by omega) (show j < 8 by omega)
        rw [ixw]
        refine ⟨v, fun x4 hx4 => ?_⟩
        rw [w1] at hx4
        subst hx4
        refine q12_toldSum C.1 (by omega) ?_
        have h2 : cw A.1 i j ≤ csum A.1 i := sumN_get (by omega)
        have h10 := ok.1.2.2.1 i
        rw [pk_sub h2, nI_add]
        refine pk_le (csum A.1 i - cw A.1 i j + w) 10 (fun hs => ?_) (fun hs => ?_)
        · rw [if_pos hs, if_pos hs] at hQ
          refine q12_change C.1 C.2.1 (fun u1 P K => ⟨v, fun z hz => ?_⟩)
          have e0 : aA u1 0 = aA σ 0 := K.1 0 (by omega)
          subst hz
          rw [nI_clamp (by omega)]
          refine hQ _ (C.up ok P K ?_)
          rw [e0]
          exact RRow.upw (show RRow (aA σ 0) A.1 from C.1) (by omega) (by omega)
        · rw [if_neg (by omega), if_neg (by omega)] at hQ
          exact hQ _ C
theorem q12_setLabels (ok : okA A) (C : RSt A σ) {Q : Int32 → US → Prop} (hQ : ∀ σ', RSt (g_setLabels A p1 p2) σ' → Q (f_setLabels A p1 p2) σ') : wp_X12_setLabels p1 p2 σ Q := by
  unfold wp_X12_setLabels
  unfold f_setLabels g_setLabels at hQ
  have hn := ok.1.1
  refine q12_isStateC C.1 hn p1 (fun e => ⟨fun _ => ?_, fun hc => absurd rfl hc⟩) (fun i hi hx e => ⟨fun hc => absurd hc (by decide), fun _ => ?_⟩)
  · rw [o1_n e, o1_n e] at hQ; exact hQ _ C
  · rw [o1_s e, o1_s e] at hQ
    subst hx
    refine q12_in0 (n := 15) (by decide) p2 (fun e => ⟨fun hc => absurd rfl hc, fun _ => ?_⟩) (fun w hw hx3 e => ⟨fun _ => ?_, fun hc => absurd hc (by decide)⟩)
    · rw [o1_n e, o1_n e] at hQ; exact hQ _ C
    · rw [o1_s e, o1_s e] at hQ
      subst hx3
      obtain ⟨v, w1⟩ := rd_l C.1 (show i < 8 by omega)
      refine q12_change C.1 C.2.1 (fun u1 P K => ?_)
      have e0 : aA u1 0 = aA σ 0 := K.1 0 (by omega)
      rw [ixl]
      refine ⟨v, fun x4 hx4 => ⟨v, fun z hz => ?_⟩⟩
      rw [e0, w1] at hx4
      subst hx4
      subst hz
      rw [nI_clamp (by omega)]
      refine hQ _ (C.up ok P K ?_)
      rw [e0]
      exact RRow.upl (show RRow (aA σ 0) A.1 from C.1) (by omega)
theorem q12_setReward (ok : okA A) (C : RSt A σ) {Q : Int32 → US → Prop} (hQ : ∀ σ', RSt (g_setReward A p1 p2) σ' → Q (f_setReward A p1 p2) σ') : wp_X12_setReward p1 p2 σ Q := by
  unfold wp_X12_setReward
  unfold f_setReward g_setReward at hQ
  have hn := ok.1.1
  refine q12_isStateC C.1 hn p1 (fun e => ⟨fun _ => ?_, fun hc => absurd rfl hc⟩) (fun i hi hx e => ⟨fun hc => absurd hc (by decide), fun _ => ?_⟩)
  · rw [o1_n e, o1_n e] at hQ; exact hQ _ C
  · rw [o1_s e, o1_s e] at hQ
    subst hx
    refine q12_in0 (n := 9) (by decide) p2 (fun e => ⟨fun hc => absurd rfl hc, fun _ => ?_⟩) (fun w hw hx3 e => ⟨fun _ => ?_, fun hc => absurd hc (by decide)⟩)
    · rw [o1_n e, o1_n e] at hQ; exact hQ _ C
    · rw [o1_s e, o1_s e] at hQ
      subst hx3
      obtain ⟨v, w1⟩ := rd_r C.1 (show i < 8 by omega)
      refine q12_change C.1 C.2.1 (fun u1 P K => ?_)
      have e0 : aA u1 0 = aA σ 0 := K.1 0 (by omega)
      rw [ixr]
      refine ⟨v, fun x4 hx4 => ⟨v, fun z hz => ?_⟩⟩
      rw [e0, w1] at hx4
      subst hx4
      subst hz
      rw [nI_clamp (by omega)]
      refine hQ _ (C.up ok P K ?_)
      rw [e0]
      exact RRow.upr (show RRow (aA σ 0) A.1 from C.1) (by omega)
theorem RRow.cpy {f g : Nat → Int32} {c : CH} {s : Nat} (h : RRow (fun x => f (s + x)) c) : RRow (va_cpy f g s 0 81) c := by
  refine RRow.congr h (fun x hx => ?_)
  rw [pk_cpy_in (by omega) (by omega)]; congr 1
theorem q12_save (ok : okA A) (C : RSt A σ) {Q : Int32 → US → Prop} (hQ : ∀ σ', RSt (g_save A) σ' → Q (f_save A) σ') : wp_X12_save σ Q := by
  unfold wp_X12_save
  unfold f_save g_save at hQ
  refine ⟨n0, n0, n81, by rw [cl0, cl81]; decide, by rw [cl0, cl81]; decide, fun z1 hz1 z2 hz2 => ⟨vin0 (by decide) (by decide), ?_⟩⟩
  rw [cl0, cl81] at hz1
  subst hz1
  subst hz2
  have e1 : aA (uI (sA σ 1 (va_cpy (aA σ 0) (aA σ 1) 0 0 81)) 0 1) 0 0 = nI (cn A.1) := C.1.n
  rw [cl0, e1]
  obtain ⟨h1, h2, ⟨h3, h3b⟩, h4, h5, h5b⟩ := C
  refine hQ _ ⟨h1, h2.cg rfl rfl, ⟨iI_uIs, fun d hd => ?_⟩, RF4.keep (fun q a b => aA_sAn (by omega)) (fun k hk => iI_uIn (by omega)) ok.2.2.2.1.1 h4, h5, h5b⟩
  have hd : A.1 = d := Option.some.inj hd
  subst hd
  show RRow (aA (sA σ 1 _) 1) _
  rw [aA_sAs]
  refine RRow.cpy ?_
  simp only [Nat.zero_add]
  exact h1
theorem q12_restore (ok : okA A) (C : RSt A σ) {Q : Int32 → US → Prop} (hQ : ∀ σ', RSt (g_restore A) σ' → Q (f_restore A) σ') : wp_X12_restore σ Q := by
  unfold wp_X12_restore
  unfold f_restore g_restore at hQ
  obtain ⟨e1, hd⟩ := C.2.2.1
  rw [e1]
  cases h : A.2.2.1 with
  | none =>
    rw [h] at hQ
    exact ⟨fun hc => absurd rfl hc, fun _ => hQ _ C⟩
  | some d =>
    rw [h] at hQ
    refine ⟨fun _ => ?_, fun hc => absurd hc (show ¬ (1 : Int32) = 0 by decide)⟩
    refine q12_change C.1 C.2.1 (fun u1 P K => ?_)
    refine ⟨n0, n0, n81, by rw [cl0, cl81]; decide, by rw [cl0, cl81]; decide, fun z1 hz1 => ⟨vin0 (by decide) (by decide), ?_⟩⟩
    rw [cl0, cl81] at hz1
    subst hz1
    have hr : RRow (va_cpy (aA u1 1) (aA u1 0) 0 0 81) d := by
      refine RRow.cpy ?_
      simp only [Nat.zero_add]
      rw [K.1 1 (by omega)]
      exact hd d h
    have e2 : aA (sA u1 0 (va_cpy (aA u1 1) (aA u1 0) 0 0 81)) 0 0 = nI (cn d) := by rw [aA_sAs]; exact hr.1
    rw [cl0, e2]
    exact hQ _ (C.up ok P K hr)
theorem q12_undo (ok : okA A) (C : RSt A σ) {Q : Int32 → US → Prop} (hQ : ∀ σ', RSt (g_undo A) σ' → Q (f_undo A) σ') : wp_X12_undo σ Q := by
  unfold wp_X12_undo
  unfold f_undo g_undo at hQ
  obtain ⟨e1, hl, hR⟩ := C.2.1
  cases h : A.2.1 with
  | nil =>
    rw [h] at hQ e1
    rw [e1]
    exact ⟨fun hc => absurd rfl hc, fun _ => hQ _ C⟩
  | cons c hs =>
    rw [h] at hQ e1 hl hR
    have hl8 : hs.length + 1 ≤ 8 := by simpa using hl
    have e1 : iI σ 1 = nI (hs.length + 1) := by simpa using e1
    refine And.symm (pk_eq (hs.length + 1) 0 (fun h8 => by omega) (fun h8 => ?_) e1 rfl)
    intro z1 hz1
    have ez : iI z1 1 = nI hs.length := by rw [hz1, iI_uIs, e1, nI_pred1 (by omega)]; rfl
    rw [ez, m81]
    refine ⟨nn (by omega), n0, n81, by rw [cl81, nI_clamp (by omega)]; omega, by rw [cl0, cl81]; decide, fun z2 hz2 => ?_⟩
    rw [cl0, cl81, nI_clamp (by omega)] at hz2
    subst hz2
    have e3 : iI (sA z1 0 (va_cpy (aA z1 2) (aA z1 0) (81 * hs.length) 0 81)) 1 = nI hs.length := ez
    rw [e3]
    subst hz1
    have h0 := hR 0 c rfl
    refine hQ _ (RSt.ch ok C (c := c) (hs := hs) ?_ ⟨ez, by omega, fun j d hj => ?_⟩ (fun q h0 h2 => aA_sAn h0) (fun k hk => iI_uIn hk))
    · unfold RM
      rw [aA_sAs]
      refine RRow.cpy ?_
      have e4 : (c :: hs).length - 1 - 0 = hs.length := by simp
      rw [e4] at h0
      exact h0
    · have h2 := hR (j + 1) d (by simpa using hj)
      have e5 : (c :: hs).length - 1 - (j + 1) = hs.length - 1 - j := by simp; omega
      rw [e5] at h2
      rw [aA_sAn (by omega)]
      exact h2
end RRC
