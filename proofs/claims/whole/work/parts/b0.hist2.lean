/-! ===== the history: the class's ring and the reference's row hold the same chains, the latest first ===== -/
def RH (η : US) (kp : Nat → US) (hs : List CH) : Prop := ∃ i : Nat, i < 8 ∧ iI η 0 = nI i ∧ iI η 1 = nI hs.length ∧ hs.length ≤ 8 ∧ ∀ (j : Nat) (c : CH), hs[j]? = some c → RC (kp ((i + 7 - j) % 8)) c
def push (c : CH) (hs : List CH) : List CH := (c :: hs).take 8
theorem push_len (c : CH) (hs : List CH) (h : hs.length ≤ 8) : (push c hs).length = if hs.length < 8 then hs.length + 1 else 8 := by
  unfold push
  rw [List.length_take, List.length_cons]
  split <;> omega
theorem push_0 (c : CH) (hs : List CH) : (push c hs)[0]? = some c := rfl
theorem push_s {c d : CH} {hs : List CH} {j : Nat} (h : (push c hs)[j + 1]? = some d) : j < 7 ∧ hs[j]? = some d := by
  unfold push at h
  rw [List.getElem?_take] at h
  split at h
  · exact ⟨by omega, by simpa using h⟩
  · cases h
theorem q6_record {η κ : US} {kp : Nat → US} {hs : List CH} {c : CH} (H : RH η kp hs) (h : RC κ c) {Q : US × (Nat → US) → Prop} (hQ : ∀ η' kp', RH η' kp' (push c hs) → Q (η', kp')) : wp_X6_record η kp κ Q := by
  obtain ⟨i, hi, e0, e1, hl, hR⟩ := H
  unfold wp_X6_record
  refine ⟨i, hs.length, hi, hl, e0, e1, q2_copyFrom h (fun k1 hk1 η1 h0 h1 => hQ _ _ ⟨(i + 1) % 8, Nat.mod_lt _ (by omega), h0, ?_, ?_, ?_⟩)⟩
  · rw [h1, push_len c hs hl]
  · rw [push_len c hs hl]; split <;> omega
  · intro j d hj
    cases j with
    | zero =>
      rw [push_0] at hj
      cases hj
      have e : ((i + 1) % 8 + 7 - 0) % 8 = i := by omega
      rw [e, kup_s]; exact hk1
    | succ j =>
      obtain ⟨h7, h2⟩ := push_s hj
      have e : ((i + 1) % 8 + 7 - (j + 1)) % 8 = (i + 7 - j) % 8 := by omega
      rw [e, kup_n (by omega)]; exact hR j d h2
theorem q6_takeBack {η κ : US} {kp : Nat → US} {hs : List CH} (H : RH η kp hs) {Q : Int32 → US × US → Prop} (h0 : hs = [] → Q 0 (η, κ)) (h1 : ∀ c hs', hs = c :: hs' → ∀ η' κ', RH η' kp hs' → RC κ' c → Q 1 (η', κ')) : wp_X6_takeBack η kp κ Q := by
  obtain ⟨i, hi, e0, e1, hl, hR⟩ := H
  unfold wp_X6_takeBack
  refine ⟨i, hs.length, hi, hl, e0, e1, fun hz => h0 (List.length_eq_zero_iff.mp hz), fun hp => ?_⟩
  cases hs with
  | nil => exact absurd hp (by simp)
  | cons c hs' =>
    have hc := hR 0 c rfl
    rw [Nat.sub_zero] at hc
    refine q2_copyFrom hc (fun k1 hk1 η1 g0 g1 => h1 c hs' rfl _ _ ⟨(i + 7) % 8, Nat.mod_lt _ (by omega), g0, ?_, ?_, ?_⟩ hk1)
    · rw [g1, List.length_cons]; congr 1
    · rw [List.length_cons] at hl; omega
    · intro j d hj
      have h2 := hR (j + 1) d (by simpa using hj)
      have hj8 : j + 1 < (c :: hs').length := (List.getElem?_eq_some_iff.mp (show (c :: hs')[j + 1]? = some d by simpa using hj)).1
      have e : ((i + 7) % 8 + 7 - j) % 8 = (i + 7 - (j + 1)) % 8 := by omega
      rw [e]; exact h2
def RP (σ : US) (hs : List CH) : Prop := iI σ 1 = nI hs.length ∧ hs.length ≤ 8 ∧ ∀ (j : Nat) (c : CH), hs[j]? = some c → RRow (fun x => aA σ 2 (81 * (hs.length - 1 - j) + x)) c
theorem RRow.congr {f g : Nat → Int32} {c : CH} (h : RRow f c) (e : ∀ x, x < 81 → g x = f x) : RRow g c := by
  refine ⟨by rw [e 0 (by omega)]; exact h.1, fun i j hi hj => ?_, fun i hi => ?_, fun i hi => ?_⟩
  · rw [e _ (by omega)]; exact h.2.1 i j hi hj
  · rw [e _ (by omega)]; exact h.2.2.1 i hi
  · rw [e _ (by omega)]; exact h.2.2.2 i hi
theorem cl81 : (81 : Int32).toNatClampNeg = 81 := by decide
theorem cl567 : (567 : Int32).toNatClampNeg = 567 := by decide
theorem n0 : ¬ (0 : Int32) < 0 := by decide
theorem n81 : ¬ (81 : Int32) < 0 := by decide
theorem nn {a : Nat} (h : a < 2 ^ 31) : ¬ nI a < 0 := by rw [li0, nI_ltI h (by decide)]; omega
theorem m81 (a : Nat) : (81 : Int32) * nI a = nI (81 * a) := by rw [li81, pk_mul]
/-- what a change of the reference leaves: all but the rows of the past and their number -/
def KH (σ σ' : US) : Prop := (∀ q, q ≠ 2 → aA σ' q = aA σ q) ∧ (∀ k, k ≠ 1 → iI σ' k = iI σ k) ∧ σ'.2.1 = σ.2.1 ∧ σ'.2.2.2 = σ.2.2.2
theorem iI_uIn {σ : US} {k j : Nat} {x : Int32} (h : j ≠ k) : iI (uI σ k x) j = iI σ j := if_neg h
theorem iI_uIs {σ : US} {k : Nat} {x : Int32} : iI (uI σ k x) k = x := if_pos rfl
theorem aA_sAn {σ : US} {k j : Nat} {f : Nat → Int32} (h : j ≠ k) : aA (sA σ k f) j = aA σ j := if_neg h
theorem aA_sAs {σ : US} {k : Nat} {f : Nat → Int32} : aA (sA σ k f) k = f := if_pos rfl
theorem q12_changeJ {σ : US} {hs : List CH} {c : CH} (h : RM σ c) (H : RP σ hs) (h8 : hs.length < 8) {Q : US → Prop} (hQ : ∀ σ', RP σ' (c :: hs) → KH σ σ' → Q σ') : wp_X12_change_J36 σ Q := by
  obtain ⟨e1, hl, hR⟩ := H
  unfold wp_X12_change_J36
  rw [e1, m81]
  refine ⟨n0, nn (by omega), n81, by rw [cl81]; decide, by rw [cl81, nI_clamp (by omega)]; omega, fun z1 hz1 z2 hz2 => ?_⟩
  rw [cl81, cl0, nI_clamp (by omega)] at hz1
  subst hz1
  subst hz2
  refine hQ _ ⟨?_, by simp; omega, ?_⟩ ⟨fun q hq => aA_sAn hq, fun k hk => iI_uIn hk, rfl, rfl⟩
  · refine Eq.trans iI_uIs ?_
    show iI σ 1 + 1 = _
    rw [e1, li1, nI_add]; rfl
  · intro j d hj
    show RRow (fun x => aA (sA σ 2 _) 2 (81 * ((c :: hs).length - 1 - j) + x)) d
    rw [aA_sAs, List.length_cons]
    cases j with
    | zero =>
      cases hj
      refine RRow.congr h (fun x hx => ?_)
      rw [pk_cpy_in (by omega) (by omega)]
      congr 1; omega
    | succ j =>
      have hj : hs[j]? = some d := by simpa using hj
      have hlt : j < hs.length := (List.getElem?_eq_some_iff.mp hj).1
      refine RRow.congr (hR j d hj) (fun x hx => ?_)
      rw [pk_cpy_out (Or.inl (by omega))]
      congr 1; omega
theorem q12_change {σ : US} {hs : List CH} {c : CH} (h : RM σ c) (H : RP σ hs) {Q : US → Prop} (hQ : ∀ σ', RP σ' (push c hs) → KH σ σ' → Q σ') : wp_X12_change σ Q := by
  obtain ⟨e1, hl, hR⟩ := H
  unfold wp_X12_change
  refine And.symm (pk_eq hs.length 8 (fun h8 => ?_) (fun h8 => ?_) e1 rfl)
  · refine ⟨n81, n0, by decide, by rw [cl81, cl567]; decide, by rw [cl0, cl567]; decide, fun z3 hz3 z4 hz4 => ?_⟩
    rw [cl81, cl567, cl0] at hz3
    have hz4 : z4 = uI z3 1 (nI 7) := by
      rw [hz4]; congr 1
      rw [hz3]; show iI σ 1 - 1 = _
      rw [e1, h8]; rfl
    have hm : RM z4 c := by subst hz4; subst hz3; exact h
    have hs7 : hs.take 7 ++ [] = hs.take 7 := by simp
    refine q12_changeJ (hs := hs.take 7) hm ⟨?_, ?_, ?_⟩ (by rw [List.length_take]; omega) (fun σ' hP hK => hQ _ ?_ ?_)
    · subst hz4
      rw [List.length_take]
      refine Eq.trans iI_uIs ?_
      congr 1; omega
    · rw [List.length_take]; omega
    · intro j d hj
      rw [List.getElem?_take] at hj
      split at hj
      · rename_i hj7
        refine RRow.congr (hR j d hj) (fun x hx => ?_)
        subst hz4
        subst hz3
        show aA (sA σ 2 _) 2 _ = _
        rw [aA_sAs, List.length_take]
        rw [pk_cpy_in (by omega) (by omega)]
        congr 1; omega
      · cases hj
    · have e : push c hs = c :: hs.take 7 := rfl
      rw [e]; exact hP
    · subst hz4
      subst hz3
      refine ⟨fun q hq => (hK.1 q hq).trans (aA_sAn hq), fun k hk => (hK.2.1 k hk).trans (iI_uIn hk), hK.2.2.1, hK.2.2.2⟩
  · refine q12_changeJ h ⟨e1, hl, hR⟩ (by omega) (fun σ' hP hK => hQ _ ?_ hK)
    have e : push c hs = c :: hs := by
      unfold push
      exact List.take_of_length_le (by rw [List.length_cons]; omega)
    rw [e]; exact hP
theorem KH.rm {σ σ' : US} {c : CH} (h : KH σ σ') (hR : RM σ c) : RM σ' c := by
  unfold RM at hR ⊢
  rw [h.1 0 (by omega)]; exact hR
