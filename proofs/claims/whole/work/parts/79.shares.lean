/-! ===== the reference's shares are the cofactors ===== -/
theorem dd_congr {n : Nat} {A B : Nat → Nat → Int} (h : ∀ r q, r < n → q < n → A r q = B r q) : dd n A n = dd n B n := by
  unfold dd
  refine dt_same (fun j hj r hr => ?_)
  have hj2 := List.mem_range.mp hj
  unfold Bk
  rw [if_pos hj2, if_pos hj2]
  exact h r j (List.mem_range.mp hr) hj2
section SH
variable {σ : US} {c : CH} {S : Nat → Bool}
theorem ul_less {P Q : List Nat} {k n : Nat} (h : ul S n = P ++ k :: Q) (hP : k ∉ P) (hQ : k ∉ Q) : ul (lessS S k) n = P ++ Q := by
  have e : ul (lessS S k) n = (ul S n).filter (fun i => !(i == k)) := by
    unfold ul lessS
    rw [List.filter_filter]
    exact List.filter_congr (fun a _ => Bool.and_comm _ _)
  have keep : ∀ l : List Nat, k ∉ l → l.filter (fun i => !(i == k)) = l := fun l hl => List.filter_eq_self.mpr (fun a ha => by
    have : a ≠ k := fun z => hl (by rw [← z]; exact ha)
    simp [this])
  rw [e, h, List.filter_append, List.filter_cons_of_neg (by simp), keep P hP, keep Q hQ]
theorem cof_dd (ok : okC c) (hS : BC c S) {k : Nat} (hk : S k = true) : cof (ul S (cn c)) (LC c) k = dd (ul (lessS S k) (cn c)).length (RB c (ul (lessS S k) (cn c)) (fun _ => 0)) (ul (lessS S k) (cn c)).length := by
  obtain ⟨P, Q, h, hP, hQ⟩ := parted (ul_nd S (cn c)) (ul_mem.mpr ⟨hS.1 k hk, hk⟩)
  have hl := ul_less h hP hQ
  have hl8 : (ul (lessS S k) (cn c)).length ≤ 8 := Nat.le_trans (ul_len _ _) ok.1
  rw [h, cof_less hP hQ, ← hl]
  have e := un_map (ul (lessS S k) (cn c))
  have h2 := dt_re (un (ul (lessS S k) (cn c))) (ul (lessS S k) (cn c)).length (LC c)
  rw [e] at h2
  rw [h2]
  refine dd_congr (fun r q hr hq => ?_)
  rw [RB_i hq hl8]
  unfold LC
  by_cases hrq : r = q
  · subst hrq; rw [if_pos rfl, if_pos rfl]
  · rw [if_neg hrq, if_neg (fun z => hrq (un_inj (ul_nd _ _) hr hq z))]
theorem less_U (hS : BC c S) {k : Nat} : ∀ i, lessS S k i = true → i < cn c := fun i hi => hS.1 i (lessS_iff.mp hi).1
theorem cof_bd (ok : okC c) (hS : BC c S) {k : Nat} (hk : S k = true) : 0 < cof (ul S (cn c)) (LC c) k ∧ cof (ul S (cn c)) (LC c) k ≤ 10 ^ (ul (lessS S k) (cn c)).length := by
  rw [cof_dd ok hS hk]
  obtain ⟨h1, h2, _⟩ := RB_lim (b := fun _ => 0) ok (less_U hS) (less_lk ok hS hk) _ (Nat.le_refl _)
  exact ⟨h1, h2⟩
/-- how much a state has of the visits -/
def vis (c : CH) (S : Nat → Bool) (k : Nat) : Nat := if S k then (cof (ul S (cn c)) (LC c) k).toNat * cdiv c k else 0
theorem q12_findShares (h : RM σ c) (ok : okC c) (hS : BC c S) {Q : Int64 → US → Prop} (hQ : ∀ σ', KeepM σ σ' → (∀ k, k < cn c → aB σ' 3 k = lN (vis c S k)) → Q (lN (sumN (vis c S) (cn c))) σ') : wp_X12_findShares (nI (mk S)) σ Q := by
  unfold wp_X12_findShares
  have hn := ok.1
  refine lp_inv (cn c) (fun k t => ∃ z, t = (lN (sumN (vis c S) k), nI k, z) ∧ KeepM σ z ∧ ∀ i, i < k → aB z 3 i = lN (vis c S i)) ?_ _ ⟨σ, rfl, KeepM.rf σ, fun i hi => absurd hi (Nat.not_lt_zero _)⟩
  rintro k t hk ⟨z, rfl, hkz, hz⟩ P hP
  unfold wp_X12_findShares_L5
  have hRz := hkz.rm h
  dsimp only
  refine rd_n hRz ?_
  rw [cl0, hRz.n]
  refine pk_le (cn c) k (fun hk2 => ?_) (fun hk2 => ⟨pk_in k 8 (by omega), fun z1 hz1 => ?_⟩)
  · have : k = cn c := by omega
    subst this; exact hQ z hkz hz
  · rw [nI_clamp (by omega)] at hz1
    subst hz1
    have hK1 : KeepM z (uB z 3 k 0) := ⟨fun _ _ _ _ _ => rfl, fun _ _ _ => rfl⟩
    have hold : ∀ i, i < k → aB (uB z 3 k 0) 3 i = lN (vis c S i) := fun i hi => by
      rw [aB_sB]; exact (if_neg (by omega)).trans (hz i hi)
    have hnew : aB (uB z 3 k 0) 3 k = 0 := by rw [aB_sB]; exact if_pos rfl
    have hK := hkz.tr hK1
    generalize uB z 3 k 0 = z1 at hK1 hold hnew hK
    have hR1 := hK.rm h
    refine q12_has (by omega) (br_b (fun hb => ?_) (fun hb => ?_))
    · rw [li1, nI_add]
      have hv : vis c S k = 0 := by unfold vis; rw [hb]; rfl
      refine hP hk2 _ ⟨z1, by rw [sumN_s, hv]; rfl, hK, fun i hi => ?_⟩
      by_cases hik : i = k
      · subst hik; rw [hnew, hv]; rfl
      · exact hold i (by omega)
    · rw [sI_clr S (by omega)]
      show wp_X12_begin (nI (mk (lessS S k))) z1 _
      have hLK := less_lk ok hS hb
      have hU := less_U (c := c) (k := k) hS
      have hcd := cof_dd ok hS hb
      obtain ⟨cb1, cb2⟩ := cof_bd ok hS hb
      have hl := ul8 ok hU
      refine q12_begin hR1 ok (fun z3 hk3 hun3 hA3 => ?_)
      have hA : AQ (ul (lessS S k) (cn c)).length z3 (RB c (ul (lessS S k) (cn c)) (fun _ => 0)) := hA3.of (fun r q hr hq => by
        by_cases h8 : q = 8
        · subst h8
          rw [RB_8]; unfold RA
          rw [if_neg (show ¬ r = 8 by omega), if_neg (by omega)]; rfl
        · rw [RB_q h8])
      have hz0 : ∀ p i, i < (ul (lessS S k) (cn c)).length → MM (ul (lessS S k) (cn c)).length (RB c (ul (lessS S k) (cn c)) (fun _ => 0)) p i 8 = 0 := fun p i hi => MM_zero (A := RB c (ul (lessS S k) (cn c)) (fun _ => 0)) (j := 8) (fun r _ => RB_8 (c := c) (l := ul (lessS S k) (cn c)) (b := fun _ => 0) (r := r)) hi
      have hrun := RB_run (b := fun _ => 0) ok hU hLK (X := 0) (fun p a q hp ha hq hq8 => RB_zero hl hq hq8 ha) (fun p a hp ha => by rw [hz0 (p + 1) a ha]; decide) (by rw [Int.mul_zero]; decide)
      refine q12_solve hl hun3.1 hA hrun.1 hrun.2 (fun z4 hk4 _ hj4 => ?_)
      rw [← hcd] at hj4
      have hlen := Nat.le_trans (ul_len (lessS S k) (cn c)) hn
      have cb3 : cof (ul S (cn c)) (LC c) k ≤ 10 ^ 8 := Int.le_trans cb2 (pow_le_i hlen)
      have ej : lJ z4 2 = lN (cof (ul S (cn c)) (LC c) k).toNat := by rw [hj4]; exact lI_nn (by omega)
      rw [ej, lg_cmp_ge, li64_0, pk_lLE (by decide) (by omega)]
      refine ⟨fun _ => ?_, fun zz => absurd (Nat.zero_le _) zz⟩
      unfold wp_X12_findShares_J76
      have hK4 : KeepM σ z4 := (hK.tr hk3.keep).tr hk4.keep
      have d1 := cdiv_le ok k
      have hv : vis c S k = (cof (ul S (cn c)) (LC c) k).toNat * cdiv c k := by unfold vis; rw [if_pos hb]
      refine q12_sumOf (hK4.rm h) ok (by omega) ⟨pk_in k 8 (by omega), fun z6 hz6 => ⟨pk_in k 8 (by omega), fun x7 hx7 => ?_⟩⟩
      rw [nI_clamp (by omega), nI_t64 (by omega), lN_mul, ← hv] at hz6
      subst hz6
      rw [nI_clamp (by omega), aB_sB] at hx7
      have e7 : vp_updL (aB z4 3) k (lN (vis c S k)) k = lN (vis c S k) := if_pos rfl
      rw [e7, lN_add] at hx7
      subst hx7
      rw [li1, nI_add]
      refine hP hk2 _ ⟨uB z4 3 k (lN (vis c S k)), by rw [sumN_s], hK4.tr ⟨fun _ _ _ _ _ => rfl, fun _ _ _ => rfl⟩, fun i hi => ?_⟩
      rw [aB_sB]
      by_cases hik : i = k
      · subst hik; exact if_pos rfl
      · refine (if_neg hik).trans ?_
        have e3 : aB z4 3 = aB z1 3 := (hk4.2.2.2 3 (by decide)).trans (hk3.2.2.2 3 (by decide))
        rw [e3]; exact hold i (by omega)
end SH
