/-! ===== the chances to come to a component: all states that are in none as unknowns ===== -/
noncomputable def uT (c : CH) (i : Nat) : Bool := decide (i < cn c) && !bot c i
section ST
variable {c : CH} {C : Nat → Bool}
theorem uT_lt (i : Nat) (h : uT c i = true) : i < cn c := by unfold uT at h; simp at h; exact h.1
theorem UA_tr (ok : okC c) {U : Nat → Bool} {b : Nat → Int} (hL : LK c U) {i : Nat} (hi : i < 8) (hu : U i = false) : MM 8 (UA c U b) 8 i 8 = dd 8 (UA c U b) 8 * b i := by
  have ht := (triv_row (A := UA c U b) hi (fun j hj => UA_triv (b := b) hi (by rw [hu]; rfl) j hj) (fun q hq => (UA_lim (b := b) ok hL q hq).1) 8 8 (Nat.le_refl 8)).2
  rw [UA_8] at ht; exact ht
/-- an until is at most 1 -/
theorem until_le1 (ok : okC c) {F G : Nat → Bool} (hG : ∀ b, G b = true → b < cn c) {i : Nat} (hi : i < 8) : MM 8 (UA c (uU c F G) (bU G)) 8 i 8 ≤ dd 8 (UA c (uU c F G) (bU G)) 8 := by
  have hLK := uU_lk (F := F) ok hG
  obtain ⟨w, hw, hW⟩ := UA_wts (b := bU G) ok hLK
  have h1 := (right1 (UA_dom ok) hw hW (b := 8) (sc := 1) (by decide) (fun r hr => by
    rw [UA_8, UA_row ok hr]
    have := bU_ok (c := c) F G r hr
    split
    · rename_i hu; rw [if_pos hu] at this; omega
    · rename_i hu; rw [if_neg hu] at this; omega) 8 (Nat.le_refl 8) i hi).2
  have h2 : sL (MM 8 (UA c (uU c F G) (bU G)) 8 i) (List.range 8) = dd 8 (UA c (uU c F G) (bU G)) 8 := by
    rw [sL_one (nd_n 8) (mem_n hi) (fun j hj hne => by
      rw [MM_done (List.mem_range.mp hj) (Nat.le_refl 8) hi]; exact if_neg (Ne.symm hne))]
    rw [MM_done hi (Nat.le_refl 8) hi]; exact if_pos rfl
  rw [h2] at h1
  omega
theorem trans_eq (ok : okC c) (hLT : LK c (uT c)) (hG : ∀ b, C b = true → b < cn c) (hC : ∀ i, C i = true → bot c i = true) (hN : ∀ r, bot c r = true → C r = false → can c (allS c) C r = false) {i : Nat} (hi : i < 8) : MM 8 (UA c (uU c (allS c) C) (bU C)) 8 i 8 * dd 8 (UA c (uT c) (bU C)) 8 = dd 8 (UA c (uU c (allS c) C) (bU C)) 8 * MM 8 (UA c (uT c) (bU C)) 8 i 8 := by
  have hL1 := uU_lk (F := allS c) ok hG
  have h8 := ok.1
  refine unique (n := 8) (A := UA c (uT c) (bU C)) (b := 8) (E := dd 8 (UA c (uU c (allS c) C) (bU C)) 8) (Y := fun j => MM 8 (UA c (uU c (allS c) C) (bU C)) 8 j 8) (fun r hr => ?_) hi
  rw [UA_8]
  have ztr : ∀ j, j < 8 → uU c (allS c) C j = false → C j = false → MM 8 (UA c (uU c (allS c) C) (bU C)) 8 j 8 = 0 := fun j hj hu hc => by
    rw [UA_tr ok hL1 hj hu]
    unfold bU; rw [hc]; simp
  cases hT : uT c r
  · rw [sL_one (nd_n 8) (mem_n hr) (fun j hj hne => by
      rw [UA_j (List.mem_range.mp hj), hT]
      show (if r = j then (1 : Int) else 0) * _ = 0
      rw [if_neg (Ne.symm hne), Int.zero_mul])]
    rw [UA_j hr, hT]
    show (if r = r then (1 : Int) else 0) * _ = _
    rw [if_pos rfl, Int.one_mul]
    have hu : uU c (allS c) C r = false := by
      cases hx : uU c (allS c) C r
      · rfl
      · obtain ⟨h1, h2⟩ := uU_iff.mp hx
        have hrn := (can_iff.mp h1).2
        have hb : bot c r = true := by
          unfold uT at hT
          simpa [hrn] using hT
        rw [hN r hb h2] at h1; exact absurd h1 (by decide)
    exact UA_tr ok hL1 hr hu
  · have hrn := uT_lt r hT
    have hCr : C r = false := by
      cases hx : C r
      · rfl
      · have := hC r hx
        unfold uT at hT
        rw [this] at hT; simp at hT
    have e0 : bU C r = 0 := by unfold bU; rw [hCr]; rfl
    rw [e0, Int.mul_zero]
    cases hu : uU c (allS c) C r
    · -- nothing of it leads there
      have hcan : can c (allS c) C r = false := by
        cases hx : can c (allS c) C r
        · rfl
        · rw [uU_iff.mpr ⟨hx, hCr⟩] at hu; exact absurd hu (by decide)
      refine sL_0 (fun j hj => ?_)
      have hj8 := List.mem_range.mp hj
      rw [UA_j hj8, hT, if_pos rfl]
      by_cases hrj : r = j
      · subst hrj
        rw [ztr r hr hu hCr, Int.mul_zero]
      · rw [if_neg hrj]
        rcases Nat.eq_zero_or_pos (cst c r j) with h0 | h0
        · rw [h0]; simp
        · have hjn : j < cn c := by
            rcases Nat.lt_or_ge j (cn c) with h1 | h1
            · exact h1
            · rw [cst_out ok hrn h1] at h0; omega
          have hcj : can c (allS c) C j = false := by
            cases hx : can c (allS c) C j
            · rfl
            · have h1 := (can_iff.mp hx).1
              have : can c (allS c) C r = true := can_iff.mpr ⟨fun S a b => b r j hrn hjn (by unfold allS; simp [hrn]) (h1 S a b) (suc_iff.mpr h0), hrn⟩
              rw [this] at hcan; exact absurd hcan (by decide)
          have hCj : C j = false := by
            cases hx : C j
            · rfl
            · rw [can_goal hx hjn] at hcj; exact absurd hcj (by decide)
          have huj : uU c (allS c) C j = false := by unfold uU; rw [hcj]; rfl
          rw [ztr j hj8 huj hCj, Int.mul_zero]
    · have h1 := solved (n := 8) (A := UA c (uU c (allS c) C) (bU C)) (b := 8) hr
      rw [UA_8, e0, Int.zero_mul] at h1
      refine Eq.trans (sL_congr (fun j hj => ?_)) h1.symm
      rw [UA_j (List.mem_range.mp hj), UA_j (List.mem_range.mp hj), hT, hu]
end ST
