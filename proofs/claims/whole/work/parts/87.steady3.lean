/-! ===== the right side of the class's last system ===== -/
noncomputable def xS (c : CH) (G : Nat → Bool) (k : Nat) : Int := if lowb c k then ((scl c G 8 / den c G k * num c G k : Nat) : Int) else 0
noncomputable def bS (c : CH) (G : Nat → Bool) (r : Nat) : Int := sL (fun k => xS c G k * bU (cmp c k) r) (List.range 8)
section S3
variable {c : CH} {G : Nat → Bool}
theorem tc_card (U : Nat → Bool) : ∀ n, tc (fun k => !U k) n = sumN (fun i => if U i then 1 else 0) n
  | 0 => rfl
  | n + 1 => by
    rw [sumN_s, ← tc_card U n]
    show (if (!U n) = true then _ else _) = _
    cases U n <;> rfl
theorem uT_inB (ok : okC c) : tc (fun k => !uT c k) 8 + card (inB c 8) ≤ 8 := by
  rw [tc_card]
  unfold card
  rw [← sumN_add]
  have := sumN_le (f := fun i => (if uT c i then 1 else 0) + (if inB c 8 i then 1 else 0)) (b := 1) (n := 8) (fun i _ => by
    cases h1 : uT c i
    · simp; split <;> omega
    · cases h2 : inB c 8 i
      · simp
      · obtain ⟨j, _, h3, h4⟩ := inB_iff.mp h2
        have := cmp_bot (lowb_iff.mp h3).1 h4
        unfold uT at h1
        rw [this] at h1; simp at h1)
  omega
theorem bS_low {k r : Nat} (hk8 : k < 8) (hk : lowb c k = true) (hr : cmp c k r = true) : bS c G r = ((scl c G 8 / den c G k * num c G k : Nat) : Int) := by
  unfold bS
  rw [sL_one (nd_n 8) (mem_n hk8) (fun q hq hne => ?_)]
  · unfold xS bU; rw [if_pos hk, if_pos hr, Int.mul_one]
  · unfold xS bU
    cases hl : lowb c q
    · simp
    · cases hc : cmp c q r
      · simp
      · have e : cmp c q k = true := cmp_tr hc (cmp_sy hr)
        rcases Nat.lt_or_ge q k with h1 | h1
        · rw [(lowb_iff.mp hk).2 q h1] at e; exact absurd e (by decide)
        · have := (lowb_iff.mp hl).2 k (by omega)
          rw [cmp_sy e] at this; exact absurd this (by decide)
theorem bS_no {r : Nat} (hr : bot c r = false) : bS c G r = 0 := by
  unfold bS
  refine sL_0 (fun q _ => ?_)
  unfold xS bU
  cases hl : lowb c q
  · simp
  · cases hc : cmp c q r
    · simp
    · have := cmp_bot (lowb_iff.mp hl).1 hc
      rw [hr] at this; exact absurd this (by decide)
end S3
