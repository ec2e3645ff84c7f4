/-! ===== the class's systems are linear in their right sides ===== -/
section LI
variable {c : CH} {U : Nat → Bool}
theorem UA_dd (b b' : Nat → Int) : dd 8 (UA c U b) 8 = dd 8 (UA c U b') 8 := dd_congr (fun r q _ hq => by rw [UA_j hq, UA_j hq])
theorem UA_at (b : Nat → Int) (i : Nat) : MM 8 (UA c U b) 8 i 8 = dt (List.range 8) (List.range 8) (up (Bk (UA c U (fun _ => 0)) 8) i b) := by
  unfold MM
  refine dt_same (fun j hj r hr => ?_)
  have hj8 := List.mem_range.mp hj
  by_cases hji : j = i
  · subst hji
    rw [up_s, up_s]
    exact UA_8
  · rw [up_n _ _ hji, up_n _ _ hji]
    unfold Bk
    rw [if_pos hj8, if_pos hj8]
    show UA c U b r j = UA c U (fun _ => 0) r j
    rw [UA_j hj8, UA_j hj8]
theorem UA_sum {b : Nat → Int} {x : Nat → Int} {bb : Nat → Nat → Int} {L : List Nat} (hb : ∀ r, r < 8 → b r = sL (fun k => x k * bb k r) L) {i : Nat} (hi : i < 8) : MM 8 (UA c U b) 8 i 8 = sL (fun k => x k * MM 8 (UA c U (bb k)) 8 i 8) L := by
  rw [UA_at]
  have h1 : dt (List.range 8) (List.range 8) (up (Bk (UA c U (fun _ => 0)) 8) i b) = dt (List.range 8) (List.range 8) (up (Bk (UA c U (fun _ => 0)) 8) i (fun r => sL (fun k => x k * bb k r) L)) := dt_same (fun j _ r hr => by
    by_cases hji : j = i
    · subst hji; rw [up_s, up_s]; exact hb r (List.mem_range.mp hr)
    · rw [up_n _ _ hji, up_n _ _ hji])
  rw [h1, dt_sum _ (nd_n 8) (mem_n hi) _ x bb L]
  exact sL_congr (fun k _ => by rw [UA_at])
end LI
