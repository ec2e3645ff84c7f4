/-! ===== how great the shares' denominators are ===== -/
section SC
variable {c : CH} {S : Nat → Bool}
theorem ul_card (S : Nat → Bool) : ∀ n, (ul S n).length = sumN (fun i => if S i then 1 else 0) n
  | 0 => rfl
  | n + 1 => by
    rw [sumN_s, ← ul_card S n]
    cases h : S n
    · rw [ul_f h]; rfl
    · rw [ul_t h, List.length_append]; rfl
theorem card_ul (ok : okC c) (hS : ∀ i, S i = true → i < cn c) : (ul S (cn c)).length = card S := by
  have h := ul_ext hS (8 - cn c)
  rw [show cn c + (8 - cn c) = 8 by have := ok.1; omega] at h
  rw [← h, ul_card]; rfl
theorem less_len (hS : BC c S) {k : Nat} (hk : S k = true) : (ul (lessS S k) (cn c)).length + 1 = (ul S (cn c)).length := by
  obtain ⟨P, Q, h, hP, hQ⟩ := parted (ul_nd S (cn c)) (ul_mem.mpr ⟨hS.1 k hk, hk⟩)
  rw [ul_less h hP hQ, h, List.length_append, List.length_append]
  show P.length + Q.length + 1 = P.length + (Q.length + 1)
  omega
theorem vis_le (ok : okC c) (hS : BC c S) (k : Nat) : vis c S k ≤ if S k then 10 ^ card S else 0 := by
  unfold vis
  cases hk : S k
  · exact Nat.le_refl _
  · rw [if_pos rfl, if_pos rfl]
    obtain ⟨h1, h2⟩ := cof_bd ok hS hk
    have h3 := less_len hS hk
    rw [card_ul ok hS.1] at h3
    have h4 : (cof (ul S (cn c)) (LC c) k).toNat ≤ 10 ^ (ul (lessS S k) (cn c)).length := by
      have h5 : ((cof (ul S (cn c)) (LC c) k).toNat : Int) ≤ ((10 ^ (ul (lessS S k) (cn c)).length : Nat) : Int) := by
        rw [Int.toNat_of_nonneg (Int.le_of_lt h1), Int.natCast_pow]; exact h2
      exact_mod_cast h5
    rw [← h3, Nat.pow_succ]
    exact Nat.mul_le_mul h4 (cdiv_le ok k)
theorem shB_le (ok : okC c) (hS : BC c S) : shB c S ≤ 20 ^ card S := by
  have h1 : shB c S ≤ sumN (fun i => 10 ^ card S * (if S i then 1 else 0)) 8 := sumN_le2 (fun i _ => by
    have := vis_le ok hS i
    split at this
    · rename_i hi; rw [if_pos hi, Nat.mul_one]; exact this
    · rename_i hi; rw [if_neg hi, Nat.mul_zero]; exact this)
  rw [sumN_mul] at h1
  have h2 : sumN (fun i => if S i then 1 else 0) 8 = card S := rfl
  rw [h2] at h1
  have h3 : card S ≤ 2 ^ card S := Nat.le_of_lt Nat.lt_two_pow_self
  have h4 : 10 ^ card S * card S ≤ 10 ^ card S * 2 ^ card S := Nat.mul_le_mul_left _ h3
  rw [← Nat.mul_pow] at h4
  exact Nat.le_trans h1 h4
theorem shT_le (G : Nat → Bool) : shT c S G ≤ shB c S := sumN_le2 (fun i _ => by split <;> omega)
end SC
