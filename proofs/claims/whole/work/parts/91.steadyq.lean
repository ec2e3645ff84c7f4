/-! ===== the reference's steady is the class's ===== -/
theorem red_dvd {a b : Nat} (hb : 0 < b) : b / gcd1 a b ∣ b ∧ 0 < b / gcd1 a b ∧ (a / gcd1 a b) * b = a * (b / gcd1 a b) := by
  obtain ⟨g1, g2⟩ := gcd1_le (a := a) hb
  have g0 := gcd1_pos a b
  obtain ⟨x, hx⟩ := Nat.gcd_dvd_left a b
  obtain ⟨y, hy⟩ := Nat.gcd_dvd_right a b
  rw [← g1] at hx hy
  have e1 : a / gcd1 a b = x := Nat.div_eq_of_eq_mul_right g0 hx
  have e2 : b / gcd1 a b = y := Nat.div_eq_of_eq_mul_right g0 hy
  rw [e1, e2]
  generalize gcd1 a b = g at *
  subst hx
  refine ⟨⟨g, by rw [Nat.mul_comm]; exact hy⟩, ?_, ?_⟩
  · rcases Nat.eq_zero_or_pos y with h | h
    · rw [h] at hy; omega
    · exact h
  · rw [hy]; grind
theorem sum_red {n d V a b v W : Nat} (hd : 0 < d) (h1 : n * W = V * d) (h2 : a * W = v * b) : (n * (b / Nat.gcd d b) + a * (d / Nat.gcd d b)) * W = (V + v) * (d / Nat.gcd d b * b) := by
  obtain ⟨x, hx⟩ := Nat.gcd_dvd_left d b
  obtain ⟨y, hy⟩ := Nat.gcd_dvd_right d b
  have g0 : 0 < Nat.gcd d b := Nat.gcd_pos_of_pos_left b hd
  have e1 : d / Nat.gcd d b = x := Nat.div_eq_of_eq_mul_right g0 hx
  have e2 : b / Nat.gcd d b = y := Nat.div_eq_of_eq_mul_right g0 hy
  rw [e1, e2]
  generalize Nat.gcd d b = g at *
  calc (n * y + a * x) * W = (n * W) * y + (a * W) * x := by grind
    _ = (V * d) * y + (v * b) * x := by rw [h1, h2]
    _ = (V + v) * (x * b) := by
      have p1 : (V * d) * y = V * (x * b) := by rw [hx, hy]; grind
      have p2 : (v * b) * x = v * (x * b) := by grind
      rw [p1, p2, Nat.add_mul]
section SQ
variable {σ : US} {c : CH} {G : Nat → Bool}
theorem le_of_red {n d V W : Nat} (hW : 0 < W) (h : n * W = V * d) (hV : V ≤ W) : n ≤ d := by
  have h1 : n * W ≤ d * W := by rw [h, Nat.mul_comm d W]; exact Nat.mul_le_mul_right d hV
  exact Nat.le_of_mul_le_mul_right h1 hW
end SQ
