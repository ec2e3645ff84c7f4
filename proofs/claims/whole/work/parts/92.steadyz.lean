/-! ===== the loops of the reference's steady ===== -/
section SZ
variable {σ : US} {c : CH} {G : Nat → Bool}
/-- the reduced sum of the components before k -/
def SF (c : CH) (G : Nat → Bool) (i k n d : Nat) : Prop := n * WS c G = VS c G i k * d ∧ 0 < d ∧ d ∣ WS c G
theorem SF_red (ok : okC c) {i k : Nat} : SF c G i k (VS c G i k / gcd1 (VS c G i k) (WS c G)) (WS c G / gcd1 (VS c G i k) (WS c G)) := by
  obtain ⟨h1, h2, h3⟩ := red_dvd (a := VS c G i k) (WS_bd (G := G) ok).1
  exact ⟨h3, h2, h1⟩
/-- a chance times a share, in the common denominator -/
theorem step_red (ok : okC c) {i k p q : Nat} (hi : i < 8) (hk8 : k < 8) (hl : lowb c k = true) (hp : p * (dd 8 (UA c (uU c (allS c) (cmp c k)) (bU (cmp c k))) 8).toNat = (MM 8 (UA c (uU c (allS c) (cmp c k)) (bU (cmp c k))) 8 i 8).toNat * q) : p * num c G k * WS c G = (vS c G i k).toNat * (q * den c G k) := by
  have hbot := (lowb_iff.mp hl).1
  have hG := (cmp_BC hbot).1
  have ht := trans_cmp ok hbot hi
  rw [UA_dd (bU (cmp c k)) (bS c G)] at ht
  have m1 := cmp_MM ok hl hi
  obtain ⟨u1, _⟩ := uU_lim (F := allS c) ok hG (Nat.le_refl 8) hi
  have d1 := (UA_lim (b := bU (cmp c k)) ok (uU_lk (F := allS c) ok hG) 8 (Nat.le_refl 8)).1
  have d2 := (UA_lim (b := bS c G) ok (uT_lk ok) 8 (Nat.le_refl 8)).1
  have hds := den_scl (G := G) k 8 hk8 hl
  have ev : (vS c G i k).toNat = scl c G 8 / den c G k * num c G k * (MM 8 (UA c (uT c) (bU (cmp c k))) 8 i 8).toNat := by
    unfold vS xS
    rw [if_pos hl]
    have h1 : ((scl c G 8 / den c G k * num c G k : Nat) : Int) * MM 8 (UA c (uT c) (bU (cmp c k))) 8 i 8 = ((scl c G 8 / den c G k * num c G k * (MM 8 (UA c (uT c) (bU (cmp c k))) 8 i 8).toNat : Nat) : Int) := by
      rw [Int.natCast_mul (scl c G 8 / den c G k * num c G k), Int.toNat_of_nonneg m1]
    rw [h1, Int.toNat_natCast]
  have ht2 : (MM 8 (UA c (uU c (allS c) (cmp c k)) (bU (cmp c k))) 8 i 8).toNat * (dd 8 (UA c (uT c) (bS c G)) 8).toNat = (dd 8 (UA c (uU c (allS c) (cmp c k)) (bU (cmp c k))) 8).toNat * (MM 8 (UA c (uT c) (bU (cmp c k))) 8 i 8).toNat := by
    have h1 : (((MM 8 (UA c (uU c (allS c) (cmp c k)) (bU (cmp c k))) 8 i 8).toNat * (dd 8 (UA c (uT c) (bS c G)) 8).toNat : Nat) : Int) = (((dd 8 (UA c (uU c (allS c) (cmp c k)) (bU (cmp c k))) 8).toNat * (MM 8 (UA c (uT c) (bU (cmp c k))) 8 i 8).toNat : Nat) : Int) := by
      rw [Int.natCast_mul, Int.natCast_mul, Int.toNat_of_nonneg u1, Int.toNat_of_nonneg (Int.le_of_lt d2), Int.toNat_of_nonneg (Int.le_of_lt d1), Int.toNat_of_nonneg m1]
      exact ht
    exact_mod_cast h1
  rw [ev]
  unfold WS
  have hq : scl c G 8 / den c G k * den c G k = scl c G 8 := Nat.div_mul_cancel hds
  have d10 : 0 < (dd 8 (UA c (uU c (allS c) (cmp c k)) (bU (cmp c k))) 8).toNat := by omega
  generalize (dd 8 (UA c (uU c (allS c) (cmp c k)) (bU (cmp c k))) 8).toNat = B at *
  generalize (MM 8 (UA c (uU c (allS c) (cmp c k)) (bU (cmp c k))) 8 i 8).toNat = T at *
  generalize (dd 8 (UA c (uT c) (bS c G)) 8).toNat = E at *
  generalize (MM 8 (UA c (uT c) (bU (cmp c k))) 8 i 8).toNat = M at *
  generalize scl c G 8 / den c G k = x at *
  rw [← hq]
  refine Nat.eq_of_mul_eq_mul_left d10 ?_
  calc B * (p * num c G k * (E * (x * den c G k))) = (p * B) * E * (num c G k * x * den c G k) := by grind
    _ = (T * E) * q * (num c G k * x * den c G k) := by rw [hp]; grind
    _ = (B * M) * q * (num c G k * x * den c G k) := by rw [ht2]
    _ = B * (x * num c G k * M * (q * den c G k)) := by grind
end SZ
