/-! ===== bounds ===== -/
/-- whether a fraction fulfils a bound -/
def fulf (up oe : Bool) (top bot t b : Nat) : Bool := if t * bot = b * top then oe else if up then decide (t * bot < b * top) else decide (b * top < t * bot)
/-- the bound that stands in the fields of an object -/
def BD (β : US) (up oe : Bool) (top bot : Nat) : Prop := iI β 0 = bI up ∧ iI β 1 = bI oe ∧ iI β 2 = nI top ∧ iI β 3 = nI bot
/-- the sign of a relation in the reference -/
def relc (up oe : Bool) : Int32 := if up then (if oe then 108 else 60) else if oe then 103 else 62
section BN
variable {σ ε κ β : US} {c : CH} {up oe : Bool} {top bot : Nat}
theorem q1_admits (h : BD β up oe top bot) (ht : top < 100) (hb : bot < 100) {t b : Nat} (h1 : t < 2 ^ 56) (h2 : b < 2 ^ 56) {Q : Int32 → Prop} (hQ : Q (bI (fulf up oe top bot t b))) : wp_X1_admits (lN t) (lN b) β Q := by
  unfold wp_X1_admits
  intro x1 hx1 x2 hx2
  have m1 : t * bot < 2 ^ 63 := Nat.lt_of_le_of_lt (Nat.mul_le_mul_left t (show bot ≤ 100 by omega)) (by omega)
  have m2 : b * top < 2 ^ 63 := Nat.lt_of_le_of_lt (Nat.mul_le_mul_left b (show top ≤ 100 by omega)) (by omega)
  rw [h.2.2.2, nI_t64 (by omega), lN_mul] at hx1
  rw [h.2.2.1, nI_t64 (by omega), lN_mul] at hx2
  subst hx1; subst hx2
  rw [lg_cmp_eq, pk_lEQ m1 m2, lg_cmp_le, lg_cmp_ge, pk_lLE m1 m2, pk_lLE m2 m1, h.1, h.2.1]
  refine ⟨fun hne => br_b (fun hu => ⟨fun hle => ?_, fun hgt => ?_⟩) (fun hu => ⟨fun hge => ?_, fun hlt => ?_⟩), fun heq => ⟨kbo_bI oe, ?_⟩⟩
  · refine bI_0 hQ ?_
    unfold fulf; rw [if_neg hne, hu]; simp; omega
  · refine bI_1 hQ ?_
    unfold fulf; rw [if_neg hne, hu]; simp; omega
  · refine bI_0 hQ ?_
    unfold fulf; rw [if_neg hne, hu]; simp; omega
  · refine bI_1 hQ ?_
    unfold fulf; rw [if_neg hne, hu]; simp; omega
  · unfold fulf at hQ; rw [if_pos heq] at hQ; exact hQ
theorem q12_fulfils {p : Nat} (hp : p < 300) (ht : top < 100) (hb : bot < 100) {t b : Nat} (h1 : t < 2 ^ 56) (h2 : b < 2 ^ 56) (j0 : lJ σ 0 = lN t) (j1 : lJ σ 1 = lN b) (a10 : aA σ 10 p = relc up oe) (a11 : aA σ 11 p = nI top) (a12 : aA σ 12 p = nI bot) {Q : Int32 → Prop} (hQ : Q (bI (fulf up oe top bot t b))) : wp_X12_fulfils (nI p) σ Q := by
  unfold wp_X12_fulfils
  rw [nI_clamp (by omega)]
  refine ⟨pk_in p 300 hp, fun x1 hx1 => ⟨pk_in p 300 hp, fun x2 hx2 => ⟨pk_in p 300 hp, fun x3 hx3 => ?_⟩⟩⟩
  have m1 : t * bot < 2 ^ 63 := Nat.lt_of_le_of_lt (Nat.mul_le_mul_left t (show bot ≤ 100 by omega)) (by omega)
  have m2 : b * top < 2 ^ 63 := Nat.lt_of_le_of_lt (Nat.mul_le_mul_left b (show top ≤ 100 by omega)) (by omega)
  rw [j0, a12, nI_t64 (by omega), lN_mul] at hx1
  rw [j1, a11, nI_t64 (by omega), lN_mul] at hx2
  rw [a10] at hx3
  subst hx1; subst hx2; subst hx3
  rw [lg_cmp_le, lg_cmp_ge, lg_cmp_gt, lg_cmp_lt, pk_lLE m1 m2, pk_lLE m2 m1]
  have lt1 : (lN (b * top) < lN (t * bot)) ↔ b * top < t * bot := by rw [← Int64.not_le, pk_lLE m1 m2]; omega
  have lt2 : (lN (t * bot) < lN (b * top)) ↔ t * bot < b * top := by rw [← Int64.not_le, pk_lLE m2 m1]; omega
  rw [lt1, lt2]
  have no : ∀ {b' : Bool}, Q (bI (fulf up oe top bot t b)) → fulf up oe top bot t b = false → Q 0 := fun h he => bI_0 h he
  have yes : ∀ {b' : Bool}, Q (bI (fulf up oe top bot t b)) → fulf up oe top bot t b = true → Q 1 := fun h he => bI_1 h he
  cases up <;> cases oe
  · refine ⟨fun z => absurd z (by decide), fun _ => ⟨fun _ => ⟨fun hle => ?_, fun hgt => ?_⟩, fun z => absurd rfl z⟩⟩
    · refine bI_0 hQ ?_
      unfold fulf; split; rfl; simp; omega
    · refine bI_1 hQ ?_
      unfold fulf; rw [if_neg (by omega)]; simp; omega
  · refine ⟨fun z => absurd z (by decide), fun _ => ⟨fun z => absurd z (by decide), fun _ => ⟨fun z => absurd z (by decide), fun _ => ⟨fun hlt => ?_, fun hge => ?_⟩⟩⟩⟩
    · refine bI_0 hQ ?_
      unfold fulf; rw [if_neg (by omega)]; simp; omega
    · refine bI_1 hQ ?_
      unfold fulf; split; rfl; simp; omega
  · refine ⟨fun _ => ⟨fun hge => ?_, fun hlt => ?_⟩, fun z => absurd rfl z⟩
    · refine bI_0 hQ ?_
      unfold fulf; split; rfl; simp; omega
    · refine bI_1 hQ ?_
      unfold fulf; rw [if_neg (by omega)]; simp; omega
  · refine ⟨fun z => absurd z (by decide), fun _ => ⟨fun z => absurd z (by decide), fun _ => ⟨fun _ => ⟨fun hgt => ?_, fun hle => ?_⟩, fun z => absurd rfl z⟩⟩⟩
    · refine bI_0 hQ ?_
      unfold fulf; rw [if_neg (by omega)]; simp; omega
    · refine bI_1 hQ ?_
      unfold fulf; split; rfl; simp; omega
/-- an infinite value is above every bound -/
theorem fulf_inf (ht : 0 < bot) : fulf up oe top bot 1 0 = !up := by
  unfold fulf
  rw [if_neg (by omega)]
  cases up <;> simp <;> omega
theorem q8_fulfilling (h : RC κ c) (ok : okC c) (hβ : BD β up oe top bot) (ht : top < 100) (hb : bot < 100) {T B : Nat → Nat} (hF : FR σ 8 T B) (hT : ∀ i, i < 8 → T i / gcd1 (T i) (B i) < 2 ^ 56 ∧ B i / gcd1 (T i) (B i) < 2 ^ 56) {Q : Int32 → Prop} (hQ : Q (nI (mk (fun i => decide (i < cn c) && fulf up oe top bot (T i / gcd1 (T i) (B i)) (B i / gcd1 (T i) (B i)))))) : wp_X8_fulfilling σ ε κ β Q := by
  unfold wp_X8_fulfilling
  have hn := ok.1
  rw [show (0 : Int32) = nI (mk (fun o => decide (o < 0) && (decide (o < cn c) && fulf up oe top bot (T o / gcd1 (T o) (B o)) (B o / gcd1 (T o) (B o))))) from mk_none]
  refine lp_for 8 (fun j => (nI (mk (fun o => decide (o < j) && (decide (o < cn c) && fulf up oe top bot (T o / gcd1 (T o) (B o)) (B o / gcd1 (T o) (B o))))), nI j)) (fun j hj P hP => ?_) (fun P => ?_)
  · unfold wp_X8_fulfilling_L4
    refine pk_le 8 j (fun z => by omega) (fun _ => ?_)
    refine q2_has h hn (by omega) (br_b (fun hb1 => ?_) (fun hb1 => ⟨pk_in j 8 hj, pk_in j 8 hj, ?_⟩))
    · rw [nI_1, mk_step0 (S := fun o => decide (o < cn c) && fulf up oe top bot (T o / gcd1 (T o) (B o)) (B o / gcd1 (T o) (B o))) (by simp [hb1])]
      exact hP
    · rw [nI_clamp (by omega), (hF j hj).1, (hF j hj).2]
      refine q1_admits hβ ht hb (hT j hj).1 (hT j hj).2 (br_b (fun hb2 => ?_) (fun hb2 x hx => ?_))
      · rw [nI_1, mk_step0 (S := fun o => decide (o < cn c) && fulf up oe top bot (T o / gcd1 (T o) (B o)) (B o / gcd1 (T o) (B o))) (by simp [hb2])]
        exact hP
      · rw [sI_add _ hj] at hx
        subst hx
        rw [nI_1, mk_step1 (S := fun o => decide (o < cn c) && fulf up oe top bot (T o / gcd1 (T o) (B o)) (B o / gcd1 (T o) (B o))) (by rw [hb1, hb2]; rfl)]
        exact hP
  · unfold wp_X8_fulfilling_L4
    refine pk_le 8 8 (fun _ => ?_) (fun z => by omega)
    dsimp only
    rw [mk_congr (T := fun i => decide (i < cn c) && fulf up oe top bot (T i / gcd1 (T i) (B i)) (B i / gcd1 (T i) (B i))) (fun o ho => by simp [ho])]
    exact hQ
theorem q8_complement {T B : Nat → Nat} (hF : FR σ 8 T B) (hT : ∀ i, i < 8 → T i / gcd1 (T i) (B i) ≤ B i / gcd1 (T i) (B i) ∧ 0 < B i / gcd1 (T i) (B i) ∧ B i / gcd1 (T i) (B i) < 2 ^ 63) {Q : US → Prop} (hQ : ∀ σ', FR σ' 8 (fun i => B i / gcd1 (T i) (B i) - T i / gcd1 (T i) (B i)) (fun i => B i / gcd1 (T i) (B i)) → Q σ') : wp_X8_complement σ ε κ Q := by
  unfold wp_X8_complement
  refine lp_inv 8 (fun k t => ∃ z, t = (nI k, z) ∧ FR z k (fun i => B i / gcd1 (T i) (B i) - T i / gcd1 (T i) (B i)) (fun i => B i / gcd1 (T i) (B i)) ∧ ∀ i, k ≤ i → i < 8 → aB z 0 i = lN (T i / gcd1 (T i) (B i)) ∧ aB z 1 i = lN (B i / gcd1 (T i) (B i))) ?_ _ ⟨σ, rfl, fun i hi => absurd hi (Nat.not_lt_zero _), fun i _ hi => hF i hi⟩
  rintro k t hk ⟨z, rfl, hz, hl⟩ P hP
  unfold wp_X8_complement_L2
  refine pk_le 8 k (fun hk2 => ?_) (fun hk2 => ⟨pk_in k 8 hk2, pk_in k 8 hk2, pk_in k 8 hk2, ?_⟩)
  · have : k = 8 := by omega
    subst this; exact hQ z hz
  · obtain ⟨l0, l1⟩ := hl k (Nat.le_refl k) hk2
    obtain ⟨t1, t2, t3⟩ := hT k hk2
    rw [nI_clamp (by omega), l0, l1]
    have e : lN (B k / gcd1 (T k) (B k)) - lN (T k / gcd1 (T k) (B k)) = lN (B k / gcd1 (T k) (B k) - T k / gcd1 (T k) (B k)) := by
      rw [lI_N, lI_N, lI_N, lI_sub]
      exact congrArg lI (by omega)
    rw [e]
    refine q8_putz hk2 (Nat.lt_of_le_of_lt (Nat.sub_le _ _) t3) t3 (Or.inr t2) ?_
    rw [li1, nI_add]
    refine hP hk2 _ ⟨_, rfl, hz.put, fun i hi hi8 => ?_⟩
    have hne : ¬ i = k := by omega
    have e0 : ∀ x y, aB (uB (uB z 0 k x) 1 k y) 0 = vp_updL (aB z 0) k x := fun x y => (aB_sB_n _ _ (by decide)).trans (aB_sB z 0 _)
    have e1 : ∀ x y, aB (uB (uB z 0 k x) 1 k y) 1 = vp_updL (aB z 1) k y := fun x y => (aB_sB _ 1 _).trans (by rw [aB_sB_n z _ (by decide)])
    rw [e0, e1]
    obtain ⟨m0, m1⟩ := hl i (by omega) hi8
    exact ⟨(if_neg hne).trans m0, (if_neg hne).trans m1⟩
end BN
