/-! ===== ranks: how far a goal is ===== -/
noncomputable def Rk (c : CH) (F G : Nat → Bool) : Nat → Nat → Bool
  | 0, s => G s
  | k + 1, s => Rk c F G k s || pd (F s = true ∧ s < cn c ∧ ∃ t, t < cn c ∧ suc c s t = true ∧ Rk c F G k t = true)
section RANK
variable {c : CH} {F G : Nat → Bool}
theorem Rk_up {k s : Nat} (h : Rk c F G k s = true) : ∀ m, Rk c F G (k + m) s = true
  | 0 => h
  | m + 1 => by
    show (Rk c F G (k + m) s || _) = true
    rw [Rk_up h m]; rfl
theorem Rk_can (hG : ∀ b, G b = true → b < cn c) : ∀ k s, Rk c F G k s = true → can c F G s = true
  | 0, s, h => can_iff.mpr ⟨fun S h1 _ => h1 s h, hG s h⟩
  | k + 1, s, h => by
    rcases (Bool.or_eq_true _ _).mp h with h | h
    · exact Rk_can hG k s h
    · obtain ⟨hF, hs, t, ht, hsuc, hk⟩ := pd_iff.mp h
      have := (can_iff.mp (Rk_can hG k t hk)).1
      exact can_iff.mpr ⟨fun S h1 h2 => h2 s t hs ht hF (this S h1 h2) hsuc, hs⟩
theorem can_Rk {s : Nat} (h : can c F G s = true) : ∃ k, Rk c F G k s = true := by
  have h1 := (can_iff.mp h).1 (fun s => pd (∃ k, Rk c F G k s = true)) (fun b hb => pd_iff.mpr ⟨0, hb⟩) (fun a b ha hb hF hS hsuc => by
    obtain ⟨k, hk⟩ := pd_iff.mp hS
    refine pd_iff.mpr ⟨k + 1, ?_⟩
    show (_ || pd _) = true
    rw [pd_iff.mpr ⟨hF, ha, b, hb, hsuc, hk⟩, Bool.or_true])
  exact pd_iff.mp h1
theorem least {P : Nat → Prop} : ∀ k, P k → ∃ m, P m ∧ ∀ j, j < m → ¬ P j := by
  intro k
  induction k using Nat.strongRecOn with
  | ind k ih =>
    intro hk
    rcases Classical.em (∃ j, j < k ∧ P j) with ⟨j, hj, hp⟩ | h
    · exact ih j hj hp
    · exact ⟨k, hk, fun j hj hp => h ⟨j, hj, hp⟩⟩
theorem rank_of (hG : ∀ b, G b = true → b < cn c) : ∃ rk : Nat → Nat, ∀ s, can c F G s = true → G s = true ∨ (F s = true ∧ ∃ t, t < cn c ∧ suc c s t = true ∧ can c F G t = true ∧ rk t < rk s) := by
  have h1 : ∀ s, ∃ m, can c F G s = true → Rk c F G m s = true ∧ ∀ j, j < m → ¬ Rk c F G j s = true := fun s => by
    rcases Classical.em (can c F G s = true) with h | h
    · obtain ⟨k, hk⟩ := can_Rk h
      obtain ⟨m, hm⟩ := least (P := fun k => Rk c F G k s = true) k hk
      exact ⟨m, fun _ => hm⟩
    · exact ⟨0, fun z => absurd z h⟩
  obtain ⟨rk, hrk⟩ := Classical.axiomOfChoice h1
  refine ⟨rk, fun s hs => ?_⟩
  obtain ⟨h2, h3⟩ := hrk s hs
  cases hk : rk s with
  | zero => rw [hk] at h2; exact Or.inl h2
  | succ k =>
    rw [hk] at h2 h3
    rcases (Bool.or_eq_true _ _).mp h2 with h4 | h4
    · exact absurd h4 (h3 k (Nat.lt_succ_self k))
    · obtain ⟨hF, hs2, t, ht, hsuc, hkt⟩ := pd_iff.mp h4
      have hct := Rk_can hG k t hkt
      refine Or.inr ⟨hF, t, ht, hsuc, hct, ?_⟩
      rcases Nat.lt_or_ge (rk t) (k + 1) with h5 | h5
      · exact h5
      · exact absurd hkt ((hrk t hct).2 k (by omega))
end RANK
/-- from every state of a set a way leads out of it -/
def LK (c : CH) (U : Nat → Bool) : Prop := ∃ (K : Nat) (rk : Nat → Nat), (∀ s, rk s ≤ K) ∧ ∀ s, U s = true → ∃ t, t < cn c ∧ 0 < cst c s t ∧ rk t < rk s
theorem LK_of {c : CH} {F G U : Nat → Bool} (ok : okC c) (hG : ∀ b, G b = true → b < cn c) (hU : ∀ s, U s = true → can c F G s = true ∧ G s = false) : LK c U := by
  obtain ⟨rk, h⟩ := rank_of (F := F) hG
  refine ⟨sumN (fun s => rk s + 1) 8, fun s => if U s then rk s + 1 else 0, fun s => ?_, fun s hs => ?_⟩
  · dsimp only
    split
    · rename_i hs
      have h1 := (can_iff.mp (hU s hs).1).2
      have h2 := ok.1
      exact sumN_get (f := fun s => rk s + 1) (show s < 8 by omega)
    · exact Nat.zero_le _
  · obtain ⟨h1, h2⟩ := hU s hs
    rcases h s h1 with h3 | ⟨_, t, ht, hsuc, hct, hlt⟩
    · rw [h2] at h3; exact absurd h3 (by decide)
    · refine ⟨t, ht, suc_iff.mp hsuc, ?_⟩
      dsimp only
      rw [if_pos hs]
      split <;> omega
/-! the class's system: a balance for every state of a set, a value for the others -/
def UA (c : CH) (U : Nat → Bool) (b : Nat → Int) : Nat → Nat → Int := fun i j => if j = 8 then b i else if U i then (if i = j then (cdiv c i : Int) else 0) - cst c i j else if i = j then 1 else 0
theorem sL_range (f : Nat → Nat) : ∀ n, sL (fun j => (f j : Int)) (List.range n) = (sumN f n : Int)
  | 0 => rfl
  | n + 1 => by
    rw [List.range_succ, sL_app, sL_range f n]
    show _ + ((f n : Int) + 0) = ((sumN f n + f n : Nat) : Int)
    omega
theorem sL_sub (f g : Nat → Int) (l : List Nat) : sL (fun j => f j - g j) l = sL f l - sL g l := by
  have h1 := sL_add f (fun j => - g j) l
  have h2 := sL_mul (-1) g l
  have h3 : sL (fun j => -1 * g j) l = sL (fun j => - g j) l := sL_congr (fun j _ => by omega)
  have h4 : sL (fun j => f j - g j) l = sL (fun j => f j + - g j) l := sL_congr (fun j _ => by omega)
  rw [h4, h1, ← h3, h2]; omega
theorem sL_diag {n i : Nat} (hi : i < n) (x : Int) : sL (fun j => if i = j then x else 0) (List.range n) = x := by
  rw [sL_one (nd_n n) (mem_n hi) (fun j _ hj => if_neg (Ne.symm hj))]; exact if_pos rfl
section UAS
variable {c : CH} {U : Nat → Bool} {b : Nat → Int}
theorem UA_j {i j : Nat} (hj : j < 8) : UA c U b i j = if U i then (if i = j then (cdiv c i : Int) else 0) - cst c i j else if i = j then 1 else 0 := if_neg (by omega)
theorem UA_8 {i : Nat} : UA c U b i 8 = b i := if_pos rfl
theorem UA_row (ok : okC c) {i : Nat} (hi : i < 8) : sL (UA c U b i) (List.range 8) = if U i then 0 else 1 := by
  have h1 : sL (UA c U b i) (List.range 8) = sL (fun j => if U i then (if i = j then (cdiv c i : Int) else 0) - cst c i j else if i = j then 1 else 0) (List.range 8) := sL_congr (fun j hj => UA_j (List.mem_range.mp hj))
  rw [h1]
  cases hU : U i
  · simp only [Bool.false_eq_true, if_false]
    exact sL_diag hi 1
  · simp only [if_true]
    rw [sL_sub, sL_diag hi, sL_range, cst_sum ok hi]; omega
theorem UA_dom (ok : okC c) : Dom 8 1 (UA c U b) := by
  refine ⟨fun i j hi hj hne => ?_, fun i hi => ?_, fun i hi => ?_⟩
  · rw [UA_j hj]
    split
    · omega
    · exact Int.le_refl _
  · rw [UA_row ok hi]; split <;> decide
  · rw [UA_j hi]
    have := cdiv_le ok i
    split
    · rw [if_pos rfl]; omega
    · rw [if_pos rfl]; decide
theorem UA_wts (ok : okC c) (h : LK c U) : ∃ w : Nat → Int, (∀ j, 0 < w j) ∧ Wts 8 w (UA c U b) := by
  obtain ⟨K, rk, hK, hr⟩ := h
  refine wts_of (UA_dom ok) hK (fun i hi => ?_)
  cases hU : U i
  · left; rw [UA_row ok hi, hU]; decide
  · right
    obtain ⟨t, ht, hc, hlt⟩ := hr i hU
    have hti : t ≠ i := fun z => by rw [z] at hlt; omega
    have h8 := ok.1
    refine ⟨t, by omega, hti, ?_, hlt⟩
    rw [UA_j (by omega), hU, if_pos rfl, if_neg (Ne.symm hti)]; omega
theorem UA_triv {k : Nat} (_hk : k < 8) (h : (!U k) = true) (j : Nat) (hj : j < 8) : UA c U b k j = if k = j then 1 else 0 := by
  have : U k = false := by cases hU : U k; rfl; rw [hU] at h; exact absurd h (by decide)
  rw [UA_j hj, this]; rfl
theorem tc_le (tr : Nat → Bool) : ∀ k, tc tr k ≤ k
  | 0 => Nat.le_refl _
  | k + 1 => by have := tc_le tr k; unfold tc; split <;> omega
theorem tc_mono (tr : Nat → Bool) : ∀ {k m : Nat}, k ≤ m → tc tr k ≤ tc tr m
  | k, 0, h => by have : k = 0 := by omega
                  subst this; exact Nat.le_refl _
  | k, m + 1, h => by
    by_cases hk : k = m + 1
    · subst hk; exact Nat.le_refl _
    · have := tc_mono tr (k := k) (m := m) (by omega)
      have e : tc tr (m + 1) = if tr m then tc tr m else tc tr m + 1 := rfl
      rw [e]; split <;> omega
theorem tc_lt (tr : Nat → Bool) : ∀ {k j : Nat}, j < k → tr j = true → tc tr k + 1 ≤ k
  | 0, j, h, _ => by omega
  | k + 1, j, h, ht => by
    have e : tc tr (k + 1) = if tr k then tc tr k else tc tr k + 1 := rfl
    rw [e]
    by_cases hjk : j = k
    · subst hjk; rw [if_pos ht]; have := tc_le tr j; omega
    · have := tc_lt tr (k := k) (j := j) (by omega) ht
      split <;> omega
end UAS
