/-! ===== bottom components ===== -/
section BO
variable {c : CH}
theorem rch_refl {i : Nat} (h : i < cn c) : rch c i i = true := rch_iff.mpr ⟨fun S hi _ => hi, h⟩
theorem rch_tr {i j k : Nat} (h1 : rch c i j = true) (h2 : rch c j k = true) : rch c i k = true := by
  obtain ⟨a1, _⟩ := rch_iff.mp h1
  obtain ⟨b1, b2⟩ := rch_iff.mp h2
  exact rch_iff.mpr ⟨fun S hi hc => b1 S (a1 S hi hc) hc, b2⟩
theorem rch_st {i j : Nat} (hi : i < cn c) (hj : j < cn c) (h : 0 < cst c i j) : rch c i j = true := rch_iff.mpr ⟨fun _ hS hc => hc i j hi hj hS (suc_iff.mpr h), hj⟩
theorem bot_iff {i : Nat} : bot c i = true ↔ i < cn c ∧ ∀ o, rch c i o = true → rch c o i = true := by
  unfold bot
  rw [Bool.and_eq_true, pd_iff, decide_eq_true_iff]
theorem cmp_iff {i o : Nat} : cmp c i o = true ↔ rch c i o = true ∧ rch c o i = true := by
  unfold cmp; rw [Bool.and_eq_true]
theorem bot_cmp {i : Nat} (h : bot c i = true) (o : Nat) : rch c i o = cmp c i o := by
  cases hx : rch c i o
  · unfold cmp; rw [hx]; rfl
  · exact (cmp_iff.mpr ⟨hx, (bot_iff.mp h).2 o hx⟩).symm
theorem cmp_BC {i : Nat} (h : bot c i = true) : BC c (cmp c i) := by
  obtain ⟨hi, hb⟩ := bot_iff.mp h
  refine ⟨fun o ho => (rch_iff.mp (cmp_iff.mp ho).1).2, fun o j ho hst hj => ?_, fun a b ha hb2 => rch_tr (cmp_iff.mp ha).2 (cmp_iff.mp hb2).1⟩
  obtain ⟨h1, _⟩ := cmp_iff.mp ho
  have h2 := rch_tr h1 (rch_st (rch_iff.mp h1).2 hj hst)
  exact cmp_iff.mpr ⟨h2, hb j h2⟩
theorem cmp_bot {i o : Nat} (h : bot c i = true) (ho : cmp c i o = true) : bot c o = true := by
  obtain ⟨hi, hb⟩ := bot_iff.mp h
  obtain ⟨h1, h2⟩ := cmp_iff.mp ho
  exact bot_iff.mpr ⟨(rch_iff.mp h1).2, fun t ht => rch_tr (hb t (rch_tr h1 ht)) h1⟩
theorem can_rch {G : Nat → Bool} (hG : ∀ b, G b = true → b < cn c) {r : Nat} (h : can c (allS c) G r = true) : ∃ s, G s = true ∧ rch c r s = true := by
  have := (can_iff.mp h).1 (fun j => pd (∃ s, G s = true ∧ rch c j s = true)) (fun b hb => pd_iff.mpr ⟨b, hb, rch_refl (hG b hb)⟩) (fun a b ha hb _ hS hsuc => by
    obtain ⟨s, h1, h2⟩ := pd_iff.mp hS
    exact pd_iff.mpr ⟨s, h1, rch_tr (rch_st ha hb (suc_iff.mp hsuc)) h2⟩)
  exact pd_iff.mp this
theorem cmp_apart {i r : Nat} (h : bot c i = true) (hr : bot c r = true) (hn : cmp c i r = false) : can c (allS c) (cmp c i) r = false := by
  cases hx : can c (allS c) (cmp c i) r
  · rfl
  · obtain ⟨s, h1, h2⟩ := can_rch (cmp_BC h).1 hx
    have h3 := (bot_iff.mp hr).2 s h2
    have h4 := rch_tr (cmp_iff.mp h1).1 h3
    rw [cmp_iff.mpr ⟨h4, (bot_iff.mp h).2 r h4⟩] at hn; exact absurd hn (by decide)
/-- how many states a state reaches -/
noncomputable def rcard (c : CH) (i : Nat) : Nat := sumN (fun o => if rch c i o then 1 else 0) 8
theorem to_bot (ok : okC c) {s : Nat} (hs : s < cn c) : ∃ t, rch c s t = true ∧ bot c t = true := by
  obtain ⟨m, ⟨t, ht, hm⟩, hmin⟩ := least (P := fun m => ∃ t, rch c s t = true ∧ rcard c t = m) (rcard c s) ⟨s, rch_refl hs, rfl⟩
  refine ⟨t, ht, bot_iff.mpr ⟨(rch_iff.mp ht).2, fun o ho => ?_⟩⟩
  cases hx : rch c o t
  · have hlt : rcard c o < rcard c t := by
      have htn := (rch_iff.mp ht).2
      refine sumN_lt (k := t) (fun q _ => ?_) (show t < 8 by have := ok.1; omega) ?_
      · by_cases hq : rch c o q = true
        · rw [if_pos hq, if_pos (rch_tr ho hq)]; exact Nat.le_refl _
        · rw [if_neg hq]; exact Nat.zero_le _
      · rw [hx, rch_refl htn]; decide
    exact absurd ⟨o, rch_tr ht ho, rfl⟩ (hmin (rcard c o) (by omega))
  · rfl
theorem uT_lk (ok : okC c) : LK c (uT c) := LK_of (F := allS c) (G := bot c) ok (fun b hb => (bot_iff.mp hb).1) (fun s hs => by
  have hn := uT_lt s hs
  obtain ⟨t, h1, h2⟩ := to_bot ok hn
  refine ⟨rch_can (fun q hq => by unfold allS; simp [hq]) hn h2 h1, ?_⟩
  unfold uT at hs
  simpa [hn] using hs)
/-- for a bottom component -/
theorem trans_cmp (ok : okC c) {k : Nat} (hk : bot c k = true) {i : Nat} (hi : i < 8) : MM 8 (UA c (uU c (allS c) (cmp c k)) (bU (cmp c k))) 8 i 8 * dd 8 (UA c (uT c) (bU (cmp c k))) 8 = dd 8 (UA c (uU c (allS c) (cmp c k)) (bU (cmp c k))) 8 * MM 8 (UA c (uT c) (bU (cmp c k))) 8 i 8 :=
  trans_eq ok (uT_lk ok) (cmp_BC hk).1 (fun _ ho => cmp_bot hk ho) (fun _ hr hn => cmp_apart hk hr hn) hi
end BO
