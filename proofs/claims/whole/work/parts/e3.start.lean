/-! ===== from the law's entry ===== -/
theorem inlX11 : ∀ w ∈ wsX110, w ∈ wsL_law := fun _ h => List.mem_append_left _ (List.mem_append_left _ (List.mem_append_left _ (List.mem_append_left _ (List.mem_append_left _ (List.mem_append_left _ (List.mem_append_left _ (List.mem_append_left _ (List.mem_append_left _ (List.mem_append_left _ (List.mem_append_left _ (List.mem_append_left _ (List.mem_append_left _ (List.mem_append_left _ (List.mem_append_right _ h))))))))))))))
theorem inlX12 : ∀ w ∈ wsX120, w ∈ wsL_law := fun _ h => List.mem_append_left _ (List.mem_append_left _ (List.mem_append_left _ (List.mem_append_left _ (List.mem_append_left _ (List.mem_append_left _ (List.mem_append_left _ (List.mem_append_left _ (List.mem_append_left _ (List.mem_append_left _ (List.mem_append_left _ (List.mem_append_left _ (List.mem_append_left _ (List.mem_append_right _ h)))))))))))))
theorem inlX2 : ∀ w ∈ wsX20, w ∈ wsL_law := fun _ h => List.mem_append_left _ (List.mem_append_left _ (List.mem_append_left _ (List.mem_append_left _ (List.mem_append_left _ (List.mem_append_left _ (List.mem_append_left _ (List.mem_append_left _ (List.mem_append_left _ (List.mem_append_left _ (List.mem_append_left _ (List.mem_append_left _ (List.mem_append_right _ h))))))))))))
theorem inlX6 : ∀ w ∈ wsX60, w ∈ wsL_law := fun _ h => List.mem_append_left _ (List.mem_append_left _ (List.mem_append_left _ (List.mem_append_left _ (List.mem_append_left _ (List.mem_append_left _ (List.mem_append_left _ (List.mem_append_left _ (List.mem_append_left _ (List.mem_append_left _ (List.mem_append_left _ (List.mem_append_right _ h)))))))))))
theorem inlX7 : ∀ w ∈ wsX70, w ∈ wsL_law := fun _ h => List.mem_append_left _ (List.mem_append_left _ (List.mem_append_left _ (List.mem_append_left _ (List.mem_append_left _ (List.mem_append_left _ (List.mem_append_left _ (List.mem_append_left _ (List.mem_append_left _ (List.mem_append_left _ (List.mem_append_right _ h))))))))))
theorem inlX8 : ∀ w ∈ wsX80, w ∈ wsL_law := fun _ h => List.mem_append_left _ (List.mem_append_left _ (List.mem_append_left _ (List.mem_append_left _ (List.mem_append_left _ (List.mem_append_left _ (List.mem_append_left _ (List.mem_append_left _ (List.mem_append_left _ (List.mem_append_right _ h)))))))))
theorem inlX0 : ∀ w ∈ wsX00, w ∈ wsL_law := fun _ h => List.mem_append_left _ (List.mem_append_left _ (List.mem_append_left _ (List.mem_append_left _ (List.mem_append_left _ (List.mem_append_left _ (List.mem_append_left _ (List.mem_append_left _ (List.mem_append_right _ h))))))))
theorem inlJ4 : ∀ w ∈ wsJ40, w ∈ wsL_law := fun _ h => List.mem_append_left _ (List.mem_append_left _ (List.mem_append_left _ (List.mem_append_left _ (List.mem_append_left _ (List.mem_append_left _ (List.mem_append_left _ (List.mem_append_right _ h)))))))
theorem inlX3 : ∀ w ∈ wsX30, w ∈ wsL_law := fun _ h => List.mem_append_left _ (List.mem_append_left _ (List.mem_append_left _ (List.mem_append_left _ (List.mem_append_left _ (List.mem_append_left _ (List.mem_append_right _ h))))))
theorem inlX10 : ∀ w ∈ wsX100, w ∈ wsL_law := fun _ h => List.mem_append_left _ (List.mem_append_left _ (List.mem_append_left _ (List.mem_append_left _ (List.mem_append_left _ (List.mem_append_right _ h)))))
theorem inlX5 : ∀ w ∈ wsX50, w ∈ wsL_law := fun _ h => List.mem_append_left _ (List.mem_append_left _ (List.mem_append_left _ (List.mem_append_left _ (List.mem_append_right _ h))))
theorem inlJ0 : ∀ w ∈ wsJ00, w ∈ wsL_law := fun _ h => List.mem_append_left _ (List.mem_append_left _ (List.mem_append_left _ (List.mem_append_right _ h)))
theorem inlX9 : ∀ w ∈ wsX90, w ∈ wsL_law := fun _ h => List.mem_append_left _ (List.mem_append_left _ (List.mem_append_right _ h))
theorem inlX1 : ∀ w ∈ wsX10, w ∈ wsL_law := fun _ h => List.mem_append_left _ (List.mem_append_right _ h)
theorem eq_int_of {a : Term} {args : Array Value} {s : State} {x : Int32} (h : (Cond.eq a (Term.int x)).before args s = true) : a.eval args s none [] s = some (.int x) := by
  have hb : (Term.int x).eval args s none [] s = some (.int x) := rfl
  unfold Cond.before Cond.holds at h
  rw [beq_iff_eq] at h
  simp only [Cond.value, hb] at h
  cases ha : a.eval args s none [] s with
  | none => rw [ha] at h; simp at h
  | some v =>
    rw [ha] at h
    cases v <;> simp at h
    rw [h]
theorem arr_prim {s : State} {args : Array Value} {t : FieldType} (ht : ∀ C, t ≠ .object C) (h : (Cond.arrayClass t).before args s = true) : ∃ cA : ClassId, ArrOfT s cA t ∧ va_RA s cA t := by
  obtain ⟨c, k, comp, h1, h2, h3⟩ := Cond.arrayClass_spec h
  refine ⟨c, fun n z => ⟨(fun k h => by cases h), k, h2, comp, h3⟩, ?_⟩
  unfold va_RA
  split
  · exact absurd rfl (ht _)
  · exact h1
theorem arr_obj {s : State} {args : Array Value} {C : String} (h : (Cond.arrayOver (.object C)).before args s = true) : ∃ cA : ClassId, ArrOfT s cA (.object C) ∧ va_RA s cA (.object C) := by
  obtain ⟨comp, cA, kA, f4, -, f2, f3, f1⟩ := Cond.arrayOver_spec h
  exact ⟨cA, fun n z => ⟨(fun k h => by cases h), kA, f2, comp, f3⟩, kA, comp, f2, f3, f4, f1⟩
def ch0 : CH := (0, fun _ _ => 0, fun _ => 0, fun _ => 0)
def ab0 : AB := (ch0, [], none, [], [])
theorem ok_ab0 : okA ab0 := by
  refine ⟨⟨Nat.zero_le _, fun _ _ => Nat.zero_le _, fun _ => by show sumN (fun _ => 0) 8 ≤ 10; decide, fun _ => Nat.zero_le _, fun _ => Nat.zero_le _, fun _ _ _ => rfl, fun _ _ => ⟨rfl, rfl⟩⟩, fun d h => absurd h List.not_mem_nil, fun d h => (by cases h), ⟨Nat.zero_le _, fun F h => absurd h List.not_mem_nil⟩, okL_nil⟩
theorem cst_ab0 (kc : Nat → ClassId) (q : Nat) : CSt kc ab0 zeroU (fun _ => none) zeroU zeroU zeroU (fun _ => zeroU) ((0, 0), q, 16, fun _ => 0) [] := by
  refine ⟨⟨rfl, fun _ _ _ _ => rfl, fun _ _ => rfl, fun _ _ => rfl⟩, ⟨0, by omega, rfl, rfl, Nat.zero_le _, fun j c h => by simp [ab0] at h⟩, ⟨rfl, fun d h => by cases h⟩, ⟨rfl, fun j F h => by simp [ab0] at h⟩, rfl, Nat.zero_le _, by show 16 ≤ 102; omega, fun _ => rfl, fun j h => absurd h (Nat.not_lt_zero _)⟩
theorem rst_ab0 : RSt ab0 zeroU := by
  refine ⟨⟨rfl, fun _ _ _ _ => rfl, fun _ _ => rfl, fun _ _ => rfl⟩, ⟨rfl, Nat.zero_le _, fun j c h => by simp [ab0] at h⟩, ⟨rfl, fun d h => by cases h⟩, ⟨rfl, 0, rfl, Nat.zero_le _, fun j F h => by simp [ab0] at h⟩, rfl, fun i h => absurd h (Nat.not_lt_zero _)⟩
/-- the words of the law -/
theorem hts_law {args : Array Value} {s : State} (hts : ∀ w ∈ lw_tbl, w.before args s = true) : ∀ w ∈ wsL_law, w.before args s = true := by
  have hz : (Cond.selects RJ4 yJ5_isLatin1_aae02 yJ5_isLatin1_aae02).before args s = true := (hts (Cond.selects RJ4 yJ5_isLatin1_aae02 yJ5_isLatin1_aae02) (List.mem_of_getElem? (i := 566) (by decide +kernel)))
  have h_ensureCapacityInternal : (Cond.selects RJ4 yJ5_ensureCapacityInternal_d00df yJ5_ensureCapacityInternal_d00df).before args s = true := k_selPriv (by decide +kernel) hz rfl (hts (Cond.privateMethod yJ5_ensureCapacityInternal_d00df) (List.mem_of_getElem? (i := 529) (by decide +kernel))) (hts (Cond.instanceMethod yJ5_ensureCapacityInternal_d00df) (List.mem_of_getElem? (i := 530) (by decide +kernel)))
  have h_newCapacity : (Cond.selects RJ4 yJ5_newCapacity_0f7a4 yJ5_newCapacity_0f7a4).before args s = true := k_selPriv (by decide +kernel) hz rfl (hts (Cond.privateMethod yJ5_newCapacity_0f7a4) (List.mem_of_getElem? (i := 533) (by decide +kernel))) (hts (Cond.instanceMethod yJ5_newCapacity_0f7a4) (List.mem_of_getElem? (i := 534) (by decide +kernel)))
  have h_inflate : (Cond.selects RJ4 yJ5_inflate_da8c8 yJ5_inflate_da8c8).before args s = true := k_selPriv (by decide +kernel) hz rfl (hts (Cond.privateMethod yJ5_inflate_da8c8) (List.mem_of_getElem? (i := 572) (by decide +kernel))) (hts (Cond.instanceMethod yJ5_inflate_da8c8) (List.mem_of_getElem? (i := 573) (by decide +kernel)))
  have h2 : ∀ w ∈ lw_tb2, w.before args s = true := fun w hw => by
    rcases List.mem_append.mp hw with h | h
    · rcases List.mem_cons.mp h with rfl | h
      · exact h_ensureCapacityInternal
      · rcases List.mem_cons.mp h with rfl | h
        · exact h_newCapacity
        · rcases List.mem_cons.mp h with rfl | h
          · exact h_inflate
          · exact absurd h List.not_mem_nil
    · exact hts w h
  exact fun w hw => h2 w (lin_all w hw)
theorem kK_law {args : Array Value} {s : State} (hts : ∀ w ∈ lw_tbl, w.before args s = true) : ∃ (D : va_G) (kc : Nat → ClassId), kK D (tyL kc) s := by
  have hw := hts_law hts
  obtain ⟨c0, i0, hK0⟩ := u_known (C := RJ0) (T := TJ0) (N := 4) (n := 4) hw inlJ0 (hts (Cond.instantiable RJ0 4) (List.mem_of_getElem? (i := 625) (by decide +kernel)))
  obtain ⟨c1, i1, hK1⟩ := u_known (C := RJ4) (T := TJ4) (N := 4) (n := 4) hw inlJ4 (hts (Cond.instantiable RJ4 4) (List.mem_of_getElem? (i := 231) (by decide +kernel)))
  obtain ⟨c2, i2, hK2⟩ := u_known (C := RX0) (T := TX0) (N := 5) (n := 5) hw inlX0 (hts (Cond.instantiable RX0 5) (List.mem_of_getElem? (i := 209) (by decide +kernel)))
  obtain ⟨c3, i3, hK3⟩ := u_known (C := RX1) (T := TX1) (N := 4) (n := 4) hw inlX1 (hts (Cond.instantiable RX1 4) (List.mem_of_getElem? (i := 807) (by decide +kernel)))
  obtain ⟨c4, i4, hK4⟩ := u_known (C := RX2) (T := TX2) (N := 4) (n := 4) hw inlX2 (hts (Cond.instantiable RX2 4) (List.mem_of_getElem? (i := 114) (by decide +kernel)))
  obtain ⟨c5, i5, hK5⟩ := u_known (C := RX3) (T := TX3) (N := 1) (n := 1) hw inlX3 (hts (Cond.instantiable RX3 1) (List.mem_of_getElem? (i := 178) (by decide +kernel)))
  obtain ⟨c6, i6, hK6⟩ := u_known (C := RX5) (T := TX5) (N := 2) (n := 2) hw inlX5 (hts (Cond.instantiable RX5 2) (List.mem_of_getElem? (i := 841) (by decide +kernel)))
  obtain ⟨c7, i7, hK7⟩ := u_known (C := RX5) (T := TX5) (N := 2) (n := 2) hw inlX5 (hts (Cond.instantiable RX5 2) (List.mem_of_getElem? (i := 841) (by decide +kernel)))
  obtain ⟨c8, i8, hK8⟩ := u_known (C := RX6) (T := TX6) (N := 3) (n := 3) hw inlX6 (hts (Cond.instantiable RX6 3) (List.mem_of_getElem? (i := 134) (by decide +kernel)))
  obtain ⟨c9, i9, hK9⟩ := u_known (C := RX7) (T := TX7) (N := 4) (n := 4) hw inlX7 (hts (Cond.instantiable RX7 4) (List.mem_of_getElem? (i := 153) (by decide +kernel)))
  obtain ⟨c10, i10, hK10⟩ := u_known (C := RX8) (T := TX8) (N := 6) (n := 6) hw inlX8 (hts (Cond.instantiable RX8 6) (List.mem_of_getElem? (i := 172) (by decide +kernel)))
  obtain ⟨c11, i11, hK11⟩ := u_known (C := RX9) (T := TX9) (N := 7) (n := 7) hw inlX9 (hts (Cond.instantiable RX9 7) (List.mem_of_getElem? (i := 742) (by decide +kernel)))
  obtain ⟨c12, i12, hK12⟩ := u_known (C := RX10) (T := TX10) (N := 3) (n := 3) hw inlX10 (hts (Cond.instantiable RX10 3) (List.mem_of_getElem? (i := 695) (by decide +kernel)))
  obtain ⟨c13, i13, hK13⟩ := u_known (C := RX11) (T := TX11) (N := 10) (n := 10) hw inlX11 (hts (Cond.instantiable RX11 10) (List.mem_of_getElem? (i := 106) (by decide +kernel)))
  obtain ⟨c14, i14, hK14⟩ := u_known (C := RX12) (T := TX12) (N := 40) (n := 40) hw inlX12 (hts (Cond.instantiable RX12 40) (List.mem_of_getElem? (i := 1156) (by decide +kernel)))
  obtain ⟨a0, r0⟩ := arr_prim (t := .int) (fun C h => by cases h) (hts (Cond.arrayClass .int) (List.mem_of_getElem? (i := 132) (by decide +kernel)))
  obtain ⟨a1, r1⟩ := arr_prim (t := .long) (fun C h => by cases h) (hts (Cond.arrayClass .long) (List.mem_of_getElem? (i := 187) (by decide +kernel)))
  obtain ⟨a2, r2⟩ := arr_prim (t := .byte) (fun C h => by cases h) (hts (Cond.arrayClass .byte) (List.mem_of_getElem? (i := 262) (by decide +kernel)))
  have o3 : (Cond.arrayOver (.object RX2)).before args s = true := (hts (Cond.arrayOver (.object RX2)) (List.mem_of_getElem? (i := 140) (by decide +kernel)))
  obtain ⟨a3, r3⟩ := arr_obj o3
  have o4 : (Cond.arrayOver (.object RX5)).before args s = true := (hts (Cond.arrayOver (.object RX5)) (List.mem_of_getElem? (i := 264) (by decide +kernel)))
  obtain ⟨a4, r4⟩ := arr_obj o4
  refine ⟨(fun k => [c0, c1, c2, c3, c4, c5, c6, c7, c8, c9, c10, c11, c12, c13, c14].getD k 0, fun k => [i0, i1, i2, i3, i4, i5, i6, i7, i8, i9, i10, i11, i12, i13, i14].getD k (fun _ => 0)), fun k => [a0, a1, a2, a3, a4].getD k 0, ⟨fun k q hq => ?_, fun k q hq => ?_⟩, ?_, ?_, va_AO.of o3, va_AO.of o4, va_Nw.of rfl (hts (Cond.castable "[B" "java/lang/Cloneable") (List.mem_of_getElem? (i := 555) (by decide +kernel)))⟩
  · match k, hq with
    | 0, hq => cases hq; exact hK0
    | 1, hq => cases hq; exact hK1
    | 2, hq => cases hq; exact hK2
    | 3, hq => cases hq; exact hK3
    | 4, hq => cases hq; exact hK4
    | 5, hq => cases hq; exact hK5
    | 6, hq => cases hq; exact hK6
    | 7, hq => cases hq; exact hK7
    | 8, hq => cases hq; exact hK8
    | 9, hq => cases hq; exact hK9
    | 10, hq => cases hq; exact hK10
    | 11, hq => cases hq; exact hK11
    | 12, hq => cases hq; exact hK12
    | 13, hq => cases hq; exact hK13
    | 14, hq => cases hq; exact hK14
    | k + 15, hq => simp [vwCl] at hq
  · match k, hq with
    | 0, hq => cases hq; exact r0
    | 1, hq => cases hq; exact r1
    | 2, hq => cases hq; exact r2
    | 3, hq => cases hq; exact r3
    | 4, hq => cases hq; exact r4
    | k + 5, hq => simp [tyL] at hq
  · intro q hq
    have hq : q ∈ ([(RX11, 9, yX2_init, RX11), (RX0, 30, yX11_contains, RX11), (RX0, 38, yX11_isIndex, RX11), (RX0, 42, yX11_commonDivisor, RX11), (RX2, 48, yX11_contains, RX11), (RX2, 71, yX11_commonMultiple, RX11), (RX6, 17, yX2_init, RX11), (RX7, 26, yX11_isIndex, RX11), (RX8, 11, yX3_init, RX11), (RX8, 126, yX11_commonMultiple, RX11), (RX8, 139, yX11_commonDivisor, RX11), (RX8, 35, yX11_isIndex, RX11), (RX8, 74, yX11_contains, RX11), (RX11, 166, yX10_readFormula, RX11)] : List (String × Nat × MethodName × String)) := hq
    rcases List.mem_cons.mp hq with rfl | hq
    · exact va_Nw.of rfl (hts (Cond.methodLinkNest RX11 9 yX2_init RX11) (List.mem_of_getElem? (i := 115) (by decide +kernel)))
    · skip
      rcases List.mem_cons.mp hq with rfl | hq
      · exact va_Nw.of rfl (hts (Cond.methodLinkNest RX0 30 yX11_contains RX11) (List.mem_of_getElem? (i := 1086) (by decide +kernel)))
      · skip
        rcases List.mem_cons.mp hq with rfl | hq
        · exact va_Nw.of rfl (hts (Cond.methodLinkNest RX0 38 yX11_isIndex RX11) (List.mem_of_getElem? (i := 1100) (by decide +kernel)))
        · skip
          rcases List.mem_cons.mp hq with rfl | hq
          · exact va_Nw.of rfl (hts (Cond.methodLinkNest RX0 42 yX11_commonDivisor RX11) (List.mem_of_getElem? (i := 1124) (by decide +kernel)))
          · skip
            rcases List.mem_cons.mp hq with rfl | hq
            · exact va_Nw.of rfl (hts (Cond.methodLinkNest RX2 48 yX11_contains RX11) (List.mem_of_getElem? (i := 405) (by decide +kernel)))
            · skip
              rcases List.mem_cons.mp hq with rfl | hq
              · exact va_Nw.of rfl (hts (Cond.methodLinkNest RX2 71 yX11_commonMultiple RX11) (List.mem_of_getElem? (i := 906) (by decide +kernel)))
              · skip
                rcases List.mem_cons.mp hq with rfl | hq
                · exact va_Nw.of rfl (hts (Cond.methodLinkNest RX6 17 yX2_init RX11) (List.mem_of_getElem? (i := 141) (by decide +kernel)))
                · skip
                  rcases List.mem_cons.mp hq with rfl | hq
                  · exact va_Nw.of rfl (hts (Cond.methodLinkNest RX7 26 yX11_isIndex RX11) (List.mem_of_getElem? (i := 457) (by decide +kernel)))
                  · skip
                    rcases List.mem_cons.mp hq with rfl | hq
                    · exact va_Nw.of rfl (hts (Cond.methodLinkNest RX8 11 yX3_init RX11) (List.mem_of_getElem? (i := 179) (by decide +kernel)))
                    · skip
                      rcases List.mem_cons.mp hq with rfl | hq
                      · exact va_Nw.of rfl (hts (Cond.methodLinkNest RX8 126 yX11_commonMultiple RX11) (List.mem_of_getElem? (i := 1010) (by decide +kernel)))
                      · skip
                        rcases List.mem_cons.mp hq with rfl | hq
                        · exact va_Nw.of rfl (hts (Cond.methodLinkNest RX8 139 yX11_commonDivisor RX11) (List.mem_of_getElem? (i := 502) (by decide +kernel)))
                        · skip
                          rcases List.mem_cons.mp hq with rfl | hq
                          · exact va_Nw.of rfl (hts (Cond.methodLinkNest RX8 35 yX11_isIndex RX11) (List.mem_of_getElem? (i := 505) (by decide +kernel)))
                          · skip
                            rcases List.mem_cons.mp hq with rfl | hq
                            · exact va_Nw.of rfl (hts (Cond.methodLinkNest RX8 74 yX11_contains RX11) (List.mem_of_getElem? (i := 944) (by decide +kernel)))
                            · skip
                              rcases List.mem_cons.mp hq with rfl | hq
                              · exact va_Nw.of rfl (hts (Cond.methodLinkNest RX11 166 yX10_readFormula RX11) (List.mem_of_getElem? (i := 710) (by decide +kernel)))
                              · skip
                                exact absurd hq List.not_mem_nil
  · intro q hq
    have hq : q ∈ ([(RX11, 258, RX5, "root", "LProbabilisticChecker$Node;", RX11), (RX11, 271, RX9, "first", "LProbabilisticChecker$Node;", RX11), (RX11, 276, RX9, "second", "LProbabilisticChecker$Node;", RX11), (RX11, 279, RX9, "kind", "I", RX11), (RX11, 291, RX9, "steps", "I", RX11), (RX11, 294, RX9, "bound", "LProbabilisticChecker$Bound;", RX11), (RX5, 29, RX9, "depth", "I", RX11), (RX5, 35, RX9, "longest", "I", RX11), (RX11, 270, RX8, "chain", "LProbabilisticChecker$Chain;", RX11)] : List (String × Nat × String × String × String × String)) := hq
    rcases List.mem_cons.mp hq with rfl | hq
    · exact va_Nw.of rfl (hts (Cond.fieldLinkNest RX11 258 RX5 "root" "LProbabilisticChecker$Node;" RX11) (List.mem_of_getElem? (i := 848) (by decide +kernel)))
    · skip
      rcases List.mem_cons.mp hq with rfl | hq
      · exact va_Nw.of rfl (hts (Cond.fieldLinkNest RX11 271 RX9 "first" "LProbabilisticChecker$Node;" RX11) (List.mem_of_getElem? (i := 755) (by decide +kernel)))
      · skip
        rcases List.mem_cons.mp hq with rfl | hq
        · exact va_Nw.of rfl (hts (Cond.fieldLinkNest RX11 276 RX9 "second" "LProbabilisticChecker$Node;" RX11) (List.mem_of_getElem? (i := 757) (by decide +kernel)))
        · skip
          rcases List.mem_cons.mp hq with rfl | hq
          · exact va_Nw.of rfl (hts (Cond.fieldLinkNest RX11 279 RX9 "kind" "I" RX11) (List.mem_of_getElem? (i := 749) (by decide +kernel)))
          · skip
            rcases List.mem_cons.mp hq with rfl | hq
            · exact va_Nw.of rfl (hts (Cond.fieldLinkNest RX11 291 RX9 "steps" "I" RX11) (List.mem_of_getElem? (i := 753) (by decide +kernel)))
            · skip
              rcases List.mem_cons.mp hq with rfl | hq
              · exact va_Nw.of rfl (hts (Cond.fieldLinkNest RX11 294 RX9 "bound" "LProbabilisticChecker$Bound;" RX11) (List.mem_of_getElem? (i := 751) (by decide +kernel)))
              · skip
                rcases List.mem_cons.mp hq with rfl | hq
                · exact va_Nw.of rfl (hts (Cond.fieldLinkNest RX5 29 RX9 "depth" "I" RX11) (List.mem_of_getElem? (i := 759) (by decide +kernel)))
                · skip
                  rcases List.mem_cons.mp hq with rfl | hq
                  · exact va_Nw.of rfl (hts (Cond.fieldLinkNest RX5 35 RX9 "longest" "I" RX11) (List.mem_of_getElem? (i := 761) (by decide +kernel)))
                  · skip
                    rcases List.mem_cons.mp hq with rfl | hq
                    · exact va_Nw.of rfl (hts (Cond.fieldLinkNest RX11 270 RX8 "chain" "LProbabilisticChecker$Chain;" RX11) (List.mem_of_getElem? (i := 189) (by decide +kernel)))
                    · skip
                      exact absurd hq List.not_mem_nil
