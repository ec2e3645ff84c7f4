/-! ===== the JDK's StringBuilder ===== -/
theorem va_setE {w : va_W} {x y : Nat × va_E} : (w ++ [x]).set w.length y = w ++ [y] := by
  rw [List.set_append_right _ _ (Nat.le_refl _), Nat.sub_self]; rfl
theorem jk_fit0 : ∀ i : Nat, fits .byte (.int ((fun _ : Nat => (0 : Int32)) i)) = true := fun _ => rfl
theorem jk_cpyf {f : Nat → Int32} {n : Nat} (hf : ∀ i, fits .byte (.int (f i)) = true) (i : Nat) : fits .byte (.int (va_cpy f (fun _ => 0) 0 0 n i)) = true := by
  unfold va_cpy; dsimp only
  split
  · exact hf _
  · rfl
theorem jk_cpy {f : Nat → Int32} {n j : Nat} (h : j < n) : va_cpy f (fun _ => 0) 0 0 n j = f j := by
  unfold va_cpy; dsimp only
  rw [if_pos (by omega)]; congr 1; omega
theorem jk_suble {q n : Nat} (h : q ≤ n) (hn : n < 2 ^ 30) : nI q - nI n ≤ 0 := by
  have e1 : (nI q - nI n).toInt = (q : Int) - n := pk_sub_toInt (by omega) (by omega)
  rw [Int32.le_iff_toInt_le, e1, Int32.toInt_zero]; omega
theorem jk_sub0 (x : Int32) : x - 0 = x := Int32.sub_zero x
theorem jk_updf {f : Nat → Int32} (hf : ∀ i, fits .byte (.int (f i)) = true) (k : Nat) {x : Nat} (hx : x < 128) (i : Nat) : fits .byte (.int (upd f k (vp_nar .byte (nI x)) i)) = true := by
  unfold upd
  split
  · rw [vp_nar_byte, (jk_ch x hx).2.2.1]
    have h2 : ∀ x, x < 128 → fits .byte (.int (nI x)) = true := by decide +kernel
    exact h2 x hx
  · exact hf i
theorem lac_J7_copyOf_9075b_byte : Cond.arrayClass .byte ∈ wsJ7_copyOf_9075b := List.mem_of_getElem? (i := 7) (by decide +kernel)
theorem lmmin_J7_copyOf_9075b_304 : Cond.methodLink RJ7 304 Lib.Math.min.name ∈ wsJ7_copyOf_9075b := List.mem_of_getElem? (i := 8) (by decide +kernel)
theorem lmsmin_J7_copyOf_9075b : Cond.static Lib.Math.min.name ∈ wsJ7_copyOf_9075b := List.mem_of_getElem? (i := 9) (by decide +kernel)
theorem lmi2_J7_copyOf_9075b : Cond.initialized "java/lang/Math" ∈ wsJ7_copyOf_9075b := List.mem_of_getElem? (i := 10) (by decide +kernel)
theorem lmcmin_J7_copyOf_9075b : Cond.code Lib.Math.min.name Lib.Math.min.code 2 (some .int) ∈ wsJ7_copyOf_9075b := List.mem_of_getElem? (i := 11) (by decide +kernel)
theorem la_J7_copyOf_9075b_150 : Cond.methodLink RJ7 150 arraycopyName ∈ wsJ7_copyOf_9075b := List.mem_of_getElem? (i := 12) (by decide +kernel)
theorem lan_J7_copyOf_9075b : Cond.native arraycopyName ∈ wsJ7_copyOf_9075b := List.mem_of_getElem? (i := 13) (by decide +kernel)
theorem las_J7_copyOf_9075b : Cond.static arraycopyName ∈ wsJ7_copyOf_9075b := List.mem_of_getElem? (i := 14) (by decide +kernel)
theorem lai_J7_copyOf_9075b : Cond.initialized "java/lang/System" ∈ wsJ7_copyOf_9075b := List.mem_of_getElem? (i := 15) (by decide +kernel)
set_option maxRecDepth 100000 in
set_option maxHeartbeats 4000000 in
theorem c_J7_copyOf (l : Launch) (D : va_G) (kc : Nat → ClassId) (w : va_W) (q1 ba n : Nat) (f : Nat → Int32) (h1 : w[q1]? = some (ba, .inl (kc 2, n, .inl f))) (hf : ∀ i, fits .byte (.int (f i)) = true) (k : Nat) (hk : n < k) (hk2 : k ≤ 100000) : kCq l D (tyL kc) yJ7_copyOf_9075b wsJ7_copyOf_9075b ({ frames := 1, cells := 1, slots := k, locals := 60 } : Room) [.ref ba, .int (nI k)] (w) (fun q : Nat => w ++ [(q, .inl (kc 2, k, .inl (va_cpy f (fun _ => 0) 0 0 n)))]) (1) (k) (fun o q => o = some q) := by
  intro sz
  refine k_begin (cc := cJ7_copyOf_9075b) (maxL := 3) (ret := (some (.array .byte))) (by decide +kernel) rfl rfl (fun p e s m args below meth c hsz E G ls hl => ?_)
  subst hsz
  have hl : lv_has ls 3 [(0, .ref ba), (1, .int (nI k))] := hl
  refine lv_iload_n E.ex E.by dJ7_copyOf_9075b_0 rfl (lv_at hl 1 rfl) ?_
  refine lv_aload_n E.ex E.by dJ7_copyOf_9075b_1 rfl (lv_at hl 0 rfl) ?_
  refine k_alen E G (q1) (h1) 2 rfl dJ7_copyOf_9075b_2 ?_
  refine lv_icmp_ne (tgt := 14) E.ex E.by dJ7_copyOf_9075b_3 (by decide) (fun hc => ?_) (fun hc => absurd hc (fun z => by have := (nI_eq (by omega) (by omega)).mp z; omega))
  clear hc
  refine lv_iload_n E.ex E.by dJ7_copyOf_9075b_14 rfl (lv_at hl 1 rfl) ?_
  refine k_newab E G lac_J7_copyOf_9075b_byte 2 rfl (N' := k) (nI_pos (by omega)) (nI_clamp (by omega)) (by omega) (⟨Nat.le_refl _, by show 0 + k ≤ k; omega⟩) dJ7_copyOf_9075b_15 (fun nw1 H G => ?_)
  refine lv_astore_n (lv' := [(2, .ref nw1), (0, .ref ba), (1, .int (nI k))]) E.ex E.by dJ7_copyOf_9075b_17 rfl hl (by decide) rfl (fun ls hl => ?_)
  refine lv_aload_n E.ex E.by dJ7_copyOf_9075b_18 rfl (lv_at hl 1 rfl) ?_
  refine lv_iconst (v := 0) E.ex E.by dJ7_copyOf_9075b_19 (by decide) ?_
  refine lv_aload_n E.ex E.by dJ7_copyOf_9075b_20 rfl (lv_at hl 0 rfl) ?_
  refine lv_iconst (v := 0) E.ex E.by dJ7_copyOf_9075b_21 (by decide) ?_
  refine lv_aload_n E.ex E.by dJ7_copyOf_9075b_22 rfl (lv_at hl 1 rfl) ?_
  refine k_alen E G (q1) (va_gL (h1)) 2 rfl dJ7_copyOf_9075b_23 ?_
  refine lv_iload_n E.ex E.by dJ7_copyOf_9075b_24 rfl (lv_at hl 2 rfl) ?_
  refine va_mmin E.ex E.by (E.nl.trans hl.1.symm) E.ow (E.ts _ lmmin_J7_copyOf_9075b_304) (E.ts _ lmsmin_J7_copyOf_9075b) (E.ts _ lmi2_J7_copyOf_9075b) (E.ts _ lmcmin_J7_copyOf_9075b) (Nat.le_of_ble_eq_true rfl) (Nat.le_of_ble_eq_true rfl) (Nat.le_of_ble_eq_true rfl) (show 0 + k ≤ k by omega) dJ7_copyOf_9075b_25 ?_
  refine lv_topi (fun y2 ey2 => ?_)
  have ey2 : y2 = nI n := ey2.trans (by rw [jk_min (by omega) (by omega), Nat.min_eq_right (by omega)])
  subst ey2
  refine k_copyb E G la_J7_copyOf_9075b_150 lan_J7_copyOf_9075b las_J7_copyOf_9075b lai_J7_copyOf_9075b (q1) ((w).length) (va_gL (h1)) (va_gE) 2 ⟨rfl, rfl⟩ hl (by decide) (by decide) (nI_pos (by omega)) (by rw [nI_clamp (by omega), cl0]; omega) (by rw [nI_clamp (by omega), cl0]; omega) (hf) rfl ⟨rfl, rfl⟩ dJ7_copyOf_9075b_28 (fun H locs G => ?_)
  have G := G.cg (wz := w ++ [(nw1, .inl (kc 2, k, .inl (va_cpy f (fun _ => 0) 0 0 n)))]) (by rw [nI_clamp (by omega), cl0]; exact va_setE)
  refine lv_aload_n E.ex E.by dJ7_copyOf_9075b_31 rfl (lv_at hl 0 rfl) ?_
  refine k_retq (P := (fun o q => o = some q)) (wof := (fun q : Nat => w ++ [(q, .inl (kc 2, k, .inl (va_cpy f (fun _ => 0) 0 0 n)))])) (o := (some nw1)) (u := _) (Or.inr ⟨_, rfl⟩) E G ?_ ?_ ?_ dJ7_copyOf_9075b_32
  · exact rfl
  · first | exact Nat.le_of_ble_eq_true rfl | omega
  · first | exact Nat.le_of_ble_eq_true rfl | omega
theorem wi_J5_ensureCapacityInternal_d00df_J4 : ∀ w ∈ wsJ40, w ∈ wsJ5_ensureCapacityInternal_d00df := fun w h => List.mem_cons_of_mem _ (List.mem_append_right _ (h))
theorem fl_J5_ensureCapacityInternal_d00df_J4_0 : Cond.fieldLink RJ5 15 (TJ4 0).1 (TJ4 0).2.1 (TJ4 0).2.2.1 ∈ wsJ5_ensureCapacityInternal_d00df := List.mem_of_getElem? (i := 1) (by decide +kernel)
theorem fl_J5_ensureCapacityInternal_d00df_J4_1 : Cond.fieldLink RJ5 22 (TJ4 1).1 (TJ4 1).2.1 (TJ4 1).2.2.1 ∈ wsJ5_ensureCapacityInternal_d00df := List.mem_of_getElem? (i := 2) (by decide +kernel)
theorem hd_J5_newCapacity_0f7a4_n : yJ5_newCapacity_0f7a4.cls ≠ "java/lang/invoke/MethodHandle" ∧ yJ5_newCapacity_0f7a4.cls ≠ "java/lang/invoke/VarHandle" ∧ (parseMethodDescriptor yJ5_newCapacity_0f7a4.desc).map (fun d => d.parameters.length) = some 1 := by decide +kernel
theorem hd_J7_copyOf_9075b_n : yJ7_copyOf_9075b.cls ≠ "java/lang/invoke/MethodHandle" ∧ yJ7_copyOf_9075b.cls ≠ "java/lang/invoke/VarHandle" ∧ (parseMethodDescriptor yJ7_copyOf_9075b.desc).map (fun d => d.parameters.length) = some 2 := by decide +kernel
set_option maxRecDepth 100000 in
set_option maxHeartbeats 4000000 in
theorem c_J5_ensure (l : Launch) (D : va_G) (kc : Nat → ClassId) (sa ba n q : Nat) (mb cnt : Int32) (f : Nat → Int32) (hf : ∀ i, fits .byte (.int (f i)) = true) (hn : n ≤ 102) (hq : q ≤ 51) : kCv l D (tyL kc) yJ5_ensureCapacityInternal_d00df wsJ5_ensureCapacityInternal_d00df ({ frames := 3, cells := 1, slots := 102, locals := 82 } : Room) [.ref sa, .int (nI q)] ([(sa, .inr (1, [.ref ba, .int 0, .int mb, .int cnt])), (ba, .inl (kc 2, n, .inl f))]) (fun u : Nat × Nat × (Nat → Int32) => [(sa, .inr (1, [.ref u.1, .int 0, .int mb, .int cnt])), (u.1, .inl (kc 2, u.2.1, .inl u.2.2))]) (1) (102) (fun u => (∀ j, j < n → u.2.2 j = f j) ∧ (∀ i, fits .byte (.int (u.2.2 i)) = true) ∧ q ≤ u.2.1 ∧ n ≤ u.2.1 ∧ u.2.1 ≤ 102) := by
  intro sz
  refine k_begin (cc := cJ5_ensureCapacityInternal_d00df) (maxL := 3) (ret := none) (by decide +kernel) rfl rfl (fun p e s m args below meth c hsz E G ls hl => ?_)
  subst hsz
  have hl : lv_has ls 3 [(0, .ref sa), (1, .int (nI q))] := hl
  by_cases hcs : q ≤ n
  · refine lv_aload_n E.ex E.by dJ5_ensureCapacityInternal_d00df_0 rfl (lv_at hl 0 rfl) ?_
    refine k_get E G wi_J5_ensureCapacityInternal_d00df_J4 (0) (rfl) rfl 0 rfl fl_J5_ensureCapacityInternal_d00df_J4_0 (v := .ref ba) rfl dJ5_ensureCapacityInternal_d00df_1 ?_
    refine k_alen E G (1) (rfl) 2 rfl dJ5_ensureCapacityInternal_d00df_4 ?_
    refine lv_aload_n E.ex E.by dJ5_ensureCapacityInternal_d00df_5 rfl (lv_at hl 0 rfl) ?_
    refine k_get E G wi_J5_ensureCapacityInternal_d00df_J4 (0) (rfl) rfl 1 rfl fl_J5_ensureCapacityInternal_d00df_J4_1 (v := .int 0) rfl dJ5_ensureCapacityInternal_d00df_6 ?_
    refine lv_ishr E.ex E.by dJ5_ensureCapacityInternal_d00df_9 ?_
    refine lv_topi (fun y1 ey1 => ?_)
    have ey1 : y1 = nI n := ey1.trans (jk_shr _)
    subst ey1
    refine lv_istore_n (lv' := [(2, .int (nI n)), (0, .ref sa), (1, .int (nI q))]) E.ex E.by dJ5_ensureCapacityInternal_d00df_10 rfl hl (by decide) rfl (fun ls hl => ?_)
    refine lv_iload_n E.ex E.by dJ5_ensureCapacityInternal_d00df_11 rfl (lv_at hl 2 rfl) ?_
    refine lv_iload_n E.ex E.by dJ5_ensureCapacityInternal_d00df_12 rfl (lv_at hl 0 rfl) ?_
    refine lv_isub E.ex E.by dJ5_ensureCapacityInternal_d00df_13 ?_
    refine lv_if_le (tgt := 38) E.ex E.by dJ5_ensureCapacityInternal_d00df_14 (by decide) (fun hc => ?_) (fun hc => absurd (jk_suble hcs (by omega)) hc)
    clear hc
    exact k_retv (wof := (fun u : Nat × Nat × (Nat → Int32) => [(sa, .inr (1, [.ref u.1, .int 0, .int mb, .int cnt])), (u.1, .inl (kc 2, u.2.1, .inl u.2.2))])) (u := (ba, n, f)) E G (by exact ⟨fun _ _ => rfl, hf, hcs, Nat.le_refl _, hn⟩) (by first | exact Nat.le_of_ble_eq_true rfl | omega) (by first | exact Nat.le_of_ble_eq_true rfl | omega) dJ5_ensureCapacityInternal_d00df_38
  · refine lv_aload_n E.ex E.by dJ5_ensureCapacityInternal_d00df_0 rfl (lv_at hl 0 rfl) ?_
    refine k_get E G wi_J5_ensureCapacityInternal_d00df_J4 (0) (rfl) rfl 0 rfl fl_J5_ensureCapacityInternal_d00df_J4_0 (v := .ref ba) rfl dJ5_ensureCapacityInternal_d00df_1 ?_
    refine k_alen E G (1) (rfl) 2 rfl dJ5_ensureCapacityInternal_d00df_4 ?_
    refine lv_aload_n E.ex E.by dJ5_ensureCapacityInternal_d00df_5 rfl (lv_at hl 0 rfl) ?_
    refine k_get E G wi_J5_ensureCapacityInternal_d00df_J4 (0) (rfl) rfl 1 rfl fl_J5_ensureCapacityInternal_d00df_J4_1 (v := .int 0) rfl dJ5_ensureCapacityInternal_d00df_6 ?_
    refine lv_ishr E.ex E.by dJ5_ensureCapacityInternal_d00df_9 ?_
    refine lv_topi (fun y1 ey1 => ?_)
    have ey1 : y1 = nI n := ey1.trans (jk_shr _)
    subst ey1
    refine lv_istore_n (lv' := [(2, .int (nI n)), (0, .ref sa), (1, .int (nI q))]) E.ex E.by dJ5_ensureCapacityInternal_d00df_10 rfl hl (by decide) rfl (fun ls hl => ?_)
    refine lv_iload_n E.ex E.by dJ5_ensureCapacityInternal_d00df_11 rfl (lv_at hl 2 rfl) ?_
    refine lv_iload_n E.ex E.by dJ5_ensureCapacityInternal_d00df_12 rfl (lv_at hl 0 rfl) ?_
    refine lv_isub E.ex E.by dJ5_ensureCapacityInternal_d00df_13 ?_
    refine lv_topi (fun y2 ey2 => ?_)
    have ey2 : y2 = nI (q - n) := ey2.trans (pk_sub (by omega))
    subst ey2
    refine lv_if_le (tgt := 38) E.ex E.by dJ5_ensureCapacityInternal_d00df_14 (by decide) (fun hc => absurd hc (nI_nle (by omega) (by omega))) (fun hc => ?_)
    clear hc
    refine lv_aload_n E.ex E.by dJ5_ensureCapacityInternal_d00df_17 rfl (lv_at hl 1 rfl) ?_
    refine lv_aload_n E.ex E.by dJ5_ensureCapacityInternal_d00df_18 rfl (lv_at hl 1 rfl) ?_
    refine k_get E G wi_J5_ensureCapacityInternal_d00df_J4 (0) (rfl) rfl 0 rfl fl_J5_ensureCapacityInternal_d00df_J4_0 (v := .ref ba) rfl dJ5_ensureCapacityInternal_d00df_19 ?_
    refine lv_aload_n E.ex E.by dJ5_ensureCapacityInternal_d00df_22 rfl (lv_at hl 1 rfl) ?_
    refine lv_iload_n E.ex E.by dJ5_ensureCapacityInternal_d00df_23 rfl (lv_at hl 2 rfl) ?_
    refine k_cUi (n := 1) (X := []) (w := [(sa, .inr (1, [.ref ba, .int 0, .int mb, .int cnt])), (ba, .inl (kc 2, n, .inl f))]) (Z := []) (wnew := (fun _ : Unit => [(sa, .inr (1, [.ref ba, .int 0, .int mb, .int cnt])), (ba, .inl (kc 2, n, .inl f))])) (As := [.int (nI q)]) (rest := [.ref ba, .ref sa]) E (List.append_nil _).symm G (c_J5_newCapacity l D kc _ 0 sa ba mb cnt rfl 1 n q f rfl (by omega) (by omega)) gJ5_ensureCapacityInternal_d00df_J5_newCapacity_0f7a4_u104J4 rfl rfl ⟨rfl, rfl⟩ (by decide +kernel) ⟨rfl, rfl⟩ (0) (rfl) rfl rfl hl rfl rfl dJ5_ensureCapacityInternal_d00df_24 (⟨Nat.le_of_ble_eq_true rfl, Nat.le_of_ble_eq_true rfl⟩) (fun _ => (List.append_nil _).symm) (fun r3 u3 hq3 H locs G => ?_)
    subst hq3
    refine lv_aload_n E.ex E.by dJ5_ensureCapacityInternal_d00df_27 rfl (lv_at hl 1 rfl) ?_
    refine k_get E G wi_J5_ensureCapacityInternal_d00df_J4 (0) (rfl) rfl 1 rfl fl_J5_ensureCapacityInternal_d00df_J4_1 (v := .int 0) rfl dJ5_ensureCapacityInternal_d00df_28 ?_
    refine lv_ishl E.ex E.by dJ5_ensureCapacityInternal_d00df_31 ?_
    refine lv_topi (fun y4 ey4 => ?_)
    have ey4 : y4 = nI (n + max (q - n) (n + 2)) := ey4.trans (jk_shl _)
    subst ey4
    refine k_cTq (n := 2) (X := []) (w := [(sa, .inr (1, [.ref ba, .int 0, .int mb, .int cnt])), (ba, .inl (kc 2, n, .inl f))]) (Z := []) (wnew := (fun z : Nat => [(sa, .inr (1, [.ref ba, .int 0, .int mb, .int cnt])), (ba, .inl (kc 2, n, .inl f)), (z, .inl (kc 2, (n + max (q - n) (n + 2)), .inl (va_cpy f (fun _ => 0) 0 0 n)))])) (As := [.ref ba, .int (nI (n + max (q - n) (n + 2)))]) (rest := [.ref sa]) E (List.append_nil _).symm G (c_J7_copyOf l D kc _ 1 ba n f rfl hf (n + max (q - n) (n + 2)) (by omega) (by omega)) gJ5_ensureCapacityInternal_d00df_J7_copyOf_9075b rfl ⟨rfl, rfl⟩ hd_J7_copyOf_9075b_n ⟨rfl, rfl⟩ rfl hl rfl rfl dJ5_ensureCapacityInternal_d00df_32 ((show 0 + 0 + 1 ≤ 1 ∧ 0 + 0 + (n + max (q - n) (n + 2)) ≤ 102 from ⟨by omega, by omega⟩)) (fun _ => rfl) (fun r5 u5 hq5 H locs G => ?_)
    subst hq5
    have G : kG D _ s ([(sa, .inr (1, [.ref ba, .int 0, .int mb, .int cnt])), (ba, .inl (kc 2, n, .inl f)), (u5, .inl (kc 2, (n + max (q - n) (n + 2)), .inl (va_cpy f (fun _ => 0) 0 0 n)))] : va_W) H _ := G
    refine k_putX E G wi_J5_ensureCapacityInternal_d00df_J4 tyJ4_ok nmJ4 (0) (rfl) rfl 0 rfl fl_J5_ensureCapacityInternal_d00df_J4_0 rfl rfl rfl rfl ([(sa, .inr (1, [.ref u5, .int 0, .int mb, .int cnt])), (ba, .inl (kc 2, n, .inl f)), (u5, .inl (kc 2, (n + max (q - n) (n + 2)), .inl (va_cpy f (fun _ => 0) 0 0 n)))]) rfl dJ5_ensureCapacityInternal_d00df_35 (fun H locs G => ?_)
    have G : kG D _ s (((fun u : Nat × Nat × (Nat → Int32) => [(sa, .inr (1, [.ref u.1, .int 0, .int mb, .int cnt])), (u.1, .inl (kc 2, u.2.1, .inl u.2.2))])) ((_, (n + max (q - n) (n + 2)), va_cpy f (fun _ => 0) 0 0 n))) H _ := kG.perm G [0, 2] (by decide) rfl
    exact k_retv (wof := (fun u : Nat × Nat × (Nat → Int32) => [(sa, .inr (1, [.ref u.1, .int 0, .int mb, .int cnt])), (u.1, .inl (kc 2, u.2.1, .inl u.2.2))])) (u := (_, (n + max (q - n) (n + 2)), va_cpy f (fun _ => 0) 0 0 n)) E G (by exact ⟨fun j hj => jk_cpy hj, jk_cpyf hf, by show q ≤ (n + max (q - n) (n + 2)); omega, by show n ≤ (n + max (q - n) (n + 2)); omega, by show (n + max (q - n) (n + 2)) ≤ 102; omega⟩) (by first | exact Nat.le_of_ble_eq_true rfl | omega) (by first | exact Nat.le_of_ble_eq_true rfl | omega) dJ5_ensureCapacityInternal_d00df_38
theorem wi_J5_append_3fe6f_J4 : ∀ w ∈ wsJ40, w ∈ wsJ5_append_3fe6f := fun w h => List.mem_cons_of_mem _ (List.mem_append_right _ (h))
theorem fl_J5_append_3fe6f_J4_3 : Cond.fieldLink RJ5 79 (TJ4 3).1 (TJ4 3).2.1 (TJ4 3).2.2.1 ∈ wsJ5_append_3fe6f := List.mem_of_getElem? (i := 1) (by decide +kernel)
theorem hd_J5_ensureCapacityInternal_d00df_n : yJ5_ensureCapacityInternal_d00df.cls ≠ "java/lang/invoke/MethodHandle" ∧ yJ5_ensureCapacityInternal_d00df.cls ≠ "java/lang/invoke/VarHandle" ∧ (parseMethodDescriptor yJ5_ensureCapacityInternal_d00df.desc).map (fun d => d.parameters.length) = some 1 := by decide +kernel
theorem hd_J5_isLatin1_aae02_n : yJ5_isLatin1_aae02.cls ≠ "java/lang/invoke/MethodHandle" ∧ yJ5_isLatin1_aae02.cls ≠ "java/lang/invoke/VarHandle" ∧ (parseMethodDescriptor yJ5_isLatin1_aae02.desc).map (fun d => d.parameters.length) = some 0 := by decide +kernel
theorem hd_J1_canEncode_fc78d_n : yJ1_canEncode_fc78d.cls ≠ "java/lang/invoke/MethodHandle" ∧ yJ1_canEncode_fc78d.cls ≠ "java/lang/invoke/VarHandle" ∧ (parseMethodDescriptor yJ1_canEncode_fc78d.desc).map (fun d => d.parameters.length) = some 1 := by decide +kernel
theorem fl_J5_append_3fe6f_J4_0 : Cond.fieldLink RJ5 15 (TJ4 0).1 (TJ4 0).2.1 (TJ4 0).2.2.1 ∈ wsJ5_append_3fe6f := List.mem_of_getElem? (i := 2) (by decide +kernel)
set_option maxRecDepth 100000 in
set_option maxHeartbeats 4000000 in
theorem c_J5_append (l : Launch) (D : va_G) (kc : Nat → ClassId) (sa ba n k x : Nat) (mb : Int32) (f : Nat → Int32) (hf : ∀ i, fits .byte (.int (f i)) = true) (hn : n ≤ 102) (hk : k ≤ 50) (hx : x < 128) : kCq l D (tyL kc) yJ5_append_3fe6f wsJ5_append_3fe6f ({ frames := 4, cells := 1, slots := 102, locals := 104 } : Room) [.ref sa, .int (nI x)] ([(sa, .inr (1, [.ref ba, .int 0, .int mb, .int (nI k)])), (ba, .inl (kc 2, n, .inl f))]) (fun u : Nat × Nat × (Nat → Int32) => [(sa, .inr (1, [.ref u.1, .int 0, .int mb, .int (nI (k + 1))])), (u.1, .inl (kc 2, u.2.1, .inl u.2.2))]) (1) (102) (fun o u => o = some sa ∧ k + 1 ≤ u.2.1 ∧ u.2.1 ≤ 102 ∧ (∀ j, j < k → j < n → u.2.2 j = f j) ∧ u.2.2 k = nI x ∧ ∀ i, fits .byte (.int (u.2.2 i)) = true) := by
  intro sz
  refine k_begin (cc := cJ5_append_3fe6f) (maxL := 2) (ret := (some (.object "java/lang/AbstractStringBuilder"))) (by decide +kernel) rfl rfl (fun p e s m args below meth c hsz E G ls hl => ?_)
  subst hsz
  have hl : lv_has ls 2 [(0, .ref sa), (1, .int (nI x))] := hl
  refine lv_aload_n E.ex E.by dJ5_append_3fe6f_0 rfl (lv_at hl 0 rfl) ?_
  refine lv_aload_n E.ex E.by dJ5_append_3fe6f_1 rfl (lv_at hl 0 rfl) ?_
  refine k_get E G wi_J5_append_3fe6f_J4 (0) (rfl) rfl 3 rfl fl_J5_append_3fe6f_J4_3 (v := .int (nI k)) rfl dJ5_append_3fe6f_2 ?_
  refine lv_iconst (v := 1) E.ex E.by dJ5_append_3fe6f_5 (by decide) ?_
  refine lv_iadd E.ex E.by dJ5_append_3fe6f_6 ?_
  refine lv_topi (fun y1 ey1 => ?_)
  have ey1 : y1 = nI (k + 1) := ey1.trans (nI_1 k)
  subst ey1
  refine k_cUv (n := 1) (X := []) (w := [(sa, .inr (1, [.ref ba, .int 0, .int mb, .int (nI k)])), (ba, .inl (kc 2, n, .inl f))]) (Z := []) (wnew := (fun u : Nat × Nat × (Nat → Int32) => [(sa, .inr (1, [.ref u.1, .int 0, .int mb, .int (nI k)])), (u.1, .inl (kc 2, u.2.1, .inl u.2.2))])) (As := [.int (nI (k + 1))]) (rest := []) E (List.append_nil _).symm G (c_J5_ensure l D kc sa ba n (k + 1) mb (nI k) f hf hn (by omega)) gJ5_append_3fe6f_J5_ensureCapacityInternal_d00df_u100J4 rfl rfl ⟨rfl, rfl⟩ (by decide +kernel) ⟨rfl, rfl⟩ (0) (rfl) rfl rfl hl rfl rfl dJ5_append_3fe6f_7 (⟨Nat.le_of_ble_eq_true rfl, Nat.le_of_ble_eq_true rfl⟩) (fun _ => (List.append_nil _).symm) (fun u2 hq2 H locs G => ?_)
  obtain ⟨e1u2, e2u2, e3u2, e4u2, e5u2⟩ := hq2
  have G : kG D _ s ([(sa, .inr (1, [.ref (u2.1), .int 0, .int mb, .int (nI k)])), ((u2.1), .inl (kc 2, (u2.2.1), .inl (u2.2.2)))] : va_W) H _ := G
  refine lv_aload_n E.ex E.by dJ5_append_3fe6f_10 rfl (lv_at hl 0 rfl) ?_
  refine k_cUi (n := 0) (X := []) (w := [(sa, .inr (1, [.ref (u2.1), .int 0, .int mb, .int (nI k)])), ((u2.1), .inl (kc 2, (u2.2.1), .inl (u2.2.2)))]) (Z := []) (wnew := (fun _ : Unit => [(sa, .inr (1, [.ref (u2.1), .int 0, .int mb, .int (nI k)])), ((u2.1), .inl (kc 2, (u2.2.1), .inl (u2.2.2)))])) (As := []) (rest := []) E (List.append_nil _).symm G (c_J5_isLatin1 l D kc _ 0 sa _ mb (nI k) rfl) gJ5_append_3fe6f_J5_isLatin1_aae02_u83J4 rfl rfl ⟨rfl, rfl⟩ (by decide +kernel) ⟨rfl, rfl⟩ (0) (rfl) rfl rfl hl rfl rfl dJ5_append_3fe6f_11 (⟨Nat.le_of_ble_eq_true rfl, Nat.le_of_ble_eq_true rfl⟩) (fun _ => (List.append_nil _).symm) (fun r3 u3 hq3 H locs G => ?_)
  subst hq3
  refine lv_if_eq (tgt := 45) E.ex E.by dJ5_append_3fe6f_14 (by decide) (fun hc => absurd hc (by decide)) (fun hc => ?_)
  clear hc
  refine lv_iload_n E.ex E.by dJ5_append_3fe6f_17 rfl (lv_at hl 1 rfl) ?_
  refine k_cTi (n := 1) (X := [(sa, .inr (1, [.ref (u2.1), .int 0, .int mb, .int (nI k)])), ((u2.1), .inl (kc 2, (u2.2.1), .inl (u2.2.2)))]) (w := []) (Z := []) (wnew := (fun _ : Unit => [(sa, .inr (1, [.ref (u2.1), .int 0, .int mb, .int (nI k)])), ((u2.1), .inl (kc 2, (u2.2.1), .inl (u2.2.2)))])) (As := [.int (nI x)]) (rest := []) E (List.append_nil _).symm G (c_J1_canEncode l D kc x (by omega)) gJ5_append_3fe6f_J1_canEncode_fc78d rfl ⟨rfl, rfl⟩ hd_J1_canEncode_fc78d_n ⟨rfl, rfl⟩ rfl hl rfl rfl dJ5_append_3fe6f_18 (⟨Nat.le_of_ble_eq_true rfl, Nat.le_of_ble_eq_true rfl⟩) (fun _ => (List.append_nil _).symm) (fun r4 u4 hq4 H locs G => ?_)
  subst hq4
  refine lv_if_eq (tgt := 45) E.ex E.by dJ5_append_3fe6f_21 (by decide) (fun hc => absurd hc (by decide)) (fun hc => ?_)
  clear hc
  refine lv_aload_n E.ex E.by dJ5_append_3fe6f_24 rfl (lv_at hl 0 rfl) ?_
  refine k_get E G wi_J5_append_3fe6f_J4 (0) (rfl) rfl 0 rfl fl_J5_append_3fe6f_J4_0 (v := .ref (u2.1)) rfl dJ5_append_3fe6f_25 ?_
  refine lv_aload_n E.ex E.by dJ5_append_3fe6f_28 rfl (lv_at hl 0 rfl) ?_
  refine lv_dup E.ex E.by dJ5_append_3fe6f_29 rfl ?_
  refine k_get E G wi_J5_append_3fe6f_J4 (0) (rfl) rfl 3 rfl fl_J5_append_3fe6f_J4_3 (v := .int (nI k)) rfl dJ5_append_3fe6f_30 ?_
  refine lv_dup_x1 E.ex E.by dJ5_append_3fe6f_33 rfl rfl ?_
  refine lv_iconst (v := 1) E.ex E.by dJ5_append_3fe6f_34 (by decide) ?_
  refine lv_iadd E.ex E.by dJ5_append_3fe6f_35 ?_
  refine lv_topi (fun y5 ey5 => ?_)
  have ey5 : y5 = nI (k + 1) := ey5.trans (nI_1 k)
  subst ey5
  refine k_putX E G wi_J5_append_3fe6f_J4 tyJ4_ok nmJ4 (0) (rfl) rfl 3 rfl fl_J5_append_3fe6f_J4_3 rfl rfl rfl rfl ([(sa, .inr (1, [.ref (u2.1), .int 0, .int mb, .int (nI (k + 1))])), ((u2.1), .inl (kc 2, (u2.2.1), .inl (u2.2.2)))]) rfl dJ5_append_3fe6f_36 (fun H locs G => ?_)
  refine lv_iload_n E.ex E.by dJ5_append_3fe6f_39 rfl (lv_at hl 1 rfl) ?_
  refine lv_i2b (v := nI x) E.ex E.by dJ5_append_3fe6f_40 ((jk_ch x hx).2.2.1) ?_
  refine k_bast E G (1) (rfl) 2 rfl (vp_in_nI (by omega) (by omega)) dJ5_append_3fe6f_41 (fun H locs G => ?_)
  have G := G.cg (wz := [(sa, .inr (1, [.ref (u2.1), .int 0, .int mb, .int (nI (k + 1))])), ((u2.1), .inl (kc 2, (u2.2.1), .inl (upd (u2.2.2) (nI k).toNatClampNeg (vp_nar .byte (nI x)))))]) (rfl)
  refine lv_goto (tgt := 75) E.ex E.by dJ5_append_3fe6f_42 (by decide) ?_
  refine lv_aload_n E.ex E.by dJ5_append_3fe6f_75 rfl (lv_at hl 0 rfl) ?_
  refine k_retq (wof := (fun u : Nat × Nat × (Nat → Int32) => [(sa, .inr (1, [.ref u.1, .int 0, .int mb, .int (nI (k + 1))])), (u.1, .inl (kc 2, u.2.1, .inl u.2.2))])) (o := (some sa)) (u := (u2.1, u2.2.1, upd u2.2.2 (nI k).toNatClampNeg (vp_nar .byte (nI x)))) (Or.inl ⟨_, rfl⟩) E G ?_ ?_ ?_ dJ5_append_3fe6f_76
  · exact ⟨rfl, e3u2, e5u2, fun j hj hjn => by show upd _ _ _ j = _; rw [nI_clamp (by omega)]; exact (pk_un (by omega)).trans (e1u2 j hjn), by show upd _ _ _ k = _; rw [nI_clamp (by omega), pk_us, vp_nar_byte, (jk_ch x hx).2.2.1], jk_updf e2u2 _ hx⟩
  · first | exact Nat.le_of_ble_eq_true rfl | omega
  · first | exact Nat.le_of_ble_eq_true rfl | omega
theorem hd_J5_append_3fe6f_n : yJ5_append_3fe6f.cls ≠ "java/lang/invoke/MethodHandle" ∧ yJ5_append_3fe6f.cls ≠ "java/lang/invoke/VarHandle" ∧ (parseMethodDescriptor yJ5_append_3fe6f.desc).map (fun d => d.parameters.length) = some 1 := by decide +kernel
set_option maxRecDepth 100000 in
set_option maxHeartbeats 4000000 in
theorem c_J4_append (l : Launch) (D : va_G) (kc : Nat → ClassId) (sa ba n k x : Nat) (mb : Int32) (f : Nat → Int32) (hf : ∀ i, fits .byte (.int (f i)) = true) (hn : n ≤ 102) (hk : k ≤ 50) (hx : x < 128) : kCq l D (tyL kc) yJ4_append_cf468 wsJ4_append_cf468 ({ frames := 5, cells := 1, slots := 102, locals := 125 } : Room) [.ref sa, .int (nI x)] ([(sa, .inr (1, [.ref ba, .int 0, .int mb, .int (nI k)])), (ba, .inl (kc 2, n, .inl f))]) (fun u : Nat × Nat × (Nat → Int32) => [(sa, .inr (1, [.ref u.1, .int 0, .int mb, .int (nI (k + 1))])), (u.1, .inl (kc 2, u.2.1, .inl u.2.2))]) (1) (102) (fun o u => o = some sa ∧ k + 1 ≤ u.2.1 ∧ u.2.1 ≤ 102 ∧ (∀ j, j < k → j < n → u.2.2 j = f j) ∧ u.2.2 k = nI x ∧ ∀ i, fits .byte (.int (u.2.2 i)) = true) := by
  intro sz
  refine k_begin (cc := cJ4_append_cf468) (maxL := 2) (ret := (some (.object "java/lang/StringBuilder"))) (by decide +kernel) rfl rfl (fun p e s m args below meth c hsz E G ls hl => ?_)
  subst hsz
  have hl : lv_has ls 2 [(0, .ref sa), (1, .int (nI x))] := hl
  refine lv_aload_n E.ex E.by dJ4_append_cf468_0 rfl (lv_at hl 0 rfl) ?_
  refine lv_iload_n E.ex E.by dJ4_append_cf468_1 rfl (lv_at hl 1 rfl) ?_
  refine k_cSUq (n := 1) (X := []) (w := [(sa, .inr (1, [.ref ba, .int 0, .int mb, .int (nI k)])), (ba, .inl (kc 2, n, .inl f))]) (Z := []) (wnew := (fun u : Nat × Nat × (Nat → Int32) => [(sa, .inr (1, [.ref u.1, .int 0, .int mb, .int (nI (k + 1))])), (u.1, .inl (kc 2, u.2.1, .inl u.2.2))])) (As := [.int (nI x)]) (rest := []) E (List.append_nil _).symm G (c_J5_append l D kc sa ba n k x mb f hf hn hk hx) gJ4_append_cf468_J5_append_3fe6f_s50 rfl ⟨rfl, rfl⟩ (by decide +kernel) ⟨rfl, rfl⟩ (0) (rfl) rfl rfl hl rfl rfl dJ4_append_cf468_2 (⟨Nat.le_of_ble_eq_true rfl, Nat.le_of_ble_eq_true rfl⟩) (fun _ => (List.append_nil _).symm) (fun r1 u1 hq1 H locs G => ?_)
  have hq1a := hq1.1
  subst hq1a
  have G : kG D _ s (((fun u : Nat × Nat × (Nat → Int32) => [(sa, .inr (1, [.ref u.1, .int 0, .int mb, .int (nI (k + 1))])), (u.1, .inl (kc 2, u.2.1, .inl u.2.2))]) u1) : va_W) H _ := G
  refine lv_pop E.ex E.by dJ4_append_cf468_5 rfl ?_
  refine lv_aload_n E.ex E.by dJ4_append_cf468_6 rfl (lv_at hl 0 rfl) ?_
  refine k_retq (wof := (fun u : Nat × Nat × (Nat → Int32) => [(sa, .inr (1, [.ref u.1, .int 0, .int mb, .int (nI (k + 1))])), (u.1, .inl (kc 2, u.2.1, .inl u.2.2))])) (o := (some sa)) (u := u1) (Or.inl ⟨_, rfl⟩) E G ?_ ?_ ?_ dJ4_append_cf468_7
  · exact hq1
  · first | exact Nat.le_of_ble_eq_true rfl | omega
  · first | exact Nat.le_of_ble_eq_true rfl | omega
theorem wi_J5_setLength_d00df_J4 : ∀ w ∈ wsJ40, w ∈ wsJ5_setLength_d00df := fun w h => List.mem_cons_of_mem _ (List.mem_append_right _ (h))
theorem fl_J5_setLength_d00df_J4_3 : Cond.fieldLink RJ5 79 (TJ4 3).1 (TJ4 3).2.1 (TJ4 3).2.2.1 ∈ wsJ5_setLength_d00df := List.mem_of_getElem? (i := 1) (by decide +kernel)
theorem fl_J5_setLength_d00df_J4_2 : Cond.fieldLink RJ5 73 (TJ4 2).1 (TJ4 2).2.1 (TJ4 2).2.2.1 ∈ wsJ5_setLength_d00df := List.mem_of_getElem? (i := 3) (by decide +kernel)
set_option maxRecDepth 100000 in
set_option maxHeartbeats 4000000 in
theorem c_J5_setLength (l : Launch) (D : va_G) (kc : Nat → ClassId) (sa ba n k : Nat) (mb : Int32) (f : Nat → Int32) (hf : ∀ i, fits .byte (.int (f i)) = true) (hn : n ≤ 102) (hk : k ≤ 50) : kCv l D (tyL kc) yJ5_setLength_d00df wsJ5_setLength_d00df ({ frames := 4, cells := 1, slots := 102, locals := 104 } : Room) [.ref sa, .int 0] ([(sa, .inr (1, [.ref ba, .int 0, .int mb, .int (nI k)])), (ba, .inl (kc 2, n, .inl f))]) (fun u : (Nat × Nat × (Nat → Int32)) × Int32 => [(sa, .inr (1, [.ref u.1.1, .int 0, .int u.2, .int 0])), (u.1.1, .inl (kc 2, u.1.2.1, .inl u.1.2.2))]) (1) (102) (fun u => u.1.2.1 ≤ 102 ∧ n ≤ u.1.2.1 ∧ ∀ i, fits .byte (.int (u.1.2.2 i)) = true) := by
  intro sz
  refine k_begin (cc := cJ5_setLength_d00df) (maxL := 2) (ret := none) (by decide +kernel) rfl rfl (fun p e s m args below meth c hsz E G ls hl => ?_)
  subst hsz
  have hl : lv_has ls 2 [(0, .ref sa), (1, .int 0)] := hl
  by_cases hcs : k = 0
  · refine lv_iload_n E.ex E.by dJ5_setLength_d00df_0 rfl (lv_at hl 1 rfl) ?_
    refine lv_if_ge (tgt := 13) E.ex E.by dJ5_setLength_d00df_1 (by decide) (fun hc => ?_) (fun hc => absurd (by decide) hc)
    clear hc
    refine lv_aload_n E.ex E.by dJ5_setLength_d00df_13 rfl (lv_at hl 0 rfl) ?_
    refine lv_iload_n E.ex E.by dJ5_setLength_d00df_14 rfl (lv_at hl 1 rfl) ?_
    refine k_cUv (n := 1) (X := []) (w := [(sa, .inr (1, [.ref ba, .int 0, .int mb, .int (nI k)])), (ba, .inl (kc 2, n, .inl f))]) (Z := []) (wnew := (fun u : Nat × Nat × (Nat → Int32) => [(sa, .inr (1, [.ref u.1, .int 0, .int mb, .int (nI k)])), (u.1, .inl (kc 2, u.2.1, .inl u.2.2))])) (As := [.int 0]) (rest := []) E (List.append_nil _).symm G (c_J5_ensure l D kc sa ba n 0 mb (nI k) f hf hn (by omega)) gJ5_setLength_d00df_J5_ensureCapacityInternal_d00df_u100J4 rfl rfl ⟨rfl, rfl⟩ (by decide +kernel) ⟨rfl, rfl⟩ (0) (rfl) rfl rfl hl rfl rfl dJ5_setLength_d00df_15 (⟨Nat.le_of_ble_eq_true rfl, Nat.le_of_ble_eq_true rfl⟩) (fun _ => (List.append_nil _).symm) (fun u1 hq1 H locs G => ?_)
    obtain ⟨e1u1, e2u1, e3u1, e4u1, e5u1⟩ := hq1
    have G : kG D _ s ([(sa, .inr (1, [.ref (u1.1), .int 0, .int mb, .int (nI k)])), ((u1.1), .inl (kc 2, (u1.2.1), .inl (u1.2.2)))] : va_W) H _ := G
    refine lv_aload_n E.ex E.by dJ5_setLength_d00df_18 rfl (lv_at hl 0 rfl) ?_
    refine k_get E G wi_J5_setLength_d00df_J4 (0) (rfl) rfl 3 rfl fl_J5_setLength_d00df_J4_3 (v := .int (nI k)) rfl dJ5_setLength_d00df_19 ?_
    refine lv_iload_n E.ex E.by dJ5_setLength_d00df_22 rfl (lv_at hl 1 rfl) ?_
    refine lv_icmp_ge (tgt := 63) E.ex E.by dJ5_setLength_d00df_23 (by decide) (fun hc => ?_) (fun hc => absurd (by rw [li0]; exact nI_le (Nat.zero_le _) (by omega)) hc)
    clear hc
    refine lv_aload_n E.ex E.by dJ5_setLength_d00df_63 rfl (lv_at hl 0 rfl) ?_
    refine k_get E G wi_J5_setLength_d00df_J4 (0) (rfl) rfl 3 rfl fl_J5_setLength_d00df_J4_3 (v := .int (nI k)) rfl dJ5_setLength_d00df_64 ?_
    refine lv_iload_n E.ex E.by dJ5_setLength_d00df_67 rfl (lv_at hl 1 rfl) ?_
    refine lv_icmp_le (tgt := 76) E.ex E.by dJ5_setLength_d00df_68 (by decide) (fun hc => ?_) (fun hc => absurd (by subst hcs; decide) hc)
    clear hc
    refine lv_aload_n E.ex E.by dJ5_setLength_d00df_76 rfl (lv_at hl 0 rfl) ?_
    refine lv_iload_n E.ex E.by dJ5_setLength_d00df_77 rfl (lv_at hl 1 rfl) ?_
    refine k_putX E G wi_J5_setLength_d00df_J4 tyJ4_ok nmJ4 (0) (rfl) rfl 3 rfl fl_J5_setLength_d00df_J4_3 rfl rfl rfl rfl ([(sa, .inr (1, [.ref (u1.1), .int 0, .int mb, .int 0])), ((u1.1), .inl (kc 2, (u1.2.1), .inl (u1.2.2)))]) rfl dJ5_setLength_d00df_78 (fun H locs G => ?_)
    exact k_retv (wof := (fun u : (Nat × Nat × (Nat → Int32)) × Int32 => [(sa, .inr (1, [.ref u.1.1, .int 0, .int u.2, .int 0])), (u.1.1, .inl (kc 2, u.1.2.1, .inl u.1.2.2))])) (u := (u1, mb)) E G (by exact ⟨e5u1, e4u1, e2u1⟩) (by first | exact Nat.le_of_ble_eq_true rfl | omega) (by first | exact Nat.le_of_ble_eq_true rfl | omega) dJ5_setLength_d00df_81
  · refine lv_iload_n E.ex E.by dJ5_setLength_d00df_0 rfl (lv_at hl 1 rfl) ?_
    refine lv_if_ge (tgt := 13) E.ex E.by dJ5_setLength_d00df_1 (by decide) (fun hc => ?_) (fun hc => absurd (by decide) hc)
    clear hc
    refine lv_aload_n E.ex E.by dJ5_setLength_d00df_13 rfl (lv_at hl 0 rfl) ?_
    refine lv_iload_n E.ex E.by dJ5_setLength_d00df_14 rfl (lv_at hl 1 rfl) ?_
    refine k_cUv (n := 1) (X := []) (w := [(sa, .inr (1, [.ref ba, .int 0, .int mb, .int (nI k)])), (ba, .inl (kc 2, n, .inl f))]) (Z := []) (wnew := (fun u : Nat × Nat × (Nat → Int32) => [(sa, .inr (1, [.ref u.1, .int 0, .int mb, .int (nI k)])), (u.1, .inl (kc 2, u.2.1, .inl u.2.2))])) (As := [.int 0]) (rest := []) E (List.append_nil _).symm G (c_J5_ensure l D kc sa ba n 0 mb (nI k) f hf hn (by omega)) gJ5_setLength_d00df_J5_ensureCapacityInternal_d00df_u100J4 rfl rfl ⟨rfl, rfl⟩ (by decide +kernel) ⟨rfl, rfl⟩ (0) (rfl) rfl rfl hl rfl rfl dJ5_setLength_d00df_15 (⟨Nat.le_of_ble_eq_true rfl, Nat.le_of_ble_eq_true rfl⟩) (fun _ => (List.append_nil _).symm) (fun u1 hq1 H locs G => ?_)
    obtain ⟨e1u1, e2u1, e3u1, e4u1, e5u1⟩ := hq1
    have G : kG D _ s ([(sa, .inr (1, [.ref (u1.1), .int 0, .int mb, .int (nI k)])), ((u1.1), .inl (kc 2, (u1.2.1), .inl (u1.2.2)))] : va_W) H _ := G
    refine lv_aload_n E.ex E.by dJ5_setLength_d00df_18 rfl (lv_at hl 0 rfl) ?_
    refine k_get E G wi_J5_setLength_d00df_J4 (0) (rfl) rfl 3 rfl fl_J5_setLength_d00df_J4_3 (v := .int (nI k)) rfl dJ5_setLength_d00df_19 ?_
    refine lv_iload_n E.ex E.by dJ5_setLength_d00df_22 rfl (lv_at hl 1 rfl) ?_
    refine lv_icmp_ge (tgt := 63) E.ex E.by dJ5_setLength_d00df_23 (by decide) (fun hc => ?_) (fun hc => absurd (by rw [li0]; exact nI_le (Nat.zero_le _) (by omega)) hc)
    clear hc
    refine lv_aload_n E.ex E.by dJ5_setLength_d00df_63 rfl (lv_at hl 0 rfl) ?_
    refine k_get E G wi_J5_setLength_d00df_J4 (0) (rfl) rfl 3 rfl fl_J5_setLength_d00df_J4_3 (v := .int (nI k)) rfl dJ5_setLength_d00df_64 ?_
    refine lv_iload_n E.ex E.by dJ5_setLength_d00df_67 rfl (lv_at hl 1 rfl) ?_
    refine lv_icmp_le (tgt := 76) E.ex E.by dJ5_setLength_d00df_68 (by decide) (fun hc => absurd hc (by rw [li0]; exact nI_ge (by omega) (by omega))) (fun hc => ?_)
    clear hc
    refine lv_aload_n E.ex E.by dJ5_setLength_d00df_71 rfl (lv_at hl 0 rfl) ?_
    refine lv_iconst (v := 1) E.ex E.by dJ5_setLength_d00df_72 (by decide) ?_
    refine k_putX E G wi_J5_setLength_d00df_J4 tyJ4_ok nmJ4 (0) (rfl) rfl 2 rfl fl_J5_setLength_d00df_J4_2 rfl rfl rfl rfl ([(sa, .inr (1, [.ref (u1.1), .int 0, .int 1, .int (nI k)])), ((u1.1), .inl (kc 2, (u1.2.1), .inl (u1.2.2)))]) rfl dJ5_setLength_d00df_73 (fun H locs G => ?_)
    refine lv_aload_n E.ex E.by dJ5_setLength_d00df_76 rfl (lv_at hl 0 rfl) ?_
    refine lv_iload_n E.ex E.by dJ5_setLength_d00df_77 rfl (lv_at hl 1 rfl) ?_
    refine k_putX E G wi_J5_setLength_d00df_J4 tyJ4_ok nmJ4 (0) (rfl) rfl 3 rfl fl_J5_setLength_d00df_J4_3 rfl rfl rfl rfl ([(sa, .inr (1, [.ref (u1.1), .int 0, .int 1, .int 0])), ((u1.1), .inl (kc 2, (u1.2.1), .inl (u1.2.2)))]) rfl dJ5_setLength_d00df_78 (fun H locs G => ?_)
    exact k_retv (wof := (fun u : (Nat × Nat × (Nat → Int32)) × Int32 => [(sa, .inr (1, [.ref u.1.1, .int 0, .int u.2, .int 0])), (u.1.1, .inl (kc 2, u.1.2.1, .inl u.1.2.2))])) (u := (u1, 1)) E G (by exact ⟨e5u1, e4u1, e2u1⟩) (by first | exact Nat.le_of_ble_eq_true rfl | omega) (by first | exact Nat.le_of_ble_eq_true rfl | omega) dJ5_setLength_d00df_81
theorem hd_J5_setLength_d00df_n : yJ5_setLength_d00df.cls ≠ "java/lang/invoke/MethodHandle" ∧ yJ5_setLength_d00df.cls ≠ "java/lang/invoke/VarHandle" ∧ (parseMethodDescriptor yJ5_setLength_d00df.desc).map (fun d => d.parameters.length) = some 1 := by decide +kernel
set_option maxRecDepth 100000 in
set_option maxHeartbeats 4000000 in
theorem c_J4_setLength (l : Launch) (D : va_G) (kc : Nat → ClassId) (sa ba n k : Nat) (mb : Int32) (f : Nat → Int32) (hf : ∀ i, fits .byte (.int (f i)) = true) (hn : n ≤ 102) (hk : k ≤ 50) : kCv l D (tyL kc) yJ4_setLength_d00df wsJ4_setLength_d00df ({ frames := 5, cells := 1, slots := 102, locals := 125 } : Room) [.ref sa, .int 0] ([(sa, .inr (1, [.ref ba, .int 0, .int mb, .int (nI k)])), (ba, .inl (kc 2, n, .inl f))]) (fun u : (Nat × Nat × (Nat → Int32)) × Int32 => [(sa, .inr (1, [.ref u.1.1, .int 0, .int u.2, .int 0])), (u.1.1, .inl (kc 2, u.1.2.1, .inl u.1.2.2))]) (1) (102) (fun u => u.1.2.1 ≤ 102 ∧ n ≤ u.1.2.1 ∧ ∀ i, fits .byte (.int (u.1.2.2 i)) = true) := by
  intro sz
  refine k_begin (cc := cJ4_setLength_d00df) (maxL := 2) (ret := none) (by decide +kernel) rfl rfl (fun p e s m args below meth c hsz E G ls hl => ?_)
  subst hsz
  have hl : lv_has ls 2 [(0, .ref sa), (1, .int 0)] := hl
  refine lv_aload_n E.ex E.by dJ4_setLength_d00df_0 rfl (lv_at hl 0 rfl) ?_
  refine lv_iload_n E.ex E.by dJ4_setLength_d00df_1 rfl (lv_at hl 1 rfl) ?_
  refine k_cSUv (n := 1) (X := []) (w := [(sa, .inr (1, [.ref ba, .int 0, .int mb, .int (nI k)])), (ba, .inl (kc 2, n, .inl f))]) (Z := []) (wnew := (fun u : (Nat × Nat × (Nat → Int32)) × Int32 => [(sa, .inr (1, [.ref u.1.1, .int 0, .int u.2, .int 0])), (u.1.1, .inl (kc 2, u.1.2.1, .inl u.1.2.2))])) (As := [.int 0]) (rest := []) E (List.append_nil _).symm G (c_J5_setLength l D kc sa ba n k mb f hf hn hk) gJ4_setLength_d00df_J5_setLength_d00df_s333 rfl ⟨rfl, rfl⟩ (by decide +kernel) ⟨rfl, rfl⟩ (0) (rfl) rfl rfl hl rfl rfl dJ4_setLength_d00df_2 (⟨Nat.le_of_ble_eq_true rfl, Nat.le_of_ble_eq_true rfl⟩) (fun _ => (List.append_nil _).symm) (fun u1 hq1 H locs G => ?_)
  exact k_retv (wof := (fun u : (Nat × Nat × (Nat → Int32)) × Int32 => [(sa, .inr (1, [.ref u.1.1, .int 0, .int u.2, .int 0])), (u.1.1, .inl (kc 2, u.1.2.1, .inl u.1.2.2))])) (u := u1) E G (by exact hq1) (by first | exact Nat.le_of_ble_eq_true rfl | omega) (by first | exact Nat.le_of_ble_eq_true rfl | omega) dJ4_setLength_d00df_5
set_option maxRecDepth 100000 in
set_option maxHeartbeats 4000000 in
theorem c_J7_checkLength (l : Launch) (D : va_G) (kc : Nat → ClassId) (k : Nat) (hk : k < 2 ^ 31) : kCv l D (tyL kc) yJ7_checkLength_df160 wsJ7_checkLength_df160 ({ frames := 0, cells := 0, slots := 0, locals := 0 } : Room) [.int 0, .int (nI k)] (([] : va_W)) (fun _ : Unit => ([] : va_W)) (0) (0) (fun _ => True) := by
  intro sz
  refine k_begin (cc := cJ7_checkLength_df160) (maxL := 2) (ret := none) (by decide +kernel) rfl rfl (fun p e s m args below meth c hsz E G ls hl => ?_)
  subst hsz
  have hl : lv_has ls 2 [(0, .int 0), (1, .int (nI k))] := hl
  refine lv_iload_n E.ex E.by dJ7_checkLength_df160_0 rfl (lv_at hl 1 rfl) ?_
  refine lv_iload_n E.ex E.by dJ7_checkLength_df160_1 rfl (lv_at hl 0 rfl) ?_
  refine lv_icmp_ge (tgt := 37) E.ex E.by dJ7_checkLength_df160_2 (by decide) (fun hc => ?_) (fun hc => absurd (by rw [li0]; exact nI_le (Nat.zero_le _) hk) hc)
  clear hc
  exact k_retv (wof := (fun _ : Unit => ([] : va_W))) (u := ()) E G (trivial) (by first | exact Nat.le_of_ble_eq_true rfl | omega) (by first | exact Nat.le_of_ble_eq_true rfl | omega) dJ7_checkLength_df160_37
theorem hd_J7_checkLength_df160_n : yJ7_checkLength_df160.cls ≠ "java/lang/invoke/MethodHandle" ∧ yJ7_checkLength_df160.cls ≠ "java/lang/invoke/VarHandle" ∧ (parseMethodDescriptor yJ7_checkLength_df160.desc).map (fun d => d.parameters.length) = some 2 := by decide +kernel
theorem lac_J7_copyOfRangeByte_39247_byte : Cond.arrayClass .byte ∈ wsJ7_copyOfRangeByte_39247 := List.mem_of_getElem? (i := 1) (by decide +kernel)
theorem lmmin_J7_copyOfRangeByte_39247_304 : Cond.methodLink RJ7 304 Lib.Math.min.name ∈ wsJ7_copyOfRangeByte_39247 := List.mem_of_getElem? (i := 2) (by decide +kernel)
theorem lmsmin_J7_copyOfRangeByte_39247 : Cond.static Lib.Math.min.name ∈ wsJ7_copyOfRangeByte_39247 := List.mem_of_getElem? (i := 3) (by decide +kernel)
theorem lmi2_J7_copyOfRangeByte_39247 : Cond.initialized "java/lang/Math" ∈ wsJ7_copyOfRangeByte_39247 := List.mem_of_getElem? (i := 4) (by decide +kernel)
theorem lmcmin_J7_copyOfRangeByte_39247 : Cond.code Lib.Math.min.name Lib.Math.min.code 2 (some .int) ∈ wsJ7_copyOfRangeByte_39247 := List.mem_of_getElem? (i := 5) (by decide +kernel)
theorem la_J7_copyOfRangeByte_39247_150 : Cond.methodLink RJ7 150 arraycopyName ∈ wsJ7_copyOfRangeByte_39247 := List.mem_of_getElem? (i := 6) (by decide +kernel)
theorem lan_J7_copyOfRangeByte_39247 : Cond.native arraycopyName ∈ wsJ7_copyOfRangeByte_39247 := List.mem_of_getElem? (i := 7) (by decide +kernel)
theorem las_J7_copyOfRangeByte_39247 : Cond.static arraycopyName ∈ wsJ7_copyOfRangeByte_39247 := List.mem_of_getElem? (i := 8) (by decide +kernel)
theorem lai_J7_copyOfRangeByte_39247 : Cond.initialized "java/lang/System" ∈ wsJ7_copyOfRangeByte_39247 := List.mem_of_getElem? (i := 9) (by decide +kernel)
set_option maxRecDepth 100000 in
set_option maxHeartbeats 4000000 in
theorem c_J7_copyOfRangeByte (l : Launch) (D : va_G) (kc : Nat → ClassId) (w : va_W) (q1 ba n : Nat) (f : Nat → Int32) (h1 : w[q1]? = some (ba, .inl (kc 2, n, .inl f))) (hf : ∀ i, fits .byte (.int (f i)) = true) (k : Nat) (hk : k ≤ n) (hn : n ≤ 100000) : kCq l D (tyL kc) yJ7_copyOfRangeByte_39247 wsJ7_copyOfRangeByte_39247 ({ frames := 1, cells := 1, slots := k, locals := 60 } : Room) [.ref ba, .int 0, .int (nI k)] (w) (fun q : Nat => w ++ [(q, .inl (kc 2, k, .inl (va_cpy f (fun _ => 0) 0 0 k)))]) (1) (k) (fun o q => o = some q) := by
  intro sz
  refine k_begin (cc := cJ7_copyOfRangeByte_39247) (maxL := 5) (ret := (some (.array .byte))) (by decide +kernel) rfl rfl (fun p e s m args below meth c hsz E G ls hl => ?_)
  subst hsz
  have hl : lv_has ls 5 [(0, .ref ba), (1, .int 0), (2, .int (nI k))] := hl
  refine lv_iload_n E.ex E.by dJ7_copyOfRangeByte_39247_0 rfl (lv_at hl 1 rfl) ?_
  refine lv_iload_n E.ex E.by dJ7_copyOfRangeByte_39247_1 rfl (lv_at hl 2 rfl) ?_
  refine k_cTv (n := 2) (X := w) (w := []) (Z := []) (wnew := (fun _ : Unit => w)) (As := [.int 0, .int (nI k)]) (rest := []) E (List.append_nil _).symm G (c_J7_checkLength l D kc k (by omega)) gJ7_copyOfRangeByte_39247_J7_checkLength_df160 rfl ⟨rfl, rfl⟩ hd_J7_checkLength_df160_n ⟨rfl, rfl⟩ rfl hl rfl rfl dJ7_copyOfRangeByte_39247_2 (⟨Nat.le_of_ble_eq_true rfl, Nat.le_of_ble_eq_true rfl⟩) (fun _ => (List.append_nil _).symm) (fun u1 hq1 H locs G => ?_)
  refine lv_iload_n E.ex E.by dJ7_copyOfRangeByte_39247_5 rfl (lv_at hl 2 rfl) ?_
  refine lv_iload_n E.ex E.by dJ7_copyOfRangeByte_39247_6 rfl (lv_at hl 1 rfl) ?_
  refine lv_isub E.ex E.by dJ7_copyOfRangeByte_39247_7 ?_
  refine lv_topi (fun y2 ey2 => ?_)
  have ey2 : y2 = nI k := ey2.trans (jk_sub0 _)
  subst ey2
  refine lv_istore_n (lv' := [(3, .int (nI k)), (0, .ref ba), (1, .int 0), (2, .int (nI k))]) E.ex E.by dJ7_copyOfRangeByte_39247_8 rfl hl (by decide) rfl (fun ls hl => ?_)
  refine lv_iload_n E.ex E.by dJ7_copyOfRangeByte_39247_9 rfl (lv_at hl 0 rfl) ?_
  refine k_newab E G lac_J7_copyOfRangeByte_39247_byte 2 rfl (N' := k) (nI_pos (by omega)) (nI_clamp (by omega)) (by omega) (⟨by show 0 + 0 + 1 ≤ 1; omega, by show 0 + 0 + k ≤ k; omega⟩) dJ7_copyOfRangeByte_39247_10 (fun nw3 H G => ?_)
  refine lv_astore (lv' := [(4, .ref nw3), (3, .int (nI k)), (0, .ref ba), (1, .int 0), (2, .int (nI k))]) E.ex E.by dJ7_copyOfRangeByte_39247_12 hl (by decide) rfl (fun ls hl => ?_)
  refine lv_aload_n E.ex E.by dJ7_copyOfRangeByte_39247_14 rfl (lv_at hl 2 rfl) ?_
  refine lv_iload_n E.ex E.by dJ7_copyOfRangeByte_39247_15 rfl (lv_at hl 3 rfl) ?_
  refine lv_aload E.ex E.by dJ7_copyOfRangeByte_39247_16 (lv_at hl 0 rfl) ?_
  refine lv_iconst (v := 0) E.ex E.by dJ7_copyOfRangeByte_39247_18 (by decide) ?_
  refine lv_aload_n E.ex E.by dJ7_copyOfRangeByte_39247_19 rfl (lv_at hl 2 rfl) ?_
  refine k_alen E G (q1) (va_gL (h1)) 2 rfl dJ7_copyOfRangeByte_39247_20 ?_
  refine lv_iload_n E.ex E.by dJ7_copyOfRangeByte_39247_21 rfl (lv_at hl 3 rfl) ?_
  refine lv_isub E.ex E.by dJ7_copyOfRangeByte_39247_22 ?_
  refine lv_topi (fun y4 ey4 => ?_)
  have ey4 : y4 = nI n := ey4.trans (jk_sub0 _)
  subst ey4
  refine lv_iload_n E.ex E.by dJ7_copyOfRangeByte_39247_23 rfl (lv_at hl 1 rfl) ?_
  refine va_mmin E.ex E.by (E.nl.trans hl.1.symm) E.ow (E.ts _ lmmin_J7_copyOfRangeByte_39247_304) (E.ts _ lmsmin_J7_copyOfRangeByte_39247) (E.ts _ lmi2_J7_copyOfRangeByte_39247) (E.ts _ lmcmin_J7_copyOfRangeByte_39247) (Nat.le_of_ble_eq_true rfl) (Nat.le_of_ble_eq_true rfl) (Nat.le_of_ble_eq_true rfl) (show 0 + 0 + k ≤ k by omega) dJ7_copyOfRangeByte_39247_24 ?_
  refine lv_topi (fun y5 ey5 => ?_)
  have ey5 : y5 = nI k := ey5.trans (by rw [jk_min (by omega) (by omega), Nat.min_eq_left hk])
  subst ey5
  refine k_copyb E G la_J7_copyOfRangeByte_39247_150 lan_J7_copyOfRangeByte_39247 las_J7_copyOfRangeByte_39247 lai_J7_copyOfRangeByte_39247 (q1) ((w).length) (va_gL (h1)) (va_gE) 2 ⟨rfl, rfl⟩ hl (by decide) (by decide) (nI_pos (by omega)) (by rw [nI_clamp (by omega), cl0]; omega) (by rw [nI_clamp (by omega), cl0]; omega) (hf) rfl ⟨rfl, rfl⟩ dJ7_copyOfRangeByte_39247_27 (fun H locs G => ?_)
  have G := G.cg (wz := w ++ [(nw3, .inl (kc 2, k, .inl (va_cpy f (fun _ => 0) 0 0 k)))]) (by rw [nI_clamp (by omega), cl0]; exact va_setE)
  refine lv_aload E.ex E.by dJ7_copyOfRangeByte_39247_30 (lv_at hl 0 rfl) ?_
  refine k_retq (P := (fun o q => o = some q)) (wof := (fun q : Nat => w ++ [(q, .inl (kc 2, k, .inl (va_cpy f (fun _ => 0) 0 0 k)))])) (o := (some nw3)) (u := _) (Or.inr ⟨_, rfl⟩) E G ?_ ?_ ?_ dJ7_copyOfRangeByte_39247_32
  · exact rfl
  · first | exact Nat.le_of_ble_eq_true rfl | omega
  · first | exact Nat.le_of_ble_eq_true rfl | omega
theorem lcn0_J7_copyOfRange_39247 : Cond.methodLink RJ7 310 ⟨"[B", "clone", "()Ljava/lang/Object;"⟩ ∈ wsJ7_copyOfRange_39247 := List.mem_of_getElem? (i := 1) (by decide +kernel)
theorem lcn1_J7_copyOfRange_39247 : Cond.sameMethod "[B" "java/lang/Object" "clone" "()Ljava/lang/Object;" ∈ wsJ7_copyOfRange_39247 := List.mem_of_getElem? (i := 2) (by decide +kernel)
theorem lcn2_J7_copyOfRange_39247 : Cond.native ⟨"java/lang/Object", "clone", "()Ljava/lang/Object;"⟩ ∈ wsJ7_copyOfRange_39247 := List.mem_of_getElem? (i := 3) (by decide +kernel)
theorem lcn3_J7_copyOfRange_39247 : Cond.instanceMethod ⟨"java/lang/Object", "clone", "()Ljava/lang/Object;"⟩ ∈ wsJ7_copyOfRange_39247 := List.mem_of_getElem? (i := 4) (by decide +kernel)
theorem lcn4_J7_copyOfRange_39247 : Cond.selects "[B" ⟨"[B", "clone", "()Ljava/lang/Object;"⟩ ⟨"java/lang/Object", "clone", "()Ljava/lang/Object;"⟩ ∈ wsJ7_copyOfRange_39247 := List.mem_of_getElem? (i := 5) (by decide +kernel)
theorem lcc_J7_copyOfRange_39247 : Cond.classLink RJ7 311 "[B" ∈ wsJ7_copyOfRange_39247 := List.mem_of_getElem? (i := 6) (by decide +kernel)
theorem hd_J7_copyOfRangeByte_39247_n : yJ7_copyOfRangeByte_39247.cls ≠ "java/lang/invoke/MethodHandle" ∧ yJ7_copyOfRangeByte_39247.cls ≠ "java/lang/invoke/VarHandle" ∧ (parseMethodDescriptor yJ7_copyOfRangeByte_39247.desc).map (fun d => d.parameters.length) = some 3 := by decide +kernel
set_option maxRecDepth 100000 in
set_option maxHeartbeats 4000000 in
theorem c_J7_copyOfRange (l : Launch) (D : va_G) (kc : Nat → ClassId) (w : va_W) (q1 ba n : Nat) (f : Nat → Int32) (h1 : w[q1]? = some (ba, .inl (kc 2, n, .inl f))) (hf : ∀ i, fits .byte (.int (f i)) = true) (k : Nat) (hk : k ≤ n) (hn : n ≤ 100000) : kCq l D (tyL kc) yJ7_copyOfRange_39247 wsJ7_copyOfRange_39247 ({ frames := 2, cells := 1, slots := k, locals := 84 } : Room) [.ref ba, .int 0, .int (nI k)] (w) (fun u : Nat × (Nat → Int32) => w ++ [(u.1, .inl (kc 2, k, .inl u.2))]) (1) (k) (fun o u => o = some u.1 ∧ (∀ j, j < k → u.2 j = f j) ∧ ∀ i, fits .byte (.int (u.2 i)) = true) := by
  intro sz
  refine k_begin (cc := cJ7_copyOfRange_39247) (maxL := 3) (ret := (some (.array .byte))) (by decide +kernel) rfl rfl (fun p e s m args below meth c hsz E G ls hl => ?_)
  subst hsz
  have hl : lv_has ls 3 [(0, .ref ba), (1, .int 0), (2, .int (nI k))] := hl
  by_cases hcs : k = n
  · refine lv_iload_n E.ex E.by dJ7_copyOfRange_39247_0 rfl (lv_at hl 1 rfl) ?_
    refine lv_if_ne (tgt := 10) E.ex E.by dJ7_copyOfRange_39247_1 (by decide) (fun hc => absurd (rfl) hc) (fun hc => ?_)
    clear hc
    refine lv_iload_n E.ex E.by dJ7_copyOfRange_39247_4 rfl (lv_at hl 2 rfl) ?_
    refine lv_aload_n E.ex E.by dJ7_copyOfRange_39247_5 rfl (lv_at hl 0 rfl) ?_
    refine k_alen E G (q1) (h1) 2 rfl dJ7_copyOfRange_39247_6 ?_
    refine lv_icmp_eq (tgt := 17) E.ex E.by dJ7_copyOfRange_39247_7 (by decide) (fun hc => ?_) (fun hc => absurd (by rw [hcs]) hc)
    clear hc
    refine lv_aload_n E.ex E.by dJ7_copyOfRange_39247_17 rfl (lv_at hl 0 rfl) ?_
    refine k_clone E G lcn0_J7_copyOfRange_39247 lcn1_J7_copyOfRange_39247 lcn2_J7_copyOfRange_39247 lcn3_J7_copyOfRange_39247 lcn4_J7_copyOfRange_39247 (q1) (h1) 2 rfl (hf) hl rfl ⟨rfl, rfl⟩ (⟨by show 0 + 1 ≤ 1; omega, by show 0 + n ≤ k; omega⟩) dJ7_copyOfRange_39247_18 (fun nw1 H G => ?_)
    refine k_cast E G lcc_J7_copyOfRange_39247 ((w).length) (va_gE) 2 rfl dJ7_copyOfRange_39247_21 ?_
    subst hcs
    refine k_retq (P := (fun o u => o = some u.1 ∧ (∀ j, j < k → u.2 j = f j) ∧ ∀ i, fits .byte (.int (u.2 i)) = true)) (wof := (fun u : Nat × (Nat → Int32) => w ++ [(u.1, .inl (kc 2, k, .inl u.2))])) (o := (some nw1)) (u := (nw1, f)) (Or.inr ⟨_, rfl⟩) E G ?_ ?_ ?_ dJ7_copyOfRange_39247_24
    · exact ⟨rfl, fun _ _ => rfl, hf⟩
    · first | exact Nat.le_of_ble_eq_true rfl | omega
    · first | exact Nat.le_of_ble_eq_true rfl | omega
  · refine lv_iload_n E.ex E.by dJ7_copyOfRange_39247_0 rfl (lv_at hl 1 rfl) ?_
    refine lv_if_ne (tgt := 10) E.ex E.by dJ7_copyOfRange_39247_1 (by decide) (fun hc => absurd (rfl) hc) (fun hc => ?_)
    clear hc
    refine lv_iload_n E.ex E.by dJ7_copyOfRange_39247_4 rfl (lv_at hl 2 rfl) ?_
    refine lv_aload_n E.ex E.by dJ7_copyOfRange_39247_5 rfl (lv_at hl 0 rfl) ?_
    refine k_alen E G (q1) (h1) 2 rfl dJ7_copyOfRange_39247_6 ?_
    refine lv_icmp_eq (tgt := 17) E.ex E.by dJ7_copyOfRange_39247_7 (by decide) (fun hc => absurd hc (fun z => hcs (by have := (nI_eq (by omega) (by omega)).mp z; omega))) (fun hc => ?_)
    clear hc
    refine lv_aload_n E.ex E.by dJ7_copyOfRange_39247_10 rfl (lv_at hl 0 rfl) ?_
    refine lv_iload_n E.ex E.by dJ7_copyOfRange_39247_11 rfl (lv_at hl 1 rfl) ?_
    refine lv_iload_n E.ex E.by dJ7_copyOfRange_39247_12 rfl (lv_at hl 2 rfl) ?_
    refine k_cTq (n := 3) (X := []) (w := w) (Z := []) (wnew := (fun q : Nat => w ++ [(q, .inl (kc 2, k, .inl (va_cpy f (fun _ => 0) 0 0 k)))])) (As := [.ref ba, .int 0, .int (nI k)]) (rest := []) E (List.append_nil _).symm G (c_J7_copyOfRangeByte l D kc w q1 ba n f h1 hf k hk hn) gJ7_copyOfRange_39247_J7_copyOfRangeByte_39247 rfl ⟨rfl, rfl⟩ hd_J7_copyOfRangeByte_39247_n ⟨rfl, rfl⟩ rfl hl rfl rfl dJ7_copyOfRange_39247_13 (⟨by show 0 + 1 ≤ 1; omega, by show 0 + k ≤ k; omega⟩) (fun _ => (List.append_nil _).symm) (fun r1 u1 hq1 H locs G => ?_)
    subst hq1
    refine k_retq (P := (fun o u => o = some u.1 ∧ (∀ j, j < k → u.2 j = f j) ∧ ∀ i, fits .byte (.int (u.2 i)) = true)) (wof := (fun u : Nat × (Nat → Int32) => w ++ [(u.1, .inl (kc 2, k, .inl u.2))])) (o := (some u1)) (u := (u1, va_cpy f (fun _ => 0) 0 0 k)) (Or.inr ⟨_, rfl⟩) E G ?_ ?_ ?_ dJ7_copyOfRange_39247_16
    · exact ⟨rfl, fun j hj => jk_cpy hj, jk_cpyf hf⟩
    · first | exact Nat.le_of_ble_eq_true rfl | omega
    · first | exact Nat.le_of_ble_eq_true rfl | omega
theorem lcd_J0_init_db425 : Cond.code yJ5_length_8abf5 cJ5_length_8abf5 1 (some .int) ∈ wsJ0_init_db425 := List.mem_of_getElem? (i := 25) (by decide +kernel)
theorem lmo_J0_init_db425 : Cond.methodLink RJ0 1 objectInit ∈ wsJ0_init_db425 := List.mem_of_getElem? (i := 1) (by decide +kernel)
theorem lmi_J0_init_db425 : Cond.instanceMethod objectInit ∈ wsJ0_init_db425 := List.mem_of_getElem? (i := 2) (by decide +kernel)
theorem lmc_J0_init_db425 : Cond.code objectInit ⟨#[0xb1]⟩ 1 none ∈ wsJ0_init_db425 := List.mem_of_getElem? (i := 3) (by decide +kernel)
theorem hd_J5_getValue_6d5f1_n : yJ5_getValue_6d5f1.cls ≠ "java/lang/invoke/MethodHandle" ∧ yJ5_getValue_6d5f1.cls ≠ "java/lang/invoke/VarHandle" ∧ (parseMethodDescriptor yJ5_getValue_6d5f1.desc).map (fun d => d.parameters.length) = some 0 := by decide +kernel
theorem hd_J4_length_8abf5_n : yJ4_length_8abf5.cls ≠ "java/lang/invoke/MethodHandle" ∧ yJ4_length_8abf5.cls ≠ "java/lang/invoke/VarHandle" ∧ (parseMethodDescriptor yJ4_length_8abf5.desc).map (fun d => d.parameters.length) = some 0 := by decide +kernel
theorem wi_J0_init_db425_J0 : ∀ w ∈ wsJ00, w ∈ wsJ0_init_db425 := fun w h => List.mem_cons_of_mem _ (List.mem_append_left _ (List.mem_append_right _ (h)))
theorem fl_J0_init_db425_J0_1 : Cond.fieldLink RJ0 15 (TJ0 1).1 (TJ0 1).2.1 (TJ0 1).2.2.1 ∈ wsJ0_init_db425 := List.mem_of_getElem? (i := 4) (by decide +kernel)
theorem hd_J7_copyOfRange_39247_n : yJ7_copyOfRange_39247.cls ≠ "java/lang/invoke/MethodHandle" ∧ yJ7_copyOfRange_39247.cls ≠ "java/lang/invoke/VarHandle" ∧ (parseMethodDescriptor yJ7_copyOfRange_39247.desc).map (fun d => d.parameters.length) = some 3 := by decide +kernel
theorem fl_J0_init_db425_J0_0 : Cond.fieldLink RJ0 9 (TJ0 0).1 (TJ0 0).2.1 (TJ0 0).2.2.1 ∈ wsJ0_init_db425 := List.mem_of_getElem? (i := 5) (by decide +kernel)
set_option maxRecDepth 100000 in
set_option maxHeartbeats 4000000 in
theorem c_J0_init_db425 (l : Launch) (D : va_G) (kc : Nat → ClassId) (h0 : Nat) (sa ba n k : Nat) (mb : Int32) (f : Nat → Int32) (hf : ∀ i, fits .byte (.int (f i)) = true) (hn : n ≤ 102) (hk : k ≤ n) : kCv l D (tyL kc) yJ0_init_db425 wsJ0_init_db425 ({ frames := 3, cells := 1, slots := k, locals := 106 } : Room) [.ref h0, .ref sa, .null] ([(h0, .inr (0, [.null, .int 0, .int 0, .int 0])), (sa, .inr (1, [.ref ba, .int 0, .int mb, .int (nI k)])), (ba, .inl (kc 2, n, .inl f))]) (fun u : Nat × (Nat → Int32) => [(h0, .inr (0, [.ref u.1, .int 0, .int 0, .int 0])), (sa, .inr (1, [.ref ba, .int 0, .int mb, .int (nI k)])), (ba, .inl (kc 2, n, .inl f)), (u.1, .inl (kc 2, k, .inl u.2))]) (1) (k) (fun u => (∀ j, j < k → u.2 j = f j) ∧ ∀ i, fits .byte (.int (u.2 i)) = true) := by
  intro sz
  refine k_begin (cc := cJ0_init_db425) (maxL := 5) (ret := none) (by decide +kernel) rfl rfl (fun p e s m args below meth c hsz E G ls hl => ?_)
  subst hsz
  have hl : lv_has ls 5 [(0, .ref h0), (1, .ref sa), (2, .null)] := hl
  refine lv_aload_n E.ex E.by dJ0_init_db425_0 rfl (lv_at hl 0 rfl) ?_
  refine k_objInit E lmo_J0_init_db425 lmi_J0_init_db425 lmc_J0_init_db425 hl rfl ⟨rfl, rfl⟩ dJ0_init_db425_1 ?_
  refine lv_aload_n E.ex E.by dJ0_init_db425_4 rfl (lv_at hl 1 rfl) ?_
  refine k_cUq (n := 0) (X := []) (w := [(h0, .inr (0, [.null, .int 0, .int 0, .int 0])), (sa, .inr (1, [.ref ba, .int 0, .int mb, .int (nI k)])), (ba, .inl (kc 2, n, .inl f))]) (Z := []) (wnew := (fun _ : Unit => [(h0, .inr (0, [.null, .int 0, .int 0, .int 0])), (sa, .inr (1, [.ref ba, .int 0, .int mb, .int (nI k)])), (ba, .inl (kc 2, n, .inl f))])) (As := []) (rest := []) E (List.append_nil _).symm G (c_J5_getValue l D kc _ 1 sa ba mb (nI k) rfl) gJ0_init_db425_J5_getValue_6d5f1_u552J4 rfl rfl ⟨rfl, rfl⟩ (by decide +kernel) ⟨rfl, rfl⟩ (1) (rfl) rfl rfl hl rfl rfl dJ0_init_db425_5 (⟨Nat.le_of_ble_eq_true rfl, Nat.le_of_ble_eq_true rfl⟩) (fun _ => (List.append_nil _).symm) (fun r1 u1 hq1 H locs G => ?_)
  subst hq1
  refine lv_astore_n (lv' := [(3, .ref ba), (0, .ref h0), (1, .ref sa), (2, .null)]) E.ex E.by dJ0_init_db425_8 rfl hl (by decide) rfl (fun ls hl => ?_)
  refine lv_aload_n E.ex E.by dJ0_init_db425_9 rfl (lv_at hl 2 rfl) ?_
  refine k_cOi (n := 0) (X := []) (w := [(h0, .inr (0, [.null, .int 0, .int 0, .int 0])), (sa, .inr (1, [.ref ba, .int 0, .int mb, .int (nI k)])), (ba, .inl (kc 2, n, .inl f))]) (Z := []) (wnew := (fun _ : Unit => [(h0, .inr (0, [.null, .int 0, .int 0, .int 0])), (sa, .inr (1, [.ref ba, .int 0, .int mb, .int (nI k)])), (ba, .inl (kc 2, n, .inl f))])) (As := []) (rest := []) E (List.append_nil _).symm G (c_J4_length l D kc _ 1 sa ba mb (nI k) rfl) gJ0_init_db425_J4_length_8abf5_u549J4 (show Cond.code ⟨"java/lang/AbstractStringBuilder", "length", "()I"⟩ cJ5_length_8abf5 1 (some .int) ∈ wsJ0_init_db425 from lcd_J0_init_db425) rfl ⟨rfl, rfl⟩ (by decide +kernel) ⟨rfl, rfl⟩ (1) (rfl) rfl rfl hl rfl rfl dJ0_init_db425_10 (⟨Nat.le_of_ble_eq_true rfl, Nat.le_of_ble_eq_true rfl⟩) (fun _ => (List.append_nil _).symm) (fun r2 u2 hq2 H locs G => ?_)
  subst hq2
  refine lv_istore (lv' := [(4, .int (nI k)), (3, .ref ba), (0, .ref h0), (1, .ref sa), (2, .null)]) E.ex E.by dJ0_init_db425_13 hl (by decide) rfl (fun ls hl => ?_)
  refine lv_aload_n E.ex E.by dJ0_init_db425_15 rfl (lv_at hl 3 rfl) ?_
  refine k_cUi (n := 0) (X := []) (w := [(h0, .inr (0, [.null, .int 0, .int 0, .int 0])), (sa, .inr (1, [.ref ba, .int 0, .int mb, .int (nI k)])), (ba, .inl (kc 2, n, .inl f))]) (Z := []) (wnew := (fun _ : Unit => [(h0, .inr (0, [.null, .int 0, .int 0, .int 0])), (sa, .inr (1, [.ref ba, .int 0, .int mb, .int (nI k)])), (ba, .inl (kc 2, n, .inl f))])) (As := []) (rest := []) E (List.append_nil _).symm G (c_J5_isLatin1 l D kc _ 1 sa ba mb (nI k) rfl) gJ0_init_db425_J5_isLatin1_aae02_u1047J4 rfl rfl ⟨rfl, rfl⟩ (by decide +kernel) ⟨rfl, rfl⟩ (1) (rfl) rfl rfl hl rfl rfl dJ0_init_db425_16 (⟨Nat.le_of_ble_eq_true rfl, Nat.le_of_ble_eq_true rfl⟩) (fun _ => (List.append_nil _).symm) (fun r3 u3 hq3 H locs G => ?_)
  subst hq3
  refine lv_if_eq (tgt := 41) E.ex E.by dJ0_init_db425_19 (by decide) (fun hc => absurd hc (by decide)) (fun hc => ?_)
  clear hc
  refine lv_aload_n E.ex E.by dJ0_init_db425_22 rfl (lv_at hl 2 rfl) ?_
  refine lv_iconst (v := 0) E.ex E.by dJ0_init_db425_23 (by decide) ?_
  refine k_putF E.na E G wi_J0_init_db425_J0 tyJ0_ok nmJ0 (0) (rfl) rfl 1 rfl fl_J0_init_db425_J0_1 rfl rfl rfl rfl rfl ([(h0, .inr (0, [.null, .int 0, .int 0, .int 0])), (sa, .inr (1, [.ref ba, .int 0, .int mb, .int (nI k)])), (ba, .inl (kc 2, n, .inl f))]) rfl dJ0_init_db425_24 (fun H locs G => ?_)
  refine lv_aload_n E.ex E.by dJ0_init_db425_27 rfl (lv_at hl 2 rfl) ?_
  refine lv_aload_n E.ex E.by dJ0_init_db425_28 rfl (lv_at hl 1 rfl) ?_
  refine lv_iconst (v := 0) E.ex E.by dJ0_init_db425_29 (by decide) ?_
  refine lv_iload E.ex E.by dJ0_init_db425_30 (lv_at hl 0 rfl) ?_
  refine k_cTq (n := 3) (X := []) (w := [(h0, .inr (0, [.null, .int 0, .int 0, .int 0])), (sa, .inr (1, [.ref ba, .int 0, .int mb, .int (nI k)])), (ba, .inl (kc 2, n, .inl f))]) (Z := []) (wnew := (fun u : Nat × (Nat → Int32) => [(h0, .inr (0, [.null, .int 0, .int 0, .int 0])), (sa, .inr (1, [.ref ba, .int 0, .int mb, .int (nI k)])), (ba, .inl (kc 2, n, .inl f)), (u.1, .inl (kc 2, k, .inl u.2))])) (As := [.ref ba, .int 0, .int (nI k)]) (rest := [.ref h0]) E (List.append_nil _).symm G (c_J7_copyOfRange l D kc _ 2 ba n f rfl hf k hk (by omega)) gJ0_init_db425_J7_copyOfRange_39247 rfl ⟨rfl, rfl⟩ hd_J7_copyOfRange_39247_n ⟨rfl, rfl⟩ rfl hl rfl rfl dJ0_init_db425_32 (⟨by show 0 + 0 + 0 + 0 + 1 ≤ 1; omega, by show 0 + 0 + 0 + 0 + k ≤ k; omega⟩) (fun _ => rfl) (fun r4 u4 hq4 H locs G => ?_)
  obtain ⟨e1u4, e2u4⟩ := hq4
  subst e1u4
  have G : kG D _ s ([(h0, .inr (0, [.null, .int 0, .int 0, .int 0])), (sa, .inr (1, [.ref ba, .int 0, .int mb, .int (nI k)])), (ba, .inl (kc 2, n, .inl f)), ((u4.1), .inl (kc 2, k, .inl (u4.2)))] : va_W) H _ := G
  refine k_putF E.na E G wi_J0_init_db425_J0 tyJ0_ok nmJ0 (0) (rfl) rfl 0 rfl fl_J0_init_db425_J0_0 rfl rfl rfl rfl rfl ([(h0, .inr (0, [.ref (u4.1), .int 0, .int 0, .int 0])), (sa, .inr (1, [.ref ba, .int 0, .int mb, .int (nI k)])), (ba, .inl (kc 2, n, .inl f)), ((u4.1), .inl (kc 2, k, .inl (u4.2)))]) rfl dJ0_init_db425_35 (fun H locs G => ?_)
  refine lv_goto (tgt := 97) E.ex E.by dJ0_init_db425_38 (by decide) ?_
  exact k_retv (wof := (fun u : Nat × (Nat → Int32) => [(h0, .inr (0, [.ref u.1, .int 0, .int 0, .int 0])), (sa, .inr (1, [.ref ba, .int 0, .int mb, .int (nI k)])), (ba, .inl (kc 2, n, .inl f)), (u.1, .inl (kc 2, k, .inl u.2))])) (u := u4) E G (by exact ⟨e2u4.1, e2u4.2⟩) (by first | exact Nat.le_of_ble_eq_true rfl | omega) (by first | exact Nat.le_of_ble_eq_true rfl | omega) dJ0_init_db425_97
theorem lml_J0_init_81219_489 : Cond.methodLink RJ0 489 yJ0_init_db425 ∈ wsJ0_init_81219 := List.mem_of_getElem? (i := 1) (by decide +kernel)
theorem li_J0_init_81219_J0 : Cond.initialized RJ0 ∈ wsJ0_init_81219 := List.mem_of_getElem? (i := 3) (by decide +kernel)
theorem lsm_J0_init_81219_J0_init_db425 : Cond.instanceMethod yJ0_init_db425 ∈ wsJ0_init_81219 := List.mem_of_getElem? (i := 2) (by decide +kernel)
theorem hd_J0_init_db425_n : yJ0_init_db425.cls ≠ "java/lang/invoke/MethodHandle" ∧ yJ0_init_db425.cls ≠ "java/lang/invoke/VarHandle" ∧ (parseMethodDescriptor yJ0_init_db425.desc).map (fun d => d.parameters.length) = some 2 := by decide +kernel
set_option maxRecDepth 100000 in
set_option maxHeartbeats 4000000 in
theorem c_J0_init_81219 (l : Launch) (D : va_G) (kc : Nat → ClassId) (h0 : Nat) (sa ba n k : Nat) (mb : Int32) (f : Nat → Int32) (hf : ∀ i, fits .byte (.int (f i)) = true) (hn : n ≤ 102) (hk : k ≤ n) : kCv l D (tyL kc) yJ0_init_81219 wsJ0_init_81219 ({ frames := 4, cells := 1, slots := k, locals := 130 } : Room) [.ref h0, .ref sa] ([(h0, .inr (0, [.null, .int 0, .int 0, .int 0])), (sa, .inr (1, [.ref ba, .int 0, .int mb, .int (nI k)])), (ba, .inl (kc 2, n, .inl f))]) (fun u : Nat × (Nat → Int32) => [(h0, .inr (0, [.ref u.1, .int 0, .int 0, .int 0])), (sa, .inr (1, [.ref ba, .int 0, .int mb, .int (nI k)])), (ba, .inl (kc 2, n, .inl f)), (u.1, .inl (kc 2, k, .inl u.2))]) (1) (k) (fun u => (∀ j, j < k → u.2 j = f j) ∧ ∀ i, fits .byte (.int (u.2 i)) = true) := by
  intro sz
  refine k_begin (cc := cJ0_init_81219) (maxL := 2) (ret := none) (by decide +kernel) rfl rfl (fun p e s m args below meth c hsz E G ls hl => ?_)
  subst hsz
  have hl : lv_has ls 2 [(0, .ref h0), (1, .ref sa)] := hl
  refine lv_aload_n E.ex E.by dJ0_init_81219_0 rfl (lv_at hl 0 rfl) ?_
  refine lv_aload_n E.ex E.by dJ0_init_81219_1 rfl (lv_at hl 1 rfl) ?_
  refine lv_null E.ex E.by dJ0_init_81219_2 ?_
  refine k_cI2v (n := 2) (X := []) (w := [(h0, .inr (0, [.null, .int 0, .int 0, .int 0])), (sa, .inr (1, [.ref ba, .int 0, .int mb, .int (nI k)])), (ba, .inl (kc 2, n, .inl f))]) (Z := []) (wnew := (fun u : Nat × (Nat → Int32) => [(h0, .inr (0, [.ref u.1, .int 0, .int 0, .int 0])), (sa, .inr (1, [.ref ba, .int 0, .int mb, .int (nI k)])), (ba, .inl (kc 2, n, .inl f)), (u.1, .inl (kc 2, k, .inl u.2))])) (As := [.ref sa, .null]) (rest := []) E (List.append_nil _).symm G (c_J0_init_db425 l D kc h0 sa ba n k mb f hf hn hk) gJ0_init_81219_J0_init_db425 lml_J0_init_81219_489 li_J0_init_81219_J0 lsm_J0_init_81219_J0_init_db425 rfl rfl ⟨rfl, rfl⟩ hd_J0_init_db425_n ⟨rfl, rfl⟩ rfl hl rfl rfl dJ0_init_81219_3 (⟨by show 0 + 1 ≤ 1; omega, by show 0 + k ≤ k; omega⟩) (fun _ => (List.append_nil _).symm) (fun u1 hq1 H locs G => ?_)
  exact k_retv (wof := (fun u : Nat × (Nat → Int32) => [(h0, .inr (0, [.ref u.1, .int 0, .int 0, .int 0])), (sa, .inr (1, [.ref ba, .int 0, .int mb, .int (nI k)])), (ba, .inl (kc 2, n, .inl f)), (u.1, .inl (kc 2, k, .inl u.2))])) (u := u1) E G (by exact hq1) (by first | exact Nat.le_of_ble_eq_true rfl | omega) (by first | exact Nat.le_of_ble_eq_true rfl | omega) dJ0_init_81219_6
theorem lcl_J4_toString_0e30d_18 : Cond.classLink RJ4 18 RJ0 ∈ wsJ4_toString_0e30d := List.mem_of_getElem? (i := 1) (by decide +kernel)
theorem lin_J4_toString_0e30d_J0 : Cond.instantiable RJ0 4 ∈ wsJ4_toString_0e30d := List.mem_of_getElem? (i := 2) (by decide +kernel)
theorem li_J4_toString_0e30d_J0 : Cond.initialized RJ0 ∈ wsJ4_toString_0e30d := List.mem_of_getElem? (i := 3) (by decide +kernel)
theorem wi_J4_toString_0e30d_J0 : ∀ w ∈ wsJ00, w ∈ wsJ4_toString_0e30d := fun w h => List.mem_cons_of_mem _ (List.mem_append_left _ (List.mem_append_right _ (h)))
theorem lml_J4_toString_0e30d_137 : Cond.methodLink RJ4 137 yJ0_init_81219 ∈ wsJ4_toString_0e30d := List.mem_of_getElem? (i := 4) (by decide +kernel)
theorem lsm_J4_toString_0e30d_J0_init_81219 : Cond.instanceMethod yJ0_init_81219 ∈ wsJ4_toString_0e30d := List.mem_of_getElem? (i := 5) (by decide +kernel)
theorem hd_J0_init_81219_n : yJ0_init_81219.cls ≠ "java/lang/invoke/MethodHandle" ∧ yJ0_init_81219.cls ≠ "java/lang/invoke/VarHandle" ∧ (parseMethodDescriptor yJ0_init_81219.desc).map (fun d => d.parameters.length) = some 1 := by decide +kernel
set_option maxRecDepth 100000 in
set_option maxHeartbeats 4000000 in
theorem c_J4_toString (l : Launch) (D : va_G) (kc : Nat → ClassId) (sa ba n k : Nat) (mb : Int32) (f : Nat → Int32) (hf : ∀ i, fits .byte (.int (f i)) = true) (hn : n ≤ 102) (hk : k ≤ n) : kCq l D (tyL kc) yJ4_toString_0e30d wsJ4_toString_0e30d ({ frames := 5, cells := 2, slots := 4 + k, locals := 151 } : Room) [.ref sa] ([(sa, .inr (1, [.ref ba, .int 0, .int mb, .int (nI k)])), (ba, .inl (kc 2, n, .inl f))]) (fun u : Nat × Nat × (Nat → Int32) => [(sa, .inr (1, [.ref ba, .int 0, .int mb, .int (nI k)])), (ba, .inl (kc 2, n, .inl f)), (u.1, .inr (0, [.ref u.2.1, .int 0, .int 0, .int 0])), (u.2.1, .inl (kc 2, k, .inl u.2.2))]) (2) (4 + k) (fun o u => o = some u.1 ∧ (∀ j, j < k → u.2.2 j = f j) ∧ ∀ i, fits .byte (.int (u.2.2 i)) = true) := by
  intro sz
  refine k_begin (cc := cJ4_toString_0e30d) (maxL := 1) (ret := (some (.object "java/lang/String"))) (by decide +kernel) rfl rfl (fun p e s m args below meth c hsz E G ls hl => ?_)
  subst hsz
  have hl : lv_has ls 1 [(0, .ref sa)] := hl
  refine k_new (ci := 0) E G wi_J4_toString_0e30d_J0 tyJ0_ok lcl_J4_toString_0e30d_18 lin_J4_toString_0e30d_J0 li_J4_toString_0e30d_J0 rfl (fs := [.null, .int 0, .int 0, .int 0]) (fun j hj => by rcases (show j = 0 ∨ j = 1 ∨ j = 2 ∨ j = 3 by omega) with rfl | rfl | rfl | rfl <;> rfl) (⟨by show Nat.ble (0 + 1) 2 = true; rfl, Nat.ble_eq_true_of_le (show 0 + 4 ≤ 4 + k by omega)⟩) dJ4_toString_0e30d_0 (fun nw1 H G => ?_)
  have G : kG D _ s ([(sa, .inr (1, [.ref ba, .int 0, .int mb, .int (nI k)])), (ba, .inl (kc 2, n, .inl f)), (nw1, .inr (0, [.null, .int 0, .int 0, .int 0]))] : va_W) H _ := G
  have G := kG.perm G (ws' := [(nw1, .inr (0, [.null, .int 0, .int 0, .int 0])), (sa, .inr (1, [.ref ba, .int 0, .int mb, .int (nI k)])), (ba, .inl (kc 2, n, .inl f))]) [2, 0, 1] (by decide) rfl
  refine lv_dup E.ex E.by dJ4_toString_0e30d_3 rfl ?_
  refine lv_aload_n E.ex E.by dJ4_toString_0e30d_4 rfl (lv_at hl 0 rfl) ?_
  refine k_cI2v (n := 1) (X := []) (w := [(nw1, .inr (0, [.null, .int 0, .int 0, .int 0])), (sa, .inr (1, [.ref ba, .int 0, .int mb, .int (nI k)])), (ba, .inl (kc 2, n, .inl f))]) (Z := []) (wnew := (fun u : Nat × (Nat → Int32) => [(nw1, .inr (0, [.ref u.1, .int 0, .int 0, .int 0])), (sa, .inr (1, [.ref ba, .int 0, .int mb, .int (nI k)])), (ba, .inl (kc 2, n, .inl f)), (u.1, .inl (kc 2, k, .inl u.2))])) (As := [.ref sa]) (rest := [.ref nw1]) E (List.append_nil _).symm G (c_J0_init_81219 l D kc nw1 sa ba n k mb f hf hn hk) gJ4_toString_0e30d_J0_init_81219 lml_J4_toString_0e30d_137 li_J4_toString_0e30d_J0 lsm_J4_toString_0e30d_J0_init_81219 rfl rfl ⟨rfl, rfl⟩ hd_J0_init_81219_n ⟨rfl, rfl⟩ rfl hl rfl rfl dJ4_toString_0e30d_5 (⟨by show 0 + 1 + 1 ≤ 2; omega, by show 0 + 4 + k ≤ 4 + k; omega⟩) (fun _ => (List.append_nil _).symm) (fun u2 hq2 H locs G => ?_)
  have G : kG D _ s (((fun u : Nat × Nat × (Nat → Int32) => [(sa, .inr (1, [.ref ba, .int 0, .int mb, .int (nI k)])), (ba, .inl (kc 2, n, .inl f)), (u.1, .inr (0, [.ref u.2.1, .int 0, .int 0, .int 0])), (u.2.1, .inl (kc 2, k, .inl u.2.2))])) ((nw1, u2.1, u2.2))) H _ := kG.perm G [1, 2, 0, 3] (by decide) rfl
  refine k_retq (wof := (fun u : Nat × Nat × (Nat → Int32) => [(sa, .inr (1, [.ref ba, .int 0, .int mb, .int (nI k)])), (ba, .inl (kc 2, n, .inl f)), (u.1, .inr (0, [.ref u.2.1, .int 0, .int 0, .int 0])), (u.2.1, .inl (kc 2, k, .inl u.2.2))])) (o := (some nw1)) (u := (nw1, u2.1, u2.2)) (Or.inl ⟨_, rfl⟩) E G ?_ ?_ ?_ dJ4_toString_0e30d_8
  · exact ⟨rfl, hq2.1, hq2.2⟩
  · first | exact Nat.le_of_ble_eq_true rfl | omega
  · first | exact Nat.le_of_ble_eq_true rfl | omega
theorem lmo_J5_init_d00df : Cond.methodLink RJ5 3 objectInit ∈ wsJ5_init_d00df := List.mem_of_getElem? (i := 1) (by decide +kernel)
theorem lmi_J5_init_d00df : Cond.instanceMethod objectInit ∈ wsJ5_init_d00df := List.mem_of_getElem? (i := 2) (by decide +kernel)
theorem lmc_J5_init_d00df : Cond.code objectInit ⟨#[0xb1]⟩ 1 none ∈ wsJ5_init_d00df := List.mem_of_getElem? (i := 3) (by decide +kernel)
theorem lst_J5_init_d00df_18 : Cond.fieldLink RJ5 18 "java/lang/String" "COMPACT_STRINGS" "Z" ∈ wsJ5_init_d00df := List.mem_of_getElem? (i := 4) (by decide +kernel)
theorem lac_J5_init_d00df_byte : Cond.arrayClass .byte ∈ wsJ5_init_d00df := List.mem_of_getElem? (i := 5) (by decide +kernel)
theorem wi_J5_init_d00df_J4 : ∀ w ∈ wsJ40, w ∈ wsJ5_init_d00df := fun w h => List.mem_cons_of_mem _ (List.mem_append_right _ (h))
theorem fl_J5_init_d00df_J4_0 : Cond.fieldLink RJ5 15 (TJ4 0).1 (TJ4 0).2.1 (TJ4 0).2.2.1 ∈ wsJ5_init_d00df := List.mem_of_getElem? (i := 6) (by decide +kernel)
theorem fl_J5_init_d00df_J4_1 : Cond.fieldLink RJ5 22 (TJ4 1).1 (TJ4 1).2.1 (TJ4 1).2.2.1 ∈ wsJ5_init_d00df := List.mem_of_getElem? (i := 7) (by decide +kernel)
set_option maxRecDepth 100000 in
set_option maxHeartbeats 4000000 in
theorem c_J5_init (l : Launch) (D : va_G) (kc : Nat → ClassId) (h0 : Nat) : kCv l D (tyL kc) yJ5_init_d00df wsJ5_init_d00df ({ frames := 1, cells := 1, slots := 16, locals := 20 } : Room) [.ref h0, .int 16] ([(h0, .inr (1, [.null, .int 0, .int 0, .int 0]))]) (fun q : Nat => [(h0, .inr (1, [.ref q, .int 0, .int 0, .int 0])), (q, .inl (kc 2, 16, .inl (fun _ => 0)))]) (1) (16) (fun _ => True) := by
  intro sz
  refine k_begin (cc := cJ5_init_d00df) (maxL := 2) (ret := none) (by decide +kernel) rfl rfl (fun p e s m args below meth c hsz E G ls hl => ?_)
  subst hsz
  have hl : lv_has ls 2 [(0, .ref h0), (1, .int 16)] := hl
  refine lv_aload_n E.ex E.by dJ5_init_d00df_0 rfl (lv_at hl 0 rfl) ?_
  refine k_objInit E lmo_J5_init_d00df lmi_J5_init_d00df lmc_J5_init_d00df hl rfl ⟨rfl, rfl⟩ dJ5_init_d00df_1 ?_
  refine k_compact E G lst_J5_init_d00df_18 dJ5_init_d00df_4 ?_
  refine lv_if_eq (tgt := 25) E.ex E.by dJ5_init_d00df_7 (by decide) (fun hc => absurd hc (by decide)) (fun hc => ?_)
  clear hc
  refine lv_aload_n E.ex E.by dJ5_init_d00df_10 rfl (lv_at hl 0 rfl) ?_
  refine lv_iload_n E.ex E.by dJ5_init_d00df_11 rfl (lv_at hl 1 rfl) ?_
  refine k_newab E G lac_J5_init_d00df_byte 2 rfl (N' := 16) (by decide) (by decide) (by omega) (⟨Nat.le_of_ble_eq_true rfl, Nat.le_of_ble_eq_true rfl⟩) dJ5_init_d00df_12 (fun nw1 H G => ?_)
  have G : kG D _ s ([(h0, .inr (1, [.null, .int 0, .int 0, .int 0])), (nw1, .inl (kc 2, 16, .inl (fun _ => 0)))] : va_W) H _ := G
  refine k_putX E G wi_J5_init_d00df_J4 tyJ4_ok nmJ4 (0) (rfl) rfl 0 rfl fl_J5_init_d00df_J4_0 rfl rfl rfl rfl ([(h0, .inr (1, [.ref nw1, .int 0, .int 0, .int 0])), (nw1, .inl (kc 2, 16, .inl (fun _ => 0)))]) rfl dJ5_init_d00df_14 (fun H locs G => ?_)
  refine lv_aload_n E.ex E.by dJ5_init_d00df_17 rfl (lv_at hl 0 rfl) ?_
  refine lv_iconst (v := 0) E.ex E.by dJ5_init_d00df_18 (by decide) ?_
  refine k_putX E G wi_J5_init_d00df_J4 tyJ4_ok nmJ4 (0) (rfl) rfl 1 rfl fl_J5_init_d00df_J4_1 rfl rfl rfl rfl ([(h0, .inr (1, [.ref nw1, .int 0, .int 0, .int 0])), (nw1, .inl (kc 2, 16, .inl (fun _ => 0)))]) rfl dJ5_init_d00df_19 (fun H locs G => ?_)
  refine lv_goto (tgt := 38) E.ex E.by dJ5_init_d00df_22 (by decide) ?_
  exact k_retv (wof := (fun q : Nat => [(h0, .inr (1, [.ref q, .int 0, .int 0, .int 0])), (q, .inl (kc 2, 16, .inl (fun _ => 0)))])) (u := _) E G (by exact trivial) (by first | exact Nat.le_of_ble_eq_true rfl | omega) (by first | exact Nat.le_of_ble_eq_true rfl | omega) dJ5_init_d00df_38
theorem lml_J4_init_da8c8_1 : Cond.methodLink RJ4 1 yJ5_init_d00df ∈ wsJ4_init_da8c8 := List.mem_of_getElem? (i := 1) (by decide +kernel)
theorem li_J4_init_da8c8_J5 : Cond.initialized RJ5 ∈ wsJ4_init_da8c8 := List.mem_of_getElem? (i := 3) (by decide +kernel)
theorem lsm_J4_init_da8c8_J5_init_d00df : Cond.instanceMethod yJ5_init_d00df ∈ wsJ4_init_da8c8 := List.mem_of_getElem? (i := 2) (by decide +kernel)
theorem hd_J5_init_d00df_n : yJ5_init_d00df.cls ≠ "java/lang/invoke/MethodHandle" ∧ yJ5_init_d00df.cls ≠ "java/lang/invoke/VarHandle" ∧ (parseMethodDescriptor yJ5_init_d00df.desc).map (fun d => d.parameters.length) = some 1 := by decide +kernel
set_option maxRecDepth 100000 in
set_option maxHeartbeats 4000000 in
theorem c_J4_init (l : Launch) (D : va_G) (kc : Nat → ClassId) (h0 : Nat) : kCv l D (tyL kc) yJ4_init_da8c8 wsJ4_init_da8c8 ({ frames := 2, cells := 1, slots := 16, locals := 41 } : Room) [.ref h0] ([(h0, .inr (1, [.null, .int 0, .int 0, .int 0]))]) (fun q : Nat => [(h0, .inr (1, [.ref q, .int 0, .int 0, .int 0])), (q, .inl (kc 2, 16, .inl (fun _ => 0)))]) (1) (16) (fun _ => True) := by
  intro sz
  refine k_begin (cc := cJ4_init_da8c8) (maxL := 1) (ret := none) (by decide +kernel) rfl rfl (fun p e s m args below meth c hsz E G ls hl => ?_)
  subst hsz
  have hl : lv_has ls 1 [(0, .ref h0)] := hl
  refine lv_aload_n E.ex E.by dJ4_init_da8c8_0 rfl (lv_at hl 0 rfl) ?_
  refine lv_bipush (v := 16) E.ex E.by dJ4_init_da8c8_1 (by decide) ?_
  refine k_cI2v (n := 1) (X := []) (w := [(h0, .inr (1, [.null, .int 0, .int 0, .int 0]))]) (Z := []) (wnew := (fun q : Nat => [(h0, .inr (1, [.ref q, .int 0, .int 0, .int 0])), (q, .inl (kc 2, 16, .inl (fun _ => 0)))])) (As := [.int 16]) (rest := []) E (List.append_nil _).symm G (c_J5_init l D kc h0) gJ4_init_da8c8_J5_init_d00df lml_J4_init_da8c8_1 li_J4_init_da8c8_J5 lsm_J4_init_da8c8_J5_init_d00df rfl rfl ⟨rfl, rfl⟩ hd_J5_init_d00df_n ⟨rfl, rfl⟩ rfl hl rfl rfl dJ4_init_da8c8_3 (⟨Nat.le_of_ble_eq_true rfl, Nat.le_of_ble_eq_true rfl⟩) (fun _ => (List.append_nil _).symm) (fun u1 hq1 H locs G => ?_)
  exact k_retv (wof := (fun q : Nat => [(h0, .inr (1, [.ref q, .int 0, .int 0, .int 0])), (q, .inl (kc 2, 16, .inl (fun _ => 0)))])) (u := u1) E G (by exact trivial) (by first | exact Nat.le_of_ble_eq_true rfl | omega) (by first | exact Nat.le_of_ble_eq_true rfl | omega) dJ4_init_da8c8_6
