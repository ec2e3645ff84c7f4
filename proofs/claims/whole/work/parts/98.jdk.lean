/-! ===== the JDK's texts ===== -/
theorem va_gL {w z : va_W} {q : Nat} {x : Nat × va_E} (h : w[q]? = some x) : (w ++ z)[q]? = some x := by
  rw [List.getElem?_append_left (List.getElem?_eq_some_iff.mp h).1]; exact h
theorem va_gE {w : va_W} {x : Nat × va_E} : (w ++ [x])[w.length]? = some x := by
  rw [List.getElem?_append_right (Nat.le_refl _), Nat.sub_self]; rfl
theorem jk_shr (x : Int32) : x >>> ((0 : Int32) &&& 31) = x := by
  rw [show ((0 : Int32) &&& 31) = 0 from by decide]; exact Int32.shiftRight_zero
theorem jk_shl (x : Int32) : x <<< ((0 : Int32) &&& 31) = x := by
  rw [show ((0 : Int32) &&& 31) = 0 from by decide]; exact Int32.shiftLeft_zero
theorem jk_ch : ∀ c, c < 128 → nI c &&& 255 = nI c ∧ ((nI c).toUInt32 % 65536).toInt32 = nI c ∧ (nI c).toInt8.toInt32 = nI c ∧ (nI c).toUInt32.toUInt16.toUInt32.toInt32 = nI c := by decide +kernel
theorem jk_kch {c : Nat} (h : c < 128) : kch (nI c) := by
  have := (jk_ch c h).2.2.2
  show Value.int _ = _
  first | rw [this] | (congr 1)
theorem jk_max {a b : Nat} (ha : a < 2 ^ 31) (hb : b < 2 ^ 31) : (if nI a < nI b then nI b else nI a) = nI (max a b) := by
  by_cases h : a < b
  · rw [if_pos (nI_lt h hb), Nat.max_eq_right (by omega)]
  · rw [if_neg (nI_nlt (by omega) ha), Nat.max_eq_left (by omega)]
theorem jk_min {a b : Nat} (ha : a < 2 ^ 31) (hb : b < 2 ^ 31) : (if nI a < nI b then nI a else nI b) = nI (min a b) := by
  by_cases h : a < b
  · rw [if_pos (nI_lt h hb), Nat.min_eq_left (by omega)]
  · rw [if_neg (nI_nlt (by omega) ha), Nat.min_eq_right (by omega)]
theorem jk_big {a : Nat} (h : a ≤ 1000000) : ¬ (2147483639 : Int32) < nI a := by
  rw [show (2147483639 : Int32) = nI 2147483639 from by decide]; exact nI_nlt (by omega) (by omega)
theorem jk_ne31 {a : Nat} (h : a ≤ 1000000) : ¬ nI a = (2147483647 : Int32) := fun h3 => by
  rw [show (2147483647 : Int32) = nI 2147483647 from by decide, nI_eq (by omega) (by omega)] at h3
  omega
theorem jk_255 {x : Nat} (h : x ≤ 255) : ¬ (255 : Int32) < nI x := by
  rw [show (255 : Int32) = nI 255 from by decide]; exact nI_nlt h (by decide)
def stF (t : Nat → Nat) (n : Nat) (f : Nat → Int32) : Prop := (∀ j, j < n → t j < 128 ∧ f j = nI (t j)) ∧ ∀ i, fits .byte (.int (f i)) = true
theorem lst_J0_coder_7d493_38 : Cond.fieldLink RJ0 38 "java/lang/String" "COMPACT_STRINGS" "Z" ∈ wsJ0_coder_7d493 := List.mem_of_getElem? (i := 1) (by decide +kernel)
theorem wi_J0_coder_7d493_J0 : ∀ w ∈ wsJ00, w ∈ wsJ0_coder_7d493 := fun w h => List.mem_cons_of_mem _ (List.mem_append_right _ (h))
theorem fl_J0_coder_7d493_J0_1 : Cond.fieldLink RJ0 15 (TJ0 1).1 (TJ0 1).2.1 (TJ0 1).2.2.1 ∈ wsJ0_coder_7d493 := List.mem_of_getElem? (i := 2) (by decide +kernel)
set_option maxRecDepth 100000 in
set_option maxHeartbeats 4000000 in
theorem c_J0_coder (l : Launch) (D : va_G) (kc : Nat → ClassId) (w : va_W) (q0 sa ba : Nat) (x2 x3 : Value) (h0 : w[q0]? = some (sa, .inr (0, [.ref ba, .int 0, x2, x3]))) : kCi l D (tyL kc) yJ0_coder_7d493 wsJ0_coder_7d493 ({ frames := 0, cells := 0, slots := 0, locals := 0 } : Room) [.ref sa] (w) (fun _ : Unit => w) (0) (0) (fun r _ => r = 0) := by
  intro sz
  refine k_begin (cc := cJ0_coder_7d493) (maxL := 1) (ret := (some .byte)) (by decide +kernel) rfl rfl (fun p e s m args below meth c hsz E G ls hl => ?_)
  subst hsz
  have hl : lv_has ls 1 [(0, .ref sa)] := hl
  refine k_compact E G lst_J0_coder_7d493_38 dJ0_coder_7d493_0 ?_
  refine lv_if_eq (tgt := 13) E.ex E.by dJ0_coder_7d493_3 (by decide) (fun hc => absurd hc (by decide)) (fun hc => ?_)
  clear hc
  refine lv_aload_n E.ex E.by dJ0_coder_7d493_6 rfl (lv_at hl 0 rfl) ?_
  refine k_get E G wi_J0_coder_7d493_J0 (q0) (h0) rfl 1 rfl fl_J0_coder_7d493_J0_1 (v := .int 0) rfl dJ0_coder_7d493_7 ?_
  refine lv_goto (tgt := 14) E.ex E.by dJ0_coder_7d493_10 (by decide) ?_
  exact k_ret (wof := (fun _ : Unit => w)) (u := ()) E G (rfl) (rfl) (by first | exact Nat.le_of_ble_eq_true rfl | omega) (by first | exact Nat.le_of_ble_eq_true rfl | omega) dJ0_coder_7d493_14
theorem lst_J0_isLatin1_aae02_38 : Cond.fieldLink RJ0 38 "java/lang/String" "COMPACT_STRINGS" "Z" ∈ wsJ0_isLatin1_aae02 := List.mem_of_getElem? (i := 1) (by decide +kernel)
theorem wi_J0_isLatin1_aae02_J0 : ∀ w ∈ wsJ00, w ∈ wsJ0_isLatin1_aae02 := fun w h => List.mem_cons_of_mem _ (List.mem_append_right _ (h))
theorem fl_J0_isLatin1_aae02_J0_1 : Cond.fieldLink RJ0 15 (TJ0 1).1 (TJ0 1).2.1 (TJ0 1).2.2.1 ∈ wsJ0_isLatin1_aae02 := List.mem_of_getElem? (i := 2) (by decide +kernel)
set_option maxRecDepth 100000 in
set_option maxHeartbeats 4000000 in
theorem c_J0_isLatin1 (l : Launch) (D : va_G) (kc : Nat → ClassId) (w : va_W) (q0 sa ba : Nat) (x2 x3 : Value) (h0 : w[q0]? = some (sa, .inr (0, [.ref ba, .int 0, x2, x3]))) : kCi l D (tyL kc) yJ0_isLatin1_aae02 wsJ0_isLatin1_aae02 ({ frames := 0, cells := 0, slots := 0, locals := 0 } : Room) [.ref sa] (w) (fun _ : Unit => w) (0) (0) (fun r _ => r = 1) := by
  intro sz
  refine k_begin (cc := cJ0_isLatin1_aae02) (maxL := 1) (ret := (some .boolean)) (by decide +kernel) rfl rfl (fun p e s m args below meth c hsz E G ls hl => ?_)
  subst hsz
  have hl : lv_has ls 1 [(0, .ref sa)] := hl
  refine k_compact E G lst_J0_isLatin1_aae02_38 dJ0_isLatin1_aae02_0 ?_
  refine lv_if_eq (tgt := 17) E.ex E.by dJ0_isLatin1_aae02_3 (by decide) (fun hc => absurd hc (by decide)) (fun hc => ?_)
  clear hc
  refine lv_aload_n E.ex E.by dJ0_isLatin1_aae02_6 rfl (lv_at hl 0 rfl) ?_
  refine k_get E G wi_J0_isLatin1_aae02_J0 (q0) (h0) rfl 1 rfl fl_J0_isLatin1_aae02_J0_1 (v := .int 0) rfl dJ0_isLatin1_aae02_7 ?_
  refine lv_if_ne (tgt := 17) E.ex E.by dJ0_isLatin1_aae02_10 (by decide) (fun hc => absurd (rfl) hc) (fun hc => ?_)
  clear hc
  refine lv_iconst (v := 1) E.ex E.by dJ0_isLatin1_aae02_13 (by decide) ?_
  refine lv_goto (tgt := 18) E.ex E.by dJ0_isLatin1_aae02_14 (by decide) ?_
  exact k_ret (wof := (fun _ : Unit => w)) (u := ()) E G (rfl) (rfl) (by first | exact Nat.le_of_ble_eq_true rfl | omega) (by first | exact Nat.le_of_ble_eq_true rfl | omega) dJ0_isLatin1_aae02_18
theorem wi_J0_length_8abf5_J0 : ∀ w ∈ wsJ00, w ∈ wsJ0_length_8abf5 := fun w h => List.mem_cons_of_mem _ (List.mem_append_right _ (h))
theorem fl_J0_length_8abf5_J0_0 : Cond.fieldLink RJ0 9 (TJ0 0).1 (TJ0 0).2.1 (TJ0 0).2.2.1 ∈ wsJ0_length_8abf5 := List.mem_of_getElem? (i := 1) (by decide +kernel)
theorem hd_J0_coder_7d493_v : yJ0_coder_7d493.cls = RJ0 ∧ yJ0_coder_7d493.cls ≠ "java/lang/invoke/MethodHandle" ∧ yJ0_coder_7d493.cls ≠ "java/lang/invoke/VarHandle" ∧ (parseMethodDescriptor yJ0_coder_7d493.desc).map (fun d => d.parameters.length) = some 0 := by decide +kernel
set_option maxRecDepth 100000 in
set_option maxHeartbeats 4000000 in
theorem c_J0_length (l : Launch) (D : va_G) (kc : Nat → ClassId) (w : va_W) (q0 sa ba : Nat) (x2 x3 : Value) (h0 : w[q0]? = some (sa, .inr (0, [.ref ba, .int 0, x2, x3]))) (q1 n : Nat) (f : Nat → Int32) (h1 : w[q1]? = some (ba, .inl (kc 2, n, .inl f))) : kCi l D (tyL kc) yJ0_length_8abf5 wsJ0_length_8abf5 ({ frames := 1, cells := 0, slots := 0, locals := 20 } : Room) [.ref sa] (w) (fun _ : Unit => w) (0) (0) (fun r _ => r = nI n) := by
  intro sz
  refine k_begin (cc := cJ0_length_8abf5) (maxL := 1) (ret := (some .int)) (by decide +kernel) rfl rfl (fun p e s m args below meth c hsz E G ls hl => ?_)
  subst hsz
  have hl : lv_has ls 1 [(0, .ref sa)] := hl
  refine lv_aload_n E.ex E.by dJ0_length_8abf5_0 rfl (lv_at hl 0 rfl) ?_
  refine k_get E G wi_J0_length_8abf5_J0 (q0) (h0) rfl 0 rfl fl_J0_length_8abf5_J0_0 (v := .ref ba) rfl dJ0_length_8abf5_1 ?_
  refine k_alen E G (q1) (h1) 2 rfl dJ0_length_8abf5_4 ?_
  refine lv_aload_n E.ex E.by dJ0_length_8abf5_5 rfl (lv_at hl 0 rfl) ?_
  refine k_cVi (n := 0) (X := []) (w := w) (Z := []) (wnew := (fun _ : Unit => w)) (As := []) (rest := [.int (nI n)]) E (List.append_nil _).symm G (c_J0_coder l D kc w q0 sa ba x2 x3 h0) gJ0_length_8abf5_J0_coder_7d493 rfl ⟨rfl, rfl⟩ hd_J0_coder_7d493_v ⟨rfl, rfl⟩ (q0) (h0) rfl rfl hl rfl rfl dJ0_length_8abf5_6 (⟨rfl, rfl⟩) (fun _ => (List.append_nil _).symm) (fun r1 u1 hq1 H locs G => ?_)
  subst hq1
  refine lv_ishr E.ex E.by dJ0_length_8abf5_9 ?_
  exact k_ret (wof := (fun _ : Unit => w)) (u := ()) E G (rfl) (jk_shr _) (by first | exact Nat.le_of_ble_eq_true rfl | omega) (by first | exact Nat.le_of_ble_eq_true rfl | omega) dJ0_length_8abf5_10
set_option maxRecDepth 100000 in
set_option maxHeartbeats 4000000 in
theorem c_J3_checkIndex (l : Launch) (D : va_G) (kc : Nat → ClassId) (i n : Nat) (o : Option Nat) (hi : i < n) (hn : n < 2 ^ 31) : kCi l D (tyL kc) yJ3_checkIndex_8e157 wsJ3_checkIndex_8e157 ({ frames := 0, cells := 0, slots := 0, locals := 0 } : Room) [.int (nI i), .int (nI n), va_rf o] (([] : va_W)) (fun _ : Unit => ([] : va_W)) (0) (0) (fun _ _ => True) := by
  cases o with
  | none =>
    intro sz
    refine k_begin (cc := cJ3_checkIndex_8e157) (maxL := 3) (ret := (some .int)) (by decide +kernel) rfl rfl (fun p e s m args below meth c hsz E G ls hl => ?_)
    subst hsz
    have hl : lv_has ls 3 [(0, .int (nI i)), (1, .int (nI n)), (2, va_rf none)] := hl
    refine lv_iload_n E.ex E.by dJ3_checkIndex_8e157_0 rfl (lv_at hl 0 rfl) ?_
    refine lv_if_lt (tgt := 9) E.ex E.by dJ3_checkIndex_8e157_1 (by decide) (fun hc => absurd hc (nI_pos (by omega))) (fun hc => ?_)
    clear hc
    refine lv_iload_n E.ex E.by dJ3_checkIndex_8e157_4 rfl (lv_at hl 0 rfl) ?_
    refine lv_iload_n E.ex E.by dJ3_checkIndex_8e157_5 rfl (lv_at hl 1 rfl) ?_
    refine lv_icmp_lt (tgt := 16) E.ex E.by dJ3_checkIndex_8e157_6 (by decide) (fun hc => ?_) (fun hc => absurd (nI_lt hi hn) hc)
    clear hc
    refine lv_iload_n E.ex E.by dJ3_checkIndex_8e157_16 rfl (lv_at hl 0 rfl) ?_
    exact k_ret (wof := (fun _ : Unit => ([] : va_W))) (u := ()) E G (rfl) (trivial) (by first | exact Nat.le_of_ble_eq_true rfl | omega) (by first | exact Nat.le_of_ble_eq_true rfl | omega) dJ3_checkIndex_8e157_17
  | some o =>
    intro sz
    refine k_begin (cc := cJ3_checkIndex_8e157) (maxL := 3) (ret := (some .int)) (by decide +kernel) rfl rfl (fun p e s m args below meth c hsz E G ls hl => ?_)
    subst hsz
    have hl : lv_has ls 3 [(0, .int (nI i)), (1, .int (nI n)), (2, va_rf (some o))] := hl
    refine lv_iload_n E.ex E.by dJ3_checkIndex_8e157_0 rfl (lv_at hl 0 rfl) ?_
    refine lv_if_lt (tgt := 9) E.ex E.by dJ3_checkIndex_8e157_1 (by decide) (fun hc => absurd hc (nI_pos (by omega))) (fun hc => ?_)
    clear hc
    refine lv_iload_n E.ex E.by dJ3_checkIndex_8e157_4 rfl (lv_at hl 0 rfl) ?_
    refine lv_iload_n E.ex E.by dJ3_checkIndex_8e157_5 rfl (lv_at hl 1 rfl) ?_
    refine lv_icmp_lt (tgt := 16) E.ex E.by dJ3_checkIndex_8e157_6 (by decide) (fun hc => ?_) (fun hc => absurd (nI_lt hi hn) hc)
    clear hc
    refine lv_iload_n E.ex E.by dJ3_checkIndex_8e157_16 rfl (lv_at hl 0 rfl) ?_
    exact k_ret (wof := (fun _ : Unit => ([] : va_W))) (u := ()) E G (rfl) (trivial) (by first | exact Nat.le_of_ble_eq_true rfl | omega) (by first | exact Nat.le_of_ble_eq_true rfl | omega) dJ3_checkIndex_8e157_17
theorem lst_J0_checkIndex_df160_1053 : Cond.fieldLink RJ0 1053 "jdk/internal/util/Preconditions" "SIOOBE_FORMATTER" "Ljava/util/function/BiFunction;" ∈ wsJ0_checkIndex_df160 := List.mem_of_getElem? (i := 1) (by decide +kernel)
theorem hd_J3_checkIndex_8e157_n : yJ3_checkIndex_8e157.cls ≠ "java/lang/invoke/MethodHandle" ∧ yJ3_checkIndex_8e157.cls ≠ "java/lang/invoke/VarHandle" ∧ (parseMethodDescriptor yJ3_checkIndex_8e157.desc).map (fun d => d.parameters.length) = some 3 := by decide +kernel
set_option maxRecDepth 100000 in
set_option maxHeartbeats 4000000 in
theorem c_J0_checkIndex (l : Launch) (D : va_G) (kc : Nat → ClassId) (i n : Nat) (hi : i < n) (hn : n < 2 ^ 31) : kCv l D (tyL kc) yJ0_checkIndex_df160 wsJ0_checkIndex_df160 ({ frames := 1, cells := 0, slots := 0, locals := 22 } : Room) [.int (nI i), .int (nI n)] (([] : va_W)) (fun _ : Unit => ([] : va_W)) (0) (0) (fun _ => True) := by
  intro sz
  refine k_begin (cc := cJ0_checkIndex_df160) (maxL := 2) (ret := none) (by decide +kernel) rfl rfl (fun p e s m args below meth c hsz E G ls hl => ?_)
  subst hsz
  have hl : lv_has ls 2 [(0, .int (nI i)), (1, .int (nI n))] := hl
  refine lv_iload_n E.ex E.by dJ0_checkIndex_df160_0 rfl (lv_at hl 0 rfl) ?_
  refine lv_iload_n E.ex E.by dJ0_checkIndex_df160_1 rfl (lv_at hl 1 rfl) ?_
  refine k_sioobe E G lst_J0_checkIndex_df160_1053 dJ0_checkIndex_df160_2 (fun os1 => ?_)
  refine k_cTi (n := 3) (X := []) (w := ([] : va_W)) (Z := []) (wnew := (fun _ : Unit => ([] : va_W))) (As := [.int (nI i), .int (nI n), va_rf os1]) (rest := []) E (List.append_nil _).symm G (c_J3_checkIndex l D kc i n _ hi hn) gJ0_checkIndex_df160_J3_checkIndex_8e157 rfl ⟨rfl, rfl⟩ hd_J3_checkIndex_8e157_n ⟨rfl, rfl⟩ rfl hl rfl rfl dJ0_checkIndex_df160_5 (⟨Nat.le_of_ble_eq_true rfl, Nat.le_of_ble_eq_true rfl⟩) (fun _ => (List.append_nil _).symm) (fun r2 u2 hq2 H locs G => ?_)
  refine lv_pop E.ex E.by dJ0_checkIndex_df160_8 rfl ?_
  exact k_retv (wof := (fun _ : Unit => ([] : va_W))) (u := ()) E G (trivial) (by first | exact Nat.le_of_ble_eq_true rfl | omega) (by first | exact Nat.le_of_ble_eq_true rfl | omega) dJ0_checkIndex_df160_9
theorem hd_J0_checkIndex_df160_n : yJ0_checkIndex_df160.cls ≠ "java/lang/invoke/MethodHandle" ∧ yJ0_checkIndex_df160.cls ≠ "java/lang/invoke/VarHandle" ∧ (parseMethodDescriptor yJ0_checkIndex_df160.desc).map (fun d => d.parameters.length) = some 2 := by decide +kernel
set_option maxRecDepth 100000 in
set_option maxHeartbeats 4000000 in
theorem c_J1_charAt (l : Launch) (D : va_G) (kc : Nat → ClassId) (w : va_W) (q1 ba n j : Nat) (t : Nat → Nat) (f : Nat → Int32) (h1 : w[q1]? = some (ba, .inl (kc 2, n, .inl f))) (hj : j < n) (hn : n < 2 ^ 31) (ht : stF t n f) : kCi l D (tyL kc) yJ1_charAt_3b067 wsJ1_charAt_3b067 ({ frames := 2, cells := 0, slots := 0, locals := 43 } : Room) [.ref ba, .int (nI j)] (w) (fun _ : Unit => w) (0) (0) (fun r _ => r = nI (t j)) := by
  intro sz
  refine k_begin (cc := cJ1_charAt_3b067) (maxL := 2) (ret := (some .char)) (by decide +kernel) rfl rfl (fun p e s m args below meth c hsz E G ls hl => ?_)
  subst hsz
  have hl : lv_has ls 2 [(0, .ref ba), (1, .int (nI j))] := hl
  refine lv_iload_n E.ex E.by dJ1_charAt_3b067_0 rfl (lv_at hl 1 rfl) ?_
  refine lv_aload_n E.ex E.by dJ1_charAt_3b067_1 rfl (lv_at hl 0 rfl) ?_
  refine k_alen E G (q1) (h1) 2 rfl dJ1_charAt_3b067_2 ?_
  refine k_cTv (n := 2) (X := w) (w := []) (Z := []) (wnew := (fun _ : Unit => w)) (As := [.int (nI j), .int (nI n)]) (rest := []) E (List.append_nil _).symm G (c_J0_checkIndex l D kc j n hj hn) gJ1_charAt_3b067_J0_checkIndex_df160 rfl ⟨rfl, rfl⟩ hd_J0_checkIndex_df160_n ⟨rfl, rfl⟩ rfl hl rfl rfl dJ1_charAt_3b067_3 (⟨Nat.le_of_ble_eq_true rfl, Nat.le_of_ble_eq_true rfl⟩) (fun _ => (List.append_nil _).symm) (fun u1 hq1 H locs G => ?_)
  refine lv_aload_n E.ex E.by dJ1_charAt_3b067_6 rfl (lv_at hl 0 rfl) ?_
  refine lv_iload_n E.ex E.by dJ1_charAt_3b067_7 rfl (lv_at hl 1 rfl) ?_
  refine k_bald E G (q1) (h1) 2 rfl (vp_in_nI hj hn) dJ1_charAt_3b067_8 ?_
  refine lv_topi (fun y2 ey2 => ?_)
  have ey2 : y2 = nI (t j) := ey2.trans (by rw [nI_clamp (by omega), (ht.1 j hj).2])
  subst ey2
  refine lv_sipush (v := 255) E.ex E.by dJ1_charAt_3b067_9 (by decide) ?_
  refine lv_iand E.ex E.by dJ1_charAt_3b067_12 ?_
  refine lv_topi (fun y3 ey3 => ?_)
  have ey3 : y3 = nI (t j) := ey3.trans ((jk_ch (t j) (ht.1 j hj).1).1)
  subst ey3
  refine lv_i2c (v := nI (t j)) E.ex E.by dJ1_charAt_3b067_13 ((jk_ch (t j) (ht.1 j hj).1).2.1) ?_
  exact k_ret (wof := (fun _ : Unit => w)) (u := ()) E G (jk_kch (ht.1 j hj).1) (rfl) (by first | exact Nat.le_of_ble_eq_true rfl | omega) (by first | exact Nat.le_of_ble_eq_true rfl | omega) dJ1_charAt_3b067_14
theorem hd_J0_isLatin1_aae02_v : yJ0_isLatin1_aae02.cls = RJ0 ∧ yJ0_isLatin1_aae02.cls ≠ "java/lang/invoke/MethodHandle" ∧ yJ0_isLatin1_aae02.cls ≠ "java/lang/invoke/VarHandle" ∧ (parseMethodDescriptor yJ0_isLatin1_aae02.desc).map (fun d => d.parameters.length) = some 0 := by decide +kernel
theorem wi_J0_charAt_5068e_J0 : ∀ w ∈ wsJ00, w ∈ wsJ0_charAt_5068e := fun w h => List.mem_cons_of_mem _ (List.mem_append_right _ (h))
theorem fl_J0_charAt_5068e_J0_0 : Cond.fieldLink RJ0 9 (TJ0 0).1 (TJ0 0).2.1 (TJ0 0).2.2.1 ∈ wsJ0_charAt_5068e := List.mem_of_getElem? (i := 1) (by decide +kernel)
theorem hd_J1_charAt_3b067_n : yJ1_charAt_3b067.cls ≠ "java/lang/invoke/MethodHandle" ∧ yJ1_charAt_3b067.cls ≠ "java/lang/invoke/VarHandle" ∧ (parseMethodDescriptor yJ1_charAt_3b067.desc).map (fun d => d.parameters.length) = some 2 := by decide +kernel
set_option maxRecDepth 100000 in
set_option maxHeartbeats 4000000 in
theorem c_J0_charAt (l : Launch) (D : va_G) (kc : Nat → ClassId) (w : va_W) (q0 sa ba : Nat) (x2 x3 : Value) (h0 : w[q0]? = some (sa, .inr (0, [.ref ba, .int 0, x2, x3]))) (q1 n j : Nat) (t : Nat → Nat) (f : Nat → Int32) (h1 : w[q1]? = some (ba, .inl (kc 2, n, .inl f))) (hj : j < n) (hn : n < 2 ^ 31) (ht : stF t n f) : kCi l D (tyL kc) yJ0_charAt_5068e wsJ0_charAt_5068e ({ frames := 3, cells := 0, slots := 0, locals := 64 } : Room) [.ref sa, .int (nI j)] (w) (fun _ : Unit => w) (0) (0) (fun r _ => r = nI (t j)) := by
  intro sz
  refine k_begin (cc := cJ0_charAt_5068e) (maxL := 2) (ret := (some .char)) (by decide +kernel) rfl rfl (fun p e s m args below meth c hsz E G ls hl => ?_)
  subst hsz
  have hl : lv_has ls 2 [(0, .ref sa), (1, .int (nI j))] := hl
  refine lv_aload_n E.ex E.by dJ0_charAt_5068e_0 rfl (lv_at hl 0 rfl) ?_
  refine k_cVi (n := 0) (X := []) (w := w) (Z := []) (wnew := (fun _ : Unit => w)) (As := []) (rest := []) E (List.append_nil _).symm G (c_J0_isLatin1 l D kc w q0 sa ba x2 x3 h0) gJ0_charAt_5068e_J0_isLatin1_aae02 rfl ⟨rfl, rfl⟩ hd_J0_isLatin1_aae02_v ⟨rfl, rfl⟩ (q0) (h0) rfl rfl hl rfl rfl dJ0_charAt_5068e_1 (⟨rfl, rfl⟩) (fun _ => (List.append_nil _).symm) (fun r1 u1 hq1 H locs G => ?_)
  subst hq1
  refine lv_if_eq (tgt := 16) E.ex E.by dJ0_charAt_5068e_4 (by decide) (fun hc => absurd hc (by decide)) (fun hc => ?_)
  clear hc
  refine lv_aload_n E.ex E.by dJ0_charAt_5068e_7 rfl (lv_at hl 0 rfl) ?_
  refine k_get E G wi_J0_charAt_5068e_J0 (q0) (h0) rfl 0 rfl fl_J0_charAt_5068e_J0_0 (v := .ref ba) rfl dJ0_charAt_5068e_8 ?_
  refine lv_iload_n E.ex E.by dJ0_charAt_5068e_11 rfl (lv_at hl 1 rfl) ?_
  refine k_cTi (n := 2) (X := []) (w := w) (Z := []) (wnew := (fun _ : Unit => w)) (As := [.ref ba, .int (nI j)]) (rest := []) E (List.append_nil _).symm G (c_J1_charAt l D kc w q1 ba n j t f h1 hj hn ht) gJ0_charAt_5068e_J1_charAt_3b067 rfl ⟨rfl, rfl⟩ hd_J1_charAt_3b067_n ⟨rfl, rfl⟩ rfl hl rfl rfl dJ0_charAt_5068e_12 (⟨Nat.le_of_ble_eq_true rfl, Nat.le_of_ble_eq_true rfl⟩) (fun _ => (List.append_nil _).symm) (fun r2 u2 hq2 H locs G => ?_)
  subst hq2
  exact k_ret (wof := (fun _ : Unit => w)) (u := ()) E G (jk_kch (ht.1 j hj).1) (rfl) (by first | exact Nat.le_of_ble_eq_true rfl | omega) (by first | exact Nat.le_of_ble_eq_true rfl | omega) dJ0_charAt_5068e_15
theorem wi_J5_length_8abf5_J4 : ∀ w ∈ wsJ40, w ∈ wsJ5_length_8abf5 := fun w h => List.mem_cons_of_mem _ (List.mem_append_right _ (h))
theorem fl_J5_length_8abf5_J4_3 : Cond.fieldLink RJ5 79 (TJ4 3).1 (TJ4 3).2.1 (TJ4 3).2.2.1 ∈ wsJ5_length_8abf5 := List.mem_of_getElem? (i := 1) (by decide +kernel)
set_option maxRecDepth 100000 in
set_option maxHeartbeats 4000000 in
theorem c_J5_length (l : Launch) (D : va_G) (kc : Nat → ClassId) (w : va_W) (q0 sa ba : Nat) (mb cnt : Int32) (h0 : w[q0]? = some (sa, .inr (1, [.ref ba, .int 0, .int mb, .int cnt]))) : kCi l D (tyL kc) yJ5_length_8abf5 wsJ5_length_8abf5 ({ frames := 0, cells := 0, slots := 0, locals := 0 } : Room) [.ref sa] (w) (fun _ : Unit => w) (0) (0) (fun r _ => r = cnt) := by
  intro sz
  refine k_begin (cc := cJ5_length_8abf5) (maxL := 1) (ret := (some .int)) (by decide +kernel) rfl rfl (fun p e s m args below meth c hsz E G ls hl => ?_)
  subst hsz
  have hl : lv_has ls 1 [(0, .ref sa)] := hl
  refine lv_aload_n E.ex E.by dJ5_length_8abf5_0 rfl (lv_at hl 0 rfl) ?_
  refine k_get E G wi_J5_length_8abf5_J4 (q0) (h0) rfl 3 rfl fl_J5_length_8abf5_J4_3 (v := .int cnt) rfl dJ5_length_8abf5_1 ?_
  exact k_ret (wof := (fun _ : Unit => w)) (u := ()) E G (rfl) (rfl) (by first | exact Nat.le_of_ble_eq_true rfl | omega) (by first | exact Nat.le_of_ble_eq_true rfl | omega) dJ5_length_8abf5_4
theorem hd_J5_length_8abf5_n : yJ5_length_8abf5.cls ≠ "java/lang/invoke/MethodHandle" ∧ yJ5_length_8abf5.cls ≠ "java/lang/invoke/VarHandle" ∧ (parseMethodDescriptor yJ5_length_8abf5.desc).map (fun d => d.parameters.length) = some 0 := by decide +kernel
set_option maxRecDepth 100000 in
set_option maxHeartbeats 4000000 in
theorem c_J4_length (l : Launch) (D : va_G) (kc : Nat → ClassId) (w : va_W) (q0 sa ba : Nat) (mb cnt : Int32) (h0 : w[q0]? = some (sa, .inr (1, [.ref ba, .int 0, .int mb, .int cnt]))) : kCi l D (tyL kc) yJ4_length_8abf5 wsJ4_length_8abf5 ({ frames := 1, cells := 0, slots := 0, locals := 20 } : Room) [.ref sa] (w) (fun _ : Unit => w) (0) (0) (fun r _ => r = cnt) := by
  intro sz
  refine k_begin (cc := cJ4_length_8abf5) (maxL := 1) (ret := (some .int)) (by decide +kernel) rfl rfl (fun p e s m args below meth c hsz E G ls hl => ?_)
  subst hsz
  have hl : lv_has ls 1 [(0, .ref sa)] := hl
  refine lv_aload_n E.ex E.by dJ4_length_8abf5_0 rfl (lv_at hl 0 rfl) ?_
  refine k_cSUi (n := 0) (X := []) (w := w) (Z := []) (wnew := (fun _ : Unit => w)) (As := []) (rest := []) E (List.append_nil _).symm G (c_J5_length l D kc w q0 sa ba mb cnt h0) gJ4_length_8abf5_J5_length_8abf5_s343 rfl ⟨rfl, rfl⟩ (by decide +kernel) ⟨rfl, rfl⟩ (q0) (h0) rfl rfl hl rfl rfl dJ4_length_8abf5_1 (⟨Nat.le_of_ble_eq_true rfl, Nat.le_of_ble_eq_true rfl⟩) (fun _ => (List.append_nil _).symm) (fun r1 u1 hq1 H locs G => ?_)
  subst hq1
  exact k_ret (wof := (fun _ : Unit => w)) (u := ()) E G (rfl) (rfl) (by first | exact Nat.le_of_ble_eq_true rfl | omega) (by first | exact Nat.le_of_ble_eq_true rfl | omega) dJ4_length_8abf5_4
theorem lst_J5_isLatin1_aae02_18 : Cond.fieldLink RJ5 18 "java/lang/String" "COMPACT_STRINGS" "Z" ∈ wsJ5_isLatin1_aae02 := List.mem_of_getElem? (i := 1) (by decide +kernel)
theorem wi_J5_isLatin1_aae02_J4 : ∀ w ∈ wsJ40, w ∈ wsJ5_isLatin1_aae02 := fun w h => List.mem_cons_of_mem _ (List.mem_append_right _ (h))
theorem fl_J5_isLatin1_aae02_J4_1 : Cond.fieldLink RJ5 22 (TJ4 1).1 (TJ4 1).2.1 (TJ4 1).2.2.1 ∈ wsJ5_isLatin1_aae02 := List.mem_of_getElem? (i := 2) (by decide +kernel)
set_option maxRecDepth 100000 in
set_option maxHeartbeats 4000000 in
theorem c_J5_isLatin1 (l : Launch) (D : va_G) (kc : Nat → ClassId) (w : va_W) (q0 sa ba : Nat) (mb cnt : Int32) (h0 : w[q0]? = some (sa, .inr (1, [.ref ba, .int 0, .int mb, .int cnt]))) : kCi l D (tyL kc) yJ5_isLatin1_aae02 wsJ5_isLatin1_aae02 ({ frames := 0, cells := 0, slots := 0, locals := 0 } : Room) [.ref sa] (w) (fun _ : Unit => w) (0) (0) (fun r _ => r = 1) := by
  intro sz
  refine k_begin (cc := cJ5_isLatin1_aae02) (maxL := 1) (ret := (some .boolean)) (by decide +kernel) rfl rfl (fun p e s m args below meth c hsz E G ls hl => ?_)
  subst hsz
  have hl : lv_has ls 1 [(0, .ref sa)] := hl
  refine k_compact E G lst_J5_isLatin1_aae02_18 dJ5_isLatin1_aae02_0 ?_
  refine lv_if_eq (tgt := 17) E.ex E.by dJ5_isLatin1_aae02_3 (by decide) (fun hc => absurd hc (by decide)) (fun hc => ?_)
  clear hc
  refine lv_aload_n E.ex E.by dJ5_isLatin1_aae02_6 rfl (lv_at hl 0 rfl) ?_
  refine k_get E G wi_J5_isLatin1_aae02_J4 (q0) (h0) rfl 1 rfl fl_J5_isLatin1_aae02_J4_1 (v := .int 0) rfl dJ5_isLatin1_aae02_7 ?_
  refine lv_if_ne (tgt := 17) E.ex E.by dJ5_isLatin1_aae02_10 (by decide) (fun hc => absurd (rfl) hc) (fun hc => ?_)
  clear hc
  refine lv_iconst (v := 1) E.ex E.by dJ5_isLatin1_aae02_13 (by decide) ?_
  refine lv_goto (tgt := 18) E.ex E.by dJ5_isLatin1_aae02_14 (by decide) ?_
  exact k_ret (wof := (fun _ : Unit => w)) (u := ()) E G (rfl) (rfl) (by first | exact Nat.le_of_ble_eq_true rfl | omega) (by first | exact Nat.le_of_ble_eq_true rfl | omega) dJ5_isLatin1_aae02_18
theorem wi_J5_getValue_6d5f1_J4 : ∀ w ∈ wsJ40, w ∈ wsJ5_getValue_6d5f1 := fun w h => List.mem_cons_of_mem _ (List.mem_append_right _ (h))
theorem fl_J5_getValue_6d5f1_J4_0 : Cond.fieldLink RJ5 15 (TJ4 0).1 (TJ4 0).2.1 (TJ4 0).2.2.1 ∈ wsJ5_getValue_6d5f1 := List.mem_of_getElem? (i := 1) (by decide +kernel)
set_option maxRecDepth 100000 in
set_option maxHeartbeats 4000000 in
theorem c_J5_getValue (l : Launch) (D : va_G) (kc : Nat → ClassId) (w : va_W) (q0 sa ba : Nat) (mb cnt : Int32) (h0 : w[q0]? = some (sa, .inr (1, [.ref ba, .int 0, .int mb, .int cnt]))) : kCq l D (tyL kc) yJ5_getValue_6d5f1 wsJ5_getValue_6d5f1 ({ frames := 0, cells := 0, slots := 0, locals := 0 } : Room) [.ref sa] (w) (fun _ : Unit => w) (0) (0) (fun o _ => o = some ba) := by
  intro sz
  refine k_begin (cc := cJ5_getValue_6d5f1) (maxL := 1) (ret := (some (.array .byte))) (by decide +kernel) rfl rfl (fun p e s m args below meth c hsz E G ls hl => ?_)
  subst hsz
  have hl : lv_has ls 1 [(0, .ref sa)] := hl
  refine lv_aload_n E.ex E.by dJ5_getValue_6d5f1_0 rfl (lv_at hl 0 rfl) ?_
  refine k_get E G wi_J5_getValue_6d5f1_J4 (q0) (h0) rfl 0 rfl fl_J5_getValue_6d5f1_J4_0 (v := .ref ba) rfl dJ5_getValue_6d5f1_1 ?_
  refine k_retq (P := (fun o _ => o = some ba)) (wof := (fun _ : Unit => w)) (o := (some ba)) (u := ()) (Or.inr ⟨_, rfl⟩) E G ?_ ?_ ?_ dJ5_getValue_6d5f1_4
  · exact rfl
  · first | exact Nat.le_of_ble_eq_true rfl | omega
  · first | exact Nat.le_of_ble_eq_true rfl | omega
set_option maxRecDepth 100000 in
set_option maxHeartbeats 4000000 in
theorem c_J1_canEncode (l : Launch) (D : va_G) (kc : Nat → ClassId) (x : Nat) (hx : x ≤ 255) : kCi l D (tyL kc) yJ1_canEncode_fc78d wsJ1_canEncode_fc78d ({ frames := 0, cells := 0, slots := 0, locals := 0 } : Room) [.int (nI x)] (([] : va_W)) (fun _ : Unit => ([] : va_W)) (0) (0) (fun r _ => r = 1) := by
  intro sz
  refine k_begin (cc := cJ1_canEncode_fc78d) (maxL := 1) (ret := (some .boolean)) (by decide +kernel) rfl rfl (fun p e s m args below meth c hsz E G ls hl => ?_)
  subst hsz
  have hl : lv_has ls 1 [(0, .int (nI x))] := hl
  refine lv_iload_n E.ex E.by dJ1_canEncode_fc78d_0 rfl (lv_at hl 0 rfl) ?_
  refine lv_sipush (v := 255) E.ex E.by dJ1_canEncode_fc78d_1 (by decide) ?_
  refine lv_icmp_gt (tgt := 11) E.ex E.by dJ1_canEncode_fc78d_4 (by decide) (fun hc => absurd hc (jk_255 hx)) (fun hc => ?_)
  clear hc
  refine lv_iconst (v := 1) E.ex E.by dJ1_canEncode_fc78d_7 (by decide) ?_
  refine lv_goto (tgt := 12) E.ex E.by dJ1_canEncode_fc78d_8 (by decide) ?_
  exact k_ret (wof := (fun _ : Unit => ([] : va_W))) (u := ()) E G (rfl) (rfl) (by first | exact Nat.le_of_ble_eq_true rfl | omega) (by first | exact Nat.le_of_ble_eq_true rfl | omega) dJ1_canEncode_fc78d_12
theorem lmmax_J8_newLength_cabcc_194 : Cond.methodLink RJ8 194 Lib.Math.max.name ∈ wsJ8_newLength_cabcc := List.mem_of_getElem? (i := 1) (by decide +kernel)
theorem lmsmax_J8_newLength_cabcc : Cond.static Lib.Math.max.name ∈ wsJ8_newLength_cabcc := List.mem_of_getElem? (i := 2) (by decide +kernel)
theorem lmi2_J8_newLength_cabcc : Cond.initialized "java/lang/Math" ∈ wsJ8_newLength_cabcc := List.mem_of_getElem? (i := 3) (by decide +kernel)
theorem lmcmax_J8_newLength_cabcc : Cond.code Lib.Math.max.name Lib.Math.max.code 2 (some .int) ∈ wsJ8_newLength_cabcc := List.mem_of_getElem? (i := 4) (by decide +kernel)
theorem lc_J8_newLength_cabcc_200 : Cond.constant RJ8 200 (2147483639) ∈ wsJ8_newLength_cabcc := List.mem_of_getElem? (i := 5) (by decide +kernel)
set_option maxRecDepth 100000 in
set_option maxHeartbeats 4000000 in
theorem c_J8_newLength (l : Launch) (D : va_G) (kc : Nat → ClassId) (a b g : Nat) (ha : a ≤ 100000) (hb : b ≤ 100000) (hg : g ≤ 100000) (h0 : 0 < g) : kCi l D (tyL kc) yJ8_newLength_cabcc wsJ8_newLength_cabcc ({ frames := 1, cells := 0, slots := 0, locals := 30 } : Room) [.int (nI a), .int (nI b), .int (nI g)] (([] : va_W)) (fun _ : Unit => ([] : va_W)) (0) (0) (fun r _ => r = nI (a + max b g)) := by
  intro sz
  refine k_begin (cc := cJ8_newLength_cabcc) (maxL := 4) (ret := (some .int)) (by decide +kernel) rfl rfl (fun p e s m args below meth c hsz E G ls hl => ?_)
  subst hsz
  have hl : lv_has ls 4 [(0, .int (nI a)), (1, .int (nI b)), (2, .int (nI g))] := hl
  refine lv_iload_n E.ex E.by dJ8_newLength_cabcc_0 rfl (lv_at hl 0 rfl) ?_
  refine lv_iload_n E.ex E.by dJ8_newLength_cabcc_1 rfl (lv_at hl 1 rfl) ?_
  refine lv_iload_n E.ex E.by dJ8_newLength_cabcc_2 rfl (lv_at hl 2 rfl) ?_
  refine va_mmax E.ex E.by (E.nl.trans hl.1.symm) E.ow (E.ts _ lmmax_J8_newLength_cabcc_194) (E.ts _ lmsmax_J8_newLength_cabcc) (E.ts _ lmi2_J8_newLength_cabcc) (E.ts _ lmcmax_J8_newLength_cabcc) (Nat.le_of_ble_eq_true rfl) (Nat.le_of_ble_eq_true rfl) (Nat.le_of_ble_eq_true rfl) (Nat.le_of_ble_eq_true rfl) dJ8_newLength_cabcc_3 ?_
  refine lv_topi (fun y1 ey1 => ?_)
  have ey1 : y1 = nI (max b g) := ey1.trans (jk_max (by omega) (by omega))
  subst ey1
  refine lv_iadd E.ex E.by dJ8_newLength_cabcc_6 ?_
  refine lv_topi (fun y2 ey2 => ?_)
  have ey2 : y2 = nI (a + max b g) := ey2.trans (nI_add _ _)
  subst ey2
  refine lv_istore_n (lv' := [(3, .int (nI (a + max b g))), (0, .int (nI a)), (1, .int (nI b)), (2, .int (nI g))]) E.ex E.by dJ8_newLength_cabcc_7 rfl hl (by decide) rfl (fun ls hl => ?_)
  refine lv_iconst (v := 0) E.ex E.by dJ8_newLength_cabcc_8 (by decide) ?_
  refine lv_iload_n E.ex E.by dJ8_newLength_cabcc_9 rfl (lv_at hl 0 rfl) ?_
  refine lv_icmp_ge (tgt := 21) E.ex E.by dJ8_newLength_cabcc_10 (by decide) (fun hc => absurd hc (by rw [li0]; exact nI_ge (by omega) (by omega))) (fun hc => ?_)
  clear hc
  refine lv_iload_n E.ex E.by dJ8_newLength_cabcc_13 rfl (lv_at hl 0 rfl) ?_
  refine lv_ldc (v := 2147483639) E.ex E.by E.ow (E.ts _ lc_J8_newLength_cabcc_200) dJ8_newLength_cabcc_14 ?_
  refine lv_icmp_gt (tgt := 21) E.ex E.by dJ8_newLength_cabcc_16 (by decide) (fun hc => absurd hc (jk_big (by omega))) (fun hc => ?_)
  clear hc
  refine lv_iload_n E.ex E.by dJ8_newLength_cabcc_19 rfl (lv_at hl 0 rfl) ?_
  exact k_ret (wof := (fun _ : Unit => ([] : va_W))) (u := ()) E G (rfl) (rfl) (by first | exact Nat.le_of_ble_eq_true rfl | omega) (by first | exact Nat.le_of_ble_eq_true rfl | omega) dJ8_newLength_cabcc_20
theorem wi_J5_newCapacity_0f7a4_J4 : ∀ w ∈ wsJ40, w ∈ wsJ5_newCapacity_0f7a4 := fun w h => List.mem_cons_of_mem _ (List.mem_append_right _ (h))
theorem fl_J5_newCapacity_0f7a4_J4_0 : Cond.fieldLink RJ5 15 (TJ4 0).1 (TJ4 0).2.1 (TJ4 0).2.2.1 ∈ wsJ5_newCapacity_0f7a4 := List.mem_of_getElem? (i := 1) (by decide +kernel)
theorem fl_J5_newCapacity_0f7a4_J4_1 : Cond.fieldLink RJ5 22 (TJ4 1).1 (TJ4 1).2.1 (TJ4 1).2.2.1 ∈ wsJ5_newCapacity_0f7a4 := List.mem_of_getElem? (i := 2) (by decide +kernel)
theorem hd_J8_newLength_cabcc_n : yJ8_newLength_cabcc.cls ≠ "java/lang/invoke/MethodHandle" ∧ yJ8_newLength_cabcc.cls ≠ "java/lang/invoke/VarHandle" ∧ (parseMethodDescriptor yJ8_newLength_cabcc.desc).map (fun d => d.parameters.length) = some 3 := by decide +kernel
theorem lc_J5_newCapacity_0f7a4_39 : Cond.constant RJ5 39 (2147483647) ∈ wsJ5_newCapacity_0f7a4 := List.mem_of_getElem? (i := 3) (by decide +kernel)
set_option maxRecDepth 100000 in
set_option maxHeartbeats 4000000 in
theorem c_J5_newCapacity (l : Launch) (D : va_G) (kc : Nat → ClassId) (w : va_W) (q0 sa ba : Nat) (mb cnt : Int32) (h0 : w[q0]? = some (sa, .inr (1, [.ref ba, .int 0, .int mb, .int cnt]))) (q1 n q : Nat) (f : Nat → Int32) (h1 : w[q1]? = some (ba, .inl (kc 2, n, .inl f))) (hnq : n < q) (hq : q ≤ 30000) : kCi l D (tyL kc) yJ5_newCapacity_0f7a4 wsJ5_newCapacity_0f7a4 ({ frames := 2, cells := 0, slots := 0, locals := 53 } : Room) [.ref sa, .int (nI q)] (w) (fun _ : Unit => w) (0) (0) (fun r _ => r = nI (n + max (q - n) (n + 2))) := by
  intro sz
  refine k_begin (cc := cJ5_newCapacity_0f7a4) (maxL := 6) (ret := (some .int)) (by decide +kernel) rfl rfl (fun p e s m args below meth c hsz E G ls hl => ?_)
  subst hsz
  have hl : lv_has ls 6 [(0, .ref sa), (1, .int (nI q))] := hl
  refine lv_aload_n E.ex E.by dJ5_newCapacity_0f7a4_0 rfl (lv_at hl 0 rfl) ?_
  refine k_get E G wi_J5_newCapacity_0f7a4_J4 (q0) (h0) rfl 0 rfl fl_J5_newCapacity_0f7a4_J4_0 (v := .ref ba) rfl dJ5_newCapacity_0f7a4_1 ?_
  refine k_alen E G (q1) (h1) 2 rfl dJ5_newCapacity_0f7a4_4 ?_
  refine lv_istore_n (lv' := [(2, .int (nI n)), (0, .ref sa), (1, .int (nI q))]) E.ex E.by dJ5_newCapacity_0f7a4_5 rfl hl (by decide) rfl (fun ls hl => ?_)
  refine lv_iload_n E.ex E.by dJ5_newCapacity_0f7a4_6 rfl (lv_at hl 2 rfl) ?_
  refine lv_aload_n E.ex E.by dJ5_newCapacity_0f7a4_7 rfl (lv_at hl 1 rfl) ?_
  refine k_get E G wi_J5_newCapacity_0f7a4_J4 (q0) (h0) rfl 1 rfl fl_J5_newCapacity_0f7a4_J4_1 (v := .int 0) rfl dJ5_newCapacity_0f7a4_8 ?_
  refine lv_ishl E.ex E.by dJ5_newCapacity_0f7a4_11 ?_
  refine lv_topi (fun y1 ey1 => ?_)
  have ey1 : y1 = nI q := ey1.trans (jk_shl _)
  subst ey1
  refine lv_istore_n (lv' := [(3, .int (nI q)), (2, .int (nI n)), (0, .ref sa), (1, .int (nI q))]) E.ex E.by dJ5_newCapacity_0f7a4_12 rfl hl (by decide) rfl (fun ls hl => ?_)
  refine lv_iload_n E.ex E.by dJ5_newCapacity_0f7a4_13 rfl (lv_at hl 0 rfl) ?_
  refine lv_iload_n E.ex E.by dJ5_newCapacity_0f7a4_14 rfl (lv_at hl 1 rfl) ?_
  refine lv_isub E.ex E.by dJ5_newCapacity_0f7a4_15 ?_
  refine lv_topi (fun y2 ey2 => ?_)
  have ey2 : y2 = nI (q - n) := ey2.trans (pk_sub (by omega))
  subst ey2
  refine lv_istore (lv' := [(4, .int (nI (q - n))), (3, .int (nI q)), (2, .int (nI n)), (0, .ref sa), (1, .int (nI q))]) E.ex E.by dJ5_newCapacity_0f7a4_16 hl (by decide) rfl (fun ls hl => ?_)
  refine lv_iload_n E.ex E.by dJ5_newCapacity_0f7a4_18 rfl (lv_at hl 2 rfl) ?_
  refine lv_iload E.ex E.by dJ5_newCapacity_0f7a4_19 (lv_at hl 0 rfl) ?_
  refine lv_iload_n E.ex E.by dJ5_newCapacity_0f7a4_21 rfl (lv_at hl 2 rfl) ?_
  refine lv_iconst (v := 2) E.ex E.by dJ5_newCapacity_0f7a4_22 (by decide) ?_
  refine lv_aload_n E.ex E.by dJ5_newCapacity_0f7a4_23 rfl (lv_at hl 3 rfl) ?_
  refine k_get E G wi_J5_newCapacity_0f7a4_J4 (q0) (h0) rfl 1 rfl fl_J5_newCapacity_0f7a4_J4_1 (v := .int 0) rfl dJ5_newCapacity_0f7a4_24 ?_
  refine lv_ishl E.ex E.by dJ5_newCapacity_0f7a4_27 ?_
  refine lv_topi (fun y3 ey3 => ?_)
  have ey3 : y3 = 2 := ey3.trans (by decide)
  subst ey3
  refine lv_iadd E.ex E.by dJ5_newCapacity_0f7a4_28 ?_
  refine lv_topi (fun y4 ey4 => ?_)
  have ey4 : y4 = nI (n + 2) := ey4.trans (nI_add n 2)
  subst ey4
  refine k_cTi (n := 3) (X := w) (w := []) (Z := []) (wnew := (fun _ : Unit => w)) (As := [.int (nI n), .int (nI (q - n)), .int (nI (n + 2))]) (rest := []) E (List.append_nil _).symm G (c_J8_newLength l D kc n (q - n) (n + 2) (by omega) (by omega) (by omega) (by omega)) gJ5_newCapacity_0f7a4_J8_newLength_cabcc rfl ⟨rfl, rfl⟩ hd_J8_newLength_cabcc_n ⟨rfl, rfl⟩ rfl hl rfl rfl dJ5_newCapacity_0f7a4_29 (⟨Nat.le_of_ble_eq_true rfl, Nat.le_of_ble_eq_true rfl⟩) (fun _ => (List.append_nil _).symm) (fun r5 u5 hq5 H locs G => ?_)
  subst hq5
  refine lv_istore (lv' := [(5, .int (nI (n + max (q - n) (n + 2)))), (4, .int (nI (q - n))), (3, .int (nI q)), (2, .int (nI n)), (0, .ref sa), (1, .int (nI q))]) E.ex E.by dJ5_newCapacity_0f7a4_32 hl (by decide) rfl (fun ls hl => ?_)
  refine lv_iload E.ex E.by dJ5_newCapacity_0f7a4_34 (lv_at hl 0 rfl) ?_
  refine lv_ldc (v := 2147483647) E.ex E.by E.ow (E.ts _ lc_J5_newCapacity_0f7a4_39) dJ5_newCapacity_0f7a4_36 ?_
  refine lv_icmp_ne (tgt := 51) E.ex E.by dJ5_newCapacity_0f7a4_38 (by decide) (fun hc => ?_) (fun hc => absurd hc (jk_ne31 (by omega)))
  clear hc
  refine lv_iload E.ex E.by dJ5_newCapacity_0f7a4_51 (lv_at hl 0 rfl) ?_
  refine lv_aload_n E.ex E.by dJ5_newCapacity_0f7a4_53 rfl (lv_at hl 4 rfl) ?_
  refine k_get E G wi_J5_newCapacity_0f7a4_J4 (q0) (h0) rfl 1 rfl fl_J5_newCapacity_0f7a4_J4_1 (v := .int 0) rfl dJ5_newCapacity_0f7a4_54 ?_
  refine lv_ishr E.ex E.by dJ5_newCapacity_0f7a4_57 ?_
  refine lv_topi (fun y6 ey6 => ?_)
  have ey6 : y6 = nI (n + max (q - n) (n + 2)) := ey6.trans (jk_shr _)
  subst ey6
  exact k_ret (wof := (fun _ : Unit => w)) (u := ()) E G (rfl) (rfl) (by first | exact Nat.le_of_ble_eq_true rfl | omega) (by first | exact Nat.le_of_ble_eq_true rfl | omega) dJ5_newCapacity_0f7a4_58
