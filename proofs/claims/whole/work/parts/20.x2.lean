def wp_X11_contains (p1 : Int32) (p2 : Int32) (Q : Int32 → Prop) : Prop := (p2 < 0 → Q 0) ∧ (¬ p2 < 0 → (8 ≤ p2 → Q 0) ∧ (¬ 8 ≤ p2 → (¬ ((p1 >>> (p2 &&& 31)) &&& 1) = 1 → Q 0) ∧ (((p1 >>> (p2 &&& 31)) &&& 1) = 1 → Q 1)))
set_option maxRecDepth 100000 in
set_option maxHeartbeats 4000000 in
theorem c_X11_contains (l : Launch) (D : va_G) (kc : Nat → ClassId)  (p1 : Int32) (p2 : Int32) (Q : Int32 → Prop) (h : wp_X11_contains p1 p2 Q) : kCi l D (tyL kc) yX11_contains wsX11_contains ({ frames := 0, cells := 0, slots := 0, locals := 0 } : Room) [.int p1, .int p2] ([] : va_W) (fun _ : Unit => ([] : va_W)) 0 0 (fun r _ => Q r) := by
  intro sz
  refine k_begin (cc := cX11_contains) (maxL := 2) (ret := (some .boolean)) (by decide +kernel) rfl rfl (fun p e s m args below meth c hsz E G ls hl => ?_)
  subst hsz
  have hl : lv_has ls 2 [(0, .int p1), (1, .int p2)] := hl
  refine lv_iload_n E.ex E.by dX11_contains_0 rfl (lv_at hl 1 rfl) ?_
  refine lv_if_lt (tgt := 23) E.ex E.by dX11_contains_1 (by decide) (fun hc3 => ?_) (fun hc3 => ?_)
  · have h := h.1 hc3
    refine lv_iconst (v := 0) E.ex E.by dX11_contains_23 (by decide) ?_
    exact k_ret (wof := (fun _ : Unit => ([] : va_W))) (u := ()) E G rfl h (Nat.le_of_ble_eq_true rfl) (Nat.le_of_ble_eq_true rfl) dX11_contains_24
  · have h := h.2 hc3
    refine lv_iload_n E.ex E.by dX11_contains_4 rfl (lv_at hl 1 rfl) ?_
    refine lv_bipush (v := 8) E.ex E.by dX11_contains_5 (by decide) ?_
    refine lv_icmp_ge (tgt := 23) E.ex E.by dX11_contains_7 (by decide) (fun hc2 => ?_) (fun hc2 => ?_)
    · have h := h.1 hc2
      refine lv_iconst (v := 0) E.ex E.by dX11_contains_23 (by decide) ?_
      exact k_ret (wof := (fun _ : Unit => ([] : va_W))) (u := ()) E G rfl h (Nat.le_of_ble_eq_true rfl) (Nat.le_of_ble_eq_true rfl) dX11_contains_24
    · have h := h.2 hc2
      refine lv_iload_n E.ex E.by dX11_contains_10 rfl (lv_at hl 0 rfl) ?_
      refine lv_iload_n E.ex E.by dX11_contains_11 rfl (lv_at hl 1 rfl) ?_
      refine lv_ishr E.ex E.by dX11_contains_12 ?_
      refine lv_iconst (v := 1) E.ex E.by dX11_contains_13 (by decide) ?_
      refine lv_iand E.ex E.by dX11_contains_14 ?_
      refine lv_iconst (v := 1) E.ex E.by dX11_contains_15 (by decide) ?_
      refine lv_icmp_ne (tgt := 23) E.ex E.by dX11_contains_16 (by decide) (fun hc1 => ?_) (fun hc1 => ?_)
      · have h := h.1 hc1
        refine lv_iconst (v := 0) E.ex E.by dX11_contains_23 (by decide) ?_
        exact k_ret (wof := (fun _ : Unit => ([] : va_W))) (u := ()) E G rfl h (Nat.le_of_ble_eq_true rfl) (Nat.le_of_ble_eq_true rfl) dX11_contains_24
      · have h := h.2 hc1
        refine lv_iconst (v := 1) E.ex E.by dX11_contains_19 (by decide) ?_
        refine lv_goto (tgt := 24) E.ex E.by dX11_contains_20 (by decide) ?_
        exact k_ret (wof := (fun _ : Unit => ([] : va_W))) (u := ()) E G rfl h (Nat.le_of_ble_eq_true rfl) (Nat.le_of_ble_eq_true rfl) dX11_contains_24
def wp_X11_isIndex (p1 : Int32) (Q : Int32 → Prop) : Prop := (p1 < 0 → Q 0) ∧ (¬ p1 < 0 → (8 ≤ p1 → Q 0) ∧ (¬ 8 ≤ p1 → Q 1))
set_option maxRecDepth 100000 in
set_option maxHeartbeats 4000000 in
theorem c_X11_isIndex (l : Launch) (D : va_G) (kc : Nat → ClassId)  (p1 : Int32) (Q : Int32 → Prop) (h : wp_X11_isIndex p1 Q) : kCi l D (tyL kc) yX11_isIndex wsX11_isIndex ({ frames := 0, cells := 0, slots := 0, locals := 0 } : Room) [.int p1] ([] : va_W) (fun _ : Unit => ([] : va_W)) 0 0 (fun r _ => Q r) := by
  intro sz
  refine k_begin (cc := cX11_isIndex) (maxL := 1) (ret := (some .boolean)) (by decide +kernel) rfl rfl (fun p e s m args below meth c hsz E G ls hl => ?_)
  subst hsz
  have hl : lv_has ls 1 [(0, .int p1)] := hl
  refine lv_iload_n E.ex E.by dX11_isIndex_0 rfl (lv_at hl 0 rfl) ?_
  refine lv_if_lt (tgt := 14) E.ex E.by dX11_isIndex_1 (by decide) (fun hc2 => ?_) (fun hc2 => ?_)
  · have h := h.1 hc2
    refine lv_iconst (v := 0) E.ex E.by dX11_isIndex_14 (by decide) ?_
    exact k_ret (wof := (fun _ : Unit => ([] : va_W))) (u := ()) E G rfl h (Nat.le_of_ble_eq_true rfl) (Nat.le_of_ble_eq_true rfl) dX11_isIndex_15
  · have h := h.2 hc2
    refine lv_iload_n E.ex E.by dX11_isIndex_4 rfl (lv_at hl 0 rfl) ?_
    refine lv_bipush (v := 8) E.ex E.by dX11_isIndex_5 (by decide) ?_
    refine lv_icmp_ge (tgt := 14) E.ex E.by dX11_isIndex_7 (by decide) (fun hc1 => ?_) (fun hc1 => ?_)
    · have h := h.1 hc1
      refine lv_iconst (v := 0) E.ex E.by dX11_isIndex_14 (by decide) ?_
      exact k_ret (wof := (fun _ : Unit => ([] : va_W))) (u := ()) E G rfl h (Nat.le_of_ble_eq_true rfl) (Nat.le_of_ble_eq_true rfl) dX11_isIndex_15
    · have h := h.2 hc1
      refine lv_iconst (v := 1) E.ex E.by dX11_isIndex_10 (by decide) ?_
      refine lv_goto (tgt := 15) E.ex E.by dX11_isIndex_11 (by decide) ?_
      exact k_ret (wof := (fun _ : Unit => ([] : va_W))) (u := ()) E G rfl h (Nat.le_of_ble_eq_true rfl) (Nat.le_of_ble_eq_true rfl) dX11_isIndex_15
def wp_X11_commonDivisor_J45 (v4 : Int64) (Q : Int64 → Prop) : Prop := ((lg_cmp v4 0) ≤ 0 → Q 1) ∧ (¬ (lg_cmp v4 0) ≤ 0 → Q v4)
def wp_X11_commonDivisor_L9 (Q : Int64 → Prop) (P9 : (Int64 × Int64 × Int32) → Prop) (t9 : Int64 × Int64 × Int32) : Prop := (128 ≤ t9.2.2 → wp_X11_commonDivisor_J45 t9.1 Q) ∧ (¬ 128 ≤ t9.2.2 → ((lg_cmp t9.2.1 0) = 0 → wp_X11_commonDivisor_J45 t9.1 Q) ∧ (¬ (lg_cmp t9.2.1 0) = 0 → (¬ t9.2.1 = (0 : Int64)) ∧ (∀ x2 : Int64, x2 = t9.1 - t9.1 / t9.2.1 * t9.2.1 → P9 (t9.2.1, x2, t9.2.2 + 1))))
def wp_X11_commonDivisor (p1 : Int64) (p2 : Int64) (Q : Int64 → Prop) : Prop := lpW (wp_X11_commonDivisor_L9 Q) (p1, p2, 0)
set_option maxRecDepth 100000 in
set_option maxHeartbeats 4000000 in
theorem c_X11_commonDivisor (l : Launch) (D : va_G) (kc : Nat → ClassId)  (p1 : Int64) (p2 : Int64) (Q : Int64 → Prop) (h : wp_X11_commonDivisor p1 p2 Q) : kCl l D (tyL kc) yX11_commonDivisor wsX11_commonDivisor ({ frames := 0, cells := 0, slots := 0, locals := 0 } : Room) [.long p1, .long p2] ([] : va_W) (fun _ : Unit => ([] : va_W)) 0 0 (fun r _ => Q r) := by
  intro sz
  refine k_begin (cc := cX11_commonDivisor) (maxL := 11) (ret := (some .long)) (by decide +kernel) rfl rfl (fun p e s m args below meth c hsz E G ls hl => ?_)
  subst hsz
  have hl : lv_has ls 11 [(0, .long p1), (2, .long p2)] := hl
  have K45 : ∀ (v4 : Int64) (H : Heap) (locs : List Loc) (ls : Array Slot), kG D (va_A ([] : va_W) s.heap.size) s ([] : va_W) H locs → lv_has ls 11 [(4, .long v4)] → wp_X11_commonDivisor_J45 v4 Q → W p l e ({ frames := 0, cells := 0, slots := 0, locals := 0 } : Room) s m args below meth c H locs 0 0 (MQ below (va_Ql (fun r _ => Q r) (kB D ([] : va_W) s.heap.size (fun _ : Unit => ([] : va_W))) (va_A ([] : va_W) s.heap.size)) args s 0 0 (va_A ([] : va_W) s.heap.size)) (F0 m 45 ls []) := by
    intro v4 H locs ls G hl h
    refine lv_lload E.ex E.by dX11_commonDivisor_45 (lv_at hl 0 rfl) ?_
    refine lv_lconst (v := 0) E.ex E.by dX11_commonDivisor_47 (by decide) ?_
    refine W.lcmp E.ex E.by dX11_commonDivisor_48 ?_
    refine lv_if_le (tgt := 57) E.ex E.by dX11_commonDivisor_49 (by decide) (fun hc5 => ?_) (fun hc5 => ?_)
    · have h := h.1 hc5
      refine lv_lconst (v := 1) E.ex E.by dX11_commonDivisor_57 (by decide) ?_
      exact k_retl (wof := (fun _ : Unit => ([] : va_W))) (u := ()) E G h (Nat.le_of_ble_eq_true rfl) (Nat.le_of_ble_eq_true rfl) dX11_commonDivisor_58
    · have h := h.2 hc5
      refine lv_lload E.ex E.by dX11_commonDivisor_52 (lv_at hl 0 rfl) ?_
      refine lv_goto (tgt := 58) E.ex E.by dX11_commonDivisor_54 (by decide) ?_
      exact k_retl (wof := (fun _ : Unit => ([] : va_W))) (u := ()) E G h (Nat.le_of_ble_eq_true rfl) (Nat.le_of_ble_eq_true rfl) dX11_commonDivisor_58
  refine lv_lload_n E.ex E.by dX11_commonDivisor_0 rfl (lv_at hl 0 rfl) ?_
  refine lv_lstore (lv' := [(4, .long p1), (0, .long p1), (2, .long p2)]) E.ex E.by dX11_commonDivisor_1 hl (by decide) rfl (fun ls hl => ?_)
  refine lv_lload_n E.ex E.by dX11_commonDivisor_3 rfl (lv_at hl 2 rfl) ?_
  refine lv_lstore (lv' := [(6, .long p2), (4, .long p1), (0, .long p1), (2, .long p2)]) E.ex E.by dX11_commonDivisor_4 hl (by decide) rfl (fun ls hl => ?_)
  refine lv_iconst (v := 0) E.ex E.by dX11_commonDivisor_6 (by decide) ?_
  refine lv_istore (lv' := [(8, .int 0), (6, .long p2), (4, .long p1), (0, .long p1), (2, .long p2)]) E.ex E.by dX11_commonDivisor_7 hl (by decide) rfl (fun ls hl => ?_)
  refine lpW_ind (fun t1 : Int64 × Int64 × Int32 => ∀ (H : Heap) (locs : List Loc) (ls : Array Slot), kG D (va_A ([] : va_W) s.heap.size) s ([] : va_W) H locs → lv_has ls 11 [(4, .long t1.1), (6, .long t1.2.1), (8, .int t1.2.2)] → W p l e _ s m args below meth c H locs _ _ _ (F0 m 9 ls [])) (fun P9 IH9 t1 h H locs ls G hl => ?_) _ h _ _ _ G (lv_sub hl [2, 1, 0] rfl)
  refine lv_iload E.ex E.by dX11_commonDivisor_9 (lv_at hl 2 rfl) ?_
  refine lv_sipush (v := 128) E.ex E.by dX11_commonDivisor_11 (by decide) ?_
  refine lv_icmp_ge (tgt := 45) E.ex E.by dX11_commonDivisor_14 (by decide) (fun hc4 => ?_) (fun hc4 => ?_)
  · have h := h.1 hc4
    exact K45 _ _ _ _ G (lv_sub hl [0] rfl) h
  · have h := h.2 hc4
    refine lv_lload E.ex E.by dX11_commonDivisor_17 (lv_at hl 1 rfl) ?_
    refine lv_lconst (v := 0) E.ex E.by dX11_commonDivisor_19 (by decide) ?_
    refine W.lcmp E.ex E.by dX11_commonDivisor_20 ?_
    refine lv_if_eq (tgt := 45) E.ex E.by dX11_commonDivisor_21 (by decide) (fun hc3 => ?_) (fun hc3 => ?_)
    · have h := h.1 hc3
      exact K45 _ _ _ _ G (lv_sub hl [0] rfl) h
    · have h := h.2 hc3
      refine lv_lload E.ex E.by dX11_commonDivisor_24 (lv_at hl 0 rfl) ?_
      refine lv_lload E.ex E.by dX11_commonDivisor_26 (lv_at hl 1 rfl) ?_
      refine lv_lrem E.ex E.by dX11_commonDivisor_28 h.1 ?_
      have h := h.2
      refine lv_topl (fun x2 ex2 => ?_)
      have h := h x2 ex2
      refine lv_lstore (lv' := [(9, .long x2), (4, .long t1.1), (6, .long t1.2.1), (8, .int t1.2.2)]) E.ex E.by dX11_commonDivisor_29 hl (by decide) rfl (fun ls hl => ?_)
      refine lv_lload E.ex E.by dX11_commonDivisor_31 (lv_at hl 2 rfl) ?_
      refine lv_lstore (lv' := [(4, .long t1.2.1), (9, .long x2), (6, .long t1.2.1), (8, .int t1.2.2)]) E.ex E.by dX11_commonDivisor_33 hl (by decide) rfl (fun ls hl => ?_)
      refine lv_lload E.ex E.by dX11_commonDivisor_35 (lv_at hl 1 rfl) ?_
      refine lv_lstore (lv' := [(6, .long x2), (4, .long t1.2.1), (9, .long x2), (8, .int t1.2.2)]) E.ex E.by dX11_commonDivisor_37 hl (by decide) rfl (fun ls hl => ?_)
      refine lv_iinc (k := 3) (v := t1.2.2 + 1) (lv' := [(8, .int (t1.2.2 + 1)), (6, .long x2), (4, .long t1.2.1), (9, .long x2)]) E.ex E.by dX11_commonDivisor_39 hl rfl (k_inc1 _) (by decide) rfl (fun ls hl => ?_)
      refine lv_goto (tgt := 9) E.ex E.by dX11_commonDivisor_42 (by decide) ?_
      exact IH9 _ h _ _ _ G (lv_sub hl [2, 1, 0] rfl)
theorem hd_X11_commonDivisor_v : yX11_commonDivisor.cls = RX11 ∧ yX11_commonDivisor.cls ≠ "java/lang/invoke/MethodHandle" ∧ yX11_commonDivisor.cls ≠ "java/lang/invoke/VarHandle" ∧ (parseMethodDescriptor yX11_commonDivisor.desc).map (fun d => d.parameters.length) = some 2 := by decide +kernel
def wp_X11_commonMultiple (p1 : Int64) (p2 : Int64) (Q : Int64 → Prop) : Prop := wp_X11_commonDivisor p1 p2 (fun (r1 : Int64) => (¬ (lg_cmp r1 0) = 0 → (¬ r1 = (0 : Int64)) ∧ (Q ((p1 / r1) * p2))) ∧ ((lg_cmp r1 0) = 0 → Q 0))
set_option maxRecDepth 100000 in
set_option maxHeartbeats 4000000 in
theorem c_X11_commonMultiple (l : Launch) (D : va_G) (kc : Nat → ClassId)  (p1 : Int64) (p2 : Int64) (Q : Int64 → Prop) (h : wp_X11_commonMultiple p1 p2 Q) : kCl l D (tyL kc) yX11_commonMultiple wsX11_commonMultiple ({ frames := 1, cells := 0, slots := 0, locals := 30 } : Room) [.long p1, .long p2] ([] : va_W) (fun _ : Unit => ([] : va_W)) 0 0 (fun r _ => Q r) := by
  intro sz
  refine k_begin (cc := cX11_commonMultiple) (maxL := 6) (ret := (some .long)) (by decide +kernel) rfl rfl (fun p e s m args below meth c hsz E G ls hl => ?_)
  subst hsz
  have hl : lv_has ls 6 [(0, .long p1), (2, .long p2)] := hl
  refine lv_lload_n E.ex E.by dX11_commonMultiple_0 rfl (lv_at hl 0 rfl) ?_
  refine lv_lload_n E.ex E.by dX11_commonMultiple_1 rfl (lv_at hl 1 rfl) ?_
  refine k_cSl (X := ([] : va_W)) (w := []) (Z := []) (wnew := (fun _ : Unit => ([] : va_W))) (As := [.long p1, .long p2]) (rest := []) E (List.append_nil _).symm G (c_X11_commonDivisor l D kc _ _ _ h) gX11_commonMultiple_X11_commonDivisor rfl ⟨rfl, rfl⟩ hd_X11_commonDivisor_v ⟨rfl, rfl⟩ rfl hl rfl rfl dX11_commonMultiple_2 ⟨rfl, rfl⟩ (fun _ => (List.append_nil _).symm) (fun r1 _u2 hq H locs G => ?_)
  have h := hq
  refine lv_lstore (lv' := [(4, .long r1), (0, .long p1), (2, .long p2)]) E.ex E.by dX11_commonMultiple_5 hl (by decide) rfl (fun ls hl => ?_)
  refine lv_lload E.ex E.by dX11_commonMultiple_7 (lv_at hl 0 rfl) ?_
  refine lv_lconst (v := 0) E.ex E.by dX11_commonMultiple_9 (by decide) ?_
  refine W.lcmp E.ex E.by dX11_commonMultiple_10 ?_
  refine lv_if_ne (tgt := 18) E.ex E.by dX11_commonMultiple_11 (by decide) (fun hc2 => ?_) (fun hc2 => ?_)
  · have h := h.1 hc2
    refine lv_lload_n E.ex E.by dX11_commonMultiple_18 rfl (lv_at hl 1 rfl) ?_
    refine lv_lload E.ex E.by dX11_commonMultiple_19 (lv_at hl 0 rfl) ?_
    refine lv_ldiv E.ex E.by dX11_commonMultiple_21 h.1 ?_
    have h := h.2
    refine lv_lload_n E.ex E.by dX11_commonMultiple_22 rfl (lv_at hl 2 rfl) ?_
    refine lv_lmul E.ex E.by dX11_commonMultiple_23 ?_
    exact k_retl (wof := (fun _ : Unit => ([] : va_W))) (u := ()) E G h (Nat.le_of_ble_eq_true rfl) (Nat.le_of_ble_eq_true rfl) dX11_commonMultiple_24
  · have h := h.2 hc2
    refine lv_lconst (v := 0) E.ex E.by dX11_commonMultiple_14 (by decide) ?_
    refine lv_goto (tgt := 24) E.ex E.by dX11_commonMultiple_15 (by decide) ?_
    exact k_retl (wof := (fun _ : Unit => ([] : va_W))) (u := ()) E G h (Nat.le_of_ble_eq_true rfl) (Nat.le_of_ble_eq_true rfl) dX11_commonMultiple_24
theorem wi_X1_admits_X1 : ∀ w ∈ wsX10, w ∈ wsX1_admits := fun w h => List.mem_cons_of_mem _ (List.mem_append_right _ (h))
theorem fl_X1_admits_X1_3 : Cond.fieldLink RX1 20 (TX1 3).1 (TX1 3).2.1 (TX1 3).2.2.1 ∈ wsX1_admits := List.mem_of_getElem? (i := 1) (by decide +kernel)
theorem fl_X1_admits_X1_2 : Cond.fieldLink RX1 16 (TX1 2).1 (TX1 2).2.1 (TX1 2).2.2.1 ∈ wsX1_admits := List.mem_of_getElem? (i := 2) (by decide +kernel)
theorem fl_X1_admits_X1_0 : Cond.fieldLink RX1 7 (TX1 0).1 (TX1 0).2.1 (TX1 0).2.2.1 ∈ wsX1_admits := List.mem_of_getElem? (i := 4) (by decide +kernel)
theorem fl_X1_admits_X1_1 : Cond.fieldLink RX1 13 (TX1 1).1 (TX1 1).2.1 (TX1 1).2.2.1 ∈ wsX1_admits := List.mem_of_getElem? (i := 3) (by decide +kernel)
def wp_X1_admits (p1 : Int64) (p2 : Int64) (β : US) (Q : Int32 → Prop) : Prop := ∀ x1 : Int64, x1 = p1 * ((iI β 3).toInt64) → ∀ x2 : Int64, x2 = p2 * ((iI β 2).toInt64) → (¬ (lg_cmp x1 x2) = 0 → ((iI β 0) = 0 → ((lg_cmp x1 x2) ≤ 0 → Q 0) ∧ (¬ (lg_cmp x1 x2) ≤ 0 → Q 1)) ∧ (¬ (iI β 0) = 0 → (0 ≤ (lg_cmp x1 x2) → Q 0) ∧ (¬ 0 ≤ (lg_cmp x1 x2) → Q 1))) ∧ ((lg_cmp x1 x2) = 0 → kbo (iI β 1) ∧ Q (iI β 1))
set_option maxRecDepth 100000 in
set_option maxHeartbeats 4000000 in
theorem c_X1_admits (l : Launch) (D : va_G) (kc : Nat → ClassId) (ax : Nat → Nat) (p1 : Int64) (p2 : Int64) (β : US) (Q : Int32 → Prop) (h : wp_X1_admits p1 p2 β Q) : kCi l D (tyL kc) yX1_admits wsX1_admits ({ frames := 0, cells := 0, slots := 0, locals := 0 } : Room) [.ref (ax 0), .long p1, .long p2] (wBd kc ax β) (fun _ : Unit => (wBd kc ax β)) 0 0 (fun r _ => Q r) := by
  intro sz
  refine k_begin (cc := cX1_admits) (maxL := 9) (ret := (some .boolean)) (by decide +kernel) rfl rfl (fun p e s m args below meth c hsz E G ls hl => ?_)
  subst hsz
  have hl : lv_has ls 9 [(0, .ref (ax 0)), (1, .long p1), (3, .long p2)] := hl
  refine lv_lload_n E.ex E.by dX1_admits_0 rfl (lv_at hl 1 rfl) ?_
  refine lv_aload_n E.ex E.by dX1_admits_1 rfl (lv_at hl 0 rfl) ?_
  refine k_get E G wi_X1_admits_X1 0 (gBd_0 _ _ _) rfl 3 rfl fl_X1_admits_X1_3 (v := .int (iI β 3)) rfl dX1_admits_2 ?_
  refine lv_i2l E.ex E.by dX1_admits_5 rfl ?_
  refine lv_lmul E.ex E.by dX1_admits_6 ?_
  refine lv_topl (fun x1 ex1 => ?_)
  have h := h x1 ex1
  refine lv_lstore (lv' := [(5, .long x1), (0, .ref (ax 0)), (1, .long p1), (3, .long p2)]) E.ex E.by dX1_admits_7 hl (by decide) rfl (fun ls hl => ?_)
  refine lv_lload_n E.ex E.by dX1_admits_9 rfl (lv_at hl 3 rfl) ?_
  refine lv_aload_n E.ex E.by dX1_admits_10 rfl (lv_at hl 1 rfl) ?_
  refine k_get E G wi_X1_admits_X1 0 (gBd_0 _ _ _) rfl 2 rfl fl_X1_admits_X1_2 (v := .int (iI β 2)) rfl dX1_admits_11 ?_
  refine lv_i2l E.ex E.by dX1_admits_14 rfl ?_
  refine lv_lmul E.ex E.by dX1_admits_15 ?_
  refine lv_topl (fun x2 ex2 => ?_)
  have h := h x2 ex2
  refine lv_lstore (lv' := [(7, .long x2), (5, .long x1), (0, .ref (ax 0)), (1, .long p1), (3, .long p2)]) E.ex E.by dX1_admits_16 hl (by decide) rfl (fun ls hl => ?_)
  refine lv_lload E.ex E.by dX1_admits_18 (lv_at hl 1 rfl) ?_
  refine lv_lload E.ex E.by dX1_admits_20 (lv_at hl 0 rfl) ?_
  refine W.lcmp E.ex E.by dX1_admits_22 ?_
  refine lv_if_ne (tgt := 31) E.ex E.by dX1_admits_23 (by decide) (fun hc6 => ?_) (fun hc6 => ?_)
  · have h := h.1 hc6
    refine lv_aload_n E.ex E.by dX1_admits_31 rfl (lv_at hl 2 rfl) ?_
    refine k_get E G wi_X1_admits_X1 0 (gBd_0 _ _ _) rfl 0 rfl fl_X1_admits_X1_0 (v := .int (iI β 0)) rfl dX1_admits_32 ?_
    refine lv_if_eq (tgt := 54) E.ex E.by dX1_admits_35 (by decide) (fun hc5 => ?_) (fun hc5 => ?_)
    · have h := h.1 hc5
      refine lv_lload E.ex E.by dX1_admits_54 (lv_at hl 1 rfl) ?_
      refine lv_lload E.ex E.by dX1_admits_56 (lv_at hl 0 rfl) ?_
      refine W.lcmp E.ex E.by dX1_admits_58 ?_
      refine lv_if_le (tgt := 66) E.ex E.by dX1_admits_59 (by decide) (fun hc3 => ?_) (fun hc3 => ?_)
      · have h := h.1 hc3
        refine lv_iconst (v := 0) E.ex E.by dX1_admits_66 (by decide) ?_
        exact k_ret (wof := (fun _ : Unit => (wBd kc ax β))) (u := ()) E G rfl h (Nat.le_of_ble_eq_true rfl) (Nat.le_of_ble_eq_true rfl) dX1_admits_67
      · have h := h.2 hc3
        refine lv_iconst (v := 1) E.ex E.by dX1_admits_62 (by decide) ?_
        refine lv_goto (tgt := 67) E.ex E.by dX1_admits_63 (by decide) ?_
        exact k_ret (wof := (fun _ : Unit => (wBd kc ax β))) (u := ()) E G rfl h (Nat.le_of_ble_eq_true rfl) (Nat.le_of_ble_eq_true rfl) dX1_admits_67
    · have h := h.2 hc5
      refine lv_lload E.ex E.by dX1_admits_38 (lv_at hl 1 rfl) ?_
      refine lv_lload E.ex E.by dX1_admits_40 (lv_at hl 0 rfl) ?_
      refine W.lcmp E.ex E.by dX1_admits_42 ?_
      refine lv_if_ge (tgt := 50) E.ex E.by dX1_admits_43 (by decide) (fun hc4 => ?_) (fun hc4 => ?_)
      · have h := h.1 hc4
        refine lv_iconst (v := 0) E.ex E.by dX1_admits_50 (by decide) ?_
        refine lv_goto (tgt := 67) E.ex E.by dX1_admits_51 (by decide) ?_
        exact k_ret (wof := (fun _ : Unit => (wBd kc ax β))) (u := ()) E G rfl h (Nat.le_of_ble_eq_true rfl) (Nat.le_of_ble_eq_true rfl) dX1_admits_67
      · have h := h.2 hc4
        refine lv_iconst (v := 1) E.ex E.by dX1_admits_46 (by decide) ?_
        refine lv_goto (tgt := 67) E.ex E.by dX1_admits_47 (by decide) ?_
        exact k_ret (wof := (fun _ : Unit => (wBd kc ax β))) (u := ()) E G rfl h (Nat.le_of_ble_eq_true rfl) (Nat.le_of_ble_eq_true rfl) dX1_admits_67
  · have h := h.2 hc6
    refine lv_aload_n E.ex E.by dX1_admits_26 rfl (lv_at hl 2 rfl) ?_
    refine k_get E G wi_X1_admits_X1 0 (gBd_0 _ _ _) rfl 1 rfl fl_X1_admits_X1_1 (v := .int (iI β 1)) rfl dX1_admits_27 ?_
    exact k_ret (wof := (fun _ : Unit => (wBd kc ax β))) (u := ()) E G h.1 h.2 (Nat.le_of_ble_eq_true rfl) (Nat.le_of_ble_eq_true rfl) dX1_admits_30
theorem wi_X2_weightOf_X2 : ∀ w ∈ wsX20, w ∈ wsX2_weightOf := fun w h => List.mem_cons_of_mem _ (List.mem_append_right _ (h))
theorem fl_X2_weightOf_X2_0 : Cond.fieldLink RX2 9 (TX2 0).1 (TX2 0).2.1 (TX2 0).2.2.1 ∈ wsX2_weightOf := List.mem_of_getElem? (i := 1) (by decide +kernel)
def wp_X2_weightOf (p1 : Int32) (p2 : Int32) (κ : US) (Q : Int32 → Prop) : Prop := ∀ x1 : Int32, x1 = (p1 * 8) + p2 → (p2 < 0 → Q 0) ∧ (¬ p2 < 0 → (8 ≤ p2 → Q 0) ∧ (¬ 8 ≤ p2 → (x1 < 0 → Q 0) ∧ (¬ x1 < 0 → (64 ≤ x1 → Q 0) ∧ (¬ 64 ≤ x1 → vp_in x1 64 ∧ (Q (aA κ 0 (x1).toNatClampNeg))))))
set_option maxRecDepth 100000 in
set_option maxHeartbeats 4000000 in
theorem c_X2_weightOf (l : Launch) (D : va_G) (kc : Nat → ClassId) (ac : Nat → Nat) (p1 : Int32) (p2 : Int32) (κ : US) (Q : Int32 → Prop) (h : wp_X2_weightOf p1 p2 κ Q) : kCi l D (tyL kc) yX2_weightOf wsX2_weightOf ({ frames := 0, cells := 0, slots := 0, locals := 0 } : Room) [.ref (ac 0), .int p1, .int p2] (wC kc ac κ) (fun _ : Unit => (wC kc ac κ)) 0 0 (fun r _ => Q r) := by
  intro sz
  refine k_begin (cc := cX2_weightOf) (maxL := 4) (ret := (some .int)) (by decide +kernel) rfl rfl (fun p e s m args below meth c hsz E G ls hl => ?_)
  subst hsz
  have hl : lv_has ls 4 [(0, .ref (ac 0)), (1, .int p1), (2, .int p2)] := hl
  refine lv_iload_n E.ex E.by dX2_weightOf_0 rfl (lv_at hl 1 rfl) ?_
  refine lv_bipush (v := 8) E.ex E.by dX2_weightOf_1 (by decide) ?_
  refine lv_imul E.ex E.by dX2_weightOf_3 ?_
  refine lv_iload_n E.ex E.by dX2_weightOf_4 rfl (lv_at hl 2 rfl) ?_
  refine lv_iadd E.ex E.by dX2_weightOf_5 ?_
  refine lv_topi (fun x1 ex1 => ?_)
  have h := h x1 ex1
  refine lv_istore_n (lv' := [(3, .int x1), (0, .ref (ac 0)), (1, .int p1), (2, .int p2)]) E.ex E.by dX2_weightOf_6 rfl hl (by decide) rfl (fun ls hl => ?_)
  refine lv_iload_n E.ex E.by dX2_weightOf_7 rfl (lv_at hl 3 rfl) ?_
  refine lv_if_lt (tgt := 39) E.ex E.by dX2_weightOf_8 (by decide) (fun hc5 => ?_) (fun hc5 => ?_)
  · have h := h.1 hc5
    refine lv_iconst (v := 0) E.ex E.by dX2_weightOf_39 (by decide) ?_
    exact k_ret (wof := (fun _ : Unit => (wC kc ac κ))) (u := ()) E G rfl h (Nat.le_of_ble_eq_true rfl) (Nat.le_of_ble_eq_true rfl) dX2_weightOf_40
  · have h := h.2 hc5
    refine lv_iload_n E.ex E.by dX2_weightOf_11 rfl (lv_at hl 3 rfl) ?_
    refine lv_bipush (v := 8) E.ex E.by dX2_weightOf_12 (by decide) ?_
    refine lv_icmp_ge (tgt := 39) E.ex E.by dX2_weightOf_14 (by decide) (fun hc4 => ?_) (fun hc4 => ?_)
    · have h := h.1 hc4
      refine lv_iconst (v := 0) E.ex E.by dX2_weightOf_39 (by decide) ?_
      exact k_ret (wof := (fun _ : Unit => (wC kc ac κ))) (u := ()) E G rfl h (Nat.le_of_ble_eq_true rfl) (Nat.le_of_ble_eq_true rfl) dX2_weightOf_40
    · have h := h.2 hc4
      refine lv_iload_n E.ex E.by dX2_weightOf_17 rfl (lv_at hl 0 rfl) ?_
      refine lv_if_lt (tgt := 39) E.ex E.by dX2_weightOf_18 (by decide) (fun hc3 => ?_) (fun hc3 => ?_)
      · have h := h.1 hc3
        refine lv_iconst (v := 0) E.ex E.by dX2_weightOf_39 (by decide) ?_
        exact k_ret (wof := (fun _ : Unit => (wC kc ac κ))) (u := ()) E G rfl h (Nat.le_of_ble_eq_true rfl) (Nat.le_of_ble_eq_true rfl) dX2_weightOf_40
      · have h := h.2 hc3
        refine lv_iload_n E.ex E.by dX2_weightOf_21 rfl (lv_at hl 0 rfl) ?_
        refine lv_aload_n E.ex E.by dX2_weightOf_22 rfl (lv_at hl 1 rfl) ?_
        refine k_get E G wi_X2_weightOf_X2 0 (gC_0 _ _ _) rfl 0 rfl fl_X2_weightOf_X2_0 (v := .ref (ac 1)) rfl dX2_weightOf_23 ?_
        refine va_alen E.ex E.by E.k G.1 1 0 (gC_1 _ _ _) rfl (v := 64) rfl dX2_weightOf_26 ?_
        refine lv_icmp_ge (tgt := 39) E.ex E.by dX2_weightOf_27 (by decide) (fun hc2 => ?_) (fun hc2 => ?_)
        · have h := h.1 hc2
          refine lv_iconst (v := 0) E.ex E.by dX2_weightOf_39 (by decide) ?_
          exact k_ret (wof := (fun _ : Unit => (wC kc ac κ))) (u := ()) E G rfl h (Nat.le_of_ble_eq_true rfl) (Nat.le_of_ble_eq_true rfl) dX2_weightOf_40
        · have h := h.2 hc2
          refine lv_aload_n E.ex E.by dX2_weightOf_30 rfl (lv_at hl 1 rfl) ?_
          refine k_get E G wi_X2_weightOf_X2 0 (gC_0 _ _ _) rfl 0 rfl fl_X2_weightOf_X2_0 (v := .ref (ac 1)) rfl dX2_weightOf_31 ?_
          refine lv_iload_n E.ex E.by dX2_weightOf_34 rfl (lv_at hl 0 rfl) ?_
          refine k_iald E G 1 (gC_1 _ _ _) 0 rfl h.1 dX2_weightOf_35 ?_
          have h := h.2
          refine lv_goto (tgt := 40) E.ex E.by dX2_weightOf_36 (by decide) ?_
          exact k_ret (wof := (fun _ : Unit => (wC kc ac κ))) (u := ()) E G rfl h (Nat.le_of_ble_eq_true rfl) (Nat.le_of_ble_eq_true rfl) dX2_weightOf_40
theorem wi_X2_sumOf_X2 : ∀ w ∈ wsX20, w ∈ wsX2_sumOf := fun w h => List.mem_cons_of_mem _ (List.mem_append_right _ (h))
theorem fl_X2_sumOf_X2_3 : Cond.fieldLink RX2 21 (TX2 3).1 (TX2 3).2.1 (TX2 3).2.2.1 ∈ wsX2_sumOf := List.mem_of_getElem? (i := 1) (by decide +kernel)
theorem hd_X2_weightOf_v : yX2_weightOf.cls = RX2 ∧ yX2_weightOf.cls ≠ "java/lang/invoke/MethodHandle" ∧ yX2_weightOf.cls ≠ "java/lang/invoke/VarHandle" ∧ (parseMethodDescriptor yX2_weightOf.desc).map (fun d => d.parameters.length) = some 2 := by decide +kernel
def wp_X2_sumOf_L4 (v1 : Int32) (κ : US) (Q : Int32 → Prop) (P4 : (Int32 × Int32) → Prop) (t4 : Int32 × Int32) : Prop := ((iI κ 0) ≤ t4.2 → Q t4.1) ∧ (¬ (iI κ 0) ≤ t4.2 → wp_X2_weightOf v1 t4.2 κ (fun (r1 : Int32) => ∀ x2 : Int32, x2 = t4.1 + r1 → P4 (x2, t4.2 + 1)))
def wp_X2_sumOf (p1 : Int32) (κ : US) (Q : Int32 → Prop) : Prop := lpW (wp_X2_sumOf_L4 p1 κ Q) (0, 0)
set_option maxRecDepth 100000 in
set_option maxHeartbeats 4000000 in
theorem c_X2_sumOf (l : Launch) (D : va_G) (kc : Nat → ClassId) (ac : Nat → Nat) (p1 : Int32) (κ : US) (Q : Int32 → Prop) (h : wp_X2_sumOf p1 κ Q) : kCi l D (tyL kc) yX2_sumOf wsX2_sumOf ({ frames := 1, cells := 0, slots := 0, locals := 23 } : Room) [.ref (ac 0), .int p1] (wC kc ac κ) (fun _ : Unit => (wC kc ac κ)) 0 0 (fun r _ => Q r) := by
  intro sz
  refine k_begin (cc := cX2_sumOf) (maxL := 4) (ret := (some .int)) (by decide +kernel) rfl rfl (fun p e s m args below meth c hsz E G ls hl => ?_)
  subst hsz
  have hl : lv_has ls 4 [(0, .ref (ac 0)), (1, .int p1)] := hl
  refine lv_iconst (v := 0) E.ex E.by dX2_sumOf_0 (by decide) ?_
  refine lv_istore_n (lv' := [(2, .int 0), (0, .ref (ac 0)), (1, .int p1)]) E.ex E.by dX2_sumOf_1 rfl hl (by decide) rfl (fun ls hl => ?_)
  refine lv_iconst (v := 0) E.ex E.by dX2_sumOf_2 (by decide) ?_
  refine lv_istore_n (lv' := [(3, .int 0), (2, .int 0), (0, .ref (ac 0)), (1, .int p1)]) E.ex E.by dX2_sumOf_3 rfl hl (by decide) rfl (fun ls hl => ?_)
  refine lpW_ind (fun t1 : Int32 × Int32 => ∀ (H : Heap) (locs : List Loc) (ls : Array Slot), kG D (va_A (wC kc ac κ) s.heap.size) s (wC kc ac κ) H locs → lv_has ls 4 [(0, .ref (ac 0)), (1, .int p1), (2, .int t1.1), (3, .int t1.2)] → W p l e _ s m args below meth c H locs _ _ _ (F0 m 4 ls [])) (fun P4 IH4 t1 h H locs ls G hl => ?_) _ h _ _ _ G (lv_sub hl [2, 3, 1, 0] rfl)
  refine lv_iload_n E.ex E.by dX2_sumOf_4 rfl (lv_at hl 3 rfl) ?_
  refine lv_aload_n E.ex E.by dX2_sumOf_5 rfl (lv_at hl 0 rfl) ?_
  refine k_get E G wi_X2_sumOf_X2 0 (gC_0 _ _ _) rfl 3 rfl fl_X2_sumOf_X2_3 (v := .int (iI κ 0)) rfl dX2_sumOf_6 ?_
  refine lv_icmp_ge (tgt := 27) E.ex E.by dX2_sumOf_9 (by decide) (fun hc4 => ?_) (fun hc4 => ?_)
  · have h := h.1 hc4
    refine lv_iload_n E.ex E.by dX2_sumOf_27 rfl (lv_at hl 2 rfl) ?_
    exact k_ret (wof := (fun _ : Unit => (wC kc ac κ))) (u := ()) E G rfl h (Nat.le_of_ble_eq_true rfl) (Nat.le_of_ble_eq_true rfl) dX2_sumOf_28
  · have h := h.2 hc4
    refine lv_iload_n E.ex E.by dX2_sumOf_12 rfl (lv_at hl 2 rfl) ?_
    refine lv_aload_n E.ex E.by dX2_sumOf_13 rfl (lv_at hl 0 rfl) ?_
    refine lv_iload_n E.ex E.by dX2_sumOf_14 rfl (lv_at hl 1 rfl) ?_
    refine lv_iload_n E.ex E.by dX2_sumOf_15 rfl (lv_at hl 3 rfl) ?_
    refine k_cVi (X := []) (w := (wC kc ac κ)) (Z := []) (wnew := (fun _ : Unit => (wC kc ac κ))) (As := [.int p1, .int t1.2]) (rest := [.int t1.1]) E (List.append_nil _).symm G (c_X2_weightOf l D kc _ _ _ _ _ h) gX2_sumOf_X2_weightOf rfl ⟨rfl, rfl⟩ hd_X2_weightOf_v ⟨rfl, rfl⟩ 0 (gC_0 _ _ _) rfl rfl hl rfl rfl dX2_sumOf_16 ⟨rfl, rfl⟩ (fun _ => (List.append_nil _).symm) (fun r2 _u16 hq H locs G => ?_)
    have h := hq
    refine lv_iadd E.ex E.by dX2_sumOf_19 ?_
    refine lv_topi (fun x3 ex3 => ?_)
    have h := h x3 ex3
    refine lv_istore_n (lv' := [(2, .int x3), (0, .ref (ac 0)), (1, .int p1), (3, .int t1.2)]) E.ex E.by dX2_sumOf_20 rfl hl (by decide) rfl (fun ls hl => ?_)
    refine lv_iinc (k := 3) (v := t1.2 + 1) (lv' := [(3, .int (t1.2 + 1)), (2, .int x3), (0, .ref (ac 0)), (1, .int p1)]) E.ex E.by dX2_sumOf_21 hl rfl (k_inc1 _) (by decide) rfl (fun ls hl => ?_)
    refine lv_goto (tgt := 4) E.ex E.by dX2_sumOf_24 (by decide) ?_
    exact IH4 _ h _ _ _ G (lv_sub hl [2, 3, 1, 0] rfl)
theorem hd_X2_sumOf_v : yX2_sumOf.cls = RX2 ∧ yX2_sumOf.cls ≠ "java/lang/invoke/MethodHandle" ∧ yX2_sumOf.cls ≠ "java/lang/invoke/VarHandle" ∧ (parseMethodDescriptor yX2_sumOf.desc).map (fun d => d.parameters.length) = some 1 := by decide +kernel
def wp_X2_stepWeight (p1 : Int32) (p2 : Int32) (κ : US) (Q : Int32 → Prop) : Prop := (¬ p1 = p2 → wp_X2_weightOf p1 p2 κ (fun (r1 : Int32) => Q r1)) ∧ (p1 = p2 → wp_X2_sumOf p1 κ (fun (r2 : Int32) => (¬ r2 = 0 → wp_X2_weightOf p1 p2 κ (fun (r3 : Int32) => Q r3)) ∧ (r2 = 0 → Q 1)))
set_option maxRecDepth 100000 in
set_option maxHeartbeats 4000000 in
theorem c_X2_stepWeight (l : Launch) (D : va_G) (kc : Nat → ClassId) (ac : Nat → Nat) (p1 : Int32) (p2 : Int32) (κ : US) (Q : Int32 → Prop) (h : wp_X2_stepWeight p1 p2 κ Q) : kCi l D (tyL kc) yX2_stepWeight wsX2_stepWeight ({ frames := 2, cells := 0, slots := 0, locals := 46 } : Room) [.ref (ac 0), .int p1, .int p2] (wC kc ac κ) (fun _ : Unit => (wC kc ac κ)) 0 0 (fun r _ => Q r) := by
  intro sz
  refine k_begin (cc := cX2_stepWeight) (maxL := 3) (ret := (some .int)) (by decide +kernel) rfl rfl (fun p e s m args below meth c hsz E G ls hl => ?_)
  subst hsz
  have hl : lv_has ls 3 [(0, .ref (ac 0)), (1, .int p1), (2, .int p2)] := hl
  refine lv_iload_n E.ex E.by dX2_stepWeight_0 rfl (lv_at hl 1 rfl) ?_
  refine lv_iload_n E.ex E.by dX2_stepWeight_1 rfl (lv_at hl 2 rfl) ?_
  refine lv_icmp_ne (tgt := 17) E.ex E.by dX2_stepWeight_2 (by decide) (fun hc5 => ?_) (fun hc5 => ?_)
  · have h := h.1 hc5
    refine lv_aload_n E.ex E.by dX2_stepWeight_17 rfl (lv_at hl 0 rfl) ?_
    refine lv_iload_n E.ex E.by dX2_stepWeight_18 rfl (lv_at hl 1 rfl) ?_
    refine lv_iload_n E.ex E.by dX2_stepWeight_19 rfl (lv_at hl 2 rfl) ?_
    refine k_cVi (X := []) (w := (wC kc ac κ)) (Z := []) (wnew := (fun _ : Unit => (wC kc ac κ))) (As := [.int p1, .int p2]) (rest := []) E (List.append_nil _).symm G (c_X2_weightOf l D kc _ _ _ _ _ h) gX2_stepWeight_X2_weightOf rfl ⟨rfl, rfl⟩ hd_X2_weightOf_v ⟨rfl, rfl⟩ 0 (gC_0 _ _ _) rfl rfl hl rfl rfl dX2_stepWeight_20 ⟨rfl, rfl⟩ (fun _ => (List.append_nil _).symm) (fun r1 _u20 hq H locs G => ?_)
    have h := hq
    exact k_ret (wof := (fun _ : Unit => (wC kc ac κ))) (u := ()) E G rfl h (Nat.le_of_ble_eq_true rfl) (Nat.le_of_ble_eq_true rfl) dX2_stepWeight_23
  · have h := h.2 hc5
    refine lv_aload_n E.ex E.by dX2_stepWeight_5 rfl (lv_at hl 0 rfl) ?_
    refine lv_iload_n E.ex E.by dX2_stepWeight_6 rfl (lv_at hl 1 rfl) ?_
    refine k_cVi (X := []) (w := (wC kc ac κ)) (Z := []) (wnew := (fun _ : Unit => (wC kc ac κ))) (As := [.int p1]) (rest := []) E (List.append_nil _).symm G (c_X2_sumOf l D kc _ _ _ _ h) gX2_stepWeight_X2_sumOf rfl ⟨rfl, rfl⟩ hd_X2_sumOf_v ⟨rfl, rfl⟩ 0 (gC_0 _ _ _) rfl rfl hl rfl rfl dX2_stepWeight_7 ⟨rfl, rfl⟩ (fun _ => (List.append_nil _).symm) (fun r2 _u7 hq H locs G => ?_)
    have h := hq
    refine lv_if_ne (tgt := 17) E.ex E.by dX2_stepWeight_10 (by decide) (fun hc4 => ?_) (fun hc4 => ?_)
    · have h := h.1 hc4
      refine lv_aload_n E.ex E.by dX2_stepWeight_17 rfl (lv_at hl 0 rfl) ?_
      refine lv_iload_n E.ex E.by dX2_stepWeight_18 rfl (lv_at hl 1 rfl) ?_
      refine lv_iload_n E.ex E.by dX2_stepWeight_19 rfl (lv_at hl 2 rfl) ?_
      refine k_cVi (X := []) (w := (wC kc ac κ)) (Z := []) (wnew := (fun _ : Unit => (wC kc ac κ))) (As := [.int p1, .int p2]) (rest := []) E (List.append_nil _).symm G (c_X2_weightOf l D kc _ _ _ _ _ h) gX2_stepWeight_X2_weightOf rfl ⟨rfl, rfl⟩ hd_X2_weightOf_v ⟨rfl, rfl⟩ 0 (gC_0 _ _ _) rfl rfl hl rfl rfl dX2_stepWeight_20 ⟨rfl, rfl⟩ (fun _ => (List.append_nil _).symm) (fun r3 _u20 hq H locs G => ?_)
      have h := hq
      exact k_ret (wof := (fun _ : Unit => (wC kc ac κ))) (u := ()) E G rfl h (Nat.le_of_ble_eq_true rfl) (Nat.le_of_ble_eq_true rfl) dX2_stepWeight_23
    · have h := h.2 hc4
      refine lv_iconst (v := 1) E.ex E.by dX2_stepWeight_13 (by decide) ?_
      refine lv_goto (tgt := 23) E.ex E.by dX2_stepWeight_14 (by decide) ?_
      exact k_ret (wof := (fun _ : Unit => (wC kc ac κ))) (u := ()) E G rfl h (Nat.le_of_ble_eq_true rfl) (Nat.le_of_ble_eq_true rfl) dX2_stepWeight_23
def wp_X2_divisorOf (p1 : Int32) (κ : US) (Q : Int32 → Prop) : Prop := wp_X2_sumOf p1 κ (fun (r1 : Int32) => (r1 ≤ 0 → Q 1) ∧ (¬ r1 ≤ 0 → Q r1))
set_option maxRecDepth 100000 in
set_option maxHeartbeats 4000000 in
theorem c_X2_divisorOf (l : Launch) (D : va_G) (kc : Nat → ClassId) (ac : Nat → Nat) (p1 : Int32) (κ : US) (Q : Int32 → Prop) (h : wp_X2_divisorOf p1 κ Q) : kCi l D (tyL kc) yX2_divisorOf wsX2_divisorOf ({ frames := 2, cells := 0, slots := 0, locals := 46 } : Room) [.ref (ac 0), .int p1] (wC kc ac κ) (fun _ : Unit => (wC kc ac κ)) 0 0 (fun r _ => Q r) := by
  intro sz
  refine k_begin (cc := cX2_divisorOf) (maxL := 3) (ret := (some .int)) (by decide +kernel) rfl rfl (fun p e s m args below meth c hsz E G ls hl => ?_)
  subst hsz
  have hl : lv_has ls 3 [(0, .ref (ac 0)), (1, .int p1)] := hl
  refine lv_aload_n E.ex E.by dX2_divisorOf_0 rfl (lv_at hl 0 rfl) ?_
  refine lv_iload_n E.ex E.by dX2_divisorOf_1 rfl (lv_at hl 1 rfl) ?_
  refine k_cVi (X := []) (w := (wC kc ac κ)) (Z := []) (wnew := (fun _ : Unit => (wC kc ac κ))) (As := [.int p1]) (rest := []) E (List.append_nil _).symm G (c_X2_sumOf l D kc _ _ _ _ h) gX2_divisorOf_X2_sumOf rfl ⟨rfl, rfl⟩ hd_X2_sumOf_v ⟨rfl, rfl⟩ 0 (gC_0 _ _ _) rfl rfl hl rfl rfl dX2_divisorOf_2 ⟨rfl, rfl⟩ (fun _ => (List.append_nil _).symm) (fun r1 _u2 hq H locs G => ?_)
  have h := hq
  refine lv_istore_n (lv' := [(2, .int r1), (0, .ref (ac 0)), (1, .int p1)]) E.ex E.by dX2_divisorOf_5 rfl hl (by decide) rfl (fun ls hl => ?_)
  refine lv_iload_n E.ex E.by dX2_divisorOf_6 rfl (lv_at hl 0 rfl) ?_
  refine lv_if_le (tgt := 14) E.ex E.by dX2_divisorOf_7 (by decide) (fun hc2 => ?_) (fun hc2 => ?_)
  · have h := h.1 hc2
    refine lv_iconst (v := 1) E.ex E.by dX2_divisorOf_14 (by decide) ?_
    exact k_ret (wof := (fun _ : Unit => (wC kc ac κ))) (u := ()) E G rfl h (Nat.le_of_ble_eq_true rfl) (Nat.le_of_ble_eq_true rfl) dX2_divisorOf_15
  · have h := h.2 hc2
    refine lv_iload_n E.ex E.by dX2_divisorOf_10 rfl (lv_at hl 0 rfl) ?_
    refine lv_goto (tgt := 15) E.ex E.by dX2_divisorOf_11 (by decide) ?_
    exact k_ret (wof := (fun _ : Unit => (wC kc ac κ))) (u := ()) E G rfl h (Nat.le_of_ble_eq_true rfl) (Nat.le_of_ble_eq_true rfl) dX2_divisorOf_15
theorem wi_X2_size_X2 : ∀ w ∈ wsX20, w ∈ wsX2_size := fun w h => List.mem_cons_of_mem _ (List.mem_append_right _ (h))
theorem fl_X2_size_X2_3 : Cond.fieldLink RX2 21 (TX2 3).1 (TX2 3).2.1 (TX2 3).2.2.1 ∈ wsX2_size := List.mem_of_getElem? (i := 1) (by decide +kernel)
def wp_X2_size (κ : US) (Q : Int32 → Prop) : Prop := Q (iI κ 0)
set_option maxRecDepth 100000 in
set_option maxHeartbeats 4000000 in
theorem c_X2_size (l : Launch) (D : va_G) (kc : Nat → ClassId) (ac : Nat → Nat) (κ : US) (Q : Int32 → Prop) (h : wp_X2_size κ Q) : kCi l D (tyL kc) yX2_size wsX2_size ({ frames := 0, cells := 0, slots := 0, locals := 0 } : Room) [.ref (ac 0)] (wC kc ac κ) (fun _ : Unit => (wC kc ac κ)) 0 0 (fun r _ => Q r) := by
  intro sz
  refine k_begin (cc := cX2_size) (maxL := 1) (ret := (some .int)) (by decide +kernel) rfl rfl (fun p e s m args below meth c hsz E G ls hl => ?_)
  subst hsz
  have hl : lv_has ls 1 [(0, .ref (ac 0))] := hl
  refine lv_aload_n E.ex E.by dX2_size_0 rfl (lv_at hl 0 rfl) ?_
  refine k_get E G wi_X2_size_X2 0 (gC_0 _ _ _) rfl 3 rfl fl_X2_size_X2_3 (v := .int (iI κ 0)) rfl dX2_size_1 ?_
  exact k_ret (wof := (fun _ : Unit => (wC kc ac κ))) (u := ()) E G rfl h (Nat.le_of_ble_eq_true rfl) (Nat.le_of_ble_eq_true rfl) dX2_size_4
theorem wi_X2_has_X2 : ∀ w ∈ wsX20, w ∈ wsX2_has := fun w h => List.mem_cons_of_mem _ (List.mem_append_right _ (h))
theorem fl_X2_has_X2_3 : Cond.fieldLink RX2 21 (TX2 3).1 (TX2 3).2.1 (TX2 3).2.2.1 ∈ wsX2_has := List.mem_of_getElem? (i := 1) (by decide +kernel)
def wp_X2_has (p1 : Int32) (κ : US) (Q : Int32 → Prop) : Prop := (p1 < 0 → Q 0) ∧ (¬ p1 < 0 → ((iI κ 0) ≤ p1 → Q 0) ∧ (¬ (iI κ 0) ≤ p1 → (8 ≤ p1 → Q 0) ∧ (¬ 8 ≤ p1 → Q 1)))
set_option maxRecDepth 100000 in
set_option maxHeartbeats 4000000 in
theorem c_X2_has (l : Launch) (D : va_G) (kc : Nat → ClassId) (ac : Nat → Nat) (p1 : Int32) (κ : US) (Q : Int32 → Prop) (h : wp_X2_has p1 κ Q) : kCi l D (tyL kc) yX2_has wsX2_has ({ frames := 0, cells := 0, slots := 0, locals := 0 } : Room) [.ref (ac 0), .int p1] (wC kc ac κ) (fun _ : Unit => (wC kc ac κ)) 0 0 (fun r _ => Q r) := by
  intro sz
  refine k_begin (cc := cX2_has) (maxL := 2) (ret := (some .boolean)) (by decide +kernel) rfl rfl (fun p e s m args below meth c hsz E G ls hl => ?_)
  subst hsz
  have hl : lv_has ls 2 [(0, .ref (ac 0)), (1, .int p1)] := hl
  refine lv_iload_n E.ex E.by dX2_has_0 rfl (lv_at hl 1 rfl) ?_
  refine lv_if_lt (tgt := 22) E.ex E.by dX2_has_1 (by decide) (fun hc3 => ?_) (fun hc3 => ?_)
  · have h := h.1 hc3
    refine lv_iconst (v := 0) E.ex E.by dX2_has_22 (by decide) ?_
    exact k_ret (wof := (fun _ : Unit => (wC kc ac κ))) (u := ()) E G rfl h (Nat.le_of_ble_eq_true rfl) (Nat.le_of_ble_eq_true rfl) dX2_has_23
  · have h := h.2 hc3
    refine lv_iload_n E.ex E.by dX2_has_4 rfl (lv_at hl 1 rfl) ?_
    refine lv_aload_n E.ex E.by dX2_has_5 rfl (lv_at hl 0 rfl) ?_
    refine k_get E G wi_X2_has_X2 0 (gC_0 _ _ _) rfl 3 rfl fl_X2_has_X2_3 (v := .int (iI κ 0)) rfl dX2_has_6 ?_
    refine lv_icmp_ge (tgt := 22) E.ex E.by dX2_has_9 (by decide) (fun hc2 => ?_) (fun hc2 => ?_)
    · have h := h.1 hc2
      refine lv_iconst (v := 0) E.ex E.by dX2_has_22 (by decide) ?_
      exact k_ret (wof := (fun _ : Unit => (wC kc ac κ))) (u := ()) E G rfl h (Nat.le_of_ble_eq_true rfl) (Nat.le_of_ble_eq_true rfl) dX2_has_23
    · have h := h.2 hc2
      refine lv_iload_n E.ex E.by dX2_has_12 rfl (lv_at hl 1 rfl) ?_
      refine lv_bipush (v := 8) E.ex E.by dX2_has_13 (by decide) ?_
      refine lv_icmp_ge (tgt := 22) E.ex E.by dX2_has_15 (by decide) (fun hc1 => ?_) (fun hc1 => ?_)
      · have h := h.1 hc1
        refine lv_iconst (v := 0) E.ex E.by dX2_has_22 (by decide) ?_
        exact k_ret (wof := (fun _ : Unit => (wC kc ac κ))) (u := ()) E G rfl h (Nat.le_of_ble_eq_true rfl) (Nat.le_of_ble_eq_true rfl) dX2_has_23
      · have h := h.2 hc1
        refine lv_iconst (v := 1) E.ex E.by dX2_has_18 (by decide) ?_
        refine lv_goto (tgt := 23) E.ex E.by dX2_has_19 (by decide) ?_
        exact k_ret (wof := (fun _ : Unit => (wC kc ac κ))) (u := ()) E G rfl h (Nat.le_of_ble_eq_true rfl) (Nat.le_of_ble_eq_true rfl) dX2_has_23
theorem wi_X2_all_X2 : ∀ w ∈ wsX20, w ∈ wsX2_all := fun w h => List.mem_cons_of_mem _ (List.mem_append_right _ (h))
theorem fl_X2_all_X2_3 : Cond.fieldLink RX2 21 (TX2 3).1 (TX2 3).2.1 (TX2 3).2.2.1 ∈ wsX2_all := List.mem_of_getElem? (i := 1) (by decide +kernel)
def wp_X2_all (κ : US) (Q : Int32 → Prop) : Prop := Q ((1 <<< ((iI κ 0) &&& 31)) - 1)
set_option maxRecDepth 100000 in
set_option maxHeartbeats 4000000 in
theorem c_X2_all (l : Launch) (D : va_G) (kc : Nat → ClassId) (ac : Nat → Nat) (κ : US) (Q : Int32 → Prop) (h : wp_X2_all κ Q) : kCi l D (tyL kc) yX2_all wsX2_all ({ frames := 0, cells := 0, slots := 0, locals := 0 } : Room) [.ref (ac 0)] (wC kc ac κ) (fun _ : Unit => (wC kc ac κ)) 0 0 (fun r _ => Q r) := by
  intro sz
  refine k_begin (cc := cX2_all) (maxL := 1) (ret := (some .int)) (by decide +kernel) rfl rfl (fun p e s m args below meth c hsz E G ls hl => ?_)
  subst hsz
  have hl : lv_has ls 1 [(0, .ref (ac 0))] := hl
  refine lv_iconst (v := 1) E.ex E.by dX2_all_0 (by decide) ?_
  refine lv_aload_n E.ex E.by dX2_all_1 rfl (lv_at hl 0 rfl) ?_
  refine k_get E G wi_X2_all_X2 0 (gC_0 _ _ _) rfl 3 rfl fl_X2_all_X2_3 (v := .int (iI κ 0)) rfl dX2_all_2 ?_
  refine lv_ishl E.ex E.by dX2_all_5 ?_
  refine lv_iconst (v := 1) E.ex E.by dX2_all_6 (by decide) ?_
  refine lv_isub E.ex E.by dX2_all_7 ?_
  exact k_ret (wof := (fun _ : Unit => (wC kc ac κ))) (u := ()) E G rfl h (Nat.le_of_ble_eq_true rfl) (Nat.le_of_ble_eq_true rfl) dX2_all_8
theorem wi_X2_grow_X2 : ∀ w ∈ wsX20, w ∈ wsX2_grow := fun w h => List.mem_cons_of_mem _ (List.mem_append_right _ (h))
theorem fl_X2_grow_X2_3 : Cond.fieldLink RX2 21 (TX2 3).1 (TX2 3).2.1 (TX2 3).2.2.1 ∈ wsX2_grow := List.mem_of_getElem? (i := 1) (by decide +kernel)
def wp_X2_grow (κ : US) (Q : US → Prop) : Prop := (8 ≤ (iI κ 0) → Q κ) ∧ (¬ 8 ≤ (iI κ 0) → (∀ z1 : US, z1 = uI κ 0 ((iI κ 0) + 1) → Q z1))
set_option maxRecDepth 100000 in
set_option maxHeartbeats 4000000 in
theorem c_X2_grow (l : Launch) (D : va_G) (kc : Nat → ClassId) (ac : Nat → Nat) (κ : US) (Q : US → Prop) (h : wp_X2_grow κ Q) : kCv l D (tyL kc) yX2_grow wsX2_grow ({ frames := 0, cells := 0, slots := 0, locals := 0 } : Room) [.ref (ac 0)] (wC kc ac κ) (fun u : US => (wC kc ac u)) 0 0 (fun u => Q u) := by
  intro sz
  refine k_begin (cc := cX2_grow) (maxL := 1) (ret := none) (by decide +kernel) rfl rfl (fun p e s m args below meth c hsz E G ls hl => ?_)
  subst hsz
  have hl : lv_has ls 1 [(0, .ref (ac 0))] := hl
  refine lv_aload_n E.ex E.by dX2_grow_0 rfl (lv_at hl 0 rfl) ?_
  refine k_get E G wi_X2_grow_X2 0 (gC_0 _ _ _) rfl 3 rfl fl_X2_grow_X2_3 (v := .int (iI κ 0)) rfl dX2_grow_1 ?_
  refine lv_bipush (v := 8) E.ex E.by dX2_grow_4 (by decide) ?_
  refine lv_icmp_ge (tgt := 19) E.ex E.by dX2_grow_6 (by decide) (fun hc2 => ?_) (fun hc2 => ?_)
  · have h := h.1 hc2
    exact k_retv (wof := (fun u : US => (wC kc ac u))) (u := κ) E G h (Nat.le_of_ble_eq_true rfl) (Nat.le_of_ble_eq_true rfl) dX2_grow_19
  · have h := h.2 hc2
    refine lv_aload_n E.ex E.by dX2_grow_9 rfl (lv_at hl 0 rfl) ?_
    refine lv_dup E.ex E.by dX2_grow_10 rfl ?_
    refine k_get E G wi_X2_grow_X2 0 (gC_0 _ _ _) rfl 3 rfl fl_X2_grow_X2_3 (v := .int (iI κ 0)) rfl dX2_grow_11 ?_
    refine lv_iconst (v := 1) E.ex E.by dX2_grow_14 (by decide) ?_
    refine lv_iadd E.ex E.by dX2_grow_15 ?_
    refine k_put (fun z => (wC kc ac z)) E G wi_X2_grow_X2 tyX2_ok nmX2 0 (gC_0 _ _ _) rfl 3 rfl fl_X2_grow_X2_3 rfl rfl rfl rfl (uI κ 0 ((iI κ 0) + 1)) (pC_0_3 _ _ _ _) dX2_grow_16 (fun z1 ez1 H locs G => ?_)
    have h := h z1 ez1
    exact k_retv (wof := (fun u : US => (wC kc ac u))) (u := z1) E G h (Nat.le_of_ble_eq_true rfl) (Nat.le_of_ble_eq_true rfl) dX2_grow_19
theorem wi_X2_putWeight_X2 : ∀ w ∈ wsX20, w ∈ wsX2_putWeight := fun w h => List.mem_cons_of_mem _ (List.mem_append_right _ (h))
theorem fl_X2_putWeight_X2_0 : Cond.fieldLink RX2 9 (TX2 0).1 (TX2 0).2.1 (TX2 0).2.2.1 ∈ wsX2_putWeight := List.mem_of_getElem? (i := 1) (by decide +kernel)
theorem hd_X2_has_v : yX2_has.cls = RX2 ∧ yX2_has.cls ≠ "java/lang/invoke/MethodHandle" ∧ yX2_has.cls ≠ "java/lang/invoke/VarHandle" ∧ (parseMethodDescriptor yX2_has.desc).map (fun d => d.parameters.length) = some 1 := by decide +kernel
def wp_X2_putWeight (p1 : Int32) (p2 : Int32) (p3 : Int32) (κ : US) (Q : US → Prop) : Prop := ∀ x1 : Int32, x1 = (p1 * 8) + p2 → wp_X2_has p1 κ (fun (r2 : Int32) => (r2 = 0 → Q κ) ∧ (¬ r2 = 0 → wp_X2_has p2 κ (fun (r3 : Int32) => (r3 = 0 → Q κ) ∧ (¬ r3 = 0 → (64 ≤ x1 → Q κ) ∧ (¬ 64 ≤ x1 → vp_in x1 64 ∧ (∀ z4 : US, z4 = uA κ 0 (x1).toNatClampNeg p3 → Q z4))))))
set_option maxRecDepth 100000 in
set_option maxHeartbeats 4000000 in
theorem c_X2_putWeight (l : Launch) (D : va_G) (kc : Nat → ClassId) (ac : Nat → Nat) (p1 : Int32) (p2 : Int32) (p3 : Int32) (κ : US) (Q : US → Prop) (h : wp_X2_putWeight p1 p2 p3 κ Q) : kCv l D (tyL kc) yX2_putWeight wsX2_putWeight ({ frames := 1, cells := 0, slots := 0, locals := 21 } : Room) [.ref (ac 0), .int p1, .int p2, .int p3] (wC kc ac κ) (fun u : US => (wC kc ac u)) 0 0 (fun u => Q u) := by
  intro sz
  refine k_begin (cc := cX2_putWeight) (maxL := 5) (ret := none) (by decide +kernel) rfl rfl (fun p e s m args below meth c hsz E G ls hl => ?_)
  subst hsz
  have hl : lv_has ls 5 [(0, .ref (ac 0)), (1, .int p1), (2, .int p2), (3, .int p3)] := hl
  refine lv_iload_n E.ex E.by dX2_putWeight_0 rfl (lv_at hl 1 rfl) ?_
  refine lv_bipush (v := 8) E.ex E.by dX2_putWeight_1 (by decide) ?_
  refine lv_imul E.ex E.by dX2_putWeight_3 ?_
  refine lv_iload_n E.ex E.by dX2_putWeight_4 rfl (lv_at hl 2 rfl) ?_
  refine lv_iadd E.ex E.by dX2_putWeight_5 ?_
  refine lv_topi (fun x1 ex1 => ?_)
  have h := h x1 ex1
  refine lv_istore (lv' := [(4, .int x1), (0, .ref (ac 0)), (1, .int p1), (2, .int p2), (3, .int p3)]) E.ex E.by dX2_putWeight_6 hl (by decide) rfl (fun ls hl => ?_)
  refine lv_aload_n E.ex E.by dX2_putWeight_8 rfl (lv_at hl 1 rfl) ?_
  refine lv_iload_n E.ex E.by dX2_putWeight_9 rfl (lv_at hl 2 rfl) ?_
  refine k_cVi (X := []) (w := (wC kc ac κ)) (Z := []) (wnew := (fun _ : Unit => (wC kc ac κ))) (As := [.int p1]) (rest := []) E (List.append_nil _).symm G (c_X2_has l D kc _ _ _ _ h) gX2_putWeight_X2_has rfl ⟨rfl, rfl⟩ hd_X2_has_v ⟨rfl, rfl⟩ 0 (gC_0 _ _ _) rfl rfl hl rfl rfl dX2_putWeight_10 ⟨rfl, rfl⟩ (fun _ => (List.append_nil _).symm) (fun r2 _u10 hq H locs G => ?_)
  have h := hq
  refine lv_if_eq (tgt := 42) E.ex E.by dX2_putWeight_13 (by decide) (fun hc7 => ?_) (fun hc7 => ?_)
  · have h := h.1 hc7
    exact k_retv (wof := (fun u : US => (wC kc ac u))) (u := κ) E G h (Nat.le_of_ble_eq_true rfl) (Nat.le_of_ble_eq_true rfl) dX2_putWeight_42
  · have h := h.2 hc7
    refine lv_aload_n E.ex E.by dX2_putWeight_16 rfl (lv_at hl 1 rfl) ?_
    refine lv_iload_n E.ex E.by dX2_putWeight_17 rfl (lv_at hl 3 rfl) ?_
    refine k_cVi (X := []) (w := (wC kc ac κ)) (Z := []) (wnew := (fun _ : Unit => (wC kc ac κ))) (As := [.int p2]) (rest := []) E (List.append_nil _).symm G (c_X2_has l D kc _ _ _ _ h) gX2_putWeight_X2_has rfl ⟨rfl, rfl⟩ hd_X2_has_v ⟨rfl, rfl⟩ 0 (gC_0 _ _ _) rfl rfl hl rfl rfl dX2_putWeight_18 ⟨rfl, rfl⟩ (fun _ => (List.append_nil _).symm) (fun r3 _u18 hq H locs G => ?_)
    have h := hq
    refine lv_if_eq (tgt := 42) E.ex E.by dX2_putWeight_21 (by decide) (fun hc6 => ?_) (fun hc6 => ?_)
    · have h := h.1 hc6
      exact k_retv (wof := (fun u : US => (wC kc ac u))) (u := κ) E G h (Nat.le_of_ble_eq_true rfl) (Nat.le_of_ble_eq_true rfl) dX2_putWeight_42
    · have h := h.2 hc6
      refine lv_iload E.ex E.by dX2_putWeight_24 (lv_at hl 0 rfl) ?_
      refine lv_aload_n E.ex E.by dX2_putWeight_26 rfl (lv_at hl 1 rfl) ?_
      refine k_get E G wi_X2_putWeight_X2 0 (gC_0 _ _ _) rfl 0 rfl fl_X2_putWeight_X2_0 (v := .ref (ac 1)) rfl dX2_putWeight_27 ?_
      refine va_alen E.ex E.by E.k G.1 1 0 (gC_1 _ _ _) rfl (v := 64) rfl dX2_putWeight_30 ?_
      refine lv_icmp_ge (tgt := 42) E.ex E.by dX2_putWeight_31 (by decide) (fun hc5 => ?_) (fun hc5 => ?_)
      · have h := h.1 hc5
        exact k_retv (wof := (fun u : US => (wC kc ac u))) (u := κ) E G h (Nat.le_of_ble_eq_true rfl) (Nat.le_of_ble_eq_true rfl) dX2_putWeight_42
      · have h := h.2 hc5
        refine lv_aload_n E.ex E.by dX2_putWeight_34 rfl (lv_at hl 1 rfl) ?_
        refine k_get E G wi_X2_putWeight_X2 0 (gC_0 _ _ _) rfl 0 rfl fl_X2_putWeight_X2_0 (v := .ref (ac 1)) rfl dX2_putWeight_35 ?_
        refine lv_iload E.ex E.by dX2_putWeight_38 (lv_at hl 0 rfl) ?_
        refine lv_iload_n E.ex E.by dX2_putWeight_40 rfl (lv_at hl 4 rfl) ?_
        refine k_iast (fun z => (wC kc ac z)) E G 1 (gC_1 _ _ _) 0 rfl h.1 (uA κ 0 (x1).toNatClampNeg p3) (sC_1 _ _ _ _) dX2_putWeight_41 (fun z4 ez4 H locs G => ?_)
        have h := h.2 z4 ez4
        exact k_retv (wof := (fun u : US => (wC kc ac u))) (u := z4) E G h (Nat.le_of_ble_eq_true rfl) (Nat.le_of_ble_eq_true rfl) dX2_putWeight_42
theorem wi_X2_putLabels_X2 : ∀ w ∈ wsX20, w ∈ wsX2_putLabels := fun w h => List.mem_cons_of_mem _ (List.mem_append_right _ (h))
theorem fl_X2_putLabels_X2_1 : Cond.fieldLink RX2 15 (TX2 1).1 (TX2 1).2.1 (TX2 1).2.2.1 ∈ wsX2_putLabels := List.mem_of_getElem? (i := 1) (by decide +kernel)
def wp_X2_putLabels (p1 : Int32) (p2 : Int32) (κ : US) (Q : US → Prop) : Prop := wp_X2_has p1 κ (fun (r1 : Int32) => (r1 = 0 → Q κ) ∧ (¬ r1 = 0 → vp_in p1 8 ∧ (∀ z2 : US, z2 = uA κ 1 (p1).toNatClampNeg p2 → Q z2)))
set_option maxRecDepth 100000 in
set_option maxHeartbeats 4000000 in
theorem c_X2_putLabels (l : Launch) (D : va_G) (kc : Nat → ClassId) (ac : Nat → Nat) (p1 : Int32) (p2 : Int32) (κ : US) (Q : US → Prop) (h : wp_X2_putLabels p1 p2 κ Q) : kCv l D (tyL kc) yX2_putLabels wsX2_putLabels ({ frames := 1, cells := 0, slots := 0, locals := 21 } : Room) [.ref (ac 0), .int p1, .int p2] (wC kc ac κ) (fun u : US => (wC kc ac u)) 0 0 (fun u => Q u) := by
  intro sz
  refine k_begin (cc := cX2_putLabels) (maxL := 3) (ret := none) (by decide +kernel) rfl rfl (fun p e s m args below meth c hsz E G ls hl => ?_)
  subst hsz
  have hl : lv_has ls 3 [(0, .ref (ac 0)), (1, .int p1), (2, .int p2)] := hl
  refine lv_aload_n E.ex E.by dX2_putLabels_0 rfl (lv_at hl 0 rfl) ?_
  refine lv_iload_n E.ex E.by dX2_putLabels_1 rfl (lv_at hl 1 rfl) ?_
  refine k_cVi (X := []) (w := (wC kc ac κ)) (Z := []) (wnew := (fun _ : Unit => (wC kc ac κ))) (As := [.int p1]) (rest := []) E (List.append_nil _).symm G (c_X2_has l D kc _ _ _ _ h) gX2_putLabels_X2_has rfl ⟨rfl, rfl⟩ hd_X2_has_v ⟨rfl, rfl⟩ 0 (gC_0 _ _ _) rfl rfl hl rfl rfl dX2_putLabels_2 ⟨rfl, rfl⟩ (fun _ => (List.append_nil _).symm) (fun r1 _u2 hq H locs G => ?_)
  have h := hq
  refine lv_if_eq (tgt := 15) E.ex E.by dX2_putLabels_5 (by decide) (fun hc3 => ?_) (fun hc3 => ?_)
  · have h := h.1 hc3
    exact k_retv (wof := (fun u : US => (wC kc ac u))) (u := κ) E G h (Nat.le_of_ble_eq_true rfl) (Nat.le_of_ble_eq_true rfl) dX2_putLabels_15
  · have h := h.2 hc3
    refine lv_aload_n E.ex E.by dX2_putLabels_8 rfl (lv_at hl 0 rfl) ?_
    refine k_get E G wi_X2_putLabels_X2 0 (gC_0 _ _ _) rfl 1 rfl fl_X2_putLabels_X2_1 (v := .ref (ac 2)) rfl dX2_putLabels_9 ?_
    refine lv_iload_n E.ex E.by dX2_putLabels_12 rfl (lv_at hl 1 rfl) ?_
    refine lv_iload_n E.ex E.by dX2_putLabels_13 rfl (lv_at hl 2 rfl) ?_
    refine k_iast (fun z => (wC kc ac z)) E G 2 (gC_2 _ _ _) 0 rfl h.1 (uA κ 1 (p1).toNatClampNeg p2) (sC_2 _ _ _ _) dX2_putLabels_14 (fun z2 ez2 H locs G => ?_)
    have h := h.2 z2 ez2
    exact k_retv (wof := (fun u : US => (wC kc ac u))) (u := z2) E G h (Nat.le_of_ble_eq_true rfl) (Nat.le_of_ble_eq_true rfl) dX2_putLabels_15
theorem wi_X2_putReward_X2 : ∀ w ∈ wsX20, w ∈ wsX2_putReward := fun w h => List.mem_cons_of_mem _ (List.mem_append_right _ (h))
theorem fl_X2_putReward_X2_2 : Cond.fieldLink RX2 18 (TX2 2).1 (TX2 2).2.1 (TX2 2).2.2.1 ∈ wsX2_putReward := List.mem_of_getElem? (i := 1) (by decide +kernel)
def wp_X2_putReward (p1 : Int32) (p2 : Int32) (κ : US) (Q : US → Prop) : Prop := wp_X2_has p1 κ (fun (r1 : Int32) => (r1 = 0 → Q κ) ∧ (¬ r1 = 0 → vp_in p1 8 ∧ (∀ z2 : US, z2 = uA κ 2 (p1).toNatClampNeg p2 → Q z2)))
set_option maxRecDepth 100000 in
set_option maxHeartbeats 4000000 in
theorem c_X2_putReward (l : Launch) (D : va_G) (kc : Nat → ClassId) (ac : Nat → Nat) (p1 : Int32) (p2 : Int32) (κ : US) (Q : US → Prop) (h : wp_X2_putReward p1 p2 κ Q) : kCv l D (tyL kc) yX2_putReward wsX2_putReward ({ frames := 1, cells := 0, slots := 0, locals := 21 } : Room) [.ref (ac 0), .int p1, .int p2] (wC kc ac κ) (fun u : US => (wC kc ac u)) 0 0 (fun u => Q u) := by
  intro sz
  refine k_begin (cc := cX2_putReward) (maxL := 3) (ret := none) (by decide +kernel) rfl rfl (fun p e s m args below meth c hsz E G ls hl => ?_)
  subst hsz
  have hl : lv_has ls 3 [(0, .ref (ac 0)), (1, .int p1), (2, .int p2)] := hl
  refine lv_aload_n E.ex E.by dX2_putReward_0 rfl (lv_at hl 0 rfl) ?_
  refine lv_iload_n E.ex E.by dX2_putReward_1 rfl (lv_at hl 1 rfl) ?_
  refine k_cVi (X := []) (w := (wC kc ac κ)) (Z := []) (wnew := (fun _ : Unit => (wC kc ac κ))) (As := [.int p1]) (rest := []) E (List.append_nil _).symm G (c_X2_has l D kc _ _ _ _ h) gX2_putReward_X2_has rfl ⟨rfl, rfl⟩ hd_X2_has_v ⟨rfl, rfl⟩ 0 (gC_0 _ _ _) rfl rfl hl rfl rfl dX2_putReward_2 ⟨rfl, rfl⟩ (fun _ => (List.append_nil _).symm) (fun r1 _u2 hq H locs G => ?_)
  have h := hq
  refine lv_if_eq (tgt := 15) E.ex E.by dX2_putReward_5 (by decide) (fun hc3 => ?_) (fun hc3 => ?_)
  · have h := h.1 hc3
    exact k_retv (wof := (fun u : US => (wC kc ac u))) (u := κ) E G h (Nat.le_of_ble_eq_true rfl) (Nat.le_of_ble_eq_true rfl) dX2_putReward_15
  · have h := h.2 hc3
    refine lv_aload_n E.ex E.by dX2_putReward_8 rfl (lv_at hl 0 rfl) ?_
    refine k_get E G wi_X2_putReward_X2 0 (gC_0 _ _ _) rfl 2 rfl fl_X2_putReward_X2_2 (v := .ref (ac 3)) rfl dX2_putReward_9 ?_
    refine lv_iload_n E.ex E.by dX2_putReward_12 rfl (lv_at hl 1 rfl) ?_
    refine lv_iload_n E.ex E.by dX2_putReward_13 rfl (lv_at hl 2 rfl) ?_
    refine k_iast (fun z => (wC kc ac z)) E G 3 (gC_3 _ _ _) 0 rfl h.1 (uA κ 2 (p1).toNatClampNeg p2) (sC_3 _ _ _ _) dX2_putReward_14 (fun z2 ez2 H locs G => ?_)
    have h := h.2 z2 ez2
    exact k_retv (wof := (fun u : US => (wC kc ac u))) (u := z2) E G h (Nat.le_of_ble_eq_true rfl) (Nat.le_of_ble_eq_true rfl) dX2_putReward_15
theorem wi_X2_shrink_X2 : ∀ w ∈ wsX20, w ∈ wsX2_shrink := fun w h => List.mem_cons_of_mem _ (List.mem_append_right _ (h))
theorem fl_X2_shrink_X2_3 : Cond.fieldLink RX2 21 (TX2 3).1 (TX2 3).2.1 (TX2 3).2.2.1 ∈ wsX2_shrink := List.mem_of_getElem? (i := 1) (by decide +kernel)
theorem hd_X2_putReward_v : yX2_putReward.cls = RX2 ∧ yX2_putReward.cls ≠ "java/lang/invoke/MethodHandle" ∧ yX2_putReward.cls ≠ "java/lang/invoke/VarHandle" ∧ (parseMethodDescriptor yX2_putReward.desc).map (fun d => d.parameters.length) = some 2 := by decide +kernel
theorem hd_X2_putLabels_v : yX2_putLabels.cls = RX2 ∧ yX2_putLabels.cls ≠ "java/lang/invoke/MethodHandle" ∧ yX2_putLabels.cls ≠ "java/lang/invoke/VarHandle" ∧ (parseMethodDescriptor yX2_putLabels.desc).map (fun d => d.parameters.length) = some 2 := by decide +kernel
theorem hd_X2_putWeight_v : yX2_putWeight.cls = RX2 ∧ yX2_putWeight.cls ≠ "java/lang/invoke/MethodHandle" ∧ yX2_putWeight.cls ≠ "java/lang/invoke/VarHandle" ∧ (parseMethodDescriptor yX2_putWeight.desc).map (fun d => d.parameters.length) = some 3 := by decide +kernel
def wp_X2_shrink_L17 (v1 : Int32) (Q : US → Prop) (P17 : (Int32 × US) → Prop) (t17 : Int32 × US) : Prop := (8 ≤ t17.1 → wp_X2_putLabels v1 0 t17.2 (fun (u2 : US) => wp_X2_putReward v1 0 u2 (fun (u3 : US) => (∀ z4 : US, z4 = uI u3 0 v1 → Q z4)))) ∧ (¬ 8 ≤ t17.1 → wp_X2_putWeight v1 t17.1 0 t17.2 (fun (u5 : US) => wp_X2_putWeight t17.1 v1 0 u5 (fun (u6 : US) => P17 (t17.1 + 1, u6))))
def wp_X2_shrink (κ : US) (Q : US → Prop) : Prop := (0 < (iI κ 0) → ∀ x1 : Int32, x1 = (iI κ 0) - 1 → lpW (wp_X2_shrink_L17 x1 Q) (0, κ)) ∧ (¬ 0 < (iI κ 0) → Q κ)
set_option maxRecDepth 100000 in
set_option maxHeartbeats 4000000 in
theorem c_X2_shrink (l : Launch) (D : va_G) (kc : Nat → ClassId) (ac : Nat → Nat) (κ : US) (Q : US → Prop) (h : wp_X2_shrink κ Q) : kCv l D (tyL kc) yX2_shrink wsX2_shrink ({ frames := 2, cells := 0, slots := 0, locals := 45 } : Room) [.ref (ac 0)] (wC kc ac κ) (fun u : US => (wC kc ac u)) 0 0 (fun u => Q u) := by
  intro sz
  refine k_begin (cc := cX2_shrink) (maxL := 3) (ret := none) (by decide +kernel) rfl rfl (fun p e s m args below meth c hsz E G ls hl => ?_)
  subst hsz
  have hl : lv_has ls 3 [(0, .ref (ac 0))] := hl
  refine lv_aload_n E.ex E.by dX2_shrink_0 rfl (lv_at hl 0 rfl) ?_
  refine k_get E G wi_X2_shrink_X2 0 (gC_0 _ _ _) rfl 3 rfl fl_X2_shrink_X2_3 (v := .int (iI κ 0)) rfl dX2_shrink_1 ?_
  refine lv_if_gt (tgt := 8) E.ex E.by dX2_shrink_4 (by decide) (fun hc9 => ?_) (fun hc9 => ?_)
  · have h := h.1 hc9
    refine lv_aload_n E.ex E.by dX2_shrink_8 rfl (lv_at hl 0 rfl) ?_
    refine k_get E G wi_X2_shrink_X2 0 (gC_0 _ _ _) rfl 3 rfl fl_X2_shrink_X2_3 (v := .int (iI κ 0)) rfl dX2_shrink_9 ?_
    refine lv_iconst (v := 1) E.ex E.by dX2_shrink_12 (by decide) ?_
    refine lv_isub E.ex E.by dX2_shrink_13 ?_
    refine lv_topi (fun x1 ex1 => ?_)
    have h := h x1 ex1
    refine lv_istore_n (lv' := [(1, .int x1), (0, .ref (ac 0))]) E.ex E.by dX2_shrink_14 rfl hl (by decide) rfl (fun ls hl => ?_)
    refine lv_iconst (v := 0) E.ex E.by dX2_shrink_15 (by decide) ?_
    refine lv_istore_n (lv' := [(2, .int 0), (1, .int x1), (0, .ref (ac 0))]) E.ex E.by dX2_shrink_16 rfl hl (by decide) rfl (fun ls hl => ?_)
    refine lpW_ind (fun t2 : Int32 × US => ∀ (H : Heap) (locs : List Loc) (ls : Array Slot), kG D (va_A (wC kc ac κ) s.heap.size) s (wC kc ac t2.2) H locs → lv_has ls 3 [(0, .ref (ac 0)), (1, .int x1), (2, .int t2.1)] → W p l e _ s m args below meth c H locs _ _ _ (F0 m 17 ls [])) (fun P17 IH17 t2 h H locs ls G hl => ?_) _ h _ _ _ G (lv_sub hl [2, 1, 0] rfl)
    refine lv_iload_n E.ex E.by dX2_shrink_17 rfl (lv_at hl 2 rfl) ?_
    refine lv_bipush (v := 8) E.ex E.by dX2_shrink_18 (by decide) ?_
    refine lv_icmp_ge (tgt := 43) E.ex E.by dX2_shrink_20 (by decide) (fun hc8 => ?_) (fun hc8 => ?_)
    · have h := h.1 hc8
      refine lv_aload_n E.ex E.by dX2_shrink_43 rfl (lv_at hl 0 rfl) ?_
      refine lv_iload_n E.ex E.by dX2_shrink_44 rfl (lv_at hl 1 rfl) ?_
      refine lv_iconst (v := 0) E.ex E.by dX2_shrink_45 (by decide) ?_
      refine k_cVv (X := []) (w := (wC kc ac t2.2)) (Z := []) (wnew := (fun u : US => (wC kc ac u))) (As := [.int x1, .int 0]) (rest := []) E (List.append_nil _).symm G (c_X2_putLabels l D kc _ _ _ _ _ h) gX2_shrink_X2_putLabels rfl ⟨rfl, rfl⟩ hd_X2_putLabels_v ⟨rfl, rfl⟩ 0 (gC_0 _ _ _) rfl rfl hl rfl rfl dX2_shrink_46 ⟨rfl, rfl⟩ (fun _ => (List.append_nil _).symm) (fun u3 hq H locs G => ?_)
      have h := hq
      refine lv_aload_n E.ex E.by dX2_shrink_49 rfl (lv_at hl 0 rfl) ?_
      refine lv_iload_n E.ex E.by dX2_shrink_50 rfl (lv_at hl 1 rfl) ?_
      refine lv_iconst (v := 0) E.ex E.by dX2_shrink_51 (by decide) ?_
      refine k_cVv (X := []) (w := (wC kc ac u3)) (Z := []) (wnew := (fun u : US => (wC kc ac u))) (As := [.int x1, .int 0]) (rest := []) E (List.append_nil _).symm G (c_X2_putReward l D kc _ _ _ _ _ h) gX2_shrink_X2_putReward rfl ⟨rfl, rfl⟩ hd_X2_putReward_v ⟨rfl, rfl⟩ 0 (gC_0 _ _ _) rfl rfl hl rfl rfl dX2_shrink_52 ⟨rfl, rfl⟩ (fun _ => (List.append_nil _).symm) (fun u4 hq H locs G => ?_)
      have h := hq
      refine lv_aload_n E.ex E.by dX2_shrink_55 rfl (lv_at hl 0 rfl) ?_
      refine lv_iload_n E.ex E.by dX2_shrink_56 rfl (lv_at hl 1 rfl) ?_
      refine k_put (fun z => (wC kc ac z)) E G wi_X2_shrink_X2 tyX2_ok nmX2 0 (gC_0 _ _ _) rfl 3 rfl fl_X2_shrink_X2_3 rfl rfl rfl rfl (uI u4 0 x1) (pC_0_3 _ _ _ _) dX2_shrink_57 (fun z5 ez5 H locs G => ?_)
      have h := h z5 ez5
      exact k_retv (wof := (fun u : US => (wC kc ac u))) (u := z5) E G h (Nat.le_of_ble_eq_true rfl) (Nat.le_of_ble_eq_true rfl) dX2_shrink_60
    · have h := h.2 hc8
      refine lv_aload_n E.ex E.by dX2_shrink_23 rfl (lv_at hl 0 rfl) ?_
      refine lv_iload_n E.ex E.by dX2_shrink_24 rfl (lv_at hl 1 rfl) ?_
      refine lv_iload_n E.ex E.by dX2_shrink_25 rfl (lv_at hl 2 rfl) ?_
      refine lv_iconst (v := 0) E.ex E.by dX2_shrink_26 (by decide) ?_
      refine k_cVv (X := []) (w := (wC kc ac t2.2)) (Z := []) (wnew := (fun u : US => (wC kc ac u))) (As := [.int x1, .int t2.1, .int 0]) (rest := []) E (List.append_nil _).symm G (c_X2_putWeight l D kc _ _ _ _ _ _ h) gX2_shrink_X2_putWeight rfl ⟨rfl, rfl⟩ hd_X2_putWeight_v ⟨rfl, rfl⟩ 0 (gC_0 _ _ _) rfl rfl hl rfl rfl dX2_shrink_27 ⟨rfl, rfl⟩ (fun _ => (List.append_nil _).symm) (fun u6 hq H locs G => ?_)
      have h := hq
      refine lv_aload_n E.ex E.by dX2_shrink_30 rfl (lv_at hl 0 rfl) ?_
      refine lv_iload_n E.ex E.by dX2_shrink_31 rfl (lv_at hl 2 rfl) ?_
      refine lv_iload_n E.ex E.by dX2_shrink_32 rfl (lv_at hl 1 rfl) ?_
      refine lv_iconst (v := 0) E.ex E.by dX2_shrink_33 (by decide) ?_
      refine k_cVv (X := []) (w := (wC kc ac u6)) (Z := []) (wnew := (fun u : US => (wC kc ac u))) (As := [.int t2.1, .int x1, .int 0]) (rest := []) E (List.append_nil _).symm G (c_X2_putWeight l D kc _ _ _ _ _ _ h) gX2_shrink_X2_putWeight rfl ⟨rfl, rfl⟩ hd_X2_putWeight_v ⟨rfl, rfl⟩ 0 (gC_0 _ _ _) rfl rfl hl rfl rfl dX2_shrink_34 ⟨rfl, rfl⟩ (fun _ => (List.append_nil _).symm) (fun u7 hq H locs G => ?_)
      have h := hq
      refine lv_iinc (k := 2) (v := t2.1 + 1) (lv' := [(2, .int (t2.1 + 1)), (0, .ref (ac 0)), (1, .int x1)]) E.ex E.by dX2_shrink_37 hl rfl (k_inc1 _) (by decide) rfl (fun ls hl => ?_)
      refine lv_goto (tgt := 17) E.ex E.by dX2_shrink_40 (by decide) ?_
      exact IH17 _ h _ _ _ G (lv_sub hl [1, 2, 0] rfl)
  · have h := h.2 hc9
    exact k_retv (wof := (fun u : US => (wC kc ac u))) (u := κ) E G h (Nat.le_of_ble_eq_true rfl) (Nat.le_of_ble_eq_true rfl) dX2_shrink_7
theorem wi_X2_copyFrom_X2 : ∀ w ∈ wsX20, w ∈ wsX2_copyFrom := fun w h => List.mem_cons_of_mem _ (List.mem_append_right _ (h))
theorem fl_X2_copyFrom_X2_0 : Cond.fieldLink RX2 9 (TX2 0).1 (TX2 0).2.1 (TX2 0).2.2.1 ∈ wsX2_copyFrom := List.mem_of_getElem? (i := 1) (by decide +kernel)
theorem fl_X2_copyFrom_X2_3 : Cond.fieldLink RX2 21 (TX2 3).1 (TX2 3).2.1 (TX2 3).2.2.1 ∈ wsX2_copyFrom := List.mem_of_getElem? (i := 4) (by decide +kernel)
theorem fl_X2_copyFrom_X2_1 : Cond.fieldLink RX2 15 (TX2 1).1 (TX2 1).2.1 (TX2 1).2.2.1 ∈ wsX2_copyFrom := List.mem_of_getElem? (i := 2) (by decide +kernel)
theorem fl_X2_copyFrom_X2_2 : Cond.fieldLink RX2 18 (TX2 2).1 (TX2 2).2.1 (TX2 2).2.2.1 ∈ wsX2_copyFrom := List.mem_of_getElem? (i := 3) (by decide +kernel)
def wp_X2_copyFrom_L45 (ρ : US) (P7 : (Int32 × US) → Prop) (Q : US → Prop) (P45 : (Int32 × US) → Prop) (t45 : Int32 × US) : Prop := (8 ≤ t45.1 → (∀ z1 : US, z1 = uI t45.2 0 (iI ρ 0) → Q z1)) ∧ (¬ 8 ≤ t45.1 → vp_in t45.1 8 ∧ (vp_in t45.1 8 ∧ (∀ z2 : US, z2 = uA t45.2 1 (t45.1).toNatClampNeg (aA ρ 1 (t45.1).toNatClampNeg) → vp_in t45.1 8 ∧ (vp_in t45.1 8 ∧ (∀ z3 : US, z3 = uA z2 2 (t45.1).toNatClampNeg (aA ρ 2 (t45.1).toNatClampNeg) → P45 (t45.1 + 1, z3))))))
def wp_X2_copyFrom_L7 (ρ : US) (Q : US → Prop) (P7 : (Int32 × US) → Prop) (t7 : Int32 × US) : Prop := (64 ≤ t7.1 → lpW (wp_X2_copyFrom_L45 ρ P7 Q) (0, t7.2)) ∧ (¬ 64 ≤ t7.1 → (64 ≤ t7.1 → lpW (wp_X2_copyFrom_L45 ρ P7 Q) (0, t7.2)) ∧ (¬ 64 ≤ t7.1 → vp_in t7.1 64 ∧ (vp_in t7.1 64 ∧ (∀ z15 : US, z15 = uA t7.2 0 (t7.1).toNatClampNeg (aA ρ 0 (t7.1).toNatClampNeg) → P7 (t7.1 + 1, z15)))))
def wp_X2_copyFrom (κ : US) (ρ : US) (Q : US → Prop) : Prop := lpW (wp_X2_copyFrom_L7 ρ Q) (0, κ)
set_option maxRecDepth 100000 in
set_option maxHeartbeats 4000000 in
theorem c_X2_copyFrom (l : Launch) (D : va_G) (kc : Nat → ClassId) (ac : Nat → Nat) (ad : Nat → Nat) (κ : US) (ρ : US) (Q : US → Prop) (h : wp_X2_copyFrom κ ρ Q) : kCv l D (tyL kc) yX2_copyFrom wsX2_copyFrom ({ frames := 0, cells := 0, slots := 0, locals := 0 } : Room) [.ref (ac 0), .ref (ad 0)] (xCC kc ac ad κ ρ) (fun u : US => (xCC kc ac ad u ρ)) 0 0 (fun u => Q u) := by
  intro sz
  refine k_begin (cc := cX2_copyFrom) (maxL := 3) (ret := none) (by decide +kernel) rfl rfl (fun p e s m args below meth c hsz E G ls hl => ?_)
  subst hsz
  have hl : lv_has ls 3 [(0, .ref (ac 0)), (1, .ref (ad 0))] := hl
  refine lv_aload_n E.ex E.by dX2_copyFrom_0 rfl (lv_at hl 1 rfl) ?_
  refine lv_ifnonnull (tgt := 5) E.ex E.by dX2_copyFrom_1 (by decide) ?_
  refine lv_iconst (v := 0) E.ex E.by dX2_copyFrom_5 (by decide) ?_
  refine lv_istore_n (lv' := [(2, .int 0), (0, .ref (ac 0)), (1, .ref (ad 0))]) E.ex E.by dX2_copyFrom_6 rfl hl (by decide) rfl (fun ls hl => ?_)
  refine lpW_ind (fun t1 : Int32 × US => ∀ (H : Heap) (locs : List Loc) (ls : Array Slot), kG D (va_A (xCC kc ac ad κ ρ) s.heap.size) s (xCC kc ac ad t1.2 ρ) H locs → lv_has ls 3 [(0, .ref (ac 0)), (1, .ref (ad 0)), (2, .int t1.1)] → W p l e _ s m args below meth c H locs _ _ _ (F0 m 7 ls [])) (fun P7 IH7 t1 h H locs ls G hl => ?_) _ h _ _ _ G (lv_sub hl [1, 2, 0] rfl)
  refine lv_iload_n E.ex E.by dX2_copyFrom_7 rfl (lv_at hl 2 rfl) ?_
  refine lv_aload_n E.ex E.by dX2_copyFrom_8 rfl (lv_at hl 0 rfl) ?_
  refine k_get E G wi_X2_copyFrom_X2 0 (gCC_0 _ _ _ _ _) rfl 0 rfl fl_X2_copyFrom_X2_0 (v := .ref (ac 1)) rfl dX2_copyFrom_9 ?_
  refine va_alen E.ex E.by E.k G.1 1 0 (gCC_1 _ _ _ _ _) rfl (v := 64) rfl dX2_copyFrom_12 ?_
  refine lv_icmp_ge (tgt := 43) E.ex E.by dX2_copyFrom_13 (by decide) (fun hc14 => ?_) (fun hc14 => ?_)
  · have h := h.1 hc14
    refine lv_iconst (v := 0) E.ex E.by dX2_copyFrom_43 (by decide) ?_
    refine lv_istore_n (lv' := [(2, .int 0), (0, .ref (ac 0)), (1, .ref (ad 0))]) E.ex E.by dX2_copyFrom_44 rfl hl (by decide) rfl (fun ls hl => ?_)
    refine lpW_ind (fun t2 : Int32 × US => ∀ (H : Heap) (locs : List Loc) (ls : Array Slot), kG D (va_A (xCC kc ac ad κ ρ) s.heap.size) s (xCC kc ac ad t2.2 ρ) H locs → lv_has ls 3 [(0, .ref (ac 0)), (1, .ref (ad 0)), (2, .int t2.1)] → W p l e _ s m args below meth c H locs _ _ _ (F0 m 45 ls [])) (fun P45 IH45 t2 h H locs ls G hl => ?_) _ h _ _ _ G (lv_sub hl [1, 2, 0] rfl)
    refine lv_iload_n E.ex E.by dX2_copyFrom_45 rfl (lv_at hl 2 rfl) ?_
    refine lv_bipush (v := 8) E.ex E.by dX2_copyFrom_46 (by decide) ?_
    refine lv_icmp_ge (tgt := 81) E.ex E.by dX2_copyFrom_48 (by decide) (fun hc6 => ?_) (fun hc6 => ?_)
    · have h := h.1 hc6
      refine lv_aload_n E.ex E.by dX2_copyFrom_81 rfl (lv_at hl 0 rfl) ?_
      refine lv_aload_n E.ex E.by dX2_copyFrom_82 rfl (lv_at hl 1 rfl) ?_
      refine k_get E G wi_X2_copyFrom_X2 4 (gCC_4 _ _ _ _ _) rfl 3 rfl fl_X2_copyFrom_X2_3 (v := .int (iI ρ 0)) rfl dX2_copyFrom_83 ?_
      refine k_put (fun z => (xCC kc ac ad z ρ)) E G wi_X2_copyFrom_X2 tyX2_ok nmX2 0 (gCC_0 _ _ _ _ _) rfl 3 rfl fl_X2_copyFrom_X2_3 rfl rfl rfl rfl (uI t2.2 0 (iI ρ 0)) (pCC_0_3 _ _ _ _ _ _) dX2_copyFrom_86 (fun z3 ez3 H locs G => ?_)
      have h := h z3 ez3
      exact k_retv (wof := (fun u : US => (xCC kc ac ad u ρ))) (u := z3) E G h (Nat.le_of_ble_eq_true rfl) (Nat.le_of_ble_eq_true rfl) dX2_copyFrom_89
    · have h := h.2 hc6
      refine lv_aload_n E.ex E.by dX2_copyFrom_51 rfl (lv_at hl 0 rfl) ?_
      refine k_get E G wi_X2_copyFrom_X2 0 (gCC_0 _ _ _ _ _) rfl 1 rfl fl_X2_copyFrom_X2_1 (v := .ref (ac 2)) rfl dX2_copyFrom_52 ?_
      refine lv_iload_n E.ex E.by dX2_copyFrom_55 rfl (lv_at hl 2 rfl) ?_
      refine lv_aload_n E.ex E.by dX2_copyFrom_56 rfl (lv_at hl 1 rfl) ?_
      refine k_get E G wi_X2_copyFrom_X2 4 (gCC_4 _ _ _ _ _) rfl 1 rfl fl_X2_copyFrom_X2_1 (v := .ref (ad 2)) rfl dX2_copyFrom_57 ?_
      refine lv_iload_n E.ex E.by dX2_copyFrom_60 rfl (lv_at hl 2 rfl) ?_
      refine k_iald E G 6 (gCC_6 _ _ _ _ _) 0 rfl h.1 dX2_copyFrom_61 ?_
      have h := h.2
      refine k_iast (fun z => (xCC kc ac ad z ρ)) E G 2 (gCC_2 _ _ _ _ _) 0 rfl h.1 (uA t2.2 1 (t2.1).toNatClampNeg (aA ρ 1 (t2.1).toNatClampNeg)) (sCC_2 _ _ _ _ _ _) dX2_copyFrom_62 (fun z4 ez4 H locs G => ?_)
      have h := h.2 z4 ez4
      refine lv_aload_n E.ex E.by dX2_copyFrom_63 rfl (lv_at hl 0 rfl) ?_
      refine k_get E G wi_X2_copyFrom_X2 0 (gCC_0 _ _ _ _ _) rfl 2 rfl fl_X2_copyFrom_X2_2 (v := .ref (ac 3)) rfl dX2_copyFrom_64 ?_
      refine lv_iload_n E.ex E.by dX2_copyFrom_67 rfl (lv_at hl 2 rfl) ?_
      refine lv_aload_n E.ex E.by dX2_copyFrom_68 rfl (lv_at hl 1 rfl) ?_
      refine k_get E G wi_X2_copyFrom_X2 4 (gCC_4 _ _ _ _ _) rfl 2 rfl fl_X2_copyFrom_X2_2 (v := .ref (ad 3)) rfl dX2_copyFrom_69 ?_
      refine lv_iload_n E.ex E.by dX2_copyFrom_72 rfl (lv_at hl 2 rfl) ?_
      refine k_iald E G 7 (gCC_7 _ _ _ _ _) 0 rfl h.1 dX2_copyFrom_73 ?_
      have h := h.2
      refine k_iast (fun z => (xCC kc ac ad z ρ)) E G 3 (gCC_3 _ _ _ _ _) 0 rfl h.1 (uA z4 2 (t2.1).toNatClampNeg (aA ρ 2 (t2.1).toNatClampNeg)) (sCC_3 _ _ _ _ _ _) dX2_copyFrom_74 (fun z5 ez5 H locs G => ?_)
      have h := h.2 z5 ez5
      refine lv_iinc (k := 2) (v := t2.1 + 1) (lv' := [(2, .int (t2.1 + 1)), (0, .ref (ac 0)), (1, .ref (ad 0))]) E.ex E.by dX2_copyFrom_75 hl rfl (k_inc1 _) (by decide) rfl (fun ls hl => ?_)
      refine lv_goto (tgt := 45) E.ex E.by dX2_copyFrom_78 (by decide) ?_
      exact IH45 _ h _ _ _ G (lv_sub hl [1, 2, 0] rfl)
  · have h := h.2 hc14
    refine lv_iload_n E.ex E.by dX2_copyFrom_16 rfl (lv_at hl 2 rfl) ?_
    refine lv_aload_n E.ex E.by dX2_copyFrom_17 rfl (lv_at hl 1 rfl) ?_
    refine k_get E G wi_X2_copyFrom_X2 4 (gCC_4 _ _ _ _ _) rfl 0 rfl fl_X2_copyFrom_X2_0 (v := .ref (ad 1)) rfl dX2_copyFrom_18 ?_
    refine va_alen E.ex E.by E.k G.1 5 0 (gCC_5 _ _ _ _ _) rfl (v := 64) rfl dX2_copyFrom_21 ?_
    refine lv_icmp_ge (tgt := 43) E.ex E.by dX2_copyFrom_22 (by decide) (fun hc13 => ?_) (fun hc13 => ?_)
    · have h := h.1 hc13
      refine lv_iconst (v := 0) E.ex E.by dX2_copyFrom_43 (by decide) ?_
      refine lv_istore_n (lv' := [(2, .int 0), (0, .ref (ac 0)), (1, .ref (ad 0))]) E.ex E.by dX2_copyFrom_44 rfl hl (by decide) rfl (fun ls hl => ?_)
      refine lpW_ind (fun t7 : Int32 × US => ∀ (H : Heap) (locs : List Loc) (ls : Array Slot), kG D (va_A (xCC kc ac ad κ ρ) s.heap.size) s (xCC kc ac ad t7.2 ρ) H locs → lv_has ls 3 [(0, .ref (ac 0)), (1, .ref (ad 0)), (2, .int t7.1)] → W p l e _ s m args below meth c H locs _ _ _ (F0 m 45 ls [])) (fun P45 IH45 t7 h H locs ls G hl => ?_) _ h _ _ _ G (lv_sub hl [1, 2, 0] rfl)
      refine lv_iload_n E.ex E.by dX2_copyFrom_45 rfl (lv_at hl 2 rfl) ?_
      refine lv_bipush (v := 8) E.ex E.by dX2_copyFrom_46 (by decide) ?_
      refine lv_icmp_ge (tgt := 81) E.ex E.by dX2_copyFrom_48 (by decide) (fun hc11 => ?_) (fun hc11 => ?_)
      · have h := h.1 hc11
        refine lv_aload_n E.ex E.by dX2_copyFrom_81 rfl (lv_at hl 0 rfl) ?_
        refine lv_aload_n E.ex E.by dX2_copyFrom_82 rfl (lv_at hl 1 rfl) ?_
        refine k_get E G wi_X2_copyFrom_X2 4 (gCC_4 _ _ _ _ _) rfl 3 rfl fl_X2_copyFrom_X2_3 (v := .int (iI ρ 0)) rfl dX2_copyFrom_83 ?_
        refine k_put (fun z => (xCC kc ac ad z ρ)) E G wi_X2_copyFrom_X2 tyX2_ok nmX2 0 (gCC_0 _ _ _ _ _) rfl 3 rfl fl_X2_copyFrom_X2_3 rfl rfl rfl rfl (uI t7.2 0 (iI ρ 0)) (pCC_0_3 _ _ _ _ _ _) dX2_copyFrom_86 (fun z8 ez8 H locs G => ?_)
        have h := h z8 ez8
        exact k_retv (wof := (fun u : US => (xCC kc ac ad u ρ))) (u := z8) E G h (Nat.le_of_ble_eq_true rfl) (Nat.le_of_ble_eq_true rfl) dX2_copyFrom_89
      · have h := h.2 hc11
        refine lv_aload_n E.ex E.by dX2_copyFrom_51 rfl (lv_at hl 0 rfl) ?_
        refine k_get E G wi_X2_copyFrom_X2 0 (gCC_0 _ _ _ _ _) rfl 1 rfl fl_X2_copyFrom_X2_1 (v := .ref (ac 2)) rfl dX2_copyFrom_52 ?_
        refine lv_iload_n E.ex E.by dX2_copyFrom_55 rfl (lv_at hl 2 rfl) ?_
        refine lv_aload_n E.ex E.by dX2_copyFrom_56 rfl (lv_at hl 1 rfl) ?_
        refine k_get E G wi_X2_copyFrom_X2 4 (gCC_4 _ _ _ _ _) rfl 1 rfl fl_X2_copyFrom_X2_1 (v := .ref (ad 2)) rfl dX2_copyFrom_57 ?_
        refine lv_iload_n E.ex E.by dX2_copyFrom_60 rfl (lv_at hl 2 rfl) ?_
        refine k_iald E G 6 (gCC_6 _ _ _ _ _) 0 rfl h.1 dX2_copyFrom_61 ?_
        have h := h.2
        refine k_iast (fun z => (xCC kc ac ad z ρ)) E G 2 (gCC_2 _ _ _ _ _) 0 rfl h.1 (uA t7.2 1 (t7.1).toNatClampNeg (aA ρ 1 (t7.1).toNatClampNeg)) (sCC_2 _ _ _ _ _ _) dX2_copyFrom_62 (fun z9 ez9 H locs G => ?_)
        have h := h.2 z9 ez9
        refine lv_aload_n E.ex E.by dX2_copyFrom_63 rfl (lv_at hl 0 rfl) ?_
        refine k_get E G wi_X2_copyFrom_X2 0 (gCC_0 _ _ _ _ _) rfl 2 rfl fl_X2_copyFrom_X2_2 (v := .ref (ac 3)) rfl dX2_copyFrom_64 ?_
        refine lv_iload_n E.ex E.by dX2_copyFrom_67 rfl (lv_at hl 2 rfl) ?_
        refine lv_aload_n E.ex E.by dX2_copyFrom_68 rfl (lv_at hl 1 rfl) ?_
        refine k_get E G wi_X2_copyFrom_X2 4 (gCC_4 _ _ _ _ _) rfl 2 rfl fl_X2_copyFrom_X2_2 (v := .ref (ad 3)) rfl dX2_copyFrom_69 ?_
        refine lv_iload_n E.ex E.by dX2_copyFrom_72 rfl (lv_at hl 2 rfl) ?_
        refine k_iald E G 7 (gCC_7 _ _ _ _ _) 0 rfl h.1 dX2_copyFrom_73 ?_
        have h := h.2
        refine k_iast (fun z => (xCC kc ac ad z ρ)) E G 3 (gCC_3 _ _ _ _ _) 0 rfl h.1 (uA z9 2 (t7.1).toNatClampNeg (aA ρ 2 (t7.1).toNatClampNeg)) (sCC_3 _ _ _ _ _ _) dX2_copyFrom_74 (fun z10 ez10 H locs G => ?_)
        have h := h.2 z10 ez10
        refine lv_iinc (k := 2) (v := t7.1 + 1) (lv' := [(2, .int (t7.1 + 1)), (0, .ref (ac 0)), (1, .ref (ad 0))]) E.ex E.by dX2_copyFrom_75 hl rfl (k_inc1 _) (by decide) rfl (fun ls hl => ?_)
        refine lv_goto (tgt := 45) E.ex E.by dX2_copyFrom_78 (by decide) ?_
        exact IH45 _ h _ _ _ G (lv_sub hl [1, 2, 0] rfl)
    · have h := h.2 hc13
      refine lv_aload_n E.ex E.by dX2_copyFrom_25 rfl (lv_at hl 0 rfl) ?_
      refine k_get E G wi_X2_copyFrom_X2 0 (gCC_0 _ _ _ _ _) rfl 0 rfl fl_X2_copyFrom_X2_0 (v := .ref (ac 1)) rfl dX2_copyFrom_26 ?_
      refine lv_iload_n E.ex E.by dX2_copyFrom_29 rfl (lv_at hl 2 rfl) ?_
      refine lv_aload_n E.ex E.by dX2_copyFrom_30 rfl (lv_at hl 1 rfl) ?_
      refine k_get E G wi_X2_copyFrom_X2 4 (gCC_4 _ _ _ _ _) rfl 0 rfl fl_X2_copyFrom_X2_0 (v := .ref (ad 1)) rfl dX2_copyFrom_31 ?_
      refine lv_iload_n E.ex E.by dX2_copyFrom_34 rfl (lv_at hl 2 rfl) ?_
      refine k_iald E G 5 (gCC_5 _ _ _ _ _) 0 rfl h.1 dX2_copyFrom_35 ?_
      have h := h.2
      refine k_iast (fun z => (xCC kc ac ad z ρ)) E G 1 (gCC_1 _ _ _ _ _) 0 rfl h.1 (uA t1.2 0 (t1.1).toNatClampNeg (aA ρ 0 (t1.1).toNatClampNeg)) (sCC_1 _ _ _ _ _ _) dX2_copyFrom_36 (fun z12 ez12 H locs G => ?_)
      have h := h.2 z12 ez12
      refine lv_iinc (k := 2) (v := t1.1 + 1) (lv' := [(2, .int (t1.1 + 1)), (0, .ref (ac 0)), (1, .ref (ad 0))]) E.ex E.by dX2_copyFrom_37 hl rfl (k_inc1 _) (by decide) rfl (fun ls hl => ?_)
      refine lv_goto (tgt := 7) E.ex E.by dX2_copyFrom_40 (by decide) ?_
      exact IH7 _ h _ _ _ G (lv_sub hl [1, 2, 0] rfl)
theorem wi_X2_labelsOf_X2 : ∀ w ∈ wsX20, w ∈ wsX2_labelsOf := fun w h => List.mem_cons_of_mem _ (List.mem_append_right _ (h))
theorem fl_X2_labelsOf_X2_1 : Cond.fieldLink RX2 15 (TX2 1).1 (TX2 1).2.1 (TX2 1).2.2.1 ∈ wsX2_labelsOf := List.mem_of_getElem? (i := 1) (by decide +kernel)
def wp_X2_labelsOf (p1 : Int32) (κ : US) (Q : Int32 → Prop) : Prop := wp_X2_has p1 κ (fun (r1 : Int32) => (r1 = 0 → Q 0) ∧ (¬ r1 = 0 → vp_in p1 8 ∧ (Q (aA κ 1 (p1).toNatClampNeg))))
set_option maxRecDepth 100000 in
set_option maxHeartbeats 4000000 in
theorem c_X2_labelsOf (l : Launch) (D : va_G) (kc : Nat → ClassId) (ac : Nat → Nat) (p1 : Int32) (κ : US) (Q : Int32 → Prop) (h : wp_X2_labelsOf p1 κ Q) : kCi l D (tyL kc) yX2_labelsOf wsX2_labelsOf ({ frames := 1, cells := 0, slots := 0, locals := 21 } : Room) [.ref (ac 0), .int p1] (wC kc ac κ) (fun _ : Unit => (wC kc ac κ)) 0 0 (fun r _ => Q r) := by
  intro sz
  refine k_begin (cc := cX2_labelsOf) (maxL := 2) (ret := (some .int)) (by decide +kernel) rfl rfl (fun p e s m args below meth c hsz E G ls hl => ?_)
  subst hsz
  have hl : lv_has ls 2 [(0, .ref (ac 0)), (1, .int p1)] := hl
  refine lv_aload_n E.ex E.by dX2_labelsOf_0 rfl (lv_at hl 0 rfl) ?_
  refine lv_iload_n E.ex E.by dX2_labelsOf_1 rfl (lv_at hl 1 rfl) ?_
  refine k_cVi (X := []) (w := (wC kc ac κ)) (Z := []) (wnew := (fun _ : Unit => (wC kc ac κ))) (As := [.int p1]) (rest := []) E (List.append_nil _).symm G (c_X2_has l D kc _ _ _ _ h) gX2_labelsOf_X2_has rfl ⟨rfl, rfl⟩ hd_X2_has_v ⟨rfl, rfl⟩ 0 (gC_0 _ _ _) rfl rfl hl rfl rfl dX2_labelsOf_2 ⟨rfl, rfl⟩ (fun _ => (List.append_nil _).symm) (fun r1 _u2 hq H locs G => ?_)
  have h := hq
  refine lv_if_eq (tgt := 17) E.ex E.by dX2_labelsOf_5 (by decide) (fun hc2 => ?_) (fun hc2 => ?_)
  · have h := h.1 hc2
    refine lv_iconst (v := 0) E.ex E.by dX2_labelsOf_17 (by decide) ?_
    exact k_ret (wof := (fun _ : Unit => (wC kc ac κ))) (u := ()) E G rfl h (Nat.le_of_ble_eq_true rfl) (Nat.le_of_ble_eq_true rfl) dX2_labelsOf_18
  · have h := h.2 hc2
    refine lv_aload_n E.ex E.by dX2_labelsOf_8 rfl (lv_at hl 0 rfl) ?_
    refine k_get E G wi_X2_labelsOf_X2 0 (gC_0 _ _ _) rfl 1 rfl fl_X2_labelsOf_X2_1 (v := .ref (ac 2)) rfl dX2_labelsOf_9 ?_
    refine lv_iload_n E.ex E.by dX2_labelsOf_12 rfl (lv_at hl 1 rfl) ?_
    refine k_iald E G 2 (gC_2 _ _ _) 0 rfl h.1 dX2_labelsOf_13 ?_
    have h := h.2
    refine lv_goto (tgt := 18) E.ex E.by dX2_labelsOf_14 (by decide) ?_
    exact k_ret (wof := (fun _ : Unit => (wC kc ac κ))) (u := ()) E G rfl h (Nat.le_of_ble_eq_true rfl) (Nat.le_of_ble_eq_true rfl) dX2_labelsOf_18
theorem wi_X2_rewardOf_X2 : ∀ w ∈ wsX20, w ∈ wsX2_rewardOf := fun w h => List.mem_cons_of_mem _ (List.mem_append_right _ (h))
theorem fl_X2_rewardOf_X2_2 : Cond.fieldLink RX2 18 (TX2 2).1 (TX2 2).2.1 (TX2 2).2.2.1 ∈ wsX2_rewardOf := List.mem_of_getElem? (i := 1) (by decide +kernel)
def wp_X2_rewardOf (p1 : Int32) (κ : US) (Q : Int32 → Prop) : Prop := wp_X2_has p1 κ (fun (r1 : Int32) => (r1 = 0 → Q 0) ∧ (¬ r1 = 0 → vp_in p1 8 ∧ (Q (aA κ 2 (p1).toNatClampNeg))))
set_option maxRecDepth 100000 in
set_option maxHeartbeats 4000000 in
theorem c_X2_rewardOf (l : Launch) (D : va_G) (kc : Nat → ClassId) (ac : Nat → Nat) (p1 : Int32) (κ : US) (Q : Int32 → Prop) (h : wp_X2_rewardOf p1 κ Q) : kCi l D (tyL kc) yX2_rewardOf wsX2_rewardOf ({ frames := 1, cells := 0, slots := 0, locals := 21 } : Room) [.ref (ac 0), .int p1] (wC kc ac κ) (fun _ : Unit => (wC kc ac κ)) 0 0 (fun r _ => Q r) := by
  intro sz
  refine k_begin (cc := cX2_rewardOf) (maxL := 2) (ret := (some .int)) (by decide +kernel) rfl rfl (fun p e s m args below meth c hsz E G ls hl => ?_)
  subst hsz
  have hl : lv_has ls 2 [(0, .ref (ac 0)), (1, .int p1)] := hl
  refine lv_aload_n E.ex E.by dX2_rewardOf_0 rfl (lv_at hl 0 rfl) ?_
  refine lv_iload_n E.ex E.by dX2_rewardOf_1 rfl (lv_at hl 1 rfl) ?_
  refine k_cVi (X := []) (w := (wC kc ac κ)) (Z := []) (wnew := (fun _ : Unit => (wC kc ac κ))) (As := [.int p1]) (rest := []) E (List.append_nil _).symm G (c_X2_has l D kc _ _ _ _ h) gX2_rewardOf_X2_has rfl ⟨rfl, rfl⟩ hd_X2_has_v ⟨rfl, rfl⟩ 0 (gC_0 _ _ _) rfl rfl hl rfl rfl dX2_rewardOf_2 ⟨rfl, rfl⟩ (fun _ => (List.append_nil _).symm) (fun r1 _u2 hq H locs G => ?_)
  have h := hq
  refine lv_if_eq (tgt := 17) E.ex E.by dX2_rewardOf_5 (by decide) (fun hc2 => ?_) (fun hc2 => ?_)
  · have h := h.1 hc2
    refine lv_iconst (v := 0) E.ex E.by dX2_rewardOf_17 (by decide) ?_
    exact k_ret (wof := (fun _ : Unit => (wC kc ac κ))) (u := ()) E G rfl h (Nat.le_of_ble_eq_true rfl) (Nat.le_of_ble_eq_true rfl) dX2_rewardOf_18
  · have h := h.2 hc2
    refine lv_aload_n E.ex E.by dX2_rewardOf_8 rfl (lv_at hl 0 rfl) ?_
    refine k_get E G wi_X2_rewardOf_X2 0 (gC_0 _ _ _) rfl 2 rfl fl_X2_rewardOf_X2_2 (v := .ref (ac 3)) rfl dX2_rewardOf_9 ?_
    refine lv_iload_n E.ex E.by dX2_rewardOf_12 rfl (lv_at hl 1 rfl) ?_
    refine k_iald E G 3 (gC_3 _ _ _) 0 rfl h.1 dX2_rewardOf_13 ?_
    have h := h.2
    refine lv_goto (tgt := 18) E.ex E.by dX2_rewardOf_14 (by decide) ?_
    exact k_ret (wof := (fun _ : Unit => (wC kc ac κ))) (u := ()) E G rfl h (Nat.le_of_ble_eq_true rfl) (Nat.le_of_ble_eq_true rfl) dX2_rewardOf_18
theorem wi_X2_stepWeightInto_X2 : ∀ w ∈ wsX20, w ∈ wsX2_stepWeightInto := fun w h => List.mem_cons_of_mem _ (List.mem_append_right _ (h))
theorem fl_X2_stepWeightInto_X2_3 : Cond.fieldLink RX2 21 (TX2 3).1 (TX2 3).2.1 (TX2 3).2.2.1 ∈ wsX2_stepWeightInto := List.mem_of_getElem? (i := 1) (by decide +kernel)
theorem li_X2_stepWeightInto_X11 : Cond.initialized RX11 ∈ wsX2_stepWeightInto := List.mem_of_getElem? (i := 3) (by decide +kernel)
theorem ls_X2_stepWeightInto_X11_contains : Cond.static yX11_contains ∈ wsX2_stepWeightInto := List.mem_of_getElem? (i := 2) (by decide +kernel)
theorem hd_X11_contains_n : yX11_contains.cls ≠ "java/lang/invoke/MethodHandle" ∧ yX11_contains.cls ≠ "java/lang/invoke/VarHandle" ∧ (parseMethodDescriptor yX11_contains.desc).map (fun d => d.parameters.length) = some 2 := by decide +kernel
def wp_X2_stepWeightInto_L5 (v1 : Int32) (v2 : Int32) (κ : US) (Q : Int32 → Prop) (P5 : (Int32 × Int32) → Prop) (t5 : Int32 × Int32) : Prop := ((iI κ 0) ≤ t5.2 → wp_X11_contains v2 v1 (fun (r1 : Int32) => (r1 = 0 → Q t5.1) ∧ (¬ r1 = 0 → wp_X2_sumOf v1 κ (fun (r2 : Int32) => (¬ r2 = 0 → Q t5.1) ∧ (r2 = 0 → Q 1))))) ∧ (¬ (iI κ 0) ≤ t5.2 → wp_X11_contains v2 t5.2 (fun (r5 : Int32) => (r5 = 0 → P5 (t5.1, t5.2 + 1)) ∧ (¬ r5 = 0 → wp_X2_weightOf v1 t5.2 κ (fun (r6 : Int32) => ∀ x7 : Int32, x7 = t5.1 + r6 → P5 (x7, t5.2 + 1)))))
def wp_X2_stepWeightInto (p1 : Int32) (p2 : Int32) (κ : US) (Q : Int32 → Prop) : Prop := lpW (wp_X2_stepWeightInto_L5 p1 p2 κ Q) (0, 0)
set_option maxRecDepth 100000 in
set_option maxHeartbeats 4000000 in
theorem c_X2_stepWeightInto (l : Launch) (D : va_G) (kc : Nat → ClassId) (ac : Nat → Nat) (p1 : Int32) (p2 : Int32) (κ : US) (Q : Int32 → Prop) (h : wp_X2_stepWeightInto p1 p2 κ Q) : kCi l D (tyL kc) yX2_stepWeightInto wsX2_stepWeightInto ({ frames := 2, cells := 0, slots := 0, locals := 46 } : Room) [.ref (ac 0), .int p1, .int p2] (wC kc ac κ) (fun _ : Unit => (wC kc ac κ)) 0 0 (fun r _ => Q r) := by
  intro sz
  refine k_begin (cc := cX2_stepWeightInto) (maxL := 5) (ret := (some .int)) (by decide +kernel) rfl rfl (fun p e s m args below meth c hsz E G ls hl => ?_)
  subst hsz
  have hl : lv_has ls 5 [(0, .ref (ac 0)), (1, .int p1), (2, .int p2)] := hl
  refine lv_iconst (v := 0) E.ex E.by dX2_stepWeightInto_0 (by decide) ?_
  refine lv_istore_n (lv' := [(3, .int 0), (0, .ref (ac 0)), (1, .int p1), (2, .int p2)]) E.ex E.by dX2_stepWeightInto_1 rfl hl (by decide) rfl (fun ls hl => ?_)
  refine lv_iconst (v := 0) E.ex E.by dX2_stepWeightInto_2 (by decide) ?_
  refine lv_istore (lv' := [(4, .int 0), (3, .int 0), (0, .ref (ac 0)), (1, .int p1), (2, .int p2)]) E.ex E.by dX2_stepWeightInto_3 hl (by decide) rfl (fun ls hl => ?_)
  refine lpW_ind (fun t1 : Int32 × Int32 => ∀ (H : Heap) (locs : List Loc) (ls : Array Slot), kG D (va_A (wC kc ac κ) s.heap.size) s (wC kc ac κ) H locs → lv_has ls 5 [(0, .ref (ac 0)), (1, .int p1), (2, .int p2), (3, .int t1.1), (4, .int t1.2)] → W p l e _ s m args below meth c H locs _ _ _ (F0 m 5 ls [])) (fun P5 IH5 t1 h H locs ls G hl => ?_) _ h _ _ _ G (lv_sub hl [2, 3, 4, 1, 0] rfl)
  refine lv_iload E.ex E.by dX2_stepWeightInto_5 (lv_at hl 4 rfl) ?_
  refine lv_aload_n E.ex E.by dX2_stepWeightInto_7 rfl (lv_at hl 0 rfl) ?_
  refine k_get E G wi_X2_stepWeightInto_X2 0 (gC_0 _ _ _) rfl 3 rfl fl_X2_stepWeightInto_X2_3 (v := .int (iI κ 0)) rfl dX2_stepWeightInto_8 ?_
  refine lv_icmp_ge (tgt := 39) E.ex E.by dX2_stepWeightInto_11 (by decide) (fun hc10 => ?_) (fun hc10 => ?_)
  · have h := h.1 hc10
    refine lv_iload_n E.ex E.by dX2_stepWeightInto_39 rfl (lv_at hl 2 rfl) ?_
    refine lv_iload_n E.ex E.by dX2_stepWeightInto_40 rfl (lv_at hl 1 rfl) ?_
    refine k_cSNi (X := (wC kc ac κ)) (w := []) (Z := []) (wnew := (fun _ : Unit => (wC kc ac κ))) (As := [.int p2, .int p1]) (rest := []) E (List.append_nil _).symm G (c_X11_contains l D kc _ _ _ h) gX2_stepWeightInto_X11_contains_n48 (by decide +kernel) li_X2_stepWeightInto_X11 ls_X2_stepWeightInto_X11_contains rfl ⟨rfl, rfl⟩ hd_X11_contains_n ⟨rfl, rfl⟩ rfl hl rfl rfl dX2_stepWeightInto_41 ⟨rfl, rfl⟩ (fun _ => (List.append_nil _).symm) (fun r2 _u41 hq H locs G => ?_)
    have h := hq
    refine lv_if_eq (tgt := 59) E.ex E.by dX2_stepWeightInto_44 (by decide) (fun hc5 => ?_) (fun hc5 => ?_)
    · have h := h.1 hc5
      refine lv_iload_n E.ex E.by dX2_stepWeightInto_59 rfl (lv_at hl 3 rfl) ?_
      exact k_ret (wof := (fun _ : Unit => (wC kc ac κ))) (u := ()) E G rfl h (Nat.le_of_ble_eq_true rfl) (Nat.le_of_ble_eq_true rfl) dX2_stepWeightInto_60
    · have h := h.2 hc5
      refine lv_aload_n E.ex E.by dX2_stepWeightInto_47 rfl (lv_at hl 0 rfl) ?_
      refine lv_iload_n E.ex E.by dX2_stepWeightInto_48 rfl (lv_at hl 1 rfl) ?_
      refine k_cVi (X := []) (w := (wC kc ac κ)) (Z := []) (wnew := (fun _ : Unit => (wC kc ac κ))) (As := [.int p1]) (rest := []) E (List.append_nil _).symm G (c_X2_sumOf l D kc _ _ _ _ h) gX2_stepWeightInto_X2_sumOf rfl ⟨rfl, rfl⟩ hd_X2_sumOf_v ⟨rfl, rfl⟩ 0 (gC_0 _ _ _) rfl rfl hl rfl rfl dX2_stepWeightInto_49 ⟨rfl, rfl⟩ (fun _ => (List.append_nil _).symm) (fun r3 _u49 hq H locs G => ?_)
      have h := hq
      refine lv_if_ne (tgt := 59) E.ex E.by dX2_stepWeightInto_52 (by decide) (fun hc4 => ?_) (fun hc4 => ?_)
      · have h := h.1 hc4
        refine lv_iload_n E.ex E.by dX2_stepWeightInto_59 rfl (lv_at hl 3 rfl) ?_
        exact k_ret (wof := (fun _ : Unit => (wC kc ac κ))) (u := ()) E G rfl h (Nat.le_of_ble_eq_true rfl) (Nat.le_of_ble_eq_true rfl) dX2_stepWeightInto_60
      · have h := h.2 hc4
        refine lv_iconst (v := 1) E.ex E.by dX2_stepWeightInto_55 (by decide) ?_
        refine lv_goto (tgt := 60) E.ex E.by dX2_stepWeightInto_56 (by decide) ?_
        exact k_ret (wof := (fun _ : Unit => (wC kc ac κ))) (u := ()) E G rfl h (Nat.le_of_ble_eq_true rfl) (Nat.le_of_ble_eq_true rfl) dX2_stepWeightInto_60
  · have h := h.2 hc10
    refine lv_iload_n E.ex E.by dX2_stepWeightInto_14 rfl (lv_at hl 2 rfl) ?_
    refine lv_iload E.ex E.by dX2_stepWeightInto_15 (lv_at hl 4 rfl) ?_
    refine k_cSNi (X := (wC kc ac κ)) (w := []) (Z := []) (wnew := (fun _ : Unit => (wC kc ac κ))) (As := [.int p2, .int t1.2]) (rest := []) E (List.append_nil _).symm G (c_X11_contains l D kc _ _ _ h) gX2_stepWeightInto_X11_contains_n48 (by decide +kernel) li_X2_stepWeightInto_X11 ls_X2_stepWeightInto_X11_contains rfl ⟨rfl, rfl⟩ hd_X11_contains_n ⟨rfl, rfl⟩ rfl hl rfl rfl dX2_stepWeightInto_17 ⟨rfl, rfl⟩ (fun _ => (List.append_nil _).symm) (fun r6 _u17 hq H locs G => ?_)
    have h := hq
    refine lv_if_eq (tgt := 33) E.ex E.by dX2_stepWeightInto_20 (by decide) (fun hc9 => ?_) (fun hc9 => ?_)
    · have h := h.1 hc9
      refine lv_iinc (k := 4) (v := t1.2 + 1) (lv' := [(4, .int (t1.2 + 1)), (0, .ref (ac 0)), (1, .int p1), (2, .int p2), (3, .int t1.1)]) E.ex E.by dX2_stepWeightInto_33 hl rfl (k_inc1 _) (by decide) rfl (fun ls hl => ?_)
      refine lv_goto (tgt := 5) E.ex E.by dX2_stepWeightInto_36 (by decide) ?_
      exact IH5 _ h _ _ _ G (lv_sub hl [1, 2, 3, 4, 0] rfl)
    · have h := h.2 hc9
      refine lv_iload_n E.ex E.by dX2_stepWeightInto_23 rfl (lv_at hl 3 rfl) ?_
      refine lv_aload_n E.ex E.by dX2_stepWeightInto_24 rfl (lv_at hl 0 rfl) ?_
      refine lv_iload_n E.ex E.by dX2_stepWeightInto_25 rfl (lv_at hl 1 rfl) ?_
      refine lv_iload E.ex E.by dX2_stepWeightInto_26 (lv_at hl 4 rfl) ?_
      refine k_cVi (X := []) (w := (wC kc ac κ)) (Z := []) (wnew := (fun _ : Unit => (wC kc ac κ))) (As := [.int p1, .int t1.2]) (rest := [.int t1.1]) E (List.append_nil _).symm G (c_X2_weightOf l D kc _ _ _ _ _ h) gX2_stepWeightInto_X2_weightOf rfl ⟨rfl, rfl⟩ hd_X2_weightOf_v ⟨rfl, rfl⟩ 0 (gC_0 _ _ _) rfl rfl hl rfl rfl dX2_stepWeightInto_28 ⟨rfl, rfl⟩ (fun _ => (List.append_nil _).symm) (fun r7 _u28 hq H locs G => ?_)
      have h := hq
      refine lv_iadd E.ex E.by dX2_stepWeightInto_31 ?_
      refine lv_topi (fun x8 ex8 => ?_)
      have h := h x8 ex8
      refine lv_istore_n (lv' := [(3, .int x8), (0, .ref (ac 0)), (1, .int p1), (2, .int p2), (4, .int t1.2)]) E.ex E.by dX2_stepWeightInto_32 rfl hl (by decide) rfl (fun ls hl => ?_)
      refine lv_iinc (k := 4) (v := t1.2 + 1) (lv' := [(4, .int (t1.2 + 1)), (3, .int x8), (0, .ref (ac 0)), (1, .int p1), (2, .int p2)]) E.ex E.by dX2_stepWeightInto_33 hl rfl (k_inc1 _) (by decide) rfl (fun ls hl => ?_)
      refine lv_goto (tgt := 5) E.ex E.by dX2_stepWeightInto_36 (by decide) ?_
      exact IH5 _ h _ _ _ G (lv_sub hl [2, 3, 4, 1, 0] rfl)
theorem wi_X2_successorsOf_X2 : ∀ w ∈ wsX20, w ∈ wsX2_successorsOf := fun w h => List.mem_cons_of_mem _ (List.mem_append_right _ (h))
theorem fl_X2_successorsOf_X2_3 : Cond.fieldLink RX2 21 (TX2 3).1 (TX2 3).2.1 (TX2 3).2.2.1 ∈ wsX2_successorsOf := List.mem_of_getElem? (i := 1) (by decide +kernel)
def wp_X2_successorsOf_L4 (v1 : Int32) (κ : US) (Q : Int32 → Prop) (P4 : (Int32 × Int32) → Prop) (t4 : Int32 × Int32) : Prop := ((iI κ 0) ≤ t4.2 → (¬ t4.1 = 0 → Q t4.1) ∧ (t4.1 = 0 → Q (1 <<< (v1 &&& 31)))) ∧ (¬ (iI κ 0) ≤ t4.2 → wp_X2_weightOf v1 t4.2 κ (fun (r2 : Int32) => (r2 ≤ 0 → P4 (t4.1, t4.2 + 1)) ∧ (¬ r2 ≤ 0 → ∀ x3 : Int32, x3 = t4.1 ||| (1 <<< (t4.2 &&& 31)) → P4 (x3, t4.2 + 1))))
def wp_X2_successorsOf (p1 : Int32) (κ : US) (Q : Int32 → Prop) : Prop := lpW (wp_X2_successorsOf_L4 p1 κ Q) (0, 0)
set_option maxRecDepth 100000 in
set_option maxHeartbeats 4000000 in
theorem c_X2_successorsOf (l : Launch) (D : va_G) (kc : Nat → ClassId) (ac : Nat → Nat) (p1 : Int32) (κ : US) (Q : Int32 → Prop) (h : wp_X2_successorsOf p1 κ Q) : kCi l D (tyL kc) yX2_successorsOf wsX2_successorsOf ({ frames := 1, cells := 0, slots := 0, locals := 23 } : Room) [.ref (ac 0), .int p1] (wC kc ac κ) (fun _ : Unit => (wC kc ac κ)) 0 0 (fun r _ => Q r) := by
  intro sz
  refine k_begin (cc := cX2_successorsOf) (maxL := 4) (ret := (some .int)) (by decide +kernel) rfl rfl (fun p e s m args below meth c hsz E G ls hl => ?_)
  subst hsz
  have hl : lv_has ls 4 [(0, .ref (ac 0)), (1, .int p1)] := hl
  refine lv_iconst (v := 0) E.ex E.by dX2_successorsOf_0 (by decide) ?_
  refine lv_istore_n (lv' := [(2, .int 0), (0, .ref (ac 0)), (1, .int p1)]) E.ex E.by dX2_successorsOf_1 rfl hl (by decide) rfl (fun ls hl => ?_)
  refine lv_iconst (v := 0) E.ex E.by dX2_successorsOf_2 (by decide) ?_
  refine lv_istore_n (lv' := [(3, .int 0), (2, .int 0), (0, .ref (ac 0)), (1, .int p1)]) E.ex E.by dX2_successorsOf_3 rfl hl (by decide) rfl (fun ls hl => ?_)
  refine lpW_ind (fun t1 : Int32 × Int32 => ∀ (H : Heap) (locs : List Loc) (ls : Array Slot), kG D (va_A (wC kc ac κ) s.heap.size) s (wC kc ac κ) H locs → lv_has ls 4 [(0, .ref (ac 0)), (1, .int p1), (2, .int t1.1), (3, .int t1.2)] → W p l e _ s m args below meth c H locs _ _ _ (F0 m 4 ls [])) (fun P4 IH4 t1 h H locs ls G hl => ?_) _ h _ _ _ G (lv_sub hl [2, 3, 1, 0] rfl)
  refine lv_iload_n E.ex E.by dX2_successorsOf_4 rfl (lv_at hl 3 rfl) ?_
  refine lv_aload_n E.ex E.by dX2_successorsOf_5 rfl (lv_at hl 0 rfl) ?_
  refine k_get E G wi_X2_successorsOf_X2 0 (gC_0 _ _ _) rfl 3 rfl fl_X2_successorsOf_X2_3 (v := .int (iI κ 0)) rfl dX2_successorsOf_6 ?_
  refine lv_icmp_ge (tgt := 33) E.ex E.by dX2_successorsOf_9 (by decide) (fun hc6 => ?_) (fun hc6 => ?_)
  · have h := h.1 hc6
    refine lv_iload_n E.ex E.by dX2_successorsOf_33 rfl (lv_at hl 2 rfl) ?_
    refine lv_if_ne (tgt := 43) E.ex E.by dX2_successorsOf_34 (by decide) (fun hc2 => ?_) (fun hc2 => ?_)
    · have h := h.1 hc2
      refine lv_iload_n E.ex E.by dX2_successorsOf_43 rfl (lv_at hl 2 rfl) ?_
      exact k_ret (wof := (fun _ : Unit => (wC kc ac κ))) (u := ()) E G rfl h (Nat.le_of_ble_eq_true rfl) (Nat.le_of_ble_eq_true rfl) dX2_successorsOf_44
    · have h := h.2 hc2
      refine lv_iconst (v := 1) E.ex E.by dX2_successorsOf_37 (by decide) ?_
      refine lv_iload_n E.ex E.by dX2_successorsOf_38 rfl (lv_at hl 1 rfl) ?_
      refine lv_ishl E.ex E.by dX2_successorsOf_39 ?_
      refine lv_goto (tgt := 44) E.ex E.by dX2_successorsOf_40 (by decide) ?_
      exact k_ret (wof := (fun _ : Unit => (wC kc ac κ))) (u := ()) E G rfl h (Nat.le_of_ble_eq_true rfl) (Nat.le_of_ble_eq_true rfl) dX2_successorsOf_44
  · have h := h.2 hc6
    refine lv_aload_n E.ex E.by dX2_successorsOf_12 rfl (lv_at hl 0 rfl) ?_
    refine lv_iload_n E.ex E.by dX2_successorsOf_13 rfl (lv_at hl 1 rfl) ?_
    refine lv_iload_n E.ex E.by dX2_successorsOf_14 rfl (lv_at hl 3 rfl) ?_
    refine k_cVi (X := []) (w := (wC kc ac κ)) (Z := []) (wnew := (fun _ : Unit => (wC kc ac κ))) (As := [.int p1, .int t1.2]) (rest := []) E (List.append_nil _).symm G (c_X2_weightOf l D kc _ _ _ _ _ h) gX2_successorsOf_X2_weightOf rfl ⟨rfl, rfl⟩ hd_X2_weightOf_v ⟨rfl, rfl⟩ 0 (gC_0 _ _ _) rfl rfl hl rfl rfl dX2_successorsOf_15 ⟨rfl, rfl⟩ (fun _ => (List.append_nil _).symm) (fun r3 _u15 hq H locs G => ?_)
    have h := hq
    refine lv_if_le (tgt := 27) E.ex E.by dX2_successorsOf_18 (by decide) (fun hc5 => ?_) (fun hc5 => ?_)
    · have h := h.1 hc5
      refine lv_iinc (k := 3) (v := t1.2 + 1) (lv' := [(3, .int (t1.2 + 1)), (0, .ref (ac 0)), (1, .int p1), (2, .int t1.1)]) E.ex E.by dX2_successorsOf_27 hl rfl (k_inc1 _) (by decide) rfl (fun ls hl => ?_)
      refine lv_goto (tgt := 4) E.ex E.by dX2_successorsOf_30 (by decide) ?_
      exact IH4 _ h _ _ _ G (lv_sub hl [1, 2, 3, 0] rfl)
    · have h := h.2 hc5
      refine lv_iload_n E.ex E.by dX2_successorsOf_21 rfl (lv_at hl 2 rfl) ?_
      refine lv_iconst (v := 1) E.ex E.by dX2_successorsOf_22 (by decide) ?_
      refine lv_iload_n E.ex E.by dX2_successorsOf_23 rfl (lv_at hl 3 rfl) ?_
      refine lv_ishl E.ex E.by dX2_successorsOf_24 ?_
      refine lv_ior E.ex E.by dX2_successorsOf_25 ?_
      refine lv_topi (fun x4 ex4 => ?_)
      have h := h x4 ex4
      refine lv_istore_n (lv' := [(2, .int x4), (0, .ref (ac 0)), (1, .int p1), (3, .int t1.2)]) E.ex E.by dX2_successorsOf_26 rfl hl (by decide) rfl (fun ls hl => ?_)
      refine lv_iinc (k := 3) (v := t1.2 + 1) (lv' := [(3, .int (t1.2 + 1)), (2, .int x4), (0, .ref (ac 0)), (1, .int p1)]) E.ex E.by dX2_successorsOf_27 hl rfl (k_inc1 _) (by decide) rfl (fun ls hl => ?_)
      refine lv_goto (tgt := 4) E.ex E.by dX2_successorsOf_30 (by decide) ?_
      exact IH4 _ h _ _ _ G (lv_sub hl [2, 3, 1, 0] rfl)
theorem wi_X2_labelled_X2 : ∀ w ∈ wsX20, w ∈ wsX2_labelled := fun w h => List.mem_cons_of_mem _ (List.mem_append_right _ (h))
theorem fl_X2_labelled_X2_3 : Cond.fieldLink RX2 21 (TX2 3).1 (TX2 3).2.1 (TX2 3).2.2.1 ∈ wsX2_labelled := List.mem_of_getElem? (i := 1) (by decide +kernel)
theorem li_X2_labelled_X11 : Cond.initialized RX11 ∈ wsX2_labelled := List.mem_of_getElem? (i := 13) (by decide +kernel)
theorem ls_X2_labelled_X11_contains : Cond.static yX11_contains ∈ wsX2_labelled := List.mem_of_getElem? (i := 12) (by decide +kernel)
theorem hd_X2_labelsOf_v : yX2_labelsOf.cls = RX2 ∧ yX2_labelsOf.cls ≠ "java/lang/invoke/MethodHandle" ∧ yX2_labelsOf.cls ≠ "java/lang/invoke/VarHandle" ∧ (parseMethodDescriptor yX2_labelsOf.desc).map (fun d => d.parameters.length) = some 1 := by decide +kernel
def wp_X2_labelled_L4 (v1 : Int32) (κ : US) (Q : Int32 → Prop) (P4 : (Int32 × Int32) → Prop) (t4 : Int32 × Int32) : Prop := ((iI κ 0) ≤ t4.2 → Q t4.1) ∧ (¬ (iI κ 0) ≤ t4.2 → wp_X2_labelsOf t4.2 κ (fun (r1 : Int32) => wp_X11_contains r1 v1 (fun (r2 : Int32) => (r2 = 0 → P4 (t4.1, t4.2 + 1)) ∧ (¬ r2 = 0 → ∀ x3 : Int32, x3 = t4.1 ||| (1 <<< (t4.2 &&& 31)) → P4 (x3, t4.2 + 1)))))
def wp_X2_labelled (p1 : Int32) (κ : US) (Q : Int32 → Prop) : Prop := lpW (wp_X2_labelled_L4 p1 κ Q) (0, 0)
set_option maxRecDepth 100000 in
set_option maxHeartbeats 4000000 in
theorem c_X2_labelled (l : Launch) (D : va_G) (kc : Nat → ClassId) (ac : Nat → Nat) (p1 : Int32) (κ : US) (Q : Int32 → Prop) (h : wp_X2_labelled p1 κ Q) : kCi l D (tyL kc) yX2_labelled wsX2_labelled ({ frames := 2, cells := 0, slots := 0, locals := 42 } : Room) [.ref (ac 0), .int p1] (wC kc ac κ) (fun _ : Unit => (wC kc ac κ)) 0 0 (fun r _ => Q r) := by
  intro sz
  refine k_begin (cc := cX2_labelled) (maxL := 4) (ret := (some .int)) (by decide +kernel) rfl rfl (fun p e s m args below meth c hsz E G ls hl => ?_)
  subst hsz
  have hl : lv_has ls 4 [(0, .ref (ac 0)), (1, .int p1)] := hl
  refine lv_iconst (v := 0) E.ex E.by dX2_labelled_0 (by decide) ?_
  refine lv_istore_n (lv' := [(2, .int 0), (0, .ref (ac 0)), (1, .int p1)]) E.ex E.by dX2_labelled_1 rfl hl (by decide) rfl (fun ls hl => ?_)
  refine lv_iconst (v := 0) E.ex E.by dX2_labelled_2 (by decide) ?_
  refine lv_istore_n (lv' := [(3, .int 0), (2, .int 0), (0, .ref (ac 0)), (1, .int p1)]) E.ex E.by dX2_labelled_3 rfl hl (by decide) rfl (fun ls hl => ?_)
  refine lpW_ind (fun t1 : Int32 × Int32 => ∀ (H : Heap) (locs : List Loc) (ls : Array Slot), kG D (va_A (wC kc ac κ) s.heap.size) s (wC kc ac κ) H locs → lv_has ls 4 [(0, .ref (ac 0)), (1, .int p1), (2, .int t1.1), (3, .int t1.2)] → W p l e _ s m args below meth c H locs _ _ _ (F0 m 4 ls [])) (fun P4 IH4 t1 h H locs ls G hl => ?_) _ h _ _ _ G (lv_sub hl [2, 3, 1, 0] rfl)
  refine lv_iload_n E.ex E.by dX2_labelled_4 rfl (lv_at hl 3 rfl) ?_
  refine lv_aload_n E.ex E.by dX2_labelled_5 rfl (lv_at hl 0 rfl) ?_
  refine k_get E G wi_X2_labelled_X2 0 (gC_0 _ _ _) rfl 3 rfl fl_X2_labelled_X2_3 (v := .int (iI κ 0)) rfl dX2_labelled_6 ?_
  refine lv_icmp_ge (tgt := 36) E.ex E.by dX2_labelled_9 (by decide) (fun hc6 => ?_) (fun hc6 => ?_)
  · have h := h.1 hc6
    refine lv_iload_n E.ex E.by dX2_labelled_36 rfl (lv_at hl 2 rfl) ?_
    exact k_ret (wof := (fun _ : Unit => (wC kc ac κ))) (u := ()) E G rfl h (Nat.le_of_ble_eq_true rfl) (Nat.le_of_ble_eq_true rfl) dX2_labelled_37
  · have h := h.2 hc6
    refine lv_aload_n E.ex E.by dX2_labelled_12 rfl (lv_at hl 0 rfl) ?_
    refine lv_iload_n E.ex E.by dX2_labelled_13 rfl (lv_at hl 3 rfl) ?_
    refine k_cVi (X := []) (w := (wC kc ac κ)) (Z := []) (wnew := (fun _ : Unit => (wC kc ac κ))) (As := [.int t1.2]) (rest := []) E (List.append_nil _).symm G (c_X2_labelsOf l D kc _ _ _ _ h) gX2_labelled_X2_labelsOf rfl ⟨rfl, rfl⟩ hd_X2_labelsOf_v ⟨rfl, rfl⟩ 0 (gC_0 _ _ _) rfl rfl hl rfl rfl dX2_labelled_14 ⟨rfl, rfl⟩ (fun _ => (List.append_nil _).symm) (fun r2 _u14 hq H locs G => ?_)
    have h := hq
    refine lv_iload_n E.ex E.by dX2_labelled_17 rfl (lv_at hl 1 rfl) ?_
    refine k_cSNi (X := (wC kc ac κ)) (w := []) (Z := []) (wnew := (fun _ : Unit => (wC kc ac κ))) (As := [.int r2, .int p1]) (rest := []) E (List.append_nil _).symm G (c_X11_contains l D kc _ _ _ h) gX2_labelled_X11_contains_n48 (by decide +kernel) li_X2_labelled_X11 ls_X2_labelled_X11_contains rfl ⟨rfl, rfl⟩ hd_X11_contains_n ⟨rfl, rfl⟩ rfl hl rfl rfl dX2_labelled_18 ⟨rfl, rfl⟩ (fun _ => (List.append_nil _).symm) (fun r3 _u18 hq H locs G => ?_)
    have h := hq
    refine lv_if_eq (tgt := 30) E.ex E.by dX2_labelled_21 (by decide) (fun hc5 => ?_) (fun hc5 => ?_)
    · have h := h.1 hc5
      refine lv_iinc (k := 3) (v := t1.2 + 1) (lv' := [(3, .int (t1.2 + 1)), (0, .ref (ac 0)), (1, .int p1), (2, .int t1.1)]) E.ex E.by dX2_labelled_30 hl rfl (k_inc1 _) (by decide) rfl (fun ls hl => ?_)
      refine lv_goto (tgt := 4) E.ex E.by dX2_labelled_33 (by decide) ?_
      exact IH4 _ h _ _ _ G (lv_sub hl [1, 2, 3, 0] rfl)
    · have h := h.2 hc5
      refine lv_iload_n E.ex E.by dX2_labelled_24 rfl (lv_at hl 2 rfl) ?_
      refine lv_iconst (v := 1) E.ex E.by dX2_labelled_25 (by decide) ?_
      refine lv_iload_n E.ex E.by dX2_labelled_26 rfl (lv_at hl 3 rfl) ?_
      refine lv_ishl E.ex E.by dX2_labelled_27 ?_
      refine lv_ior E.ex E.by dX2_labelled_28 ?_
      refine lv_topi (fun x4 ex4 => ?_)
      have h := h x4 ex4
      refine lv_istore_n (lv' := [(2, .int x4), (0, .ref (ac 0)), (1, .int p1), (3, .int t1.2)]) E.ex E.by dX2_labelled_29 rfl hl (by decide) rfl (fun ls hl => ?_)
      refine lv_iinc (k := 3) (v := t1.2 + 1) (lv' := [(3, .int (t1.2 + 1)), (2, .int x4), (0, .ref (ac 0)), (1, .int p1)]) E.ex E.by dX2_labelled_30 hl rfl (k_inc1 _) (by decide) rfl (fun ls hl => ?_)
      refine lv_goto (tgt := 4) E.ex E.by dX2_labelled_33 (by decide) ?_
      exact IH4 _ h _ _ _ G (lv_sub hl [2, 3, 1, 0] rfl)
theorem wi_X2_reachedFrom_X2 : ∀ w ∈ wsX20, w ∈ wsX2_reachedFrom := fun w h => List.mem_cons_of_mem _ (List.mem_append_right _ (h))
theorem fl_X2_reachedFrom_X2_3 : Cond.fieldLink RX2 21 (TX2 3).1 (TX2 3).2.1 (TX2 3).2.2.1 ∈ wsX2_reachedFrom := List.mem_of_getElem? (i := 1) (by decide +kernel)
theorem hd_X2_successorsOf_v : yX2_successorsOf.cls = RX2 ∧ yX2_successorsOf.cls ≠ "java/lang/invoke/MethodHandle" ∧ yX2_successorsOf.cls ≠ "java/lang/invoke/VarHandle" ∧ (parseMethodDescriptor yX2_successorsOf.desc).map (fun d => d.parameters.length) = some 1 := by decide +kernel
theorem li_X2_reachedFrom_X11 : Cond.initialized RX11 ∈ wsX2_reachedFrom := List.mem_of_getElem? (i := 3) (by decide +kernel)
theorem ls_X2_reachedFrom_X11_contains : Cond.static yX11_contains ∈ wsX2_reachedFrom := List.mem_of_getElem? (i := 2) (by decide +kernel)
def wp_X2_reachedFrom_L17 (v3 : Int32) (κ : US) (P6 : (Int32 × Int32) → Prop) (Q : Int32 → Prop) (P17 : (Int32 × Int32) → Prop) (t17 : Int32 × Int32) : Prop := ((iI κ 0) ≤ t17.2 → P6 (t17.1, v3 + 1)) ∧ (¬ (iI κ 0) ≤ t17.2 → wp_X11_contains t17.1 t17.2 (fun (r2 : Int32) => (r2 = 0 → P17 (t17.1, t17.2 + 1)) ∧ (¬ r2 = 0 → wp_X2_successorsOf t17.2 κ (fun (r3 : Int32) => ∀ x4 : Int32, x4 = t17.1 ||| r3 → P17 (x4, t17.2 + 1)))))
def wp_X2_reachedFrom_L6 (κ : US) (Q : Int32 → Prop) (P6 : (Int32 × Int32) → Prop) (t6 : Int32 × Int32) : Prop := ((iI κ 0) ≤ t6.2 → Q t6.1) ∧ (¬ (iI κ 0) ≤ t6.2 → lpW (wp_X2_reachedFrom_L17 t6.2 κ P6 Q) (t6.1, 0))
def wp_X2_reachedFrom (p1 : Int32) (κ : US) (Q : Int32 → Prop) : Prop := ∀ x1 : Int32, x1 = 1 <<< (p1 &&& 31) → lpW (wp_X2_reachedFrom_L6 κ Q) (x1, 0)
set_option maxRecDepth 100000 in
set_option maxHeartbeats 4000000 in
theorem c_X2_reachedFrom (l : Launch) (D : va_G) (kc : Nat → ClassId) (ac : Nat → Nat) (p1 : Int32) (κ : US) (Q : Int32 → Prop) (h : wp_X2_reachedFrom p1 κ Q) : kCi l D (tyL kc) yX2_reachedFrom wsX2_reachedFrom ({ frames := 2, cells := 0, slots := 0, locals := 46 } : Room) [.ref (ac 0), .int p1] (wC kc ac κ) (fun _ : Unit => (wC kc ac κ)) 0 0 (fun r _ => Q r) := by
  intro sz
  refine k_begin (cc := cX2_reachedFrom) (maxL := 5) (ret := (some .int)) (by decide +kernel) rfl rfl (fun p e s m args below meth c hsz E G ls hl => ?_)
  subst hsz
  have hl : lv_has ls 5 [(0, .ref (ac 0)), (1, .int p1)] := hl
  refine lv_iconst (v := 1) E.ex E.by dX2_reachedFrom_0 (by decide) ?_
  refine lv_iload_n E.ex E.by dX2_reachedFrom_1 rfl (lv_at hl 1 rfl) ?_
  refine lv_ishl E.ex E.by dX2_reachedFrom_2 ?_
  refine lv_topi (fun x1 ex1 => ?_)
  have h := h x1 ex1
  refine lv_istore_n (lv' := [(2, .int x1), (0, .ref (ac 0)), (1, .int p1)]) E.ex E.by dX2_reachedFrom_3 rfl hl (by decide) rfl (fun ls hl => ?_)
  refine lv_iconst (v := 0) E.ex E.by dX2_reachedFrom_4 (by decide) ?_
  refine lv_istore_n (lv' := [(3, .int 0), (2, .int x1), (0, .ref (ac 0)), (1, .int p1)]) E.ex E.by dX2_reachedFrom_5 rfl hl (by decide) rfl (fun ls hl => ?_)
  refine lpW_ind (fun t2 : Int32 × Int32 => ∀ (H : Heap) (locs : List Loc) (ls : Array Slot), kG D (va_A (wC kc ac κ) s.heap.size) s (wC kc ac κ) H locs → lv_has ls 5 [(0, .ref (ac 0)), (2, .int t2.1), (3, .int t2.2)] → W p l e _ s m args below meth c H locs _ _ _ (F0 m 6 ls [])) (fun P6 IH6 t2 h H locs ls G hl => ?_) _ h _ _ _ G (lv_sub hl [2, 1, 0] rfl)
  refine lv_iload_n E.ex E.by dX2_reachedFrom_6 rfl (lv_at hl 2 rfl) ?_
  refine lv_aload_n E.ex E.by dX2_reachedFrom_7 rfl (lv_at hl 0 rfl) ?_
  refine k_get E G wi_X2_reachedFrom_X2 0 (gC_0 _ _ _) rfl 3 rfl fl_X2_reachedFrom_X2_3 (v := .int (iI κ 0)) rfl dX2_reachedFrom_8 ?_
  refine lv_icmp_ge (tgt := 56) E.ex E.by dX2_reachedFrom_11 (by decide) (fun hc9 => ?_) (fun hc9 => ?_)
  · have h := h.1 hc9
    refine lv_iload_n E.ex E.by dX2_reachedFrom_56 rfl (lv_at hl 1 rfl) ?_
    exact k_ret (wof := (fun _ : Unit => (wC kc ac κ))) (u := ()) E G rfl h (Nat.le_of_ble_eq_true rfl) (Nat.le_of_ble_eq_true rfl) dX2_reachedFrom_57
  · have h := h.2 hc9
    refine lv_iconst (v := 0) E.ex E.by dX2_reachedFrom_14 (by decide) ?_
    refine lv_istore (lv' := [(4, .int 0), (0, .ref (ac 0)), (2, .int t2.1), (3, .int t2.2)]) E.ex E.by dX2_reachedFrom_15 hl (by decide) rfl (fun ls hl => ?_)
    refine lpW_ind (fun t3 : Int32 × Int32 => ∀ (H : Heap) (locs : List Loc) (ls : Array Slot), kG D (va_A (wC kc ac κ) s.heap.size) s (wC kc ac κ) H locs → lv_has ls 5 [(0, .ref (ac 0)), (2, .int t3.1), (3, .int t2.2), (4, .int t3.2)] → W p l e _ s m args below meth c H locs _ _ _ (F0 m 17 ls [])) (fun P17 IH17 t3 h H locs ls G hl => ?_) _ h _ _ _ G (lv_sub hl [1, 2, 3, 0] rfl)
    refine lv_iload E.ex E.by dX2_reachedFrom_17 (lv_at hl 3 rfl) ?_
    refine lv_aload_n E.ex E.by dX2_reachedFrom_19 rfl (lv_at hl 0 rfl) ?_
    refine k_get E G wi_X2_reachedFrom_X2 0 (gC_0 _ _ _) rfl 3 rfl fl_X2_reachedFrom_X2_3 (v := .int (iI κ 0)) rfl dX2_reachedFrom_20 ?_
    refine lv_icmp_ge (tgt := 50) E.ex E.by dX2_reachedFrom_23 (by decide) (fun hc8 => ?_) (fun hc8 => ?_)
    · have h := h.1 hc8
      refine lv_iinc (k := 2) (v := t2.2 + 1) (lv' := [(3, .int (t2.2 + 1)), (0, .ref (ac 0)), (2, .int t3.1), (4, .int t3.2)]) E.ex E.by dX2_reachedFrom_50 hl rfl (k_inc1 _) (by decide) rfl (fun ls hl => ?_)
      refine lv_goto (tgt := 6) E.ex E.by dX2_reachedFrom_53 (by decide) ?_
      exact IH6 _ h _ _ _ G (lv_sub hl [1, 2, 0] rfl)
    · have h := h.2 hc8
      refine lv_iload_n E.ex E.by dX2_reachedFrom_26 rfl (lv_at hl 1 rfl) ?_
      refine lv_iload E.ex E.by dX2_reachedFrom_27 (lv_at hl 3 rfl) ?_
      refine k_cSNi (X := (wC kc ac κ)) (w := []) (Z := []) (wnew := (fun _ : Unit => (wC kc ac κ))) (As := [.int t3.1, .int t3.2]) (rest := []) E (List.append_nil _).symm G (c_X11_contains l D kc _ _ _ h) gX2_reachedFrom_X11_contains_n48 (by decide +kernel) li_X2_reachedFrom_X11 ls_X2_reachedFrom_X11_contains rfl ⟨rfl, rfl⟩ hd_X11_contains_n ⟨rfl, rfl⟩ rfl hl rfl rfl dX2_reachedFrom_29 ⟨rfl, rfl⟩ (fun _ => (List.append_nil _).symm) (fun r4 _u29 hq H locs G => ?_)
      have h := hq
      refine lv_if_eq (tgt := 44) E.ex E.by dX2_reachedFrom_32 (by decide) (fun hc7 => ?_) (fun hc7 => ?_)
      · have h := h.1 hc7
        refine lv_iinc (k := 3) (v := t3.2 + 1) (lv' := [(4, .int (t3.2 + 1)), (0, .ref (ac 0)), (2, .int t3.1), (3, .int t2.2)]) E.ex E.by dX2_reachedFrom_44 hl rfl (k_inc1 _) (by decide) rfl (fun ls hl => ?_)
        refine lv_goto (tgt := 17) E.ex E.by dX2_reachedFrom_47 (by decide) ?_
        exact IH17 _ h _ _ _ G (lv_sub hl [1, 2, 3, 0] rfl)
      · have h := h.2 hc7
        refine lv_iload_n E.ex E.by dX2_reachedFrom_35 rfl (lv_at hl 1 rfl) ?_
        refine lv_aload_n E.ex E.by dX2_reachedFrom_36 rfl (lv_at hl 0 rfl) ?_
        refine lv_iload E.ex E.by dX2_reachedFrom_37 (lv_at hl 3 rfl) ?_
        refine k_cVi (X := []) (w := (wC kc ac κ)) (Z := []) (wnew := (fun _ : Unit => (wC kc ac κ))) (As := [.int t3.2]) (rest := [.int t3.1]) E (List.append_nil _).symm G (c_X2_successorsOf l D kc _ _ _ _ h) gX2_reachedFrom_X2_successorsOf rfl ⟨rfl, rfl⟩ hd_X2_successorsOf_v ⟨rfl, rfl⟩ 0 (gC_0 _ _ _) rfl rfl hl rfl rfl dX2_reachedFrom_39 ⟨rfl, rfl⟩ (fun _ => (List.append_nil _).symm) (fun r5 _u39 hq H locs G => ?_)
        have h := hq
        refine lv_ior E.ex E.by dX2_reachedFrom_42 ?_
        refine lv_topi (fun x6 ex6 => ?_)
        have h := h x6 ex6
        refine lv_istore_n (lv' := [(2, .int x6), (0, .ref (ac 0)), (3, .int t2.2), (4, .int t3.2)]) E.ex E.by dX2_reachedFrom_43 rfl hl (by decide) rfl (fun ls hl => ?_)
        refine lv_iinc (k := 3) (v := t3.2 + 1) (lv' := [(4, .int (t3.2 + 1)), (2, .int x6), (0, .ref (ac 0)), (3, .int t2.2)]) E.ex E.by dX2_reachedFrom_44 hl rfl (k_inc1 _) (by decide) rfl (fun ls hl => ?_)
        refine lv_goto (tgt := 17) E.ex E.by dX2_reachedFrom_47 (by decide) ?_
        exact IH17 _ h _ _ _ G (lv_sub hl [2, 1, 3, 0] rfl)
theorem wi_X2_componentOf_X2 : ∀ w ∈ wsX20, w ∈ wsX2_componentOf := fun w h => List.mem_cons_of_mem _ (List.mem_append_right _ (h))
theorem fl_X2_componentOf_X2_3 : Cond.fieldLink RX2 21 (TX2 3).1 (TX2 3).2.1 (TX2 3).2.2.1 ∈ wsX2_componentOf := List.mem_of_getElem? (i := 1) (by decide +kernel)
theorem li_X2_componentOf_X11 : Cond.initialized RX11 ∈ wsX2_componentOf := List.mem_of_getElem? (i := 8) (by decide +kernel)
theorem ls_X2_componentOf_X11_contains : Cond.static yX11_contains ∈ wsX2_componentOf := List.mem_of_getElem? (i := 7) (by decide +kernel)
theorem hd_X2_reachedFrom_v : yX2_reachedFrom.cls = RX2 ∧ yX2_reachedFrom.cls ≠ "java/lang/invoke/MethodHandle" ∧ yX2_reachedFrom.cls ≠ "java/lang/invoke/VarHandle" ∧ (parseMethodDescriptor yX2_reachedFrom.desc).map (fun d => d.parameters.length) = some 1 := by decide +kernel
def wp_X2_componentOf_L11 (v2 : Int32) (v1 : Int32) (κ : US) (Q : Int32 → Prop) (P11 : (Int32 × Int32) → Prop) (t11 : Int32 × Int32) : Prop := ((iI κ 0) ≤ t11.2 → Q t11.1) ∧ (¬ (iI κ 0) ≤ t11.2 → wp_X11_contains v2 t11.2 (fun (r2 : Int32) => (r2 = 0 → P11 (t11.1, t11.2 + 1)) ∧ (¬ r2 = 0 → wp_X2_reachedFrom t11.2 κ (fun (r3 : Int32) => wp_X11_contains r3 v1 (fun (r4 : Int32) => (r4 = 0 → P11 (t11.1, t11.2 + 1)) ∧ (¬ r4 = 0 → ∀ x5 : Int32, x5 = t11.1 ||| (1 <<< (t11.2 &&& 31)) → P11 (x5, t11.2 + 1)))))))
def wp_X2_componentOf (p1 : Int32) (κ : US) (Q : Int32 → Prop) : Prop := wp_X2_reachedFrom p1 κ (fun (r1 : Int32) => lpW (wp_X2_componentOf_L11 r1 p1 κ Q) (0, 0))
set_option maxRecDepth 100000 in
set_option maxHeartbeats 4000000 in
theorem c_X2_componentOf (l : Launch) (D : va_G) (kc : Nat → ClassId) (ac : Nat → Nat) (p1 : Int32) (κ : US) (Q : Int32 → Prop) (h : wp_X2_componentOf p1 κ Q) : kCi l D (tyL kc) yX2_componentOf wsX2_componentOf ({ frames := 3, cells := 0, slots := 0, locals := 70 } : Room) [.ref (ac 0), .int p1] (wC kc ac κ) (fun _ : Unit => (wC kc ac κ)) 0 0 (fun r _ => Q r) := by
  intro sz
  refine k_begin (cc := cX2_componentOf) (maxL := 5) (ret := (some .int)) (by decide +kernel) rfl rfl (fun p e s m args below meth c hsz E G ls hl => ?_)
  subst hsz
  have hl : lv_has ls 5 [(0, .ref (ac 0)), (1, .int p1)] := hl
  refine lv_aload_n E.ex E.by dX2_componentOf_0 rfl (lv_at hl 0 rfl) ?_
  refine lv_iload_n E.ex E.by dX2_componentOf_1 rfl (lv_at hl 1 rfl) ?_
  refine k_cVi (X := []) (w := (wC kc ac κ)) (Z := []) (wnew := (fun _ : Unit => (wC kc ac κ))) (As := [.int p1]) (rest := []) E (List.append_nil _).symm G (c_X2_reachedFrom l D kc _ _ _ _ h) gX2_componentOf_X2_reachedFrom rfl ⟨rfl, rfl⟩ hd_X2_reachedFrom_v ⟨rfl, rfl⟩ 0 (gC_0 _ _ _) rfl rfl hl rfl rfl dX2_componentOf_2 ⟨rfl, rfl⟩ (fun _ => (List.append_nil _).symm) (fun r1 _u2 hq H locs G => ?_)
  have h := hq
  refine lv_istore_n (lv' := [(2, .int r1), (0, .ref (ac 0)), (1, .int p1)]) E.ex E.by dX2_componentOf_5 rfl hl (by decide) rfl (fun ls hl => ?_)
  refine lv_iconst (v := 0) E.ex E.by dX2_componentOf_6 (by decide) ?_
  refine lv_istore_n (lv' := [(3, .int 0), (2, .int r1), (0, .ref (ac 0)), (1, .int p1)]) E.ex E.by dX2_componentOf_7 rfl hl (by decide) rfl (fun ls hl => ?_)
  refine lv_iconst (v := 0) E.ex E.by dX2_componentOf_8 (by decide) ?_
  refine lv_istore (lv' := [(4, .int 0), (3, .int 0), (2, .int r1), (0, .ref (ac 0)), (1, .int p1)]) E.ex E.by dX2_componentOf_9 hl (by decide) rfl (fun ls hl => ?_)
  refine lpW_ind (fun t2 : Int32 × Int32 => ∀ (H : Heap) (locs : List Loc) (ls : Array Slot), kG D (va_A (wC kc ac κ) s.heap.size) s (wC kc ac κ) H locs → lv_has ls 5 [(0, .ref (ac 0)), (1, .int p1), (2, .int r1), (3, .int t2.1), (4, .int t2.2)] → W p l e _ s m args below meth c H locs _ _ _ (F0 m 11 ls [])) (fun P11 IH11 t2 h H locs ls G hl => ?_) _ h _ _ _ G (lv_sub hl [3, 4, 2, 1, 0] rfl)
  refine lv_iload E.ex E.by dX2_componentOf_11 (lv_at hl 4 rfl) ?_
  refine lv_aload_n E.ex E.by dX2_componentOf_13 rfl (lv_at hl 0 rfl) ?_
  refine k_get E G wi_X2_componentOf_X2 0 (gC_0 _ _ _) rfl 3 rfl fl_X2_componentOf_X2_3 (v := .int (iI κ 0)) rfl dX2_componentOf_14 ?_
  refine lv_icmp_ge (tgt := 55) E.ex E.by dX2_componentOf_17 (by decide) (fun hc9 => ?_) (fun hc9 => ?_)
  · have h := h.1 hc9
    refine lv_iload_n E.ex E.by dX2_componentOf_55 rfl (lv_at hl 3 rfl) ?_
    exact k_ret (wof := (fun _ : Unit => (wC kc ac κ))) (u := ()) E G rfl h (Nat.le_of_ble_eq_true rfl) (Nat.le_of_ble_eq_true rfl) dX2_componentOf_56
  · have h := h.2 hc9
    refine lv_iload_n E.ex E.by dX2_componentOf_20 rfl (lv_at hl 2 rfl) ?_
    refine lv_iload E.ex E.by dX2_componentOf_21 (lv_at hl 4 rfl) ?_
    refine k_cSNi (X := (wC kc ac κ)) (w := []) (Z := []) (wnew := (fun _ : Unit => (wC kc ac κ))) (As := [.int r1, .int t2.2]) (rest := []) E (List.append_nil _).symm G (c_X11_contains l D kc _ _ _ h) gX2_componentOf_X11_contains_n48 (by decide +kernel) li_X2_componentOf_X11 ls_X2_componentOf_X11_contains rfl ⟨rfl, rfl⟩ hd_X11_contains_n ⟨rfl, rfl⟩ rfl hl rfl rfl dX2_componentOf_23 ⟨rfl, rfl⟩ (fun _ => (List.append_nil _).symm) (fun r3 _u23 hq H locs G => ?_)
    have h := hq
    refine lv_if_eq (tgt := 49) E.ex E.by dX2_componentOf_26 (by decide) (fun hc8 => ?_) (fun hc8 => ?_)
    · have h := h.1 hc8
      refine lv_iinc (k := 4) (v := t2.2 + 1) (lv' := [(4, .int (t2.2 + 1)), (0, .ref (ac 0)), (1, .int p1), (2, .int r1), (3, .int t2.1)]) E.ex E.by dX2_componentOf_49 hl rfl (k_inc1 _) (by decide) rfl (fun ls hl => ?_)
      refine lv_goto (tgt := 11) E.ex E.by dX2_componentOf_52 (by decide) ?_
      exact IH11 _ h _ _ _ G (lv_sub hl [1, 2, 3, 4, 0] rfl)
    · have h := h.2 hc8
      refine lv_aload_n E.ex E.by dX2_componentOf_29 rfl (lv_at hl 0 rfl) ?_
      refine lv_iload E.ex E.by dX2_componentOf_30 (lv_at hl 4 rfl) ?_
      refine k_cVi (X := []) (w := (wC kc ac κ)) (Z := []) (wnew := (fun _ : Unit => (wC kc ac κ))) (As := [.int t2.2]) (rest := []) E (List.append_nil _).symm G (c_X2_reachedFrom l D kc _ _ _ _ h) gX2_componentOf_X2_reachedFrom rfl ⟨rfl, rfl⟩ hd_X2_reachedFrom_v ⟨rfl, rfl⟩ 0 (gC_0 _ _ _) rfl rfl hl rfl rfl dX2_componentOf_32 ⟨rfl, rfl⟩ (fun _ => (List.append_nil _).symm) (fun r4 _u32 hq H locs G => ?_)
      have h := hq
      refine lv_iload_n E.ex E.by dX2_componentOf_35 rfl (lv_at hl 1 rfl) ?_
      refine k_cSNi (X := (wC kc ac κ)) (w := []) (Z := []) (wnew := (fun _ : Unit => (wC kc ac κ))) (As := [.int r4, .int p1]) (rest := []) E (List.append_nil _).symm G (c_X11_contains l D kc _ _ _ h) gX2_componentOf_X11_contains_n48 (by decide +kernel) li_X2_componentOf_X11 ls_X2_componentOf_X11_contains rfl ⟨rfl, rfl⟩ hd_X11_contains_n ⟨rfl, rfl⟩ rfl hl rfl rfl dX2_componentOf_36 ⟨rfl, rfl⟩ (fun _ => (List.append_nil _).symm) (fun r5 _u36 hq H locs G => ?_)
      have h := hq
      refine lv_if_eq (tgt := 49) E.ex E.by dX2_componentOf_39 (by decide) (fun hc7 => ?_) (fun hc7 => ?_)
      · have h := h.1 hc7
        refine lv_iinc (k := 4) (v := t2.2 + 1) (lv' := [(4, .int (t2.2 + 1)), (0, .ref (ac 0)), (1, .int p1), (2, .int r1), (3, .int t2.1)]) E.ex E.by dX2_componentOf_49 hl rfl (k_inc1 _) (by decide) rfl (fun ls hl => ?_)
        refine lv_goto (tgt := 11) E.ex E.by dX2_componentOf_52 (by decide) ?_
        exact IH11 _ h _ _ _ G (lv_sub hl [1, 2, 3, 4, 0] rfl)
      · have h := h.2 hc7
        refine lv_iload_n E.ex E.by dX2_componentOf_42 rfl (lv_at hl 3 rfl) ?_
        refine lv_iconst (v := 1) E.ex E.by dX2_componentOf_43 (by decide) ?_
        refine lv_iload E.ex E.by dX2_componentOf_44 (lv_at hl 4 rfl) ?_
        refine lv_ishl E.ex E.by dX2_componentOf_46 ?_
        refine lv_ior E.ex E.by dX2_componentOf_47 ?_
        refine lv_topi (fun x6 ex6 => ?_)
        have h := h x6 ex6
        refine lv_istore_n (lv' := [(3, .int x6), (0, .ref (ac 0)), (1, .int p1), (2, .int r1), (4, .int t2.2)]) E.ex E.by dX2_componentOf_48 rfl hl (by decide) rfl (fun ls hl => ?_)
        refine lv_iinc (k := 4) (v := t2.2 + 1) (lv' := [(4, .int (t2.2 + 1)), (3, .int x6), (0, .ref (ac 0)), (1, .int p1), (2, .int r1)]) E.ex E.by dX2_componentOf_49 hl rfl (k_inc1 _) (by decide) rfl (fun ls hl => ?_)
        refine lv_goto (tgt := 11) E.ex E.by dX2_componentOf_52 (by decide) ?_
        exact IH11 _ h _ _ _ G (lv_sub hl [2, 3, 4, 1, 0] rfl)
theorem wi_X2_bottomStates_X2 : ∀ w ∈ wsX20, w ∈ wsX2_bottomStates := fun w h => List.mem_cons_of_mem _ (List.mem_append_right _ (h))
theorem fl_X2_bottomStates_X2_3 : Cond.fieldLink RX2 21 (TX2 3).1 (TX2 3).2.1 (TX2 3).2.2.1 ∈ wsX2_bottomStates := List.mem_of_getElem? (i := 1) (by decide +kernel)
theorem li_X2_bottomStates_X11 : Cond.initialized RX11 ∈ wsX2_bottomStates := List.mem_of_getElem? (i := 12) (by decide +kernel)
theorem ls_X2_bottomStates_X11_contains : Cond.static yX11_contains ∈ wsX2_bottomStates := List.mem_of_getElem? (i := 11) (by decide +kernel)
theorem hd_X2_all_v : yX2_all.cls = RX2 ∧ yX2_all.cls ≠ "java/lang/invoke/MethodHandle" ∧ yX2_all.cls ≠ "java/lang/invoke/VarHandle" ∧ (parseMethodDescriptor yX2_all.desc).map (fun d => d.parameters.length) = some 0 := by decide +kernel
def wp_X2_bottomStates_L24 (v3 : Int32) (v2 : Int32) (κ : US) (P7 : (Int32 × Int32) → Prop) (Q : Int32 → Prop) (P24 : (Int32 × Int32) → Prop) (t24 : Int32 × Int32) : Prop := ((iI κ 0) ≤ t24.2 → P7 (t24.1, v2 + 1)) ∧ (¬ (iI κ 0) ≤ t24.2 → wp_X11_contains v3 t24.2 (fun (r3 : Int32) => (r3 = 0 → P24 (t24.1, t24.2 + 1)) ∧ (¬ r3 = 0 → wp_X2_reachedFrom t24.2 κ (fun (r4 : Int32) => wp_X11_contains r4 v2 (fun (r5 : Int32) => (¬ r5 = 0 → P24 (t24.1, t24.2 + 1)) ∧ (r5 = 0 → ∀ x6 : Int32, x6 = t24.1 &&& ((1 <<< (v2 &&& 31)) ^^^ (-1)) → P24 (x6, t24.2 + 1)))))))
def wp_X2_bottomStates_L7 (κ : US) (Q : Int32 → Prop) (P7 : (Int32 × Int32) → Prop) (t7 : Int32 × Int32) : Prop := ((iI κ 0) ≤ t7.2 → Q t7.1) ∧ (¬ (iI κ 0) ≤ t7.2 → wp_X2_reachedFrom t7.2 κ (fun (r2 : Int32) => lpW (wp_X2_bottomStates_L24 r2 t7.2 κ P7 Q) (t7.1, 0)))
def wp_X2_bottomStates (κ : US) (Q : Int32 → Prop) : Prop := wp_X2_all κ (fun (r1 : Int32) => lpW (wp_X2_bottomStates_L7 κ Q) (r1, 0))
set_option maxRecDepth 100000 in
set_option maxHeartbeats 4000000 in
theorem c_X2_bottomStates (l : Launch) (D : va_G) (kc : Nat → ClassId) (ac : Nat → Nat) (κ : US) (Q : Int32 → Prop) (h : wp_X2_bottomStates κ Q) : kCi l D (tyL kc) yX2_bottomStates wsX2_bottomStates ({ frames := 3, cells := 0, slots := 0, locals := 70 } : Room) [.ref (ac 0)] (wC kc ac κ) (fun _ : Unit => (wC kc ac κ)) 0 0 (fun r _ => Q r) := by
  intro sz
  refine k_begin (cc := cX2_bottomStates) (maxL := 5) (ret := (some .int)) (by decide +kernel) rfl rfl (fun p e s m args below meth c hsz E G ls hl => ?_)
  subst hsz
  have hl : lv_has ls 5 [(0, .ref (ac 0))] := hl
  refine lv_aload_n E.ex E.by dX2_bottomStates_0 rfl (lv_at hl 0 rfl) ?_
  refine k_cVi (X := []) (w := (wC kc ac κ)) (Z := []) (wnew := (fun _ : Unit => (wC kc ac κ))) (As := []) (rest := []) E (List.append_nil _).symm G (c_X2_all l D kc _ _ _ h) gX2_bottomStates_X2_all rfl ⟨rfl, rfl⟩ hd_X2_all_v ⟨rfl, rfl⟩ 0 (gC_0 _ _ _) rfl rfl hl rfl rfl dX2_bottomStates_1 ⟨rfl, rfl⟩ (fun _ => (List.append_nil _).symm) (fun r1 _u1 hq H locs G => ?_)
  have h := hq
  refine lv_istore_n (lv' := [(1, .int r1), (0, .ref (ac 0))]) E.ex E.by dX2_bottomStates_4 rfl hl (by decide) rfl (fun ls hl => ?_)
  refine lv_iconst (v := 0) E.ex E.by dX2_bottomStates_5 (by decide) ?_
  refine lv_istore_n (lv' := [(2, .int 0), (1, .int r1), (0, .ref (ac 0))]) E.ex E.by dX2_bottomStates_6 rfl hl (by decide) rfl (fun ls hl => ?_)
  refine lpW_ind (fun t2 : Int32 × Int32 => ∀ (H : Heap) (locs : List Loc) (ls : Array Slot), kG D (va_A (wC kc ac κ) s.heap.size) s (wC kc ac κ) H locs → lv_has ls 5 [(0, .ref (ac 0)), (1, .int t2.1), (2, .int t2.2)] → W p l e _ s m args below meth c H locs _ _ _ (F0 m 7 ls [])) (fun P7 IH7 t2 h H locs ls G hl => ?_) _ h _ _ _ G (lv_sub hl [2, 1, 0] rfl)
  refine lv_iload_n E.ex E.by dX2_bottomStates_7 rfl (lv_at hl 2 rfl) ?_
  refine lv_aload_n E.ex E.by dX2_bottomStates_8 rfl (lv_at hl 0 rfl) ?_
  refine k_get E G wi_X2_bottomStates_X2 0 (gC_0 _ _ _) rfl 3 rfl fl_X2_bottomStates_X2_3 (v := .int (iI κ 0)) rfl dX2_bottomStates_9 ?_
  refine lv_icmp_ge (tgt := 75) E.ex E.by dX2_bottomStates_12 (by decide) (fun hc12 => ?_) (fun hc12 => ?_)
  · have h := h.1 hc12
    refine lv_iload_n E.ex E.by dX2_bottomStates_75 rfl (lv_at hl 1 rfl) ?_
    exact k_ret (wof := (fun _ : Unit => (wC kc ac κ))) (u := ()) E G rfl h (Nat.le_of_ble_eq_true rfl) (Nat.le_of_ble_eq_true rfl) dX2_bottomStates_76
  · have h := h.2 hc12
    refine lv_aload_n E.ex E.by dX2_bottomStates_15 rfl (lv_at hl 0 rfl) ?_
    refine lv_iload_n E.ex E.by dX2_bottomStates_16 rfl (lv_at hl 2 rfl) ?_
    refine k_cVi (X := []) (w := (wC kc ac κ)) (Z := []) (wnew := (fun _ : Unit => (wC kc ac κ))) (As := [.int t2.2]) (rest := []) E (List.append_nil _).symm G (c_X2_reachedFrom l D kc _ _ _ _ h) gX2_bottomStates_X2_reachedFrom rfl ⟨rfl, rfl⟩ hd_X2_reachedFrom_v ⟨rfl, rfl⟩ 0 (gC_0 _ _ _) rfl rfl hl rfl rfl dX2_bottomStates_17 ⟨rfl, rfl⟩ (fun _ => (List.append_nil _).symm) (fun r3 _u17 hq H locs G => ?_)
    have h := hq
    refine lv_istore_n (lv' := [(3, .int r3), (0, .ref (ac 0)), (1, .int t2.1), (2, .int t2.2)]) E.ex E.by dX2_bottomStates_20 rfl hl (by decide) rfl (fun ls hl => ?_)
    refine lv_iconst (v := 0) E.ex E.by dX2_bottomStates_21 (by decide) ?_
    refine lv_istore (lv' := [(4, .int 0), (3, .int r3), (0, .ref (ac 0)), (1, .int t2.1), (2, .int t2.2)]) E.ex E.by dX2_bottomStates_22 hl (by decide) rfl (fun ls hl => ?_)
    refine lpW_ind (fun t4 : Int32 × Int32 => ∀ (H : Heap) (locs : List Loc) (ls : Array Slot), kG D (va_A (wC kc ac κ) s.heap.size) s (wC kc ac κ) H locs → lv_has ls 5 [(0, .ref (ac 0)), (1, .int t4.1), (2, .int t2.2), (3, .int r3), (4, .int t4.2)] → W p l e _ s m args below meth c H locs _ _ _ (F0 m 24 ls [])) (fun P24 IH24 t4 h H locs ls G hl => ?_) _ h _ _ _ G (lv_sub hl [2, 3, 4, 1, 0] rfl)
    refine lv_iload E.ex E.by dX2_bottomStates_24 (lv_at hl 4 rfl) ?_
    refine lv_aload_n E.ex E.by dX2_bottomStates_26 rfl (lv_at hl 0 rfl) ?_
    refine k_get E G wi_X2_bottomStates_X2 0 (gC_0 _ _ _) rfl 3 rfl fl_X2_bottomStates_X2_3 (v := .int (iI κ 0)) rfl dX2_bottomStates_27 ?_
    refine lv_icmp_ge (tgt := 69) E.ex E.by dX2_bottomStates_30 (by decide) (fun hc11 => ?_) (fun hc11 => ?_)
    · have h := h.1 hc11
      refine lv_iinc (k := 2) (v := t2.2 + 1) (lv' := [(2, .int (t2.2 + 1)), (0, .ref (ac 0)), (1, .int t4.1), (3, .int r3), (4, .int t4.2)]) E.ex E.by dX2_bottomStates_69 hl rfl (k_inc1 _) (by decide) rfl (fun ls hl => ?_)
      refine lv_goto (tgt := 7) E.ex E.by dX2_bottomStates_72 (by decide) ?_
      exact IH7 _ h _ _ _ G (lv_sub hl [1, 2, 0] rfl)
    · have h := h.2 hc11
      refine lv_iload_n E.ex E.by dX2_bottomStates_33 rfl (lv_at hl 3 rfl) ?_
      refine lv_iload E.ex E.by dX2_bottomStates_34 (lv_at hl 4 rfl) ?_
      refine k_cSNi (X := (wC kc ac κ)) (w := []) (Z := []) (wnew := (fun _ : Unit => (wC kc ac κ))) (As := [.int r3, .int t4.2]) (rest := []) E (List.append_nil _).symm G (c_X11_contains l D kc _ _ _ h) gX2_bottomStates_X11_contains_n48 (by decide +kernel) li_X2_bottomStates_X11 ls_X2_bottomStates_X11_contains rfl ⟨rfl, rfl⟩ hd_X11_contains_n ⟨rfl, rfl⟩ rfl hl rfl rfl dX2_bottomStates_36 ⟨rfl, rfl⟩ (fun _ => (List.append_nil _).symm) (fun r5 _u36 hq H locs G => ?_)
      have h := hq
      refine lv_if_eq (tgt := 63) E.ex E.by dX2_bottomStates_39 (by decide) (fun hc10 => ?_) (fun hc10 => ?_)
      · have h := h.1 hc10
        refine lv_iinc (k := 4) (v := t4.2 + 1) (lv' := [(4, .int (t4.2 + 1)), (0, .ref (ac 0)), (1, .int t4.1), (2, .int t2.2), (3, .int r3)]) E.ex E.by dX2_bottomStates_63 hl rfl (k_inc1 _) (by decide) rfl (fun ls hl => ?_)
        refine lv_goto (tgt := 24) E.ex E.by dX2_bottomStates_66 (by decide) ?_
        exact IH24 _ h _ _ _ G (lv_sub hl [1, 2, 3, 4, 0] rfl)
      · have h := h.2 hc10
        refine lv_aload_n E.ex E.by dX2_bottomStates_42 rfl (lv_at hl 0 rfl) ?_
        refine lv_iload E.ex E.by dX2_bottomStates_43 (lv_at hl 4 rfl) ?_
        refine k_cVi (X := []) (w := (wC kc ac κ)) (Z := []) (wnew := (fun _ : Unit => (wC kc ac κ))) (As := [.int t4.2]) (rest := []) E (List.append_nil _).symm G (c_X2_reachedFrom l D kc _ _ _ _ h) gX2_bottomStates_X2_reachedFrom rfl ⟨rfl, rfl⟩ hd_X2_reachedFrom_v ⟨rfl, rfl⟩ 0 (gC_0 _ _ _) rfl rfl hl rfl rfl dX2_bottomStates_45 ⟨rfl, rfl⟩ (fun _ => (List.append_nil _).symm) (fun r6 _u45 hq H locs G => ?_)
        have h := hq
        refine lv_iload_n E.ex E.by dX2_bottomStates_48 rfl (lv_at hl 2 rfl) ?_
        refine k_cSNi (X := (wC kc ac κ)) (w := []) (Z := []) (wnew := (fun _ : Unit => (wC kc ac κ))) (As := [.int r6, .int t2.2]) (rest := []) E (List.append_nil _).symm G (c_X11_contains l D kc _ _ _ h) gX2_bottomStates_X11_contains_n48 (by decide +kernel) li_X2_bottomStates_X11 ls_X2_bottomStates_X11_contains rfl ⟨rfl, rfl⟩ hd_X11_contains_n ⟨rfl, rfl⟩ rfl hl rfl rfl dX2_bottomStates_49 ⟨rfl, rfl⟩ (fun _ => (List.append_nil _).symm) (fun r7 _u49 hq H locs G => ?_)
        have h := hq
        refine lv_if_ne (tgt := 63) E.ex E.by dX2_bottomStates_52 (by decide) (fun hc9 => ?_) (fun hc9 => ?_)
        · have h := h.1 hc9
          refine lv_iinc (k := 4) (v := t4.2 + 1) (lv' := [(4, .int (t4.2 + 1)), (0, .ref (ac 0)), (1, .int t4.1), (2, .int t2.2), (3, .int r3)]) E.ex E.by dX2_bottomStates_63 hl rfl (k_inc1 _) (by decide) rfl (fun ls hl => ?_)
          refine lv_goto (tgt := 24) E.ex E.by dX2_bottomStates_66 (by decide) ?_
          exact IH24 _ h _ _ _ G (lv_sub hl [1, 2, 3, 4, 0] rfl)
        · have h := h.2 hc9
          refine lv_iload_n E.ex E.by dX2_bottomStates_55 rfl (lv_at hl 1 rfl) ?_
          refine lv_iconst (v := 1) E.ex E.by dX2_bottomStates_56 (by decide) ?_
          refine lv_iload_n E.ex E.by dX2_bottomStates_57 rfl (lv_at hl 2 rfl) ?_
          refine lv_ishl E.ex E.by dX2_bottomStates_58 ?_
          refine lv_iconst (v := (-1)) E.ex E.by dX2_bottomStates_59 (by decide) ?_
          refine lv_ixor E.ex E.by dX2_bottomStates_60 ?_
          refine lv_iand E.ex E.by dX2_bottomStates_61 ?_
          refine lv_topi (fun x8 ex8 => ?_)
          have h := h x8 ex8
          refine lv_istore_n (lv' := [(1, .int x8), (0, .ref (ac 0)), (2, .int t2.2), (3, .int r3), (4, .int t4.2)]) E.ex E.by dX2_bottomStates_62 rfl hl (by decide) rfl (fun ls hl => ?_)
          refine lv_iinc (k := 4) (v := t4.2 + 1) (lv' := [(4, .int (t4.2 + 1)), (1, .int x8), (0, .ref (ac 0)), (2, .int t2.2), (3, .int r3)]) E.ex E.by dX2_bottomStates_63 hl rfl (k_inc1 _) (by decide) rfl (fun ls hl => ?_)
          refine lv_goto (tgt := 24) E.ex E.by dX2_bottomStates_66 (by decide) ?_
          exact IH24 _ h _ _ _ G (lv_sub hl [2, 1, 3, 4, 0] rfl)
theorem wi_X2_canReach_X2 : ∀ w ∈ wsX20, w ∈ wsX2_canReach := fun w h => List.mem_cons_of_mem _ (List.mem_append_right _ (h))
theorem fl_X2_canReach_X2_3 : Cond.fieldLink RX2 21 (TX2 3).1 (TX2 3).2.1 (TX2 3).2.2.1 ∈ wsX2_canReach := List.mem_of_getElem? (i := 1) (by decide +kernel)
theorem li_X2_canReach_X11 : Cond.initialized RX11 ∈ wsX2_canReach := List.mem_of_getElem? (i := 3) (by decide +kernel)
theorem ls_X2_canReach_X11_contains : Cond.static yX11_contains ∈ wsX2_canReach := List.mem_of_getElem? (i := 2) (by decide +kernel)
def wp_X2_canReach_L17 (v1 : Int32) (v4 : Int32) (κ : US) (P5 : (Int32 × Int32) → Prop) (Q : Int32 → Prop) (P17 : (Int32 × Int32) → Prop) (t17 : Int32 × Int32) : Prop := ((iI κ 0) ≤ t17.2 → P5 (t17.1, v4 + 1)) ∧ (¬ (iI κ 0) ≤ t17.2 → wp_X11_contains v1 t17.2 (fun (r1 : Int32) => (r1 = 0 → P17 (t17.1, t17.2 + 1)) ∧ (¬ r1 = 0 → wp_X2_successorsOf t17.2 κ (fun (r2 : Int32) => ((r2 &&& t17.1) = 0 → P17 (t17.1, t17.2 + 1)) ∧ (¬ (r2 &&& t17.1) = 0 → ∀ x3 : Int32, x3 = t17.1 ||| (1 <<< (t17.2 &&& 31)) → P17 (x3, t17.2 + 1))))))
def wp_X2_canReach_L5 (v1 : Int32) (κ : US) (Q : Int32 → Prop) (P5 : (Int32 × Int32) → Prop) (t5 : Int32 × Int32) : Prop := ((iI κ 0) ≤ t5.2 → Q t5.1) ∧ (¬ (iI κ 0) ≤ t5.2 → lpW (wp_X2_canReach_L17 v1 t5.2 κ P5 Q) (t5.1, 0))
def wp_X2_canReach (p1 : Int32) (p2 : Int32) (κ : US) (Q : Int32 → Prop) : Prop := lpW (wp_X2_canReach_L5 p1 κ Q) (p2, 0)
set_option maxRecDepth 100000 in
set_option maxHeartbeats 4000000 in
theorem c_X2_canReach (l : Launch) (D : va_G) (kc : Nat → ClassId) (ac : Nat → Nat) (p1 : Int32) (p2 : Int32) (κ : US) (Q : Int32 → Prop) (h : wp_X2_canReach p1 p2 κ Q) : kCi l D (tyL kc) yX2_canReach wsX2_canReach ({ frames := 2, cells := 0, slots := 0, locals := 46 } : Room) [.ref (ac 0), .int p1, .int p2] (wC kc ac κ) (fun _ : Unit => (wC kc ac κ)) 0 0 (fun r _ => Q r) := by
  intro sz
  refine k_begin (cc := cX2_canReach) (maxL := 6) (ret := (some .int)) (by decide +kernel) rfl rfl (fun p e s m args below meth c hsz E G ls hl => ?_)
  subst hsz
  have hl : lv_has ls 6 [(0, .ref (ac 0)), (1, .int p1), (2, .int p2)] := hl
  refine lv_iload_n E.ex E.by dX2_canReach_0 rfl (lv_at hl 2 rfl) ?_
  refine lv_istore_n (lv' := [(3, .int p2), (0, .ref (ac 0)), (1, .int p1), (2, .int p2)]) E.ex E.by dX2_canReach_1 rfl hl (by decide) rfl (fun ls hl => ?_)
  refine lv_iconst (v := 0) E.ex E.by dX2_canReach_2 (by decide) ?_
  refine lv_istore (lv' := [(4, .int 0), (3, .int p2), (0, .ref (ac 0)), (1, .int p1), (2, .int p2)]) E.ex E.by dX2_canReach_3 hl (by decide) rfl (fun ls hl => ?_)
  refine lpW_ind (fun t1 : Int32 × Int32 => ∀ (H : Heap) (locs : List Loc) (ls : Array Slot), kG D (va_A (wC kc ac κ) s.heap.size) s (wC kc ac κ) H locs → lv_has ls 6 [(0, .ref (ac 0)), (1, .int p1), (3, .int t1.1), (4, .int t1.2)] → W p l e _ s m args below meth c H locs _ _ _ (F0 m 5 ls [])) (fun P5 IH5 t1 h H locs ls G hl => ?_) _ h _ _ _ G (lv_sub hl [2, 3, 1, 0] rfl)
  refine lv_iload E.ex E.by dX2_canReach_5 (lv_at hl 3 rfl) ?_
  refine lv_aload_n E.ex E.by dX2_canReach_7 rfl (lv_at hl 0 rfl) ?_
  refine k_get E G wi_X2_canReach_X2 0 (gC_0 _ _ _) rfl 3 rfl fl_X2_canReach_X2_3 (v := .int (iI κ 0)) rfl dX2_canReach_8 ?_
  refine lv_icmp_ge (tgt := 65) E.ex E.by dX2_canReach_11 (by decide) (fun hc9 => ?_) (fun hc9 => ?_)
  · have h := h.1 hc9
    refine lv_iload_n E.ex E.by dX2_canReach_65 rfl (lv_at hl 2 rfl) ?_
    exact k_ret (wof := (fun _ : Unit => (wC kc ac κ))) (u := ()) E G rfl h (Nat.le_of_ble_eq_true rfl) (Nat.le_of_ble_eq_true rfl) dX2_canReach_66
  · have h := h.2 hc9
    refine lv_iconst (v := 0) E.ex E.by dX2_canReach_14 (by decide) ?_
    refine lv_istore (lv' := [(5, .int 0), (0, .ref (ac 0)), (1, .int p1), (3, .int t1.1), (4, .int t1.2)]) E.ex E.by dX2_canReach_15 hl (by decide) rfl (fun ls hl => ?_)
    refine lpW_ind (fun t2 : Int32 × Int32 => ∀ (H : Heap) (locs : List Loc) (ls : Array Slot), kG D (va_A (wC kc ac κ) s.heap.size) s (wC kc ac κ) H locs → lv_has ls 6 [(0, .ref (ac 0)), (1, .int p1), (3, .int t2.1), (4, .int t1.2), (5, .int t2.2)] → W p l e _ s m args below meth c H locs _ _ _ (F0 m 17 ls [])) (fun P17 IH17 t2 h H locs ls G hl => ?_) _ h _ _ _ G (lv_sub hl [1, 2, 3, 4, 0] rfl)
    refine lv_iload E.ex E.by dX2_canReach_17 (lv_at hl 4 rfl) ?_
    refine lv_aload_n E.ex E.by dX2_canReach_19 rfl (lv_at hl 0 rfl) ?_
    refine k_get E G wi_X2_canReach_X2 0 (gC_0 _ _ _) rfl 3 rfl fl_X2_canReach_X2_3 (v := .int (iI κ 0)) rfl dX2_canReach_20 ?_
    refine lv_icmp_ge (tgt := 59) E.ex E.by dX2_canReach_23 (by decide) (fun hc8 => ?_) (fun hc8 => ?_)
    · have h := h.1 hc8
      refine lv_iinc (k := 3) (v := t1.2 + 1) (lv' := [(4, .int (t1.2 + 1)), (0, .ref (ac 0)), (1, .int p1), (3, .int t2.1), (5, .int t2.2)]) E.ex E.by dX2_canReach_59 hl rfl (k_inc1 _) (by decide) rfl (fun ls hl => ?_)
      refine lv_goto (tgt := 5) E.ex E.by dX2_canReach_62 (by decide) ?_
      exact IH5 _ h _ _ _ G (lv_sub hl [1, 2, 3, 0] rfl)
    · have h := h.2 hc8
      refine lv_iload_n E.ex E.by dX2_canReach_26 rfl (lv_at hl 1 rfl) ?_
      refine lv_iload E.ex E.by dX2_canReach_27 (lv_at hl 4 rfl) ?_
      refine k_cSNi (X := (wC kc ac κ)) (w := []) (Z := []) (wnew := (fun _ : Unit => (wC kc ac κ))) (As := [.int p1, .int t2.2]) (rest := []) E (List.append_nil _).symm G (c_X11_contains l D kc _ _ _ h) gX2_canReach_X11_contains_n48 (by decide +kernel) li_X2_canReach_X11 ls_X2_canReach_X11_contains rfl ⟨rfl, rfl⟩ hd_X11_contains_n ⟨rfl, rfl⟩ rfl hl rfl rfl dX2_canReach_29 ⟨rfl, rfl⟩ (fun _ => (List.append_nil _).symm) (fun r3 _u29 hq H locs G => ?_)
      have h := hq
      refine lv_if_eq (tgt := 53) E.ex E.by dX2_canReach_32 (by decide) (fun hc7 => ?_) (fun hc7 => ?_)
      · have h := h.1 hc7
        refine lv_iinc (k := 4) (v := t2.2 + 1) (lv' := [(5, .int (t2.2 + 1)), (0, .ref (ac 0)), (1, .int p1), (3, .int t2.1), (4, .int t1.2)]) E.ex E.by dX2_canReach_53 hl rfl (k_inc1 _) (by decide) rfl (fun ls hl => ?_)
        refine lv_goto (tgt := 17) E.ex E.by dX2_canReach_56 (by decide) ?_
        exact IH17 _ h _ _ _ G (lv_sub hl [1, 2, 3, 4, 0] rfl)
      · have h := h.2 hc7
        refine lv_aload_n E.ex E.by dX2_canReach_35 rfl (lv_at hl 0 rfl) ?_
        refine lv_iload E.ex E.by dX2_canReach_36 (lv_at hl 4 rfl) ?_
        refine k_cVi (X := []) (w := (wC kc ac κ)) (Z := []) (wnew := (fun _ : Unit => (wC kc ac κ))) (As := [.int t2.2]) (rest := []) E (List.append_nil _).symm G (c_X2_successorsOf l D kc _ _ _ _ h) gX2_canReach_X2_successorsOf rfl ⟨rfl, rfl⟩ hd_X2_successorsOf_v ⟨rfl, rfl⟩ 0 (gC_0 _ _ _) rfl rfl hl rfl rfl dX2_canReach_38 ⟨rfl, rfl⟩ (fun _ => (List.append_nil _).symm) (fun r4 _u38 hq H locs G => ?_)
        have h := hq
        refine lv_iload_n E.ex E.by dX2_canReach_41 rfl (lv_at hl 2 rfl) ?_
        refine lv_iand E.ex E.by dX2_canReach_42 ?_
        refine lv_if_eq (tgt := 53) E.ex E.by dX2_canReach_43 (by decide) (fun hc6 => ?_) (fun hc6 => ?_)
        · have h := h.1 hc6
          refine lv_iinc (k := 4) (v := t2.2 + 1) (lv' := [(5, .int (t2.2 + 1)), (0, .ref (ac 0)), (1, .int p1), (3, .int t2.1), (4, .int t1.2)]) E.ex E.by dX2_canReach_53 hl rfl (k_inc1 _) (by decide) rfl (fun ls hl => ?_)
          refine lv_goto (tgt := 17) E.ex E.by dX2_canReach_56 (by decide) ?_
          exact IH17 _ h _ _ _ G (lv_sub hl [1, 2, 3, 4, 0] rfl)
        · have h := h.2 hc6
          refine lv_iload_n E.ex E.by dX2_canReach_46 rfl (lv_at hl 2 rfl) ?_
          refine lv_iconst (v := 1) E.ex E.by dX2_canReach_47 (by decide) ?_
          refine lv_iload E.ex E.by dX2_canReach_48 (lv_at hl 4 rfl) ?_
          refine lv_ishl E.ex E.by dX2_canReach_50 ?_
          refine lv_ior E.ex E.by dX2_canReach_51 ?_
          refine lv_topi (fun x5 ex5 => ?_)
          have h := h x5 ex5
          refine lv_istore_n (lv' := [(3, .int x5), (0, .ref (ac 0)), (1, .int p1), (4, .int t1.2), (5, .int t2.2)]) E.ex E.by dX2_canReach_52 rfl hl (by decide) rfl (fun ls hl => ?_)
          refine lv_iinc (k := 4) (v := t2.2 + 1) (lv' := [(5, .int (t2.2 + 1)), (3, .int x5), (0, .ref (ac 0)), (1, .int p1), (4, .int t1.2)]) E.ex E.by dX2_canReach_53 hl rfl (k_inc1 _) (by decide) rfl (fun ls hl => ?_)
          refine lv_goto (tgt := 17) E.ex E.by dX2_canReach_56 (by decide) ?_
          exact IH17 _ h _ _ _ G (lv_sub hl [2, 3, 1, 4, 0] rfl)
theorem hd_X2_canReach_v : yX2_canReach.cls = RX2 ∧ yX2_canReach.cls ≠ "java/lang/invoke/MethodHandle" ∧ yX2_canReach.cls ≠ "java/lang/invoke/VarHandle" ∧ (parseMethodDescriptor yX2_canReach.desc).map (fun d => d.parameters.length) = some 2 := by decide +kernel
def wp_X2_neverUntil (p1 : Int32) (p2 : Int32) (κ : US) (Q : Int32 → Prop) : Prop := wp_X2_all κ (fun (r1 : Int32) => wp_X2_canReach p1 p2 κ (fun (r2 : Int32) => Q (r1 &&& (r2 ^^^ (-1)))))
set_option maxRecDepth 100000 in
set_option maxHeartbeats 4000000 in
theorem c_X2_neverUntil (l : Launch) (D : va_G) (kc : Nat → ClassId) (ac : Nat → Nat) (p1 : Int32) (p2 : Int32) (κ : US) (Q : Int32 → Prop) (h : wp_X2_neverUntil p1 p2 κ Q) : kCi l D (tyL kc) yX2_neverUntil wsX2_neverUntil ({ frames := 3, cells := 0, slots := 0, locals := 71 } : Room) [.ref (ac 0), .int p1, .int p2] (wC kc ac κ) (fun _ : Unit => (wC kc ac κ)) 0 0 (fun r _ => Q r) := by
  intro sz
  refine k_begin (cc := cX2_neverUntil) (maxL := 3) (ret := (some .int)) (by decide +kernel) rfl rfl (fun p e s m args below meth c hsz E G ls hl => ?_)
  subst hsz
  have hl : lv_has ls 3 [(0, .ref (ac 0)), (1, .int p1), (2, .int p2)] := hl
  refine lv_aload_n E.ex E.by dX2_neverUntil_0 rfl (lv_at hl 0 rfl) ?_
  refine k_cVi (X := []) (w := (wC kc ac κ)) (Z := []) (wnew := (fun _ : Unit => (wC kc ac κ))) (As := []) (rest := []) E (List.append_nil _).symm G (c_X2_all l D kc _ _ _ h) gX2_neverUntil_X2_all rfl ⟨rfl, rfl⟩ hd_X2_all_v ⟨rfl, rfl⟩ 0 (gC_0 _ _ _) rfl rfl hl rfl rfl dX2_neverUntil_1 ⟨rfl, rfl⟩ (fun _ => (List.append_nil _).symm) (fun r1 _u1 hq H locs G => ?_)
  have h := hq
  refine lv_aload_n E.ex E.by dX2_neverUntil_4 rfl (lv_at hl 0 rfl) ?_
  refine lv_iload_n E.ex E.by dX2_neverUntil_5 rfl (lv_at hl 1 rfl) ?_
  refine lv_iload_n E.ex E.by dX2_neverUntil_6 rfl (lv_at hl 2 rfl) ?_
  refine k_cVi (X := []) (w := (wC kc ac κ)) (Z := []) (wnew := (fun _ : Unit => (wC kc ac κ))) (As := [.int p1, .int p2]) (rest := [.int r1]) E (List.append_nil _).symm G (c_X2_canReach l D kc _ _ _ _ _ h) gX2_neverUntil_X2_canReach rfl ⟨rfl, rfl⟩ hd_X2_canReach_v ⟨rfl, rfl⟩ 0 (gC_0 _ _ _) rfl rfl hl rfl rfl dX2_neverUntil_7 ⟨rfl, rfl⟩ (fun _ => (List.append_nil _).symm) (fun r2 _u7 hq H locs G => ?_)
  have h := hq
  refine lv_iconst (v := (-1)) E.ex E.by dX2_neverUntil_10 (by decide) ?_
  refine lv_ixor E.ex E.by dX2_neverUntil_11 ?_
  refine lv_iand E.ex E.by dX2_neverUntil_12 ?_
  exact k_ret (wof := (fun _ : Unit => (wC kc ac κ))) (u := ()) E G rfl h (Nat.le_of_ble_eq_true rfl) (Nat.le_of_ble_eq_true rfl) dX2_neverUntil_13
def wp_X2_surelyUntil (p1 : Int32) (p2 : Int32) (κ : US) (Q : Int32 → Prop) : Prop := wp_X2_all κ (fun (r1 : Int32) => wp_X2_canReach p1 p2 κ (fun (r2 : Int32) => ∀ x3 : Int32, x3 = r1 &&& (r2 ^^^ (-1)) → wp_X2_all κ (fun (r4 : Int32) => wp_X2_canReach (p1 &&& (p2 ^^^ (-1))) x3 κ (fun (r5 : Int32) => Q (r4 &&& (r5 ^^^ (-1)))))))
set_option maxRecDepth 100000 in
set_option maxHeartbeats 4000000 in
theorem c_X2_surelyUntil (l : Launch) (D : va_G) (kc : Nat → ClassId) (ac : Nat → Nat) (p1 : Int32) (p2 : Int32) (κ : US) (Q : Int32 → Prop) (h : wp_X2_surelyUntil p1 p2 κ Q) : kCi l D (tyL kc) yX2_surelyUntil wsX2_surelyUntil ({ frames := 3, cells := 0, slots := 0, locals := 71 } : Room) [.ref (ac 0), .int p1, .int p2] (wC kc ac κ) (fun _ : Unit => (wC kc ac κ)) 0 0 (fun r _ => Q r) := by
  intro sz
  refine k_begin (cc := cX2_surelyUntil) (maxL := 4) (ret := (some .int)) (by decide +kernel) rfl rfl (fun p e s m args below meth c hsz E G ls hl => ?_)
  subst hsz
  have hl : lv_has ls 4 [(0, .ref (ac 0)), (1, .int p1), (2, .int p2)] := hl
  refine lv_aload_n E.ex E.by dX2_surelyUntil_0 rfl (lv_at hl 0 rfl) ?_
  refine k_cVi (X := []) (w := (wC kc ac κ)) (Z := []) (wnew := (fun _ : Unit => (wC kc ac κ))) (As := []) (rest := []) E (List.append_nil _).symm G (c_X2_all l D kc _ _ _ h) gX2_surelyUntil_X2_all rfl ⟨rfl, rfl⟩ hd_X2_all_v ⟨rfl, rfl⟩ 0 (gC_0 _ _ _) rfl rfl hl rfl rfl dX2_surelyUntil_1 ⟨rfl, rfl⟩ (fun _ => (List.append_nil _).symm) (fun r1 _u1 hq H locs G => ?_)
  have h := hq
  refine lv_aload_n E.ex E.by dX2_surelyUntil_4 rfl (lv_at hl 0 rfl) ?_
  refine lv_iload_n E.ex E.by dX2_surelyUntil_5 rfl (lv_at hl 1 rfl) ?_
  refine lv_iload_n E.ex E.by dX2_surelyUntil_6 rfl (lv_at hl 2 rfl) ?_
  refine k_cVi (X := []) (w := (wC kc ac κ)) (Z := []) (wnew := (fun _ : Unit => (wC kc ac κ))) (As := [.int p1, .int p2]) (rest := [.int r1]) E (List.append_nil _).symm G (c_X2_canReach l D kc _ _ _ _ _ h) gX2_surelyUntil_X2_canReach rfl ⟨rfl, rfl⟩ hd_X2_canReach_v ⟨rfl, rfl⟩ 0 (gC_0 _ _ _) rfl rfl hl rfl rfl dX2_surelyUntil_7 ⟨rfl, rfl⟩ (fun _ => (List.append_nil _).symm) (fun r2 _u7 hq H locs G => ?_)
  have h := hq
  refine lv_iconst (v := (-1)) E.ex E.by dX2_surelyUntil_10 (by decide) ?_
  refine lv_ixor E.ex E.by dX2_surelyUntil_11 ?_
  refine lv_iand E.ex E.by dX2_surelyUntil_12 ?_
  refine lv_topi (fun x3 ex3 => ?_)
  have h := h x3 ex3
  refine lv_istore_n (lv' := [(3, .int x3), (0, .ref (ac 0)), (1, .int p1), (2, .int p2)]) E.ex E.by dX2_surelyUntil_13 rfl hl (by decide) rfl (fun ls hl => ?_)
  refine lv_aload_n E.ex E.by dX2_surelyUntil_14 rfl (lv_at hl 1 rfl) ?_
  refine k_cVi (X := []) (w := (wC kc ac κ)) (Z := []) (wnew := (fun _ : Unit => (wC kc ac κ))) (As := []) (rest := []) E (List.append_nil _).symm G (c_X2_all l D kc _ _ _ h) gX2_surelyUntil_X2_all rfl ⟨rfl, rfl⟩ hd_X2_all_v ⟨rfl, rfl⟩ 0 (gC_0 _ _ _) rfl rfl hl rfl rfl dX2_surelyUntil_15 ⟨rfl, rfl⟩ (fun _ => (List.append_nil _).symm) (fun r4 _u15 hq H locs G => ?_)
  have h := hq
  refine lv_aload_n E.ex E.by dX2_surelyUntil_18 rfl (lv_at hl 1 rfl) ?_
  refine lv_iload_n E.ex E.by dX2_surelyUntil_19 rfl (lv_at hl 2 rfl) ?_
  refine lv_iload_n E.ex E.by dX2_surelyUntil_20 rfl (lv_at hl 3 rfl) ?_
  refine lv_iconst (v := (-1)) E.ex E.by dX2_surelyUntil_21 (by decide) ?_
  refine lv_ixor E.ex E.by dX2_surelyUntil_22 ?_
  refine lv_iand E.ex E.by dX2_surelyUntil_23 ?_
  refine lv_iload_n E.ex E.by dX2_surelyUntil_24 rfl (lv_at hl 0 rfl) ?_
  refine k_cVi (X := []) (w := (wC kc ac κ)) (Z := []) (wnew := (fun _ : Unit => (wC kc ac κ))) (As := [.int (p1 &&& (p2 ^^^ (-1))), .int x3]) (rest := [.int r4]) E (List.append_nil _).symm G (c_X2_canReach l D kc _ _ _ _ _ h) gX2_surelyUntil_X2_canReach rfl ⟨rfl, rfl⟩ hd_X2_canReach_v ⟨rfl, rfl⟩ 0 (gC_0 _ _ _) rfl rfl hl rfl rfl dX2_surelyUntil_25 ⟨rfl, rfl⟩ (fun _ => (List.append_nil _).symm) (fun r5 _u25 hq H locs G => ?_)
  have h := hq
  refine lv_iconst (v := (-1)) E.ex E.by dX2_surelyUntil_28 (by decide) ?_
  refine lv_ixor E.ex E.by dX2_surelyUntil_29 ?_
  refine lv_iand E.ex E.by dX2_surelyUntil_30 ?_
  exact k_ret (wof := (fun _ : Unit => (wC kc ac κ))) (u := ()) E G rfl h (Nat.le_of_ble_eq_true rfl) (Nat.le_of_ble_eq_true rfl) dX2_surelyUntil_31
theorem wi_X2_commonDivisors_X2 : ∀ w ∈ wsX20, w ∈ wsX2_commonDivisors := fun w h => List.mem_cons_of_mem _ (List.mem_append_right _ (h))
theorem fl_X2_commonDivisors_X2_3 : Cond.fieldLink RX2 21 (TX2 3).1 (TX2 3).2.1 (TX2 3).2.2.1 ∈ wsX2_commonDivisors := List.mem_of_getElem? (i := 1) (by decide +kernel)
theorem li_X2_commonDivisors_X11 : Cond.initialized RX11 ∈ wsX2_commonDivisors := List.mem_of_getElem? (i := 17) (by decide +kernel)
theorem ls_X2_commonDivisors_X11_commonMultiple : Cond.static yX11_commonMultiple ∈ wsX2_commonDivisors := List.mem_of_getElem? (i := 16) (by decide +kernel)
theorem hd_X11_commonMultiple_n : yX11_commonMultiple.cls ≠ "java/lang/invoke/MethodHandle" ∧ yX11_commonMultiple.cls ≠ "java/lang/invoke/VarHandle" ∧ (parseMethodDescriptor yX11_commonMultiple.desc).map (fun d => d.parameters.length) = some 2 := by decide +kernel
theorem hd_X2_divisorOf_v : yX2_divisorOf.cls = RX2 ∧ yX2_divisorOf.cls ≠ "java/lang/invoke/MethodHandle" ∧ yX2_divisorOf.cls ≠ "java/lang/invoke/VarHandle" ∧ (parseMethodDescriptor yX2_divisorOf.desc).map (fun d => d.parameters.length) = some 1 := by decide +kernel
def wp_X2_commonDivisors_L4 (κ : US) (Q : Int64 → Prop) (P4 : (Int64 × Int32) → Prop) (t4 : Int64 × Int32) : Prop := ((iI κ 0) ≤ t4.2 → Q t4.1) ∧ (¬ (iI κ 0) ≤ t4.2 → wp_X2_divisorOf t4.2 κ (fun (r1 : Int32) => wp_X11_commonMultiple t4.1 (r1.toInt64) (fun (r2 : Int64) => P4 (r2, t4.2 + 1))))
def wp_X2_commonDivisors (κ : US) (Q : Int64 → Prop) : Prop := lpW (wp_X2_commonDivisors_L4 κ Q) (1, 0)
set_option maxRecDepth 100000 in
set_option maxHeartbeats 4000000 in
theorem c_X2_commonDivisors (l : Launch) (D : va_G) (kc : Nat → ClassId) (ac : Nat → Nat) (κ : US) (Q : Int64 → Prop) (h : wp_X2_commonDivisors κ Q) : kCl l D (tyL kc) yX2_commonDivisors wsX2_commonDivisors ({ frames := 3, cells := 0, slots := 0, locals := 68 } : Room) [.ref (ac 0)] (wC kc ac κ) (fun _ : Unit => (wC kc ac κ)) 0 0 (fun r _ => Q r) := by
  intro sz
  refine k_begin (cc := cX2_commonDivisors) (maxL := 4) (ret := (some .long)) (by decide +kernel) rfl rfl (fun p e s m args below meth c hsz E G ls hl => ?_)
  subst hsz
  have hl : lv_has ls 4 [(0, .ref (ac 0))] := hl
  refine lv_lconst (v := 1) E.ex E.by dX2_commonDivisors_0 (by decide) ?_
  refine lv_lstore_n (lv' := [(1, .long 1), (0, .ref (ac 0))]) E.ex E.by dX2_commonDivisors_1 rfl hl (by decide) rfl (fun ls hl => ?_)
  refine lv_iconst (v := 0) E.ex E.by dX2_commonDivisors_2 (by decide) ?_
  refine lv_istore_n (lv' := [(3, .int 0), (1, .long 1), (0, .ref (ac 0))]) E.ex E.by dX2_commonDivisors_3 rfl hl (by decide) rfl (fun ls hl => ?_)
  refine lpW_ind (fun t1 : Int64 × Int32 => ∀ (H : Heap) (locs : List Loc) (ls : Array Slot), kG D (va_A (wC kc ac κ) s.heap.size) s (wC kc ac κ) H locs → lv_has ls 4 [(0, .ref (ac 0)), (1, .long t1.1), (3, .int t1.2)] → W p l e _ s m args below meth c H locs _ _ _ (F0 m 4 ls [])) (fun P4 IH4 t1 h H locs ls G hl => ?_) _ h _ _ _ G (lv_sub hl [2, 1, 0] rfl)
  refine lv_iload_n E.ex E.by dX2_commonDivisors_4 rfl (lv_at hl 2 rfl) ?_
  refine lv_aload_n E.ex E.by dX2_commonDivisors_5 rfl (lv_at hl 0 rfl) ?_
  refine k_get E G wi_X2_commonDivisors_X2 0 (gC_0 _ _ _) rfl 3 rfl fl_X2_commonDivisors_X2_3 (v := .int (iI κ 0)) rfl dX2_commonDivisors_6 ?_
  refine lv_icmp_ge (tgt := 29) E.ex E.by dX2_commonDivisors_9 (by decide) (fun hc4 => ?_) (fun hc4 => ?_)
  · have h := h.1 hc4
    refine lv_lload_n E.ex E.by dX2_commonDivisors_29 rfl (lv_at hl 1 rfl) ?_
    exact k_retl (wof := (fun _ : Unit => (wC kc ac κ))) (u := ()) E G h (Nat.le_of_ble_eq_true rfl) (Nat.le_of_ble_eq_true rfl) dX2_commonDivisors_30
  · have h := h.2 hc4
    refine lv_lload_n E.ex E.by dX2_commonDivisors_12 rfl (lv_at hl 1 rfl) ?_
    refine lv_aload_n E.ex E.by dX2_commonDivisors_13 rfl (lv_at hl 0 rfl) ?_
    refine lv_iload_n E.ex E.by dX2_commonDivisors_14 rfl (lv_at hl 2 rfl) ?_
    refine k_cVi (X := []) (w := (wC kc ac κ)) (Z := []) (wnew := (fun _ : Unit => (wC kc ac κ))) (As := [.int t1.2]) (rest := [.long t1.1]) E (List.append_nil _).symm G (c_X2_divisorOf l D kc _ _ _ _ h) gX2_commonDivisors_X2_divisorOf rfl ⟨rfl, rfl⟩ hd_X2_divisorOf_v ⟨rfl, rfl⟩ 0 (gC_0 _ _ _) rfl rfl hl rfl rfl dX2_commonDivisors_15 ⟨rfl, rfl⟩ (fun _ => (List.append_nil _).symm) (fun r2 _u15 hq H locs G => ?_)
    have h := hq
    refine lv_i2l E.ex E.by dX2_commonDivisors_18 rfl ?_
    refine k_cSNl (X := (wC kc ac κ)) (w := []) (Z := []) (wnew := (fun _ : Unit => (wC kc ac κ))) (As := [.long t1.1, .long (r2.toInt64)]) (rest := []) E (List.append_nil _).symm G (c_X11_commonMultiple l D kc _ _ _ h) gX2_commonDivisors_X11_commonMultiple_n71 (by decide +kernel) li_X2_commonDivisors_X11 ls_X2_commonDivisors_X11_commonMultiple rfl ⟨rfl, rfl⟩ hd_X11_commonMultiple_n ⟨rfl, rfl⟩ rfl hl rfl rfl dX2_commonDivisors_19 ⟨rfl, rfl⟩ (fun _ => (List.append_nil _).symm) (fun r3 _u19 hq H locs G => ?_)
    have h := hq
    refine lv_lstore_n (lv' := [(1, .long r3), (0, .ref (ac 0)), (3, .int t1.2)]) E.ex E.by dX2_commonDivisors_22 rfl hl (by decide) rfl (fun ls hl => ?_)
    refine lv_iinc (k := 2) (v := t1.2 + 1) (lv' := [(3, .int (t1.2 + 1)), (1, .long r3), (0, .ref (ac 0))]) E.ex E.by dX2_commonDivisors_23 hl rfl (k_inc1 _) (by decide) rfl (fun ls hl => ?_)
    refine lv_goto (tgt := 4) E.ex E.by dX2_commonDivisors_26 (by decide) ?_
    exact IH4 _ h _ _ _ G (lv_sub hl [2, 1, 0] rfl)
theorem wi_X2_drawn_X2 : ∀ w ∈ wsX20, w ∈ wsX2_drawn := fun w h => List.mem_cons_of_mem _ (List.mem_append_right _ (h))
theorem fl_X2_drawn_X2_3 : Cond.fieldLink RX2 21 (TX2 3).1 (TX2 3).2.1 (TX2 3).2.2.1 ∈ wsX2_drawn := List.mem_of_getElem? (i := 1) (by decide +kernel)
def wp_X2_drawn_L20 (v1 : Int32) (κ : US) (Q : Int32 → Prop) (P20 : (Int32 × Int32) → Prop) (t20 : Int32 × Int32) : Prop := ((iI κ 0) ≤ t20.2 → Q v1) ∧ (¬ (iI κ 0) ≤ t20.2 → wp_X2_weightOf v1 t20.2 κ (fun (r3 : Int32) => ∀ x4 : Int32, x4 = t20.1 - r3 → (0 ≤ x4 → P20 (x4, t20.2 + 1)) ∧ (¬ 0 ≤ x4 → Q t20.2)))
def wp_X2_drawn (p1 : Int32) (p2 : Int32) (κ : US) (Q : Int32 → Prop) : Prop := wp_X2_sumOf p1 κ (fun (r1 : Int32) => (0 < r1 → (¬ r1 = (0 : Int32)) ∧ (∀ x2 : Int32, x2 = p2 - p2 / r1 * r1 → lpW (wp_X2_drawn_L20 p1 κ Q) (x2, 0))) ∧ (¬ 0 < r1 → Q p1))
set_option maxRecDepth 100000 in
set_option maxHeartbeats 4000000 in
theorem c_X2_drawn (l : Launch) (D : va_G) (kc : Nat → ClassId) (ac : Nat → Nat) (p1 : Int32) (p2 : Int32) (κ : US) (Q : Int32 → Prop) (h : wp_X2_drawn p1 p2 κ Q) : kCi l D (tyL kc) yX2_drawn wsX2_drawn ({ frames := 2, cells := 0, slots := 0, locals := 46 } : Room) [.ref (ac 0), .int p1, .int p2] (wC kc ac κ) (fun _ : Unit => (wC kc ac κ)) 0 0 (fun r _ => Q r) := by
  intro sz
  refine k_begin (cc := cX2_drawn) (maxL := 6) (ret := (some .int)) (by decide +kernel) rfl rfl (fun p e s m args below meth c hsz E G ls hl => ?_)
  subst hsz
  have hl : lv_has ls 6 [(0, .ref (ac 0)), (1, .int p1), (2, .int p2)] := hl
  refine lv_aload_n E.ex E.by dX2_drawn_0 rfl (lv_at hl 0 rfl) ?_
  refine lv_iload_n E.ex E.by dX2_drawn_1 rfl (lv_at hl 1 rfl) ?_
  refine k_cVi (X := []) (w := (wC kc ac κ)) (Z := []) (wnew := (fun _ : Unit => (wC kc ac κ))) (As := [.int p1]) (rest := []) E (List.append_nil _).symm G (c_X2_sumOf l D kc _ _ _ _ h) gX2_drawn_X2_sumOf rfl ⟨rfl, rfl⟩ hd_X2_sumOf_v ⟨rfl, rfl⟩ 0 (gC_0 _ _ _) rfl rfl hl rfl rfl dX2_drawn_2 ⟨rfl, rfl⟩ (fun _ => (List.append_nil _).symm) (fun r1 _u2 hq H locs G => ?_)
  have h := hq
  refine lv_istore_n (lv' := [(3, .int r1), (0, .ref (ac 0)), (1, .int p1), (2, .int p2)]) E.ex E.by dX2_drawn_5 rfl hl (by decide) rfl (fun ls hl => ?_)
  refine lv_iload_n E.ex E.by dX2_drawn_6 rfl (lv_at hl 0 rfl) ?_
  refine lv_if_gt (tgt := 12) E.ex E.by dX2_drawn_7 (by decide) (fun hc8 => ?_) (fun hc8 => ?_)
  · have h := h.1 hc8
    refine lv_iload_n E.ex E.by dX2_drawn_12 rfl (lv_at hl 3 rfl) ?_
    refine lv_iload_n E.ex E.by dX2_drawn_13 rfl (lv_at hl 0 rfl) ?_
    refine lv_irem E.ex E.by dX2_drawn_14 h.1 ?_
    have h := h.2
    refine lv_topi (fun x2 ex2 => ?_)
    have h := h x2 ex2
    refine lv_istore (lv' := [(4, .int x2), (3, .int r1), (0, .ref (ac 0)), (1, .int p1), (2, .int p2)]) E.ex E.by dX2_drawn_15 hl (by decide) rfl (fun ls hl => ?_)
    refine lv_iconst (v := 0) E.ex E.by dX2_drawn_17 (by decide) ?_
    refine lv_istore (lv' := [(5, .int 0), (4, .int x2), (3, .int r1), (0, .ref (ac 0)), (1, .int p1), (2, .int p2)]) E.ex E.by dX2_drawn_18 hl (by decide) rfl (fun ls hl => ?_)
    refine lpW_ind (fun t3 : Int32 × Int32 => ∀ (H : Heap) (locs : List Loc) (ls : Array Slot), kG D (va_A (wC kc ac κ) s.heap.size) s (wC kc ac κ) H locs → lv_has ls 6 [(0, .ref (ac 0)), (1, .int p1), (4, .int t3.1), (5, .int t3.2)] → W p l e _ s m args below meth c H locs _ _ _ (F0 m 20 ls [])) (fun P20 IH20 t3 h H locs ls G hl => ?_) _ h _ _ _ G (lv_sub hl [3, 4, 1, 0] rfl)
    refine lv_iload E.ex E.by dX2_drawn_20 (lv_at hl 3 rfl) ?_
    refine lv_aload_n E.ex E.by dX2_drawn_22 rfl (lv_at hl 0 rfl) ?_
    refine k_get E G wi_X2_drawn_X2 0 (gC_0 _ _ _) rfl 3 rfl fl_X2_drawn_X2_3 (v := .int (iI κ 0)) rfl dX2_drawn_23 ?_
    refine lv_icmp_ge (tgt := 55) E.ex E.by dX2_drawn_26 (by decide) (fun hc7 => ?_) (fun hc7 => ?_)
    · have h := h.1 hc7
      refine lv_iload_n E.ex E.by dX2_drawn_55 rfl (lv_at hl 1 rfl) ?_
      exact k_ret (wof := (fun _ : Unit => (wC kc ac κ))) (u := ()) E G rfl h (Nat.le_of_ble_eq_true rfl) (Nat.le_of_ble_eq_true rfl) dX2_drawn_56
    · have h := h.2 hc7
      refine lv_iload E.ex E.by dX2_drawn_29 (lv_at hl 2 rfl) ?_
      refine lv_aload_n E.ex E.by dX2_drawn_31 rfl (lv_at hl 0 rfl) ?_
      refine lv_iload_n E.ex E.by dX2_drawn_32 rfl (lv_at hl 1 rfl) ?_
      refine lv_iload E.ex E.by dX2_drawn_33 (lv_at hl 3 rfl) ?_
      refine k_cVi (X := []) (w := (wC kc ac κ)) (Z := []) (wnew := (fun _ : Unit => (wC kc ac κ))) (As := [.int p1, .int t3.2]) (rest := [.int t3.1]) E (List.append_nil _).symm G (c_X2_weightOf l D kc _ _ _ _ _ h) gX2_drawn_X2_weightOf rfl ⟨rfl, rfl⟩ hd_X2_weightOf_v ⟨rfl, rfl⟩ 0 (gC_0 _ _ _) rfl rfl hl rfl rfl dX2_drawn_35 ⟨rfl, rfl⟩ (fun _ => (List.append_nil _).symm) (fun r4 _u35 hq H locs G => ?_)
      have h := hq
      refine lv_isub E.ex E.by dX2_drawn_38 ?_
      refine lv_topi (fun x5 ex5 => ?_)
      have h := h x5 ex5
      refine lv_istore (lv' := [(4, .int x5), (0, .ref (ac 0)), (1, .int p1), (5, .int t3.2)]) E.ex E.by dX2_drawn_39 hl (by decide) rfl (fun ls hl => ?_)
      refine lv_iload E.ex E.by dX2_drawn_41 (lv_at hl 0 rfl) ?_
      refine lv_if_ge (tgt := 49) E.ex E.by dX2_drawn_43 (by decide) (fun hc6 => ?_) (fun hc6 => ?_)
      · have h := h.1 hc6
        refine lv_iinc (k := 3) (v := t3.2 + 1) (lv' := [(5, .int (t3.2 + 1)), (4, .int x5), (0, .ref (ac 0)), (1, .int p1)]) E.ex E.by dX2_drawn_49 hl rfl (k_inc1 _) (by decide) rfl (fun ls hl => ?_)
        refine lv_goto (tgt := 20) E.ex E.by dX2_drawn_52 (by decide) ?_
        exact IH20 _ h _ _ _ G (lv_sub hl [2, 3, 1, 0] rfl)
      · have h := h.2 hc6
        refine lv_iload E.ex E.by dX2_drawn_46 (lv_at hl 3 rfl) ?_
        exact k_ret (wof := (fun _ : Unit => (wC kc ac κ))) (u := ()) E G rfl h (Nat.le_of_ble_eq_true rfl) (Nat.le_of_ble_eq_true rfl) dX2_drawn_48
  · have h := h.2 hc8
    refine lv_iload_n E.ex E.by dX2_drawn_10 rfl (lv_at hl 2 rfl) ?_
    exact k_ret (wof := (fun _ : Unit => (wC kc ac κ))) (u := ()) E G rfl h (Nat.le_of_ble_eq_true rfl) (Nat.le_of_ble_eq_true rfl) dX2_drawn_11
