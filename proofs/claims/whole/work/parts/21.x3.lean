theorem wi_X3_put_X3 : ∀ w ∈ wsX30, w ∈ wsX3_put := fun w h => List.mem_cons_of_mem _ (List.mem_append_right _ (h))
theorem fl_X3_put_X3_0 : Cond.fieldLink RX3 11 (TX3 0).1 (TX3 0).2.1 (TX3 0).2.2.1 ∈ wsX3_put := List.mem_of_getElem? (i := 1) (by decide +kernel)
def wp_X3_put (p1 : Int32) (p2 : Int32) (p3 : Int64) (ε : US) (Q : US → Prop) : Prop := ∀ x1 : Int32, x1 = (p1 * 9) + p2 → (p2 < 0 → Q ε) ∧ (¬ p2 < 0 → (9 ≤ p2 → Q ε) ∧ (¬ 9 ≤ p2 → (x1 < 0 → Q ε) ∧ (¬ x1 < 0 → (72 ≤ x1 → Q ε) ∧ (¬ 72 ≤ x1 → vp_in x1 72 ∧ (∀ z2 : US, z2 = uB ε 0 (x1).toNatClampNeg p3 → Q z2)))))
set_option maxRecDepth 100000 in
set_option maxHeartbeats 4000000 in
theorem c_X3_put (l : Launch) (D : va_G) (kc : Nat → ClassId) (ae : Nat → Nat) (p1 : Int32) (p2 : Int32) (p3 : Int64) (ε : US) (Q : US → Prop) (h : wp_X3_put p1 p2 p3 ε Q) : kCv l D (tyL kc) yX3_put wsX3_put ({ frames := 0, cells := 0, slots := 0, locals := 0 } : Room) [.ref (ae 0), .int p1, .int p2, .long p3] (wE kc ae ε) (fun u : US => (wE kc ae u)) 0 0 (fun u => Q u) := by
  intro sz
  refine k_begin (cc := cX3_put) (maxL := 6) (ret := none) (by decide +kernel) rfl rfl (fun p e s m args below meth c hsz E G ls hl => ?_)
  subst hsz
  have hl : lv_has ls 6 [(0, .ref (ae 0)), (1, .int p1), (2, .int p2), (3, .long p3)] := hl
  refine lv_iload_n E.ex E.by dX3_put_0 rfl (lv_at hl 1 rfl) ?_
  refine lv_bipush (v := 9) E.ex E.by dX3_put_1 (by decide) ?_
  refine lv_imul E.ex E.by dX3_put_3 ?_
  refine lv_iload_n E.ex E.by dX3_put_4 rfl (lv_at hl 2 rfl) ?_
  refine lv_iadd E.ex E.by dX3_put_5 ?_
  refine lv_topi (fun x1 ex1 => ?_)
  have h := h x1 ex1
  refine lv_istore (lv' := [(5, .int x1), (0, .ref (ae 0)), (1, .int p1), (2, .int p2), (3, .long p3)]) E.ex E.by dX3_put_6 hl (by decide) rfl (fun ls hl => ?_)
  refine lv_iload_n E.ex E.by dX3_put_8 rfl (lv_at hl 3 rfl) ?_
  refine lv_if_lt (tgt := 41) E.ex E.by dX3_put_9 (by decide) (fun hc6 => ?_) (fun hc6 => ?_)
  · have h := h.1 hc6
    exact k_retv (wof := (fun u : US => (wE kc ae u))) (u := ε) E G h (Nat.le_of_ble_eq_true rfl) (Nat.le_of_ble_eq_true rfl) dX3_put_41
  · have h := h.2 hc6
    refine lv_iload_n E.ex E.by dX3_put_12 rfl (lv_at hl 3 rfl) ?_
    refine lv_bipush (v := 9) E.ex E.by dX3_put_13 (by decide) ?_
    refine lv_icmp_ge (tgt := 41) E.ex E.by dX3_put_15 (by decide) (fun hc5 => ?_) (fun hc5 => ?_)
    · have h := h.1 hc5
      exact k_retv (wof := (fun u : US => (wE kc ae u))) (u := ε) E G h (Nat.le_of_ble_eq_true rfl) (Nat.le_of_ble_eq_true rfl) dX3_put_41
    · have h := h.2 hc5
      refine lv_iload E.ex E.by dX3_put_18 (lv_at hl 0 rfl) ?_
      refine lv_if_lt (tgt := 41) E.ex E.by dX3_put_20 (by decide) (fun hc4 => ?_) (fun hc4 => ?_)
      · have h := h.1 hc4
        exact k_retv (wof := (fun u : US => (wE kc ae u))) (u := ε) E G h (Nat.le_of_ble_eq_true rfl) (Nat.le_of_ble_eq_true rfl) dX3_put_41
      · have h := h.2 hc4
        refine lv_iload E.ex E.by dX3_put_23 (lv_at hl 0 rfl) ?_
        refine lv_aload_n E.ex E.by dX3_put_25 rfl (lv_at hl 1 rfl) ?_
        refine k_get E G wi_X3_put_X3 0 (gE_0 _ _ _) rfl 0 rfl fl_X3_put_X3_0 (v := .ref (ae 1)) rfl dX3_put_26 ?_
        refine va_alen E.ex E.by E.k G.1 1 1 (gE_1 _ _ _) rfl (v := 72) rfl dX3_put_29 ?_
        refine lv_icmp_ge (tgt := 41) E.ex E.by dX3_put_30 (by decide) (fun hc3 => ?_) (fun hc3 => ?_)
        · have h := h.1 hc3
          exact k_retv (wof := (fun u : US => (wE kc ae u))) (u := ε) E G h (Nat.le_of_ble_eq_true rfl) (Nat.le_of_ble_eq_true rfl) dX3_put_41
        · have h := h.2 hc3
          refine lv_aload_n E.ex E.by dX3_put_33 rfl (lv_at hl 1 rfl) ?_
          refine k_get E G wi_X3_put_X3 0 (gE_0 _ _ _) rfl 0 rfl fl_X3_put_X3_0 (v := .ref (ae 1)) rfl dX3_put_34 ?_
          refine lv_iload E.ex E.by dX3_put_37 (lv_at hl 0 rfl) ?_
          refine lv_lload_n E.ex E.by dX3_put_39 rfl (lv_at hl 4 rfl) ?_
          refine k_last (fun z => (wE kc ae z)) E G 1 (gE_1 _ _ _) 1 rfl h.1 (uB ε 0 (x1).toNatClampNeg p3) (sE_1 _ _ _ _) dX3_put_40 (fun z2 ez2 H locs G => ?_)
          have h := h.2 z2 ez2
          exact k_retv (wof := (fun u : US => (wE kc ae u))) (u := z2) E G h (Nat.le_of_ble_eq_true rfl) (Nat.le_of_ble_eq_true rfl) dX3_put_41
theorem hd_X3_put_v : yX3_put.cls = RX3 ∧ yX3_put.cls ≠ "java/lang/invoke/MethodHandle" ∧ yX3_put.cls ≠ "java/lang/invoke/VarHandle" ∧ (parseMethodDescriptor yX3_put.desc).map (fun d => d.parameters.length) = some 3 := by decide +kernel
def wp_X3_clearRow_L2 (v1 : Int32) (Q : US → Prop) (P2 : (Int32 × US) → Prop) (t2 : Int32 × US) : Prop := (9 ≤ t2.1 → Q t2.2) ∧ (¬ 9 ≤ t2.1 → wp_X3_put v1 t2.1 0 t2.2 (fun (u1 : US) => P2 (t2.1 + 1, u1)))
def wp_X3_clearRow (p1 : Int32) (ε : US) (Q : US → Prop) : Prop := lpW (wp_X3_clearRow_L2 p1 Q) (0, ε)
set_option maxRecDepth 100000 in
set_option maxHeartbeats 4000000 in
theorem c_X3_clearRow (l : Launch) (D : va_G) (kc : Nat → ClassId) (ae : Nat → Nat) (p1 : Int32) (ε : US) (Q : US → Prop) (h : wp_X3_clearRow p1 ε Q) : kCv l D (tyL kc) yX3_clearRow wsX3_clearRow ({ frames := 1, cells := 0, slots := 0, locals := 25 } : Room) [.ref (ae 0), .int p1] (wE kc ae ε) (fun u : US => (wE kc ae u)) 0 0 (fun u => Q u) := by
  intro sz
  refine k_begin (cc := cX3_clearRow) (maxL := 3) (ret := none) (by decide +kernel) rfl rfl (fun p e s m args below meth c hsz E G ls hl => ?_)
  subst hsz
  have hl : lv_has ls 3 [(0, .ref (ae 0)), (1, .int p1)] := hl
  refine lv_iconst (v := 0) E.ex E.by dX3_clearRow_0 (by decide) ?_
  refine lv_istore_n (lv' := [(2, .int 0), (0, .ref (ae 0)), (1, .int p1)]) E.ex E.by dX3_clearRow_1 rfl hl (by decide) rfl (fun ls hl => ?_)
  refine lpW_ind (fun t1 : Int32 × US => ∀ (H : Heap) (locs : List Loc) (ls : Array Slot), kG D (va_A (wE kc ae ε) s.heap.size) s (wE kc ae t1.2) H locs → lv_has ls 3 [(0, .ref (ae 0)), (1, .int p1), (2, .int t1.1)] → W p l e _ s m args below meth c H locs _ _ _ (F0 m 2 ls [])) (fun P2 IH2 t1 h H locs ls G hl => ?_) _ h _ _ _ G (lv_sub hl [1, 2, 0] rfl)
  refine lv_iload_n E.ex E.by dX3_clearRow_2 rfl (lv_at hl 2 rfl) ?_
  refine lv_bipush (v := 9) E.ex E.by dX3_clearRow_3 (by decide) ?_
  refine lv_icmp_ge (tgt := 21) E.ex E.by dX3_clearRow_5 (by decide) (fun hc3 => ?_) (fun hc3 => ?_)
  · have h := h.1 hc3
    exact k_retv (wof := (fun u : US => (wE kc ae u))) (u := t1.2) E G h (Nat.le_of_ble_eq_true rfl) (Nat.le_of_ble_eq_true rfl) dX3_clearRow_21
  · have h := h.2 hc3
    refine lv_aload_n E.ex E.by dX3_clearRow_8 rfl (lv_at hl 0 rfl) ?_
    refine lv_iload_n E.ex E.by dX3_clearRow_9 rfl (lv_at hl 1 rfl) ?_
    refine lv_iload_n E.ex E.by dX3_clearRow_10 rfl (lv_at hl 2 rfl) ?_
    refine lv_lconst (v := 0) E.ex E.by dX3_clearRow_11 (by decide) ?_
    refine k_cVv (X := []) (w := (wE kc ae t1.2)) (Z := []) (wnew := (fun u : US => (wE kc ae u))) (As := [.int p1, .int t1.1, .long 0]) (rest := []) E (List.append_nil _).symm G (c_X3_put l D kc _ _ _ _ _ _ h) gX3_clearRow_X3_put rfl ⟨rfl, rfl⟩ hd_X3_put_v ⟨rfl, rfl⟩ 0 (gE_0 _ _ _) rfl rfl hl rfl rfl dX3_clearRow_12 ⟨rfl, rfl⟩ (fun _ => (List.append_nil _).symm) (fun u2 hq H locs G => ?_)
    have h := hq
    refine lv_iinc (k := 2) (v := t1.1 + 1) (lv' := [(2, .int (t1.1 + 1)), (0, .ref (ae 0)), (1, .int p1)]) E.ex E.by dX3_clearRow_15 hl rfl (k_inc1 _) (by decide) rfl (fun ls hl => ?_)
    refine lv_goto (tgt := 2) E.ex E.by dX3_clearRow_18 (by decide) ?_
    exact IH2 _ h _ _ _ G (lv_sub hl [1, 2, 0] rfl)
theorem hd_X3_clearRow_v : yX3_clearRow.cls = RX3 ∧ yX3_clearRow.cls ≠ "java/lang/invoke/MethodHandle" ∧ yX3_clearRow.cls ≠ "java/lang/invoke/VarHandle" ∧ (parseMethodDescriptor yX3_clearRow.desc).map (fun d => d.parameters.length) = some 1 := by decide +kernel
def wp_X3_clear_L2 (Q : US → Prop) (P2 : (Int32 × US) → Prop) (t2 : Int32 × US) : Prop := (8 ≤ t2.1 → Q t2.2) ∧ (¬ 8 ≤ t2.1 → wp_X3_clearRow t2.1 t2.2 (fun (u1 : US) => wp_X3_put t2.1 t2.1 1 u1 (fun (u2 : US) => P2 (t2.1 + 1, u2))))
def wp_X3_clear (ε : US) (Q : US → Prop) : Prop := lpW (wp_X3_clear_L2 Q) (0, ε)
set_option maxRecDepth 100000 in
set_option maxHeartbeats 4000000 in
theorem c_X3_clear (l : Launch) (D : va_G) (kc : Nat → ClassId) (ae : Nat → Nat) (ε : US) (Q : US → Prop) (h : wp_X3_clear ε Q) : kCv l D (tyL kc) yX3_clear wsX3_clear ({ frames := 2, cells := 0, slots := 0, locals := 47 } : Room) [.ref (ae 0)] (wE kc ae ε) (fun u : US => (wE kc ae u)) 0 0 (fun u => Q u) := by
  intro sz
  refine k_begin (cc := cX3_clear) (maxL := 2) (ret := none) (by decide +kernel) rfl rfl (fun p e s m args below meth c hsz E G ls hl => ?_)
  subst hsz
  have hl : lv_has ls 2 [(0, .ref (ae 0))] := hl
  refine lv_iconst (v := 0) E.ex E.by dX3_clear_0 (by decide) ?_
  refine lv_istore_n (lv' := [(1, .int 0), (0, .ref (ae 0))]) E.ex E.by dX3_clear_1 rfl hl (by decide) rfl (fun ls hl => ?_)
  refine lpW_ind (fun t1 : Int32 × US => ∀ (H : Heap) (locs : List Loc) (ls : Array Slot), kG D (va_A (wE kc ae ε) s.heap.size) s (wE kc ae t1.2) H locs → lv_has ls 2 [(0, .ref (ae 0)), (1, .int t1.1)] → W p l e _ s m args below meth c H locs _ _ _ (F0 m 2 ls [])) (fun P2 IH2 t1 h H locs ls G hl => ?_) _ h _ _ _ G (lv_sub hl [1, 0] rfl)
  refine lv_iload_n E.ex E.by dX3_clear_2 rfl (lv_at hl 1 rfl) ?_
  refine lv_bipush (v := 8) E.ex E.by dX3_clear_3 (by decide) ?_
  refine lv_icmp_ge (tgt := 26) E.ex E.by dX3_clear_5 (by decide) (fun hc4 => ?_) (fun hc4 => ?_)
  · have h := h.1 hc4
    exact k_retv (wof := (fun u : US => (wE kc ae u))) (u := t1.2) E G h (Nat.le_of_ble_eq_true rfl) (Nat.le_of_ble_eq_true rfl) dX3_clear_26
  · have h := h.2 hc4
    refine lv_aload_n E.ex E.by dX3_clear_8 rfl (lv_at hl 0 rfl) ?_
    refine lv_iload_n E.ex E.by dX3_clear_9 rfl (lv_at hl 1 rfl) ?_
    refine k_cVv (X := []) (w := (wE kc ae t1.2)) (Z := []) (wnew := (fun u : US => (wE kc ae u))) (As := [.int t1.1]) (rest := []) E (List.append_nil _).symm G (c_X3_clearRow l D kc _ _ _ _ h) gX3_clear_X3_clearRow rfl ⟨rfl, rfl⟩ hd_X3_clearRow_v ⟨rfl, rfl⟩ 0 (gE_0 _ _ _) rfl rfl hl rfl rfl dX3_clear_10 ⟨rfl, rfl⟩ (fun _ => (List.append_nil _).symm) (fun u2 hq H locs G => ?_)
    have h := hq
    refine lv_aload_n E.ex E.by dX3_clear_13 rfl (lv_at hl 0 rfl) ?_
    refine lv_iload_n E.ex E.by dX3_clear_14 rfl (lv_at hl 1 rfl) ?_
    refine lv_iload_n E.ex E.by dX3_clear_15 rfl (lv_at hl 1 rfl) ?_
    refine lv_lconst (v := 1) E.ex E.by dX3_clear_16 (by decide) ?_
    refine k_cVv (X := []) (w := (wE kc ae u2)) (Z := []) (wnew := (fun u : US => (wE kc ae u))) (As := [.int t1.1, .int t1.1, .long 1]) (rest := []) E (List.append_nil _).symm G (c_X3_put l D kc _ _ _ _ _ _ h) gX3_clear_X3_put rfl ⟨rfl, rfl⟩ hd_X3_put_v ⟨rfl, rfl⟩ 0 (gE_0 _ _ _) rfl rfl hl rfl rfl dX3_clear_17 ⟨rfl, rfl⟩ (fun _ => (List.append_nil _).symm) (fun u3 hq H locs G => ?_)
    have h := hq
    refine lv_iinc (k := 1) (v := t1.1 + 1) (lv' := [(1, .int (t1.1 + 1)), (0, .ref (ae 0))]) E.ex E.by dX3_clear_20 hl rfl (k_inc1 _) (by decide) rfl (fun ls hl => ?_)
    refine lv_goto (tgt := 2) E.ex E.by dX3_clear_23 (by decide) ?_
    exact IH2 _ h _ _ _ G (lv_sub hl [1, 0] rfl)
theorem wi_X3_get_X3 : ∀ w ∈ wsX30, w ∈ wsX3_get := fun w h => List.mem_cons_of_mem _ (List.mem_append_right _ (h))
theorem fl_X3_get_X3_0 : Cond.fieldLink RX3 11 (TX3 0).1 (TX3 0).2.1 (TX3 0).2.2.1 ∈ wsX3_get := List.mem_of_getElem? (i := 1) (by decide +kernel)
def wp_X3_get (p1 : Int32) (p2 : Int32) (ε : US) (Q : Int64 → Prop) : Prop := ∀ x1 : Int32, x1 = (p1 * 9) + p2 → (p2 < 0 → Q 0) ∧ (¬ p2 < 0 → (9 ≤ p2 → Q 0) ∧ (¬ 9 ≤ p2 → (x1 < 0 → Q 0) ∧ (¬ x1 < 0 → (72 ≤ x1 → Q 0) ∧ (¬ 72 ≤ x1 → vp_in x1 72 ∧ (Q (aB ε 0 (x1).toNatClampNeg))))))
set_option maxRecDepth 100000 in
set_option maxHeartbeats 4000000 in
theorem c_X3_get (l : Launch) (D : va_G) (kc : Nat → ClassId) (ae : Nat → Nat) (p1 : Int32) (p2 : Int32) (ε : US) (Q : Int64 → Prop) (h : wp_X3_get p1 p2 ε Q) : kCl l D (tyL kc) yX3_get wsX3_get ({ frames := 0, cells := 0, slots := 0, locals := 0 } : Room) [.ref (ae 0), .int p1, .int p2] (wE kc ae ε) (fun _ : Unit => (wE kc ae ε)) 0 0 (fun r _ => Q r) := by
  intro sz
  refine k_begin (cc := cX3_get) (maxL := 4) (ret := (some .long)) (by decide +kernel) rfl rfl (fun p e s m args below meth c hsz E G ls hl => ?_)
  subst hsz
  have hl : lv_has ls 4 [(0, .ref (ae 0)), (1, .int p1), (2, .int p2)] := hl
  refine lv_iload_n E.ex E.by dX3_get_0 rfl (lv_at hl 1 rfl) ?_
  refine lv_bipush (v := 9) E.ex E.by dX3_get_1 (by decide) ?_
  refine lv_imul E.ex E.by dX3_get_3 ?_
  refine lv_iload_n E.ex E.by dX3_get_4 rfl (lv_at hl 2 rfl) ?_
  refine lv_iadd E.ex E.by dX3_get_5 ?_
  refine lv_topi (fun x1 ex1 => ?_)
  have h := h x1 ex1
  refine lv_istore_n (lv' := [(3, .int x1), (0, .ref (ae 0)), (1, .int p1), (2, .int p2)]) E.ex E.by dX3_get_6 rfl hl (by decide) rfl (fun ls hl => ?_)
  refine lv_iload_n E.ex E.by dX3_get_7 rfl (lv_at hl 3 rfl) ?_
  refine lv_if_lt (tgt := 39) E.ex E.by dX3_get_8 (by decide) (fun hc5 => ?_) (fun hc5 => ?_)
  · have h := h.1 hc5
    refine lv_lconst (v := 0) E.ex E.by dX3_get_39 (by decide) ?_
    exact k_retl (wof := (fun _ : Unit => (wE kc ae ε))) (u := ()) E G h (Nat.le_of_ble_eq_true rfl) (Nat.le_of_ble_eq_true rfl) dX3_get_40
  · have h := h.2 hc5
    refine lv_iload_n E.ex E.by dX3_get_11 rfl (lv_at hl 3 rfl) ?_
    refine lv_bipush (v := 9) E.ex E.by dX3_get_12 (by decide) ?_
    refine lv_icmp_ge (tgt := 39) E.ex E.by dX3_get_14 (by decide) (fun hc4 => ?_) (fun hc4 => ?_)
    · have h := h.1 hc4
      refine lv_lconst (v := 0) E.ex E.by dX3_get_39 (by decide) ?_
      exact k_retl (wof := (fun _ : Unit => (wE kc ae ε))) (u := ()) E G h (Nat.le_of_ble_eq_true rfl) (Nat.le_of_ble_eq_true rfl) dX3_get_40
    · have h := h.2 hc4
      refine lv_iload_n E.ex E.by dX3_get_17 rfl (lv_at hl 0 rfl) ?_
      refine lv_if_lt (tgt := 39) E.ex E.by dX3_get_18 (by decide) (fun hc3 => ?_) (fun hc3 => ?_)
      · have h := h.1 hc3
        refine lv_lconst (v := 0) E.ex E.by dX3_get_39 (by decide) ?_
        exact k_retl (wof := (fun _ : Unit => (wE kc ae ε))) (u := ()) E G h (Nat.le_of_ble_eq_true rfl) (Nat.le_of_ble_eq_true rfl) dX3_get_40
      · have h := h.2 hc3
        refine lv_iload_n E.ex E.by dX3_get_21 rfl (lv_at hl 0 rfl) ?_
        refine lv_aload_n E.ex E.by dX3_get_22 rfl (lv_at hl 1 rfl) ?_
        refine k_get E G wi_X3_get_X3 0 (gE_0 _ _ _) rfl 0 rfl fl_X3_get_X3_0 (v := .ref (ae 1)) rfl dX3_get_23 ?_
        refine va_alen E.ex E.by E.k G.1 1 1 (gE_1 _ _ _) rfl (v := 72) rfl dX3_get_26 ?_
        refine lv_icmp_ge (tgt := 39) E.ex E.by dX3_get_27 (by decide) (fun hc2 => ?_) (fun hc2 => ?_)
        · have h := h.1 hc2
          refine lv_lconst (v := 0) E.ex E.by dX3_get_39 (by decide) ?_
          exact k_retl (wof := (fun _ : Unit => (wE kc ae ε))) (u := ()) E G h (Nat.le_of_ble_eq_true rfl) (Nat.le_of_ble_eq_true rfl) dX3_get_40
        · have h := h.2 hc2
          refine lv_aload_n E.ex E.by dX3_get_30 rfl (lv_at hl 1 rfl) ?_
          refine k_get E G wi_X3_get_X3 0 (gE_0 _ _ _) rfl 0 rfl fl_X3_get_X3_0 (v := .ref (ae 1)) rfl dX3_get_31 ?_
          refine lv_iload_n E.ex E.by dX3_get_34 rfl (lv_at hl 0 rfl) ?_
          refine k_lald E G 1 (gE_1 _ _ _) 1 rfl h.1 dX3_get_35 ?_
          have h := h.2
          refine lv_goto (tgt := 40) E.ex E.by dX3_get_36 (by decide) ?_
          exact k_retl (wof := (fun _ : Unit => (wE kc ae ε))) (u := ()) E G h (Nat.le_of_ble_eq_true rfl) (Nat.le_of_ble_eq_true rfl) dX3_get_40
theorem hd_X3_get_v : yX3_get.cls = RX3 ∧ yX3_get.cls ≠ "java/lang/invoke/MethodHandle" ∧ yX3_get.cls ≠ "java/lang/invoke/VarHandle" ∧ (parseMethodDescriptor yX3_get.desc).map (fun d => d.parameters.length) = some 2 := by decide +kernel
def wp_X3_add (p1 : Int32) (p2 : Int32) (p3 : Int64) (ε : US) (Q : US → Prop) : Prop := wp_X3_get p1 p2 ε (fun (r1 : Int64) => wp_X3_put p1 p2 (r1 + p3) ε (fun (u2 : US) => Q u2))
set_option maxRecDepth 100000 in
set_option maxHeartbeats 4000000 in
theorem c_X3_add (l : Launch) (D : va_G) (kc : Nat → ClassId) (ae : Nat → Nat) (p1 : Int32) (p2 : Int32) (p3 : Int64) (ε : US) (Q : US → Prop) (h : wp_X3_add p1 p2 p3 ε Q) : kCv l D (tyL kc) yX3_add wsX3_add ({ frames := 1, cells := 0, slots := 0, locals := 25 } : Room) [.ref (ae 0), .int p1, .int p2, .long p3] (wE kc ae ε) (fun u : US => (wE kc ae u)) 0 0 (fun u => Q u) := by
  intro sz
  refine k_begin (cc := cX3_add) (maxL := 5) (ret := none) (by decide +kernel) rfl rfl (fun p e s m args below meth c hsz E G ls hl => ?_)
  subst hsz
  have hl : lv_has ls 5 [(0, .ref (ae 0)), (1, .int p1), (2, .int p2), (3, .long p3)] := hl
  refine lv_aload_n E.ex E.by dX3_add_0 rfl (lv_at hl 0 rfl) ?_
  refine lv_iload_n E.ex E.by dX3_add_1 rfl (lv_at hl 1 rfl) ?_
  refine lv_iload_n E.ex E.by dX3_add_2 rfl (lv_at hl 2 rfl) ?_
  refine lv_aload_n E.ex E.by dX3_add_3 rfl (lv_at hl 0 rfl) ?_
  refine lv_iload_n E.ex E.by dX3_add_4 rfl (lv_at hl 1 rfl) ?_
  refine lv_iload_n E.ex E.by dX3_add_5 rfl (lv_at hl 2 rfl) ?_
  refine k_cVl (X := []) (w := (wE kc ae ε)) (Z := []) (wnew := (fun _ : Unit => (wE kc ae ε))) (As := [.int p1, .int p2]) (rest := [.int p2, .int p1, .ref (ae 0)]) E (List.append_nil _).symm G (c_X3_get l D kc _ _ _ _ _ h) gX3_add_X3_get rfl ⟨rfl, rfl⟩ hd_X3_get_v ⟨rfl, rfl⟩ 0 (gE_0 _ _ _) rfl rfl hl rfl rfl dX3_add_6 ⟨rfl, rfl⟩ (fun _ => (List.append_nil _).symm) (fun r1 _u6 hq H locs G => ?_)
  have h := hq
  refine lv_lload_n E.ex E.by dX3_add_9 rfl (lv_at hl 3 rfl) ?_
  refine lv_ladd E.ex E.by dX3_add_10 ?_
  refine k_cVv (X := []) (w := (wE kc ae ε)) (Z := []) (wnew := (fun u : US => (wE kc ae u))) (As := [.int p1, .int p2, .long (r1 + p3)]) (rest := []) E (List.append_nil _).symm G (c_X3_put l D kc _ _ _ _ _ _ h) gX3_add_X3_put rfl ⟨rfl, rfl⟩ hd_X3_put_v ⟨rfl, rfl⟩ 0 (gE_0 _ _ _) rfl rfl hl rfl rfl dX3_add_11 ⟨rfl, rfl⟩ (fun _ => (List.append_nil _).symm) (fun u2 hq H locs G => ?_)
  have h := hq
  exact k_retv (wof := (fun u : US => (wE kc ae u))) (u := u2) E G h (Nat.le_of_ble_eq_true rfl) (Nat.le_of_ble_eq_true rfl) dX3_add_14
def wp_X3_putRight (p1 : Int32) (p2 : Int64) (ε : US) (Q : US → Prop) : Prop := wp_X3_put p1 8 p2 ε (fun (u1 : US) => Q u1)
set_option maxRecDepth 100000 in
set_option maxHeartbeats 4000000 in
theorem c_X3_putRight (l : Launch) (D : va_G) (kc : Nat → ClassId) (ae : Nat → Nat) (p1 : Int32) (p2 : Int64) (ε : US) (Q : US → Prop) (h : wp_X3_putRight p1 p2 ε Q) : kCv l D (tyL kc) yX3_putRight wsX3_putRight ({ frames := 1, cells := 0, slots := 0, locals := 25 } : Room) [.ref (ae 0), .int p1, .long p2] (wE kc ae ε) (fun u : US => (wE kc ae u)) 0 0 (fun u => Q u) := by
  intro sz
  refine k_begin (cc := cX3_putRight) (maxL := 4) (ret := none) (by decide +kernel) rfl rfl (fun p e s m args below meth c hsz E G ls hl => ?_)
  subst hsz
  have hl : lv_has ls 4 [(0, .ref (ae 0)), (1, .int p1), (2, .long p2)] := hl
  refine lv_aload_n E.ex E.by dX3_putRight_0 rfl (lv_at hl 0 rfl) ?_
  refine lv_iload_n E.ex E.by dX3_putRight_1 rfl (lv_at hl 1 rfl) ?_
  refine lv_bipush (v := 8) E.ex E.by dX3_putRight_2 (by decide) ?_
  refine lv_lload_n E.ex E.by dX3_putRight_4 rfl (lv_at hl 2 rfl) ?_
  refine k_cVv (X := []) (w := (wE kc ae ε)) (Z := []) (wnew := (fun u : US => (wE kc ae u))) (As := [.int p1, .int 8, .long p2]) (rest := []) E (List.append_nil _).symm G (c_X3_put l D kc _ _ _ _ _ _ h) gX3_putRight_X3_put rfl ⟨rfl, rfl⟩ hd_X3_put_v ⟨rfl, rfl⟩ 0 (gE_0 _ _ _) rfl rfl hl rfl rfl dX3_putRight_5 ⟨rfl, rfl⟩ (fun _ => (List.append_nil _).symm) (fun u1 hq H locs G => ?_)
  have h := hq
  exact k_retv (wof := (fun u : US => (wE kc ae u))) (u := u1) E G h (Nat.le_of_ble_eq_true rfl) (Nat.le_of_ble_eq_true rfl) dX3_putRight_8
def wp_X3_eliminate_L26 (v7 : Int64) (v5 : Int64) (v1 : Int32) (v2 : Int32) (v3 : Int64) (Q : US → Prop) (P26 : (Int32 × US) → Prop) (t26 : Int32 × US) : Prop := (9 ≤ t26.1 → Q t26.2) ∧ (¬ 9 ≤ t26.1 → wp_X3_get v1 t26.1 t26.2 (fun (r3 : Int64) => wp_X3_get v2 t26.1 t26.2 (fun (r4 : Int64) => (¬ v3 = (0 : Int64)) ∧ (wp_X3_put v1 t26.1 (((v7 * r3) - (v5 * r4)) / v3) t26.2 (fun (u5 : US) => P26 (t26.1 + 1, u5))))))
def wp_X3_eliminate (p1 : Int32) (p2 : Int32) (p3 : Int64) (ε : US) (Q : US → Prop) : Prop := (¬ (lg_cmp p3 0) = 0 → wp_X3_get p1 p2 ε (fun (r1 : Int64) => wp_X3_get p2 p2 ε (fun (r2 : Int64) => lpW (wp_X3_eliminate_L26 r2 r1 p1 p2 p3 Q) (0, ε)))) ∧ ((lg_cmp p3 0) = 0 → Q ε)
set_option maxRecDepth 100000 in
set_option maxHeartbeats 4000000 in
theorem c_X3_eliminate (l : Launch) (D : va_G) (kc : Nat → ClassId) (ae : Nat → Nat) (p1 : Int32) (p2 : Int32) (p3 : Int64) (ε : US) (Q : US → Prop) (h : wp_X3_eliminate p1 p2 p3 ε Q) : kCv l D (tyL kc) yX3_eliminate wsX3_eliminate ({ frames := 1, cells := 0, slots := 0, locals := 25 } : Room) [.ref (ae 0), .int p1, .int p2, .long p3] (wE kc ae ε) (fun u : US => (wE kc ae u)) 0 0 (fun u => Q u) := by
  intro sz
  refine k_begin (cc := cX3_eliminate) (maxL := 10) (ret := none) (by decide +kernel) rfl rfl (fun p e s m args below meth c hsz E G ls hl => ?_)
  subst hsz
  have hl : lv_has ls 10 [(0, .ref (ae 0)), (1, .int p1), (2, .int p2), (3, .long p3)] := hl
  refine lv_lload_n E.ex E.by dX3_eliminate_0 rfl (lv_at hl 3 rfl) ?_
  refine lv_lconst (v := 0) E.ex E.by dX3_eliminate_1 (by decide) ?_
  refine W.lcmp E.ex E.by dX3_eliminate_2 ?_
  refine lv_if_ne (tgt := 7) E.ex E.by dX3_eliminate_3 (by decide) (fun hc8 => ?_) (fun hc8 => ?_)
  · have h := h.1 hc8
    refine lv_aload_n E.ex E.by dX3_eliminate_7 rfl (lv_at hl 0 rfl) ?_
    refine lv_iload_n E.ex E.by dX3_eliminate_8 rfl (lv_at hl 1 rfl) ?_
    refine lv_iload_n E.ex E.by dX3_eliminate_9 rfl (lv_at hl 2 rfl) ?_
    refine k_cVl (X := []) (w := (wE kc ae ε)) (Z := []) (wnew := (fun _ : Unit => (wE kc ae ε))) (As := [.int p1, .int p2]) (rest := []) E (List.append_nil _).symm G (c_X3_get l D kc _ _ _ _ _ h) gX3_eliminate_X3_get rfl ⟨rfl, rfl⟩ hd_X3_get_v ⟨rfl, rfl⟩ 0 (gE_0 _ _ _) rfl rfl hl rfl rfl dX3_eliminate_10 ⟨rfl, rfl⟩ (fun _ => (List.append_nil _).symm) (fun r1 _u10 hq H locs G => ?_)
    have h := hq
    refine lv_lstore (lv' := [(5, .long r1), (0, .ref (ae 0)), (1, .int p1), (2, .int p2), (3, .long p3)]) E.ex E.by dX3_eliminate_13 hl (by decide) rfl (fun ls hl => ?_)
    refine lv_aload_n E.ex E.by dX3_eliminate_15 rfl (lv_at hl 1 rfl) ?_
    refine lv_iload_n E.ex E.by dX3_eliminate_16 rfl (lv_at hl 3 rfl) ?_
    refine lv_iload_n E.ex E.by dX3_eliminate_17 rfl (lv_at hl 3 rfl) ?_
    refine k_cVl (X := []) (w := (wE kc ae ε)) (Z := []) (wnew := (fun _ : Unit => (wE kc ae ε))) (As := [.int p2, .int p2]) (rest := []) E (List.append_nil _).symm G (c_X3_get l D kc _ _ _ _ _ h) gX3_eliminate_X3_get rfl ⟨rfl, rfl⟩ hd_X3_get_v ⟨rfl, rfl⟩ 0 (gE_0 _ _ _) rfl rfl hl rfl rfl dX3_eliminate_18 ⟨rfl, rfl⟩ (fun _ => (List.append_nil _).symm) (fun r2 _u18 hq H locs G => ?_)
    have h := hq
    refine lv_lstore (lv' := [(7, .long r2), (5, .long r1), (0, .ref (ae 0)), (1, .int p1), (2, .int p2), (3, .long p3)]) E.ex E.by dX3_eliminate_21 hl (by decide) rfl (fun ls hl => ?_)
    refine lv_iconst (v := 0) E.ex E.by dX3_eliminate_23 (by decide) ?_
    refine lv_istore (lv' := [(9, .int 0), (7, .long r2), (5, .long r1), (0, .ref (ae 0)), (1, .int p1), (2, .int p2), (3, .long p3)]) E.ex E.by dX3_eliminate_24 hl (by decide) rfl (fun ls hl => ?_)
    refine lpW_ind (fun t3 : Int32 × US => ∀ (H : Heap) (locs : List Loc) (ls : Array Slot), kG D (va_A (wE kc ae ε) s.heap.size) s (wE kc ae t3.2) H locs → lv_has ls 10 [(0, .ref (ae 0)), (1, .int p1), (2, .int p2), (3, .long p3), (5, .long r1), (7, .long r2), (9, .int t3.1)] → W p l e _ s m args below meth c H locs _ _ _ (F0 m 26 ls [])) (fun P26 IH26 t3 h H locs ls G hl => ?_) _ h _ _ _ G (lv_sub hl [3, 4, 5, 6, 2, 1, 0] rfl)
    refine lv_iload E.ex E.by dX3_eliminate_26 (lv_at hl 6 rfl) ?_
    refine lv_bipush (v := 9) E.ex E.by dX3_eliminate_28 (by decide) ?_
    refine lv_icmp_ge (tgt := 69) E.ex E.by dX3_eliminate_30 (by decide) (fun hc7 => ?_) (fun hc7 => ?_)
    · have h := h.1 hc7
      exact k_retv (wof := (fun u : US => (wE kc ae u))) (u := t3.2) E G h (Nat.le_of_ble_eq_true rfl) (Nat.le_of_ble_eq_true rfl) dX3_eliminate_69
    · have h := h.2 hc7
      refine lv_aload_n E.ex E.by dX3_eliminate_33 rfl (lv_at hl 0 rfl) ?_
      refine lv_iload_n E.ex E.by dX3_eliminate_34 rfl (lv_at hl 1 rfl) ?_
      refine lv_iload E.ex E.by dX3_eliminate_35 (lv_at hl 6 rfl) ?_
      refine lv_lload E.ex E.by dX3_eliminate_37 (lv_at hl 5 rfl) ?_
      refine lv_aload_n E.ex E.by dX3_eliminate_39 rfl (lv_at hl 0 rfl) ?_
      refine lv_iload_n E.ex E.by dX3_eliminate_40 rfl (lv_at hl 1 rfl) ?_
      refine lv_iload E.ex E.by dX3_eliminate_41 (lv_at hl 6 rfl) ?_
      refine k_cVl (X := []) (w := (wE kc ae t3.2)) (Z := []) (wnew := (fun _ : Unit => (wE kc ae t3.2))) (As := [.int p1, .int t3.1]) (rest := [.long r2, .int t3.1, .int p1, .ref (ae 0)]) E (List.append_nil _).symm G (c_X3_get l D kc _ _ _ _ _ h) gX3_eliminate_X3_get rfl ⟨rfl, rfl⟩ hd_X3_get_v ⟨rfl, rfl⟩ 0 (gE_0 _ _ _) rfl rfl hl rfl rfl dX3_eliminate_43 ⟨rfl, rfl⟩ (fun _ => (List.append_nil _).symm) (fun r4 _u43 hq H locs G => ?_)
      have h := hq
      refine lv_lmul E.ex E.by dX3_eliminate_46 ?_
      refine lv_lload E.ex E.by dX3_eliminate_47 (lv_at hl 4 rfl) ?_
      refine lv_aload_n E.ex E.by dX3_eliminate_49 rfl (lv_at hl 0 rfl) ?_
      refine lv_iload_n E.ex E.by dX3_eliminate_50 rfl (lv_at hl 2 rfl) ?_
      refine lv_iload E.ex E.by dX3_eliminate_51 (lv_at hl 6 rfl) ?_
      refine k_cVl (X := []) (w := (wE kc ae t3.2)) (Z := []) (wnew := (fun _ : Unit => (wE kc ae t3.2))) (As := [.int p2, .int t3.1]) (rest := [.long r1, .long (r2 * r4), .int t3.1, .int p1, .ref (ae 0)]) E (List.append_nil _).symm G (c_X3_get l D kc _ _ _ _ _ h) gX3_eliminate_X3_get rfl ⟨rfl, rfl⟩ hd_X3_get_v ⟨rfl, rfl⟩ 0 (gE_0 _ _ _) rfl rfl hl rfl rfl dX3_eliminate_53 ⟨rfl, rfl⟩ (fun _ => (List.append_nil _).symm) (fun r5 _u53 hq H locs G => ?_)
      have h := hq
      refine lv_lmul E.ex E.by dX3_eliminate_56 ?_
      refine lv_lsub E.ex E.by dX3_eliminate_57 ?_
      refine lv_lload_n E.ex E.by dX3_eliminate_58 rfl (lv_at hl 3 rfl) ?_
      refine lv_ldiv E.ex E.by dX3_eliminate_59 h.1 ?_
      have h := h.2
      refine k_cVv (X := []) (w := (wE kc ae t3.2)) (Z := []) (wnew := (fun u : US => (wE kc ae u))) (As := [.int p1, .int t3.1, .long (((r2 * r4) - (r1 * r5)) / p3)]) (rest := []) E (List.append_nil _).symm G (c_X3_put l D kc _ _ _ _ _ _ h) gX3_eliminate_X3_put rfl ⟨rfl, rfl⟩ hd_X3_put_v ⟨rfl, rfl⟩ 0 (gE_0 _ _ _) rfl rfl hl rfl rfl dX3_eliminate_60 ⟨rfl, rfl⟩ (fun _ => (List.append_nil _).symm) (fun u6 hq H locs G => ?_)
      have h := hq
      refine lv_iinc (k := 6) (v := t3.1 + 1) (lv' := [(9, .int (t3.1 + 1)), (0, .ref (ae 0)), (1, .int p1), (2, .int p2), (3, .long p3), (5, .long r1), (7, .long r2)]) E.ex E.by dX3_eliminate_63 hl rfl (k_inc1 _) (by decide) rfl (fun ls hl => ?_)
      refine lv_goto (tgt := 26) E.ex E.by dX3_eliminate_66 (by decide) ?_
      exact IH26 _ h _ _ _ G (lv_sub hl [1, 2, 3, 4, 5, 6, 0] rfl)
  · have h := h.2 hc8
    exact k_retv (wof := (fun u : US => (wE kc ae u))) (u := ε) E G h (Nat.le_of_ble_eq_true rfl) (Nat.le_of_ble_eq_true rfl) dX3_eliminate_6
theorem hd_X3_eliminate_v : yX3_eliminate.cls = RX3 ∧ yX3_eliminate.cls ≠ "java/lang/invoke/MethodHandle" ∧ yX3_eliminate.cls ≠ "java/lang/invoke/VarHandle" ∧ (parseMethodDescriptor yX3_eliminate.desc).map (fun d => d.parameters.length) = some 3 := by decide +kernel
def wp_X3_solve_L13 (v1 : Int64) (v3 : Int32) (P4 : (Int64 × Int32 × US) → Prop) (Q : US → Prop) (P13 : (Int32 × US) → Prop) (t13 : Int32 × US) : Prop := (8 ≤ t13.1 → wp_X3_get v3 v3 t13.2 (fun (r1 : Int64) => P4 (r1, v3 + 1, t13.2))) ∧ (¬ 8 ≤ t13.1 → (t13.1 = v3 → P13 (t13.1 + 1, t13.2)) ∧ (¬ t13.1 = v3 → wp_X3_eliminate t13.1 v3 v1 t13.2 (fun (u2 : US) => P13 (t13.1 + 1, u2))))
def wp_X3_solve_L4 (Q : US → Prop) (P4 : (Int64 × Int32 × US) → Prop) (t4 : Int64 × Int32 × US) : Prop := (8 ≤ t4.2.1 → Q t4.2.2) ∧ (¬ 8 ≤ t4.2.1 → lpW (wp_X3_solve_L13 t4.1 t4.2.1 P4 Q) (0, t4.2.2))
def wp_X3_solve (ε : US) (Q : US → Prop) : Prop := lpW (wp_X3_solve_L4 Q) (1, 0, ε)
set_option maxRecDepth 100000 in
set_option maxHeartbeats 4000000 in
theorem c_X3_solve (l : Launch) (D : va_G) (kc : Nat → ClassId) (ae : Nat → Nat) (ε : US) (Q : US → Prop) (h : wp_X3_solve ε Q) : kCv l D (tyL kc) yX3_solve wsX3_solve ({ frames := 2, cells := 0, slots := 0, locals := 54 } : Room) [.ref (ae 0)] (wE kc ae ε) (fun u : US => (wE kc ae u)) 0 0 (fun u => Q u) := by
  intro sz
  refine k_begin (cc := cX3_solve) (maxL := 5) (ret := none) (by decide +kernel) rfl rfl (fun p e s m args below meth c hsz E G ls hl => ?_)
  subst hsz
  have hl : lv_has ls 5 [(0, .ref (ae 0))] := hl
  refine lv_lconst (v := 1) E.ex E.by dX3_solve_0 (by decide) ?_
  refine lv_lstore_n (lv' := [(1, .long 1), (0, .ref (ae 0))]) E.ex E.by dX3_solve_1 rfl hl (by decide) rfl (fun ls hl => ?_)
  refine lv_iconst (v := 0) E.ex E.by dX3_solve_2 (by decide) ?_
  refine lv_istore_n (lv' := [(3, .int 0), (1, .long 1), (0, .ref (ae 0))]) E.ex E.by dX3_solve_3 rfl hl (by decide) rfl (fun ls hl => ?_)
  refine lpW_ind (fun t1 : Int64 × Int32 × US => ∀ (H : Heap) (locs : List Loc) (ls : Array Slot), kG D (va_A (wE kc ae ε) s.heap.size) s (wE kc ae t1.2.2) H locs → lv_has ls 5 [(0, .ref (ae 0)), (1, .long t1.1), (3, .int t1.2.1)] → W p l e _ s m args below meth c H locs _ _ _ (F0 m 4 ls [])) (fun P4 IH4 t1 h H locs ls G hl => ?_) _ h _ _ _ G (lv_sub hl [2, 1, 0] rfl)
  refine lv_iload_n E.ex E.by dX3_solve_4 rfl (lv_at hl 2 rfl) ?_
  refine lv_bipush (v := 8) E.ex E.by dX3_solve_5 (by decide) ?_
  refine lv_icmp_ge (tgt := 53) E.ex E.by dX3_solve_7 (by decide) (fun hc7 => ?_) (fun hc7 => ?_)
  · have h := h.1 hc7
    exact k_retv (wof := (fun u : US => (wE kc ae u))) (u := t1.2.2) E G h (Nat.le_of_ble_eq_true rfl) (Nat.le_of_ble_eq_true rfl) dX3_solve_53
  · have h := h.2 hc7
    refine lv_iconst (v := 0) E.ex E.by dX3_solve_10 (by decide) ?_
    refine lv_istore (lv' := [(4, .int 0), (0, .ref (ae 0)), (1, .long t1.1), (3, .int t1.2.1)]) E.ex E.by dX3_solve_11 hl (by decide) rfl (fun ls hl => ?_)
    refine lpW_ind (fun t2 : Int32 × US => ∀ (H : Heap) (locs : List Loc) (ls : Array Slot), kG D (va_A (wE kc ae ε) s.heap.size) s (wE kc ae t2.2) H locs → lv_has ls 5 [(0, .ref (ae 0)), (1, .long t1.1), (3, .int t1.2.1), (4, .int t2.1)] → W p l e _ s m args below meth c H locs _ _ _ (F0 m 13 ls [])) (fun P13 IH13 t2 h H locs ls G hl => ?_) _ h _ _ _ G (lv_sub hl [1, 2, 3, 0] rfl)
    refine lv_iload E.ex E.by dX3_solve_13 (lv_at hl 3 rfl) ?_
    refine lv_bipush (v := 8) E.ex E.by dX3_solve_15 (by decide) ?_
    refine lv_icmp_ge (tgt := 40) E.ex E.by dX3_solve_17 (by decide) (fun hc6 => ?_) (fun hc6 => ?_)
    · have h := h.1 hc6
      refine lv_aload_n E.ex E.by dX3_solve_40 rfl (lv_at hl 0 rfl) ?_
      refine lv_iload_n E.ex E.by dX3_solve_41 rfl (lv_at hl 2 rfl) ?_
      refine lv_iload_n E.ex E.by dX3_solve_42 rfl (lv_at hl 2 rfl) ?_
      refine k_cVl (X := []) (w := (wE kc ae t2.2)) (Z := []) (wnew := (fun _ : Unit => (wE kc ae t2.2))) (As := [.int t1.2.1, .int t1.2.1]) (rest := []) E (List.append_nil _).symm G (c_X3_get l D kc _ _ _ _ _ h) gX3_solve_X3_get rfl ⟨rfl, rfl⟩ hd_X3_get_v ⟨rfl, rfl⟩ 0 (gE_0 _ _ _) rfl rfl hl rfl rfl dX3_solve_43 ⟨rfl, rfl⟩ (fun _ => (List.append_nil _).symm) (fun r3 _u43 hq H locs G => ?_)
      have h := hq
      refine lv_lstore_n (lv' := [(1, .long r3), (0, .ref (ae 0)), (3, .int t1.2.1), (4, .int t2.1)]) E.ex E.by dX3_solve_46 rfl hl (by decide) rfl (fun ls hl => ?_)
      refine lv_iinc (k := 2) (v := t1.2.1 + 1) (lv' := [(3, .int (t1.2.1 + 1)), (1, .long r3), (0, .ref (ae 0)), (4, .int t2.1)]) E.ex E.by dX3_solve_47 hl rfl (k_inc1 _) (by decide) rfl (fun ls hl => ?_)
      refine lv_goto (tgt := 4) E.ex E.by dX3_solve_50 (by decide) ?_
      exact IH4 _ h _ _ _ G (lv_sub hl [2, 1, 0] rfl)
    · have h := h.2 hc6
      refine lv_iload E.ex E.by dX3_solve_20 (lv_at hl 3 rfl) ?_
      refine lv_iload_n E.ex E.by dX3_solve_22 rfl (lv_at hl 2 rfl) ?_
      refine lv_icmp_eq (tgt := 34) E.ex E.by dX3_solve_23 (by decide) (fun hc5 => ?_) (fun hc5 => ?_)
      · have h := h.1 hc5
        refine lv_iinc (k := 3) (v := t2.1 + 1) (lv' := [(4, .int (t2.1 + 1)), (0, .ref (ae 0)), (1, .long t1.1), (3, .int t1.2.1)]) E.ex E.by dX3_solve_34 hl rfl (k_inc1 _) (by decide) rfl (fun ls hl => ?_)
        refine lv_goto (tgt := 13) E.ex E.by dX3_solve_37 (by decide) ?_
        exact IH13 _ h _ _ _ G (lv_sub hl [1, 2, 3, 0] rfl)
      · have h := h.2 hc5
        refine lv_aload_n E.ex E.by dX3_solve_26 rfl (lv_at hl 0 rfl) ?_
        refine lv_iload E.ex E.by dX3_solve_27 (lv_at hl 3 rfl) ?_
        refine lv_iload_n E.ex E.by dX3_solve_29 rfl (lv_at hl 2 rfl) ?_
        refine lv_lload_n E.ex E.by dX3_solve_30 rfl (lv_at hl 1 rfl) ?_
        refine k_cVv (X := []) (w := (wE kc ae t2.2)) (Z := []) (wnew := (fun u : US => (wE kc ae u))) (As := [.int t2.1, .int t1.2.1, .long t1.1]) (rest := []) E (List.append_nil _).symm G (c_X3_eliminate l D kc _ _ _ _ _ _ h) gX3_solve_X3_eliminate rfl ⟨rfl, rfl⟩ hd_X3_eliminate_v ⟨rfl, rfl⟩ 0 (gE_0 _ _ _) rfl rfl hl rfl rfl dX3_solve_31 ⟨rfl, rfl⟩ (fun _ => (List.append_nil _).symm) (fun u4 hq H locs G => ?_)
        have h := hq
        refine lv_iinc (k := 3) (v := t2.1 + 1) (lv' := [(4, .int (t2.1 + 1)), (0, .ref (ae 0)), (1, .long t1.1), (3, .int t1.2.1)]) E.ex E.by dX3_solve_34 hl rfl (k_inc1 _) (by decide) rfl (fun ls hl => ?_)
        refine lv_goto (tgt := 13) E.ex E.by dX3_solve_37 (by decide) ?_
        exact IH13 _ h _ _ _ G (lv_sub hl [1, 2, 3, 0] rfl)
def wp_X3_solution (p1 : Int32) (ε : US) (Q : Int64 → Prop) : Prop := wp_X3_get p1 8 ε (fun (r1 : Int64) => Q r1)
set_option maxRecDepth 100000 in
set_option maxHeartbeats 4000000 in
theorem c_X3_solution (l : Launch) (D : va_G) (kc : Nat → ClassId) (ae : Nat → Nat) (p1 : Int32) (ε : US) (Q : Int64 → Prop) (h : wp_X3_solution p1 ε Q) : kCl l D (tyL kc) yX3_solution wsX3_solution ({ frames := 1, cells := 0, slots := 0, locals := 23 } : Room) [.ref (ae 0), .int p1] (wE kc ae ε) (fun _ : Unit => (wE kc ae ε)) 0 0 (fun r _ => Q r) := by
  intro sz
  refine k_begin (cc := cX3_solution) (maxL := 2) (ret := (some .long)) (by decide +kernel) rfl rfl (fun p e s m args below meth c hsz E G ls hl => ?_)
  subst hsz
  have hl : lv_has ls 2 [(0, .ref (ae 0)), (1, .int p1)] := hl
  refine lv_aload_n E.ex E.by dX3_solution_0 rfl (lv_at hl 0 rfl) ?_
  refine lv_iload_n E.ex E.by dX3_solution_1 rfl (lv_at hl 1 rfl) ?_
  refine lv_bipush (v := 8) E.ex E.by dX3_solution_2 (by decide) ?_
  refine k_cVl (X := []) (w := (wE kc ae ε)) (Z := []) (wnew := (fun _ : Unit => (wE kc ae ε))) (As := [.int p1, .int 8]) (rest := []) E (List.append_nil _).symm G (c_X3_get l D kc _ _ _ _ _ h) gX3_solution_X3_get rfl ⟨rfl, rfl⟩ hd_X3_get_v ⟨rfl, rfl⟩ 0 (gE_0 _ _ _) rfl rfl hl rfl rfl dX3_solution_4 ⟨rfl, rfl⟩ (fun _ => (List.append_nil _).symm) (fun r1 _u4 hq H locs G => ?_)
  have h := hq
  exact k_retl (wof := (fun _ : Unit => (wE kc ae ε))) (u := ()) E G h (Nat.le_of_ble_eq_true rfl) (Nat.le_of_ble_eq_true rfl) dX3_solution_7
def wp_X3_determinant (ε : US) (Q : Int64 → Prop) : Prop := wp_X3_get 0 0 ε (fun (r1 : Int64) => Q r1)
set_option maxRecDepth 100000 in
set_option maxHeartbeats 4000000 in
theorem c_X3_determinant (l : Launch) (D : va_G) (kc : Nat → ClassId) (ae : Nat → Nat) (ε : US) (Q : Int64 → Prop) (h : wp_X3_determinant ε Q) : kCl l D (tyL kc) yX3_determinant wsX3_determinant ({ frames := 1, cells := 0, slots := 0, locals := 23 } : Room) [.ref (ae 0)] (wE kc ae ε) (fun _ : Unit => (wE kc ae ε)) 0 0 (fun r _ => Q r) := by
  intro sz
  refine k_begin (cc := cX3_determinant) (maxL := 1) (ret := (some .long)) (by decide +kernel) rfl rfl (fun p e s m args below meth c hsz E G ls hl => ?_)
  subst hsz
  have hl : lv_has ls 1 [(0, .ref (ae 0))] := hl
  refine lv_aload_n E.ex E.by dX3_determinant_0 rfl (lv_at hl 0 rfl) ?_
  refine lv_iconst (v := 0) E.ex E.by dX3_determinant_1 (by decide) ?_
  refine lv_iconst (v := 0) E.ex E.by dX3_determinant_2 (by decide) ?_
  refine k_cVl (X := []) (w := (wE kc ae ε)) (Z := []) (wnew := (fun _ : Unit => (wE kc ae ε))) (As := [.int 0, .int 0]) (rest := []) E (List.append_nil _).symm G (c_X3_get l D kc _ _ _ _ _ h) gX3_determinant_X3_get rfl ⟨rfl, rfl⟩ hd_X3_get_v ⟨rfl, rfl⟩ 0 (gE_0 _ _ _) rfl rfl hl rfl rfl dX3_determinant_3 ⟨rfl, rfl⟩ (fun _ => (List.append_nil _).symm) (fun r1 _u3 hq H locs G => ?_)
  have h := hq
  exact k_retl (wof := (fun _ : Unit => (wE kc ae ε))) (u := ()) E G h (Nat.le_of_ble_eq_true rfl) (Nat.le_of_ble_eq_true rfl) dX3_determinant_6
theorem wi_X7_total_X7 : ∀ w ∈ wsX70, w ∈ wsX7_total := fun w h => List.mem_cons_of_mem _ (List.mem_append_right _ (h))
theorem fl_X7_total_X7_3 : Cond.fieldLink RX7 22 (TX7 3).1 (TX7 3).2.1 (TX7 3).2.2.1 ∈ wsX7_total := List.mem_of_getElem? (i := 1) (by decide +kernel)
def wp_X7_total (σ : US) (κ : US) (Q : Int32 → Prop) : Prop := Q (iI σ 0)
set_option maxRecDepth 100000 in
set_option maxHeartbeats 4000000 in
theorem c_X7_total (l : Launch) (D : va_G) (kc : Nat → ClassId) (al : Nat → Nat) (ac : Nat → Nat) (σ : US) (κ : US) (Q : Int32 → Prop) (h : wp_X7_total σ κ Q) : kCi l D (tyL kc) yX7_total wsX7_total ({ frames := 0, cells := 0, slots := 0, locals := 0 } : Room) [.ref (al 0)] (xLu kc al ac σ κ) (fun _ : Unit => (xLu kc al ac σ κ)) 0 0 (fun r _ => Q r) := by
  intro sz
  refine k_begin (cc := cX7_total) (maxL := 1) (ret := (some .int)) (by decide +kernel) rfl rfl (fun p e s m args below meth c hsz E G ls hl => ?_)
  subst hsz
  have hl : lv_has ls 1 [(0, .ref (al 0))] := hl
  refine lv_aload_n E.ex E.by dX7_total_0 rfl (lv_at hl 0 rfl) ?_
  refine k_get E G wi_X7_total_X7 0 (gLu_0 _ _ _ _ _) rfl 3 rfl fl_X7_total_X7_3 (v := .int (iI σ 0)) rfl dX7_total_1 ?_
  exact k_ret (wof := (fun _ : Unit => (xLu kc al ac σ κ))) (u := ()) E G rfl h (Nat.le_of_ble_eq_true rfl) (Nat.le_of_ble_eq_true rfl) dX7_total_4
theorem wi_X7_numberOf_X7 : ∀ w ∈ wsX70, w ∈ wsX7_numberOf := fun w h => List.mem_cons_of_mem _ (List.mem_append_right _ (h))
theorem fl_X7_numberOf_X7_1 : Cond.fieldLink RX7 9 (TX7 1).1 (TX7 1).2.1 (TX7 1).2.2.1 ∈ wsX7_numberOf := List.mem_of_getElem? (i := 1) (by decide +kernel)
theorem li_X7_numberOf_X11 : Cond.initialized RX11 ∈ wsX7_numberOf := List.mem_of_getElem? (i := 3) (by decide +kernel)
theorem ls_X7_numberOf_X11_isIndex : Cond.static yX11_isIndex ∈ wsX7_numberOf := List.mem_of_getElem? (i := 2) (by decide +kernel)
theorem hd_X11_isIndex_n : yX11_isIndex.cls ≠ "java/lang/invoke/MethodHandle" ∧ yX11_isIndex.cls ≠ "java/lang/invoke/VarHandle" ∧ (parseMethodDescriptor yX11_isIndex.desc).map (fun d => d.parameters.length) = some 1 := by decide +kernel
def wp_X7_numberOf (p1 : Int32) (σ : US) (κ : US) (Q : Int32 → Prop) : Prop := wp_X11_isIndex p1 (fun (r1 : Int32) => (r1 = 0 → Q 0) ∧ (¬ r1 = 0 → vp_in p1 8 ∧ (Q (aA σ 0 (p1).toNatClampNeg))))
set_option maxRecDepth 100000 in
set_option maxHeartbeats 4000000 in
theorem c_X7_numberOf (l : Launch) (D : va_G) (kc : Nat → ClassId) (al : Nat → Nat) (ac : Nat → Nat) (p1 : Int32) (σ : US) (κ : US) (Q : Int32 → Prop) (h : wp_X7_numberOf p1 σ κ Q) : kCi l D (tyL kc) yX7_numberOf wsX7_numberOf ({ frames := 1, cells := 0, slots := 0, locals := 20 } : Room) [.ref (al 0), .int p1] (xLu kc al ac σ κ) (fun _ : Unit => (xLu kc al ac σ κ)) 0 0 (fun r _ => Q r) := by
  intro sz
  refine k_begin (cc := cX7_numberOf) (maxL := 2) (ret := (some .int)) (by decide +kernel) rfl rfl (fun p e s m args below meth c hsz E G ls hl => ?_)
  subst hsz
  have hl : lv_has ls 2 [(0, .ref (al 0)), (1, .int p1)] := hl
  refine lv_iload_n E.ex E.by dX7_numberOf_0 rfl (lv_at hl 1 rfl) ?_
  refine k_cSNi (X := (xLu kc al ac σ κ)) (w := []) (Z := []) (wnew := (fun _ : Unit => (xLu kc al ac σ κ))) (As := [.int p1]) (rest := []) E (List.append_nil _).symm G (c_X11_isIndex l D kc _ _ h) gX7_numberOf_X11_isIndex_n26 (by decide +kernel) li_X7_numberOf_X11 ls_X7_numberOf_X11_isIndex rfl ⟨rfl, rfl⟩ hd_X11_isIndex_n ⟨rfl, rfl⟩ rfl hl rfl rfl dX7_numberOf_1 ⟨rfl, rfl⟩ (fun _ => (List.append_nil _).symm) (fun r1 _u1 hq H locs G => ?_)
  have h := hq
  refine lv_if_eq (tgt := 16) E.ex E.by dX7_numberOf_4 (by decide) (fun hc2 => ?_) (fun hc2 => ?_)
  · have h := h.1 hc2
    refine lv_iconst (v := 0) E.ex E.by dX7_numberOf_16 (by decide) ?_
    exact k_ret (wof := (fun _ : Unit => (xLu kc al ac σ κ))) (u := ()) E G rfl h (Nat.le_of_ble_eq_true rfl) (Nat.le_of_ble_eq_true rfl) dX7_numberOf_17
  · have h := h.2 hc2
    refine lv_aload_n E.ex E.by dX7_numberOf_7 rfl (lv_at hl 0 rfl) ?_
    refine k_get E G wi_X7_numberOf_X7 0 (gLu_0 _ _ _ _ _) rfl 1 rfl fl_X7_numberOf_X7_1 (v := .ref (al 1)) rfl dX7_numberOf_8 ?_
    refine lv_iload_n E.ex E.by dX7_numberOf_11 rfl (lv_at hl 1 rfl) ?_
    refine k_iald E G 1 (gLu_1 _ _ _ _ _) 0 rfl h.1 dX7_numberOf_12 ?_
    have h := h.2
    refine lv_goto (tgt := 17) E.ex E.by dX7_numberOf_13 (by decide) ?_
    exact k_ret (wof := (fun _ : Unit => (xLu kc al ac σ κ))) (u := ()) E G rfl h (Nat.le_of_ble_eq_true rfl) (Nat.le_of_ble_eq_true rfl) dX7_numberOf_17
theorem wi_X7_members_X7 : ∀ w ∈ wsX70, w ∈ wsX7_members := fun w h => List.mem_cons_of_mem _ (List.mem_append_left _ (List.mem_append_right _ (h)))
theorem fl_X7_members_X7_0 : Cond.fieldLink RX7 18 (TX7 0).1 (TX7 0).2.1 (TX7 0).2.2.1 ∈ wsX7_members := List.mem_of_getElem? (i := 1) (by decide +kernel)
theorem fl_X7_members_X7_1 : Cond.fieldLink RX7 9 (TX7 1).1 (TX7 1).2.1 (TX7 1).2.2.1 ∈ wsX7_members := List.mem_of_getElem? (i := 2) (by decide +kernel)
def wp_X7_members_L4 (v1 : Int32) (σ : US) (κ : US) (Q : Int32 → Prop) (P4 : (Int32 × Int32) → Prop) (t4 : Int32 × Int32) : Prop := (8 ≤ t4.2 → Q t4.1) ∧ (¬ 8 ≤ t4.2 → wp_X2_has t4.2 κ (fun (r1 : Int32) => (r1 = 0 → P4 (t4.1, t4.2 + 1)) ∧ (¬ r1 = 0 → vp_in t4.2 8 ∧ ((¬ (aA σ 0 (t4.2).toNatClampNeg) = v1 → P4 (t4.1, t4.2 + 1)) ∧ ((aA σ 0 (t4.2).toNatClampNeg) = v1 → ∀ x2 : Int32, x2 = t4.1 ||| (1 <<< (t4.2 &&& 31)) → P4 (x2, t4.2 + 1))))))
def wp_X7_members (p1 : Int32) (σ : US) (κ : US) (Q : Int32 → Prop) : Prop := lpW (wp_X7_members_L4 p1 σ κ Q) (0, 0)
set_option maxRecDepth 100000 in
set_option maxHeartbeats 4000000 in
theorem c_X7_members (l : Launch) (D : va_G) (kc : Nat → ClassId) (al : Nat → Nat) (ac : Nat → Nat) (p1 : Int32) (σ : US) (κ : US) (Q : Int32 → Prop) (h : wp_X7_members p1 σ κ Q) : kCi l D (tyL kc) yX7_members wsX7_members ({ frames := 1, cells := 0, slots := 0, locals := 21 } : Room) [.ref (al 0), .int p1] (xLu kc al ac σ κ) (fun _ : Unit => (xLu kc al ac σ κ)) 0 0 (fun r _ => Q r) := by
  intro sz
  refine k_begin (cc := cX7_members) (maxL := 4) (ret := (some .int)) (by decide +kernel) rfl rfl (fun p e s m args below meth c hsz E G ls hl => ?_)
  subst hsz
  have hl : lv_has ls 4 [(0, .ref (al 0)), (1, .int p1)] := hl
  refine lv_iconst (v := 0) E.ex E.by dX7_members_0 (by decide) ?_
  refine lv_istore_n (lv' := [(2, .int 0), (0, .ref (al 0)), (1, .int p1)]) E.ex E.by dX7_members_1 rfl hl (by decide) rfl (fun ls hl => ?_)
  refine lv_iconst (v := 0) E.ex E.by dX7_members_2 (by decide) ?_
  refine lv_istore_n (lv' := [(3, .int 0), (2, .int 0), (0, .ref (al 0)), (1, .int p1)]) E.ex E.by dX7_members_3 rfl hl (by decide) rfl (fun ls hl => ?_)
  refine lpW_ind (fun t1 : Int32 × Int32 => ∀ (H : Heap) (locs : List Loc) (ls : Array Slot), kG D (va_A (xLu kc al ac σ κ) s.heap.size) s (xLu kc al ac σ κ) H locs → lv_has ls 4 [(0, .ref (al 0)), (1, .int p1), (2, .int t1.1), (3, .int t1.2)] → W p l e _ s m args below meth c H locs _ _ _ (F0 m 4 ls [])) (fun P4 IH4 t1 h H locs ls G hl => ?_) _ h _ _ _ G (lv_sub hl [2, 3, 1, 0] rfl)
  refine lv_iload_n E.ex E.by dX7_members_4 rfl (lv_at hl 3 rfl) ?_
  refine lv_bipush (v := 8) E.ex E.by dX7_members_5 (by decide) ?_
  refine lv_icmp_ge (tgt := 43) E.ex E.by dX7_members_7 (by decide) (fun hc6 => ?_) (fun hc6 => ?_)
  · have h := h.1 hc6
    refine lv_iload_n E.ex E.by dX7_members_43 rfl (lv_at hl 2 rfl) ?_
    exact k_ret (wof := (fun _ : Unit => (xLu kc al ac σ κ))) (u := ()) E G rfl h (Nat.le_of_ble_eq_true rfl) (Nat.le_of_ble_eq_true rfl) dX7_members_44
  · have h := h.2 hc6
    refine lv_aload_n E.ex E.by dX7_members_10 rfl (lv_at hl 0 rfl) ?_
    refine k_get E G wi_X7_members_X7 0 (gLu_0 _ _ _ _ _) rfl 0 rfl fl_X7_members_X7_0 (v := .ref (ac 0)) rfl dX7_members_11 ?_
    refine lv_iload_n E.ex E.by dX7_members_14 rfl (lv_at hl 3 rfl) ?_
    refine k_cVi (X := ((wLu kc al ac σ) : va_W)) (w := (wC kc ac κ)) (Z := ([] : va_W)) (wnew := (fun _ : Unit => (xLu kc al ac σ κ))) (As := [.int t1.2]) (rest := []) E (xLu_1 _ _ _ _ _) G (c_X2_has l D kc _ _ _ _ h) gX7_members_X2_has rfl ⟨rfl, rfl⟩ hd_X2_has_v ⟨rfl, rfl⟩ 0 (gC_0 _ _ _) rfl rfl hl rfl rfl dX7_members_15 ⟨rfl, rfl⟩ (fun _ => xLu_1 _ _ _ _ _) (fun r2 _u15 hq H locs G => ?_)
    have h := hq
    refine lv_if_eq (tgt := 37) E.ex E.by dX7_members_18 (by decide) (fun hc5 => ?_) (fun hc5 => ?_)
    · have h := h.1 hc5
      refine lv_iinc (k := 3) (v := t1.2 + 1) (lv' := [(3, .int (t1.2 + 1)), (0, .ref (al 0)), (1, .int p1), (2, .int t1.1)]) E.ex E.by dX7_members_37 hl rfl (k_inc1 _) (by decide) rfl (fun ls hl => ?_)
      refine lv_goto (tgt := 4) E.ex E.by dX7_members_40 (by decide) ?_
      exact IH4 _ h _ _ _ G (lv_sub hl [1, 2, 3, 0] rfl)
    · have h := h.2 hc5
      refine lv_aload_n E.ex E.by dX7_members_21 rfl (lv_at hl 0 rfl) ?_
      refine k_get E G wi_X7_members_X7 0 (gLu_0 _ _ _ _ _) rfl 1 rfl fl_X7_members_X7_1 (v := .ref (al 1)) rfl dX7_members_22 ?_
      refine lv_iload_n E.ex E.by dX7_members_25 rfl (lv_at hl 3 rfl) ?_
      refine k_iald E G 1 (gLu_1 _ _ _ _ _) 0 rfl h.1 dX7_members_26 ?_
      have h := h.2
      refine lv_iload_n E.ex E.by dX7_members_27 rfl (lv_at hl 1 rfl) ?_
      refine lv_icmp_ne (tgt := 37) E.ex E.by dX7_members_28 (by decide) (fun hc4 => ?_) (fun hc4 => ?_)
      · have h := h.1 hc4
        refine lv_iinc (k := 3) (v := t1.2 + 1) (lv' := [(3, .int (t1.2 + 1)), (0, .ref (al 0)), (1, .int p1), (2, .int t1.1)]) E.ex E.by dX7_members_37 hl rfl (k_inc1 _) (by decide) rfl (fun ls hl => ?_)
        refine lv_goto (tgt := 4) E.ex E.by dX7_members_40 (by decide) ?_
        exact IH4 _ h _ _ _ G (lv_sub hl [1, 2, 3, 0] rfl)
      · have h := h.2 hc4
        refine lv_iload_n E.ex E.by dX7_members_31 rfl (lv_at hl 2 rfl) ?_
        refine lv_iconst (v := 1) E.ex E.by dX7_members_32 (by decide) ?_
        refine lv_iload_n E.ex E.by dX7_members_33 rfl (lv_at hl 3 rfl) ?_
        refine lv_ishl E.ex E.by dX7_members_34 ?_
        refine lv_ior E.ex E.by dX7_members_35 ?_
        refine lv_topi (fun x3 ex3 => ?_)
        have h := h x3 ex3
        refine lv_istore_n (lv' := [(2, .int x3), (0, .ref (al 0)), (1, .int p1), (3, .int t1.2)]) E.ex E.by dX7_members_36 rfl hl (by decide) rfl (fun ls hl => ?_)
        refine lv_iinc (k := 3) (v := t1.2 + 1) (lv' := [(3, .int (t1.2 + 1)), (2, .int x3), (0, .ref (al 0)), (1, .int p1)]) E.ex E.by dX7_members_37 hl rfl (k_inc1 _) (by decide) rfl (fun ls hl => ?_)
        refine lv_goto (tgt := 4) E.ex E.by dX7_members_40 (by decide) ?_
        exact IH4 _ h _ _ _ G (lv_sub hl [2, 3, 1, 0] rfl)
theorem wi_X7_isAlike_X7 : ∀ w ∈ wsX70, w ∈ wsX7_isAlike := fun w h => List.mem_cons_of_mem _ (List.mem_append_left _ (List.mem_append_right _ (h)))
theorem fl_X7_isAlike_X7_0 : Cond.fieldLink RX7 18 (TX7 0).1 (TX7 0).2.1 (TX7 0).2.2.1 ∈ wsX7_isAlike := List.mem_of_getElem? (i := 1) (by decide +kernel)
theorem fl_X7_isAlike_X7_3 : Cond.fieldLink RX7 22 (TX7 3).1 (TX7 3).2.1 (TX7 3).2.2.1 ∈ wsX7_isAlike := List.mem_of_getElem? (i := 2) (by decide +kernel)
theorem hd_X2_stepWeightInto_v : yX2_stepWeightInto.cls = RX2 ∧ yX2_stepWeightInto.cls ≠ "java/lang/invoke/MethodHandle" ∧ yX2_stepWeightInto.cls ≠ "java/lang/invoke/VarHandle" ∧ (parseMethodDescriptor yX2_stepWeightInto.desc).map (fun d => d.parameters.length) = some 2 := by decide +kernel
theorem hd_X7_members_v : yX7_members.cls = RX7 ∧ yX7_members.cls ≠ "java/lang/invoke/MethodHandle" ∧ yX7_members.cls ≠ "java/lang/invoke/VarHandle" ∧ (parseMethodDescriptor yX7_members.desc).map (fun d => d.parameters.length) = some 1 := by decide +kernel
theorem hd_X7_numberOf_v : yX7_numberOf.cls = RX7 ∧ yX7_numberOf.cls ≠ "java/lang/invoke/MethodHandle" ∧ yX7_numberOf.cls ≠ "java/lang/invoke/VarHandle" ∧ (parseMethodDescriptor yX7_numberOf.desc).map (fun d => d.parameters.length) = some 1 := by decide +kernel
theorem hd_X2_rewardOf_v : yX2_rewardOf.cls = RX2 ∧ yX2_rewardOf.cls ≠ "java/lang/invoke/MethodHandle" ∧ yX2_rewardOf.cls ≠ "java/lang/invoke/VarHandle" ∧ (parseMethodDescriptor yX2_rewardOf.desc).map (fun d => d.parameters.length) = some 1 := by decide +kernel
def wp_X7_isAlike_L55 (v1 : Int32) (v2 : Int32) (σ : US) (κ : US) (Q : Int32 → Prop) (P55 : Int32 → Prop) (t55 : Int32) : Prop := ((iI σ 0) ≤ t55 → Q 1) ∧ (¬ (iI σ 0) ≤ t55 → wp_X7_members t55 σ κ (fun (r7 : Int32) => wp_X2_stepWeightInto v1 r7 κ (fun (r8 : Int32) => wp_X2_divisorOf v2 κ (fun (r9 : Int32) => ∀ x10 : Int32, x10 = r8 * r9 → wp_X2_stepWeightInto v2 r7 κ (fun (r11 : Int32) => wp_X2_divisorOf v1 κ (fun (r12 : Int32) => ∀ x13 : Int32, x13 = r11 * r12 → (x10 = x13 → P55 (t55 + 1)) ∧ (¬ x10 = x13 → Q 0)))))))
def wp_X7_isAlike (p1 : Int32) (p2 : Int32) (σ : US) (κ : US) (Q : Int32 → Prop) : Prop := wp_X2_labelsOf p1 κ (fun (r1 : Int32) => wp_X2_labelsOf p2 κ (fun (r2 : Int32) => (¬ r1 = r2 → Q 0) ∧ (r1 = r2 → wp_X2_rewardOf p1 κ (fun (r3 : Int32) => wp_X2_rewardOf p2 κ (fun (r4 : Int32) => (¬ r3 = r4 → Q 0) ∧ (r3 = r4 → wp_X7_numberOf p1 σ κ (fun (r5 : Int32) => wp_X7_numberOf p2 σ κ (fun (r6 : Int32) => (r5 = r6 → lpW (wp_X7_isAlike_L55 p1 p2 σ κ Q) 0) ∧ (¬ r5 = r6 → Q 0)))))))))
set_option maxRecDepth 100000 in
set_option maxHeartbeats 4000000 in
theorem c_X7_isAlike (l : Launch) (D : va_G) (kc : Nat → ClassId) (al : Nat → Nat) (ac : Nat → Nat) (p1 : Int32) (p2 : Int32) (σ : US) (κ : US) (Q : Int32 → Prop) (h : wp_X7_isAlike p1 p2 σ κ Q) : kCi l D (tyL kc) yX7_isAlike wsX7_isAlike ({ frames := 3, cells := 0, slots := 0, locals := 70 } : Room) [.ref (al 0), .int p1, .int p2] (xLu kc al ac σ κ) (fun _ : Unit => (xLu kc al ac σ κ)) 0 0 (fun r _ => Q r) := by
  intro sz
  refine k_begin (cc := cX7_isAlike) (maxL := 7) (ret := (some .boolean)) (by decide +kernel) rfl rfl (fun p e s m args below meth c hsz E G ls hl => ?_)
  subst hsz
  have hl : lv_has ls 7 [(0, .ref (al 0)), (1, .int p1), (2, .int p2)] := hl
  refine lv_aload_n E.ex E.by dX7_isAlike_0 rfl (lv_at hl 0 rfl) ?_
  refine k_get E G wi_X7_isAlike_X7 0 (gLu_0 _ _ _ _ _) rfl 0 rfl fl_X7_isAlike_X7_0 (v := .ref (ac 0)) rfl dX7_isAlike_1 ?_
  refine lv_iload_n E.ex E.by dX7_isAlike_4 rfl (lv_at hl 1 rfl) ?_
  refine k_cVi (X := ((wLu kc al ac σ) : va_W)) (w := (wC kc ac κ)) (Z := ([] : va_W)) (wnew := (fun _ : Unit => (xLu kc al ac σ κ))) (As := [.int p1]) (rest := []) E (xLu_1 _ _ _ _ _) G (c_X2_labelsOf l D kc _ _ _ _ h) gX7_isAlike_X2_labelsOf rfl ⟨rfl, rfl⟩ hd_X2_labelsOf_v ⟨rfl, rfl⟩ 0 (gC_0 _ _ _) rfl rfl hl rfl rfl dX7_isAlike_5 ⟨rfl, rfl⟩ (fun _ => xLu_1 _ _ _ _ _) (fun r1 _u5 hq H locs G => ?_)
  have h := hq
  refine lv_aload_n E.ex E.by dX7_isAlike_8 rfl (lv_at hl 0 rfl) ?_
  refine k_get E G wi_X7_isAlike_X7 0 (gLu_0 _ _ _ _ _) rfl 0 rfl fl_X7_isAlike_X7_0 (v := .ref (ac 0)) rfl dX7_isAlike_9 ?_
  refine lv_iload_n E.ex E.by dX7_isAlike_12 rfl (lv_at hl 2 rfl) ?_
  refine k_cVi (X := ((wLu kc al ac σ) : va_W)) (w := (wC kc ac κ)) (Z := ([] : va_W)) (wnew := (fun _ : Unit => (xLu kc al ac σ κ))) (As := [.int p2]) (rest := [.int r1]) E (xLu_1 _ _ _ _ _) G (c_X2_labelsOf l D kc _ _ _ _ h) gX7_isAlike_X2_labelsOf rfl ⟨rfl, rfl⟩ hd_X2_labelsOf_v ⟨rfl, rfl⟩ 0 (gC_0 _ _ _) rfl rfl hl rfl rfl dX7_isAlike_13 ⟨rfl, rfl⟩ (fun _ => xLu_1 _ _ _ _ _) (fun r2 _u13 hq H locs G => ?_)
  have h := hq
  refine lv_icmp_ne (tgt := 51) E.ex E.by dX7_isAlike_16 (by decide) (fun hc19 => ?_) (fun hc19 => ?_)
  · have h := h.1 hc19
    refine lv_iconst (v := 0) E.ex E.by dX7_isAlike_51 (by decide) ?_
    exact k_ret (wof := (fun _ : Unit => (xLu kc al ac σ κ))) (u := ()) E G rfl h (Nat.le_of_ble_eq_true rfl) (Nat.le_of_ble_eq_true rfl) dX7_isAlike_52
  · have h := h.2 hc19
    refine lv_aload_n E.ex E.by dX7_isAlike_19 rfl (lv_at hl 0 rfl) ?_
    refine k_get E G wi_X7_isAlike_X7 0 (gLu_0 _ _ _ _ _) rfl 0 rfl fl_X7_isAlike_X7_0 (v := .ref (ac 0)) rfl dX7_isAlike_20 ?_
    refine lv_iload_n E.ex E.by dX7_isAlike_23 rfl (lv_at hl 1 rfl) ?_
    refine k_cVi (X := ((wLu kc al ac σ) : va_W)) (w := (wC kc ac κ)) (Z := ([] : va_W)) (wnew := (fun _ : Unit => (xLu kc al ac σ κ))) (As := [.int p1]) (rest := []) E (xLu_1 _ _ _ _ _) G (c_X2_rewardOf l D kc _ _ _ _ h) gX7_isAlike_X2_rewardOf rfl ⟨rfl, rfl⟩ hd_X2_rewardOf_v ⟨rfl, rfl⟩ 0 (gC_0 _ _ _) rfl rfl hl rfl rfl dX7_isAlike_24 ⟨rfl, rfl⟩ (fun _ => xLu_1 _ _ _ _ _) (fun r3 _u24 hq H locs G => ?_)
    have h := hq
    refine lv_aload_n E.ex E.by dX7_isAlike_27 rfl (lv_at hl 0 rfl) ?_
    refine k_get E G wi_X7_isAlike_X7 0 (gLu_0 _ _ _ _ _) rfl 0 rfl fl_X7_isAlike_X7_0 (v := .ref (ac 0)) rfl dX7_isAlike_28 ?_
    refine lv_iload_n E.ex E.by dX7_isAlike_31 rfl (lv_at hl 2 rfl) ?_
    refine k_cVi (X := ((wLu kc al ac σ) : va_W)) (w := (wC kc ac κ)) (Z := ([] : va_W)) (wnew := (fun _ : Unit => (xLu kc al ac σ κ))) (As := [.int p2]) (rest := [.int r3]) E (xLu_1 _ _ _ _ _) G (c_X2_rewardOf l D kc _ _ _ _ h) gX7_isAlike_X2_rewardOf rfl ⟨rfl, rfl⟩ hd_X2_rewardOf_v ⟨rfl, rfl⟩ 0 (gC_0 _ _ _) rfl rfl hl rfl rfl dX7_isAlike_32 ⟨rfl, rfl⟩ (fun _ => xLu_1 _ _ _ _ _) (fun r4 _u32 hq H locs G => ?_)
    have h := hq
    refine lv_icmp_ne (tgt := 51) E.ex E.by dX7_isAlike_35 (by decide) (fun hc18 => ?_) (fun hc18 => ?_)
    · have h := h.1 hc18
      refine lv_iconst (v := 0) E.ex E.by dX7_isAlike_51 (by decide) ?_
      exact k_ret (wof := (fun _ : Unit => (xLu kc al ac σ κ))) (u := ()) E G rfl h (Nat.le_of_ble_eq_true rfl) (Nat.le_of_ble_eq_true rfl) dX7_isAlike_52
    · have h := h.2 hc18
      refine lv_aload_n E.ex E.by dX7_isAlike_38 rfl (lv_at hl 0 rfl) ?_
      refine lv_iload_n E.ex E.by dX7_isAlike_39 rfl (lv_at hl 1 rfl) ?_
      refine k_cVi (X := []) (w := (xLu kc al ac σ κ)) (Z := []) (wnew := (fun _ : Unit => (xLu kc al ac σ κ))) (As := [.int p1]) (rest := []) E (List.append_nil _).symm G (c_X7_numberOf l D kc _ _ _ _ _ _ h) gX7_isAlike_X7_numberOf rfl ⟨rfl, rfl⟩ hd_X7_numberOf_v ⟨rfl, rfl⟩ 0 (gLu_0 _ _ _ _ _) rfl rfl hl rfl rfl dX7_isAlike_40 ⟨rfl, rfl⟩ (fun _ => (List.append_nil _).symm) (fun r5 _u40 hq H locs G => ?_)
      have h := hq
      refine lv_aload_n E.ex E.by dX7_isAlike_43 rfl (lv_at hl 0 rfl) ?_
      refine lv_iload_n E.ex E.by dX7_isAlike_44 rfl (lv_at hl 2 rfl) ?_
      refine k_cVi (X := []) (w := (xLu kc al ac σ κ)) (Z := []) (wnew := (fun _ : Unit => (xLu kc al ac σ κ))) (As := [.int p2]) (rest := [.int r5]) E (List.append_nil _).symm G (c_X7_numberOf l D kc _ _ _ _ _ _ h) gX7_isAlike_X7_numberOf rfl ⟨rfl, rfl⟩ hd_X7_numberOf_v ⟨rfl, rfl⟩ 0 (gLu_0 _ _ _ _ _) rfl rfl hl rfl rfl dX7_isAlike_45 ⟨rfl, rfl⟩ (fun _ => (List.append_nil _).symm) (fun r6 _u45 hq H locs G => ?_)
      have h := hq
      refine lv_icmp_eq (tgt := 53) E.ex E.by dX7_isAlike_48 (by decide) (fun hc17 => ?_) (fun hc17 => ?_)
      · have h := h.1 hc17
        refine lv_iconst (v := 0) E.ex E.by dX7_isAlike_53 (by decide) ?_
        refine lv_istore_n (lv' := [(3, .int 0), (0, .ref (al 0)), (1, .int p1), (2, .int p2)]) E.ex E.by dX7_isAlike_54 rfl hl (by decide) rfl (fun ls hl => ?_)
        refine lpW_ind (fun t7 : Int32 => ∀ (H : Heap) (locs : List Loc) (ls : Array Slot), kG D (va_A (xLu kc al ac σ κ) s.heap.size) s (xLu kc al ac σ κ) H locs → lv_has ls 7 [(0, .ref (al 0)), (1, .int p1), (2, .int p2), (3, .int t7)] → W p l e _ s m args below meth c H locs _ _ _ (F0 m 55 ls [])) (fun P55 IH55 t7 h H locs ls G hl => ?_) _ h _ _ _ G (lv_sub hl [1, 2, 3, 0] rfl)
        refine lv_iload_n E.ex E.by dX7_isAlike_55 rfl (lv_at hl 3 rfl) ?_
        refine lv_aload_n E.ex E.by dX7_isAlike_56 rfl (lv_at hl 0 rfl) ?_
        refine k_get E G wi_X7_isAlike_X7 0 (gLu_0 _ _ _ _ _) rfl 3 rfl fl_X7_isAlike_X7_3 (v := .int (iI σ 0)) rfl dX7_isAlike_57 ?_
        refine lv_icmp_ge (tgt := 127) E.ex E.by dX7_isAlike_60 (by decide) (fun hc16 => ?_) (fun hc16 => ?_)
        · have h := h.1 hc16
          refine lv_iconst (v := 1) E.ex E.by dX7_isAlike_127 (by decide) ?_
          exact k_ret (wof := (fun _ : Unit => (xLu kc al ac σ κ))) (u := ()) E G rfl h (Nat.le_of_ble_eq_true rfl) (Nat.le_of_ble_eq_true rfl) dX7_isAlike_128
        · have h := h.2 hc16
          refine lv_aload_n E.ex E.by dX7_isAlike_63 rfl (lv_at hl 0 rfl) ?_
          refine lv_iload_n E.ex E.by dX7_isAlike_64 rfl (lv_at hl 3 rfl) ?_
          refine k_cVi (X := []) (w := (xLu kc al ac σ κ)) (Z := []) (wnew := (fun _ : Unit => (xLu kc al ac σ κ))) (As := [.int t7]) (rest := []) E (List.append_nil _).symm G (c_X7_members l D kc _ _ _ _ _ _ h) gX7_isAlike_X7_members rfl ⟨rfl, rfl⟩ hd_X7_members_v ⟨rfl, rfl⟩ 0 (gLu_0 _ _ _ _ _) rfl rfl hl rfl rfl dX7_isAlike_65 ⟨rfl, rfl⟩ (fun _ => (List.append_nil _).symm) (fun r8 _u65 hq H locs G => ?_)
          have h := hq
          refine lv_istore (lv' := [(4, .int r8), (0, .ref (al 0)), (1, .int p1), (2, .int p2), (3, .int t7)]) E.ex E.by dX7_isAlike_68 hl (by decide) rfl (fun ls hl => ?_)
          refine lv_aload_n E.ex E.by dX7_isAlike_70 rfl (lv_at hl 1 rfl) ?_
          refine k_get E G wi_X7_isAlike_X7 0 (gLu_0 _ _ _ _ _) rfl 0 rfl fl_X7_isAlike_X7_0 (v := .ref (ac 0)) rfl dX7_isAlike_71 ?_
          refine lv_iload_n E.ex E.by dX7_isAlike_74 rfl (lv_at hl 2 rfl) ?_
          refine lv_iload E.ex E.by dX7_isAlike_75 (lv_at hl 0 rfl) ?_
          refine k_cVi (X := ((wLu kc al ac σ) : va_W)) (w := (wC kc ac κ)) (Z := ([] : va_W)) (wnew := (fun _ : Unit => (xLu kc al ac σ κ))) (As := [.int p1, .int r8]) (rest := []) E (xLu_1 _ _ _ _ _) G (c_X2_stepWeightInto l D kc _ _ _ _ _ h) gX7_isAlike_X2_stepWeightInto rfl ⟨rfl, rfl⟩ hd_X2_stepWeightInto_v ⟨rfl, rfl⟩ 0 (gC_0 _ _ _) rfl rfl hl rfl rfl dX7_isAlike_77 ⟨rfl, rfl⟩ (fun _ => xLu_1 _ _ _ _ _) (fun r9 _u77 hq H locs G => ?_)
          have h := hq
          refine lv_aload_n E.ex E.by dX7_isAlike_80 rfl (lv_at hl 1 rfl) ?_
          refine k_get E G wi_X7_isAlike_X7 0 (gLu_0 _ _ _ _ _) rfl 0 rfl fl_X7_isAlike_X7_0 (v := .ref (ac 0)) rfl dX7_isAlike_81 ?_
          refine lv_iload_n E.ex E.by dX7_isAlike_84 rfl (lv_at hl 3 rfl) ?_
          refine k_cVi (X := ((wLu kc al ac σ) : va_W)) (w := (wC kc ac κ)) (Z := ([] : va_W)) (wnew := (fun _ : Unit => (xLu kc al ac σ κ))) (As := [.int p2]) (rest := [.int r9]) E (xLu_1 _ _ _ _ _) G (c_X2_divisorOf l D kc _ _ _ _ h) gX7_isAlike_X2_divisorOf rfl ⟨rfl, rfl⟩ hd_X2_divisorOf_v ⟨rfl, rfl⟩ 0 (gC_0 _ _ _) rfl rfl hl rfl rfl dX7_isAlike_85 ⟨rfl, rfl⟩ (fun _ => xLu_1 _ _ _ _ _) (fun r10 _u85 hq H locs G => ?_)
          have h := hq
          refine lv_imul E.ex E.by dX7_isAlike_88 ?_
          refine lv_topi (fun x11 ex11 => ?_)
          have h := h x11 ex11
          refine lv_istore (lv' := [(5, .int x11), (4, .int r8), (0, .ref (al 0)), (1, .int p1), (2, .int p2), (3, .int t7)]) E.ex E.by dX7_isAlike_89 hl (by decide) rfl (fun ls hl => ?_)
          refine lv_aload_n E.ex E.by dX7_isAlike_91 rfl (lv_at hl 2 rfl) ?_
          refine k_get E G wi_X7_isAlike_X7 0 (gLu_0 _ _ _ _ _) rfl 0 rfl fl_X7_isAlike_X7_0 (v := .ref (ac 0)) rfl dX7_isAlike_92 ?_
          refine lv_iload_n E.ex E.by dX7_isAlike_95 rfl (lv_at hl 4 rfl) ?_
          refine lv_iload E.ex E.by dX7_isAlike_96 (lv_at hl 1 rfl) ?_
          refine k_cVi (X := ((wLu kc al ac σ) : va_W)) (w := (wC kc ac κ)) (Z := ([] : va_W)) (wnew := (fun _ : Unit => (xLu kc al ac σ κ))) (As := [.int p2, .int r8]) (rest := []) E (xLu_1 _ _ _ _ _) G (c_X2_stepWeightInto l D kc _ _ _ _ _ h) gX7_isAlike_X2_stepWeightInto rfl ⟨rfl, rfl⟩ hd_X2_stepWeightInto_v ⟨rfl, rfl⟩ 0 (gC_0 _ _ _) rfl rfl hl rfl rfl dX7_isAlike_98 ⟨rfl, rfl⟩ (fun _ => xLu_1 _ _ _ _ _) (fun r12 _u98 hq H locs G => ?_)
          have h := hq
          refine lv_aload_n E.ex E.by dX7_isAlike_101 rfl (lv_at hl 2 rfl) ?_
          refine k_get E G wi_X7_isAlike_X7 0 (gLu_0 _ _ _ _ _) rfl 0 rfl fl_X7_isAlike_X7_0 (v := .ref (ac 0)) rfl dX7_isAlike_102 ?_
          refine lv_iload_n E.ex E.by dX7_isAlike_105 rfl (lv_at hl 3 rfl) ?_
          refine k_cVi (X := ((wLu kc al ac σ) : va_W)) (w := (wC kc ac κ)) (Z := ([] : va_W)) (wnew := (fun _ : Unit => (xLu kc al ac σ κ))) (As := [.int p1]) (rest := [.int r12]) E (xLu_1 _ _ _ _ _) G (c_X2_divisorOf l D kc _ _ _ _ h) gX7_isAlike_X2_divisorOf rfl ⟨rfl, rfl⟩ hd_X2_divisorOf_v ⟨rfl, rfl⟩ 0 (gC_0 _ _ _) rfl rfl hl rfl rfl dX7_isAlike_106 ⟨rfl, rfl⟩ (fun _ => xLu_1 _ _ _ _ _) (fun r13 _u106 hq H locs G => ?_)
          have h := hq
          refine lv_imul E.ex E.by dX7_isAlike_109 ?_
          refine lv_topi (fun x14 ex14 => ?_)
          have h := h x14 ex14
          refine lv_istore (lv' := [(6, .int x14), (5, .int x11), (4, .int r8), (0, .ref (al 0)), (1, .int p1), (2, .int p2), (3, .int t7)]) E.ex E.by dX7_isAlike_110 hl (by decide) rfl (fun ls hl => ?_)
          refine lv_iload E.ex E.by dX7_isAlike_112 (lv_at hl 1 rfl) ?_
          refine lv_iload E.ex E.by dX7_isAlike_114 (lv_at hl 0 rfl) ?_
          refine lv_icmp_eq (tgt := 121) E.ex E.by dX7_isAlike_116 (by decide) (fun hc15 => ?_) (fun hc15 => ?_)
          · have h := h.1 hc15
            refine lv_iinc (k := 6) (v := t7 + 1) (lv' := [(3, .int (t7 + 1)), (6, .int x14), (5, .int x11), (4, .int r8), (0, .ref (al 0)), (1, .int p1), (2, .int p2)]) E.ex E.by dX7_isAlike_121 hl rfl (k_inc1 _) (by decide) rfl (fun ls hl => ?_)
            refine lv_goto (tgt := 55) E.ex E.by dX7_isAlike_124 (by decide) ?_
            exact IH55 _ h _ _ _ G (lv_sub hl [4, 5, 6, 0] rfl)
          · have h := h.2 hc15
            refine lv_iconst (v := 0) E.ex E.by dX7_isAlike_119 (by decide) ?_
            exact k_ret (wof := (fun _ : Unit => (xLu kc al ac σ κ))) (u := ()) E G rfl h (Nat.le_of_ble_eq_true rfl) (Nat.le_of_ble_eq_true rfl) dX7_isAlike_120
      · have h := h.2 hc17
        refine lv_iconst (v := 0) E.ex E.by dX7_isAlike_51 (by decide) ?_
        exact k_ret (wof := (fun _ : Unit => (xLu kc al ac σ κ))) (u := ()) E G rfl h (Nat.le_of_ble_eq_true rfl) (Nat.le_of_ble_eq_true rfl) dX7_isAlike_52
theorem wi_X7_split_X7 : ∀ w ∈ wsX70, w ∈ wsX7_split := fun w h => List.mem_cons_of_mem _ (List.mem_append_left _ (List.mem_append_right _ (h)))
theorem fl_X7_split_X7_0 : Cond.fieldLink RX7 18 (TX7 0).1 (TX7 0).2.1 (TX7 0).2.2.1 ∈ wsX7_split := List.mem_of_getElem? (i := 1) (by decide +kernel)
theorem fl_X7_split_X7_2 : Cond.fieldLink RX7 15 (TX7 2).1 (TX7 2).2.1 (TX7 2).2.2.1 ∈ wsX7_split := List.mem_of_getElem? (i := 2) (by decide +kernel)
theorem hd_X7_isAlike_v : yX7_isAlike.cls = RX7 ∧ yX7_isAlike.cls ≠ "java/lang/invoke/MethodHandle" ∧ yX7_isAlike.cls ≠ "java/lang/invoke/VarHandle" ∧ (parseMethodDescriptor yX7_isAlike.desc).map (fun d => d.parameters.length) = some 2 := by decide +kernel
def wp_X7_split_J64 (v1 : Int32) (v2 : Int32) (v3 : Int32) (σ' : US) (κ : US) (P4 : (Int32 × Int32 × US) → Prop) (Q : Int32 → US → Prop) : Prop := vp_in v2 8 ∧ (∀ z2 : US, z2 = uA σ' 1 (v2).toNatClampNeg v3 → (¬ v3 = v1 → P4 (v1, v2 + 1, z2)) ∧ (v3 = v1 → P4 (v1 + 1, v2 + 1, z2)))
def wp_X7_split_L29 (v1 : Int32) (v2 : Int32) (σ' : US) (κ : US) (P4 : (Int32 × Int32 × US) → Prop) (Q : Int32 → US → Prop) (P29 : (Int32 × Int32) → Prop) (t29 : Int32 × Int32) : Prop := (v2 ≤ t29.2 → wp_X7_split_J64 v1 v2 t29.1 σ' κ P4 Q) ∧ (¬ v2 ≤ t29.2 → (¬ t29.1 = v1 → wp_X7_split_J64 v1 v2 t29.1 σ' κ P4 Q) ∧ (t29.1 = v1 → wp_X7_isAlike t29.2 v2 σ' κ (fun (r4 : Int32) => (r4 = 0 → P29 (t29.1, t29.2 + 1)) ∧ (¬ r4 = 0 → vp_in t29.2 8 ∧ (∀ x5 : Int32, x5 = aA σ' 1 (t29.2).toNatClampNeg → P29 (x5, t29.2 + 1))))))
def wp_X7_split_L4 (κ : US) (Q : Int32 → US → Prop) (P4 : (Int32 × Int32 × US) → Prop) (t4 : Int32 × Int32 × US) : Prop := (8 ≤ t4.2.1 → Q t4.1 t4.2.2) ∧ (¬ 8 ≤ t4.2.1 → wp_X2_has t4.2.1 κ (fun (r1 : Int32) => (¬ r1 = 0 → lpW (wp_X7_split_L29 t4.1 t4.2.1 t4.2.2 κ P4 Q) (t4.1, 0)) ∧ (r1 = 0 → P4 (t4.1, t4.2.1 + 1, t4.2.2))))
def wp_X7_split (σ : US) (κ : US) (Q : Int32 → US → Prop) : Prop := lpW (wp_X7_split_L4 κ Q) (0, 0, σ)
set_option maxRecDepth 100000 in
set_option maxHeartbeats 4000000 in
theorem c_X7_split (l : Launch) (D : va_G) (kc : Nat → ClassId) (al : Nat → Nat) (ac : Nat → Nat) (σ : US) (κ : US) (Q : Int32 → US → Prop) (h : wp_X7_split σ κ Q) : kCi l D (tyL kc) yX7_split wsX7_split ({ frames := 4, cells := 0, slots := 0, locals := 96 } : Room) [.ref (al 0)] (xLu kc al ac σ κ) (fun u : US => (xLu kc al ac u κ)) 0 0 (fun r u => Q r u) := by
  intro sz
  refine k_begin (cc := cX7_split) (maxL := 5) (ret := (some .int)) (by decide +kernel) rfl rfl (fun p e s m args below meth c hsz E G ls hl => ?_)
  subst hsz
  have hl : lv_has ls 5 [(0, .ref (al 0))] := hl
  refine lv_iconst (v := 0) E.ex E.by dX7_split_0 (by decide) ?_
  refine lv_istore_n (lv' := [(1, .int 0), (0, .ref (al 0))]) E.ex E.by dX7_split_1 rfl hl (by decide) rfl (fun ls hl => ?_)
  refine lv_iconst (v := 0) E.ex E.by dX7_split_2 (by decide) ?_
  refine lv_istore_n (lv' := [(2, .int 0), (1, .int 0), (0, .ref (al 0))]) E.ex E.by dX7_split_3 rfl hl (by decide) rfl (fun ls hl => ?_)
  refine lpW_ind (fun t1 : Int32 × Int32 × US => ∀ (H : Heap) (locs : List Loc) (ls : Array Slot), kG D (va_A (xLu kc al ac σ κ) s.heap.size) s (xLu kc al ac t1.2.2 κ) H locs → lv_has ls 5 [(0, .ref (al 0)), (1, .int t1.1), (2, .int t1.2.1)] → W p l e _ s m args below meth c H locs _ _ _ (F0 m 4 ls [])) (fun P4 IH4 t1 h H locs ls G hl => ?_) _ h _ _ _ G (lv_sub hl [2, 1, 0] rfl)
  have K64 : ∀ (v1 : Int32) (v2 : Int32) (v3 : Int32) (σ' : US) (H : Heap) (locs : List Loc) (ls : Array Slot), kG D (va_A (xLu kc al ac σ κ) s.heap.size) s (xLu kc al ac σ' κ) H locs → lv_has ls 5 [(0, .ref (al 0)), (1, .int v1), (2, .int v2), (3, .int v3)] → wp_X7_split_J64 v1 v2 v3 σ' κ P4 Q → W p l e ({ frames := 4, cells := 0, slots := 0, locals := 96 } : Room) s m args below meth c H locs 0 0 (MQ below (va_Qi (fun r u => Q r u) (kB D (xLu kc al ac σ κ) s.heap.size (fun u : US => (xLu kc al ac u κ))) (va_A (xLu kc al ac σ κ) s.heap.size)) args s 0 0 (va_A (xLu kc al ac σ κ) s.heap.size)) (F0 m 64 ls []) := by
    intro v1 v2 v3 σ' H locs ls G hl h
    refine lv_aload_n E.ex E.by dX7_split_64 rfl (lv_at hl 0 rfl) ?_
    refine k_get E G wi_X7_split_X7 0 (gLu_0 _ _ _ _ _) rfl 2 rfl fl_X7_split_X7_2 (v := .ref (al 2)) rfl dX7_split_65 ?_
    refine lv_iload_n E.ex E.by dX7_split_68 rfl (lv_at hl 2 rfl) ?_
    refine lv_iload_n E.ex E.by dX7_split_69 rfl (lv_at hl 3 rfl) ?_
    refine k_iast (fun z => (xLu kc al ac z κ)) E G 2 (gLu_2 _ _ _ _ _) 0 rfl h.1 (uA σ' 1 (v2).toNatClampNeg v3) (sLu_2 _ _ _ _ _ _) dX7_split_70 (fun z11 ez11 H locs G => ?_)
    have h := h.2 z11 ez11
    refine lv_iload_n E.ex E.by dX7_split_71 rfl (lv_at hl 3 rfl) ?_
    refine lv_iload_n E.ex E.by dX7_split_72 rfl (lv_at hl 1 rfl) ?_
    refine lv_icmp_ne (tgt := 79) E.ex E.by dX7_split_73 (by decide) (fun hc12 => ?_) (fun hc12 => ?_)
    · have h := h.1 hc12
      refine lv_iinc (k := 2) (v := v2 + 1) (lv' := [(2, .int (v2 + 1)), (0, .ref (al 0)), (1, .int v1), (3, .int v3)]) E.ex E.by dX7_split_79 hl rfl (k_inc1 _) (by decide) rfl (fun ls hl => ?_)
      refine lv_goto (tgt := 4) E.ex E.by dX7_split_82 (by decide) ?_
      exact IH4 _ h _ _ _ G (lv_sub hl [1, 2, 0] rfl)
    · have h := h.2 hc12
      refine lv_iinc (k := 1) (v := v1 + 1) (lv' := [(1, .int (v1 + 1)), (0, .ref (al 0)), (2, .int v2), (3, .int v3)]) E.ex E.by dX7_split_76 hl rfl (k_inc1 _) (by decide) rfl (fun ls hl => ?_)
      refine lv_iinc (k := 2) (v := v2 + 1) (lv' := [(2, .int (v2 + 1)), (1, .int (v1 + 1)), (0, .ref (al 0)), (3, .int v3)]) E.ex E.by dX7_split_79 hl rfl (k_inc1 _) (by decide) rfl (fun ls hl => ?_)
      refine lv_goto (tgt := 4) E.ex E.by dX7_split_82 (by decide) ?_
      exact IH4 _ h _ _ _ G (lv_sub hl [2, 1, 0] rfl)
  refine lv_iload_n E.ex E.by dX7_split_4 rfl (lv_at hl 2 rfl) ?_
  refine lv_bipush (v := 8) E.ex E.by dX7_split_5 (by decide) ?_
  refine lv_icmp_ge (tgt := 85) E.ex E.by dX7_split_7 (by decide) (fun hc10 => ?_) (fun hc10 => ?_)
  · have h := h.1 hc10
    refine lv_iload_n E.ex E.by dX7_split_85 rfl (lv_at hl 1 rfl) ?_
    exact k_ret (wof := (fun u : US => (xLu kc al ac u κ))) (u := t1.2.2) E G rfl h (Nat.le_of_ble_eq_true rfl) (Nat.le_of_ble_eq_true rfl) dX7_split_86
  · have h := h.2 hc10
    refine lv_aload_n E.ex E.by dX7_split_10 rfl (lv_at hl 0 rfl) ?_
    refine k_get E G wi_X7_split_X7 0 (gLu_0 _ _ _ _ _) rfl 0 rfl fl_X7_split_X7_0 (v := .ref (ac 0)) rfl dX7_split_11 ?_
    refine lv_iload_n E.ex E.by dX7_split_14 rfl (lv_at hl 2 rfl) ?_
    refine k_cVi (X := ((wLu kc al ac t1.2.2) : va_W)) (w := (wC kc ac κ)) (Z := ([] : va_W)) (wnew := (fun _ : Unit => (xLu kc al ac t1.2.2 κ))) (As := [.int t1.2.1]) (rest := []) E (xLu_1 _ _ _ _ _) G (c_X2_has l D kc _ _ _ _ h) gX7_split_X2_has rfl ⟨rfl, rfl⟩ hd_X2_has_v ⟨rfl, rfl⟩ 0 (gC_0 _ _ _) rfl rfl hl rfl rfl dX7_split_15 ⟨rfl, rfl⟩ (fun _ => xLu_1 _ _ _ _ _) (fun r2 _u15 hq H locs G => ?_)
    have h := hq
    refine lv_if_ne (tgt := 24) E.ex E.by dX7_split_18 (by decide) (fun hc9 => ?_) (fun hc9 => ?_)
    · have h := h.1 hc9
      refine lv_iload_n E.ex E.by dX7_split_24 rfl (lv_at hl 1 rfl) ?_
      refine lv_istore_n (lv' := [(3, .int t1.1), (0, .ref (al 0)), (1, .int t1.1), (2, .int t1.2.1)]) E.ex E.by dX7_split_25 rfl hl (by decide) rfl (fun ls hl => ?_)
      refine lv_iconst (v := 0) E.ex E.by dX7_split_26 (by decide) ?_
      refine lv_istore (lv' := [(4, .int 0), (3, .int t1.1), (0, .ref (al 0)), (1, .int t1.1), (2, .int t1.2.1)]) E.ex E.by dX7_split_27 hl (by decide) rfl (fun ls hl => ?_)
      refine lpW_ind (fun t3 : Int32 × Int32 => ∀ (H : Heap) (locs : List Loc) (ls : Array Slot), kG D (va_A (xLu kc al ac σ κ) s.heap.size) s (xLu kc al ac t1.2.2 κ) H locs → lv_has ls 5 [(0, .ref (al 0)), (1, .int t1.1), (2, .int t1.2.1), (3, .int t3.1), (4, .int t3.2)] → W p l e _ s m args below meth c H locs _ _ _ (F0 m 29 ls [])) (fun P29 IH29 t3 h H locs ls G hl => ?_) _ h _ _ _ G (lv_sub hl [2, 3, 4, 1, 0] rfl)
      refine lv_iload E.ex E.by dX7_split_29 (lv_at hl 4 rfl) ?_
      refine lv_iload_n E.ex E.by dX7_split_31 rfl (lv_at hl 2 rfl) ?_
      refine lv_icmp_ge (tgt := 64) E.ex E.by dX7_split_32 (by decide) (fun hc8 => ?_) (fun hc8 => ?_)
      · have h := h.1 hc8
        exact K64 _ _ _ _ _ _ _ G (lv_sub hl [0, 1, 2, 3] rfl) h
      · have h := h.2 hc8
        refine lv_iload_n E.ex E.by dX7_split_35 rfl (lv_at hl 3 rfl) ?_
        refine lv_iload_n E.ex E.by dX7_split_36 rfl (lv_at hl 1 rfl) ?_
        refine lv_icmp_ne (tgt := 64) E.ex E.by dX7_split_37 (by decide) (fun hc7 => ?_) (fun hc7 => ?_)
        · have h := h.1 hc7
          exact K64 _ _ _ _ _ _ _ G (lv_sub hl [0, 1, 2, 3] rfl) h
        · have h := h.2 hc7
          refine lv_aload_n E.ex E.by dX7_split_40 rfl (lv_at hl 0 rfl) ?_
          refine lv_iload E.ex E.by dX7_split_41 (lv_at hl 4 rfl) ?_
          refine lv_iload_n E.ex E.by dX7_split_43 rfl (lv_at hl 2 rfl) ?_
          refine k_cVi (X := []) (w := (xLu kc al ac t1.2.2 κ)) (Z := []) (wnew := (fun _ : Unit => (xLu kc al ac t1.2.2 κ))) (As := [.int t3.2, .int t1.2.1]) (rest := []) E (List.append_nil _).symm G (c_X7_isAlike l D kc _ _ _ _ _ _ _ h) gX7_split_X7_isAlike rfl ⟨rfl, rfl⟩ hd_X7_isAlike_v ⟨rfl, rfl⟩ 0 (gLu_0 _ _ _ _ _) rfl rfl hl rfl rfl dX7_split_44 ⟨rfl, rfl⟩ (fun _ => (List.append_nil _).symm) (fun r4 _u44 hq H locs G => ?_)
          have h := hq
          refine lv_if_eq (tgt := 58) E.ex E.by dX7_split_47 (by decide) (fun hc6 => ?_) (fun hc6 => ?_)
          · have h := h.1 hc6
            refine lv_iinc (k := 4) (v := t3.2 + 1) (lv' := [(4, .int (t3.2 + 1)), (0, .ref (al 0)), (1, .int t1.1), (2, .int t1.2.1), (3, .int t3.1)]) E.ex E.by dX7_split_58 hl rfl (k_inc1 _) (by decide) rfl (fun ls hl => ?_)
            refine lv_goto (tgt := 29) E.ex E.by dX7_split_61 (by decide) ?_
            exact IH29 _ h _ _ _ G (lv_sub hl [1, 2, 3, 4, 0] rfl)
          · have h := h.2 hc6
            refine lv_aload_n E.ex E.by dX7_split_50 rfl (lv_at hl 0 rfl) ?_
            refine k_get E G wi_X7_split_X7 0 (gLu_0 _ _ _ _ _) rfl 2 rfl fl_X7_split_X7_2 (v := .ref (al 2)) rfl dX7_split_51 ?_
            refine lv_iload E.ex E.by dX7_split_54 (lv_at hl 4 rfl) ?_
            refine k_iald E G 2 (gLu_2 _ _ _ _ _) 0 rfl h.1 dX7_split_56 ?_
            have h := h.2
            refine lv_topi (fun x5 ex5 => ?_)
            have h := h x5 ex5
            refine lv_istore_n (lv' := [(3, .int x5), (0, .ref (al 0)), (1, .int t1.1), (2, .int t1.2.1), (4, .int t3.2)]) E.ex E.by dX7_split_57 rfl hl (by decide) rfl (fun ls hl => ?_)
            refine lv_iinc (k := 4) (v := t3.2 + 1) (lv' := [(4, .int (t3.2 + 1)), (3, .int x5), (0, .ref (al 0)), (1, .int t1.1), (2, .int t1.2.1)]) E.ex E.by dX7_split_58 hl rfl (k_inc1 _) (by decide) rfl (fun ls hl => ?_)
            refine lv_goto (tgt := 29) E.ex E.by dX7_split_61 (by decide) ?_
            exact IH29 _ h _ _ _ G (lv_sub hl [2, 3, 4, 1, 0] rfl)
    · have h := h.2 hc9
      refine lv_goto (tgt := 79) E.ex E.by dX7_split_21 (by decide) ?_
      refine lv_iinc (k := 2) (v := t1.2.1 + 1) (lv' := [(2, .int (t1.2.1 + 1)), (0, .ref (al 0)), (1, .int t1.1)]) E.ex E.by dX7_split_79 hl rfl (k_inc1 _) (by decide) rfl (fun ls hl => ?_)
      refine lv_goto (tgt := 4) E.ex E.by dX7_split_82 (by decide) ?_
      exact IH4 _ h _ _ _ G (lv_sub hl [1, 2, 0] rfl)
theorem wi_X7_refine_X7 : ∀ w ∈ wsX70, w ∈ wsX7_refine := fun w h => List.mem_cons_of_mem _ (List.mem_append_left _ (List.mem_append_right _ (h)))
theorem fl_X7_refine_X7_3 : Cond.fieldLink RX7 22 (TX7 3).1 (TX7 3).2.1 (TX7 3).2.2.1 ∈ wsX7_refine := List.mem_of_getElem? (i := 2) (by decide +kernel)
theorem fl_X7_refine_X7_0 : Cond.fieldLink RX7 18 (TX7 0).1 (TX7 0).2.1 (TX7 0).2.2.1 ∈ wsX7_refine := List.mem_of_getElem? (i := 3) (by decide +kernel)
theorem fl_X7_refine_X7_1 : Cond.fieldLink RX7 9 (TX7 1).1 (TX7 1).2.1 (TX7 1).2.2.1 ∈ wsX7_refine := List.mem_of_getElem? (i := 1) (by decide +kernel)
theorem fl_X7_refine_X7_2 : Cond.fieldLink RX7 15 (TX7 2).1 (TX7 2).2.1 (TX7 2).2.2.1 ∈ wsX7_refine := List.mem_of_getElem? (i := 4) (by decide +kernel)
theorem hd_X7_split_v : yX7_split.cls = RX7 ∧ yX7_split.cls ≠ "java/lang/invoke/MethodHandle" ∧ yX7_split.cls ≠ "java/lang/invoke/VarHandle" ∧ (parseMethodDescriptor yX7_split.desc).map (fun d => d.parameters.length) = some 0 := by decide +kernel
theorem hd_X2_size_v : yX2_size.cls = RX2 ∧ yX2_size.cls ≠ "java/lang/invoke/MethodHandle" ∧ yX2_size.cls ≠ "java/lang/invoke/VarHandle" ∧ (parseMethodDescriptor yX2_size.desc).map (fun d => d.parameters.length) = some 0 := by decide +kernel
def wp_X7_refine_L70 (v1 : Int32) (v2 : Int32) (κ : US) (P2 : (Int32 × US) → Prop) (P44 : (Int32 × Int32 × US) → Prop) (Q : US → Prop) (P70 : (Int32 × US) → Prop) (t70 : Int32 × US) : Prop := (8 ≤ t70.1 → P44 (v1, v2 + 1, t70.2)) ∧ (¬ 8 ≤ t70.1 → vp_in t70.1 8 ∧ (vp_in t70.1 8 ∧ (∀ z6 : US, z6 = uA t70.2 0 (t70.1).toNatClampNeg (aA t70.2 1 (t70.1).toNatClampNeg) → P70 (t70.1 + 1, z6))))
def wp_X7_refine_L44 (κ : US) (P2 : (Int32 × US) → Prop) (Q : US → Prop) (P44 : (Int32 × Int32 × US) → Prop) (t44 : Int32 × Int32 × US) : Prop := (8 < t44.2.1 → Q t44.2.2) ∧ (¬ 8 < t44.2.1 → (t44.1 ≤ (iI t44.2.2 0) → Q t44.2.2) ∧ (¬ t44.1 ≤ (iI t44.2.2 0) → (∀ z3 : US, z3 = uI t44.2.2 0 t44.1 → wp_X7_split z3 κ (fun (r4 : Int32) (u5 : US) => lpW (wp_X7_refine_L70 r4 t44.2.1 κ P2 P44 Q) (0, u5)))))
def wp_X7_refine_L2 (κ : US) (Q : US → Prop) (P2 : (Int32 × US) → Prop) (t2 : Int32 × US) : Prop := (8 ≤ t2.1 → (∀ z1 : US, z1 = uI t2.2 0 0 → wp_X2_size κ (fun (r2 : Int32) => (r2 ≤ 0 → lpW (wp_X7_refine_L44 κ P2 Q) (0, 0, z1)) ∧ (¬ r2 ≤ 0 → lpW (wp_X7_refine_L44 κ P2 Q) (1, 0, z1))))) ∧ (¬ 8 ≤ t2.1 → vp_in t2.1 8 ∧ (∀ z32 : US, z32 = uA t2.2 0 (t2.1).toNatClampNeg 0 → P2 (t2.1 + 1, z32)))
def wp_X7_refine (σ : US) (κ : US) (Q : US → Prop) : Prop := lpW (wp_X7_refine_L2 κ Q) (0, σ)
set_option maxRecDepth 100000 in
set_option maxHeartbeats 4000000 in
theorem c_X7_refine (l : Launch) (D : va_G) (kc : Nat → ClassId) (al : Nat → Nat) (ac : Nat → Nat) (σ : US) (κ : US) (Q : US → Prop) (h : wp_X7_refine σ κ Q) : kCv l D (tyL kc) yX7_refine wsX7_refine ({ frames := 5, cells := 0, slots := 0, locals := 120 } : Room) [.ref (al 0)] (xLu kc al ac σ κ) (fun u : US => (xLu kc al ac u κ)) 0 0 (fun u => Q u) := by
  intro sz
  refine k_begin (cc := cX7_refine) (maxL := 4) (ret := none) (by decide +kernel) rfl rfl (fun p e s m args below meth c hsz E G ls hl => ?_)
  subst hsz
  have hl : lv_has ls 4 [(0, .ref (al 0))] := hl
  refine lv_iconst (v := 0) E.ex E.by dX7_refine_0 (by decide) ?_
  refine lv_istore_n (lv' := [(1, .int 0), (0, .ref (al 0))]) E.ex E.by dX7_refine_1 rfl hl (by decide) rfl (fun ls hl => ?_)
  refine lpW_ind (fun t1 : Int32 × US => ∀ (H : Heap) (locs : List Loc) (ls : Array Slot), kG D (va_A (xLu kc al ac σ κ) s.heap.size) s (xLu kc al ac t1.2 κ) H locs → lv_has ls 4 [(0, .ref (al 0)), (1, .int t1.1)] → W p l e _ s m args below meth c H locs _ _ _ (F0 m 2 ls [])) (fun P2 IH2 t1 h H locs ls G hl => ?_) _ h _ _ _ G (lv_sub hl [1, 0] rfl)
  refine lv_iload_n E.ex E.by dX7_refine_2 rfl (lv_at hl 1 rfl) ?_
  refine lv_bipush (v := 8) E.ex E.by dX7_refine_3 (by decide) ?_
  refine lv_icmp_ge (tgt := 21) E.ex E.by dX7_refine_5 (by decide) (fun hc24 => ?_) (fun hc24 => ?_)
  · have h := h.1 hc24
    refine lv_aload_n E.ex E.by dX7_refine_21 rfl (lv_at hl 0 rfl) ?_
    refine lv_iconst (v := 0) E.ex E.by dX7_refine_22 (by decide) ?_
    refine k_put (fun z => (xLu kc al ac z κ)) E G wi_X7_refine_X7 tyX7_ok nmX7 0 (gLu_0 _ _ _ _ _) rfl 3 rfl fl_X7_refine_X7_3 rfl rfl rfl rfl (uI t1.2 0 0) (pLu_0_3 _ _ _ _ _ _) dX7_refine_23 (fun z2 ez2 H locs G => ?_)
    have h := h z2 ez2
    refine lv_aload_n E.ex E.by dX7_refine_26 rfl (lv_at hl 0 rfl) ?_
    refine k_get E G wi_X7_refine_X7 0 (gLu_0 _ _ _ _ _) rfl 0 rfl fl_X7_refine_X7_0 (v := .ref (ac 0)) rfl dX7_refine_27 ?_
    refine k_cVi (X := ((wLu kc al ac z2) : va_W)) (w := (wC kc ac κ)) (Z := ([] : va_W)) (wnew := (fun _ : Unit => (xLu kc al ac z2 κ))) (As := []) (rest := []) E (xLu_1 _ _ _ _ _) G (c_X2_size l D kc _ _ _ h) gX7_refine_X2_size rfl ⟨rfl, rfl⟩ hd_X2_size_v ⟨rfl, rfl⟩ 0 (gC_0 _ _ _) rfl rfl hl rfl rfl dX7_refine_30 ⟨rfl, rfl⟩ (fun _ => xLu_1 _ _ _ _ _) (fun r3 _u30 hq H locs G => ?_)
    have h := hq
    refine lv_if_le (tgt := 40) E.ex E.by dX7_refine_33 (by decide) (fun hc22 => ?_) (fun hc22 => ?_)
    · have h := h.1 hc22
      refine lv_iconst (v := 0) E.ex E.by dX7_refine_40 (by decide) ?_
      refine lv_istore_n (lv' := [(1, .int 0), (0, .ref (al 0))]) E.ex E.by dX7_refine_41 rfl hl (by decide) rfl (fun ls hl => ?_)
      refine lv_iconst (v := 0) E.ex E.by dX7_refine_42 (by decide) ?_
      refine lv_istore_n (lv' := [(2, .int 0), (1, .int 0), (0, .ref (al 0))]) E.ex E.by dX7_refine_43 rfl hl (by decide) rfl (fun ls hl => ?_)
      refine lpW_ind (fun t4 : Int32 × Int32 × US => ∀ (H : Heap) (locs : List Loc) (ls : Array Slot), kG D (va_A (xLu kc al ac σ κ) s.heap.size) s (xLu kc al ac t4.2.2 κ) H locs → lv_has ls 4 [(0, .ref (al 0)), (1, .int t4.1), (2, .int t4.2.1)] → W p l e _ s m args below meth c H locs _ _ _ (F0 m 44 ls [])) (fun P44 IH44 t4 h H locs ls G hl => ?_) _ h _ _ _ G (lv_sub hl [2, 1, 0] rfl)
      refine lv_iload_n E.ex E.by dX7_refine_44 rfl (lv_at hl 2 rfl) ?_
      refine lv_bipush (v := 8) E.ex E.by dX7_refine_45 (by decide) ?_
      refine lv_icmp_gt (tgt := 100) E.ex E.by dX7_refine_47 (by decide) (fun hc12 => ?_) (fun hc12 => ?_)
      · have h := h.1 hc12
        exact k_retv (wof := (fun u : US => (xLu kc al ac u κ))) (u := t4.2.2) E G h (Nat.le_of_ble_eq_true rfl) (Nat.le_of_ble_eq_true rfl) dX7_refine_100
      · have h := h.2 hc12
        refine lv_iload_n E.ex E.by dX7_refine_50 rfl (lv_at hl 1 rfl) ?_
        refine lv_aload_n E.ex E.by dX7_refine_51 rfl (lv_at hl 0 rfl) ?_
        refine k_get E G wi_X7_refine_X7 0 (gLu_0 _ _ _ _ _) rfl 3 rfl fl_X7_refine_X7_3 (v := .int (iI t4.2.2 0)) rfl dX7_refine_52 ?_
        refine lv_icmp_le (tgt := 100) E.ex E.by dX7_refine_55 (by decide) (fun hc11 => ?_) (fun hc11 => ?_)
        · have h := h.1 hc11
          exact k_retv (wof := (fun u : US => (xLu kc al ac u κ))) (u := t4.2.2) E G h (Nat.le_of_ble_eq_true rfl) (Nat.le_of_ble_eq_true rfl) dX7_refine_100
        · have h := h.2 hc11
          refine lv_aload_n E.ex E.by dX7_refine_58 rfl (lv_at hl 0 rfl) ?_
          refine lv_iload_n E.ex E.by dX7_refine_59 rfl (lv_at hl 1 rfl) ?_
          refine k_put (fun z => (xLu kc al ac z κ)) E G wi_X7_refine_X7 tyX7_ok nmX7 0 (gLu_0 _ _ _ _ _) rfl 3 rfl fl_X7_refine_X7_3 rfl rfl rfl rfl (uI t4.2.2 0 t4.1) (pLu_0_3 _ _ _ _ _ _) dX7_refine_60 (fun z5 ez5 H locs G => ?_)
          have h := h z5 ez5
          refine lv_aload_n E.ex E.by dX7_refine_63 rfl (lv_at hl 0 rfl) ?_
          refine k_cVi (X := []) (w := (xLu kc al ac z5 κ)) (Z := []) (wnew := (fun u : US => (xLu kc al ac u κ))) (As := []) (rest := []) E (List.append_nil _).symm G (c_X7_split l D kc _ _ _ _ _ h) gX7_refine_X7_split rfl ⟨rfl, rfl⟩ hd_X7_split_v ⟨rfl, rfl⟩ 0 (gLu_0 _ _ _ _ _) rfl rfl hl rfl rfl dX7_refine_64 ⟨rfl, rfl⟩ (fun _ => (List.append_nil _).symm) (fun r6 u7 hq H locs G => ?_)
          have h := hq
          refine lv_istore_n (lv' := [(1, .int r6), (0, .ref (al 0)), (2, .int t4.2.1)]) E.ex E.by dX7_refine_67 rfl hl (by decide) rfl (fun ls hl => ?_)
          refine lv_iconst (v := 0) E.ex E.by dX7_refine_68 (by decide) ?_
          refine lv_istore_n (lv' := [(3, .int 0), (1, .int r6), (0, .ref (al 0)), (2, .int t4.2.1)]) E.ex E.by dX7_refine_69 rfl hl (by decide) rfl (fun ls hl => ?_)
          refine lpW_ind (fun t8 : Int32 × US => ∀ (H : Heap) (locs : List Loc) (ls : Array Slot), kG D (va_A (xLu kc al ac σ κ) s.heap.size) s (xLu kc al ac t8.2 κ) H locs → lv_has ls 4 [(0, .ref (al 0)), (1, .int r6), (2, .int t4.2.1), (3, .int t8.1)] → W p l e _ s m args below meth c H locs _ _ _ (F0 m 70 ls [])) (fun P70 IH70 t8 h H locs ls G hl => ?_) _ h _ _ _ G (lv_sub hl [2, 1, 3, 0] rfl)
          refine lv_iload_n E.ex E.by dX7_refine_70 rfl (lv_at hl 3 rfl) ?_
          refine lv_bipush (v := 8) E.ex E.by dX7_refine_71 (by decide) ?_
          refine lv_icmp_ge (tgt := 94) E.ex E.by dX7_refine_73 (by decide) (fun hc10 => ?_) (fun hc10 => ?_)
          · have h := h.1 hc10
            refine lv_iinc (k := 2) (v := t4.2.1 + 1) (lv' := [(2, .int (t4.2.1 + 1)), (0, .ref (al 0)), (1, .int r6), (3, .int t8.1)]) E.ex E.by dX7_refine_94 hl rfl (k_inc1 _) (by decide) rfl (fun ls hl => ?_)
            refine lv_goto (tgt := 44) E.ex E.by dX7_refine_97 (by decide) ?_
            exact IH44 _ h _ _ _ G (lv_sub hl [1, 2, 0] rfl)
          · have h := h.2 hc10
            refine lv_aload_n E.ex E.by dX7_refine_76 rfl (lv_at hl 0 rfl) ?_
            refine k_get E G wi_X7_refine_X7 0 (gLu_0 _ _ _ _ _) rfl 1 rfl fl_X7_refine_X7_1 (v := .ref (al 1)) rfl dX7_refine_77 ?_
            refine lv_iload_n E.ex E.by dX7_refine_80 rfl (lv_at hl 3 rfl) ?_
            refine lv_aload_n E.ex E.by dX7_refine_81 rfl (lv_at hl 0 rfl) ?_
            refine k_get E G wi_X7_refine_X7 0 (gLu_0 _ _ _ _ _) rfl 2 rfl fl_X7_refine_X7_2 (v := .ref (al 2)) rfl dX7_refine_82 ?_
            refine lv_iload_n E.ex E.by dX7_refine_85 rfl (lv_at hl 3 rfl) ?_
            refine k_iald E G 2 (gLu_2 _ _ _ _ _) 0 rfl h.1 dX7_refine_86 ?_
            have h := h.2
            refine k_iast (fun z => (xLu kc al ac z κ)) E G 1 (gLu_1 _ _ _ _ _) 0 rfl h.1 (uA t8.2 0 (t8.1).toNatClampNeg (aA t8.2 1 (t8.1).toNatClampNeg)) (sLu_1 _ _ _ _ _ _) dX7_refine_87 (fun z9 ez9 H locs G => ?_)
            have h := h.2 z9 ez9
            refine lv_iinc (k := 3) (v := t8.1 + 1) (lv' := [(3, .int (t8.1 + 1)), (0, .ref (al 0)), (1, .int r6), (2, .int t4.2.1)]) E.ex E.by dX7_refine_88 hl rfl (k_inc1 _) (by decide) rfl (fun ls hl => ?_)
            refine lv_goto (tgt := 70) E.ex E.by dX7_refine_91 (by decide) ?_
            exact IH70 _ h _ _ _ G (lv_sub hl [1, 2, 3, 0] rfl)
    · have h := h.2 hc22
      refine lv_iconst (v := 1) E.ex E.by dX7_refine_36 (by decide) ?_
      refine lv_goto (tgt := 41) E.ex E.by dX7_refine_37 (by decide) ?_
      refine lv_istore_n (lv' := [(1, .int 1), (0, .ref (al 0))]) E.ex E.by dX7_refine_41 rfl hl (by decide) rfl (fun ls hl => ?_)
      refine lv_iconst (v := 0) E.ex E.by dX7_refine_42 (by decide) ?_
      refine lv_istore_n (lv' := [(2, .int 0), (1, .int 1), (0, .ref (al 0))]) E.ex E.by dX7_refine_43 rfl hl (by decide) rfl (fun ls hl => ?_)
      refine lpW_ind (fun t13 : Int32 × Int32 × US => ∀ (H : Heap) (locs : List Loc) (ls : Array Slot), kG D (va_A (xLu kc al ac σ κ) s.heap.size) s (xLu kc al ac t13.2.2 κ) H locs → lv_has ls 4 [(0, .ref (al 0)), (1, .int t13.1), (2, .int t13.2.1)] → W p l e _ s m args below meth c H locs _ _ _ (F0 m 44 ls [])) (fun P44 IH44 t13 h H locs ls G hl => ?_) _ h _ _ _ G (lv_sub hl [2, 1, 0] rfl)
      refine lv_iload_n E.ex E.by dX7_refine_44 rfl (lv_at hl 2 rfl) ?_
      refine lv_bipush (v := 8) E.ex E.by dX7_refine_45 (by decide) ?_
      refine lv_icmp_gt (tgt := 100) E.ex E.by dX7_refine_47 (by decide) (fun hc21 => ?_) (fun hc21 => ?_)
      · have h := h.1 hc21
        exact k_retv (wof := (fun u : US => (xLu kc al ac u κ))) (u := t13.2.2) E G h (Nat.le_of_ble_eq_true rfl) (Nat.le_of_ble_eq_true rfl) dX7_refine_100
      · have h := h.2 hc21
        refine lv_iload_n E.ex E.by dX7_refine_50 rfl (lv_at hl 1 rfl) ?_
        refine lv_aload_n E.ex E.by dX7_refine_51 rfl (lv_at hl 0 rfl) ?_
        refine k_get E G wi_X7_refine_X7 0 (gLu_0 _ _ _ _ _) rfl 3 rfl fl_X7_refine_X7_3 (v := .int (iI t13.2.2 0)) rfl dX7_refine_52 ?_
        refine lv_icmp_le (tgt := 100) E.ex E.by dX7_refine_55 (by decide) (fun hc20 => ?_) (fun hc20 => ?_)
        · have h := h.1 hc20
          exact k_retv (wof := (fun u : US => (xLu kc al ac u κ))) (u := t13.2.2) E G h (Nat.le_of_ble_eq_true rfl) (Nat.le_of_ble_eq_true rfl) dX7_refine_100
        · have h := h.2 hc20
          refine lv_aload_n E.ex E.by dX7_refine_58 rfl (lv_at hl 0 rfl) ?_
          refine lv_iload_n E.ex E.by dX7_refine_59 rfl (lv_at hl 1 rfl) ?_
          refine k_put (fun z => (xLu kc al ac z κ)) E G wi_X7_refine_X7 tyX7_ok nmX7 0 (gLu_0 _ _ _ _ _) rfl 3 rfl fl_X7_refine_X7_3 rfl rfl rfl rfl (uI t13.2.2 0 t13.1) (pLu_0_3 _ _ _ _ _ _) dX7_refine_60 (fun z14 ez14 H locs G => ?_)
          have h := h z14 ez14
          refine lv_aload_n E.ex E.by dX7_refine_63 rfl (lv_at hl 0 rfl) ?_
          refine k_cVi (X := []) (w := (xLu kc al ac z14 κ)) (Z := []) (wnew := (fun u : US => (xLu kc al ac u κ))) (As := []) (rest := []) E (List.append_nil _).symm G (c_X7_split l D kc _ _ _ _ _ h) gX7_refine_X7_split rfl ⟨rfl, rfl⟩ hd_X7_split_v ⟨rfl, rfl⟩ 0 (gLu_0 _ _ _ _ _) rfl rfl hl rfl rfl dX7_refine_64 ⟨rfl, rfl⟩ (fun _ => (List.append_nil _).symm) (fun r15 u16 hq H locs G => ?_)
          have h := hq
          refine lv_istore_n (lv' := [(1, .int r15), (0, .ref (al 0)), (2, .int t13.2.1)]) E.ex E.by dX7_refine_67 rfl hl (by decide) rfl (fun ls hl => ?_)
          refine lv_iconst (v := 0) E.ex E.by dX7_refine_68 (by decide) ?_
          refine lv_istore_n (lv' := [(3, .int 0), (1, .int r15), (0, .ref (al 0)), (2, .int t13.2.1)]) E.ex E.by dX7_refine_69 rfl hl (by decide) rfl (fun ls hl => ?_)
          refine lpW_ind (fun t17 : Int32 × US => ∀ (H : Heap) (locs : List Loc) (ls : Array Slot), kG D (va_A (xLu kc al ac σ κ) s.heap.size) s (xLu kc al ac t17.2 κ) H locs → lv_has ls 4 [(0, .ref (al 0)), (1, .int r15), (2, .int t13.2.1), (3, .int t17.1)] → W p l e _ s m args below meth c H locs _ _ _ (F0 m 70 ls [])) (fun P70 IH70 t17 h H locs ls G hl => ?_) _ h _ _ _ G (lv_sub hl [2, 1, 3, 0] rfl)
          refine lv_iload_n E.ex E.by dX7_refine_70 rfl (lv_at hl 3 rfl) ?_
          refine lv_bipush (v := 8) E.ex E.by dX7_refine_71 (by decide) ?_
          refine lv_icmp_ge (tgt := 94) E.ex E.by dX7_refine_73 (by decide) (fun hc19 => ?_) (fun hc19 => ?_)
          · have h := h.1 hc19
            refine lv_iinc (k := 2) (v := t13.2.1 + 1) (lv' := [(2, .int (t13.2.1 + 1)), (0, .ref (al 0)), (1, .int r15), (3, .int t17.1)]) E.ex E.by dX7_refine_94 hl rfl (k_inc1 _) (by decide) rfl (fun ls hl => ?_)
            refine lv_goto (tgt := 44) E.ex E.by dX7_refine_97 (by decide) ?_
            exact IH44 _ h _ _ _ G (lv_sub hl [1, 2, 0] rfl)
          · have h := h.2 hc19
            refine lv_aload_n E.ex E.by dX7_refine_76 rfl (lv_at hl 0 rfl) ?_
            refine k_get E G wi_X7_refine_X7 0 (gLu_0 _ _ _ _ _) rfl 1 rfl fl_X7_refine_X7_1 (v := .ref (al 1)) rfl dX7_refine_77 ?_
            refine lv_iload_n E.ex E.by dX7_refine_80 rfl (lv_at hl 3 rfl) ?_
            refine lv_aload_n E.ex E.by dX7_refine_81 rfl (lv_at hl 0 rfl) ?_
            refine k_get E G wi_X7_refine_X7 0 (gLu_0 _ _ _ _ _) rfl 2 rfl fl_X7_refine_X7_2 (v := .ref (al 2)) rfl dX7_refine_82 ?_
            refine lv_iload_n E.ex E.by dX7_refine_85 rfl (lv_at hl 3 rfl) ?_
            refine k_iald E G 2 (gLu_2 _ _ _ _ _) 0 rfl h.1 dX7_refine_86 ?_
            have h := h.2
            refine k_iast (fun z => (xLu kc al ac z κ)) E G 1 (gLu_1 _ _ _ _ _) 0 rfl h.1 (uA t17.2 0 (t17.1).toNatClampNeg (aA t17.2 1 (t17.1).toNatClampNeg)) (sLu_1 _ _ _ _ _ _) dX7_refine_87 (fun z18 ez18 H locs G => ?_)
            have h := h.2 z18 ez18
            refine lv_iinc (k := 3) (v := t17.1 + 1) (lv' := [(3, .int (t17.1 + 1)), (0, .ref (al 0)), (1, .int r15), (2, .int t13.2.1)]) E.ex E.by dX7_refine_88 hl rfl (k_inc1 _) (by decide) rfl (fun ls hl => ?_)
            refine lv_goto (tgt := 70) E.ex E.by dX7_refine_91 (by decide) ?_
            exact IH70 _ h _ _ _ G (lv_sub hl [1, 2, 3, 0] rfl)
  · have h := h.2 hc24
    refine lv_aload_n E.ex E.by dX7_refine_8 rfl (lv_at hl 0 rfl) ?_
    refine k_get E G wi_X7_refine_X7 0 (gLu_0 _ _ _ _ _) rfl 1 rfl fl_X7_refine_X7_1 (v := .ref (al 1)) rfl dX7_refine_9 ?_
    refine lv_iload_n E.ex E.by dX7_refine_12 rfl (lv_at hl 1 rfl) ?_
    refine lv_iconst (v := 0) E.ex E.by dX7_refine_13 (by decide) ?_
    refine k_iast (fun z => (xLu kc al ac z κ)) E G 1 (gLu_1 _ _ _ _ _) 0 rfl h.1 (uA t1.2 0 (t1.1).toNatClampNeg 0) (sLu_1 _ _ _ _ _ _) dX7_refine_14 (fun z23 ez23 H locs G => ?_)
    have h := h.2 z23 ez23
    refine lv_iinc (k := 1) (v := t1.1 + 1) (lv' := [(1, .int (t1.1 + 1)), (0, .ref (al 0))]) E.ex E.by dX7_refine_15 hl rfl (k_inc1 _) (by decide) rfl (fun ls hl => ?_)
    refine lv_goto (tgt := 2) E.ex E.by dX7_refine_18 (by decide) ?_
    exact IH2 _ h _ _ _ G (lv_sub hl [1, 0] rfl)
