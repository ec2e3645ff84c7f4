/-! ===== the reference's move, keep, tryFormula, addFormula ===== -/
theorem kG.fst {s : State} {H : Heap} {locs : List Loc} {D : va_G} {A : Nat → Prop} {X Y : va_W} (G : kG D A s (X ++ Y) H locs) : kG D A s X H locs := by
  have hX : ∀ (k : Nat) (q : Nat × va_E), X[k]? = some q → (X ++ Y)[k]? = some q := by
    intro k q h
    have hk : k < X.length := (List.getElem?_eq_some_iff.mp h).1
    rw [List.getElem?_append_left hk]; exact h
  exact ⟨fun k q h => G.1 k q (hX k q h), ⟨fun i j x y hx hy hxy => G.2.1.1 i j x y (hX i x hx) (hX j y hy) hxy, fun k q h => G.2.1.2 k q (hX k q h)⟩, G.2.2.1, G.2.2.2.1, G.2.2.2.2⟩
abbrev kO (f g : Nat → Int32) (i : Nat) : Nat → Int32 := va_cpy f g 250 (50 * i) 50
abbrev kI (σ : US) (g : Nat → Int32) (j i : Nat) : US := sA σ j (va_cpy g (aA σ j) (50 * i) 250 50)
def kpO (σ : US) (g : Nat → Int32) : Nat → Int32 := kO (aA σ 12) (kO (aA σ 11) (kO (aA σ 10) (kO (aA σ 9) (kO (aA σ 8) (kO (aA σ 7) (kO (aA σ 6) (g) 0) 1) 2) 3) 4) 5) 6
def kpI (σ : US) (g : Nat → Int32) : US := kI (kI (kI (kI (kI (kI (kI (σ) g 6 0) g 7 1) g 8 2) g 9 3) g 10 4) g 11 5) g 12 6
theorem la_X12_move_94 : Cond.methodLink RX12 94 arraycopyName ∈ wsX12_move := List.mem_of_getElem? (i := 1) (by decide +kernel)
theorem lan_X12_move : Cond.native arraycopyName ∈ wsX12_move := List.mem_of_getElem? (i := 2) (by decide +kernel)
theorem las_X12_move : Cond.static arraycopyName ∈ wsX12_move := List.mem_of_getElem? (i := 3) (by decide +kernel)
theorem lai_X12_move : Cond.initialized "java/lang/System" ∈ wsX12_move := List.mem_of_getElem? (i := 4) (by decide +kernel)
set_option maxRecDepth 100000 in
set_option maxHeartbeats 4000000 in
theorem c_X12_move_out (l : Launch) (D : va_G) (kc : Nat → ClassId) (w : va_W) (q0 q1 r0 r1 i : Nat) (f g : Nat → Int32) (hi : i < 7) (h0 : w[q0]? = some (r0, .inl (kc 0, 300, .inl f))) (h1 : w[q1]? = some (r1, .inl (kc 0, 350, .inl g))) : kCv l D (tyL kc) yX12_move wsX12_move ({ frames := 1, cells := 0, slots := 0, locals := 60 } : Room) [.ref r0, .ref r1, .int 250, .int (nI i), .int 1] w (fun _ : Unit => w.set q1 (r1, .inl (kc 0, 350, .inl (kO f g i)))) 0 0 (fun _ => True) := by
  intro sz
  refine k_begin (cc := cX12_move) (maxL := 5) (ret := none) (by decide +kernel) rfl rfl (fun p e s m args below meth c hsz E G ls hl => ?_)
  subst hsz
  have hl : lv_has ls 5 [(0, .ref r0), (1, .ref r1), (2, .int 250), (3, .int (nI i)), (4, .int 1)] := hl
  have e50 : (50 : Int32) * nI i = nI (50 * i) := by rw [show (50 : Int32) = nI 50 from rfl, pk_mul]
  have ec : (nI (50 * i)).toNatClampNeg = 50 * i := nI_clamp (by omega)
  refine lv_iload E.ex E.by dX12_move_0 (lv_at hl 4 rfl) ?_
  refine lv_if_eq (tgt := 20) E.ex E.by dX12_move_2 (by decide) (fun hc => absurd hc (by decide)) (fun hc => ?_)
  refine lv_aload_n E.ex E.by dX12_move_5 rfl (lv_at hl 0 rfl) ?_
  refine lv_iload_n E.ex E.by dX12_move_6 rfl (lv_at hl 2 rfl) ?_
  refine lv_aload_n E.ex E.by dX12_move_7 rfl (lv_at hl 1 rfl) ?_
  refine lv_bipush (v := 50) E.ex E.by dX12_move_8 (by decide) ?_
  refine lv_iload_n E.ex E.by dX12_move_10 rfl (lv_at hl 3 rfl) ?_
  refine lv_imul E.ex E.by dX12_move_11 ?_
  refine lv_topi (fun y ey => ?_)
  have ey : y = nI (50 * i) := ey.trans e50
  subst ey
  refine lv_bipush (v := 50) E.ex E.by dX12_move_12 (by decide) ?_
  refine k_copyi (S' := va_W) (fun z => z) (σ := w) E G la_X12_move_94 lan_X12_move las_X12_move lai_X12_move q0 q1 h0 h1 0 ⟨rfl, rfl⟩ hl (by decide) (nn (by omega)) (by decide) (Nat.le_of_ble_eq_true rfl) (by rw [ec]; show 50 * i + 50 ≤ 350; omega) rfl ⟨rfl, rfl⟩ dX12_move_14 (w.set q1 (r1, .inl (kc 0, 350, .inl (kO f g i)))) (by rw [ec]; rfl) (fun z ez H locs G => ?_)
  subst ez
  refine lv_goto (tgt := 32) E.ex E.by dX12_move_17 (by decide) ?_
  exact k_retv (P := fun _ : Unit => True) (wof := fun _ : Unit => w.set q1 (r1, .inl (kc 0, 350, .inl (kO f g i)))) (u := ()) E G trivial (Nat.le_refl _) (Nat.le_refl _) dX12_move_32
set_option maxRecDepth 100000 in
set_option maxHeartbeats 4000000 in
theorem c_X12_move_in (l : Launch) (D : va_G) (kc : Nat → ClassId) (w : va_W) (q0 q1 r0 r1 i : Nat) (f g : Nat → Int32) (hi : i < 7) (h0 : w[q0]? = some (r0, .inl (kc 0, 300, .inl f))) (h1 : w[q1]? = some (r1, .inl (kc 0, 350, .inl g))) : kCv l D (tyL kc) yX12_move wsX12_move ({ frames := 1, cells := 0, slots := 0, locals := 60 } : Room) [.ref r0, .ref r1, .int 250, .int (nI i), .int 0] w (fun _ : Unit => w.set q0 (r0, .inl (kc 0, 300, .inl (va_cpy g f (50 * i) 250 50)))) 0 0 (fun _ => True) := by
  intro sz
  refine k_begin (cc := cX12_move) (maxL := 5) (ret := none) (by decide +kernel) rfl rfl (fun p e s m args below meth c hsz E G ls hl => ?_)
  subst hsz
  have hl : lv_has ls 5 [(0, .ref r0), (1, .ref r1), (2, .int 250), (3, .int (nI i)), (4, .int 0)] := hl
  have e50 : (50 : Int32) * nI i = nI (50 * i) := by rw [show (50 : Int32) = nI 50 from rfl, pk_mul]
  have ec : (nI (50 * i)).toNatClampNeg = 50 * i := nI_clamp (by omega)
  refine lv_iload E.ex E.by dX12_move_0 (lv_at hl 4 rfl) ?_
  refine lv_if_eq (tgt := 20) E.ex E.by dX12_move_2 (by decide) (fun hc => ?_) (fun hc => absurd rfl hc)
  refine lv_aload_n E.ex E.by dX12_move_20 rfl (lv_at hl 1 rfl) ?_
  refine lv_bipush (v := 50) E.ex E.by dX12_move_21 (by decide) ?_
  refine lv_iload_n E.ex E.by dX12_move_23 rfl (lv_at hl 3 rfl) ?_
  refine lv_imul E.ex E.by dX12_move_24 ?_
  refine lv_topi (fun y ey => ?_)
  have ey : y = nI (50 * i) := ey.trans e50
  subst ey
  refine lv_aload_n E.ex E.by dX12_move_25 rfl (lv_at hl 0 rfl) ?_
  refine lv_iload_n E.ex E.by dX12_move_26 rfl (lv_at hl 2 rfl) ?_
  refine lv_bipush (v := 50) E.ex E.by dX12_move_27 (by decide) ?_
  refine k_copyi (S' := va_W) (fun z => z) (σ := w) E G la_X12_move_94 lan_X12_move las_X12_move lai_X12_move q1 q0 h1 h0 0 ⟨rfl, rfl⟩ hl (nn (by omega)) (by decide) (by decide) (by rw [ec]; show 50 * i + 50 ≤ 350; omega) (Nat.le_of_ble_eq_true rfl) rfl ⟨rfl, rfl⟩ dX12_move_29 (w.set q0 (r0, .inl (kc 0, 300, .inl (va_cpy g f (50 * i) 250 50)))) (by rw [ec]; rfl) (fun z ez H locs G => ?_)
  subst ez
  exact k_retv (P := fun _ : Unit => True) (wof := fun _ : Unit => w.set q0 (r0, .inl (kc 0, 300, .inl (va_cpy g f (50 * i) 250 50)))) (u := ()) E G trivial (Nat.le_refl _) (Nat.le_refl _) dX12_move_32
theorem wi_X12_keep_X12 : ∀ w ∈ wsX120, w ∈ wsX12_keep := fun w h => List.mem_cons_of_mem _ (List.mem_append_right _ (h))
theorem hd_X12_move_v : yX12_move.cls = RX12 ∧ yX12_move.cls ≠ "java/lang/invoke/MethodHandle" ∧ yX12_move.cls ≠ "java/lang/invoke/VarHandle" ∧ (parseMethodDescriptor yX12_move.desc).map (fun d => d.parameters.length) = some 5 := by decide +kernel
theorem fl_X12_keep_X12_17 : Cond.fieldLink RX12 41 (TX12 17).1 (TX12 17).2.1 (TX12 17).2.2.1 ∈ wsX12_keep := List.mem_of_getElem? (i := 1) (by decide +kernel)
theorem fl_X12_keep_X12_18 : Cond.fieldLink RX12 44 (TX12 18).1 (TX12 18).2.1 (TX12 18).2.2.1 ∈ wsX12_keep := List.mem_of_getElem? (i := 2) (by decide +kernel)
theorem fl_X12_keep_X12_19 : Cond.fieldLink RX12 47 (TX12 19).1 (TX12 19).2.1 (TX12 19).2.2.1 ∈ wsX12_keep := List.mem_of_getElem? (i := 3) (by decide +kernel)
theorem fl_X12_keep_X12_20 : Cond.fieldLink RX12 50 (TX12 20).1 (TX12 20).2.1 (TX12 20).2.2.1 ∈ wsX12_keep := List.mem_of_getElem? (i := 4) (by decide +kernel)
theorem fl_X12_keep_X12_21 : Cond.fieldLink RX12 53 (TX12 21).1 (TX12 21).2.1 (TX12 21).2.2.1 ∈ wsX12_keep := List.mem_of_getElem? (i := 5) (by decide +kernel)
theorem fl_X12_keep_X12_22 : Cond.fieldLink RX12 56 (TX12 22).1 (TX12 22).2.1 (TX12 22).2.2.1 ∈ wsX12_keep := List.mem_of_getElem? (i := 6) (by decide +kernel)
theorem fl_X12_keep_X12_23 : Cond.fieldLink RX12 59 (TX12 23).1 (TX12 23).2.1 (TX12 23).2.2.1 ∈ wsX12_keep := List.mem_of_getElem? (i := 7) (by decide +kernel)
set_option maxRecDepth 100000 in
set_option maxHeartbeats 4000000 in
theorem c_X12_keep_out (l : Launch) (D : va_G) (kc : Nat → ClassId) (a : Nat → Nat) (r1 : Nat) (σ : US) (g : Nat → Int32) : kCv l D (tyL kc) yX12_keep wsX12_keep ({ frames := 2, cells := 0, slots := 0, locals := 84 } : Room) [.ref (a 0), .ref r1, .int 250, .int 1] (wM kc a σ ++ [(r1, .inl (kc 0, 350, .inl g))]) (fun _ : Unit => wM kc a σ ++ [(r1, .inl (kc 0, 350, .inl (kpO σ g)))]) 0 0 (fun _ => True) := by
  intro sz
  refine k_begin (cc := cX12_keep) (maxL := 4) (ret := none) (by decide +kernel) rfl rfl (fun p e s m args below meth c hsz E G ls hl => ?_)
  subst hsz
  have hl : lv_has ls 4 [(0, .ref (a 0)), (1, .ref r1), (2, .int 250), (3, .int 1)] := hl
  refine lv_aload_n E.ex E.by dX12_keep_0 rfl (lv_at hl 0 rfl) ?_
  refine k_get E G wi_X12_keep_X12 0 rfl rfl 17 rfl fl_X12_keep_X12_17 (v := .ref (a 11)) rfl dX12_keep_1 ?_
  refine lv_aload_n E.ex E.by dX12_keep_4 rfl (lv_at hl 1 rfl) ?_
  refine lv_iload_n E.ex E.by dX12_keep_5 rfl (lv_at hl 2 rfl) ?_
  refine lv_iconst (v := 0) E.ex E.by dX12_keep_6 (by decide) ?_
  refine lv_iload_n E.ex E.by dX12_keep_7 rfl (lv_at hl 3 rfl) ?_
  refine k_cSv (X := []) (w := (wM kc a σ ++ [(r1, .inl (kc 0, 350, .inl g))])) (Z := []) (wnew := fun _ : Unit => (wM kc a σ ++ [(r1, .inl (kc 0, 350, .inl (kO (aA σ 6) g 0)))])) (As := [.ref (a 11), .ref r1, .int 250, .int (nI 0), .int 1]) (rest := []) E (List.append_nil _).symm G (c_X12_move_out l D kc (wM kc a σ ++ [(r1, .inl (kc 0, 350, .inl g))]) 11 26 (a 11) r1 0 _ _ (by decide) rfl rfl) gX12_keep_X12_move rfl ⟨rfl, rfl⟩ hd_X12_move_v ⟨rfl, rfl⟩ rfl hl rfl rfl dX12_keep_8 ⟨rfl, rfl⟩ (fun _ => rfl) (fun _ _ H locs G => ?_)
  refine lv_aload_n E.ex E.by dX12_keep_11 rfl (lv_at hl 0 rfl) ?_
  refine k_get E G wi_X12_keep_X12 0 rfl rfl 18 rfl fl_X12_keep_X12_18 (v := .ref (a 12)) rfl dX12_keep_12 ?_
  refine lv_aload_n E.ex E.by dX12_keep_15 rfl (lv_at hl 1 rfl) ?_
  refine lv_iload_n E.ex E.by dX12_keep_16 rfl (lv_at hl 2 rfl) ?_
  refine lv_iconst (v := 1) E.ex E.by dX12_keep_17 (by decide) ?_
  refine lv_iload_n E.ex E.by dX12_keep_18 rfl (lv_at hl 3 rfl) ?_
  refine k_cSv (X := []) (w := (wM kc a σ ++ [(r1, .inl (kc 0, 350, .inl (kO (aA σ 6) g 0)))])) (Z := []) (wnew := fun _ : Unit => (wM kc a σ ++ [(r1, .inl (kc 0, 350, .inl (kO (aA σ 7) (kO (aA σ 6) g 0) 1)))])) (As := [.ref (a 12), .ref r1, .int 250, .int (nI 1), .int 1]) (rest := []) E (List.append_nil _).symm G (c_X12_move_out l D kc (wM kc a σ ++ [(r1, .inl (kc 0, 350, .inl (kO (aA σ 6) g 0)))]) 12 26 (a 12) r1 1 _ _ (by decide) rfl rfl) gX12_keep_X12_move rfl ⟨rfl, rfl⟩ hd_X12_move_v ⟨rfl, rfl⟩ rfl hl rfl rfl dX12_keep_19 ⟨rfl, rfl⟩ (fun _ => rfl) (fun _ _ H locs G => ?_)
  refine lv_aload_n E.ex E.by dX12_keep_22 rfl (lv_at hl 0 rfl) ?_
  refine k_get E G wi_X12_keep_X12 0 rfl rfl 19 rfl fl_X12_keep_X12_19 (v := .ref (a 13)) rfl dX12_keep_23 ?_
  refine lv_aload_n E.ex E.by dX12_keep_26 rfl (lv_at hl 1 rfl) ?_
  refine lv_iload_n E.ex E.by dX12_keep_27 rfl (lv_at hl 2 rfl) ?_
  refine lv_iconst (v := 2) E.ex E.by dX12_keep_28 (by decide) ?_
  refine lv_iload_n E.ex E.by dX12_keep_29 rfl (lv_at hl 3 rfl) ?_
  refine k_cSv (X := []) (w := (wM kc a σ ++ [(r1, .inl (kc 0, 350, .inl (kO (aA σ 7) (kO (aA σ 6) g 0) 1)))])) (Z := []) (wnew := fun _ : Unit => (wM kc a σ ++ [(r1, .inl (kc 0, 350, .inl (kO (aA σ 8) (kO (aA σ 7) (kO (aA σ 6) g 0) 1) 2)))])) (As := [.ref (a 13), .ref r1, .int 250, .int (nI 2), .int 1]) (rest := []) E (List.append_nil _).symm G (c_X12_move_out l D kc (wM kc a σ ++ [(r1, .inl (kc 0, 350, .inl (kO (aA σ 7) (kO (aA σ 6) g 0) 1)))]) 13 26 (a 13) r1 2 _ _ (by decide) rfl rfl) gX12_keep_X12_move rfl ⟨rfl, rfl⟩ hd_X12_move_v ⟨rfl, rfl⟩ rfl hl rfl rfl dX12_keep_30 ⟨rfl, rfl⟩ (fun _ => rfl) (fun _ _ H locs G => ?_)
  refine lv_aload_n E.ex E.by dX12_keep_33 rfl (lv_at hl 0 rfl) ?_
  refine k_get E G wi_X12_keep_X12 0 rfl rfl 20 rfl fl_X12_keep_X12_20 (v := .ref (a 14)) rfl dX12_keep_34 ?_
  refine lv_aload_n E.ex E.by dX12_keep_37 rfl (lv_at hl 1 rfl) ?_
  refine lv_iload_n E.ex E.by dX12_keep_38 rfl (lv_at hl 2 rfl) ?_
  refine lv_iconst (v := 3) E.ex E.by dX12_keep_39 (by decide) ?_
  refine lv_iload_n E.ex E.by dX12_keep_40 rfl (lv_at hl 3 rfl) ?_
  refine k_cSv (X := []) (w := (wM kc a σ ++ [(r1, .inl (kc 0, 350, .inl (kO (aA σ 8) (kO (aA σ 7) (kO (aA σ 6) g 0) 1) 2)))])) (Z := []) (wnew := fun _ : Unit => (wM kc a σ ++ [(r1, .inl (kc 0, 350, .inl (kO (aA σ 9) (kO (aA σ 8) (kO (aA σ 7) (kO (aA σ 6) g 0) 1) 2) 3)))])) (As := [.ref (a 14), .ref r1, .int 250, .int (nI 3), .int 1]) (rest := []) E (List.append_nil _).symm G (c_X12_move_out l D kc (wM kc a σ ++ [(r1, .inl (kc 0, 350, .inl (kO (aA σ 8) (kO (aA σ 7) (kO (aA σ 6) g 0) 1) 2)))]) 14 26 (a 14) r1 3 _ _ (by decide) rfl rfl) gX12_keep_X12_move rfl ⟨rfl, rfl⟩ hd_X12_move_v ⟨rfl, rfl⟩ rfl hl rfl rfl dX12_keep_41 ⟨rfl, rfl⟩ (fun _ => rfl) (fun _ _ H locs G => ?_)
  refine lv_aload_n E.ex E.by dX12_keep_44 rfl (lv_at hl 0 rfl) ?_
  refine k_get E G wi_X12_keep_X12 0 rfl rfl 21 rfl fl_X12_keep_X12_21 (v := .ref (a 15)) rfl dX12_keep_45 ?_
  refine lv_aload_n E.ex E.by dX12_keep_48 rfl (lv_at hl 1 rfl) ?_
  refine lv_iload_n E.ex E.by dX12_keep_49 rfl (lv_at hl 2 rfl) ?_
  refine lv_iconst (v := 4) E.ex E.by dX12_keep_50 (by decide) ?_
  refine lv_iload_n E.ex E.by dX12_keep_51 rfl (lv_at hl 3 rfl) ?_
  refine k_cSv (X := []) (w := (wM kc a σ ++ [(r1, .inl (kc 0, 350, .inl (kO (aA σ 9) (kO (aA σ 8) (kO (aA σ 7) (kO (aA σ 6) g 0) 1) 2) 3)))])) (Z := []) (wnew := fun _ : Unit => (wM kc a σ ++ [(r1, .inl (kc 0, 350, .inl (kO (aA σ 10) (kO (aA σ 9) (kO (aA σ 8) (kO (aA σ 7) (kO (aA σ 6) g 0) 1) 2) 3) 4)))])) (As := [.ref (a 15), .ref r1, .int 250, .int (nI 4), .int 1]) (rest := []) E (List.append_nil _).symm G (c_X12_move_out l D kc (wM kc a σ ++ [(r1, .inl (kc 0, 350, .inl (kO (aA σ 9) (kO (aA σ 8) (kO (aA σ 7) (kO (aA σ 6) g 0) 1) 2) 3)))]) 15 26 (a 15) r1 4 _ _ (by decide) rfl rfl) gX12_keep_X12_move rfl ⟨rfl, rfl⟩ hd_X12_move_v ⟨rfl, rfl⟩ rfl hl rfl rfl dX12_keep_52 ⟨rfl, rfl⟩ (fun _ => rfl) (fun _ _ H locs G => ?_)
  refine lv_aload_n E.ex E.by dX12_keep_55 rfl (lv_at hl 0 rfl) ?_
  refine k_get E G wi_X12_keep_X12 0 rfl rfl 22 rfl fl_X12_keep_X12_22 (v := .ref (a 16)) rfl dX12_keep_56 ?_
  refine lv_aload_n E.ex E.by dX12_keep_59 rfl (lv_at hl 1 rfl) ?_
  refine lv_iload_n E.ex E.by dX12_keep_60 rfl (lv_at hl 2 rfl) ?_
  refine lv_iconst (v := 5) E.ex E.by dX12_keep_61 (by decide) ?_
  refine lv_iload_n E.ex E.by dX12_keep_62 rfl (lv_at hl 3 rfl) ?_
  refine k_cSv (X := []) (w := (wM kc a σ ++ [(r1, .inl (kc 0, 350, .inl (kO (aA σ 10) (kO (aA σ 9) (kO (aA σ 8) (kO (aA σ 7) (kO (aA σ 6) g 0) 1) 2) 3) 4)))])) (Z := []) (wnew := fun _ : Unit => (wM kc a σ ++ [(r1, .inl (kc 0, 350, .inl (kO (aA σ 11) (kO (aA σ 10) (kO (aA σ 9) (kO (aA σ 8) (kO (aA σ 7) (kO (aA σ 6) g 0) 1) 2) 3) 4) 5)))])) (As := [.ref (a 16), .ref r1, .int 250, .int (nI 5), .int 1]) (rest := []) E (List.append_nil _).symm G (c_X12_move_out l D kc (wM kc a σ ++ [(r1, .inl (kc 0, 350, .inl (kO (aA σ 10) (kO (aA σ 9) (kO (aA σ 8) (kO (aA σ 7) (kO (aA σ 6) g 0) 1) 2) 3) 4)))]) 16 26 (a 16) r1 5 _ _ (by decide) rfl rfl) gX12_keep_X12_move rfl ⟨rfl, rfl⟩ hd_X12_move_v ⟨rfl, rfl⟩ rfl hl rfl rfl dX12_keep_63 ⟨rfl, rfl⟩ (fun _ => rfl) (fun _ _ H locs G => ?_)
  refine lv_aload_n E.ex E.by dX12_keep_66 rfl (lv_at hl 0 rfl) ?_
  refine k_get E G wi_X12_keep_X12 0 rfl rfl 23 rfl fl_X12_keep_X12_23 (v := .ref (a 17)) rfl dX12_keep_67 ?_
  refine lv_aload_n E.ex E.by dX12_keep_70 rfl (lv_at hl 1 rfl) ?_
  refine lv_iload_n E.ex E.by dX12_keep_71 rfl (lv_at hl 2 rfl) ?_
  refine lv_bipush (v := 6) E.ex E.by dX12_keep_72 (by decide) ?_
  refine lv_iload_n E.ex E.by dX12_keep_74 rfl (lv_at hl 3 rfl) ?_
  refine k_cSv (X := []) (w := (wM kc a σ ++ [(r1, .inl (kc 0, 350, .inl (kO (aA σ 11) (kO (aA σ 10) (kO (aA σ 9) (kO (aA σ 8) (kO (aA σ 7) (kO (aA σ 6) g 0) 1) 2) 3) 4) 5)))])) (Z := []) (wnew := fun _ : Unit => (wM kc a σ ++ [(r1, .inl (kc 0, 350, .inl (kO (aA σ 12) (kO (aA σ 11) (kO (aA σ 10) (kO (aA σ 9) (kO (aA σ 8) (kO (aA σ 7) (kO (aA σ 6) g 0) 1) 2) 3) 4) 5) 6)))])) (As := [.ref (a 17), .ref r1, .int 250, .int (nI 6), .int 1]) (rest := []) E (List.append_nil _).symm G (c_X12_move_out l D kc (wM kc a σ ++ [(r1, .inl (kc 0, 350, .inl (kO (aA σ 11) (kO (aA σ 10) (kO (aA σ 9) (kO (aA σ 8) (kO (aA σ 7) (kO (aA σ 6) g 0) 1) 2) 3) 4) 5)))]) 17 26 (a 17) r1 6 _ _ (by decide) rfl rfl) gX12_keep_X12_move rfl ⟨rfl, rfl⟩ hd_X12_move_v ⟨rfl, rfl⟩ rfl hl rfl rfl dX12_keep_75 ⟨rfl, rfl⟩ (fun _ => rfl) (fun _ _ H locs G => ?_)
  exact k_retv (P := fun _ : Unit => True) (wof := fun _ : Unit => wM kc a σ ++ [(r1, .inl (kc 0, 350, .inl (kpO σ g)))]) (u := ()) E G trivial (Nat.le_refl _) (Nat.le_refl _) dX12_keep_78
set_option maxRecDepth 100000 in
set_option maxHeartbeats 4000000 in
theorem c_X12_keep_in (l : Launch) (D : va_G) (kc : Nat → ClassId) (a : Nat → Nat) (r1 : Nat) (σ : US) (g : Nat → Int32) : kCv l D (tyL kc) yX12_keep wsX12_keep ({ frames := 2, cells := 0, slots := 0, locals := 84 } : Room) [.ref (a 0), .ref r1, .int 250, .int 0] (wM kc a σ ++ [(r1, .inl (kc 0, 350, .inl g))]) (fun _ : Unit => wM kc a (kpI σ g) ++ [(r1, .inl (kc 0, 350, .inl g))]) 0 0 (fun _ => True) := by
  intro sz
  refine k_begin (cc := cX12_keep) (maxL := 4) (ret := none) (by decide +kernel) rfl rfl (fun p e s m args below meth c hsz E G ls hl => ?_)
  subst hsz
  have hl : lv_has ls 4 [(0, .ref (a 0)), (1, .ref r1), (2, .int 250), (3, .int 0)] := hl
  refine lv_aload_n E.ex E.by dX12_keep_0 rfl (lv_at hl 0 rfl) ?_
  refine k_get E G wi_X12_keep_X12 0 rfl rfl 17 rfl fl_X12_keep_X12_17 (v := .ref (a 11)) rfl dX12_keep_1 ?_
  refine lv_aload_n E.ex E.by dX12_keep_4 rfl (lv_at hl 1 rfl) ?_
  refine lv_iload_n E.ex E.by dX12_keep_5 rfl (lv_at hl 2 rfl) ?_
  refine lv_iconst (v := 0) E.ex E.by dX12_keep_6 (by decide) ?_
  refine lv_iload_n E.ex E.by dX12_keep_7 rfl (lv_at hl 3 rfl) ?_
  refine k_cSv (X := []) (w := (wM kc a σ ++ [(r1, .inl (kc 0, 350, .inl g))])) (Z := []) (wnew := fun _ : Unit => (wM kc a (kI σ g 6 0) ++ [(r1, .inl (kc 0, 350, .inl g))])) (As := [.ref (a 11), .ref r1, .int 250, .int (nI 0), .int 0]) (rest := []) E (List.append_nil _).symm G (c_X12_move_in l D kc (wM kc a σ ++ [(r1, .inl (kc 0, 350, .inl g))]) 11 26 (a 11) r1 0 _ _ (by decide) rfl rfl) gX12_keep_X12_move rfl ⟨rfl, rfl⟩ hd_X12_move_v ⟨rfl, rfl⟩ rfl hl rfl rfl dX12_keep_8 ⟨rfl, rfl⟩ (fun _ => rfl) (fun _ _ H locs G => ?_)
  refine lv_aload_n E.ex E.by dX12_keep_11 rfl (lv_at hl 0 rfl) ?_
  refine k_get E G wi_X12_keep_X12 0 rfl rfl 18 rfl fl_X12_keep_X12_18 (v := .ref (a 12)) rfl dX12_keep_12 ?_
  refine lv_aload_n E.ex E.by dX12_keep_15 rfl (lv_at hl 1 rfl) ?_
  refine lv_iload_n E.ex E.by dX12_keep_16 rfl (lv_at hl 2 rfl) ?_
  refine lv_iconst (v := 1) E.ex E.by dX12_keep_17 (by decide) ?_
  refine lv_iload_n E.ex E.by dX12_keep_18 rfl (lv_at hl 3 rfl) ?_
  refine k_cSv (X := []) (w := (wM kc a (kI σ g 6 0) ++ [(r1, .inl (kc 0, 350, .inl g))])) (Z := []) (wnew := fun _ : Unit => (wM kc a (kI (kI σ g 6 0) g 7 1) ++ [(r1, .inl (kc 0, 350, .inl g))])) (As := [.ref (a 12), .ref r1, .int 250, .int (nI 1), .int 0]) (rest := []) E (List.append_nil _).symm G (c_X12_move_in l D kc (wM kc a (kI σ g 6 0) ++ [(r1, .inl (kc 0, 350, .inl g))]) 12 26 (a 12) r1 1 _ _ (by decide) rfl rfl) gX12_keep_X12_move rfl ⟨rfl, rfl⟩ hd_X12_move_v ⟨rfl, rfl⟩ rfl hl rfl rfl dX12_keep_19 ⟨rfl, rfl⟩ (fun _ => rfl) (fun _ _ H locs G => ?_)
  refine lv_aload_n E.ex E.by dX12_keep_22 rfl (lv_at hl 0 rfl) ?_
  refine k_get E G wi_X12_keep_X12 0 rfl rfl 19 rfl fl_X12_keep_X12_19 (v := .ref (a 13)) rfl dX12_keep_23 ?_
  refine lv_aload_n E.ex E.by dX12_keep_26 rfl (lv_at hl 1 rfl) ?_
  refine lv_iload_n E.ex E.by dX12_keep_27 rfl (lv_at hl 2 rfl) ?_
  refine lv_iconst (v := 2) E.ex E.by dX12_keep_28 (by decide) ?_
  refine lv_iload_n E.ex E.by dX12_keep_29 rfl (lv_at hl 3 rfl) ?_
  refine k_cSv (X := []) (w := (wM kc a (kI (kI σ g 6 0) g 7 1) ++ [(r1, .inl (kc 0, 350, .inl g))])) (Z := []) (wnew := fun _ : Unit => (wM kc a (kI (kI (kI σ g 6 0) g 7 1) g 8 2) ++ [(r1, .inl (kc 0, 350, .inl g))])) (As := [.ref (a 13), .ref r1, .int 250, .int (nI 2), .int 0]) (rest := []) E (List.append_nil _).symm G (c_X12_move_in l D kc (wM kc a (kI (kI σ g 6 0) g 7 1) ++ [(r1, .inl (kc 0, 350, .inl g))]) 13 26 (a 13) r1 2 _ _ (by decide) rfl rfl) gX12_keep_X12_move rfl ⟨rfl, rfl⟩ hd_X12_move_v ⟨rfl, rfl⟩ rfl hl rfl rfl dX12_keep_30 ⟨rfl, rfl⟩ (fun _ => rfl) (fun _ _ H locs G => ?_)
  refine lv_aload_n E.ex E.by dX12_keep_33 rfl (lv_at hl 0 rfl) ?_
  refine k_get E G wi_X12_keep_X12 0 rfl rfl 20 rfl fl_X12_keep_X12_20 (v := .ref (a 14)) rfl dX12_keep_34 ?_
  refine lv_aload_n E.ex E.by dX12_keep_37 rfl (lv_at hl 1 rfl) ?_
  refine lv_iload_n E.ex E.by dX12_keep_38 rfl (lv_at hl 2 rfl) ?_
  refine lv_iconst (v := 3) E.ex E.by dX12_keep_39 (by decide) ?_
  refine lv_iload_n E.ex E.by dX12_keep_40 rfl (lv_at hl 3 rfl) ?_
  refine k_cSv (X := []) (w := (wM kc a (kI (kI (kI σ g 6 0) g 7 1) g 8 2) ++ [(r1, .inl (kc 0, 350, .inl g))])) (Z := []) (wnew := fun _ : Unit => (wM kc a (kI (kI (kI (kI σ g 6 0) g 7 1) g 8 2) g 9 3) ++ [(r1, .inl (kc 0, 350, .inl g))])) (As := [.ref (a 14), .ref r1, .int 250, .int (nI 3), .int 0]) (rest := []) E (List.append_nil _).symm G (c_X12_move_in l D kc (wM kc a (kI (kI (kI σ g 6 0) g 7 1) g 8 2) ++ [(r1, .inl (kc 0, 350, .inl g))]) 14 26 (a 14) r1 3 _ _ (by decide) rfl rfl) gX12_keep_X12_move rfl ⟨rfl, rfl⟩ hd_X12_move_v ⟨rfl, rfl⟩ rfl hl rfl rfl dX12_keep_41 ⟨rfl, rfl⟩ (fun _ => rfl) (fun _ _ H locs G => ?_)
  refine lv_aload_n E.ex E.by dX12_keep_44 rfl (lv_at hl 0 rfl) ?_
  refine k_get E G wi_X12_keep_X12 0 rfl rfl 21 rfl fl_X12_keep_X12_21 (v := .ref (a 15)) rfl dX12_keep_45 ?_
  refine lv_aload_n E.ex E.by dX12_keep_48 rfl (lv_at hl 1 rfl) ?_
  refine lv_iload_n E.ex E.by dX12_keep_49 rfl (lv_at hl 2 rfl) ?_
  refine lv_iconst (v := 4) E.ex E.by dX12_keep_50 (by decide) ?_
  refine lv_iload_n E.ex E.by dX12_keep_51 rfl (lv_at hl 3 rfl) ?_
  refine k_cSv (X := []) (w := (wM kc a (kI (kI (kI (kI σ g 6 0) g 7 1) g 8 2) g 9 3) ++ [(r1, .inl (kc 0, 350, .inl g))])) (Z := []) (wnew := fun _ : Unit => (wM kc a (kI (kI (kI (kI (kI σ g 6 0) g 7 1) g 8 2) g 9 3) g 10 4) ++ [(r1, .inl (kc 0, 350, .inl g))])) (As := [.ref (a 15), .ref r1, .int 250, .int (nI 4), .int 0]) (rest := []) E (List.append_nil _).symm G (c_X12_move_in l D kc (wM kc a (kI (kI (kI (kI σ g 6 0) g 7 1) g 8 2) g 9 3) ++ [(r1, .inl (kc 0, 350, .inl g))]) 15 26 (a 15) r1 4 _ _ (by decide) rfl rfl) gX12_keep_X12_move rfl ⟨rfl, rfl⟩ hd_X12_move_v ⟨rfl, rfl⟩ rfl hl rfl rfl dX12_keep_52 ⟨rfl, rfl⟩ (fun _ => rfl) (fun _ _ H locs G => ?_)
  refine lv_aload_n E.ex E.by dX12_keep_55 rfl (lv_at hl 0 rfl) ?_
  refine k_get E G wi_X12_keep_X12 0 rfl rfl 22 rfl fl_X12_keep_X12_22 (v := .ref (a 16)) rfl dX12_keep_56 ?_
  refine lv_aload_n E.ex E.by dX12_keep_59 rfl (lv_at hl 1 rfl) ?_
  refine lv_iload_n E.ex E.by dX12_keep_60 rfl (lv_at hl 2 rfl) ?_
  refine lv_iconst (v := 5) E.ex E.by dX12_keep_61 (by decide) ?_
  refine lv_iload_n E.ex E.by dX12_keep_62 rfl (lv_at hl 3 rfl) ?_
  refine k_cSv (X := []) (w := (wM kc a (kI (kI (kI (kI (kI σ g 6 0) g 7 1) g 8 2) g 9 3) g 10 4) ++ [(r1, .inl (kc 0, 350, .inl g))])) (Z := []) (wnew := fun _ : Unit => (wM kc a (kI (kI (kI (kI (kI (kI σ g 6 0) g 7 1) g 8 2) g 9 3) g 10 4) g 11 5) ++ [(r1, .inl (kc 0, 350, .inl g))])) (As := [.ref (a 16), .ref r1, .int 250, .int (nI 5), .int 0]) (rest := []) E (List.append_nil _).symm G (c_X12_move_in l D kc (wM kc a (kI (kI (kI (kI (kI σ g 6 0) g 7 1) g 8 2) g 9 3) g 10 4) ++ [(r1, .inl (kc 0, 350, .inl g))]) 16 26 (a 16) r1 5 _ _ (by decide) rfl rfl) gX12_keep_X12_move rfl ⟨rfl, rfl⟩ hd_X12_move_v ⟨rfl, rfl⟩ rfl hl rfl rfl dX12_keep_63 ⟨rfl, rfl⟩ (fun _ => rfl) (fun _ _ H locs G => ?_)
  refine lv_aload_n E.ex E.by dX12_keep_66 rfl (lv_at hl 0 rfl) ?_
  refine k_get E G wi_X12_keep_X12 0 rfl rfl 23 rfl fl_X12_keep_X12_23 (v := .ref (a 17)) rfl dX12_keep_67 ?_
  refine lv_aload_n E.ex E.by dX12_keep_70 rfl (lv_at hl 1 rfl) ?_
  refine lv_iload_n E.ex E.by dX12_keep_71 rfl (lv_at hl 2 rfl) ?_
  refine lv_bipush (v := 6) E.ex E.by dX12_keep_72 (by decide) ?_
  refine lv_iload_n E.ex E.by dX12_keep_74 rfl (lv_at hl 3 rfl) ?_
  refine k_cSv (X := []) (w := (wM kc a (kI (kI (kI (kI (kI (kI σ g 6 0) g 7 1) g 8 2) g 9 3) g 10 4) g 11 5) ++ [(r1, .inl (kc 0, 350, .inl g))])) (Z := []) (wnew := fun _ : Unit => (wM kc a (kI (kI (kI (kI (kI (kI (kI σ g 6 0) g 7 1) g 8 2) g 9 3) g 10 4) g 11 5) g 12 6) ++ [(r1, .inl (kc 0, 350, .inl g))])) (As := [.ref (a 17), .ref r1, .int 250, .int (nI 6), .int 0]) (rest := []) E (List.append_nil _).symm G (c_X12_move_in l D kc (wM kc a (kI (kI (kI (kI (kI (kI σ g 6 0) g 7 1) g 8 2) g 9 3) g 10 4) g 11 5) ++ [(r1, .inl (kc 0, 350, .inl g))]) 17 26 (a 17) r1 6 _ _ (by decide) rfl rfl) gX12_keep_X12_move rfl ⟨rfl, rfl⟩ hd_X12_move_v ⟨rfl, rfl⟩ rfl hl rfl rfl dX12_keep_75 ⟨rfl, rfl⟩ (fun _ => rfl) (fun _ _ H locs G => ?_)
  exact k_retv (P := fun _ : Unit => True) (wof := fun _ : Unit => wM kc a (kpI σ g) ++ [(r1, .inl (kc 0, 350, .inl g))]) (u := ()) E G trivial (Nat.le_refl _) (Nat.le_refl _) dX12_keep_78
theorem wi_X12_tryFormula_X12 : ∀ w ∈ wsX120, w ∈ wsX12_tryFormula := fun w h => List.mem_cons_of_mem _ (List.mem_append_right _ (h))
theorem hd_X12_keep_v : yX12_keep.cls = RX12 ∧ yX12_keep.cls ≠ "java/lang/invoke/MethodHandle" ∧ yX12_keep.cls ≠ "java/lang/invoke/VarHandle" ∧ (parseMethodDescriptor yX12_keep.desc).map (fun d => d.parameters.length) = some 3 := by decide +kernel
theorem fl_X12_tryFormula_X12_16 : Cond.fieldLink RX12 238 (TX12 16).1 (TX12 16).2.1 (TX12 16).2.2.1 ∈ wsX12_tryFormula := List.mem_of_getElem? (i := 2) (by decide +kernel)
theorem lac_X12_tryFormula_int : Cond.arrayClass .int ∈ wsX12_tryFormula := List.mem_of_getElem? (i := 1) (by decide +kernel)
def wp_X12_tryFormula (σ : US) (Q : Int32 → US → Prop) : Prop := wp_X12_readFormula 6 (uI σ 3 250) (fun r u => Q r (kpI (uI u 3 (iI σ 3)) (kpO σ (fun _ => 0))))
set_option maxRecDepth 100000 in
set_option maxHeartbeats 4000000 in
theorem c_X12_tryFormula (l : Launch) (D : va_G) (kc : Nat → ClassId) (a : Nat → Nat) (σ : US) (Q : Int32 → US → Prop) (h : wp_X12_tryFormula σ Q) : kCi l D (tyL kc) yX12_tryFormula wsX12_tryFormula ({ frames := 49, cells := 1, slots := 350, locals := 1087 } : Room) [.ref (a 0)] (wM kc a σ) (fun u : US => (wM kc a u)) 1 350 (fun r u => Q r u) := by
  intro sz
  refine k_begin (cc := cX12_tryFormula) (maxL := 5) (ret := some .int) (by decide +kernel) rfl rfl (fun p e s m args below meth c hsz E G ls hl => ?_)
  subst hsz
  have hl : lv_has ls 5 [(0, .ref (a 0))] := hl
  refine lv_sipush (v := 350) E.ex E.by dX12_tryFormula_0 (by decide) ?_
  refine k_newai E G lac_X12_tryFormula_int 0 rfl (by decide) rfl rfl ⟨rfl, rfl⟩ dX12_tryFormula_3 (fun r1 H G => ?_)
  refine lv_astore_n (lv' := [(1, .ref r1), (0, .ref (a 0))]) E.ex E.by dX12_tryFormula_5 rfl hl (by decide) rfl (fun ls hl => ?_)
  refine lv_sipush (v := 250) E.ex E.by dX12_tryFormula_6 (by decide) ?_
  refine lv_istore_n (lv' := [(2, .int 250), (1, .ref r1), (0, .ref (a 0))]) E.ex E.by dX12_tryFormula_9 rfl hl (by decide) rfl (fun ls hl => ?_)
  refine lv_aload_n E.ex E.by dX12_tryFormula_10 rfl (lv_at hl 2 rfl) ?_
  refine lv_aload_n E.ex E.by dX12_tryFormula_11 rfl (lv_at hl 1 rfl) ?_
  refine lv_iload_n E.ex E.by dX12_tryFormula_12 rfl (lv_at hl 0 rfl) ?_
  refine lv_iconst (v := 1) E.ex E.by dX12_tryFormula_13 (by decide) ?_
  refine k_cVv (X := []) (w := (wM kc a σ ++ [(r1, .inl (kc 0, 350, .inl (fun _ => 0)))])) (Z := []) (wnew := fun _ : Unit => (wM kc a σ ++ [(r1, .inl (kc 0, 350, .inl (kpO σ (fun _ => 0))))])) (As := [.ref r1, .int 250, .int 1]) (rest := []) E (List.append_nil _).symm G (c_X12_keep_out l D kc a r1 σ (fun _ => 0)) gX12_tryFormula_X12_keep rfl ⟨rfl, rfl⟩ hd_X12_keep_v ⟨rfl, rfl⟩ 0 rfl rfl rfl hl rfl rfl dX12_tryFormula_14 ⟨rfl, rfl⟩ (fun _ => (List.append_nil _).symm) (fun _ _ H locs G => ?_)
  refine lv_aload_n E.ex E.by dX12_tryFormula_17 rfl (lv_at hl 2 rfl) ?_
  refine k_get E G wi_X12_tryFormula_X12 0 rfl rfl 16 rfl fl_X12_tryFormula_X12_16 (v := .int (iI σ 3)) rfl dX12_tryFormula_18 ?_
  refine lv_topi (fun x ex => ?_)
  refine lv_istore_n (lv' := [(3, .int x), (2, .int 250), (1, .ref r1), (0, .ref (a 0))]) E.ex E.by dX12_tryFormula_21 rfl hl (by decide) rfl (fun ls hl => ?_)
  refine lv_aload_n E.ex E.by dX12_tryFormula_22 rfl (lv_at hl 3 rfl) ?_
  refine lv_iload_n E.ex E.by dX12_tryFormula_23 rfl (lv_at hl 1 rfl) ?_
  refine k_putX E G wi_X12_tryFormula_X12 tyX12_ok nmX12 0 rfl rfl 16 rfl fl_X12_tryFormula_X12_16 rfl rfl rfl rfl (wM kc a (uI σ 3 250) ++ [(r1, .inl (kc 0, 350, .inl (kpO σ (fun _ => 0))))]) rfl dX12_tryFormula_24 (fun H locs G => ?_)
  refine lv_aload_n E.ex E.by dX12_tryFormula_27 rfl (lv_at hl 3 rfl) ?_
  refine k_cVi (X := []) (w := wM kc a (uI σ 3 250)) (Z := [(r1, .inl (kc 0, 350, .inl (kpO σ (fun _ => 0))))]) (wnew := fun u : US => (wM kc a u ++ [(r1, .inl (kc 0, 350, .inl (kpO σ (fun _ => 0))))])) (As := []) (rest := []) E rfl G (c_X12_readFormula l D kc _ 6 _ _ h) gX12_tryFormula_X12_readFormula rfl ⟨rfl, rfl⟩ hd_X12_readFormula_v ⟨rfl, rfl⟩ 0 (gM_0 _ _ _) rfl rfl hl rfl rfl dX12_tryFormula_28 ⟨rfl, rfl⟩ (fun _ => rfl) (fun r u hq H locs G => ?_)
  refine lv_istore (lv' := [(4, .int r), (3, .int x), (2, .int 250), (1, .ref r1), (0, .ref (a 0))]) E.ex E.by dX12_tryFormula_31 hl (by decide) rfl (fun ls hl => ?_)
  refine lv_aload_n E.ex E.by dX12_tryFormula_33 rfl (lv_at hl 4 rfl) ?_
  refine lv_iload_n E.ex E.by dX12_tryFormula_34 rfl (lv_at hl 1 rfl) ?_
  refine k_putX E G wi_X12_tryFormula_X12 tyX12_ok nmX12 0 rfl rfl 16 rfl fl_X12_tryFormula_X12_16 rfl rfl rfl rfl (wM kc a (uI u 3 x) ++ [(r1, .inl (kc 0, 350, .inl (kpO σ (fun _ => 0))))]) rfl dX12_tryFormula_35 (fun H locs G => ?_)
  refine lv_aload_n E.ex E.by dX12_tryFormula_38 rfl (lv_at hl 4 rfl) ?_
  refine lv_aload_n E.ex E.by dX12_tryFormula_39 rfl (lv_at hl 3 rfl) ?_
  refine lv_iload_n E.ex E.by dX12_tryFormula_40 rfl (lv_at hl 2 rfl) ?_
  refine lv_iconst (v := 0) E.ex E.by dX12_tryFormula_41 (by decide) ?_
  refine k_cVv (X := []) (w := (wM kc a (uI u 3 x) ++ [(r1, .inl (kc 0, 350, .inl (kpO σ (fun _ => 0))))])) (Z := []) (wnew := fun _ : Unit => (wM kc a (kpI (uI u 3 x) (kpO σ (fun _ => 0))) ++ [(r1, .inl (kc 0, 350, .inl (kpO σ (fun _ => 0))))])) (As := [.ref r1, .int 250, .int 0]) (rest := []) E (List.append_nil _).symm G (c_X12_keep_in l D kc a r1 (uI u 3 x) (kpO σ (fun _ => 0))) gX12_tryFormula_X12_keep rfl ⟨rfl, rfl⟩ hd_X12_keep_v ⟨rfl, rfl⟩ 0 rfl rfl rfl hl rfl rfl dX12_tryFormula_42 ⟨rfl, rfl⟩ (fun _ => (List.append_nil _).symm) (fun _ _ H locs G => ?_)
  refine lv_iload E.ex E.by dX12_tryFormula_45 (lv_at hl 0 rfl) ?_
  have G := G.fst
  subst ex
  exact k_ret (wof := fun u : US => wM kc a u) (u := kpI (uI u 3 (iI σ 3)) (kpO σ (fun _ => 0))) E G rfl hq (Nat.le_of_ble_eq_true rfl) (Nat.le_of_ble_eq_true rfl) dX12_tryFormula_47
theorem wi_X12_addFormula_X12 : ∀ w ∈ wsX120, w ∈ wsX12_addFormula := fun w h => List.mem_cons_of_mem _ (List.mem_append_right _ (h))
theorem fl_X12_addFormula_X12_31 : Cond.fieldLink RX12 229 (TX12 31).1 (TX12 31).2.1 (TX12 31).2.2.1 ∈ wsX12_addFormula := List.mem_of_getElem? (i := 1) (by decide +kernel)
theorem fl_X12_addFormula_X12_32 : Cond.fieldLink RX12 276 (TX12 32).1 (TX12 32).2.1 (TX12 32).2.2.1 ∈ wsX12_addFormula := List.mem_of_getElem? (i := 2) (by decide +kernel)
theorem fl_X12_addFormula_X12_33 : Cond.fieldLink RX12 235 (TX12 33).1 (TX12 33).2.1 (TX12 33).2.2.1 ∈ wsX12_addFormula := List.mem_of_getElem? (i := 3) (by decide +kernel)
theorem fl_X12_addFormula_X12_16 : Cond.fieldLink RX12 238 (TX12 16).1 (TX12 16).2.1 (TX12 16).2.2.1 ∈ wsX12_addFormula := List.mem_of_getElem? (i := 4) (by decide +kernel)
theorem fl_X12_addFormula_X12_30 : Cond.fieldLink RX12 226 (TX12 30).1 (TX12 30).2.1 (TX12 30).2.2.1 ∈ wsX12_addFormula := List.mem_of_getElem? (i := 5) (by decide +kernel)
theorem fl_X12_addFormula_X12_24 : Cond.fieldLink RX12 282 (TX12 24).1 (TX12 24).2.1 (TX12 24).2.2.1 ∈ wsX12_addFormula := List.mem_of_getElem? (i := 6) (by decide +kernel)
theorem fl_X12_addFormula_X12_29 : Cond.fieldLink RX12 74 (TX12 29).1 (TX12 29).2.1 (TX12 29).2.2.1 ∈ wsX12_addFormula := List.mem_of_getElem? (i := 7) (by decide +kernel)
theorem fl_X12_addFormula_X12_27 : Cond.fieldLink RX12 68 (TX12 27).1 (TX12 27).2.1 (TX12 27).2.2.1 ∈ wsX12_addFormula := List.mem_of_getElem? (i := 8) (by decide +kernel)
theorem fl_X12_addFormula_X12_28 : Cond.fieldLink RX12 71 (TX12 28).1 (TX12 28).2.1 (TX12 28).2.2.1 ∈ wsX12_addFormula := List.mem_of_getElem? (i := 13) (by decide +kernel)
theorem fl_X12_addFormula_X12_25 : Cond.fieldLink RX12 62 (TX12 25).1 (TX12 25).2.1 (TX12 25).2.2.1 ∈ wsX12_addFormula := List.mem_of_getElem? (i := 14) (by decide +kernel)
theorem la_X12_addFormula_94 : Cond.methodLink RX12 94 arraycopyName ∈ wsX12_addFormula := List.mem_of_getElem? (i := 9) (by decide +kernel)
theorem lan_X12_addFormula : Cond.native arraycopyName ∈ wsX12_addFormula := List.mem_of_getElem? (i := 10) (by decide +kernel)
theorem las_X12_addFormula : Cond.static arraycopyName ∈ wsX12_addFormula := List.mem_of_getElem? (i := 11) (by decide +kernel)
theorem lai_X12_addFormula : Cond.initialized "java/lang/System" ∈ wsX12_addFormula := List.mem_of_getElem? (i := 12) (by decide +kernel)
theorem hd_X12_tryFormula_v : yX12_tryFormula.cls = RX12 ∧ yX12_tryFormula.cls ≠ "java/lang/invoke/MethodHandle" ∧ yX12_tryFormula.cls ≠ "java/lang/invoke/VarHandle" ∧ (parseMethodDescriptor yX12_tryFormula.desc).map (fun d => d.parameters.length) = some 0 := by decide +kernel
def wp_X12_addFormula_J70 (v3j70 : Int32) (v2j70 : Int32) (v1j70 : Int32) (σ'j70 : US) (s0j70 : Int32) (Q : Int32 → US → Prop) : Prop := (kbo s0j70 ∧ fits .boolean (.int s0j70) = true) ∧ (∀ z8 : US, z8 = uI σ'j70 8 s0j70 → (∀ z9 : US, z9 = uI z8 5 0 → ((iI z9 8) = 0 → (¬ (iI z9 4) = 6 → (¬ (0 : Int32) < 0) ∧ (¬ (50 * (iI z9 4)) < 0) ∧ (¬ v2j70 < 0) ∧ (0 : Int32).toNatClampNeg + (v2j70).toNatClampNeg ≤ 50 ∧ (50 * (iI z9 4)).toNatClampNeg + (v2j70).toNatClampNeg ≤ 300 ∧ (∀ z10 : US, z10 = sA z9 15 (va_cpy (aA z9 17) (aA z9 15) (0 : Int32).toNatClampNeg (50 * (iI z9 4)).toNatClampNeg (v2j70).toNatClampNeg) → vp_in (iI z10 4) 6 ∧ (∀ z11 : US, z11 = uA z10 16 (iI z10 4).toNatClampNeg v2j70 → vp_in (iI z11 4) 6 ∧ (∀ z12 : US, z12 = uA z11 13 (iI z11 4).toNatClampNeg v3j70 → (∀ z13 : US, z13 = uI z12 4 ((iI z12 4) + 1) → Q ((iI z13 4) - 1) z13))))) ∧ ((iI z9 4) = 6 → (∀ z14 : US, z14 = uI z9 3 v1j70 → Q (-3) z14))) ∧ (¬ (iI z9 8) = 0 → (∀ z16 : US, z16 = uI z9 3 v1j70 → Q ((-100) - (iI z16 6)) z16))))
def wp_X12_addFormula_J65 (v3j65 : Int32) (v2j65 : Int32) (v1j65 : Int32) (σ'j65 : US) (Q : Int32 → US → Prop) : Prop := wp_X12_addFormula_J70 v3j65 v2j65 v1j65 σ'j65 1 Q
def wp_X12_addFormula_J45 (v2j45 : Int32) (v1j45 : Int32) (σ'j45 : US) (s0j45 : Int32) (Q : Int32 → US → Prop) : Prop := (¬ (iI σ'j45 8) = 0 → wp_X12_addFormula_J65 s0j45 v2j45 v1j45 σ'j45 Q) ∧ ((iI σ'j45 8) = 0 → ((iI σ'j45 5) ≤ (iI σ'j45 6) → wp_X12_addFormula_J70 s0j45 v2j45 v1j45 σ'j45 0 Q) ∧ (¬ (iI σ'j45 5) ≤ (iI σ'j45 6) → wp_X12_addFormula_J65 s0j45 v2j45 v1j45 σ'j45 Q))
def wp_X12_addFormula (σ : US) (Q : Int32 → US → Prop) : Prop := (∀ z1 : US, z1 = uI σ 6 0 → (∀ z2 : US, z2 = uI z1 7 0 → (∀ z3 : US, z3 = uI z2 8 0 → ∀ x4 : Int32, x4 = iI z3 3 → ∀ x5 : Int32, x5 = iI z3 5 → (6 ≤ (iI z3 4) → wp_X12_tryFormula z3 (fun (r6 : Int32) (u7 : US) => wp_X12_addFormula_J45 x5 x4 u7 r6 Q)) ∧ (¬ 6 ≤ (iI z3 4) → wp_X12_readFormula 6 z3 (fun (r20 : Int32) (u21 : US) => wp_X12_addFormula_J45 x5 x4 u21 r20 Q)))))
set_option maxRecDepth 100000 in
set_option maxHeartbeats 4000000 in
theorem c_X12_addFormula (l : Launch) (D : va_G) (kc : Nat → ClassId) (a : Nat → Nat)  (σ : US) (Q : Int32 → US → Prop) (h : wp_X12_addFormula σ Q) : kCi l D (tyL kc) yX12_addFormula wsX12_addFormula ({ frames := 50, cells := 1, slots := 350, locals := 1111 } : Room) [.ref (a 0)] (wM kc a σ) (fun u : US => (wM kc a u)) 1 350 (fun r u => Q r u) := by
  intro sz
  refine k_begin (cc := cX12_addFormula) (maxL := 4) (ret := (some .int)) (by decide +kernel) rfl rfl (fun p e s m args below meth c hsz E G ls hl => ?_)
  subst hsz
  have hl : lv_has ls 4 [(0, .ref (a 0))] := hl
  have K70 : ∀ (v3j70 : Int32) (v2j70 : Int32) (v1j70 : Int32) (σ'j70 : US) (s0j70 : Int32) (H : Heap) (locs : List Loc) (ls : Array Slot), kG D (va_A (wM kc a σ) s.heap.size) s (wM kc a σ'j70) H locs → lv_has ls 4 [(3, .int v3j70), (2, .int v2j70), (1, .int v1j70), (0, .ref (a 0))] → wp_X12_addFormula_J70 v3j70 v2j70 v1j70 σ'j70 s0j70 Q → W p l e ({ frames := 50, cells := 1, slots := 350, locals := 1111 } : Room) s m args below meth c H locs 1 350 (MQ below (va_Qi (fun r u => Q r u) (kB D (wM kc a σ) s.heap.size (fun u : US => (wM kc a u))) (va_A (wM kc a σ) s.heap.size)) args s 1 350 (va_A (wM kc a σ) s.heap.size)) (F0 m 70 ls [.int s0j70, .ref (a 0)]) := by
    intro v3j70 v2j70 v1j70 σ'j70 s0j70 H locs ls G hl h
    refine k_put (fun z => (wM kc a z)) E G wi_X12_addFormula_X12 tyX12_ok nmX12 0 (gM_0 _ _ _) rfl 33 rfl fl_X12_addFormula_X12_33 rfl h.1.1 h.1.2 rfl (uI σ'j70 8 s0j70) (pM_0_33 _ _ _ _) dX12_addFormula_70 (fun z13 ez13 H locs G => ?_)
    have h := h.2
    have h := h z13 ez13
    refine lv_aload_n E.ex E.by dX12_addFormula_73 rfl (lv_at hl 3 rfl) ?_
    refine lv_iconst (v := 0) E.ex E.by dX12_addFormula_74 (by decide) ?_
    refine k_put (fun z => (wM kc a z)) E G wi_X12_addFormula_X12 tyX12_ok nmX12 0 (gM_0 _ _ _) rfl 30 rfl fl_X12_addFormula_X12_30 rfl rfl rfl rfl (uI z13 5 0) (pM_0_30 _ _ _ _) dX12_addFormula_75 (fun z14 ez14 H locs G => ?_)
    have h := h z14 ez14
    refine lv_aload_n E.ex E.by dX12_addFormula_78 rfl (lv_at hl 3 rfl) ?_
    refine k_get E G wi_X12_addFormula_X12 0 (gM_0 _ _ _) rfl 33 rfl fl_X12_addFormula_X12_33 (v := .int (iI z14 8)) rfl dX12_addFormula_79 ?_
    refine lv_if_eq (tgt := 98) E.ex E.by dX12_addFormula_82 (by decide) (fun hc22 => ?_) (fun hc22 => ?_)
    · have h := h.1 hc22
      refine lv_aload_n E.ex E.by dX12_addFormula_98 rfl (lv_at hl 3 rfl) ?_
      refine k_get E G wi_X12_addFormula_X12 0 (gM_0 _ _ _) rfl 24 rfl fl_X12_addFormula_X12_24 (v := .int (iI z14 4)) rfl dX12_addFormula_99 ?_
      refine lv_bipush (v := 6) E.ex E.by dX12_addFormula_102 (by decide) ?_
      refine lv_icmp_ne (tgt := 115) E.ex E.by dX12_addFormula_104 (by decide) (fun hc20 => ?_) (fun hc20 => ?_)
      · have h := h.1 hc20
        refine lv_aload_n E.ex E.by dX12_addFormula_115 rfl (lv_at hl 3 rfl) ?_
        refine k_get E G wi_X12_addFormula_X12 0 (gM_0 _ _ _) rfl 29 rfl fl_X12_addFormula_X12_29 (v := .ref (a 22)) rfl dX12_addFormula_116 ?_
        refine lv_iconst (v := 0) E.ex E.by dX12_addFormula_119 (by decide) ?_
        refine lv_aload_n E.ex E.by dX12_addFormula_120 rfl (lv_at hl 3 rfl) ?_
        refine k_get E G wi_X12_addFormula_X12 0 (gM_0 _ _ _) rfl 27 rfl fl_X12_addFormula_X12_27 (v := .ref (a 20)) rfl dX12_addFormula_121 ?_
        refine lv_bipush (v := 50) E.ex E.by dX12_addFormula_124 (by decide) ?_
        refine lv_aload_n E.ex E.by dX12_addFormula_126 rfl (lv_at hl 3 rfl) ?_
        refine k_get E G wi_X12_addFormula_X12 0 (gM_0 _ _ _) rfl 24 rfl fl_X12_addFormula_X12_24 (v := .int (iI z14 4)) rfl dX12_addFormula_127 ?_
        refine lv_imul E.ex E.by dX12_addFormula_130 ?_
        refine lv_iload_n E.ex E.by dX12_addFormula_131 rfl (lv_at hl 1 rfl) ?_
        refine k_copyi (fun z => (wM kc a z)) E G la_X12_addFormula_94 lan_X12_addFormula las_X12_addFormula lai_X12_addFormula 22 20 (gM_22 _ _ _) (gM_20 _ _ _) 0 ⟨rfl, rfl⟩ hl h.1 h.2.1 h.2.2.1 h.2.2.2.1 h.2.2.2.2.1 rfl ⟨rfl, rfl⟩ dX12_addFormula_132 (sA z14 15 (va_cpy (aA z14 17) (aA z14 15) (0 : Int32).toNatClampNeg (50 * (iI z14 4)).toNatClampNeg (v2j70).toNatClampNeg)) (sM_20 _ _ _ _) (fun z15 ez15 H locs G => ?_)
        have h := h.2.2.2.2.2 z15 ez15
        refine lv_aload_n E.ex E.by dX12_addFormula_135 rfl (lv_at hl 3 rfl) ?_
        refine k_get E G wi_X12_addFormula_X12 0 (gM_0 _ _ _) rfl 28 rfl fl_X12_addFormula_X12_28 (v := .ref (a 21)) rfl dX12_addFormula_136 ?_
        refine lv_aload_n E.ex E.by dX12_addFormula_139 rfl (lv_at hl 3 rfl) ?_
        refine k_get E G wi_X12_addFormula_X12 0 (gM_0 _ _ _) rfl 24 rfl fl_X12_addFormula_X12_24 (v := .int (iI z15 4)) rfl dX12_addFormula_140 ?_
        refine lv_iload_n E.ex E.by dX12_addFormula_143 rfl (lv_at hl 1 rfl) ?_
        refine k_iast (fun z => (wM kc a z)) E G 21 (gM_21 _ _ _) 0 rfl h.1 (uA z15 16 (iI z15 4).toNatClampNeg v2j70) (sM_21 _ _ _ _) dX12_addFormula_144 (fun z16 ez16 H locs G => ?_)
        have h := h.2 z16 ez16
        refine lv_aload_n E.ex E.by dX12_addFormula_145 rfl (lv_at hl 3 rfl) ?_
        refine k_get E G wi_X12_addFormula_X12 0 (gM_0 _ _ _) rfl 25 rfl fl_X12_addFormula_X12_25 (v := .ref (a 18)) rfl dX12_addFormula_146 ?_
        refine lv_aload_n E.ex E.by dX12_addFormula_149 rfl (lv_at hl 3 rfl) ?_
        refine k_get E G wi_X12_addFormula_X12 0 (gM_0 _ _ _) rfl 24 rfl fl_X12_addFormula_X12_24 (v := .int (iI z16 4)) rfl dX12_addFormula_150 ?_
        refine lv_iload_n E.ex E.by dX12_addFormula_153 rfl (lv_at hl 0 rfl) ?_
        refine k_iast (fun z => (wM kc a z)) E G 18 (gM_18 _ _ _) 0 rfl h.1 (uA z16 13 (iI z16 4).toNatClampNeg v3j70) (sM_18 _ _ _ _) dX12_addFormula_154 (fun z17 ez17 H locs G => ?_)
        have h := h.2 z17 ez17
        refine lv_aload_n E.ex E.by dX12_addFormula_155 rfl (lv_at hl 3 rfl) ?_
        refine lv_dup E.ex E.by dX12_addFormula_156 rfl ?_
        refine k_get E G wi_X12_addFormula_X12 0 (gM_0 _ _ _) rfl 24 rfl fl_X12_addFormula_X12_24 (v := .int (iI z17 4)) rfl dX12_addFormula_157 ?_
        refine lv_iconst (v := 1) E.ex E.by dX12_addFormula_160 (by decide) ?_
        refine lv_iadd E.ex E.by dX12_addFormula_161 ?_
        refine k_put (fun z => (wM kc a z)) E G wi_X12_addFormula_X12 tyX12_ok nmX12 0 (gM_0 _ _ _) rfl 24 rfl fl_X12_addFormula_X12_24 rfl rfl rfl rfl (uI z17 4 ((iI z17 4) + 1)) (pM_0_24 _ _ _ _) dX12_addFormula_162 (fun z18 ez18 H locs G => ?_)
        have h := h z18 ez18
        refine lv_aload_n E.ex E.by dX12_addFormula_165 rfl (lv_at hl 3 rfl) ?_
        refine k_get E G wi_X12_addFormula_X12 0 (gM_0 _ _ _) rfl 24 rfl fl_X12_addFormula_X12_24 (v := .int (iI z18 4)) rfl dX12_addFormula_166 ?_
        refine lv_iconst (v := 1) E.ex E.by dX12_addFormula_169 (by decide) ?_
        refine lv_isub E.ex E.by dX12_addFormula_170 ?_
        exact k_ret (wof := (fun u : US => (wM kc a u))) (u := z18) E G rfl h (Nat.le_of_ble_eq_true rfl) (Nat.le_of_ble_eq_true rfl) dX12_addFormula_171
      · have h := h.2 hc20
        refine lv_aload_n E.ex E.by dX12_addFormula_107 rfl (lv_at hl 3 rfl) ?_
        refine lv_iload_n E.ex E.by dX12_addFormula_108 rfl (lv_at hl 2 rfl) ?_
        refine k_put (fun z => (wM kc a z)) E G wi_X12_addFormula_X12 tyX12_ok nmX12 0 (gM_0 _ _ _) rfl 16 rfl fl_X12_addFormula_X12_16 rfl rfl rfl rfl (uI z14 3 v1j70) (pM_0_16 _ _ _ _) dX12_addFormula_109 (fun z19 ez19 H locs G => ?_)
        have h := h z19 ez19
        refine lv_bipush (v := (-3)) E.ex E.by dX12_addFormula_112 (by decide) ?_
        exact k_ret (wof := (fun u : US => (wM kc a u))) (u := z19) E G rfl h (Nat.le_of_ble_eq_true rfl) (Nat.le_of_ble_eq_true rfl) dX12_addFormula_114
    · have h := h.2 hc22
      refine lv_aload_n E.ex E.by dX12_addFormula_85 rfl (lv_at hl 3 rfl) ?_
      refine lv_iload_n E.ex E.by dX12_addFormula_86 rfl (lv_at hl 2 rfl) ?_
      refine k_put (fun z => (wM kc a z)) E G wi_X12_addFormula_X12 tyX12_ok nmX12 0 (gM_0 _ _ _) rfl 16 rfl fl_X12_addFormula_X12_16 rfl rfl rfl rfl (uI z14 3 v1j70) (pM_0_16 _ _ _ _) dX12_addFormula_87 (fun z21 ez21 H locs G => ?_)
      have h := h z21 ez21
      refine lv_bipush (v := (-100)) E.ex E.by dX12_addFormula_90 (by decide) ?_
      refine lv_aload_n E.ex E.by dX12_addFormula_92 rfl (lv_at hl 3 rfl) ?_
      refine k_get E G wi_X12_addFormula_X12 0 (gM_0 _ _ _) rfl 31 rfl fl_X12_addFormula_X12_31 (v := .int (iI z21 6)) rfl dX12_addFormula_93 ?_
      refine lv_isub E.ex E.by dX12_addFormula_96 ?_
      exact k_ret (wof := (fun u : US => (wM kc a u))) (u := z21) E G rfl h (Nat.le_of_ble_eq_true rfl) (Nat.le_of_ble_eq_true rfl) dX12_addFormula_97
  have K65 : ∀ (v3j65 : Int32) (v2j65 : Int32) (v1j65 : Int32) (σ'j65 : US) (H : Heap) (locs : List Loc) (ls : Array Slot), kG D (va_A (wM kc a σ) s.heap.size) s (wM kc a σ'j65) H locs → lv_has ls 4 [(3, .int v3j65), (2, .int v2j65), (1, .int v1j65), (0, .ref (a 0))] → wp_X12_addFormula_J65 v3j65 v2j65 v1j65 σ'j65 Q → W p l e ({ frames := 50, cells := 1, slots := 350, locals := 1111 } : Room) s m args below meth c H locs 1 350 (MQ below (va_Qi (fun r u => Q r u) (kB D (wM kc a σ) s.heap.size (fun u : US => (wM kc a u))) (va_A (wM kc a σ) s.heap.size)) args s 1 350 (va_A (wM kc a σ) s.heap.size)) (F0 m 65 ls [.ref (a 0)]) := by
    intro v3j65 v2j65 v1j65 σ'j65 H locs ls G hl h
    refine lv_iconst (v := 1) E.ex E.by dX12_addFormula_65 (by decide) ?_
    refine lv_goto (tgt := 70) E.ex E.by dX12_addFormula_66 (by decide) ?_
    exact K70 _ _ _ _ _ _ _ _ G (lv_sub hl [0, 1, 2, 3] rfl) h
  have K45 : ∀ (v2j45 : Int32) (v1j45 : Int32) (σ'j45 : US) (s0j45 : Int32) (H : Heap) (locs : List Loc) (ls : Array Slot), kG D (va_A (wM kc a σ) s.heap.size) s (wM kc a σ'j45) H locs → lv_has ls 4 [(2, .int v2j45), (1, .int v1j45), (0, .ref (a 0))] → wp_X12_addFormula_J45 v2j45 v1j45 σ'j45 s0j45 Q → W p l e ({ frames := 50, cells := 1, slots := 350, locals := 1111 } : Room) s m args below meth c H locs 1 350 (MQ below (va_Qi (fun r u => Q r u) (kB D (wM kc a σ) s.heap.size (fun u : US => (wM kc a u))) (va_A (wM kc a σ) s.heap.size)) args s 1 350 (va_A (wM kc a σ) s.heap.size)) (F0 m 45 ls [.int s0j45]) := by
    intro v2j45 v1j45 σ'j45 s0j45 H locs ls G hl h
    refine lv_istore_n (lv' := [(3, .int s0j45), (2, .int v2j45), (1, .int v1j45), (0, .ref (a 0))]) E.ex E.by dX12_addFormula_45 rfl hl (by decide) rfl (fun ls hl => ?_)
    refine lv_aload_n E.ex E.by dX12_addFormula_46 rfl (lv_at hl 3 rfl) ?_
    refine lv_aload_n E.ex E.by dX12_addFormula_47 rfl (lv_at hl 3 rfl) ?_
    refine k_get E G wi_X12_addFormula_X12 0 (gM_0 _ _ _) rfl 33 rfl fl_X12_addFormula_X12_33 (v := .int (iI σ'j45 8)) rfl dX12_addFormula_48 ?_
    refine lv_if_ne (tgt := 65) E.ex E.by dX12_addFormula_51 (by decide) (fun hc12 => ?_) (fun hc12 => ?_)
    · have h := h.1 hc12
      exact K65 _ _ _ _ _ _ _ G (lv_sub hl [0, 1, 2, 3] rfl) h
    · have h := h.2 hc12
      refine lv_aload_n E.ex E.by dX12_addFormula_54 rfl (lv_at hl 3 rfl) ?_
      refine k_get E G wi_X12_addFormula_X12 0 (gM_0 _ _ _) rfl 31 rfl fl_X12_addFormula_X12_31 (v := .int (iI σ'j45 6)) rfl dX12_addFormula_55 ?_
      refine lv_aload_n E.ex E.by dX12_addFormula_58 rfl (lv_at hl 3 rfl) ?_
      refine k_get E G wi_X12_addFormula_X12 0 (gM_0 _ _ _) rfl 30 rfl fl_X12_addFormula_X12_30 (v := .int (iI σ'j45 5)) rfl dX12_addFormula_59 ?_
      refine lv_icmp_ge (tgt := 69) E.ex E.by dX12_addFormula_62 (by decide) (fun hc11 => ?_) (fun hc11 => ?_)
      · have h := h.1 hc11
        refine lv_iconst (v := 0) E.ex E.by dX12_addFormula_69 (by decide) ?_
        exact K70 _ _ _ _ _ _ _ _ G (lv_sub hl [0, 1, 2, 3] rfl) h
      · have h := h.2 hc11
        exact K65 _ _ _ _ _ _ _ G (lv_sub hl [0, 1, 2, 3] rfl) h
  refine lv_aload_n E.ex E.by dX12_addFormula_0 rfl (lv_at hl 0 rfl) ?_
  refine lv_iconst (v := 0) E.ex E.by dX12_addFormula_1 (by decide) ?_
  refine k_put (fun z => (wM kc a z)) E G wi_X12_addFormula_X12 tyX12_ok nmX12 0 (gM_0 _ _ _) rfl 31 rfl fl_X12_addFormula_X12_31 rfl rfl rfl rfl (uI σ 6 0) (pM_0_31 _ _ _ _) dX12_addFormula_2 (fun z1 ez1 H locs G => ?_)
  have h := h z1 ez1
  refine lv_aload_n E.ex E.by dX12_addFormula_5 rfl (lv_at hl 0 rfl) ?_
  refine lv_iconst (v := 0) E.ex E.by dX12_addFormula_6 (by decide) ?_
  refine k_put (fun z => (wM kc a z)) E G wi_X12_addFormula_X12 tyX12_ok nmX12 0 (gM_0 _ _ _) rfl 32 rfl fl_X12_addFormula_X12_32 rfl rfl rfl rfl (uI z1 7 0) (pM_0_32 _ _ _ _) dX12_addFormula_7 (fun z2 ez2 H locs G => ?_)
  have h := h z2 ez2
  refine lv_aload_n E.ex E.by dX12_addFormula_10 rfl (lv_at hl 0 rfl) ?_
  refine lv_iconst (v := 0) E.ex E.by dX12_addFormula_11 (by decide) ?_
  refine k_put (fun z => (wM kc a z)) E G wi_X12_addFormula_X12 tyX12_ok nmX12 0 (gM_0 _ _ _) rfl 33 rfl fl_X12_addFormula_X12_33 rfl rfl rfl rfl (uI z2 8 0) (pM_0_33 _ _ _ _) dX12_addFormula_12 (fun z3 ez3 H locs G => ?_)
  have h := h z3 ez3
  refine lv_aload_n E.ex E.by dX12_addFormula_15 rfl (lv_at hl 0 rfl) ?_
  refine k_get E G wi_X12_addFormula_X12 0 (gM_0 _ _ _) rfl 16 rfl fl_X12_addFormula_X12_16 (v := .int (iI z3 3)) rfl dX12_addFormula_16 ?_
  refine lv_topi (fun x4 ex4 => ?_)
  have h := h x4 ex4
  refine lv_istore_n (lv' := [(1, .int x4), (0, .ref (a 0))]) E.ex E.by dX12_addFormula_19 rfl hl (by decide) rfl (fun ls hl => ?_)
  refine lv_aload_n E.ex E.by dX12_addFormula_20 rfl (lv_at hl 1 rfl) ?_
  refine k_get E G wi_X12_addFormula_X12 0 (gM_0 _ _ _) rfl 30 rfl fl_X12_addFormula_X12_30 (v := .int (iI z3 5)) rfl dX12_addFormula_21 ?_
  refine lv_topi (fun x5 ex5 => ?_)
  have h := h x5 ex5
  refine lv_istore_n (lv' := [(2, .int x5), (1, .int x4), (0, .ref (a 0))]) E.ex E.by dX12_addFormula_24 rfl hl (by decide) rfl (fun ls hl => ?_)
  refine lv_aload_n E.ex E.by dX12_addFormula_25 rfl (lv_at hl 2 rfl) ?_
  refine k_get E G wi_X12_addFormula_X12 0 (gM_0 _ _ _) rfl 24 rfl fl_X12_addFormula_X12_24 (v := .int (iI z3 4)) rfl dX12_addFormula_26 ?_
  refine lv_bipush (v := 6) E.ex E.by dX12_addFormula_29 (by decide) ?_
  refine lv_icmp_ge (tgt := 41) E.ex E.by dX12_addFormula_31 (by decide) (fun hc10 => ?_) (fun hc10 => ?_)
  · have h := h.1 hc10
    refine lv_aload_n E.ex E.by dX12_addFormula_41 rfl (lv_at hl 2 rfl) ?_
    refine k_cVi (X := []) (w := (wM kc a z3)) (Z := []) (wnew := (fun u : US => (wM kc a u))) (As := []) (rest := []) E (List.append_nil _).symm G (c_X12_tryFormula l D kc _ _ _ h) gX12_addFormula_X12_tryFormula rfl ⟨rfl, rfl⟩ hd_X12_tryFormula_v ⟨rfl, rfl⟩ 0 (gM_0 _ _ _) rfl rfl hl rfl rfl dX12_addFormula_42 ⟨rfl, rfl⟩ (fun _ => (List.append_nil _).symm) (fun r6 u7 hq H locs G => ?_)
    have h := hq
    exact K45 _ _ _ _ _ _ _ G (lv_sub hl [0, 1, 2] rfl) h
  · have h := h.2 hc10
    refine lv_aload_n E.ex E.by dX12_addFormula_34 rfl (lv_at hl 2 rfl) ?_
    refine k_cVi (X := []) (w := (wM kc a z3)) (Z := []) (wnew := (fun u : US => (wM kc a u))) (As := []) (rest := []) E (List.append_nil _).symm G (c_X12_readFormula l D kc _ 6 _ _ h) gX12_addFormula_X12_readFormula rfl ⟨rfl, rfl⟩ hd_X12_readFormula_v ⟨rfl, rfl⟩ 0 (gM_0 _ _ _) rfl rfl hl rfl rfl dX12_addFormula_35 ⟨rfl, rfl⟩ (fun _ => (List.append_nil _).symm) (fun r8 u9 hq H locs G => ?_)
    have h := hq
    refine lv_goto (tgt := 45) E.ex E.by dX12_addFormula_38 (by decide) ?_
    refine W.widen (k := 1) (n := 350) (Nat.zero_le _) (Nat.zero_le _) ?_
    exact K45 _ _ _ _ _ _ _ G (lv_sub hl [0, 1, 2] rfl) h
