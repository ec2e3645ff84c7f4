def zeroU : US := (fun _ => 0, fun _ => 0, fun _ _ => 0, fun _ _ => 0)
theorem lmo_X2_init : Cond.methodLink RX2 3 objectInit ∈ wsX2_init := List.mem_of_getElem? (i := 1) (by decide +kernel)
theorem lmi_X2_init : Cond.instanceMethod objectInit ∈ wsX2_init := List.mem_of_getElem? (i := 2) (by decide +kernel)
theorem lmc_X2_init : Cond.code objectInit ⟨#[0xb1]⟩ 1 none ∈ wsX2_init := List.mem_of_getElem? (i := 3) (by decide +kernel)
theorem lac_X2_init_int : Cond.arrayClass .int ∈ wsX2_init := List.mem_of_getElem? (i := 4) (by decide +kernel)
theorem wi_X2_init_X2 : ∀ w ∈ wsX20, w ∈ wsX2_init := fun w h => List.mem_cons_of_mem _ (List.mem_append_right _ (h))
theorem fl_X2_init_X2_0 : Cond.fieldLink RX2 9 (TX2 0).1 (TX2 0).2.1 (TX2 0).2.2.1 ∈ wsX2_init := List.mem_of_getElem? (i := 5) (by decide +kernel)
theorem fl_X2_init_X2_1 : Cond.fieldLink RX2 15 (TX2 1).1 (TX2 1).2.1 (TX2 1).2.2.1 ∈ wsX2_init := List.mem_of_getElem? (i := 6) (by decide +kernel)
theorem fl_X2_init_X2_2 : Cond.fieldLink RX2 18 (TX2 2).1 (TX2 2).2.1 (TX2 2).2.2.1 ∈ wsX2_init := List.mem_of_getElem? (i := 7) (by decide +kernel)
set_option maxRecDepth 100000 in
set_option maxHeartbeats 4000000 in
theorem c_X2_init (l : Launch) (D : va_G) (kc : Nat → ClassId) (h0 : Nat)  : kCv l D (tyL kc) yX2_init wsX2_init ({ frames := 1, cells := 3, slots := 80, locals := 20 } : Room) [.ref h0] [(h0, .inr (4, [.null, .null, .null, .int 0]))] (fun a : Nat → Nat => wC kc a zeroU) 3 80 (fun a => a 0 = h0) := by
  intro sz
  refine k_begin (cc := cX2_init) (maxL := 1) (ret := none) (by decide +kernel) rfl rfl (fun p e s m args below meth c hsz E G ls hl => ?_)
  subst hsz
  have hl : lv_has ls 1 [(0, .ref h0)] := hl
  refine lv_aload_n E.ex E.by dX2_init_0 rfl (lv_at hl 0 rfl) ?_
  refine k_objInit E lmo_X2_init lmi_X2_init lmc_X2_init hl rfl ⟨rfl, rfl⟩ dX2_init_1 ?_
  refine lv_aload_n E.ex E.by dX2_init_4 rfl (lv_at hl 0 rfl) ?_
  refine lv_bipush (v := 64) E.ex E.by dX2_init_5 (by decide) ?_
  refine k_newai E G lac_X2_init_int 0 rfl (by decide) rfl rfl ⟨rfl, rfl⟩ dX2_init_7 (fun q1 H G => ?_)
  have G : kG D _ s [(h0, .inr (4, [.null, .null, .null, .int 0])), (q1, .inl (kc 0, 64, .inl (fun _ => 0)))] H _ := G
  refine k_putF E.na E G wi_X2_init_X2 tyX2_ok nmX2 0 rfl rfl 0 rfl fl_X2_init_X2_0 rfl rfl rfl rfl rfl [(h0, .inr (4, [.ref q1, .null, .null, .int 0])), (q1, .inl (kc 0, 64, .inl (fun _ => 0)))] rfl dX2_init_9 (fun H locs G => ?_)
  refine lv_aload_n E.ex E.by dX2_init_12 rfl (lv_at hl 0 rfl) ?_
  refine lv_bipush (v := 8) E.ex E.by dX2_init_13 (by decide) ?_
  refine k_newai E G lac_X2_init_int 0 rfl (by decide) rfl rfl ⟨rfl, rfl⟩ dX2_init_15 (fun q2 H G => ?_)
  have G : kG D _ s [(h0, .inr (4, [.ref q1, .null, .null, .int 0])), (q1, .inl (kc 0, 64, .inl (fun _ => 0))), (q2, .inl (kc 0, 8, .inl (fun _ => 0)))] H _ := G
  refine k_putF E.na E G wi_X2_init_X2 tyX2_ok nmX2 0 rfl rfl 1 rfl fl_X2_init_X2_1 rfl rfl rfl rfl rfl [(h0, .inr (4, [.ref q1, .ref q2, .null, .int 0])), (q1, .inl (kc 0, 64, .inl (fun _ => 0))), (q2, .inl (kc 0, 8, .inl (fun _ => 0)))] rfl dX2_init_17 (fun H locs G => ?_)
  refine lv_aload_n E.ex E.by dX2_init_20 rfl (lv_at hl 0 rfl) ?_
  refine lv_bipush (v := 8) E.ex E.by dX2_init_21 (by decide) ?_
  refine k_newai E G lac_X2_init_int 0 rfl (by decide) rfl rfl ⟨rfl, rfl⟩ dX2_init_23 (fun q3 H G => ?_)
  have G : kG D _ s [(h0, .inr (4, [.ref q1, .ref q2, .null, .int 0])), (q1, .inl (kc 0, 64, .inl (fun _ => 0))), (q2, .inl (kc 0, 8, .inl (fun _ => 0))), (q3, .inl (kc 0, 8, .inl (fun _ => 0)))] H _ := G
  refine k_putF E.na E G wi_X2_init_X2 tyX2_ok nmX2 0 rfl rfl 2 rfl fl_X2_init_X2_2 rfl rfl rfl rfl rfl [(h0, .inr (4, [.ref q1, .ref q2, .ref q3, .int 0])), (q1, .inl (kc 0, 64, .inl (fun _ => 0))), (q2, .inl (kc 0, 8, .inl (fun _ => 0))), (q3, .inl (kc 0, 8, .inl (fun _ => 0)))] rfl dX2_init_25 (fun H locs G => ?_)
  have G : kG D _ s ((fun a : Nat → Nat => wC kc a zeroU) ((fun k => [h0, q1, q2, q3].getD k 0))) H _ := G
  exact k_retv (wof := fun a : Nat → Nat => wC kc a zeroU) (u := (fun k => [h0, q1, q2, q3].getD k 0)) E G (by exact rfl) (by exact Nat.le_of_ble_eq_true rfl) (by exact Nat.le_of_ble_eq_true rfl) dX2_init_28
theorem lmo_X3_init : Cond.methodLink RX3 3 objectInit ∈ wsX3_init := List.mem_of_getElem? (i := 1) (by decide +kernel)
theorem lmi_X3_init : Cond.instanceMethod objectInit ∈ wsX3_init := List.mem_of_getElem? (i := 2) (by decide +kernel)
theorem lmc_X3_init : Cond.code objectInit ⟨#[0xb1]⟩ 1 none ∈ wsX3_init := List.mem_of_getElem? (i := 3) (by decide +kernel)
theorem lac_X3_init_long : Cond.arrayClass .long ∈ wsX3_init := List.mem_of_getElem? (i := 4) (by decide +kernel)
theorem wi_X3_init_X3 : ∀ w ∈ wsX30, w ∈ wsX3_init := fun w h => List.mem_cons_of_mem _ (List.mem_append_right _ (h))
theorem fl_X3_init_X3_0 : Cond.fieldLink RX3 11 (TX3 0).1 (TX3 0).2.1 (TX3 0).2.2.1 ∈ wsX3_init := List.mem_of_getElem? (i := 5) (by decide +kernel)
set_option maxRecDepth 100000 in
set_option maxHeartbeats 4000000 in
theorem c_X3_init (l : Launch) (D : va_G) (kc : Nat → ClassId) (h0 : Nat)  : kCv l D (tyL kc) yX3_init wsX3_init ({ frames := 1, cells := 1, slots := 72, locals := 20 } : Room) [.ref h0] [(h0, .inr (5, [.null]))] (fun a : Nat → Nat => wE kc a zeroU) 1 72 (fun a => a 0 = h0) := by
  intro sz
  refine k_begin (cc := cX3_init) (maxL := 1) (ret := none) (by decide +kernel) rfl rfl (fun p e s m args below meth c hsz E G ls hl => ?_)
  subst hsz
  have hl : lv_has ls 1 [(0, .ref h0)] := hl
  refine lv_aload_n E.ex E.by dX3_init_0 rfl (lv_at hl 0 rfl) ?_
  refine k_objInit E lmo_X3_init lmi_X3_init lmc_X3_init hl rfl ⟨rfl, rfl⟩ dX3_init_1 ?_
  refine lv_aload_n E.ex E.by dX3_init_4 rfl (lv_at hl 0 rfl) ?_
  refine lv_bipush (v := 72) E.ex E.by dX3_init_5 (by decide) ?_
  refine k_newal E G lac_X3_init_long 1 rfl (by decide) rfl rfl ⟨rfl, rfl⟩ dX3_init_7 (fun q1 H G => ?_)
  have G : kG D _ s [(h0, .inr (5, [.null])), (q1, .inl (kc 1, 72, .inr (.inl (fun _ => 0))))] H _ := G
  refine k_putF E.na E G wi_X3_init_X3 tyX3_ok nmX3 0 rfl rfl 0 rfl fl_X3_init_X3_0 rfl rfl rfl rfl rfl [(h0, .inr (5, [.ref q1])), (q1, .inl (kc 1, 72, .inr (.inl (fun _ => 0))))] rfl dX3_init_9 (fun H locs G => ?_)
  have G : kG D _ s ((fun a : Nat → Nat => wE kc a zeroU) ((fun k => [h0, q1].getD k 0))) H _ := G
  exact k_retv (wof := fun a : Nat → Nat => wE kc a zeroU) (u := (fun k => [h0, q1].getD k 0)) E G (by exact rfl) (by exact Nat.le_of_ble_eq_true rfl) (by exact Nat.le_of_ble_eq_true rfl) dX3_init_12
theorem lmo_X7_init : Cond.methodLink RX7 3 objectInit ∈ wsX7_init := List.mem_of_getElem? (i := 1) (by decide +kernel)
theorem lmi_X7_init : Cond.instanceMethod objectInit ∈ wsX7_init := List.mem_of_getElem? (i := 2) (by decide +kernel)
theorem lmc_X7_init : Cond.code objectInit ⟨#[0xb1]⟩ 1 none ∈ wsX7_init := List.mem_of_getElem? (i := 3) (by decide +kernel)
theorem lac_X7_init_int : Cond.arrayClass .int ∈ wsX7_init := List.mem_of_getElem? (i := 4) (by decide +kernel)
theorem wi_X7_init_X7 : ∀ w ∈ wsX70, w ∈ wsX7_init := fun w h => List.mem_cons_of_mem _ (List.mem_append_right _ (h))
theorem fl_X7_init_X7_1 : Cond.fieldLink RX7 9 (TX7 1).1 (TX7 1).2.1 (TX7 1).2.2.1 ∈ wsX7_init := List.mem_of_getElem? (i := 5) (by decide +kernel)
theorem fl_X7_init_X7_2 : Cond.fieldLink RX7 15 (TX7 2).1 (TX7 2).2.1 (TX7 2).2.2.1 ∈ wsX7_init := List.mem_of_getElem? (i := 6) (by decide +kernel)
theorem fl_X7_init_X7_0 : Cond.fieldLink RX7 18 (TX7 0).1 (TX7 0).2.1 (TX7 0).2.2.1 ∈ wsX7_init := List.mem_of_getElem? (i := 7) (by decide +kernel)
theorem fl_X7_init_X7_3 : Cond.fieldLink RX7 22 (TX7 3).1 (TX7 3).2.1 (TX7 3).2.2.1 ∈ wsX7_init := List.mem_of_getElem? (i := 8) (by decide +kernel)
set_option maxRecDepth 100000 in
set_option maxHeartbeats 4000000 in
theorem c_X7_init (l : Launch) (D : va_G) (kc : Nat → ClassId) (h0 : Nat) (b1 : Nat) : kCv l D (tyL kc) yX7_init wsX7_init ({ frames := 1, cells := 2, slots := 16, locals := 20 } : Room) [.ref h0, .ref b1] [(h0, .inr (9, [.null, .null, .null, .int 0]))] (fun a : Nat → Nat => wLu kc a (fun _ => b1) zeroU) 2 16 (fun a => a 0 = h0) := by
  intro sz
  refine k_begin (cc := cX7_init) (maxL := 2) (ret := none) (by decide +kernel) rfl rfl (fun p e s m args below meth c hsz E G ls hl => ?_)
  subst hsz
  have hl : lv_has ls 2 [(0, .ref h0), (1, .ref b1)] := hl
  refine lv_aload_n E.ex E.by dX7_init_0 rfl (lv_at hl 0 rfl) ?_
  refine k_objInit E lmo_X7_init lmi_X7_init lmc_X7_init hl rfl ⟨rfl, rfl⟩ dX7_init_1 ?_
  refine lv_aload_n E.ex E.by dX7_init_4 rfl (lv_at hl 0 rfl) ?_
  refine lv_bipush (v := 8) E.ex E.by dX7_init_5 (by decide) ?_
  refine k_newai E G lac_X7_init_int 0 rfl (by decide) rfl rfl ⟨rfl, rfl⟩ dX7_init_7 (fun q1 H G => ?_)
  have G : kG D _ s [(h0, .inr (9, [.null, .null, .null, .int 0])), (q1, .inl (kc 0, 8, .inl (fun _ => 0)))] H _ := G
  refine k_putF E.na E G wi_X7_init_X7 tyX7_ok nmX7 0 rfl rfl 1 rfl fl_X7_init_X7_1 rfl rfl rfl rfl rfl [(h0, .inr (9, [.null, .ref q1, .null, .int 0])), (q1, .inl (kc 0, 8, .inl (fun _ => 0)))] rfl dX7_init_9 (fun H locs G => ?_)
  refine lv_aload_n E.ex E.by dX7_init_12 rfl (lv_at hl 0 rfl) ?_
  refine lv_bipush (v := 8) E.ex E.by dX7_init_13 (by decide) ?_
  refine k_newai E G lac_X7_init_int 0 rfl (by decide) rfl rfl ⟨rfl, rfl⟩ dX7_init_15 (fun q2 H G => ?_)
  have G : kG D _ s [(h0, .inr (9, [.null, .ref q1, .null, .int 0])), (q1, .inl (kc 0, 8, .inl (fun _ => 0))), (q2, .inl (kc 0, 8, .inl (fun _ => 0)))] H _ := G
  refine k_putF E.na E G wi_X7_init_X7 tyX7_ok nmX7 0 rfl rfl 2 rfl fl_X7_init_X7_2 rfl rfl rfl rfl rfl [(h0, .inr (9, [.null, .ref q1, .ref q2, .int 0])), (q1, .inl (kc 0, 8, .inl (fun _ => 0))), (q2, .inl (kc 0, 8, .inl (fun _ => 0)))] rfl dX7_init_17 (fun H locs G => ?_)
  refine lv_aload_n E.ex E.by dX7_init_20 rfl (lv_at hl 0 rfl) ?_
  refine lv_aload_n E.ex E.by dX7_init_21 rfl (lv_at hl 1 rfl) ?_
  refine k_putF E.na E G wi_X7_init_X7 tyX7_ok nmX7 0 rfl rfl 0 rfl fl_X7_init_X7_0 rfl rfl rfl rfl rfl [(h0, .inr (9, [.ref b1, .ref q1, .ref q2, .int 0])), (q1, .inl (kc 0, 8, .inl (fun _ => 0))), (q2, .inl (kc 0, 8, .inl (fun _ => 0)))] rfl dX7_init_22 (fun H locs G => ?_)
  refine lv_aload_n E.ex E.by dX7_init_25 rfl (lv_at hl 0 rfl) ?_
  refine lv_iconst (v := 0) E.ex E.by dX7_init_26 (by decide) ?_
  refine k_putX E G wi_X7_init_X7 tyX7_ok nmX7 0 rfl rfl 3 rfl fl_X7_init_X7_3 rfl rfl rfl rfl [(h0, .inr (9, [.ref b1, .ref q1, .ref q2, .int 0])), (q1, .inl (kc 0, 8, .inl (fun _ => 0))), (q2, .inl (kc 0, 8, .inl (fun _ => 0)))] rfl dX7_init_27 (fun H locs G => ?_)
  have G : kG D _ s ((fun a : Nat → Nat => wLu kc a (fun _ => b1) zeroU) ((fun k => [h0, q1, q2].getD k 0))) H _ := G
  exact k_retv (wof := fun a : Nat → Nat => wLu kc a (fun _ => b1) zeroU) (u := (fun k => [h0, q1, q2].getD k 0)) E G (by exact rfl) (by exact Nat.le_of_ble_eq_true rfl) (by exact Nat.le_of_ble_eq_true rfl) dX7_init_30
theorem lmo_X0_init : Cond.methodLink RX0 3 objectInit ∈ wsX0_init := List.mem_of_getElem? (i := 1) (by decide +kernel)
theorem lmi_X0_init : Cond.instanceMethod objectInit ∈ wsX0_init := List.mem_of_getElem? (i := 2) (by decide +kernel)
theorem lmc_X0_init : Cond.code objectInit ⟨#[0xb1]⟩ 1 none ∈ wsX0_init := List.mem_of_getElem? (i := 3) (by decide +kernel)
theorem lac_X0_init_long : Cond.arrayClass .long ∈ wsX0_init := List.mem_of_getElem? (i := 4) (by decide +kernel)
theorem wi_X0_init_X0 : ∀ w ∈ wsX00, w ∈ wsX0_init := fun w h => List.mem_cons_of_mem _ (List.mem_append_right _ (h))
theorem fl_X0_init_X0_1 : Cond.fieldLink RX0 9 (TX0 1).1 (TX0 1).2.1 (TX0 1).2.2.1 ∈ wsX0_init := List.mem_of_getElem? (i := 5) (by decide +kernel)
theorem fl_X0_init_X0_2 : Cond.fieldLink RX0 15 (TX0 2).1 (TX0 2).2.1 (TX0 2).2.2.1 ∈ wsX0_init := List.mem_of_getElem? (i := 6) (by decide +kernel)
theorem lac_X0_init_int : Cond.arrayClass .int ∈ wsX0_init := List.mem_of_getElem? (i := 7) (by decide +kernel)
theorem fl_X0_init_X0_3 : Cond.fieldLink RX0 18 (TX0 3).1 (TX0 3).2.1 (TX0 3).2.2.1 ∈ wsX0_init := List.mem_of_getElem? (i := 8) (by decide +kernel)
theorem fl_X0_init_X0_0 : Cond.fieldLink RX0 22 (TX0 0).1 (TX0 0).2.1 (TX0 0).2.2.1 ∈ wsX0_init := List.mem_of_getElem? (i := 9) (by decide +kernel)
theorem fl_X0_init_X0_4 : Cond.fieldLink RX0 26 (TX0 4).1 (TX0 4).2.1 (TX0 4).2.2.1 ∈ wsX0_init := List.mem_of_getElem? (i := 10) (by decide +kernel)
set_option maxRecDepth 100000 in
set_option maxHeartbeats 4000000 in
theorem c_X0_init (l : Launch) (D : va_G) (kc : Nat → ClassId) (h0 : Nat) (b1 : Nat) : kCv l D (tyL kc) yX0_init wsX0_init ({ frames := 1, cells := 3, slots := 24, locals := 20 } : Room) [.ref h0, .ref b1] [(h0, .inr (2, [.null, .null, .null, .null, .int 0]))] (fun a : Nat → Nat => wBp kc a (fun _ => b1) zeroU) 3 24 (fun a => a 0 = h0) := by
  intro sz
  refine k_begin (cc := cX0_init) (maxL := 2) (ret := none) (by decide +kernel) rfl rfl (fun p e s m args below meth c hsz E G ls hl => ?_)
  subst hsz
  have hl : lv_has ls 2 [(0, .ref h0), (1, .ref b1)] := hl
  refine lv_aload_n E.ex E.by dX0_init_0 rfl (lv_at hl 0 rfl) ?_
  refine k_objInit E lmo_X0_init lmi_X0_init lmc_X0_init hl rfl ⟨rfl, rfl⟩ dX0_init_1 ?_
  refine lv_aload_n E.ex E.by dX0_init_4 rfl (lv_at hl 0 rfl) ?_
  refine lv_bipush (v := 8) E.ex E.by dX0_init_5 (by decide) ?_
  refine k_newal E G lac_X0_init_long 1 rfl (by decide) rfl rfl ⟨rfl, rfl⟩ dX0_init_7 (fun q1 H G => ?_)
  have G : kG D _ s [(h0, .inr (2, [.null, .null, .null, .null, .int 0])), (q1, .inl (kc 1, 8, .inr (.inl (fun _ => 0))))] H _ := G
  refine k_putF E.na E G wi_X0_init_X0 tyX0_ok nmX0 0 rfl rfl 1 rfl fl_X0_init_X0_1 rfl rfl rfl rfl rfl [(h0, .inr (2, [.null, .ref q1, .null, .null, .int 0])), (q1, .inl (kc 1, 8, .inr (.inl (fun _ => 0))))] rfl dX0_init_9 (fun H locs G => ?_)
  refine lv_aload_n E.ex E.by dX0_init_12 rfl (lv_at hl 0 rfl) ?_
  refine lv_bipush (v := 8) E.ex E.by dX0_init_13 (by decide) ?_
  refine k_newal E G lac_X0_init_long 1 rfl (by decide) rfl rfl ⟨rfl, rfl⟩ dX0_init_15 (fun q2 H G => ?_)
  have G : kG D _ s [(h0, .inr (2, [.null, .ref q1, .null, .null, .int 0])), (q1, .inl (kc 1, 8, .inr (.inl (fun _ => 0)))), (q2, .inl (kc 1, 8, .inr (.inl (fun _ => 0))))] H _ := G
  refine k_putF E.na E G wi_X0_init_X0 tyX0_ok nmX0 0 rfl rfl 2 rfl fl_X0_init_X0_2 rfl rfl rfl rfl rfl [(h0, .inr (2, [.null, .ref q1, .ref q2, .null, .int 0])), (q1, .inl (kc 1, 8, .inr (.inl (fun _ => 0)))), (q2, .inl (kc 1, 8, .inr (.inl (fun _ => 0))))] rfl dX0_init_17 (fun H locs G => ?_)
  refine lv_aload_n E.ex E.by dX0_init_20 rfl (lv_at hl 0 rfl) ?_
  refine lv_bipush (v := 8) E.ex E.by dX0_init_21 (by decide) ?_
  refine k_newai E G lac_X0_init_int 0 rfl (by decide) rfl rfl ⟨rfl, rfl⟩ dX0_init_23 (fun q3 H G => ?_)
  have G : kG D _ s [(h0, .inr (2, [.null, .ref q1, .ref q2, .null, .int 0])), (q1, .inl (kc 1, 8, .inr (.inl (fun _ => 0)))), (q2, .inl (kc 1, 8, .inr (.inl (fun _ => 0)))), (q3, .inl (kc 0, 8, .inl (fun _ => 0)))] H _ := G
  refine k_putF E.na E G wi_X0_init_X0 tyX0_ok nmX0 0 rfl rfl 3 rfl fl_X0_init_X0_3 rfl rfl rfl rfl rfl [(h0, .inr (2, [.null, .ref q1, .ref q2, .ref q3, .int 0])), (q1, .inl (kc 1, 8, .inr (.inl (fun _ => 0)))), (q2, .inl (kc 1, 8, .inr (.inl (fun _ => 0)))), (q3, .inl (kc 0, 8, .inl (fun _ => 0)))] rfl dX0_init_25 (fun H locs G => ?_)
  refine lv_aload_n E.ex E.by dX0_init_28 rfl (lv_at hl 0 rfl) ?_
  refine lv_aload_n E.ex E.by dX0_init_29 rfl (lv_at hl 1 rfl) ?_
  refine k_putF E.na E G wi_X0_init_X0 tyX0_ok nmX0 0 rfl rfl 0 rfl fl_X0_init_X0_0 rfl rfl rfl rfl rfl [(h0, .inr (2, [.ref b1, .ref q1, .ref q2, .ref q3, .int 0])), (q1, .inl (kc 1, 8, .inr (.inl (fun _ => 0)))), (q2, .inl (kc 1, 8, .inr (.inl (fun _ => 0)))), (q3, .inl (kc 0, 8, .inl (fun _ => 0)))] rfl dX0_init_30 (fun H locs G => ?_)
  refine lv_aload_n E.ex E.by dX0_init_33 rfl (lv_at hl 0 rfl) ?_
  refine lv_iconst (v := 0) E.ex E.by dX0_init_34 (by decide) ?_
  refine k_putX E G wi_X0_init_X0 tyX0_ok nmX0 0 rfl rfl 4 rfl fl_X0_init_X0_4 rfl rfl rfl rfl [(h0, .inr (2, [.ref b1, .ref q1, .ref q2, .ref q3, .int 0])), (q1, .inl (kc 1, 8, .inr (.inl (fun _ => 0)))), (q2, .inl (kc 1, 8, .inr (.inl (fun _ => 0)))), (q3, .inl (kc 0, 8, .inl (fun _ => 0)))] rfl dX0_init_35 (fun H locs G => ?_)
  have G : kG D _ s ((fun a : Nat → Nat => wBp kc a (fun _ => b1) zeroU) ((fun k => [h0, q1, q2, q3].getD k 0))) H _ := G
  exact k_retv (wof := fun a : Nat → Nat => wBp kc a (fun _ => b1) zeroU) (u := (fun k => [h0, q1, q2, q3].getD k 0)) E G (by exact rfl) (by exact Nat.le_of_ble_eq_true rfl) (by exact Nat.le_of_ble_eq_true rfl) dX0_init_38
theorem lmo_X8_init : Cond.methodLink RX8 3 objectInit ∈ wsX8_init := List.mem_of_getElem? (i := 1) (by decide +kernel)
theorem lmi_X8_init : Cond.instanceMethod objectInit ∈ wsX8_init := List.mem_of_getElem? (i := 2) (by decide +kernel)
theorem lmc_X8_init : Cond.code objectInit ⟨#[0xb1]⟩ 1 none ∈ wsX8_init := List.mem_of_getElem? (i := 3) (by decide +kernel)
theorem lcl_X8_init_9 : Cond.classLink RX8 9 RX3 ∈ wsX8_init := List.mem_of_getElem? (i := 4) (by decide +kernel)
theorem lin_X8_init_X3 : Cond.instantiable RX3 1 ∈ wsX8_init := List.mem_of_getElem? (i := 5) (by decide +kernel)
theorem li_X8_init_X3 : Cond.initialized RX3 ∈ wsX8_init := List.mem_of_getElem? (i := 6) (by decide +kernel)
theorem wi_X8_init_X3 : ∀ w ∈ wsX30, w ∈ wsX8_init := fun w h => List.mem_cons_of_mem _ (List.mem_append_left _ (List.mem_append_right _ (h)))
theorem lsm_X8_init_X3_init : Cond.instanceMethod yX3_init ∈ wsX8_init := List.mem_of_getElem? (i := 14) (by decide +kernel)
theorem hd_X3_init_n : yX3_init.cls ≠ "java/lang/invoke/MethodHandle" ∧ yX3_init.cls ≠ "java/lang/invoke/VarHandle" ∧ (parseMethodDescriptor yX3_init.desc).map (fun d => d.parameters.length) = some 0 := by decide +kernel
theorem wi_X8_init_X8 : ∀ w ∈ wsX80, w ∈ wsX8_init := fun w h => List.mem_cons_of_mem _ (List.mem_append_right _ (h))
theorem fl_X8_init_X8_1 : Cond.fieldLink RX8 12 (TX8 1).1 (TX8 1).2.1 (TX8 1).2.2.1 ∈ wsX8_init := List.mem_of_getElem? (i := 7) (by decide +kernel)
theorem lac_X8_init_long : Cond.arrayClass .long ∈ wsX8_init := List.mem_of_getElem? (i := 8) (by decide +kernel)
theorem fl_X8_init_X8_2 : Cond.fieldLink RX8 18 (TX8 2).1 (TX8 2).2.1 (TX8 2).2.2.1 ∈ wsX8_init := List.mem_of_getElem? (i := 9) (by decide +kernel)
theorem fl_X8_init_X8_3 : Cond.fieldLink RX8 22 (TX8 3).1 (TX8 3).2.1 (TX8 3).2.2.1 ∈ wsX8_init := List.mem_of_getElem? (i := 10) (by decide +kernel)
theorem fl_X8_init_X8_4 : Cond.fieldLink RX8 25 (TX8 4).1 (TX8 4).2.1 (TX8 4).2.2.1 ∈ wsX8_init := List.mem_of_getElem? (i := 11) (by decide +kernel)
theorem fl_X8_init_X8_5 : Cond.fieldLink RX8 28 (TX8 5).1 (TX8 5).2.1 (TX8 5).2.2.1 ∈ wsX8_init := List.mem_of_getElem? (i := 12) (by decide +kernel)
theorem fl_X8_init_X8_0 : Cond.fieldLink RX8 31 (TX8 0).1 (TX8 0).2.1 (TX8 0).2.2.1 ∈ wsX8_init := List.mem_of_getElem? (i := 13) (by decide +kernel)
set_option maxRecDepth 100000 in
set_option maxHeartbeats 4000000 in
theorem c_X8_init (l : Launch) (D : va_G) (kc : Nat → ClassId) (h0 : Nat) (b1 : Nat) : kCv l D (tyL kc) yX8_init wsX8_init ({ frames := 2, cells := 6, slots := 105, locals := 60 } : Room) [.ref h0, .ref b1] [(h0, .inr (10, [.null, .null, .null, .null, .null, .null]))] (fun u : (Nat → Nat) × (Nat → Nat) => wMo kc u.1 (fun _ => b1) u.2 zeroU ++ wE kc u.2 zeroU) 6 105 (fun u => u.1 0 = h0) := by
  intro sz
  refine k_begin (cc := cX8_init) (maxL := 2) (ret := none) (by decide +kernel) rfl rfl (fun p e s m args below meth c hsz E G ls hl => ?_)
  subst hsz
  have hl : lv_has ls 2 [(0, .ref h0), (1, .ref b1)] := hl
  refine lv_aload_n E.ex E.by dX8_init_0 rfl (lv_at hl 0 rfl) ?_
  refine k_objInit E lmo_X8_init lmi_X8_init lmc_X8_init hl rfl ⟨rfl, rfl⟩ dX8_init_1 ?_
  refine lv_aload_n E.ex E.by dX8_init_4 rfl (lv_at hl 0 rfl) ?_
  refine k_new (ci := 5) E G wi_X8_init_X3 tyX3_ok lcl_X8_init_9 lin_X8_init_X3 li_X8_init_X3 rfl (fs := [.null]) (fun j hj => by rcases (show j = 0 by omega) with rfl <;> rfl) ⟨rfl, rfl⟩ dX8_init_5 (fun q1 H G => ?_)
  have G : kG D _ s [(h0, .inr (10, [.null, .null, .null, .null, .null, .null])), (q1, .inr (5, [.null]))] H _ := G
  refine lv_dup E.ex E.by dX8_init_8 rfl ?_
  refine k_cINv (X := [(h0, .inr (10, [.null, .null, .null, .null, .null, .null]))]) (w := [(q1, .inr (5, [.null]))]) (Z := []) (wnew := fun u => [(h0, .inr (10, [.null, .null, .null, .null, .null, .null]))] ++ (wE kc u zeroU ++ [])) (As := []) (rest := [.ref q1, .ref h0]) E rfl G (c_X3_init l D kc q1) gX8_init_X3_init_n11 (by decide +kernel) li_X8_init_X3 lsm_X8_init_X3_init rfl rfl ⟨rfl, rfl⟩ hd_X3_init_n ⟨rfl, rfl⟩ rfl hl rfl rfl dX8_init_9 ⟨rfl, rfl⟩ (fun _ => rfl) (fun q2 hq H locs G => ?_)
  have hq0 : q2 0 = q1 := hq
  have G : kG D _ s [(h0, .inr (10, [.null, .null, .null, .null, .null, .null])), ((q2 0), .inr (5, [.ref (q2 1)])), ((q2 1), .inl (kc 1, 72, .inr (.inl (fun _ => 0))))] H _ := G
  rw [hq0] at G
  refine k_putF E.na E G wi_X8_init_X8 tyX8_ok nmX8 0 rfl rfl 1 rfl fl_X8_init_X8_1 rfl rfl rfl rfl rfl [(h0, .inr (10, [.null, .ref q1, .null, .null, .null, .null])), (q1, .inr (5, [.ref (q2 1)])), ((q2 1), .inl (kc 1, 72, .inr (.inl (fun _ => 0))))] rfl dX8_init_12 (fun H locs G => ?_)
  refine lv_aload_n E.ex E.by dX8_init_15 rfl (lv_at hl 0 rfl) ?_
  refine lv_bipush (v := 8) E.ex E.by dX8_init_16 (by decide) ?_
  refine k_newal E G lac_X8_init_long 1 rfl (by decide) rfl rfl ⟨rfl, rfl⟩ dX8_init_18 (fun q3 H G => ?_)
  have G : kG D _ s [(h0, .inr (10, [.null, .ref q1, .null, .null, .null, .null])), (q1, .inr (5, [.ref (q2 1)])), ((q2 1), .inl (kc 1, 72, .inr (.inl (fun _ => 0)))), (q3, .inl (kc 1, 8, .inr (.inl (fun _ => 0))))] H _ := G
  refine k_putF E.na E G wi_X8_init_X8 tyX8_ok nmX8 0 rfl rfl 2 rfl fl_X8_init_X8_2 rfl rfl rfl rfl rfl [(h0, .inr (10, [.null, .ref q1, .ref q3, .null, .null, .null])), (q1, .inr (5, [.ref (q2 1)])), ((q2 1), .inl (kc 1, 72, .inr (.inl (fun _ => 0)))), (q3, .inl (kc 1, 8, .inr (.inl (fun _ => 0))))] rfl dX8_init_20 (fun H locs G => ?_)
  refine lv_aload_n E.ex E.by dX8_init_23 rfl (lv_at hl 0 rfl) ?_
  refine lv_bipush (v := 8) E.ex E.by dX8_init_24 (by decide) ?_
  refine k_newal E G lac_X8_init_long 1 rfl (by decide) rfl rfl ⟨rfl, rfl⟩ dX8_init_26 (fun q4 H G => ?_)
  have G : kG D _ s [(h0, .inr (10, [.null, .ref q1, .ref q3, .null, .null, .null])), (q1, .inr (5, [.ref (q2 1)])), ((q2 1), .inl (kc 1, 72, .inr (.inl (fun _ => 0)))), (q3, .inl (kc 1, 8, .inr (.inl (fun _ => 0)))), (q4, .inl (kc 1, 8, .inr (.inl (fun _ => 0))))] H _ := G
  refine k_putF E.na E G wi_X8_init_X8 tyX8_ok nmX8 0 rfl rfl 3 rfl fl_X8_init_X8_3 rfl rfl rfl rfl rfl [(h0, .inr (10, [.null, .ref q1, .ref q3, .ref q4, .null, .null])), (q1, .inr (5, [.ref (q2 1)])), ((q2 1), .inl (kc 1, 72, .inr (.inl (fun _ => 0)))), (q3, .inl (kc 1, 8, .inr (.inl (fun _ => 0)))), (q4, .inl (kc 1, 8, .inr (.inl (fun _ => 0))))] rfl dX8_init_28 (fun H locs G => ?_)
  refine lv_aload_n E.ex E.by dX8_init_31 rfl (lv_at hl 0 rfl) ?_
  refine lv_bipush (v := 8) E.ex E.by dX8_init_32 (by decide) ?_
  refine k_newal E G lac_X8_init_long 1 rfl (by decide) rfl rfl ⟨rfl, rfl⟩ dX8_init_34 (fun q5 H G => ?_)
  have G : kG D _ s [(h0, .inr (10, [.null, .ref q1, .ref q3, .ref q4, .null, .null])), (q1, .inr (5, [.ref (q2 1)])), ((q2 1), .inl (kc 1, 72, .inr (.inl (fun _ => 0)))), (q3, .inl (kc 1, 8, .inr (.inl (fun _ => 0)))), (q4, .inl (kc 1, 8, .inr (.inl (fun _ => 0)))), (q5, .inl (kc 1, 8, .inr (.inl (fun _ => 0))))] H _ := G
  refine k_putF E.na E G wi_X8_init_X8 tyX8_ok nmX8 0 rfl rfl 4 rfl fl_X8_init_X8_4 rfl rfl rfl rfl rfl [(h0, .inr (10, [.null, .ref q1, .ref q3, .ref q4, .ref q5, .null])), (q1, .inr (5, [.ref (q2 1)])), ((q2 1), .inl (kc 1, 72, .inr (.inl (fun _ => 0)))), (q3, .inl (kc 1, 8, .inr (.inl (fun _ => 0)))), (q4, .inl (kc 1, 8, .inr (.inl (fun _ => 0)))), (q5, .inl (kc 1, 8, .inr (.inl (fun _ => 0))))] rfl dX8_init_36 (fun H locs G => ?_)
  refine lv_aload_n E.ex E.by dX8_init_39 rfl (lv_at hl 0 rfl) ?_
  refine lv_bipush (v := 8) E.ex E.by dX8_init_40 (by decide) ?_
  refine k_newal E G lac_X8_init_long 1 rfl (by decide) rfl rfl ⟨rfl, rfl⟩ dX8_init_42 (fun q6 H G => ?_)
  have G : kG D _ s [(h0, .inr (10, [.null, .ref q1, .ref q3, .ref q4, .ref q5, .null])), (q1, .inr (5, [.ref (q2 1)])), ((q2 1), .inl (kc 1, 72, .inr (.inl (fun _ => 0)))), (q3, .inl (kc 1, 8, .inr (.inl (fun _ => 0)))), (q4, .inl (kc 1, 8, .inr (.inl (fun _ => 0)))), (q5, .inl (kc 1, 8, .inr (.inl (fun _ => 0)))), (q6, .inl (kc 1, 8, .inr (.inl (fun _ => 0))))] H _ := G
  refine k_putF E.na E G wi_X8_init_X8 tyX8_ok nmX8 0 rfl rfl 5 rfl fl_X8_init_X8_5 rfl rfl rfl rfl rfl [(h0, .inr (10, [.null, .ref q1, .ref q3, .ref q4, .ref q5, .ref q6])), (q1, .inr (5, [.ref (q2 1)])), ((q2 1), .inl (kc 1, 72, .inr (.inl (fun _ => 0)))), (q3, .inl (kc 1, 8, .inr (.inl (fun _ => 0)))), (q4, .inl (kc 1, 8, .inr (.inl (fun _ => 0)))), (q5, .inl (kc 1, 8, .inr (.inl (fun _ => 0)))), (q6, .inl (kc 1, 8, .inr (.inl (fun _ => 0))))] rfl dX8_init_44 (fun H locs G => ?_)
  refine lv_aload_n E.ex E.by dX8_init_47 rfl (lv_at hl 0 rfl) ?_
  refine lv_aload_n E.ex E.by dX8_init_48 rfl (lv_at hl 1 rfl) ?_
  refine k_putF E.na E G wi_X8_init_X8 tyX8_ok nmX8 0 rfl rfl 0 rfl fl_X8_init_X8_0 rfl rfl rfl rfl rfl [(h0, .inr (10, [.ref b1, .ref q1, .ref q3, .ref q4, .ref q5, .ref q6])), (q1, .inr (5, [.ref (q2 1)])), ((q2 1), .inl (kc 1, 72, .inr (.inl (fun _ => 0)))), (q3, .inl (kc 1, 8, .inr (.inl (fun _ => 0)))), (q4, .inl (kc 1, 8, .inr (.inl (fun _ => 0)))), (q5, .inl (kc 1, 8, .inr (.inl (fun _ => 0)))), (q6, .inl (kc 1, 8, .inr (.inl (fun _ => 0))))] rfl dX8_init_49 (fun H locs G => ?_)
  have G : kG D _ s ((fun u : (Nat → Nat) × (Nat → Nat) => wMo kc u.1 (fun _ => b1) u.2 zeroU ++ wE kc u.2 zeroU) (((fun k => [h0, q3, q4, q5, q6].getD k 0), (fun k => [q1, (q2 1)].getD k 0)))) H _ := kG.perm G [0, 3, 4, 5, 6, 1, 2] (by decide) rfl
  exact k_retv (wof := fun u : (Nat → Nat) × (Nat → Nat) => wMo kc u.1 (fun _ => b1) u.2 zeroU ++ wE kc u.2 zeroU) (u := ((fun k => [h0, q3, q4, q5, q6].getD k 0), (fun k => [q1, (q2 1)].getD k 0))) E G (by exact rfl) (by exact Nat.le_of_ble_eq_true rfl) (by exact Nat.le_of_ble_eq_true rfl) dX8_init_52
