/-! ===== small objects ===== -/
theorem va_gC {w : va_W} {q : Nat} {x c : Nat × va_E} (h : w[q]? = some x) : ([c] ++ w)[q + 1]? = some x := by simpa using h
def NF (w : va_W) (o : Option Nat) (d l : Nat) : Prop := (o = none ∧ d = 0 ∧ l = 0) ∨ ∃ (a : Nat) (k : Int32) (b t f g : Value), o = some a ∧ (a, .inr (11, [.int k, b, t, f, g, .int (nI d), .int (nI l)])) ∈ w
section KO
variable {p : Program} {l : Launch} {e : Env} {R : Room} {s : State} {m : MethodId} {args : Array Value} {below : List Frame} {meth : Method} {c : Code} {H : Heap} {locs : List Loc} {cells slots : Nat} {Q : State → Prop} {cc : ByteArray} {nL : Nat} {own nm : String} {Ts : List Cond} {ret : Option FieldType} {D : va_G} {tys : List (ClassId × FieldType)} {A : Nat → Prop} {ws : va_W} {pc : Nat} {ls : Array Slot} {rest : List Value}
theorem k_aldq (E : kE p s m meth c args cc nL own nm Ts ret D tys) (G : kG D A s ws H locs) (q0 : Nat) {a : Nat} {cA : ClassId} {n : Nat} {f : Nat → Option Nat} (ha : ws[q0]? = some (a, .inl (cA, n, .inr (.inr (.inr (.inr f)))))) (t0 : Nat) {C : String} (ht : tys[t0]? = some (cA, .object C)) {i : Int32} (hin : vp_in i n) (hdg : decode cc pc = .ok (.aaload, 1))
    (kk : W p l e R s m args below meth c H locs cells slots Q (F0 m (pc + 1) ls (va_rf (f i.toNatClampNeg) :: rest))) : W p l e R s m args below meth c H locs cells slots Q (F0 m pc ls (.int i :: .ref a :: rest)) :=
  va_aldq E.ex E.by E.k G.1 q0 t0 ha ht hin hdg kk
theorem k_astqN (E : kE p s m meth c args cc nL own nm Ts ret D tys) (G : kG D A s ws H locs) (q0 : Nat) {a : Nat} {cA : ClassId} {n : Nat} {f : Nat → Option Nat} (ha : ws[q0]? = some (a, .inl (cA, n, .inr (.inr (.inr (.inr f)))))) (t0 : Nat) {C : String} (ht : tys[t0]? = some (cA, .object C)) {i : Int32} (hin : vp_in i n) (hdg : decode cc pc = .ok (.aastore, 1))
    (kk : ∀ (H1 : Heap) (locs1 : List Loc), kG D A s (ws.set q0 (a, .inl (cA, n, .inr (.inr (.inr (.inr (va_up f i.toNatClampNeg none))))))) H1 locs1 → W p l e R s m args below meth c H1 locs1 cells slots Q (F0 m (pc + 1) ls rest)) : W p l e R s m args below meth c H locs cells slots Q (F0 m pc ls (.null :: .int i :: .ref a :: rest)) :=
  va_astqN E.ex E.by E.k G.1 G.2.1 G.2.2.1 q0 t0 ha ht hin hdg (fun H1 locs1 hP hD hS => kk H1 locs1 ⟨hP, hD, hS, G.2.2.2.1, G.2.2.2.2⟩)
theorem k_astq (E : kE p s m meth c args cc nL own nm Ts ret D tys) (G : kG D A s ws H locs) (q0 qk ci : Nat) {a v : Nat} {cA : ClassId} {n : Nat} {vs : List Value} {r : vw_C} {f : Nat → Option Nat} (ha : ws[q0]? = some (a, .inl (cA, n, .inr (.inr (.inr (.inr f)))))) (t0 : Nat) (ht : tys[t0]? = some (cA, .object r.1)) (hv : ws[qk]? = some (v, .inr (ci, vs))) (hc : vwCl[ci]? = some r) {i : Int32} (hin : vp_in i n) (hdg : decode cc pc = .ok (.aastore, 1))
    (kk : ∀ (H1 : Heap) (locs1 : List Loc), kG D A s (ws.set q0 (a, .inl (cA, n, .inr (.inr (.inr (.inr (va_up f i.toNatClampNeg (some v)))))))) H1 locs1 → W p l e R s m args below meth c H1 locs1 cells slots Q (F0 m (pc + 1) ls rest)) : W p l e R s m args below meth c H locs cells slots Q (F0 m pc ls (.ref v :: .int i :: .ref a :: rest)) :=
  va_astq E.ex E.by E.k G.1 G.2.1 G.2.2.1 q0 t0 qk ci ha ht hv hc hin hdg (fun H1 locs1 hP hD hS => kk H1 locs1 ⟨hP, hD, hS, G.2.2.2.1, G.2.2.2.2⟩)
end KO
theorem lmo_X1_init : Cond.methodLink RX1 1 objectInit ∈ wsX1_init := List.mem_of_getElem? (i := 1) (by decide +kernel)
theorem lmi_X1_init : Cond.instanceMethod objectInit ∈ wsX1_init := List.mem_of_getElem? (i := 2) (by decide +kernel)
theorem lmc_X1_init : Cond.code objectInit ⟨#[0xb1]⟩ 1 none ∈ wsX1_init := List.mem_of_getElem? (i := 3) (by decide +kernel)
theorem wi_X1_init_X1 : ∀ w ∈ wsX10, w ∈ wsX1_init := fun w h => List.mem_cons_of_mem _ (List.mem_append_right _ (h))
theorem fl_X1_init_X1_0 : Cond.fieldLink RX1 7 (TX1 0).1 (TX1 0).2.1 (TX1 0).2.2.1 ∈ wsX1_init := List.mem_of_getElem? (i := 4) (by decide +kernel)
theorem fl_X1_init_X1_1 : Cond.fieldLink RX1 13 (TX1 1).1 (TX1 1).2.1 (TX1 1).2.2.1 ∈ wsX1_init := List.mem_of_getElem? (i := 5) (by decide +kernel)
theorem fl_X1_init_X1_2 : Cond.fieldLink RX1 16 (TX1 2).1 (TX1 2).2.1 (TX1 2).2.2.1 ∈ wsX1_init := List.mem_of_getElem? (i := 6) (by decide +kernel)
theorem fl_X1_init_X1_3 : Cond.fieldLink RX1 20 (TX1 3).1 (TX1 3).2.1 (TX1 3).2.2.1 ∈ wsX1_init := List.mem_of_getElem? (i := 7) (by decide +kernel)
set_option maxRecDepth 100000 in
set_option maxHeartbeats 4000000 in
theorem c_X1_init (l : Launch) (D : va_G) (kc : Nat → ClassId) (h0 : Nat) (ub eb : Bool) (t0 b0 : Int32) : kCv l D (tyL kc) yX1_init wsX1_init ({ frames := 1, cells := 0, slots := 0, locals := 20 } : Room) [.ref h0, .int (bI ub), .int (bI eb), .int t0, .int b0] ([(h0, .inr (3, [.int 0, .int 0, .int 0, .int 0]))]) (fun _ : Unit => [(h0, .inr (3, [.int (bI ub), .int (bI eb), .int t0, .int b0]))]) (0) (0) (fun _ => True) := by
  intro sz
  refine k_begin (cc := cX1_init) (maxL := 5) (ret := none) (by decide +kernel) rfl rfl (fun p e s m args below meth c hsz E G ls hl => ?_)
  subst hsz
  have hl : lv_has ls 5 [(0, .ref h0), (1, .int (bI ub)), (2, .int (bI eb)), (3, .int t0), (4, .int b0)] := hl
  refine lv_aload_n E.ex E.by dX1_init_0 rfl (lv_at hl 0 rfl) ?_
  refine k_objInit E lmo_X1_init lmi_X1_init lmc_X1_init hl rfl ⟨rfl, rfl⟩ dX1_init_1 ?_
  refine lv_aload_n E.ex E.by dX1_init_4 rfl (lv_at hl 0 rfl) ?_
  refine lv_iload_n E.ex E.by dX1_init_5 rfl (lv_at hl 1 rfl) ?_
  refine k_putF E.na E G wi_X1_init_X1 tyX1_ok nmX1 (0) (rfl) rfl 0 rfl fl_X1_init_X1_0 rfl rfl (by cases ub <;> rfl) (by cases ub <;> rfl) rfl ([(h0, .inr (3, [.int (bI ub), .int 0, .int 0, .int 0]))]) rfl dX1_init_6 (fun H locs G => ?_)
  refine lv_aload_n E.ex E.by dX1_init_9 rfl (lv_at hl 0 rfl) ?_
  refine lv_iload_n E.ex E.by dX1_init_10 rfl (lv_at hl 2 rfl) ?_
  refine k_putF E.na E G wi_X1_init_X1 tyX1_ok nmX1 (0) (rfl) rfl 1 rfl fl_X1_init_X1_1 rfl rfl (by cases eb <;> rfl) (by cases eb <;> rfl) rfl ([(h0, .inr (3, [.int (bI ub), .int (bI eb), .int 0, .int 0]))]) rfl dX1_init_11 (fun H locs G => ?_)
  refine lv_aload_n E.ex E.by dX1_init_14 rfl (lv_at hl 0 rfl) ?_
  refine lv_iload_n E.ex E.by dX1_init_15 rfl (lv_at hl 3 rfl) ?_
  refine k_putF E.na E G wi_X1_init_X1 tyX1_ok nmX1 (0) (rfl) rfl 2 rfl fl_X1_init_X1_2 rfl rfl rfl rfl rfl ([(h0, .inr (3, [.int (bI ub), .int (bI eb), .int t0, .int 0]))]) rfl dX1_init_16 (fun H locs G => ?_)
  refine lv_aload_n E.ex E.by dX1_init_19 rfl (lv_at hl 0 rfl) ?_
  refine lv_iload E.ex E.by dX1_init_20 (lv_at hl 4 rfl) ?_
  refine k_putF E.na E G wi_X1_init_X1 tyX1_ok nmX1 (0) (rfl) rfl 3 rfl fl_X1_init_X1_3 rfl rfl rfl rfl rfl ([(h0, .inr (3, [.int (bI ub), .int (bI eb), .int t0, .int b0]))]) rfl dX1_init_22 (fun H locs G => ?_)
  refine k_retv (wof := (fun _ : Unit => [(h0, .inr (3, [.int (bI ub), .int (bI eb), .int t0, .int b0]))])) (u := ()) E G ?_ ?_ ?_ dX1_init_25
  · exact trivial
  · first | exact Nat.le_of_ble_eq_true rfl | omega
  · first | exact Nat.le_of_ble_eq_true rfl | omega
theorem lmo_X10_init : Cond.methodLink RX10 3 objectInit ∈ wsX10_init := List.mem_of_getElem? (i := 1) (by decide +kernel)
theorem lmi_X10_init : Cond.instanceMethod objectInit ∈ wsX10_init := List.mem_of_getElem? (i := 2) (by decide +kernel)
theorem lmc_X10_init : Cond.code objectInit ⟨#[0xb1]⟩ 1 none ∈ wsX10_init := List.mem_of_getElem? (i := 3) (by decide +kernel)
theorem wi_X10_init_X10 : ∀ w ∈ wsX100, w ∈ wsX10_init := fun w h => List.mem_cons_of_mem _ (List.mem_append_right _ (h))
theorem fl_X10_init_X10_0 : Cond.fieldLink RX10 9 (TX10 0).1 (TX10 0).2.1 (TX10 0).2.2.1 ∈ wsX10_init := List.mem_of_getElem? (i := 4) (by decide +kernel)
theorem fl_X10_init_X10_1 : Cond.fieldLink RX10 15 (TX10 1).1 (TX10 1).2.1 (TX10 1).2.2.1 ∈ wsX10_init := List.mem_of_getElem? (i := 5) (by decide +kernel)
theorem fl_X10_init_X10_2 : Cond.fieldLink RX10 19 (TX10 2).1 (TX10 2).2.1 (TX10 2).2.2.1 ∈ wsX10_init := List.mem_of_getElem? (i := 6) (by decide +kernel)
set_option maxRecDepth 100000 in
set_option maxHeartbeats 4000000 in
theorem c_X10_init (l : Launch) (D : va_G) (kc : Nat → ClassId) (h0 sa : Nat) : kCv l D (tyL kc) yX10_init wsX10_init ({ frames := 1, cells := 0, slots := 0, locals := 20 } : Room) [.ref h0, .ref sa] ([(h0, .inr (12, [.null, .int 0, .int 0]))]) (fun _ : Unit => [(h0, .inr (12, [.ref sa, .int 0, .int 0]))]) (0) (0) (fun _ => True) := by
  intro sz
  refine k_begin (cc := cX10_init) (maxL := 2) (ret := none) (by decide +kernel) rfl rfl (fun p e s m args below meth c hsz E G ls hl => ?_)
  subst hsz
  have hl : lv_has ls 2 [(0, .ref h0), (1, .ref sa)] := hl
  refine lv_aload_n E.ex E.by dX10_init_0 rfl (lv_at hl 0 rfl) ?_
  refine k_objInit E lmo_X10_init lmi_X10_init lmc_X10_init hl rfl ⟨rfl, rfl⟩ dX10_init_1 ?_
  refine lv_aload_n E.ex E.by dX10_init_4 rfl (lv_at hl 0 rfl) ?_
  refine lv_aload_n E.ex E.by dX10_init_5 rfl (lv_at hl 1 rfl) ?_
  refine k_putF E.na E G wi_X10_init_X10 tyX10_ok nmX10 (0) (rfl) rfl 0 rfl fl_X10_init_X10_0 rfl rfl rfl rfl rfl ([(h0, .inr (12, [.ref sa, .int 0, .int 0]))]) rfl dX10_init_6 (fun H locs G => ?_)
  refine lv_aload_n E.ex E.by dX10_init_9 rfl (lv_at hl 0 rfl) ?_
  refine lv_iconst (v := 0) E.ex E.by dX10_init_10 (by decide) ?_
  refine k_putX E G wi_X10_init_X10 tyX10_ok nmX10 (0) (rfl) rfl 1 rfl fl_X10_init_X10_1 rfl rfl rfl rfl ([(h0, .inr (12, [.ref sa, .int 0, .int 0]))]) rfl dX10_init_11 (fun H locs G => ?_)
  refine lv_aload_n E.ex E.by dX10_init_14 rfl (lv_at hl 0 rfl) ?_
  refine lv_iconst (v := 0) E.ex E.by dX10_init_15 (by decide) ?_
  refine k_putX E G wi_X10_init_X10 tyX10_ok nmX10 (0) (rfl) rfl 2 rfl fl_X10_init_X10_2 rfl rfl rfl rfl ([(h0, .inr (12, [.ref sa, .int 0, .int 0]))]) rfl dX10_init_16 (fun H locs G => ?_)
  refine k_retv (wof := (fun _ : Unit => [(h0, .inr (12, [.ref sa, .int 0, .int 0]))])) (u := ()) E G ?_ ?_ ?_ dX10_init_19
  · exact trivial
  · first | exact Nat.le_of_ble_eq_true rfl | omega
  · first | exact Nat.le_of_ble_eq_true rfl | omega
theorem lmo_X9_init : Cond.methodLink RX9 1 objectInit ∈ wsX9_init := List.mem_of_getElem? (i := 1) (by decide +kernel)
theorem lmi_X9_init : Cond.instanceMethod objectInit ∈ wsX9_init := List.mem_of_getElem? (i := 2) (by decide +kernel)
theorem lmc_X9_init : Cond.code objectInit ⟨#[0xb1]⟩ 1 none ∈ wsX9_init := List.mem_of_getElem? (i := 3) (by decide +kernel)
theorem wi_X9_init_X9 : ∀ w ∈ wsX90, w ∈ wsX9_init := fun w h => List.mem_cons_of_mem _ (List.mem_append_right _ (h))
theorem fl_X9_init_X9_0 : Cond.fieldLink RX9 7 (TX9 0).1 (TX9 0).2.1 (TX9 0).2.2.1 ∈ wsX9_init := List.mem_of_getElem? (i := 4) (by decide +kernel)
theorem fl_X9_init_X9_1 : Cond.fieldLink RX9 13 (TX9 1).1 (TX9 1).2.1 (TX9 1).2.2.1 ∈ wsX9_init := List.mem_of_getElem? (i := 5) (by decide +kernel)
theorem fl_X9_init_X9_2 : Cond.fieldLink RX9 17 (TX9 2).1 (TX9 2).2.1 (TX9 2).2.2.1 ∈ wsX9_init := List.mem_of_getElem? (i := 6) (by decide +kernel)
theorem fl_X9_init_X9_3 : Cond.fieldLink RX9 20 (TX9 3).1 (TX9 3).2.1 (TX9 3).2.2.1 ∈ wsX9_init := List.mem_of_getElem? (i := 7) (by decide +kernel)
theorem fl_X9_init_X9_4 : Cond.fieldLink RX9 24 (TX9 4).1 (TX9 4).2.1 (TX9 4).2.2.1 ∈ wsX9_init := List.mem_of_getElem? (i := 8) (by decide +kernel)
theorem lmmax_X9_init_30 : Cond.methodLink RX9 30 Lib.Math.max.name ∈ wsX9_init := List.mem_of_getElem? (i := 10) (by decide +kernel)
theorem lmsmax_X9_init : Cond.static Lib.Math.max.name ∈ wsX9_init := List.mem_of_getElem? (i := 11) (by decide +kernel)
theorem lmi2_X9_init : Cond.initialized "java/lang/Math" ∈ wsX9_init := List.mem_of_getElem? (i := 12) (by decide +kernel)
theorem lmcmax_X9_init : Cond.code Lib.Math.max.name Lib.Math.max.code 2 (some .int) ∈ wsX9_init := List.mem_of_getElem? (i := 13) (by decide +kernel)
theorem fl_X9_init_X9_5 : Cond.fieldLink RX9 27 (TX9 5).1 (TX9 5).2.1 (TX9 5).2.2.1 ∈ wsX9_init := List.mem_of_getElem? (i := 9) (by decide +kernel)
theorem fl_X9_init_X9_6 : Cond.fieldLink RX9 36 (TX9 6).1 (TX9 6).2.1 (TX9 6).2.2.1 ∈ wsX9_init := List.mem_of_getElem? (i := 14) (by decide +kernel)
set_option maxRecDepth 100000 in
set_option maxHeartbeats 4000000 in
theorem c_X9_init (l : Launch) (D : va_G) (kc : Nat → ClassId) (w : va_W) (h0 : Nat) (kd : Int32) (s1 d1 l1 d2 l2 : Nat) (ob o1 o2 : Option Nat) (hs : s1 < 2 ^ 30) (hd1 : d1 < 2 ^ 30) (hl1 : l1 < 2 ^ 30) (hd2 : d2 < 2 ^ 30) (hl2 : l2 < 2 ^ 30) (hN1 : NF w o1 d1 l1) (hN2 : NF w o2 d2 l2) : kCv l D (tyL kc) yX9_init wsX9_init ({ frames := 1, cells := 0, slots := 0, locals := 30 } : Room) [.ref h0, .int kd, va_rf ob, .int (nI s1), va_rf o1, va_rf o2] ([(h0, .inr (11, [.int 0, .null, .int 0, .null, .null, .int 0, .int 0]))] ++ w) (fun _ : Unit => [(h0, .inr (11, [.int kd, va_rf ob, .int (nI s1), va_rf o1, va_rf o2, .int (nI (max d1 d2 + if ob = none then 0 else 1)), .int (nI (max (max l1 l2) s1))]))] ++ w) 0 0 (fun _ => True) := by
  rcases hN1 with ⟨rfl, rfl, rfl⟩ | ⟨a1, k1, b1, t1, f1, g1, rfl, m1⟩
  · skip
    rcases hN2 with ⟨rfl, rfl, rfl⟩ | ⟨a2, k2, b2, t2, f2, g2, rfl, m2⟩
    · skip
      cases ob with
      | none =>
        intro sz
        refine k_begin (cc := cX9_init) (maxL := 8) (ret := none) (by decide +kernel) rfl rfl (fun p e s m args below meth c hsz E G ls hl => ?_)
        subst hsz
        have hl : lv_has ls 8 [(0, .ref h0), (1, .int kd), (2, .null), (3, .int (nI s1)), (4, .null), (5, .null)] := hl
        refine lv_aload_n E.ex E.by dX9_init_0 rfl (lv_at hl 0 rfl) ?_
        refine k_objInit E lmo_X9_init lmi_X9_init lmc_X9_init hl rfl ⟨rfl, rfl⟩ dX9_init_1 ?_
        refine lv_aload_n E.ex E.by dX9_init_4 rfl (lv_at hl 0 rfl) ?_
        refine lv_iload_n E.ex E.by dX9_init_5 rfl (lv_at hl 1 rfl) ?_
        refine k_putF E.na E G wi_X9_init_X9 tyX9_ok nmX9 (0) (rfl) rfl 0 rfl fl_X9_init_X9_0 rfl rfl rfl rfl rfl (([(h0, .inr (11, [.int kd, .null, .int 0, .null, .null, .int 0, .int 0]))] ++ w)) rfl dX9_init_6 (fun H locs G => ?_)
        refine lv_aload_n E.ex E.by dX9_init_9 rfl (lv_at hl 0 rfl) ?_
        refine lv_aload_nN E.ex E.by dX9_init_10 rfl (lv_at hl 2 rfl) ?_
        refine k_putF E.na E G wi_X9_init_X9 tyX9_ok nmX9 (0) (rfl) rfl 1 rfl fl_X9_init_X9_1 rfl rfl rfl rfl rfl (([(h0, .inr (11, [.int kd, .null, .int 0, .null, .null, .int 0, .int 0]))] ++ w)) rfl dX9_init_11 (fun H locs G => ?_)
        refine lv_aload_n E.ex E.by dX9_init_14 rfl (lv_at hl 0 rfl) ?_
        refine lv_iload_n E.ex E.by dX9_init_15 rfl (lv_at hl 3 rfl) ?_
        refine k_putF E.na E G wi_X9_init_X9 tyX9_ok nmX9 (0) (rfl) rfl 2 rfl fl_X9_init_X9_2 rfl rfl rfl rfl rfl (([(h0, .inr (11, [.int kd, .null, .int (nI s1), .null, .null, .int 0, .int 0]))] ++ w)) rfl dX9_init_16 (fun H locs G => ?_)
        refine lv_aload_n E.ex E.by dX9_init_19 rfl (lv_at hl 0 rfl) ?_
        refine lv_aloadN E.ex E.by dX9_init_20 (lv_at hl 4 rfl) ?_
        refine k_putF E.na E G wi_X9_init_X9 tyX9_ok nmX9 (0) (rfl) rfl 3 rfl fl_X9_init_X9_3 rfl rfl rfl rfl rfl (([(h0, .inr (11, [.int kd, .null, .int (nI s1), .null, .null, .int 0, .int 0]))] ++ w)) rfl dX9_init_22 (fun H locs G => ?_)
        refine lv_aload_n E.ex E.by dX9_init_25 rfl (lv_at hl 0 rfl) ?_
        refine lv_aloadN E.ex E.by dX9_init_26 (lv_at hl 5 rfl) ?_
        refine k_putF E.na E G wi_X9_init_X9 tyX9_ok nmX9 (0) (rfl) rfl 4 rfl fl_X9_init_X9_4 rfl rfl rfl rfl rfl (([(h0, .inr (11, [.int kd, .null, .int (nI s1), .null, .null, .int 0, .int 0]))] ++ w)) rfl dX9_init_28 (fun H locs G => ?_)
        refine lv_aloadN E.ex E.by dX9_init_31 (lv_at hl 4 rfl) ?_
        refine lv_ifnonnullN E.ex E.by dX9_init_33 ?_
        refine lv_iconst (v := 0) E.ex E.by dX9_init_36 (by decide) ?_
        refine lv_goto (tgt := 45) E.ex E.by dX9_init_37 (by decide) ?_
        refine lv_aloadN E.ex E.by dX9_init_45 (lv_at hl 5 rfl) ?_
        refine lv_ifnonnullN E.ex E.by dX9_init_47 ?_
        refine lv_iconst (v := 0) E.ex E.by dX9_init_50 (by decide) ?_
        refine lv_goto (tgt := 59) E.ex E.by dX9_init_51 (by decide) ?_
        refine va_mmax E.ex E.by (E.nl.trans hl.1.symm) E.ow (E.ts _ lmmax_X9_init_30) (E.ts _ lmsmax_X9_init) (E.ts _ lmi2_X9_init) (E.ts _ lmcmax_X9_init) (Nat.le_of_ble_eq_true rfl) (Nat.le_of_ble_eq_true rfl) (Nat.le_of_ble_eq_true rfl) (Nat.le_of_ble_eq_true rfl) dX9_init_59 ?_
        refine lv_topi (fun y1 ey1 => ?_)
        have ey1 : y1 = nI (max 0 0) := ey1.trans (jk_max (a := 0) (b := 0) (by omega) (by omega))
        subst ey1
        refine lv_istore (lv' := [(6, .int (nI (max 0 0))), (0, .ref h0), (1, .int kd), (2, .null), (3, .int (nI s1)), (4, .null), (5, .null)]) E.ex E.by dX9_init_62 hl (by decide) rfl (fun ls hl => ?_)
        refine lv_aloadN E.ex E.by dX9_init_64 (lv_at hl 5 rfl) ?_
        refine lv_ifnonnullN E.ex E.by dX9_init_66 ?_
        refine lv_iconst (v := 0) E.ex E.by dX9_init_69 (by decide) ?_
        refine lv_goto (tgt := 78) E.ex E.by dX9_init_70 (by decide) ?_
        refine lv_aloadN E.ex E.by dX9_init_78 (lv_at hl 6 rfl) ?_
        refine lv_ifnonnullN E.ex E.by dX9_init_80 ?_
        refine lv_iconst (v := 0) E.ex E.by dX9_init_83 (by decide) ?_
        refine lv_goto (tgt := 92) E.ex E.by dX9_init_84 (by decide) ?_
        refine va_mmax E.ex E.by (E.nl.trans hl.1.symm) E.ow (E.ts _ lmmax_X9_init_30) (E.ts _ lmsmax_X9_init) (E.ts _ lmi2_X9_init) (E.ts _ lmcmax_X9_init) (Nat.le_of_ble_eq_true rfl) (Nat.le_of_ble_eq_true rfl) (Nat.le_of_ble_eq_true rfl) (Nat.le_of_ble_eq_true rfl) dX9_init_92 ?_
        refine lv_topi (fun y2 ey2 => ?_)
        have ey2 : y2 = nI (max 0 0) := ey2.trans (jk_max (a := 0) (b := 0) (by omega) (by omega))
        subst ey2
        refine lv_istore (lv' := [(7, .int (nI (max 0 0))), (6, .int (nI (max 0 0))), (0, .ref h0), (1, .int kd), (2, .null), (3, .int (nI s1)), (4, .null), (5, .null)]) E.ex E.by dX9_init_95 hl (by decide) rfl (fun ls hl => ?_)
        refine lv_aload_n E.ex E.by dX9_init_97 rfl (lv_at hl 2 rfl) ?_
        refine lv_aload_nN E.ex E.by dX9_init_98 rfl (lv_at hl 4 rfl) ?_
        refine lv_ifnonnullN E.ex E.by dX9_init_99 ?_
        refine lv_iload E.ex E.by dX9_init_102 (lv_at hl 1 rfl) ?_
        refine lv_goto (tgt := 111) E.ex E.by dX9_init_104 (by decide) ?_
        refine k_putF E.na E G wi_X9_init_X9 tyX9_ok nmX9 (0) (rfl) rfl 5 rfl fl_X9_init_X9_5 rfl rfl rfl rfl rfl (([(h0, .inr (11, [.int kd, .null, .int (nI s1), .null, .null, .int (nI (max 0 0)), .int 0]))] ++ w)) rfl dX9_init_111 (fun H locs G => ?_)
        refine lv_aload_n E.ex E.by dX9_init_114 rfl (lv_at hl 2 rfl) ?_
        refine lv_iload E.ex E.by dX9_init_115 (lv_at hl 0 rfl) ?_
        refine lv_iload_n E.ex E.by dX9_init_117 rfl (lv_at hl 5 rfl) ?_
        refine va_mmax E.ex E.by (E.nl.trans hl.1.symm) E.ow (E.ts _ lmmax_X9_init_30) (E.ts _ lmsmax_X9_init) (E.ts _ lmi2_X9_init) (E.ts _ lmcmax_X9_init) (Nat.le_of_ble_eq_true rfl) (Nat.le_of_ble_eq_true rfl) (Nat.le_of_ble_eq_true rfl) (Nat.le_of_ble_eq_true rfl) dX9_init_118 ?_
        refine lv_topi (fun y3 ey3 => ?_)
        have ey3 : y3 = nI (max (max 0 0) s1) := ey3.trans (jk_max (by omega) (by omega))
        subst ey3
        refine k_putF E.na E G wi_X9_init_X9 tyX9_ok nmX9 (0) (rfl) rfl 6 rfl fl_X9_init_X9_6 rfl rfl rfl rfl rfl (([(h0, .inr (11, [.int kd, .null, .int (nI s1), .null, .null, .int (nI (max 0 0)), .int (nI (max (max 0 0) s1))]))] ++ w)) rfl dX9_init_121 (fun H locs G => ?_)
        have G : kG D _ s ((fun _ : Unit => [(h0, .inr (11, [.int kd, va_rf none, .int (nI s1), va_rf none, va_rf none, .int (nI (max 0 0 + if (none : Option Nat) = none then 0 else 1)), .int (nI (max (max 0 0) s1))]))] ++ w) ()) H _ := G.cg (by simp [va_rf])
        refine k_retv (wof := (fun _ : Unit => [(h0, .inr (11, [.int kd, va_rf none, .int (nI s1), va_rf none, va_rf none, .int (nI (max 0 0 + if (none : Option Nat) = none then 0 else 1)), .int (nI (max (max 0 0) s1))]))] ++ w)) (u := ()) E G ?_ ?_ ?_ dX9_init_124
        · exact trivial
        · first | exact Nat.le_of_ble_eq_true rfl | omega
        · first | exact Nat.le_of_ble_eq_true rfl | omega
      | some b0 =>
        intro sz
        refine k_begin (cc := cX9_init) (maxL := 8) (ret := none) (by decide +kernel) rfl rfl (fun p e s m args below meth c hsz E G ls hl => ?_)
        subst hsz
        have hl : lv_has ls 8 [(0, .ref h0), (1, .int kd), (2, .ref b0), (3, .int (nI s1)), (4, .null), (5, .null)] := hl
        refine lv_aload_n E.ex E.by dX9_init_0 rfl (lv_at hl 0 rfl) ?_
        refine k_objInit E lmo_X9_init lmi_X9_init lmc_X9_init hl rfl ⟨rfl, rfl⟩ dX9_init_1 ?_
        refine lv_aload_n E.ex E.by dX9_init_4 rfl (lv_at hl 0 rfl) ?_
        refine lv_iload_n E.ex E.by dX9_init_5 rfl (lv_at hl 1 rfl) ?_
        refine k_putF E.na E G wi_X9_init_X9 tyX9_ok nmX9 (0) (rfl) rfl 0 rfl fl_X9_init_X9_0 rfl rfl rfl rfl rfl (([(h0, .inr (11, [.int kd, .null, .int 0, .null, .null, .int 0, .int 0]))] ++ w)) rfl dX9_init_6 (fun H locs G => ?_)
        refine lv_aload_n E.ex E.by dX9_init_9 rfl (lv_at hl 0 rfl) ?_
        refine lv_aload_n E.ex E.by dX9_init_10 rfl (lv_at hl 2 rfl) ?_
        refine k_putF E.na E G wi_X9_init_X9 tyX9_ok nmX9 (0) (rfl) rfl 1 rfl fl_X9_init_X9_1 rfl rfl rfl rfl rfl (([(h0, .inr (11, [.int kd, .ref b0, .int 0, .null, .null, .int 0, .int 0]))] ++ w)) rfl dX9_init_11 (fun H locs G => ?_)
        refine lv_aload_n E.ex E.by dX9_init_14 rfl (lv_at hl 0 rfl) ?_
        refine lv_iload_n E.ex E.by dX9_init_15 rfl (lv_at hl 3 rfl) ?_
        refine k_putF E.na E G wi_X9_init_X9 tyX9_ok nmX9 (0) (rfl) rfl 2 rfl fl_X9_init_X9_2 rfl rfl rfl rfl rfl (([(h0, .inr (11, [.int kd, .ref b0, .int (nI s1), .null, .null, .int 0, .int 0]))] ++ w)) rfl dX9_init_16 (fun H locs G => ?_)
        refine lv_aload_n E.ex E.by dX9_init_19 rfl (lv_at hl 0 rfl) ?_
        refine lv_aloadN E.ex E.by dX9_init_20 (lv_at hl 4 rfl) ?_
        refine k_putF E.na E G wi_X9_init_X9 tyX9_ok nmX9 (0) (rfl) rfl 3 rfl fl_X9_init_X9_3 rfl rfl rfl rfl rfl (([(h0, .inr (11, [.int kd, .ref b0, .int (nI s1), .null, .null, .int 0, .int 0]))] ++ w)) rfl dX9_init_22 (fun H locs G => ?_)
        refine lv_aload_n E.ex E.by dX9_init_25 rfl (lv_at hl 0 rfl) ?_
        refine lv_aloadN E.ex E.by dX9_init_26 (lv_at hl 5 rfl) ?_
        refine k_putF E.na E G wi_X9_init_X9 tyX9_ok nmX9 (0) (rfl) rfl 4 rfl fl_X9_init_X9_4 rfl rfl rfl rfl rfl (([(h0, .inr (11, [.int kd, .ref b0, .int (nI s1), .null, .null, .int 0, .int 0]))] ++ w)) rfl dX9_init_28 (fun H locs G => ?_)
        refine lv_aloadN E.ex E.by dX9_init_31 (lv_at hl 4 rfl) ?_
        refine lv_ifnonnullN E.ex E.by dX9_init_33 ?_
        refine lv_iconst (v := 0) E.ex E.by dX9_init_36 (by decide) ?_
        refine lv_goto (tgt := 45) E.ex E.by dX9_init_37 (by decide) ?_
        refine lv_aloadN E.ex E.by dX9_init_45 (lv_at hl 5 rfl) ?_
        refine lv_ifnonnullN E.ex E.by dX9_init_47 ?_
        refine lv_iconst (v := 0) E.ex E.by dX9_init_50 (by decide) ?_
        refine lv_goto (tgt := 59) E.ex E.by dX9_init_51 (by decide) ?_
        refine va_mmax E.ex E.by (E.nl.trans hl.1.symm) E.ow (E.ts _ lmmax_X9_init_30) (E.ts _ lmsmax_X9_init) (E.ts _ lmi2_X9_init) (E.ts _ lmcmax_X9_init) (Nat.le_of_ble_eq_true rfl) (Nat.le_of_ble_eq_true rfl) (Nat.le_of_ble_eq_true rfl) (Nat.le_of_ble_eq_true rfl) dX9_init_59 ?_
        refine lv_topi (fun y1 ey1 => ?_)
        have ey1 : y1 = nI (max 0 0) := ey1.trans (jk_max (a := 0) (b := 0) (by omega) (by omega))
        subst ey1
        refine lv_istore (lv' := [(6, .int (nI (max 0 0))), (0, .ref h0), (1, .int kd), (2, .ref b0), (3, .int (nI s1)), (4, .null), (5, .null)]) E.ex E.by dX9_init_62 hl (by decide) rfl (fun ls hl => ?_)
        refine lv_aloadN E.ex E.by dX9_init_64 (lv_at hl 5 rfl) ?_
        refine lv_ifnonnullN E.ex E.by dX9_init_66 ?_
        refine lv_iconst (v := 0) E.ex E.by dX9_init_69 (by decide) ?_
        refine lv_goto (tgt := 78) E.ex E.by dX9_init_70 (by decide) ?_
        refine lv_aloadN E.ex E.by dX9_init_78 (lv_at hl 6 rfl) ?_
        refine lv_ifnonnullN E.ex E.by dX9_init_80 ?_
        refine lv_iconst (v := 0) E.ex E.by dX9_init_83 (by decide) ?_
        refine lv_goto (tgt := 92) E.ex E.by dX9_init_84 (by decide) ?_
        refine va_mmax E.ex E.by (E.nl.trans hl.1.symm) E.ow (E.ts _ lmmax_X9_init_30) (E.ts _ lmsmax_X9_init) (E.ts _ lmi2_X9_init) (E.ts _ lmcmax_X9_init) (Nat.le_of_ble_eq_true rfl) (Nat.le_of_ble_eq_true rfl) (Nat.le_of_ble_eq_true rfl) (Nat.le_of_ble_eq_true rfl) dX9_init_92 ?_
        refine lv_topi (fun y2 ey2 => ?_)
        have ey2 : y2 = nI (max 0 0) := ey2.trans (jk_max (a := 0) (b := 0) (by omega) (by omega))
        subst ey2
        refine lv_istore (lv' := [(7, .int (nI (max 0 0))), (6, .int (nI (max 0 0))), (0, .ref h0), (1, .int kd), (2, .ref b0), (3, .int (nI s1)), (4, .null), (5, .null)]) E.ex E.by dX9_init_95 hl (by decide) rfl (fun ls hl => ?_)
        refine lv_aload_n E.ex E.by dX9_init_97 rfl (lv_at hl 2 rfl) ?_
        refine lv_aload_n E.ex E.by dX9_init_98 rfl (lv_at hl 4 rfl) ?_
        refine lv_ifnonnull (tgt := 107) E.ex E.by dX9_init_99 (by decide) ?_
        refine lv_iload E.ex E.by dX9_init_107 (lv_at hl 1 rfl) ?_
        refine lv_iconst (v := 1) E.ex E.by dX9_init_109 (by decide) ?_
        refine lv_iadd E.ex E.by dX9_init_110 ?_
        refine lv_topi (fun y3 ey3 => ?_)
        have ey3 : y3 = nI (max 0 0 + 1) := ey3.trans (nI_1 _)
        subst ey3
        refine k_putF E.na E G wi_X9_init_X9 tyX9_ok nmX9 (0) (rfl) rfl 5 rfl fl_X9_init_X9_5 rfl rfl rfl rfl rfl (([(h0, .inr (11, [.int kd, .ref b0, .int (nI s1), .null, .null, .int (nI (max 0 0 + 1)), .int 0]))] ++ w)) rfl dX9_init_111 (fun H locs G => ?_)
        refine lv_aload_n E.ex E.by dX9_init_114 rfl (lv_at hl 2 rfl) ?_
        refine lv_iload E.ex E.by dX9_init_115 (lv_at hl 0 rfl) ?_
        refine lv_iload_n E.ex E.by dX9_init_117 rfl (lv_at hl 5 rfl) ?_
        refine va_mmax E.ex E.by (E.nl.trans hl.1.symm) E.ow (E.ts _ lmmax_X9_init_30) (E.ts _ lmsmax_X9_init) (E.ts _ lmi2_X9_init) (E.ts _ lmcmax_X9_init) (Nat.le_of_ble_eq_true rfl) (Nat.le_of_ble_eq_true rfl) (Nat.le_of_ble_eq_true rfl) (Nat.le_of_ble_eq_true rfl) dX9_init_118 ?_
        refine lv_topi (fun y4 ey4 => ?_)
        have ey4 : y4 = nI (max (max 0 0) s1) := ey4.trans (jk_max (by omega) (by omega))
        subst ey4
        refine k_putF E.na E G wi_X9_init_X9 tyX9_ok nmX9 (0) (rfl) rfl 6 rfl fl_X9_init_X9_6 rfl rfl rfl rfl rfl (([(h0, .inr (11, [.int kd, .ref b0, .int (nI s1), .null, .null, .int (nI (max 0 0 + 1)), .int (nI (max (max 0 0) s1))]))] ++ w)) rfl dX9_init_121 (fun H locs G => ?_)
        have G : kG D _ s ((fun _ : Unit => [(h0, .inr (11, [.int kd, va_rf (some b0), .int (nI s1), va_rf none, va_rf none, .int (nI (max 0 0 + if (some b0) = none then 0 else 1)), .int (nI (max (max 0 0) s1))]))] ++ w) ()) H _ := G.cg (by simp [va_rf])
        refine k_retv (wof := (fun _ : Unit => [(h0, .inr (11, [.int kd, va_rf (some b0), .int (nI s1), va_rf none, va_rf none, .int (nI (max 0 0 + if (some b0) = none then 0 else 1)), .int (nI (max (max 0 0) s1))]))] ++ w)) (u := ()) E G ?_ ?_ ?_ dX9_init_124
        · exact trivial
        · first | exact Nat.le_of_ble_eq_true rfl | omega
        · first | exact Nat.le_of_ble_eq_true rfl | omega
    · obtain ⟨q2, e2⟩ := List.mem_iff_getElem?.mp m2
      cases ob with
      | none =>
        intro sz
        refine k_begin (cc := cX9_init) (maxL := 8) (ret := none) (by decide +kernel) rfl rfl (fun p e s m args below meth c hsz E G ls hl => ?_)
        subst hsz
        have hl : lv_has ls 8 [(0, .ref h0), (1, .int kd), (2, .null), (3, .int (nI s1)), (4, .null), (5, .ref a2)] := hl
        refine lv_aload_n E.ex E.by dX9_init_0 rfl (lv_at hl 0 rfl) ?_
        refine k_objInit E lmo_X9_init lmi_X9_init lmc_X9_init hl rfl ⟨rfl, rfl⟩ dX9_init_1 ?_
        refine lv_aload_n E.ex E.by dX9_init_4 rfl (lv_at hl 0 rfl) ?_
        refine lv_iload_n E.ex E.by dX9_init_5 rfl (lv_at hl 1 rfl) ?_
        refine k_putF E.na E G wi_X9_init_X9 tyX9_ok nmX9 (0) (rfl) rfl 0 rfl fl_X9_init_X9_0 rfl rfl rfl rfl rfl (([(h0, .inr (11, [.int kd, .null, .int 0, .null, .null, .int 0, .int 0]))] ++ w)) rfl dX9_init_6 (fun H locs G => ?_)
        refine lv_aload_n E.ex E.by dX9_init_9 rfl (lv_at hl 0 rfl) ?_
        refine lv_aload_nN E.ex E.by dX9_init_10 rfl (lv_at hl 2 rfl) ?_
        refine k_putF E.na E G wi_X9_init_X9 tyX9_ok nmX9 (0) (rfl) rfl 1 rfl fl_X9_init_X9_1 rfl rfl rfl rfl rfl (([(h0, .inr (11, [.int kd, .null, .int 0, .null, .null, .int 0, .int 0]))] ++ w)) rfl dX9_init_11 (fun H locs G => ?_)
        refine lv_aload_n E.ex E.by dX9_init_14 rfl (lv_at hl 0 rfl) ?_
        refine lv_iload_n E.ex E.by dX9_init_15 rfl (lv_at hl 3 rfl) ?_
        refine k_putF E.na E G wi_X9_init_X9 tyX9_ok nmX9 (0) (rfl) rfl 2 rfl fl_X9_init_X9_2 rfl rfl rfl rfl rfl (([(h0, .inr (11, [.int kd, .null, .int (nI s1), .null, .null, .int 0, .int 0]))] ++ w)) rfl dX9_init_16 (fun H locs G => ?_)
        refine lv_aload_n E.ex E.by dX9_init_19 rfl (lv_at hl 0 rfl) ?_
        refine lv_aloadN E.ex E.by dX9_init_20 (lv_at hl 4 rfl) ?_
        refine k_putF E.na E G wi_X9_init_X9 tyX9_ok nmX9 (0) (rfl) rfl 3 rfl fl_X9_init_X9_3 rfl rfl rfl rfl rfl (([(h0, .inr (11, [.int kd, .null, .int (nI s1), .null, .null, .int 0, .int 0]))] ++ w)) rfl dX9_init_22 (fun H locs G => ?_)
        refine lv_aload_n E.ex E.by dX9_init_25 rfl (lv_at hl 0 rfl) ?_
        refine lv_aload E.ex E.by dX9_init_26 (lv_at hl 5 rfl) ?_
        refine k_putF E.na E G wi_X9_init_X9 tyX9_ok nmX9 (0) (rfl) rfl 4 rfl fl_X9_init_X9_4 rfl rfl rfl rfl rfl (([(h0, .inr (11, [.int kd, .null, .int (nI s1), .null, .ref a2, .int 0, .int 0]))] ++ w)) rfl dX9_init_28 (fun H locs G => ?_)
        refine lv_aloadN E.ex E.by dX9_init_31 (lv_at hl 4 rfl) ?_
        refine lv_ifnonnullN E.ex E.by dX9_init_33 ?_
        refine lv_iconst (v := 0) E.ex E.by dX9_init_36 (by decide) ?_
        refine lv_goto (tgt := 45) E.ex E.by dX9_init_37 (by decide) ?_
        refine lv_aload E.ex E.by dX9_init_45 (lv_at hl 5 rfl) ?_
        refine lv_ifnonnull (tgt := 54) E.ex E.by dX9_init_47 (by decide) ?_
        refine lv_aload E.ex E.by dX9_init_54 (lv_at hl 5 rfl) ?_
        refine k_get E G wi_X9_init_X9 (q2 + 1) (va_gC e2) rfl 5 rfl fl_X9_init_X9_5 (v := .int (nI d2)) rfl dX9_init_56 ?_
        refine va_mmax E.ex E.by (E.nl.trans hl.1.symm) E.ow (E.ts _ lmmax_X9_init_30) (E.ts _ lmsmax_X9_init) (E.ts _ lmi2_X9_init) (E.ts _ lmcmax_X9_init) (Nat.le_of_ble_eq_true rfl) (Nat.le_of_ble_eq_true rfl) (Nat.le_of_ble_eq_true rfl) (Nat.le_of_ble_eq_true rfl) dX9_init_59 ?_
        refine lv_topi (fun y1 ey1 => ?_)
        have ey1 : y1 = nI (max 0 d2) := ey1.trans (jk_max (a := 0) (b := d2) (by omega) (by omega))
        subst ey1
        refine lv_istore (lv' := [(6, .int (nI (max 0 d2))), (0, .ref h0), (1, .int kd), (2, .null), (3, .int (nI s1)), (4, .null), (5, .ref a2)]) E.ex E.by dX9_init_62 hl (by decide) rfl (fun ls hl => ?_)
        refine lv_aloadN E.ex E.by dX9_init_64 (lv_at hl 5 rfl) ?_
        refine lv_ifnonnullN E.ex E.by dX9_init_66 ?_
        refine lv_iconst (v := 0) E.ex E.by dX9_init_69 (by decide) ?_
        refine lv_goto (tgt := 78) E.ex E.by dX9_init_70 (by decide) ?_
        refine lv_aload E.ex E.by dX9_init_78 (lv_at hl 6 rfl) ?_
        refine lv_ifnonnull (tgt := 87) E.ex E.by dX9_init_80 (by decide) ?_
        refine lv_aload E.ex E.by dX9_init_87 (lv_at hl 6 rfl) ?_
        refine k_get E G wi_X9_init_X9 (q2 + 1) (va_gC e2) rfl 6 rfl fl_X9_init_X9_6 (v := .int (nI l2)) rfl dX9_init_89 ?_
        refine va_mmax E.ex E.by (E.nl.trans hl.1.symm) E.ow (E.ts _ lmmax_X9_init_30) (E.ts _ lmsmax_X9_init) (E.ts _ lmi2_X9_init) (E.ts _ lmcmax_X9_init) (Nat.le_of_ble_eq_true rfl) (Nat.le_of_ble_eq_true rfl) (Nat.le_of_ble_eq_true rfl) (Nat.le_of_ble_eq_true rfl) dX9_init_92 ?_
        refine lv_topi (fun y2 ey2 => ?_)
        have ey2 : y2 = nI (max 0 l2) := ey2.trans (jk_max (a := 0) (b := l2) (by omega) (by omega))
        subst ey2
        refine lv_istore (lv' := [(7, .int (nI (max 0 l2))), (6, .int (nI (max 0 d2))), (0, .ref h0), (1, .int kd), (2, .null), (3, .int (nI s1)), (4, .null), (5, .ref a2)]) E.ex E.by dX9_init_95 hl (by decide) rfl (fun ls hl => ?_)
        refine lv_aload_n E.ex E.by dX9_init_97 rfl (lv_at hl 2 rfl) ?_
        refine lv_aload_nN E.ex E.by dX9_init_98 rfl (lv_at hl 4 rfl) ?_
        refine lv_ifnonnullN E.ex E.by dX9_init_99 ?_
        refine lv_iload E.ex E.by dX9_init_102 (lv_at hl 1 rfl) ?_
        refine lv_goto (tgt := 111) E.ex E.by dX9_init_104 (by decide) ?_
        refine k_putF E.na E G wi_X9_init_X9 tyX9_ok nmX9 (0) (rfl) rfl 5 rfl fl_X9_init_X9_5 rfl rfl rfl rfl rfl (([(h0, .inr (11, [.int kd, .null, .int (nI s1), .null, .ref a2, .int (nI (max 0 d2)), .int 0]))] ++ w)) rfl dX9_init_111 (fun H locs G => ?_)
        refine lv_aload_n E.ex E.by dX9_init_114 rfl (lv_at hl 2 rfl) ?_
        refine lv_iload E.ex E.by dX9_init_115 (lv_at hl 0 rfl) ?_
        refine lv_iload_n E.ex E.by dX9_init_117 rfl (lv_at hl 5 rfl) ?_
        refine va_mmax E.ex E.by (E.nl.trans hl.1.symm) E.ow (E.ts _ lmmax_X9_init_30) (E.ts _ lmsmax_X9_init) (E.ts _ lmi2_X9_init) (E.ts _ lmcmax_X9_init) (Nat.le_of_ble_eq_true rfl) (Nat.le_of_ble_eq_true rfl) (Nat.le_of_ble_eq_true rfl) (Nat.le_of_ble_eq_true rfl) dX9_init_118 ?_
        refine lv_topi (fun y3 ey3 => ?_)
        have ey3 : y3 = nI (max (max 0 l2) s1) := ey3.trans (jk_max (by omega) (by omega))
        subst ey3
        refine k_putF E.na E G wi_X9_init_X9 tyX9_ok nmX9 (0) (rfl) rfl 6 rfl fl_X9_init_X9_6 rfl rfl rfl rfl rfl (([(h0, .inr (11, [.int kd, .null, .int (nI s1), .null, .ref a2, .int (nI (max 0 d2)), .int (nI (max (max 0 l2) s1))]))] ++ w)) rfl dX9_init_121 (fun H locs G => ?_)
        have G : kG D _ s ((fun _ : Unit => [(h0, .inr (11, [.int kd, va_rf none, .int (nI s1), va_rf none, va_rf (some a2), .int (nI (max 0 d2 + if (none : Option Nat) = none then 0 else 1)), .int (nI (max (max 0 l2) s1))]))] ++ w) ()) H _ := G.cg (by simp [va_rf])
        refine k_retv (wof := (fun _ : Unit => [(h0, .inr (11, [.int kd, va_rf none, .int (nI s1), va_rf none, va_rf (some a2), .int (nI (max 0 d2 + if (none : Option Nat) = none then 0 else 1)), .int (nI (max (max 0 l2) s1))]))] ++ w)) (u := ()) E G ?_ ?_ ?_ dX9_init_124
        · exact trivial
        · first | exact Nat.le_of_ble_eq_true rfl | omega
        · first | exact Nat.le_of_ble_eq_true rfl | omega
      | some b0 =>
        intro sz
        refine k_begin (cc := cX9_init) (maxL := 8) (ret := none) (by decide +kernel) rfl rfl (fun p e s m args below meth c hsz E G ls hl => ?_)
        subst hsz
        have hl : lv_has ls 8 [(0, .ref h0), (1, .int kd), (2, .ref b0), (3, .int (nI s1)), (4, .null), (5, .ref a2)] := hl
        refine lv_aload_n E.ex E.by dX9_init_0 rfl (lv_at hl 0 rfl) ?_
        refine k_objInit E lmo_X9_init lmi_X9_init lmc_X9_init hl rfl ⟨rfl, rfl⟩ dX9_init_1 ?_
        refine lv_aload_n E.ex E.by dX9_init_4 rfl (lv_at hl 0 rfl) ?_
        refine lv_iload_n E.ex E.by dX9_init_5 rfl (lv_at hl 1 rfl) ?_
        refine k_putF E.na E G wi_X9_init_X9 tyX9_ok nmX9 (0) (rfl) rfl 0 rfl fl_X9_init_X9_0 rfl rfl rfl rfl rfl (([(h0, .inr (11, [.int kd, .null, .int 0, .null, .null, .int 0, .int 0]))] ++ w)) rfl dX9_init_6 (fun H locs G => ?_)
        refine lv_aload_n E.ex E.by dX9_init_9 rfl (lv_at hl 0 rfl) ?_
        refine lv_aload_n E.ex E.by dX9_init_10 rfl (lv_at hl 2 rfl) ?_
        refine k_putF E.na E G wi_X9_init_X9 tyX9_ok nmX9 (0) (rfl) rfl 1 rfl fl_X9_init_X9_1 rfl rfl rfl rfl rfl (([(h0, .inr (11, [.int kd, .ref b0, .int 0, .null, .null, .int 0, .int 0]))] ++ w)) rfl dX9_init_11 (fun H locs G => ?_)
        refine lv_aload_n E.ex E.by dX9_init_14 rfl (lv_at hl 0 rfl) ?_
        refine lv_iload_n E.ex E.by dX9_init_15 rfl (lv_at hl 3 rfl) ?_
        refine k_putF E.na E G wi_X9_init_X9 tyX9_ok nmX9 (0) (rfl) rfl 2 rfl fl_X9_init_X9_2 rfl rfl rfl rfl rfl (([(h0, .inr (11, [.int kd, .ref b0, .int (nI s1), .null, .null, .int 0, .int 0]))] ++ w)) rfl dX9_init_16 (fun H locs G => ?_)
        refine lv_aload_n E.ex E.by dX9_init_19 rfl (lv_at hl 0 rfl) ?_
        refine lv_aloadN E.ex E.by dX9_init_20 (lv_at hl 4 rfl) ?_
        refine k_putF E.na E G wi_X9_init_X9 tyX9_ok nmX9 (0) (rfl) rfl 3 rfl fl_X9_init_X9_3 rfl rfl rfl rfl rfl (([(h0, .inr (11, [.int kd, .ref b0, .int (nI s1), .null, .null, .int 0, .int 0]))] ++ w)) rfl dX9_init_22 (fun H locs G => ?_)
        refine lv_aload_n E.ex E.by dX9_init_25 rfl (lv_at hl 0 rfl) ?_
        refine lv_aload E.ex E.by dX9_init_26 (lv_at hl 5 rfl) ?_
        refine k_putF E.na E G wi_X9_init_X9 tyX9_ok nmX9 (0) (rfl) rfl 4 rfl fl_X9_init_X9_4 rfl rfl rfl rfl rfl (([(h0, .inr (11, [.int kd, .ref b0, .int (nI s1), .null, .ref a2, .int 0, .int 0]))] ++ w)) rfl dX9_init_28 (fun H locs G => ?_)
        refine lv_aloadN E.ex E.by dX9_init_31 (lv_at hl 4 rfl) ?_
        refine lv_ifnonnullN E.ex E.by dX9_init_33 ?_
        refine lv_iconst (v := 0) E.ex E.by dX9_init_36 (by decide) ?_
        refine lv_goto (tgt := 45) E.ex E.by dX9_init_37 (by decide) ?_
        refine lv_aload E.ex E.by dX9_init_45 (lv_at hl 5 rfl) ?_
        refine lv_ifnonnull (tgt := 54) E.ex E.by dX9_init_47 (by decide) ?_
        refine lv_aload E.ex E.by dX9_init_54 (lv_at hl 5 rfl) ?_
        refine k_get E G wi_X9_init_X9 (q2 + 1) (va_gC e2) rfl 5 rfl fl_X9_init_X9_5 (v := .int (nI d2)) rfl dX9_init_56 ?_
        refine va_mmax E.ex E.by (E.nl.trans hl.1.symm) E.ow (E.ts _ lmmax_X9_init_30) (E.ts _ lmsmax_X9_init) (E.ts _ lmi2_X9_init) (E.ts _ lmcmax_X9_init) (Nat.le_of_ble_eq_true rfl) (Nat.le_of_ble_eq_true rfl) (Nat.le_of_ble_eq_true rfl) (Nat.le_of_ble_eq_true rfl) dX9_init_59 ?_
        refine lv_topi (fun y1 ey1 => ?_)
        have ey1 : y1 = nI (max 0 d2) := ey1.trans (jk_max (a := 0) (b := d2) (by omega) (by omega))
        subst ey1
        refine lv_istore (lv' := [(6, .int (nI (max 0 d2))), (0, .ref h0), (1, .int kd), (2, .ref b0), (3, .int (nI s1)), (4, .null), (5, .ref a2)]) E.ex E.by dX9_init_62 hl (by decide) rfl (fun ls hl => ?_)
        refine lv_aloadN E.ex E.by dX9_init_64 (lv_at hl 5 rfl) ?_
        refine lv_ifnonnullN E.ex E.by dX9_init_66 ?_
        refine lv_iconst (v := 0) E.ex E.by dX9_init_69 (by decide) ?_
        refine lv_goto (tgt := 78) E.ex E.by dX9_init_70 (by decide) ?_
        refine lv_aload E.ex E.by dX9_init_78 (lv_at hl 6 rfl) ?_
        refine lv_ifnonnull (tgt := 87) E.ex E.by dX9_init_80 (by decide) ?_
        refine lv_aload E.ex E.by dX9_init_87 (lv_at hl 6 rfl) ?_
        refine k_get E G wi_X9_init_X9 (q2 + 1) (va_gC e2) rfl 6 rfl fl_X9_init_X9_6 (v := .int (nI l2)) rfl dX9_init_89 ?_
        refine va_mmax E.ex E.by (E.nl.trans hl.1.symm) E.ow (E.ts _ lmmax_X9_init_30) (E.ts _ lmsmax_X9_init) (E.ts _ lmi2_X9_init) (E.ts _ lmcmax_X9_init) (Nat.le_of_ble_eq_true rfl) (Nat.le_of_ble_eq_true rfl) (Nat.le_of_ble_eq_true rfl) (Nat.le_of_ble_eq_true rfl) dX9_init_92 ?_
        refine lv_topi (fun y2 ey2 => ?_)
        have ey2 : y2 = nI (max 0 l2) := ey2.trans (jk_max (a := 0) (b := l2) (by omega) (by omega))
        subst ey2
        refine lv_istore (lv' := [(7, .int (nI (max 0 l2))), (6, .int (nI (max 0 d2))), (0, .ref h0), (1, .int kd), (2, .ref b0), (3, .int (nI s1)), (4, .null), (5, .ref a2)]) E.ex E.by dX9_init_95 hl (by decide) rfl (fun ls hl => ?_)
        refine lv_aload_n E.ex E.by dX9_init_97 rfl (lv_at hl 2 rfl) ?_
        refine lv_aload_n E.ex E.by dX9_init_98 rfl (lv_at hl 4 rfl) ?_
        refine lv_ifnonnull (tgt := 107) E.ex E.by dX9_init_99 (by decide) ?_
        refine lv_iload E.ex E.by dX9_init_107 (lv_at hl 1 rfl) ?_
        refine lv_iconst (v := 1) E.ex E.by dX9_init_109 (by decide) ?_
        refine lv_iadd E.ex E.by dX9_init_110 ?_
        refine lv_topi (fun y3 ey3 => ?_)
        have ey3 : y3 = nI (max 0 d2 + 1) := ey3.trans (nI_1 _)
        subst ey3
        refine k_putF E.na E G wi_X9_init_X9 tyX9_ok nmX9 (0) (rfl) rfl 5 rfl fl_X9_init_X9_5 rfl rfl rfl rfl rfl (([(h0, .inr (11, [.int kd, .ref b0, .int (nI s1), .null, .ref a2, .int (nI (max 0 d2 + 1)), .int 0]))] ++ w)) rfl dX9_init_111 (fun H locs G => ?_)
        refine lv_aload_n E.ex E.by dX9_init_114 rfl (lv_at hl 2 rfl) ?_
        refine lv_iload E.ex E.by dX9_init_115 (lv_at hl 0 rfl) ?_
        refine lv_iload_n E.ex E.by dX9_init_117 rfl (lv_at hl 5 rfl) ?_
        refine va_mmax E.ex E.by (E.nl.trans hl.1.symm) E.ow (E.ts _ lmmax_X9_init_30) (E.ts _ lmsmax_X9_init) (E.ts _ lmi2_X9_init) (E.ts _ lmcmax_X9_init) (Nat.le_of_ble_eq_true rfl) (Nat.le_of_ble_eq_true rfl) (Nat.le_of_ble_eq_true rfl) (Nat.le_of_ble_eq_true rfl) dX9_init_118 ?_
        refine lv_topi (fun y4 ey4 => ?_)
        have ey4 : y4 = nI (max (max 0 l2) s1) := ey4.trans (jk_max (by omega) (by omega))
        subst ey4
        refine k_putF E.na E G wi_X9_init_X9 tyX9_ok nmX9 (0) (rfl) rfl 6 rfl fl_X9_init_X9_6 rfl rfl rfl rfl rfl (([(h0, .inr (11, [.int kd, .ref b0, .int (nI s1), .null, .ref a2, .int (nI (max 0 d2 + 1)), .int (nI (max (max 0 l2) s1))]))] ++ w)) rfl dX9_init_121 (fun H locs G => ?_)
        have G : kG D _ s ((fun _ : Unit => [(h0, .inr (11, [.int kd, va_rf (some b0), .int (nI s1), va_rf none, va_rf (some a2), .int (nI (max 0 d2 + if (some b0) = none then 0 else 1)), .int (nI (max (max 0 l2) s1))]))] ++ w) ()) H _ := G.cg (by simp [va_rf])
        refine k_retv (wof := (fun _ : Unit => [(h0, .inr (11, [.int kd, va_rf (some b0), .int (nI s1), va_rf none, va_rf (some a2), .int (nI (max 0 d2 + if (some b0) = none then 0 else 1)), .int (nI (max (max 0 l2) s1))]))] ++ w)) (u := ()) E G ?_ ?_ ?_ dX9_init_124
        · exact trivial
        · first | exact Nat.le_of_ble_eq_true rfl | omega
        · first | exact Nat.le_of_ble_eq_true rfl | omega
  · obtain ⟨q1, e1⟩ := List.mem_iff_getElem?.mp m1
    rcases hN2 with ⟨rfl, rfl, rfl⟩ | ⟨a2, k2, b2, t2, f2, g2, rfl, m2⟩
    · skip
      cases ob with
      | none =>
        intro sz
        refine k_begin (cc := cX9_init) (maxL := 8) (ret := none) (by decide +kernel) rfl rfl (fun p e s m args below meth c hsz E G ls hl => ?_)
        subst hsz
        have hl : lv_has ls 8 [(0, .ref h0), (1, .int kd), (2, .null), (3, .int (nI s1)), (4, .ref a1), (5, .null)] := hl
        refine lv_aload_n E.ex E.by dX9_init_0 rfl (lv_at hl 0 rfl) ?_
        refine k_objInit E lmo_X9_init lmi_X9_init lmc_X9_init hl rfl ⟨rfl, rfl⟩ dX9_init_1 ?_
        refine lv_aload_n E.ex E.by dX9_init_4 rfl (lv_at hl 0 rfl) ?_
        refine lv_iload_n E.ex E.by dX9_init_5 rfl (lv_at hl 1 rfl) ?_
        refine k_putF E.na E G wi_X9_init_X9 tyX9_ok nmX9 (0) (rfl) rfl 0 rfl fl_X9_init_X9_0 rfl rfl rfl rfl rfl (([(h0, .inr (11, [.int kd, .null, .int 0, .null, .null, .int 0, .int 0]))] ++ w)) rfl dX9_init_6 (fun H locs G => ?_)
        refine lv_aload_n E.ex E.by dX9_init_9 rfl (lv_at hl 0 rfl) ?_
        refine lv_aload_nN E.ex E.by dX9_init_10 rfl (lv_at hl 2 rfl) ?_
        refine k_putF E.na E G wi_X9_init_X9 tyX9_ok nmX9 (0) (rfl) rfl 1 rfl fl_X9_init_X9_1 rfl rfl rfl rfl rfl (([(h0, .inr (11, [.int kd, .null, .int 0, .null, .null, .int 0, .int 0]))] ++ w)) rfl dX9_init_11 (fun H locs G => ?_)
        refine lv_aload_n E.ex E.by dX9_init_14 rfl (lv_at hl 0 rfl) ?_
        refine lv_iload_n E.ex E.by dX9_init_15 rfl (lv_at hl 3 rfl) ?_
        refine k_putF E.na E G wi_X9_init_X9 tyX9_ok nmX9 (0) (rfl) rfl 2 rfl fl_X9_init_X9_2 rfl rfl rfl rfl rfl (([(h0, .inr (11, [.int kd, .null, .int (nI s1), .null, .null, .int 0, .int 0]))] ++ w)) rfl dX9_init_16 (fun H locs G => ?_)
        refine lv_aload_n E.ex E.by dX9_init_19 rfl (lv_at hl 0 rfl) ?_
        refine lv_aload E.ex E.by dX9_init_20 (lv_at hl 4 rfl) ?_
        refine k_putF E.na E G wi_X9_init_X9 tyX9_ok nmX9 (0) (rfl) rfl 3 rfl fl_X9_init_X9_3 rfl rfl rfl rfl rfl (([(h0, .inr (11, [.int kd, .null, .int (nI s1), .ref a1, .null, .int 0, .int 0]))] ++ w)) rfl dX9_init_22 (fun H locs G => ?_)
        refine lv_aload_n E.ex E.by dX9_init_25 rfl (lv_at hl 0 rfl) ?_
        refine lv_aloadN E.ex E.by dX9_init_26 (lv_at hl 5 rfl) ?_
        refine k_putF E.na E G wi_X9_init_X9 tyX9_ok nmX9 (0) (rfl) rfl 4 rfl fl_X9_init_X9_4 rfl rfl rfl rfl rfl (([(h0, .inr (11, [.int kd, .null, .int (nI s1), .ref a1, .null, .int 0, .int 0]))] ++ w)) rfl dX9_init_28 (fun H locs G => ?_)
        refine lv_aload E.ex E.by dX9_init_31 (lv_at hl 4 rfl) ?_
        refine lv_ifnonnull (tgt := 40) E.ex E.by dX9_init_33 (by decide) ?_
        refine lv_aload E.ex E.by dX9_init_40 (lv_at hl 4 rfl) ?_
        refine k_get E G wi_X9_init_X9 (q1 + 1) (va_gC e1) rfl 5 rfl fl_X9_init_X9_5 (v := .int (nI d1)) rfl dX9_init_42 ?_
        refine lv_aloadN E.ex E.by dX9_init_45 (lv_at hl 5 rfl) ?_
        refine lv_ifnonnullN E.ex E.by dX9_init_47 ?_
        refine lv_iconst (v := 0) E.ex E.by dX9_init_50 (by decide) ?_
        refine lv_goto (tgt := 59) E.ex E.by dX9_init_51 (by decide) ?_
        refine va_mmax E.ex E.by (E.nl.trans hl.1.symm) E.ow (E.ts _ lmmax_X9_init_30) (E.ts _ lmsmax_X9_init) (E.ts _ lmi2_X9_init) (E.ts _ lmcmax_X9_init) (Nat.le_of_ble_eq_true rfl) (Nat.le_of_ble_eq_true rfl) (Nat.le_of_ble_eq_true rfl) (Nat.le_of_ble_eq_true rfl) dX9_init_59 ?_
        refine lv_topi (fun y1 ey1 => ?_)
        have ey1 : y1 = nI (max d1 0) := ey1.trans (jk_max (a := d1) (b := 0) (by omega) (by omega))
        subst ey1
        refine lv_istore (lv' := [(6, .int (nI (max d1 0))), (0, .ref h0), (1, .int kd), (2, .null), (3, .int (nI s1)), (4, .ref a1), (5, .null)]) E.ex E.by dX9_init_62 hl (by decide) rfl (fun ls hl => ?_)
        refine lv_aload E.ex E.by dX9_init_64 (lv_at hl 5 rfl) ?_
        refine lv_ifnonnull (tgt := 73) E.ex E.by dX9_init_66 (by decide) ?_
        refine lv_aload E.ex E.by dX9_init_73 (lv_at hl 5 rfl) ?_
        refine k_get E G wi_X9_init_X9 (q1 + 1) (va_gC e1) rfl 6 rfl fl_X9_init_X9_6 (v := .int (nI l1)) rfl dX9_init_75 ?_
        refine lv_aloadN E.ex E.by dX9_init_78 (lv_at hl 6 rfl) ?_
        refine lv_ifnonnullN E.ex E.by dX9_init_80 ?_
        refine lv_iconst (v := 0) E.ex E.by dX9_init_83 (by decide) ?_
        refine lv_goto (tgt := 92) E.ex E.by dX9_init_84 (by decide) ?_
        refine va_mmax E.ex E.by (E.nl.trans hl.1.symm) E.ow (E.ts _ lmmax_X9_init_30) (E.ts _ lmsmax_X9_init) (E.ts _ lmi2_X9_init) (E.ts _ lmcmax_X9_init) (Nat.le_of_ble_eq_true rfl) (Nat.le_of_ble_eq_true rfl) (Nat.le_of_ble_eq_true rfl) (Nat.le_of_ble_eq_true rfl) dX9_init_92 ?_
        refine lv_topi (fun y2 ey2 => ?_)
        have ey2 : y2 = nI (max l1 0) := ey2.trans (jk_max (a := l1) (b := 0) (by omega) (by omega))
        subst ey2
        refine lv_istore (lv' := [(7, .int (nI (max l1 0))), (6, .int (nI (max d1 0))), (0, .ref h0), (1, .int kd), (2, .null), (3, .int (nI s1)), (4, .ref a1), (5, .null)]) E.ex E.by dX9_init_95 hl (by decide) rfl (fun ls hl => ?_)
        refine lv_aload_n E.ex E.by dX9_init_97 rfl (lv_at hl 2 rfl) ?_
        refine lv_aload_nN E.ex E.by dX9_init_98 rfl (lv_at hl 4 rfl) ?_
        refine lv_ifnonnullN E.ex E.by dX9_init_99 ?_
        refine lv_iload E.ex E.by dX9_init_102 (lv_at hl 1 rfl) ?_
        refine lv_goto (tgt := 111) E.ex E.by dX9_init_104 (by decide) ?_
        refine k_putF E.na E G wi_X9_init_X9 tyX9_ok nmX9 (0) (rfl) rfl 5 rfl fl_X9_init_X9_5 rfl rfl rfl rfl rfl (([(h0, .inr (11, [.int kd, .null, .int (nI s1), .ref a1, .null, .int (nI (max d1 0)), .int 0]))] ++ w)) rfl dX9_init_111 (fun H locs G => ?_)
        refine lv_aload_n E.ex E.by dX9_init_114 rfl (lv_at hl 2 rfl) ?_
        refine lv_iload E.ex E.by dX9_init_115 (lv_at hl 0 rfl) ?_
        refine lv_iload_n E.ex E.by dX9_init_117 rfl (lv_at hl 5 rfl) ?_
        refine va_mmax E.ex E.by (E.nl.trans hl.1.symm) E.ow (E.ts _ lmmax_X9_init_30) (E.ts _ lmsmax_X9_init) (E.ts _ lmi2_X9_init) (E.ts _ lmcmax_X9_init) (Nat.le_of_ble_eq_true rfl) (Nat.le_of_ble_eq_true rfl) (Nat.le_of_ble_eq_true rfl) (Nat.le_of_ble_eq_true rfl) dX9_init_118 ?_
        refine lv_topi (fun y3 ey3 => ?_)
        have ey3 : y3 = nI (max (max l1 0) s1) := ey3.trans (jk_max (by omega) (by omega))
        subst ey3
        refine k_putF E.na E G wi_X9_init_X9 tyX9_ok nmX9 (0) (rfl) rfl 6 rfl fl_X9_init_X9_6 rfl rfl rfl rfl rfl (([(h0, .inr (11, [.int kd, .null, .int (nI s1), .ref a1, .null, .int (nI (max d1 0)), .int (nI (max (max l1 0) s1))]))] ++ w)) rfl dX9_init_121 (fun H locs G => ?_)
        have G : kG D _ s ((fun _ : Unit => [(h0, .inr (11, [.int kd, va_rf none, .int (nI s1), va_rf (some a1), va_rf none, .int (nI (max d1 0 + if (none : Option Nat) = none then 0 else 1)), .int (nI (max (max l1 0) s1))]))] ++ w) ()) H _ := G.cg (by simp [va_rf])
        refine k_retv (wof := (fun _ : Unit => [(h0, .inr (11, [.int kd, va_rf none, .int (nI s1), va_rf (some a1), va_rf none, .int (nI (max d1 0 + if (none : Option Nat) = none then 0 else 1)), .int (nI (max (max l1 0) s1))]))] ++ w)) (u := ()) E G ?_ ?_ ?_ dX9_init_124
        · exact trivial
        · first | exact Nat.le_of_ble_eq_true rfl | omega
        · first | exact Nat.le_of_ble_eq_true rfl | omega
      | some b0 =>
        intro sz
        refine k_begin (cc := cX9_init) (maxL := 8) (ret := none) (by decide +kernel) rfl rfl (fun p e s m args below meth c hsz E G ls hl => ?_)
        subst hsz
        have hl : lv_has ls 8 [(0, .ref h0), (1, .int kd), (2, .ref b0), (3, .int (nI s1)), (4, .ref a1), (5, .null)] := hl
        refine lv_aload_n E.ex E.by dX9_init_0 rfl (lv_at hl 0 rfl) ?_
        refine k_objInit E lmo_X9_init lmi_X9_init lmc_X9_init hl rfl ⟨rfl, rfl⟩ dX9_init_1 ?_
        refine lv_aload_n E.ex E.by dX9_init_4 rfl (lv_at hl 0 rfl) ?_
        refine lv_iload_n E.ex E.by dX9_init_5 rfl (lv_at hl 1 rfl) ?_
        refine k_putF E.na E G wi_X9_init_X9 tyX9_ok nmX9 (0) (rfl) rfl 0 rfl fl_X9_init_X9_0 rfl rfl rfl rfl rfl (([(h0, .inr (11, [.int kd, .null, .int 0, .null, .null, .int 0, .int 0]))] ++ w)) rfl dX9_init_6 (fun H locs G => ?_)
        refine lv_aload_n E.ex E.by dX9_init_9 rfl (lv_at hl 0 rfl) ?_
        refine lv_aload_n E.ex E.by dX9_init_10 rfl (lv_at hl 2 rfl) ?_
        refine k_putF E.na E G wi_X9_init_X9 tyX9_ok nmX9 (0) (rfl) rfl 1 rfl fl_X9_init_X9_1 rfl rfl rfl rfl rfl (([(h0, .inr (11, [.int kd, .ref b0, .int 0, .null, .null, .int 0, .int 0]))] ++ w)) rfl dX9_init_11 (fun H locs G => ?_)
        refine lv_aload_n E.ex E.by dX9_init_14 rfl (lv_at hl 0 rfl) ?_
        refine lv_iload_n E.ex E.by dX9_init_15 rfl (lv_at hl 3 rfl) ?_
        refine k_putF E.na E G wi_X9_init_X9 tyX9_ok nmX9 (0) (rfl) rfl 2 rfl fl_X9_init_X9_2 rfl rfl rfl rfl rfl (([(h0, .inr (11, [.int kd, .ref b0, .int (nI s1), .null, .null, .int 0, .int 0]))] ++ w)) rfl dX9_init_16 (fun H locs G => ?_)
        refine lv_aload_n E.ex E.by dX9_init_19 rfl (lv_at hl 0 rfl) ?_
        refine lv_aload E.ex E.by dX9_init_20 (lv_at hl 4 rfl) ?_
        refine k_putF E.na E G wi_X9_init_X9 tyX9_ok nmX9 (0) (rfl) rfl 3 rfl fl_X9_init_X9_3 rfl rfl rfl rfl rfl (([(h0, .inr (11, [.int kd, .ref b0, .int (nI s1), .ref a1, .null, .int 0, .int 0]))] ++ w)) rfl dX9_init_22 (fun H locs G => ?_)
        refine lv_aload_n E.ex E.by dX9_init_25 rfl (lv_at hl 0 rfl) ?_
        refine lv_aloadN E.ex E.by dX9_init_26 (lv_at hl 5 rfl) ?_
        refine k_putF E.na E G wi_X9_init_X9 tyX9_ok nmX9 (0) (rfl) rfl 4 rfl fl_X9_init_X9_4 rfl rfl rfl rfl rfl (([(h0, .inr (11, [.int kd, .ref b0, .int (nI s1), .ref a1, .null, .int 0, .int 0]))] ++ w)) rfl dX9_init_28 (fun H locs G => ?_)
        refine lv_aload E.ex E.by dX9_init_31 (lv_at hl 4 rfl) ?_
        refine lv_ifnonnull (tgt := 40) E.ex E.by dX9_init_33 (by decide) ?_
        refine lv_aload E.ex E.by dX9_init_40 (lv_at hl 4 rfl) ?_
        refine k_get E G wi_X9_init_X9 (q1 + 1) (va_gC e1) rfl 5 rfl fl_X9_init_X9_5 (v := .int (nI d1)) rfl dX9_init_42 ?_
        refine lv_aloadN E.ex E.by dX9_init_45 (lv_at hl 5 rfl) ?_
        refine lv_ifnonnullN E.ex E.by dX9_init_47 ?_
        refine lv_iconst (v := 0) E.ex E.by dX9_init_50 (by decide) ?_
        refine lv_goto (tgt := 59) E.ex E.by dX9_init_51 (by decide) ?_
        refine va_mmax E.ex E.by (E.nl.trans hl.1.symm) E.ow (E.ts _ lmmax_X9_init_30) (E.ts _ lmsmax_X9_init) (E.ts _ lmi2_X9_init) (E.ts _ lmcmax_X9_init) (Nat.le_of_ble_eq_true rfl) (Nat.le_of_ble_eq_true rfl) (Nat.le_of_ble_eq_true rfl) (Nat.le_of_ble_eq_true rfl) dX9_init_59 ?_
        refine lv_topi (fun y1 ey1 => ?_)
        have ey1 : y1 = nI (max d1 0) := ey1.trans (jk_max (a := d1) (b := 0) (by omega) (by omega))
        subst ey1
        refine lv_istore (lv' := [(6, .int (nI (max d1 0))), (0, .ref h0), (1, .int kd), (2, .ref b0), (3, .int (nI s1)), (4, .ref a1), (5, .null)]) E.ex E.by dX9_init_62 hl (by decide) rfl (fun ls hl => ?_)
        refine lv_aload E.ex E.by dX9_init_64 (lv_at hl 5 rfl) ?_
        refine lv_ifnonnull (tgt := 73) E.ex E.by dX9_init_66 (by decide) ?_
        refine lv_aload E.ex E.by dX9_init_73 (lv_at hl 5 rfl) ?_
        refine k_get E G wi_X9_init_X9 (q1 + 1) (va_gC e1) rfl 6 rfl fl_X9_init_X9_6 (v := .int (nI l1)) rfl dX9_init_75 ?_
        refine lv_aloadN E.ex E.by dX9_init_78 (lv_at hl 6 rfl) ?_
        refine lv_ifnonnullN E.ex E.by dX9_init_80 ?_
        refine lv_iconst (v := 0) E.ex E.by dX9_init_83 (by decide) ?_
        refine lv_goto (tgt := 92) E.ex E.by dX9_init_84 (by decide) ?_
        refine va_mmax E.ex E.by (E.nl.trans hl.1.symm) E.ow (E.ts _ lmmax_X9_init_30) (E.ts _ lmsmax_X9_init) (E.ts _ lmi2_X9_init) (E.ts _ lmcmax_X9_init) (Nat.le_of_ble_eq_true rfl) (Nat.le_of_ble_eq_true rfl) (Nat.le_of_ble_eq_true rfl) (Nat.le_of_ble_eq_true rfl) dX9_init_92 ?_
        refine lv_topi (fun y2 ey2 => ?_)
        have ey2 : y2 = nI (max l1 0) := ey2.trans (jk_max (a := l1) (b := 0) (by omega) (by omega))
        subst ey2
        refine lv_istore (lv' := [(7, .int (nI (max l1 0))), (6, .int (nI (max d1 0))), (0, .ref h0), (1, .int kd), (2, .ref b0), (3, .int (nI s1)), (4, .ref a1), (5, .null)]) E.ex E.by dX9_init_95 hl (by decide) rfl (fun ls hl => ?_)
        refine lv_aload_n E.ex E.by dX9_init_97 rfl (lv_at hl 2 rfl) ?_
        refine lv_aload_n E.ex E.by dX9_init_98 rfl (lv_at hl 4 rfl) ?_
        refine lv_ifnonnull (tgt := 107) E.ex E.by dX9_init_99 (by decide) ?_
        refine lv_iload E.ex E.by dX9_init_107 (lv_at hl 1 rfl) ?_
        refine lv_iconst (v := 1) E.ex E.by dX9_init_109 (by decide) ?_
        refine lv_iadd E.ex E.by dX9_init_110 ?_
        refine lv_topi (fun y3 ey3 => ?_)
        have ey3 : y3 = nI (max d1 0 + 1) := ey3.trans (nI_1 _)
        subst ey3
        refine k_putF E.na E G wi_X9_init_X9 tyX9_ok nmX9 (0) (rfl) rfl 5 rfl fl_X9_init_X9_5 rfl rfl rfl rfl rfl (([(h0, .inr (11, [.int kd, .ref b0, .int (nI s1), .ref a1, .null, .int (nI (max d1 0 + 1)), .int 0]))] ++ w)) rfl dX9_init_111 (fun H locs G => ?_)
        refine lv_aload_n E.ex E.by dX9_init_114 rfl (lv_at hl 2 rfl) ?_
        refine lv_iload E.ex E.by dX9_init_115 (lv_at hl 0 rfl) ?_
        refine lv_iload_n E.ex E.by dX9_init_117 rfl (lv_at hl 5 rfl) ?_
        refine va_mmax E.ex E.by (E.nl.trans hl.1.symm) E.ow (E.ts _ lmmax_X9_init_30) (E.ts _ lmsmax_X9_init) (E.ts _ lmi2_X9_init) (E.ts _ lmcmax_X9_init) (Nat.le_of_ble_eq_true rfl) (Nat.le_of_ble_eq_true rfl) (Nat.le_of_ble_eq_true rfl) (Nat.le_of_ble_eq_true rfl) dX9_init_118 ?_
        refine lv_topi (fun y4 ey4 => ?_)
        have ey4 : y4 = nI (max (max l1 0) s1) := ey4.trans (jk_max (by omega) (by omega))
        subst ey4
        refine k_putF E.na E G wi_X9_init_X9 tyX9_ok nmX9 (0) (rfl) rfl 6 rfl fl_X9_init_X9_6 rfl rfl rfl rfl rfl (([(h0, .inr (11, [.int kd, .ref b0, .int (nI s1), .ref a1, .null, .int (nI (max d1 0 + 1)), .int (nI (max (max l1 0) s1))]))] ++ w)) rfl dX9_init_121 (fun H locs G => ?_)
        have G : kG D _ s ((fun _ : Unit => [(h0, .inr (11, [.int kd, va_rf (some b0), .int (nI s1), va_rf (some a1), va_rf none, .int (nI (max d1 0 + if (some b0) = none then 0 else 1)), .int (nI (max (max l1 0) s1))]))] ++ w) ()) H _ := G.cg (by simp [va_rf])
        refine k_retv (wof := (fun _ : Unit => [(h0, .inr (11, [.int kd, va_rf (some b0), .int (nI s1), va_rf (some a1), va_rf none, .int (nI (max d1 0 + if (some b0) = none then 0 else 1)), .int (nI (max (max l1 0) s1))]))] ++ w)) (u := ()) E G ?_ ?_ ?_ dX9_init_124
        · exact trivial
        · first | exact Nat.le_of_ble_eq_true rfl | omega
        · first | exact Nat.le_of_ble_eq_true rfl | omega
    · obtain ⟨q2, e2⟩ := List.mem_iff_getElem?.mp m2
      cases ob with
      | none =>
        intro sz
        refine k_begin (cc := cX9_init) (maxL := 8) (ret := none) (by decide +kernel) rfl rfl (fun p e s m args below meth c hsz E G ls hl => ?_)
        subst hsz
        have hl : lv_has ls 8 [(0, .ref h0), (1, .int kd), (2, .null), (3, .int (nI s1)), (4, .ref a1), (5, .ref a2)] := hl
        refine lv_aload_n E.ex E.by dX9_init_0 rfl (lv_at hl 0 rfl) ?_
        refine k_objInit E lmo_X9_init lmi_X9_init lmc_X9_init hl rfl ⟨rfl, rfl⟩ dX9_init_1 ?_
        refine lv_aload_n E.ex E.by dX9_init_4 rfl (lv_at hl 0 rfl) ?_
        refine lv_iload_n E.ex E.by dX9_init_5 rfl (lv_at hl 1 rfl) ?_
        refine k_putF E.na E G wi_X9_init_X9 tyX9_ok nmX9 (0) (rfl) rfl 0 rfl fl_X9_init_X9_0 rfl rfl rfl rfl rfl (([(h0, .inr (11, [.int kd, .null, .int 0, .null, .null, .int 0, .int 0]))] ++ w)) rfl dX9_init_6 (fun H locs G => ?_)
        refine lv_aload_n E.ex E.by dX9_init_9 rfl (lv_at hl 0 rfl) ?_
        refine lv_aload_nN E.ex E.by dX9_init_10 rfl (lv_at hl 2 rfl) ?_
        refine k_putF E.na E G wi_X9_init_X9 tyX9_ok nmX9 (0) (rfl) rfl 1 rfl fl_X9_init_X9_1 rfl rfl rfl rfl rfl (([(h0, .inr (11, [.int kd, .null, .int 0, .null, .null, .int 0, .int 0]))] ++ w)) rfl dX9_init_11 (fun H locs G => ?_)
        refine lv_aload_n E.ex E.by dX9_init_14 rfl (lv_at hl 0 rfl) ?_
        refine lv_iload_n E.ex E.by dX9_init_15 rfl (lv_at hl 3 rfl) ?_
        refine k_putF E.na E G wi_X9_init_X9 tyX9_ok nmX9 (0) (rfl) rfl 2 rfl fl_X9_init_X9_2 rfl rfl rfl rfl rfl (([(h0, .inr (11, [.int kd, .null, .int (nI s1), .null, .null, .int 0, .int 0]))] ++ w)) rfl dX9_init_16 (fun H locs G => ?_)
        refine lv_aload_n E.ex E.by dX9_init_19 rfl (lv_at hl 0 rfl) ?_
        refine lv_aload E.ex E.by dX9_init_20 (lv_at hl 4 rfl) ?_
        refine k_putF E.na E G wi_X9_init_X9 tyX9_ok nmX9 (0) (rfl) rfl 3 rfl fl_X9_init_X9_3 rfl rfl rfl rfl rfl (([(h0, .inr (11, [.int kd, .null, .int (nI s1), .ref a1, .null, .int 0, .int 0]))] ++ w)) rfl dX9_init_22 (fun H locs G => ?_)
        refine lv_aload_n E.ex E.by dX9_init_25 rfl (lv_at hl 0 rfl) ?_
        refine lv_aload E.ex E.by dX9_init_26 (lv_at hl 5 rfl) ?_
        refine k_putF E.na E G wi_X9_init_X9 tyX9_ok nmX9 (0) (rfl) rfl 4 rfl fl_X9_init_X9_4 rfl rfl rfl rfl rfl (([(h0, .inr (11, [.int kd, .null, .int (nI s1), .ref a1, .ref a2, .int 0, .int 0]))] ++ w)) rfl dX9_init_28 (fun H locs G => ?_)
        refine lv_aload E.ex E.by dX9_init_31 (lv_at hl 4 rfl) ?_
        refine lv_ifnonnull (tgt := 40) E.ex E.by dX9_init_33 (by decide) ?_
        refine lv_aload E.ex E.by dX9_init_40 (lv_at hl 4 rfl) ?_
        refine k_get E G wi_X9_init_X9 (q1 + 1) (va_gC e1) rfl 5 rfl fl_X9_init_X9_5 (v := .int (nI d1)) rfl dX9_init_42 ?_
        refine lv_aload E.ex E.by dX9_init_45 (lv_at hl 5 rfl) ?_
        refine lv_ifnonnull (tgt := 54) E.ex E.by dX9_init_47 (by decide) ?_
        refine lv_aload E.ex E.by dX9_init_54 (lv_at hl 5 rfl) ?_
        refine k_get E G wi_X9_init_X9 (q2 + 1) (va_gC e2) rfl 5 rfl fl_X9_init_X9_5 (v := .int (nI d2)) rfl dX9_init_56 ?_
        refine va_mmax E.ex E.by (E.nl.trans hl.1.symm) E.ow (E.ts _ lmmax_X9_init_30) (E.ts _ lmsmax_X9_init) (E.ts _ lmi2_X9_init) (E.ts _ lmcmax_X9_init) (Nat.le_of_ble_eq_true rfl) (Nat.le_of_ble_eq_true rfl) (Nat.le_of_ble_eq_true rfl) (Nat.le_of_ble_eq_true rfl) dX9_init_59 ?_
        refine lv_topi (fun y1 ey1 => ?_)
        have ey1 : y1 = nI (max d1 d2) := ey1.trans (jk_max (a := d1) (b := d2) (by omega) (by omega))
        subst ey1
        refine lv_istore (lv' := [(6, .int (nI (max d1 d2))), (0, .ref h0), (1, .int kd), (2, .null), (3, .int (nI s1)), (4, .ref a1), (5, .ref a2)]) E.ex E.by dX9_init_62 hl (by decide) rfl (fun ls hl => ?_)
        refine lv_aload E.ex E.by dX9_init_64 (lv_at hl 5 rfl) ?_
        refine lv_ifnonnull (tgt := 73) E.ex E.by dX9_init_66 (by decide) ?_
        refine lv_aload E.ex E.by dX9_init_73 (lv_at hl 5 rfl) ?_
        refine k_get E G wi_X9_init_X9 (q1 + 1) (va_gC e1) rfl 6 rfl fl_X9_init_X9_6 (v := .int (nI l1)) rfl dX9_init_75 ?_
        refine lv_aload E.ex E.by dX9_init_78 (lv_at hl 6 rfl) ?_
        refine lv_ifnonnull (tgt := 87) E.ex E.by dX9_init_80 (by decide) ?_
        refine lv_aload E.ex E.by dX9_init_87 (lv_at hl 6 rfl) ?_
        refine k_get E G wi_X9_init_X9 (q2 + 1) (va_gC e2) rfl 6 rfl fl_X9_init_X9_6 (v := .int (nI l2)) rfl dX9_init_89 ?_
        refine va_mmax E.ex E.by (E.nl.trans hl.1.symm) E.ow (E.ts _ lmmax_X9_init_30) (E.ts _ lmsmax_X9_init) (E.ts _ lmi2_X9_init) (E.ts _ lmcmax_X9_init) (Nat.le_of_ble_eq_true rfl) (Nat.le_of_ble_eq_true rfl) (Nat.le_of_ble_eq_true rfl) (Nat.le_of_ble_eq_true rfl) dX9_init_92 ?_
        refine lv_topi (fun y2 ey2 => ?_)
        have ey2 : y2 = nI (max l1 l2) := ey2.trans (jk_max (a := l1) (b := l2) (by omega) (by omega))
        subst ey2
        refine lv_istore (lv' := [(7, .int (nI (max l1 l2))), (6, .int (nI (max d1 d2))), (0, .ref h0), (1, .int kd), (2, .null), (3, .int (nI s1)), (4, .ref a1), (5, .ref a2)]) E.ex E.by dX9_init_95 hl (by decide) rfl (fun ls hl => ?_)
        refine lv_aload_n E.ex E.by dX9_init_97 rfl (lv_at hl 2 rfl) ?_
        refine lv_aload_nN E.ex E.by dX9_init_98 rfl (lv_at hl 4 rfl) ?_
        refine lv_ifnonnullN E.ex E.by dX9_init_99 ?_
        refine lv_iload E.ex E.by dX9_init_102 (lv_at hl 1 rfl) ?_
        refine lv_goto (tgt := 111) E.ex E.by dX9_init_104 (by decide) ?_
        refine k_putF E.na E G wi_X9_init_X9 tyX9_ok nmX9 (0) (rfl) rfl 5 rfl fl_X9_init_X9_5 rfl rfl rfl rfl rfl (([(h0, .inr (11, [.int kd, .null, .int (nI s1), .ref a1, .ref a2, .int (nI (max d1 d2)), .int 0]))] ++ w)) rfl dX9_init_111 (fun H locs G => ?_)
        refine lv_aload_n E.ex E.by dX9_init_114 rfl (lv_at hl 2 rfl) ?_
        refine lv_iload E.ex E.by dX9_init_115 (lv_at hl 0 rfl) ?_
        refine lv_iload_n E.ex E.by dX9_init_117 rfl (lv_at hl 5 rfl) ?_
        refine va_mmax E.ex E.by (E.nl.trans hl.1.symm) E.ow (E.ts _ lmmax_X9_init_30) (E.ts _ lmsmax_X9_init) (E.ts _ lmi2_X9_init) (E.ts _ lmcmax_X9_init) (Nat.le_of_ble_eq_true rfl) (Nat.le_of_ble_eq_true rfl) (Nat.le_of_ble_eq_true rfl) (Nat.le_of_ble_eq_true rfl) dX9_init_118 ?_
        refine lv_topi (fun y3 ey3 => ?_)
        have ey3 : y3 = nI (max (max l1 l2) s1) := ey3.trans (jk_max (by omega) (by omega))
        subst ey3
        refine k_putF E.na E G wi_X9_init_X9 tyX9_ok nmX9 (0) (rfl) rfl 6 rfl fl_X9_init_X9_6 rfl rfl rfl rfl rfl (([(h0, .inr (11, [.int kd, .null, .int (nI s1), .ref a1, .ref a2, .int (nI (max d1 d2)), .int (nI (max (max l1 l2) s1))]))] ++ w)) rfl dX9_init_121 (fun H locs G => ?_)
        have G : kG D _ s ((fun _ : Unit => [(h0, .inr (11, [.int kd, va_rf none, .int (nI s1), va_rf (some a1), va_rf (some a2), .int (nI (max d1 d2 + if (none : Option Nat) = none then 0 else 1)), .int (nI (max (max l1 l2) s1))]))] ++ w) ()) H _ := G.cg (by simp [va_rf])
        refine k_retv (wof := (fun _ : Unit => [(h0, .inr (11, [.int kd, va_rf none, .int (nI s1), va_rf (some a1), va_rf (some a2), .int (nI (max d1 d2 + if (none : Option Nat) = none then 0 else 1)), .int (nI (max (max l1 l2) s1))]))] ++ w)) (u := ()) E G ?_ ?_ ?_ dX9_init_124
        · exact trivial
        · first | exact Nat.le_of_ble_eq_true rfl | omega
        · first | exact Nat.le_of_ble_eq_true rfl | omega
      | some b0 =>
        intro sz
        refine k_begin (cc := cX9_init) (maxL := 8) (ret := none) (by decide +kernel) rfl rfl (fun p e s m args below meth c hsz E G ls hl => ?_)
        subst hsz
        have hl : lv_has ls 8 [(0, .ref h0), (1, .int kd), (2, .ref b0), (3, .int (nI s1)), (4, .ref a1), (5, .ref a2)] := hl
        refine lv_aload_n E.ex E.by dX9_init_0 rfl (lv_at hl 0 rfl) ?_
        refine k_objInit E lmo_X9_init lmi_X9_init lmc_X9_init hl rfl ⟨rfl, rfl⟩ dX9_init_1 ?_
        refine lv_aload_n E.ex E.by dX9_init_4 rfl (lv_at hl 0 rfl) ?_
        refine lv_iload_n E.ex E.by dX9_init_5 rfl (lv_at hl 1 rfl) ?_
        refine k_putF E.na E G wi_X9_init_X9 tyX9_ok nmX9 (0) (rfl) rfl 0 rfl fl_X9_init_X9_0 rfl rfl rfl rfl rfl (([(h0, .inr (11, [.int kd, .null, .int 0, .null, .null, .int 0, .int 0]))] ++ w)) rfl dX9_init_6 (fun H locs G => ?_)
        refine lv_aload_n E.ex E.by dX9_init_9 rfl (lv_at hl 0 rfl) ?_
        refine lv_aload_n E.ex E.by dX9_init_10 rfl (lv_at hl 2 rfl) ?_
        refine k_putF E.na E G wi_X9_init_X9 tyX9_ok nmX9 (0) (rfl) rfl 1 rfl fl_X9_init_X9_1 rfl rfl rfl rfl rfl (([(h0, .inr (11, [.int kd, .ref b0, .int 0, .null, .null, .int 0, .int 0]))] ++ w)) rfl dX9_init_11 (fun H locs G => ?_)
        refine lv_aload_n E.ex E.by dX9_init_14 rfl (lv_at hl 0 rfl) ?_
        refine lv_iload_n E.ex E.by dX9_init_15 rfl (lv_at hl 3 rfl) ?_
        refine k_putF E.na E G wi_X9_init_X9 tyX9_ok nmX9 (0) (rfl) rfl 2 rfl fl_X9_init_X9_2 rfl rfl rfl rfl rfl (([(h0, .inr (11, [.int kd, .ref b0, .int (nI s1), .null, .null, .int 0, .int 0]))] ++ w)) rfl dX9_init_16 (fun H locs G => ?_)
        refine lv_aload_n E.ex E.by dX9_init_19 rfl (lv_at hl 0 rfl) ?_
        refine lv_aload E.ex E.by dX9_init_20 (lv_at hl 4 rfl) ?_
        refine k_putF E.na E G wi_X9_init_X9 tyX9_ok nmX9 (0) (rfl) rfl 3 rfl fl_X9_init_X9_3 rfl rfl rfl rfl rfl (([(h0, .inr (11, [.int kd, .ref b0, .int (nI s1), .ref a1, .null, .int 0, .int 0]))] ++ w)) rfl dX9_init_22 (fun H locs G => ?_)
        refine lv_aload_n E.ex E.by dX9_init_25 rfl (lv_at hl 0 rfl) ?_
        refine lv_aload E.ex E.by dX9_init_26 (lv_at hl 5 rfl) ?_
        refine k_putF E.na E G wi_X9_init_X9 tyX9_ok nmX9 (0) (rfl) rfl 4 rfl fl_X9_init_X9_4 rfl rfl rfl rfl rfl (([(h0, .inr (11, [.int kd, .ref b0, .int (nI s1), .ref a1, .ref a2, .int 0, .int 0]))] ++ w)) rfl dX9_init_28 (fun H locs G => ?_)
        refine lv_aload E.ex E.by dX9_init_31 (lv_at hl 4 rfl) ?_
        refine lv_ifnonnull (tgt := 40) E.ex E.by dX9_init_33 (by decide) ?_
        refine lv_aload E.ex E.by dX9_init_40 (lv_at hl 4 rfl) ?_
        refine k_get E G wi_X9_init_X9 (q1 + 1) (va_gC e1) rfl 5 rfl fl_X9_init_X9_5 (v := .int (nI d1)) rfl dX9_init_42 ?_
        refine lv_aload E.ex E.by dX9_init_45 (lv_at hl 5 rfl) ?_
        refine lv_ifnonnull (tgt := 54) E.ex E.by dX9_init_47 (by decide) ?_
        refine lv_aload E.ex E.by dX9_init_54 (lv_at hl 5 rfl) ?_
        refine k_get E G wi_X9_init_X9 (q2 + 1) (va_gC e2) rfl 5 rfl fl_X9_init_X9_5 (v := .int (nI d2)) rfl dX9_init_56 ?_
        refine va_mmax E.ex E.by (E.nl.trans hl.1.symm) E.ow (E.ts _ lmmax_X9_init_30) (E.ts _ lmsmax_X9_init) (E.ts _ lmi2_X9_init) (E.ts _ lmcmax_X9_init) (Nat.le_of_ble_eq_true rfl) (Nat.le_of_ble_eq_true rfl) (Nat.le_of_ble_eq_true rfl) (Nat.le_of_ble_eq_true rfl) dX9_init_59 ?_
        refine lv_topi (fun y1 ey1 => ?_)
        have ey1 : y1 = nI (max d1 d2) := ey1.trans (jk_max (a := d1) (b := d2) (by omega) (by omega))
        subst ey1
        refine lv_istore (lv' := [(6, .int (nI (max d1 d2))), (0, .ref h0), (1, .int kd), (2, .ref b0), (3, .int (nI s1)), (4, .ref a1), (5, .ref a2)]) E.ex E.by dX9_init_62 hl (by decide) rfl (fun ls hl => ?_)
        refine lv_aload E.ex E.by dX9_init_64 (lv_at hl 5 rfl) ?_
        refine lv_ifnonnull (tgt := 73) E.ex E.by dX9_init_66 (by decide) ?_
        refine lv_aload E.ex E.by dX9_init_73 (lv_at hl 5 rfl) ?_
        refine k_get E G wi_X9_init_X9 (q1 + 1) (va_gC e1) rfl 6 rfl fl_X9_init_X9_6 (v := .int (nI l1)) rfl dX9_init_75 ?_
        refine lv_aload E.ex E.by dX9_init_78 (lv_at hl 6 rfl) ?_
        refine lv_ifnonnull (tgt := 87) E.ex E.by dX9_init_80 (by decide) ?_
        refine lv_aload E.ex E.by dX9_init_87 (lv_at hl 6 rfl) ?_
        refine k_get E G wi_X9_init_X9 (q2 + 1) (va_gC e2) rfl 6 rfl fl_X9_init_X9_6 (v := .int (nI l2)) rfl dX9_init_89 ?_
        refine va_mmax E.ex E.by (E.nl.trans hl.1.symm) E.ow (E.ts _ lmmax_X9_init_30) (E.ts _ lmsmax_X9_init) (E.ts _ lmi2_X9_init) (E.ts _ lmcmax_X9_init) (Nat.le_of_ble_eq_true rfl) (Nat.le_of_ble_eq_true rfl) (Nat.le_of_ble_eq_true rfl) (Nat.le_of_ble_eq_true rfl) dX9_init_92 ?_
        refine lv_topi (fun y2 ey2 => ?_)
        have ey2 : y2 = nI (max l1 l2) := ey2.trans (jk_max (a := l1) (b := l2) (by omega) (by omega))
        subst ey2
        refine lv_istore (lv' := [(7, .int (nI (max l1 l2))), (6, .int (nI (max d1 d2))), (0, .ref h0), (1, .int kd), (2, .ref b0), (3, .int (nI s1)), (4, .ref a1), (5, .ref a2)]) E.ex E.by dX9_init_95 hl (by decide) rfl (fun ls hl => ?_)
        refine lv_aload_n E.ex E.by dX9_init_97 rfl (lv_at hl 2 rfl) ?_
        refine lv_aload_n E.ex E.by dX9_init_98 rfl (lv_at hl 4 rfl) ?_
        refine lv_ifnonnull (tgt := 107) E.ex E.by dX9_init_99 (by decide) ?_
        refine lv_iload E.ex E.by dX9_init_107 (lv_at hl 1 rfl) ?_
        refine lv_iconst (v := 1) E.ex E.by dX9_init_109 (by decide) ?_
        refine lv_iadd E.ex E.by dX9_init_110 ?_
        refine lv_topi (fun y3 ey3 => ?_)
        have ey3 : y3 = nI (max d1 d2 + 1) := ey3.trans (nI_1 _)
        subst ey3
        refine k_putF E.na E G wi_X9_init_X9 tyX9_ok nmX9 (0) (rfl) rfl 5 rfl fl_X9_init_X9_5 rfl rfl rfl rfl rfl (([(h0, .inr (11, [.int kd, .ref b0, .int (nI s1), .ref a1, .ref a2, .int (nI (max d1 d2 + 1)), .int 0]))] ++ w)) rfl dX9_init_111 (fun H locs G => ?_)
        refine lv_aload_n E.ex E.by dX9_init_114 rfl (lv_at hl 2 rfl) ?_
        refine lv_iload E.ex E.by dX9_init_115 (lv_at hl 0 rfl) ?_
        refine lv_iload_n E.ex E.by dX9_init_117 rfl (lv_at hl 5 rfl) ?_
        refine va_mmax E.ex E.by (E.nl.trans hl.1.symm) E.ow (E.ts _ lmmax_X9_init_30) (E.ts _ lmsmax_X9_init) (E.ts _ lmi2_X9_init) (E.ts _ lmcmax_X9_init) (Nat.le_of_ble_eq_true rfl) (Nat.le_of_ble_eq_true rfl) (Nat.le_of_ble_eq_true rfl) (Nat.le_of_ble_eq_true rfl) dX9_init_118 ?_
        refine lv_topi (fun y4 ey4 => ?_)
        have ey4 : y4 = nI (max (max l1 l2) s1) := ey4.trans (jk_max (by omega) (by omega))
        subst ey4
        refine k_putF E.na E G wi_X9_init_X9 tyX9_ok nmX9 (0) (rfl) rfl 6 rfl fl_X9_init_X9_6 rfl rfl rfl rfl rfl (([(h0, .inr (11, [.int kd, .ref b0, .int (nI s1), .ref a1, .ref a2, .int (nI (max d1 d2 + 1)), .int (nI (max (max l1 l2) s1))]))] ++ w)) rfl dX9_init_121 (fun H locs G => ?_)
        have G : kG D _ s ((fun _ : Unit => [(h0, .inr (11, [.int kd, va_rf (some b0), .int (nI s1), va_rf (some a1), va_rf (some a2), .int (nI (max d1 d2 + if (some b0) = none then 0 else 1)), .int (nI (max (max l1 l2) s1))]))] ++ w) ()) H _ := G.cg (by simp [va_rf])
        refine k_retv (wof := (fun _ : Unit => [(h0, .inr (11, [.int kd, va_rf (some b0), .int (nI s1), va_rf (some a1), va_rf (some a2), .int (nI (max d1 d2 + if (some b0) = none then 0 else 1)), .int (nI (max (max l1 l2) s1))]))] ++ w)) (u := ()) E G ?_ ?_ ?_ dX9_init_124
        · exact trivial
        · first | exact Nat.le_of_ble_eq_true rfl | omega
        · first | exact Nat.le_of_ble_eq_true rfl | omega
theorem lmo_X5_init : Cond.methodLink RX5 3 objectInit ∈ wsX5_init := List.mem_of_getElem? (i := 1) (by decide +kernel)
theorem lmi_X5_init : Cond.instanceMethod objectInit ∈ wsX5_init := List.mem_of_getElem? (i := 2) (by decide +kernel)
theorem lmc_X5_init : Cond.code objectInit ⟨#[0xb1]⟩ 1 none ∈ wsX5_init := List.mem_of_getElem? (i := 3) (by decide +kernel)
theorem wi_X5_init_X5 : ∀ w ∈ wsX50, w ∈ wsX5_init := fun w h => List.mem_cons_of_mem _ (List.mem_append_right _ (h))
theorem fl_X5_init_X5_0 : Cond.fieldLink RX5 9 (TX5 0).1 (TX5 0).2.1 (TX5 0).2.2.1 ∈ wsX5_init := List.mem_of_getElem? (i := 4) (by decide +kernel)
theorem fl_X5_init_X5_1 : Cond.fieldLink RX5 15 (TX5 1).1 (TX5 1).2.1 (TX5 1).2.2.1 ∈ wsX5_init := List.mem_of_getElem? (i := 5) (by decide +kernel)
set_option maxRecDepth 100000 in
set_option maxHeartbeats 4000000 in
theorem c_X5_init (l : Launch) (D : va_G) (kc : Nat → ClassId) (h0 sa : Nat) (o : Option Nat) : kCv l D (tyL kc) yX5_init wsX5_init ({ frames := 1, cells := 0, slots := 0, locals := 20 } : Room) [.ref h0, .ref sa, va_rf o] ([(h0, .inr (7, [.null, .null]))]) (fun _ : Unit => [(h0, .inr (7, [.ref sa, va_rf o]))]) (0) (0) (fun _ => True) := by
  cases o with
  | none =>
    intro sz
    refine k_begin (cc := cX5_init) (maxL := 3) (ret := none) (by decide +kernel) rfl rfl (fun p e s m args below meth c hsz E G ls hl => ?_)
    subst hsz
    have hl : lv_has ls 3 [(0, .ref h0), (1, .ref sa), (2, va_rf none)] := hl
    refine lv_aload_n E.ex E.by dX5_init_0 rfl (lv_at hl 0 rfl) ?_
    refine k_objInit E lmo_X5_init lmi_X5_init lmc_X5_init hl rfl ⟨rfl, rfl⟩ dX5_init_1 ?_
    refine lv_aload_n E.ex E.by dX5_init_4 rfl (lv_at hl 0 rfl) ?_
    refine lv_aload_n E.ex E.by dX5_init_5 rfl (lv_at hl 1 rfl) ?_
    refine k_putF E.na E G wi_X5_init_X5 tyX5_ok nmX5 (0) (rfl) rfl 0 rfl fl_X5_init_X5_0 rfl rfl rfl rfl rfl ([(h0, .inr (7, [.ref sa, .null]))]) rfl dX5_init_6 (fun H locs G => ?_)
    refine lv_aload_n E.ex E.by dX5_init_9 rfl (lv_at hl 0 rfl) ?_
    refine k_aload_nR E dX5_init_10 rfl (lv_at hl 2 rfl) ?_
    refine k_putF E.na E G wi_X5_init_X5 tyX5_ok nmX5 (0) (rfl) rfl 1 rfl fl_X5_init_X5_1 rfl rfl rfl rfl rfl ([(h0, .inr (7, [.ref sa, va_rf none]))]) rfl dX5_init_11 (fun H locs G => ?_)
    refine k_retv (wof := (fun _ : Unit => [(h0, .inr (7, [.ref sa, va_rf none]))])) (u := ()) E G ?_ ?_ ?_ dX5_init_14
    · exact trivial
    · first | exact Nat.le_of_ble_eq_true rfl | omega
    · first | exact Nat.le_of_ble_eq_true rfl | omega
  | some o =>
    intro sz
    refine k_begin (cc := cX5_init) (maxL := 3) (ret := none) (by decide +kernel) rfl rfl (fun p e s m args below meth c hsz E G ls hl => ?_)
    subst hsz
    have hl : lv_has ls 3 [(0, .ref h0), (1, .ref sa), (2, va_rf (some o))] := hl
    refine lv_aload_n E.ex E.by dX5_init_0 rfl (lv_at hl 0 rfl) ?_
    refine k_objInit E lmo_X5_init lmi_X5_init lmc_X5_init hl rfl ⟨rfl, rfl⟩ dX5_init_1 ?_
    refine lv_aload_n E.ex E.by dX5_init_4 rfl (lv_at hl 0 rfl) ?_
    refine lv_aload_n E.ex E.by dX5_init_5 rfl (lv_at hl 1 rfl) ?_
    refine k_putF E.na E G wi_X5_init_X5 tyX5_ok nmX5 (0) (rfl) rfl 0 rfl fl_X5_init_X5_0 rfl rfl rfl rfl rfl ([(h0, .inr (7, [.ref sa, .null]))]) rfl dX5_init_6 (fun H locs G => ?_)
    refine lv_aload_n E.ex E.by dX5_init_9 rfl (lv_at hl 0 rfl) ?_
    refine k_aload_nR E dX5_init_10 rfl (lv_at hl 2 rfl) ?_
    refine k_putF E.na E G wi_X5_init_X5 tyX5_ok nmX5 (0) (rfl) rfl 1 rfl fl_X5_init_X5_1 rfl rfl rfl rfl rfl ([(h0, .inr (7, [.ref sa, va_rf (some o)]))]) rfl dX5_init_11 (fun H locs G => ?_)
    refine k_retv (wof := (fun _ : Unit => [(h0, .inr (7, [.ref sa, va_rf (some o)]))])) (u := ()) E G ?_ ?_ ?_ dX5_init_14
    · exact trivial
    · first | exact Nat.le_of_ble_eq_true rfl | omega
    · first | exact Nat.le_of_ble_eq_true rfl | omega
theorem wi_X5_nesting_X5 : ∀ w ∈ wsX50, w ∈ wsX5_nesting := fun w h => List.mem_cons_of_mem _ (List.mem_append_left _ (List.mem_append_right _ (h)))
theorem fl_X5_nesting_X5_1 : Cond.fieldLink RX5 15 (TX5 1).1 (TX5 1).2.1 (TX5 1).2.2.1 ∈ wsX5_nesting := List.mem_of_getElem? (i := 1) (by decide +kernel)
theorem wi_X5_nesting_X9 : ∀ w ∈ wsX90, w ∈ wsX5_nesting := fun w h => List.mem_cons_of_mem _ (List.mem_append_right _ (h))
set_option maxRecDepth 100000 in
set_option maxHeartbeats 4000000 in
theorem c_X5_nesting (l : Launch) (D : va_G) (kc : Nat → ClassId) (w : va_W) (q0 fa d1 l1 : Nat) (tx : Value) (o : Option Nat) (h0 : w[q0]? = some (fa, .inr (7, [tx, va_rf o]))) (hN : NF w o d1 l1) : kCi l D (tyL kc) yX5_nesting wsX5_nesting ({ frames := 0, cells := 0, slots := 0, locals := 0 } : Room) [.ref fa] (w) (fun _ : Unit => w) (0) (0) (fun r _ => r = nI d1) := by
  rcases hN with ⟨rfl, rfl, rfl⟩ | ⟨a1, k1, b1, t1, f1, g1, rfl, m1⟩
  · intro sz
    refine k_begin (cc := cX5_nesting) (maxL := 1) (ret := (some .int)) (by decide +kernel) rfl rfl (fun p e s m args below meth c hsz E G ls hl => ?_)
    subst hsz
    have hl : lv_has ls 1 [(0, .ref fa)] := hl
    refine lv_aload_n E.ex E.by dX5_nesting_0 rfl (lv_at hl 0 rfl) ?_
    refine k_get E G wi_X5_nesting_X5 (q0) (h0) rfl 1 rfl fl_X5_nesting_X5_1 (v := .null) rfl dX5_nesting_1 ?_
    refine lv_ifnonnullN E.ex E.by dX5_nesting_4 ?_
    refine lv_iconst (v := 0) E.ex E.by dX5_nesting_7 (by decide) ?_
    refine lv_goto (tgt := 18) E.ex E.by dX5_nesting_8 (by decide) ?_
    exact k_ret (wof := (fun _ : Unit => w)) (u := ()) E G rfl rfl (by first | exact Nat.le_of_ble_eq_true rfl | omega) (by first | exact Nat.le_of_ble_eq_true rfl | omega) dX5_nesting_18
  · obtain ⟨q1, e1⟩ := List.mem_iff_getElem?.mp m1
    intro sz
    refine k_begin (cc := cX5_nesting) (maxL := 1) (ret := (some .int)) (by decide +kernel) rfl rfl (fun p e s m args below meth c hsz E G ls hl => ?_)
    subst hsz
    have hl : lv_has ls 1 [(0, .ref fa)] := hl
    refine lv_aload_n E.ex E.by dX5_nesting_0 rfl (lv_at hl 0 rfl) ?_
    refine k_get E G wi_X5_nesting_X5 (q0) (h0) rfl 1 rfl fl_X5_nesting_X5_1 (v := .ref a1) rfl dX5_nesting_1 ?_
    refine lv_ifnonnull (tgt := 11) E.ex E.by dX5_nesting_4 (by decide) ?_
    refine lv_aload_n E.ex E.by dX5_nesting_11 rfl (lv_at hl 0 rfl) ?_
    refine k_get E G wi_X5_nesting_X5 (q0) (h0) rfl 1 rfl fl_X5_nesting_X5_1 (v := .ref a1) rfl dX5_nesting_12 ?_
    refine k_getN E G wi_X5_nesting_X9 (q1) (e1) rfl 5 rfl (by decide +kernel) (v := .int (nI d1)) rfl dX5_nesting_15 ?_
    exact k_ret (wof := (fun _ : Unit => w)) (u := ()) E G rfl rfl (by first | exact Nat.le_of_ble_eq_true rfl | omega) (by first | exact Nat.le_of_ble_eq_true rfl | omega) dX5_nesting_18
theorem wi_X5_longest_X5 : ∀ w ∈ wsX50, w ∈ wsX5_longest := fun w h => List.mem_cons_of_mem _ (List.mem_append_left _ (List.mem_append_right _ (h)))
theorem fl_X5_longest_X5_1 : Cond.fieldLink RX5 15 (TX5 1).1 (TX5 1).2.1 (TX5 1).2.2.1 ∈ wsX5_longest := List.mem_of_getElem? (i := 1) (by decide +kernel)
theorem wi_X5_longest_X9 : ∀ w ∈ wsX90, w ∈ wsX5_longest := fun w h => List.mem_cons_of_mem _ (List.mem_append_right _ (h))
set_option maxRecDepth 100000 in
set_option maxHeartbeats 4000000 in
theorem c_X5_longest (l : Launch) (D : va_G) (kc : Nat → ClassId) (w : va_W) (q0 fa d1 l1 : Nat) (tx : Value) (o : Option Nat) (h0 : w[q0]? = some (fa, .inr (7, [tx, va_rf o]))) (hN : NF w o d1 l1) : kCi l D (tyL kc) yX5_longest wsX5_longest ({ frames := 0, cells := 0, slots := 0, locals := 0 } : Room) [.ref fa] (w) (fun _ : Unit => w) (0) (0) (fun r _ => r = nI l1) := by
  rcases hN with ⟨rfl, rfl, rfl⟩ | ⟨a1, k1, b1, t1, f1, g1, rfl, m1⟩
  · intro sz
    refine k_begin (cc := cX5_longest) (maxL := 1) (ret := (some .int)) (by decide +kernel) rfl rfl (fun p e s m args below meth c hsz E G ls hl => ?_)
    subst hsz
    have hl : lv_has ls 1 [(0, .ref fa)] := hl
    refine lv_aload_n E.ex E.by dX5_longest_0 rfl (lv_at hl 0 rfl) ?_
    refine k_get E G wi_X5_longest_X5 (q0) (h0) rfl 1 rfl fl_X5_longest_X5_1 (v := .null) rfl dX5_longest_1 ?_
    refine lv_ifnonnullN E.ex E.by dX5_longest_4 ?_
    refine lv_iconst (v := 0) E.ex E.by dX5_longest_7 (by decide) ?_
    refine lv_goto (tgt := 18) E.ex E.by dX5_longest_8 (by decide) ?_
    exact k_ret (wof := (fun _ : Unit => w)) (u := ()) E G rfl rfl (by first | exact Nat.le_of_ble_eq_true rfl | omega) (by first | exact Nat.le_of_ble_eq_true rfl | omega) dX5_longest_18
  · obtain ⟨q1, e1⟩ := List.mem_iff_getElem?.mp m1
    intro sz
    refine k_begin (cc := cX5_longest) (maxL := 1) (ret := (some .int)) (by decide +kernel) rfl rfl (fun p e s m args below meth c hsz E G ls hl => ?_)
    subst hsz
    have hl : lv_has ls 1 [(0, .ref fa)] := hl
    refine lv_aload_n E.ex E.by dX5_longest_0 rfl (lv_at hl 0 rfl) ?_
    refine k_get E G wi_X5_longest_X5 (q0) (h0) rfl 1 rfl fl_X5_longest_X5_1 (v := .ref a1) rfl dX5_longest_1 ?_
    refine lv_ifnonnull (tgt := 11) E.ex E.by dX5_longest_4 (by decide) ?_
    refine lv_aload_n E.ex E.by dX5_longest_11 rfl (lv_at hl 0 rfl) ?_
    refine k_get E G wi_X5_longest_X5 (q0) (h0) rfl 1 rfl fl_X5_longest_X5_1 (v := .ref a1) rfl dX5_longest_12 ?_
    refine k_getN E G wi_X5_longest_X9 (q1) (e1) rfl 6 rfl (by decide +kernel) (v := .int (nI l1)) rfl dX5_longest_15 ?_
    exact k_ret (wof := (fun _ : Unit => w)) (u := ()) E G rfl rfl (by first | exact Nat.le_of_ble_eq_true rfl | omega) (by first | exact Nat.le_of_ble_eq_true rfl | omega) dX5_longest_18
theorem wi_X5_letterAt_X5 : ∀ w ∈ wsX50, w ∈ wsX5_letterAt := fun w h => List.mem_cons_of_mem _ (List.mem_append_left _ (List.mem_append_right _ (h)))
theorem fl_X5_letterAt_X5_0 : Cond.fieldLink RX5 9 (TX5 0).1 (TX5 0).2.1 (TX5 0).2.2.1 ∈ wsX5_letterAt := List.mem_of_getElem? (i := 1) (by decide +kernel)
theorem hd_J0_length_8abf5_v : yJ0_length_8abf5.cls = RJ0 ∧ yJ0_length_8abf5.cls ≠ "java/lang/invoke/MethodHandle" ∧ yJ0_length_8abf5.cls ≠ "java/lang/invoke/VarHandle" ∧ (parseMethodDescriptor yJ0_length_8abf5.desc).map (fun d => d.parameters.length) = some 0 := by decide +kernel
theorem hd_J0_charAt_5068e_v : yJ0_charAt_5068e.cls = RJ0 ∧ yJ0_charAt_5068e.cls ≠ "java/lang/invoke/MethodHandle" ∧ yJ0_charAt_5068e.cls ≠ "java/lang/invoke/VarHandle" ∧ (parseMethodDescriptor yJ0_charAt_5068e.desc).map (fun d => d.parameters.length) = some 1 := by decide +kernel
set_option maxRecDepth 100000 in
set_option maxHeartbeats 4000000 in
theorem c_X5_letterAt (l : Launch) (D : va_G) (kc : Nat → ClassId) (w : va_W) (q0 q1 q2 fa sa ba n : Nat) (t : Nat → Nat) (f : Nat → Int32) (rt x2 x3 : Value) (i : Int32) (h0 : w[q0]? = some (fa, .inr (7, [.ref sa, rt]))) (h1 : w[q1]? = some (sa, .inr (0, [.ref ba, .int 0, x2, x3]))) (h2 : w[q2]? = some (ba, .inl (kc 2, n, .inl f))) (hn : n < 2 ^ 31) (ht : stF t n f) : kCi l D (tyL kc) yX5_letterAt wsX5_letterAt ({ frames := 4, cells := 0, slots := 0, locals := 85 } : Room) [.ref fa, .int i] (w) (fun _ : Unit => w) (0) (0) (fun r _ => r = if i < 0 then -2 else if i.toNatClampNeg < n then nI (t i.toNatClampNeg) else -2) := by
  by_cases hi : i < 0
  · intro sz
    refine k_begin (cc := cX5_letterAt) (maxL := 2) (ret := (some .int)) (by decide +kernel) rfl rfl (fun p e s m args below meth c hsz E G ls hl => ?_)
    subst hsz
    have hl : lv_has ls 2 [(0, .ref fa), (1, .int i)] := hl
    refine lv_aload_n E.ex E.by dX5_letterAt_0 rfl (lv_at hl 0 rfl) ?_
    refine k_get E G wi_X5_letterAt_X5 (q0) (h0) rfl 0 rfl fl_X5_letterAt_X5_0 (v := .ref sa) rfl dX5_letterAt_1 ?_
    refine lv_ifnull E.ex E.by dX5_letterAt_4 ?_
    refine lv_iload_n E.ex E.by dX5_letterAt_7 rfl (lv_at hl 1 rfl) ?_
    refine lv_if_lt (tgt := 33) E.ex E.by dX5_letterAt_8 (by decide) (fun hc => ?_) (fun hc => absurd (hi) hc)
    clear hc
    refine lv_bipush (v := (-2)) E.ex E.by dX5_letterAt_33 (by decide) ?_
    exact k_ret (wof := (fun _ : Unit => w)) (u := ()) E G rfl (by exact (if_pos hi).symm) (by first | exact Nat.le_of_ble_eq_true rfl | omega) (by first | exact Nat.le_of_ble_eq_true rfl | omega) dX5_letterAt_35
  · obtain ⟨j, hj2, rfl⟩ := nI_of hi
    rcases Nat.lt_or_ge j n with hj | hj
    · intro sz
      refine k_begin (cc := cX5_letterAt) (maxL := 2) (ret := (some .int)) (by decide +kernel) rfl rfl (fun p e s m args below meth c hsz E G ls hl => ?_)
      subst hsz
      have hl : lv_has ls 2 [(0, .ref fa), (1, .int (nI j))] := hl
      refine lv_aload_n E.ex E.by dX5_letterAt_0 rfl (lv_at hl 0 rfl) ?_
      refine k_get E G wi_X5_letterAt_X5 (q0) (h0) rfl 0 rfl fl_X5_letterAt_X5_0 (v := .ref sa) rfl dX5_letterAt_1 ?_
      refine lv_ifnull E.ex E.by dX5_letterAt_4 ?_
      refine lv_iload_n E.ex E.by dX5_letterAt_7 rfl (lv_at hl 1 rfl) ?_
      refine lv_if_lt (tgt := 33) E.ex E.by dX5_letterAt_8 (by decide) (fun hc => absurd hc (hi)) (fun hc => ?_)
      clear hc
      refine lv_iload_n E.ex E.by dX5_letterAt_11 rfl (lv_at hl 1 rfl) ?_
      refine lv_aload_n E.ex E.by dX5_letterAt_12 rfl (lv_at hl 0 rfl) ?_
      refine k_get E G wi_X5_letterAt_X5 (q0) (h0) rfl 0 rfl fl_X5_letterAt_X5_0 (v := .ref sa) rfl dX5_letterAt_13 ?_
      refine k_cVi (n := 0) (X := []) (w := w) (Z := []) (wnew := (fun _ : Unit => w)) (As := []) (rest := [.int (nI j)]) E (List.append_nil _).symm G (c_J0_length l D kc w q1 sa ba x2 x3 h1 q2 n f h2) gX5_letterAt_J0_length_8abf5 rfl ⟨rfl, rfl⟩ hd_J0_length_8abf5_v ⟨rfl, rfl⟩ (q1) (h1) rfl rfl hl rfl rfl dX5_letterAt_16 (⟨rfl, rfl⟩) (fun _ => (List.append_nil _).symm) (fun r1 u1 hq1 H locs G => ?_)
      subst hq1
      refine lv_icmp_ge (tgt := 33) E.ex E.by dX5_letterAt_19 (by decide) (fun hc => absurd hc (nI_ge hj hn)) (fun hc => ?_)
      clear hc
      refine lv_aload_n E.ex E.by dX5_letterAt_22 rfl (lv_at hl 0 rfl) ?_
      refine k_get E G wi_X5_letterAt_X5 (q0) (h0) rfl 0 rfl fl_X5_letterAt_X5_0 (v := .ref sa) rfl dX5_letterAt_23 ?_
      refine lv_iload_n E.ex E.by dX5_letterAt_26 rfl (lv_at hl 1 rfl) ?_
      refine k_cVi (n := 1) (X := []) (w := w) (Z := []) (wnew := (fun _ : Unit => w)) (As := [.int (nI j)]) (rest := []) E (List.append_nil _).symm G (c_J0_charAt l D kc w q1 sa ba x2 x3 h1 q2 n j t f h2 hj hn ht) gX5_letterAt_J0_charAt_5068e rfl ⟨rfl, rfl⟩ hd_J0_charAt_5068e_v ⟨rfl, rfl⟩ (q1) (h1) rfl rfl hl rfl rfl dX5_letterAt_27 (⟨rfl, rfl⟩) (fun _ => (List.append_nil _).symm) (fun r2 u2 hq2 H locs G => ?_)
      subst hq2
      refine lv_goto (tgt := 35) E.ex E.by dX5_letterAt_30 (by decide) ?_
      exact k_ret (wof := (fun _ : Unit => w)) (u := ()) E G rfl (by exact by rw [if_neg hi, nI_clamp hj2, if_pos hj]) (by first | exact Nat.le_of_ble_eq_true rfl | omega) (by first | exact Nat.le_of_ble_eq_true rfl | omega) dX5_letterAt_35
    · intro sz
      refine k_begin (cc := cX5_letterAt) (maxL := 2) (ret := (some .int)) (by decide +kernel) rfl rfl (fun p e s m args below meth c hsz E G ls hl => ?_)
      subst hsz
      have hl : lv_has ls 2 [(0, .ref fa), (1, .int (nI j))] := hl
      refine lv_aload_n E.ex E.by dX5_letterAt_0 rfl (lv_at hl 0 rfl) ?_
      refine k_get E G wi_X5_letterAt_X5 (q0) (h0) rfl 0 rfl fl_X5_letterAt_X5_0 (v := .ref sa) rfl dX5_letterAt_1 ?_
      refine lv_ifnull E.ex E.by dX5_letterAt_4 ?_
      refine lv_iload_n E.ex E.by dX5_letterAt_7 rfl (lv_at hl 1 rfl) ?_
      refine lv_if_lt (tgt := 33) E.ex E.by dX5_letterAt_8 (by decide) (fun hc => absurd hc (hi)) (fun hc => ?_)
      clear hc
      refine lv_iload_n E.ex E.by dX5_letterAt_11 rfl (lv_at hl 1 rfl) ?_
      refine lv_aload_n E.ex E.by dX5_letterAt_12 rfl (lv_at hl 0 rfl) ?_
      refine k_get E G wi_X5_letterAt_X5 (q0) (h0) rfl 0 rfl fl_X5_letterAt_X5_0 (v := .ref sa) rfl dX5_letterAt_13 ?_
      refine k_cVi (n := 0) (X := []) (w := w) (Z := []) (wnew := (fun _ : Unit => w)) (As := []) (rest := [.int (nI j)]) E (List.append_nil _).symm G (c_J0_length l D kc w q1 sa ba x2 x3 h1 q2 n f h2) gX5_letterAt_J0_length_8abf5 rfl ⟨rfl, rfl⟩ hd_J0_length_8abf5_v ⟨rfl, rfl⟩ (q1) (h1) rfl rfl hl rfl rfl dX5_letterAt_16 (⟨rfl, rfl⟩) (fun _ => (List.append_nil _).symm) (fun r1 u1 hq1 H locs G => ?_)
      subst hq1
      refine lv_icmp_ge (tgt := 33) E.ex E.by dX5_letterAt_19 (by decide) (fun hc => ?_) (fun hc => absurd (nI_le hj hj2) hc)
      clear hc
      refine lv_bipush (v := (-2)) E.ex E.by dX5_letterAt_33 (by decide) ?_
      exact k_ret (wof := (fun _ : Unit => w)) (u := ()) E G rfl (by exact by rw [if_neg hi, nI_clamp hj2, if_neg (by omega)]) (by first | exact Nat.le_of_ble_eq_true rfl | omega) (by first | exact Nat.le_of_ble_eq_true rfl | omega) dX5_letterAt_35
