/-! ===== worlds with a pool; the parser ===== -/
def fl : List va_W → va_W
  | [] => []
  | [a] => a
  | a :: b :: l => a ++ fl (b :: l)
def sel {α : Type} : List Nat → List α → List α
  | [], l => l
  | i :: is, l => match l[i]? with
    | some x => x :: sel is (l.eraseIdx i)
    | none => l
theorem er_perm {α : Type} : ∀ (l : List α) (i : Nat) (hi : i < l.length), List.Perm l (l[i] :: l.eraseIdx i)
  | a :: l, 0, _ => List.Perm.refl _
  | a :: l, i + 1, h => ((er_perm l i (by simpa using h)).cons a).trans (List.Perm.swap _ _ _)
theorem sel_perm {α : Type} : ∀ (is : List Nat) (l : List α), List.Perm l (sel is l)
  | [], l => List.Perm.refl l
  | i :: is, l => by
    show List.Perm l (match l[i]? with | some x => x :: sel is (l.eraseIdx i) | none => l)
    split
    · rename_i x hx
      obtain ⟨hi, rfl⟩ := List.getElem?_eq_some_iff.mp hx
      exact (er_perm l i hi).trans ((sel_perm is _).cons _)
    · exact List.Perm.refl l
theorem fl_flat : ∀ l : List va_W, fl l = l.flatten
  | [] => rfl
  | [a] => by simp [fl]
  | a :: b :: l => by
    show a ++ fl (b :: l) = _
    rw [fl_flat (b :: l)]; rfl
theorem flat_perm {l m : List va_W} (h : List.Perm l m) : List.Perm l.flatten m.flatten := by
  induction h with
  | nil => exact List.Perm.refl _
  | cons x _ ih => exact ih.append_left x
  | swap x y l =>
    show List.Perm (y ++ (x ++ l.flatten)) (x ++ (y ++ l.flatten))
    rw [← List.append_assoc, ← List.append_assoc]
    exact List.perm_append_comm.append_right _
  | trans _ _ h1 h2 => exact h1.trans h2
section KP
variable {s : State} {H : Heap} {locs : List Loc} {D : va_G} {A : Nat → Prop} {ws : va_W}
theorem kG.sel {L L' : List va_W} (G : kG D A s (fl L) H locs) (is : List Nat) (h : sel is L = L') : kG D A s (fl L') H locs := by
  refine G.lp ?_
  rw [fl_flat, fl_flat, ← h]
  exact flat_perm (sel_perm is L)
theorem kG.pp {X pl : va_W} {x : Nat × va_E} (G : kG D A s ((X ++ pl) ++ [x]) H locs) : kG D A s (X ++ ([x] ++ pl)) H locs := G.lp (by
  rw [List.append_assoc]; exact List.Perm.append_left _ List.perm_append_comm)
end KP
def oPa (ap tx : Nat → Nat) (σ : US) : List Value := [.ref (tx 0), .int (iI σ 0), .int (iI σ 1)]
def wPa (kc : Nat → ClassId) (ap tx : Nat → Nat) (σ : US) : va_W := [(ap 0, .inr (12, oPa ap tx σ))]
theorem gP_0 (kc : Nat → ClassId) (ap tx : Nat → Nat) (σ : US) (pl : va_W) : (wPa kc ap tx σ ++ pl)[0]? = some (ap 0, .inr (12, oPa ap tx σ)) := rfl
theorem pP_0_1 (kc : Nat → ClassId) (ap tx : Nat → Nat) (σ : US) (pl : va_W) (x : Int32) : (wPa kc ap tx σ ++ pl).set 0 (ap 0, .inr (12, (oPa ap tx σ).set 1 (.int x))) = wPa kc ap tx (uI σ 0 x) ++ pl := rfl
theorem pP_0_2 (kc : Nat → ClassId) (ap tx : Nat → Nat) (σ : US) (pl : va_W) (x : Int32) : (wPa kc ap tx σ ++ pl).set 0 (ap 0, .inr (12, (oPa ap tx σ).set 2 (.int x))) = wPa kc ap tx (uI σ 1 x) ++ pl := rfl
/-- a text in a pool -/
def TX (kc : Nat → ClassId) (pl : va_W) (sa : Nat) (t : Nat → Nat) (n : Nat) : Prop := ∃ (ba : Nat) (x2 x3 : Value) (f : Nat → Int32), (sa, .inr (0, [.ref ba, .int 0, x2, x3])) ∈ pl ∧ (ba, .inl (kc 2, n, .inl f)) ∈ pl ∧ stF t n f ∧ n < 2 ^ 31
def wp_X9_init (kd : Int32) (ob : Option Nat) (st : Int32) (o1 o2 : Option Nat) (q : Nat) (pl : va_W) (Q : va_W → Prop) : Prop := ∃ s1 d1 l1 d2 l2 : Nat, st = nI s1 ∧ s1 < 2 ^ 30 ∧ d1 < 2 ^ 30 ∧ l1 < 2 ^ 30 ∧ d2 < 2 ^ 30 ∧ l2 < 2 ^ 30 ∧ NF pl o1 d1 l1 ∧ NF pl o2 d2 l2 ∧ ∀ z : va_W, z = (q, .inr (11, [.int kd, va_rf ob, .int st, va_rf o1, va_rf o2, .int (nI (max d1 d2 + if ob = none then 0 else 1)), .int (nI (max (max l1 l2) s1))])) :: pl → Q z
def wp_X1_init (u e t b : Int32) (q : Nat) (pl : va_W) (Q : va_W → Prop) : Prop := ∃ ub eb : Bool, u = bI ub ∧ e = bI eb ∧ ∀ z : va_W, z = (q, .inr (3, [.int u, .int e, .int t, .int b])) :: pl → Q z
def wp_X10_peek (kc : Nat → ClassId) (tx : Nat → Nat) (σ : US) (pl : va_W) (Q : Int32 → Prop) : Prop := ∃ (p n : Nat) (fl : Bool) (t : Nat → Nat), iI σ 0 = nI p ∧ iI σ 1 = bI fl ∧ p < 2 ^ 31 ∧ TX kc pl (tx 0) t n ∧ Q (if !fl && decide (p < n) then nI (t p) else 0)
def wp_X10_isDone (kc : Nat → ClassId) (tx : Nat → Nat) (σ : US) (pl : va_W) (Q : Int32 → Prop) : Prop := ∃ (p n : Nat) (fl : Bool) (t : Nat → Nat), iI σ 0 = nI p ∧ iI σ 1 = bI fl ∧ p < 2 ^ 31 ∧ TX kc pl (tx 0) t n ∧ Q (bI (!fl && decide (p = n)))
theorem wi_X10_peek_X10 : ∀ w ∈ wsX100, w ∈ wsX10_peek := fun w h => List.mem_cons_of_mem _ (List.mem_append_left _ (List.mem_append_right _ (h)))
theorem fl_X10_peek_X10_2 : Cond.fieldLink RX10 19 (TX10 2).1 (TX10 2).2.1 (TX10 2).2.2.1 ∈ wsX10_peek := List.mem_of_getElem? (i := 1) (by decide +kernel)
theorem fl_X10_peek_X10_1 : Cond.fieldLink RX10 15 (TX10 1).1 (TX10 1).2.1 (TX10 1).2.2.1 ∈ wsX10_peek := List.mem_of_getElem? (i := 2) (by decide +kernel)
theorem fl_X10_peek_X10_0 : Cond.fieldLink RX10 9 (TX10 0).1 (TX10 0).2.1 (TX10 0).2.2.1 ∈ wsX10_peek := List.mem_of_getElem? (i := 3) (by decide +kernel)
theorem wi_X10_isDone_X10 : ∀ w ∈ wsX100, w ∈ wsX10_isDone := fun w h => List.mem_cons_of_mem _ (List.mem_append_left _ (List.mem_append_right _ (h)))
theorem fl_X10_isDone_X10_2 : Cond.fieldLink RX10 19 (TX10 2).1 (TX10 2).2.1 (TX10 2).2.2.1 ∈ wsX10_isDone := List.mem_of_getElem? (i := 1) (by decide +kernel)
theorem fl_X10_isDone_X10_1 : Cond.fieldLink RX10 15 (TX10 1).1 (TX10 1).2.1 (TX10 1).2.2.1 ∈ wsX10_isDone := List.mem_of_getElem? (i := 2) (by decide +kernel)
theorem fl_X10_isDone_X10_0 : Cond.fieldLink RX10 9 (TX10 0).1 (TX10 0).2.1 (TX10 0).2.2.1 ∈ wsX10_isDone := List.mem_of_getElem? (i := 3) (by decide +kernel)
set_option maxRecDepth 100000 in
set_option maxHeartbeats 4000000 in
theorem c_X10_peek (l : Launch) (D : va_G) (kc : Nat → ClassId) (ap tx : Nat → Nat) (σ : US) (pl : va_W) (Q : Int32 → Prop) (h : wp_X10_peek kc tx σ pl Q) : kCi l D (tyL kc) yX10_peek wsX10_peek ({ frames := 4, cells := 0, slots := 0, locals := 85 } : Room) [.ref (ap 0)] (wPa kc ap tx σ ++ pl) (fun _ : Unit => wPa kc ap tx σ ++ pl) 0 0 (fun r _ => Q r) := by
  obtain ⟨p0, n, fl, t, ep, ef, hp, ⟨ba, x2, x3, f, m1, m2, ht, hn⟩, h⟩ := h
  have e0 : wPa kc ap tx σ = [(ap 0, .inr (12, [.ref (tx 0), .int (nI p0), .int (bI fl)]))] := by unfold wPa oPa; rw [ep, ef]
  rw [e0]; clear e0
  obtain ⟨q1, e1⟩ := List.mem_iff_getElem?.mp m1
  obtain ⟨q2, e2⟩ := List.mem_iff_getElem?.mp m2
  cases fl with
  | true =>
    intro sz
    refine k_begin (cc := cX10_peek) (maxL := 1) (ret := (some .char)) (by decide +kernel) rfl rfl (fun p e s m args below meth c hsz E G ls hl => ?_)
    subst hsz
    have hl : lv_has ls 1 [(0, .ref (ap 0))] := hl
    refine lv_aload_n E.ex E.by dX10_peek_0 rfl (lv_at hl 0 rfl) ?_
    refine k_get E G wi_X10_peek_X10 (0) (rfl) rfl 2 rfl fl_X10_peek_X10_2 (v := .int 1) rfl dX10_peek_1 ?_
    refine lv_if_ne (tgt := 42) E.ex E.by dX10_peek_4 (by decide) (fun hc => ?_) (fun hc => absurd hc (by decide))
    clear hc
    refine lv_iconst (v := 0) E.ex E.by dX10_peek_42 (by decide) ?_
    refine k_ret (v := 0) (wof := (fun _ : Unit => ([(ap 0, .inr (12, [.ref (tx 0), .int (nI p0), .int 1]))] ++ pl))) (u := ()) E G (rfl) ?_ ?_ ?_ dX10_peek_43
    · exact h
    · first | exact Nat.le_of_ble_eq_true rfl | omega
    · first | exact Nat.le_of_ble_eq_true rfl | omega
  | false =>
    rcases Nat.lt_or_ge p0 n with hj | hj
    · intro sz
      refine k_begin (cc := cX10_peek) (maxL := 1) (ret := (some .char)) (by decide +kernel) rfl rfl (fun p e s m args below meth c hsz E G ls hl => ?_)
      subst hsz
      have hl : lv_has ls 1 [(0, .ref (ap 0))] := hl
      refine lv_aload_n E.ex E.by dX10_peek_0 rfl (lv_at hl 0 rfl) ?_
      refine k_get E G wi_X10_peek_X10 (0) (rfl) rfl 2 rfl fl_X10_peek_X10_2 (v := .int 0) rfl dX10_peek_1 ?_
      refine lv_if_ne (tgt := 42) E.ex E.by dX10_peek_4 (by decide) (fun hc => absurd (rfl) hc) (fun hc => ?_)
      clear hc
      refine lv_aload_n E.ex E.by dX10_peek_7 rfl (lv_at hl 0 rfl) ?_
      refine k_get E G wi_X10_peek_X10 (0) (rfl) rfl 1 rfl fl_X10_peek_X10_1 (v := .int (nI p0)) rfl dX10_peek_8 ?_
      refine lv_if_lt (tgt := 42) E.ex E.by dX10_peek_11 (by decide) (fun hc => absurd hc (nI_pos hp)) (fun hc => ?_)
      clear hc
      refine lv_aload_n E.ex E.by dX10_peek_14 rfl (lv_at hl 0 rfl) ?_
      refine k_get E G wi_X10_peek_X10 (0) (rfl) rfl 1 rfl fl_X10_peek_X10_1 (v := .int (nI p0)) rfl dX10_peek_15 ?_
      refine lv_aload_n E.ex E.by dX10_peek_18 rfl (lv_at hl 0 rfl) ?_
      refine k_get E G wi_X10_peek_X10 (0) (rfl) rfl 0 rfl fl_X10_peek_X10_0 (v := .ref (tx 0)) rfl dX10_peek_19 ?_
      refine k_cVi (n := 0) (X := []) (w := ([(ap 0, .inr (12, [.ref (tx 0), .int (nI p0), .int 0]))] ++ pl)) (Z := []) (wnew := (fun _ : Unit => ([(ap 0, .inr (12, [.ref (tx 0), .int (nI p0), .int 0]))] ++ pl))) (As := []) (rest := [.int (nI p0)]) E (List.append_nil _).symm G (c_J0_length l D kc ([(ap 0, .inr (12, [.ref (tx 0), .int (nI p0), .int 0]))] ++ pl) (q1 + 1) (tx 0) ba x2 x3 (va_gC e1) (q2 + 1) n f (va_gC e2)) gX10_peek_J0_length_8abf5 rfl ⟨rfl, rfl⟩ hd_J0_length_8abf5_v ⟨rfl, rfl⟩ (q1 + 1) (va_gC e1) rfl rfl hl rfl rfl dX10_peek_22 (⟨rfl, rfl⟩) (fun _ => (List.append_nil _).symm) (fun r1 u1 hq1 H locs G => ?_)
      subst hq1
      refine lv_icmp_ge (tgt := 42) E.ex E.by dX10_peek_25 (by decide) (fun hc => absurd hc (nI_ge hj hn)) (fun hc => ?_)
      clear hc
      refine lv_aload_n E.ex E.by dX10_peek_28 rfl (lv_at hl 0 rfl) ?_
      refine k_get E G wi_X10_peek_X10 (0) (rfl) rfl 0 rfl fl_X10_peek_X10_0 (v := .ref (tx 0)) rfl dX10_peek_29 ?_
      refine lv_aload_n E.ex E.by dX10_peek_32 rfl (lv_at hl 0 rfl) ?_
      refine k_get E G wi_X10_peek_X10 (0) (rfl) rfl 1 rfl fl_X10_peek_X10_1 (v := .int (nI p0)) rfl dX10_peek_33 ?_
      refine k_cVi (n := 1) (X := []) (w := ([(ap 0, .inr (12, [.ref (tx 0), .int (nI p0), .int 0]))] ++ pl)) (Z := []) (wnew := (fun _ : Unit => ([(ap 0, .inr (12, [.ref (tx 0), .int (nI p0), .int 0]))] ++ pl))) (As := [.int (nI p0)]) (rest := []) E (List.append_nil _).symm G (c_J0_charAt l D kc ([(ap 0, .inr (12, [.ref (tx 0), .int (nI p0), .int 0]))] ++ pl) (q1 + 1) (tx 0) ba x2 x3 (va_gC e1) (q2 + 1) n p0 t f (va_gC e2) hj hn ht) gX10_peek_J0_charAt_5068e rfl ⟨rfl, rfl⟩ hd_J0_charAt_5068e_v ⟨rfl, rfl⟩ (q1 + 1) (va_gC e1) rfl rfl hl rfl rfl dX10_peek_36 (⟨rfl, rfl⟩) (fun _ => (List.append_nil _).symm) (fun r2 u2 hq2 H locs G => ?_)
      subst hq2
      refine lv_goto (tgt := 43) E.ex E.by dX10_peek_39 (by decide) ?_
      refine k_ret (v := (nI (t p0))) (wof := (fun _ : Unit => ([(ap 0, .inr (12, [.ref (tx 0), .int (nI p0), .int 0]))] ++ pl))) (u := ()) E G (jk_kch (ht.1 p0 hj).1) ?_ ?_ ?_ dX10_peek_43
      · rw [if_pos (by simp; exact hj)] at h; exact h
      · first | exact Nat.le_of_ble_eq_true rfl | omega
      · first | exact Nat.le_of_ble_eq_true rfl | omega
    · intro sz
      refine k_begin (cc := cX10_peek) (maxL := 1) (ret := (some .char)) (by decide +kernel) rfl rfl (fun p e s m args below meth c hsz E G ls hl => ?_)
      subst hsz
      have hl : lv_has ls 1 [(0, .ref (ap 0))] := hl
      refine lv_aload_n E.ex E.by dX10_peek_0 rfl (lv_at hl 0 rfl) ?_
      refine k_get E G wi_X10_peek_X10 (0) (rfl) rfl 2 rfl fl_X10_peek_X10_2 (v := .int 0) rfl dX10_peek_1 ?_
      refine lv_if_ne (tgt := 42) E.ex E.by dX10_peek_4 (by decide) (fun hc => absurd (rfl) hc) (fun hc => ?_)
      clear hc
      refine lv_aload_n E.ex E.by dX10_peek_7 rfl (lv_at hl 0 rfl) ?_
      refine k_get E G wi_X10_peek_X10 (0) (rfl) rfl 1 rfl fl_X10_peek_X10_1 (v := .int (nI p0)) rfl dX10_peek_8 ?_
      refine lv_if_lt (tgt := 42) E.ex E.by dX10_peek_11 (by decide) (fun hc => absurd hc (nI_pos hp)) (fun hc => ?_)
      clear hc
      refine lv_aload_n E.ex E.by dX10_peek_14 rfl (lv_at hl 0 rfl) ?_
      refine k_get E G wi_X10_peek_X10 (0) (rfl) rfl 1 rfl fl_X10_peek_X10_1 (v := .int (nI p0)) rfl dX10_peek_15 ?_
      refine lv_aload_n E.ex E.by dX10_peek_18 rfl (lv_at hl 0 rfl) ?_
      refine k_get E G wi_X10_peek_X10 (0) (rfl) rfl 0 rfl fl_X10_peek_X10_0 (v := .ref (tx 0)) rfl dX10_peek_19 ?_
      refine k_cVi (n := 0) (X := []) (w := ([(ap 0, .inr (12, [.ref (tx 0), .int (nI p0), .int 0]))] ++ pl)) (Z := []) (wnew := (fun _ : Unit => ([(ap 0, .inr (12, [.ref (tx 0), .int (nI p0), .int 0]))] ++ pl))) (As := []) (rest := [.int (nI p0)]) E (List.append_nil _).symm G (c_J0_length l D kc ([(ap 0, .inr (12, [.ref (tx 0), .int (nI p0), .int 0]))] ++ pl) (q1 + 1) (tx 0) ba x2 x3 (va_gC e1) (q2 + 1) n f (va_gC e2)) gX10_peek_J0_length_8abf5 rfl ⟨rfl, rfl⟩ hd_J0_length_8abf5_v ⟨rfl, rfl⟩ (q1 + 1) (va_gC e1) rfl rfl hl rfl rfl dX10_peek_22 (⟨rfl, rfl⟩) (fun _ => (List.append_nil _).symm) (fun r1 u1 hq1 H locs G => ?_)
      subst hq1
      refine lv_icmp_ge (tgt := 42) E.ex E.by dX10_peek_25 (by decide) (fun hc => ?_) (fun hc => absurd (nI_le hj hp) hc)
      clear hc
      refine lv_iconst (v := 0) E.ex E.by dX10_peek_42 (by decide) ?_
      refine k_ret (v := 0) (wof := (fun _ : Unit => ([(ap 0, .inr (12, [.ref (tx 0), .int (nI p0), .int 0]))] ++ pl))) (u := ()) E G (rfl) ?_ ?_ ?_ dX10_peek_43
      · rw [if_neg (by simp; omega)] at h; exact h
      · first | exact Nat.le_of_ble_eq_true rfl | omega
      · first | exact Nat.le_of_ble_eq_true rfl | omega
set_option maxRecDepth 100000 in
set_option maxHeartbeats 4000000 in
theorem c_X10_isDone (l : Launch) (D : va_G) (kc : Nat → ClassId) (ap tx : Nat → Nat) (σ : US) (pl : va_W) (Q : Int32 → Prop) (h : wp_X10_isDone kc tx σ pl Q) : kCi l D (tyL kc) yX10_isDone wsX10_isDone ({ frames := 2, cells := 0, slots := 0, locals := 40 } : Room) [.ref (ap 0)] (wPa kc ap tx σ ++ pl) (fun _ : Unit => wPa kc ap tx σ ++ pl) 0 0 (fun r _ => Q r) := by
  obtain ⟨p0, n, fl, t, ep, ef, hp, ⟨ba, x2, x3, f, m1, m2, ht, hn⟩, h⟩ := h
  have e0 : wPa kc ap tx σ = [(ap 0, .inr (12, [.ref (tx 0), .int (nI p0), .int (bI fl)]))] := by unfold wPa oPa; rw [ep, ef]
  rw [e0]; clear e0
  obtain ⟨q1, e1⟩ := List.mem_iff_getElem?.mp m1
  obtain ⟨q2, e2⟩ := List.mem_iff_getElem?.mp m2
  cases fl with
  | true =>
    intro sz
    refine k_begin (cc := cX10_isDone) (maxL := 1) (ret := (some .boolean)) (by decide +kernel) rfl rfl (fun p e s m args below meth c hsz E G ls hl => ?_)
    subst hsz
    have hl : lv_has ls 1 [(0, .ref (ap 0))] := hl
    refine lv_aload_n E.ex E.by dX10_isDone_0 rfl (lv_at hl 0 rfl) ?_
    refine k_get E G wi_X10_isDone_X10 (0) (rfl) rfl 2 rfl fl_X10_isDone_X10_2 (v := .int 1) rfl dX10_isDone_1 ?_
    refine lv_if_ne (tgt := 25) E.ex E.by dX10_isDone_4 (by decide) (fun hc => ?_) (fun hc => absurd hc (by decide))
    clear hc
    refine lv_iconst (v := 0) E.ex E.by dX10_isDone_25 (by decide) ?_
    refine k_ret (v := 0) (wof := (fun _ : Unit => ([(ap 0, .inr (12, [.ref (tx 0), .int (nI p0), .int 1]))] ++ pl))) (u := ()) E G (rfl) ?_ ?_ ?_ dX10_isDone_26
    · exact h
    · first | exact Nat.le_of_ble_eq_true rfl | omega
    · first | exact Nat.le_of_ble_eq_true rfl | omega
  | false =>
    by_cases hj : p0 = n
    · intro sz
      refine k_begin (cc := cX10_isDone) (maxL := 1) (ret := (some .boolean)) (by decide +kernel) rfl rfl (fun p e s m args below meth c hsz E G ls hl => ?_)
      subst hsz
      have hl : lv_has ls 1 [(0, .ref (ap 0))] := hl
      refine lv_aload_n E.ex E.by dX10_isDone_0 rfl (lv_at hl 0 rfl) ?_
      refine k_get E G wi_X10_isDone_X10 (0) (rfl) rfl 2 rfl fl_X10_isDone_X10_2 (v := .int 0) rfl dX10_isDone_1 ?_
      refine lv_if_ne (tgt := 25) E.ex E.by dX10_isDone_4 (by decide) (fun hc => absurd (rfl) hc) (fun hc => ?_)
      clear hc
      refine lv_aload_n E.ex E.by dX10_isDone_7 rfl (lv_at hl 0 rfl) ?_
      refine k_get E G wi_X10_isDone_X10 (0) (rfl) rfl 1 rfl fl_X10_isDone_X10_1 (v := .int (nI p0)) rfl dX10_isDone_8 ?_
      refine lv_aload_n E.ex E.by dX10_isDone_11 rfl (lv_at hl 0 rfl) ?_
      refine k_get E G wi_X10_isDone_X10 (0) (rfl) rfl 0 rfl fl_X10_isDone_X10_0 (v := .ref (tx 0)) rfl dX10_isDone_12 ?_
      refine k_cVi (n := 0) (X := []) (w := ([(ap 0, .inr (12, [.ref (tx 0), .int (nI p0), .int 0]))] ++ pl)) (Z := []) (wnew := (fun _ : Unit => ([(ap 0, .inr (12, [.ref (tx 0), .int (nI p0), .int 0]))] ++ pl))) (As := []) (rest := [.int (nI p0)]) E (List.append_nil _).symm G (c_J0_length l D kc ([(ap 0, .inr (12, [.ref (tx 0), .int (nI p0), .int 0]))] ++ pl) (q1 + 1) (tx 0) ba x2 x3 (va_gC e1) (q2 + 1) n f (va_gC e2)) gX10_isDone_J0_length_8abf5 rfl ⟨rfl, rfl⟩ hd_J0_length_8abf5_v ⟨rfl, rfl⟩ (q1 + 1) (va_gC e1) rfl rfl hl rfl rfl dX10_isDone_15 (⟨rfl, rfl⟩) (fun _ => (List.append_nil _).symm) (fun r1 u1 hq1 H locs G => ?_)
      subst hq1
      refine lv_icmp_ne (tgt := 25) E.ex E.by dX10_isDone_18 (by decide) (fun hc => absurd (by rw [hj]) hc) (fun hc => ?_)
      clear hc
      refine lv_iconst (v := 1) E.ex E.by dX10_isDone_21 (by decide) ?_
      refine lv_goto (tgt := 26) E.ex E.by dX10_isDone_22 (by decide) ?_
      refine k_ret (v := 1) (wof := (fun _ : Unit => ([(ap 0, .inr (12, [.ref (tx 0), .int (nI p0), .int 0]))] ++ pl))) (u := ()) E G (rfl) ?_ ?_ ?_ dX10_isDone_26
      · have h := bI_1 h (by simp; exact hj); exact h
      · first | exact Nat.le_of_ble_eq_true rfl | omega
      · first | exact Nat.le_of_ble_eq_true rfl | omega
    · intro sz
      refine k_begin (cc := cX10_isDone) (maxL := 1) (ret := (some .boolean)) (by decide +kernel) rfl rfl (fun p e s m args below meth c hsz E G ls hl => ?_)
      subst hsz
      have hl : lv_has ls 1 [(0, .ref (ap 0))] := hl
      refine lv_aload_n E.ex E.by dX10_isDone_0 rfl (lv_at hl 0 rfl) ?_
      refine k_get E G wi_X10_isDone_X10 (0) (rfl) rfl 2 rfl fl_X10_isDone_X10_2 (v := .int 0) rfl dX10_isDone_1 ?_
      refine lv_if_ne (tgt := 25) E.ex E.by dX10_isDone_4 (by decide) (fun hc => absurd (rfl) hc) (fun hc => ?_)
      clear hc
      refine lv_aload_n E.ex E.by dX10_isDone_7 rfl (lv_at hl 0 rfl) ?_
      refine k_get E G wi_X10_isDone_X10 (0) (rfl) rfl 1 rfl fl_X10_isDone_X10_1 (v := .int (nI p0)) rfl dX10_isDone_8 ?_
      refine lv_aload_n E.ex E.by dX10_isDone_11 rfl (lv_at hl 0 rfl) ?_
      refine k_get E G wi_X10_isDone_X10 (0) (rfl) rfl 0 rfl fl_X10_isDone_X10_0 (v := .ref (tx 0)) rfl dX10_isDone_12 ?_
      refine k_cVi (n := 0) (X := []) (w := ([(ap 0, .inr (12, [.ref (tx 0), .int (nI p0), .int 0]))] ++ pl)) (Z := []) (wnew := (fun _ : Unit => ([(ap 0, .inr (12, [.ref (tx 0), .int (nI p0), .int 0]))] ++ pl))) (As := []) (rest := [.int (nI p0)]) E (List.append_nil _).symm G (c_J0_length l D kc ([(ap 0, .inr (12, [.ref (tx 0), .int (nI p0), .int 0]))] ++ pl) (q1 + 1) (tx 0) ba x2 x3 (va_gC e1) (q2 + 1) n f (va_gC e2)) gX10_isDone_J0_length_8abf5 rfl ⟨rfl, rfl⟩ hd_J0_length_8abf5_v ⟨rfl, rfl⟩ (q1 + 1) (va_gC e1) rfl rfl hl rfl rfl dX10_isDone_15 (⟨rfl, rfl⟩) (fun _ => (List.append_nil _).symm) (fun r1 u1 hq1 H locs G => ?_)
      subst hq1
      refine lv_icmp_ne (tgt := 25) E.ex E.by dX10_isDone_18 (by decide) (fun hc => ?_) (fun hc => absurd hc (fun z => hj ((nI_eq hp hn).mp z)))
      clear hc
      refine lv_iconst (v := 0) E.ex E.by dX10_isDone_25 (by decide) ?_
      refine k_ret (v := 0) (wof := (fun _ : Unit => ([(ap 0, .inr (12, [.ref (tx 0), .int (nI p0), .int 0]))] ++ pl))) (u := ()) E G (rfl) ?_ ?_ ?_ dX10_isDone_26
      · have h := bI_0 h (by simp; exact hj); exact h
      · first | exact Nat.le_of_ble_eq_true rfl | omega
      · first | exact Nat.le_of_ble_eq_true rfl | omega
theorem wi_X10_position_X10 : ∀ w ∈ wsX100, w ∈ wsX10_position := fun w h => List.mem_cons_of_mem _ (List.mem_append_right _ (h))
theorem fl_X10_position_X10_1 : Cond.fieldLink RX10 15 (TX10 1).1 (TX10 1).2.1 (TX10 1).2.2.1 ∈ wsX10_position := List.mem_of_getElem? (i := 1) (by decide +kernel)
def wp_X10_position (kc : Nat → ClassId) (tx : Nat → Nat) (σ : US) (pl : va_W) (Q : Int32 → Prop) : Prop := Q (iI σ 0)
set_option maxRecDepth 100000 in
set_option maxHeartbeats 4000000 in
theorem c_X10_position (l : Launch) (D : va_G) (kc : Nat → ClassId) (ap : Nat → Nat) (tx : Nat → Nat)  (σ : US) (pl : va_W) (Q : Int32 → Prop) (h : wp_X10_position kc tx σ pl Q) : kCi l D (tyL kc) yX10_position wsX10_position ({ frames := 0, cells := 0, slots := 0, locals := 0 } : Room) [.ref (ap 0)] (wPa kc ap tx σ ++ pl) (fun _ : Unit => (wPa kc ap tx σ ++ pl)) (0) (0) (fun r _ => Q r) := by
  intro sz
  refine k_begin (cc := cX10_position) (maxL := 1) (ret := (some .int)) (by decide +kernel) rfl rfl (fun p e s m args below meth c hsz E G ls hl => ?_)
  subst hsz
  have hl : lv_has ls 1 [(0, .ref (ap 0))] := hl
  refine lv_aload_n E.ex E.by dX10_position_0 rfl (lv_at hl 0 rfl) ?_
  refine k_get E G wi_X10_position_X10 0 (gP_0 _ _ _ _ _) rfl 1 rfl fl_X10_position_X10_1 (v := .int (iI σ 0)) rfl dX10_position_1 ?_
  exact k_ret (wof := (fun _ : Unit => (wPa kc ap tx σ ++ pl))) (u := ()) E G rfl h (Nat.le_of_ble_eq_true rfl) (Nat.le_of_ble_eq_true rfl) dX10_position_4
theorem wi_X10_skip_X10 : ∀ w ∈ wsX100, w ∈ wsX10_skip := fun w h => List.mem_cons_of_mem _ (List.mem_append_left _ (List.mem_append_right _ (h)))
theorem fl_X10_skip_X10_2 : Cond.fieldLink RX10 19 (TX10 2).1 (TX10 2).2.1 (TX10 2).2.2.1 ∈ wsX10_skip := List.mem_of_getElem? (i := 1) (by decide +kernel)
theorem fl_X10_skip_X10_1 : Cond.fieldLink RX10 15 (TX10 1).1 (TX10 1).2.1 (TX10 1).2.2.1 ∈ wsX10_skip := List.mem_of_getElem? (i := 2) (by decide +kernel)
theorem hd_X10_peek_v : yX10_peek.cls = RX10 ∧ yX10_peek.cls ≠ "java/lang/invoke/MethodHandle" ∧ yX10_peek.cls ≠ "java/lang/invoke/VarHandle" ∧ (parseMethodDescriptor yX10_peek.desc).map (fun d => d.parameters.length) = some 0 := by decide +kernel
def wp_X10_skip (kc : Nat → ClassId) (tx : Nat → Nat) (p1 : Int32) (σ : US) (pl : va_W) (Q : Int32 → US → Prop) : Prop := (¬ (iI σ 1) = 0 → Q 0 σ) ∧ ((iI σ 1) = 0 → wp_X10_peek kc tx  σ pl (fun (r1 : Int32) => (r1 = p1 → (∀ z2 : US, z2 = uI σ 0 ((iI σ 0) + 1) → Q 1 z2)) ∧ (¬ r1 = p1 → Q 0 σ)))
set_option maxRecDepth 100000 in
set_option maxHeartbeats 4000000 in
theorem c_X10_skip (l : Launch) (D : va_G) (kc : Nat → ClassId) (ap : Nat → Nat) (tx : Nat → Nat)  (p1 : Int32) (σ : US) (pl : va_W) (Q : Int32 → US → Prop) (h : wp_X10_skip kc tx p1 σ pl Q) : kCi l D (tyL kc) yX10_skip wsX10_skip ({ frames := 5, cells := 0, slots := 0, locals := 105 } : Room) [.ref (ap 0), .int p1] (wPa kc ap tx σ ++ pl) (fun u : US => (wPa kc ap tx u ++ pl)) (0) (0) (fun r u => Q r u) := by
  intro sz
  refine k_begin (cc := cX10_skip) (maxL := 2) (ret := (some .boolean)) (by decide +kernel) rfl rfl (fun p e s m args below meth c hsz E G ls hl => ?_)
  subst hsz
  have hl : lv_has ls 2 [(0, .ref (ap 0)), (1, .int p1)] := hl
  refine lv_aload_n E.ex E.by dX10_skip_0 rfl (lv_at hl 0 rfl) ?_
  refine k_get E G wi_X10_skip_X10 0 (gP_0 _ _ _ _ _) rfl 2 rfl fl_X10_skip_X10_2 (v := .int (iI σ 1)) rfl dX10_skip_1 ?_
  refine lv_if_ne (tgt := 15) E.ex E.by dX10_skip_4 (by decide) (fun hc4 => ?_) (fun hc4 => ?_)
  · have h := h.1 hc4
    refine lv_iconst (v := 0) E.ex E.by dX10_skip_15 (by decide) ?_
    exact k_ret (wof := (fun u : US => (wPa kc ap tx u ++ pl))) (u := σ) E G rfl h (Nat.le_of_ble_eq_true rfl) (Nat.le_of_ble_eq_true rfl) dX10_skip_16
  · have h := h.2 hc4
    refine lv_aload_n E.ex E.by dX10_skip_7 rfl (lv_at hl 0 rfl) ?_
    refine k_cVi (n := 0) (X := []) (w := (wPa kc ap tx σ ++ pl)) (Z := []) (wnew := (fun _ : Unit => (wPa kc ap tx σ ++ pl))) (As := []) (rest := []) E (List.append_nil _).symm G (c_X10_peek l D kc _ _ _ _ _ h) gX10_skip_X10_peek rfl ⟨rfl, rfl⟩ hd_X10_peek_v ⟨rfl, rfl⟩ 0 (gP_0 _ _ _ _ _) rfl rfl hl rfl rfl dX10_skip_8 ⟨rfl, rfl⟩ (fun _ => (List.append_nil _).symm) (fun r1 _u8 hq H locs G => ?_)
    have h := hq
    refine lv_iload_n E.ex E.by dX10_skip_11 rfl (lv_at hl 1 rfl) ?_
    refine lv_icmp_eq (tgt := 17) E.ex E.by dX10_skip_12 (by decide) (fun hc3 => ?_) (fun hc3 => ?_)
    · have h := h.1 hc3
      refine lv_aload_n E.ex E.by dX10_skip_17 rfl (lv_at hl 0 rfl) ?_
      refine lv_dup E.ex E.by dX10_skip_18 rfl ?_
      refine k_get E G wi_X10_skip_X10 0 (gP_0 _ _ _ _ _) rfl 1 rfl fl_X10_skip_X10_1 (v := .int (iI σ 0)) rfl dX10_skip_19 ?_
      refine lv_iconst (v := 1) E.ex E.by dX10_skip_22 (by decide) ?_
      refine lv_iadd E.ex E.by dX10_skip_23 ?_
      refine k_put (fun z => (wPa kc ap tx z ++ pl)) E G wi_X10_skip_X10 tyX10_ok nmX10 0 (gP_0 _ _ _ _ _) rfl 1 rfl fl_X10_skip_X10_1 rfl rfl rfl rfl (uI σ 0 ((iI σ 0) + 1)) (pP_0_1 _ _ _ _ _ _) dX10_skip_24 (fun z2 ez2 H locs G => ?_)
      have h := h z2 ez2
      refine lv_iconst (v := 1) E.ex E.by dX10_skip_27 (by decide) ?_
      exact k_ret (wof := (fun u : US => (wPa kc ap tx u ++ pl))) (u := z2) E G rfl h (Nat.le_of_ble_eq_true rfl) (Nat.le_of_ble_eq_true rfl) dX10_skip_28
    · have h := h.2 hc3
      refine lv_iconst (v := 0) E.ex E.by dX10_skip_15 (by decide) ?_
      exact k_ret (wof := (fun u : US => (wPa kc ap tx u ++ pl))) (u := σ) E G rfl h (Nat.le_of_ble_eq_true rfl) (Nat.le_of_ble_eq_true rfl) dX10_skip_16
theorem wi_X10_expect_X10 : ∀ w ∈ wsX100, w ∈ wsX10_expect := fun w h => List.mem_cons_of_mem _ (List.mem_append_left _ (List.mem_append_right _ (h)))
theorem fl_X10_expect_X10_2 : Cond.fieldLink RX10 19 (TX10 2).1 (TX10 2).2.1 (TX10 2).2.2.1 ∈ wsX10_expect := List.mem_of_getElem? (i := 1) (by decide +kernel)
theorem hd_X10_skip_v : yX10_skip.cls = RX10 ∧ yX10_skip.cls ≠ "java/lang/invoke/MethodHandle" ∧ yX10_skip.cls ≠ "java/lang/invoke/VarHandle" ∧ (parseMethodDescriptor yX10_skip.desc).map (fun d => d.parameters.length) = some 1 := by decide +kernel
def wp_X10_expect (kc : Nat → ClassId) (tx : Nat → Nat) (p1 : Int32) (σ : US) (pl : va_W) (Q : US → Prop) : Prop := wp_X10_skip kc tx  p1 σ pl (fun (r1 : Int32) (u2 : US) => (¬ r1 = 0 → Q u2) ∧ (r1 = 0 → (∀ z3 : US, z3 = uI u2 1 1 → Q z3)))
set_option maxRecDepth 100000 in
set_option maxHeartbeats 4000000 in
theorem c_X10_expect (l : Launch) (D : va_G) (kc : Nat → ClassId) (ap : Nat → Nat) (tx : Nat → Nat)  (p1 : Int32) (σ : US) (pl : va_W) (Q : US → Prop) (h : wp_X10_expect kc tx p1 σ pl Q) : kCv l D (tyL kc) yX10_expect wsX10_expect ({ frames := 6, cells := 0, slots := 0, locals := 126 } : Room) [.ref (ap 0), .int p1] (wPa kc ap tx σ ++ pl) (fun u : US => (wPa kc ap tx u ++ pl)) (0) (0) (fun u => Q u) := by
  intro sz
  refine k_begin (cc := cX10_expect) (maxL := 2) (ret := none) (by decide +kernel) rfl rfl (fun p e s m args below meth c hsz E G ls hl => ?_)
  subst hsz
  have hl : lv_has ls 2 [(0, .ref (ap 0)), (1, .int p1)] := hl
  refine lv_aload_n E.ex E.by dX10_expect_0 rfl (lv_at hl 0 rfl) ?_
  refine lv_iload_n E.ex E.by dX10_expect_1 rfl (lv_at hl 1 rfl) ?_
  refine k_cVi (n := 1) (X := []) (w := (wPa kc ap tx σ ++ pl)) (Z := []) (wnew := (fun u : US => (wPa kc ap tx u ++ pl))) (As := [.int p1]) (rest := []) E (List.append_nil _).symm G (c_X10_skip l D kc _ _ _ _ _ _ h) gX10_expect_X10_skip rfl ⟨rfl, rfl⟩ hd_X10_skip_v ⟨rfl, rfl⟩ 0 (gP_0 _ _ _ _ _) rfl rfl hl rfl rfl dX10_expect_2 ⟨rfl, rfl⟩ (fun _ => (List.append_nil _).symm) (fun r1 u2 hq H locs G => ?_)
  have h := hq
  refine lv_if_ne (tgt := 13) E.ex E.by dX10_expect_5 (by decide) (fun hc4 => ?_) (fun hc4 => ?_)
  · have h := h.1 hc4
    exact k_retv (wof := (fun u : US => (wPa kc ap tx u ++ pl))) (u := u2) E G h (Nat.le_of_ble_eq_true rfl) (Nat.le_of_ble_eq_true rfl) dX10_expect_13
  · have h := h.2 hc4
    refine lv_aload_n E.ex E.by dX10_expect_8 rfl (lv_at hl 0 rfl) ?_
    refine lv_iconst (v := 1) E.ex E.by dX10_expect_9 (by decide) ?_
    refine k_put (fun z => (wPa kc ap tx z ++ pl)) E G wi_X10_expect_X10 tyX10_ok nmX10 0 (gP_0 _ _ _ _ _) rfl 2 rfl fl_X10_expect_X10_2 rfl rfl rfl rfl (uI u2 1 1) (pP_0_2 _ _ _ _ _ _) dX10_expect_10 (fun z3 ez3 H locs G => ?_)
    have h := h z3 ez3
    exact k_retv (wof := (fun u : US => (wPa kc ap tx u ++ pl))) (u := z3) E G h (Nat.le_of_ble_eq_true rfl) (Nat.le_of_ble_eq_true rfl) dX10_expect_13
theorem wi_X10_readNumber_X10 : ∀ w ∈ wsX100, w ∈ wsX10_readNumber := fun w h => List.mem_cons_of_mem _ (List.mem_append_left _ (List.mem_append_right _ (h)))
theorem fl_X10_readNumber_X10_2 : Cond.fieldLink RX10 19 (TX10 2).1 (TX10 2).2.1 (TX10 2).2.2.1 ∈ wsX10_readNumber := List.mem_of_getElem? (i := 2) (by decide +kernel)
theorem fl_X10_readNumber_X10_1 : Cond.fieldLink RX10 15 (TX10 1).1 (TX10 1).2.1 (TX10 1).2.2.1 ∈ wsX10_readNumber := List.mem_of_getElem? (i := 1) (by decide +kernel)
def wp_X10_readNumber_L4 (kc : Nat → ClassId) (tx : Nat → Nat) (pl : va_W) (Q : Int32 → US → Prop) (P4 : (Int32 × Int32 × US) → Prop) (t4 : Int32 × Int32 × US) : Prop := (2 ≤ t4.2.1 → Q t4.1 t4.2.2) ∧ (¬ 2 ≤ t4.2.1 → wp_X10_peek kc tx  t4.2.2 pl (fun (r1 : Int32) => (r1 < 48 → (¬ t4.2.1 = 0 → P4 (t4.1, t4.2.1 + 1, t4.2.2)) ∧ (t4.2.1 = 0 → (∀ z2 : US, z2 = uI t4.2.2 1 1 → P4 (t4.1, t4.2.1 + 1, z2)))) ∧ (¬ r1 < 48 → (57 < r1 → (¬ t4.2.1 = 0 → P4 (t4.1, t4.2.1 + 1, t4.2.2)) ∧ (t4.2.1 = 0 → (∀ z4 : US, z4 = uI t4.2.2 1 1 → P4 (t4.1, t4.2.1 + 1, z4)))) ∧ (¬ 57 < r1 → ∀ x6 : Int32, x6 = (t4.1 * 10) + (r1 - 48) → (∀ z7 : US, z7 = uI t4.2.2 0 ((iI t4.2.2 0) + 1) → P4 (x6, t4.2.1 + 1, z7))))))
def wp_X10_readNumber (kc : Nat → ClassId) (tx : Nat → Nat) (σ : US) (pl : va_W) (Q : Int32 → US → Prop) : Prop := lpW (wp_X10_readNumber_L4 kc tx pl Q) (0, 0, σ)
set_option maxRecDepth 100000 in
set_option maxHeartbeats 4000000 in
theorem c_X10_readNumber (l : Launch) (D : va_G) (kc : Nat → ClassId) (ap : Nat → Nat) (tx : Nat → Nat)  (σ : US) (pl : va_W) (Q : Int32 → US → Prop) (h : wp_X10_readNumber kc tx σ pl Q) : kCi l D (tyL kc) yX10_readNumber wsX10_readNumber ({ frames := 5, cells := 0, slots := 0, locals := 105 } : Room) [.ref (ap 0)] (wPa kc ap tx σ ++ pl) (fun u : US => (wPa kc ap tx u ++ pl)) (0) (0) (fun r u => Q r u) := by
  intro sz
  refine k_begin (cc := cX10_readNumber) (maxL := 4) (ret := (some .int)) (by decide +kernel) rfl rfl (fun p e s m args below meth c hsz E G ls hl => ?_)
  subst hsz
  have hl : lv_has ls 4 [(0, .ref (ap 0))] := hl
  refine lv_iconst (v := 0) E.ex E.by dX10_readNumber_0 (by decide) ?_
  refine lv_istore_n (lv' := [(1, .int 0), (0, .ref (ap 0))]) E.ex E.by dX10_readNumber_1 rfl hl (by decide) rfl (fun ls hl => ?_)
  refine lv_iconst (v := 0) E.ex E.by dX10_readNumber_2 (by decide) ?_
  refine lv_istore_n (lv' := [(2, .int 0), (1, .int 0), (0, .ref (ap 0))]) E.ex E.by dX10_readNumber_3 rfl hl (by decide) rfl (fun ls hl => ?_)
  refine lpW_ind (fun t1 : Int32 × Int32 × US => ∀ (H : Heap) (locs : List Loc) (ls : Array Slot), kG D (va_A (wPa kc ap tx σ ++ pl) s.heap.size) s (wPa kc ap tx t1.2.2 ++ pl) H locs → lv_has ls 4 [(0, .ref (ap 0)), (1, .int t1.1), (2, .int t1.2.1)] → W p l e _ s m args below meth c H locs _ _ _ (F0 m 4 ls [])) (fun P4 IH4 t1 h H locs ls G hl => ?_) _ h _ _ _ G (lv_sub hl [2, 1, 0] rfl)
  refine lv_iload_n E.ex E.by dX10_readNumber_4 rfl (lv_at hl 2 rfl) ?_
  refine lv_iconst (v := 2) E.ex E.by dX10_readNumber_5 (by decide) ?_
  refine lv_icmp_ge (tgt := 64) E.ex E.by dX10_readNumber_6 (by decide) (fun hc11 => ?_) (fun hc11 => ?_)
  · have h := h.1 hc11
    refine lv_iload_n E.ex E.by dX10_readNumber_64 rfl (lv_at hl 1 rfl) ?_
    exact k_ret (wof := (fun u : US => (wPa kc ap tx u ++ pl))) (u := t1.2.2) E G rfl h (Nat.le_of_ble_eq_true rfl) (Nat.le_of_ble_eq_true rfl) dX10_readNumber_65
  · have h := h.2 hc11
    refine lv_aload_n E.ex E.by dX10_readNumber_9 rfl (lv_at hl 0 rfl) ?_
    refine k_cVi (n := 0) (X := []) (w := (wPa kc ap tx t1.2.2 ++ pl)) (Z := []) (wnew := (fun _ : Unit => (wPa kc ap tx t1.2.2 ++ pl))) (As := []) (rest := []) E (List.append_nil _).symm G (c_X10_peek l D kc _ _ _ _ _ h) gX10_readNumber_X10_peek rfl ⟨rfl, rfl⟩ hd_X10_peek_v ⟨rfl, rfl⟩ 0 (gP_0 _ _ _ _ _) rfl rfl hl rfl rfl dX10_readNumber_10 ⟨rfl, rfl⟩ (fun _ => (List.append_nil _).symm) (fun r2 _u10 hq H locs G => ?_)
    have h := hq
    refine lv_istore_n (lv' := [(3, .int r2), (0, .ref (ap 0)), (1, .int t1.1), (2, .int t1.2.1)]) E.ex E.by dX10_readNumber_13 rfl hl (by decide) rfl (fun ls hl => ?_)
    refine lv_iload_n E.ex E.by dX10_readNumber_14 rfl (lv_at hl 0 rfl) ?_
    refine lv_bipush (v := 48) E.ex E.by dX10_readNumber_15 (by decide) ?_
    refine lv_icmp_lt (tgt := 49) E.ex E.by dX10_readNumber_17 (by decide) (fun hc10 => ?_) (fun hc10 => ?_)
    · have h := h.1 hc10
      refine lv_iload_n E.ex E.by dX10_readNumber_49 rfl (lv_at hl 3 rfl) ?_
      refine lv_if_ne (tgt := 58) E.ex E.by dX10_readNumber_50 (by decide) (fun hc4 => ?_) (fun hc4 => ?_)
      · have h := h.1 hc4
        refine lv_iinc (k := 3) (v := t1.2.1 + 1) (lv' := [(2, .int (t1.2.1 + 1)), (3, .int r2), (0, .ref (ap 0)), (1, .int t1.1)]) E.ex E.by dX10_readNumber_58 hl rfl (k_inc1 _) (by decide) rfl (fun ls hl => ?_)
        refine lv_goto (tgt := 4) E.ex E.by dX10_readNumber_61 (by decide) ?_
        exact IH4 _ h _ _ _ G (lv_sub hl [2, 3, 0] rfl)
      · have h := h.2 hc4
        refine lv_aload_n E.ex E.by dX10_readNumber_53 rfl (lv_at hl 1 rfl) ?_
        refine lv_iconst (v := 1) E.ex E.by dX10_readNumber_54 (by decide) ?_
        refine k_put (fun z => (wPa kc ap tx z ++ pl)) E G wi_X10_readNumber_X10 tyX10_ok nmX10 0 (gP_0 _ _ _ _ _) rfl 2 rfl fl_X10_readNumber_X10_2 rfl rfl rfl rfl (uI t1.2.2 1 1) (pP_0_2 _ _ _ _ _ _) dX10_readNumber_55 (fun z3 ez3 H locs G => ?_)
        have h := h z3 ez3
        refine lv_iinc (k := 3) (v := t1.2.1 + 1) (lv' := [(2, .int (t1.2.1 + 1)), (3, .int r2), (0, .ref (ap 0)), (1, .int t1.1)]) E.ex E.by dX10_readNumber_58 hl rfl (k_inc1 _) (by decide) rfl (fun ls hl => ?_)
        refine lv_goto (tgt := 4) E.ex E.by dX10_readNumber_61 (by decide) ?_
        exact IH4 _ h _ _ _ G (lv_sub hl [2, 3, 0] rfl)
    · have h := h.2 hc10
      refine lv_iload_n E.ex E.by dX10_readNumber_20 rfl (lv_at hl 0 rfl) ?_
      refine lv_bipush (v := 57) E.ex E.by dX10_readNumber_21 (by decide) ?_
      refine lv_icmp_gt (tgt := 49) E.ex E.by dX10_readNumber_23 (by decide) (fun hc9 => ?_) (fun hc9 => ?_)
      · have h := h.1 hc9
        refine lv_iload_n E.ex E.by dX10_readNumber_49 rfl (lv_at hl 3 rfl) ?_
        refine lv_if_ne (tgt := 58) E.ex E.by dX10_readNumber_50 (by decide) (fun hc6 => ?_) (fun hc6 => ?_)
        · have h := h.1 hc6
          refine lv_iinc (k := 3) (v := t1.2.1 + 1) (lv' := [(2, .int (t1.2.1 + 1)), (3, .int r2), (0, .ref (ap 0)), (1, .int t1.1)]) E.ex E.by dX10_readNumber_58 hl rfl (k_inc1 _) (by decide) rfl (fun ls hl => ?_)
          refine lv_goto (tgt := 4) E.ex E.by dX10_readNumber_61 (by decide) ?_
          exact IH4 _ h _ _ _ G (lv_sub hl [2, 3, 0] rfl)
        · have h := h.2 hc6
          refine lv_aload_n E.ex E.by dX10_readNumber_53 rfl (lv_at hl 1 rfl) ?_
          refine lv_iconst (v := 1) E.ex E.by dX10_readNumber_54 (by decide) ?_
          refine k_put (fun z => (wPa kc ap tx z ++ pl)) E G wi_X10_readNumber_X10 tyX10_ok nmX10 0 (gP_0 _ _ _ _ _) rfl 2 rfl fl_X10_readNumber_X10_2 rfl rfl rfl rfl (uI t1.2.2 1 1) (pP_0_2 _ _ _ _ _ _) dX10_readNumber_55 (fun z5 ez5 H locs G => ?_)
          have h := h z5 ez5
          refine lv_iinc (k := 3) (v := t1.2.1 + 1) (lv' := [(2, .int (t1.2.1 + 1)), (3, .int r2), (0, .ref (ap 0)), (1, .int t1.1)]) E.ex E.by dX10_readNumber_58 hl rfl (k_inc1 _) (by decide) rfl (fun ls hl => ?_)
          refine lv_goto (tgt := 4) E.ex E.by dX10_readNumber_61 (by decide) ?_
          exact IH4 _ h _ _ _ G (lv_sub hl [2, 3, 0] rfl)
      · have h := h.2 hc9
        refine lv_iload_n E.ex E.by dX10_readNumber_26 rfl (lv_at hl 2 rfl) ?_
        refine lv_bipush (v := 10) E.ex E.by dX10_readNumber_27 (by decide) ?_
        refine lv_imul E.ex E.by dX10_readNumber_29 ?_
        refine lv_iload_n E.ex E.by dX10_readNumber_30 rfl (lv_at hl 0 rfl) ?_
        refine lv_bipush (v := 48) E.ex E.by dX10_readNumber_31 (by decide) ?_
        refine lv_isub E.ex E.by dX10_readNumber_33 ?_
        refine lv_iadd E.ex E.by dX10_readNumber_34 ?_
        refine lv_topi (fun x7 ex7 => ?_)
        have h := h x7 ex7
        refine lv_istore_n (lv' := [(1, .int x7), (3, .int r2), (0, .ref (ap 0)), (2, .int t1.2.1)]) E.ex E.by dX10_readNumber_35 rfl hl (by decide) rfl (fun ls hl => ?_)
        refine lv_aload_n E.ex E.by dX10_readNumber_36 rfl (lv_at hl 2 rfl) ?_
        refine lv_dup E.ex E.by dX10_readNumber_37 rfl ?_
        refine k_get E G wi_X10_readNumber_X10 0 (gP_0 _ _ _ _ _) rfl 1 rfl fl_X10_readNumber_X10_1 (v := .int (iI t1.2.2 0)) rfl dX10_readNumber_38 ?_
        refine lv_iconst (v := 1) E.ex E.by dX10_readNumber_41 (by decide) ?_
        refine lv_iadd E.ex E.by dX10_readNumber_42 ?_
        refine k_put (fun z => (wPa kc ap tx z ++ pl)) E G wi_X10_readNumber_X10 tyX10_ok nmX10 0 (gP_0 _ _ _ _ _) rfl 1 rfl fl_X10_readNumber_X10_1 rfl rfl rfl rfl (uI t1.2.2 0 ((iI t1.2.2 0) + 1)) (pP_0_1 _ _ _ _ _ _) dX10_readNumber_43 (fun z8 ez8 H locs G => ?_)
        have h := h z8 ez8
        refine lv_goto (tgt := 58) E.ex E.by dX10_readNumber_46 (by decide) ?_
        refine lv_iinc (k := 3) (v := t1.2.1 + 1) (lv' := [(2, .int (t1.2.1 + 1)), (1, .int x7), (3, .int r2), (0, .ref (ap 0))]) E.ex E.by dX10_readNumber_58 hl rfl (k_inc1 _) (by decide) rfl (fun ls hl => ?_)
        refine lv_goto (tgt := 4) E.ex E.by dX10_readNumber_61 (by decide) ?_
        exact IH4 _ h _ _ _ G (lv_sub hl [3, 1, 0] rfl)
theorem wi_X10_readSteps_X10 : ∀ w ∈ wsX100, w ∈ wsX10_readSteps := fun w h => List.mem_cons_of_mem _ (List.mem_append_left _ (List.mem_append_right _ (h)))
theorem fl_X10_readSteps_X10_2 : Cond.fieldLink RX10 19 (TX10 2).1 (TX10 2).2.1 (TX10 2).2.2.1 ∈ wsX10_readSteps := List.mem_of_getElem? (i := 1) (by decide +kernel)
theorem fl_X10_readSteps_X10_1 : Cond.fieldLink RX10 15 (TX10 1).1 (TX10 1).2.1 (TX10 1).2.2.1 ∈ wsX10_readSteps := List.mem_of_getElem? (i := 2) (by decide +kernel)
def wp_X10_readSteps (kc : Nat → ClassId) (tx : Nat → Nat) (σ : US) (pl : va_W) (Q : Int32 → US → Prop) : Prop := wp_X10_peek kc tx  σ pl (fun (r1 : Int32) => (r1 < 48 → (∀ z2 : US, z2 = uI σ 1 1 → Q 0 z2)) ∧ (¬ r1 < 48 → (r1 ≤ 54 → (∀ z3 : US, z3 = uI σ 0 ((iI σ 0) + 1) → Q (r1 - 48) z3)) ∧ (¬ r1 ≤ 54 → (∀ z4 : US, z4 = uI σ 1 1 → Q 0 z4))))
set_option maxRecDepth 100000 in
set_option maxHeartbeats 4000000 in
theorem c_X10_readSteps (l : Launch) (D : va_G) (kc : Nat → ClassId) (ap : Nat → Nat) (tx : Nat → Nat)  (σ : US) (pl : va_W) (Q : Int32 → US → Prop) (h : wp_X10_readSteps kc tx σ pl Q) : kCi l D (tyL kc) yX10_readSteps wsX10_readSteps ({ frames := 5, cells := 0, slots := 0, locals := 105 } : Room) [.ref (ap 0)] (wPa kc ap tx σ ++ pl) (fun u : US => (wPa kc ap tx u ++ pl)) (0) (0) (fun r u => Q r u) := by
  intro sz
  refine k_begin (cc := cX10_readSteps) (maxL := 2) (ret := (some .int)) (by decide +kernel) rfl rfl (fun p e s m args below meth c hsz E G ls hl => ?_)
  subst hsz
  have hl : lv_has ls 2 [(0, .ref (ap 0))] := hl
  refine lv_aload_n E.ex E.by dX10_readSteps_0 rfl (lv_at hl 0 rfl) ?_
  refine k_cVi (n := 0) (X := []) (w := (wPa kc ap tx σ ++ pl)) (Z := []) (wnew := (fun _ : Unit => (wPa kc ap tx σ ++ pl))) (As := []) (rest := []) E (List.append_nil _).symm G (c_X10_peek l D kc _ _ _ _ _ h) gX10_readSteps_X10_peek rfl ⟨rfl, rfl⟩ hd_X10_peek_v ⟨rfl, rfl⟩ 0 (gP_0 _ _ _ _ _) rfl rfl hl rfl rfl dX10_readSteps_1 ⟨rfl, rfl⟩ (fun _ => (List.append_nil _).symm) (fun r1 _u1 hq H locs G => ?_)
  have h := hq
  refine lv_istore_n (lv' := [(1, .int r1), (0, .ref (ap 0))]) E.ex E.by dX10_readSteps_4 rfl hl (by decide) rfl (fun ls hl => ?_)
  refine lv_iload_n E.ex E.by dX10_readSteps_5 rfl (lv_at hl 0 rfl) ?_
  refine lv_bipush (v := 48) E.ex E.by dX10_readSteps_6 (by decide) ?_
  refine lv_icmp_lt (tgt := 17) E.ex E.by dX10_readSteps_8 (by decide) (fun hc6 => ?_) (fun hc6 => ?_)
  · have h := h.1 hc6
    refine lv_aload_n E.ex E.by dX10_readSteps_17 rfl (lv_at hl 1 rfl) ?_
    refine lv_iconst (v := 1) E.ex E.by dX10_readSteps_18 (by decide) ?_
    refine k_put (fun z => (wPa kc ap tx z ++ pl)) E G wi_X10_readSteps_X10 tyX10_ok nmX10 0 (gP_0 _ _ _ _ _) rfl 2 rfl fl_X10_readSteps_X10_2 rfl rfl rfl rfl (uI σ 1 1) (pP_0_2 _ _ _ _ _ _) dX10_readSteps_19 (fun z2 ez2 H locs G => ?_)
    have h := h z2 ez2
    refine lv_iconst (v := 0) E.ex E.by dX10_readSteps_22 (by decide) ?_
    exact k_ret (wof := (fun u : US => (wPa kc ap tx u ++ pl))) (u := z2) E G rfl h (Nat.le_of_ble_eq_true rfl) (Nat.le_of_ble_eq_true rfl) dX10_readSteps_23
  · have h := h.2 hc6
    refine lv_iload_n E.ex E.by dX10_readSteps_11 rfl (lv_at hl 0 rfl) ?_
    refine lv_bipush (v := 54) E.ex E.by dX10_readSteps_12 (by decide) ?_
    refine lv_icmp_le (tgt := 24) E.ex E.by dX10_readSteps_14 (by decide) (fun hc5 => ?_) (fun hc5 => ?_)
    · have h := h.1 hc5
      refine lv_aload_n E.ex E.by dX10_readSteps_24 rfl (lv_at hl 1 rfl) ?_
      refine lv_dup E.ex E.by dX10_readSteps_25 rfl ?_
      refine k_get E G wi_X10_readSteps_X10 0 (gP_0 _ _ _ _ _) rfl 1 rfl fl_X10_readSteps_X10_1 (v := .int (iI σ 0)) rfl dX10_readSteps_26 ?_
      refine lv_iconst (v := 1) E.ex E.by dX10_readSteps_29 (by decide) ?_
      refine lv_iadd E.ex E.by dX10_readSteps_30 ?_
      refine k_put (fun z => (wPa kc ap tx z ++ pl)) E G wi_X10_readSteps_X10 tyX10_ok nmX10 0 (gP_0 _ _ _ _ _) rfl 1 rfl fl_X10_readSteps_X10_1 rfl rfl rfl rfl (uI σ 0 ((iI σ 0) + 1)) (pP_0_1 _ _ _ _ _ _) dX10_readSteps_31 (fun z3 ez3 H locs G => ?_)
      have h := h z3 ez3
      refine lv_iload_n E.ex E.by dX10_readSteps_34 rfl (lv_at hl 0 rfl) ?_
      refine lv_bipush (v := 48) E.ex E.by dX10_readSteps_35 (by decide) ?_
      refine lv_isub E.ex E.by dX10_readSteps_37 ?_
      exact k_ret (wof := (fun u : US => (wPa kc ap tx u ++ pl))) (u := z3) E G rfl h (Nat.le_of_ble_eq_true rfl) (Nat.le_of_ble_eq_true rfl) dX10_readSteps_38
    · have h := h.2 hc5
      refine lv_aload_n E.ex E.by dX10_readSteps_17 rfl (lv_at hl 1 rfl) ?_
      refine lv_iconst (v := 1) E.ex E.by dX10_readSteps_18 (by decide) ?_
      refine k_put (fun z => (wPa kc ap tx z ++ pl)) E G wi_X10_readSteps_X10 tyX10_ok nmX10 0 (gP_0 _ _ _ _ _) rfl 2 rfl fl_X10_readSteps_X10_2 rfl rfl rfl rfl (uI σ 1 1) (pP_0_2 _ _ _ _ _ _) dX10_readSteps_19 (fun z4 ez4 H locs G => ?_)
      have h := h z4 ez4
      refine lv_iconst (v := 0) E.ex E.by dX10_readSteps_22 (by decide) ?_
      exact k_ret (wof := (fun u : US => (wPa kc ap tx u ++ pl))) (u := z4) E G rfl h (Nat.le_of_ble_eq_true rfl) (Nat.le_of_ble_eq_true rfl) dX10_readSteps_23
theorem wi_X10_readBound_X10 : ∀ w ∈ wsX100, w ∈ wsX10_readBound := fun w h => List.mem_cons_of_mem _ (List.mem_append_left _ (List.mem_append_left _ (List.mem_append_right _ (h))))
theorem fl_X10_readBound_X10_2 : Cond.fieldLink RX10 19 (TX10 2).1 (TX10 2).2.1 (TX10 2).2.2.1 ∈ wsX10_readBound := List.mem_of_getElem? (i := 1) (by decide +kernel)
theorem lcl_X10_readBound_73 : Cond.classLink RX10 73 RX1 ∈ wsX10_readBound := List.mem_of_getElem? (i := 3) (by decide +kernel)
theorem lin_X10_readBound_X1 : Cond.instantiable RX1 4 ∈ wsX10_readBound := List.mem_of_getElem? (i := 4) (by decide +kernel)
theorem li_X10_readBound_X1 : Cond.initialized RX1 ∈ wsX10_readBound := List.mem_of_getElem? (i := 5) (by decide +kernel)
theorem lml_X10_readBound_75 : Cond.methodLink RX10 75 yX1_init ∈ wsX10_readBound := List.mem_of_getElem? (i := 73) (by decide +kernel)
theorem lsm_X10_readBound_X1_init : Cond.instanceMethod yX1_init ∈ wsX10_readBound := List.mem_of_getElem? (i := 74) (by decide +kernel)
theorem hd_X1_init_n : yX1_init.cls ≠ "java/lang/invoke/MethodHandle" ∧ yX1_init.cls ≠ "java/lang/invoke/VarHandle" ∧ (parseMethodDescriptor yX1_init.desc).map (fun d => d.parameters.length) = some 4 := by decide +kernel
theorem wi_X10_readBound_X1 : ∀ w ∈ wsX10, w ∈ wsX10_readBound := fun w h => List.mem_cons_of_mem _ (List.mem_append_left _ (List.mem_append_right _ (h)))
theorem fl_X10_readBound_X10_1 : Cond.fieldLink RX10 15 (TX10 1).1 (TX10 1).2.1 (TX10 1).2.2.1 ∈ wsX10_readBound := List.mem_of_getElem? (i := 2) (by decide +kernel)
theorem hd_X10_readNumber_v : yX10_readNumber.cls = RX10 ∧ yX10_readNumber.cls ≠ "java/lang/invoke/MethodHandle" ∧ yX10_readNumber.cls ≠ "java/lang/invoke/VarHandle" ∧ (parseMethodDescriptor yX10_readNumber.desc).map (fun d => d.parameters.length) = some 0 := by decide +kernel
theorem hd_X10_expect_v : yX10_expect.cls = RX10 ∧ yX10_expect.cls ≠ "java/lang/invoke/MethodHandle" ∧ yX10_expect.cls ≠ "java/lang/invoke/VarHandle" ∧ (parseMethodDescriptor yX10_expect.desc).map (fun d => d.parameters.length) = some 1 := by decide +kernel
def wp_X10_readBound_J75 (kc : Nat → ClassId) (tx : Nat → Nat) (v4j75 : Int32) (v3j75 : Int32) (v2j75 : Int32) (v1j75 : Int32) (σ'j75 : US) (pl'j75 : va_W) (Q : Option Nat → (US × va_W) → Prop) : Prop := ∀ nw9 : Nat, wp_X1_init v1j75 v2j75 v3j75 v4j75 nw9 pl'j75 (fun (pl10 : va_W) => Q (some nw9) (σ'j75, pl10))
def wp_X10_readBound_J46 (kc : Nat → ClassId) (tx : Nat → Nat) (v3j46 : Int32) (v2j46 : Int32) (v1j46 : Int32) (σ'j46 : US) (pl'j46 : va_W) (s0j46 : Int32) (Q : Option Nat → (US × va_W) → Prop) : Prop := (¬ (iI σ'j46 1) = 0 → wp_X10_readBound_J75 kc tx s0j46 v3j46 v2j46 v1j46 σ'j46 pl'j46 Q) ∧ ((iI σ'j46 1) = 0 → (¬ s0j46 = 0 → wp_X10_readBound_J75 kc tx s0j46 v3j46 v2j46 v1j46 σ'j46 pl'j46 Q) ∧ (s0j46 = 0 → (∀ z11 : US, z11 = uI σ'j46 0 ((iI σ'j46 0) - 1) → (∀ z12 : US, z12 = uI z11 1 1 → wp_X10_readBound_J75 kc tx s0j46 v3j46 v2j46 v1j46 z12 pl'j46 Q))))
def wp_X10_readBound_J17 (kc : Nat → ClassId) (tx : Nat → Nat) (v1j17 : Int32) (σ'j17 : US) (pl'j17 : va_W) (Q : Option Nat → (US × va_W) → Prop) : Prop := wp_X10_skip kc tx  61 σ'j17 pl'j17 (fun (r3 : Int32) (u4 : US) => wp_X10_readNumber kc tx  u4 pl'j17 (fun (r5 : Int32) (u6 : US) => wp_X10_skip kc tx  47 u6 pl'j17 (fun (r7 : Int32) (u8 : US) => (r7 = 0 → wp_X10_readBound_J46 kc tx r5 r3 v1j17 u8 pl'j17 1 Q) ∧ (¬ r7 = 0 → wp_X10_readNumber kc tx  u8 pl'j17 (fun (r15 : Int32) (u16 : US) => wp_X10_readBound_J46 kc tx r5 r3 v1j17 u16 pl'j17 r15 Q)))))
def wp_X10_readBound (kc : Nat → ClassId) (tx : Nat → Nat) (σ : US) (pl : va_W) (Q : Option Nat → (US × va_W) → Prop) : Prop := wp_X10_skip kc tx  60 σ pl (fun (r1 : Int32) (u2 : US) => (¬ r1 = 0 → wp_X10_readBound_J17 kc tx r1 u2 pl Q) ∧ (r1 = 0 → wp_X10_expect kc tx  62 u2 pl (fun (u18 : US) => wp_X10_readBound_J17 kc tx r1 u18 pl Q)))
set_option maxRecDepth 100000 in
set_option maxHeartbeats 4000000 in
theorem c_X10_readBound (l : Launch) (D : va_G) (kc : Nat → ClassId) (ap : Nat → Nat) (tx : Nat → Nat)  (σ : US) (pl : va_W) (Q : Option Nat → (US × va_W) → Prop) (h : wp_X10_readBound kc tx σ pl Q) : kCq l D (tyL kc) yX10_readBound wsX10_readBound ({ frames := 7, cells := 1, slots := 4, locals := 147 } : Room) [.ref (ap 0)] (wPa kc ap tx σ ++ pl) (fun u : US × va_W => (wPa kc ap tx u.1 ++ u.2)) (1) (4) (fun r u => Q r u) := by
  intro sz
  refine k_begin (cc := cX10_readBound) (maxL := 5) (ret := (some (.object "ProbabilisticChecker$Bound"))) (by decide +kernel) rfl rfl (fun p e s m args below meth c hsz E G ls hl => ?_)
  subst hsz
  have hl : lv_has ls 5 [(0, .ref (ap 0))] := hl
  have K75 : ∀ (v4j75 : Int32) (v3j75 : Int32) (v2j75 : Int32) (v1j75 : Int32) (σ'j75 : US) (pl'j75 : va_W) (H : Heap) (locs : List Loc) (ls : Array Slot) (cs sl : Nat) (hcs : cs ≤ 0) (hsl : sl ≤ 0), kG D (va_A (wPa kc ap tx σ ++ pl) s.heap.size) s (wPa kc ap tx σ'j75 ++ pl'j75) H locs → lv_has ls 5 [(4, .int v4j75), (3, .int v3j75), (2, .int v2j75), (1, .int v1j75)] → wp_X10_readBound_J75 kc tx v4j75 v3j75 v2j75 v1j75 σ'j75 pl'j75 Q → W p l e ({ frames := 7, cells := 1, slots := 4, locals := 147 } : Room) s m args below meth c H locs cs sl (MQ below (va_Qq (fun r u => Q r u) (kB D (wPa kc ap tx σ ++ pl) s.heap.size (fun u : US × va_W => (wPa kc ap tx u.1 ++ u.2))) (va_A (wPa kc ap tx σ ++ pl) s.heap.size)) args s (1) (4) (va_A (wPa kc ap tx σ ++ pl) s.heap.size)) (F0 m 75 ls []) := by
    intro v4j75 v3j75 v2j75 v1j75 σ'j75 pl'j75 H locs ls cs sl hcs hsl G hl h
    refine k_new (ci := 3) E G wi_X10_readBound_X1 tyX1_ok lcl_X10_readBound_73 lin_X10_readBound_X1 li_X10_readBound_X1 rfl (fs := [.int 0, .int 0, .int 0, .int 0]) (fun j hj => by rcases (show j = 0 ∨ j = 1 ∨ j = 2 ∨ j = 3 by omega) with rfl | rfl | rfl | rfl <;> rfl) ⟨Nat.ble_eq_true_of_le (show cs + 1 ≤ 1 by omega), Nat.ble_eq_true_of_le (show sl + 4 ≤ 4 by omega)⟩ dX10_readBound_75 (fun nw18 H G => ?_)
    have h := h nw18
    refine lv_dup E.ex E.by dX10_readBound_78 rfl ?_
    refine lv_iload_n E.ex E.by dX10_readBound_79 rfl (lv_at hl 3 rfl) ?_
    refine lv_iload_n E.ex E.by dX10_readBound_80 rfl (lv_at hl 2 rfl) ?_
    refine lv_iload_n E.ex E.by dX10_readBound_81 rfl (lv_at hl 1 rfl) ?_
    refine lv_iload E.ex E.by dX10_readBound_82 (lv_at hl 0 rfl) ?_
    obtain ⟨ub_19, eb_19, eu19, ee19, h⟩ := h
    have G := kG.pp (X := (wPa kc ap tx σ'j75)) (pl := pl'j75) (x := (nw18, .inr (3, [.int 0, .int 0, .int 0, .int 0]))) G
    refine k_cI2v (n := 4) (X := (wPa kc ap tx σ'j75)) (w := [(nw18, .inr (3, [.int 0, .int 0, .int 0, .int 0]))]) (Z := pl'j75) (wnew := fun _ : Unit => (wPa kc ap tx σ'j75) ++ ([(nw18, .inr (3, [.int v1j75, .int v2j75, .int v3j75, .int v4j75]))] ++ pl'j75)) (As := [.int v1j75, .int v2j75, .int v3j75, .int v4j75]) (rest := [.ref nw18]) E rfl G (by have hc := c_X1_init l D kc nw18 ub_19 eb_19 v3j75 v4j75; rw [← eu19, ← ee19] at hc; exact hc) gX10_readBound_X1_init lml_X10_readBound_75 li_X10_readBound_X1 lsm_X10_readBound_X1_init rfl rfl ⟨rfl, rfl⟩ hd_X1_init_n ⟨rfl, rfl⟩ rfl hl rfl rfl dX10_readBound_84 ⟨show cs + 1 + 0 ≤ 1 by omega, show sl + 4 + 0 ≤ 4 by omega⟩ (fun _ => rfl) (fun _ _ H locs G => ?_)
    have G := G.cg (wz := (wPa kc ap tx σ'j75) ++ ((nw18, .inr (3, [.int v1j75, .int v2j75, .int v3j75, .int v4j75])) :: pl'j75)) (by simp)
    obtain ⟨pl19, epl19⟩ : ∃ z : va_W, z = (nw18, .inr (3, [.int v1j75, .int v2j75, .int v3j75, .int v4j75])) :: pl'j75 := ⟨_, rfl⟩
    rw [← epl19] at G
    have h := h pl19 epl19
    refine k_retq (wof := (fun u : US × va_W => (wPa kc ap tx u.1 ++ u.2))) (o := (some nw18)) (u := (σ'j75, pl19)) (Or.inl ⟨_, rfl⟩) E G ?_ ?_ ?_ dX10_readBound_87
    · exact h
    · exact (show cs + 1 ≤ 1 by omega)
    · exact (show sl + 4 ≤ 4 by omega)
  have K46 : ∀ (v3j46 : Int32) (v2j46 : Int32) (v1j46 : Int32) (σ'j46 : US) (pl'j46 : va_W) (s0j46 : Int32) (H : Heap) (locs : List Loc) (ls : Array Slot) (cs sl : Nat) (hcs : cs ≤ 0) (hsl : sl ≤ 0), kG D (va_A (wPa kc ap tx σ ++ pl) s.heap.size) s (wPa kc ap tx σ'j46 ++ pl'j46) H locs → lv_has ls 5 [(3, .int v3j46), (2, .int v2j46), (1, .int v1j46), (0, .ref (ap 0))] → wp_X10_readBound_J46 kc tx v3j46 v2j46 v1j46 σ'j46 pl'j46 s0j46 Q → W p l e ({ frames := 7, cells := 1, slots := 4, locals := 147 } : Room) s m args below meth c H locs cs sl (MQ below (va_Qq (fun r u => Q r u) (kB D (wPa kc ap tx σ ++ pl) s.heap.size (fun u : US × va_W => (wPa kc ap tx u.1 ++ u.2))) (va_A (wPa kc ap tx σ ++ pl) s.heap.size)) args s (1) (4) (va_A (wPa kc ap tx σ ++ pl) s.heap.size)) (F0 m 46 ls [.int s0j46]) := by
    intro v3j46 v2j46 v1j46 σ'j46 pl'j46 s0j46 H locs ls cs sl hcs hsl G hl h
    refine lv_istore (lv' := [(4, .int s0j46), (3, .int v3j46), (2, .int v2j46), (1, .int v1j46), (0, .ref (ap 0))]) E.ex E.by dX10_readBound_46 hl (by decide) rfl (fun ls hl => ?_)
    refine lv_aload_n E.ex E.by dX10_readBound_48 rfl (lv_at hl 4 rfl) ?_
    refine k_get E G wi_X10_readBound_X10 0 (gP_0 _ _ _ _ _) rfl 2 rfl fl_X10_readBound_X10_2 (v := .int (iI σ'j46 1)) rfl dX10_readBound_49 ?_
    refine lv_if_ne (tgt := 75) E.ex E.by dX10_readBound_52 (by decide) (fun hc17 => ?_) (fun hc17 => ?_)
    · have h := h.1 hc17
      exact K75 _ _ _ _ _ _ _ _ _ _ _ (by omega) (by omega) G (lv_sub hl [0, 1, 2, 3] rfl) h
    · have h := h.2 hc17
      refine lv_iload E.ex E.by dX10_readBound_55 (lv_at hl 0 rfl) ?_
      refine lv_if_ne (tgt := 75) E.ex E.by dX10_readBound_57 (by decide) (fun hc16 => ?_) (fun hc16 => ?_)
      · have h := h.1 hc16
        exact K75 _ _ _ _ _ _ _ _ _ _ _ (by omega) (by omega) G (lv_sub hl [0, 1, 2, 3] rfl) h
      · have h := h.2 hc16
        refine lv_aload_n E.ex E.by dX10_readBound_60 rfl (lv_at hl 4 rfl) ?_
        refine lv_dup E.ex E.by dX10_readBound_61 rfl ?_
        refine k_get E G wi_X10_readBound_X10 0 (gP_0 _ _ _ _ _) rfl 1 rfl fl_X10_readBound_X10_1 (v := .int (iI σ'j46 0)) rfl dX10_readBound_62 ?_
        refine lv_iconst (v := 1) E.ex E.by dX10_readBound_65 (by decide) ?_
        refine lv_isub E.ex E.by dX10_readBound_66 ?_
        refine k_put (fun z => (wPa kc ap tx z ++ pl'j46)) E G wi_X10_readBound_X10 tyX10_ok nmX10 0 (gP_0 _ _ _ _ _) rfl 1 rfl fl_X10_readBound_X10_1 rfl rfl rfl rfl (uI σ'j46 0 ((iI σ'j46 0) - 1)) (pP_0_1 _ _ _ _ _ _) dX10_readBound_67 (fun z14 ez14 H locs G => ?_)
        have h := h z14 ez14
        refine lv_aload_n E.ex E.by dX10_readBound_70 rfl (lv_at hl 4 rfl) ?_
        refine lv_iconst (v := 1) E.ex E.by dX10_readBound_71 (by decide) ?_
        refine k_put (fun z => (wPa kc ap tx z ++ pl'j46)) E G wi_X10_readBound_X10 tyX10_ok nmX10 0 (gP_0 _ _ _ _ _) rfl 2 rfl fl_X10_readBound_X10_2 rfl rfl rfl rfl (uI z14 1 1) (pP_0_2 _ _ _ _ _ _) dX10_readBound_72 (fun z15 ez15 H locs G => ?_)
        have h := h z15 ez15
        exact K75 _ _ _ _ _ _ _ _ _ _ _ (by omega) (by omega) G (lv_sub hl [0, 1, 2, 3] rfl) h
  have K17 : ∀ (v1j17 : Int32) (σ'j17 : US) (pl'j17 : va_W) (H : Heap) (locs : List Loc) (ls : Array Slot) (cs sl : Nat) (hcs : cs ≤ 0) (hsl : sl ≤ 0), kG D (va_A (wPa kc ap tx σ ++ pl) s.heap.size) s (wPa kc ap tx σ'j17 ++ pl'j17) H locs → lv_has ls 5 [(1, .int v1j17), (0, .ref (ap 0))] → wp_X10_readBound_J17 kc tx v1j17 σ'j17 pl'j17 Q → W p l e ({ frames := 7, cells := 1, slots := 4, locals := 147 } : Room) s m args below meth c H locs cs sl (MQ below (va_Qq (fun r u => Q r u) (kB D (wPa kc ap tx σ ++ pl) s.heap.size (fun u : US × va_W => (wPa kc ap tx u.1 ++ u.2))) (va_A (wPa kc ap tx σ ++ pl) s.heap.size)) args s (1) (4) (va_A (wPa kc ap tx σ ++ pl) s.heap.size)) (F0 m 17 ls []) := by
    intro v1j17 σ'j17 pl'j17 H locs ls cs sl hcs hsl G hl h
    refine lv_aload_n E.ex E.by dX10_readBound_17 rfl (lv_at hl 1 rfl) ?_
    refine lv_bipush (v := 61) E.ex E.by dX10_readBound_18 (by decide) ?_
    refine k_cVi (n := 1) (X := []) (w := (wPa kc ap tx σ'j17 ++ pl'j17)) (Z := []) (wnew := (fun u : US => (wPa kc ap tx u ++ pl'j17))) (As := [.int 61]) (rest := []) E (List.append_nil _).symm G (c_X10_skip l D kc _ _ _ _ _ _ h) gX10_readBound_X10_skip rfl ⟨rfl, rfl⟩ hd_X10_skip_v ⟨rfl, rfl⟩ 0 (gP_0 _ _ _ _ _) rfl rfl hl rfl rfl dX10_readBound_20 ⟨Nat.ble_eq_true_of_le (show cs + 0 ≤ 1 by omega), Nat.ble_eq_true_of_le (show sl + 0 ≤ 4 by omega)⟩ (fun _ => (List.append_nil _).symm) (fun r5 u6 hq H locs G => ?_)
    have h := hq
    refine lv_istore_n (lv' := [(2, .int r5), (1, .int v1j17), (0, .ref (ap 0))]) E.ex E.by dX10_readBound_23 rfl hl (by decide) rfl (fun ls hl => ?_)
    refine lv_aload_n E.ex E.by dX10_readBound_24 rfl (lv_at hl 2 rfl) ?_
    refine k_cVi (n := 0) (X := []) (w := (wPa kc ap tx u6 ++ pl'j17)) (Z := []) (wnew := (fun u : US => (wPa kc ap tx u ++ pl'j17))) (As := []) (rest := []) E (List.append_nil _).symm G (c_X10_readNumber l D kc _ _ _ _ _ h) gX10_readBound_X10_readNumber rfl ⟨rfl, rfl⟩ hd_X10_readNumber_v ⟨rfl, rfl⟩ 0 (gP_0 _ _ _ _ _) rfl rfl hl rfl rfl dX10_readBound_25 ⟨Nat.ble_eq_true_of_le (show cs + 0 + 0 ≤ 1 by omega), Nat.ble_eq_true_of_le (show sl + 0 + 0 ≤ 4 by omega)⟩ (fun _ => (List.append_nil _).symm) (fun r7 u8 hq H locs G => ?_)
    have h := hq
    refine lv_istore_n (lv' := [(3, .int r7), (2, .int r5), (1, .int v1j17), (0, .ref (ap 0))]) E.ex E.by dX10_readBound_28 rfl hl (by decide) rfl (fun ls hl => ?_)
    refine lv_aload_n E.ex E.by dX10_readBound_29 rfl (lv_at hl 3 rfl) ?_
    refine lv_bipush (v := 47) E.ex E.by dX10_readBound_30 (by decide) ?_
    refine k_cVi (n := 1) (X := []) (w := (wPa kc ap tx u8 ++ pl'j17)) (Z := []) (wnew := (fun u : US => (wPa kc ap tx u ++ pl'j17))) (As := [.int 47]) (rest := []) E (List.append_nil _).symm G (c_X10_skip l D kc _ _ _ _ _ _ h) gX10_readBound_X10_skip rfl ⟨rfl, rfl⟩ hd_X10_skip_v ⟨rfl, rfl⟩ 0 (gP_0 _ _ _ _ _) rfl rfl hl rfl rfl dX10_readBound_32 ⟨Nat.ble_eq_true_of_le (show cs + 0 + 0 + 0 ≤ 1 by omega), Nat.ble_eq_true_of_le (show sl + 0 + 0 + 0 ≤ 4 by omega)⟩ (fun _ => (List.append_nil _).symm) (fun r9 u10 hq H locs G => ?_)
    have h := hq
    refine lv_if_eq (tgt := 45) E.ex E.by dX10_readBound_35 (by decide) (fun hc13 => ?_) (fun hc13 => ?_)
    · have h := h.1 hc13
      refine lv_iconst (v := 1) E.ex E.by dX10_readBound_45 (by decide) ?_
      exact K46 _ _ _ _ _ _ _ _ _ _ _ (by omega) (by omega) G (lv_sub hl [0, 1, 2, 3] rfl) h
    · have h := h.2 hc13
      refine lv_aload_n E.ex E.by dX10_readBound_38 rfl (lv_at hl 3 rfl) ?_
      refine k_cVi (n := 0) (X := []) (w := (wPa kc ap tx u10 ++ pl'j17)) (Z := []) (wnew := (fun u : US => (wPa kc ap tx u ++ pl'j17))) (As := []) (rest := []) E (List.append_nil _).symm G (c_X10_readNumber l D kc _ _ _ _ _ h) gX10_readBound_X10_readNumber rfl ⟨rfl, rfl⟩ hd_X10_readNumber_v ⟨rfl, rfl⟩ 0 (gP_0 _ _ _ _ _) rfl rfl hl rfl rfl dX10_readBound_39 ⟨Nat.ble_eq_true_of_le (show cs + 0 + 0 + 0 + 0 ≤ 1 by omega), Nat.ble_eq_true_of_le (show sl + 0 + 0 + 0 + 0 ≤ 4 by omega)⟩ (fun _ => (List.append_nil _).symm) (fun r11 u12 hq H locs G => ?_)
      have h := hq
      refine lv_goto (tgt := 46) E.ex E.by dX10_readBound_42 (by decide) ?_
      exact K46 _ _ _ _ _ _ _ _ _ _ _ (by omega) (by omega) G (lv_sub hl [0, 1, 2, 3] rfl) h
  refine lv_aload_n E.ex E.by dX10_readBound_0 rfl (lv_at hl 0 rfl) ?_
  refine lv_bipush (v := 60) E.ex E.by dX10_readBound_1 (by decide) ?_
  refine k_cVi (n := 1) (X := []) (w := (wPa kc ap tx σ ++ pl)) (Z := []) (wnew := (fun u : US => (wPa kc ap tx u ++ pl))) (As := [.int 60]) (rest := []) E (List.append_nil _).symm G (c_X10_skip l D kc _ _ _ _ _ _ h) gX10_readBound_X10_skip rfl ⟨rfl, rfl⟩ hd_X10_skip_v ⟨rfl, rfl⟩ 0 (gP_0 _ _ _ _ _) rfl rfl hl rfl rfl dX10_readBound_3 ⟨Nat.ble_eq_true_of_le (show 0 + 0 ≤ 1 by omega), Nat.ble_eq_true_of_le (show 0 + 0 ≤ 4 by omega)⟩ (fun _ => (List.append_nil _).symm) (fun r1 u2 hq H locs G => ?_)
  have h := hq
  refine lv_istore_n (lv' := [(1, .int r1), (0, .ref (ap 0))]) E.ex E.by dX10_readBound_6 rfl hl (by decide) rfl (fun ls hl => ?_)
  refine lv_iload_n E.ex E.by dX10_readBound_7 rfl (lv_at hl 0 rfl) ?_
  refine lv_if_ne (tgt := 17) E.ex E.by dX10_readBound_8 (by decide) (fun hc4 => ?_) (fun hc4 => ?_)
  · have h := h.1 hc4
    exact K17 _ _ _ _ _ _ _ _ (by omega) (by omega) G (lv_sub hl [0, 1] rfl) h
  · have h := h.2 hc4
    refine lv_aload_n E.ex E.by dX10_readBound_11 rfl (lv_at hl 1 rfl) ?_
    refine lv_bipush (v := 62) E.ex E.by dX10_readBound_12 (by decide) ?_
    refine k_cVv (n := 1) (X := []) (w := (wPa kc ap tx u2 ++ pl)) (Z := []) (wnew := (fun u : US => (wPa kc ap tx u ++ pl))) (As := [.int 62]) (rest := []) E (List.append_nil _).symm G (c_X10_expect l D kc _ _ _ _ _ _ h) gX10_readBound_X10_expect rfl ⟨rfl, rfl⟩ hd_X10_expect_v ⟨rfl, rfl⟩ 0 (gP_0 _ _ _ _ _) rfl rfl hl rfl rfl dX10_readBound_14 ⟨Nat.ble_eq_true_of_le (show 0 + 0 + 0 ≤ 1 by omega), Nat.ble_eq_true_of_le (show 0 + 0 + 0 ≤ 4 by omega)⟩ (fun _ => (List.append_nil _).symm) (fun u3 hq H locs G => ?_)
    have h := hq
    exact K17 _ _ _ _ _ _ _ _ (by omega) (by omega) G (lv_sub hl [0, 1] rfl) h
theorem lcl_X10_readOpposite_33 : Cond.classLink RX10 33 RX9 ∈ wsX10_readOpposite := List.mem_of_getElem? (i := 1) (by decide +kernel)
theorem lin_X10_readOpposite_X9 : Cond.instantiable RX9 7 ∈ wsX10_readOpposite := List.mem_of_getElem? (i := 2) (by decide +kernel)
theorem li_X10_readOpposite_X9 : Cond.initialized RX9 ∈ wsX10_readOpposite := List.mem_of_getElem? (i := 3) (by decide +kernel)
theorem lml_X10_readOpposite_35 : Cond.methodLink RX10 35 yX9_init ∈ wsX10_readOpposite := List.mem_of_getElem? (i := 8) (by decide +kernel)
theorem lsm_X10_readOpposite_X9_init : Cond.instanceMethod yX9_init ∈ wsX10_readOpposite := List.mem_of_getElem? (i := 9) (by decide +kernel)
theorem hd_X9_init_n : yX9_init.cls ≠ "java/lang/invoke/MethodHandle" ∧ yX9_init.cls ≠ "java/lang/invoke/VarHandle" ∧ (parseMethodDescriptor yX9_init.desc).map (fun d => d.parameters.length) = some 5 := by decide +kernel
theorem hd_X10_readFormula_v : yX10_readFormula.cls = RX10 ∧ yX10_readFormula.cls ≠ "java/lang/invoke/MethodHandle" ∧ yX10_readFormula.cls ≠ "java/lang/invoke/VarHandle" ∧ (parseMethodDescriptor yX10_readFormula.desc).map (fun d => d.parameters.length) = some 1 := by decide +kernel
theorem wi_X10_readOpposite_X9 : ∀ w ∈ wsX90, w ∈ wsX10_readOpposite := fun w h => List.mem_cons_of_mem _ (List.mem_append_left _ (List.mem_append_left _ (List.mem_append_left _ (List.mem_append_right _ (h)))))
def wp_X10_readOpposite (kc : Nat → ClassId) (tx : Nat → Nat) (RF : Int32 → US → va_W → (Option Nat → (US × va_W) → Prop) → Prop) (p1 : Int32) (σ : US) (pl : va_W) (Q : Option Nat → (US × va_W) → Prop) : Prop := ∀ nw1 : Nat, RF  (p1 + 1) σ pl (fun (r2 : Option Nat) (u3 : US × va_W) => wp_X9_init 33 none 0 r2 none nw1 u3.2 (fun (pl4 : va_W) => Q (some nw1) (u3.1, pl4)))
set_option maxRecDepth 100000 in
set_option maxHeartbeats 4000000 in
theorem c_X10_readOpposite (l : Launch) (D : va_G) (kc : Nat → ClassId) (ap : Nat → Nat) (tx : Nat → Nat) (F L C S : Nat) (RF : Int32 → US → va_W → (Option Nat → (US × va_W) → Prop) → Prop) (HRF : ∀ (q1 : Int32) (σ0 : US) (pl0 : va_W) (Q0 : Option Nat → (US × va_W) → Prop), RF q1 σ0 pl0 Q0 → kCq l D (tyL kc) yX10_readFormula wsX10_readFormula ({ frames := F, cells := C, slots := S, locals := L } : Room) [.ref (ap 0), .int q1] (wPa kc ap tx σ0 ++ pl0) (fun u : US × va_W => (wPa kc ap tx u.1 ++ u.2)) (C) (S) (fun r u => Q0 r u)) (p1 : Int32) (σ : US) (pl : va_W) (Q : Option Nat → (US × va_W) → Prop) (h : wp_X10_readOpposite kc tx RF p1 σ pl Q) : kCq l D (tyL kc) yX10_readOpposite wsX10_readOpposite ({ frames := F + 2, cells := 1 + 1 * C, slots := 7 + 1 * S, locals := L + 57 } : Room) [.ref (ap 0), .int p1] (wPa kc ap tx σ ++ pl) (fun u : US × va_W => (wPa kc ap tx u.1 ++ u.2)) (1 + 1 * C) (7 + 1 * S) (fun r u => Q r u) := by
  intro sz
  refine k_begin (cc := cX10_readOpposite) (maxL := 2) (ret := (some (.object "ProbabilisticChecker$Node"))) (by decide +kernel) rfl rfl (fun p e s m args below meth c hsz E G ls hl => ?_)
  subst hsz
  have hl : lv_has ls 2 [(0, .ref (ap 0)), (1, .int p1)] := hl
  refine k_new (ci := 11) E G wi_X10_readOpposite_X9 tyX9_ok lcl_X10_readOpposite_33 lin_X10_readOpposite_X9 li_X10_readOpposite_X9 rfl (fs := [.int 0, .null, .int 0, .null, .null, .int 0, .int 0]) (fun j hj => by rcases (show j = 0 ∨ j = 1 ∨ j = 2 ∨ j = 3 ∨ j = 4 ∨ j = 5 ∨ j = 6 by omega) with rfl | rfl | rfl | rfl | rfl | rfl | rfl <;> rfl) ⟨Nat.ble_eq_true_of_le (show 0 + 1 ≤ 1 + 1 * C by omega), Nat.ble_eq_true_of_le (show 0 + 7 ≤ 7 + 1 * S by omega)⟩ dX10_readOpposite_0 (fun nw1 H G => ?_)
  have h := h nw1
  refine lv_dup E.ex E.by dX10_readOpposite_3 rfl ?_
  refine lv_bipush (v := 33) E.ex E.by dX10_readOpposite_4 (by decide) ?_
  refine lv_null E.ex E.by dX10_readOpposite_6 ?_
  refine lv_iconst (v := 0) E.ex E.by dX10_readOpposite_7 (by decide) ?_
  refine lv_aload_n E.ex E.by dX10_readOpposite_8 rfl (lv_at hl 0 rfl) ?_
  refine lv_iload_n E.ex E.by dX10_readOpposite_9 rfl (lv_at hl 1 rfl) ?_
  refine lv_iconst (v := 1) E.ex E.by dX10_readOpposite_10 (by decide) ?_
  refine lv_iadd E.ex E.by dX10_readOpposite_11 ?_
  refine k_cVq (n := 1) (X := []) (w := (wPa kc ap tx σ ++ pl)) (Z := [(nw1, .inr (11, [.int 0, .null, .int 0, .null, .null, .int 0, .int 0]))]) (wnew := (fun u : US × va_W => (wPa kc ap tx u.1 ++ u.2) ++ [(nw1, .inr (11, [.int 0, .null, .int 0, .null, .null, .int 0, .int 0]))])) (As := [.int (p1 + 1)]) (rest := [.int 0, .null, .int 33, .ref nw1, .ref nw1]) E rfl G (HRF _ _ _ _ h) gX10_readOpposite_X10_readFormula rfl ⟨rfl, rfl⟩ hd_X10_readFormula_v ⟨Nat.ble_eq_true_of_le (show F + 0 + 1 ≤ F + 2 by omega), Nat.ble_eq_true_of_le (show 8 + (3 + 11) + (L + 0) ≤ L + 57 by omega)⟩ 0 (gP_0 _ _ _ _ _) rfl rfl hl rfl rfl dX10_readOpposite_12 ⟨show 0 + 1 + C ≤ 1 + 1 * C by omega, show 0 + 7 + S ≤ 7 + 1 * S by omega⟩ (fun _ => rfl) (fun r2 u3 hq H locs G => ?_)
  have G : kG D _ s ((wPa kc ap tx u3.1 ++ u3.2) ++ [(nw1, .inr (11, [.int 0, .null, .int 0, .null, .null, .int 0, .int 0]))]) H locs := G
  have h := hq
  refine lv_null E.ex E.by dX10_readOpposite_15 ?_
  obtain ⟨s1_4, d1_4, l1_4, d2_4, l2_4, es4, hs4, hd1_4, hl1_4, hd2_4, hl2_4, hn1_4, hn2_4, h⟩ := h
  have G := kG.pp (X := (wPa kc ap tx u3.1)) (pl := u3.2) (x := (nw1, .inr (11, [.int 0, .null, .int 0, .null, .null, .int 0, .int 0]))) G
  refine k_cI2v (n := 5) (X := (wPa kc ap tx u3.1)) (w := ([(nw1, .inr (11, [.int 0, .null, .int 0, .null, .null, .int 0, .int 0]))] ++ u3.2)) (Z := []) (wnew := fun _ : Unit => (wPa kc ap tx u3.1) ++ (([(nw1, .inr (11, [.int 33, va_rf none, .int 0, va_rf r2, va_rf none, .int (nI (max d1_4 d2_4 + if (none : Option Nat) = none then 0 else 1)), .int (nI (max (max l1_4 l2_4) s1_4))]))] ++ u3.2) ++ [])) (As := [.int 33, va_rf none, .int 0, va_rf r2, va_rf none]) (rest := [.ref nw1]) E (by rw [List.append_nil]) G (by have hc := c_X9_init l D kc u3.2 nw1 33 s1_4 d1_4 l1_4 d2_4 l2_4 none r2 none hs4 hd1_4 hl1_4 hd2_4 hl2_4 hn1_4 hn2_4; rw [← es4] at hc; exact hc) gX10_readOpposite_X9_init lml_X10_readOpposite_35 li_X10_readOpposite_X9 lsm_X10_readOpposite_X9_init rfl rfl ⟨rfl, rfl⟩ hd_X9_init_n ⟨Nat.ble_eq_true_of_le (show 1 + 1 ≤ F + 2 by omega), Nat.ble_eq_true_of_le (show 8 + (8 + 11) + 30 ≤ L + 57 by omega)⟩ rfl hl rfl rfl dX10_readOpposite_16 ⟨show 0 + 1 + C + 0 ≤ 1 + 1 * C by omega, show 0 + 7 + S + 0 ≤ 7 + 1 * S by omega⟩ (fun _ => rfl) (fun _ _ H locs G => ?_)
  have G := G.cg (wz := (wPa kc ap tx u3.1) ++ ((nw1, .inr (11, [.int 33, va_rf none, .int 0, va_rf r2, va_rf none, .int (nI (max d1_4 d2_4 + if (none : Option Nat) = none then 0 else 1)), .int (nI (max (max l1_4 l2_4) s1_4))])) :: u3.2)) (by simp)
  obtain ⟨pl4, epl4⟩ : ∃ z : va_W, z = (nw1, .inr (11, [.int 33, va_rf none, .int 0, va_rf r2, va_rf none, .int (nI (max d1_4 d2_4 + if (none : Option Nat) = none then 0 else 1)), .int (nI (max (max l1_4 l2_4) s1_4))])) :: u3.2 := ⟨_, rfl⟩
  rw [← epl4] at G
  have h := h pl4 epl4
  refine k_retq (wof := (fun u : US × va_W => (wPa kc ap tx u.1 ++ u.2))) (o := (some nw1)) (u := (u3.1, pl4)) (Or.inl ⟨_, rfl⟩) E G ?_ ?_ ?_ dX10_readOpposite_19
  · exact h
  · exact (show 0 + 1 + C ≤ 1 + 1 * C by omega)
  · exact (show 0 + 7 + S ≤ 7 + 1 * S by omega)
theorem lcl_X10_readPair_33 : Cond.classLink RX10 33 RX9 ∈ wsX10_readPair := List.mem_of_getElem? (i := 1) (by decide +kernel)
theorem lin_X10_readPair_X9 : Cond.instantiable RX9 7 ∈ wsX10_readPair := List.mem_of_getElem? (i := 2) (by decide +kernel)
theorem li_X10_readPair_X9 : Cond.initialized RX9 ∈ wsX10_readPair := List.mem_of_getElem? (i := 3) (by decide +kernel)
theorem lml_X10_readPair_35 : Cond.methodLink RX10 35 yX9_init ∈ wsX10_readPair := List.mem_of_getElem? (i := 72) (by decide +kernel)
theorem lsm_X10_readPair_X9_init : Cond.instanceMethod yX9_init ∈ wsX10_readPair := List.mem_of_getElem? (i := 73) (by decide +kernel)
theorem wi_X10_readPair_X9 : ∀ w ∈ wsX90, w ∈ wsX10_readPair := fun w h => List.mem_cons_of_mem _ (List.mem_append_left _ (List.mem_append_left _ (List.mem_append_left _ (List.mem_append_right _ (h)))))
def wp_X10_readPair_J29 (kc : Nat → ClassId) (tx : Nat → Nat) (RF : Int32 → US → va_W → (Option Nat → (US × va_W) → Prop) → Prop) (v3j29 : Int32) (v2j29 : Option Nat) (v1j29 : Int32) (σ'j29 : US) (pl'j29 : va_W) (Q : Option Nat → (US × va_W) → Prop) : Prop := RF  (v1j29 + 1) σ'j29 pl'j29 (fun (r5 : Option Nat) (u6 : US × va_W) => wp_X10_expect kc tx  41 u6.1 u6.2 (fun (u7 : US) => ∀ nw8 : Nat, wp_X9_init v3j29 none 0 v2j29 r5 nw8 u6.2 (fun (pl9 : va_W) => Q (some nw8) (u7, pl9))))
def wp_X10_readPair (kc : Nat → ClassId) (tx : Nat → Nat) (RF : Int32 → US → va_W → (Option Nat → (US × va_W) → Prop) → Prop) (p1 : Int32) (σ : US) (pl : va_W) (Q : Option Nat → (US × va_W) → Prop) : Prop := RF  (p1 + 1) σ pl (fun (r1 : Option Nat) (u2 : US × va_W) => wp_X10_skip kc tx  38 u2.1 u2.2 (fun (r3 : Int32) (u4 : US) => (¬ r3 = 0 → wp_X10_readPair_J29 kc tx RF 38 r1 p1 u4 u2.2 Q) ∧ (r3 = 0 → wp_X10_expect kc tx  124 u4 u2.2 (fun (u10 : US) => wp_X10_readPair_J29 kc tx RF 124 r1 p1 u10 u2.2 Q))))
set_option maxRecDepth 100000 in
set_option maxHeartbeats 4000000 in
theorem c_X10_readPair (l : Launch) (D : va_G) (kc : Nat → ClassId) (ap : Nat → Nat) (tx : Nat → Nat) (F L C S : Nat) (RF : Int32 → US → va_W → (Option Nat → (US × va_W) → Prop) → Prop) (HRF : ∀ (q1 : Int32) (σ0 : US) (pl0 : va_W) (Q0 : Option Nat → (US × va_W) → Prop), RF q1 σ0 pl0 Q0 → kCq l D (tyL kc) yX10_readFormula wsX10_readFormula ({ frames := F, cells := C, slots := S, locals := L } : Room) [.ref (ap 0), .int q1] (wPa kc ap tx σ0 ++ pl0) (fun u : US × va_W => (wPa kc ap tx u.1 ++ u.2)) (C) (S) (fun r u => Q0 r u)) (p1 : Int32) (σ : US) (pl : va_W) (Q : Option Nat → (US × va_W) → Prop) (h : wp_X10_readPair kc tx RF p1 σ pl Q) : kCq l D (tyL kc) yX10_readPair wsX10_readPair ({ frames := F + 7, cells := 1 + 2 * C, slots := 7 + 2 * S, locals := L + 147 } : Room) [.ref (ap 0), .int p1] (wPa kc ap tx σ ++ pl) (fun u : US × va_W => (wPa kc ap tx u.1 ++ u.2)) (1 + 2 * C) (7 + 2 * S) (fun r u => Q r u) := by
  intro sz
  refine k_begin (cc := cX10_readPair) (maxL := 5) (ret := (some (.object "ProbabilisticChecker$Node"))) (by decide +kernel) rfl rfl (fun p e s m args below meth c hsz E G ls hl => ?_)
  subst hsz
  have hl : lv_has ls 5 [(0, .ref (ap 0)), (1, .int p1)] := hl
  have K29 : ∀ (v3j29 : Int32) (v2j29 : Option Nat) (σ'j29 : US) (pl'j29 : va_W) (H : Heap) (locs : List Loc) (ls : Array Slot) (cs sl : Nat) (hcs : cs ≤ 0 + 1 * C) (hsl : sl ≤ 0 + 1 * S), kG D (va_A (wPa kc ap tx σ ++ pl) s.heap.size) s (wPa kc ap tx σ'j29 ++ pl'j29) H locs → lv_has ls 5 [(3, .int v3j29), (2, va_rf v2j29), (0, .ref (ap 0)), (1, .int p1)] → wp_X10_readPair_J29 kc tx RF v3j29 v2j29 p1 σ'j29 pl'j29 Q → W p l e ({ frames := F + 7, cells := 1 + 2 * C, slots := 7 + 2 * S, locals := L + 147 } : Room) s m args below meth c H locs cs sl (MQ below (va_Qq (fun r u => Q r u) (kB D (wPa kc ap tx σ ++ pl) s.heap.size (fun u : US × va_W => (wPa kc ap tx u.1 ++ u.2))) (va_A (wPa kc ap tx σ ++ pl) s.heap.size)) args s (1 + 2 * C) (7 + 2 * S) (va_A (wPa kc ap tx σ ++ pl) s.heap.size)) (F0 m 29 ls []) := by
    intro v3j29 v2j29 σ'j29 pl'j29 H locs ls cs sl hcs hsl G hl h
    refine lv_aload_n E.ex E.by dX10_readPair_29 rfl (lv_at hl 2 rfl) ?_
    refine lv_iload_n E.ex E.by dX10_readPair_30 rfl (lv_at hl 3 rfl) ?_
    refine lv_iconst (v := 1) E.ex E.by dX10_readPair_31 (by decide) ?_
    refine lv_iadd E.ex E.by dX10_readPair_32 ?_
    refine k_cVq (n := 1) (X := []) (w := (wPa kc ap tx σ'j29 ++ pl'j29)) (Z := []) (wnew := (fun u : US × va_W => (wPa kc ap tx u.1 ++ u.2))) (As := [.int (p1 + 1)]) (rest := []) E (List.append_nil _).symm G (HRF _ _ _ _ h) gX10_readPair_X10_readFormula rfl ⟨rfl, rfl⟩ hd_X10_readFormula_v ⟨Nat.ble_eq_true_of_le (show F + 0 + 1 ≤ F + 7 by omega), Nat.ble_eq_true_of_le (show 8 + (3 + 11) + (L + 0) ≤ L + 147 by omega)⟩ 0 (gP_0 _ _ _ _ _) rfl rfl hl rfl rfl dX10_readPair_33 ⟨show cs + C ≤ 1 + 2 * C by omega, show sl + S ≤ 7 + 2 * S by omega⟩ (fun _ => (List.append_nil _).symm) (fun r7 u8 hq H locs G => ?_)
    have h := hq
    refine k_astoreR (o := r7) (lv' := [(4, va_rf r7), (3, .int v3j29), (2, va_rf v2j29), (0, .ref (ap 0)), (1, .int p1)]) E dX10_readPair_36 hl (by decide) rfl (fun ls hl => ?_)
    refine lv_aload_n E.ex E.by dX10_readPair_38 rfl (lv_at hl 3 rfl) ?_
    refine lv_bipush (v := 41) E.ex E.by dX10_readPair_39 (by decide) ?_
    refine k_cVv (n := 1) (X := []) (w := (wPa kc ap tx u8.1 ++ u8.2)) (Z := []) (wnew := (fun u : US => (wPa kc ap tx u ++ u8.2))) (As := [.int 41]) (rest := []) E (List.append_nil _).symm G (c_X10_expect l D kc _ _ _ _ _ _ h) gX10_readPair_X10_expect rfl ⟨rfl, rfl⟩ hd_X10_expect_v ⟨Nat.ble_eq_true_of_le (show 6 + 1 ≤ F + 7 by omega), Nat.ble_eq_true_of_le (show 8 + (2 + 11) + (126) ≤ L + 147 by omega)⟩ 0 (gP_0 _ _ _ _ _) rfl rfl hl rfl rfl dX10_readPair_41 ⟨Nat.ble_eq_true_of_le (show cs + C + 0 ≤ 1 + 2 * C by omega), Nat.ble_eq_true_of_le (show sl + S + 0 ≤ 7 + 2 * S by omega)⟩ (fun _ => (List.append_nil _).symm) (fun u9 hq H locs G => ?_)
    have h := hq
    refine k_new (ci := 11) E G wi_X10_readPair_X9 tyX9_ok lcl_X10_readPair_33 lin_X10_readPair_X9 li_X10_readPair_X9 rfl (fs := [.int 0, .null, .int 0, .null, .null, .int 0, .int 0]) (fun j hj => by rcases (show j = 0 ∨ j = 1 ∨ j = 2 ∨ j = 3 ∨ j = 4 ∨ j = 5 ∨ j = 6 by omega) with rfl | rfl | rfl | rfl | rfl | rfl | rfl <;> rfl) ⟨Nat.ble_eq_true_of_le (show cs + C + 0 + 1 ≤ 1 + 2 * C by omega), Nat.ble_eq_true_of_le (show sl + S + 0 + 7 ≤ 7 + 2 * S by omega)⟩ dX10_readPair_44 (fun nw10 H G => ?_)
    have h := h nw10
    refine lv_dup E.ex E.by dX10_readPair_47 rfl ?_
    refine lv_iload_n E.ex E.by dX10_readPair_48 rfl (lv_at hl 1 rfl) ?_
    refine lv_null E.ex E.by dX10_readPair_49 ?_
    refine lv_iconst (v := 0) E.ex E.by dX10_readPair_50 (by decide) ?_
    refine k_aload_nR E dX10_readPair_51 rfl (lv_at hl 2 rfl) ?_
    refine k_aloadR E dX10_readPair_52 (lv_at hl 0 rfl) ?_
    obtain ⟨s1_11, d1_11, l1_11, d2_11, l2_11, es11, hs11, hd1_11, hl1_11, hd2_11, hl2_11, hn1_11, hn2_11, h⟩ := h
    have G := kG.pp (X := (wPa kc ap tx u9)) (pl := u8.2) (x := (nw10, .inr (11, [.int 0, .null, .int 0, .null, .null, .int 0, .int 0]))) G
    refine k_cI2v (n := 5) (X := (wPa kc ap tx u9)) (w := ([(nw10, .inr (11, [.int 0, .null, .int 0, .null, .null, .int 0, .int 0]))] ++ u8.2)) (Z := []) (wnew := fun _ : Unit => (wPa kc ap tx u9) ++ (([(nw10, .inr (11, [.int v3j29, va_rf none, .int 0, va_rf v2j29, va_rf r7, .int (nI (max d1_11 d2_11 + if (none : Option Nat) = none then 0 else 1)), .int (nI (max (max l1_11 l2_11) s1_11))]))] ++ u8.2) ++ [])) (As := [.int v3j29, va_rf none, .int 0, va_rf v2j29, va_rf r7]) (rest := [.ref nw10]) E (by rw [List.append_nil]) G (by have hc := c_X9_init l D kc u8.2 nw10 v3j29 s1_11 d1_11 l1_11 d2_11 l2_11 none v2j29 r7 hs11 hd1_11 hl1_11 hd2_11 hl2_11 hn1_11 hn2_11; rw [← es11] at hc; exact hc) gX10_readPair_X9_init lml_X10_readPair_35 li_X10_readPair_X9 lsm_X10_readPair_X9_init rfl rfl ⟨rfl, rfl⟩ hd_X9_init_n ⟨Nat.ble_eq_true_of_le (show 1 + 1 ≤ F + 7 by omega), Nat.ble_eq_true_of_le (show 8 + (8 + 11) + 30 ≤ L + 147 by omega)⟩ rfl hl rfl rfl dX10_readPair_54 ⟨show cs + C + 0 + 1 + 0 ≤ 1 + 2 * C by omega, show sl + S + 0 + 7 + 0 ≤ 7 + 2 * S by omega⟩ (fun _ => rfl) (fun _ _ H locs G => ?_)
    have G := G.cg (wz := (wPa kc ap tx u9) ++ ((nw10, .inr (11, [.int v3j29, va_rf none, .int 0, va_rf v2j29, va_rf r7, .int (nI (max d1_11 d2_11 + if (none : Option Nat) = none then 0 else 1)), .int (nI (max (max l1_11 l2_11) s1_11))])) :: u8.2)) (by simp)
    obtain ⟨pl11, epl11⟩ : ∃ z : va_W, z = (nw10, .inr (11, [.int v3j29, va_rf none, .int 0, va_rf v2j29, va_rf r7, .int (nI (max d1_11 d2_11 + if (none : Option Nat) = none then 0 else 1)), .int (nI (max (max l1_11 l2_11) s1_11))])) :: u8.2 := ⟨_, rfl⟩
    rw [← epl11] at G
    have h := h pl11 epl11
    refine k_retq (wof := (fun u : US × va_W => (wPa kc ap tx u.1 ++ u.2))) (o := (some nw10)) (u := (u9, pl11)) (Or.inl ⟨_, rfl⟩) E G ?_ ?_ ?_ dX10_readPair_57
    · exact h
    · exact (show cs + C + 0 + 1 ≤ 1 + 2 * C by omega)
    · exact (show sl + S + 0 + 7 ≤ 7 + 2 * S by omega)
  refine lv_aload_n E.ex E.by dX10_readPair_0 rfl (lv_at hl 0 rfl) ?_
  refine lv_iload_n E.ex E.by dX10_readPair_1 rfl (lv_at hl 1 rfl) ?_
  refine lv_iconst (v := 1) E.ex E.by dX10_readPair_2 (by decide) ?_
  refine lv_iadd E.ex E.by dX10_readPair_3 ?_
  refine k_cVq (n := 1) (X := []) (w := (wPa kc ap tx σ ++ pl)) (Z := []) (wnew := (fun u : US × va_W => (wPa kc ap tx u.1 ++ u.2))) (As := [.int (p1 + 1)]) (rest := []) E (List.append_nil _).symm G (HRF _ _ _ _ h) gX10_readPair_X10_readFormula rfl ⟨rfl, rfl⟩ hd_X10_readFormula_v ⟨Nat.ble_eq_true_of_le (show F + 0 + 1 ≤ F + 7 by omega), Nat.ble_eq_true_of_le (show 8 + (3 + 11) + (L + 0) ≤ L + 147 by omega)⟩ 0 (gP_0 _ _ _ _ _) rfl rfl hl rfl rfl dX10_readPair_4 ⟨show 0 + C ≤ 1 + 2 * C by omega, show 0 + S ≤ 7 + 2 * S by omega⟩ (fun _ => (List.append_nil _).symm) (fun r1 u2 hq H locs G => ?_)
  have h := hq
  refine k_astore_nR (o := r1) (lv' := [(2, va_rf r1), (0, .ref (ap 0)), (1, .int p1)]) E dX10_readPair_7 rfl hl (by decide) rfl (fun ls hl => ?_)
  refine lv_bipush (v := 38) E.ex E.by dX10_readPair_8 (by decide) ?_
  refine lv_istore_n (lv' := [(3, .int 38), (2, va_rf r1), (0, .ref (ap 0)), (1, .int p1)]) E.ex E.by dX10_readPair_10 rfl hl (by decide) (by cases r1 <;> rfl) (fun ls hl => ?_)
  refine lv_aload_n E.ex E.by dX10_readPair_11 rfl (lv_at hl 2 rfl) ?_
  refine lv_bipush (v := 38) E.ex E.by dX10_readPair_12 (by decide) ?_
  refine k_cVi (n := 1) (X := []) (w := (wPa kc ap tx u2.1 ++ u2.2)) (Z := []) (wnew := (fun u : US => (wPa kc ap tx u ++ u2.2))) (As := [.int 38]) (rest := []) E (List.append_nil _).symm G (c_X10_skip l D kc _ _ _ _ _ _ h) gX10_readPair_X10_skip rfl ⟨rfl, rfl⟩ hd_X10_skip_v ⟨Nat.ble_eq_true_of_le (show 5 + 1 ≤ F + 7 by omega), Nat.ble_eq_true_of_le (show 8 + (2 + 11) + (105) ≤ L + 147 by omega)⟩ 0 (gP_0 _ _ _ _ _) rfl rfl hl rfl rfl dX10_readPair_14 ⟨Nat.ble_eq_true_of_le (show 0 + C + 0 ≤ 1 + 2 * C by omega), Nat.ble_eq_true_of_le (show 0 + S + 0 ≤ 7 + 2 * S by omega)⟩ (fun _ => (List.append_nil _).symm) (fun r3 u4 hq H locs G => ?_)
  have h := hq
  refine lv_if_ne (tgt := 29) E.ex E.by dX10_readPair_17 (by decide) (fun hc6 => ?_) (fun hc6 => ?_)
  · have h := h.1 hc6
    exact K29 _ _ _ _ _ _ _ _ _ (by omega) (by omega) G (lv_sub hl [0, 1, 2, 3] rfl) h
  · have h := h.2 hc6
    refine lv_bipush (v := 124) E.ex E.by dX10_readPair_20 (by decide) ?_
    refine lv_istore_n (lv' := [(3, .int 124), (2, va_rf r1), (0, .ref (ap 0)), (1, .int p1)]) E.ex E.by dX10_readPair_22 rfl hl (by decide) (by cases r1 <;> rfl) (fun ls hl => ?_)
    refine lv_aload_n E.ex E.by dX10_readPair_23 rfl (lv_at hl 2 rfl) ?_
    refine lv_bipush (v := 124) E.ex E.by dX10_readPair_24 (by decide) ?_
    refine k_cVv (n := 1) (X := []) (w := (wPa kc ap tx u4 ++ u2.2)) (Z := []) (wnew := (fun u : US => (wPa kc ap tx u ++ u2.2))) (As := [.int 124]) (rest := []) E (List.append_nil _).symm G (c_X10_expect l D kc _ _ _ _ _ _ h) gX10_readPair_X10_expect rfl ⟨rfl, rfl⟩ hd_X10_expect_v ⟨Nat.ble_eq_true_of_le (show 6 + 1 ≤ F + 7 by omega), Nat.ble_eq_true_of_le (show 8 + (2 + 11) + (126) ≤ L + 147 by omega)⟩ 0 (gP_0 _ _ _ _ _) rfl rfl hl rfl rfl dX10_readPair_26 ⟨Nat.ble_eq_true_of_le (show 0 + C + 0 + 0 ≤ 1 + 2 * C by omega), Nat.ble_eq_true_of_le (show 0 + S + 0 + 0 ≤ 7 + 2 * S by omega)⟩ (fun _ => (List.append_nil _).symm) (fun u5 hq H locs G => ?_)
    have h := hq
    exact K29 _ _ _ _ _ _ _ _ _ (by omega) (by omega) G (lv_sub hl [0, 1, 2, 3] rfl) h
theorem lcl_X10_readBounded_33 : Cond.classLink RX10 33 RX9 ∈ wsX10_readBounded := List.mem_of_getElem? (i := 1) (by decide +kernel)
theorem lin_X10_readBounded_X9 : Cond.instantiable RX9 7 ∈ wsX10_readBounded := List.mem_of_getElem? (i := 2) (by decide +kernel)
theorem li_X10_readBounded_X9 : Cond.initialized RX9 ∈ wsX10_readBounded := List.mem_of_getElem? (i := 3) (by decide +kernel)
theorem lml_X10_readBounded_35 : Cond.methodLink RX10 35 yX9_init ∈ wsX10_readBounded := List.mem_of_getElem? (i := 93) (by decide +kernel)
theorem lsm_X10_readBounded_X9_init : Cond.instanceMethod yX9_init ∈ wsX10_readBounded := List.mem_of_getElem? (i := 94) (by decide +kernel)
theorem wi_X10_readBounded_X9 : ∀ w ∈ wsX90, w ∈ wsX10_readBounded := fun w h => List.mem_cons_of_mem _ (List.mem_append_left _ (List.mem_append_left _ (List.mem_append_left _ (List.mem_append_right _ (h)))))
theorem hd_X10_readBound_v : yX10_readBound.cls = RX10 ∧ yX10_readBound.cls ≠ "java/lang/invoke/MethodHandle" ∧ yX10_readBound.cls ≠ "java/lang/invoke/VarHandle" ∧ (parseMethodDescriptor yX10_readBound.desc).map (fun d => d.parameters.length) = some 0 := by decide +kernel
def wp_X10_readBounded (kc : Nat → ClassId) (tx : Nat → Nat) (RF : Int32 → US → va_W → (Option Nat → (US × va_W) → Prop) → Prop) (p1 : Int32) (p2 : Int32) (σ : US) (pl : va_W) (Q : Option Nat → (US × va_W) → Prop) : Prop := wp_X10_readBound kc tx  σ pl (fun (r1 : Option Nat) (u2 : US × va_W) => wp_X10_expect kc tx  91 u2.1 u2.2 (fun (u3 : US) => RF  (p2 + 1) u3 u2.2 (fun (r4 : Option Nat) (u5 : US × va_W) => wp_X10_expect kc tx  93 u5.1 u5.2 (fun (u6 : US) => ∀ nw7 : Nat, wp_X9_init p1 r1 0 r4 none nw7 u5.2 (fun (pl8 : va_W) => Q (some nw7) (u6, pl8))))))
set_option maxRecDepth 100000 in
set_option maxHeartbeats 4000000 in
theorem c_X10_readBounded (l : Launch) (D : va_G) (kc : Nat → ClassId) (ap : Nat → Nat) (tx : Nat → Nat) (F L C S : Nat) (RF : Int32 → US → va_W → (Option Nat → (US × va_W) → Prop) → Prop) (HRF : ∀ (q1 : Int32) (σ0 : US) (pl0 : va_W) (Q0 : Option Nat → (US × va_W) → Prop), RF q1 σ0 pl0 Q0 → kCq l D (tyL kc) yX10_readFormula wsX10_readFormula ({ frames := F, cells := C, slots := S, locals := L } : Room) [.ref (ap 0), .int q1] (wPa kc ap tx σ0 ++ pl0) (fun u : US × va_W => (wPa kc ap tx u.1 ++ u.2)) (C) (S) (fun r u => Q0 r u)) (p1 : Int32) (p2 : Int32) (σ : US) (pl : va_W) (Q : Option Nat → (US × va_W) → Prop) (h : wp_X10_readBounded kc tx RF p1 p2 σ pl Q) : kCq l D (tyL kc) yX10_readBounded wsX10_readBounded ({ frames := F + 8, cells := 2 + 1 * C, slots := 11 + 1 * S, locals := L + 171 } : Room) [.ref (ap 0), .int p1, .int p2] (wPa kc ap tx σ ++ pl) (fun u : US × va_W => (wPa kc ap tx u.1 ++ u.2)) (2 + 1 * C) (11 + 1 * S) (fun r u => Q r u) := by
  intro sz
  refine k_begin (cc := cX10_readBounded) (maxL := 5) (ret := (some (.object "ProbabilisticChecker$Node"))) (by decide +kernel) rfl rfl (fun p e s m args below meth c hsz E G ls hl => ?_)
  subst hsz
  have hl : lv_has ls 5 [(0, .ref (ap 0)), (1, .int p1), (2, .int p2)] := hl
  refine lv_aload_n E.ex E.by dX10_readBounded_0 rfl (lv_at hl 0 rfl) ?_
  refine k_cVq (n := 0) (X := []) (w := (wPa kc ap tx σ ++ pl)) (Z := []) (wnew := (fun u : US × va_W => (wPa kc ap tx u.1 ++ u.2))) (As := []) (rest := []) E (List.append_nil _).symm G (c_X10_readBound l D kc _ _ _ _ _ h) gX10_readBounded_X10_readBound rfl ⟨rfl, rfl⟩ hd_X10_readBound_v ⟨Nat.ble_eq_true_of_le (show 7 + 1 ≤ F + 8 by omega), Nat.ble_eq_true_of_le (show 8 + (5 + 11) + (147) ≤ L + 171 by omega)⟩ 0 (gP_0 _ _ _ _ _) rfl rfl hl rfl rfl dX10_readBounded_1 ⟨show 0 + (1) ≤ 2 + 1 * C by omega, show 0 + (4) ≤ 11 + 1 * S by omega⟩ (fun _ => (List.append_nil _).symm) (fun r1 u2 hq H locs G => ?_)
  have h := hq
  refine k_astore_nR (o := r1) (lv' := [(3, va_rf r1), (0, .ref (ap 0)), (1, .int p1), (2, .int p2)]) E dX10_readBounded_4 rfl hl (by decide) rfl (fun ls hl => ?_)
  refine lv_aload_n E.ex E.by dX10_readBounded_5 rfl (lv_at hl 1 rfl) ?_
  refine lv_bipush (v := 91) E.ex E.by dX10_readBounded_6 (by decide) ?_
  refine k_cVv (n := 1) (X := []) (w := (wPa kc ap tx u2.1 ++ u2.2)) (Z := []) (wnew := (fun u : US => (wPa kc ap tx u ++ u2.2))) (As := [.int 91]) (rest := []) E (List.append_nil _).symm G (c_X10_expect l D kc _ _ _ _ _ _ h) gX10_readBounded_X10_expect rfl ⟨rfl, rfl⟩ hd_X10_expect_v ⟨Nat.ble_eq_true_of_le (show 6 + 1 ≤ F + 8 by omega), Nat.ble_eq_true_of_le (show 8 + (2 + 11) + (126) ≤ L + 171 by omega)⟩ 0 (gP_0 _ _ _ _ _) rfl rfl hl rfl rfl dX10_readBounded_8 ⟨Nat.ble_eq_true_of_le (show 0 + (1) + 0 ≤ 2 + 1 * C by omega), Nat.ble_eq_true_of_le (show 0 + (4) + 0 ≤ 11 + 1 * S by omega)⟩ (fun _ => (List.append_nil _).symm) (fun u3 hq H locs G => ?_)
  have h := hq
  refine lv_aload_n E.ex E.by dX10_readBounded_11 rfl (lv_at hl 1 rfl) ?_
  refine lv_iload_n E.ex E.by dX10_readBounded_12 rfl (lv_at hl 3 rfl) ?_
  refine lv_iconst (v := 1) E.ex E.by dX10_readBounded_13 (by decide) ?_
  refine lv_iadd E.ex E.by dX10_readBounded_14 ?_
  refine k_cVq (n := 1) (X := []) (w := (wPa kc ap tx u3 ++ u2.2)) (Z := []) (wnew := (fun u : US × va_W => (wPa kc ap tx u.1 ++ u.2))) (As := [.int (p2 + 1)]) (rest := []) E (List.append_nil _).symm G (HRF _ _ _ _ h) gX10_readBounded_X10_readFormula rfl ⟨rfl, rfl⟩ hd_X10_readFormula_v ⟨Nat.ble_eq_true_of_le (show F + 0 + 1 ≤ F + 8 by omega), Nat.ble_eq_true_of_le (show 8 + (3 + 11) + (L + 0) ≤ L + 171 by omega)⟩ 0 (gP_0 _ _ _ _ _) rfl rfl hl rfl rfl dX10_readBounded_15 ⟨show 0 + (1) + 0 + C ≤ 2 + 1 * C by omega, show 0 + (4) + 0 + S ≤ 11 + 1 * S by omega⟩ (fun _ => (List.append_nil _).symm) (fun r4 u5 hq H locs G => ?_)
  have h := hq
  refine k_astoreR (o := r4) (lv' := [(4, va_rf r4), (3, va_rf r1), (0, .ref (ap 0)), (1, .int p1), (2, .int p2)]) E dX10_readBounded_18 hl (by decide) (by cases r1 <;> rfl) (fun ls hl => ?_)
  refine lv_aload_n E.ex E.by dX10_readBounded_20 rfl (lv_at hl 2 rfl) ?_
  refine lv_bipush (v := 93) E.ex E.by dX10_readBounded_21 (by decide) ?_
  refine k_cVv (n := 1) (X := []) (w := (wPa kc ap tx u5.1 ++ u5.2)) (Z := []) (wnew := (fun u : US => (wPa kc ap tx u ++ u5.2))) (As := [.int 93]) (rest := []) E (List.append_nil _).symm G (c_X10_expect l D kc _ _ _ _ _ _ h) gX10_readBounded_X10_expect rfl ⟨rfl, rfl⟩ hd_X10_expect_v ⟨Nat.ble_eq_true_of_le (show 6 + 1 ≤ F + 8 by omega), Nat.ble_eq_true_of_le (show 8 + (2 + 11) + (126) ≤ L + 171 by omega)⟩ 0 (gP_0 _ _ _ _ _) rfl rfl hl rfl rfl dX10_readBounded_23 ⟨Nat.ble_eq_true_of_le (show 0 + (1) + 0 + C + 0 ≤ 2 + 1 * C by omega), Nat.ble_eq_true_of_le (show 0 + (4) + 0 + S + 0 ≤ 11 + 1 * S by omega)⟩ (fun _ => (List.append_nil _).symm) (fun u6 hq H locs G => ?_)
  have h := hq
  refine k_new (ci := 11) E G wi_X10_readBounded_X9 tyX9_ok lcl_X10_readBounded_33 lin_X10_readBounded_X9 li_X10_readBounded_X9 rfl (fs := [.int 0, .null, .int 0, .null, .null, .int 0, .int 0]) (fun j hj => by rcases (show j = 0 ∨ j = 1 ∨ j = 2 ∨ j = 3 ∨ j = 4 ∨ j = 5 ∨ j = 6 by omega) with rfl | rfl | rfl | rfl | rfl | rfl | rfl <;> rfl) ⟨Nat.ble_eq_true_of_le (show 0 + (1) + 0 + C + 0 + 1 ≤ 2 + 1 * C by omega), Nat.ble_eq_true_of_le (show 0 + (4) + 0 + S + 0 + 7 ≤ 11 + 1 * S by omega)⟩ dX10_readBounded_26 (fun nw7 H G => ?_)
  have h := h nw7
  refine lv_dup E.ex E.by dX10_readBounded_29 rfl ?_
  refine lv_iload_n E.ex E.by dX10_readBounded_30 rfl (lv_at hl 3 rfl) ?_
  refine k_aload_nR E dX10_readBounded_31 rfl (lv_at hl 1 rfl) ?_
  refine lv_iconst (v := 0) E.ex E.by dX10_readBounded_32 (by decide) ?_
  refine k_aloadR E dX10_readBounded_33 (lv_at hl 0 rfl) ?_
  refine lv_null E.ex E.by dX10_readBounded_35 ?_
  obtain ⟨s1_8, d1_8, l1_8, d2_8, l2_8, es8, hs8, hd1_8, hl1_8, hd2_8, hl2_8, hn1_8, hn2_8, h⟩ := h
  have G := kG.pp (X := (wPa kc ap tx u6)) (pl := u5.2) (x := (nw7, .inr (11, [.int 0, .null, .int 0, .null, .null, .int 0, .int 0]))) G
  refine k_cI2v (n := 5) (X := (wPa kc ap tx u6)) (w := ([(nw7, .inr (11, [.int 0, .null, .int 0, .null, .null, .int 0, .int 0]))] ++ u5.2)) (Z := []) (wnew := fun _ : Unit => (wPa kc ap tx u6) ++ (([(nw7, .inr (11, [.int p1, va_rf r1, .int 0, va_rf r4, va_rf none, .int (nI (max d1_8 d2_8 + if r1 = none then 0 else 1)), .int (nI (max (max l1_8 l2_8) s1_8))]))] ++ u5.2) ++ [])) (As := [.int p1, va_rf r1, .int 0, va_rf r4, va_rf none]) (rest := [.ref nw7]) E (by rw [List.append_nil]) G (by have hc := c_X9_init l D kc u5.2 nw7 p1 s1_8 d1_8 l1_8 d2_8 l2_8 r1 r4 none hs8 hd1_8 hl1_8 hd2_8 hl2_8 hn1_8 hn2_8; rw [← es8] at hc; exact hc) gX10_readBounded_X9_init lml_X10_readBounded_35 li_X10_readBounded_X9 lsm_X10_readBounded_X9_init rfl rfl ⟨rfl, rfl⟩ hd_X9_init_n ⟨Nat.ble_eq_true_of_le (show 1 + 1 ≤ F + 8 by omega), Nat.ble_eq_true_of_le (show 8 + (8 + 11) + 30 ≤ L + 171 by omega)⟩ rfl hl rfl rfl dX10_readBounded_36 ⟨show 0 + (1) + 0 + C + 0 + 1 + 0 ≤ 2 + 1 * C by omega, show 0 + (4) + 0 + S + 0 + 7 + 0 ≤ 11 + 1 * S by omega⟩ (fun _ => rfl) (fun _ _ H locs G => ?_)
  have G := G.cg (wz := (wPa kc ap tx u6) ++ ((nw7, .inr (11, [.int p1, va_rf r1, .int 0, va_rf r4, va_rf none, .int (nI (max d1_8 d2_8 + if r1 = none then 0 else 1)), .int (nI (max (max l1_8 l2_8) s1_8))])) :: u5.2)) (by simp)
  obtain ⟨pl8, epl8⟩ : ∃ z : va_W, z = (nw7, .inr (11, [.int p1, va_rf r1, .int 0, va_rf r4, va_rf none, .int (nI (max d1_8 d2_8 + if r1 = none then 0 else 1)), .int (nI (max (max l1_8 l2_8) s1_8))])) :: u5.2 := ⟨_, rfl⟩
  rw [← epl8] at G
  have h := h pl8 epl8
  refine k_retq (wof := (fun u : US × va_W => (wPa kc ap tx u.1 ++ u.2))) (o := (some nw7)) (u := (u6, pl8)) (Or.inl ⟨_, rfl⟩) E G ?_ ?_ ?_ dX10_readBounded_39
  · exact h
  · exact (show 0 + (1) + 0 + C + 0 + 1 ≤ 2 + 1 * C by omega)
  · exact (show 0 + (4) + 0 + S + 0 + 7 ≤ 11 + 1 * S by omega)
theorem lcl_X10_readProbability_33 : Cond.classLink RX10 33 RX9 ∈ wsX10_readProbability := List.mem_of_getElem? (i := 2) (by decide +kernel)
theorem lin_X10_readProbability_X9 : Cond.instantiable RX9 7 ∈ wsX10_readProbability := List.mem_of_getElem? (i := 3) (by decide +kernel)
theorem li_X10_readProbability_X9 : Cond.initialized RX9 ∈ wsX10_readProbability := List.mem_of_getElem? (i := 4) (by decide +kernel)
theorem lml_X10_readProbability_35 : Cond.methodLink RX10 35 yX9_init ∈ wsX10_readProbability := List.mem_of_getElem? (i := 97) (by decide +kernel)
theorem lsm_X10_readProbability_X9_init : Cond.instanceMethod yX9_init ∈ wsX10_readProbability := List.mem_of_getElem? (i := 98) (by decide +kernel)
theorem wi_X10_readProbability_X9 : ∀ w ∈ wsX90, w ∈ wsX10_readProbability := fun w h => List.mem_cons_of_mem _ (List.mem_append_left _ (List.mem_append_left _ (List.mem_append_left _ (List.mem_append_right _ (h)))))
theorem hd_X10_readSteps_v : yX10_readSteps.cls = RX10 ∧ yX10_readSteps.cls ≠ "java/lang/invoke/MethodHandle" ∧ yX10_readSteps.cls ≠ "java/lang/invoke/VarHandle" ∧ (parseMethodDescriptor yX10_readSteps.desc).map (fun d => d.parameters.length) = some 0 := by decide +kernel
theorem wi_X10_readProbability_X10 : ∀ w ∈ wsX100, w ∈ wsX10_readProbability := fun w h => List.mem_cons_of_mem _ (List.mem_append_left _ (List.mem_append_left _ (List.mem_append_right _ (h))))
theorem fl_X10_readProbability_X10_2 : Cond.fieldLink RX10 19 (TX10 2).1 (TX10 2).2.1 (TX10 2).2.2.1 ∈ wsX10_readProbability := List.mem_of_getElem? (i := 1) (by decide +kernel)
def wp_X10_readProbability_J112 (kc : Nat → ClassId) (tx : Nat → Nat) (RF : Int32 → US → va_W → (Option Nat → (US × va_W) → Prop) → Prop) (v6j112 : Option Nat) (v5j112 : Option Nat) (v4j112 : Int32) (v3j112 : Int32) (v2j112 : Option Nat) (σ'j112 : US) (pl'j112 : va_W) (Q : Option Nat → (US × va_W) → Prop) : Prop := wp_X10_expect kc tx  93 σ'j112 pl'j112 (fun (u12 : US) => ∀ nw13 : Nat, wp_X9_init v3j112 v2j112 v4j112 v5j112 v6j112 nw13 pl'j112 (fun (pl14 : va_W) => Q (some nw13) (u12, pl14)))
def wp_X10_readProbability_J97 (kc : Nat → ClassId) (tx : Nat → Nat) (RF : Int32 → US → va_W → (Option Nat → (US × va_W) → Prop) → Prop) (v5j97 : Option Nat) (v4j97 : Int32) (v3j97 : Int32) (v2j97 : Option Nat) (v1j97 : Int32) (σ'j97 : US) (pl'j97 : va_W) (Q : Option Nat → (US × va_W) → Prop) : Prop := wp_X10_expect kc tx  44 σ'j97 pl'j97 (fun (u9 : US) => RF  (v1j97 + 1) u9 pl'j97 (fun (r10 : Option Nat) (u11 : US × va_W) => wp_X10_readProbability_J112 kc tx RF r10 v5j97 v4j97 v3j97 v2j97 u11.1 u11.2 Q))
def wp_X10_readProbability_J71 (kc : Nat → ClassId) (tx : Nat → Nat) (RF : Int32 → US → va_W → (Option Nat → (US × va_W) → Prop) → Prop) (v3j71 : Int32) (v2j71 : Option Nat) (v1j71 : Int32) (σ'j71 : US) (pl'j71 : va_W) (s0j71 : Int32) (Q : Option Nat → (US × va_W) → Prop) : Prop := RF  (v1j71 + 1) σ'j71 pl'j71 (fun (r7 : Option Nat) (u8 : US × va_W) => (v3j71 = 85 → wp_X10_readProbability_J97 kc tx RF r7 s0j71 v3j71 v2j71 v1j71 u8.1 u8.2 Q) ∧ (¬ v3j71 = 85 → (¬ v3j71 = 66 → wp_X10_readProbability_J112 kc tx RF none r7 s0j71 v3j71 v2j71 u8.1 u8.2 Q) ∧ (v3j71 = 66 → wp_X10_readProbability_J97 kc tx RF r7 s0j71 v3j71 v2j71 v1j71 u8.1 u8.2 Q)))
def wp_X10_readProbability_J51 (kc : Nat → ClassId) (tx : Nat → Nat) (RF : Int32 → US → va_W → (Option Nat → (US × va_W) → Prop) → Prop) (v3j51 : Int32) (v2j51 : Option Nat) (v1j51 : Int32) (σ'j51 : US) (pl'j51 : va_W) (Q : Option Nat → (US × va_W) → Prop) : Prop := wp_X10_skip kc tx  v3j51 σ'j51 pl'j51 (fun (r5 : Int32) (u6 : US) => (¬ v3j51 = 66 → wp_X10_readProbability_J71 kc tx RF v3j51 v2j51 v1j51 u6 pl'j51 0 Q) ∧ (v3j51 = 66 → wp_X10_readSteps kc tx  u6 pl'j51 (fun (r17 : Int32) (u18 : US) => wp_X10_readProbability_J71 kc tx RF v3j51 v2j51 v1j51 u18 pl'j51 r17 Q)))
def wp_X10_readProbability (kc : Nat → ClassId) (tx : Nat → Nat) (RF : Int32 → US → va_W → (Option Nat → (US × va_W) → Prop) → Prop) (p1 : Int32) (σ : US) (pl : va_W) (Q : Option Nat → (US × va_W) → Prop) : Prop := wp_X10_readBound kc tx  σ pl (fun (r1 : Option Nat) (u2 : US × va_W) => wp_X10_expect kc tx  91 u2.1 u2.2 (fun (u3 : US) => wp_X10_peek kc tx  u3 u2.2 (fun (r4 : Int32) => (r4 = 88 → wp_X10_readProbability_J51 kc tx RF r4 r1 p1 u3 u2.2 Q) ∧ (¬ r4 = 88 → (r4 = 70 → wp_X10_readProbability_J51 kc tx RF r4 r1 p1 u3 u2.2 Q) ∧ (¬ r4 = 70 → (r4 = 71 → wp_X10_readProbability_J51 kc tx RF r4 r1 p1 u3 u2.2 Q) ∧ (¬ r4 = 71 → (r4 = 85 → wp_X10_readProbability_J51 kc tx RF r4 r1 p1 u3 u2.2 Q) ∧ (¬ r4 = 85 → (r4 = 66 → wp_X10_readProbability_J51 kc tx RF r4 r1 p1 u3 u2.2 Q) ∧ (¬ r4 = 66 → (∀ z20 : US, z20 = uI u3 1 1 → wp_X10_readProbability_J51 kc tx RF r4 r1 p1 z20 u2.2 Q)))))))))
set_option maxRecDepth 100000 in
set_option maxHeartbeats 4000000 in
theorem c_X10_readProbability (l : Launch) (D : va_G) (kc : Nat → ClassId) (ap : Nat → Nat) (tx : Nat → Nat) (F L C S : Nat) (RF : Int32 → US → va_W → (Option Nat → (US × va_W) → Prop) → Prop) (HRF : ∀ (q1 : Int32) (σ0 : US) (pl0 : va_W) (Q0 : Option Nat → (US × va_W) → Prop), RF q1 σ0 pl0 Q0 → kCq l D (tyL kc) yX10_readFormula wsX10_readFormula ({ frames := F, cells := C, slots := S, locals := L } : Room) [.ref (ap 0), .int q1] (wPa kc ap tx σ0 ++ pl0) (fun u : US × va_W => (wPa kc ap tx u.1 ++ u.2)) (C) (S) (fun r u => Q0 r u)) (p1 : Int32) (σ : US) (pl : va_W) (Q : Option Nat → (US × va_W) → Prop) (h : wp_X10_readProbability kc tx RF p1 σ pl Q) : kCq l D (tyL kc) yX10_readProbability wsX10_readProbability ({ frames := F + 8, cells := 2 + 2 * C, slots := 11 + 2 * S, locals := L + 171 } : Room) [.ref (ap 0), .int p1] (wPa kc ap tx σ ++ pl) (fun u : US × va_W => (wPa kc ap tx u.1 ++ u.2)) (2 + 2 * C) (11 + 2 * S) (fun r u => Q r u) := by
  intro sz
  refine k_begin (cc := cX10_readProbability) (maxL := 7) (ret := (some (.object "ProbabilisticChecker$Node"))) (by decide +kernel) rfl rfl (fun p e s m args below meth c hsz E G ls hl => ?_)
  subst hsz
  have hl : lv_has ls 7 [(0, .ref (ap 0)), (1, .int p1)] := hl
  have K112 : ∀ (v6j112 : Option Nat) (v5j112 : Option Nat) (v4j112 : Int32) (v3j112 : Int32) (v2j112 : Option Nat) (σ'j112 : US) (pl'j112 : va_W) (H : Heap) (locs : List Loc) (ls : Array Slot) (cs sl : Nat) (hcs : cs ≤ 1 + 2 * C) (hsl : sl ≤ 4 + 2 * S), kG D (va_A (wPa kc ap tx σ ++ pl) s.heap.size) s (wPa kc ap tx σ'j112 ++ pl'j112) H locs → lv_has ls 7 [(6, va_rf v6j112), (5, va_rf v5j112), (4, .int v4j112), (3, .int v3j112), (2, va_rf v2j112), (0, .ref (ap 0))] → wp_X10_readProbability_J112 kc tx RF v6j112 v5j112 v4j112 v3j112 v2j112 σ'j112 pl'j112 Q → W p l e ({ frames := F + 8, cells := 2 + 2 * C, slots := 11 + 2 * S, locals := L + 171 } : Room) s m args below meth c H locs cs sl (MQ below (va_Qq (fun r u => Q r u) (kB D (wPa kc ap tx σ ++ pl) s.heap.size (fun u : US × va_W => (wPa kc ap tx u.1 ++ u.2))) (va_A (wPa kc ap tx σ ++ pl) s.heap.size)) args s (2 + 2 * C) (11 + 2 * S) (va_A (wPa kc ap tx σ ++ pl) s.heap.size)) (F0 m 112 ls []) := by
    intro v6j112 v5j112 v4j112 v3j112 v2j112 σ'j112 pl'j112 H locs ls cs sl hcs hsl G hl h
    refine lv_aload_n E.ex E.by dX10_readProbability_112 rfl (lv_at hl 5 rfl) ?_
    refine lv_bipush (v := 93) E.ex E.by dX10_readProbability_113 (by decide) ?_
    refine k_cVv (n := 1) (X := []) (w := (wPa kc ap tx σ'j112 ++ pl'j112)) (Z := []) (wnew := (fun u : US => (wPa kc ap tx u ++ pl'j112))) (As := [.int 93]) (rest := []) E (List.append_nil _).symm G (c_X10_expect l D kc _ _ _ _ _ _ h) gX10_readProbability_X10_expect rfl ⟨rfl, rfl⟩ hd_X10_expect_v ⟨Nat.ble_eq_true_of_le (show 6 + 1 ≤ F + 8 by omega), Nat.ble_eq_true_of_le (show 8 + (2 + 11) + (126) ≤ L + 171 by omega)⟩ 0 (gP_0 _ _ _ _ _) rfl rfl hl rfl rfl dX10_readProbability_115 ⟨Nat.ble_eq_true_of_le (show cs + 0 ≤ 2 + 2 * C by omega), Nat.ble_eq_true_of_le (show sl + 0 ≤ 11 + 2 * S by omega)⟩ (fun _ => (List.append_nil _).symm) (fun u23 hq H locs G => ?_)
    have h := hq
    refine k_new (ci := 11) E G wi_X10_readProbability_X9 tyX9_ok lcl_X10_readProbability_33 lin_X10_readProbability_X9 li_X10_readProbability_X9 rfl (fs := [.int 0, .null, .int 0, .null, .null, .int 0, .int 0]) (fun j hj => by rcases (show j = 0 ∨ j = 1 ∨ j = 2 ∨ j = 3 ∨ j = 4 ∨ j = 5 ∨ j = 6 by omega) with rfl | rfl | rfl | rfl | rfl | rfl | rfl <;> rfl) ⟨Nat.ble_eq_true_of_le (show cs + 0 + 1 ≤ 2 + 2 * C by omega), Nat.ble_eq_true_of_le (show sl + 0 + 7 ≤ 11 + 2 * S by omega)⟩ dX10_readProbability_118 (fun nw24 H G => ?_)
    have h := h nw24
    refine lv_dup E.ex E.by dX10_readProbability_121 rfl ?_
    refine lv_iload_n E.ex E.by dX10_readProbability_122 rfl (lv_at hl 3 rfl) ?_
    refine k_aload_nR E dX10_readProbability_123 rfl (lv_at hl 4 rfl) ?_
    refine lv_iload E.ex E.by dX10_readProbability_124 (lv_at hl 2 rfl) ?_
    refine k_aloadR E dX10_readProbability_126 (lv_at hl 1 rfl) ?_
    refine k_aloadR E dX10_readProbability_128 (lv_at hl 0 rfl) ?_
    obtain ⟨s1_25, d1_25, l1_25, d2_25, l2_25, es25, hs25, hd1_25, hl1_25, hd2_25, hl2_25, hn1_25, hn2_25, h⟩ := h
    have G := kG.pp (X := (wPa kc ap tx u23)) (pl := pl'j112) (x := (nw24, .inr (11, [.int 0, .null, .int 0, .null, .null, .int 0, .int 0]))) G
    refine k_cI2v (n := 5) (X := (wPa kc ap tx u23)) (w := ([(nw24, .inr (11, [.int 0, .null, .int 0, .null, .null, .int 0, .int 0]))] ++ pl'j112)) (Z := []) (wnew := fun _ : Unit => (wPa kc ap tx u23) ++ (([(nw24, .inr (11, [.int v3j112, va_rf v2j112, .int v4j112, va_rf v5j112, va_rf v6j112, .int (nI (max d1_25 d2_25 + if v2j112 = none then 0 else 1)), .int (nI (max (max l1_25 l2_25) s1_25))]))] ++ pl'j112) ++ [])) (As := [.int v3j112, va_rf v2j112, .int v4j112, va_rf v5j112, va_rf v6j112]) (rest := [.ref nw24]) E (by rw [List.append_nil]) G (by have hc := c_X9_init l D kc pl'j112 nw24 v3j112 s1_25 d1_25 l1_25 d2_25 l2_25 v2j112 v5j112 v6j112 hs25 hd1_25 hl1_25 hd2_25 hl2_25 hn1_25 hn2_25; rw [← es25] at hc; exact hc) gX10_readProbability_X9_init lml_X10_readProbability_35 li_X10_readProbability_X9 lsm_X10_readProbability_X9_init rfl rfl ⟨rfl, rfl⟩ hd_X9_init_n ⟨Nat.ble_eq_true_of_le (show 1 + 1 ≤ F + 8 by omega), Nat.ble_eq_true_of_le (show 8 + (8 + 11) + 30 ≤ L + 171 by omega)⟩ rfl hl rfl rfl dX10_readProbability_130 ⟨show cs + 0 + 1 + 0 ≤ 2 + 2 * C by omega, show sl + 0 + 7 + 0 ≤ 11 + 2 * S by omega⟩ (fun _ => rfl) (fun _ _ H locs G => ?_)
    have G := G.cg (wz := (wPa kc ap tx u23) ++ ((nw24, .inr (11, [.int v3j112, va_rf v2j112, .int v4j112, va_rf v5j112, va_rf v6j112, .int (nI (max d1_25 d2_25 + if v2j112 = none then 0 else 1)), .int (nI (max (max l1_25 l2_25) s1_25))])) :: pl'j112)) (by simp)
    obtain ⟨pl25, epl25⟩ : ∃ z : va_W, z = (nw24, .inr (11, [.int v3j112, va_rf v2j112, .int v4j112, va_rf v5j112, va_rf v6j112, .int (nI (max d1_25 d2_25 + if v2j112 = none then 0 else 1)), .int (nI (max (max l1_25 l2_25) s1_25))])) :: pl'j112 := ⟨_, rfl⟩
    rw [← epl25] at G
    have h := h pl25 epl25
    refine k_retq (wof := (fun u : US × va_W => (wPa kc ap tx u.1 ++ u.2))) (o := (some nw24)) (u := (u23, pl25)) (Or.inl ⟨_, rfl⟩) E G ?_ ?_ ?_ dX10_readProbability_133
    · exact h
    · exact (show cs + 0 + 1 ≤ 2 + 2 * C by omega)
    · exact (show sl + 0 + 7 ≤ 11 + 2 * S by omega)
  have K97 : ∀ (v5j97 : Option Nat) (v4j97 : Int32) (v3j97 : Int32) (v2j97 : Option Nat) (σ'j97 : US) (pl'j97 : va_W) (H : Heap) (locs : List Loc) (ls : Array Slot) (cs sl : Nat) (hcs : cs ≤ 1 + 1 * C) (hsl : sl ≤ 4 + 1 * S), kG D (va_A (wPa kc ap tx σ ++ pl) s.heap.size) s (wPa kc ap tx σ'j97 ++ pl'j97) H locs → lv_has ls 7 [(5, va_rf v5j97), (4, .int v4j97), (3, .int v3j97), (2, va_rf v2j97), (0, .ref (ap 0)), (1, .int p1)] → wp_X10_readProbability_J97 kc tx RF v5j97 v4j97 v3j97 v2j97 p1 σ'j97 pl'j97 Q → W p l e ({ frames := F + 8, cells := 2 + 2 * C, slots := 11 + 2 * S, locals := L + 171 } : Room) s m args below meth c H locs cs sl (MQ below (va_Qq (fun r u => Q r u) (kB D (wPa kc ap tx σ ++ pl) s.heap.size (fun u : US × va_W => (wPa kc ap tx u.1 ++ u.2))) (va_A (wPa kc ap tx σ ++ pl) s.heap.size)) args s (2 + 2 * C) (11 + 2 * S) (va_A (wPa kc ap tx σ ++ pl) s.heap.size)) (F0 m 97 ls []) := by
    intro v5j97 v4j97 v3j97 v2j97 σ'j97 pl'j97 H locs ls cs sl hcs hsl G hl h
    refine lv_aload_n E.ex E.by dX10_readProbability_97 rfl (lv_at hl 4 rfl) ?_
    refine lv_bipush (v := 44) E.ex E.by dX10_readProbability_98 (by decide) ?_
    refine k_cVv (n := 1) (X := []) (w := (wPa kc ap tx σ'j97 ++ pl'j97)) (Z := []) (wnew := (fun u : US => (wPa kc ap tx u ++ pl'j97))) (As := [.int 44]) (rest := []) E (List.append_nil _).symm G (c_X10_expect l D kc _ _ _ _ _ _ h) gX10_readProbability_X10_expect rfl ⟨rfl, rfl⟩ hd_X10_expect_v ⟨Nat.ble_eq_true_of_le (show 6 + 1 ≤ F + 8 by omega), Nat.ble_eq_true_of_le (show 8 + (2 + 11) + (126) ≤ L + 171 by omega)⟩ 0 (gP_0 _ _ _ _ _) rfl rfl hl rfl rfl dX10_readProbability_100 ⟨Nat.ble_eq_true_of_le (show cs + 0 ≤ 2 + 2 * C by omega), Nat.ble_eq_true_of_le (show sl + 0 ≤ 11 + 2 * S by omega)⟩ (fun _ => (List.append_nil _).symm) (fun u20 hq H locs G => ?_)
    have h := hq
    refine lv_aload_n E.ex E.by dX10_readProbability_103 rfl (lv_at hl 4 rfl) ?_
    refine lv_iload_n E.ex E.by dX10_readProbability_104 rfl (lv_at hl 5 rfl) ?_
    refine lv_iconst (v := 1) E.ex E.by dX10_readProbability_105 (by decide) ?_
    refine lv_iadd E.ex E.by dX10_readProbability_106 ?_
    refine k_cVq (n := 1) (X := []) (w := (wPa kc ap tx u20 ++ pl'j97)) (Z := []) (wnew := (fun u : US × va_W => (wPa kc ap tx u.1 ++ u.2))) (As := [.int (p1 + 1)]) (rest := []) E (List.append_nil _).symm G (HRF _ _ _ _ h) gX10_readProbability_X10_readFormula rfl ⟨rfl, rfl⟩ hd_X10_readFormula_v ⟨Nat.ble_eq_true_of_le (show F + 0 + 1 ≤ F + 8 by omega), Nat.ble_eq_true_of_le (show 8 + (3 + 11) + (L + 0) ≤ L + 171 by omega)⟩ 0 (gP_0 _ _ _ _ _) rfl rfl hl rfl rfl dX10_readProbability_107 ⟨show cs + 0 + C ≤ 2 + 2 * C by omega, show sl + 0 + S ≤ 11 + 2 * S by omega⟩ (fun _ => (List.append_nil _).symm) (fun r21 u22 hq H locs G => ?_)
    have h := hq
    refine k_astoreR (o := r21) (lv' := [(6, va_rf r21), (5, va_rf v5j97), (4, .int v4j97), (3, .int v3j97), (2, va_rf v2j97), (0, .ref (ap 0)), (1, .int p1)]) E dX10_readProbability_110 hl (by decide) (by cases v5j97 <;> rfl) (fun ls hl => ?_)
    exact K112 _ _ _ _ _ _ _ _ _ _ _ _ (by omega) (by omega) G (lv_sub hl [0, 1, 2, 3, 4, 5] rfl) h
  have K71 : ∀ (v3j71 : Int32) (v2j71 : Option Nat) (σ'j71 : US) (pl'j71 : va_W) (s0j71 : Int32) (H : Heap) (locs : List Loc) (ls : Array Slot) (cs sl : Nat) (hcs : cs ≤ 1) (hsl : sl ≤ 4), kG D (va_A (wPa kc ap tx σ ++ pl) s.heap.size) s (wPa kc ap tx σ'j71 ++ pl'j71) H locs → lv_has ls 7 [(3, .int v3j71), (2, va_rf v2j71), (0, .ref (ap 0)), (1, .int p1)] → wp_X10_readProbability_J71 kc tx RF v3j71 v2j71 p1 σ'j71 pl'j71 s0j71 Q → W p l e ({ frames := F + 8, cells := 2 + 2 * C, slots := 11 + 2 * S, locals := L + 171 } : Room) s m args below meth c H locs cs sl (MQ below (va_Qq (fun r u => Q r u) (kB D (wPa kc ap tx σ ++ pl) s.heap.size (fun u : US × va_W => (wPa kc ap tx u.1 ++ u.2))) (va_A (wPa kc ap tx σ ++ pl) s.heap.size)) args s (2 + 2 * C) (11 + 2 * S) (va_A (wPa kc ap tx σ ++ pl) s.heap.size)) (F0 m 71 ls [.int s0j71]) := by
    intro v3j71 v2j71 σ'j71 pl'j71 s0j71 H locs ls cs sl hcs hsl G hl h
    refine lv_istore (lv' := [(4, .int s0j71), (3, .int v3j71), (2, va_rf v2j71), (0, .ref (ap 0)), (1, .int p1)]) E.ex E.by dX10_readProbability_71 hl (by decide) rfl (fun ls hl => ?_)
    refine lv_aload_n E.ex E.by dX10_readProbability_73 rfl (lv_at hl 3 rfl) ?_
    refine lv_iload_n E.ex E.by dX10_readProbability_74 rfl (lv_at hl 4 rfl) ?_
    refine lv_iconst (v := 1) E.ex E.by dX10_readProbability_75 (by decide) ?_
    refine lv_iadd E.ex E.by dX10_readProbability_76 ?_
    refine k_cVq (n := 1) (X := []) (w := (wPa kc ap tx σ'j71 ++ pl'j71)) (Z := []) (wnew := (fun u : US × va_W => (wPa kc ap tx u.1 ++ u.2))) (As := [.int (p1 + 1)]) (rest := []) E (List.append_nil _).symm G (HRF _ _ _ _ h) gX10_readProbability_X10_readFormula rfl ⟨rfl, rfl⟩ hd_X10_readFormula_v ⟨Nat.ble_eq_true_of_le (show F + 0 + 1 ≤ F + 8 by omega), Nat.ble_eq_true_of_le (show 8 + (3 + 11) + (L + 0) ≤ L + 171 by omega)⟩ 0 (gP_0 _ _ _ _ _) rfl rfl hl rfl rfl dX10_readProbability_77 ⟨show cs + C ≤ 2 + 2 * C by omega, show sl + S ≤ 11 + 2 * S by omega⟩ (fun _ => (List.append_nil _).symm) (fun r16 u17 hq H locs G => ?_)
    have h := hq
    refine k_astoreR (o := r16) (lv' := [(5, va_rf r16), (4, .int s0j71), (3, .int v3j71), (2, va_rf v2j71), (0, .ref (ap 0)), (1, .int p1)]) E dX10_readProbability_80 hl (by decide) rfl (fun ls hl => ?_)
    refine lv_null E.ex E.by dX10_readProbability_82 ?_
    refine k_astoreR (o := none) (lv' := [(6, va_rf none), (5, va_rf r16), (4, .int s0j71), (3, .int v3j71), (2, va_rf v2j71), (0, .ref (ap 0)), (1, .int p1)]) E dX10_readProbability_83 hl (by decide) (by cases r16 <;> rfl) (fun ls hl => ?_)
    refine lv_iload_n E.ex E.by dX10_readProbability_85 rfl (lv_at hl 3 rfl) ?_
    refine lv_bipush (v := 85) E.ex E.by dX10_readProbability_86 (by decide) ?_
    refine lv_icmp_eq (tgt := 97) E.ex E.by dX10_readProbability_88 (by decide) (fun hc19 => ?_) (fun hc19 => ?_)
    · have h := h.1 hc19
      exact K97 _ _ _ _ _ _ _ _ _ _ _ (by omega) (by omega) G (lv_sub hl [1, 2, 3, 4, 5, 6] rfl) h
    · have h := h.2 hc19
      refine lv_iload_n E.ex E.by dX10_readProbability_91 rfl (lv_at hl 3 rfl) ?_
      refine lv_bipush (v := 66) E.ex E.by dX10_readProbability_92 (by decide) ?_
      refine lv_icmp_ne (tgt := 112) E.ex E.by dX10_readProbability_94 (by decide) (fun hc18 => ?_) (fun hc18 => ?_)
      · have h := h.1 hc18
        exact K112 _ _ _ _ _ _ _ _ _ _ _ _ (by omega) (by omega) G (lv_sub hl [0, 1, 2, 3, 4, 5] rfl) h
      · have h := h.2 hc18
        exact K97 _ _ _ _ _ _ _ _ _ _ _ (by omega) (by omega) G (lv_sub hl [1, 2, 3, 4, 5, 6] rfl) h
  have K51 : ∀ (v3j51 : Int32) (v2j51 : Option Nat) (σ'j51 : US) (pl'j51 : va_W) (H : Heap) (locs : List Loc) (ls : Array Slot) (cs sl : Nat) (hcs : cs ≤ 1) (hsl : sl ≤ 4), kG D (va_A (wPa kc ap tx σ ++ pl) s.heap.size) s (wPa kc ap tx σ'j51 ++ pl'j51) H locs → lv_has ls 7 [(3, .int v3j51), (2, va_rf v2j51), (0, .ref (ap 0)), (1, .int p1)] → wp_X10_readProbability_J51 kc tx RF v3j51 v2j51 p1 σ'j51 pl'j51 Q → W p l e ({ frames := F + 8, cells := 2 + 2 * C, slots := 11 + 2 * S, locals := L + 171 } : Room) s m args below meth c H locs cs sl (MQ below (va_Qq (fun r u => Q r u) (kB D (wPa kc ap tx σ ++ pl) s.heap.size (fun u : US × va_W => (wPa kc ap tx u.1 ++ u.2))) (va_A (wPa kc ap tx σ ++ pl) s.heap.size)) args s (2 + 2 * C) (11 + 2 * S) (va_A (wPa kc ap tx σ ++ pl) s.heap.size)) (F0 m 51 ls []) := by
    intro v3j51 v2j51 σ'j51 pl'j51 H locs ls cs sl hcs hsl G hl h
    refine lv_aload_n E.ex E.by dX10_readProbability_51 rfl (lv_at hl 2 rfl) ?_
    refine lv_iload_n E.ex E.by dX10_readProbability_52 rfl (lv_at hl 0 rfl) ?_
    refine k_cVi (n := 1) (X := []) (w := (wPa kc ap tx σ'j51 ++ pl'j51)) (Z := []) (wnew := (fun u : US => (wPa kc ap tx u ++ pl'j51))) (As := [.int v3j51]) (rest := []) E (List.append_nil _).symm G (c_X10_skip l D kc _ _ _ _ _ _ h) gX10_readProbability_X10_skip rfl ⟨rfl, rfl⟩ hd_X10_skip_v ⟨Nat.ble_eq_true_of_le (show 5 + 1 ≤ F + 8 by omega), Nat.ble_eq_true_of_le (show 8 + (2 + 11) + (105) ≤ L + 171 by omega)⟩ 0 (gP_0 _ _ _ _ _) rfl rfl hl rfl rfl dX10_readProbability_53 ⟨Nat.ble_eq_true_of_le (show cs + 0 ≤ 2 + 2 * C by omega), Nat.ble_eq_true_of_le (show sl + 0 ≤ 11 + 2 * S by omega)⟩ (fun _ => (List.append_nil _).symm) (fun r11 u12 hq H locs G => ?_)
    have h := hq
    refine lv_pop E.ex E.by dX10_readProbability_56 rfl ?_
    refine lv_iload_n E.ex E.by dX10_readProbability_57 rfl (lv_at hl 0 rfl) ?_
    refine lv_bipush (v := 66) E.ex E.by dX10_readProbability_58 (by decide) ?_
    refine lv_icmp_ne (tgt := 70) E.ex E.by dX10_readProbability_60 (by decide) (fun hc15 => ?_) (fun hc15 => ?_)
    · have h := h.1 hc15
      refine lv_iconst (v := 0) E.ex E.by dX10_readProbability_70 (by decide) ?_
      exact K71 _ _ _ _ _ _ _ _ _ _ (by omega) (by omega) G (lv_sub hl [0, 1, 2, 3] rfl) h
    · have h := h.2 hc15
      refine lv_aload_n E.ex E.by dX10_readProbability_63 rfl (lv_at hl 2 rfl) ?_
      refine k_cVi (n := 0) (X := []) (w := (wPa kc ap tx u12 ++ pl'j51)) (Z := []) (wnew := (fun u : US => (wPa kc ap tx u ++ pl'j51))) (As := []) (rest := []) E (List.append_nil _).symm G (c_X10_readSteps l D kc _ _ _ _ _ h) gX10_readProbability_X10_readSteps rfl ⟨rfl, rfl⟩ hd_X10_readSteps_v ⟨Nat.ble_eq_true_of_le (show 5 + 1 ≤ F + 8 by omega), Nat.ble_eq_true_of_le (show 8 + (2 + 11) + (105) ≤ L + 171 by omega)⟩ 0 (gP_0 _ _ _ _ _) rfl rfl hl rfl rfl dX10_readProbability_64 ⟨Nat.ble_eq_true_of_le (show cs + 0 + 0 ≤ 2 + 2 * C by omega), Nat.ble_eq_true_of_le (show sl + 0 + 0 ≤ 11 + 2 * S by omega)⟩ (fun _ => (List.append_nil _).symm) (fun r13 u14 hq H locs G => ?_)
      have h := hq
      refine lv_goto (tgt := 71) E.ex E.by dX10_readProbability_67 (by decide) ?_
      exact K71 _ _ _ _ _ _ _ _ _ _ (by omega) (by omega) G (lv_sub hl [0, 1, 2, 3] rfl) h
  refine lv_aload_n E.ex E.by dX10_readProbability_0 rfl (lv_at hl 0 rfl) ?_
  refine k_cVq (n := 0) (X := []) (w := (wPa kc ap tx σ ++ pl)) (Z := []) (wnew := (fun u : US × va_W => (wPa kc ap tx u.1 ++ u.2))) (As := []) (rest := []) E (List.append_nil _).symm G (c_X10_readBound l D kc _ _ _ _ _ h) gX10_readProbability_X10_readBound rfl ⟨rfl, rfl⟩ hd_X10_readBound_v ⟨Nat.ble_eq_true_of_le (show 7 + 1 ≤ F + 8 by omega), Nat.ble_eq_true_of_le (show 8 + (5 + 11) + (147) ≤ L + 171 by omega)⟩ 0 (gP_0 _ _ _ _ _) rfl rfl hl rfl rfl dX10_readProbability_1 ⟨show 0 + (1) ≤ 2 + 2 * C by omega, show 0 + (4) ≤ 11 + 2 * S by omega⟩ (fun _ => (List.append_nil _).symm) (fun r1 u2 hq H locs G => ?_)
  have h := hq
  refine k_astore_nR (o := r1) (lv' := [(2, va_rf r1), (0, .ref (ap 0)), (1, .int p1)]) E dX10_readProbability_4 rfl hl (by decide) rfl (fun ls hl => ?_)
  refine lv_aload_n E.ex E.by dX10_readProbability_5 rfl (lv_at hl 1 rfl) ?_
  refine lv_bipush (v := 91) E.ex E.by dX10_readProbability_6 (by decide) ?_
  refine k_cVv (n := 1) (X := []) (w := (wPa kc ap tx u2.1 ++ u2.2)) (Z := []) (wnew := (fun u : US => (wPa kc ap tx u ++ u2.2))) (As := [.int 91]) (rest := []) E (List.append_nil _).symm G (c_X10_expect l D kc _ _ _ _ _ _ h) gX10_readProbability_X10_expect rfl ⟨rfl, rfl⟩ hd_X10_expect_v ⟨Nat.ble_eq_true_of_le (show 6 + 1 ≤ F + 8 by omega), Nat.ble_eq_true_of_le (show 8 + (2 + 11) + (126) ≤ L + 171 by omega)⟩ 0 (gP_0 _ _ _ _ _) rfl rfl hl rfl rfl dX10_readProbability_8 ⟨Nat.ble_eq_true_of_le (show 0 + (1) + 0 ≤ 2 + 2 * C by omega), Nat.ble_eq_true_of_le (show 0 + (4) + 0 ≤ 11 + 2 * S by omega)⟩ (fun _ => (List.append_nil _).symm) (fun u3 hq H locs G => ?_)
  have h := hq
  refine lv_aload_n E.ex E.by dX10_readProbability_11 rfl (lv_at hl 1 rfl) ?_
  refine k_cVi (n := 0) (X := []) (w := (wPa kc ap tx u3 ++ u2.2)) (Z := []) (wnew := (fun _ : Unit => (wPa kc ap tx u3 ++ u2.2))) (As := []) (rest := []) E (List.append_nil _).symm G (c_X10_peek l D kc _ _ _ _ _ h) gX10_readProbability_X10_peek rfl ⟨rfl, rfl⟩ hd_X10_peek_v ⟨Nat.ble_eq_true_of_le (show 4 + 1 ≤ F + 8 by omega), Nat.ble_eq_true_of_le (show 8 + (1 + 11) + (85) ≤ L + 171 by omega)⟩ 0 (gP_0 _ _ _ _ _) rfl rfl hl rfl rfl dX10_readProbability_12 ⟨Nat.ble_eq_true_of_le (show 0 + (1) + 0 + 0 ≤ 2 + 2 * C by omega), Nat.ble_eq_true_of_le (show 0 + (4) + 0 + 0 ≤ 11 + 2 * S by omega)⟩ (fun _ => (List.append_nil _).symm) (fun r4 _u12 hq H locs G => ?_)
  have h := hq
  refine lv_istore_n (lv' := [(3, .int r4), (2, va_rf r1), (0, .ref (ap 0)), (1, .int p1)]) E.ex E.by dX10_readProbability_15 rfl hl (by decide) (by cases r1 <;> rfl) (fun ls hl => ?_)
  refine lv_iload_n E.ex E.by dX10_readProbability_16 rfl (lv_at hl 0 rfl) ?_
  refine lv_bipush (v := 88) E.ex E.by dX10_readProbability_17 (by decide) ?_
  refine lv_icmp_eq (tgt := 51) E.ex E.by dX10_readProbability_19 (by decide) (fun hc10 => ?_) (fun hc10 => ?_)
  · have h := h.1 hc10
    exact K51 _ _ _ _ _ _ _ _ _ (by omega) (by omega) G (lv_sub hl [0, 1, 2, 3] rfl) h
  · have h := h.2 hc10
    refine lv_iload_n E.ex E.by dX10_readProbability_22 rfl (lv_at hl 0 rfl) ?_
    refine lv_bipush (v := 70) E.ex E.by dX10_readProbability_23 (by decide) ?_
    refine lv_icmp_eq (tgt := 51) E.ex E.by dX10_readProbability_25 (by decide) (fun hc9 => ?_) (fun hc9 => ?_)
    · have h := h.1 hc9
      exact K51 _ _ _ _ _ _ _ _ _ (by omega) (by omega) G (lv_sub hl [0, 1, 2, 3] rfl) h
    · have h := h.2 hc9
      refine lv_iload_n E.ex E.by dX10_readProbability_28 rfl (lv_at hl 0 rfl) ?_
      refine lv_bipush (v := 71) E.ex E.by dX10_readProbability_29 (by decide) ?_
      refine lv_icmp_eq (tgt := 51) E.ex E.by dX10_readProbability_31 (by decide) (fun hc8 => ?_) (fun hc8 => ?_)
      · have h := h.1 hc8
        exact K51 _ _ _ _ _ _ _ _ _ (by omega) (by omega) G (lv_sub hl [0, 1, 2, 3] rfl) h
      · have h := h.2 hc8
        refine lv_iload_n E.ex E.by dX10_readProbability_34 rfl (lv_at hl 0 rfl) ?_
        refine lv_bipush (v := 85) E.ex E.by dX10_readProbability_35 (by decide) ?_
        refine lv_icmp_eq (tgt := 51) E.ex E.by dX10_readProbability_37 (by decide) (fun hc7 => ?_) (fun hc7 => ?_)
        · have h := h.1 hc7
          exact K51 _ _ _ _ _ _ _ _ _ (by omega) (by omega) G (lv_sub hl [0, 1, 2, 3] rfl) h
        · have h := h.2 hc7
          refine lv_iload_n E.ex E.by dX10_readProbability_40 rfl (lv_at hl 0 rfl) ?_
          refine lv_bipush (v := 66) E.ex E.by dX10_readProbability_41 (by decide) ?_
          refine lv_icmp_eq (tgt := 51) E.ex E.by dX10_readProbability_43 (by decide) (fun hc6 => ?_) (fun hc6 => ?_)
          · have h := h.1 hc6
            exact K51 _ _ _ _ _ _ _ _ _ (by omega) (by omega) G (lv_sub hl [0, 1, 2, 3] rfl) h
          · have h := h.2 hc6
            refine lv_aload_n E.ex E.by dX10_readProbability_46 rfl (lv_at hl 2 rfl) ?_
            refine lv_iconst (v := 1) E.ex E.by dX10_readProbability_47 (by decide) ?_
            refine k_put (fun z => (wPa kc ap tx z ++ u2.2)) E G wi_X10_readProbability_X10 tyX10_ok nmX10 0 (gP_0 _ _ _ _ _) rfl 2 rfl fl_X10_readProbability_X10_2 rfl rfl rfl rfl (uI u3 1 1) (pP_0_2 _ _ _ _ _ _) dX10_readProbability_48 (fun z5 ez5 H locs G => ?_)
            have h := h z5 ez5
            exact K51 _ _ _ _ _ _ _ _ _ (by omega) (by omega) G (lv_sub hl [0, 1, 2, 3] rfl) h
theorem wi_X10_readFormula_X10 : ∀ w ∈ wsX100, w ∈ wsX10_readFormula := fun w h => List.mem_cons_of_mem _ (List.mem_append_left _ (List.mem_append_left _ (List.mem_append_right _ (h))))
theorem fl_X10_readFormula_X10_1 : Cond.fieldLink RX10 15 (TX10 1).1 (TX10 1).2.1 (TX10 1).2.2.1 ∈ wsX10_readFormula := List.mem_of_getElem? (i := 1) (by decide +kernel)
theorem lcl_X10_readFormula_33 : Cond.classLink RX10 33 RX9 ∈ wsX10_readFormula := List.mem_of_getElem? (i := 2) (by decide +kernel)
theorem lin_X10_readFormula_X9 : Cond.instantiable RX9 7 ∈ wsX10_readFormula := List.mem_of_getElem? (i := 3) (by decide +kernel)
theorem li_X10_readFormula_X9 : Cond.initialized RX9 ∈ wsX10_readFormula := List.mem_of_getElem? (i := 4) (by decide +kernel)
theorem lml_X10_readFormula_35 : Cond.methodLink RX10 35 yX9_init ∈ wsX10_readFormula := List.mem_of_getElem? (i := 61) (by decide +kernel)
theorem lsm_X10_readFormula_X9_init : Cond.instanceMethod yX9_init ∈ wsX10_readFormula := List.mem_of_getElem? (i := 62) (by decide +kernel)
theorem wi_X10_readFormula_X9 : ∀ w ∈ wsX90, w ∈ wsX10_readFormula := fun w h => List.mem_cons_of_mem _ (List.mem_append_left _ (List.mem_append_left _ (List.mem_append_left _ (List.mem_append_right _ (h)))))
theorem fl_X10_readFormula_X10_2 : Cond.fieldLink RX10 19 (TX10 2).1 (TX10 2).2.1 (TX10 2).2.2.1 ∈ wsX10_readFormula := List.mem_of_getElem? (i := 5) (by decide +kernel)
theorem hd_X10_readBounded_v : yX10_readBounded.cls = RX10 ∧ yX10_readBounded.cls ≠ "java/lang/invoke/MethodHandle" ∧ yX10_readBounded.cls ≠ "java/lang/invoke/VarHandle" ∧ (parseMethodDescriptor yX10_readBounded.desc).map (fun d => d.parameters.length) = some 2 := by decide +kernel
theorem hd_X10_readProbability_v : yX10_readProbability.cls = RX10 ∧ yX10_readProbability.cls ≠ "java/lang/invoke/MethodHandle" ∧ yX10_readProbability.cls ≠ "java/lang/invoke/VarHandle" ∧ (parseMethodDescriptor yX10_readProbability.desc).map (fun d => d.parameters.length) = some 1 := by decide +kernel
theorem hd_X10_readPair_v : yX10_readPair.cls = RX10 ∧ yX10_readPair.cls ≠ "java/lang/invoke/MethodHandle" ∧ yX10_readPair.cls ≠ "java/lang/invoke/VarHandle" ∧ (parseMethodDescriptor yX10_readPair.desc).map (fun d => d.parameters.length) = some 1 := by decide +kernel
theorem hd_X10_readOpposite_v : yX10_readOpposite.cls = RX10 ∧ yX10_readOpposite.cls ≠ "java/lang/invoke/MethodHandle" ∧ yX10_readOpposite.cls ≠ "java/lang/invoke/VarHandle" ∧ (parseMethodDescriptor yX10_readOpposite.desc).map (fun d => d.parameters.length) = some 1 := by decide +kernel
def wp_X10_readFormula_J23 (kc : Nat → ClassId) (tx : Nat → Nat) (RF : Int32 → US → va_W → (Option Nat → (US × va_W) → Prop) → Prop) (v2j23 : Int32) (σ'j23 : US) (pl'j23 : va_W) (Q : Option Nat → (US × va_W) → Prop) : Prop := (∀ z2 : US, z2 = uI σ'j23 0 ((iI σ'j23 0) + 1) → ∀ nw3 : Nat, wp_X9_init v2j23 none 0 none none nw3 pl'j23 (fun (pl4 : va_W) => Q (some nw3) (z2, pl4)))
def wp_X10_readFormula_J56 (kc : Nat → ClassId) (tx : Nat → Nat) (RF : Int32 → US → va_W → (Option Nat → (US × va_W) → Prop) → Prop) (v1j56 : Int32) (σ'j56 : US) (pl'j56 : va_W) (Q : Option Nat → (US × va_W) → Prop) : Prop := wp_X10_skip kc tx  33 σ'j56 pl'j56 (fun (r5 : Int32) (u6 : US) => (r5 = 0 → wp_X10_skip kc tx  40 u6 pl'j56 (fun (r7 : Int32) (u8 : US) => (r7 = 0 → wp_X10_skip kc tx  80 u8 pl'j56 (fun (r9 : Int32) (u10 : US) => (r9 = 0 → wp_X10_skip kc tx  83 u10 pl'j56 (fun (r11 : Int32) (u12 : US) => (r11 = 0 → wp_X10_skip kc tx  82 u12 pl'j56 (fun (r13 : Int32) (u14 : US) => (r13 = 0 → (∀ z15 : US, z15 = uI u14 1 1 → Q none (z15, pl'j56))) ∧ (¬ r13 = 0 → wp_X10_readBounded kc tx RF 82 v1j56 u14 pl'j56 (fun (r16 : Option Nat) (u17 : US × va_W) => Q r16 (u17.1, u17.2))))) ∧ (¬ r11 = 0 → wp_X10_readBounded kc tx RF 83 v1j56 u12 pl'j56 (fun (r19 : Option Nat) (u20 : US × va_W) => Q r19 (u20.1, u20.2))))) ∧ (¬ r9 = 0 → wp_X10_readProbability kc tx RF v1j56 u10 pl'j56 (fun (r22 : Option Nat) (u23 : US × va_W) => Q r22 (u23.1, u23.2))))) ∧ (¬ r7 = 0 → wp_X10_readPair kc tx RF v1j56 u8 pl'j56 (fun (r25 : Option Nat) (u26 : US × va_W) => Q r25 (u26.1, u26.2))))) ∧ (¬ r5 = 0 → wp_X10_readOpposite kc tx RF v1j56 u6 pl'j56 (fun (r28 : Option Nat) (u29 : US × va_W) => Q r28 (u29.1, u29.2))))
def wp_X10_readFormula_J46 (kc : Nat → ClassId) (tx : Nat → Nat) (RF : Int32 → US → va_W → (Option Nat → (US × va_W) → Prop) → Prop) (v1j46 : Int32) (σ'j46 : US) (pl'j46 : va_W) (Q : Option Nat → (US × va_W) → Prop) : Prop := (v1j46 < 5 → wp_X10_readFormula_J56 kc tx RF v1j46 σ'j46 pl'j46 Q) ∧ (¬ v1j46 < 5 → (∀ z31 : US, z31 = uI σ'j46 1 1 → wp_X10_readFormula_J56 kc tx RF v1j46 z31 pl'j46 Q))
def wp_X10_readFormula_B (kc : Nat → ClassId) (tx : Nat → Nat) (RF : Int32 → US → va_W → (Option Nat → (US × va_W) → Prop) → Prop) (p1 : Int32) (σ : US) (pl : va_W) (Q : Option Nat → (US × va_W) → Prop) : Prop := wp_X10_peek kc tx  σ pl (fun (r1 : Int32) => (r1 = 116 → wp_X10_readFormula_J23 kc tx RF r1 σ pl Q) ∧ (¬ r1 = 116 → (r1 < 97 → wp_X10_readFormula_J46 kc tx RF p1 σ pl Q) ∧ (¬ r1 < 97 → (100 < r1 → wp_X10_readFormula_J46 kc tx RF p1 σ pl Q) ∧ (¬ 100 < r1 → wp_X10_readFormula_J23 kc tx RF r1 σ pl Q))))
set_option maxRecDepth 100000 in
set_option maxHeartbeats 4000000 in
theorem c_X10_readFormula_B (l : Launch) (D : va_G) (kc : Nat → ClassId) (ap : Nat → Nat) (tx : Nat → Nat) (F L C S : Nat) (RF : Int32 → US → va_W → (Option Nat → (US × va_W) → Prop) → Prop) (HRF : ∀ (q1 : Int32) (σ0 : US) (pl0 : va_W) (Q0 : Option Nat → (US × va_W) → Prop), RF q1 σ0 pl0 Q0 → kCq l D (tyL kc) yX10_readFormula wsX10_readFormula ({ frames := F, cells := C, slots := S, locals := L } : Room) [.ref (ap 0), .int q1] (wPa kc ap tx σ0 ++ pl0) (fun u : US × va_W => (wPa kc ap tx u.1 ++ u.2)) (C) (S) (fun r u => Q0 r u)) (p1 : Int32) (σ : US) (pl : va_W) (Q : Option Nat → (US × va_W) → Prop) (h : wp_X10_readFormula_B kc tx RF p1 σ pl Q) : kCq l D (tyL kc) yX10_readFormula wsX10_readFormula ({ frames := F + 9, cells := 2 + 2 * C, slots := 11 + 2 * S, locals := L + 197 } : Room) [.ref (ap 0), .int p1] (wPa kc ap tx σ ++ pl) (fun u : US × va_W => (wPa kc ap tx u.1 ++ u.2)) (2 + 2 * C) (11 + 2 * S) (fun r u => Q r u) := by
  intro sz
  refine k_begin (cc := cX10_readFormula) (maxL := 3) (ret := (some (.object "ProbabilisticChecker$Node"))) (by decide +kernel) rfl rfl (fun p e s m args below meth c hsz E G ls hl => ?_)
  subst hsz
  have hl : lv_has ls 3 [(0, .ref (ap 0)), (1, .int p1)] := hl
  have K23 : ∀ (v2j23 : Int32) (σ'j23 : US) (pl'j23 : va_W) (H : Heap) (locs : List Loc) (ls : Array Slot) (cs sl : Nat) (hcs : cs ≤ 1 + 2 * C) (hsl : sl ≤ 4 + 2 * S), kG D (va_A (wPa kc ap tx σ ++ pl) s.heap.size) s (wPa kc ap tx σ'j23 ++ pl'j23) H locs → lv_has ls 3 [(2, .int v2j23), (0, .ref (ap 0))] → wp_X10_readFormula_J23 kc tx RF v2j23 σ'j23 pl'j23 Q → W p l e ({ frames := F + 9, cells := 2 + 2 * C, slots := 11 + 2 * S, locals := L + 197 } : Room) s m args below meth c H locs cs sl (MQ below (va_Qq (fun r u => Q r u) (kB D (wPa kc ap tx σ ++ pl) s.heap.size (fun u : US × va_W => (wPa kc ap tx u.1 ++ u.2))) (va_A (wPa kc ap tx σ ++ pl) s.heap.size)) args s (2 + 2 * C) (11 + 2 * S) (va_A (wPa kc ap tx σ ++ pl) s.heap.size)) (F0 m 23 ls []) := by
    intro v2j23 σ'j23 pl'j23 H locs ls cs sl hcs hsl G hl h
    refine lv_aload_n E.ex E.by dX10_readFormula_23 rfl (lv_at hl 1 rfl) ?_
    refine lv_dup E.ex E.by dX10_readFormula_24 rfl ?_
    refine k_get E G wi_X10_readFormula_X10 0 (gP_0 _ _ _ _ _) rfl 1 rfl fl_X10_readFormula_X10_1 (v := .int (iI σ'j23 0)) rfl dX10_readFormula_25 ?_
    refine lv_iconst (v := 1) E.ex E.by dX10_readFormula_28 (by decide) ?_
    refine lv_iadd E.ex E.by dX10_readFormula_29 ?_
    refine k_put (fun z => (wPa kc ap tx z ++ pl'j23)) E G wi_X10_readFormula_X10 tyX10_ok nmX10 0 (gP_0 _ _ _ _ _) rfl 1 rfl fl_X10_readFormula_X10_1 rfl rfl rfl rfl (uI σ'j23 0 ((iI σ'j23 0) + 1)) (pP_0_1 _ _ _ _ _ _) dX10_readFormula_30 (fun z5 ez5 H locs G => ?_)
    have h := h z5 ez5
    refine k_new (ci := 11) E G wi_X10_readFormula_X9 tyX9_ok lcl_X10_readFormula_33 lin_X10_readFormula_X9 li_X10_readFormula_X9 rfl (fs := [.int 0, .null, .int 0, .null, .null, .int 0, .int 0]) (fun j hj => by rcases (show j = 0 ∨ j = 1 ∨ j = 2 ∨ j = 3 ∨ j = 4 ∨ j = 5 ∨ j = 6 by omega) with rfl | rfl | rfl | rfl | rfl | rfl | rfl <;> rfl) ⟨Nat.ble_eq_true_of_le (show cs + 1 ≤ 2 + 2 * C by omega), Nat.ble_eq_true_of_le (show sl + 7 ≤ 11 + 2 * S by omega)⟩ dX10_readFormula_33 (fun nw6 H G => ?_)
    have h := h nw6
    refine lv_dup E.ex E.by dX10_readFormula_36 rfl ?_
    refine lv_iload_n E.ex E.by dX10_readFormula_37 rfl (lv_at hl 0 rfl) ?_
    refine lv_null E.ex E.by dX10_readFormula_38 ?_
    refine lv_iconst (v := 0) E.ex E.by dX10_readFormula_39 (by decide) ?_
    refine lv_null E.ex E.by dX10_readFormula_40 ?_
    refine lv_null E.ex E.by dX10_readFormula_41 ?_
    obtain ⟨s1_7, d1_7, l1_7, d2_7, l2_7, es7, hs7, hd1_7, hl1_7, hd2_7, hl2_7, hn1_7, hn2_7, h⟩ := h
    have G := kG.pp (X := (wPa kc ap tx z5)) (pl := pl'j23) (x := (nw6, .inr (11, [.int 0, .null, .int 0, .null, .null, .int 0, .int 0]))) G
    refine k_cI2v (n := 5) (X := (wPa kc ap tx z5)) (w := ([(nw6, .inr (11, [.int 0, .null, .int 0, .null, .null, .int 0, .int 0]))] ++ pl'j23)) (Z := []) (wnew := fun _ : Unit => (wPa kc ap tx z5) ++ (([(nw6, .inr (11, [.int v2j23, va_rf none, .int 0, va_rf none, va_rf none, .int (nI (max d1_7 d2_7 + if (none : Option Nat) = none then 0 else 1)), .int (nI (max (max l1_7 l2_7) s1_7))]))] ++ pl'j23) ++ [])) (As := [.int v2j23, va_rf none, .int 0, va_rf none, va_rf none]) (rest := [.ref nw6]) E (by rw [List.append_nil]) G (by have hc := c_X9_init l D kc pl'j23 nw6 v2j23 s1_7 d1_7 l1_7 d2_7 l2_7 none none none hs7 hd1_7 hl1_7 hd2_7 hl2_7 hn1_7 hn2_7; rw [← es7] at hc; exact hc) gX10_readFormula_X9_init lml_X10_readFormula_35 li_X10_readFormula_X9 lsm_X10_readFormula_X9_init rfl rfl ⟨rfl, rfl⟩ hd_X9_init_n ⟨Nat.ble_eq_true_of_le (show 1 + 1 ≤ F + 9 by omega), Nat.ble_eq_true_of_le (show 8 + (8 + 11) + 30 ≤ L + 197 by omega)⟩ rfl hl rfl rfl dX10_readFormula_42 ⟨show cs + 1 + 0 ≤ 2 + 2 * C by omega, show sl + 7 + 0 ≤ 11 + 2 * S by omega⟩ (fun _ => rfl) (fun _ _ H locs G => ?_)
    have G := G.cg (wz := (wPa kc ap tx z5) ++ ((nw6, .inr (11, [.int v2j23, va_rf none, .int 0, va_rf none, va_rf none, .int (nI (max d1_7 d2_7 + if (none : Option Nat) = none then 0 else 1)), .int (nI (max (max l1_7 l2_7) s1_7))])) :: pl'j23)) (by simp)
    obtain ⟨pl7, epl7⟩ : ∃ z : va_W, z = (nw6, .inr (11, [.int v2j23, va_rf none, .int 0, va_rf none, va_rf none, .int (nI (max d1_7 d2_7 + if (none : Option Nat) = none then 0 else 1)), .int (nI (max (max l1_7 l2_7) s1_7))])) :: pl'j23 := ⟨_, rfl⟩
    rw [← epl7] at G
    have h := h pl7 epl7
    refine k_retq (wof := (fun u : US × va_W => (wPa kc ap tx u.1 ++ u.2))) (o := (some nw6)) (u := (z5, pl7)) (Or.inl ⟨_, rfl⟩) E G ?_ ?_ ?_ dX10_readFormula_45
    · exact h
    · exact (show cs + 1 ≤ 2 + 2 * C by omega)
    · exact (show sl + 7 ≤ 11 + 2 * S by omega)
  have K56 : ∀ (σ'j56 : US) (pl'j56 : va_W) (H : Heap) (locs : List Loc) (ls : Array Slot) (cs sl : Nat) (hcs : cs ≤ 0) (hsl : sl ≤ 0), kG D (va_A (wPa kc ap tx σ ++ pl) s.heap.size) s (wPa kc ap tx σ'j56 ++ pl'j56) H locs → lv_has ls 3 [(0, .ref (ap 0)), (1, .int p1)] → wp_X10_readFormula_J56 kc tx RF p1 σ'j56 pl'j56 Q → W p l e ({ frames := F + 9, cells := 2 + 2 * C, slots := 11 + 2 * S, locals := L + 197 } : Room) s m args below meth c H locs cs sl (MQ below (va_Qq (fun r u => Q r u) (kB D (wPa kc ap tx σ ++ pl) s.heap.size (fun u : US × va_W => (wPa kc ap tx u.1 ++ u.2))) (va_A (wPa kc ap tx σ ++ pl) s.heap.size)) args s (2 + 2 * C) (11 + 2 * S) (va_A (wPa kc ap tx σ ++ pl) s.heap.size)) (F0 m 56 ls []) := by
    intro σ'j56 pl'j56 H locs ls cs sl hcs hsl G hl h
    refine lv_aload_n E.ex E.by dX10_readFormula_56 rfl (lv_at hl 0 rfl) ?_
    refine lv_bipush (v := 33) E.ex E.by dX10_readFormula_57 (by decide) ?_
    refine k_cVi (n := 1) (X := []) (w := (wPa kc ap tx σ'j56 ++ pl'j56)) (Z := []) (wnew := (fun u : US => (wPa kc ap tx u ++ pl'j56))) (As := [.int 33]) (rest := []) E (List.append_nil _).symm G (c_X10_skip l D kc _ _ _ _ _ _ h) gX10_readFormula_X10_skip rfl ⟨rfl, rfl⟩ hd_X10_skip_v ⟨Nat.ble_eq_true_of_le (show 5 + 1 ≤ F + 9 by omega), Nat.ble_eq_true_of_le (show 8 + (2 + 11) + (105) ≤ L + 197 by omega)⟩ 0 (gP_0 _ _ _ _ _) rfl rfl hl rfl rfl dX10_readFormula_59 ⟨Nat.ble_eq_true_of_le (show cs + 0 ≤ 2 + 2 * C by omega), Nat.ble_eq_true_of_le (show sl + 0 ≤ 11 + 2 * S by omega)⟩ (fun _ => (List.append_nil _).symm) (fun r10 u11 hq H locs G => ?_)
    have h := hq
    refine lv_if_eq (tgt := 71) E.ex E.by dX10_readFormula_62 (by decide) (fun hc35 => ?_) (fun hc35 => ?_)
    · have h := h.1 hc35
      refine lv_aload_n E.ex E.by dX10_readFormula_71 rfl (lv_at hl 0 rfl) ?_
      refine lv_bipush (v := 40) E.ex E.by dX10_readFormula_72 (by decide) ?_
      refine k_cVi (n := 1) (X := []) (w := (wPa kc ap tx u11 ++ pl'j56)) (Z := []) (wnew := (fun u : US => (wPa kc ap tx u ++ pl'j56))) (As := [.int 40]) (rest := []) E (List.append_nil _).symm G (c_X10_skip l D kc _ _ _ _ _ _ h) gX10_readFormula_X10_skip rfl ⟨rfl, rfl⟩ hd_X10_skip_v ⟨Nat.ble_eq_true_of_le (show 5 + 1 ≤ F + 9 by omega), Nat.ble_eq_true_of_le (show 8 + (2 + 11) + (105) ≤ L + 197 by omega)⟩ 0 (gP_0 _ _ _ _ _) rfl rfl hl rfl rfl dX10_readFormula_74 ⟨Nat.ble_eq_true_of_le (show cs + 0 + 0 ≤ 2 + 2 * C by omega), Nat.ble_eq_true_of_le (show sl + 0 + 0 ≤ 11 + 2 * S by omega)⟩ (fun _ => (List.append_nil _).symm) (fun r12 u13 hq H locs G => ?_)
      have h := hq
      refine lv_if_eq (tgt := 86) E.ex E.by dX10_readFormula_77 (by decide) (fun hc32 => ?_) (fun hc32 => ?_)
      · have h := h.1 hc32
        refine lv_aload_n E.ex E.by dX10_readFormula_86 rfl (lv_at hl 0 rfl) ?_
        refine lv_bipush (v := 80) E.ex E.by dX10_readFormula_87 (by decide) ?_
        refine k_cVi (n := 1) (X := []) (w := (wPa kc ap tx u13 ++ pl'j56)) (Z := []) (wnew := (fun u : US => (wPa kc ap tx u ++ pl'j56))) (As := [.int 80]) (rest := []) E (List.append_nil _).symm G (c_X10_skip l D kc _ _ _ _ _ _ h) gX10_readFormula_X10_skip rfl ⟨rfl, rfl⟩ hd_X10_skip_v ⟨Nat.ble_eq_true_of_le (show 5 + 1 ≤ F + 9 by omega), Nat.ble_eq_true_of_le (show 8 + (2 + 11) + (105) ≤ L + 197 by omega)⟩ 0 (gP_0 _ _ _ _ _) rfl rfl hl rfl rfl dX10_readFormula_89 ⟨Nat.ble_eq_true_of_le (show cs + 0 + 0 + 0 ≤ 2 + 2 * C by omega), Nat.ble_eq_true_of_le (show sl + 0 + 0 + 0 ≤ 11 + 2 * S by omega)⟩ (fun _ => (List.append_nil _).symm) (fun r14 u15 hq H locs G => ?_)
        have h := hq
        refine lv_if_eq (tgt := 101) E.ex E.by dX10_readFormula_92 (by decide) (fun hc29 => ?_) (fun hc29 => ?_)
        · have h := h.1 hc29
          refine lv_aload_n E.ex E.by dX10_readFormula_101 rfl (lv_at hl 0 rfl) ?_
          refine lv_bipush (v := 83) E.ex E.by dX10_readFormula_102 (by decide) ?_
          refine k_cVi (n := 1) (X := []) (w := (wPa kc ap tx u15 ++ pl'j56)) (Z := []) (wnew := (fun u : US => (wPa kc ap tx u ++ pl'j56))) (As := [.int 83]) (rest := []) E (List.append_nil _).symm G (c_X10_skip l D kc _ _ _ _ _ _ h) gX10_readFormula_X10_skip rfl ⟨rfl, rfl⟩ hd_X10_skip_v ⟨Nat.ble_eq_true_of_le (show 5 + 1 ≤ F + 9 by omega), Nat.ble_eq_true_of_le (show 8 + (2 + 11) + (105) ≤ L + 197 by omega)⟩ 0 (gP_0 _ _ _ _ _) rfl rfl hl rfl rfl dX10_readFormula_104 ⟨Nat.ble_eq_true_of_le (show cs + 0 + 0 + 0 + 0 ≤ 2 + 2 * C by omega), Nat.ble_eq_true_of_le (show sl + 0 + 0 + 0 + 0 ≤ 11 + 2 * S by omega)⟩ (fun _ => (List.append_nil _).symm) (fun r16 u17 hq H locs G => ?_)
          have h := hq
          refine lv_if_eq (tgt := 118) E.ex E.by dX10_readFormula_107 (by decide) (fun hc26 => ?_) (fun hc26 => ?_)
          · have h := h.1 hc26
            refine lv_aload_n E.ex E.by dX10_readFormula_118 rfl (lv_at hl 0 rfl) ?_
            refine lv_bipush (v := 82) E.ex E.by dX10_readFormula_119 (by decide) ?_
            refine k_cVi (n := 1) (X := []) (w := (wPa kc ap tx u17 ++ pl'j56)) (Z := []) (wnew := (fun u : US => (wPa kc ap tx u ++ pl'j56))) (As := [.int 82]) (rest := []) E (List.append_nil _).symm G (c_X10_skip l D kc _ _ _ _ _ _ h) gX10_readFormula_X10_skip rfl ⟨rfl, rfl⟩ hd_X10_skip_v ⟨Nat.ble_eq_true_of_le (show 5 + 1 ≤ F + 9 by omega), Nat.ble_eq_true_of_le (show 8 + (2 + 11) + (105) ≤ L + 197 by omega)⟩ 0 (gP_0 _ _ _ _ _) rfl rfl hl rfl rfl dX10_readFormula_121 ⟨Nat.ble_eq_true_of_le (show cs + 0 + 0 + 0 + 0 + 0 ≤ 2 + 2 * C by omega), Nat.ble_eq_true_of_le (show sl + 0 + 0 + 0 + 0 + 0 ≤ 11 + 2 * S by omega)⟩ (fun _ => (List.append_nil _).symm) (fun r18 u19 hq H locs G => ?_)
            have h := hq
            refine lv_if_eq (tgt := 135) E.ex E.by dX10_readFormula_124 (by decide) (fun hc23 => ?_) (fun hc23 => ?_)
            · have h := h.1 hc23
              refine lv_aload_n E.ex E.by dX10_readFormula_135 rfl (lv_at hl 0 rfl) ?_
              refine lv_iconst (v := 1) E.ex E.by dX10_readFormula_136 (by decide) ?_
              refine k_put (fun z => (wPa kc ap tx z ++ pl'j56)) E G wi_X10_readFormula_X10 tyX10_ok nmX10 0 (gP_0 _ _ _ _ _) rfl 2 rfl fl_X10_readFormula_X10_2 rfl rfl rfl rfl (uI u19 1 1) (pP_0_2 _ _ _ _ _ _) dX10_readFormula_137 (fun z20 ez20 H locs G => ?_)
              have h := h z20 ez20
              refine lv_null E.ex E.by dX10_readFormula_140 ?_
              refine k_retq (wof := (fun u : US × va_W => (wPa kc ap tx u.1 ++ u.2))) (o := none) (u := (z20, pl'j56)) (Or.inl ⟨_, rfl⟩) E G ?_ ?_ ?_ dX10_readFormula_141
              · exact h
              · exact (show cs + 0 + 0 + 0 + 0 + 0 ≤ 2 + 2 * C by omega)
              · exact (show sl + 0 + 0 + 0 + 0 + 0 ≤ 11 + 2 * S by omega)
            · have h := h.2 hc23
              refine lv_aload_n E.ex E.by dX10_readFormula_127 rfl (lv_at hl 0 rfl) ?_
              refine lv_bipush (v := 82) E.ex E.by dX10_readFormula_128 (by decide) ?_
              refine lv_iload_n E.ex E.by dX10_readFormula_130 rfl (lv_at hl 1 rfl) ?_
              refine k_cVq (n := 2) (X := []) (w := (wPa kc ap tx u19 ++ pl'j56)) (Z := []) (wnew := (fun u : US × va_W => (wPa kc ap tx u.1 ++ u.2))) (As := [.int 82, .int p1]) (rest := []) E (List.append_nil _).symm G (c_X10_readBounded l D kc _ _ F L C S RF HRF _ _ _ _ _ h) gX10_readFormula_X10_readBounded rfl ⟨rfl, rfl⟩ hd_X10_readBounded_v ⟨Nat.ble_eq_true_of_le (show F + 8 + 1 ≤ F + 9 by omega), Nat.ble_eq_true_of_le (show 8 + (5 + 11) + (L + 171) ≤ L + 197 by omega)⟩ 0 (gP_0 _ _ _ _ _) rfl rfl hl rfl rfl dX10_readFormula_131 ⟨show cs + 0 + 0 + 0 + 0 + 0 + (2 + 1 * C) ≤ 2 + 2 * C by omega, show sl + 0 + 0 + 0 + 0 + 0 + (11 + 1 * S) ≤ 11 + 2 * S by omega⟩ (fun _ => (List.append_nil _).symm) (fun r21 u22 hq H locs G => ?_)
              have h := hq
              refine k_retq (wof := (fun u : US × va_W => (wPa kc ap tx u.1 ++ u.2))) (o := r21) (u := (u22.1, u22.2)) (Or.inl ⟨_, rfl⟩) E G ?_ ?_ ?_ dX10_readFormula_134
              · exact h
              · exact (show cs + 0 + 0 + 0 + 0 + 0 + (2 + 1 * C) ≤ 2 + 2 * C by omega)
              · exact (show sl + 0 + 0 + 0 + 0 + 0 + (11 + 1 * S) ≤ 11 + 2 * S by omega)
          · have h := h.2 hc26
            refine lv_aload_n E.ex E.by dX10_readFormula_110 rfl (lv_at hl 0 rfl) ?_
            refine lv_bipush (v := 83) E.ex E.by dX10_readFormula_111 (by decide) ?_
            refine lv_iload_n E.ex E.by dX10_readFormula_113 rfl (lv_at hl 1 rfl) ?_
            refine k_cVq (n := 2) (X := []) (w := (wPa kc ap tx u17 ++ pl'j56)) (Z := []) (wnew := (fun u : US × va_W => (wPa kc ap tx u.1 ++ u.2))) (As := [.int 83, .int p1]) (rest := []) E (List.append_nil _).symm G (c_X10_readBounded l D kc _ _ F L C S RF HRF _ _ _ _ _ h) gX10_readFormula_X10_readBounded rfl ⟨rfl, rfl⟩ hd_X10_readBounded_v ⟨Nat.ble_eq_true_of_le (show F + 8 + 1 ≤ F + 9 by omega), Nat.ble_eq_true_of_le (show 8 + (5 + 11) + (L + 171) ≤ L + 197 by omega)⟩ 0 (gP_0 _ _ _ _ _) rfl rfl hl rfl rfl dX10_readFormula_114 ⟨show cs + 0 + 0 + 0 + 0 + (2 + 1 * C) ≤ 2 + 2 * C by omega, show sl + 0 + 0 + 0 + 0 + (11 + 1 * S) ≤ 11 + 2 * S by omega⟩ (fun _ => (List.append_nil _).symm) (fun r24 u25 hq H locs G => ?_)
            have h := hq
            refine k_retq (wof := (fun u : US × va_W => (wPa kc ap tx u.1 ++ u.2))) (o := r24) (u := (u25.1, u25.2)) (Or.inl ⟨_, rfl⟩) E G ?_ ?_ ?_ dX10_readFormula_117
            · exact h
            · exact (show cs + 0 + 0 + 0 + 0 + (2 + 1 * C) ≤ 2 + 2 * C by omega)
            · exact (show sl + 0 + 0 + 0 + 0 + (11 + 1 * S) ≤ 11 + 2 * S by omega)
        · have h := h.2 hc29
          refine lv_aload_n E.ex E.by dX10_readFormula_95 rfl (lv_at hl 0 rfl) ?_
          refine lv_iload_n E.ex E.by dX10_readFormula_96 rfl (lv_at hl 1 rfl) ?_
          refine k_cVq (n := 1) (X := []) (w := (wPa kc ap tx u15 ++ pl'j56)) (Z := []) (wnew := (fun u : US × va_W => (wPa kc ap tx u.1 ++ u.2))) (As := [.int p1]) (rest := []) E (List.append_nil _).symm G (c_X10_readProbability l D kc _ _ F L C S RF HRF _ _ _ _ h) gX10_readFormula_X10_readProbability rfl ⟨rfl, rfl⟩ hd_X10_readProbability_v ⟨Nat.ble_eq_true_of_le (show F + 8 + 1 ≤ F + 9 by omega), Nat.ble_eq_true_of_le (show 8 + (7 + 11) + (L + 171) ≤ L + 197 by omega)⟩ 0 (gP_0 _ _ _ _ _) rfl rfl hl rfl rfl dX10_readFormula_97 ⟨show cs + 0 + 0 + 0 + (2 + 2 * C) ≤ 2 + 2 * C by omega, show sl + 0 + 0 + 0 + (11 + 2 * S) ≤ 11 + 2 * S by omega⟩ (fun _ => (List.append_nil _).symm) (fun r27 u28 hq H locs G => ?_)
          have h := hq
          refine k_retq (wof := (fun u : US × va_W => (wPa kc ap tx u.1 ++ u.2))) (o := r27) (u := (u28.1, u28.2)) (Or.inl ⟨_, rfl⟩) E G ?_ ?_ ?_ dX10_readFormula_100
          · exact h
          · exact (show cs + 0 + 0 + 0 + (2 + 2 * C) ≤ 2 + 2 * C by omega)
          · exact (show sl + 0 + 0 + 0 + (11 + 2 * S) ≤ 11 + 2 * S by omega)
      · have h := h.2 hc32
        refine lv_aload_n E.ex E.by dX10_readFormula_80 rfl (lv_at hl 0 rfl) ?_
        refine lv_iload_n E.ex E.by dX10_readFormula_81 rfl (lv_at hl 1 rfl) ?_
        refine k_cVq (n := 1) (X := []) (w := (wPa kc ap tx u13 ++ pl'j56)) (Z := []) (wnew := (fun u : US × va_W => (wPa kc ap tx u.1 ++ u.2))) (As := [.int p1]) (rest := []) E (List.append_nil _).symm G (c_X10_readPair l D kc _ _ F L C S RF HRF _ _ _ _ h) gX10_readFormula_X10_readPair rfl ⟨rfl, rfl⟩ hd_X10_readPair_v ⟨Nat.ble_eq_true_of_le (show F + 7 + 1 ≤ F + 9 by omega), Nat.ble_eq_true_of_le (show 8 + (5 + 11) + (L + 147) ≤ L + 197 by omega)⟩ 0 (gP_0 _ _ _ _ _) rfl rfl hl rfl rfl dX10_readFormula_82 ⟨show cs + 0 + 0 + (1 + 2 * C) ≤ 2 + 2 * C by omega, show sl + 0 + 0 + (7 + 2 * S) ≤ 11 + 2 * S by omega⟩ (fun _ => (List.append_nil _).symm) (fun r30 u31 hq H locs G => ?_)
        have h := hq
        refine k_retq (wof := (fun u : US × va_W => (wPa kc ap tx u.1 ++ u.2))) (o := r30) (u := (u31.1, u31.2)) (Or.inl ⟨_, rfl⟩) E G ?_ ?_ ?_ dX10_readFormula_85
        · exact h
        · exact (show cs + 0 + 0 + (1 + 2 * C) ≤ 2 + 2 * C by omega)
        · exact (show sl + 0 + 0 + (7 + 2 * S) ≤ 11 + 2 * S by omega)
    · have h := h.2 hc35
      refine lv_aload_n E.ex E.by dX10_readFormula_65 rfl (lv_at hl 0 rfl) ?_
      refine lv_iload_n E.ex E.by dX10_readFormula_66 rfl (lv_at hl 1 rfl) ?_
      refine k_cVq (n := 1) (X := []) (w := (wPa kc ap tx u11 ++ pl'j56)) (Z := []) (wnew := (fun u : US × va_W => (wPa kc ap tx u.1 ++ u.2))) (As := [.int p1]) (rest := []) E (List.append_nil _).symm G (c_X10_readOpposite l D kc _ _ F L C S RF HRF _ _ _ _ h) gX10_readFormula_X10_readOpposite rfl ⟨rfl, rfl⟩ hd_X10_readOpposite_v ⟨Nat.ble_eq_true_of_le (show F + 2 + 1 ≤ F + 9 by omega), Nat.ble_eq_true_of_le (show 8 + (2 + 11) + (L + 57) ≤ L + 197 by omega)⟩ 0 (gP_0 _ _ _ _ _) rfl rfl hl rfl rfl dX10_readFormula_67 ⟨show cs + 0 + (1 + 1 * C) ≤ 2 + 2 * C by omega, show sl + 0 + (7 + 1 * S) ≤ 11 + 2 * S by omega⟩ (fun _ => (List.append_nil _).symm) (fun r33 u34 hq H locs G => ?_)
      have h := hq
      refine k_retq (wof := (fun u : US × va_W => (wPa kc ap tx u.1 ++ u.2))) (o := r33) (u := (u34.1, u34.2)) (Or.inl ⟨_, rfl⟩) E G ?_ ?_ ?_ dX10_readFormula_70
      · exact h
      · exact (show cs + 0 + (1 + 1 * C) ≤ 2 + 2 * C by omega)
      · exact (show sl + 0 + (7 + 1 * S) ≤ 11 + 2 * S by omega)
  have K46 : ∀ (σ'j46 : US) (pl'j46 : va_W) (H : Heap) (locs : List Loc) (ls : Array Slot) (cs sl : Nat) (hcs : cs ≤ 0) (hsl : sl ≤ 0), kG D (va_A (wPa kc ap tx σ ++ pl) s.heap.size) s (wPa kc ap tx σ'j46 ++ pl'j46) H locs → lv_has ls 3 [(0, .ref (ap 0)), (1, .int p1)] → wp_X10_readFormula_J46 kc tx RF p1 σ'j46 pl'j46 Q → W p l e ({ frames := F + 9, cells := 2 + 2 * C, slots := 11 + 2 * S, locals := L + 197 } : Room) s m args below meth c H locs cs sl (MQ below (va_Qq (fun r u => Q r u) (kB D (wPa kc ap tx σ ++ pl) s.heap.size (fun u : US × va_W => (wPa kc ap tx u.1 ++ u.2))) (va_A (wPa kc ap tx σ ++ pl) s.heap.size)) args s (2 + 2 * C) (11 + 2 * S) (va_A (wPa kc ap tx σ ++ pl) s.heap.size)) (F0 m 46 ls []) := by
    intro σ'j46 pl'j46 H locs ls cs sl hcs hsl G hl h
    refine lv_iload_n E.ex E.by dX10_readFormula_46 rfl (lv_at hl 1 rfl) ?_
    refine lv_iconst (v := 5) E.ex E.by dX10_readFormula_47 (by decide) ?_
    refine lv_icmp_lt (tgt := 56) E.ex E.by dX10_readFormula_48 (by decide) (fun hc9 => ?_) (fun hc9 => ?_)
    · have h := h.1 hc9
      exact K56 _ _ _ _ _ _ _ (by omega) (by omega) G (lv_sub hl [0, 1] rfl) h
    · have h := h.2 hc9
      refine lv_aload_n E.ex E.by dX10_readFormula_51 rfl (lv_at hl 0 rfl) ?_
      refine lv_iconst (v := 1) E.ex E.by dX10_readFormula_52 (by decide) ?_
      refine k_put (fun z => (wPa kc ap tx z ++ pl'j46)) E G wi_X10_readFormula_X10 tyX10_ok nmX10 0 (gP_0 _ _ _ _ _) rfl 2 rfl fl_X10_readFormula_X10_2 rfl rfl rfl rfl (uI σ'j46 1 1) (pP_0_2 _ _ _ _ _ _) dX10_readFormula_53 (fun z8 ez8 H locs G => ?_)
      have h := h z8 ez8
      exact K56 _ _ _ _ _ _ _ (by omega) (by omega) G (lv_sub hl [0, 1] rfl) h
  refine lv_aload_n E.ex E.by dX10_readFormula_0 rfl (lv_at hl 0 rfl) ?_
  refine k_cVi (n := 0) (X := []) (w := (wPa kc ap tx σ ++ pl)) (Z := []) (wnew := (fun _ : Unit => (wPa kc ap tx σ ++ pl))) (As := []) (rest := []) E (List.append_nil _).symm G (c_X10_peek l D kc _ _ _ _ _ h) gX10_readFormula_X10_peek rfl ⟨rfl, rfl⟩ hd_X10_peek_v ⟨Nat.ble_eq_true_of_le (show 4 + 1 ≤ F + 9 by omega), Nat.ble_eq_true_of_le (show 8 + (1 + 11) + (85) ≤ L + 197 by omega)⟩ 0 (gP_0 _ _ _ _ _) rfl rfl hl rfl rfl dX10_readFormula_1 ⟨Nat.ble_eq_true_of_le (show 0 + 0 ≤ 2 + 2 * C by omega), Nat.ble_eq_true_of_le (show 0 + 0 ≤ 11 + 2 * S by omega)⟩ (fun _ => (List.append_nil _).symm) (fun r1 _u1 hq H locs G => ?_)
  have h := hq
  refine lv_istore_n (lv' := [(2, .int r1), (0, .ref (ap 0)), (1, .int p1)]) E.ex E.by dX10_readFormula_4 rfl hl (by decide) rfl (fun ls hl => ?_)
  refine lv_iload_n E.ex E.by dX10_readFormula_5 rfl (lv_at hl 0 rfl) ?_
  refine lv_bipush (v := 116) E.ex E.by dX10_readFormula_6 (by decide) ?_
  refine lv_icmp_eq (tgt := 23) E.ex E.by dX10_readFormula_8 (by decide) (fun hc4 => ?_) (fun hc4 => ?_)
  · have h := h.1 hc4
    exact K23 _ _ _ _ _ _ _ _ (by omega) (by omega) G (lv_sub hl [0, 1] rfl) h
  · have h := h.2 hc4
    refine lv_iload_n E.ex E.by dX10_readFormula_11 rfl (lv_at hl 0 rfl) ?_
    refine lv_bipush (v := 97) E.ex E.by dX10_readFormula_12 (by decide) ?_
    refine lv_icmp_lt (tgt := 46) E.ex E.by dX10_readFormula_14 (by decide) (fun hc3 => ?_) (fun hc3 => ?_)
    · have h := h.1 hc3
      exact K46 _ _ _ _ _ _ _ (by omega) (by omega) G (lv_sub hl [1, 2] rfl) h
    · have h := h.2 hc3
      refine lv_iload_n E.ex E.by dX10_readFormula_17 rfl (lv_at hl 0 rfl) ?_
      refine lv_bipush (v := 100) E.ex E.by dX10_readFormula_18 (by decide) ?_
      refine lv_icmp_gt (tgt := 46) E.ex E.by dX10_readFormula_20 (by decide) (fun hc2 => ?_) (fun hc2 => ?_)
      · have h := h.1 hc2
        exact K46 _ _ _ _ _ _ _ (by omega) (by omega) G (lv_sub hl [1, 2] rfl) h
      · have h := h.2 hc2
        exact K23 _ _ _ _ _ _ _ _ (by omega) (by omega) G (lv_sub hl [0, 1] rfl) h
def wp_X10_readFormula (kc : Nat → ClassId) (tx : Nat → Nat) : Nat → Int32 → US → va_W → (Option Nat → (US × va_W) → Prop) → Prop
  | 0 => fun _ _ _ _ => False
  | n + 1 => fun p1 σ pl Q => wp_X10_readFormula_B kc tx (wp_X10_readFormula kc tx n) p1 σ pl Q
def nc_X10_readFormula : Nat → Nat
  | 0 => 0
  | n + 1 => 2 + 2 * nc_X10_readFormula n
def ns_X10_readFormula : Nat → Nat
  | 0 => 0
  | n + 1 => 11 + 2 * ns_X10_readFormula n
theorem c_X10_readFormula (l : Launch) (D : va_G) (kc : Nat → ClassId) (ap : Nat → Nat) (tx : Nat → Nat) (n : Nat) : ∀ (q1 : Int32) (σ0 : US) (pl0 : va_W) (Q0 : Option Nat → (US × va_W) → Prop), wp_X10_readFormula kc tx n q1 σ0 pl0 Q0 → kCq l D (tyL kc) yX10_readFormula wsX10_readFormula ({ frames := 9 * n, cells := nc_X10_readFormula n, slots := ns_X10_readFormula n, locals := 197 * n } : Room) [.ref (ap 0), .int q1] (wPa kc ap tx σ0 ++ pl0) (fun u : US × va_W => (wPa kc ap tx u.1 ++ u.2)) (nc_X10_readFormula n) (ns_X10_readFormula n) (fun r u => Q0 r u) := by
  induction n with
  | zero => intro _ _ _ _ h; exact absurd h (fun h => h)
  | succ n ih => intro _ _ _ _ h; exact c_X10_readFormula_B l D kc ap tx (9 * n) (197 * n) (nc_X10_readFormula n) (ns_X10_readFormula n) (wp_X10_readFormula kc tx n) ih _ _ _ _ h
