/-! ===== making cells; final fields; the order of cells ===== -/
section KA
variable {p : Program} {l : Launch} {e : Env} {R : Room} {s : State} {m : MethodId} {args : Array Value} {below : List Frame} {meth : Method} {c : Code} {H : Heap} {locs : List Loc} {cells slots : Nat} {Q : State → Prop} {cc : ByteArray} {nL : Nat} {own nm : String} {Ts : List Cond} {ret : Option FieldType} {D : va_G} {tys : List (ClassId × FieldType)} {A : Nat → Prop} {ws : va_W} {pc : Nat} {ls : Array Slot} {rest : List Value}
theorem kG.perm (G : kG D A s ws H locs) {ws' : va_W} (is : List Nat) (hn : va_nd is = true) (hs : is.map (fun i => ws[i]?) = ws'.map some) : kG D A s ws' H locs := by
  refine ⟨fun k q hk => ?_, G.2.1.sub is hn hs, G.2.2.1, G.2.2.2.1, G.2.2.2.2⟩
  have h1 : (is.map (fun i => ws[i]?))[k]? = some (some q) := by rw [hs, List.getElem?_map, hk]; rfl
  rw [List.getElem?_map] at h1
  cases hi : is[k]? with
  | none => rw [hi] at h1; cases h1
  | some i => rw [hi] at h1; exact G.1 i q (Option.some.inj h1)
theorem k_newai (E : kE p s m meth c args cc nL own nm Ts ret D tys) (G : kG D A s ws H locs) (harr : Cond.arrayClass .int ∈ Ts) (t0 : Nat) {cA0 : ClassId} (ht : tys[t0]? = some (cA0, .int)) {n : Int32} {N' : Nat} (hn : ¬ n < 0) (hN : n.toNatClampNeg = N') (hb : Nat.ble (N' * 4) 536870912 = true) (hf : Nat.ble (cells + 1) R.cells = true ∧ Nat.ble (slots + N') R.slots = true) (hdg : decode cc pc = .ok (.newarray .int, 2))
    (kk : ∀ (q : Nat) (H1 : Heap), kG D A s (ws ++ [(q, .inl (cA0, N', .inl (fun _ => 0)))]) H1 locs → W p l e R s m args below meth c H1 locs (cells + 1) (slots + N') Q (F0 m (pc + 2) ls (.ref q :: rest))) : W p l e R s m args below meth c H locs cells slots Q (F0 m pc ls (.int n :: rest)) := by
  refine va_newa (atype := .int) (ty := .int) E.ex E.by (E.ts _ harr) rfl E.k G.1 G.2.1 G.2.2.1 G.2.2.2.2 (a0 := (N', .inl (fun _ => 0))) (fun _ => rfl) hn hN (Nat.le_of_ble_eq_true hb) (Nat.le_of_ble_eq_true hf.1) (Nat.le_of_ble_eq_true hf.2) hdg (fun q cA H1 hK hP hD hS => ?_)
  have h1 : s.vm.findClass ("[" ++ (FieldType.int).toString) = some cA := (hK.2 tys.length (cA, .int) (by simp)).2
  have h2 : s.vm.findClass ("[" ++ (FieldType.int).toString) = some cA0 := (E.k.2 t0 _ ht).2
  have h3 : cA = cA0 := Option.some.inj (h1.symm.trans h2)
  subst h3
  exact kk q H1 ⟨hP, hD, hS, G.2.2.2.1, G.2.2.2.2⟩
theorem k_newal (E : kE p s m meth c args cc nL own nm Ts ret D tys) (G : kG D A s ws H locs) (harr : Cond.arrayClass .long ∈ Ts) (t0 : Nat) {cA0 : ClassId} (ht : tys[t0]? = some (cA0, .long)) {n : Int32} {N' : Nat} (hn : ¬ n < 0) (hN : n.toNatClampNeg = N') (hb : Nat.ble (N' * 8) 536870912 = true) (hf : Nat.ble (cells + 1) R.cells = true ∧ Nat.ble (slots + N') R.slots = true) (hdg : decode cc pc = .ok (.newarray .long, 2))
    (kk : ∀ (q : Nat) (H1 : Heap), kG D A s (ws ++ [(q, .inl (cA0, N', .inr (.inl (fun _ => 0))))]) H1 locs → W p l e R s m args below meth c H1 locs (cells + 1) (slots + N') Q (F0 m (pc + 2) ls (.ref q :: rest))) : W p l e R s m args below meth c H locs cells slots Q (F0 m pc ls (.int n :: rest)) := by
  refine va_newa (atype := .long) (ty := .long) E.ex E.by (E.ts _ harr) rfl E.k G.1 G.2.1 G.2.2.1 G.2.2.2.2 (a0 := (N', .inr (.inl (fun _ => 0)))) (fun _ => rfl) hn hN (Nat.le_of_ble_eq_true hb) (Nat.le_of_ble_eq_true hf.1) (Nat.le_of_ble_eq_true hf.2) hdg (fun q cA H1 hK hP hD hS => ?_)
  have h1 : s.vm.findClass ("[" ++ (FieldType.long).toString) = some cA := (hK.2 tys.length (cA, .long) (by simp)).2
  have h2 : s.vm.findClass ("[" ++ (FieldType.long).toString) = some cA0 := (E.k.2 t0 _ ht).2
  have h3 : cA = cA0 := Option.some.inj (h1.symm.trans h2)
  subst h3
  exact kk q H1 ⟨hP, hD, hS, G.2.2.2.1, G.2.2.2.2⟩
theorem k_newab (E : kE p s m meth c args cc nL own nm Ts ret D tys) (G : kG D A s ws H locs) (harr : Cond.arrayClass .byte ∈ Ts) (t0 : Nat) {cA0 : ClassId} (ht : tys[t0]? = some (cA0, .byte)) {n : Int32} {N' : Nat} (hn : ¬ n < 0) (hN : n.toNatClampNeg = N') (hb : N' * 1 ≤ 536870912) (hf : cells + 1 ≤ R.cells ∧ slots + N' ≤ R.slots) (hdg : decode cc pc = .ok (.newarray .byte, 2))
    (kk : ∀ (q : Nat) (H1 : Heap), kG D A s (ws ++ [(q, .inl (cA0, N', .inl (fun _ => 0)))]) H1 locs → W p l e R s m args below meth c H1 locs (cells + 1) (slots + N') Q (F0 m (pc + 2) ls (.ref q :: rest))) : W p l e R s m args below meth c H locs cells slots Q (F0 m pc ls (.int n :: rest)) := by
  refine va_newa (atype := .byte) (ty := .byte) E.ex E.by (E.ts _ harr) rfl E.k G.1 G.2.1 G.2.2.1 G.2.2.2.2 (a0 := (N', .inl (fun _ => 0))) (fun _ => rfl) hn hN hb hf.1 hf.2 hdg (fun q cA H1 hK hP hD hS => ?_)
  have h1 : s.vm.findClass ("[" ++ (FieldType.byte).toString) = some cA := (hK.2 tys.length (cA, .byte) (by simp)).2
  have h2 : s.vm.findClass ("[" ++ (FieldType.byte).toString) = some cA0 := (E.k.2 t0 _ ht).2
  have h3 : cA = cA0 := Option.some.inj (h1.symm.trans h2)
  subst h3
  exact kk q H1 ⟨hP, hD, hS, G.2.2.2.1, G.2.2.2.2⟩
theorem k_newq {C : String} (hAO : va_AO C s) {index : Nat} (E : kE p s m meth c args cc nL own nm Ts ret D tys) (G : kG D A s ws H locs) (hcl : Cond.classLink own index C ∈ Ts) (t0 : Nat) {cA0 : ClassId} (ht : tys[t0]? = some (cA0, .object C)) {n : Int32} {N' : Nat} (hn : ¬ n < 0) (hN : n.toNatClampNeg = N') (hb : Nat.ble (N' * 4) 536870912 = true) (hf : Nat.ble (cells + 1) R.cells = true ∧ Nat.ble (slots + N') R.slots = true) (hdg : decode cc pc = .ok (.anewarray index, 3))
    (kk : ∀ (q : Nat) (H1 : Heap), kG D A s (ws ++ [(q, .inl (cA0, N', .inr (.inr (.inr (.inr (fun _ => none))))))]) H1 locs → W p l e R s m args below meth c H1 locs (cells + 1) (slots + N') Q (F0 m (pc + 3) ls (.ref q :: rest))) : W p l e R s m args below meth c H locs cells slots Q (F0 m pc ls (.int n :: rest)) := by
  refine va_newq E.ex E.by E.ow (E.ts _ hcl) hAO E.k G.1 G.2.1 G.2.2.1 G.2.2.2.2 hn hN (Nat.le_of_ble_eq_true hb) (Nat.le_of_ble_eq_true hf.1) (Nat.le_of_ble_eq_true hf.2) hdg (fun q cA H1 hK hP hD hS => ?_)
  obtain ⟨-, -, -, -, -, h1⟩ := (hK.2 tys.length (cA, .object C) (by simp)).2
  obtain ⟨-, -, -, -, -, h2⟩ := (E.k.2 t0 _ ht).2
  have h3 : cA = cA0 := Option.some.inj (h1.symm.trans h2)
  subst h3
  exact kk q H1 ⟨hP, hD, hS, G.2.2.2.1, G.2.2.2.2⟩
theorem k_new (E : kE p s m meth c args cc nL own nm Ts ret D tys) (G : kG D A s ws H locs) {C : String} {T : u_T} {N ci index : Nat} (hin : ∀ w ∈ u_ws C T N, w ∈ Ts) {ty0 : Nat → FieldType} (hty : ∀ k, k < N → parseFieldDescriptor (T k).2.2.1 = some (ty0 k)) (hcl : Cond.classLink own index C ∈ Ts) (hinst : Cond.instantiable C N ∈ Ts) (hini : Cond.initialized C ∈ Ts) (hc : vwCl[ci]? = some (C, T, N)) {fs : List Value} (hfs : ∀ j, j < N → defaultValue (ty0 j) = vp_V fs j) (hf : Nat.ble (cells + 1) R.cells = true ∧ Nat.ble (slots + N) R.slots = true) (hdg : decode cc pc = .ok (.new index, 3))
    (kk : ∀ (q : Nat) (H1 : Heap), kG D A s (ws ++ [(q, .inr (ci, fs))]) H1 locs → W p l e R s m args below meth c H1 locs (cells + 1) (slots + N) Q (F0 m (pc + 3) ls (.ref q :: rest))) : W p l e R s m args below meth c H locs cells slots Q (F0 m pc ls rest) :=
  va_new E.ex E.by E.ts hin ty0 hty E.ow (E.ts _ hcl) (E.ts _ hinst) (E.ts _ hini) E.k G.1 G.2.1 G.2.2.1 G.2.2.2.2 hc hfs (Nat.le_of_ble_eq_true hf.1) (Nat.le_of_ble_eq_true hf.2) hdg (fun q H1 hP hD hS => kk q H1 ⟨hP, hD, hS, G.2.2.2.1, G.2.2.2.2⟩)
theorem k_putF (hnm0 : meth.name = "<init>") (E : kE p s m meth c args cc nL own nm Ts ret D tys) (G : kG D A s ws H locs) {C : String} {T : u_T} {N : Nat} (hin : ∀ w ∈ u_ws C T N, w ∈ Ts) {ty0 : Nat → FieldType} (hty : ∀ k, k < N → parseFieldDescriptor (T k).2.2.1 = some (ty0 k)) (hnm : ∀ a, a < N → ∀ b, b < N → a ≠ b → (T a).2.1 ≠ (T b).2.1) (q0 : Nat) {a ci : Nat} {fs : List Value} (he : ws[q0]? = some (a, .inr (ci, fs))) (hc : vwCl[ci]? = some (C, T, N)) (k : Nat) (hk : Nat.blt k N = true) {index : Nat} (hl : Cond.fieldLink own index (T k).1 (T k).2.1 (T k).2.2.1 ∈ Ts) (hfin : (T k).2.2.2 = true) (hdecl : (T k).1 = own) {v : Value} (hn : narrow (ty0 k) v = v) (hfit : fits (ty0 k) v = true) (hlen : Nat.blt k fs.length = true) (ws' : va_W) (hσ : ws.set q0 (a, .inr (ci, fs.set k v)) = ws') (hdg : decode cc pc = .ok (.putfield index, 3))
    (kk : ∀ (H1 : Heap) (locs1 : List Loc), kG D A s ws' H1 locs1 → W p l e R s m args below meth c H1 locs1 cells slots Q (F0 m (pc + 3) ls rest)) : W p l e R s m args below meth c H locs cells slots Q (F0 m pc ls (v :: .ref a :: rest)) :=
  va_putF E.ex E.by E.ts hin ty0 hty hnm E.ow E.k G.1 G.2.1 G.2.2.1 q0 he hc k (Nat.le_of_ble_eq_true hk) (E.ts _ hl) (fun _ h9 => h9) hfin hnm0 hdecl (hty k (Nat.le_of_ble_eq_true hk)) hn hfit (Nat.le_of_ble_eq_true hlen) hdg (fun H1 locs1 hP hD hS => kk H1 locs1 ⟨hσ ▸ hP, hσ ▸ hD, hS, G.2.2.2.1, G.2.2.2.2⟩)
theorem k_putX (E : kE p s m meth c args cc nL own nm Ts ret D tys) (G : kG D A s ws H locs) {C : String} {T : u_T} {N : Nat} (hin : ∀ w ∈ u_ws C T N, w ∈ Ts) {ty0 : Nat → FieldType} (hty : ∀ k, k < N → parseFieldDescriptor (T k).2.2.1 = some (ty0 k)) (hnm : ∀ a, a < N → ∀ b, b < N → a ≠ b → (T a).2.1 ≠ (T b).2.1) (q0 : Nat) {a ci : Nat} {fs : List Value} (he : ws[q0]? = some (a, .inr (ci, fs))) (hc : vwCl[ci]? = some (C, T, N)) (k : Nat) (hk : Nat.blt k N = true) {index : Nat} (hl : Cond.fieldLink own index (T k).1 (T k).2.1 (T k).2.2.1 ∈ Ts) (hfin : (T k).2.2.2 = false) {v : Value} (hn : narrow (ty0 k) v = v) (hfit : fits (ty0 k) v = true) (hlen : Nat.blt k fs.length = true) (ws' : va_W) (hσ : ws.set q0 (a, .inr (ci, fs.set k v)) = ws') (hdg : decode cc pc = .ok (.putfield index, 3))
    (kk : ∀ (H1 : Heap) (locs1 : List Loc), kG D A s ws' H1 locs1 → W p l e R s m args below meth c H1 locs1 cells slots Q (F0 m (pc + 3) ls rest)) : W p l e R s m args below meth c H locs cells slots Q (F0 m pc ls (v :: .ref a :: rest)) :=
  va_put E.ex E.by E.ts hin ty0 hty hnm E.ow E.k G.1 G.2.1 G.2.2.1 q0 he hc k (Nat.le_of_ble_eq_true hk) (E.ts _ hl) (fun _ h9 => h9) hfin (hty k (Nat.le_of_ble_eq_true hk)) hn hfit (Nat.le_of_ble_eq_true hlen) hdg (fun H1 locs1 hP hD hS => kk H1 locs1 ⟨hσ ▸ hP, hσ ▸ hD, hS, G.2.2.2.1, G.2.2.2.2⟩)
theorem k_objInit (E : kE p s m meth c args cc nL own nm Ts ret D tys) {idx : Nat} (hlink : Cond.methodLink own idx objectInit ∈ Ts) (hinst : Cond.instanceMethod objectInit ∈ Ts) (hcode : Cond.code objectInit ⟨#[0xb1]⟩ 1 none ∈ Ts) {lvs : List (Nat × Value)} (hl : lv_has ls nL lvs) {a : Nat} (hcat : Nat.ble ((rest.map fun v => v.category).sum) 8 = true) (hroom : Nat.ble 1 R.frames = true ∧ Nat.ble 20 R.locals = true) (hdg : decode cc pc = .ok (.invokespecial idx, 3))
    (kk : W p l e R s m args below meth c H locs cells slots Q (F0 m (pc + 3) ls rest)) : W p l e R s m args below meth c H locs cells slots Q (F0 m pc ls (.ref a :: rest)) := by
  refine W.objInit E.ex E.by E.ow (E.ts _ hlink) (E.ts _ hinst) (E.ts _ hcode) rfl (by rw [E.nl]; exact hl.1) rfl hdg (Nat.le_of_ble_eq_true hroom.1) ?_ ?_
  · have h1 := Nat.le_of_ble_eq_true hcat
    have h2 := Nat.le_of_ble_eq_true hroom.2
    show 2 * 0 + _ + 12 ≤ _
    omega
  · exact W.eq (g2 := F0 m (pc + 3) ls rest) rfl kk
end KA
