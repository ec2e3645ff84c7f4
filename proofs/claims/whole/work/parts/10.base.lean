abbrev vwCl : List vw_C := [(RJ0, TJ0, 4), (RJ4, TJ4, 4), (RX0, TX0, 5), (RX1, TX1, 4), (RX2, TX2, 4), (RX3, TX3, 1), (RX5, TX5, 2), (RX5, TX5, 2), (RX6, TX6, 3), (RX7, TX7, 4), (RX8, TX8, 6), (RX9, TX9, 7), (RX10, TX10, 3), (RX11, TX11, 10), (RX12, TX12, 40)]
/-! ===== base: what every contract of this proof carries, and the rows over it ===== -/
def kNM : List (String × Nat × MethodName × String) := [(RX11, 9, yX2_init, RX11), (RX0, 30, yX11_contains, RX11), (RX0, 38, yX11_isIndex, RX11), (RX0, 42, yX11_commonDivisor, RX11), (RX2, 48, yX11_contains, RX11), (RX2, 71, yX11_commonMultiple, RX11), (RX6, 17, yX2_init, RX11), (RX7, 26, yX11_isIndex, RX11), (RX8, 11, yX3_init, RX11), (RX8, 126, yX11_commonMultiple, RX11), (RX8, 139, yX11_commonDivisor, RX11), (RX8, 35, yX11_isIndex, RX11), (RX8, 74, yX11_contains, RX11), (RX11, 166, yX10_readFormula, RX11)]
def kNF : List (String × Nat × String × String × String × String) := [(RX11, 258, RX5, "root", "LProbabilisticChecker$Node;", RX11), (RX11, 271, RX9, "first", "LProbabilisticChecker$Node;", RX11), (RX11, 276, RX9, "second", "LProbabilisticChecker$Node;", RX11), (RX11, 279, RX9, "kind", "I", RX11), (RX11, 291, RX9, "steps", "I", RX11), (RX11, 294, RX9, "bound", "LProbabilisticChecker$Bound;", RX11), (RX5, 29, RX9, "depth", "I", RX11), (RX5, 35, RX9, "longest", "I", RX11), (RX11, 270, RX8, "chain", "LProbabilisticChecker$Chain;", RX11)]
def kK (D : va_G) (tys : List (ClassId × FieldType)) (U : State) : Prop := va_K D vwCl tys U ∧ (∀ q ∈ kNM, va_Nw (.methodLinkNest q.1 q.2.1 q.2.2.1 q.2.2.2) U) ∧ (∀ q ∈ kNF, va_Nw (.fieldLinkNest q.1 q.2.1 q.2.2.1 q.2.2.2.1 q.2.2.2.2.1 q.2.2.2.2.2) U) ∧ va_AO RX2 U ∧ va_AO RX5 U ∧ va_Nw (.castable "[B" "java/lang/Cloneable") U
theorem kK.warm {D : va_G} {tys : List (ClassId × FieldType)} {s U : State} (hW : s.WarmedH U.vm) (h : kK D tys s) : kK D tys U :=
  ⟨va_K.moved hW.alike h.1, fun q hq => va_Nw.warmM hW (h.2.1 q hq), fun q hq => va_Nw.warmF hW (h.2.2.1 q hq), va_AO.moved hW.alike h.2.2.2.1, va_AO.moved hW.alike h.2.2.2.2.1, va_Nw.warmC hW h.2.2.2.2.2⟩
theorem kK.same {D : va_G} {tys : List (ClassId × FieldType)} {s U : State} (hvm : s.vm = U.vm) (h : kK D tys s) : kK D tys U :=
  have ha : s.vm.Alike U.vm := hvm ▸ Vm.Alike.refl s.vm
  ⟨va_K.moved ha h.1, fun q hq => va_Nw.same rfl hvm (h.2.1 q hq), fun q hq => va_Nw.same rfl hvm (h.2.2.1 q hq), va_AO.moved ha h.2.2.2.1, va_AO.moved ha h.2.2.2.2.1, va_Nw.same rfl hvm h.2.2.2.2.2⟩
def kZ (A : Nat → Prop) (U : State) (H : Heap) : Prop := va_Z "java/lang/String" "COMPACT_STRINGS" "Z" (.int 1) A U H ∧ va_Zq "jdk/internal/util/Preconditions" "SIOOBE_FORMATTER" "Ljava/util/function/BiFunction;" A U H
theorem kZ.moved {A : Nat → Prop} {u U : State} {H : Heap} (hvm : u.vm.Alike U.vm) (h : kZ A u H) : kZ A U H := ⟨h.1.moved hvm, h.2.moved hvm⟩
theorem kZ.kept {A : Nat → Prop} {U : State} {H H1 : Heap} (h : kZ A U H) (hq : ∀ a : Nat, a < H.size → ¬ A a → H1[a]? = H[a]?) : kZ A U H1 := ⟨h.1.kept hq, h.2.kept hq⟩
theorem kZ.narrow {A B : Nat → Prop} {U : State} {H : Heap} (h : kZ A U H) (hAB : ∀ q, B q → A q) : kZ B U H := ⟨h.1.narrow hAB, h.2.narrow hAB⟩
/-- a method's environment -/
def kE (p : Program) (s : State) (m : MethodId) (meth : Method) (c : Code) (args : Array Value) (cc : ByteArray) (nL : Nat) (own nm : String) (Ts : List Cond) (ret : Option FieldType) (D : va_G) (tys : List (ClassId × FieldType)) : Prop :=
  p.tables.exec = Jvm.exec ∧ c.code = cc ∧ c.maxLocals = nL ∧ s.vm.findClass own = some m.cls ∧ (∀ w ∈ Ts, w.before args s = true) ∧ meth.sig.returnType = ret ∧ meth.locks = false ∧ meth.name = nm ∧ kK D tys s
/-- the picture at a point of a walk -/
def kG (D : va_G) (A : Nat → Prop) (s : State) (ws : va_W) (H : Heap) (locs : List Loc) : Prop :=
  va_P D vwCl ws H ∧ va_D A ws ∧ va_S A s.heap H locs ∧ kZ A s s.heap ∧ ∀ q : Nat, s.heap.size ≤ q → A q
/-- what a contract asks of the heap -/
def kPre (D : va_G) (tys : List (ClassId × FieldType)) (w : va_W) (sz : Nat) (U : State) : Prop :=
  U.heap.size = sz ∧ va_P D vwCl w U.heap ∧ kK D tys U ∧ va_D (fun _ => True) w ∧ kZ (va_A w sz) U U.heap
abbrev kB (D : va_G) (w : va_W) (sz : Nat) {S : Type} (wof : S → va_W) : S → State → Prop := fun u t => va_P D vwCl (wof u) t.heap ∧ va_D (va_A w sz) (wof u)
/-- a contract whose answer is an int (or a boolean, a char) -/
def kCi (l : Launch) (D : va_G) (tys : List (ClassId × FieldType)) (y : MethodName) (ws : List Cond) (rm : Room) (av : List Value) (w : va_W) {S : Type} (wof : S → va_W) (mc ms : Nat) (Q : Int32 → S → Prop) : Prop :=
  ∀ sz : Nat, Met l y ws rm (va_Pc av (kPre D tys w sz)) (va_Qi Q (kB D w sz wof) (va_A w sz)) mc ms (va_A w sz)
def kCl (l : Launch) (D : va_G) (tys : List (ClassId × FieldType)) (y : MethodName) (ws : List Cond) (rm : Room) (av : List Value) (w : va_W) {S : Type} (wof : S → va_W) (mc ms : Nat) (Q : Int64 → S → Prop) : Prop :=
  ∀ sz : Nat, Met l y ws rm (va_Pc av (kPre D tys w sz)) (va_Ql Q (kB D w sz wof) (va_A w sz)) mc ms (va_A w sz)
def kCv (l : Launch) (D : va_G) (tys : List (ClassId × FieldType)) (y : MethodName) (ws : List Cond) (rm : Room) (av : List Value) (w : va_W) {S : Type} (wof : S → va_W) (mc ms : Nat) (Q : S → Prop) : Prop :=
  ∀ sz : Nat, Met l y ws rm (va_Pc av (kPre D tys w sz)) (va_Qv Q (kB D w sz wof) (va_A w sz)) mc ms (va_A w sz)
theorem kPre.blind {D : va_G} {tys : List (ClassId × FieldType)} {w : va_W} {sz : Nat} {av : List Value} : FrameBlind (va_Pc av (kPre D tys w sz)) := by
  intro a U g mk h
  obtain ⟨h0, h1, h2, h3, h4, h5⟩ := h
  exact ⟨h0, h1, h2, kK.same (s := U) (U := U.calling g mk a) rfl h3, h4, h5.moved (u := U) (U := U.calling g mk a) (Vm.Alike.refl U.vm)⟩
/-- from a method's start to its first instruction -/
theorem k_begin {l : Launch} {D : va_G} {tys : List (ClassId × FieldType)} {y : MethodName} {ws ws' : List Cond} {rm : Room} {av : List Value} {w : va_W} {mc ms : Nat} {cc : ByteArray} {maxL : Nat} {ret : Option FieldType} {Qc : Array Value → State → Outcome → State → Prop} {sz : Nat}
    (hy : plainName y.cls = true) (hw : ws = Cond.code y cc maxL ret :: ws') (hlen : Nat.ble (lg_sl av).length maxL = true)
    (body : ∀ (p : Program) (e : Env) (s : State) (m : MethodId) (args : Array Value) (below : List Frame) (meth : Method) (c : Code), s.heap.size = sz → kE p s m meth c args cc maxL y.cls y.name ws ret D tys → kG D (va_A w s.heap.size) s w s.heap [] → ∀ ls : Array Slot, lv_has ls maxL (lv_args 0 av) → W p l e rm s m args below meth c s.heap [] 0 0 (MQ below Qc args s mc ms (va_A w s.heap.size)) (F0 m 0 ls [])) :
    Met l y ws rm (va_Pc av (kPre D tys w sz)) Qc mc ms (va_A w sz) := by
  refine Met.ofW (cc := cc) (maxL := maxL) (ret := ret) hy hw ?_
  intro p e s m args below meth c s₁ B hml hv
  obtain ⟨rfl, hsz, hP, hK, hD, hZ⟩ := hv
  have hl := lv_entry av (Nat.le_of_ble_eq_true hlen)
  have hE : kE p s m meth c av.toArray cc maxL y.cls y.name ws ret D tys := ⟨B.exec, B.bytes, hml, findClass_of_methodNamed B.named, atoms_spec (ws := ws) B.pre, B.returns, B.notSynchronized, (name_of_methodNamed B.named B.method).1, hK⟩
  subst hsz
  have hG : kG D (va_A w s.heap.size) s w s.heap [] := ⟨hP, hD.self, va_S.rf, hZ, fun q h => Or.inr h⟩
  rw [lg_entry_eq]
  exact body p e s m av.toArray below meth c rfl hE hG _ hl
section KB
variable {p : Program} {l : Launch} {e : Env} {R : Room} {s : State} {m : MethodId} {args : Array Value} {below : List Frame} {meth : Method} {c : Code} {H : Heap} {locs : List Loc} {cells slots : Nat} {Q : State → Prop} {cc : ByteArray} {nL : Nat} {own nm : String} {Ts : List Cond} {ret : Option FieldType} {D : va_G} {tys : List (ClassId × FieldType)} {A : Nat → Prop} {ws : va_W} {pc : Nat} {ls : Array Slot} {rest : List Value}
theorem kE.ex (E : kE p s m meth c args cc nL own nm Ts ret D tys) : p.tables.exec = Jvm.exec := E.1
theorem kE.by (E : kE p s m meth c args cc nL own nm Ts ret D tys) : c.code = cc := E.2.1
theorem kE.nl (E : kE p s m meth c args cc nL own nm Ts ret D tys) : c.maxLocals = nL := E.2.2.1
theorem kE.ow (E : kE p s m meth c args cc nL own nm Ts ret D tys) : s.vm.findClass own = some m.cls := E.2.2.2.1
theorem kE.ts (E : kE p s m meth c args cc nL own nm Ts ret D tys) : ∀ w ∈ Ts, w.before args s = true := E.2.2.2.2.1
theorem kE.re (E : kE p s m meth c args cc nL own nm Ts ret D tys) : meth.sig.returnType = ret := E.2.2.2.2.2.1
theorem kE.lo (E : kE p s m meth c args cc nL own nm Ts ret D tys) : meth.locks = false := E.2.2.2.2.2.2.1
theorem kE.na (E : kE p s m meth c args cc nL own nm Ts ret D tys) : meth.name = nm := E.2.2.2.2.2.2.2.1
theorem kE.kk (E : kE p s m meth c args cc nL own nm Ts ret D tys) : kK D tys s := E.2.2.2.2.2.2.2.2
theorem kE.k (E : kE p s m meth c args cc nL own nm Ts ret D tys) : va_K D vwCl tys s := E.2.2.2.2.2.2.2.2.1
theorem k_get (E : kE p s m meth c args cc nL own nm Ts ret D tys) (G : kG D A s ws H locs) {C : String} {T : u_T} {N : Nat} (hin : ∀ w ∈ u_ws C T N, w ∈ Ts) (q0 : Nat) {a ci : Nat} {fs : List Value} (he : ws[q0]? = some (a, .inr (ci, fs))) (hc : vwCl[ci]? = some (C, T, N)) (k : Nat) (hk : Nat.blt k N = true) {index : Nat} (hl : Cond.fieldLink own index (T k).1 (T k).2.1 (T k).2.2.1 ∈ Ts) {v : Value} (hv : fs[k]? = some v) (hdg : decode cc pc = .ok (.getfield index, 3))
    (kk : W p l e R s m args below meth c H locs cells slots Q (F0 m (pc + 3) ls (v :: rest))) : W p l e R s m args below meth c H locs cells slots Q (F0 m pc ls (.ref a :: rest)) :=
  va_get E.ex E.by E.ts hin E.ow E.k G.1 q0 he hc k (Nat.le_of_ble_eq_true hk) (E.ts _ hl) (fun _ h9 => h9) hv hdg kk
theorem k_getN (E : kE p s m meth c args cc nL own nm Ts ret D tys) (G : kG D A s ws H locs) {C : String} {T : u_T} {N : Nat} (hin : ∀ w ∈ u_ws C T N, w ∈ Ts) (q0 : Nat) {a ci : Nat} {fs : List Value} (he : ws[q0]? = some (a, .inr (ci, fs))) (hc : vwCl[ci]? = some (C, T, N)) (k : Nat) (hk : Nat.blt k N = true) {index : Nat} (hl : (own, index, (T k).1, (T k).2.1, (T k).2.2.1, RX11) ∈ kNF) {v : Value} (hv : fs[k]? = some v) (hdg : decode cc pc = .ok (.getfield index, 3))
    (kk : W p l e R s m args below meth c H locs cells slots Q (F0 m (pc + 3) ls (v :: rest))) : W p l e R s m args below meth c H locs cells slots Q (F0 m pc ls (.ref a :: rest)) :=
  va_getN E.ex E.by E.ts hin E.ow E.k G.1 q0 he hc k (Nat.le_of_ble_eq_true hk) (va_Nw.use rfl (E.kk.2.2.1 _ hl)) (fun _ h9 => h9) hv hdg kk
theorem k_put {S : Type} (wof : S → va_W) {σ : S} (E : kE p s m meth c args cc nL own nm Ts ret D tys) (G : kG D A s (wof σ) H locs) {C : String} {T : u_T} {N : Nat} (hin : ∀ w ∈ u_ws C T N, w ∈ Ts) {ty0 : Nat → FieldType} (hty : ∀ k, k < N → parseFieldDescriptor (T k).2.2.1 = some (ty0 k)) (hnm : ∀ a, a < N → ∀ b, b < N → a ≠ b → (T a).2.1 ≠ (T b).2.1) (q0 : Nat) {a ci : Nat} {fs : List Value} (he : (wof σ)[q0]? = some (a, .inr (ci, fs))) (hc : vwCl[ci]? = some (C, T, N)) (k : Nat) (hk : Nat.blt k N = true) {index : Nat} (hl : Cond.fieldLink own index (T k).1 (T k).2.1 (T k).2.2.1 ∈ Ts) (hfin : (T k).2.2.2 = false) {v : Value} (hn : narrow (ty0 k) v = v) (hfit : fits (ty0 k) v = true) (hlen : Nat.blt k fs.length = true) (σ' : S) (hσ : (wof σ).set q0 (a, .inr (ci, fs.set k v)) = wof σ') (hdg : decode cc pc = .ok (.putfield index, 3))
    (kk : ∀ σ1, σ1 = σ' → ∀ (H1 : Heap) (locs1 : List Loc), kG D A s (wof σ1) H1 locs1 → W p l e R s m args below meth c H1 locs1 cells slots Q (F0 m (pc + 3) ls rest)) : W p l e R s m args below meth c H locs cells slots Q (F0 m pc ls (v :: .ref a :: rest)) :=
  va_put E.ex E.by E.ts hin ty0 hty hnm E.ow E.k G.1 G.2.1 G.2.2.1 q0 he hc k (Nat.le_of_ble_eq_true hk) (E.ts _ hl) (fun _ h9 => h9) hfin (hty k (Nat.le_of_ble_eq_true hk)) hn hfit (Nat.le_of_ble_eq_true hlen) hdg (fun H1 locs1 hP hD hS => kk σ' rfl H1 locs1 ⟨hσ ▸ hP, hσ ▸ hD, hS, G.2.2.2.1, G.2.2.2.2⟩)
theorem k_iald (E : kE p s m meth c args cc nL own nm Ts ret D tys) (G : kG D A s ws H locs) (q0 : Nat) {a : Nat} {cA : ClassId} {n : Nat} {f : Nat → Int32} (ha : ws[q0]? = some (a, .inl (cA, n, .inl f))) (t0 : Nat) (ht : tys[t0]? = some (cA, .int)) {i : Int32} (hin : vp_in i n) (hdg : decode cc pc = .ok (.iaload, 1))
    (kk : W p l e R s m args below meth c H locs cells slots Q (F0 m (pc + 1) ls (.int (f i.toNatClampNeg) :: rest))) : W p l e R s m args below meth c H locs cells slots Q (F0 m pc ls (.int i :: .ref a :: rest)) :=
  va_iald E.ex E.by E.k G.1 q0 t0 ha ht hin hdg kk
theorem k_lald (E : kE p s m meth c args cc nL own nm Ts ret D tys) (G : kG D A s ws H locs) (q0 : Nat) {a : Nat} {cA : ClassId} {n : Nat} {f : Nat → Int64} (ha : ws[q0]? = some (a, .inl (cA, n, .inr (.inl f)))) (t0 : Nat) (ht : tys[t0]? = some (cA, .long)) {i : Int32} (hin : vp_in i n) (hdg : decode cc pc = .ok (.laload, 1))
    (kk : W p l e R s m args below meth c H locs cells slots Q (F0 m (pc + 1) ls (.long (f i.toNatClampNeg) :: rest))) : W p l e R s m args below meth c H locs cells slots Q (F0 m pc ls (.int i :: .ref a :: rest)) :=
  va_lald E.ex E.by E.k G.1 q0 t0 ha ht hin hdg kk
theorem k_iast {S : Type} (wof : S → va_W) {σ : S} (E : kE p s m meth c args cc nL own nm Ts ret D tys) (G : kG D A s (wof σ) H locs) (q0 : Nat) {a : Nat} {cA : ClassId} {n : Nat} {f : Nat → Int32} (ha : (wof σ)[q0]? = some (a, .inl (cA, n, .inl f))) (t0 : Nat) (ht : tys[t0]? = some (cA, .int)) {i x : Int32} (hin : vp_in i n) (σ' : S) (hσ : (wof σ).set q0 (a, .inl (cA, n, .inl (upd f i.toNatClampNeg x))) = wof σ') (hdg : decode cc pc = .ok (.iastore, 1))
    (kk : ∀ σ1, σ1 = σ' → ∀ (H1 : Heap) (locs1 : List Loc), kG D A s (wof σ1) H1 locs1 → W p l e R s m args below meth c H1 locs1 cells slots Q (F0 m (pc + 1) ls rest)) : W p l e R s m args below meth c H locs cells slots Q (F0 m pc ls (.int x :: .int i :: .ref a :: rest)) :=
  va_iast E.ex E.by E.k G.1 G.2.1 G.2.2.1 q0 t0 ha ht hin hdg (fun H1 locs1 hP hD hS => kk σ' rfl H1 locs1 ⟨hσ ▸ hP, hσ ▸ hD, hS, G.2.2.2.1, G.2.2.2.2⟩)
theorem k_last {S : Type} (wof : S → va_W) {σ : S} (E : kE p s m meth c args cc nL own nm Ts ret D tys) (G : kG D A s (wof σ) H locs) (q0 : Nat) {a : Nat} {cA : ClassId} {n : Nat} {f : Nat → Int64} (ha : (wof σ)[q0]? = some (a, .inl (cA, n, .inr (.inl f)))) (t0 : Nat) (ht : tys[t0]? = some (cA, .long)) {i : Int32} {x : Int64} (hin : vp_in i n) (σ' : S) (hσ : (wof σ).set q0 (a, .inl (cA, n, .inr (.inl (vp_updL f i.toNatClampNeg x)))) = wof σ') (hdg : decode cc pc = .ok (.lastore, 1))
    (kk : ∀ σ1, σ1 = σ' → ∀ (H1 : Heap) (locs1 : List Loc), kG D A s (wof σ1) H1 locs1 → W p l e R s m args below meth c H1 locs1 cells slots Q (F0 m (pc + 1) ls rest)) : W p l e R s m args below meth c H locs cells slots Q (F0 m pc ls (.long x :: .int i :: .ref a :: rest)) :=
  va_last E.ex E.by E.k G.1 G.2.1 G.2.2.1 q0 t0 ha ht hin hdg (fun H1 locs1 hP hD hS => kk σ' rfl H1 locs1 ⟨hσ ▸ hP, hσ ▸ hD, hS, G.2.2.2.1, G.2.2.2.2⟩)
theorem k_ret {S : Type} {wof : S → va_W} {w : va_W} {P : Int32 → S → Prop} {ty : FieldType} {v : Int32} {u : S} (E : kE p s m meth c args cc nL own nm Ts (some ty) D tys) (G : kG D (va_A w s.heap.size) s (wof u) H locs) (hn : narrow ty (.int v) = .int v) (hq : P v u) {mc ms : Nat} (h1 : cells ≤ mc) (h2 : slots ≤ ms) (hdg : decode cc pc = .ok (.ireturn, 1)) :
    W p l e R s m args below meth c H locs cells slots (MQ below (va_Qi P (kB D w s.heap.size wof) (va_A w s.heap.size)) args s mc ms (va_A w s.heap.size)) (F0 m pc ls [.int v]) :=
  W.widen h1 h2 (W.zret E.ex E.by E.re hn (fun t ht hW => ⟨⟨v, u, rfl, hq, by rw [ht]; exact G.1, G.2.1⟩, G.2.2.1.F ht⟩) G.2.2.1.2.2 hdg E.lo)
theorem k_retl {S : Type} {wof : S → va_W} {w : va_W} {P : Int64 → S → Prop} {v : Int64} {u : S} (E : kE p s m meth c args cc nL own nm Ts (some .long) D tys) (G : kG D (va_A w s.heap.size) s (wof u) H locs) (hq : P v u) {mc ms : Nat} (h1 : cells ≤ mc) (h2 : slots ≤ ms) (hdg : decode cc pc = .ok (.lreturn, 1)) :
    W p l e R s m args below meth c H locs cells slots (MQ below (va_Ql P (kB D w s.heap.size wof) (va_A w s.heap.size)) args s mc ms (va_A w s.heap.size)) (F0 m pc ls [.long v]) :=
  W.widen h1 h2 (W.lret E.ex E.by E.re (fun t ht hW => ⟨⟨v, u, rfl, hq, by rw [ht]; exact G.1, G.2.1⟩, G.2.2.1.F ht⟩) G.2.2.1.2.2 hdg E.lo)
theorem k_retv {S : Type} {wof : S → va_W} {w : va_W} {P : S → Prop} {u : S} (E : kE p s m meth c args cc nL own nm Ts none D tys) (G : kG D (va_A w s.heap.size) s (wof u) H locs) (hq : P u) {mc ms : Nat} (h1 : cells ≤ mc) (h2 : slots ≤ ms) (hdg : decode cc pc = .ok (.return_, 1)) :
    W p l e R s m args below meth c H locs cells slots (MQ below (va_Qv P (kB D w s.heap.size wof) (va_A w s.heap.size)) args s mc ms (va_A w s.heap.size)) (F0 m pc ls []) :=
  W.widen h1 h2 (W.vret E.ex E.by E.re (fun t ht hW => ⟨⟨u, rfl, hq, by rw [ht]; exact G.1, G.2.1⟩, G.2.2.1.F ht⟩) G.2.2.1.2.2 hdg E.lo)
/-- the callee's cells among the caller's -/
theorem kG.sub {X w Z : va_W} (G : kG D A s (X ++ (w ++ Z)) H locs) : va_P D vwCl w H ∧ va_D A w ∧ ∀ q, va_A w H.size q → A q := by
  have hp : ∀ (k : Nat) (q : Nat × va_E), w[k]? = some q → (X ++ (w ++ Z))[X.length + k]? = some q := by
    intro k q h
    have hk : k < w.length := (List.getElem?_eq_some_iff.mp h).1
    rw [List.getElem?_append_right (by omega), List.getElem?_append_left (by omega)]
    rw [← h]; congr 1; omega
  refine ⟨fun k q h => G.1 _ q (hp k q h), ⟨fun i j x y hx hy hxy => ?_, fun k q h => G.2.1.2 _ q (hp k q h)⟩, fun q h => ?_⟩
  · have := G.2.1.1 _ _ x y (hp i x hx) (hp j y hy) hxy
    omega
  · rcases h with ⟨k, e9, h⟩ | h
    · exact G.2.1.2 _ (q, e9) (hp k _ h)
    · exact G.2.2.2.2 q (Nat.le_trans G.2.2.1.1 h)
theorem kG.ready {X w Z : va_W} {av : List Value} (E : kE p s m meth c args cc nL own nm Ts ret D tys) (G : kG D A s (X ++ (w ++ Z)) H locs) (U : State) (hU : U.heap = H) (hW : s.WarmedH U.vm) : va_Pc av (kPre D tys w H.size) av.toArray U := by
  obtain ⟨h1, h2, h3⟩ := kG.sub G
  refine ⟨rfl, by rw [hU], by rw [hU]; exact h1, E.kk.warm hW, h2.weaken (fun _ _ _ _ => trivial), ?_⟩
  rw [hU]
  exact ((G.2.2.2.1.kept (H1 := H) (fun q h4 h5 => G.2.2.1.2.1 q h4 h5)).moved hW.alike).narrow h3
/-- behind a call: the caller's other cells, and the callee's -/
theorem kG.join {X w Z w1 : va_W} {H1 : Heap} {locs1 : List Loc} (G : kG D A s (X ++ (w ++ Z)) H locs) (hk : ∀ q : Nat, q < H.size → ¬ va_A w H.size q → H1[q]? = H[q]?) (hP1 : va_P D vwCl w1 H1) (hD1 : va_D (va_A w H.size) w1) (hS : va_S A s.heap H1 locs1) : kG D A s (X ++ (w1 ++ Z)) H1 locs1 := by
  obtain ⟨-, -, hF⟩ := kG.sub G
  have hX : ∀ (k : Nat) (q : Nat × va_E), X[k]? = some q → (X ++ (w ++ Z))[k]? = some q := by
    intro k q h
    have hk : k < X.length := (List.getElem?_eq_some_iff.mp h).1
    rw [List.getElem?_append_left hk]; exact h
  have hw : ∀ (k : Nat) (q : Nat × va_E), w[k]? = some q → (X ++ (w ++ Z))[X.length + k]? = some q := by
    intro k q h
    have hk : k < w.length := (List.getElem?_eq_some_iff.mp h).1
    rw [List.getElem?_append_right (by omega), List.getElem?_append_left (by omega)]
    rw [← h]; congr 1; omega
  have hZ : ∀ (k : Nat) (q : Nat × va_E), Z[k]? = some q → (X ++ (w ++ Z))[X.length + (w.length + k)]? = some q := by
    intro k q h
    rw [List.getElem?_append_right (by omega), List.getElem?_append_right (by omega)]
    rw [← h]; congr 1; omega
  have apart : ∀ (i : Nat) (q : Nat × va_E), (X ++ (w ++ Z))[i]? = some q → (i < X.length ∨ X.length + w.length ≤ i) → q.1 < H.size ∧ ¬ va_A w H.size q.1 := by
    intro i q hi ho
    have hl := (G.1 i q hi).lt
    refine ⟨hl, fun h => ?_⟩
    rcases h with ⟨k2, e9, h⟩ | h
    · have h4 := hw k2 _ h
      have hij := G.2.1.1 _ _ q (q.1, e9) hi h4 rfl
      have hk : k2 < w.length := (List.getElem?_eq_some_iff.mp h).1
      omega
    · omega
  have aX : ∀ (k : Nat) (q : Nat × va_E), X[k]? = some q → q.1 < H.size ∧ ¬ va_A w H.size q.1 := fun k q h => apart k q (hX k q h) (Or.inl (List.getElem?_eq_some_iff.mp h).1)
  have aZ : ∀ (k : Nat) (q : Nat × va_E), Z[k]? = some q → q.1 < H.size ∧ ¬ va_A w H.size q.1 := fun k q h => apart _ q (hZ k q h) (Or.inr (by omega))
  refine ⟨va_P.app (fun k q h => (G.1 _ q (hX k q h)).kept (hk q.1 (aX k q h).1 (aX k q h).2)) (va_P.app hP1 (fun k q h => (G.1 _ q (hZ k q h)).kept (hk q.1 (aZ k q h).1 (aZ k q h).2))), ?_, hS, G.2.2.2.1, G.2.2.2.2⟩
  refine va_D.app ⟨fun i j x y hx hy hxy => G.2.1.1 _ _ x y (hX i x hx) (hX j y hy) hxy, fun k q h => G.2.1.2 _ q (hX k q h)⟩ (va_D.app (hD1.weaken (fun k q _ h => hF q.1 h)) ⟨fun i j x y hx hy hxy => ?_, fun k q h => G.2.1.2 _ q (hZ k q h)⟩ ?_) ?_
  · have := G.2.1.1 _ _ x y (hZ i x hx) (hZ j y hy) hxy
    omega
  · intro i j x y hx hy hxy
    exact (aZ j y hy).2 (by rw [← hxy]; exact hD1.2 i x hx)
  · intro i j x y hx hy hxy
    rcases Nat.lt_or_ge j w1.length with h | h
    · rw [List.getElem?_append_left h] at hy
      exact (aX i x hx).2 (by rw [hxy]; exact hD1.2 j y hy)
    · rw [List.getElem?_append_right h] at hy
      have h1 := hX i x hx
      have h2 := hZ _ y hy
      have h3 := G.2.1.1 _ _ x y h1 h2 hxy
      have h4 := (List.getElem?_eq_some_iff.mp hx).1
      omega
end KB
