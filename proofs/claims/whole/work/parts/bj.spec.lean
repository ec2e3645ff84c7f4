/-! ===== the methods that evaluate: what they answer; the class ===== -/
abbrev FN (A : AB) : Nat := A.2.2.2.1.length
def fmT (A : AB) (j : Nat) : TR 6 := (A.2.2.2.1.getD j ([], trU 6)).2
noncomputable def o2 {α : Type} (A : AB) (x1 x2 : Int32) (eb er : α) (f : (Nat → Bool) → (Nat → Bool) → α) : α := o1 (inx x1 (FN A)) eb fun j => o1 (inx x2 (FN A)) eb fun k => if (rfd A.1 (lng 6 (fmT A j)) || rfd A.1 (lng 6 (fmT A k))) = true then er else f (sm A.1 6 (fmT A j)) (sm A.1 6 (fmT A k))
def oa {α : Type} (A : AB) (x2 x3 : Int32) (e : α) (f : Nat → Nat → α) : α := o1 (inx x2 (cn A.1)) e fun i => o1 (inx x3 2) e fun p => f i p
section OO
variable {α : Type} {A : AB} {x1 x2 x3 : Int32} {eb er e : α} {f : (Nat → Bool) → (Nat → Bool) → α} {g : Nat → Nat → α}
theorem o2_1 (h : inx x1 (FN A) = none) : o2 A x1 x2 eb er f = eb := by unfold o2; rw [o1_n h]
theorem o2_2 (h : inx x2 (FN A) = none) : o2 A x1 x2 eb er f = eb := by
  unfold o2
  cases h1 : inx x1 (FN A) with
  | none => rfl
  | some j => rw [o1_s rfl, o1_n h]
theorem o2_3 {j k : Nat} (h1 : inx x1 (FN A) = some j) (h2 : inx x2 (FN A) = some k) (hr : (rfd A.1 (lng 6 (fmT A j)) || rfd A.1 (lng 6 (fmT A k))) = true) : o2 A x1 x2 eb er f = er := by unfold o2; rw [o1_s h1, o1_s h2, if_pos hr]
theorem o2_4 {j k : Nat} (h1 : inx x1 (FN A) = some j) (h2 : inx x2 (FN A) = some k) (hr : (rfd A.1 (lng 6 (fmT A j)) || rfd A.1 (lng 6 (fmT A k))) = false) : o2 A x1 x2 eb er f = f (sm A.1 6 (fmT A j)) (sm A.1 6 (fmT A k)) := by unfold o2; rw [o1_s h1, o1_s h2, if_neg (by rw [hr]; decide)]
theorem oa_1 (h : inx x2 (cn A.1) = none) : oa A x2 x3 e g = e := by unfold oa; rw [o1_n h]
theorem oa_2 (h : inx x3 2 = none) : oa A x2 x3 e g = e := by
  unfold oa
  cases h1 : inx x2 (cn A.1) with
  | none => rfl
  | some j => rw [o1_s rfl, o1_n h]
theorem oa_3 {i p : Nat} (h1 : inx x2 (cn A.1) = some i) (h2 : inx x3 2 = some p) : oa A x2 x3 e g = g i p := by unfold oa; rw [o1_s h1, o1_s h2]
theorem inx_eq {x : Int32} {n j : Nat} (hn : n < 2 ^ 31) (h : inx x n = some j) : x = nI j ∧ j < n := by
  rcases inx_c x hn with ⟨e, _⟩ | ⟨i, hi, hx, e⟩
  · rw [h] at e; cases e
  · rw [h] at e; cases e; exact ⟨hx, hi⟩
theorem or_ff {a b : Bool} (h : (a || b) = false) : a = false ∧ b = false := by revert h; revert a b; decide
theorem e64_1 : (-1 : Int32).toInt64 = -1 := by decide
theorem e64_4 : (-4 : Int32).toInt64 = -4 := by decide
end OO
section SPE
variable (A : AB) (p1 p2 p3 p4 p5 : Int32)
noncomputable def f_holdsIn : Int32 := o2 A p1 p1 (-1) (-4) fun F _ => nI (mk F)
noncomputable def f_holds : Int32 := o1 (inx p2 (cn A.1)) (-1) fun i => o2 A p1 p1 (-1) (-4) fun F _ => bI (F i)
noncomputable def f_next : Int64 := oa A p2 p3 (-1) fun i p => o2 A p1 p1 (-1) (-4) fun F _ => pv (stw A.1 i F) (cdiv A.1 i) p
noncomputable def f_until : Int64 := oa A p3 p4 (-1) fun i p => o2 A p1 p2 (-1) (-4) fun F G => pv (ut A.1 F G i) (ub A.1 F G) p
noncomputable def f_within : Int64 := oa A p4 p5 (-1) fun i p => o1 (inx p3 7) (-1) fun m => o2 A p1 p2 (-1) (-4) fun F G => if rfd A.1 m = true then -4 else pv (wcn A.1 F G m i) (lcmN A.1 (cn A.1) ^ m) p
noncomputable def f_never : Int32 := o2 A p1 p2 (-1) (-4) fun F G => nI (mk (nev A.1 F G))
noncomputable def f_surely : Int32 := o2 A p1 p2 (-1) (-4) fun F G => nI (mk (sur A.1 F G))
noncomputable def f_steady : Int64 := oa A p2 p3 (-1) fun i p => o2 A p1 p1 (-1) (-4) fun F _ => pv (VS A.1 F i 8) (WS A.1 F) p
noncomputable def f_share : Int64 := oa A p1 p2 (-1) fun i p => pv (VS A.1 (fun j => j == i) i 8) (WS A.1 (fun j => j == i)) p
noncomputable def f_expected : Int64 := oa A p2 p3 (-1) fun i p => o2 A p1 p1 (-1) (-4) fun F _ => if sur A.1 (allS A.1) F i = true then pv (eT A.1 F i) (eB A.1 F i) p else -5
noncomputable def f_bestPath : Int32 := o1 (inx p3 (cn A.1)) (-1) fun i => if p4 < -1 then -1 else o2 A p1 p2 (-1) (-4) fun F G => if (bst A.1 (uB2 F G) G).1 i = 0 then -2 else if p4 < 0 then nI ((bst A.1 (uB2 F G) G).1 i) else o1 (inx p4 ((bst A.1 (uB2 F G) G).1 i)) (-2) fun m => nI (pth A.1 (uB2 F G) (bst A.1 (uB2 F G) G) i m)
noncomputable def f_bestProduct : Int64 := oa A p3 p4 (-1) fun i p => o2 A p1 p2 (-1) (-4) fun F G => if (bst A.1 (uB2 F G) G).1 i = 0 then -2 else pv ((bst A.1 (uB2 F G) G).2.1 i) ((bst A.1 (uB2 F G) G).2.2 i) p
end SPE
theorem pv_red {a b c d p : Nat} (hb : 0 < b) (hd : 0 < d) (h : a * d = c * b) : pv a b p = pv c d p := by
  obtain ⟨h1, h2⟩ := red_eq hb hd h
  unfold pv
  rw [h1, h2]
theorem bst_pv {c : CH} {U G : Nat → Bool} {v : BV} (hB : BI c U G v) (hC : CvA c U G v) {s p : Nat} (hs : s < 8) : v.1 s = (bst c U G).1 s ∧ (0 < v.1 s → pv (v.2.1 s) (v.2.2 s) p = pv ((bst c U G).2.1 s) ((bst c U G).2.2 s) p) := by
  obtain ⟨h1, h2⟩ := bst_ok hB hC
  obtain ⟨k1, k2⟩ := best_one hB hC h1 h2 hs
  exact ⟨k1, fun h => pv_red (hB s hs).2.2.1 (h1 s hs).2.2.1 (k2 h)⟩
theorem bst_pth {c : CH} {U G : Nat → Bool} {v : BV} (hB : BI c U G v) (hC : CvA c U G v) {s : Nat} (hs : s < 8) (i : Nat) : pth c U v s i = pth c U (bst c U G) s i := by
  obtain ⟨h1, h2⟩ := bst_ok hB hC
  exact pth_same hB hC h1 h2 hs i
section CEV
variable {kc : Nat → ClassId} {A : AB} {μ ρ κ η lu lu2 σ ε π σ2 ε2 π2 : US} {fo : Nat → Option Nat} {kp : Nat → US} {β : SBT} {pl : va_W} {p1 p2 p3 p4 p5 : Int32}
theorem q11_errorOf (ok : okA A) (C : CSt kc A μ fo κ ρ η kp β pl) {r : Int32} {Q : Int32 → Prop} (h0 : r = 0 → Q (-1)) (h1 : inx p1 (FN A) = none → Q (-1)) (h2 : inx p2 (FN A) = none → Q (-1)) (h3 : ¬ r = 0 → ∀ j k, inx p1 (FN A) = some j → inx p2 (FN A) = some k → (rfd A.1 (lng 6 (fmT A j)) || rfd A.1 (lng 6 (fmT A k))) = true → Q (-4)) (h4 : ¬ r = 0 → ∀ j k, inx p1 (FN A) = some j → inx p2 (FN A) = some k → (rfd A.1 (lng 6 (fmT A j)) || rfd A.1 (lng 6 (fmT A k))) = false → Q 0) : wp_X11_errorOf kc p1 p2 r μ fo κ ρ η kp lu σ ε π β pl Q := by
  unfold wp_X11_errorOf
  refine q11_find ok C (fun e => ?_) (fun j F a sa o hj hx e eF m1 m2 m3 okF _ => ?_)
  · refine q11_find ok C (fun _ => ?_) (fun _ _ _ _ _ _ _ _ _ _ _ _ _ _ => ?_)
    · exact ⟨fun _ => h1 e, fun a ha => (by cases ha)⟩
    · exact ⟨fun _ => h1 e, fun a ha => (by cases ha)⟩
  · refine q11_find ok C (fun e2 => ?_) (fun j2 F2 a2 sa2 o2' hj2 hx2 e2 eF2 n1 n2 n3 okF2 _ => ?_)
    · exact ⟨fun hc => (by cases hc), fun a3 _ => ⟨fun _ => h2 e2, fun a ha => (by cases ha)⟩⟩
    · refine ⟨fun hc => (by cases hc), fun a3 ha3 => ⟨fun hc => (by cases hc), fun a4 ha4 => ⟨fun hr => ?_, fun hr => h0 hr⟩⟩⟩
      cases ha3
      cases ha4
      refine ⟨.ref sa, o, dpt 6 F.2, lng 6 F.2, m1, m3.nf, fun r6 e6 => ⟨.ref sa2, o2', dpt 6 F2.2, lng 6 F2.2, n1, n3.nf, fun r8 e8 => ?_⟩⟩
      subst e6
      subst e8
      have l1 := lng_le 6 F.2 okF
      have l2 := lng_le 6 F2.2 okF2
      rw [ifmax (by omega) (by omega)]
      refine q8_refuses C.1 ok.1 (by omega) ?_
      rw [rfd_max ok.1]
      have t1 : F.2 = fmT A j := by rw [← eF]; rfl
      have t2 : F2.2 = fmT A j2 := by rw [← eF2]; rfl
      rw [t1, t2]
      cases hv : (rfd A.1 (lng 6 (fmT A j)) || rfd A.1 (lng 6 (fmT A j2))) with
      | false => exact ⟨fun _ => h4 hr j j2 e e2 hv, fun hc => absurd rfl hc⟩
      | true => exact ⟨fun hc => absurd hc (show ¬ (1 : Int32) = 0 by decide), fun _ => h3 hr j j2 e e2 hv⟩
theorem q11_st (ok : okA A) (C : CSt kc A μ fo κ ρ η kp β pl) {j : Nat} (h : inx p1 (FN A) = some j) (hr : rfd A.1 (lng 6 (fmT A j)) = false) {Q : Int32 → US × US → Prop} (hQ : ∀ u, Q (nI (mk (sm A.1 6 (fmT A j)))) u) : wp_X11_rootOf kc p1 μ fo κ ρ η kp lu σ2 ε2 π2 β pl (fun r => wp_X11_statesOf 8 r 0 σ ε κ pl Q) := by
  unfold wp_X11_rootOf
  refine q11_find ok C (fun e => ?_) (fun j2 F a sa o hj hx e eF m1 m2 m3 okF _ => ⟨fun hc => (by cases hc), fun a2 ha => ?_⟩)
  · exact absurd (e.symm.trans h) (by simp)
  · cases ha
    have ej : j2 = j := Option.some.inj (e.symm.trans h)
    subst ej
    have t1 : F.2 = fmT A j2 := by rw [← eF]; rfl
    rw [t1] at m3 okF
    refine ⟨.ref sa, o, m1, ?_⟩
    exact q4_statesOf C.1 ok.1 6 (fmT A j2) o 8 0 σ ε Q (by omega) (by omega) m3 okF hr (fun s' e' => hQ _)
theorem q11_e2 (ok : okA A) (C : CSt kc A μ fo κ ρ η kp β pl) {X : Prop} {E : Int32 → Prop} {f : (Nat → Bool) → (Nat → Bool) → Int32} (hE : ∀ z, z = o2 A p1 p2 (-1) (-4) f → E z) (hX : ∀ j k, inx p1 (FN A) = some j → inx p2 (FN A) = some k → rfd A.1 (lng 6 (fmT A j)) = false → rfd A.1 (lng 6 (fmT A k)) = false → o2 A p1 p2 (-1) (-4) f = f (sm A.1 6 (fmT A j)) (sm A.1 6 (fmT A k)) → X) : wp_X11_errorOf kc p1 p2 1 μ fo κ ρ η kp lu σ ε π β pl (fun r2 => (r2 = 0 → X) ∧ (¬ r2 = 0 → E r2)) := by
  refine q11_errorOf ok C (fun z => absurd z (by decide)) (fun e => ?_) (fun e => ?_) (fun _ j k e1 e2 hr => ?_) (fun _ j k e1 e2 hr => ?_)
  · exact no_ (by decide) (hE _ (o2_1 e).symm)
  · exact no_ (by decide) (hE _ (o2_2 e).symm)
  · exact no_ (by decide) (hE _ (o2_3 e1 e2 hr).symm)
  · exact yes_ rfl (hX j k e1 e2 (or_ff hr).1 (or_ff hr).2 (o2_4 e1 e2 hr))
theorem q11_ae (ok : okA A) (C : CSt kc A μ fo κ ρ η kp β pl) {X : Prop} {E : Int64 → Prop} {f : Nat → Nat → (Nat → Bool) → (Nat → Bool) → Int64} (hE : ∀ z, z = oa A p3 p4 (-1) (fun i p => o2 A p1 p2 (-1) (-4) (f i p)) → E z) (hX : ∀ i p j k, i < cn A.1 → p < 2 → p3 = nI i → p4 = nI p → inx p1 (FN A) = some j → inx p2 (FN A) = some k → rfd A.1 (lng 6 (fmT A j)) = false → rfd A.1 (lng 6 (fmT A k)) = false → oa A p3 p4 (-1) (fun i p => o2 A p1 p2 (-1) (-4) (f i p)) = f i p (sm A.1 6 (fmT A j)) (sm A.1 6 (fmT A k)) → X) : wp_X11_asksValue kc p3 p4 μ fo κ ρ η kp lu σ ε π β pl (fun r1 => wp_X11_errorOf kc p1 p2 r1 μ fo κ ρ η kp lu2 σ2 ε2 π2 β pl (fun r2 => (r2 = 0 → X) ∧ (¬ r2 = 0 → E r2.toInt64))) := by
  have f0 : E (-1) → wp_X11_errorOf kc p1 p2 0 μ fo κ ρ η kp lu2 σ2 ε2 π2 β pl (fun r2 => (r2 = 0 → X) ∧ (¬ r2 = 0 → E r2.toInt64)) := fun h => by
    have h : (fun r2 : Int32 => (r2 = 0 → X) ∧ (¬ r2 = 0 → E r2.toInt64)) (-1) := no_ (by decide) (by rw [e64_1]; exact h)
    exact q11_errorOf ok C (fun _ => h) (fun _ => h) (fun _ => h) (fun z => absurd rfl z) (fun z => absurd rfl z)
  refine q11_asks ok C (fun e => f0 (hE _ (oa_1 e).symm)) (fun e => f0 (hE _ (oa_2 e).symm)) (fun i p hi hp hx hx2 e e2 => ?_)
  have ev := oa_3 (A := A) (e := (-1 : Int64)) (g := fun i p => o2 A p1 p2 (-1) (-4) (f i p)) e e2
  refine q11_errorOf ok C (fun z => absurd z (by decide)) (fun e3 => ?_) (fun e3 => ?_) (fun _ j k e3 e4 hr => ?_) (fun _ j k e3 e4 hr => ?_)
  · exact no_ (by decide) (by rw [e64_1]; exact hE _ (by rw [ev]; exact (o2_1 e3).symm))
  · exact no_ (by decide) (by rw [e64_1]; exact hE _ (by rw [ev]; exact (o2_2 e3).symm))
  · exact no_ (by decide) (by rw [e64_4]; exact hE _ (by rw [ev]; exact (o2_3 e3 e4 hr).symm))
  · exact yes_ rfl (hX i p j k hi hp hx hx2 e3 e4 (or_ff hr).1 (or_ff hr).2 (by rw [ev]; exact o2_4 e3 e4 hr))
theorem q11_holdsIn (ok : okA A) (C : CSt kc A μ fo κ ρ η kp β pl) {Q : Int32 → US × US → Prop} (hQ : ∀ u, Q (f_holdsIn A p1) u) : wp_X11_holdsIn kc p1 μ fo κ ρ η kp lu σ ε π β pl Q := by
  unfold wp_X11_holdsIn
  unfold f_holdsIn at hQ
  refine q11_e2 (f := fun F _ => nI (mk F)) (E := fun z => Q z (σ, ε)) ok C (fun z hz => hz ▸ hQ _) (fun j k e1 e2 r1 r2 ev => ?_)
  rw [ev] at hQ
  exact q11_st ok C e1 r1 (fun u => hQ _)
theorem q11_holds (ok : okA A) (C : CSt kc A μ fo κ ρ η kp β pl) {Q : Int32 → US × US → Prop} (hQ : ∀ u, Q (f_holds A p1 p2) u) : wp_X11_holds kc p1 p2 μ fo κ ρ η kp lu σ ε π β pl Q := by
  unfold wp_X11_holds
  unfold f_holds at hQ
  have hn := ok.1.1
  refine q2_hasC C.1 hn p2 (fun e => ?_) (fun i hi hx e => ?_)
  · rw [o1_n e] at hQ
    have h : (fun r2 : Int32 => (r2 = 0 → wp_X11_rootOf kc p1 μ fo κ ρ η kp lu σ ε π β pl (fun (r3 : Option Nat) => wp_X11_statesOf 8 r3 0 σ ε κ pl (fun (r4 : Int32) (u5 : US × US) => wp_X11_contains r4 p2 (fun (r6 : Int32) => (r6 = 0 → Q 0 (u5.1, u5.2)) ∧ (¬ r6 = 0 → Q 1 (u5.1, u5.2)))))) ∧ (¬ r2 = 0 → Q r2 (σ, ε))) (-1) := no_ (by decide) (hQ _)
    exact q11_errorOf ok C (fun _ => h) (fun _ => h) (fun _ => h) (fun z => absurd rfl z) (fun z => absurd rfl z)
  · rw [o1_s e] at hQ
    refine q11_e2 (f := fun F _ => bI (F i)) (E := fun z => Q z (σ, ε)) ok C (fun z hz => hz ▸ hQ _) (fun j k e1 e2 r1 r2 ev => ?_)
    rw [ev] at hQ
    refine q11_st ok C e1 r1 (fun u => ?_)
    subst hx
    refine q_contains (by omega) ?_
    cases hv : sm A.1 6 (fmT A j) i with
    | false => rw [hv] at hQ; exact yes_ rfl (hQ _)
    | true => rw [hv] at hQ; exact no_ (show ¬ (1 : Int32) = 0 by decide) (hQ _)
theorem q11_next (ok : okA A) (C : CSt kc A μ fo κ ρ η kp β pl) {Q : Int64 → US × US → Prop} (hQ : ∀ u, Q (f_next A p1 p2 p3) u) : wp_X11_next kc p1 p2 p3 μ fo κ ρ η kp lu σ ε π β pl Q := by
  unfold wp_X11_next
  unfold f_next at hQ
  have hn := ok.1.1
  refine q11_ae (f := fun i p F _ => pv (stw A.1 i F) (cdiv A.1 i) p) (E := fun z => Q z (σ, ε)) ok C (fun z hz => hz ▸ hQ _) (fun i p j k hi hp hx hx2 e1 e2 r1 r2 ev => ?_)
  rw [ev] at hQ
  refine q11_st ok C e1 r1 (fun u => ?_)
  subst hx; subst hx2
  exact q8_solveStep C.1 ok.1 (fun s4 h4 => q8_part h4 (by omega) hp (hQ _))
theorem q11_until (ok : okA A) (C : CSt kc A μ fo κ ρ η kp β pl) {Q : Int64 → US × US → Prop} (hQ : ∀ u, Q (f_until A p1 p2 p3 p4) u) : wp_X11_until kc p1 p2 p3 p4 μ fo κ ρ η kp lu σ ε π β pl Q := by
  unfold wp_X11_until
  unfold f_until at hQ
  have hn := ok.1.1
  refine q11_ae (f := fun i p F G => pv (ut A.1 F G i) (ub A.1 F G) p) (E := fun z => Q z (σ, ε)) ok C (fun z hz => hz ▸ hQ _) (fun i p j k hi hp hx hx2 e1 e2 r1 r2 ev => ?_)
  rw [ev] at hQ
  refine q11_st ok C e1 r1 (fun u => q11_st ok C e2 r2 (fun u2 => ?_))
  subst hx; subst hx2
  exact q8_solveUntil C.1 ok.1 (sm_lt A.1 6 _) (fun s4 e4 h4 => q8_part h4 (by omega) hp (hQ _))
theorem q11_never (ok : okA A) (C : CSt kc A μ fo κ ρ η kp β pl) {Q : Int32 → US × US → Prop} (hQ : ∀ u, Q (f_never A p1 p2) u) : wp_X11_never kc p1 p2 μ fo κ ρ η kp lu σ ε π β pl Q := by
  unfold wp_X11_never
  unfold f_never at hQ
  refine q11_e2 (f := fun F G => nI (mk (nev A.1 F G))) (E := fun z => Q z (σ, ε)) ok C (fun z hz => hz ▸ hQ _) (fun j k e1 e2 r1 r2 ev => ?_)
  rw [ev] at hQ
  exact q11_st ok C e1 r1 (fun u => q11_st ok C e2 r2 (fun u2 => q2_neverUntil C.1 ok.1 (sm_lt A.1 6 _) (hQ _)))
theorem q11_surely (ok : okA A) (C : CSt kc A μ fo κ ρ η kp β pl) {Q : Int32 → US × US → Prop} (hQ : ∀ u, Q (f_surely A p1 p2) u) : wp_X11_surely kc p1 p2 μ fo κ ρ η kp lu σ ε π β pl Q := by
  unfold wp_X11_surely
  unfold f_surely at hQ
  refine q11_e2 (f := fun F G => nI (mk (sur A.1 F G))) (E := fun z => Q z (σ, ε)) ok C (fun z hz => hz ▸ hQ _) (fun j k e1 e2 r1 r2 ev => ?_)
  rw [ev] at hQ
  exact q11_st ok C e1 r1 (fun u => q11_st ok C e2 r2 (fun u2 => q2_surelyUntil C.1 ok.1 (sm_lt A.1 6 _) (hQ _)))
theorem steady_fr {c : CH} (ok : okC c) {G : Nat → Bool} {s : US} (h : FR s 8 (fun i => (MM 8 (UA c (uT c) (bS c G)) 8 i 8).toNat) (fun _ => (dd 8 (UA c (uT c) (bS c G)) 8).toNat * scl c G 8)) : FR s 8 (fun i => VS c G i 8) (fun _ => WS c G) := fun i hi => by
  have e : (MM 8 (UA c (uT c) (bS c G)) 8 i 8).toNat = VS c G i 8 := by rw [← VS_all ok hi]; rfl
  have h4 := h i hi
  simp only at h4
  rw [e] at h4
  exact h4
theorem q11_steady (ok : okA A) (C : CSt kc A μ fo κ ρ η kp β pl) {Q : Int64 → US × US → Prop} (hQ : ∀ u, Q (f_steady A p1 p2 p3) u) : wp_X11_steady kc p1 p2 p3 μ fo κ ρ η kp lu σ ε π β pl Q := by
  unfold wp_X11_steady
  unfold f_steady at hQ
  have hn := ok.1.1
  refine q11_ae (f := fun i p F _ => pv (VS A.1 F i 8) (WS A.1 F) p) (E := fun z => Q z (σ, ε)) ok C (fun z hz => hz ▸ hQ _) (fun i p j k hi hp hx hx2 e1 e2 r1 r2 ev => ?_)
  rw [ev] at hQ
  refine q11_st ok C e1 r1 (fun u => ?_)
  subst hx; subst hx2
  exact q8_solveSteady C.1 ok.1 (fun s4 e4 h4 => q8_part (steady_fr ok.1 h4) (by omega) hp (hQ _))
theorem q11_share (ok : okA A) (C : CSt kc A μ fo κ ρ η kp β pl) {Q : Int64 → US × US → Prop} (hQ : ∀ u, Q (f_share A p1 p2) u) : wp_X11_share kc p1 p2 μ fo κ ρ η kp lu σ ε π β pl Q := by
  unfold wp_X11_share
  unfold f_share at hQ
  have hn := ok.1.1
  refine q11_asks ok C (fun e => ⟨fun z => absurd rfl z, fun _ => ?_⟩) (fun e => ⟨fun z => absurd rfl z, fun _ => ?_⟩) (fun i p hi hp hx hx2 e e2 => ⟨fun _ => ?_, fun z => absurd z (by decide)⟩)
  · rw [oa_1 e] at hQ; exact hQ _
  · rw [oa_2 e] at hQ; exact hQ _
  · rw [oa_3 e e2] at hQ
    subst hx; subst hx2
    rw [sI_one0 i (by omega)]
    exact q8_solveSteady C.1 ok.1 (fun s4 e4 h4 => q8_part (steady_fr ok.1 h4) (by omega) hp (hQ _))
end CEV
