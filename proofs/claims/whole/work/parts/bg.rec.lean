/-! ===== the methods that change the chain ===== -/
section SPG
variable (A : AB) (p1 p2 p3 : Int32)
def f_addState : Int32 := if cn A.1 < 8 then nI (cn A.1) else -3
def g_addState : AB := if cn A.1 < 8 then ((cn A.1 + 1, A.1.2), push A.1 A.2.1, A.2.2) else A
def f_removeState : Int32 := if 0 < cn A.1 then nI (cn A.1 - 1) else -2
def g_removeState : AB := if 0 < cn A.1 then (shr A.1, push A.1 A.2.1, A.2.2) else A
def setW (c : CH) (i j w : Nat) : CH := (cn c, (fun a b => if a = i ∧ b = j then w else cw c a b), c.2.2)
def setL (c : CH) (i x : Nat) : CH := (cn c, cw c, (fun a => if a = i then x else cl c a), cr c)
def setR (c : CH) (i x : Nat) : CH := (cn c, cw c, cl c, (fun a => if a = i then x else cr c a))
def f_setWeight : Int32 := o1 (inx p1 (cn A.1)) (-1) fun i => o1 (inx p2 (cn A.1)) (-1) fun j => o1 (inx p3 10) (-1) fun w => if csum A.1 i - cw A.1 i j + w ≤ 10 then nI (cw A.1 i j) else -3
def g_setWeight : AB := o1 (inx p1 (cn A.1)) A fun i => o1 (inx p2 (cn A.1)) A fun j => o1 (inx p3 10) A fun w => if csum A.1 i - cw A.1 i j + w ≤ 10 then (setW A.1 i j w, push A.1 A.2.1, A.2.2) else A
def f_setLabels : Int32 := o1 (inx p1 (cn A.1)) (-1) fun i => o1 (inx p2 16) (-1) fun _ => nI (cl A.1 i)
def g_setLabels : AB := o1 (inx p1 (cn A.1)) A fun i => o1 (inx p2 16) A fun x => (setL A.1 i x, push A.1 A.2.1, A.2.2)
def f_setReward : Int32 := o1 (inx p1 (cn A.1)) (-1) fun i => o1 (inx p2 10) (-1) fun _ => nI (cr A.1 i)
def g_setReward : AB := o1 (inx p1 (cn A.1)) A fun i => o1 (inx p2 10) A fun x => (setR A.1 i x, push A.1 A.2.1, A.2.2)
def f_save : Int32 := nI (cn A.1)
def g_save : AB := (A.1, A.2.1, some A.1, A.2.2.2)
def f_restore : Int32 := match A.2.2.1 with | some d => nI (cn d) | none => -2
def g_restore : AB := match A.2.2.1 with | some d => (d, push A.1 A.2.1, A.2.2) | none => A
def f_undo : Int32 := match A.2.1 with | _ :: hs => nI hs.length | [] => -2
def g_undo : AB := match A.2.1 with | c :: hs => (c, hs, A.2.2) | [] => A
end SPG
theorem okC_grow {c : CH} (ok : okC c) (h : cn c < 8) : okC (cn c + 1, c.2) :=
  ⟨h, ok.2.1, ok.2.2.1, ok.2.2.2.1, ok.2.2.2.2.1, fun i j hij => ok.2.2.2.2.2.1 i j (hij.imp (fun h => Nat.le_of_lt h) (fun h => Nat.le_of_lt h)), fun i hi => ok.2.2.2.2.2.2 i (by have : cn c + 1 ≤ i := hi; omega)⟩
theorem okC_shr {c : CH} (ok : okC c) : okC (shr c) := by
  have h8 : cn c - 1 ≤ 8 := by have := ok.1; omega
  refine ⟨h8, fun i j => ?_, fun i => ?_, fun i => ?_, fun i => ?_, fun i j hij => ?_, fun i hi => ?_⟩
  · show (if i = cn c - 1 ∨ j = cn c - 1 then 0 else cw c i j) ≤ 9
    split
    · omega
    · exact ok.2.1 i j
  · refine Nat.le_trans (sumN_le2 (g := cw c i) (fun j _ => ?_)) (ok.2.2.1 i)
    show (if i = cn c - 1 ∨ j = cn c - 1 then 0 else cw c i j) ≤ _
    split <;> omega
  · show (if i = cn c - 1 then 0 else cl c i) ≤ 15
    split
    · omega
    · exact ok.2.2.2.1 i
  · show (if i = cn c - 1 then 0 else cr c i) ≤ 9
    split
    · omega
    · exact ok.2.2.2.2.1 i
  · show (if i = cn c - 1 ∨ j = cn c - 1 then 0 else cw c i j) = 0
    have hij : cn c - 1 ≤ i ∨ cn c - 1 ≤ j := hij
    split
    · rfl
    · exact ok.2.2.2.2.2.1 i j (by omega)
  · have hi : cn c - 1 ≤ i := hi
    show (if i = cn c - 1 then 0 else cl c i) = 0 ∧ (if i = cn c - 1 then 0 else cr c i) = 0
    by_cases h : i = cn c - 1
    · rw [if_pos h, if_pos h]; exact ⟨rfl, rfl⟩
    · rw [if_neg h, if_neg h]; exact ok.2.2.2.2.2.2 i (by omega)
theorem sumN_upd {f : Nat → Nat} {j w : Nat} : ∀ {n : Nat}, j < n → sumN (fun b => if b = j then w else f b) n + f j = sumN f n + w
  | n + 1, h => by
    rw [sumN, sumN]
    by_cases e : n = j
    · subst e
      rw [if_pos rfl, sumN_congr (g := f) (fun i hi => if_neg (by omega))]; omega
    · rw [if_neg e]
      have := sumN_upd (f := f) (j := j) (w := w) (n := n) (by omega)
      omega
theorem csum_setW (c : CH) {i j w : Nat} (hj : j < 8) : csum (setW c i j w) i + cw c i j = csum c i + w := by
  have h := sumN_upd (f := cw c i) (j := j) (w := w) (n := 8) hj
  have e : sumN (cw (setW c i j w) i) 8 = sumN (fun b => if b = j then w else cw c i b) 8 := sumN_congr (fun b _ => by
    show (if i = i ∧ b = j then w else cw c i b) = _
    simp)
  show sumN (cw (setW c i j w) i) 8 + _ = _
  rw [e]; exact h
theorem okC_setW {c : CH} (ok : okC c) {i j w : Nat} (hi : i < cn c) (hj : j < cn c) (hw : w < 10) (hs : csum c i - cw c i j + w ≤ 10) : okC (setW c i j w) := by
  have hn := ok.1
  refine ⟨ok.1, fun a b => ?_, fun a => ?_, ok.2.2.2.1, ok.2.2.2.2.1, fun a b hab => ?_, ok.2.2.2.2.2.2⟩
  · show (if a = i ∧ b = j then w else cw c a b) ≤ 9
    split
    · omega
    · exact ok.2.1 a b
  · by_cases e : a = i
    · subst e
      have h1 := csum_setW c (i := a) (j := j) (w := w) (by omega)
      have h2 : cw c a j ≤ csum c a := sumN_get (by omega)
      omega
    · have e2 : csum (setW c i j w) a = csum c a := sumN_congr (fun b _ => if_neg (fun hc => e hc.1))
      rw [e2]; exact ok.2.2.1 a
  · show (if a = i ∧ b = j then w else cw c a b) = 0
    have hab : cn c ≤ a ∨ cn c ≤ b := hab
    rw [if_neg (by omega)]
    exact ok.2.2.2.2.2.1 a b hab
theorem okC_setL {c : CH} (ok : okC c) {i x : Nat} (hi : i < cn c) (hx : x < 16) : okC (setL c i x) := by
  refine ⟨ok.1, ok.2.1, ok.2.2.1, fun a => ?_, ok.2.2.2.2.1, ok.2.2.2.2.2.1, fun a ha => ?_⟩
  · show (if a = i then x else cl c a) ≤ 15
    split
    · omega
    · exact ok.2.2.2.1 a
  · have ha : cn c ≤ a := ha
    show (if a = i then x else cl c a) = 0 ∧ _
    rw [if_neg (by omega)]; exact ok.2.2.2.2.2.2 a ha
theorem okC_setR {c : CH} (ok : okC c) {i x : Nat} (hi : i < cn c) (hx : x < 10) : okC (setR c i x) := by
  refine ⟨ok.1, ok.2.1, ok.2.2.1, ok.2.2.2.1, fun a => ?_, ok.2.2.2.2.2.1, fun a ha => ?_⟩
  · show (if a = i then x else cr c a) ≤ 9
    split
    · omega
    · exact ok.2.2.2.2.1 a
  · have ha : cn c ≤ a := ha
    show _ ∧ (if a = i then x else cr c a) = 0
    rw [if_neg (by omega)]; exact ok.2.2.2.2.2.2 a ha
theorem okA.push {A : AB} (ok : okA A) {c : CH} (hc : okC c) : okA (c, push A.1 A.2.1, A.2.2) := by
  refine ⟨hc, fun d hd => ?_, ok.2.2⟩
  have hd : d ∈ (A.1 :: A.2.1).take 8 := hd
  rcases List.mem_cons.mp (List.mem_of_mem_take hd) with h | h
  · rw [h]; exact ok.1
  · exact ok.2.1 d h
section OKG
variable {A : AB} {p1 p2 p3 : Int32}
theorem ok_addState (ok : okA A) : okA (g_addState A) := by
  unfold g_addState
  split
  · rename_i h; exact ok.push (okC_grow ok.1 h)
  · exact ok
theorem ok_removeState (ok : okA A) : okA (g_removeState A) := by
  unfold g_removeState
  split
  · exact ok.push (okC_shr ok.1)
  · exact ok
theorem inx_lt {x : Int32} {n i : Nat} (h : inx x n = some i) : i < n := by
  unfold inx at h
  split at h
  · cases h
  · split at h
    · cases h; assumption
    · cases h
theorem ok_setWeight (ok : okA A) : okA (g_setWeight A p1 p2 p3) := by
  unfold g_setWeight
  cases h1 : inx p1 (cn A.1) with
  | none => exact ok
  | some i =>
    cases h2 : inx p2 (cn A.1) with
    | none => exact ok
    | some j =>
      cases h3 : inx p3 10 with
      | none => exact ok
      | some w =>
        show okA (if csum A.1 i - cw A.1 i j + w ≤ 10 then (setW A.1 i j w, push A.1 A.2.1, A.2.2) else A)
        split
        · rename_i h; exact ok.push (okC_setW ok.1 (inx_lt h1) (inx_lt h2) (inx_lt h3) h)
        · exact ok
theorem ok_setLabels (ok : okA A) : okA (g_setLabels A p1 p2) := by
  unfold g_setLabels
  cases h1 : inx p1 (cn A.1) with
  | none => exact ok
  | some i =>
    cases h2 : inx p2 16 with
    | none => exact ok
    | some x => exact ok.push (okC_setL ok.1 (inx_lt h1) (inx_lt h2))
theorem ok_setReward (ok : okA A) : okA (g_setReward A p1 p2) := by
  unfold g_setReward
  cases h1 : inx p1 (cn A.1) with
  | none => exact ok
  | some i =>
    cases h2 : inx p2 10 with
    | none => exact ok
    | some x => exact ok.push (okC_setR ok.1 (inx_lt h1) (inx_lt h2))
theorem ok_save (ok : okA A) : okA (g_save A) := ⟨ok.1, ok.2.1, fun d hd => by cases hd; exact ok.1, ok.2.2.2⟩
theorem ok_restore (ok : okA A) : okA (g_restore A) := by
  unfold g_restore
  split
  · rename_i d h; exact ok.push (ok.2.2.1 d h)
  · exact ok
theorem ok_undo (ok : okA A) : okA (g_undo A) := by
  unfold g_undo
  split
  · rename_i c hs h
    have h2 := ok.2.1
    rw [h] at h2
    exact ⟨h2 c List.mem_cons_self, fun d hd => h2 d (List.mem_cons_of_mem _ hd), ok.2.2⟩
  · exact ok
end OKG
section CRC
variable {kc : Nat → ClassId} {A : AB} {μ ρ κ η lu σ ε π : US} {fo : Nat → Option Nat} {kp : Nat → US} {β : SBT} {pl : va_W} {p1 p2 p3 : Int32}
theorem CSt.ch (C : CSt kc A μ fo κ ρ η kp β pl) {c : CH} {κ' η' : US} {kp' : Nat → US} {hs : List CH} (h : RC κ' c) (H : RH η' kp' hs) : CSt kc (c, hs, A.2.2) μ fo κ' ρ η' kp' β pl := ⟨h, H, C.2.2⟩
theorem q11_addState (ok : okA A) (C : CSt kc A μ fo κ ρ η kp β pl) {Q : Int32 → US × US × (Nat → US) → Prop} (hQ : ∀ κ' η' kp', CSt kc (g_addState A) μ fo κ' ρ η' kp' β pl → Q (f_addState A) (κ', η', kp')) : wp_X11_addState kc μ fo κ ρ η kp lu σ ε π β pl Q := by
  unfold wp_X11_addState
  unfold f_addState g_addState at hQ
  have hn := ok.1.1
  unfold wp_X2_size
  refine pk_lt (cn A.1) 8 (fun h8 => ?_) (fun h8 => ?_) C.1.1 rfl
  · rw [if_pos h8, if_pos h8] at hQ
    refine q6_record C.2.1 C.1 (fun η' kp' H => ?_)
    refine q2_grow C.1 h8 (fun κ' h => ?_)
    have e : iI κ' 0 - 1 = nI (cn A.1) := by rw [h.1, nI_pred1 (Nat.succ_pos _)]; rfl
    show Q (iI κ' 0 - 1) (κ', η', kp')
    rw [e]
    exact hQ κ' η' kp' (C.ch h H)
  · rw [if_neg (by omega), if_neg (by omega)] at hQ
    exact hQ _ _ _ C
theorem q11_removeState (ok : okA A) (C : CSt kc A μ fo κ ρ η kp β pl) {Q : Int32 → US × US × (Nat → US) → Prop} (hQ : ∀ κ' η' kp', CSt kc (g_removeState A) μ fo κ' ρ η' kp' β pl → Q (f_removeState A) (κ', η', kp')) : wp_X11_removeState kc μ fo κ ρ η kp lu σ ε π β pl Q := by
  unfold wp_X11_removeState
  unfold f_removeState g_removeState at hQ
  have hn := ok.1.1
  unfold wp_X2_size
  refine pk_lt 0 (cn A.1) (fun h8 => ?_) (fun h8 => ?_) rfl C.1.1
  · rw [if_pos h8, if_pos h8] at hQ
    refine q6_record C.2.1 C.1 (fun η' kp' H => ?_)
    refine q2_shrink C.1 ok.1 h8 (fun κ' h => ?_)
    have e : iI κ' 0 = nI (cn A.1 - 1) := h.1
    rw [e]
    exact hQ κ' η' kp' (C.ch h H)
  · rw [if_neg (by omega), if_neg (by omega)] at hQ
    exact hQ _ _ _ C
theorem q11_setWeight (ok : okA A) (C : CSt kc A μ fo κ ρ η kp β pl) {Q : Int32 → US × US × (Nat → US) → Prop} (hQ : ∀ κ' η' kp', CSt kc (g_setWeight A p1 p2 p3) μ fo κ' ρ η' kp' β pl → Q (f_setWeight A p1 p2 p3) (κ', η', kp')) : wp_X11_setWeight kc p1 p2 p3 μ fo κ ρ η kp lu σ ε π β pl Q := by
  unfold wp_X11_setWeight
  unfold f_setWeight g_setWeight at hQ
  have hn := ok.1.1
  refine q2_hasC C.1 hn p1 (fun e => ⟨fun _ => ?_, fun hc => absurd rfl hc⟩) (fun i hi hx e => ⟨fun hc => absurd hc (by decide), fun _ => ?_⟩)
  · rw [o1_n e, o1_n e] at hQ; exact hQ _ _ _ C
  · rw [o1_s e, o1_s e] at hQ
    refine q2_hasC C.1 hn p2 (fun e => ⟨fun _ => ?_, fun hc => absurd rfl hc⟩) (fun j hj hx2 e => ⟨fun hc => absurd hc (by decide), fun _ => ?_⟩)
    · rw [o1_n e, o1_n e] at hQ; exact hQ _ _ _ C
    · rw [o1_s e, o1_s e] at hQ
      subst hx; subst hx2
      refine rg_c (n := 9) (by decide) (fun e => ?_) (fun w hw hx3 e => ?_)
      · rw [o1_n e, o1_n e] at hQ; exact ⟨hQ _ _ _ C, hQ _ _ _ C⟩
      · rw [o1_s e, o1_s e] at hQ
        subst hx3
        refine q2_weightOf C.1 (by omega) (by omega) ?_
        refine q2_sumOf C.1 ok.1 (by omega) ?_
        have h2 : cw A.1 i j ≤ csum A.1 i := sumN_get (by omega)
        have h10 := ok.1.2.2.1 i
        rw [pk_sub h2, nI_add]
        refine pk_le (csum A.1 i - cw A.1 i j + w) 10 (fun hs => ?_) (fun hs => ?_)
        · rw [if_pos hs, if_pos hs] at hQ
          refine q6_record C.2.1 C.1 (fun η' kp' H => ?_)
          refine q2_putWeight C.1 hn hi hj (fun κ' h => ?_)
          exact hQ κ' η' kp' (C.ch h H)
        · rw [if_neg (by omega), if_neg (by omega)] at hQ
          exact hQ _ _ _ C
theorem q11_setLabels (ok : okA A) (C : CSt kc A μ fo κ ρ η kp β pl) {Q : Int32 → US × US × (Nat → US) → Prop} (hQ : ∀ κ' η' kp', CSt kc (g_setLabels A p1 p2) μ fo κ' ρ η' kp' β pl → Q (f_setLabels A p1 p2) (κ', η', kp')) : wp_X11_setLabels kc p1 p2 μ fo κ ρ η kp lu σ ε π β pl Q := by
  unfold wp_X11_setLabels
  unfold f_setLabels g_setLabels at hQ
  have hn := ok.1.1
  refine q2_hasC C.1 hn p1 (fun e => ⟨fun _ => ?_, fun hc => absurd rfl hc⟩) (fun i hi hx e => ⟨fun hc => absurd hc (by decide), fun _ => ?_⟩)
  · rw [o1_n e, o1_n e] at hQ; exact hQ _ _ _ C
  · rw [o1_s e, o1_s e] at hQ
    subst hx
    refine rg_c (n := 15) (by decide) (fun e => ?_) (fun w hw hx3 e => ?_)
    · rw [o1_n e, o1_n e] at hQ; exact ⟨hQ _ _ _ C, hQ _ _ _ C⟩
    · rw [o1_s e, o1_s e] at hQ
      subst hx3
      refine q2_labelsOf C.1 hn hi ?_
      refine q6_record C.2.1 C.1 (fun η' kp' H => ?_)
      refine q2_putLabels C.1 hn hi (fun κ' h => ?_)
      exact hQ κ' η' kp' (C.ch h H)
theorem q11_setReward (ok : okA A) (C : CSt kc A μ fo κ ρ η kp β pl) {Q : Int32 → US × US × (Nat → US) → Prop} (hQ : ∀ κ' η' kp', CSt kc (g_setReward A p1 p2) μ fo κ' ρ η' kp' β pl → Q (f_setReward A p1 p2) (κ', η', kp')) : wp_X11_setReward kc p1 p2 μ fo κ ρ η kp lu σ ε π β pl Q := by
  unfold wp_X11_setReward
  unfold f_setReward g_setReward at hQ
  have hn := ok.1.1
  refine q2_hasC C.1 hn p1 (fun e => ⟨fun _ => ?_, fun hc => absurd rfl hc⟩) (fun i hi hx e => ⟨fun hc => absurd hc (by decide), fun _ => ?_⟩)
  · rw [o1_n e, o1_n e] at hQ; exact hQ _ _ _ C
  · rw [o1_s e, o1_s e] at hQ
    subst hx
    refine rg_c (n := 9) (by decide) (fun e => ?_) (fun w hw hx3 e => ?_)
    · rw [o1_n e, o1_n e] at hQ; exact ⟨hQ _ _ _ C, hQ _ _ _ C⟩
    · rw [o1_s e, o1_s e] at hQ
      subst hx3
      refine q2_rewardOf C.1 hn hi ?_
      refine q6_record C.2.1 C.1 (fun η' kp' H => ?_)
      refine q2_putReward C.1 hn hi (fun κ' h => ?_)
      exact hQ κ' η' kp' (C.ch h H)
theorem q11_save (C : CSt kc A μ fo κ ρ η kp β pl) {Q : Int32 → US × US → Prop} (hQ : ∀ μ' ρ', CSt kc (g_save A) μ' fo κ ρ' η kp β pl → Q (f_save A) (μ', ρ')) : wp_X11_save kc μ fo κ ρ η kp lu σ ε π β pl Q := by
  unfold wp_X11_save
  refine q2_copyFrom C.1 (fun ρ' h z hz => ?_)
  subst hz
  unfold wp_X2_size
  rw [C.1.1]
  refine hQ _ ρ' ⟨C.1, C.2.1, ⟨iI_uIs, fun d hd => ?_⟩, ⟨?_, C.2.2.2.1.2⟩, C.2.2.2.2⟩
  · cases hd; exact h
  · rw [iI_uIn (by decide)]; exact C.2.2.2.1.1
theorem q11_restore (C : CSt kc A μ fo κ ρ η kp β pl) {Q : Int32 → US × US × (Nat → US) → Prop} (hQ : ∀ κ' η' kp', CSt kc (g_restore A) μ fo κ' ρ η' kp' β pl → Q (f_restore A) (κ', η', kp')) : wp_X11_restore kc μ fo κ ρ η kp lu σ ε π β pl Q := by
  unfold wp_X11_restore
  unfold f_restore g_restore at hQ
  obtain ⟨e1, hd⟩ := C.2.2.1
  rw [e1]
  cases h : A.2.2.1 with
  | none =>
    rw [h] at hQ
    exact ⟨fun hc => absurd rfl hc, fun _ => hQ _ _ _ C⟩
  | some d =>
    rw [h] at hQ
    refine ⟨fun _ => ?_, fun hc => absurd hc (show ¬ (1 : Int32) = 0 by decide)⟩
    refine q6_record C.2.1 C.1 (fun η' kp' H => ?_)
    refine q2_copyFrom (hd d h) (fun κ' hk => ?_)
    unfold wp_X2_size
    have e : iI κ' 0 = nI (cn d) := hk.1
    rw [e]
    exact hQ κ' η' kp' (C.ch hk H)
theorem q11_undo (C : CSt kc A μ fo κ ρ η kp β pl) {Q : Int32 → US × US → Prop} (hQ : ∀ κ' η', CSt kc (g_undo A) μ fo κ' ρ η' kp β pl → Q (f_undo A) (κ', η')) : wp_X11_undo kc μ fo κ ρ η kp lu σ ε π β pl Q := by
  unfold wp_X11_undo
  unfold f_undo g_undo at hQ
  refine q6_takeBack C.2.1 (fun h => ⟨fun _ => ?_, fun hc => absurd rfl hc⟩) (fun c hs h η' κ' H hk => ⟨fun hc => absurd hc (by decide), fun _ => ?_⟩)
  · rw [h] at hQ; exact hQ _ _ C
  · rw [h] at hQ
    unfold wp_X6_total
    have e : iI η' 1 = nI hs.length := by obtain ⟨i, -, -, e, -⟩ := H; exact e
    rw [e]
    exact hQ κ' η' (C.ch hk H)
end CRC
