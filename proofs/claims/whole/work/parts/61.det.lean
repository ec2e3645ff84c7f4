/-! ===== determinants: columns in a list, rows one after another ===== -/
section DET
abbrev Col := Nat → Int
def iot (r : Nat) : List Col → (List Col → Int) → Int
  | [], _ => 0
  | a :: l, F => a r * F l - iot r l (fun l' => F (a :: l'))
theorem iot_lin (r : Nat) (x y : Int) : ∀ (l : List Col) (F G : List Col → Int), iot r l (fun l' => x * F l' + y * G l') = x * iot r l F + y * iot r l G
  | [], F, G => by simp [iot]
  | a :: l, F, G => by
    show a r * (x * F l + y * G l) - iot r l (fun l' => x * F (a :: l') + y * G (a :: l')) = _
    rw [iot_lin r x y l (fun l' => F (a :: l')) (fun l' => G (a :: l'))]
    show _ = x * (a r * F l - iot r l (fun l' => F (a :: l'))) + y * (a r * G l - iot r l (fun l' => G (a :: l')))
    grind
/-- two rows, one after the other, change their sign when they change places -/
theorem iot_anti (r s : Nat) : ∀ (l : List Col) (F : List Col → Int), iot r l (fun l' => iot s l' F) + iot s l (fun l' => iot r l' F) = 0
  | [], F => by simp [iot]
  | a :: l, F => by
    show a r * iot s l F - iot r l (fun l' => a s * F l' - iot s l' (fun l'' => F (a :: l''))) + (a s * iot r l F - iot s l (fun l' => a r * F l' - iot r l' (fun l'' => F (a :: l'')))) = 0
    have h := iot_anti r s l (fun l' => F (a :: l'))
    have h1 := iot_lin r (a s) (-1) l F (fun l' => iot s l' (fun l'' => F (a :: l'')))
    have h2 := iot_lin s (a r) (-1) l F (fun l' => iot r l' (fun l'' => F (a :: l'')))
    have e1 : (fun l' => a s * F l' - iot s l' (fun l'' => F (a :: l''))) = (fun l' => a s * F l' + -1 * iot s l' (fun l'' => F (a :: l''))) := by funext l'; omega
    have e2 : (fun l' => a r * F l' - iot r l' (fun l'' => F (a :: l''))) = (fun l' => a r * F l' + -1 * iot r l' (fun l'' => F (a :: l''))) := by funext l'; omega
    rw [e1, e2, h1, h2]
    omega
theorem iot_neg (r : Nat) (l : List Col) {F G : List Col → Int} (h : ∀ l', F l' = - G l') : iot r l F = - iot r l G := by
  have h1 := iot_lin r (-1) 0 l G G
  have e : F = fun l' => -1 * G l' + 0 * G l' := by funext l'; rw [h l']; omega
  rw [e, h1]; omega
theorem iot_0 (r : Nat) (l : List Col) {F : List Col → Int} (h : ∀ l', F l' = 0) : iot r l F = 0 := by
  have h1 := iot_neg r l (F := F) (G := F) (fun l' => by rw [h l']; rfl)
  omega
def D : List Nat → List Col → Int
  | [], [] => 1
  | [], _ :: _ => 0
  | r :: rs, l => iot r l (D rs)
theorem D_nil (p : List Col) (a : Col) (q : List Col) : D [] (p ++ a :: q) = 0 := by
  cases p <;> rfl
def Alt (F : List Col → Int) : Prop := ∀ (p : List Col) (a b : Col) (q : List Col), F (p ++ a :: b :: q) = - F (p ++ b :: a :: q)
def Lin (F : List Col → Int) : Prop := ∀ (p : List Col) (u v : Col) (x y : Int) (q : List Col), F (p ++ (fun i => x * u i + y * v i) :: q) = x * F (p ++ u :: q) + y * F (p ++ v :: q)
theorem alt_iot (r : Nat) (a b : Col) (q : List Col) : ∀ (p : List Col) (F : List Col → Int), Alt F → iot r (p ++ a :: b :: q) F = - iot r (p ++ b :: a :: q) F
  | [], F, h => by
    show a r * F (b :: q) - (b r * F (a :: q) - iot r q (fun l => F (a :: b :: l))) = - (b r * F (a :: q) - (a r * F (b :: q) - iot r q (fun l => F (b :: a :: l))))
    rw [iot_neg r q (F := fun l => F (a :: b :: l)) (G := fun l => F (b :: a :: l)) (fun l => h [] a b l)]
    omega
  | c :: p, F, h => by
    show c r * F (p ++ a :: b :: q) - iot r (p ++ a :: b :: q) (fun l => F (c :: l)) = - (c r * F (p ++ b :: a :: q) - iot r (p ++ b :: a :: q) (fun l => F (c :: l)))
    rw [alt_iot r a b q p (fun l => F (c :: l)) (fun p' a b q => h (c :: p') a b q), h p a b q]
    grind
theorem lin_iot (r : Nat) (u v : Col) (x y : Int) (q : List Col) : ∀ (p : List Col) (F : List Col → Int), Lin F → iot r (p ++ (fun i => x * u i + y * v i) :: q) F = x * iot r (p ++ u :: q) F + y * iot r (p ++ v :: q) F
  | [], F, h => by
    show (x * u r + y * v r) * F q - iot r q (fun l => F ((fun i => x * u i + y * v i) :: l)) = x * (u r * F q - iot r q (fun l => F (u :: l))) + y * (v r * F q - iot r q (fun l => F (v :: l)))
    have e : (fun l => F ((fun i => x * u i + y * v i) :: l)) = fun l => x * F (u :: l) + y * F (v :: l) := by funext l; exact h [] u v x y l
    rw [e, iot_lin r x y q (fun l => F (u :: l)) (fun l => F (v :: l))]
    grind
  | c :: p, F, h => by
    show c r * F (p ++ (fun i => x * u i + y * v i) :: q) - iot r (p ++ (fun i => x * u i + y * v i) :: q) (fun l => F (c :: l)) = x * (c r * F (p ++ u :: q) - iot r (p ++ u :: q) (fun l => F (c :: l))) + y * (c r * F (p ++ v :: q) - iot r (p ++ v :: q) (fun l => F (c :: l)))
    rw [lin_iot r u v x y q p (fun l => F (c :: l)) (fun p' u v x y q => h (c :: p') u v x y q), h p u v x y q]
    grind
theorem D_alt : ∀ rs, Alt (D rs)
  | [] => fun p a b q => by rw [D_nil, D_nil]; rfl
  | r :: rs => fun p a b q => alt_iot r a b q p (D rs) (D_alt rs)
theorem D_lin : ∀ rs, Lin (D rs)
  | [] => fun p u v x y q => by rw [D_nil, D_nil, D_nil]; omega
  | r :: rs => fun p u v x y q => lin_iot r u v x y q p (D rs) (D_lin rs)
theorem alt_eq {F : List Col → Int} (h : Alt F) (a : Col) (q : List Col) : ∀ (m p : List Col), F (p ++ a :: (m ++ a :: q)) = 0
  | [], p => by have := h p a a q; show F (p ++ a :: a :: q) = 0; omega
  | c :: m, p => by
    have h1 := h p a c (m ++ a :: q)
    have h2 := alt_eq h a q m (p ++ [c])
    rw [List.append_assoc] at h2
    show F (p ++ a :: c :: (m ++ a :: q)) = 0
    rw [h1]
    have h3 : F (p ++ c :: a :: (m ++ a :: q)) = 0 := h2
    omega
theorem alt_swap {F : List Col → Int} (h : Alt F) (hl : Lin F) (p m q : List Col) (a b : Col) : F (p ++ a :: (m ++ b :: q)) = - F (p ++ b :: (m ++ a :: q)) := by
  have h1 := alt_eq h (fun i => 1 * a i + 1 * b i) q m p
  rw [hl p a b 1 1 (m ++ (fun i => 1 * a i + 1 * b i) :: q)] at h1
  have h2 := hl (p ++ a :: m) a b 1 1 q
  have h3 := hl (p ++ b :: m) a b 1 1 q
  simp only [List.append_assoc, List.cons_append] at h2 h3
  rw [h2, h3, alt_eq h a q m p, alt_eq h b q m p] at h1
  omega
theorem D_row0 (r : Nat) (Q : List Nat) : ∀ (P : List Nat) (l : List Col), D (r :: (P ++ r :: Q)) l = 0
  | [], l => by
    have := iot_anti r r l (D Q)
    show iot r l (fun l' => iot r l' (D Q)) = 0
    omega
  | s :: P, l => by
    have h := iot_anti r s l (D (P ++ r :: Q))
    have h2 : iot s l (fun l' => iot r l' (D (P ++ r :: Q))) = 0 := iot_0 s l (fun l' => D_row0 r Q P l')
    show iot r l (fun l' => iot s l' (D (P ++ r :: Q))) = 0
    omega
theorem D_row {r : Nat} {rs : List Nat} (h : r ∈ rs) (l : List Col) : D (r :: rs) l = 0 := by
  obtain ⟨P, Q, rfl⟩ := List.append_of_mem h
  exact D_row0 r Q P l
/-- only the rows that are named count -/
def same (rs : List Nat) : List Col → List Col → Prop
  | [], [] => True
  | a :: l, b :: m => (∀ r, r ∈ rs → a r = b r) ∧ same rs l m
  | _, _ => False
theorem same_iot {rs : List Nat} {r : Nat} (hr : r ∈ rs) : ∀ (l m : List Col) (F G : List Col → Int), same rs l m → (∀ l' m', same rs l' m' → F l' = G m') → iot r l F = iot r m G
  | [], [], F, G, _, _ => rfl
  | [], b :: m, F, G, h, _ => h.elim
  | a :: l, [], F, G, h, _ => h.elim
  | a :: l, b :: m, F, G, h, hF => by
    show a r * F l - iot r l (fun l' => F (a :: l')) = b r * G m - iot r m (fun l' => G (b :: l'))
    rw [h.1 r hr, hF l m h.2, same_iot hr l m (fun l' => F (a :: l')) (fun l' => G (b :: l')) h.2 (fun l' m' h' => hF _ _ ⟨h.1, h'⟩)]
theorem same_D (ss : List Nat) : ∀ (rs : List Nat), (∀ r, r ∈ rs → r ∈ ss) → ∀ (l m : List Col), same ss l m → D rs l = D rs m
  | [], _, [], [], _ => rfl
  | [], _, _ :: _, _ :: _, _ => rfl
  | [], _, [], b :: m, h => h.elim
  | [], _, a :: l, [], h => h.elim
  | r :: rs, hs, l, m, h => same_iot (hs r (List.mem_cons_self)) l m _ _ h (fun l' m' h' => same_D ss rs (fun q hq => hs q (List.mem_cons_of_mem _ hq)) l' m' h')
/-! columns by number -/
def up (c : Nat → Col) (i : Nat) (v : Col) : Nat → Col := fun j => if j = i then v else c j
def dt (rs J : List Nat) (c : Nat → Col) : Int := D rs (J.map c)
theorem up_s (c : Nat → Col) (i : Nat) (v : Col) : up c i v i = v := if_pos rfl
theorem up_n (c : Nat → Col) {i j : Nat} (v : Col) (h : j ≠ i) : up c i v j = c j := if_neg h
theorem up_id (c : Nat → Col) (i : Nat) : up c i (c i) = c := by
  funext j; unfold up; split
  · rename_i h; rw [h]
  · rfl
theorem up_up (c : Nat → Col) (i : Nat) (u v : Col) : up (up c i u) i v = up c i v := by
  funext j; unfold up; split <;> rfl
theorem up_comm (c : Nat → Col) {i j : Nat} (h : i ≠ j) (u v : Col) : up (up c i u) j v = up (up c j v) i u := by
  funext k; unfold up; split
  · rename_i h1; rw [if_neg (by omega)]
  · rfl
theorem map_up (c : Nat → Col) (i : Nat) (v : Col) : ∀ (l : List Nat), i ∉ l → l.map (up c i v) = l.map c
  | [], _ => rfl
  | a :: l, h => by
    rw [List.map_cons, List.map_cons, up_n c v (fun (e : a = i) => h (by rw [e]; exact List.mem_cons_self)), map_up c i v l (fun e => h (List.mem_cons_of_mem _ e))]
/-- a list without repetition, parted at one of its members -/
theorem parted {J : List Nat} (nd : J.Nodup) {i : Nat} (h : i ∈ J) : ∃ P Q, J = P ++ i :: Q ∧ i ∉ P ∧ i ∉ Q := by
  obtain ⟨P, Q, rfl⟩ := List.append_of_mem h
  rw [List.nodup_append] at nd
  refine ⟨P, Q, rfl, fun hP => nd.2.2 i hP i List.mem_cons_self rfl, (List.nodup_cons.mp nd.2.1).1⟩
theorem dt_at (rs : List Nat) (P Q : List Nat) (c : Nat → Col) (i : Nat) (v : Col) (hP : i ∉ P) (hQ : i ∉ Q) : dt rs (P ++ i :: Q) (up c i v) = D rs (P.map c ++ v :: Q.map c) := by
  unfold dt
  rw [List.map_append, List.map_cons, map_up c i v P hP, map_up c i v Q hQ, up_s]
theorem dt_lin (rs : List Nat) {J : List Nat} (nd : J.Nodup) {i : Nat} (h : i ∈ J) (c : Nat → Col) (u v : Col) (x y : Int) : dt rs J (up c i (fun r => x * u r + y * v r)) = x * dt rs J (up c i u) + y * dt rs J (up c i v) := by
  obtain ⟨P, Q, rfl, hP, hQ⟩ := parted nd h
  rw [dt_at rs P Q c i _ hP hQ, dt_at rs P Q c i _ hP hQ, dt_at rs P Q c i _ hP hQ]
  exact D_lin rs _ _ _ _ _ _
theorem two_parts {J : List Nat} (nd : J.Nodup) {i j : Nat} (hi : i ∈ J) (hj : j ∈ J) (hne : i ≠ j) : ∃ P M Q, (J = P ++ i :: (M ++ j :: Q) ∨ J = P ++ j :: (M ++ i :: Q)) ∧ i ∉ P ∧ i ∉ M ∧ i ∉ Q ∧ j ∉ P ∧ j ∉ M ∧ j ∉ Q := by
  obtain ⟨P, Q, rfl, hP, hQ⟩ := parted nd hi
  rcases List.mem_append.mp hj with h | h
  · have nd2 := (List.nodup_append.mp nd).1
    obtain ⟨P1, P2, rfl, hP1, hP2⟩ := parted nd2 h
    refine ⟨P1, P2, Q, Or.inr (by simp), fun z => hP (by simp [z]), fun z => hP (by simp [z]), hQ, hP1, hP2, fun z => ?_⟩
    exact (List.nodup_append.mp nd).2.2 j h j (by simp [z]) rfl
  · rcases List.mem_cons.mp h with h | h
    · exact absurd h.symm hne
    · have nd2 := (List.nodup_cons.mp (List.nodup_append.mp nd).2.1).2
      obtain ⟨Q1, Q2, rfl, hQ1, hQ2⟩ := parted nd2 h
      refine ⟨P, Q1, Q2, Or.inl rfl, hP, fun z => hQ (by simp [z]), fun z => hQ (by simp [z]), fun z => ?_, hQ1, hQ2⟩
      exact (List.nodup_append.mp nd).2.2 j z j (by simp) rfl
theorem dt_two (rs : List Nat) (P M Q : List Nat) (c : Nat → Col) {i j : Nat} (hne : i ≠ j) (u v : Col) (h1 : i ∉ P) (h2 : i ∉ M) (h3 : i ∉ Q) (h4 : j ∉ P) (h5 : j ∉ M) (h6 : j ∉ Q) : dt rs (P ++ i :: (M ++ j :: Q)) (up (up c i u) j v) = D rs (P.map c ++ u :: (M.map c ++ v :: Q.map c)) := by
  unfold dt
  rw [List.map_append, List.map_cons, List.map_append, List.map_cons, map_up _ j v P h4, map_up _ j v M h5, map_up _ j v Q h6, map_up c i u P h1, map_up c i u M h2, map_up c i u Q h3, up_s, up_n _ v hne, up_s]
theorem dt_swap (rs : List Nat) {J : List Nat} (nd : J.Nodup) {i j : Nat} (hi : i ∈ J) (hj : j ∈ J) (hne : i ≠ j) (c : Nat → Col) (u v : Col) : dt rs J (up (up c i u) j v) = - dt rs J (up (up c i v) j u) := by
  obtain ⟨P, M, Q, h, h1, h2, h3, h4, h5, h6⟩ := two_parts nd hi hj hne
  rcases h with rfl | rfl
  · rw [dt_two rs P M Q c hne u v h1 h2 h3 h4 h5 h6, dt_two rs P M Q c hne v u h1 h2 h3 h4 h5 h6]
    exact alt_swap (D_alt rs) (D_lin rs) _ _ _ _ _
  · rw [up_comm c hne, up_comm c hne, dt_two rs P M Q c (Ne.symm hne) v u h4 h5 h6 h1 h2 h3, dt_two rs P M Q c (Ne.symm hne) u v h4 h5 h6 h1 h2 h3]
    exact alt_swap (D_alt rs) (D_lin rs) _ _ _ _ _
theorem dt_eq (rs : List Nat) {J : List Nat} (nd : J.Nodup) {i j : Nat} (hi : i ∈ J) (hj : j ∈ J) (hne : i ≠ j) (c : Nat → Col) (h : c i = c j) : dt rs J c = 0 := by
  have h1 := dt_swap rs nd hi hj hne c (c i) (c j)
  rw [← h] at h1
  have e : up (up c i (c i)) j (c i) = c := by rw [up_id, h, up_id]
  rw [e] at h1; omega
/-- sums over a list -/
def sL (f : Nat → Int) : List Nat → Int
  | [] => 0
  | a :: l => f a + sL f l
theorem sL_congr {f g : Nat → Int} : ∀ {l : List Nat}, (∀ j, j ∈ l → f j = g j) → sL f l = sL g l
  | [], _ => rfl
  | a :: l, h => by
    show f a + sL f l = g a + sL g l
    rw [h a List.mem_cons_self, sL_congr (fun j hj => h j (List.mem_cons_of_mem _ hj))]
theorem sL_0 {f : Nat → Int} {l : List Nat} (h : ∀ j, j ∈ l → f j = 0) : sL f l = 0 := by
  rw [sL_congr (g := fun _ => 0) h]
  clear h
  induction l with
  | nil => rfl
  | cons a l ih => show 0 + _ = _; rw [ih]; rfl
theorem sL_mul (x : Int) (f : Nat → Int) : ∀ (l : List Nat), sL (fun j => x * f j) l = x * sL f l
  | [] => by simp [sL]
  | a :: l => by show x * f a + sL _ l = x * (f a + sL f l); rw [sL_mul x f l]; grind
theorem sL_add (f g : Nat → Int) : ∀ (l : List Nat), sL (fun j => f j + g j) l = sL f l + sL g l
  | [] => rfl
  | a :: l => by show f a + g a + sL _ l = f a + sL f l + (g a + sL g l); rw [sL_add f g l]; omega
theorem sL_app (f : Nat → Int) : ∀ (l m : List Nat), sL f (l ++ m) = sL f l + sL f m
  | [], m => by show sL f m = 0 + sL f m; omega
  | a :: l, m => by show f a + sL f (l ++ m) = f a + sL f l + sL f m; rw [sL_app f l m]; omega
theorem sL_one {J : List Nat} (nd : J.Nodup) {i : Nat} (hi : i ∈ J) {f : Nat → Int} (h : ∀ j, j ∈ J → j ≠ i → f j = 0) : sL f J = f i := by
  obtain ⟨P, Q, rfl, hP, hQ⟩ := parted nd hi
  rw [sL_app]
  have h1 : sL f P = 0 := sL_0 (fun j hj => h j (by simp [hj]) (fun e => hP (e ▸ hj)))
  have h2 : sL f Q = 0 := sL_0 (fun j hj => h j (by simp [hj]) (fun e => hQ (e ▸ hj)))
  show sL f P + (f i + sL f Q) = f i
  omega
theorem sL_two {J : List Nat} (nd : J.Nodup) {i k : Nat} (hi : i ∈ J) (hk : k ∈ J) (hne : i ≠ k) {f : Nat → Int} (h : ∀ j, j ∈ J → j ≠ i → j ≠ k → f j = 0) : sL f J = f i + f k := by
  have h1 := sL_one nd hi (f := fun j => if j = k then 0 else f j) (fun j hj hji => by split; rfl; exact h j hj hji (by assumption))
  have h2 := sL_one nd hk (f := fun j => if j = k then f k else 0) (fun j hj hjk => by rw [if_neg hjk])
  have h3 := sL_add (fun j => if j = k then 0 else f j) (fun j => if j = k then f k else 0) J
  rw [h1, h2] at h3
  rw [if_neg hne, if_pos rfl] at h3
  rw [← h3]
  exact sL_congr (fun j _ => by split <;> rename_i e; (rw [e]; omega); omega)
/-- a column that is a sum -/
theorem dt_sum (rs : List Nat) {J : List Nat} (nd : J.Nodup) {i : Nat} (h : i ∈ J) (c : Nat → Col) (x : Nat → Int) (w : Nat → Col) : ∀ (L : List Nat), dt rs J (up c i (fun r => sL (fun j => x j * w j r) L)) = sL (fun j => x j * dt rs J (up c i (w j))) L
  | [] => by
    have := dt_lin rs nd h c (c i) (c i) 0 0
    have e : (fun r => (0 : Int) * c i r + 0 * c i r) = fun _ => 0 := by funext r; omega
    rw [e] at this
    show dt rs J (up c i (fun _ => 0)) = 0
    rw [this]; omega
  | a :: L => by
    have h1 := dt_lin rs nd h c (w a) (fun r => sL (fun j => x j * w j r) L) (x a) 1
    have e : (fun r => sL (fun j => x j * w j r) (a :: L)) = fun r => x a * w a r + 1 * sL (fun j => x j * w j r) L := by funext r; show x a * w a r + _ = _; omega
    rw [e, h1, dt_sum rs nd h c x w L]
    show _ = x a * dt rs J (up c i (w a)) + _
    omega
theorem same_refl (ss : List Nat) : ∀ l, same ss l l
  | [] => trivial
  | _ :: l => ⟨fun _ _ => rfl, same_refl ss l⟩
theorem same_map (ss : List Nat) {c d : Nat → Col} : ∀ {J : List Nat}, (∀ j, j ∈ J → ∀ r, r ∈ ss → c j r = d j r) → same ss (J.map c) (J.map d)
  | [], _ => trivial
  | a :: J, h => ⟨h a List.mem_cons_self, same_map ss (fun j hj => h j (List.mem_cons_of_mem _ hj))⟩
theorem dt_same {rs J : List Nat} {c d : Nat → Col} (h : ∀ j, j ∈ J → ∀ r, r ∈ rs → c j r = d j r) : dt rs J c = dt rs J d := same_D rs rs (fun _ h => h) _ _ (same_map rs h)
/-- Cramer's identity -/
theorem iot_sum (r : Nat) (v : Col) : ∀ (J : List Nat) (c : Nat → Col) (F : List Col → Int), J.Nodup → Alt F → iot r (J.map c) (fun l => F (v :: l)) = sL (fun j => c j r * F (J.map (up c j v))) J
  | [], c, F, _, _ => rfl
  | a :: J, c, F, nd, hF => by
    have hnd := List.nodup_cons.mp nd
    show c a r * F (v :: J.map c) - iot r (J.map c) (fun l => F (v :: c a :: l)) = c a r * F (up c a v a :: J.map (up c a v)) + sL (fun j => c j r * F (up c j v a :: J.map (up c j v))) J
    rw [iot_neg r (J.map c) (F := fun l => F (v :: c a :: l)) (G := fun l => F (c a :: v :: l)) (fun l => hF [] v (c a) l)]
    rw [iot_sum r v J c (fun l => F (c a :: l)) hnd.2 (fun p a b q => hF (c _ :: p) a b q)]
    rw [map_up c a v J hnd.1, up_s]
    have e : sL (fun j => c j r * F (c a :: J.map (up c j v))) J = sL (fun j => c j r * F (up c j v a :: J.map (up c j v))) J := sL_congr (fun j hj => by
      rw [up_n c v (fun (e : a = j) => hnd.1 (by rw [e]; exact hj))])
    rw [e]; omega
theorem cramer {rs J : List Nat} (nd : J.Nodup) {r : Nat} (hr : r ∈ rs) (c : Nat → Col) (v : Col) : v r * dt rs J c = sL (fun j => c j r * dt rs J (up c j v)) J := by
  have h1 : iot r (v :: J.map c) (D rs) = 0 := D_row hr (v :: J.map c)
  have h2 : v r * D rs (J.map c) - iot r (J.map c) (fun l => D rs (v :: l)) = 0 := h1
  rw [iot_sum r v J c (D rs) nd (D_alt rs)] at h2
  show v r * D rs (J.map c) = _
  have h3 : sL (fun j => c j r * D rs (J.map (up c j v))) J = sL (fun j => c j r * dt rs J (up c j v)) J := rfl
  omega
/-- two columns put in at once -/
theorem plucker {rs J : List Nat} (nd : J.Nodup) {i k : Nat} (hi : i ∈ J) (hk : k ∈ J) (hne : i ≠ k) (c : Nat → Col) (u v : Col) : dt rs J c * dt rs J (up (up c k u) i v) = dt rs J (up c k u) * dt rs J (up c i v) - dt rs J (up c i u) * dt rs J (up c k v) := by
  have h1 := dt_lin rs nd hi (up c k u) v v (dt rs J c) 0
  have e1 : dt rs J (up (up c k u) i (fun r => dt rs J c * v r + 0 * v r)) = dt rs J (up (up c k u) i (fun r => sL (fun j => dt rs J (up c j v) * c j r) J)) := dt_same (fun j _ r hr => by
    by_cases hj : j = i
    · subst hj
      rw [up_s, up_s]
      have := cramer nd hr c v
      have e2 : sL (fun j => dt rs J (up c j v) * c j r) J = sL (fun j => c j r * dt rs J (up c j v)) J := sL_congr (fun j _ => Int.mul_comm _ _)
      rw [e2, ← this, Int.mul_comm]; omega
    · rw [up_n _ _ hj, up_n _ _ hj])
  rw [e1, dt_sum rs nd hi (up c k u) (fun j => dt rs J (up c j v)) c J] at h1
  rw [sL_two nd hi hk hne (fun j hj hji hjk => by
    rw [dt_eq rs nd hi hj (Ne.symm hji) (up (up c k u) i (c j)) (by rw [up_s, up_n _ _ hji, up_n _ _ hjk]), Int.mul_zero])] at h1
  have e3 : up (up c k u) i (c i) = up c k u := by
    have : c i = up c k u i := (up_n c u hne).symm
    rw [this, up_id]
  have e4 : dt rs J (up (up c k u) i (c k)) = - dt rs J (up c i u) := by
    rw [dt_swap rs nd hk hi (Ne.symm hne) c u (c k), up_id]
  rw [e3, e4] at h1
  have h2 : dt rs J c * dt rs J (up (up c k u) i v) + 0 * dt rs J (up (up c k u) i v) = dt rs J c * dt rs J (up (up c k u) i v) := by omega
  rw [← h2, ← h1]
  grind
/-! elimination without fractions -/
def colE (j : Nat) : Col := fun r => if r = j then 1 else 0
def colA (A : Nat → Nat → Int) (j : Nat) : Col := fun r => A r j
def Bk (A : Nat → Nat → Int) (k : Nat) : Nat → Col := fun j => if j < k then colA A j else colE j
def dd (n : Nat) (A : Nat → Nat → Int) (k : Nat) : Int := dt (List.range n) (List.range n) (Bk A k)
def MM (n : Nat) (A : Nat → Nat → Int) (k i j : Nat) : Int := dt (List.range n) (List.range n) (up (Bk A k) i (colA A j))
theorem iot_z (r : Nat) : ∀ (l : List Col) (F : List Col → Int), (∀ a, a ∈ l → a r = 0) → iot r l F = 0
  | [], _, _ => rfl
  | a :: l, F, h => by
    show a r * F l - iot r l (fun l' => F (a :: l')) = 0
    rw [h a List.mem_cons_self, iot_z r l _ (fun b hb => h b (List.mem_cons_of_mem _ hb))]; omega
theorem D_unit : ∀ (J : List Nat), J.Nodup → D J (J.map colE) = 1
  | [], _ => rfl
  | r :: J, nd => by
    have h := List.nodup_cons.mp nd
    show colE r r * D J (J.map colE) - iot r (J.map colE) (fun l => D J (colE r :: l)) = 1
    rw [iot_z r (J.map colE) _ (fun a ha => by
      obtain ⟨j, hj, rfl⟩ := List.mem_map.mp ha
      exact if_neg (fun e => h.1 (by rw [e]; exact hj))), D_unit J h.2]
    have : colE r r = 1 := if_pos rfl
    rw [this]; rfl
variable {n : Nat} {A : Nat → Nat → Int}
theorem nd_n (n : Nat) : (List.range n).Nodup := List.nodup_range
theorem mem_n {n i : Nat} (h : i < n) : i ∈ List.range n := List.mem_range.mpr h
theorem dd_0 : dd n A 0 = 1 := by
  have e : Bk A 0 = colE := by funext j; exact if_neg (by omega)
  unfold dd dt; rw [e]; exact D_unit _ (nd_n n)
theorem MM_0 {i j : Nat} (hi : i < n) : MM n A 0 i j = A i j := by
  have e : Bk A 0 = colE := by funext j; exact if_neg (by omega)
  have h := cramer (rs := List.range n) (nd_n n) (mem_n hi) (Bk A 0) (colA A j)
  have h0 : dt (List.range n) (List.range n) (Bk A 0) = 1 := dd_0
  rw [h0, sL_one (nd_n n) (mem_n hi) (fun q _ hq => by
    rw [e]; show (if i = q then (1 : Int) else 0) * _ = 0
    rw [if_neg (Ne.symm hq)]; omega)] at h
  have e2 : Bk A 0 i i = 1 := by rw [e]; exact if_pos rfl
  rw [e2] at h
  unfold MM
  show dt _ _ _ = colA A j i
  omega
theorem Bk_s (A : Nat → Nat → Int) (k : Nat) : Bk A (k + 1) = up (Bk A k) k (colA A k) := by
  funext j
  unfold up Bk
  by_cases h : j = k
  · rw [if_pos h, if_pos (by omega), h]
  · rw [if_neg h]
    by_cases h2 : j < k
    · rw [if_pos h2, if_pos (by omega)]
    · rw [if_neg h2, if_neg (by omega)]
theorem dd_s (k : Nat) : dd n A (k + 1) = MM n A k k k := by unfold dd MM; rw [Bk_s]
theorem MM_k {k j : Nat} : MM n A (k + 1) k j = MM n A k k j := by unfold MM; rw [Bk_s, up_up]
theorem MM_s {k i j : Nat} (hk : k < n) (hi : i < n) (hne : i ≠ k) : dd n A k * MM n A (k + 1) i j = MM n A k k k * MM n A k i j - MM n A k i k * MM n A k k j := by
  unfold dd MM
  rw [Bk_s]
  exact plucker (nd_n n) (mem_n hi) (mem_n hk) hne (Bk A k) (colA A k) (colA A j)
theorem MM_done {k i j : Nat} (hj : j < k) (hk : k ≤ n) (hi : i < n) : MM n A k i j = if i = j then dd n A k else 0 := by
  have e : Bk A k j = colA A j := if_pos hj
  unfold MM
  rw [← e]
  split
  · rename_i h; rw [h, up_id]; rfl
  · rename_i h
    exact dt_eq _ (nd_n n) (mem_n hi) (mem_n (show j < n by omega)) h _ (by rw [up_s, up_n _ _ (Ne.symm h)])
/-- what the elimination ends with solves the equations -/
theorem solved {r b : Nat} (hr : r < n) : A r b * dd n A n = sL (fun j => A r j * MM n A n j b) (List.range n) := by
  have h := cramer (rs := List.range n) (nd_n n) (mem_n hr) (Bk A n) (colA A b)
  show colA A b r * _ = _
  rw [show dd n A n = dt (List.range n) (List.range n) (Bk A n) from rfl, h]
  exact sL_congr (fun j hj => by
    have e : Bk A n j = colA A j := if_pos (List.mem_range.mp hj)
    rw [e]; rfl)
/-- and nothing else does -/
theorem unique {b : Nat} {Y : Nat → Int} {E : Int} (h : ∀ r, r < n → sL (fun j => A r j * Y j) (List.range n) = E * A r b) {i : Nat} (hi : i < n) : Y i * dd n A n = E * MM n A n i b := by
  have h1 := dt_lin (List.range n) (nd_n n) (mem_n hi) (Bk A n) (colA A b) (colA A b) E 0
  have h2 := dt_sum (List.range n) (nd_n n) (mem_n hi) (Bk A n) Y (colA A) (List.range n)
  have h3 : dt (List.range n) (List.range n) (up (Bk A n) i (fun r => E * colA A b r + 0 * colA A b r)) = dt (List.range n) (List.range n) (up (Bk A n) i (fun r => sL (fun j => Y j * colA A j r) (List.range n))) := dt_same (fun j _ r hr => by
    by_cases hj : j = i
    · subst hj
      rw [up_s, up_s]
      have h4 := h r (List.mem_range.mp hr)
      have h5 : sL (fun j => Y j * colA A j r) (List.range n) = sL (fun j => A r j * Y j) (List.range n) := sL_congr (fun q _ => Int.mul_comm _ _)
      rw [h5, h4]
      show E * A r b + 0 * A r b = E * A r b
      omega
    · rw [up_n _ _ hj, up_n _ _ hj])
  rw [h3, h2] at h1
  have h6 : ∀ j, j ∈ List.range n → Y j * dt (List.range n) (List.range n) (up (Bk A n) i (colA A j)) = Y j * (if i = j then dd n A n else 0) := fun j hj => by
    have := MM_done (A := A) (List.mem_range.mp hj) (Nat.le_refl n) hi
    unfold MM at this
    rw [this]
  rw [sL_congr h6, sL_one (nd_n n) (mem_n hi) (fun q _ hq => by rw [if_neg (Ne.symm hq)]; omega), if_pos rfl] at h1
  unfold MM
  rw [h1]; omega
end DET
