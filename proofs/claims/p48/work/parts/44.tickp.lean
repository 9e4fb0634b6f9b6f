/-! PURE PART, 44: in a tick: all partitions, step by step or one by one -/
def AE (E : Int → Int → Prop) (X Y : Nd) : Prop := ∀ a j, ¬ E a j → X a j = Y a j
theorem AE.up {E : Int → Int → Prop} {X Y : Nd} {a j v u : Int} (h : AE E X Y) (hv : v = u) : AE E (up X a j v) (up Y a j u) := fun b k hb => by
  rw [up_s, up_s, hv, h b k hb]
theorem coS_at {N : Nd} {p r a j : Int} (h : ¬ (a = 13016 ∧ j = 3 * p + r)) : coS N p r a j = N a j := by
  unfold coS
  split
  · rw [up_s, if_neg h]
  · rfl
theorem coP_at {N : Nd} {p a j : Int} (h : ¬ (a = 13016 ∧ 3 * p ≤ j ∧ j < 3 * p + 3)) : coP N p a j = N a j :=
  fo_inv (g := fun r N => coS N p r) (i0 := 0) (n := 3) (a := N) (fun _ s => s a j = N a j) rfl (fun i s i1 i2 h2 => (coS_at (fun q => h ⟨q.1, by omega, by omega⟩)).trans h2)
theorem fiS_at {N : Nd} {p r a j : Int} (h : ¬ (a = 13017 ∧ j = 3 * p + r)) (h2 : ¬ (a = 13014 ∧ j = p)) : fiS N p r a j = N a j := by
  unfold fiS cuN
  split
  · split
    · rw [up_s, if_neg h2, up_s, if_neg h]
    · split
      · rw [up_s, if_neg h2]
      · rfl
  · rfl
theorem fiP_at {N : Nd} {p a j : Int} (h : ¬ (a = 13017 ∧ 3 * p ≤ j ∧ j < 3 * p + 3)) (h2 : ¬ (a = 13014 ∧ j = p)) : fiP N p a j = N a j :=
  fo_inv (g := fun r N => fiS N p r) (i0 := 0) (n := 3) (a := N) (fun _ s => s a j = N a j) rfl (fun i s i1 i2 h3 => (fiS_at (fun q => h ⟨q.1, by omega, by omega⟩) h2).trans h3)
theorem coS_AE {E : Int → Int → Prop} {X Y : Nd} {p r : Int} (hE : ∀ a j, E a j → a = 13024 ∨ a = 13015 ∨ a = 13017 ∨ (a = 13014 ∧ j ≠ p)) (h : AE E X Y) : AE E (coS X p r) (coS Y p r) := by
  have ar : ∀ a j, a ≠ 13024 → a ≠ 13015 → a ≠ 13017 → (a = 13014 → j = p) → X a j = Y a j := fun a j z1 z2 z3 z4 => h a j fun z => by
    rcases hE a j z with z | z | z | z
    · exact z1 z
    · exact z2 z
    · exact z3 z
    · exact z.2 (z4 z.1)
  have n0 : ∀ a j, a ≠ 13024 → a ≠ 13015 → a ≠ 13017 → a ≠ 13014 → X a j = Y a j := fun a j z1 z2 z3 z4 => ar a j z1 z2 z3 (fun z => absurd z z4)
  have e1 : fol X p r ↔ fol Y p r := by
    unfold fol brk
    rw [n0 13012 p (by decide) (by decide) (by decide) (by decide), n0 13006 _ (by decide) (by decide) (by decide) (by decide), n0 13013 p (by decide) (by decide) (by decide) (by decide), n0 12000 2 (by decide) (by decide) (by decide) (by decide), n0 13007 _ (by decide) (by decide) (by decide) (by decide)]
  have e2 : eol X p = eol Y p := by
    unfold eol
    rw [n0 13013 p (by decide) (by decide) (by decide) (by decide), ar 13014 p (by decide) (by decide) (by decide) (fun _ => rfl), n0 13016 _ (by decide) (by decide) (by decide) (by decide), n0 13016 _ (by decide) (by decide) (by decide) (by decide)]
  unfold coS
  by_cases c : fol X p r
  · rw [if_pos c, if_pos (e1.mp c)]
    refine h.up ?_
    rw [e2, n0 13016 _ (by decide) (by decide) (by decide) (by decide), n0 12000 3 (by decide) (by decide) (by decide) (by decide)]
  · rw [if_neg c, if_neg (fun z => c (e1.mpr z))]
    exact h
theorem coP_AE {E : Int → Int → Prop} {X Y : Nd} {p : Int} (hE : ∀ a j, E a j → a = 13024 ∨ a = 13015 ∨ a = 13017 ∨ (a = 13014 ∧ j ≠ p)) (h : AE E X Y) : AE E (coP X p) (coP Y p) := by
  unfold coP
  generalize 3 = n
  induction n with
  | zero => exact h
  | succ n ih => rw [fo_S, fo_S]; exact coS_AE hE ih
theorem fiS_AE {E : Int → Int → Prop} {X Y : Nd} {p r : Int} (h3 : 0 ≤ r) (h4 : r < 3) (hE : ∀ a j, E a j → a = 13024 ∨ a = 13015 ∨ (a = 13016 ∧ (j < 3 * p ∨ 3 * p + 3 ≤ j))) (hb : ∀ N : Nd, -1 ≤ X 13013 p ∧ X 13013 p < 3) (h : AE E X Y) : AE E (fiS X p r) (fiS Y p r) := by
  have ar : ∀ a j, a ≠ 13024 → a ≠ 13015 → (a = 13016 → 3 * p ≤ j ∧ j < 3 * p + 3) → X a j = Y a j := fun a j z1 z2 z3 => h a j fun z => by
    rcases hE a j z with z | z | z
    · exact z1 z
    · exact z2 z
    · have := z3 z.1
      omega
  have n0 : ∀ a j, a ≠ 13024 → a ≠ 13015 → a ≠ 13016 → X a j = Y a j := fun a j z1 z2 z3 => ar a j z1 z2 (fun z => absurd z z3)
  have lw := @low_b (Y 13014 p)
  have lb := hb X
  have e1 : fol X p r ↔ fol Y p r := by
    unfold fol brk
    rw [n0 13012 p (by decide) (by decide) (by decide), n0 13006 _ (by decide) (by decide) (by decide), n0 13013 p (by decide) (by decide) (by decide), n0 12000 2 (by decide) (by decide) (by decide), n0 13007 _ (by decide) (by decide) (by decide)]
  have e2 : eol X p = eol Y p := by
    have e3 : X 13013 p = Y 13013 p := n0 13013 p (by decide) (by decide) (by decide)
    rw [e3] at lb
    unfold eol
    rw [e3, n0 13014 p (by decide) (by decide) (by decide)]
    by_cases c : Y 13013 p < 0
    · rw [if_pos c, if_pos c]
      exact ar 13016 _ (by decide) (by decide) (fun _ => by omega)
    · rw [if_neg c, if_neg c]
      exact ar 13016 _ (by decide) (by decide) (fun _ => by omega)
  have e4 : X 13016 (3 * p + r) = Y 13016 (3 * p + r) := ar 13016 _ (by decide) (by decide) (fun _ => by omega)
  have e5 : (X 12000 1) = (Y 12000 1) := n0 12000 1 (by decide) (by decide) (by decide)
  have e6 : X 13017 (3 * p + r) = Y 13017 (3 * p + r) := n0 13017 _ (by decide) (by decide) (by decide)
  have e7 : X 13014 p = Y 13014 p := n0 13014 p (by decide) (by decide) (by decide)
  unfold fiS cuN
  rw [e2, e4, e5, e6, e7]
  by_cases c : fol X p r
  · rw [if_pos c, if_pos (e1.mp c)]
    split
    · exact (h.up rfl).up rfl
    · split
      · exact h.up rfl
      · exact h
  · rw [if_neg c, if_neg (fun z => c (e1.mpr z))]
    exact h
theorem fiP_AE {E : Int → Int → Prop} {X Y : Nd} {p : Int} (hE : ∀ a j, E a j → a = 13024 ∨ a = 13015 ∨ (a = 13016 ∧ (j < 3 * p ∨ 3 * p + 3 ≤ j))) (hb : -1 ≤ X 13013 p ∧ X 13013 p < 3) (h : AE E X Y) : AE E (fiP X p) (fiP Y p) := by
  have key : ∀ n : Nat, n ≤ 3 → AE E (fo (fun r N => fiS N p r) 0 n X) (fo (fun r N => fiS N p r) 0 n Y) ∧ (fo (fun r N => fiS N p r) 0 n X) 13013 p = X 13013 p := by
    intro n
    induction n with
    | zero => intro _; exact ⟨h, rfl⟩
    | succ n ih =>
      intro hn
      obtain ⟨i1, i2⟩ := ih (by omega)
      rw [fo_S, fo_S]
      exact ⟨fiS_AE (by omega) (by omega) hE (fun _ => by rw [i2]; exact hb) i1, (congrFun (fiS_ar (by decide) (by decide)) _).trans i2⟩
  exact (key 3 (by omega)).1
theorem hw_AE {E : Int → Int → Prop} {X Y : Nd} {p : Int} (hE : ∀ a j, E a j → (a = 13016 ∧ (j < 3 * p ∨ 3 * p + 3 ≤ j)) ∨ (a = 13014 ∧ j ≠ p) ∨ a = 13017) (h : AE E X Y) : hw X p = hw Y p := by
  refine fo_congr fun i b i1 i2 => ?_
  unfold hwS
  rw [h 13014 p (fun z => by rcases hE _ _ z with z | z | z; exact absurd z.1 (by decide); exact z.2 rfl; exact absurd z (by decide)), h 13016 (3 * p + i) (fun z => by rcases hE _ _ z with z | z | z; omega; exact absurd z.1 (by decide); exact absurd z (by decide))]
theorem lgF_AE {E : Int → Int → Prop} {p : Int} (hE : ∀ a j, E a j → (a = 13016 ∧ (j < 3 * p ∨ 3 * p + 3 ≤ j)) ∨ (a = 13014 ∧ j ≠ p) ∨ a = 13017) : ∀ {n : Nat} {X Y : Nd}, AE E X Y → AE E (lgF p n X) (lgF p n Y)
  | 0, X, Y, h => h
  | n + 1, X, Y, h => by
    have n0 : ∀ a j, a ≠ 13016 → a ≠ 13014 → a ≠ 13017 → X a j = Y a j := fun a j z1 z2 z3 => h a j fun z => by
      rcases hE a j z with z | z | z
      · exact z1 z.1
      · exact z2 z.1
      · exact z3 z
    have eso : so X p = so Y p := by
      unfold so
      rw [hw_AE hE h]
      congr 1
      funext k
      unfold opn
      rw [n0 13018 _ (by decide) (by decide) (by decide), n0 13025 _ (by decide) (by decide) (by decide)]
    have est : sti X p = sti Y p := by
      refine su_congr fun k _ _ => ?_
      unfold stA
      rw [n0 13018 _ (by decide) (by decide) (by decide), n0 13024 _ (by decide) (by decide) (by decide)]
    have ec : lgC X p ↔ lgC Y p := by
      unfold lgC
      rw [eso, est, n0 13012 _ (by decide) (by decide) (by decide), n0 14008 _ (by decide) (by decide) (by decide), n0 13015 _ (by decide) (by decide) (by decide), n0 13010 _ (by decide) (by decide) (by decide), n0 13009 _ (by decide) (by decide) (by decide), n0 12000 1 (by decide) (by decide) (by decide), n0 13018 _ (by decide) (by decide) (by decide), n0 13027 _ (by decide) (by decide) (by decide)]
    unfold lgF
    by_cases c : lgC X p
    · rw [if_pos c, if_pos (ec.mp c)]
      refine lgF_AE hE ?_
      unfold lg1
      rw [n0 13015 _ (by decide) (by decide) (by decide), n0 13018 _ (by decide) (by decide) (by decide)]
      exact (h.up rfl).up rfl
    · rw [if_neg c, if_neg (fun z => c (ec.mpr z))]
      exact h
theorem co_lg {N : Nd} {p q : Int} (h : p ≠ q) : coP (lgN N q) p = lgN (coP N p) q := by
  funext a j
  by_cases e : a = 13016
  · subst e
    rw [congrFun (lgN_ar (N := coP N p) (a := 13016) (p := q) (by decide) (by decide)) j]
    exact coP_AE (E := fun a _ => a = 13024 ∨ a = 13015) (X := lgN N q) (Y := N) (fun a j z => z.elim Or.inl (fun z => Or.inr (Or.inl z))) (fun a j z => congrFun (lgN_ar (fun y => z (Or.inl y)) (fun y => z (Or.inr y))) j) 13016 j (fun z => z.elim (by decide) (by decide))
  · rw [congrFun (coP_ar (N := lgN N q) e) j]
    exact (lgF_AE (E := fun a j => a = 13016 ∧ 3 * p ≤ j ∧ j < 3 * p + 3) (X := coP N p) (Y := N) (fun a j z => Or.inl ⟨z.1, by omega⟩) (fun a j z => coP_at z) a j (fun z => e z.1)).symm
theorem fi_lg {N : Nd} {p q : Int} (h : p ≠ q) (hb : -1 ≤ N 13013 p ∧ N 13013 p < 3) : fiP (lgN N q) p = lgN (fiP N p) q := by
  funext a j
  by_cases e : a = 13017 ∨ a = 13014
  · have e2 : a ≠ 13024 ∧ a ≠ 13015 := by rcases e with e | e <;> subst e <;> decide
    rw [congrFun (lgN_ar (N := fiP N p) (a := a) (p := q) e2.1 e2.2) j]
    exact fiP_AE (E := fun a _ => a = 13024 ∨ a = 13015) (X := lgN N q) (Y := N) (fun a j z => z.elim Or.inl (fun z => Or.inr (Or.inl z))) (by rw [congrFun (lgN_ar (N := N) (a := 13013) (p := q) (by decide) (by decide)) p]; exact hb) (fun a j z => congrFun (lgN_ar (fun y => z (Or.inl y)) (fun y => z (Or.inr y))) j) a j (fun z => z.elim e2.1 e2.2)
  · rw [congrFun (fiP_ar (N := lgN N q) (fun z => e (Or.inl z)) (fun z => e (Or.inr z))) j]
    exact (lgF_AE (E := fun a j => (a = 13017 ∧ 3 * p ≤ j ∧ j < 3 * p + 3) ∨ (a = 13014 ∧ j = p)) (X := fiP N p) (Y := N) (fun a j z => z.elim (fun z => Or.inr (Or.inr z.1)) (fun z => Or.inr (Or.inl ⟨z.1, fun y => h (z.2.symm.trans y)⟩))) (fun a j z => fiP_at (fun y => z (Or.inl y)) (fun y => z (Or.inr y))) a j (fun z => e (z.elim (fun z => Or.inl z.1) (fun z => Or.inr z.1)))).symm
theorem co_fi {N : Nd} {p q : Int} (h : p ≠ q) (hb : -1 ≤ N 13013 q ∧ N 13013 q < 3) : coP (fiP N q) p = fiP (coP N p) q := by
  funext a j
  by_cases e : a = 13016
  · subst e
    rw [congrFun (fiP_ar (N := coP N p) (a := 13016) (p := q) (by decide) (by decide)) j]
    exact coP_AE (E := fun a j => (a = 13017 ∧ 3 * q ≤ j ∧ j < 3 * q + 3) ∨ (a = 13014 ∧ j = q)) (X := fiP N q) (Y := N) (fun a j z => z.elim (fun z => Or.inr (Or.inr (Or.inl z.1))) (fun z => Or.inr (Or.inr (Or.inr ⟨z.1, fun y => h (y.symm.trans z.2)⟩)))) (fun a j z => fiP_at (fun y => z (Or.inl y)) (fun y => z (Or.inr y))) 13016 j (fun z => by rcases z with z | z; exact absurd z.1 (by decide); exact absurd z.1 (by decide))
  · rw [congrFun (coP_ar (N := fiP N q) e) j]
    exact (fiP_AE (E := fun a j => a = 13016 ∧ 3 * p ≤ j ∧ j < 3 * p + 3) (X := coP N p) (Y := N) (fun a j z => Or.inr (Or.inr ⟨z.1, by omega⟩)) (by rw [congrFun (coP_ar (N := N) (a := 13013) (p := p) (by decide)) q]; exact hb) (fun a j z => coP_at z) a j (fun z => e z.1)).symm
/-- one partition, all three -/
def tkP (N : Nd) (p : Int) : Nd := lgN (fiP (coP N p) p) p
theorem tk_eq {N : Nd} (hb : ∀ p, 0 ≤ p → p < (N 12000 11) → -1 ≤ N 13013 p ∧ N 13013 p < 3) : ∀ n : Nat, (n : Int) ≤ (N 12000 11) → fo (fun p N => tkP N p) 0 n N = fo (fun p N => lgN N p) 0 n (fo (fun p N => fiP N p) 0 n (fo (fun p N => coP N p) 0 n N)) := by
  have cl : ∀ (n k : Nat) (X : Nd), k ≤ n → coP (fo (fun p N => lgN N p) 0 k X) (0 + (n : Int)) = fo (fun p N => lgN N p) 0 k (coP X (0 + (n : Int))) := by
    intro n k X hk
    induction k with
    | zero => rfl
    | succ k ih => rw [fo_S, fo_S, co_lg (by omega), ih (by omega)]
  have lead : ∀ (k : Nat) (X : Nd), (∀ p, 0 ≤ p → p < (N 12000 11) → X 13013 p = N 13013 p) → ∀ p, 0 ≤ p → p < (N 12000 11) → (fo (fun p N => lgN N p) 0 k X) 13013 p = N 13013 p := by
    intro k X hX p p1 p2
    exact fo_inv (g := fun p N => lgN N p) (i0 := 0) (n := k) (a := X) (fun _ s => s 13013 p = N 13013 p) (hX p p1 p2) (fun i s _ _ h => (congrFun (lgN_ar (by decide) (by decide)) p).trans h)
  have fl : ∀ (n k : Nat) (X : Nd), (∀ p, 0 ≤ p → p < (N 12000 11) → X 13013 p = N 13013 p) → k ≤ n → (n : Int) < (N 12000 11) → fiP (fo (fun p N => lgN N p) 0 k X) (0 + (n : Int)) = fo (fun p N => lgN N p) 0 k (fiP X (0 + (n : Int))) := by
    intro n k X hX hk hn
    induction k with
    | zero => rfl
    | succ k ih => rw [fo_S, fo_S, fi_lg (by omega) (by rw [lead k X hX _ (by omega) (by omega)]; exact hb _ (by omega) (by omega)), ih (by omega)]
  have lead2 : ∀ (k : Nat) (X : Nd), (∀ p, 0 ≤ p → p < (N 12000 11) → X 13013 p = N 13013 p) → ∀ p, 0 ≤ p → p < (N 12000 11) → (fo (fun p N => fiP N p) 0 k X) 13013 p = N 13013 p := by
    intro k X hX p p1 p2
    exact fo_inv (g := fun p N => fiP N p) (i0 := 0) (n := k) (a := X) (fun _ s => s 13013 p = N 13013 p) (hX p p1 p2) (fun i s _ _ h => (congrFun (fiP_ar (by decide) (by decide)) p).trans h)
  have cf : ∀ (n k : Nat) (X : Nd), (∀ p, 0 ≤ p → p < (N 12000 11) → X 13013 p = N 13013 p) → k ≤ n → (n : Int) < (N 12000 11) → coP (fo (fun p N => fiP N p) 0 k X) (0 + (n : Int)) = fo (fun p N => fiP N p) 0 k (coP X (0 + (n : Int))) := by
    intro n k X hX hk hn
    induction k with
    | zero => rfl
    | succ k ih => rw [fo_S, fo_S, co_fi (by omega) (by rw [lead2 k X hX _ (by omega) (by omega)]; exact hb _ (by omega) (by omega)), ih (by omega)]
  have lead3 : ∀ (k : Nat) (p : Int), (fo (fun p N => coP N p) 0 k N) 13013 p = N 13013 p := by
    intro k p
    exact fo_inv (g := fun p N => coP N p) (i0 := 0) (n := k) (a := N) (fun _ s => s 13013 p = N 13013 p) rfl (fun i s _ _ h => (congrFun (coP_ar (by decide)) p).trans h)
  intro n
  induction n with
  | zero => intro _; rfl
  | succ n ih =>
    intro hn
    rw [fo_S, ih (by omega)]
    unfold tkP
    rw [cl n n _ (Nat.le_refl _), cf n n _ (fun p _ _ => lead3 n p) (Nat.le_refl _) (by omega), fl n n _ (lead2 n _ (fun p _ _ => (congrFun (coP_ar (by decide)) p).trans (lead3 n p))) (Nat.le_refl _) (by omega)]
    rfl
/-- ends stand at most at the log's -/
def EN (N : Nd) : Prop := ∀ p r, 0 ≤ p → p < (N 12000 11) → 0 ≤ r → r < 3 → N 13016 (3 * p + r) ≤ eol N p
def JT (N : Nd) : Prop := JL N ∧ EN N
theorem hw_ge {N : Nd} {q v : Int} (h0 : v ≤ 60) (h : ∀ r, 0 ≤ r → r < 3 → bt (N 13014 q) r = true → v ≤ N 13016 (3 * q + r)) : v ≤ hw N q :=
  fo_inv (g := hwS N q) (i0 := 0) (n := 3) (a := 60) (fun _ b => v ≤ b) h0 (fun i b i1 i2 hb => by
    unfold hwS
    split
    · rename_i e
      have := h i i1 (by omega) e
      split <;> omega
    · exact hb)
theorem so_mono {N N' : Nd} {q : Int} (h0 : 0 ≤ hw N q) (h1 : opn N' q = opn N q) (h2 : hw N q ≤ hw N' q) : so N q ≤ so N' q := by
  have b1 := @ff_b (opn N q) (hw N q).toNat 0
  have b2 := @ff_b (opn N q) (hw N' q).toNat 0
  unfold so
  rw [h1]
  by_cases e : ff (opn N q) (hw N' q).toNat 0 < ff (opn N q) (hw N q).toNat 0
  · have n1 := ff_no b2.1 e
    have y1 := @ff_yes (opn N q) (hw N' q).toNat 0 (by omega)
    rw [n1] at y1; cases y1
  · omega
theorem LM.ar {N N' : Nd} (h : LM N) (h0 : N' 12000 = N 12000) (h1 : N' 13018 = N 13018) (h2 : N' 13021 = N 13021) (h3 : N' 13026 = N 13026) (h4 : N' 13024 = N 13024) : LM N' := by
  unfold LM
  rw [h0, h1, h2, h3, h4]
  exact h
/-- logs as they were, ends of logs too, high watermarks not lower: what held of logs holds -/
theorem JT.ends {N N' : Nd} (j : JT N) (g' : RG N') (l' : LI N') (h0 : N' 12000 = N 12000) (h1 : N' 13018 = N 13018) (h2 : N' 13021 = N 13021) (h3 : N' 13026 = N 13026) (h4 : N' 13024 = N 13024) (h5 : N' 13025 = N 13025) (h6 : N' 13012 = N 13012) (h7 : N' 14008 = N 14008) (h8 : N' 13015 = N 13015)
    (he : ∀ q, 0 ≤ q → q < (N 12000 11) → eol N' q = eol N q) (hr : ∀ q r, 0 ≤ q → q < (N 12000 11) → 0 ≤ r → r < 3 → N' 13016 (3 * q + r) ≤ eol N q) (hh : ∀ q, 0 ≤ q → q < (N 12000 11) → hw N q ≤ hw N' q) : JT N' := by
  obtain ⟨⟨g, l, lm, fl, fi⟩, en⟩ := j
  have hp : N' 12000 11 = N 12000 11 := by rw [h0]
  refine ⟨⟨g', l', lm.ar h0 h1 h2 h3 h4, fun q k q1 q2 k1 k2 => ?_, fun q q1 q2 => ?_⟩, fun q r q1 q2 r1 r2 => ?_⟩
  · rw [hp] at q2
    rw [he q q1 q2, h1]
    exact fl q k q1 q2 k1 k2
  · rw [hp] at q2
    have hs := so_mono (N' := N') (hw_b g.e q1 q2).1 (by funext k; unfold opn; rw [h1, h5]) (hh q q1 q2)
    obtain ⟨i1, i2, i3⟩ := fi q q1 q2
    rw [h1, h4, h6, h7, h8]
    exact ⟨i1, i2, by omega⟩
  · rw [hp] at q2
    rw [he q q1 q2]
    exact hr q r q1 q2 r1 r2
theorem JT.coS {N : Nd} {p r : Int} (j : JT N) (h1 : 0 ≤ p) (h2 : p < (N 12000 11)) (h3 : 0 ≤ r) (h4 : r < 3) : JT (coS N p r) := by
  have g := j.1.1
  have en := j.2
  have s7 := g.s.2.2.2.2.2.2.1
  have LS : LI (Jvm.Pilot.@@N@@.coS N p r) := by
    intro q q1 q2
    have e0 : (Jvm.Pilot.@@N@@.coS N p r) 12000 11 = (N 12000 11) := congrFun (coS_ar (by decide)) _
    rw [e0] at q2
    rw [coS_ar (a := 13013) (by decide), coS_ar (a := 13014) (by decide)]
    exact j.1.2.1 q q1 q2
  have val : ∀ q k, 0 ≤ q → q < (N 12000 11) → 0 ≤ k → k < 3 → N 13016 (3 * q + k) ≤ (Jvm.Pilot.@@N@@.coS N p r) 13016 (3 * q + k) ∧ (Jvm.Pilot.@@N@@.coS N p r) 13016 (3 * q + k) ≤ eol N q ∧ (¬ (fol N p r ∧ q = p ∧ k = r) → (Jvm.Pilot.@@N@@.coS N p r) 13016 (3 * q + k) = N 13016 (3 * q + k)) := by
    intro q k q1 q2 k1 k2
    have ek := en q k q1 q2 k1 k2
    unfold Jvm.Pilot.@@N@@.coS
    by_cases c : fol N p r
    · rw [if_pos c, up_s]
      by_cases e : q = p ∧ k = r
      · obtain ⟨rfl, rfl⟩ := e
        rw [if_pos ⟨rfl, rfl⟩]
        refine ⟨?_, ?_, fun z => absurd ⟨c, rfl, rfl⟩ z⟩
        · split <;> omega
        · split <;> omega
      · rw [if_neg (fun z => e ⟨by have := z.2; omega, by have := z.2; omega⟩)]
        exact ⟨Int.le_refl _, ek, fun _ => rfl⟩
    · rw [if_neg c]
      exact ⟨Int.le_refl _, ek, fun _ => rfl⟩
  refine j.ends (g.coS h1 h2 h3 h4) LS (coS_ar (by decide)) (coS_ar (by decide)) (coS_ar (by decide)) (coS_ar (by decide)) (coS_ar (by decide)) (coS_ar (by decide)) (coS_ar (by decide)) (coS_ar (by decide)) (coS_ar (by decide)) (fun q q1 q2 => ?_) (fun q k q1 q2 k1 k2 => (val q k q1 q2 k1 k2).2.1) (fun q q1 q2 => ?_)
  · have lb := RP.lead g.t g.p q1 q2
    unfold eol
    rw [coS_ar (a := 13013) (by decide), coS_ar (a := 13014) (by decide)]
    by_cases c : N 13013 q < 0
    · rw [if_pos c, if_pos c]
      refine (val q _ q1 q2 low_b.1 low_b.2).2.2 ?_
      rintro ⟨f, rfl, -⟩
      have := f.2.1
      omega
    · rw [if_neg c, if_neg c]
      refine (val q _ q1 q2 (by omega) (by omega)).2.2 ?_
      rintro ⟨f, rfl, z⟩
      exact f.2.2.1 z.symm
  · refine hw_ge (hw_b g.e q1 q2).2 fun k k1 k2 hk => ?_
    rw [coS_ar (a := 13014) (by decide)] at hk
    have a1 := hw_le k1 k2 hk
    have a2 := (val q k q1 q2 k1 k2).1
    omega
theorem JT.fiS {N : Nd} {p r : Int} (j : JT N) (h1 : 0 ≤ p) (h2 : p < (N 12000 11)) (h3 : 0 ≤ r) (h4 : r < 3) : JT (fiS N p r) := by
  have g := j.1.1
  have en := j.2
  have l := j.1.2.1
  have ss := (g.p p h1 h2).2.2.1
  refine j.ends (g.fiS l h1 h2 h3 h4) (l.fiS g h1 h2 h3 h4) (fiS_ar (by decide) (by decide)) (fiS_ar (by decide) (by decide)) (fiS_ar (by decide) (by decide)) (fiS_ar (by decide) (by decide)) (fiS_ar (by decide) (by decide)) (fiS_ar (by decide) (by decide)) (fiS_ar (by decide) (by decide)) (fiS_ar (by decide) (by decide)) (fiS_ar (by decide) (by decide)) (fun q q1 q2 => ?_) (fun q k q1 q2 k1 k2 => by rw [fiS_ar (a := 13016) (by decide) (by decide)]; exact en q k q1 q2 k1 k2) (fun q q1 q2 => ?_)
  · unfold eol
    rw [fiS_ar (a := 13013) (by decide) (by decide), fiS_ar (a := 13016) (by decide) (by decide)]
    by_cases c : N 13013 q < 0
    · rw [if_pos c, if_pos c]
      have : (Jvm.Pilot.@@N@@.fiS N p r) 13014 q = N 13014 q := by
        by_cases e : q = p
        · subst e
          unfold Jvm.Pilot.@@N@@.fiS
          rw [if_neg (fun z => by have := z.2.1; omega)]
        · exact fiS_at (fun z => absurd z.1 (by decide)) (fun z => e z.2)
      rw [this]
    · rw [if_neg c, if_neg c]
  · refine hw_ge (hw_b g.e q1 q2).2 fun k k1 k2 hk => ?_
    rw [fiS_ar (a := 13016) (by decide) (by decide)]
    by_cases e : q = p
    · subst e
      unfold Jvm.Pilot.@@N@@.fiS at hk
      by_cases c : fol N q r
      · rw [if_pos c] at hk
        by_cases c2 : N 13016 (3 * q + r) = eol N q
        · rw [if_pos c2] at hk
          have hk2 : bt (sbt (N 13014 q) r) k = true := by
            unfold cuN at hk
            simp only [up_s, up_s, true_and, false_and, and_true, and_false, if_true, if_false, ↓reduceIte, ↓Option.bind_some, Int.reduceEq, Int.reduceNe, Int.reduceLT, Int.reduceLE, gd_true, gd_false, bind_b, q10, eq_self, reduceCtorEq, not_true_eq_false, not_false_eq_true, ne_eq] at hk
            exact hk
          rw [(sbt_ok ss.1 ss.2 h3 h4).2 k k1 k2] at hk2
          by_cases e2 : k = r
          · rw [e2, c2]
            exact hw_eol g l q1 q2
          · rw [if_neg e2] at hk2
            exact hw_le k1 k2 hk2
        · rw [if_neg c2] at hk
          split at hk
          · simp only [up_s, up_s, true_and, false_and, and_true, and_false, if_true, if_false, ↓reduceIte, ↓Option.bind_some, Int.reduceEq, Int.reduceNe, Int.reduceLT, Int.reduceLE, gd_true, gd_false, bind_b, q10, eq_self, reduceCtorEq, not_true_eq_false, not_false_eq_true, ne_eq] at hk
            rw [(clr_ok ss.1 ss.2 h3 h4).2 k k1 k2] at hk
            split at hk
            · exact hk.elim
            · exact hw_le k1 k2 hk
          · exact hw_le k1 k2 hk
      · rw [if_neg c] at hk
        exact hw_le k1 k2 hk
    · rw [fiS_at (a := 13014) (fun z => absurd z.1 (by decide)) (fun z => e z.2)] at hk
      exact hw_le k1 k2 hk
theorem JT.coP {N : Nd} {p : Int} (j : JT N) (h1 : 0 ≤ p) (h2 : p < (N 12000 11)) : JT (coP N p) :=
  (fo_inv (g := fun r N => Jvm.Pilot.@@N@@.coS N p r) (i0 := 0) (n := 3) (a := N) (fun _ s => JT s ∧ s 12000 11 = (N 12000 11)) ⟨j, rfl⟩ (fun i s i1 i2 h => ⟨h.1.coS h1 (by rw [h.2]; exact h2) i1 (by omega), (congrFun (coS_ar (by decide)) _).trans h.2⟩)).1
theorem JT.fiP {N : Nd} {p : Int} (j : JT N) (h1 : 0 ≤ p) (h2 : p < (N 12000 11)) : JT (fiP N p) :=
  (fo_inv (g := fun r N => Jvm.Pilot.@@N@@.fiS N p r) (i0 := 0) (n := 3) (a := N) (fun _ s => JT s ∧ s 12000 11 = (N 12000 11)) ⟨j, rfl⟩ (fun i s i1 i2 h => ⟨h.1.fiS h1 (by rw [h.2]; exact h2) i1 (by omega), (congrFun (fiS_ar (by decide) (by decide)) _).trans h.2⟩)).1
theorem JT.lgN {N : Nd} {p : Int} (j : JT N) (h1 : 0 ≤ p) (h2 : p < (N 12000 11)) : JT (lgN N p) := by
  refine ⟨JL.lgF h1 j.1 h2, fun q r q1 q2 r1 r2 => ?_⟩
  have e0 : (Jvm.Pilot.@@N@@.lgN N p) 12000 11 = (N 12000 11) := congrFun (lgN_ar (by decide) (by decide)) _
  rw [e0] at q2
  have ee : eol (Jvm.Pilot.@@N@@.lgN N p) q = eol N q := by
    unfold eol
    rw [lgN_ar (a := 13013) (by decide) (by decide), lgN_ar (a := 13016) (by decide) (by decide), lgN_ar (a := 13014) (by decide) (by decide)]
  rw [ee, lgN_ar (a := 13016) (by decide) (by decide)]
  exact j.2 q r q1 q2 r1 r2
theorem tkP_sc {N : Nd} {p j : Int} : tkP N p 12000 j = N 12000 j := by
  unfold tkP
  rw [lgN_ar (by decide) (by decide), fiP_ar (by decide) (by decide), coP_ar (by decide)]
theorem JT.tkP {N : Nd} {p : Int} (j : JT N) (h1 : 0 ≤ p) (h2 : p < (N 12000 11)) : JT (tkP N p) := by
  have e1 : (Jvm.Pilot.@@N@@.coP N p) 12000 11 = (N 12000 11) := congrFun (coP_ar (by decide)) _
  have e2 : (Jvm.Pilot.@@N@@.fiP (Jvm.Pilot.@@N@@.coP N p) p) 12000 11 = (N 12000 11) := (congrFun (fiP_ar (by decide) (by decide)) _).trans e1
  exact (((j.coP h1 h2).fiP h1 (by rw [e1]; exact h2)).lgN h1 (by rw [e2]; exact h2))
def tkA (N : Nd) : Nd := fo (fun p N => tkP N p) 0 ((N 12000 11)).toNat N
theorem tkA_eq {N : Nd} (g : RG N) : tkA N = lgA (fiA (coA N)) := by
  have s2 := g.s.2.1
  have e1 : (coA N) 12000 11 = (N 12000 11) := fo_inv (g := fun p N => coP N p) (i0 := 0) (n := ((N 12000 11)).toNat) (a := N) (fun _ s => s 12000 11 = (N 12000 11)) rfl (fun i s _ _ h => (congrFun (coP_ar (by decide)) _).trans h)
  have e2 : (fiA (coA N)) 12000 11 = (N 12000 11) := fo_inv (g := fun p N => fiP N p) (i0 := 0) (n := ((coA N) 12000 11).toNat) (a := coA N) (fun _ s => s 12000 11 = (N 12000 11)) e1 (fun i s _ _ h => (congrFun (fiP_ar (by decide) (by decide)) _).trans h)
  unfold lgA
  rw [e2]
  unfold fiA
  rw [e1]
  exact tk_eq (fun p p1 p2 => RP.lead g.t g.p p1 p2) _ (by omega)
theorem JT.tkA {N : Nd} (j : JT N) : JT (tkA N) := by
  have s2 := j.1.1.s.2.1
  exact (fo_inv (g := fun p N => Jvm.Pilot.@@N@@.tkP N p) (i0 := 0) (n := ((N 12000 11)).toNat) (a := N) (fun _ s => JT s ∧ s 12000 11 = (N 12000 11)) ⟨j, rfl⟩ (fun i s i1 i2 h => ⟨h.1.tkP i1 (by rw [h.2]; omega), tkP_sc.trans h.2⟩)).1
