/-! PURE PART, 44: in a tick: all partitions, step by step or one by one -/
def AE (E : Int → Int → Prop) (X Y : Nd) : Prop := ∀ a j, ¬ E a j → X a j = Y a j
theorem AE.up {E : Int → Int → Prop} {X Y : Nd} {a j v u : Int} (h : AE E X Y) (hv : v = u) : AE E (up X a j v) (up Y a j u) := fun b k hb => by
  rw [up_s, up_s, hv, h b k hb]
theorem coS_at {N : Nd} {p r a j : Int} (h : ¬ (a = 13016 ∧ j = 3 * p + r)) : coS N p r a j = N a j := by
  unfold coS
  split
  · rw [up_s, if_neg h]
  · rfl
theorem coP_at {N : Nd} {p a j : Int} (h : ¬ (a = 13016 ∧ 3 * p ≤ j ∧ j < 3 * p + 3)) : coP N p a j = N a j :=
  fo_inv (g := fun r N => coS N p r) (i0 := 0) (n := 3) (a := N) (fun _ s => s a j = N a j) rfl (fun i s i1 i2 h2 => (coS_at (fun q => h ⟨q.1, by omega, by omega⟩)).trans h2)
theorem fiS_at {N : Nd} {p r a j : Int} (h : ¬ (a = 13017 ∧ j = 3 * p + r)) (h2 : ¬ (a = 13014 ∧ j = p)) : fiS N p r a j = N a j := by
  unfold fiS cuN
  split
  · split
    · rw [up_s, if_neg h2, up_s, if_neg h]
    · split
      · rw [up_s, if_neg h2]
      · rfl
  · rfl
theorem fiP_at {N : Nd} {p a j : Int} (h : ¬ (a = 13017 ∧ 3 * p ≤ j ∧ j < 3 * p + 3)) (h2 : ¬ (a = 13014 ∧ j = p)) : fiP N p a j = N a j :=
  fo_inv (g := fun r N => fiS N p r) (i0 := 0) (n := 3) (a := N) (fun _ s => s a j = N a j) rfl (fun i s i1 i2 h3 => (fiS_at (fun q => h ⟨q.1, by omega, by omega⟩) h2).trans h3)
theorem coS_AE {E : Int → Int → Prop} {X Y : Nd} {p r : Int} (hE : ∀ a j, E a j → a = 13024 ∨ a = 13015 ∨ a = 13017 ∨ (a = 13014 ∧ j ≠ p)) (h : AE E X Y) : AE E (coS X p r) (coS Y p r) := by
  have ar : ∀ a j, a ≠ 13024 → a ≠ 13015 → a ≠ 13017 → (a = 13014 → j = p) → X a j = Y a j := fun a j z1 z2 z3 z4 => h a j fun z => by
    rcases hE a j z with z | z | z | z
    · exact z1 z
    · exact z2 z
    · exact z3 z
    · exact z.2 (z4 z.1)
  have n0 : ∀ a j, a ≠ 13024 → a ≠ 13015 → a ≠ 13017 → a ≠ 13014 → X a j = Y a j := fun a j z1 z2 z3 z4 => ar a j z1 z2 z3 (fun z => absurd z z4)
  have e1 : fol X p r ↔ fol Y p r := by
    unfold fol brk
    rw [n0 13012 p (by decide) (by decide) (by decide) (by decide), n0 13006 _ (by decide) (by decide) (by decide) (by decide), n0 13013 p (by decide) (by decide) (by decide) (by decide), n0 12000 2 (by decide) (by decide) (by decide) (by decide), n0 13007 _ (by decide) (by decide) (by decide) (by decide)]
  have e2 : eol X p = eol Y p := by
    unfold eol
    rw [n0 13013 p (by decide) (by decide) (by decide) (by decide), ar 13014 p (by decide) (by decide) (by decide) (fun _ => rfl), n0 13016 _ (by decide) (by decide) (by decide) (by decide), n0 13016 _ (by decide) (by decide) (by decide) (by decide)]
  unfold coS
  by_cases c : fol X p r
  · rw [if_pos c, if_pos (e1.mp c)]
    refine h.up ?_
    rw [e2, n0 13016 _ (by decide) (by decide) (by decide) (by decide), n0 12000 3 (by decide) (by decide) (by decide) (by decide)]
  · rw [if_neg c, if_neg (fun z => c (e1.mpr z))]
    exact h
theorem coP_AE {E : Int → Int → Prop} {X Y : Nd} {p : Int} (hE : ∀ a j, E a j → a = 13024 ∨ a = 13015 ∨ a = 13017 ∨ (a = 13014 ∧ j ≠ p)) (h : AE E X Y) : AE E (coP X p) (coP Y p) := by
  unfold coP
  generalize 3 = n
  induction n with
  | zero => exact h
  | succ n ih => rw [fo_S, fo_S]; exact coS_AE hE ih
theorem fiS_AE {E : Int → Int → Prop} {X Y : Nd} {p r : Int} (h3 : 0 ≤ r) (h4 : r < 3) (hE : ∀ a j, E a j → a = 13024 ∨ a = 13015 ∨ (a = 13016 ∧ (j < 3 * p ∨ 3 * p + 3 ≤ j))) (hb : ∀ N : Nd, -1 ≤ X 13013 p ∧ X 13013 p < 3) (h : AE E X Y) : AE E (fiS X p r) (fiS Y p r) := by
  have ar : ∀ a j, a ≠ 13024 → a ≠ 13015 → (a = 13016 → 3 * p ≤ j ∧ j < 3 * p + 3) → X a j = Y a j := fun a j z1 z2 z3 => h a j fun z => by
    rcases hE a j z with z | z | z
    · exact z1 z
    · exact z2 z
    · have := z3 z.1
      omega
  have n0 : ∀ a j, a ≠ 13024 → a ≠ 13015 → a ≠ 13016 → X a j = Y a j := fun a j z1 z2 z3 => ar a j z1 z2 (fun z => absurd z z3)
  have lw := @low_b (Y 13014 p)
  have lb := hb X
  have e1 : fol X p r ↔ fol Y p r := by
    unfold fol brk
    rw [n0 13012 p (by decide) (by decide) (by decide), n0 13006 _ (by decide) (by decide) (by decide), n0 13013 p (by decide) (by decide) (by decide), n0 12000 2 (by decide) (by decide) (by decide), n0 13007 _ (by decide) (by decide) (by decide)]
  have e2 : eol X p = eol Y p := by
    have e3 : X 13013 p = Y 13013 p := n0 13013 p (by decide) (by decide) (by decide)
    rw [e3] at lb
    unfold eol
    rw [e3, n0 13014 p (by decide) (by decide) (by decide)]
    by_cases c : Y 13013 p < 0
    · rw [if_pos c, if_pos c]
      exact ar 13016 _ (by decide) (by decide) (fun _ => by omega)
    · rw [if_neg c, if_neg c]
      exact ar 13016 _ (by decide) (by decide) (fun _ => by omega)
  have e4 : X 13016 (3 * p + r) = Y 13016 (3 * p + r) := ar 13016 _ (by decide) (by decide) (fun _ => by omega)
  have e5 : (X 12000 1) = (Y 12000 1) := n0 12000 1 (by decide) (by decide) (by decide)
  have e6 : X 13017 (3 * p + r) = Y 13017 (3 * p + r) := n0 13017 _ (by decide) (by decide) (by decide)
  have e7 : X 13014 p = Y 13014 p := n0 13014 p (by decide) (by decide) (by decide)
  unfold fiS cuN
  rw [e2, e4, e5, e6, e7]
  by_cases c : fol X p r
  · rw [if_pos c, if_pos (e1.mp c)]
    split
    · exact (h.up rfl).up rfl
    · split
      · exact h.up rfl
      · exact h
  · rw [if_neg c, if_neg (fun z => c (e1.mpr z))]
    exact h
theorem fiP_AE {E : Int → Int → Prop} {X Y : Nd} {p : Int} (hE : ∀ a j, E a j → a = 13024 ∨ a = 13015 ∨ (a = 13016 ∧ (j < 3 * p ∨ 3 * p + 3 ≤ j))) (hb : -1 ≤ X 13013 p ∧ X 13013 p < 3) (h : AE E X Y) : AE E (fiP X p) (fiP Y p) := by
  have key : ∀ n : Nat, n ≤ 3 → AE E (fo (fun r N => fiS N p r) 0 n X) (fo (fun r N => fiS N p r) 0 n Y) ∧ (fo (fun r N => fiS N p r) 0 n X) 13013 p = X 13013 p := by
    intro n
    induction n with
    | zero => intro _; exact ⟨h, rfl⟩
    | succ n ih =>
      intro hn
      obtain ⟨i1, i2⟩ := ih (by omega)
      rw [fo_S, fo_S]
      exact ⟨fiS_AE (by omega) (by omega) hE (fun _ => by rw [i2]; exact hb) i1, (congrFun (fiS_ar (by decide) (by decide)) _).trans i2⟩
  exact (key 3 (by omega)).1
theorem hw_AE {E : Int → Int → Prop} {X Y : Nd} {p : Int} (hE : ∀ a j, E a j → (a = 13016 ∧ (j < 3 * p ∨ 3 * p + 3 ≤ j)) ∨ (a = 13014 ∧ j ≠ p) ∨ a = 13017) (h : AE E X Y) : hw X p = hw Y p := by
  refine fo_congr fun i b i1 i2 => ?_
  unfold hwS
  rw [h 13014 p (fun z => by rcases hE _ _ z with z | z | z; exact absurd z.1 (by decide); exact z.2 rfl; exact absurd z (by decide)), h 13016 (3 * p + i) (fun z => by rcases hE _ _ z with z | z | z; omega; exact absurd z.1 (by decide); exact absurd z (by decide))]
theorem lgF_AE {E : Int → Int → Prop} {p : Int} (hE : ∀ a j, E a j → (a = 13016 ∧ (j < 3 * p ∨ 3 * p + 3 ≤ j)) ∨ (a = 13014 ∧ j ≠ p) ∨ a = 13017) : ∀ {n : Nat} {X Y : Nd}, AE E X Y → AE E (lgF p n X) (lgF p n Y)
  | 0, X, Y, h => h
  | n + 1, X, Y, h => by
    have n0 : ∀ a j, a ≠ 13016 → a ≠ 13014 → a ≠ 13017 → X a j = Y a j := fun a j z1 z2 z3 => h a j fun z => by
      rcases hE a j z with z | z | z
      · exact z1 z.1
      · exact z2 z.1
      · exact z3 z
    have eso : so X p = so Y p := by
      unfold so
      rw [hw_AE hE h]
      congr 1
      funext k
      unfold opn
      rw [n0 13018 _ (by decide) (by decide) (by decide), n0 13025 _ (by decide) (by decide) (by decide)]
    have est : sti X p = sti Y p := by
      refine su_congr fun k _ _ => ?_
      unfold stA
      rw [n0 13018 _ (by decide) (by decide) (by decide), n0 13024 _ (by decide) (by decide) (by decide)]
    have ec : lgC X p ↔ lgC Y p := by
      unfold lgC
      rw [eso, est, n0 13012 _ (by decide) (by decide) (by decide), n0 14008 _ (by decide) (by decide) (by decide), n0 13015 _ (by decide) (by decide) (by decide), n0 13010 _ (by decide) (by decide) (by decide), n0 13009 _ (by decide) (by decide) (by decide), n0 12000 1 (by decide) (by decide) (by decide), n0 13018 _ (by decide) (by decide) (by decide), n0 13027 _ (by decide) (by decide) (by decide)]
    unfold lgF
    by_cases c : lgC X p
    · rw [if_pos c, if_pos (ec.mp c)]
      refine lgF_AE hE ?_
      unfold lg1
      rw [n0 13015 _ (by decide) (by decide) (by decide), n0 13018 _ (by decide) (by decide) (by decide)]
      exact (h.up rfl).up rfl
    · rw [if_neg c, if_neg (fun z => c (ec.mpr z))]
      exact h
theorem co_lg {N : Nd} {p q : Int} (h : p ≠ q) : coP (lgN N q) p = lgN (coP N p) q := by
  funext a j
  by_cases e : a = 13016
  · subst e
    rw [congrFun (lgN_ar (N := coP N p) (a := 13016) (p := q) (by decide) (by decide)) j]
    exact coP_AE (E := fun a _ => a = 13024 ∨ a = 13015) (X := lgN N q) (Y := N) (fun a j z => z.elim Or.inl (fun z => Or.inr (Or.inl z))) (fun a j z => congrFun (lgN_ar (fun y => z (Or.inl y)) (fun y => z (Or.inr y))) j) 13016 j (by decide)
  · rw [congrFun (coP_ar (N := lgN N q) e) j]
    exact (lgF_AE (E := fun a j => a = 13016 ∧ 3 * p ≤ j ∧ j < 3 * p + 3) (X := coP N p) (Y := N) (fun a j z => Or.inl ⟨z.1, by omega⟩) (fun a j z => coP_at z) a j (fun z => e z.1)).symm
theorem fi_lg {N : Nd} {p q : Int} (h : p ≠ q) (hb : -1 ≤ N 13013 p ∧ N 13013 p < 3) : fiP (lgN N q) p = lgN (fiP N p) q := by
  funext a j
  by_cases e : a = 13017 ∨ a = 13014
  · have e2 : a ≠ 13024 ∧ a ≠ 13015 := by rcases e with e | e <;> subst e <;> decide
    rw [congrFun (lgN_ar (N := fiP N p) (a := a) (p := q) e2.1 e2.2) j]
    exact fiP_AE (E := fun a _ => a = 13024 ∨ a = 13015) (X := lgN N q) (Y := N) (fun a j z => z.elim Or.inl (fun z => Or.inr (Or.inl z))) (by rw [congrFun (lgN_ar (N := N) (a := 13013) (p := q) (by decide) (by decide)) p]; exact hb) (fun a j z => congrFun (lgN_ar (fun y => z (Or.inl y)) (fun y => z (Or.inr y))) j) a j (fun z => z.elim e2.1 e2.2)
  · rw [congrFun (fiP_ar (N := lgN N q) (fun z => e (Or.inl z)) (fun z => e (Or.inr z))) j]
    exact (lgF_AE (E := fun a j => (a = 13017 ∧ 3 * p ≤ j ∧ j < 3 * p + 3) ∨ (a = 13014 ∧ j = p)) (X := fiP N p) (Y := N) (fun a j z => z.elim (fun z => Or.inr (Or.inr z.1)) (fun z => Or.inr (Or.inl ⟨z.1, fun y => h (z.2.symm.trans y)⟩))) (fun a j z => fiP_at (fun y => z (Or.inl y)) (fun y => z (Or.inr y))) a j (fun z => e (z.elim (fun z => Or.inl z.1) (fun z => Or.inr z.1)))).symm
theorem co_fi {N : Nd} {p q : Int} (h : p ≠ q) (hb : -1 ≤ N 13013 q ∧ N 13013 q < 3) : coP (fiP N q) p = fiP (coP N p) q := by
  funext a j
  by_cases e : a = 13016
  · subst e
    rw [congrFun (fiP_ar (N := coP N p) (a := 13016) (p := q) (by decide) (by decide)) j]
    exact coP_AE (E := fun a j => (a = 13017 ∧ 3 * q ≤ j ∧ j < 3 * q + 3) ∨ (a = 13014 ∧ j = q)) (X := fiP N q) (Y := N) (fun a j z => z.elim (fun z => Or.inr (Or.inr (Or.inl z.1))) (fun z => Or.inr (Or.inr (Or.inr ⟨z.1, fun y => h (y.symm.trans z.2)⟩)))) (fun a j z => fiP_at (fun y => z (Or.inl y)) (fun y => z (Or.inr y))) 13016 j (fun z => by rcases z with z | z; exact absurd z.1 (by decide); exact absurd z.1 (by decide))
  · rw [congrFun (coP_ar (N := fiP N q) e) j]
    exact (fiP_AE (E := fun a j => a = 13016 ∧ 3 * p ≤ j ∧ j < 3 * p + 3) (X := coP N p) (Y := N) (fun a j z => Or.inr (Or.inr ⟨z.1, by omega⟩)) (by rw [congrFun (coP_ar (N := N) (a := 13013) (p := p) (by decide)) q]; exact hb) (fun a j z => coP_at z) a j (fun z => e z.1)).symm
/-- one partition, all three -/
def tkP (N : Nd) (p : Int) : Nd := lgN (fiP (coP N p) p) p
theorem tk_eq {N : Nd} (hb : ∀ p, 0 ≤ p → p < (N 12000 11) → -1 ≤ N 13013 p ∧ N 13013 p < 3) : ∀ n : Nat, (n : Int) ≤ (N 12000 11) → fo (fun p N => tkP N p) 0 n N = fo (fun p N => lgN N p) 0 n (fo (fun p N => fiP N p) 0 n (fo (fun p N => coP N p) 0 n N)) := by
  have cl : ∀ (n k : Nat) (X : Nd), k ≤ n → coP (fo (fun p N => lgN N p) 0 k X) (0 + (n : Int)) = fo (fun p N => lgN N p) 0 k (coP X (0 + (n : Int))) := by
    intro n k X hk
    induction k with
    | zero => rfl
    | succ k ih => rw [fo_S, fo_S, co_lg (by omega), ih (by omega)]
  have lead : ∀ (k : Nat) (X : Nd), (∀ p, 0 ≤ p → p < (N 12000 11) → X 13013 p = N 13013 p) → ∀ p, 0 ≤ p → p < (N 12000 11) → (fo (fun p N => lgN N p) 0 k X) 13013 p = N 13013 p := by
    intro k X hX p p1 p2
    exact fo_inv (g := fun p N => lgN N p) (i0 := 0) (n := k) (a := X) (fun _ s => s 13013 p = N 13013 p) (hX p p1 p2) (fun i s _ _ h => (congrFun (lgN_ar (by decide) (by decide)) p).trans h)
  have fl : ∀ (n k : Nat) (X : Nd), (∀ p, 0 ≤ p → p < (N 12000 11) → X 13013 p = N 13013 p) → k ≤ n → (n : Int) < (N 12000 11) → fiP (fo (fun p N => lgN N p) 0 k X) (0 + (n : Int)) = fo (fun p N => lgN N p) 0 k (fiP X (0 + (n : Int))) := by
    intro n k X hX hk hn
    induction k with
    | zero => rfl
    | succ k ih => rw [fo_S, fo_S, fi_lg (by omega) (by rw [lead k X hX _ (by omega) (by omega)]; exact hb _ (by omega) (by omega)), ih (by omega)]
  have lead2 : ∀ (k : Nat) (X : Nd), (∀ p, 0 ≤ p → p < (N 12000 11) → X 13013 p = N 13013 p) → ∀ p, 0 ≤ p → p < (N 12000 11) → (fo (fun p N => fiP N p) 0 k X) 13013 p = N 13013 p := by
    intro k X hX p p1 p2
    exact fo_inv (g := fun p N => fiP N p) (i0 := 0) (n := k) (a := X) (fun _ s => s 13013 p = N 13013 p) (hX p p1 p2) (fun i s _ _ h => (congrFun (fiP_ar (by decide) (by decide)) p).trans h)
  have cf : ∀ (n k : Nat) (X : Nd), (∀ p, 0 ≤ p → p < (N 12000 11) → X 13013 p = N 13013 p) → k ≤ n → (n : Int) < (N 12000 11) → coP (fo (fun p N => fiP N p) 0 k X) (0 + (n : Int)) = fo (fun p N => fiP N p) 0 k (coP X (0 + (n : Int))) := by
    intro n k X hX hk hn
    induction k with
    | zero => rfl
    | succ k ih => rw [fo_S, fo_S, co_fi (by omega) (by rw [lead2 k X hX _ (by omega) (by omega)]; exact hb _ (by omega) (by omega)), ih (by omega)]
  have lead3 : ∀ (k : Nat) (p : Int), (fo (fun p N => coP N p) 0 k N) 13013 p = N 13013 p := by
    intro k p
    exact fo_inv (g := fun p N => coP N p) (i0 := 0) (n := k) (a := N) (fun _ s => s 13013 p = N 13013 p) rfl (fun i s _ _ h => (congrFun (coP_ar (by decide)) p).trans h)
  intro n
  induction n with
  | zero => intro _; rfl
  | succ n ih =>
    intro hn
    rw [fo_S, ih (by omega)]
    unfold tkP
    rw [cl n n _ (Nat.le_refl _), cf n n _ (fun p _ _ => lead3 n p) (Nat.le_refl _) (by omega), fl n n _ (lead2 n _ (fun p _ _ => (congrFun (coP_ar (by decide)) p).trans (lead3 n p))) (Nat.le_refl _) (by omega)]
    rfl
