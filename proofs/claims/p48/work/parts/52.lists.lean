/-! PURE PART, 52: lists of letters -/
/-- where a list and its array lie -/
def LPl (lb ab i cap : Int) : Prop := (∀ (C : Cd) (N : Nd) (A : Ad) (j : Int), rd (mk C N A) (lb + i) j = C lb i j) ∧ (∀ (C : Cd) (N : Nd) (A : Ad) (j v : Int), wr (mk C N A) (lb + i) j v = mk (uq C lb i j v) N A) ∧ (∀ (C : Cd) (N : Nd) (A : Ad) (j : Int), rd (mk C N A) (ab + i) j = C ab i j) ∧ (∀ (C : Cd) (N : Nd) (A : Ad) (j v : Int), wr (mk C N A) (ab + i) j v = mk (uq C ab i j v) N A) ∧ ln (ab + i) = cap ∧ 0 ≤ i ∧ lb < 5000 ∧ 17000 ≤ ab ∧ cap ≤ 150 ∧ lb ≠ 2000 ∧ 0 < lb
theorem LPl.w {g : Int} (h1 : 0 ≤ g) (h2 : g < 3) : LPl 3000 17100 g 150 := ⟨fun _ _ _ _ => cr_3000 h1 h2, fun _ _ _ _ _ => cw_3000 h1 h2, fun _ _ _ _ => cr_17100 h1 h2, fun _ _ _ _ _ => cw_17100 h1 h2, lc_17100 h1 h2, h1, by omega, by omega, by omega, by omega, by omega⟩
theorem LPl.d {g : Int} (h1 : 0 ≤ g) (h2 : g < 3) : LPl 3003 17103 g 150 := ⟨fun _ _ _ _ => cr_3003 h1 h2, fun _ _ _ _ _ => cw_3003 h1 h2, fun _ _ _ _ => cr_17103 h1 h2, fun _ _ _ _ _ => cw_17103 h1 h2, lc_17103 h1 h2, h1, by omega, by omega, by omega, by omega, by omega⟩
theorem LPl.h {g : Int} (h1 : 0 ≤ g) (h2 : g < 36) : LPl 3006 17106 g 9 := ⟨fun _ _ _ _ => cr_3006 h1 h2, fun _ _ _ _ _ => cw_3006 h1 h2, fun _ _ _ _ => cr_17106 h1 h2, fun _ _ _ _ _ => cw_17106 h1 h2, lc_17106 h1 h2, h1, by omega, by omega, by omega, by omega, by omega⟩
/-- a list of n letters of group g, f -/
def LSr (C : Cd) (lb ab i g n : Int) (f : Int → Int) : Prop := C lb i 0 = ab + i ∧ C lb i 1 = n ∧ ∀ k, 0 ≤ k → k < n → C ab i k = 2000 + (150 * g + f k)
/-- all but a list is as it was -/
def LK (lb ab i : Int) (C C' : Cd) : Prop := ∀ b i' j, ¬ (b = ab ∧ i' = i) → ¬ (b = lb ∧ i' = i ∧ j = 1) → C' b i' j = C b i' j
theorem LK.rf {lb ab i : Int} {C : Cd} : LK lb ab i C C := fun _ _ _ _ _ => rfl
theorem LK.ua {lb ab i k v : Int} {C C1 : Cd} (h : LK lb ab i C C1) : LK lb ab i C (uq C1 ab i k v) := fun b i' j h1 h2 => by
  rw [uq_s, if_neg (fun q => h1 ⟨q.1, q.2.1⟩)]; exact h b i' j h1 h2
theorem LK.ul {lb ab i v : Int} {C C1 : Cd} (h : LK lb ab i C C1) : LK lb ab i C (uq C1 lb i 1 v) := fun b i' j h1 h2 => by
  rw [uq_s, if_neg (fun q => h2 q)]; exact h b i' j h1 h2
section LISTS
variable {C : Cd} {N N0 : Nd} {A : Ad} {lb ab i g n cap : Int} {f : Int → Int}
theorem c_get (hp : LPl lb ab i cap) (hl : LSr C lb ab i g n f) (hn : n ≤ cap) {k : Int} : p_X2_get (mk C N0 A) (lb + i) k = some (if 0 ≤ k ∧ k < n then 2000 + (150 * g + f k) else 0) := by
  obtain ⟨p1, p2, p3, p4, p5, p6, p7, p8, p9, p10, p11⟩ := hp
  obtain ⟨l1, l2, l3⟩ := hl
  unfold p_X2_get
  simp only [p1, l1, l2, p3, p5]
  by_cases c : k < 0
  · rw [if_pos c, if_neg (by omega)]
  · rw [if_neg c]
    by_cases c2 : k < n
    · rw [if_pos c2, gd_t (by omega), if_pos (by omega), gd_t ⟨by omega, by omega, by rw [p5]; omega⟩, if_pos ⟨by omega, c2⟩, l3 k (by omega) c2]
    · rw [if_neg c2, if_neg (by omega)]
theorem c_remove {m i0 : Int} (hp : LPl lb ab i cap) (hl : LSr C lb ab i g n f) (hn : n ≤ cap) (h0 : 0 ≤ i0) (h1 : i0 ≤ n) (hx : ∀ k, 0 ≤ k → k < n → (f k = m ↔ k = i0)) : Ok (p_X2_removeLetter (mk C N0 A) (lb + i) (2000 + (150 * g + m))) (fun M => ∃ C', M = mk C' N0 A ∧ LSr C' lb ab i g (if i0 < n then n - 1 else n) (fun k => if k < i0 then f k else f (k + 1)) ∧ LK lb ab i C C') := by
  obtain ⟨p1, p2, p3, p4, p5, p6, p7, p8, p9, p10, p11⟩ := hp
  obtain ⟨l1, l2, l3⟩ := hl
  unfold p_X2_removeLetter
  refine Ok.bnd (Q := fun s => ∃ C1, s = (if i0 < n then n - 1 else n, mk C1 N0 A) ∧ LK lb ab i C C1 ∧ ∀ k, 0 ≤ k → k < (if i0 < n then n - 1 else n) → C1 ab i k = 2000 + (150 * g + (if k < i0 then f k else f (k + 1)))) (lp_for (fun t s => ∃ C1, s = (if t ≤ i0 then t else t - 1, t, mk C1 N0 A) ∧ LK lb ab i C C1 ∧ C1 lb i 1 = n ∧ (∀ k, 0 ≤ k → k < (if t ≤ i0 then t else t - 1) → C1 ab i k = 2000 + (150 * g + (if k < i0 then f k else f (k + 1)))) ∧ ∀ k, t ≤ k → k < n → C1 ab i k = 2000 + (150 * g + f k)) 0 n.toNat ?_ ?_ (by omega) ⟨C, by rw [if_pos h0], LK.rf, l2, fun k a b => by rw [if_pos h0] at b; omega, fun k a b => l3 k a b⟩) ?_
  · rintro t s t1 t2 ⟨C1, rfl, k1, e1, q1, q2⟩
    have l1' : C1 lb i 0 = ab + i := (k1 lb i 0 (by omega) (by omega)).trans l1
    have qt := q2 t (Int.le_refl _) (by omega)
    have hxt := hx t t1 (by omega)
    unfold b_X2_removeLetter_4
    by_cases c : f t = m
    · have ct := hxt.mp c
      subst ct
      simp (disch := omega) only [aok, up_s, true_and, false_and, and_true, and_false, if_true, if_false, ↓reduceIte, ↓Option.bind_some, Int.reduceEq, Int.reduceNe, Int.reduceLT, Int.reduceLE, gd_true, gd_false, bind_b, q10, eq_self, reduceCtorEq, not_true_eq_false, not_false_eq_true, ne_eq, p1, p3, p4, p5, l1', e1, qt, c, gd_t, w_eq, if_pos]
      refine ⟨_, rfl, C1, ?_, k1, e1, fun k a b => ?_, fun k a b => q2 k (by omega) b⟩
      · congr 1; omega
      · rw [if_neg (by omega)] at b
        exact q1 k a (by rw [if_pos (Int.le_refl _)]; omega)
    · have ne : ¬ 2000 + (150 * g + f t) = 2000 + (150 * g + m) := by omega
      have nt : t ≠ i0 := fun z => c (hxt.mpr z)
      by_cases d : t ≤ i0
      · simp only [if_pos d] at q1 ⊢
        simp (disch := omega) only [aok, up_s, true_and, false_and, and_true, and_false, if_true, if_false, ↓reduceIte, ↓Option.bind_some, Int.reduceEq, Int.reduceNe, Int.reduceLT, Int.reduceLE, gd_true, gd_false, bind_b, q10, eq_self, reduceCtorEq, not_true_eq_false, not_false_eq_true, ne_eq, p1, p3, p4, p5, l1', e1, qt, ne, gd_t, w_eq, if_pos]
        refine ⟨_, rfl, uq C1 ab i t (2000 + (150 * g + f t)), ?_, k1.ua, ?_, fun k a b => ?_, fun k a b => ?_⟩
        · rfl
        · rw [uq_s, if_neg (by omega)]; exact e1
        · rw [uq_s]
          by_cases z : k = t
          · rw [if_pos ⟨rfl, rfl, z⟩, z, if_pos (by omega)]
          · rw [if_neg (fun y => z y.2.2)]
            exact q1 k a (by omega)
        · rw [uq_s, if_neg (by omega)]
          exact q2 k (by omega) b
      · simp only [if_neg d] at q1 ⊢
        simp (disch := omega) only [aok, up_s, true_and, false_and, and_true, and_false, if_true, if_false, ↓reduceIte, ↓Option.bind_some, Int.reduceEq, Int.reduceNe, Int.reduceLT, Int.reduceLE, gd_true, gd_false, bind_b, q10, eq_self, reduceCtorEq, not_true_eq_false, not_false_eq_true, ne_eq, p1, p3, p4, p5, l1', e1, qt, ne, gd_t, w_eq, if_pos]
        refine ⟨_, rfl, uq C1 ab i (t - 1) (2000 + (150 * g + f t)), ?_, k1.ua, ?_, fun k a b => ?_, fun k a b => ?_⟩
        · rw [if_neg (by omega)]; congr 1; omega
        · rw [uq_s, if_neg (by omega)]; exact e1
        · rw [if_neg (by omega)] at b
          rw [uq_s]
          by_cases z : k = t - 1
          · rw [if_pos ⟨rfl, rfl, z⟩, z, if_neg (by omega), show t - 1 + 1 = t by omega]
          · rw [if_neg (fun y => z y.2.2)]
            exact q1 k a (by omega)
        · rw [uq_s, if_neg (by omega)]
          exact q2 k (by omega) b
  · rintro s ⟨C1, rfl, k1, e1, q1, -⟩
    have nn : (0 : Int) + (n.toNat : Int) = n := by omega
    rw [nn] at q1 ⊢
    unfold b_X2_removeLetter_4
    simp (disch := omega) only [p1, e1, if_neg]
    have eq : (if n ≤ i0 then n else n - 1) = if i0 < n then n - 1 else n := by
      by_cases z : n ≤ i0
      · rw [if_pos z, if_neg (by omega)]
      · rw [if_neg z, if_pos (by omega)]
    rw [eq] at q1 ⊢
    exact ⟨_, rfl, C1, rfl, k1, q1⟩
  · rintro s ⟨C1, rfl, k1, q1⟩
    simp only [up_s, true_and, false_and, and_true, and_false, if_true, if_false, ↓reduceIte, ↓Option.bind_some, Int.reduceEq, Int.reduceNe, Int.reduceLT, Int.reduceLE, gd_true, gd_false, bind_b, q10, eq_self, reduceCtorEq, not_true_eq_false, not_false_eq_true, ne_eq, p2]
    refine ⟨_, rfl, _, rfl, ⟨?_, ?_, fun k a b => ?_⟩, k1.ul⟩
    · rw [uq_s, if_neg (by omega)]; exact (k1 lb i 0 (by omega) (by omega)).trans l1
    · rw [uq_s, if_pos ⟨rfl, rfl, rfl⟩]
    · rw [uq_s, if_neg (by omega)]; exact q1 k a b
theorem c_addLast {v : Int} (hp : LPl lb ab i cap) (hl : LSr C lb ab i g n f) (h0 : 0 ≤ n) (hn : n < cap) : p_X2_addLast (mk C N0 A) (lb + i) v = some (mk (uq (uq C ab i n v) lb i 1 (n + 1)) N0 A) := by
  obtain ⟨p1, p2, p3, p4, p5, p6, p7, p8, p9, p10, p11⟩ := hp
  obtain ⟨l1, l2, l3⟩ := hl
  unfold p_X2_addLast
  have n1 : ¬ (lb = ab ∧ i = i ∧ 1 = n) := by omega
  simp (disch := omega) only [aok, up_s, true_and, false_and, and_true, and_false, if_true, if_false, ↓reduceIte, ↓Option.bind_some, Int.reduceEq, Int.reduceNe, Int.reduceLT, Int.reduceLE, gd_true, gd_false, bind_b, q10, eq_self, reduceCtorEq, not_true_eq_false, not_false_eq_true, ne_eq, p1, p2, p3, p4, p5, l1, l2, uq_s, gd_t, w_eq, if_pos, if_neg]
theorem LSr.last {m : Int} (hp : LPl lb ab i cap) (hl : LSr C lb ab i g n f) (h0 : 0 ≤ n) : LSr (uq (uq C ab i n (2000 + (150 * g + m))) lb i 1 (n + 1)) lb ab i g (n + 1) (fun k => if k = n then m else f k) := by
  obtain ⟨p1, p2, p3, p4, p5, p6, p7, p8, p9, p10, p11⟩ := hp
  obtain ⟨l1, l2, l3⟩ := hl
  refine ⟨?_, ?_, fun k a b => ?_⟩
  · rw [uq_s, if_neg (by omega), uq_s, if_neg (by omega)]; exact l1
  · rw [uq_s, if_pos ⟨rfl, rfl, rfl⟩]
  · show uq (uq C ab i n (2000 + (150 * g + m))) lb i 1 (n + 1) ab i k = 2000 + (150 * g + (if k = n then m else f k))
    rw [uq_s, if_neg (by omega), uq_s]
    by_cases z : k = n
    · rw [if_pos ⟨rfl, rfl, z⟩, if_pos z]
    · rw [if_neg (fun y => z y.2.2), if_neg z]; exact l3 k a (by omega)
/-- the list with one more at q -/
def inf (f : Int → Int) (q m : Int) : Int → Int := fun k => if k < q then f k else if k = q then m else f (k - 1)
theorem c_addByDue {m q : Int} (hp : LPl lb ab i cap) (hl : LSr C lb ab i g n f) (h0 : 0 ≤ n) (hn : n < cap) (q0 : 0 ≤ q) (q1 : q ≤ n) (hm : 0 ≤ 150 * g + m)
    (hg : ∀ k, 0 ≤ k → k < n → 0 ≤ 150 * g + f k) (hb : ∀ C1, LK lb ab i C C1 → ∀ k, 0 ≤ k → k < n → p_X1_isBefore (mk C1 N0 A) (2000 + (150 * g + m)) (2000 + (150 * g + f k)) = some (if q ≤ k then 1 else 0)) : Ok (p_X2_addByDue (mk C N0 A) (lb + i) (2000 + (150 * g + m))) (fun M => ∃ C', M = mk C' N0 A ∧ LSr C' lb ab i g (n + 1) (inf f q m) ∧ LK lb ab i C C') := by
  obtain ⟨p1, p2, p3, p4, p5, p6, p7, p8, p9, p10, p11⟩ := hp
  obtain ⟨l1, l2, l3⟩ := hl
  unfold p_X2_addByDue
  simp (disch := omega) only [aok, up_s, true_and, false_and, and_true, and_false, if_true, if_false, ↓reduceIte, ↓Option.bind_some, Int.reduceEq, Int.reduceNe, Int.reduceLT, Int.reduceLE, gd_true, gd_false, bind_b, q10, eq_self, reduceCtorEq, not_true_eq_false, not_false_eq_true, ne_eq, p1, p3, p4, p5, l1, l2, gd_t, w_eq, if_pos]
  refine Ok.bnd (Q := fun s => ∃ C1, s = (q, mk C1 N0 A) ∧ LK lb ab i C C1 ∧ C1 lb i 1 = n ∧ (∀ k, 0 ≤ k → k < q → C1 ab i k = 2000 + (150 * g + f k)) ∧ ∀ k, q < k → k ≤ n → C1 ab i k = 2000 + (150 * g + f (k - 1))) (lp_dn (fun t s => ∃ C1, s = (if (t : Int) ≤ q then q else (t : Int), (t : Int) - 1, mk C1 N0 A) ∧ (t : Int) ≤ n ∧ LK lb ab i C C1 ∧ C1 lb i 1 = n ∧ (∀ k, 0 ≤ k → k < n → k < (if (t : Int) ≤ q then q else (t : Int)) → C1 ab i k = 2000 + (150 * g + f k)) ∧ ∀ k, (if (t : Int) ≤ q then q else (t : Int)) < k → k ≤ n → C1 ab i k = 2000 + (150 * g + f (k - 1))) ?_ ?_ n.toNat (by omega) ⟨C, ?_, by omega, LK.rf, l2, fun k a b _ => l3 k a b, fun k a b => by split at a <;> omega⟩) ?_
  · rintro t s ⟨C1, rfl, t1, k1, e1, a1, a2⟩
    have ct : ((t + 1 : Nat) : Int) = (t : Int) + 1 := by omega
    rw [ct] at a1 a2 t1 ⊢
    have l1' : C1 lb i 0 = ab + i := (k1 lb i 0 (by omega) (by omega)).trans l1
    have cur : C1 ab i (t : Int) = 2000 + (150 * g + f (t : Int)) := a1 _ (by omega) (by omega) (by split <;> omega)
    have hbt := hb C1 k1 (t : Int) (by omega) (by omega)
    have hgt := hg (t : Int) (by omega) (by omega)
    rw [show (t : Int) + 1 - 1 = (t : Int) by omega]
    unfold b_X2_addByDue_25
    by_cases c : q ≤ (t : Int)
    · rw [if_pos c] at hbt
      simp only [if_neg (show ¬ (t : Int) + 1 ≤ q by omega)] at a1 a2 ⊢
      simp (disch := omega) only [aok, up_s, true_and, false_and, and_true, and_false, if_true, if_false, ↓reduceIte, ↓Option.bind_some, Int.reduceEq, Int.reduceNe, Int.reduceLT, Int.reduceLE, gd_true, gd_false, bind_b, q10, eq_self, reduceCtorEq, not_true_eq_false, not_false_eq_true, ne_eq, p1, p3, p4, p5, l1', cur, hbt, gd_t, w_eq, if_pos, if_neg]
      refine ⟨_, rfl, uq C1 ab i ((t : Int) + 1) (2000 + (150 * g + f (t : Int))), ?_, by omega, k1.ua, ?_, fun k a b c2 => ?_, fun k a b => ?_⟩
      · congr 1
        by_cases z : (t : Int) ≤ q
        · rw [if_pos z]; omega
        · rw [if_neg z]
      · rw [uq_s, if_neg (by omega)]; exact e1
      · rw [uq_s, if_neg (by split at c2 <;> omega)]
        exact a1 k a b (by split at c2 <;> omega)
      · rw [uq_s]
        by_cases z : k = (t : Int) + 1
        · rw [if_pos ⟨rfl, rfl, z⟩, z, show (t : Int) + 1 - 1 = (t : Int) by omega]
        · rw [if_neg (fun y => z y.2.2)]
          exact a2 k (by split at a <;> omega) b
    · rw [if_neg c] at hbt
      simp only [if_pos (show (t : Int) + 1 ≤ q by omega)] at a1 a2 ⊢
      simp (disch := omega) only [aok, up_s, true_and, false_and, and_true, and_false, if_true, if_false, ↓reduceIte, ↓Option.bind_some, Int.reduceEq, Int.reduceNe, Int.reduceLT, Int.reduceLE, gd_true, gd_false, bind_b, q10, eq_self, reduceCtorEq, not_true_eq_false, not_false_eq_true, ne_eq, p1, p3, p4, p5, l1', cur, hbt, gd_t, w_eq, if_pos, if_neg]
      refine ⟨_, rfl, C1, ?_, by omega, k1, e1, fun k a b c2 => ?_, fun k a b => ?_⟩
      · rfl
      · exact a1 k a b c2
      · exact a2 k a b
  · rintro s ⟨C1, rfl, t1, k1, e1, a1, a2⟩
    have c0 : ((0 : Nat) : Int) = 0 := rfl
    simp only [c0, if_pos q0] at a1 a2 ⊢
    unfold b_X2_addByDue_25
    simp (disch := omega) only [if_pos]
    exact ⟨_, rfl, C1, rfl, k1, e1, fun k a b => a1 k a (by omega) b, a2⟩
  · have cn : ((n.toNat : Nat) : Int) = n := by omega
    rw [cn]
    congr 1
    by_cases z : n ≤ q
    · rw [if_pos z]; omega
    · rw [if_neg z]
  · rintro s ⟨C1, rfl, k1, e1, a1, a2⟩
    have l1' : C1 lb i 0 = ab + i := (k1 lb i 0 (by omega) (by omega)).trans l1
    have n1 : ¬ (lb = ab ∧ True ∧ 1 = q) := by omega
    simp (disch := omega) only [aok, up_s, true_and, false_and, and_true, and_false, if_true, if_false, ↓reduceIte, ↓Option.bind_some, Int.reduceEq, Int.reduceNe, Int.reduceLT, Int.reduceLE, gd_true, gd_false, bind_b, q10, eq_self, reduceCtorEq, not_true_eq_false, not_false_eq_true, ne_eq, p1, p2, p3, p4, p5, l1', e1, uq_s, gd_t, w_eq, if_pos, if_neg]
    refine ⟨_, rfl, _, rfl, ⟨?_, ?_, fun k a b => ?_⟩, k1.ua.ul⟩
    · rw [uq_s, if_neg (by omega), uq_s, if_neg (by omega)]; exact l1'
    · rw [uq_s, if_pos ⟨rfl, rfl, rfl⟩]
    · rw [uq_s, if_neg (by omega), uq_s]
      unfold inf
      by_cases z : k = q
      · rw [if_pos ⟨rfl, rfl, z⟩, if_neg (by omega), if_pos z]
      · rw [if_neg (fun y => z y.2.2)]
        by_cases z2 : k < q
        · rw [if_pos z2]; exact a1 k a z2
        · rw [if_neg z2, if_neg z]; exact a2 k (by omega) (by omega)
/-- what is looked up of letters -/
def LLt (C : Cd) (N : Nd) (g n : Int) (f : Int → Int) : Prop := ∀ k, 0 ≤ k → k < n → 0 ≤ f k ∧ f k < (N 12000 19) ∧ C 2000 (150 * g + f k) 0 = 5000 + f k
theorem c_ofMessage {m : Int} (hp : LPl lb ab i cap) (hl : LSr C lb ab i g n f) (h0 : 0 ≤ n) (hn : n ≤ cap) (G : RG N) (c : CC C N) (g1 : 0 ≤ g) (g2 : g < 3) (ll : LLt C N g n f) : p_X2_ofMessage (mk C N0 A) (lb + i) m = some (if ff (fun k => decide (f k = m)) n.toNat 0 < n then 2000 + (150 * g + m) else 0) := by
  have s5 := G.s.2.2.2.2.1
  have hget := fun k => c_get (N0 := N0) (A := A) (k := k) hp hl hn
  obtain ⟨p1, p2, p3, p4, p5, p6, p7, p8, p9, p10, p11⟩ := hp
  obtain ⟨l1, l2, l3⟩ := hl
  have fb := @ff_b (fun k => decide (f k = m)) n.toNat 0
  unfold p_X2_ofMessage
  have st : ∀ k, 0 ≤ k → k < n → b_X2_ofMessage_2 (mk C N0 A) (lb + i) m k = if f k = m then some (.inr (.inl (2000 + (150 * g + m)))) else some (.inl (k + 1)) := fun k k1 k2 => by
    obtain ⟨m1, m2, m3⟩ := ll k k1 k2
    have c0 := (c.m _ m1 m2).1
    have hk : 0 ≤ k ∧ k < n := ⟨k1, k2⟩
    unfold b_X2_ofMessage_2
    simp (disch := omega) only [aok, up_s, true_and, false_and, and_true, and_false, if_true, if_false, ↓reduceIte, ↓Option.bind_some, Int.reduceEq, Int.reduceNe, Int.reduceLT, Int.reduceLE, gd_true, gd_false, bind_b, q10, eq_self, reduceCtorEq, not_true_eq_false, not_false_eq_true, ne_eq, cr_11000, cr_15000, cr_16000, cr_20000, cr_20001, cr_21000, cr_22000, cr_25000, cr_1000, cr_2000, cr_3000, cr_3003, cr_3006, cr_4000, cr_5000, cr_6000, cr_7000, cr_8000, cr_9000, cr_10000, cr_13500, cr_17000, cr_17100, cr_17103, cr_17106, cr_19000, cr_20100, cr_21100, cr_23000, cr_24000, cw_11000, cw_15000, cw_16000, cw_20000, cw_20001, cw_21000, cw_22000, cw_25000, cw_1000, cw_2000, cw_3000, cw_3003, cw_3006, cw_4000, cw_5000, cw_6000, cw_7000, cw_8000, cw_9000, cw_10000, cw_13500, cw_17000, cw_17100, cw_17103, cw_17106, cw_19000, cw_20100, cw_21100, cw_23000, cw_24000, lc_13500, lc_15000, lc_16000, lc_17000, lc_17100, lc_17103, lc_17106, lc_19000, lc_20000, lc_20001, lc_20100, lc_21000, lc_21100, lc_22000, lc_23000, lc_24000, lc_25000, gd_t, w_eq, p1, l2, hget, m3, c0, hk, k2, if_pos, if_neg]
    by_cases z : f k = m
    · rw [if_pos z, if_pos z, z]
    · rw [if_neg z, if_neg z]
  rw [lp_ff (fun k => k) (fun k => decide (f k = m)) n.toNat 0 (t := if ff (fun k => decide (f k = m)) n.toNat 0 < n then .inl (2000 + (150 * g + m)) else .inr ()) (fun k k1 k2 hk => ?_) (fun a1 a2 => ?_) (fun a1 => ?_) (by omega) rfl]
  · by_cases z : ff (fun k => decide (f k = m)) n.toNat 0 < n
    · rw [if_pos z, if_pos z]; rfl
    · rw [if_neg z, if_neg z]; rfl
  · rw [st k k1 (by omega), if_neg (of_decide_eq_false hk)]
  · rw [st _ (by omega) (by omega), if_pos (of_decide_eq_true a2), if_pos (by omega)]
  · have e : (0 : Int) + (n.toNat : Int) = n := by omega
    rw [e]
    unfold b_X2_ofMessage_2
    rw [p1, l2, if_neg (by omega), if_neg (by omega)]
theorem c_countOf {p : Int} (hp : LPl lb ab i cap) (hl : LSr C lb ab i g n f) (h0 : 0 ≤ n) (hn : n ≤ cap) (G : RG N) (c : CC C N) (g1 : 0 ≤ g) (g2 : g < 3) (ll : LLt C N g n f) : p_X2_countOf (mk C N0 A) (lb + i) (6000 + p) = some (su (fun k => if N 13021 (f k) = p then 1 else 0) 0 n.toNat) := by
  have s5 := G.s.2.2.2.2.1
  have hget := fun k => c_get (N0 := N0) (A := A) (k := k) hp hl hn
  obtain ⟨p1, p2, p3, p4, p5, p6, p7, p8, p9, p10, p11⟩ := hp
  obtain ⟨l1, l2, l3⟩ := hl
  unfold p_X2_countOf
  rw [lp_su (fun b k => (b, k)) (fun k => if N 13021 (f k) = p then 1 else 0) 0 n.toNat 1 (fun _ _ _ => ite_b) (by omega) (fun k a k1 k2 a1 a2 => ?_) (t := su (fun k => if N 13021 (f k) = p then 1 else 0) 0 n.toNat) ?_ (by omega) rfl]
  · rfl
  · unfold b_X2_countOf_4
    simp (disch := omega) only [p1, l2, if_neg]
  · obtain ⟨m1, m2, m3⟩ := ll k k1 (by omega)
    have c0 := (c.m _ m1 m2).2.2.1
    have hk : 0 ≤ k ∧ k < n := ⟨k1, by omega⟩
    have k2' : k < n := by omega
    unfold b_X2_countOf_4
    by_cases z : N 13021 (f k) = p
    · rw [if_pos z] at a2 ⊢
      have z' : 6000 + N 13021 (f k) = 6000 + p := by omega
      simp (disch := omega) only [aok, up_s, true_and, false_and, and_true, and_false, if_true, if_false, ↓reduceIte, ↓Option.bind_some, Int.reduceEq, Int.reduceNe, Int.reduceLT, Int.reduceLE, gd_true, gd_false, bind_b, q10, eq_self, reduceCtorEq, not_true_eq_false, not_false_eq_true, ne_eq, cr_11000, cr_15000, cr_16000, cr_20000, cr_20001, cr_21000, cr_22000, cr_25000, cr_1000, cr_2000, cr_3000, cr_3003, cr_3006, cr_4000, cr_5000, cr_6000, cr_7000, cr_8000, cr_9000, cr_10000, cr_13500, cr_17000, cr_17100, cr_17103, cr_17106, cr_19000, cr_20100, cr_21100, cr_23000, cr_24000, cw_11000, cw_15000, cw_16000, cw_20000, cw_20001, cw_21000, cw_22000, cw_25000, cw_1000, cw_2000, cw_3000, cw_3003, cw_3006, cw_4000, cw_5000, cw_6000, cw_7000, cw_8000, cw_9000, cw_10000, cw_13500, cw_17000, cw_17100, cw_17103, cw_17106, cw_19000, cw_20100, cw_21100, cw_23000, cw_24000, lc_13500, lc_15000, lc_16000, lc_17000, lc_17100, lc_17103, lc_17106, lc_19000, lc_20000, lc_20001, lc_20100, lc_21000, lc_21100, lc_22000, lc_23000, lc_24000, lc_25000, gd_t, w_eq, p1, l2, hget, m3, c0, hk, k2', z', if_pos, if_neg]
    · rw [if_neg z, Int.add_zero]
      have z' : ¬ 6000 + N 13021 (f k) = 6000 + p := by omega
      simp (disch := omega) only [aok, up_s, true_and, false_and, and_true, and_false, if_true, if_false, ↓reduceIte, ↓Option.bind_some, Int.reduceEq, Int.reduceNe, Int.reduceLT, Int.reduceLE, gd_true, gd_false, bind_b, q10, eq_self, reduceCtorEq, not_true_eq_false, not_false_eq_true, ne_eq, cr_11000, cr_15000, cr_16000, cr_20000, cr_20001, cr_21000, cr_22000, cr_25000, cr_1000, cr_2000, cr_3000, cr_3003, cr_3006, cr_4000, cr_5000, cr_6000, cr_7000, cr_8000, cr_9000, cr_10000, cr_13500, cr_17000, cr_17100, cr_17103, cr_17106, cr_19000, cr_20100, cr_21100, cr_23000, cr_24000, cw_11000, cw_15000, cw_16000, cw_20000, cw_20001, cw_21000, cw_22000, cw_25000, cw_1000, cw_2000, cw_3000, cw_3003, cw_3006, cw_4000, cw_5000, cw_6000, cw_7000, cw_8000, cw_9000, cw_10000, cw_13500, cw_17000, cw_17100, cw_17103, cw_17106, cw_19000, cw_20100, cw_21100, cw_23000, cw_24000, lc_13500, lc_15000, lc_16000, lc_17000, lc_17100, lc_17103, lc_17106, lc_19000, lc_20000, lc_20001, lc_20100, lc_21000, lc_21100, lc_22000, lc_23000, lc_24000, lc_25000, gd_t, w_eq, p1, l2, hget, m3, c0, hk, k2', z', if_pos, if_neg]
theorem c_isOfRow {a m : Int} (G : RG N) (c : CC C N) (g1 : 0 ≤ g) (g2 : g < 3) (a1 : 0 ≤ a) (a2 : a < (N 12000 19)) (hm : C 2000 (150 * g + a) 0 = 5000 + a) (m1 : 0 ≤ m) (m2 : m < (N 12000 19)) : p_X1_isOfRow (mk C N0 A) (2000 + (150 * g + a)) (5000 + m) = some (if N 13021 a = N 13021 m ∧ N 13022 a = N 13022 m then 1 else 0) := by
  have s5 := G.s.2.2.2.2.1
  have ca := c.m a a1 a2
  have cm := c.m m m1 m2
  unfold p_X1_isOfRow
  simp (disch := omega) only [aok, up_s, true_and, false_and, and_true, and_false, if_true, if_false, ↓reduceIte, ↓Option.bind_some, Int.reduceEq, Int.reduceNe, Int.reduceLT, Int.reduceLE, gd_true, gd_false, bind_b, q10, eq_self, reduceCtorEq, not_true_eq_false, not_false_eq_true, ne_eq, cr_11000, cr_15000, cr_16000, cr_20000, cr_20001, cr_21000, cr_22000, cr_25000, cr_1000, cr_2000, cr_3000, cr_3003, cr_3006, cr_4000, cr_5000, cr_6000, cr_7000, cr_8000, cr_9000, cr_10000, cr_13500, cr_17000, cr_17100, cr_17103, cr_17106, cr_19000, cr_20100, cr_21100, cr_23000, cr_24000, cw_11000, cw_15000, cw_16000, cw_20000, cw_20001, cw_21000, cw_22000, cw_25000, cw_1000, cw_2000, cw_3000, cw_3003, cw_3006, cw_4000, cw_5000, cw_6000, cw_7000, cw_8000, cw_9000, cw_10000, cw_13500, cw_17000, cw_17100, cw_17103, cw_17106, cw_19000, cw_20100, cw_21100, cw_23000, cw_24000, lc_13500, lc_15000, lc_16000, lc_17000, lc_17100, lc_17103, lc_17106, lc_19000, lc_20000, lc_20001, lc_20100, lc_21000, lc_21100, lc_22000, lc_23000, lc_24000, lc_25000, gd_t, w_eq, hm, ca.2.2.1, cm.2.2.1, ca.2.2.2.1, cm.2.2.2.1]
  by_cases z : N 13021 a = N 13021 m
  · rw [if_pos (by omega)]
    by_cases z2 : N 13022 a = N 13022 m
    · rw [if_pos z2, if_pos ⟨z, z2⟩]
    · rw [if_neg z2, if_neg (fun y => z2 y.2)]
  · rw [if_neg (by omega), if_neg (fun y => z y.1)]
theorem c_noneOfRow {m o : Int} (hp : LPl lb ab i cap) (hl : LSr C lb ab i g n f) (h0 : 0 ≤ n) (hn : n ≤ cap) (G : RG N) (c : CC C N) (g1 : 0 ≤ g) (g2 : g < 3) (ll : LLt C N g n f) (m1 : 0 ≤ m) (m2 : m < (N 12000 19)) : Ok (p_X2_hasNoneOfRow (mk C N0 A) (lb + i) (5000 + m) o) (fun r => (r = 0 ∨ r = 1) ∧ (r = 1 ↔ ∀ k, 0 ≤ k → k < n → N 13021 (f k) = N 13021 m → N 13022 (f k) = N 13022 m → o ≤ N 13026 (f k))) := by
  have s5 := G.s.2.2.2.2.1
  have hget := fun k => c_get (N0 := N0) (A := A) (k := k) hp hl hn
  obtain ⟨p1, p2, p3, p4, p5, p6, p7, p8, p9, p10, p11⟩ := hp
  obtain ⟨l1, l2, l3⟩ := hl
  let P : Int → Prop := fun k => N 13021 (f k) = N 13021 m ∧ N 13022 (f k) = N 13022 m ∧ N 13026 (f k) < o
  have fb := @ff_b (fun k => decide (P k)) n.toNat 0
  unfold p_X2_hasNoneOfRow
  have st : ∀ k, 0 ≤ k → k < n → b_X2_hasNoneOfRow_2 (mk C N0 A) (lb + i) (5000 + m) o k = if P k then some (.inr (.inl 0)) else some (.inl (k + 1)) := fun k k1 k2 => by
    obtain ⟨x1, x2, x3⟩ := ll k k1 k2
    have c9 := (c.m _ x1 x2).2.2.2.2.2.2.2.2.2.1
    have hr := c_isOfRow (N0 := N0) (A := A) G c g1 g2 x1 x2 x3 m1 m2
    have hk : 0 ≤ k ∧ k < n := ⟨k1, k2⟩
    unfold b_X2_hasNoneOfRow_2
    by_cases z : N 13021 (f k) = N 13021 m ∧ N 13022 (f k) = N 13022 m
    · by_cases z2 : N 13026 (f k) < o
      · have pk : P k := ⟨z.1, z.2, z2⟩
        rw [if_pos pk]
        simp (disch := omega) only [aok, up_s, true_and, false_and, and_true, and_false, if_true, if_false, ↓reduceIte, ↓Option.bind_some, Int.reduceEq, Int.reduceNe, Int.reduceLT, Int.reduceLE, gd_true, gd_false, bind_b, q10, eq_self, reduceCtorEq, not_true_eq_false, not_false_eq_true, ne_eq, cr_11000, cr_15000, cr_16000, cr_20000, cr_20001, cr_21000, cr_22000, cr_25000, cr_1000, cr_2000, cr_3000, cr_3003, cr_3006, cr_4000, cr_5000, cr_6000, cr_7000, cr_8000, cr_9000, cr_10000, cr_13500, cr_17000, cr_17100, cr_17103, cr_17106, cr_19000, cr_20100, cr_21100, cr_23000, cr_24000, cw_11000, cw_15000, cw_16000, cw_20000, cw_20001, cw_21000, cw_22000, cw_25000, cw_1000, cw_2000, cw_3000, cw_3003, cw_3006, cw_4000, cw_5000, cw_6000, cw_7000, cw_8000, cw_9000, cw_10000, cw_13500, cw_17000, cw_17100, cw_17103, cw_17106, cw_19000, cw_20100, cw_21100, cw_23000, cw_24000, lc_13500, lc_15000, lc_16000, lc_17000, lc_17100, lc_17103, lc_17106, lc_19000, lc_20000, lc_20001, lc_20100, lc_21000, lc_21100, lc_22000, lc_23000, lc_24000, lc_25000, gd_t, w_eq, p1, l2, hget, hr, x3, c9, hk, k2, z, z2, if_pos, if_neg]
      · have pk : ¬ P k := fun y => z2 y.2.2
        rw [if_neg pk]
        simp (disch := omega) only [aok, up_s, true_and, false_and, and_true, and_false, if_true, if_false, ↓reduceIte, ↓Option.bind_some, Int.reduceEq, Int.reduceNe, Int.reduceLT, Int.reduceLE, gd_true, gd_false, bind_b, q10, eq_self, reduceCtorEq, not_true_eq_false, not_false_eq_true, ne_eq, cr_11000, cr_15000, cr_16000, cr_20000, cr_20001, cr_21000, cr_22000, cr_25000, cr_1000, cr_2000, cr_3000, cr_3003, cr_3006, cr_4000, cr_5000, cr_6000, cr_7000, cr_8000, cr_9000, cr_10000, cr_13500, cr_17000, cr_17100, cr_17103, cr_17106, cr_19000, cr_20100, cr_21100, cr_23000, cr_24000, cw_11000, cw_15000, cw_16000, cw_20000, cw_20001, cw_21000, cw_22000, cw_25000, cw_1000, cw_2000, cw_3000, cw_3003, cw_3006, cw_4000, cw_5000, cw_6000, cw_7000, cw_8000, cw_9000, cw_10000, cw_13500, cw_17000, cw_17100, cw_17103, cw_17106, cw_19000, cw_20100, cw_21100, cw_23000, cw_24000, lc_13500, lc_15000, lc_16000, lc_17000, lc_17100, lc_17103, lc_17106, lc_19000, lc_20000, lc_20001, lc_20100, lc_21000, lc_21100, lc_22000, lc_23000, lc_24000, lc_25000, gd_t, w_eq, p1, l2, hget, hr, x3, c9, hk, k2, z, z2, if_pos, if_neg]
    · have pk : ¬ P k := fun y => z ⟨y.1, y.2.1⟩
      rw [if_neg pk]
      rw [if_neg z] at hr
      simp (disch := omega) only [aok, up_s, true_and, false_and, and_true, and_false, if_true, if_false, ↓reduceIte, ↓Option.bind_some, Int.reduceEq, Int.reduceNe, Int.reduceLT, Int.reduceLE, gd_true, gd_false, bind_b, q10, eq_self, reduceCtorEq, not_true_eq_false, not_false_eq_true, ne_eq, cr_11000, cr_15000, cr_16000, cr_20000, cr_20001, cr_21000, cr_22000, cr_25000, cr_1000, cr_2000, cr_3000, cr_3003, cr_3006, cr_4000, cr_5000, cr_6000, cr_7000, cr_8000, cr_9000, cr_10000, cr_13500, cr_17000, cr_17100, cr_17103, cr_17106, cr_19000, cr_20100, cr_21100, cr_23000, cr_24000, cw_11000, cw_15000, cw_16000, cw_20000, cw_20001, cw_21000, cw_22000, cw_25000, cw_1000, cw_2000, cw_3000, cw_3003, cw_3006, cw_4000, cw_5000, cw_6000, cw_7000, cw_8000, cw_9000, cw_10000, cw_13500, cw_17000, cw_17100, cw_17103, cw_17106, cw_19000, cw_20100, cw_21100, cw_23000, cw_24000, lc_13500, lc_15000, lc_16000, lc_17000, lc_17100, lc_17103, lc_17106, lc_19000, lc_20000, lc_20001, lc_20100, lc_21000, lc_21100, lc_22000, lc_23000, lc_24000, lc_25000, gd_t, w_eq, p1, l2, hget, hr, hk, k2, if_pos, if_neg]
  rw [lp_ff (fun k => k) (fun k => decide (P k)) n.toNat 0 (t := if ff (fun k => decide (P k)) n.toNat 0 < n then .inl 0 else .inr ()) (fun k k1 k2 hk => ?_) (fun a1 a2 => ?_) (fun a1 => ?_) (by omega) rfl]
  · by_cases z : ff (fun k => decide (P k)) n.toNat 0 < n
    · rw [if_pos z]
      have y := of_decide_eq_true (ff_yes (P := fun k => decide (P k)) (n := n.toNat) (i := 0) (by omega))
      exact ⟨0, rfl, Or.inl rfl, fun h => by omega, fun h => by have := h _ fb.1 z y.1 y.2.1; have := y.2.2; omega⟩
    · rw [if_neg z]
      refine ⟨1, rfl, Or.inr rfl, fun _ k k1 k2 y1 y2 => ?_, fun _ => rfl⟩
      have y := of_decide_eq_false (ff_no (P := fun k => decide (P k)) (n := n.toNat) (i := 0) k1 (by omega))
      by_cases w1 : o ≤ N 13026 (f k)
      · exact w1
      · exact absurd ⟨y1, y2, by omega⟩ y
  · rw [st k k1 (by omega), if_neg (of_decide_eq_false hk)]
  · rw [st _ (by omega) (by omega), if_pos (of_decide_eq_true a2), if_pos (by omega)]
  · have e : (0 : Int) + (n.toNat : Int) = n := by omega
    rw [e]
    unfold b_X2_hasNoneOfRow_2
    rw [p1, l2, if_neg (by omega), if_neg (by omega)]
end LISTS
