/-! PURE PART, 77: attach -/
theorem CC.att6 {C : Cd} {N : Nd} {x v : Int} (c : CC C N) : CC (uq C 7000 x 6 v) N :=
  ⟨c.b, c.i, c.t, c.p, c.w, c.l, c.r, c.m, fun i h1 h2 => by
    have q := c.x i h1 h2
    simp only [uq_s, up_s, true_and, false_and, and_true, and_false, if_true, if_false, ↓reduceIte, ↓Option.bind_some, Int.reduceEq, Int.reduceNe, Int.reduceLT, Int.reduceLE, gd_true, gd_false, bind_b, q10, eq_self, reduceCtorEq, not_true_eq_false, not_false_eq_true, ne_eq, and_false]
    exact q⟩
theorem CC.att7 {C : Cd} {N : Nd} {x v : Int} (c : CC C N) : CC (uq C 7000 x 7 v) N :=
  ⟨c.b, c.i, c.t, c.p, c.w, c.l, c.r, c.m, fun i h1 h2 => by
    have q := c.x i h1 h2
    simp only [uq_s, up_s, true_and, false_and, and_true, and_false, if_true, if_false, ↓reduceIte, ↓Option.bind_some, Int.reduceEq, Int.reduceNe, Int.reduceLT, Int.reduceLE, gd_true, gd_false, bind_b, q10, eq_self, reduceCtorEq, not_true_eq_false, not_false_eq_true, ne_eq, and_false]
    exact q⟩
def ownK (N : Nd) (g j : Int) (i : Nat) : Int := su (fun p => if own N g j p then 1 else 0) 0 i
theorem ownK_b {N : Nd} {g j : Int} {i : Nat} : 0 ≤ ownK N g j i ∧ ownK N g j i ≤ i := by
  have := @su_b (fun p => if own N g j p then 1 else 0) 0 i 1 (fun _ _ _ => ite_b)
  unfold ownK
  omega
theorem ownK_S {N : Nd} {g j : Int} {i : Nat} : ownK N g j (i + 1) = ownK N g j i + if own N g j i then 1 else 0 := by
  unfold ownK
  rw [su_S, show (0 : Int) + (i : Int) = i by omega]
theorem ownK_9 {N : Nd} {g j : Int} (G : RG N) : ownK N g j ((N 12000 11)).toNat = ownK N g j 9 := by
  have s2 := G.s.2.1
  have e : (9 : Nat) = ((N 12000 11)).toNat + (9 - ((N 12000 11)).toNat) := by omega
  unfold ownK
  rw [e, su_add, su_zero (n := 9 - ((N 12000 11)).toNat) (fun k k1 k2 => if_neg (fun z => by have := z.1.2.1; omega)), Int.add_zero]
theorem ownK_pos {N : Nd} {g j p : Int} (h : own N g j p) (p2 : p < 9) : 0 < ownK N g j 9 := by
  have := su_ge (g := fun p => if own N g j p then (1 : Int) else 0) (i0 := 0) (n := 9) (fun i _ _ => ite_b.1) p h.1.1 (by omega)
  rw [if_pos h] at this
  unfold ownK
  omega
/-- the class's places, noted below i -/
def atC (C : Cd) (N : Nd) (x g j i : Int) : Cd := fun b y z => if b = 13500 ∧ y = x ∧ 0 ≤ z ∧ z < i then (if own N g j z then plv N g j z else -1) else C b y z
/-- the model's -/
def atN (B : Nd) (x g j i : Int) : Nd := fun b q => if b = 13039 ∧ 9 * x ≤ q ∧ q < 9 * x + i ∧ own B g j (q - 9 * x) then plv B g j (q - 9 * x) else if b = 13035 ∧ q = x then ownK B g j i.toNat else B b q
section ATT
variable {C : Cd} {N N0 B : Nd} {A : Ad} {x g j : Int}
theorem ac_0 : atC C N x g j 0 = C := by
  funext b y z
  unfold atC
  rw [if_neg (by omega)]
theorem ac_S {i : Int} (h : 0 ≤ i) : uq (atC C N x g j i) 13500 x i (if own N g j i then plv N g j i else -1) = atC C N x g j (i + 1) := by
  funext b y z
  rw [uq_s]
  unfold atC
  by_cases e : b = 13500 ∧ y = x ∧ z = i
  · rw [if_pos e, if_pos (show b = 13500 ∧ y = x ∧ 0 ≤ z ∧ z < i + 1 by omega), e.2.2]
  · rw [if_neg e]
    by_cases c : b = 13500 ∧ y = x ∧ 0 ≤ z ∧ z < i
    · rw [if_pos c, if_pos (show b = 13500 ∧ y = x ∧ 0 ≤ z ∧ z < i + 1 by omega)]
    · rw [if_neg c, if_neg (show ¬ (b = 13500 ∧ y = x ∧ 0 ≤ z ∧ z < i + 1) by omega)]
theorem c_notePlaces (jn : JN N) (c : CC C N) (a : GA C N g) (x1 : 0 ≤ x) (x2 : x < (N 12000 30)) (g1 : 0 ≤ g) (g2 : g < 3) (j1 : 0 ≤ j) (j2 : j < 12) (hi : N 13047 (12 * g + j) = 1) : p_X6_notePlaces (mk C N0 A) (7000 + x) (1000 + g) (4000 + (12 * g + j)) = some (ownK N g j 9, mk (uq (uq (uq (atC C N x g j 9) 7000 x 5 (if 0 < ownK N g j 9 then 1000 + g else 0)) 7000 x 6 (4000 + (12 * g + j))) 7000 x 7 (N 13043 g)) N0 A) := by
  have s3 := jn.g.s.2.2.1
  have c8 := (c.x x x1 x2).2.2.2.2.2
  have o6 := a.o.2.2.2.2.2.2.1
  have hlp : lp (b_X6_notePlaces_5 (7000 + x) (1000 + g) (4000 + (12 * g + j))) 1000 (0, 0, mk C N0 A) = some (ownK N g j 9, mk (atC C N x g j 9) N0 A) := by
    refine lp_seq (fun i : Nat => (ownK N g j i, (i : Int), mk (atC C N x g j i) N0 A)) 9 (fun i hi2 => ?_) ?_ (by omega) ?_
    · have i9 : (i : Int) < 9 := by omega
      have ic : ((i + 1 : Nat) : Int) = (i : Int) + 1 := by omega
      have kb := @ownK_b N g j i
      have ks := @ownK_S N g j i
      have c8' : atC C N x g j i 7000 x 8 = 13500 + x := c8
      have sa := c_shareAt (N0 := N0) (A := A) (C := atC C N x g j i) (p := i) jn.g a g1 g2
      have oe := obj_eq (g := g) (j := j) (a.np.o (p := i) (by omega) i9) g1 j1
      rw [ic, ← ac_S (by omega)]
      unfold b_X6_notePlaces_5
      by_cases r : gR N g i
      · have s1 : atC C N x g j i 9000 (9 * g + i) 1 = obj g (N 13055 (9 * g + i)) := ((a.sh i (by omega) i9).2 r).2.1
        rw [if_pos r] at sa
        by_cases e : N 13055 (9 * g + i) = j
        · have ow : own N g j i := ⟨r, e⟩
          have oe2 := oe.mpr e
          have pl : p_X3_placeIn (mk (atC C N x g j i) N0 A) (4000 + (12 * g + j)) (9000 + (9 * g + (i : Int))) = some (plv N g j i) := c_placeIn (N0 := N0) (A := A) (C := atC C N x g j i) (N := N) (p := i) jn.g c a g1 g2 j1 j2 hi r
          rw [if_pos ow] at ks
          rw [if_pos ow, ks]
          simp (disch := omega) only [aok, up_s, true_and, false_and, and_true, and_false, if_true, if_false, ↓reduceIte, ↓Option.bind_some, Int.reduceEq, Int.reduceNe, Int.reduceLT, Int.reduceLE, gd_true, gd_false, bind_b, q10, eq_self, reduceCtorEq, not_true_eq_false, not_false_eq_true, ne_eq, cr_11000, cr_15000, cr_16000, cr_20000, cr_20001, cr_21000, cr_22000, cr_25000, cr_1000, cr_2000, cr_3000, cr_3003, cr_3006, cr_4000, cr_5000, cr_6000, cr_7000, cr_8000, cr_9000, cr_10000, cr_13500, cr_17000, cr_17100, cr_17103, cr_17106, cr_19000, cr_20100, cr_21100, cr_23000, cr_24000, cw_11000, cw_15000, cw_16000, cw_20000, cw_20001, cw_21000, cw_22000, cw_25000, cw_1000, cw_2000, cw_3000, cw_3003, cw_3006, cw_4000, cw_5000, cw_6000, cw_7000, cw_8000, cw_9000, cw_10000, cw_13500, cw_17000, cw_17100, cw_17103, cw_17106, cw_19000, cw_20100, cw_21100, cw_23000, cw_24000, lc_13500, lc_15000, lc_16000, lc_17000, lc_17100, lc_17103, lc_17106, lc_19000, lc_20000, lc_20001, lc_20100, lc_21000, lc_21100, lc_22000, lc_23000, lc_24000, lc_25000, gd_t, w_eq, c8', i9, sa, s1, oe2, pl, if_neg]
        · have oe2 : ¬ obj g (N 13055 (9 * g + i)) = 4000 + (12 * g + j) := fun z => e (oe.mp z)
          have ow : ¬ own N g j i := fun z => e z.2
          rw [if_neg ow] at ks
          rw [if_neg ow, ks]
          simp (disch := omega) only [aok, up_s, true_and, false_and, and_true, and_false, if_true, if_false, ↓reduceIte, ↓Option.bind_some, Int.reduceEq, Int.reduceNe, Int.reduceLT, Int.reduceLE, gd_true, gd_false, bind_b, q10, eq_self, reduceCtorEq, not_true_eq_false, not_false_eq_true, ne_eq, cr_11000, cr_15000, cr_16000, cr_20000, cr_20001, cr_21000, cr_22000, cr_25000, cr_1000, cr_2000, cr_3000, cr_3003, cr_3006, cr_4000, cr_5000, cr_6000, cr_7000, cr_8000, cr_9000, cr_10000, cr_13500, cr_17000, cr_17100, cr_17103, cr_17106, cr_19000, cr_20100, cr_21100, cr_23000, cr_24000, cw_11000, cw_15000, cw_16000, cw_20000, cw_20001, cw_21000, cw_22000, cw_25000, cw_1000, cw_2000, cw_3000, cw_3003, cw_3006, cw_4000, cw_5000, cw_6000, cw_7000, cw_8000, cw_9000, cw_10000, cw_13500, cw_17000, cw_17100, cw_17103, cw_17106, cw_19000, cw_20100, cw_21100, cw_23000, cw_24000, lc_13500, lc_15000, lc_16000, lc_17000, lc_17100, lc_17103, lc_17106, lc_19000, lc_20000, lc_20001, lc_20100, lc_21000, lc_21100, lc_22000, lc_23000, lc_24000, lc_25000, gd_t, w_eq, c8', i9, sa, s1, oe2, if_neg]
      · have ow : ¬ own N g j i := fun z => r z.1
        rw [if_neg r] at sa
        rw [if_neg ow] at ks
        rw [if_neg ow, ks]
        simp (disch := omega) only [aok, up_s, true_and, false_and, and_true, and_false, if_true, if_false, ↓reduceIte, ↓Option.bind_some, Int.reduceEq, Int.reduceNe, Int.reduceLT, Int.reduceLE, gd_true, gd_false, bind_b, q10, eq_self, reduceCtorEq, not_true_eq_false, not_false_eq_true, ne_eq, cr_11000, cr_15000, cr_16000, cr_20000, cr_20001, cr_21000, cr_22000, cr_25000, cr_1000, cr_2000, cr_3000, cr_3003, cr_3006, cr_4000, cr_5000, cr_6000, cr_7000, cr_8000, cr_9000, cr_10000, cr_13500, cr_17000, cr_17100, cr_17103, cr_17106, cr_19000, cr_20100, cr_21100, cr_23000, cr_24000, cw_11000, cw_15000, cw_16000, cw_20000, cw_20001, cw_21000, cw_22000, cw_25000, cw_1000, cw_2000, cw_3000, cw_3003, cw_3006, cw_4000, cw_5000, cw_6000, cw_7000, cw_8000, cw_9000, cw_10000, cw_13500, cw_17000, cw_17100, cw_17103, cw_17106, cw_19000, cw_20100, cw_21100, cw_23000, cw_24000, lc_13500, lc_15000, lc_16000, lc_17000, lc_17100, lc_17103, lc_17106, lc_19000, lc_20000, lc_20001, lc_20100, lc_21000, lc_21100, lc_22000, lc_23000, lc_24000, lc_25000, gd_t, w_eq, c8', i9, sa]
    · have c8' : atC C N x g j ((9 : Nat) : Int) 7000 x 8 = 13500 + x := c8
      unfold b_X6_notePlaces_5
      simp (disch := omega) only [aok, up_s, true_and, false_and, and_true, and_false, if_true, if_false, ↓reduceIte, ↓Option.bind_some, Int.reduceEq, Int.reduceNe, Int.reduceLT, Int.reduceLE, gd_true, gd_false, bind_b, q10, eq_self, reduceCtorEq, not_true_eq_false, not_false_eq_true, ne_eq, cr_11000, cr_15000, cr_16000, cr_20000, cr_20001, cr_21000, cr_22000, cr_25000, cr_1000, cr_2000, cr_3000, cr_3003, cr_3006, cr_4000, cr_5000, cr_6000, cr_7000, cr_8000, cr_9000, cr_10000, cr_13500, cr_17000, cr_17100, cr_17103, cr_17106, cr_19000, cr_20100, cr_21100, cr_23000, cr_24000, cw_11000, cw_15000, cw_16000, cw_20000, cw_20001, cw_21000, cw_22000, cw_25000, cw_1000, cw_2000, cw_3000, cw_3003, cw_3006, cw_4000, cw_5000, cw_6000, cw_7000, cw_8000, cw_9000, cw_10000, cw_13500, cw_17000, cw_17100, cw_17103, cw_17106, cw_19000, cw_20100, cw_21100, cw_23000, cw_24000, lc_13500, lc_15000, lc_16000, lc_17000, lc_17100, lc_17103, lc_17106, lc_19000, lc_20000, lc_20001, lc_20100, lc_21000, lc_21100, lc_22000, lc_23000, lc_24000, lc_25000, gd_t, w_eq, c8', if_neg]
      rfl
    · show _ = (ownK N g j 0, ((0 : Nat) : Int), mk (atC C N x g j ((0 : Nat) : Int)) N0 A)
      rw [show ((0 : Nat) : Int) = 0 from rfl, ac_0]
      rfl
  have o6' : ∀ v u, uq (uq (atC C N x g j 9) 7000 x 5 v) 7000 x 6 u 1000 g 6 = N 13043 g := fun _ _ => o6
  unfold p_X6_notePlaces
  by_cases z : 0 < ownK N g j 9
  · simp (disch := omega) only [aok, up_s, true_and, false_and, and_true, and_false, if_true, if_false, ↓reduceIte, ↓Option.bind_some, Int.reduceEq, Int.reduceNe, Int.reduceLT, Int.reduceLE, gd_true, gd_false, bind_b, q10, eq_self, reduceCtorEq, not_true_eq_false, not_false_eq_true, ne_eq, cr_11000, cr_15000, cr_16000, cr_20000, cr_20001, cr_21000, cr_22000, cr_25000, cr_1000, cr_2000, cr_3000, cr_3003, cr_3006, cr_4000, cr_5000, cr_6000, cr_7000, cr_8000, cr_9000, cr_10000, cr_13500, cr_17000, cr_17100, cr_17103, cr_17106, cr_19000, cr_20100, cr_21100, cr_23000, cr_24000, cw_11000, cw_15000, cw_16000, cw_20000, cw_20001, cw_21000, cw_22000, cw_25000, cw_1000, cw_2000, cw_3000, cw_3003, cw_3006, cw_4000, cw_5000, cw_6000, cw_7000, cw_8000, cw_9000, cw_10000, cw_13500, cw_17000, cw_17100, cw_17103, cw_17106, cw_19000, cw_20100, cw_21100, cw_23000, cw_24000, lc_13500, lc_15000, lc_16000, lc_17000, lc_17100, lc_17103, lc_17106, lc_19000, lc_20000, lc_20001, lc_20100, lc_21000, lc_21100, lc_22000, lc_23000, lc_24000, lc_25000, gd_t, w_eq, hlp, z, o6']
  · simp (disch := omega) only [aok, up_s, true_and, false_and, and_true, and_false, if_true, if_false, ↓reduceIte, ↓Option.bind_some, Int.reduceEq, Int.reduceNe, Int.reduceLT, Int.reduceLE, gd_true, gd_false, bind_b, q10, eq_self, reduceCtorEq, not_true_eq_false, not_false_eq_true, ne_eq, cr_11000, cr_15000, cr_16000, cr_20000, cr_20001, cr_21000, cr_22000, cr_25000, cr_1000, cr_2000, cr_3000, cr_3003, cr_3006, cr_4000, cr_5000, cr_6000, cr_7000, cr_8000, cr_9000, cr_10000, cr_13500, cr_17000, cr_17100, cr_17103, cr_17106, cr_19000, cr_20100, cr_21100, cr_23000, cr_24000, cw_11000, cw_15000, cw_16000, cw_20000, cw_20001, cw_21000, cw_22000, cw_25000, cw_1000, cw_2000, cw_3000, cw_3003, cw_3006, cw_4000, cw_5000, cw_6000, cw_7000, cw_8000, cw_9000, cw_10000, cw_13500, cw_17000, cw_17100, cw_17103, cw_17106, cw_19000, cw_20100, cw_21100, cw_23000, cw_24000, lc_13500, lc_15000, lc_16000, lc_17000, lc_17100, lc_17103, lc_17106, lc_19000, lc_20000, lc_20001, lc_20100, lc_21000, lc_21100, lc_22000, lc_23000, lc_24000, lc_25000, gd_t, w_eq, hlp, z, o6']
theorem an_ar {i b : Int} (h1 : b ≠ 13039) (h2 : b ≠ 13035) : atN B x g j i b = B b := by
  funext q
  unfold atN
  rw [if_neg (fun z => h1 z.1), if_neg (fun z => h2 z.1)]
theorem an_s {i y : Int} : atN B x g j i 13035 y = if y = x then ownK B g j i.toNat else B 13035 y := by
  unfold atN
  simp only [up_s, true_and, false_and, and_true, and_false, if_true, if_false, ↓reduceIte, ↓Option.bind_some, Int.reduceEq, Int.reduceNe, Int.reduceLT, Int.reduceLE, gd_true, gd_false, bind_b, q10, eq_self, reduceCtorEq, not_true_eq_false, not_false_eq_true, ne_eq]
theorem an_p {i p y : Int} (i9 : i ≤ 9) (p1 : 0 ≤ p) (p2 : p < 9) : atN B x g j i 13039 (9 * y + p) = if y = x ∧ p < i ∧ own B g j p then plv B g j p else B 13039 (9 * y + p) := by
  unfold atN
  by_cases c : y = x ∧ p < i ∧ own B g j p
  · have e : 9 * y + p - 9 * x = p := by omega
    rw [if_pos c, e, if_pos (show (13039 : Int) = 13039 ∧ 9 * x ≤ 9 * y + p ∧ 9 * y + p < 9 * x + i ∧ own B g j p from ⟨rfl, by omega, by omega, c.2.2⟩)]
  · rw [if_neg c, if_neg, if_neg (fun z => absurd z.1 (by decide))]
    rintro ⟨-, z2, z3, z4⟩
    by_cases e : y = x
    · rw [show 9 * y + p - 9 * x = p by omega] at z4
      exact c ⟨e, by omega, z4⟩
    · omega
theorem an_0 (h : B 13035 x = 0) : atN B x g j 0 = B := by
  funext b q
  unfold atN
  rw [if_neg (by omega)]
  split
  · rename_i c
    rw [c.1, c.2, h]
    rfl
  · rfl
theorem an_y {i : Int} (i0 : 0 ≤ i) (i9 : i < 9) (h : own B g j i) : up (up (atN B x g j i) 13039 (9 * x + i) (plv B g j i)) 13035 x (ownK B g j i.toNat + 1) = atN B x g j (i + 1) := by
  have ks := @ownK_S B g j i.toNat
  rw [show ((i.toNat : Nat) : Int) = i by omega, if_pos h] at ks
  funext b q
  rw [up_s, up_s]
  unfold atN
  rw [show (i + 1).toNat = i.toNat + 1 by omega]
  by_cases e : b = 13035 ∧ q = x
  · rw [if_pos e, if_neg (show ¬ (b = 13039 ∧ 9 * x ≤ q ∧ q < 9 * x + (i + 1) ∧ own B g j (q - 9 * x)) from fun z => by have := z.1; omega), if_pos e, ks]
  · rw [if_neg e, if_neg e]
    by_cases c : b = 13039 ∧ q = 9 * x + i
    · rw [if_pos c, if_pos (show b = 13039 ∧ 9 * x ≤ q ∧ q < 9 * x + (i + 1) ∧ own B g j (q - 9 * x) from ⟨c.1, by omega, by omega, by rw [c.2, show 9 * x + i - 9 * x = i by omega]; exact h⟩), c.2, show 9 * x + i - 9 * x = i by omega]
    · rw [if_neg c]
      by_cases d : b = 13039 ∧ 9 * x ≤ q ∧ q < 9 * x + i ∧ own B g j (q - 9 * x)
      · rw [if_pos d, if_pos (show b = 13039 ∧ 9 * x ≤ q ∧ q < 9 * x + (i + 1) ∧ own B g j (q - 9 * x) from ⟨d.1, d.2.1, by omega, d.2.2.2⟩)]
      · rw [if_neg d, if_neg e, if_neg (show ¬ (b = 13039 ∧ 9 * x ≤ q ∧ q < 9 * x + (i + 1) ∧ own B g j (q - 9 * x)) from fun z => d ⟨z.1, z.2.1, by omega, z.2.2.2⟩)]
theorem an_n {i : Int} (i0 : 0 ≤ i) (h : ¬ own B g j i) : atN B x g j i = atN B x g j (i + 1) := by
  have ks := @ownK_S B g j i.toNat
  rw [show ((i.toNat : Nat) : Int) = i by omega, if_neg h, Int.add_zero] at ks
  funext b q
  unfold atN
  rw [show (i + 1).toNat = i.toNat + 1 by omega, ks]
  by_cases d : b = 13039 ∧ 9 * x ≤ q ∧ q < 9 * x + i ∧ own B g j (q - 9 * x)
  · rw [if_pos d, if_pos (show b = 13039 ∧ 9 * x ≤ q ∧ q < 9 * x + (i + 1) ∧ own B g j (q - 9 * x) from ⟨d.1, d.2.1, by omega, d.2.2.2⟩)]
  · rw [if_neg d, if_neg (show ¬ (b = 13039 ∧ 9 * x ≤ q ∧ q < 9 * x + (i + 1) ∧ own B g j (q - 9 * x)) from fun z => by
      by_cases e : q = 9 * x + i
      · have z4 := z.2.2.2
        rw [e, show 9 * x + i - 9 * x = i by omega] at z4
        exact h z4
      · exact d ⟨z.1, z.2.1, by omega, z.2.2.2⟩)]
theorem m_atLoop (jn : JN B) (a : GA C B g) (hB : B 13035 x = 0) (x1 : 0 ≤ x) (x2 : x < 4) (g1 : 0 ≤ g) (g2 : g < 3) (j1 : 0 ≤ j) (j2 : j < 12) (hi : B 13047 (12 * g + j) = 1) (C' : Cd) (A' : Ad) : lp (b_X11_attach_85 12000 g j x) 1000 (0, mk C' B A') = some (mk C' (atN B x g j ((B 12000 11))) A') := by
  have s2 := jn.g.s.2.1
  refine lp_seq (fun i : Nat => ((i : Int), mk C' (atN B x g j i) A')) ((B 12000 11)).toNat (fun i hi2 => ?_) ?_ (by omega) ?_
  · have i9 : (i : Int) < 9 := by omega
    have lt : (i : Int) < (B 12000 11) := by omega
    have ic : ((i + 1 : Nat) : Int) = (i : Int) + 1 := by omega
    have kb := @ownK_b B g j i
    have e11 : atN B x g j i 12000 11 = (B 12000 11) := congrFun (an_ar (by decide) (by decide)) _
    have es : atN B x g j i 13035 x = ownK B g j i := by rw [an_s, if_pos rfl]; rfl
    have ho : p_X11_owns (mk C' (atN B x g j i) A') 12000 g j i = some (if own B g j i then 1 else 0) := @m_owns C' (atN B x g j i) A' g i j jn.g g1 g2
    have pl : p_X11_placeOf (mk C' (atN B x g j i) A') 12000 g j i = some (plv B g j i) := @m_placeOf C (atN B x g j i) g j i jn a g1 g2 j1 j2 hi (by omega) i9 C' A'
    rw [ic]
    unfold b_X11_attach_85
    by_cases ow : own B g j i
    · rw [if_pos ow] at ho
      have ay := an_y (B := B) (x := x) (g := g) (j := j) (i := (i : Int)) (by omega) i9 ow
      rw [show ((i : Int)).toNat = i by omega] at ay
      rw [← ay]
      simp (disch := omega) only [aok, up_s, true_and, false_and, and_true, and_false, if_true, if_false, ↓reduceIte, ↓Option.bind_some, Int.reduceEq, Int.reduceNe, Int.reduceLT, Int.reduceLE, gd_true, gd_false, bind_b, q10, eq_self, reduceCtorEq, not_true_eq_false, not_false_eq_true, ne_eq, pt_0, pt_1, pt_2, pt_3, pt_4, pt_5, pt_6, pt_7, pt_8, pt_9, pt_10, pt_11, pt_12, pt_13, pt_14, pt_15, pt_16, pt_17, pt_18, pt_19, pt_20, pt_21, pt_22, pt_23, pt_24, pt_25, pt_26, pt_27, pt_28, pt_29, pt_30, pt_31, pt_32, pt_33, pt_34, pt_35, pt_36, pt_37, pt_38, pt_39, pt_40, pt_41, pt_42, pt_43, pt_44, pt_45, pt_46, pt_47, pt_48, pt_49, pt_50, pt_51, pt_52, pt_53, pt_54, pt_55, pt_56, pt_57, pt_58, pt_59, pt_60, pt_61, pt_62, pt_63, pt_64, pt_65, pt_66, pt_67, pa_13005, pw_13005, pa_13006, pw_13006, pa_13007, pw_13007, pa_14008, pw_14008, pa_13009, pw_13009, pa_13010, pw_13010, pa_13012, pw_13012, pa_13013, pw_13013, pa_13014, pw_13014, pa_13015, pw_13015, pa_13016, pw_13016, pa_13017, pw_13017, pa_13018, pw_13018, pa_13020, pw_13020, pa_13021, pw_13021, pa_13022, pw_13022, pa_13023, pw_13023, pa_13024, pw_13024, pa_13025, pw_13025, pa_13026, pw_13026, pa_13027, pw_13027, pa_13028, pw_13028, pa_13029, pw_13029, pa_13031, pw_13031, pa_13032, pw_13032, pa_13033, pw_13033, pa_14034, pw_14034, pa_13035, pw_13035, pa_13036, pw_13036, pa_13037, pw_13037, pa_13038, pw_13038, pa_13039, pw_13039, pa_13042, pw_13042, pa_13043, pw_13043, pa_13044, pw_13044, pa_13045, pw_13045, pa_13046, pw_13046, pa_13047, pw_13047, pa_13048, pw_13048, pa_13049, pw_13049, pa_13050, pw_13050, pa_13051, pw_13051, pa_13052, pw_13052, pa_13053, pw_13053, pa_13054, pw_13054, pa_13055, pw_13055, pa_13056, pw_13056, pa_13057, pw_13057, pa_13058, pw_13058, pa_13059, pw_13059, pa_13060, pw_13060, pa_13061, pw_13061, pa_13062, pw_13062, pa_13063, pw_13063, pa_13064, pw_13064, pa_13065, pw_13065, pa_13066, pw_13066, pa_13067, pw_13067, ps_0, ps_1, ps_2, ps_3, ps_4, ps_11, ps_19, ps_30, ps_40, ps_41, ln_13005, ln_13006, ln_13007, ln_14008, ln_13009, ln_13010, ln_13012, ln_13013, ln_13014, ln_13015, ln_13016, ln_13017, ln_13018, ln_13020, ln_13021, ln_13022, ln_13023, ln_13024, ln_13025, ln_13026, ln_13027, ln_13028, ln_13029, ln_13031, ln_13032, ln_13033, ln_14034, ln_13035, ln_13036, ln_13037, ln_13038, ln_13039, ln_13042, ln_13043, ln_13044, ln_13045, ln_13046, ln_13047, ln_13048, ln_13049, ln_13050, ln_13051, ln_13052, ln_13053, ln_13054, ln_13055, ln_13056, ln_13057, ln_13058, ln_13059, ln_13060, ln_13061, ln_13062, ln_13063, ln_13064, ln_13065, ln_13066, ln_13067, gd_t, w_eq, e11, lt, ho, pl, es]
    · rw [if_neg ow] at ho
      rw [← an_n (by omega) ow]
      simp (disch := omega) only [aok, up_s, true_and, false_and, and_true, and_false, if_true, if_false, ↓reduceIte, ↓Option.bind_some, Int.reduceEq, Int.reduceNe, Int.reduceLT, Int.reduceLE, gd_true, gd_false, bind_b, q10, eq_self, reduceCtorEq, not_true_eq_false, not_false_eq_true, ne_eq, pt_0, pt_1, pt_2, pt_3, pt_4, pt_5, pt_6, pt_7, pt_8, pt_9, pt_10, pt_11, pt_12, pt_13, pt_14, pt_15, pt_16, pt_17, pt_18, pt_19, pt_20, pt_21, pt_22, pt_23, pt_24, pt_25, pt_26, pt_27, pt_28, pt_29, pt_30, pt_31, pt_32, pt_33, pt_34, pt_35, pt_36, pt_37, pt_38, pt_39, pt_40, pt_41, pt_42, pt_43, pt_44, pt_45, pt_46, pt_47, pt_48, pt_49, pt_50, pt_51, pt_52, pt_53, pt_54, pt_55, pt_56, pt_57, pt_58, pt_59, pt_60, pt_61, pt_62, pt_63, pt_64, pt_65, pt_66, pt_67, pa_13005, pw_13005, pa_13006, pw_13006, pa_13007, pw_13007, pa_14008, pw_14008, pa_13009, pw_13009, pa_13010, pw_13010, pa_13012, pw_13012, pa_13013, pw_13013, pa_13014, pw_13014, pa_13015, pw_13015, pa_13016, pw_13016, pa_13017, pw_13017, pa_13018, pw_13018, pa_13020, pw_13020, pa_13021, pw_13021, pa_13022, pw_13022, pa_13023, pw_13023, pa_13024, pw_13024, pa_13025, pw_13025, pa_13026, pw_13026, pa_13027, pw_13027, pa_13028, pw_13028, pa_13029, pw_13029, pa_13031, pw_13031, pa_13032, pw_13032, pa_13033, pw_13033, pa_14034, pw_14034, pa_13035, pw_13035, pa_13036, pw_13036, pa_13037, pw_13037, pa_13038, pw_13038, pa_13039, pw_13039, pa_13042, pw_13042, pa_13043, pw_13043, pa_13044, pw_13044, pa_13045, pw_13045, pa_13046, pw_13046, pa_13047, pw_13047, pa_13048, pw_13048, pa_13049, pw_13049, pa_13050, pw_13050, pa_13051, pw_13051, pa_13052, pw_13052, pa_13053, pw_13053, pa_13054, pw_13054, pa_13055, pw_13055, pa_13056, pw_13056, pa_13057, pw_13057, pa_13058, pw_13058, pa_13059, pw_13059, pa_13060, pw_13060, pa_13061, pw_13061, pa_13062, pw_13062, pa_13063, pw_13063, pa_13064, pw_13064, pa_13065, pw_13065, pa_13066, pw_13066, pa_13067, pw_13067, ps_0, ps_1, ps_2, ps_3, ps_4, ps_11, ps_19, ps_30, ps_40, ps_41, ln_13005, ln_13006, ln_13007, ln_14008, ln_13009, ln_13010, ln_13012, ln_13013, ln_13014, ln_13015, ln_13016, ln_13017, ln_13018, ln_13020, ln_13021, ln_13022, ln_13023, ln_13024, ln_13025, ln_13026, ln_13027, ln_13028, ln_13029, ln_13031, ln_13032, ln_13033, ln_14034, ln_13035, ln_13036, ln_13037, ln_13038, ln_13039, ln_13042, ln_13043, ln_13044, ln_13045, ln_13046, ln_13047, ln_13048, ln_13049, ln_13050, ln_13051, ln_13052, ln_13053, ln_13054, ln_13055, ln_13056, ln_13057, ln_13058, ln_13059, ln_13060, ln_13061, ln_13062, ln_13063, ln_13064, ln_13065, ln_13066, ln_13067, gd_t, w_eq, e11, lt, ho]
  · have ei : ((((B 12000 11)).toNat : Nat) : Int) = (B 12000 11) := by omega
    have e11 : atN B x g j ((B 12000 11)) 12000 11 = (B 12000 11) := congrFun (an_ar (by decide) (by decide)) _
    rw [ei]
    unfold b_X11_attach_85
    simp (disch := omega) only [aok, up_s, true_and, false_and, and_true, and_false, if_true, if_false, ↓reduceIte, ↓Option.bind_some, Int.reduceEq, Int.reduceNe, Int.reduceLT, Int.reduceLE, gd_true, gd_false, bind_b, q10, eq_self, reduceCtorEq, not_true_eq_false, not_false_eq_true, ne_eq, pt_0, pt_1, pt_2, pt_3, pt_4, pt_5, pt_6, pt_7, pt_8, pt_9, pt_10, pt_11, pt_12, pt_13, pt_14, pt_15, pt_16, pt_17, pt_18, pt_19, pt_20, pt_21, pt_22, pt_23, pt_24, pt_25, pt_26, pt_27, pt_28, pt_29, pt_30, pt_31, pt_32, pt_33, pt_34, pt_35, pt_36, pt_37, pt_38, pt_39, pt_40, pt_41, pt_42, pt_43, pt_44, pt_45, pt_46, pt_47, pt_48, pt_49, pt_50, pt_51, pt_52, pt_53, pt_54, pt_55, pt_56, pt_57, pt_58, pt_59, pt_60, pt_61, pt_62, pt_63, pt_64, pt_65, pt_66, pt_67, pa_13005, pw_13005, pa_13006, pw_13006, pa_13007, pw_13007, pa_14008, pw_14008, pa_13009, pw_13009, pa_13010, pw_13010, pa_13012, pw_13012, pa_13013, pw_13013, pa_13014, pw_13014, pa_13015, pw_13015, pa_13016, pw_13016, pa_13017, pw_13017, pa_13018, pw_13018, pa_13020, pw_13020, pa_13021, pw_13021, pa_13022, pw_13022, pa_13023, pw_13023, pa_13024, pw_13024, pa_13025, pw_13025, pa_13026, pw_13026, pa_13027, pw_13027, pa_13028, pw_13028, pa_13029, pw_13029, pa_13031, pw_13031, pa_13032, pw_13032, pa_13033, pw_13033, pa_14034, pw_14034, pa_13035, pw_13035, pa_13036, pw_13036, pa_13037, pw_13037, pa_13038, pw_13038, pa_13039, pw_13039, pa_13042, pw_13042, pa_13043, pw_13043, pa_13044, pw_13044, pa_13045, pw_13045, pa_13046, pw_13046, pa_13047, pw_13047, pa_13048, pw_13048, pa_13049, pw_13049, pa_13050, pw_13050, pa_13051, pw_13051, pa_13052, pw_13052, pa_13053, pw_13053, pa_13054, pw_13054, pa_13055, pw_13055, pa_13056, pw_13056, pa_13057, pw_13057, pa_13058, pw_13058, pa_13059, pw_13059, pa_13060, pw_13060, pa_13061, pw_13061, pa_13062, pw_13062, pa_13063, pw_13063, pa_13064, pw_13064, pa_13065, pw_13065, pa_13066, pw_13066, pa_13067, pw_13067, ps_0, ps_1, ps_2, ps_3, ps_4, ps_11, ps_19, ps_30, ps_40, ps_41, ln_13005, ln_13006, ln_13007, ln_14008, ln_13009, ln_13010, ln_13012, ln_13013, ln_13014, ln_13015, ln_13016, ln_13017, ln_13018, ln_13020, ln_13021, ln_13022, ln_13023, ln_13024, ln_13025, ln_13026, ln_13027, ln_13028, ln_13029, ln_13031, ln_13032, ln_13033, ln_14034, ln_13035, ln_13036, ln_13037, ln_13038, ln_13039, ln_13042, ln_13043, ln_13044, ln_13045, ln_13046, ln_13047, ln_13048, ln_13049, ln_13050, ln_13051, ln_13052, ln_13053, ln_13054, ln_13055, ln_13056, ln_13057, ln_13058, ln_13059, ln_13060, ln_13061, ln_13062, ln_13063, ln_13064, ln_13065, ln_13066, ln_13067, gd_t, w_eq, e11, Int.lt_irrefl]
  · show _ = (((0 : Nat) : Int), mk C' (atN B x g j ((0 : Nat) : Int)) A')
    rw [show ((0 : Nat) : Int) = 0 from rfl, an_0 hB]
theorem an_9 (G : RG B) : atN B x g j ((B 12000 11)) = atN B x g j 9 := by
  have s2 := G.s.2.1
  funext b q
  unfold atN
  rw [ownK_9 G, show (9 : Int).toNat = 9 from rfl]
  by_cases c : b = 13039 ∧ 9 * x ≤ q ∧ q < 9 * x + 9 ∧ own B g j (q - 9 * x)
  · rw [if_pos c, if_pos (show b = 13039 ∧ 9 * x ≤ q ∧ q < 9 * x + (B 12000 11) ∧ own B g j (q - 9 * x) from ⟨c.1, c.2.1, by have := c.2.2.2.1.2.1; omega, c.2.2.2⟩)]
  · rw [if_neg c, if_neg (show ¬ (b = 13039 ∧ 9 * x ≤ q ∧ q < 9 * x + (B 12000 11) ∧ own B g j (q - 9 * x)) from fun z => c ⟨z.1, z.2.1, by omega, z.2.2.2⟩)]
/-- the model's table, ahead of the loop -/
def atB (N : Nd) (x g j : Int) : Nd := up (up (up (fgI N x 9) 13036 x g) 13037 x j) 13038 x (N 13043 g)
theorem JJ.att {n : Int} (jj : JJ n C N A) (x1 : 0 ≤ x) (x2 : x < (N 12000 30)) (hx : 0 ≤ N 13033 x) (g1 : 0 ≤ g) (g2 : g < (N 12000 41)) (j1 : 0 ≤ j) (j2 : j < 12) (hi : N 13047 (12 * g + j) = 1) : JJ (n + 1) (uq (uq (uq (atC C N x g j 9) 7000 x 5 (if 0 < ownK N g j 9 then 1000 + g else 0)) 7000 x 6 (4000 + (12 * g + j))) 7000 x 7 (N 13043 g)) (atN (atB N x g j) x g j 9) A := by
  obtain ⟨l, d1, d2⟩ := jj.d
  have G := jj.jn.g
  have s3 := G.s.2.2.1
  have s4 := G.s.2.2.2.1
  have s2 := G.s.2.1
  have gr := jj.gr g1 g2
  have kb := @ownK_b N g j 9
  have eK : ownK (atB N x g j) g j 9 = ownK N g j 9 := rfl
  have eO : ∀ p, own (atB N x g j) g j p ↔ own N g j p := fun p => Iff.rfl
  have eV : ∀ p, plv (atB N x g j) g j p = plv N g j p := fun p => rfl
  have bP : ∀ y p, 0 ≤ p → p < 9 → (atB N x g j) 13039 (9 * y + p) = if y = x then -1 else N 13039 (9 * y + p) := fun y p p1 p2 => by
    show fgI N x 9 13039 (9 * y + p) = _
    unfold fgI
    rw [ra_s, if_pos rfl]
    by_cases e : y = x
    · rw [if_pos e, if_pos (by omega)]
    · rw [if_neg e, if_neg (by omega)]
  have bS : ∀ y, (atB N x g j) 13035 y = if y = x then 0 else N 13035 y := fun y => by
    show fgI N x 9 13035 y = _
    unfold fgI
    rw [ra_s, if_neg (by decide), up_s]
    by_cases e : y = x
    · rw [if_pos e, if_pos ⟨rfl, e⟩]
    · rw [if_neg e, if_neg (fun z => e z.2)]
  have ar : ∀ b, b ≠ 13035 → b ≠ 13039 → b ≠ 13036 → b ≠ 13037 → b ≠ 13038 → atN (atB N x g j) x g j 9 b = N b := fun b b1 b2 b3 b4 b5 => by
    rw [an_ar b2 b1]
    funext q
    unfold atB
    rw [up_s, if_neg (fun z => b5 z.1), up_s, if_neg (fun z => b4 z.1), up_s, if_neg (fun z => b3 z.1), fgI_ar b1 b2]
  have xg : ∀ y, atN (atB N x g j) x g j 9 13036 y = if y = x then g else N 13036 y := fun y => by
    rw [an_ar (by decide) (by decide)]
    show up (fgI N x 9) 13036 x g 13036 y = _
    rw [up_s]
    by_cases e : y = x
    · rw [if_pos e, if_pos ⟨rfl, e⟩]
    · rw [if_neg e, if_neg (fun z => e z.2), fgI_ar (by decide) (by decide)]
  have xm : ∀ y, atN (atB N x g j) x g j 9 13037 y = if y = x then j else N 13037 y := fun y => by
    rw [an_ar (by decide) (by decide)]
    show up (fgI N x 9) 13037 x j 13037 y = _
    rw [up_s]
    by_cases e : y = x
    · rw [if_pos e, if_pos ⟨rfl, e⟩]
    · rw [if_neg e, if_neg (fun z => e z.2), fgI_ar (by decide) (by decide)]
  have xn : ∀ y, atN (atB N x g j) x g j 9 13038 y = if y = x then N 13043 g else N 13038 y := fun y => by
    rw [an_ar (by decide) (by decide)]
    show up (fgI N x 9) 13038 x (N 13043 g) 13038 y = _
    rw [up_s]
    by_cases e : y = x
    · rw [if_pos e, if_pos ⟨rfl, e⟩]
    · rw [if_neg e, if_neg (fun z => e z.2), fgI_ar (by decide) (by decide)]
  have cc : CC (uq (uq (uq (atC C N x g j 9) 7000 x 5 (if 0 < ownK N g j 9 then 1000 + g else 0)) 7000 x 6 (4000 + (12 * g + j))) 7000 x 7 (N 13043 g)) (atN (atB N x g j) x g j 9) := by
    have c0 : CC (atC C N x g j 9) N := jj.c
    exact (c0.setAtt.att6).att7
  have ck : ∀ b i z, b ≠ 13500 → ¬ (b = 7000 ∧ i = x ∧ 5 ≤ z) → (uq (uq (uq (atC C N x g j 9) 7000 x 5 (if 0 < ownK N g j 9 then 1000 + g else 0)) 7000 x 6 (4000 + (12 * g + j))) 7000 x 7 (N 13043 g)) b i z = C b i z := fun b i z h1 h2 => by
    rw [uq_s, if_neg (by omega), uq_s, if_neg (by omega), uq_s, if_neg (by omega)]
    unfold atC
    rw [if_neg (fun q => h1 q.1)]
  have c13 : ∀ y z, (uq (uq (uq (atC C N x g j 9) 7000 x 5 (if 0 < ownK N g j 9 then 1000 + g else 0)) 7000 x 6 (4000 + (12 * g + j))) 7000 x 7 (N 13043 g)) 13500 y z = if y = x ∧ 0 ≤ z ∧ z < 9 then (if own N g j z then plv N g j z else -1) else C 13500 y z := fun y z => by
    rw [uq_s, if_neg (by omega), uq_s, if_neg (by omega), uq_s, if_neg (by omega)]
    unfold atC
    simp only [up_s, true_and, false_and, and_true, and_false, if_true, if_false, ↓reduceIte, ↓Option.bind_some, Int.reduceEq, Int.reduceNe, Int.reduceLT, Int.reduceLE, gd_true, gd_false, bind_b, q10, eq_self, reduceCtorEq, not_true_eq_false, not_false_eq_true, ne_eq]
  have c75 : (uq (uq (uq (atC C N x g j 9) 7000 x 5 (if 0 < ownK N g j 9 then 1000 + g else 0)) 7000 x 6 (4000 + (12 * g + j))) 7000 x 7 (N 13043 g)) 7000 x 5 = if 0 < ownK N g j 9 then 1000 + g else 0 := by
    rw [uq_s, if_neg (by omega), uq_s, if_neg (by omega), uq_s, if_pos ⟨rfl, rfl, rfl⟩]
  have c76 : (uq (uq (uq (atC C N x g j 9) 7000 x 5 (if 0 < ownK N g j 9 then 1000 + g else 0)) 7000 x 6 (4000 + (12 * g + j))) 7000 x 7 (N 13043 g)) 7000 x 6 = 4000 + (12 * g + j) := by
    rw [uq_s, if_neg (by omega), uq_s, if_pos ⟨rfl, rfl, rfl⟩]
  have c77 : (uq (uq (uq (atC C N x g j 9) 7000 x 5 (if 0 < ownK N g j 9 then 1000 + g else 0)) 7000 x 6 (4000 + (12 * g + j))) 7000 x 7 (N 13043 g)) 7000 x 7 = N 13043 g := by
    rw [uq_s, if_pos ⟨rfl, rfl, rfl⟩]
  generalize hC : (uq (uq (uq (atC C N x g j 9) 7000 x 5 (if 0 < ownK N g j 9 then 1000 + g else 0)) 7000 x 6 (4000 + (12 * g + j))) 7000 x 7 (N 13043 g)) = C' at cc ck c13 c75 c76 c77 ⊢
  have jn : JN (atN (atB N x g j) x g j 9) := jj.jn
  have sg : SG C C' N (atN (atB N x g j) x g j 9) := ⟨fun b hb => by
    have z := gcell_ne hb
    funext i k
    exact ck b i k (by omega) (by omega), fun b hb => by
    have z := garr_b hb
    exact ar b (by omega) (by omega) (by omega) (by omega) (by omega)⟩
  refine jj.step jn cc ⟨l, d1, (ck _ _ _ (by decide) (by omega)).trans d2.1, d2.2.1, fun i hi => (ck _ _ _ (by decide) (by omega)).trans (d2.2.2 i hi)⟩ sg Mo.rf (fun _ _ _ _ => Iff.rfl) (Int.le_refl _) (Int.le_refl _) rfl ?_ ?_ ?_ (by omega) ⟨by have := jj.b.2.1; show (N 12000 1) ≤ _; omega, by have := jj.b.2.2.1; show (N 12000 40) ≤ _; omega⟩
  · intro y y1 y2
    have y2' : y < (N 12000 30) := y2
    by_cases e : y = x
    · subst e
      refine ⟨fun z => ?_, ?_, fun z => ⟨?_, ?_, ?_, fun p p1 p2 => ?_⟩⟩
      · rw [an_s, if_pos rfl] at z
        have z' : ownK N g j 9 = 0 := z
        refine ⟨by rw [c75, if_neg (by omega)], fun _ p p1 p2 => ?_⟩
        rw [an_p (by omega) p1 p2, if_neg (fun q => by have := ownK_pos ((eO p).mp q.2.2) p2; omega), bP y p p1 p2, if_pos rfl]
      · rw [an_s, if_pos rfl]
        show 0 ≤ ownK N g j 9 ∧ ownK N g j 9 ≤ 9
        omega
      · rw [xg, if_pos rfl, xm, if_pos rfl]
        exact ⟨g1, g2, j1, j2⟩
      · rw [an_s, if_pos rfl] at z
        have z' : ownK N g j 9 ≠ 0 := z
        rw [xg, if_pos rfl, xm, if_pos rfl, xn, if_pos rfl, c75, c76, c77, if_pos (by omega)]
        exact ⟨rfl, rfl, rfl⟩
      · rw [xg, if_pos rfl, xn, if_pos rfl]
        exact Int.le_refl _
      · have ea : atN (atB N y g j) y g j 9 13039 (9 * y + p) = if own N g j p then plv N g j p else -1 := by
          rw [an_p (by omega) p1 p2, bP y p p1 p2, if_pos rfl]
          by_cases ow : own N g j p
          · rw [if_pos ow, if_pos ⟨rfl, p2, (eO p).mpr ow⟩, eV]
          · rw [if_neg ow, if_neg (fun q => ow ((eO p).mp q.2.2))]
        rw [c13, if_pos ⟨rfl, p1, p2⟩, ea, xg, if_pos rfl, xm, if_pos rfl, xn, if_pos rfl]
        refine ⟨rfl, ?_, fun q => ?_⟩
        · split
          · have pb := (plv_b jj.jn gr.1 g1 j1 j2 hi p1 p2).1
            have rb := (gr.1.np p p1 p2).2.2
            omega
          · omega
        · split at q
          · rename_i ow
            refine ⟨ow.1, fun _ => ⟨fun r => absurd ow.2 r, fun _ => ?_⟩⟩
            rw [if_pos ow]
            obtain ⟨pb, pc⟩ := plv_b jj.jn gr.1 g1 j1 j2 hi p1 p2
            have x5 := (gr.2.2.2.2.2.1 p ow.1).2 (by have := ow.2; omega)
            have eS : So C' g p = So C g p := ck _ _ _ (by decide) (by omega)
            have r1 : So C g p ≤ N 13058 (9 * g + p) := x5.1
            have r2 : N 13058 (9 * g + p) ≤ So C g p ∨ N 13058 (9 * g + p) ≤ so N p := x5.2
            rw [eS]
            refine ⟨⟨?_, ?_⟩, fun b b1 b2 b3 b4 b5 b6 => ?_⟩
            · rcases pc with pc | ⟨k, k1, k2, k3, k4⟩
              · omega
              · obtain ⟨⟨h1, h2, h3, -⟩, -⟩ := (gr.1.ha j j1 j2 hi).2 k k1 k2
                have s5 := G.s.2.2.2.2.1
                have q := gr.2.2.2.2.2.2 _ h1 (by omega)
                have := q.2.2.2 (Or.inl (q.1 (Or.inl h3)))
                rw [k3] at this
                omega
            · show plv N g j p ≤ So C g p ∨ plv N g j p ≤ so N p
              omega
            · have b3' : canR N b := b3
              have b4' : N 13021 b = p := b4
              have b5' : So C g p ≤ N 13026 b := b5
              have b6' : N 13026 b < plv N g j p := b6
              have pd : Pd C N g b := gr.2.2.1 b b1 b2 b3' (by rw [b4']; exact ow.1) (by rw [b4']; exact b5') (Or.inr ⟨by rw [b4']; have := ow.2; omega, by rw [b4']; omega⟩)
              show 0 < C' 2000 (150 * g + b) 6 ∨ _
              rw [ck _ _ _ (by decide) (by omega)]
              exact pd
          · omega
    · refine (jj.px y y1 y2').step jn.g sg (fun k hk => ck _ _ _ (by decide) (by omega)) (fun k => by rw [c13, if_neg (fun z => e z.1)]) ?_ ?_ ?_ ?_ (fun p p1 p2 => ?_) Mo.rf (fun _ _ _ _ => Iff.rfl) rfl (fun z => z)
      · rw [an_s, if_neg e, bS, if_neg e]
      · rw [xg, if_neg e]
      · rw [xm, if_neg e]
      · rw [xn, if_neg e]
      · rw [an_p (by omega) p1 p2, if_neg (fun z => e z.1), bP y p p1 p2, if_neg e]
  · exact jj.ne.eq (fun k _ _ _ _ => by rw [ar 12000 (by decide) (by decide) (by decide) (by decide) (by decide)]) (ar _ (by decide) (by decide) (by decide) (by decide) (by decide)) (by funext i z; exact ck _ _ _ (by decide) (by omega)) rfl
  · obtain ⟨f1, f2, f3, f4, f5⟩ := jj.fn
    refine ⟨f1, fun y y1 y2 => ?_, f3, f4, fun y y1 y2 hy => ?_⟩
    · have y1' : (N 12000 30) ≤ y := y1
      have q := f2 y y1' y2
      rw [an_s, if_neg (by omega), bS, if_neg (by omega)]
      exact q
    · have hy' : (N 12000 30) ≤ y ∨ N 13033 y < 0 := hy
      have ne : y ≠ x := fun e => by rw [e] at hy'; omega
      have q := f5 y y1 y2 hy'
      rw [an_s, if_neg ne, bS, if_neg ne]
      exact q
end ATT
theorem q_attach {n : Int} {C : Cd} {N : Nd} {A : Ad} {x g o : Int} (j : JJ n C N A) : SR n C N A (p_G_attach (mk C N A) 11000 x g o 15000) (fun M => p_X11_attach M 12000 x g o) := by
  have G := j.jn.g
  have s3 := G.s.2.2.1
  have s4 := G.s.2.2.2.1
  have ht := c_producerOf (N0 := N) (A := A) (t := x) G j.c
  have mt := fun C A => @m_isProducer C (up N 12000 0 0) A x j.z.s
  simp only [up_s, up_s, true_and, false_and, and_true, and_false, if_true, if_false, ↓reduceIte, ↓Option.bind_some, Int.reduceEq, Int.reduceNe, Int.reduceLT, Int.reduceLE, gd_true, gd_false, bind_b, q10, eq_self, reduceCtorEq, not_true_eq_false, not_false_eq_true, ne_eq] at mt
  have hm := c_groupOf (N0 := N) (A := A) (t := g) G j.c
  have hi := fun C A => @m_isMember C (up N 12000 0 0) A g o j.z.s
  simp only [up_s, up_s, true_and, false_and, and_true, and_false, if_true, if_false, ↓reduceIte, ↓Option.bind_some, Int.reduceEq, Int.reduceNe, Int.reduceLT, Int.reduceLE, gd_true, gd_false, bind_b, q10, eq_self, reduceCtorEq, not_true_eq_false, not_false_eq_true, ne_eq] at hi
  unfold p_G_attach p_X10_attach
  by_cases h0 : 0 ≤ x ∧ x < (N 12000 30)
  · obtain ⟨c0, c1, c2, c3, c4, c5⟩ := j.c.x x h0.1 h0.2
    have gx := (G.x x h0.1 h0.2).2.2
    by_cases h1 : 0 ≤ g ∧ g < (N 12000 41)
    · have g3 : g < 3 := by omega
      have a := (j.gr h1.1 h1.2).1
      have mo := c_memberOf (N0 := N) (A := A) (j := o) a h1.1 g3
      by_cases h2 : (0 ≤ o ∧ o ≤ 11) ∧ N 13047 (12 * g + o) = 1
      · have h21 := h2.1; have h22 := h2.2
        by_cases h3 : N 13033 x = -1
        · have h3' : N 13033 x < 0 := by omega
          refine SR.r j 2 (by omega) ?_ ?_
          · simp (disch := omega) only [aok, up_s, true_and, false_and, and_true, and_false, if_true, if_false, ↓reduceIte, ↓Option.bind_some, Int.reduceEq, Int.reduceNe, Int.reduceLT, Int.reduceLE, gd_true, gd_false, bind_b, q10, eq_self, reduceCtorEq, not_true_eq_false, not_false_eq_true, ne_eq, cr_11000, cr_15000, cr_16000, cr_20000, cr_20001, cr_21000, cr_22000, cr_25000, cr_1000, cr_2000, cr_3000, cr_3003, cr_3006, cr_4000, cr_5000, cr_6000, cr_7000, cr_8000, cr_9000, cr_10000, cr_13500, cr_17000, cr_17100, cr_17103, cr_17106, cr_19000, cr_20100, cr_21100, cr_23000, cr_24000, cw_11000, cw_15000, cw_16000, cw_20000, cw_20001, cw_21000, cw_22000, cw_25000, cw_1000, cw_2000, cw_3000, cw_3003, cw_3006, cw_4000, cw_5000, cw_6000, cw_7000, cw_8000, cw_9000, cw_10000, cw_13500, cw_17000, cw_17100, cw_17103, cw_17106, cw_19000, cw_20100, cw_21100, cw_23000, cw_24000, lc_13500, lc_15000, lc_16000, lc_17000, lc_17100, lc_17103, lc_17106, lc_19000, lc_20000, lc_20001, lc_20100, lc_21000, lc_21100, lc_22000, lc_23000, lc_24000, lc_25000, gd_t, w_eq, thT, thU, psT, psU, hnT, thr_mk, ↓Option.bind_some, ht, h0, hm, h1, mo, h21, h22, c3, h3]
          · unfold p_X11_attach
            simp (disch := omega) only [aok, up_s, true_and, false_and, and_true, and_false, if_true, if_false, ↓reduceIte, ↓Option.bind_some, Int.reduceEq, Int.reduceNe, Int.reduceLT, Int.reduceLE, gd_true, gd_false, bind_b, q10, eq_self, reduceCtorEq, not_true_eq_false, not_false_eq_true, ne_eq, pt_0, pt_1, pt_2, pt_3, pt_4, pt_5, pt_6, pt_7, pt_8, pt_9, pt_10, pt_11, pt_12, pt_13, pt_14, pt_15, pt_16, pt_17, pt_18, pt_19, pt_20, pt_21, pt_22, pt_23, pt_24, pt_25, pt_26, pt_27, pt_28, pt_29, pt_30, pt_31, pt_32, pt_33, pt_34, pt_35, pt_36, pt_37, pt_38, pt_39, pt_40, pt_41, pt_42, pt_43, pt_44, pt_45, pt_46, pt_47, pt_48, pt_49, pt_50, pt_51, pt_52, pt_53, pt_54, pt_55, pt_56, pt_57, pt_58, pt_59, pt_60, pt_61, pt_62, pt_63, pt_64, pt_65, pt_66, pt_67, pa_13005, pw_13005, pa_13006, pw_13006, pa_13007, pw_13007, pa_14008, pw_14008, pa_13009, pw_13009, pa_13010, pw_13010, pa_13012, pw_13012, pa_13013, pw_13013, pa_13014, pw_13014, pa_13015, pw_13015, pa_13016, pw_13016, pa_13017, pw_13017, pa_13018, pw_13018, pa_13020, pw_13020, pa_13021, pw_13021, pa_13022, pw_13022, pa_13023, pw_13023, pa_13024, pw_13024, pa_13025, pw_13025, pa_13026, pw_13026, pa_13027, pw_13027, pa_13028, pw_13028, pa_13029, pw_13029, pa_13031, pw_13031, pa_13032, pw_13032, pa_13033, pw_13033, pa_14034, pw_14034, pa_13035, pw_13035, pa_13036, pw_13036, pa_13037, pw_13037, pa_13038, pw_13038, pa_13039, pw_13039, pa_13042, pw_13042, pa_13043, pw_13043, pa_13044, pw_13044, pa_13045, pw_13045, pa_13046, pw_13046, pa_13047, pw_13047, pa_13048, pw_13048, pa_13049, pw_13049, pa_13050, pw_13050, pa_13051, pw_13051, pa_13052, pw_13052, pa_13053, pw_13053, pa_13054, pw_13054, pa_13055, pw_13055, pa_13056, pw_13056, pa_13057, pw_13057, pa_13058, pw_13058, pa_13059, pw_13059, pa_13060, pw_13060, pa_13061, pw_13061, pa_13062, pw_13062, pa_13063, pw_13063, pa_13064, pw_13064, pa_13065, pw_13065, pa_13066, pw_13066, pa_13067, pw_13067, ps_0, ps_1, ps_2, ps_3, ps_4, ps_11, ps_19, ps_30, ps_40, ps_41, ln_13005, ln_13006, ln_13007, ln_14008, ln_13009, ln_13010, ln_13012, ln_13013, ln_13014, ln_13015, ln_13016, ln_13017, ln_13018, ln_13020, ln_13021, ln_13022, ln_13023, ln_13024, ln_13025, ln_13026, ln_13027, ln_13028, ln_13029, ln_13031, ln_13032, ln_13033, ln_14034, ln_13035, ln_13036, ln_13037, ln_13038, ln_13039, ln_13042, ln_13043, ln_13044, ln_13045, ln_13046, ln_13047, ln_13048, ln_13049, ln_13050, ln_13051, ln_13052, ln_13053, ln_13054, ln_13055, ln_13056, ln_13057, ln_13058, ln_13059, ln_13060, ln_13061, ln_13062, ln_13063, ln_13064, ln_13065, ln_13066, ln_13067, gd_t, w_eq, mt, h0, hi, h1, h21, h22, h3', m_refuse]
        · have h3' : ¬ N 13033 x < 0 := by omega
          by_cases h4 : N 14034 x = 0
          · have jz : JJ n C (up N 12000 0 0) A := j.thrown
            have np := c_notePlaces (N0 := N) (A := A) (x := x) (g := g) (j := o) j.jn j.c a h0.1 h0.2 h1.1 g3 h21.1 (by omega) h22
            have jj := jz.att (x := x) (g := g) (j := o) h0.1 h0.2 (show 0 ≤ N 13033 x by omega) h1.1 h1.2 h21.1 (by omega) h22
            refine SR.w (C1 := uq (uq (uq (atC C N x g o 9) 7000 x 5 (if 0 < ownK N g o 9 then 1000 + g else 0)) 7000 x 6 (4000 + (12 * g + o))) 7000 x 7 (N 13043 g)) (N1 := atN (atB (up N 12000 0 0) x g o) x g o 9) (ownK N g o 9) ?_ ?_ ?_ jj
            · simp (disch := omega) only [aok, up_s, true_and, false_and, and_true, and_false, if_true, if_false, ↓reduceIte, ↓Option.bind_some, Int.reduceEq, Int.reduceNe, Int.reduceLT, Int.reduceLE, gd_true, gd_false, bind_b, q10, eq_self, reduceCtorEq, not_true_eq_false, not_false_eq_true, ne_eq, cr_11000, cr_15000, cr_16000, cr_20000, cr_20001, cr_21000, cr_22000, cr_25000, cr_1000, cr_2000, cr_3000, cr_3003, cr_3006, cr_4000, cr_5000, cr_6000, cr_7000, cr_8000, cr_9000, cr_10000, cr_13500, cr_17000, cr_17100, cr_17103, cr_17106, cr_19000, cr_20100, cr_21100, cr_23000, cr_24000, cw_11000, cw_15000, cw_16000, cw_20000, cw_20001, cw_21000, cw_22000, cw_25000, cw_1000, cw_2000, cw_3000, cw_3003, cw_3006, cw_4000, cw_5000, cw_6000, cw_7000, cw_8000, cw_9000, cw_10000, cw_13500, cw_17000, cw_17100, cw_17103, cw_17106, cw_19000, cw_20100, cw_21100, cw_23000, cw_24000, lc_13500, lc_15000, lc_16000, lc_17000, lc_17100, lc_17103, lc_17106, lc_19000, lc_20000, lc_20001, lc_20100, lc_21000, lc_21100, lc_22000, lc_23000, lc_24000, lc_25000, gd_t, w_eq, thT, thU, psT, psU, hnT, thr_mk, ↓Option.bind_some, ht, h0, hm, h1, mo, h21, h22, c3, c4, h3, h4, np]
            · have jb : JN (atB (up N 12000 0 0) x g o) := jz.jn
              have ab : GA C (atB (up N 12000 0 0) x g o) g := a
              have ml := m_atLoop (B := atB (up N 12000 0 0) x g o) (x := x) (g := g) (j := o) jb ab (by
                show fgI (up N 12000 0 0) x 9 13035 x = 0
                unfold fgI
                rw [ra_s, if_neg (by decide), up_s, if_pos ⟨rfl, rfl⟩]) h0.1 (by omega) h1.1 g3 h21.1 (by omega) h22
              rw [an_9 jb.g] at ml
              have es : atN (atB (up N 12000 0 0) x g o) x g o 9 13035 x = ownK N g o 9 := by rw [an_s, if_pos rfl]; rfl
              have ml' : ∀ C A, lp (b_X11_attach_85 12000 g o x) 1000 (0, mk C (up (up (up (fgI (up N 12000 0 0) x 9) 13036 x g) 13037 x o) 13038 x (N 13043 g)) A) = some (mk C (atN (atB (up N 12000 0 0) x g o) x g o 9) A) := ml
              have eg : fgI (up N 12000 0 0) x 9 13043 g = N 13043 g := rfl
              unfold p_X11_attach p_X11_generationOf
              simp (disch := omega) only [aok, up_s, true_and, false_and, and_true, and_false, if_true, if_false, ↓reduceIte, ↓Option.bind_some, Int.reduceEq, Int.reduceNe, Int.reduceLT, Int.reduceLE, gd_true, gd_false, bind_b, q10, eq_self, reduceCtorEq, not_true_eq_false, not_false_eq_true, ne_eq, pt_0, pt_1, pt_2, pt_3, pt_4, pt_5, pt_6, pt_7, pt_8, pt_9, pt_10, pt_11, pt_12, pt_13, pt_14, pt_15, pt_16, pt_17, pt_18, pt_19, pt_20, pt_21, pt_22, pt_23, pt_24, pt_25, pt_26, pt_27, pt_28, pt_29, pt_30, pt_31, pt_32, pt_33, pt_34, pt_35, pt_36, pt_37, pt_38, pt_39, pt_40, pt_41, pt_42, pt_43, pt_44, pt_45, pt_46, pt_47, pt_48, pt_49, pt_50, pt_51, pt_52, pt_53, pt_54, pt_55, pt_56, pt_57, pt_58, pt_59, pt_60, pt_61, pt_62, pt_63, pt_64, pt_65, pt_66, pt_67, pa_13005, pw_13005, pa_13006, pw_13006, pa_13007, pw_13007, pa_14008, pw_14008, pa_13009, pw_13009, pa_13010, pw_13010, pa_13012, pw_13012, pa_13013, pw_13013, pa_13014, pw_13014, pa_13015, pw_13015, pa_13016, pw_13016, pa_13017, pw_13017, pa_13018, pw_13018, pa_13020, pw_13020, pa_13021, pw_13021, pa_13022, pw_13022, pa_13023, pw_13023, pa_13024, pw_13024, pa_13025, pw_13025, pa_13026, pw_13026, pa_13027, pw_13027, pa_13028, pw_13028, pa_13029, pw_13029, pa_13031, pw_13031, pa_13032, pw_13032, pa_13033, pw_13033, pa_14034, pw_14034, pa_13035, pw_13035, pa_13036, pw_13036, pa_13037, pw_13037, pa_13038, pw_13038, pa_13039, pw_13039, pa_13042, pw_13042, pa_13043, pw_13043, pa_13044, pw_13044, pa_13045, pw_13045, pa_13046, pw_13046, pa_13047, pw_13047, pa_13048, pw_13048, pa_13049, pw_13049, pa_13050, pw_13050, pa_13051, pw_13051, pa_13052, pw_13052, pa_13053, pw_13053, pa_13054, pw_13054, pa_13055, pw_13055, pa_13056, pw_13056, pa_13057, pw_13057, pa_13058, pw_13058, pa_13059, pw_13059, pa_13060, pw_13060, pa_13061, pw_13061, pa_13062, pw_13062, pa_13063, pw_13063, pa_13064, pw_13064, pa_13065, pw_13065, pa_13066, pw_13066, pa_13067, pw_13067, ps_0, ps_1, ps_2, ps_3, ps_4, ps_11, ps_19, ps_30, ps_40, ps_41, ln_13005, ln_13006, ln_13007, ln_14008, ln_13009, ln_13010, ln_13012, ln_13013, ln_13014, ln_13015, ln_13016, ln_13017, ln_13018, ln_13020, ln_13021, ln_13022, ln_13023, ln_13024, ln_13025, ln_13026, ln_13027, ln_13028, ln_13029, ln_13031, ln_13032, ln_13033, ln_14034, ln_13035, ln_13036, ln_13037, ln_13038, ln_13039, ln_13042, ln_13043, ln_13044, ln_13045, ln_13046, ln_13047, ln_13048, ln_13049, ln_13050, ln_13051, ln_13052, ln_13053, ln_13054, ln_13055, ln_13056, ln_13057, ln_13058, ln_13059, ln_13060, ln_13061, ln_13062, ln_13063, ln_13064, ln_13065, ln_13066, ln_13067, gd_t, w_eq, mt, h0, hi, h1, h21, h22, h3', h4, m_forgetPlaces, eg, ml', es]
            · rw [an_ar (by decide) (by decide)]
              rfl
          · refine SR.r j 2 (by omega) ?_ ?_
            · simp (disch := omega) only [aok, up_s, true_and, false_and, and_true, and_false, if_true, if_false, ↓reduceIte, ↓Option.bind_some, Int.reduceEq, Int.reduceNe, Int.reduceLT, Int.reduceLE, gd_true, gd_false, bind_b, q10, eq_self, reduceCtorEq, not_true_eq_false, not_false_eq_true, ne_eq, cr_11000, cr_15000, cr_16000, cr_20000, cr_20001, cr_21000, cr_22000, cr_25000, cr_1000, cr_2000, cr_3000, cr_3003, cr_3006, cr_4000, cr_5000, cr_6000, cr_7000, cr_8000, cr_9000, cr_10000, cr_13500, cr_17000, cr_17100, cr_17103, cr_17106, cr_19000, cr_20100, cr_21100, cr_23000, cr_24000, cw_11000, cw_15000, cw_16000, cw_20000, cw_20001, cw_21000, cw_22000, cw_25000, cw_1000, cw_2000, cw_3000, cw_3003, cw_3006, cw_4000, cw_5000, cw_6000, cw_7000, cw_8000, cw_9000, cw_10000, cw_13500, cw_17000, cw_17100, cw_17103, cw_17106, cw_19000, cw_20100, cw_21100, cw_23000, cw_24000, lc_13500, lc_15000, lc_16000, lc_17000, lc_17100, lc_17103, lc_17106, lc_19000, lc_20000, lc_20001, lc_20100, lc_21000, lc_21100, lc_22000, lc_23000, lc_24000, lc_25000, gd_t, w_eq, thT, thU, psT, psU, hnT, thr_mk, ↓Option.bind_some, ht, h0, hm, h1, mo, h21, h22, c3, c4, h3, h4]
            · unfold p_X11_attach
              simp (disch := omega) only [aok, up_s, true_and, false_and, and_true, and_false, if_true, if_false, ↓reduceIte, ↓Option.bind_some, Int.reduceEq, Int.reduceNe, Int.reduceLT, Int.reduceLE, gd_true, gd_false, bind_b, q10, eq_self, reduceCtorEq, not_true_eq_false, not_false_eq_true, ne_eq, pt_0, pt_1, pt_2, pt_3, pt_4, pt_5, pt_6, pt_7, pt_8, pt_9, pt_10, pt_11, pt_12, pt_13, pt_14, pt_15, pt_16, pt_17, pt_18, pt_19, pt_20, pt_21, pt_22, pt_23, pt_24, pt_25, pt_26, pt_27, pt_28, pt_29, pt_30, pt_31, pt_32, pt_33, pt_34, pt_35, pt_36, pt_37, pt_38, pt_39, pt_40, pt_41, pt_42, pt_43, pt_44, pt_45, pt_46, pt_47, pt_48, pt_49, pt_50, pt_51, pt_52, pt_53, pt_54, pt_55, pt_56, pt_57, pt_58, pt_59, pt_60, pt_61, pt_62, pt_63, pt_64, pt_65, pt_66, pt_67, pa_13005, pw_13005, pa_13006, pw_13006, pa_13007, pw_13007, pa_14008, pw_14008, pa_13009, pw_13009, pa_13010, pw_13010, pa_13012, pw_13012, pa_13013, pw_13013, pa_13014, pw_13014, pa_13015, pw_13015, pa_13016, pw_13016, pa_13017, pw_13017, pa_13018, pw_13018, pa_13020, pw_13020, pa_13021, pw_13021, pa_13022, pw_13022, pa_13023, pw_13023, pa_13024, pw_13024, pa_13025, pw_13025, pa_13026, pw_13026, pa_13027, pw_13027, pa_13028, pw_13028, pa_13029, pw_13029, pa_13031, pw_13031, pa_13032, pw_13032, pa_13033, pw_13033, pa_14034, pw_14034, pa_13035, pw_13035, pa_13036, pw_13036, pa_13037, pw_13037, pa_13038, pw_13038, pa_13039, pw_13039, pa_13042, pw_13042, pa_13043, pw_13043, pa_13044, pw_13044, pa_13045, pw_13045, pa_13046, pw_13046, pa_13047, pw_13047, pa_13048, pw_13048, pa_13049, pw_13049, pa_13050, pw_13050, pa_13051, pw_13051, pa_13052, pw_13052, pa_13053, pw_13053, pa_13054, pw_13054, pa_13055, pw_13055, pa_13056, pw_13056, pa_13057, pw_13057, pa_13058, pw_13058, pa_13059, pw_13059, pa_13060, pw_13060, pa_13061, pw_13061, pa_13062, pw_13062, pa_13063, pw_13063, pa_13064, pw_13064, pa_13065, pw_13065, pa_13066, pw_13066, pa_13067, pw_13067, ps_0, ps_1, ps_2, ps_3, ps_4, ps_11, ps_19, ps_30, ps_40, ps_41, ln_13005, ln_13006, ln_13007, ln_14008, ln_13009, ln_13010, ln_13012, ln_13013, ln_13014, ln_13015, ln_13016, ln_13017, ln_13018, ln_13020, ln_13021, ln_13022, ln_13023, ln_13024, ln_13025, ln_13026, ln_13027, ln_13028, ln_13029, ln_13031, ln_13032, ln_13033, ln_14034, ln_13035, ln_13036, ln_13037, ln_13038, ln_13039, ln_13042, ln_13043, ln_13044, ln_13045, ln_13046, ln_13047, ln_13048, ln_13049, ln_13050, ln_13051, ln_13052, ln_13053, ln_13054, ln_13055, ln_13056, ln_13057, ln_13058, ln_13059, ln_13060, ln_13061, ln_13062, ln_13063, ln_13064, ln_13065, ln_13066, ln_13067, gd_t, w_eq, mt, h0, hi, h1, h21, h22, h3', h4, m_refuse]
      · rw [if_neg h2] at mo
        have h0' : ¬ ((0 ≤ g ∧ g < (N 12000 41)) ∧ (0 ≤ o ∧ o ≤ 11) ∧ N 13047 (12 * g + o) = 1) := fun z => h2 z.2
        simp only [if_neg h0'] at hi
        refine SR.r j 1 (by omega) ?_ ?_
        · simp (disch := omega) only [aok, up_s, true_and, false_and, and_true, and_false, if_true, if_false, ↓reduceIte, ↓Option.bind_some, Int.reduceEq, Int.reduceNe, Int.reduceLT, Int.reduceLE, gd_true, gd_false, bind_b, q10, eq_self, reduceCtorEq, not_true_eq_false, not_false_eq_true, ne_eq, cr_11000, cr_15000, cr_16000, cr_20000, cr_20001, cr_21000, cr_22000, cr_25000, cr_1000, cr_2000, cr_3000, cr_3003, cr_3006, cr_4000, cr_5000, cr_6000, cr_7000, cr_8000, cr_9000, cr_10000, cr_13500, cr_17000, cr_17100, cr_17103, cr_17106, cr_19000, cr_20100, cr_21100, cr_23000, cr_24000, cw_11000, cw_15000, cw_16000, cw_20000, cw_20001, cw_21000, cw_22000, cw_25000, cw_1000, cw_2000, cw_3000, cw_3003, cw_3006, cw_4000, cw_5000, cw_6000, cw_7000, cw_8000, cw_9000, cw_10000, cw_13500, cw_17000, cw_17100, cw_17103, cw_17106, cw_19000, cw_20100, cw_21100, cw_23000, cw_24000, lc_13500, lc_15000, lc_16000, lc_17000, lc_17100, lc_17103, lc_17106, lc_19000, lc_20000, lc_20001, lc_20100, lc_21000, lc_21100, lc_22000, lc_23000, lc_24000, lc_25000, gd_t, w_eq, thT, thU, psT, psU, hnT, thr_mk, ↓Option.bind_some, ht, h0, hm, h1, mo]
        · unfold p_X11_attach
          simp (disch := omega) only [aok, up_s, true_and, false_and, and_true, and_false, if_true, if_false, ↓reduceIte, ↓Option.bind_some, Int.reduceEq, Int.reduceNe, Int.reduceLT, Int.reduceLE, gd_true, gd_false, bind_b, q10, eq_self, reduceCtorEq, not_true_eq_false, not_false_eq_true, ne_eq, pt_0, pt_1, pt_2, pt_3, pt_4, pt_5, pt_6, pt_7, pt_8, pt_9, pt_10, pt_11, pt_12, pt_13, pt_14, pt_15, pt_16, pt_17, pt_18, pt_19, pt_20, pt_21, pt_22, pt_23, pt_24, pt_25, pt_26, pt_27, pt_28, pt_29, pt_30, pt_31, pt_32, pt_33, pt_34, pt_35, pt_36, pt_37, pt_38, pt_39, pt_40, pt_41, pt_42, pt_43, pt_44, pt_45, pt_46, pt_47, pt_48, pt_49, pt_50, pt_51, pt_52, pt_53, pt_54, pt_55, pt_56, pt_57, pt_58, pt_59, pt_60, pt_61, pt_62, pt_63, pt_64, pt_65, pt_66, pt_67, pa_13005, pw_13005, pa_13006, pw_13006, pa_13007, pw_13007, pa_14008, pw_14008, pa_13009, pw_13009, pa_13010, pw_13010, pa_13012, pw_13012, pa_13013, pw_13013, pa_13014, pw_13014, pa_13015, pw_13015, pa_13016, pw_13016, pa_13017, pw_13017, pa_13018, pw_13018, pa_13020, pw_13020, pa_13021, pw_13021, pa_13022, pw_13022, pa_13023, pw_13023, pa_13024, pw_13024, pa_13025, pw_13025, pa_13026, pw_13026, pa_13027, pw_13027, pa_13028, pw_13028, pa_13029, pw_13029, pa_13031, pw_13031, pa_13032, pw_13032, pa_13033, pw_13033, pa_14034, pw_14034, pa_13035, pw_13035, pa_13036, pw_13036, pa_13037, pw_13037, pa_13038, pw_13038, pa_13039, pw_13039, pa_13042, pw_13042, pa_13043, pw_13043, pa_13044, pw_13044, pa_13045, pw_13045, pa_13046, pw_13046, pa_13047, pw_13047, pa_13048, pw_13048, pa_13049, pw_13049, pa_13050, pw_13050, pa_13051, pw_13051, pa_13052, pw_13052, pa_13053, pw_13053, pa_13054, pw_13054, pa_13055, pw_13055, pa_13056, pw_13056, pa_13057, pw_13057, pa_13058, pw_13058, pa_13059, pw_13059, pa_13060, pw_13060, pa_13061, pw_13061, pa_13062, pw_13062, pa_13063, pw_13063, pa_13064, pw_13064, pa_13065, pw_13065, pa_13066, pw_13066, pa_13067, pw_13067, ps_0, ps_1, ps_2, ps_3, ps_4, ps_11, ps_19, ps_30, ps_40, ps_41, ln_13005, ln_13006, ln_13007, ln_14008, ln_13009, ln_13010, ln_13012, ln_13013, ln_13014, ln_13015, ln_13016, ln_13017, ln_13018, ln_13020, ln_13021, ln_13022, ln_13023, ln_13024, ln_13025, ln_13026, ln_13027, ln_13028, ln_13029, ln_13031, ln_13032, ln_13033, ln_14034, ln_13035, ln_13036, ln_13037, ln_13038, ln_13039, ln_13042, ln_13043, ln_13044, ln_13045, ln_13046, ln_13047, ln_13048, ln_13049, ln_13050, ln_13051, ln_13052, ln_13053, ln_13054, ln_13055, ln_13056, ln_13057, ln_13058, ln_13059, ln_13060, ln_13061, ln_13062, ln_13063, ln_13064, ln_13065, ln_13066, ln_13067, gd_t, w_eq, mt, h0, hi, m_refuse]
    · have h0' : ¬ ((0 ≤ g ∧ g < (N 12000 41)) ∧ (0 ≤ o ∧ o ≤ 11) ∧ N 13047 (12 * g + o) = 1) := fun z => h1 z.1
      simp only [if_neg h0'] at hi
      refine SR.r j 1 (by omega) ?_ ?_
      · simp (disch := omega) only [aok, up_s, true_and, false_and, and_true, and_false, if_true, if_false, ↓reduceIte, ↓Option.bind_some, Int.reduceEq, Int.reduceNe, Int.reduceLT, Int.reduceLE, gd_true, gd_false, bind_b, q10, eq_self, reduceCtorEq, not_true_eq_false, not_false_eq_true, ne_eq, cr_11000, cr_15000, cr_16000, cr_20000, cr_20001, cr_21000, cr_22000, cr_25000, cr_1000, cr_2000, cr_3000, cr_3003, cr_3006, cr_4000, cr_5000, cr_6000, cr_7000, cr_8000, cr_9000, cr_10000, cr_13500, cr_17000, cr_17100, cr_17103, cr_17106, cr_19000, cr_20100, cr_21100, cr_23000, cr_24000, cw_11000, cw_15000, cw_16000, cw_20000, cw_20001, cw_21000, cw_22000, cw_25000, cw_1000, cw_2000, cw_3000, cw_3003, cw_3006, cw_4000, cw_5000, cw_6000, cw_7000, cw_8000, cw_9000, cw_10000, cw_13500, cw_17000, cw_17100, cw_17103, cw_17106, cw_19000, cw_20100, cw_21100, cw_23000, cw_24000, lc_13500, lc_15000, lc_16000, lc_17000, lc_17100, lc_17103, lc_17106, lc_19000, lc_20000, lc_20001, lc_20100, lc_21000, lc_21100, lc_22000, lc_23000, lc_24000, lc_25000, gd_t, w_eq, thT, thU, psT, psU, hnT, thr_mk, ↓Option.bind_some, ht, h0, hm, h1]
      · unfold p_X11_attach
        simp (disch := omega) only [aok, up_s, true_and, false_and, and_true, and_false, if_true, if_false, ↓reduceIte, ↓Option.bind_some, Int.reduceEq, Int.reduceNe, Int.reduceLT, Int.reduceLE, gd_true, gd_false, bind_b, q10, eq_self, reduceCtorEq, not_true_eq_false, not_false_eq_true, ne_eq, pt_0, pt_1, pt_2, pt_3, pt_4, pt_5, pt_6, pt_7, pt_8, pt_9, pt_10, pt_11, pt_12, pt_13, pt_14, pt_15, pt_16, pt_17, pt_18, pt_19, pt_20, pt_21, pt_22, pt_23, pt_24, pt_25, pt_26, pt_27, pt_28, pt_29, pt_30, pt_31, pt_32, pt_33, pt_34, pt_35, pt_36, pt_37, pt_38, pt_39, pt_40, pt_41, pt_42, pt_43, pt_44, pt_45, pt_46, pt_47, pt_48, pt_49, pt_50, pt_51, pt_52, pt_53, pt_54, pt_55, pt_56, pt_57, pt_58, pt_59, pt_60, pt_61, pt_62, pt_63, pt_64, pt_65, pt_66, pt_67, pa_13005, pw_13005, pa_13006, pw_13006, pa_13007, pw_13007, pa_14008, pw_14008, pa_13009, pw_13009, pa_13010, pw_13010, pa_13012, pw_13012, pa_13013, pw_13013, pa_13014, pw_13014, pa_13015, pw_13015, pa_13016, pw_13016, pa_13017, pw_13017, pa_13018, pw_13018, pa_13020, pw_13020, pa_13021, pw_13021, pa_13022, pw_13022, pa_13023, pw_13023, pa_13024, pw_13024, pa_13025, pw_13025, pa_13026, pw_13026, pa_13027, pw_13027, pa_13028, pw_13028, pa_13029, pw_13029, pa_13031, pw_13031, pa_13032, pw_13032, pa_13033, pw_13033, pa_14034, pw_14034, pa_13035, pw_13035, pa_13036, pw_13036, pa_13037, pw_13037, pa_13038, pw_13038, pa_13039, pw_13039, pa_13042, pw_13042, pa_13043, pw_13043, pa_13044, pw_13044, pa_13045, pw_13045, pa_13046, pw_13046, pa_13047, pw_13047, pa_13048, pw_13048, pa_13049, pw_13049, pa_13050, pw_13050, pa_13051, pw_13051, pa_13052, pw_13052, pa_13053, pw_13053, pa_13054, pw_13054, pa_13055, pw_13055, pa_13056, pw_13056, pa_13057, pw_13057, pa_13058, pw_13058, pa_13059, pw_13059, pa_13060, pw_13060, pa_13061, pw_13061, pa_13062, pw_13062, pa_13063, pw_13063, pa_13064, pw_13064, pa_13065, pw_13065, pa_13066, pw_13066, pa_13067, pw_13067, ps_0, ps_1, ps_2, ps_3, ps_4, ps_11, ps_19, ps_30, ps_40, ps_41, ln_13005, ln_13006, ln_13007, ln_14008, ln_13009, ln_13010, ln_13012, ln_13013, ln_13014, ln_13015, ln_13016, ln_13017, ln_13018, ln_13020, ln_13021, ln_13022, ln_13023, ln_13024, ln_13025, ln_13026, ln_13027, ln_13028, ln_13029, ln_13031, ln_13032, ln_13033, ln_14034, ln_13035, ln_13036, ln_13037, ln_13038, ln_13039, ln_13042, ln_13043, ln_13044, ln_13045, ln_13046, ln_13047, ln_13048, ln_13049, ln_13050, ln_13051, ln_13052, ln_13053, ln_13054, ln_13055, ln_13056, ln_13057, ln_13058, ln_13059, ln_13060, ln_13061, ln_13062, ln_13063, ln_13064, ln_13065, ln_13066, ln_13067, gd_t, w_eq, mt, h0, hi, m_refuse]
  · refine SR.r j 1 (by omega) ?_ ?_
    · simp (disch := omega) only [aok, up_s, true_and, false_and, and_true, and_false, if_true, if_false, ↓reduceIte, ↓Option.bind_some, Int.reduceEq, Int.reduceNe, Int.reduceLT, Int.reduceLE, gd_true, gd_false, bind_b, q10, eq_self, reduceCtorEq, not_true_eq_false, not_false_eq_true, ne_eq, cr_11000, cr_15000, cr_16000, cr_20000, cr_20001, cr_21000, cr_22000, cr_25000, cr_1000, cr_2000, cr_3000, cr_3003, cr_3006, cr_4000, cr_5000, cr_6000, cr_7000, cr_8000, cr_9000, cr_10000, cr_13500, cr_17000, cr_17100, cr_17103, cr_17106, cr_19000, cr_20100, cr_21100, cr_23000, cr_24000, cw_11000, cw_15000, cw_16000, cw_20000, cw_20001, cw_21000, cw_22000, cw_25000, cw_1000, cw_2000, cw_3000, cw_3003, cw_3006, cw_4000, cw_5000, cw_6000, cw_7000, cw_8000, cw_9000, cw_10000, cw_13500, cw_17000, cw_17100, cw_17103, cw_17106, cw_19000, cw_20100, cw_21100, cw_23000, cw_24000, lc_13500, lc_15000, lc_16000, lc_17000, lc_17100, lc_17103, lc_17106, lc_19000, lc_20000, lc_20001, lc_20100, lc_21000, lc_21100, lc_22000, lc_23000, lc_24000, lc_25000, gd_t, w_eq, thT, thU, psT, psU, hnT, thr_mk, ↓Option.bind_some, ht, h0]
    · unfold p_X11_attach
      simp (disch := omega) only [aok, up_s, true_and, false_and, and_true, and_false, if_true, if_false, ↓reduceIte, ↓Option.bind_some, Int.reduceEq, Int.reduceNe, Int.reduceLT, Int.reduceLE, gd_true, gd_false, bind_b, q10, eq_self, reduceCtorEq, not_true_eq_false, not_false_eq_true, ne_eq, pt_0, pt_1, pt_2, pt_3, pt_4, pt_5, pt_6, pt_7, pt_8, pt_9, pt_10, pt_11, pt_12, pt_13, pt_14, pt_15, pt_16, pt_17, pt_18, pt_19, pt_20, pt_21, pt_22, pt_23, pt_24, pt_25, pt_26, pt_27, pt_28, pt_29, pt_30, pt_31, pt_32, pt_33, pt_34, pt_35, pt_36, pt_37, pt_38, pt_39, pt_40, pt_41, pt_42, pt_43, pt_44, pt_45, pt_46, pt_47, pt_48, pt_49, pt_50, pt_51, pt_52, pt_53, pt_54, pt_55, pt_56, pt_57, pt_58, pt_59, pt_60, pt_61, pt_62, pt_63, pt_64, pt_65, pt_66, pt_67, pa_13005, pw_13005, pa_13006, pw_13006, pa_13007, pw_13007, pa_14008, pw_14008, pa_13009, pw_13009, pa_13010, pw_13010, pa_13012, pw_13012, pa_13013, pw_13013, pa_13014, pw_13014, pa_13015, pw_13015, pa_13016, pw_13016, pa_13017, pw_13017, pa_13018, pw_13018, pa_13020, pw_13020, pa_13021, pw_13021, pa_13022, pw_13022, pa_13023, pw_13023, pa_13024, pw_13024, pa_13025, pw_13025, pa_13026, pw_13026, pa_13027, pw_13027, pa_13028, pw_13028, pa_13029, pw_13029, pa_13031, pw_13031, pa_13032, pw_13032, pa_13033, pw_13033, pa_14034, pw_14034, pa_13035, pw_13035, pa_13036, pw_13036, pa_13037, pw_13037, pa_13038, pw_13038, pa_13039, pw_13039, pa_13042, pw_13042, pa_13043, pw_13043, pa_13044, pw_13044, pa_13045, pw_13045, pa_13046, pw_13046, pa_13047, pw_13047, pa_13048, pw_13048, pa_13049, pw_13049, pa_13050, pw_13050, pa_13051, pw_13051, pa_13052, pw_13052, pa_13053, pw_13053, pa_13054, pw_13054, pa_13055, pw_13055, pa_13056, pw_13056, pa_13057, pw_13057, pa_13058, pw_13058, pa_13059, pw_13059, pa_13060, pw_13060, pa_13061, pw_13061, pa_13062, pw_13062, pa_13063, pw_13063, pa_13064, pw_13064, pa_13065, pw_13065, pa_13066, pw_13066, pa_13067, pw_13067, ps_0, ps_1, ps_2, ps_3, ps_4, ps_11, ps_19, ps_30, ps_40, ps_41, ln_13005, ln_13006, ln_13007, ln_14008, ln_13009, ln_13010, ln_13012, ln_13013, ln_13014, ln_13015, ln_13016, ln_13017, ln_13018, ln_13020, ln_13021, ln_13022, ln_13023, ln_13024, ln_13025, ln_13026, ln_13027, ln_13028, ln_13029, ln_13031, ln_13032, ln_13033, ln_14034, ln_13035, ln_13036, ln_13037, ln_13038, ln_13039, ln_13042, ln_13043, ln_13044, ln_13045, ln_13046, ln_13047, ln_13048, ln_13049, ln_13050, ln_13051, ln_13052, ln_13053, ln_13054, ln_13055, ln_13056, ln_13057, ln_13058, ln_13059, ln_13060, ln_13061, ln_13062, ln_13063, ln_13064, ln_13065, ln_13066, ln_13067, gd_t, w_eq, mt, h0, m_refuse]
