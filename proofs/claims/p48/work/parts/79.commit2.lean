/-! PURE PART, 79: commit, on: places -/
abbrev cmp (N : Nd) (x g p : Int) : Prop := gR N g p ∧ N 13057 (9 * g + p) < N 13039 (9 * x + p)
def cmI (N : Nd) (x g i : Int) : Nd := fun b q => if b = 13057 ∧ 9 * g ≤ q ∧ q < 9 * g + i ∧ cmp N x g (q - 9 * g) then N 13039 (9 * x + (q - 9 * g)) else N b q
def cmC (C : Cd) (N : Nd) (x g i : Int) : Cd := fun b y z => if b = 9000 ∧ z = 3 ∧ 9 * g ≤ y ∧ y < 9 * g + i ∧ cmp N x g (y - 9 * g) then N 13039 (9 * x + (y - 9 * g)) else C b y z
section CMP
variable {C : Cd} {N N0 : Nd} {A : Ad} {x g i : Int}
theorem cm_ar {b : Int} (h : b ≠ 13057) : cmI N x g i b = N b := by
  funext q
  unfold cmI
  rw [if_neg (fun z => h z.1)]
theorem cm_c {p : Int} (p1 : 0 ≤ p) : cmI N x g i 13057 (9 * g + p) = if p < i ∧ cmp N x g p then N 13039 (9 * x + p) else N 13057 (9 * g + p) := by
  unfold cmI
  have e : 9 * g + p - 9 * g = p := by omega
  rw [e]
  by_cases c : p < i ∧ cmp N x g p
  · rw [if_pos c, if_pos ⟨rfl, by omega, by omega, c.2⟩]
  · rw [if_neg c, if_neg (fun z => c ⟨by omega, z.2.2.2⟩)]
theorem mc_c {p : Int} (p1 : 0 ≤ p) : cmC C N x g i 9000 (9 * g + p) 3 = if p < i ∧ cmp N x g p then N 13039 (9 * x + p) else C 9000 (9 * g + p) 3 := by
  unfold cmC
  have e : 9 * g + p - 9 * g = p := by omega
  rw [e]
  by_cases c : p < i ∧ cmp N x g p
  · rw [if_pos c, if_pos ⟨rfl, rfl, by omega, by omega, c.2⟩]
  · rw [if_neg c, if_neg (fun z => c ⟨by omega, z.2.2.2.2⟩)]
theorem mc_ar {b y z : Int} (h : ¬ (b = 9000 ∧ z = 3)) : cmC C N x g i b y z = C b y z := by
  unfold cmC
  rw [if_neg (fun q => h ⟨q.1, q.2.1⟩)]
theorem cm_0 : cmI N x g 0 = N := by
  funext b q
  unfold cmI
  rw [if_neg (by omega)]
theorem mc_0 : cmC C N x g 0 = C := by
  funext b y z
  unfold cmC
  rw [if_neg (by omega)]
theorem cm_y (h : cmp N x g i) : up (cmI N x g i) 13057 (9 * g + i) (N 13039 (9 * x + i)) = cmI N x g (i + 1) := by
  funext b q
  rw [up_s]
  unfold cmI
  by_cases e : b = 13057 ∧ q = 9 * g + i
  · rw [if_pos e, if_pos (show b = 13057 ∧ 9 * g ≤ q ∧ q < 9 * g + (i + 1) ∧ cmp N x g (q - 9 * g) from ⟨e.1, by have := h.1.1; omega, by omega, by rw [e.2, show 9 * g + i - 9 * g = i by omega]; exact h⟩), e.2, show 9 * g + i - 9 * g = i by omega]
  · rw [if_neg e]
    by_cases c : b = 13057 ∧ 9 * g ≤ q ∧ q < 9 * g + i ∧ cmp N x g (q - 9 * g)
    · rw [if_pos c, if_pos (show b = 13057 ∧ 9 * g ≤ q ∧ q < 9 * g + (i + 1) ∧ cmp N x g (q - 9 * g) from ⟨c.1, c.2.1, by omega, c.2.2.2⟩)]
    · rw [if_neg c, if_neg (show ¬ (b = 13057 ∧ 9 * g ≤ q ∧ q < 9 * g + (i + 1) ∧ cmp N x g (q - 9 * g)) from fun z => c ⟨z.1, z.2.1, by omega, z.2.2.2⟩)]
theorem cm_n (h : ¬ cmp N x g i) : cmI N x g i = cmI N x g (i + 1) := by
  funext b q
  unfold cmI
  by_cases c : b = 13057 ∧ 9 * g ≤ q ∧ q < 9 * g + i ∧ cmp N x g (q - 9 * g)
  · rw [if_pos c, if_pos (show b = 13057 ∧ 9 * g ≤ q ∧ q < 9 * g + (i + 1) ∧ cmp N x g (q - 9 * g) from ⟨c.1, c.2.1, by omega, c.2.2.2⟩)]
  · rw [if_neg c, if_neg (show ¬ (b = 13057 ∧ 9 * g ≤ q ∧ q < 9 * g + (i + 1) ∧ cmp N x g (q - 9 * g)) from fun z => by
      by_cases e : q = 9 * g + i
      · have z4 := z.2.2.2
        rw [e, show 9 * g + i - 9 * g = i by omega] at z4
        exact h z4
      · exact c ⟨z.1, z.2.1, by omega, z.2.2.2⟩)]
theorem mc_y (h : cmp N x g i) : uq (cmC C N x g i) 9000 (9 * g + i) 3 (N 13039 (9 * x + i)) = cmC C N x g (i + 1) := by
  funext b y z
  rw [uq_s]
  unfold cmC
  by_cases e : b = 9000 ∧ y = 9 * g + i ∧ z = 3
  · rw [if_pos e, if_pos (show b = 9000 ∧ z = 3 ∧ 9 * g ≤ y ∧ y < 9 * g + (i + 1) ∧ cmp N x g (y - 9 * g) from ⟨e.1, e.2.2, by have := h.1.1; omega, by omega, by rw [e.2.1, show 9 * g + i - 9 * g = i by omega]; exact h⟩), e.2.1, show 9 * g + i - 9 * g = i by omega]
  · rw [if_neg e]
    by_cases c : b = 9000 ∧ z = 3 ∧ 9 * g ≤ y ∧ y < 9 * g + i ∧ cmp N x g (y - 9 * g)
    · rw [if_pos c, if_pos (show b = 9000 ∧ z = 3 ∧ 9 * g ≤ y ∧ y < 9 * g + (i + 1) ∧ cmp N x g (y - 9 * g) from ⟨c.1, c.2.1, c.2.2.1, by omega, c.2.2.2.2⟩)]
    · rw [if_neg c, if_neg (show ¬ (b = 9000 ∧ z = 3 ∧ 9 * g ≤ y ∧ y < 9 * g + (i + 1) ∧ cmp N x g (y - 9 * g)) from fun q => c ⟨q.1, q.2.1, q.2.2.1, by omega, q.2.2.2.2⟩)]
theorem mc_n (h : ¬ cmp N x g i) : cmC C N x g i = cmC C N x g (i + 1) := by
  funext b y z
  unfold cmC
  by_cases c : b = 9000 ∧ z = 3 ∧ 9 * g ≤ y ∧ y < 9 * g + i ∧ cmp N x g (y - 9 * g)
  · rw [if_pos c, if_pos (show b = 9000 ∧ z = 3 ∧ 9 * g ≤ y ∧ y < 9 * g + (i + 1) ∧ cmp N x g (y - 9 * g) from ⟨c.1, c.2.1, c.2.2.1, by omega, c.2.2.2.2⟩)]
  · rw [if_neg c, if_neg (show ¬ (b = 9000 ∧ z = 3 ∧ 9 * g ≤ y ∧ y < 9 * g + (i + 1) ∧ cmp N x g (y - 9 * g)) from fun q => by
      by_cases e : y = 9 * g + i
      · have z4 := q.2.2.2.2
        rw [e, show 9 * g + i - 9 * g = i by omega] at z4
        exact h z4
      · exact c ⟨q.1, q.2.1, q.2.2.1, by omega, q.2.2.2.2⟩)]
/-- the class's loop -/
theorem c_commitPlaces {n : Int} (j : JJ n C N A) (x1 : 0 ≤ x) (x2 : x < (N 12000 30)) (z : N 13035 x ≠ 0) : p_X6_commitPlaces (mk C N0 A) (7000 + x) = some (mk (cmC C N x (N 13036 x) 9) N0 A) := by
  have G := j.jn.g
  have s3 := G.s.2.2.1
  have s4 := G.s.2.2.2.1
  obtain ⟨px1, px2, px3⟩ := j.px x x1 x2
  obtain ⟨⟨g1, g2, j1, j2⟩, ⟨c5, c6, c7⟩, ge, pl⟩ := px3 z
  have c8 := (j.c.x x x1 x2).2.2.2.2.2
  have a := (j.gr g1 g2).1
  have g3 : N 13036 x < 3 := by omega
  generalize hg : N 13036 x = g at *
  have hlp : lp (b_X6_commitPlaces_2 (7000 + x)) 1000 (0, mk C N0 A) = some (mk (cmC C N x g 9) N0 A) := by
    refine lp_seq (fun i : Nat => ((i : Int), mk (cmC C N x g i) N0 A)) 9 (fun i hi => ?_) ?_ (by omega) ?_
    · have i9 : (i : Int) < 9 := by omega
      have ic : ((i + 1 : Nat) : Int) = (i : Int) + 1 := by omega
      have c8' : cmC C N x g i 7000 x 8 = 13500 + x := (mc_ar (by omega)).trans c8
      have c5' : cmC C N x g i 7000 x 5 = 1000 + g := (mc_ar (by omega)).trans c5
      have w1 : cmC C N x g i 13500 x i = N 13039 (9 * x + i) := (mc_ar (by omega)).trans (pl i (by omega) i9).1
      have o1 : cmC C N x g i 1000 g 0 = 24000 + g := (mc_ar (by omega)).trans a.o.1
      have sh : cmC C N x g i 24000 g i = if gR N g i then 9000 + (9 * g + (i : Int)) else 0 := (mc_ar (by omega)).trans (a.sh i (by omega) i9).1
      have nb := (a.np i (by omega) i9).2.1
      rw [ic]
      unfold b_X6_commitPlaces_2 p_X0_shareAt
      by_cases r : gR N g i
      · rw [if_pos r] at sh
        have s3' : cmC C N x g i 9000 (9 * g + i) 3 = N 13057 (9 * g + i) := by
          rw [mc_c (by omega), if_neg (by omega)]
          exact ((a.sh i (by omega) i9).2 r).2.2.2.1
        by_cases y : N 13057 (9 * g + i) < N 13039 (9 * x + i)
        · rw [← mc_y ⟨r, y⟩]
          simp (disch := omega) only [aok, up_s, true_and, false_and, and_true, and_false, if_true, if_false, ↓reduceIte, ↓Option.bind_some, Int.reduceEq, Int.reduceNe, Int.reduceLT, Int.reduceLE, gd_true, gd_false, bind_b, q10, eq_self, reduceCtorEq, not_true_eq_false, not_false_eq_true, ne_eq, cr_11000, cr_15000, cr_16000, cr_20000, cr_20001, cr_21000, cr_22000, cr_25000, cr_1000, cr_2000, cr_3000, cr_3003, cr_3006, cr_4000, cr_5000, cr_6000, cr_7000, cr_8000, cr_9000, cr_10000, cr_13500, cr_17000, cr_17100, cr_17103, cr_17106, cr_19000, cr_20100, cr_21100, cr_23000, cr_24000, cw_11000, cw_15000, cw_16000, cw_20000, cw_20001, cw_21000, cw_22000, cw_25000, cw_1000, cw_2000, cw_3000, cw_3003, cw_3006, cw_4000, cw_5000, cw_6000, cw_7000, cw_8000, cw_9000, cw_10000, cw_13500, cw_17000, cw_17100, cw_17103, cw_17106, cw_19000, cw_20100, cw_21100, cw_23000, cw_24000, lc_13500, lc_15000, lc_16000, lc_17000, lc_17100, lc_17103, lc_17106, lc_19000, lc_20000, lc_20001, lc_20100, lc_21000, lc_21100, lc_22000, lc_23000, lc_24000, lc_25000, gd_t, w_eq, c8', i9, c5', o1, sh, s3', w1, y, if_neg]
        · rw [← mc_n (fun q => y q.2)]
          simp (disch := omega) only [aok, up_s, true_and, false_and, and_true, and_false, if_true, if_false, ↓reduceIte, ↓Option.bind_some, Int.reduceEq, Int.reduceNe, Int.reduceLT, Int.reduceLE, gd_true, gd_false, bind_b, q10, eq_self, reduceCtorEq, not_true_eq_false, not_false_eq_true, ne_eq, cr_11000, cr_15000, cr_16000, cr_20000, cr_20001, cr_21000, cr_22000, cr_25000, cr_1000, cr_2000, cr_3000, cr_3003, cr_3006, cr_4000, cr_5000, cr_6000, cr_7000, cr_8000, cr_9000, cr_10000, cr_13500, cr_17000, cr_17100, cr_17103, cr_17106, cr_19000, cr_20100, cr_21100, cr_23000, cr_24000, cw_11000, cw_15000, cw_16000, cw_20000, cw_20001, cw_21000, cw_22000, cw_25000, cw_1000, cw_2000, cw_3000, cw_3003, cw_3006, cw_4000, cw_5000, cw_6000, cw_7000, cw_8000, cw_9000, cw_10000, cw_13500, cw_17000, cw_17100, cw_17103, cw_17106, cw_19000, cw_20100, cw_21100, cw_23000, cw_24000, lc_13500, lc_15000, lc_16000, lc_17000, lc_17100, lc_17103, lc_17106, lc_19000, lc_20000, lc_20001, lc_20100, lc_21000, lc_21100, lc_22000, lc_23000, lc_24000, lc_25000, gd_t, w_eq, c8', i9, c5', o1, sh, s3', w1, y, if_neg]
      · rw [if_neg r] at sh
        rw [← mc_n (fun q => r q.1)]
        simp (disch := omega) only [aok, up_s, true_and, false_and, and_true, and_false, if_true, if_false, ↓reduceIte, ↓Option.bind_some, Int.reduceEq, Int.reduceNe, Int.reduceLT, Int.reduceLE, gd_true, gd_false, bind_b, q10, eq_self, reduceCtorEq, not_true_eq_false, not_false_eq_true, ne_eq, cr_11000, cr_15000, cr_16000, cr_20000, cr_20001, cr_21000, cr_22000, cr_25000, cr_1000, cr_2000, cr_3000, cr_3003, cr_3006, cr_4000, cr_5000, cr_6000, cr_7000, cr_8000, cr_9000, cr_10000, cr_13500, cr_17000, cr_17100, cr_17103, cr_17106, cr_19000, cr_20100, cr_21100, cr_23000, cr_24000, cw_11000, cw_15000, cw_16000, cw_20000, cw_20001, cw_21000, cw_22000, cw_25000, cw_1000, cw_2000, cw_3000, cw_3003, cw_3006, cw_4000, cw_5000, cw_6000, cw_7000, cw_8000, cw_9000, cw_10000, cw_13500, cw_17000, cw_17100, cw_17103, cw_17106, cw_19000, cw_20100, cw_21100, cw_23000, cw_24000, lc_13500, lc_15000, lc_16000, lc_17000, lc_17100, lc_17103, lc_17106, lc_19000, lc_20000, lc_20001, lc_20100, lc_21000, lc_21100, lc_22000, lc_23000, lc_24000, lc_25000, gd_t, w_eq, c8', i9, c5', o1, sh, if_neg]
    · have c8' : cmC C N x g ((9 : Nat) : Int) 7000 x 8 = 13500 + x := (mc_ar (by omega)).trans c8
      unfold b_X6_commitPlaces_2
      simp (disch := omega) only [aok, up_s, true_and, false_and, and_true, and_false, if_true, if_false, ↓reduceIte, ↓Option.bind_some, Int.reduceEq, Int.reduceNe, Int.reduceLT, Int.reduceLE, gd_true, gd_false, bind_b, q10, eq_self, reduceCtorEq, not_true_eq_false, not_false_eq_true, ne_eq, cr_11000, cr_15000, cr_16000, cr_20000, cr_20001, cr_21000, cr_22000, cr_25000, cr_1000, cr_2000, cr_3000, cr_3003, cr_3006, cr_4000, cr_5000, cr_6000, cr_7000, cr_8000, cr_9000, cr_10000, cr_13500, cr_17000, cr_17100, cr_17103, cr_17106, cr_19000, cr_20100, cr_21100, cr_23000, cr_24000, cw_11000, cw_15000, cw_16000, cw_20000, cw_20001, cw_21000, cw_22000, cw_25000, cw_1000, cw_2000, cw_3000, cw_3003, cw_3006, cw_4000, cw_5000, cw_6000, cw_7000, cw_8000, cw_9000, cw_10000, cw_13500, cw_17000, cw_17100, cw_17103, cw_17106, cw_19000, cw_20100, cw_21100, cw_23000, cw_24000, lc_13500, lc_15000, lc_16000, lc_17000, lc_17100, lc_17103, lc_17106, lc_19000, lc_20000, lc_20001, lc_20100, lc_21000, lc_21100, lc_22000, lc_23000, lc_24000, lc_25000, gd_t, w_eq, c8', if_neg]
      rfl
    · show _ = (((0 : Nat) : Int), mk (cmC C N x g ((0 : Nat) : Int)) N0 A)
      rw [show ((0 : Nat) : Int) = 0 from rfl, mc_0]
  unfold p_X6_commitPlaces
  rw [hlp]
  rfl
theorem c_commitPlaces0 (x1 : 0 ≤ x) (x2 : x < 4) (c8 : C 7000 x 8 = 13500 + x) (c5 : C 7000 x 5 = 0) : p_X6_commitPlaces (mk C N0 A) (7000 + x) = some (mk C N0 A) := by
  have hlp : lp (b_X6_commitPlaces_2 (7000 + x)) 1000 (0, mk C N0 A) = some (mk C N0 A) := by
    refine lp_end ?_
    unfold b_X6_commitPlaces_2
    simp (disch := omega) only [aok, up_s, true_and, false_and, and_true, and_false, if_true, if_false, ↓reduceIte, ↓Option.bind_some, Int.reduceEq, Int.reduceNe, Int.reduceLT, Int.reduceLE, gd_true, gd_false, bind_b, q10, eq_self, reduceCtorEq, not_true_eq_false, not_false_eq_true, ne_eq, cr_11000, cr_15000, cr_16000, cr_20000, cr_20001, cr_21000, cr_22000, cr_25000, cr_1000, cr_2000, cr_3000, cr_3003, cr_3006, cr_4000, cr_5000, cr_6000, cr_7000, cr_8000, cr_9000, cr_10000, cr_13500, cr_17000, cr_17100, cr_17103, cr_17106, cr_19000, cr_20100, cr_21100, cr_23000, cr_24000, cw_11000, cw_15000, cw_16000, cw_20000, cw_20001, cw_21000, cw_22000, cw_25000, cw_1000, cw_2000, cw_3000, cw_3003, cw_3006, cw_4000, cw_5000, cw_6000, cw_7000, cw_8000, cw_9000, cw_10000, cw_13500, cw_17000, cw_17100, cw_17103, cw_17106, cw_19000, cw_20100, cw_21100, cw_23000, cw_24000, lc_13500, lc_15000, lc_16000, lc_17000, lc_17100, lc_17103, lc_17106, lc_19000, lc_20000, lc_20001, lc_20100, lc_21000, lc_21100, lc_22000, lc_23000, lc_24000, lc_25000, gd_t, w_eq, c8, c5]
  unfold p_X6_commitPlaces
  rw [hlp]
  rfl
/-- the model's loop -/
theorem m_cmLoop {n : Int} (j : JJ n C N A) (x1 : 0 ≤ x) (x2 : x < (N 12000 30)) (h0 : 0 ≤ N 13033 x) (C' : Cd) (A' : Ad) : lp (b_X11_commit_63 12000 x) 1000 (0, mk C' N A') = some (mk C' (if N 13035 x = 0 then N else cmI N x (N 13036 x) 9) A') := by
  have G := j.jn.g
  have s2 := G.s.2.1
  have s3 := G.s.2.2.1
  have s4 := G.s.2.2.2.1
  obtain ⟨px1, px2, px3⟩ := j.px x x1 x2
  by_cases z : N 13035 x = 0
  · rw [if_pos z]
    refine lp_seq (fun i : Nat => ((i : Int), mk C' N A')) ((N 12000 11)).toNat (fun i hi => ?_) ?_ (by omega) rfl
    · have i9 : (i : Int) < (N 12000 11) := by omega
      have ic : ((i + 1 : Nat) : Int) = (i : Int) + 1 := by omega
      have y := (px1 z).2 h0 i (by omega) (by omega)
      have y2 : N 13039 (9 * x + i) < 0 := by omega
      rw [ic]
      unfold b_X11_commit_63
      simp (disch := omega) only [aok, up_s, true_and, false_and, and_true, and_false, if_true, if_false, ↓reduceIte, ↓Option.bind_some, Int.reduceEq, Int.reduceNe, Int.reduceLT, Int.reduceLE, gd_true, gd_false, bind_b, q10, eq_self, reduceCtorEq, not_true_eq_false, not_false_eq_true, ne_eq, pt_0, pt_1, pt_2, pt_3, pt_4, pt_5, pt_6, pt_7, pt_8, pt_9, pt_10, pt_11, pt_12, pt_13, pt_14, pt_15, pt_16, pt_17, pt_18, pt_19, pt_20, pt_21, pt_22, pt_23, pt_24, pt_25, pt_26, pt_27, pt_28, pt_29, pt_30, pt_31, pt_32, pt_33, pt_34, pt_35, pt_36, pt_37, pt_38, pt_39, pt_40, pt_41, pt_42, pt_43, pt_44, pt_45, pt_46, pt_47, pt_48, pt_49, pt_50, pt_51, pt_52, pt_53, pt_54, pt_55, pt_56, pt_57, pt_58, pt_59, pt_60, pt_61, pt_62, pt_63, pt_64, pt_65, pt_66, pt_67, pa_13005, pw_13005, pa_13006, pw_13006, pa_13007, pw_13007, pa_14008, pw_14008, pa_13009, pw_13009, pa_13010, pw_13010, pa_13012, pw_13012, pa_13013, pw_13013, pa_13014, pw_13014, pa_13015, pw_13015, pa_13016, pw_13016, pa_13017, pw_13017, pa_13018, pw_13018, pa_13020, pw_13020, pa_13021, pw_13021, pa_13022, pw_13022, pa_13023, pw_13023, pa_13024, pw_13024, pa_13025, pw_13025, pa_13026, pw_13026, pa_13027, pw_13027, pa_13028, pw_13028, pa_13029, pw_13029, pa_13031, pw_13031, pa_13032, pw_13032, pa_13033, pw_13033, pa_14034, pw_14034, pa_13035, pw_13035, pa_13036, pw_13036, pa_13037, pw_13037, pa_13038, pw_13038, pa_13039, pw_13039, pa_13042, pw_13042, pa_13043, pw_13043, pa_13044, pw_13044, pa_13045, pw_13045, pa_13046, pw_13046, pa_13047, pw_13047, pa_13048, pw_13048, pa_13049, pw_13049, pa_13050, pw_13050, pa_13051, pw_13051, pa_13052, pw_13052, pa_13053, pw_13053, pa_13054, pw_13054, pa_13055, pw_13055, pa_13056, pw_13056, pa_13057, pw_13057, pa_13058, pw_13058, pa_13059, pw_13059, pa_13060, pw_13060, pa_13061, pw_13061, pa_13062, pw_13062, pa_13063, pw_13063, pa_13064, pw_13064, pa_13065, pw_13065, pa_13066, pw_13066, pa_13067, pw_13067, ps_0, ps_1, ps_2, ps_3, ps_4, ps_11, ps_19, ps_30, ps_40, ps_41, ln_13005, ln_13006, ln_13007, ln_14008, ln_13009, ln_13010, ln_13012, ln_13013, ln_13014, ln_13015, ln_13016, ln_13017, ln_13018, ln_13020, ln_13021, ln_13022, ln_13023, ln_13024, ln_13025, ln_13026, ln_13027, ln_13028, ln_13029, ln_13031, ln_13032, ln_13033, ln_14034, ln_13035, ln_13036, ln_13037, ln_13038, ln_13039, ln_13042, ln_13043, ln_13044, ln_13045, ln_13046, ln_13047, ln_13048, ln_13049, ln_13050, ln_13051, ln_13052, ln_13053, ln_13054, ln_13055, ln_13056, ln_13057, ln_13058, ln_13059, ln_13060, ln_13061, ln_13062, ln_13063, ln_13064, ln_13065, ln_13066, ln_13067, gd_t, w_eq, i9, y2]
    · have ei : ((((N 12000 11)).toNat : Nat) : Int) = (N 12000 11) := by omega
      rw [ei]
      unfold b_X11_commit_63
      simp (disch := omega) only [aok, up_s, true_and, false_and, and_true, and_false, if_true, if_false, ↓reduceIte, ↓Option.bind_some, Int.reduceEq, Int.reduceNe, Int.reduceLT, Int.reduceLE, gd_true, gd_false, bind_b, q10, eq_self, reduceCtorEq, not_true_eq_false, not_false_eq_true, ne_eq, pt_0, pt_1, pt_2, pt_3, pt_4, pt_5, pt_6, pt_7, pt_8, pt_9, pt_10, pt_11, pt_12, pt_13, pt_14, pt_15, pt_16, pt_17, pt_18, pt_19, pt_20, pt_21, pt_22, pt_23, pt_24, pt_25, pt_26, pt_27, pt_28, pt_29, pt_30, pt_31, pt_32, pt_33, pt_34, pt_35, pt_36, pt_37, pt_38, pt_39, pt_40, pt_41, pt_42, pt_43, pt_44, pt_45, pt_46, pt_47, pt_48, pt_49, pt_50, pt_51, pt_52, pt_53, pt_54, pt_55, pt_56, pt_57, pt_58, pt_59, pt_60, pt_61, pt_62, pt_63, pt_64, pt_65, pt_66, pt_67, pa_13005, pw_13005, pa_13006, pw_13006, pa_13007, pw_13007, pa_14008, pw_14008, pa_13009, pw_13009, pa_13010, pw_13010, pa_13012, pw_13012, pa_13013, pw_13013, pa_13014, pw_13014, pa_13015, pw_13015, pa_13016, pw_13016, pa_13017, pw_13017, pa_13018, pw_13018, pa_13020, pw_13020, pa_13021, pw_13021, pa_13022, pw_13022, pa_13023, pw_13023, pa_13024, pw_13024, pa_13025, pw_13025, pa_13026, pw_13026, pa_13027, pw_13027, pa_13028, pw_13028, pa_13029, pw_13029, pa_13031, pw_13031, pa_13032, pw_13032, pa_13033, pw_13033, pa_14034, pw_14034, pa_13035, pw_13035, pa_13036, pw_13036, pa_13037, pw_13037, pa_13038, pw_13038, pa_13039, pw_13039, pa_13042, pw_13042, pa_13043, pw_13043, pa_13044, pw_13044, pa_13045, pw_13045, pa_13046, pw_13046, pa_13047, pw_13047, pa_13048, pw_13048, pa_13049, pw_13049, pa_13050, pw_13050, pa_13051, pw_13051, pa_13052, pw_13052, pa_13053, pw_13053, pa_13054, pw_13054, pa_13055, pw_13055, pa_13056, pw_13056, pa_13057, pw_13057, pa_13058, pw_13058, pa_13059, pw_13059, pa_13060, pw_13060, pa_13061, pw_13061, pa_13062, pw_13062, pa_13063, pw_13063, pa_13064, pw_13064, pa_13065, pw_13065, pa_13066, pw_13066, pa_13067, pw_13067, ps_0, ps_1, ps_2, ps_3, ps_4, ps_11, ps_19, ps_30, ps_40, ps_41, ln_13005, ln_13006, ln_13007, ln_14008, ln_13009, ln_13010, ln_13012, ln_13013, ln_13014, ln_13015, ln_13016, ln_13017, ln_13018, ln_13020, ln_13021, ln_13022, ln_13023, ln_13024, ln_13025, ln_13026, ln_13027, ln_13028, ln_13029, ln_13031, ln_13032, ln_13033, ln_14034, ln_13035, ln_13036, ln_13037, ln_13038, ln_13039, ln_13042, ln_13043, ln_13044, ln_13045, ln_13046, ln_13047, ln_13048, ln_13049, ln_13050, ln_13051, ln_13052, ln_13053, ln_13054, ln_13055, ln_13056, ln_13057, ln_13058, ln_13059, ln_13060, ln_13061, ln_13062, ln_13063, ln_13064, ln_13065, ln_13066, ln_13067, gd_t, w_eq, Int.lt_irrefl]
  · rw [if_neg z]
    obtain ⟨⟨g1, g2, j1, j2⟩, -, -, pl⟩ := px3 z
    have a := (j.gr g1 g2).1
    have g3 : N 13036 x < 3 := by omega
    have e9 : cmI N x (N 13036 x) 9 = cmI N x (N 13036 x) ((N 12000 11)) := by
      funext b q
      unfold cmI
      by_cases c : b = 13057 ∧ 9 * N 13036 x ≤ q ∧ q < 9 * N 13036 x + 9 ∧ cmp N x (N 13036 x) (q - 9 * N 13036 x)
      · rw [if_pos c, if_pos (show b = 13057 ∧ 9 * N 13036 x ≤ q ∧ q < 9 * N 13036 x + (N 12000 11) ∧ cmp N x (N 13036 x) (q - 9 * N 13036 x) from ⟨c.1, c.2.1, by have := c.2.2.2.1.2.1; omega, c.2.2.2⟩)]
      · rw [if_neg c, if_neg (show ¬ (b = 13057 ∧ 9 * N 13036 x ≤ q ∧ q < 9 * N 13036 x + (N 12000 11) ∧ cmp N x (N 13036 x) (q - 9 * N 13036 x)) from fun y => c ⟨y.1, y.2.1, by omega, y.2.2.2⟩)]
    rw [e9]
    have hg1 : N 13036 x = N 13036 x := rfl
    refine lp_seq (fun i : Nat => ((i : Int), mk C' (cmI N x (N 13036 x) i) A')) ((N 12000 11)).toNat (fun i hi => ?_) ?_ (by omega) ?_
    · have iP : (i : Int) < (N 12000 11) := by omega
      have i9 : (i : Int) < 9 := by omega
      have ic : ((i + 1 : Nat) : Int) = (i : Int) + 1 := by omega
      obtain ⟨w1, w2, w3⟩ := pl i (by omega) i9
      have e11 : cmI N x (N 13036 x) i 12000 11 = (N 12000 11) := congrFun (cm_ar (by decide)) _
      have ep : cmI N x (N 13036 x) i 13039 (9 * x + i) = N 13039 (9 * x + i) := congrFun (cm_ar (by decide)) _
      have eg : cmI N x (N 13036 x) i 13036 x = N 13036 x := congrFun (cm_ar (by decide)) _
      have ec : cmI N x (N 13036 x) i 13057 (9 * N 13036 x + i) = N 13057 (9 * N 13036 x + i) := by rw [cm_c (by omega), if_neg (by omega)]
      have nb := (a.np i (by omega) i9).2.1
      rw [ic]
      unfold b_X11_commit_63 p_X11_commitAt
      by_cases y2 : N 13039 (9 * x + i) < 0
      · rw [← cm_n (fun q => by have := q.2; omega)]
        simp (disch := omega) only [aok, up_s, true_and, false_and, and_true, and_false, if_true, if_false, ↓reduceIte, ↓Option.bind_some, Int.reduceEq, Int.reduceNe, Int.reduceLT, Int.reduceLE, gd_true, gd_false, bind_b, q10, eq_self, reduceCtorEq, not_true_eq_false, not_false_eq_true, ne_eq, pt_0, pt_1, pt_2, pt_3, pt_4, pt_5, pt_6, pt_7, pt_8, pt_9, pt_10, pt_11, pt_12, pt_13, pt_14, pt_15, pt_16, pt_17, pt_18, pt_19, pt_20, pt_21, pt_22, pt_23, pt_24, pt_25, pt_26, pt_27, pt_28, pt_29, pt_30, pt_31, pt_32, pt_33, pt_34, pt_35, pt_36, pt_37, pt_38, pt_39, pt_40, pt_41, pt_42, pt_43, pt_44, pt_45, pt_46, pt_47, pt_48, pt_49, pt_50, pt_51, pt_52, pt_53, pt_54, pt_55, pt_56, pt_57, pt_58, pt_59, pt_60, pt_61, pt_62, pt_63, pt_64, pt_65, pt_66, pt_67, pa_13005, pw_13005, pa_13006, pw_13006, pa_13007, pw_13007, pa_14008, pw_14008, pa_13009, pw_13009, pa_13010, pw_13010, pa_13012, pw_13012, pa_13013, pw_13013, pa_13014, pw_13014, pa_13015, pw_13015, pa_13016, pw_13016, pa_13017, pw_13017, pa_13018, pw_13018, pa_13020, pw_13020, pa_13021, pw_13021, pa_13022, pw_13022, pa_13023, pw_13023, pa_13024, pw_13024, pa_13025, pw_13025, pa_13026, pw_13026, pa_13027, pw_13027, pa_13028, pw_13028, pa_13029, pw_13029, pa_13031, pw_13031, pa_13032, pw_13032, pa_13033, pw_13033, pa_14034, pw_14034, pa_13035, pw_13035, pa_13036, pw_13036, pa_13037, pw_13037, pa_13038, pw_13038, pa_13039, pw_13039, pa_13042, pw_13042, pa_13043, pw_13043, pa_13044, pw_13044, pa_13045, pw_13045, pa_13046, pw_13046, pa_13047, pw_13047, pa_13048, pw_13048, pa_13049, pw_13049, pa_13050, pw_13050, pa_13051, pw_13051, pa_13052, pw_13052, pa_13053, pw_13053, pa_13054, pw_13054, pa_13055, pw_13055, pa_13056, pw_13056, pa_13057, pw_13057, pa_13058, pw_13058, pa_13059, pw_13059, pa_13060, pw_13060, pa_13061, pw_13061, pa_13062, pw_13062, pa_13063, pw_13063, pa_13064, pw_13064, pa_13065, pw_13065, pa_13066, pw_13066, pa_13067, pw_13067, ps_0, ps_1, ps_2, ps_3, ps_4, ps_11, ps_19, ps_30, ps_40, ps_41, ln_13005, ln_13006, ln_13007, ln_14008, ln_13009, ln_13010, ln_13012, ln_13013, ln_13014, ln_13015, ln_13016, ln_13017, ln_13018, ln_13020, ln_13021, ln_13022, ln_13023, ln_13024, ln_13025, ln_13026, ln_13027, ln_13028, ln_13029, ln_13031, ln_13032, ln_13033, ln_14034, ln_13035, ln_13036, ln_13037, ln_13038, ln_13039, ln_13042, ln_13043, ln_13044, ln_13045, ln_13046, ln_13047, ln_13048, ln_13049, ln_13050, ln_13051, ln_13052, ln_13053, ln_13054, ln_13055, ln_13056, ln_13057, ln_13058, ln_13059, ln_13060, ln_13061, ln_13062, ln_13063, ln_13064, ln_13065, ln_13066, ln_13067, gd_t, w_eq, e11, iP, ep, y2]
      · have r := (w3 (by omega)).1
        by_cases y : N 13057 (9 * N 13036 x + i) < N 13039 (9 * x + i)
        · rw [← cm_y ⟨r, y⟩]
          simp (disch := omega) only [aok, up_s, true_and, false_and, and_true, and_false, if_true, if_false, ↓reduceIte, ↓Option.bind_some, Int.reduceEq, Int.reduceNe, Int.reduceLT, Int.reduceLE, gd_true, gd_false, bind_b, q10, eq_self, reduceCtorEq, not_true_eq_false, not_false_eq_true, ne_eq, pt_0, pt_1, pt_2, pt_3, pt_4, pt_5, pt_6, pt_7, pt_8, pt_9, pt_10, pt_11, pt_12, pt_13, pt_14, pt_15, pt_16, pt_17, pt_18, pt_19, pt_20, pt_21, pt_22, pt_23, pt_24, pt_25, pt_26, pt_27, pt_28, pt_29, pt_30, pt_31, pt_32, pt_33, pt_34, pt_35, pt_36, pt_37, pt_38, pt_39, pt_40, pt_41, pt_42, pt_43, pt_44, pt_45, pt_46, pt_47, pt_48, pt_49, pt_50, pt_51, pt_52, pt_53, pt_54, pt_55, pt_56, pt_57, pt_58, pt_59, pt_60, pt_61, pt_62, pt_63, pt_64, pt_65, pt_66, pt_67, pa_13005, pw_13005, pa_13006, pw_13006, pa_13007, pw_13007, pa_14008, pw_14008, pa_13009, pw_13009, pa_13010, pw_13010, pa_13012, pw_13012, pa_13013, pw_13013, pa_13014, pw_13014, pa_13015, pw_13015, pa_13016, pw_13016, pa_13017, pw_13017, pa_13018, pw_13018, pa_13020, pw_13020, pa_13021, pw_13021, pa_13022, pw_13022, pa_13023, pw_13023, pa_13024, pw_13024, pa_13025, pw_13025, pa_13026, pw_13026, pa_13027, pw_13027, pa_13028, pw_13028, pa_13029, pw_13029, pa_13031, pw_13031, pa_13032, pw_13032, pa_13033, pw_13033, pa_14034, pw_14034, pa_13035, pw_13035, pa_13036, pw_13036, pa_13037, pw_13037, pa_13038, pw_13038, pa_13039, pw_13039, pa_13042, pw_13042, pa_13043, pw_13043, pa_13044, pw_13044, pa_13045, pw_13045, pa_13046, pw_13046, pa_13047, pw_13047, pa_13048, pw_13048, pa_13049, pw_13049, pa_13050, pw_13050, pa_13051, pw_13051, pa_13052, pw_13052, pa_13053, pw_13053, pa_13054, pw_13054, pa_13055, pw_13055, pa_13056, pw_13056, pa_13057, pw_13057, pa_13058, pw_13058, pa_13059, pw_13059, pa_13060, pw_13060, pa_13061, pw_13061, pa_13062, pw_13062, pa_13063, pw_13063, pa_13064, pw_13064, pa_13065, pw_13065, pa_13066, pw_13066, pa_13067, pw_13067, ps_0, ps_1, ps_2, ps_3, ps_4, ps_11, ps_19, ps_30, ps_40, ps_41, ln_13005, ln_13006, ln_13007, ln_14008, ln_13009, ln_13010, ln_13012, ln_13013, ln_13014, ln_13015, ln_13016, ln_13017, ln_13018, ln_13020, ln_13021, ln_13022, ln_13023, ln_13024, ln_13025, ln_13026, ln_13027, ln_13028, ln_13029, ln_13031, ln_13032, ln_13033, ln_14034, ln_13035, ln_13036, ln_13037, ln_13038, ln_13039, ln_13042, ln_13043, ln_13044, ln_13045, ln_13046, ln_13047, ln_13048, ln_13049, ln_13050, ln_13051, ln_13052, ln_13053, ln_13054, ln_13055, ln_13056, ln_13057, ln_13058, ln_13059, ln_13060, ln_13061, ln_13062, ln_13063, ln_13064, ln_13065, ln_13066, ln_13067, gd_t, w_eq, e11, iP, ep, y2, eg, ec, y]
        · rw [← cm_n (fun q => y q.2)]
          have us := @up_same (cmI N x (N 13036 x) i) 13057 (9 * N 13036 x + i)
          rw [ec] at us
          simp (disch := omega) only [aok, up_s, true_and, false_and, and_true, and_false, if_true, if_false, ↓reduceIte, ↓Option.bind_some, Int.reduceEq, Int.reduceNe, Int.reduceLT, Int.reduceLE, gd_true, gd_false, bind_b, q10, eq_self, reduceCtorEq, not_true_eq_false, not_false_eq_true, ne_eq, pt_0, pt_1, pt_2, pt_3, pt_4, pt_5, pt_6, pt_7, pt_8, pt_9, pt_10, pt_11, pt_12, pt_13, pt_14, pt_15, pt_16, pt_17, pt_18, pt_19, pt_20, pt_21, pt_22, pt_23, pt_24, pt_25, pt_26, pt_27, pt_28, pt_29, pt_30, pt_31, pt_32, pt_33, pt_34, pt_35, pt_36, pt_37, pt_38, pt_39, pt_40, pt_41, pt_42, pt_43, pt_44, pt_45, pt_46, pt_47, pt_48, pt_49, pt_50, pt_51, pt_52, pt_53, pt_54, pt_55, pt_56, pt_57, pt_58, pt_59, pt_60, pt_61, pt_62, pt_63, pt_64, pt_65, pt_66, pt_67, pa_13005, pw_13005, pa_13006, pw_13006, pa_13007, pw_13007, pa_14008, pw_14008, pa_13009, pw_13009, pa_13010, pw_13010, pa_13012, pw_13012, pa_13013, pw_13013, pa_13014, pw_13014, pa_13015, pw_13015, pa_13016, pw_13016, pa_13017, pw_13017, pa_13018, pw_13018, pa_13020, pw_13020, pa_13021, pw_13021, pa_13022, pw_13022, pa_13023, pw_13023, pa_13024, pw_13024, pa_13025, pw_13025, pa_13026, pw_13026, pa_13027, pw_13027, pa_13028, pw_13028, pa_13029, pw_13029, pa_13031, pw_13031, pa_13032, pw_13032, pa_13033, pw_13033, pa_14034, pw_14034, pa_13035, pw_13035, pa_13036, pw_13036, pa_13037, pw_13037, pa_13038, pw_13038, pa_13039, pw_13039, pa_13042, pw_13042, pa_13043, pw_13043, pa_13044, pw_13044, pa_13045, pw_13045, pa_13046, pw_13046, pa_13047, pw_13047, pa_13048, pw_13048, pa_13049, pw_13049, pa_13050, pw_13050, pa_13051, pw_13051, pa_13052, pw_13052, pa_13053, pw_13053, pa_13054, pw_13054, pa_13055, pw_13055, pa_13056, pw_13056, pa_13057, pw_13057, pa_13058, pw_13058, pa_13059, pw_13059, pa_13060, pw_13060, pa_13061, pw_13061, pa_13062, pw_13062, pa_13063, pw_13063, pa_13064, pw_13064, pa_13065, pw_13065, pa_13066, pw_13066, pa_13067, pw_13067, ps_0, ps_1, ps_2, ps_3, ps_4, ps_11, ps_19, ps_30, ps_40, ps_41, ln_13005, ln_13006, ln_13007, ln_14008, ln_13009, ln_13010, ln_13012, ln_13013, ln_13014, ln_13015, ln_13016, ln_13017, ln_13018, ln_13020, ln_13021, ln_13022, ln_13023, ln_13024, ln_13025, ln_13026, ln_13027, ln_13028, ln_13029, ln_13031, ln_13032, ln_13033, ln_14034, ln_13035, ln_13036, ln_13037, ln_13038, ln_13039, ln_13042, ln_13043, ln_13044, ln_13045, ln_13046, ln_13047, ln_13048, ln_13049, ln_13050, ln_13051, ln_13052, ln_13053, ln_13054, ln_13055, ln_13056, ln_13057, ln_13058, ln_13059, ln_13060, ln_13061, ln_13062, ln_13063, ln_13064, ln_13065, ln_13066, ln_13067, gd_t, w_eq, e11, iP, ep, y2, eg, ec, y, us]
    · have ei : ((((N 12000 11)).toNat : Nat) : Int) = (N 12000 11) := by omega
      have e11 : cmI N x (N 13036 x) ((N 12000 11)) 12000 11 = (N 12000 11) := congrFun (cm_ar (by decide)) _
      rw [ei]
      unfold b_X11_commit_63
      simp (disch := omega) only [aok, up_s, true_and, false_and, and_true, and_false, if_true, if_false, ↓reduceIte, ↓Option.bind_some, Int.reduceEq, Int.reduceNe, Int.reduceLT, Int.reduceLE, gd_true, gd_false, bind_b, q10, eq_self, reduceCtorEq, not_true_eq_false, not_false_eq_true, ne_eq, pt_0, pt_1, pt_2, pt_3, pt_4, pt_5, pt_6, pt_7, pt_8, pt_9, pt_10, pt_11, pt_12, pt_13, pt_14, pt_15, pt_16, pt_17, pt_18, pt_19, pt_20, pt_21, pt_22, pt_23, pt_24, pt_25, pt_26, pt_27, pt_28, pt_29, pt_30, pt_31, pt_32, pt_33, pt_34, pt_35, pt_36, pt_37, pt_38, pt_39, pt_40, pt_41, pt_42, pt_43, pt_44, pt_45, pt_46, pt_47, pt_48, pt_49, pt_50, pt_51, pt_52, pt_53, pt_54, pt_55, pt_56, pt_57, pt_58, pt_59, pt_60, pt_61, pt_62, pt_63, pt_64, pt_65, pt_66, pt_67, pa_13005, pw_13005, pa_13006, pw_13006, pa_13007, pw_13007, pa_14008, pw_14008, pa_13009, pw_13009, pa_13010, pw_13010, pa_13012, pw_13012, pa_13013, pw_13013, pa_13014, pw_13014, pa_13015, pw_13015, pa_13016, pw_13016, pa_13017, pw_13017, pa_13018, pw_13018, pa_13020, pw_13020, pa_13021, pw_13021, pa_13022, pw_13022, pa_13023, pw_13023, pa_13024, pw_13024, pa_13025, pw_13025, pa_13026, pw_13026, pa_13027, pw_13027, pa_13028, pw_13028, pa_13029, pw_13029, pa_13031, pw_13031, pa_13032, pw_13032, pa_13033, pw_13033, pa_14034, pw_14034, pa_13035, pw_13035, pa_13036, pw_13036, pa_13037, pw_13037, pa_13038, pw_13038, pa_13039, pw_13039, pa_13042, pw_13042, pa_13043, pw_13043, pa_13044, pw_13044, pa_13045, pw_13045, pa_13046, pw_13046, pa_13047, pw_13047, pa_13048, pw_13048, pa_13049, pw_13049, pa_13050, pw_13050, pa_13051, pw_13051, pa_13052, pw_13052, pa_13053, pw_13053, pa_13054, pw_13054, pa_13055, pw_13055, pa_13056, pw_13056, pa_13057, pw_13057, pa_13058, pw_13058, pa_13059, pw_13059, pa_13060, pw_13060, pa_13061, pw_13061, pa_13062, pw_13062, pa_13063, pw_13063, pa_13064, pw_13064, pa_13065, pw_13065, pa_13066, pw_13066, pa_13067, pw_13067, ps_0, ps_1, ps_2, ps_3, ps_4, ps_11, ps_19, ps_30, ps_40, ps_41, ln_13005, ln_13006, ln_13007, ln_14008, ln_13009, ln_13010, ln_13012, ln_13013, ln_13014, ln_13015, ln_13016, ln_13017, ln_13018, ln_13020, ln_13021, ln_13022, ln_13023, ln_13024, ln_13025, ln_13026, ln_13027, ln_13028, ln_13029, ln_13031, ln_13032, ln_13033, ln_14034, ln_13035, ln_13036, ln_13037, ln_13038, ln_13039, ln_13042, ln_13043, ln_13044, ln_13045, ln_13046, ln_13047, ln_13048, ln_13049, ln_13050, ln_13051, ln_13052, ln_13053, ln_13054, ln_13055, ln_13056, ln_13057, ln_13058, ln_13059, ln_13060, ln_13061, ln_13062, ln_13063, ln_13064, ln_13065, ln_13066, ln_13067, gd_t, w_eq, e11, Int.lt_irrefl]
    · show _ = (((0 : Nat) : Int), mk C' (cmI N x (N 13036 x) ((0 : Nat) : Int)) A')
      rw [show ((0 : Nat) : Int) = 0 from rfl, cm_0]
/-- what holds goes on as places are committed -/
theorem JJ.cm {n : Int} (j : JJ n C N A) (x1 : 0 ≤ x) (x2 : x < (N 12000 30)) (z : N 13035 x ≠ 0) (h : hel N x) : JJ n (cmC C N x (N 13036 x) 9) (cmI N x (N 13036 x) 9) A := by
  have G := j.jn.g
  have s2 := G.s.2.1
  have s4 := G.s.2.2.2.1
  obtain ⟨px1, px2, px3⟩ := j.px x x1 x2
  obtain ⟨⟨g1, g2, j1, j2⟩, -, -, pl⟩ := px3 z
  obtain ⟨eg, nh⟩ := h.resolve_left z
  have gr := j.gr g1 g2
  have a := gr.1
  have held : ∀ p, 0 ≤ p → p < 9 → cmp N x (N 13036 x) p → own N (N 13036 x) (N 13037 x) p ∧ (So C (N 13036 x) p ≤ N 13039 (9 * x + p) ∧ (N 13039 (9 * x + p) ≤ So C (N 13036 x) p ∨ N 13039 (9 * x + p) ≤ so N p)) ∧ ∀ b, 0 ≤ b → b < (N 12000 19) → canR N b → N 13021 b = p → So C (N 13036 x) p ≤ N 13026 b → N 13026 b < N 13039 (9 * x + p) → Pd C N (N 13036 x) b := fun p p1 p2 hc => by
    have nb := (a.np p p1 p2).2.1
    have pp : 0 ≤ N 13039 (9 * x + p) := by have := hc.2; omega
    have ow := nhl_no nh p1 p2 pp
    exact ⟨ow, (((pl p p1 p2).2.2 pp).2 eg.symm).2 ow.2⟩
  have bnd : ∀ p, 0 ≤ p → p < 9 → N 13039 (9 * x + p) ≤ 60 := fun p p1 p2 => (pl p p1 p2).2.1.2
  generalize hgg : N 13036 x = g at *
  have kc : KG g C (cmC C N x g 9) := fun b y q hh => by
    unfold cmC
    unfold inG at hh
    rw [if_neg (by omega)]
  have km : MG g N (cmI N x g 9) := fun b y hh => by
    unfold cmI
    unfold inN at hh
    rw [if_neg (by omega)]
  refine j.grp g1 g2 kc km ⟨⟨a.o, fun p p1 p2 => ?_, a.me, a.ha, a.le, a.wa, a.de, a.nm, fun p p1 p2 => ?_, a.nu⟩, ?_⟩ ⟨Int.le_refl _, fun _ p _ => ⟨rfl, Or.inl rfl, fun _ => ⟨rfl, fun _ _ _ _ _ h => h⟩⟩⟩ (j.ne.grp km rfl rfl rfl) rfl (Int.le_refl _) (by
    have := j.b.2.2.2 g g1 g2
    show C 1000 g 9 ≤ n
    omega) (j.fs0 g1 g2 (Int.le_refl _) (fun _ _ _ => rfl) rfl)
  · obtain ⟨y1, y2⟩ := a.sh p p1 p2
    refine ⟨y1, fun r => ?_⟩
    obtain ⟨q0, q1, q2, q3, q4⟩ := y2 r
    refine ⟨q0, q1, q2, ?_, q4⟩
    rw [mc_c p1, cm_c p1, q3]
  · obtain ⟨y1, y2, y3⟩ := a.np p p1 p2
    refine ⟨y1, ?_, y3⟩
    rw [cm_c p1]
    split
    · rename_i c
      have := bnd p p1 p2
      have := c.2.2
      omega
    · exact y2
  · obtain ⟨y1, y2, y3, y4, y5, y6⟩ := gr.2
    refine ⟨y1, fun v v1 v2 hc hg h1 h2 => ?_, y3, y4, fun p hg => ?_, y6⟩
    · have hc' : canR N v := hc
      have hg' : gR N g (N 13021 v) := hg
      have h1' : So C g (N 13021 v) ≤ N 13026 v := h1
      have h2' : N 13026 v < cmI N x g 9 13057 (9 * g + N 13021 v) ∨ (N 13055 (9 * g + N 13021 v) ≠ -1 ∧ N 13026 v < N 13058 (9 * g + N 13021 v)) := h2
      have q1 := hg'.1; have q2 := hg'.2.1
      show Pd C N g v
      rcases h2' with h2' | h2'
      · rw [cm_c (by omega)] at h2'
        split at h2'
        · rename_i c
          exact (held _ q1 (by omega) c.2).2.2 v v1 v2 hc' rfl h1' h2'
        · exact y2 v v1 v2 hc' hg' h1' (Or.inl h2')
      · exact y2 v v1 v2 hc' hg' h1' (Or.inr h2')
    · have hg' : gR N g p := hg
      have q1 := hg'.1; have q2 := hg'.2.1
      obtain ⟨r1, r2⟩ := y5 p hg'
      refine ⟨?_, r2⟩
      show So C g p = 0 ∧ So C g p ≤ cmI N x g 9 13057 (9 * g + p) ∧ (cmI N x g 9 13057 (9 * g + p) ≤ So C g p ∨ cmI N x g 9 13057 (9 * g + p) ≤ so N p)
      rw [cm_c q1]
      split
      · rename_i c
        have := (held p q1 (by omega) c.2).2.1
        exact ⟨r1.1, this⟩
      · exact r1
end CMP
theorem q_commit {n : Int} {C : Cd} {N : Nd} {A : Ad} {x : Int} (j : JJ n C N A) : SR n C N A (p_G_commit (mk C N A) 11000 x 15000) (fun M => p_X11_commit M 12000 x) := by
  have g := j.jn.g
  have s3 := g.s.2.2.1
  have ht := c_producerOf (N0 := N) (A := A) (t := x) g j.c
  have mt := fun C A => @m_isProducer C (up N 12000 0 0) A x j.z.s
  simp only [up_s, up_s, true_and, false_and, and_true, and_false, if_true, if_false, ↓reduceIte, ↓Option.bind_some, Int.reduceEq, Int.reduceNe, Int.reduceLT, Int.reduceLE, gd_true, gd_false, bind_b, q10, eq_self, reduceCtorEq, not_true_eq_false, not_false_eq_true, ne_eq] at mt
  unfold p_G_commit p_X10_commit
  by_cases h1 : 0 ≤ x ∧ x < (N 12000 30)
  · obtain ⟨c0, c1, c2, c3, c4, c5⟩ := j.c.x x h1.1 h1.2
    have gx := (g.x x h1.1 h1.2).2.2
    by_cases h2 : N 13033 x = -1
    · have nl : N 13033 x < 0 := by omega
      refine SR.r j 2 (by omega) ?_ ?_
      · simp (disch := omega) only [aok, up_s, true_and, false_and, and_true, and_false, if_true, if_false, ↓reduceIte, ↓Option.bind_some, Int.reduceEq, Int.reduceNe, Int.reduceLT, Int.reduceLE, gd_true, gd_false, bind_b, q10, eq_self, reduceCtorEq, not_true_eq_false, not_false_eq_true, ne_eq, cr_11000, cr_15000, cr_16000, cr_20000, cr_20001, cr_21000, cr_22000, cr_25000, cr_1000, cr_2000, cr_3000, cr_3003, cr_3006, cr_4000, cr_5000, cr_6000, cr_7000, cr_8000, cr_9000, cr_10000, cr_13500, cr_17000, cr_17100, cr_17103, cr_17106, cr_19000, cr_20100, cr_21100, cr_23000, cr_24000, cw_11000, cw_15000, cw_16000, cw_20000, cw_20001, cw_21000, cw_22000, cw_25000, cw_1000, cw_2000, cw_3000, cw_3003, cw_3006, cw_4000, cw_5000, cw_6000, cw_7000, cw_8000, cw_9000, cw_10000, cw_13500, cw_17000, cw_17100, cw_17103, cw_17106, cw_19000, cw_20100, cw_21100, cw_23000, cw_24000, lc_13500, lc_15000, lc_16000, lc_17000, lc_17100, lc_17103, lc_17106, lc_19000, lc_20000, lc_20001, lc_20100, lc_21000, lc_21100, lc_22000, lc_23000, lc_24000, lc_25000, gd_t, w_eq, thT, thU, psT, psU, hnT, thr_mk, ↓Option.bind_some, ht, h1, c3, h2]
      · unfold p_X11_commit
        simp (disch := omega) only [aok, up_s, true_and, false_and, and_true, and_false, if_true, if_false, ↓reduceIte, ↓Option.bind_some, Int.reduceEq, Int.reduceNe, Int.reduceLT, Int.reduceLE, gd_true, gd_false, bind_b, q10, eq_self, reduceCtorEq, not_true_eq_false, not_false_eq_true, ne_eq, pt_0, pt_1, pt_2, pt_3, pt_4, pt_5, pt_6, pt_7, pt_8, pt_9, pt_10, pt_11, pt_12, pt_13, pt_14, pt_15, pt_16, pt_17, pt_18, pt_19, pt_20, pt_21, pt_22, pt_23, pt_24, pt_25, pt_26, pt_27, pt_28, pt_29, pt_30, pt_31, pt_32, pt_33, pt_34, pt_35, pt_36, pt_37, pt_38, pt_39, pt_40, pt_41, pt_42, pt_43, pt_44, pt_45, pt_46, pt_47, pt_48, pt_49, pt_50, pt_51, pt_52, pt_53, pt_54, pt_55, pt_56, pt_57, pt_58, pt_59, pt_60, pt_61, pt_62, pt_63, pt_64, pt_65, pt_66, pt_67, pa_13005, pw_13005, pa_13006, pw_13006, pa_13007, pw_13007, pa_14008, pw_14008, pa_13009, pw_13009, pa_13010, pw_13010, pa_13012, pw_13012, pa_13013, pw_13013, pa_13014, pw_13014, pa_13015, pw_13015, pa_13016, pw_13016, pa_13017, pw_13017, pa_13018, pw_13018, pa_13020, pw_13020, pa_13021, pw_13021, pa_13022, pw_13022, pa_13023, pw_13023, pa_13024, pw_13024, pa_13025, pw_13025, pa_13026, pw_13026, pa_13027, pw_13027, pa_13028, pw_13028, pa_13029, pw_13029, pa_13031, pw_13031, pa_13032, pw_13032, pa_13033, pw_13033, pa_14034, pw_14034, pa_13035, pw_13035, pa_13036, pw_13036, pa_13037, pw_13037, pa_13038, pw_13038, pa_13039, pw_13039, pa_13042, pw_13042, pa_13043, pw_13043, pa_13044, pw_13044, pa_13045, pw_13045, pa_13046, pw_13046, pa_13047, pw_13047, pa_13048, pw_13048, pa_13049, pw_13049, pa_13050, pw_13050, pa_13051, pw_13051, pa_13052, pw_13052, pa_13053, pw_13053, pa_13054, pw_13054, pa_13055, pw_13055, pa_13056, pw_13056, pa_13057, pw_13057, pa_13058, pw_13058, pa_13059, pw_13059, pa_13060, pw_13060, pa_13061, pw_13061, pa_13062, pw_13062, pa_13063, pw_13063, pa_13064, pw_13064, pa_13065, pw_13065, pa_13066, pw_13066, pa_13067, pw_13067, ps_0, ps_1, ps_2, ps_3, ps_4, ps_11, ps_19, ps_30, ps_40, ps_41, ln_13005, ln_13006, ln_13007, ln_14008, ln_13009, ln_13010, ln_13012, ln_13013, ln_13014, ln_13015, ln_13016, ln_13017, ln_13018, ln_13020, ln_13021, ln_13022, ln_13023, ln_13024, ln_13025, ln_13026, ln_13027, ln_13028, ln_13029, ln_13031, ln_13032, ln_13033, ln_14034, ln_13035, ln_13036, ln_13037, ln_13038, ln_13039, ln_13042, ln_13043, ln_13044, ln_13045, ln_13046, ln_13047, ln_13048, ln_13049, ln_13050, ln_13051, ln_13052, ln_13053, ln_13054, ln_13055, ln_13056, ln_13057, ln_13058, ln_13059, ln_13060, ln_13061, ln_13062, ln_13063, ln_13064, ln_13065, ln_13066, ln_13067, gd_t, w_eq, mt, h1, nl, m_refuse]
    · have nl : ¬ N 13033 x < 0 := by omega
      have jz : JJ n C (up N 12000 0 0) A := j.thrown
      by_cases h3 : N 14034 x = 0
      · have cr := c_isReplicated (N0 := N) (A := A) (t := N 13033 x) g j.c
        have mb := @m_areBelow (up N 12000 0 0) x (N 13033 x) jz.jn h1.1 h1.2 (show 0 ≤ N 13033 x by omega) h3 rfl
        have e1 : nbF (up N 12000 0 0) (N 13033 x) = nbF N (N 13033 x) := rfl
        rw [e1] at mb
        have mb' : ∀ C A, p_X11_areBelow (mk C (up N 12000 0 0) A) 12000 (N 13033 x) = some (if nbF N (N 13033 x) < (N 12000 19) then 0 else 1) := mb
        by_cases h4 : nbF N (N 13033 x) < (N 12000 19)
        · refine SR.r j 2 (by omega) ?_ ?_
          · simp (disch := omega) only [aok, up_s, true_and, false_and, and_true, and_false, if_true, if_false, ↓reduceIte, ↓Option.bind_some, Int.reduceEq, Int.reduceNe, Int.reduceLT, Int.reduceLE, gd_true, gd_false, bind_b, q10, eq_self, reduceCtorEq, not_true_eq_false, not_false_eq_true, ne_eq, cr_11000, cr_15000, cr_16000, cr_20000, cr_20001, cr_21000, cr_22000, cr_25000, cr_1000, cr_2000, cr_3000, cr_3003, cr_3006, cr_4000, cr_5000, cr_6000, cr_7000, cr_8000, cr_9000, cr_10000, cr_13500, cr_17000, cr_17100, cr_17103, cr_17106, cr_19000, cr_20100, cr_21100, cr_23000, cr_24000, cw_11000, cw_15000, cw_16000, cw_20000, cw_20001, cw_21000, cw_22000, cw_25000, cw_1000, cw_2000, cw_3000, cw_3003, cw_3006, cw_4000, cw_5000, cw_6000, cw_7000, cw_8000, cw_9000, cw_10000, cw_13500, cw_17000, cw_17100, cw_17103, cw_17106, cw_19000, cw_20100, cw_21100, cw_23000, cw_24000, lc_13500, lc_15000, lc_16000, lc_17000, lc_17100, lc_17103, lc_17106, lc_19000, lc_20000, lc_20001, lc_20100, lc_21000, lc_21100, lc_22000, lc_23000, lc_24000, lc_25000, gd_t, w_eq, thT, thU, psT, psU, hnT, thr_mk, ↓Option.bind_some, ht, h1, c3, c4, h2, h3, cr, h4]
          · unfold p_X11_commit
            simp (disch := omega) only [aok, up_s, true_and, false_and, and_true, and_false, if_true, if_false, ↓reduceIte, ↓Option.bind_some, Int.reduceEq, Int.reduceNe, Int.reduceLT, Int.reduceLE, gd_true, gd_false, bind_b, q10, eq_self, reduceCtorEq, not_true_eq_false, not_false_eq_true, ne_eq, pt_0, pt_1, pt_2, pt_3, pt_4, pt_5, pt_6, pt_7, pt_8, pt_9, pt_10, pt_11, pt_12, pt_13, pt_14, pt_15, pt_16, pt_17, pt_18, pt_19, pt_20, pt_21, pt_22, pt_23, pt_24, pt_25, pt_26, pt_27, pt_28, pt_29, pt_30, pt_31, pt_32, pt_33, pt_34, pt_35, pt_36, pt_37, pt_38, pt_39, pt_40, pt_41, pt_42, pt_43, pt_44, pt_45, pt_46, pt_47, pt_48, pt_49, pt_50, pt_51, pt_52, pt_53, pt_54, pt_55, pt_56, pt_57, pt_58, pt_59, pt_60, pt_61, pt_62, pt_63, pt_64, pt_65, pt_66, pt_67, pa_13005, pw_13005, pa_13006, pw_13006, pa_13007, pw_13007, pa_14008, pw_14008, pa_13009, pw_13009, pa_13010, pw_13010, pa_13012, pw_13012, pa_13013, pw_13013, pa_13014, pw_13014, pa_13015, pw_13015, pa_13016, pw_13016, pa_13017, pw_13017, pa_13018, pw_13018, pa_13020, pw_13020, pa_13021, pw_13021, pa_13022, pw_13022, pa_13023, pw_13023, pa_13024, pw_13024, pa_13025, pw_13025, pa_13026, pw_13026, pa_13027, pw_13027, pa_13028, pw_13028, pa_13029, pw_13029, pa_13031, pw_13031, pa_13032, pw_13032, pa_13033, pw_13033, pa_14034, pw_14034, pa_13035, pw_13035, pa_13036, pw_13036, pa_13037, pw_13037, pa_13038, pw_13038, pa_13039, pw_13039, pa_13042, pw_13042, pa_13043, pw_13043, pa_13044, pw_13044, pa_13045, pw_13045, pa_13046, pw_13046, pa_13047, pw_13047, pa_13048, pw_13048, pa_13049, pw_13049, pa_13050, pw_13050, pa_13051, pw_13051, pa_13052, pw_13052, pa_13053, pw_13053, pa_13054, pw_13054, pa_13055, pw_13055, pa_13056, pw_13056, pa_13057, pw_13057, pa_13058, pw_13058, pa_13059, pw_13059, pa_13060, pw_13060, pa_13061, pw_13061, pa_13062, pw_13062, pa_13063, pw_13063, pa_13064, pw_13064, pa_13065, pw_13065, pa_13066, pw_13066, pa_13067, pw_13067, ps_0, ps_1, ps_2, ps_3, ps_4, ps_11, ps_19, ps_30, ps_40, ps_41, ln_13005, ln_13006, ln_13007, ln_14008, ln_13009, ln_13010, ln_13012, ln_13013, ln_13014, ln_13015, ln_13016, ln_13017, ln_13018, ln_13020, ln_13021, ln_13022, ln_13023, ln_13024, ln_13025, ln_13026, ln_13027, ln_13028, ln_13029, ln_13031, ln_13032, ln_13033, ln_14034, ln_13035, ln_13036, ln_13037, ln_13038, ln_13039, ln_13042, ln_13043, ln_13044, ln_13045, ln_13046, ln_13047, ln_13048, ln_13049, ln_13050, ln_13051, ln_13052, ln_13053, ln_13054, ln_13055, ln_13056, ln_13057, ln_13058, ln_13059, ln_13060, ln_13061, ln_13062, ln_13063, ln_13064, ln_13065, ln_13066, ln_13067, gd_t, w_eq, mt, h1, nl, h3, mb', h4, m_refuse]
        · have cp := c_placesStand (N0 := N) j h1.1 h1.2
          have mh : ∀ C A, p_X11_areHeld (mk C (up N 12000 0 0) A) 12000 x = some (if hel N x then 1 else 0) := m_areHeld jz h1.1 h1.2 (show 0 ≤ N 13033 x by omega)
          by_cases h5 : hel N x
          · rw [if_pos h5] at cp
            simp only [if_pos h5] at mh
            have ml := m_cmLoop jz h1.1 h1.2 (show 0 ≤ N 13033 x by omega)
            have nb : ∀ m, 0 ≤ m → m < (N 12000 19) → N 13029 m = N 13033 x → N 13024 m = 1 ∧ N 13026 m < hw N (N 13021 m) := fun m m1 m2 hm => by
              have q := (j.jn.xs m x m1 m2 h1.1 h1.2 (by omega) hm).2.2 h3
              exact ⟨(j.jn.ms m m1 m2).2.2.2.1 q, nbF_no g h4 m1 m2 hm⟩
            have key : ∀ (D : Cd) (X : Nd), (∀ Y : Cd, p_X6_commitPlaces (mk C N A) (7000 + x) = some (mk D N A)) → (∀ C A, lp (b_X11_commit_63 12000 x) 1000 (0, mk C (up N 12000 0 0) A) = some (mk C X A)) → JJ n D X A → D 7000 = C 7000 → X 12000 = (up N 12000 0 0) 12000 → X 13033 = N 13033 → X 14034 = N 14034 → X 13029 = N 13029 → X 13024 = N 13024 → X 13026 = N 13026 → X 13021 = N 13021 → (∀ q, hw X q = hw N q) → SR n C N A (p_G_commit (mk C N A) 11000 x 15000) (fun M => p_X11_commit M 12000 x) := fun D X k1 k2 k3 k4 k5 k6 k7 k8 k9 k10 k11 k12 => by
              have xz : X 12000 30 = (N 12000 30) := by rw [k5]; rfl
              have xm : X 12000 19 = (N 12000 19) := by rw [k5]; rfl
              obtain ⟨r, r1, r2, C', r3, r4, r5⟩ := c_settle (C := D) (N := X) (N0 := N) (A := A) (t := N 13033 x) (k := 2) k3.jn.g k3.c
              have jj := k3.endT (x := x) (k := 2) (C1 := C') h1.1 (by rw [xz]; exact h1.2) (by rw [k6]; omega) (Or.inr ⟨rfl, by rw [k7]; exact h3, fun m m1 m2 hm => by
                rw [xm] at m2
                rw [k8, k6] at hm
                rw [k9, k10, k11, k12]
                exact nb m m1 m2 hm⟩) (by rw [k6]; exact r4) r5
              have cnt : cntO X (N 13033 x) (X 12000 19).toNat = cntO N (N 13033 x) ((N 12000 19)).toNat := by unfold cntO; rw [xm, k8]
              refine SR.w (C1 := uq (uq (uq C' 7000 x 3 (-1)) 7000 x 4 0) 7000 x 5 0) (N1 := enN (fgI X x 9) x 2) (cntO N (N 13033 x) ((N 12000 19)).toNat) ?_ ?_ ?_ jj
              · have e : (p_X10_settle (mk D N A) 11000 (N 13033 x) 2) = some (cntO N (N 13033 x) ((N 12000 19)).toNat, mk C' N A) := by
                  rw [show r = (cntO X (N 13033 x) (X 12000 19).toNat, mk C' N A) from Prod.ext r2 r3, cnt] at r1
                  exact r1
                have c3' : D 7000 x 3 = N 13033 x := by rw [k4]; exact c3
                have k1' := k1 C
                unfold p_G_commit p_X10_commit
                simp (disch := omega) only [aok, up_s, true_and, false_and, and_true, and_false, if_true, if_false, ↓reduceIte, ↓Option.bind_some, Int.reduceEq, Int.reduceNe, Int.reduceLT, Int.reduceLE, gd_true, gd_false, bind_b, q10, eq_self, reduceCtorEq, not_true_eq_false, not_false_eq_true, ne_eq, cr_11000, cr_15000, cr_16000, cr_20000, cr_20001, cr_21000, cr_22000, cr_25000, cr_1000, cr_2000, cr_3000, cr_3003, cr_3006, cr_4000, cr_5000, cr_6000, cr_7000, cr_8000, cr_9000, cr_10000, cr_13500, cr_17000, cr_17100, cr_17103, cr_17106, cr_19000, cr_20100, cr_21100, cr_23000, cr_24000, cw_11000, cw_15000, cw_16000, cw_20000, cw_20001, cw_21000, cw_22000, cw_25000, cw_1000, cw_2000, cw_3000, cw_3003, cw_3006, cw_4000, cw_5000, cw_6000, cw_7000, cw_8000, cw_9000, cw_10000, cw_13500, cw_17000, cw_17100, cw_17103, cw_17106, cw_19000, cw_20100, cw_21100, cw_23000, cw_24000, lc_13500, lc_15000, lc_16000, lc_17000, lc_17100, lc_17103, lc_17106, lc_19000, lc_20000, lc_20001, lc_20100, lc_21000, lc_21100, lc_22000, lc_23000, lc_24000, lc_25000, gd_t, w_eq, thT, thU, psT, psU, hnT, thr_mk, ↓Option.bind_some, ht, h1, c3, c4, h2, h3, cr, h4, cp, k1', c3', e, c_endTransaction]
              · have gf : RG (fgI X x 9) := k3.jn.g
                have me := fun C => @m_endAll C (fgI X x 9) A x 2 gf h1.1 (by
                  show x < fgI X x 9 12000 30
                  rw [fgI_ar (by decide) (by decide), xz]; exact h1.2)
                have ec : cntO (fgI X x 9) (fgI X x 9 13033 x) (fgI X x 9 12000 19).toNat = cntO N (N 13033 x) ((N 12000 19)).toNat := by
                  rw [fgI_ar (a := 12000) (by decide) (by decide), fgI_ar (a := 13033) (by decide) (by decide), xm, k6]
                  unfold cntO
                  rw [fgI_ar (a := 13029) (by decide) (by decide), k8]
                rw [ec] at me
                have k2' := k2
                unfold p_X11_commit
                simp (disch := omega) only [aok, up_s, true_and, false_and, and_true, and_false, if_true, if_false, ↓reduceIte, ↓Option.bind_some, Int.reduceEq, Int.reduceNe, Int.reduceLT, Int.reduceLE, gd_true, gd_false, bind_b, q10, eq_self, reduceCtorEq, not_true_eq_false, not_false_eq_true, ne_eq, pt_0, pt_1, pt_2, pt_3, pt_4, pt_5, pt_6, pt_7, pt_8, pt_9, pt_10, pt_11, pt_12, pt_13, pt_14, pt_15, pt_16, pt_17, pt_18, pt_19, pt_20, pt_21, pt_22, pt_23, pt_24, pt_25, pt_26, pt_27, pt_28, pt_29, pt_30, pt_31, pt_32, pt_33, pt_34, pt_35, pt_36, pt_37, pt_38, pt_39, pt_40, pt_41, pt_42, pt_43, pt_44, pt_45, pt_46, pt_47, pt_48, pt_49, pt_50, pt_51, pt_52, pt_53, pt_54, pt_55, pt_56, pt_57, pt_58, pt_59, pt_60, pt_61, pt_62, pt_63, pt_64, pt_65, pt_66, pt_67, pa_13005, pw_13005, pa_13006, pw_13006, pa_13007, pw_13007, pa_14008, pw_14008, pa_13009, pw_13009, pa_13010, pw_13010, pa_13012, pw_13012, pa_13013, pw_13013, pa_13014, pw_13014, pa_13015, pw_13015, pa_13016, pw_13016, pa_13017, pw_13017, pa_13018, pw_13018, pa_13020, pw_13020, pa_13021, pw_13021, pa_13022, pw_13022, pa_13023, pw_13023, pa_13024, pw_13024, pa_13025, pw_13025, pa_13026, pw_13026, pa_13027, pw_13027, pa_13028, pw_13028, pa_13029, pw_13029, pa_13031, pw_13031, pa_13032, pw_13032, pa_13033, pw_13033, pa_14034, pw_14034, pa_13035, pw_13035, pa_13036, pw_13036, pa_13037, pw_13037, pa_13038, pw_13038, pa_13039, pw_13039, pa_13042, pw_13042, pa_13043, pw_13043, pa_13044, pw_13044, pa_13045, pw_13045, pa_13046, pw_13046, pa_13047, pw_13047, pa_13048, pw_13048, pa_13049, pw_13049, pa_13050, pw_13050, pa_13051, pw_13051, pa_13052, pw_13052, pa_13053, pw_13053, pa_13054, pw_13054, pa_13055, pw_13055, pa_13056, pw_13056, pa_13057, pw_13057, pa_13058, pw_13058, pa_13059, pw_13059, pa_13060, pw_13060, pa_13061, pw_13061, pa_13062, pw_13062, pa_13063, pw_13063, pa_13064, pw_13064, pa_13065, pw_13065, pa_13066, pw_13066, pa_13067, pw_13067, ps_0, ps_1, ps_2, ps_3, ps_4, ps_11, ps_19, ps_30, ps_40, ps_41, ln_13005, ln_13006, ln_13007, ln_14008, ln_13009, ln_13010, ln_13012, ln_13013, ln_13014, ln_13015, ln_13016, ln_13017, ln_13018, ln_13020, ln_13021, ln_13022, ln_13023, ln_13024, ln_13025, ln_13026, ln_13027, ln_13028, ln_13029, ln_13031, ln_13032, ln_13033, ln_14034, ln_13035, ln_13036, ln_13037, ln_13038, ln_13039, ln_13042, ln_13043, ln_13044, ln_13045, ln_13046, ln_13047, ln_13048, ln_13049, ln_13050, ln_13051, ln_13052, ln_13053, ln_13054, ln_13055, ln_13056, ln_13057, ln_13058, ln_13059, ln_13060, ln_13061, ln_13062, ln_13063, ln_13064, ln_13065, ln_13066, ln_13067, gd_t, w_eq, mt, h1, nl, h3, mb', h4, mh, k2', m_forgetPlaces, me]
              · show fgI X x 9 12000 0 = 0
                rw [fgI_ar (by decide) (by decide), k5]
                rfl
            by_cases h6 : N 13035 x = 0
            · have h6' : (up N 12000 0 0) 13035 x = 0 := h6
              simp only [if_pos h6'] at ml
              exact key C (up N 12000 0 0) (fun _ => c_commitPlaces0 h1.1 (by omega) c5 ((j.px x h1.1 h1.2).1 h6).1) ml jz rfl rfl rfl rfl rfl rfl rfl rfl (fun _ => rfl)
            · have h6' : ¬ (up N 12000 0 0) 13035 x = 0 := h6
              simp only [if_neg h6'] at ml
              have eX : ∀ b, b ≠ 13057 → cmI (up N 12000 0 0) x (N 13036 x) 9 b = (up N 12000 0 0) b := fun b hb => cm_ar hb
              refine key (cmC C N x (N 13036 x) 9) (cmI (up N 12000 0 0) x (N 13036 x) 9) (fun _ => c_commitPlaces j h1.1 h1.2 h6) ml (jz.cm h1.1 h1.2 h6' h5) ?_ (eX _ (by decide)) (eX _ (by decide)) (eX _ (by decide)) (eX _ (by decide)) (eX _ (by decide)) (eX _ (by decide)) (eX _ (by decide)) (fun q => rfl)
              funext i z
              exact mc_ar (by omega)
          · rw [if_neg h5] at cp
            simp only [if_neg h5] at mh
            refine SR.r j 2 (by omega) ?_ ?_
            · simp (disch := omega) only [aok, up_s, true_and, false_and, and_true, and_false, if_true, if_false, ↓reduceIte, ↓Option.bind_some, Int.reduceEq, Int.reduceNe, Int.reduceLT, Int.reduceLE, gd_true, gd_false, bind_b, q10, eq_self, reduceCtorEq, not_true_eq_false, not_false_eq_true, ne_eq, cr_11000, cr_15000, cr_16000, cr_20000, cr_20001, cr_21000, cr_22000, cr_25000, cr_1000, cr_2000, cr_3000, cr_3003, cr_3006, cr_4000, cr_5000, cr_6000, cr_7000, cr_8000, cr_9000, cr_10000, cr_13500, cr_17000, cr_17100, cr_17103, cr_17106, cr_19000, cr_20100, cr_21100, cr_23000, cr_24000, cw_11000, cw_15000, cw_16000, cw_20000, cw_20001, cw_21000, cw_22000, cw_25000, cw_1000, cw_2000, cw_3000, cw_3003, cw_3006, cw_4000, cw_5000, cw_6000, cw_7000, cw_8000, cw_9000, cw_10000, cw_13500, cw_17000, cw_17100, cw_17103, cw_17106, cw_19000, cw_20100, cw_21100, cw_23000, cw_24000, lc_13500, lc_15000, lc_16000, lc_17000, lc_17100, lc_17103, lc_17106, lc_19000, lc_20000, lc_20001, lc_20100, lc_21000, lc_21100, lc_22000, lc_23000, lc_24000, lc_25000, gd_t, w_eq, thT, thU, psT, psU, hnT, thr_mk, ↓Option.bind_some, ht, h1, c3, c4, h2, h3, cr, h4, cp]
            · unfold p_X11_commit
              simp (disch := omega) only [aok, up_s, true_and, false_and, and_true, and_false, if_true, if_false, ↓reduceIte, ↓Option.bind_some, Int.reduceEq, Int.reduceNe, Int.reduceLT, Int.reduceLE, gd_true, gd_false, bind_b, q10, eq_self, reduceCtorEq, not_true_eq_false, not_false_eq_true, ne_eq, pt_0, pt_1, pt_2, pt_3, pt_4, pt_5, pt_6, pt_7, pt_8, pt_9, pt_10, pt_11, pt_12, pt_13, pt_14, pt_15, pt_16, pt_17, pt_18, pt_19, pt_20, pt_21, pt_22, pt_23, pt_24, pt_25, pt_26, pt_27, pt_28, pt_29, pt_30, pt_31, pt_32, pt_33, pt_34, pt_35, pt_36, pt_37, pt_38, pt_39, pt_40, pt_41, pt_42, pt_43, pt_44, pt_45, pt_46, pt_47, pt_48, pt_49, pt_50, pt_51, pt_52, pt_53, pt_54, pt_55, pt_56, pt_57, pt_58, pt_59, pt_60, pt_61, pt_62, pt_63, pt_64, pt_65, pt_66, pt_67, pa_13005, pw_13005, pa_13006, pw_13006, pa_13007, pw_13007, pa_14008, pw_14008, pa_13009, pw_13009, pa_13010, pw_13010, pa_13012, pw_13012, pa_13013, pw_13013, pa_13014, pw_13014, pa_13015, pw_13015, pa_13016, pw_13016, pa_13017, pw_13017, pa_13018, pw_13018, pa_13020, pw_13020, pa_13021, pw_13021, pa_13022, pw_13022, pa_13023, pw_13023, pa_13024, pw_13024, pa_13025, pw_13025, pa_13026, pw_13026, pa_13027, pw_13027, pa_13028, pw_13028, pa_13029, pw_13029, pa_13031, pw_13031, pa_13032, pw_13032, pa_13033, pw_13033, pa_14034, pw_14034, pa_13035, pw_13035, pa_13036, pw_13036, pa_13037, pw_13037, pa_13038, pw_13038, pa_13039, pw_13039, pa_13042, pw_13042, pa_13043, pw_13043, pa_13044, pw_13044, pa_13045, pw_13045, pa_13046, pw_13046, pa_13047, pw_13047, pa_13048, pw_13048, pa_13049, pw_13049, pa_13050, pw_13050, pa_13051, pw_13051, pa_13052, pw_13052, pa_13053, pw_13053, pa_13054, pw_13054, pa_13055, pw_13055, pa_13056, pw_13056, pa_13057, pw_13057, pa_13058, pw_13058, pa_13059, pw_13059, pa_13060, pw_13060, pa_13061, pw_13061, pa_13062, pw_13062, pa_13063, pw_13063, pa_13064, pw_13064, pa_13065, pw_13065, pa_13066, pw_13066, pa_13067, pw_13067, ps_0, ps_1, ps_2, ps_3, ps_4, ps_11, ps_19, ps_30, ps_40, ps_41, ln_13005, ln_13006, ln_13007, ln_14008, ln_13009, ln_13010, ln_13012, ln_13013, ln_13014, ln_13015, ln_13016, ln_13017, ln_13018, ln_13020, ln_13021, ln_13022, ln_13023, ln_13024, ln_13025, ln_13026, ln_13027, ln_13028, ln_13029, ln_13031, ln_13032, ln_13033, ln_14034, ln_13035, ln_13036, ln_13037, ln_13038, ln_13039, ln_13042, ln_13043, ln_13044, ln_13045, ln_13046, ln_13047, ln_13048, ln_13049, ln_13050, ln_13051, ln_13052, ln_13053, ln_13054, ln_13055, ln_13056, ln_13057, ln_13058, ln_13059, ln_13060, ln_13061, ln_13062, ln_13063, ln_13064, ln_13065, ln_13066, ln_13067, gd_t, w_eq, mt, h1, nl, h3, mb', h4, mh, m_refuse]
      · refine SR.r j 2 (by omega) ?_ ?_
        · simp (disch := omega) only [aok, up_s, true_and, false_and, and_true, and_false, if_true, if_false, ↓reduceIte, ↓Option.bind_some, Int.reduceEq, Int.reduceNe, Int.reduceLT, Int.reduceLE, gd_true, gd_false, bind_b, q10, eq_self, reduceCtorEq, not_true_eq_false, not_false_eq_true, ne_eq, cr_11000, cr_15000, cr_16000, cr_20000, cr_20001, cr_21000, cr_22000, cr_25000, cr_1000, cr_2000, cr_3000, cr_3003, cr_3006, cr_4000, cr_5000, cr_6000, cr_7000, cr_8000, cr_9000, cr_10000, cr_13500, cr_17000, cr_17100, cr_17103, cr_17106, cr_19000, cr_20100, cr_21100, cr_23000, cr_24000, cw_11000, cw_15000, cw_16000, cw_20000, cw_20001, cw_21000, cw_22000, cw_25000, cw_1000, cw_2000, cw_3000, cw_3003, cw_3006, cw_4000, cw_5000, cw_6000, cw_7000, cw_8000, cw_9000, cw_10000, cw_13500, cw_17000, cw_17100, cw_17103, cw_17106, cw_19000, cw_20100, cw_21100, cw_23000, cw_24000, lc_13500, lc_15000, lc_16000, lc_17000, lc_17100, lc_17103, lc_17106, lc_19000, lc_20000, lc_20001, lc_20100, lc_21000, lc_21100, lc_22000, lc_23000, lc_24000, lc_25000, gd_t, w_eq, thT, thU, psT, psU, hnT, thr_mk, ↓Option.bind_some, ht, h1, c3, c4, h2, h3]
        · unfold p_X11_commit
          simp (disch := omega) only [aok, up_s, true_and, false_and, and_true, and_false, if_true, if_false, ↓reduceIte, ↓Option.bind_some, Int.reduceEq, Int.reduceNe, Int.reduceLT, Int.reduceLE, gd_true, gd_false, bind_b, q10, eq_self, reduceCtorEq, not_true_eq_false, not_false_eq_true, ne_eq, pt_0, pt_1, pt_2, pt_3, pt_4, pt_5, pt_6, pt_7, pt_8, pt_9, pt_10, pt_11, pt_12, pt_13, pt_14, pt_15, pt_16, pt_17, pt_18, pt_19, pt_20, pt_21, pt_22, pt_23, pt_24, pt_25, pt_26, pt_27, pt_28, pt_29, pt_30, pt_31, pt_32, pt_33, pt_34, pt_35, pt_36, pt_37, pt_38, pt_39, pt_40, pt_41, pt_42, pt_43, pt_44, pt_45, pt_46, pt_47, pt_48, pt_49, pt_50, pt_51, pt_52, pt_53, pt_54, pt_55, pt_56, pt_57, pt_58, pt_59, pt_60, pt_61, pt_62, pt_63, pt_64, pt_65, pt_66, pt_67, pa_13005, pw_13005, pa_13006, pw_13006, pa_13007, pw_13007, pa_14008, pw_14008, pa_13009, pw_13009, pa_13010, pw_13010, pa_13012, pw_13012, pa_13013, pw_13013, pa_13014, pw_13014, pa_13015, pw_13015, pa_13016, pw_13016, pa_13017, pw_13017, pa_13018, pw_13018, pa_13020, pw_13020, pa_13021, pw_13021, pa_13022, pw_13022, pa_13023, pw_13023, pa_13024, pw_13024, pa_13025, pw_13025, pa_13026, pw_13026, pa_13027, pw_13027, pa_13028, pw_13028, pa_13029, pw_13029, pa_13031, pw_13031, pa_13032, pw_13032, pa_13033, pw_13033, pa_14034, pw_14034, pa_13035, pw_13035, pa_13036, pw_13036, pa_13037, pw_13037, pa_13038, pw_13038, pa_13039, pw_13039, pa_13042, pw_13042, pa_13043, pw_13043, pa_13044, pw_13044, pa_13045, pw_13045, pa_13046, pw_13046, pa_13047, pw_13047, pa_13048, pw_13048, pa_13049, pw_13049, pa_13050, pw_13050, pa_13051, pw_13051, pa_13052, pw_13052, pa_13053, pw_13053, pa_13054, pw_13054, pa_13055, pw_13055, pa_13056, pw_13056, pa_13057, pw_13057, pa_13058, pw_13058, pa_13059, pw_13059, pa_13060, pw_13060, pa_13061, pw_13061, pa_13062, pw_13062, pa_13063, pw_13063, pa_13064, pw_13064, pa_13065, pw_13065, pa_13066, pw_13066, pa_13067, pw_13067, ps_0, ps_1, ps_2, ps_3, ps_4, ps_11, ps_19, ps_30, ps_40, ps_41, ln_13005, ln_13006, ln_13007, ln_14008, ln_13009, ln_13010, ln_13012, ln_13013, ln_13014, ln_13015, ln_13016, ln_13017, ln_13018, ln_13020, ln_13021, ln_13022, ln_13023, ln_13024, ln_13025, ln_13026, ln_13027, ln_13028, ln_13029, ln_13031, ln_13032, ln_13033, ln_14034, ln_13035, ln_13036, ln_13037, ln_13038, ln_13039, ln_13042, ln_13043, ln_13044, ln_13045, ln_13046, ln_13047, ln_13048, ln_13049, ln_13050, ln_13051, ln_13052, ln_13053, ln_13054, ln_13055, ln_13056, ln_13057, ln_13058, ln_13059, ln_13060, ln_13061, ln_13062, ln_13063, ln_13064, ln_13065, ln_13066, ln_13067, gd_t, w_eq, mt, h1, nl, h3, m_refuse]
  · refine SR.r j 1 (by omega) ?_ ?_
    · simp (disch := omega) only [aok, up_s, true_and, false_and, and_true, and_false, if_true, if_false, ↓reduceIte, ↓Option.bind_some, Int.reduceEq, Int.reduceNe, Int.reduceLT, Int.reduceLE, gd_true, gd_false, bind_b, q10, eq_self, reduceCtorEq, not_true_eq_false, not_false_eq_true, ne_eq, cr_11000, cr_15000, cr_16000, cr_20000, cr_20001, cr_21000, cr_22000, cr_25000, cr_1000, cr_2000, cr_3000, cr_3003, cr_3006, cr_4000, cr_5000, cr_6000, cr_7000, cr_8000, cr_9000, cr_10000, cr_13500, cr_17000, cr_17100, cr_17103, cr_17106, cr_19000, cr_20100, cr_21100, cr_23000, cr_24000, cw_11000, cw_15000, cw_16000, cw_20000, cw_20001, cw_21000, cw_22000, cw_25000, cw_1000, cw_2000, cw_3000, cw_3003, cw_3006, cw_4000, cw_5000, cw_6000, cw_7000, cw_8000, cw_9000, cw_10000, cw_13500, cw_17000, cw_17100, cw_17103, cw_17106, cw_19000, cw_20100, cw_21100, cw_23000, cw_24000, lc_13500, lc_15000, lc_16000, lc_17000, lc_17100, lc_17103, lc_17106, lc_19000, lc_20000, lc_20001, lc_20100, lc_21000, lc_21100, lc_22000, lc_23000, lc_24000, lc_25000, gd_t, w_eq, thT, thU, psT, psU, hnT, thr_mk, ↓Option.bind_some, ht, h1]
    · unfold p_X11_commit
      simp (disch := omega) only [aok, up_s, true_and, false_and, and_true, and_false, if_true, if_false, ↓reduceIte, ↓Option.bind_some, Int.reduceEq, Int.reduceNe, Int.reduceLT, Int.reduceLE, gd_true, gd_false, bind_b, q10, eq_self, reduceCtorEq, not_true_eq_false, not_false_eq_true, ne_eq, pt_0, pt_1, pt_2, pt_3, pt_4, pt_5, pt_6, pt_7, pt_8, pt_9, pt_10, pt_11, pt_12, pt_13, pt_14, pt_15, pt_16, pt_17, pt_18, pt_19, pt_20, pt_21, pt_22, pt_23, pt_24, pt_25, pt_26, pt_27, pt_28, pt_29, pt_30, pt_31, pt_32, pt_33, pt_34, pt_35, pt_36, pt_37, pt_38, pt_39, pt_40, pt_41, pt_42, pt_43, pt_44, pt_45, pt_46, pt_47, pt_48, pt_49, pt_50, pt_51, pt_52, pt_53, pt_54, pt_55, pt_56, pt_57, pt_58, pt_59, pt_60, pt_61, pt_62, pt_63, pt_64, pt_65, pt_66, pt_67, pa_13005, pw_13005, pa_13006, pw_13006, pa_13007, pw_13007, pa_14008, pw_14008, pa_13009, pw_13009, pa_13010, pw_13010, pa_13012, pw_13012, pa_13013, pw_13013, pa_13014, pw_13014, pa_13015, pw_13015, pa_13016, pw_13016, pa_13017, pw_13017, pa_13018, pw_13018, pa_13020, pw_13020, pa_13021, pw_13021, pa_13022, pw_13022, pa_13023, pw_13023, pa_13024, pw_13024, pa_13025, pw_13025, pa_13026, pw_13026, pa_13027, pw_13027, pa_13028, pw_13028, pa_13029, pw_13029, pa_13031, pw_13031, pa_13032, pw_13032, pa_13033, pw_13033, pa_14034, pw_14034, pa_13035, pw_13035, pa_13036, pw_13036, pa_13037, pw_13037, pa_13038, pw_13038, pa_13039, pw_13039, pa_13042, pw_13042, pa_13043, pw_13043, pa_13044, pw_13044, pa_13045, pw_13045, pa_13046, pw_13046, pa_13047, pw_13047, pa_13048, pw_13048, pa_13049, pw_13049, pa_13050, pw_13050, pa_13051, pw_13051, pa_13052, pw_13052, pa_13053, pw_13053, pa_13054, pw_13054, pa_13055, pw_13055, pa_13056, pw_13056, pa_13057, pw_13057, pa_13058, pw_13058, pa_13059, pw_13059, pa_13060, pw_13060, pa_13061, pw_13061, pa_13062, pw_13062, pa_13063, pw_13063, pa_13064, pw_13064, pa_13065, pw_13065, pa_13066, pw_13066, pa_13067, pw_13067, ps_0, ps_1, ps_2, ps_3, ps_4, ps_11, ps_19, ps_30, ps_40, ps_41, ln_13005, ln_13006, ln_13007, ln_14008, ln_13009, ln_13010, ln_13012, ln_13013, ln_13014, ln_13015, ln_13016, ln_13017, ln_13018, ln_13020, ln_13021, ln_13022, ln_13023, ln_13024, ln_13025, ln_13026, ln_13027, ln_13028, ln_13029, ln_13031, ln_13032, ln_13033, ln_14034, ln_13035, ln_13036, ln_13037, ln_13038, ln_13039, ln_13042, ln_13043, ln_13044, ln_13045, ln_13046, ln_13047, ln_13048, ln_13049, ln_13050, ln_13051, ln_13052, ln_13053, ln_13054, ln_13055, ln_13056, ln_13057, ln_13058, ln_13059, ln_13060, ln_13061, ln_13062, ln_13063, ln_13064, ln_13065, ln_13066, ln_13067, gd_t, w_eq, mt, h1, m_refuse]
