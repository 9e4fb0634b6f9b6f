/-! PURE PART, 38: brokers fail: the class, on -/
def lwI (N : Nd) (p e i : Int) : Nd := ra N 13016 (fun j => if 3 * p ≤ j ∧ j < 3 * p + i ∧ e < N 13016 j then e else N 13016 j)
theorem lwI_3 {N : Nd} {p e : Int} : lwI N p e 3 = lwN N p e := rfl
theorem lwI_0 {N : Nd} {p e : Int} : lwI N p e 0 = N := by
  funext b k
  unfold lwI
  rw [ra_s]
  by_cases eb : b = 13016
  · rw [if_pos eb, if_neg (by omega), eb]
  · rw [if_neg eb]
theorem lwI_S {N : Nd} {p e i : Int} (i1 : 0 ≤ i) : lwI N p e (i + 1) = if e < N 13016 (3 * p + i) then up (lwI N p e i) 13016 (3 * p + i) e else lwI N p e i := by
  by_cases c : e < N 13016 (3 * p + i)
  · rw [if_pos c, up_ra]
    funext b k
    unfold lwI
    simp only [ra_s]
    by_cases eb : b = 13016
    · rw [if_pos eb, if_pos eb, if_true]
      by_cases ek : k = 3 * p + i
      · rw [if_pos ek, ek, if_pos ⟨by omega, by omega, c⟩]
      · rw [if_neg ek]
        congr 1
        simp only [eq_iff_iff]
        constructor
        · rintro ⟨x1, x2, x3⟩; exact ⟨x1, by omega, x3⟩
        · rintro ⟨x1, x2, x3⟩; exact ⟨x1, by omega, x3⟩
    · rw [if_neg eb, if_neg eb, if_neg eb]
  · rw [if_neg c]
    unfold lwI
    congr 1
    funext k
    congr 1
    simp only [eq_iff_iff]
    constructor
    · rintro ⟨x1, x2, x3⟩
      refine ⟨x1, ?_, x3⟩
      by_cases ek : k = 3 * p + i
      · subst ek; exact absurd x3 c
      · omega
    · rintro ⟨x1, x2, x3⟩; exact ⟨x1, by omega, x3⟩
theorem CC.endIrr {C : Cd} {N : Nd} {p r v : Int} (h4 : r < 3) (h3 : 0 ≤ r) (h : N 13006 (N 13012 p) ≤ r) (c : CC C N) : CC C (up N 13016 (3 * p + r) v) :=
  ⟨c.b, c.i, c.t, c.p, c.w, c.l, fun i j i1 i2 j1 j2 (j3 : j < N 13006 (N 13012 i)) => by
    have q := c.r i j i1 i2 j1 j2 j3
    have ne : ¬ 3 * i + j = 3 * p + r := fun e => by
      have e1 : i = p := by omega
      subst e1
      omega
    refine ⟨q.1, q.2.1, ?_, q.2.2.2.1, q.2.2.2.2⟩
    rw [up_s, if_neg (fun x => ne x.2)]
    exact q.2.2.1, c.m, c.x⟩
theorem c_lowerEnds {C : Cd} {N N0 : Nd} {A : Ad} {p : Int} (g : RG N) (c : CC C N) (h1 : 0 ≤ p) (h2 : p < (N 12000 11)) (hl : 0 ≤ N 13013 p) : Ok (p_X5_lowerEnds (mk C N0 A) (6000 + p)) (Rs C N0 A (lwN N p (eol N p))) := by
  have s2 := g.s.2.1
  have rr := g.rep h1 h2
  have lb := RP.lead g.t g.p h1 h2
  obtain ⟨-, b2, -⟩ := g.p p h1 h2
  obtain ⟨-, -, c3, -, -, -⟩ := c.p p h1 h2
  have ee := eol_lead hl
  unfold p_X5_lowerEnds
  simp (disch := omega) only [aok, up_s, true_and, false_and, and_true, and_false, if_true, if_false, ↓reduceIte, ↓Option.bind_some, Int.reduceEq, Int.reduceNe, Int.reduceLT, Int.reduceLE, gd_true, gd_false, bind_b, q10, eq_self, reduceCtorEq, not_true_eq_false, not_false_eq_true, ne_eq, cr_11000, cr_15000, cr_16000, cr_20000, cr_20001, cr_21000, cr_22000, cr_25000, cr_1000, cr_2000, cr_3000, cr_3003, cr_3006, cr_4000, cr_5000, cr_6000, cr_7000, cr_8000, cr_9000, cr_10000, cr_13500, cr_17000, cr_17100, cr_17103, cr_17106, cr_19000, cr_20100, cr_21100, cr_23000, cr_24000, cw_11000, cw_15000, cw_16000, cw_20000, cw_20001, cw_21000, cw_22000, cw_25000, cw_1000, cw_2000, cw_3000, cw_3003, cw_3006, cw_4000, cw_5000, cw_6000, cw_7000, cw_8000, cw_9000, cw_10000, cw_13500, cw_17000, cw_17100, cw_17103, cw_17106, cw_19000, cw_20100, cw_21100, cw_23000, cw_24000, lc_13500, lc_15000, lc_16000, lc_17000, lc_17100, lc_17103, lc_17106, lc_19000, lc_20000, lc_20001, lc_20100, lc_21000, lc_21100, lc_22000, lc_23000, lc_24000, lc_25000, gd_t, w_eq, c3]
  refine Ok.bnd (lp_for (fun i s => s.1 = i ∧ Rs C N0 A (lwI N p (eol N p) i) s.2) 0 3 ?_ ?_ (by omega) ⟨rfl, by rw [lwI_0]; exact Rs.rf c⟩) (fun r hr => Ok.ret hr)
  · rintro i ⟨j, M⟩ i1 i2 ⟨(hj : j = i), C1, (hM : M = _), c1, k1⟩
    subst hj; subst hM
    have ls := @lwI_S N p (eol N p) j i1
    have w1 : C1 23000 p j = if j < N 13006 (N 13012 p) then 8000 + (3 * p + j) else 0 := c1.w p j h1 h2 i1 (by omega)
    have l1 : C1 6000 p 4 = if N 13013 p < 0 then 0 else 8000 + (3 * p + N 13013 p) := (c1.p p h1 h2).2.2.2.2.1
    have l2 : C1 8000 (3 * p + N 13013 p) 2 = eol N p := by
      rw [(c1.r p _ h1 h2 hl (by omega) b2.2).2.2.1]
      show (if 3 * p ≤ 3 * p + N 13013 p ∧ 3 * p + N 13013 p < 3 * p + j ∧ eol N p < N 13016 (3 * p + N 13013 p) then eol N p else N 13016 (3 * p + N 13013 p)) = eol N p
      rw [← ee, if_neg (by omega)]
    have n1 : ¬ N 13013 p < 0 := by omega
    unfold b_X5_lowerEnds_10
    by_cases e : j < N 13006 (N 13012 p)
    · have r2 : C1 8000 (3 * p + j) 2 = N 13016 (3 * p + j) := by
        rw [(c1.r p _ h1 h2 i1 (by omega) e).2.2.1]
        show (if 3 * p ≤ 3 * p + j ∧ 3 * p + j < 3 * p + j ∧ eol N p < N 13016 (3 * p + j) then eol N p else N 13016 (3 * p + j)) = _
        rw [if_neg (by omega)]
      by_cases e2 : eol N p < N 13016 (3 * p + j)
      · rw [if_pos e2] at ls
        simp (disch := omega) only [aok, up_s, true_and, false_and, and_true, and_false, if_true, if_false, ↓reduceIte, ↓Option.bind_some, Int.reduceEq, Int.reduceNe, Int.reduceLT, Int.reduceLE, gd_true, gd_false, bind_b, q10, eq_self, reduceCtorEq, not_true_eq_false, not_false_eq_true, ne_eq, cr_11000, cr_15000, cr_16000, cr_20000, cr_20001, cr_21000, cr_22000, cr_25000, cr_1000, cr_2000, cr_3000, cr_3003, cr_3006, cr_4000, cr_5000, cr_6000, cr_7000, cr_8000, cr_9000, cr_10000, cr_13500, cr_17000, cr_17100, cr_17103, cr_17106, cr_19000, cr_20100, cr_21100, cr_23000, cr_24000, cw_11000, cw_15000, cw_16000, cw_20000, cw_20001, cw_21000, cw_22000, cw_25000, cw_1000, cw_2000, cw_3000, cw_3003, cw_3006, cw_4000, cw_5000, cw_6000, cw_7000, cw_8000, cw_9000, cw_10000, cw_13500, cw_17000, cw_17100, cw_17103, cw_17106, cw_19000, cw_20100, cw_21100, cw_23000, cw_24000, lc_13500, lc_15000, lc_16000, lc_17000, lc_17100, lc_17103, lc_17106, lc_19000, lc_20000, lc_20001, lc_20100, lc_21000, lc_21100, lc_22000, lc_23000, lc_24000, lc_25000, gd_t, w_eq, w1, l1, l2, r2, e, e2, n1, if_pos, if_neg]
        refine ⟨_, rfl, rfl, _, rfl, ?_, k1.uq (by decide)⟩
        show CC _ (lwI N p (eol N p) (j + 1))
        rw [ls]
        exact c1.setEnd i1 (by omega)
      · rw [if_neg e2] at ls
        simp (disch := omega) only [aok, up_s, true_and, false_and, and_true, and_false, if_true, if_false, ↓reduceIte, ↓Option.bind_some, Int.reduceEq, Int.reduceNe, Int.reduceLT, Int.reduceLE, gd_true, gd_false, bind_b, q10, eq_self, reduceCtorEq, not_true_eq_false, not_false_eq_true, ne_eq, cr_11000, cr_15000, cr_16000, cr_20000, cr_20001, cr_21000, cr_22000, cr_25000, cr_1000, cr_2000, cr_3000, cr_3003, cr_3006, cr_4000, cr_5000, cr_6000, cr_7000, cr_8000, cr_9000, cr_10000, cr_13500, cr_17000, cr_17100, cr_17103, cr_17106, cr_19000, cr_20100, cr_21100, cr_23000, cr_24000, cw_11000, cw_15000, cw_16000, cw_20000, cw_20001, cw_21000, cw_22000, cw_25000, cw_1000, cw_2000, cw_3000, cw_3003, cw_3006, cw_4000, cw_5000, cw_6000, cw_7000, cw_8000, cw_9000, cw_10000, cw_13500, cw_17000, cw_17100, cw_17103, cw_17106, cw_19000, cw_20100, cw_21100, cw_23000, cw_24000, lc_13500, lc_15000, lc_16000, lc_17000, lc_17100, lc_17103, lc_17106, lc_19000, lc_20000, lc_20001, lc_20100, lc_21000, lc_21100, lc_22000, lc_23000, lc_24000, lc_25000, gd_t, w_eq, w1, l1, l2, r2, e, e2, n1, if_pos, if_neg]
        refine ⟨_, rfl, rfl, _, rfl, ?_, k1⟩
        show CC _ (lwI N p (eol N p) (j + 1))
        rw [ls]
        exact c1
    · simp (disch := omega) only [aok, up_s, true_and, false_and, and_true, and_false, if_true, if_false, ↓reduceIte, ↓Option.bind_some, Int.reduceEq, Int.reduceNe, Int.reduceLT, Int.reduceLE, gd_true, gd_false, bind_b, q10, eq_self, reduceCtorEq, not_true_eq_false, not_false_eq_true, ne_eq, cr_11000, cr_15000, cr_16000, cr_20000, cr_20001, cr_21000, cr_22000, cr_25000, cr_1000, cr_2000, cr_3000, cr_3003, cr_3006, cr_4000, cr_5000, cr_6000, cr_7000, cr_8000, cr_9000, cr_10000, cr_13500, cr_17000, cr_17100, cr_17103, cr_17106, cr_19000, cr_20100, cr_21100, cr_23000, cr_24000, cw_11000, cw_15000, cw_16000, cw_20000, cw_20001, cw_21000, cw_22000, cw_25000, cw_1000, cw_2000, cw_3000, cw_3003, cw_3006, cw_4000, cw_5000, cw_6000, cw_7000, cw_8000, cw_9000, cw_10000, cw_13500, cw_17000, cw_17100, cw_17103, cw_17106, cw_19000, cw_20100, cw_21100, cw_23000, cw_24000, lc_13500, lc_15000, lc_16000, lc_17000, lc_17100, lc_17103, lc_17106, lc_19000, lc_20000, lc_20001, lc_20100, lc_21000, lc_21100, lc_22000, lc_23000, lc_24000, lc_25000, gd_t, w_eq, w1, e, if_pos, if_neg]
      refine ⟨_, rfl, rfl, _, rfl, ?_, k1⟩
      show CC _ (lwI N p (eol N p) (j + 1))
      rw [ls]
      split
      · exact c1.endIrr (by omega) i1 (by show N 13006 (N 13012 p) ≤ j; omega)
      · exact c1
  · rintro ⟨j, M⟩ ⟨(hj : j = _), hr⟩
    subst hj
    unfold b_X5_lowerEnds_10
    simp (disch := omega) only [if_neg]
    exact ⟨_, rfl, hr⟩
theorem fisb_clr {N : Nd} {p r : Int} (g : RG N) (h1 : 0 ≤ p) (h2 : p < (N 12000 11)) (h3 : 0 ≤ r) (h4 : r < 3) : (fisb N p r < 3 ↔ clr (N 13014 p) r ≠ 0) ∧ (clr (N 13014 p) r ≠ 0 → fisb N p r = low (clr (N 13014 p) r)) := by
  have s := (g.p p h1 h2).2.2.1
  unfold fisb
  exact fin8 (fun s r => ((ff (fun j => decide (bt s j ∧ j ≠ r)) 3 0 < 3) ↔ clr s r ≠ 0) ∧ (clr s r ≠ 0 → ff (fun j => decide (bt s j ∧ j ≠ r)) 3 0 = low (clr s r))) (by decide +kernel) s.1 s.2 h3 h4
theorem c_loseReplica {C : Cd} {N N0 : Nd} {A : Ad} {p r : Int} (g : RG N) (c : CC C N) (ho : OT N) (hx : XU N) (h1 : 0 ≤ p) (h2 : p < (N 12000 11)) (h3 : 0 ≤ r) (h4 : r < N 13006 (N 13012 p)) : Ok (p_X10_loseReplica (mk C N0 A) 11000 (6000 + p) (8000 + (3 * p + r))) (fun x => x.1 = (faN N p r).1 ∧ Rs C N0 A (faN N p r).2 x.2) := by
  have s2 := g.s.2.1
  have rr := g.rep h1 h2
  have lb := RP.lead g.t g.p h1 h2
  obtain ⟨-, b2, b3, -⟩ := g.p p h1 h2
  obtain ⟨-, -, -, -, c5, -⟩ := c.p p h1 h2
  unfold p_X10_loseReplica faN
  by_cases e1 : N 13013 p < 0
  · have e2 : ¬ r = N 13013 p := by omega
    simp (disch := omega) only [aok, up_s, true_and, false_and, and_true, and_false, if_true, if_false, ↓reduceIte, ↓Option.bind_some, Int.reduceEq, Int.reduceNe, Int.reduceLT, Int.reduceLE, gd_true, gd_false, bind_b, q10, eq_self, reduceCtorEq, not_true_eq_false, not_false_eq_true, ne_eq, cr_11000, cr_15000, cr_16000, cr_20000, cr_20001, cr_21000, cr_22000, cr_25000, cr_1000, cr_2000, cr_3000, cr_3003, cr_3006, cr_4000, cr_5000, cr_6000, cr_7000, cr_8000, cr_9000, cr_10000, cr_13500, cr_17000, cr_17100, cr_17103, cr_17106, cr_19000, cr_20100, cr_21100, cr_23000, cr_24000, cw_11000, cw_15000, cw_16000, cw_20000, cw_20001, cw_21000, cw_22000, cw_25000, cw_1000, cw_2000, cw_3000, cw_3003, cw_3006, cw_4000, cw_5000, cw_6000, cw_7000, cw_8000, cw_9000, cw_10000, cw_13500, cw_17000, cw_17100, cw_17103, cw_17106, cw_19000, cw_20100, cw_21100, cw_23000, cw_24000, lc_13500, lc_15000, lc_16000, lc_17000, lc_17100, lc_17103, lc_17106, lc_19000, lc_20000, lc_20001, lc_20100, lc_21000, lc_21100, lc_22000, lc_23000, lc_24000, lc_25000, gd_t, w_eq, c5, e1, e2, if_neg]
    exact ⟨_, rfl, rfl, Rs.rf c⟩
  · by_cases e2 : r = N 13013 p
    · have fc := fisb_clr g h1 h2 h3 (by omega)
      have cf := c_firstInSyncBut (N0 := N0) (A := A) (q := r) g c h1 h2 (Or.inr rfl)
      by_cases e3 : clr (N 13014 p) r = 0
      · have e4 : ¬ fisb N p r < 3 := fun q => fc.1.mp q e3
        rw [if_neg e4] at cf
        rw [if_pos e2, if_pos e3]
        have e5 : 8000 + (3 * p + r) = 8000 + (3 * p + N 13013 p) := by omega
        simp (disch := omega) only [aok, up_s, true_and, false_and, and_true, and_false, if_true, if_false, ↓reduceIte, ↓Option.bind_some, Int.reduceEq, Int.reduceNe, Int.reduceLT, Int.reduceLE, gd_true, gd_false, bind_b, q10, eq_self, reduceCtorEq, not_true_eq_false, not_false_eq_true, ne_eq, cr_11000, cr_15000, cr_16000, cr_20000, cr_20001, cr_21000, cr_22000, cr_25000, cr_1000, cr_2000, cr_3000, cr_3003, cr_3006, cr_4000, cr_5000, cr_6000, cr_7000, cr_8000, cr_9000, cr_10000, cr_13500, cr_17000, cr_17100, cr_17103, cr_17106, cr_19000, cr_20100, cr_21100, cr_23000, cr_24000, cw_11000, cw_15000, cw_16000, cw_20000, cw_20001, cw_21000, cw_22000, cw_25000, cw_1000, cw_2000, cw_3000, cw_3003, cw_3006, cw_4000, cw_5000, cw_6000, cw_7000, cw_8000, cw_9000, cw_10000, cw_13500, cw_17000, cw_17100, cw_17103, cw_17106, cw_19000, cw_20100, cw_21100, cw_23000, cw_24000, lc_13500, lc_15000, lc_16000, lc_17000, lc_17100, lc_17103, lc_17106, lc_19000, lc_20000, lc_20001, lc_20100, lc_21000, lc_21100, lc_22000, lc_23000, lc_24000, lc_25000, gd_t, w_eq, uq_s, c5, e1, e5, cf, if_neg]
        rw [← e5, cf]
        simp (disch := omega) only [aok, up_s, true_and, false_and, and_true, and_false, if_true, if_false, ↓reduceIte, ↓Option.bind_some, Int.reduceEq, Int.reduceNe, Int.reduceLT, Int.reduceLE, gd_true, gd_false, bind_b, q10, eq_self, reduceCtorEq, not_true_eq_false, not_false_eq_true, ne_eq, cr_11000, cr_15000, cr_16000, cr_20000, cr_20001, cr_21000, cr_22000, cr_25000, cr_1000, cr_2000, cr_3000, cr_3003, cr_3006, cr_4000, cr_5000, cr_6000, cr_7000, cr_8000, cr_9000, cr_10000, cr_13500, cr_17000, cr_17100, cr_17103, cr_17106, cr_19000, cr_20100, cr_21100, cr_23000, cr_24000, cw_11000, cw_15000, cw_16000, cw_20000, cw_20001, cw_21000, cw_22000, cw_25000, cw_1000, cw_2000, cw_3000, cw_3003, cw_3006, cw_4000, cw_5000, cw_6000, cw_7000, cw_8000, cw_9000, cw_10000, cw_13500, cw_17000, cw_17100, cw_17103, cw_17106, cw_19000, cw_20100, cw_21100, cw_23000, cw_24000, lc_13500, lc_15000, lc_16000, lc_17000, lc_17100, lc_17103, lc_17106, lc_19000, lc_20000, lc_20001, lc_20100, lc_21000, lc_21100, lc_22000, lc_23000, lc_24000, lc_25000, gd_t, w_eq, uq_s]
        refine ⟨_, rfl, rfl, _, rfl, ?_, KP.rf.uq (by decide)⟩
        have h := c.setLeader (p := p) (v := -1)
        rw [if_pos (by omega)] at h
        exact h
      · have e4 : fisb N p r < 3 := fc.1.mpr e3
        have e6 := fc.2 e3
        rw [if_pos e4, e6] at cf
        rw [if_pos e2, if_neg e3]
        have lw := @low_b (clr (N 13014 p) r)
        have g2 := g.clear2 h1 h2 h3 (by omega) e3
        have g3 : RG (up N 13013 p (low (clr (N 13014 p) r))) := g.upLeader (by
          have := (g2.p p h1 h2).2.1
          rw [show (up (up N 13014 p (clr (N 13014 p) r)) 13013 p (low (clr (N 13014 p) r))) 13013 p = low (clr (N 13014 p) r) from by simp only [up_s, up_s, true_and, false_and, and_true, and_false, if_true, if_false, ↓reduceIte, ↓Option.bind_some, Int.reduceEq, Int.reduceNe, Int.reduceLT, Int.reduceLE, gd_true, gd_false, bind_b, q10, eq_self, reduceCtorEq, not_true_eq_false, not_false_eq_true, ne_eq]] at this
          exact this)
        have c2 : CC (uq (uq C 6000 p 4 (8000 + (3 * p + low (clr (N 13014 p) r)))) 8000 (3 * p + r) 4 0) (up (up N 13014 p (clr (N 13014 p) r)) 13013 p (low (clr (N 13014 p) r))) := by
          have h := c.setLeader (p := p) (v := low (clr (N 13014 p) r))
          rw [if_neg (by omega)] at h
          have h' := h.clearSync (r := r) g3 h1 h2 h3 (by omega)
          rw [up_comm (by decide)]
          exact h'
        have o2 : OT (up (up N 13014 p (clr (N 13014 p) r)) 13013 p (low (clr (N 13014 p) r))) := ho
        have x2 : XU (up (up N 13014 p (clr (N 13014 p) r)) 13013 p (low (clr (N 13014 p) r))) := hx
        generalize hN2 : up (up N 13014 p (clr (N 13014 p) r)) 13013 p (low (clr (N 13014 p) r)) = N2 at g2 c2 o2 x2 ⊢
        have p2 : N2 12000 11 = (N 12000 11) := by rw [← hN2]; rfl
        have l2 : N2 13013 p = low (clr (N 13014 p) r) := by rw [← hN2]; simp only [up_s, up_s, true_and, false_and, and_true, and_false, if_true, if_false, ↓reduceIte, ↓Option.bind_some, Int.reduceEq, Int.reduceNe, Int.reduceLT, Int.reduceLE, gd_true, gd_false, bind_b, q10, eq_self, reduceCtorEq, not_true_eq_false, not_false_eq_true, ne_eq]
        have eb := eol_b g2.t g2.p g2.e h1 (by omega)
        have el := eol_lead (N := N2) (p := p) (by omega)
        have r2 : C 8000 (3 * p + low (clr (N 13014 p) r)) 2 = eol N2 p := by
          rw [el, l2]
          have lr := (g2.p p h1 (by omega)).2.1.2
          rw [l2] at lr
          have q := (c2.r p _ h1 (by omega) lw.1 lw.2 lr).2.2.1
          rw [uq_s, if_neg (by omega), uq_s, if_neg (by omega)] at q
          exact q
        have e5 : 8000 + (3 * p + r) = 8000 + (3 * p + N 13013 p) := by omega
        simp (disch := omega) only [aok, up_s, true_and, false_and, and_true, and_false, if_true, if_false, ↓reduceIte, ↓Option.bind_some, Int.reduceEq, Int.reduceNe, Int.reduceLT, Int.reduceLE, gd_true, gd_false, bind_b, q10, eq_self, reduceCtorEq, not_true_eq_false, not_false_eq_true, ne_eq, cr_11000, cr_15000, cr_16000, cr_20000, cr_20001, cr_21000, cr_22000, cr_25000, cr_1000, cr_2000, cr_3000, cr_3003, cr_3006, cr_4000, cr_5000, cr_6000, cr_7000, cr_8000, cr_9000, cr_10000, cr_13500, cr_17000, cr_17100, cr_17103, cr_17106, cr_19000, cr_20100, cr_21100, cr_23000, cr_24000, cw_11000, cw_15000, cw_16000, cw_20000, cw_20001, cw_21000, cw_22000, cw_25000, cw_1000, cw_2000, cw_3000, cw_3003, cw_3006, cw_4000, cw_5000, cw_6000, cw_7000, cw_8000, cw_9000, cw_10000, cw_13500, cw_17000, cw_17100, cw_17103, cw_17106, cw_19000, cw_20100, cw_21100, cw_23000, cw_24000, lc_13500, lc_15000, lc_16000, lc_17000, lc_17100, lc_17103, lc_17106, lc_19000, lc_20000, lc_20001, lc_20100, lc_21000, lc_21100, lc_22000, lc_23000, lc_24000, lc_25000, gd_t, w_eq, uq_s, c5, e1, ← e5, cf, r2, if_neg]
        refine Ok.bnd (c_cutFrom g2 c2 o2 x2 h1 (by omega) eb.1 eb.2) ?_
        rintro ⟨a, M⟩ ⟨(ha : a = _), C3, (hM : M = _), c3, k3⟩
        subst ha; subst hM
        have inv := fo_inv (g := ctG p) (i0 := eol N2 p) (n := (60 - eol N2 p).toNat) (a := (0, N2)) (fun _ s => RG s.2 ∧ s.2 12000 11 = (N 12000 11) ∧ s.2 13013 p = N2 13013 p ∧ s.2 13016 = N2 13016) ⟨g2, p2, rfl, rfl⟩ (fun i b i1 i2 hb => ⟨hb.1.ctS, ctS_sc.trans hb.2.1, by
          rw [← hb.2.2.1]
          show ctS b.2 p i 13013 p = b.2 13013 p
          unfold ctS
          split
          · rfl
          · split <;> rfl, by
          rw [← hb.2.2.2]
          show ctS b.2 p i 13016 = b.2 13016
          unfold ctS
          split
          · rfl
          · split <;> rfl⟩)
        obtain ⟨i1, i2, i3, i4⟩ := inv
        have i3' : (ct2 N2 p (eol N2 p)).2 13013 p = N2 13013 p := i3
        have i4' : (ct2 N2 p (eol N2 p)).2 13016 = N2 13016 := i4
        have el3 : eol (ct2 N2 p (eol N2 p)).2 p = eol N2 p := by
          rw [eol_lead (by rw [i3']; omega), i3', i4']
          exact el.symm
        refine Ok.bnd (c_lowerEnds i1 c3 h1 (by omega) (by rw [i3]; omega)) ?_
        intro M4 h4'
        refine Ok.ret ⟨rfl, ?_⟩
        have h5 : Rs C3 N0 A (lwN (ct2 N2 p (eol N2 p)).2 p (eol (ct2 N2 p (eol N2 p)).2 p)) M4 := h4'
        rw [el3] at h5
        exact h5.tr (((KP.rf.uq (by decide)).uq (by decide)).tr k3)
    · have e4 : ¬ 3 * p + r = 3 * p + N 13013 p := by omega
      have e5 : ¬ 8000 + (3 * p + r) = 8000 + (3 * p + N 13013 p) := by omega
      simp (disch := omega) only [aok, up_s, true_and, false_and, and_true, and_false, if_true, if_false, ↓reduceIte, ↓Option.bind_some, Int.reduceEq, Int.reduceNe, Int.reduceLT, Int.reduceLE, gd_true, gd_false, bind_b, q10, eq_self, reduceCtorEq, not_true_eq_false, not_false_eq_true, ne_eq, cr_11000, cr_15000, cr_16000, cr_20000, cr_20001, cr_21000, cr_22000, cr_25000, cr_1000, cr_2000, cr_3000, cr_3003, cr_3006, cr_4000, cr_5000, cr_6000, cr_7000, cr_8000, cr_9000, cr_10000, cr_13500, cr_17000, cr_17100, cr_17103, cr_17106, cr_19000, cr_20100, cr_21100, cr_23000, cr_24000, cw_11000, cw_15000, cw_16000, cw_20000, cw_20001, cw_21000, cw_22000, cw_25000, cw_1000, cw_2000, cw_3000, cw_3003, cw_3006, cw_4000, cw_5000, cw_6000, cw_7000, cw_8000, cw_9000, cw_10000, cw_13500, cw_17000, cw_17100, cw_17103, cw_17106, cw_19000, cw_20100, cw_21100, cw_23000, cw_24000, lc_13500, lc_15000, lc_16000, lc_17000, lc_17100, lc_17103, lc_17106, lc_19000, lc_20000, lc_20001, lc_20100, lc_21000, lc_21100, lc_22000, lc_23000, lc_24000, lc_25000, gd_t, w_eq, c5, e1, e2, e5, if_neg]
      exact ⟨_, rfl, rfl, _, rfl, c.clearSync g h1 h2 h3 (by omega), KP.rf.uq (by decide)⟩
theorem RG.ct2 {N : Nd} {p e : Int} (g : RG N) : RG (ct2 N p e).2 :=
  fo_inv (g := ctG p) (i0 := e) (n := (60 - e).toNat) (a := (0, N)) (fun _ s => RG s.2) g (fun _ _ _ _ h => h.ctS)
theorem OT.ct2 {N : Nd} {p e : Int} (h : OT N) : OT (ct2 N p e).2 :=
  fo_inv (g := ctG p) (i0 := e) (n := (60 - e).toNat) (a := (0, N)) (fun _ s => OT s.2) h (fun _ _ _ _ h => h.ctS)
theorem XU.ct2 {N : Nd} {p e : Int} (h : XU N) : XU (ct2 N p e).2 :=
  fo_inv (g := ctG p) (i0 := e) (n := (60 - e).toNat) (a := (0, N)) (fun _ s => XU s.2) h (fun _ _ _ _ h => h.ctS)
theorem ct2_sc {N : Nd} {p e j : Int} : (ct2 N p e).2 12000 j = N 12000 j :=
  fo_inv (g := ctG p) (i0 := e) (n := (60 - e).toNat) (a := (0, N)) (fun _ s => s.2 12000 j = N 12000 j) rfl (fun _ _ _ _ h => ctS_sc.trans h)
theorem ctS_ar {N : Nd} {p k a : Int} (h : a ≠ 13018 ∧ a ≠ 13024 ∧ a ≠ 13026 ∧ a ≠ 13025 ∧ a ≠ 14034) : ctS N p k a = N a := by
  funext j
  unfold ctS
  have e1 : ct1 N p k a j = N a j := by
    unfold ct1
    rw [up_s, if_neg (fun q => h.2.2.1 q.1), up_s, if_neg (fun q => h.2.1 q.1), up_s, if_neg (fun q => h.1 q.1)]
  split
  · rfl
  · split
    · unfold brkN bkX stO
      rw [ra_s, if_neg h.2.2.2.2, ra_s, if_neg h.2.2.2.1, e1]
    · exact e1
theorem ct2_ar {N : Nd} {p e a : Int} (h : a ≠ 13018 ∧ a ≠ 13024 ∧ a ≠ 13026 ∧ a ≠ 13025 ∧ a ≠ 14034) : (ct2 N p e).2 a = N a :=
  fo_inv (g := ctG p) (i0 := e) (n := (60 - e).toNat) (a := (0, N)) (fun _ s => s.2 a = N a) rfl (fun _ _ _ _ h2 => (ctS_ar h).trans h2)
/-- a leader is in the in-sync set; without one a single replica is -/
def LI (N : Nd) : Prop := ∀ p, 0 ≤ p → p < (N 12000 11) → (0 ≤ N 13013 p → bt (N 13014 p) (N 13013 p) = true) ∧ (N 13013 p < 0 → ∀ r, 0 ≤ r → r < 3 → bt (N 13014 p) r = true → r = low (N 13014 p))
theorem clr_ne {N : Nd} {p r : Int} (g : RG N) (hl : LI N) (h1 : 0 ≤ p) (h2 : p < (N 12000 11)) (h3 : 0 ≤ r) (h4 : r < 3) (e1 : ¬ r = N 13013 p) (e2 : ¬ N 13013 p < 0) : clr (N 13014 p) r ≠ 0 := by
  have s := (g.p p h1 h2).2.2.1
  have lb := RP.lead g.t g.p h1 h2
  have k := clr_ok s.1 s.2 h3 h4
  rw [set_ne k.1.1 k.1.2]
  have h := (k.2 (N 13013 p) (by omega) (by omega)).mpr (by rw [if_neg (fun q => e1 q.symm)]; exact (hl p h1 h2).1 (by omega))
  have e : N 13013 p = 0 ∨ N 13013 p = 1 ∨ N 13013 p = 2 := by omega
  rcases e with e | e | e <;> rw [e] at h
  · exact Or.inl h
  · exact Or.inr (Or.inl h)
  · exact Or.inr (Or.inr h)
theorem RG.faN {N : Nd} {p r : Int} (g : RG N) (hl : LI N) (h1 : 0 ≤ p) (h2 : p < (N 12000 11)) (h3 : 0 ≤ r) (h4 : r < 3) : RG (faN N p r).2 := by
  unfold Jvm.Pilot.@@N@@.faN
  have rr := g.rep h1 h2
  split
  · split
    · exact g.upLeader (by omega)
    · rename_i e
      have g2 := g.clear2 h1 h2 h3 h4 e
      exact g2.ct2.lwN (eol_b g2.t g2.p g2.e h1 h2)
  · split
    · exact g
    · rename_i e1 e2
      exact g.clear h1 h2 h3 h4 (clr_ne g hl h1 h2 h3 h4 e1 e2)
theorem faN_sc {N : Nd} {p r j : Int} : (faN N p r).2 12000 j = N 12000 j := by
  unfold faN
  split
  · split
    · rfl
    · exact ct2_sc
  · split <;> rfl
theorem faN_ar {N : Nd} {p r a : Int} (h : a ≠ 13018 ∧ a ≠ 13024 ∧ a ≠ 13026 ∧ a ≠ 13025 ∧ a ≠ 14034) (h2 : a ≠ 13013 ∧ a ≠ 13014 ∧ a ≠ 13016) : (faN N p r).2 a = N a := by
  have u1 : ∀ (N : Nd) b i v, a ≠ b → up N b i v a = N a := fun N b i v h => by
    funext j
    rw [up_s, if_neg (fun q => h q.1)]
  unfold faN
  split
  · split
    · exact u1 _ _ _ _ h2.1
    · show lwN _ _ _ a = N a
      unfold lwN
      funext j
      rw [ra_s, if_neg h2.2.2, ct2_ar h, u1 _ _ _ _ h2.1, u1 _ _ _ _ h2.2.1]
  · split
    · rfl
    · exact u1 _ _ _ _ h2.2.1
theorem OT.faN {N : Nd} {p r : Int} (h : OT N) : OT (faN N p r).2 := by
  unfold Jvm.Pilot.@@N@@.faN
  split
  · split
    · exact h
    · exact OT.ct2 (N := up (up N 13014 p (clr (N 13014 p) r)) 13013 p (low (clr (N 13014 p) r))) h
  · split
    · exact h
    · exact h
theorem XU.faN {N : Nd} {p r : Int} (h : XU N) : XU (faN N p r).2 := by
  unfold Jvm.Pilot.@@N@@.faN
  split
  · split
    · exact h
    · exact XU.ct2 (N := up (up N 13014 p (clr (N 13014 p) r)) 13013 p (low (clr (N 13014 p) r))) h
  · split
    · exact h
    · exact h
theorem LI.faN {N : Nd} {p r : Int} (g : RG N) (h : LI N) (h1 : 0 ≤ p) (h2 : p < (N 12000 11)) (h3 : 0 ≤ r) (h4 : r < 3) : LI (faN N p r).2 := by
  have s := (g.p p h1 h2).2.2.1
  have k := clr_ok s.1 s.2 h3 h4
  unfold Jvm.Pilot.@@N@@.faN
  split
  · rename_i e0
    split
    · rename_i e
      intro q q1 q2
      have hq := h q q1 q2
      by_cases eq : q = p
      · subst eq
        simp only [up_s, up_s, true_and, false_and, and_true, and_false, if_true, if_false, ↓reduceIte, ↓Option.bind_some, Int.reduceEq, Int.reduceNe, Int.reduceLT, Int.reduceLE, gd_true, gd_false, bind_b, q10, eq_self, reduceCtorEq, not_true_eq_false, not_false_eq_true, ne_eq]
        refine ⟨fun x => absurd x (by decide), fun _ j j1 j2 hj => ?_⟩
        have a1 : ∀ i, 0 ≤ i → i < 3 → bt (N 13014 q) i = true → i = r := fun i i1 i2 hi => by
          by_cases ei : i = r
          · exact ei
          · have := (k.2 i i1 i2).mpr (by rw [if_neg ei]; exact hi)
            rw [e] at this
            have b0 : bt 0 0 = false := by decide
            have b1 : bt 0 1 = false := by decide
            have b2 : bt 0 2 = false := by decide
            have ee : i = 0 ∨ i = 1 ∨ i = 2 := by omega
            rcases ee with ee | ee | ee <;> rw [ee] at this
            · rw [b0] at this; cases this
            · rw [b1] at this; cases this
            · rw [b2] at this; cases this
        have lb := @low_b (N 13014 q)
        have li := low_in (g.p q q1 q2).2.2.2.2.2.2
        rw [a1 j j1 j2 hj, a1 _ lb.1 lb.2 li]
      · simp only [up_s, eq, up_s, true_and, false_and, and_true, and_false, if_true, if_false, ↓reduceIte, ↓Option.bind_some, Int.reduceEq, Int.reduceNe, Int.reduceLT, Int.reduceLE, gd_true, gd_false, bind_b, q10, eq_self, reduceCtorEq, not_true_eq_false, not_false_eq_true, ne_eq]
        exact hq
    · rename_i e
      have lw := low_in ((set_ne k.1.1 k.1.2).mp e)
      have lb := @low_b (clr (N 13014 p) r)
      intro q q1 q2
      have hq := h q q1 (by
        have : (ct2 (up (up N 13014 p (clr (N 13014 p) r)) 13013 p (low (clr (N 13014 p) r))) p (eol (up (up N 13014 p (clr (N 13014 p) r)) 13013 p (low (clr (N 13014 p) r))) p)).2 12000 11 = (N 12000 11) := ct2_sc
        have q3 : q < (ct2 (up (up N 13014 p (clr (N 13014 p) r)) 13013 p (low (clr (N 13014 p) r))) p (eol (up (up N 13014 p (clr (N 13014 p) r)) 13013 p (low (clr (N 13014 p) r))) p)).2 12000 11 := q2
        rw [this] at q3
        exact q3)
      have eL : (lwN (ct2 (up (up N 13014 p (clr (N 13014 p) r)) 13013 p (low (clr (N 13014 p) r))) p (eol (up (up N 13014 p (clr (N 13014 p) r)) 13013 p (low (clr (N 13014 p) r))) p)).2 p (eol (up (up N 13014 p (clr (N 13014 p) r)) 13013 p (low (clr (N 13014 p) r))) p)) 13013 = (up (up N 13014 p (clr (N 13014 p) r)) 13013 p (low (clr (N 13014 p) r))) 13013 := ct2_ar (by decide)
      have eS : (lwN (ct2 (up (up N 13014 p (clr (N 13014 p) r)) 13013 p (low (clr (N 13014 p) r))) p (eol (up (up N 13014 p (clr (N 13014 p) r)) 13013 p (low (clr (N 13014 p) r))) p)).2 p (eol (up (up N 13014 p (clr (N 13014 p) r)) 13013 p (low (clr (N 13014 p) r))) p)) 13014 = (up (up N 13014 p (clr (N 13014 p) r)) 13013 p (low (clr (N 13014 p) r))) 13014 := ct2_ar (by decide)
      simp only [eL, eS]
      by_cases eq : q = p
      · subst eq
        simp only [up_s, up_s, true_and, false_and, and_true, and_false, if_true, if_false, ↓reduceIte, ↓Option.bind_some, Int.reduceEq, Int.reduceNe, Int.reduceLT, Int.reduceLE, gd_true, gd_false, bind_b, q10, eq_self, reduceCtorEq, not_true_eq_false, not_false_eq_true, ne_eq]
        exact ⟨fun _ => lw, fun x => by omega⟩
      · simp only [up_s, eq, up_s, true_and, false_and, and_true, and_false, if_true, if_false, ↓reduceIte, ↓Option.bind_some, Int.reduceEq, Int.reduceNe, Int.reduceLT, Int.reduceLE, gd_true, gd_false, bind_b, q10, eq_self, reduceCtorEq, not_true_eq_false, not_false_eq_true, ne_eq]
        exact hq
  · split
    · exact h
    · rename_i e1 e2
      intro q q1 q2
      have hq := h q q1 q2
      by_cases eq : q = p
      · subst eq
        simp only [up_s, up_s, true_and, false_and, and_true, and_false, if_true, if_false, ↓reduceIte, ↓Option.bind_some, Int.reduceEq, Int.reduceNe, Int.reduceLT, Int.reduceLE, gd_true, gd_false, bind_b, q10, eq_self, reduceCtorEq, not_true_eq_false, not_false_eq_true, ne_eq]
        refine ⟨fun x => ?_, fun x => by omega⟩
        have lb := RP.lead g.t g.p q1 q2
        exact (k.2 _ x (by omega)).mpr (by rw [if_neg (fun z => e1 z.symm)]; exact hq.1 x)
      · simp only [up_s, eq, up_s, true_and, false_and, and_true, and_false, if_true, if_false, ↓reduceIte, ↓Option.bind_some, Int.reduceEq, Int.reduceNe, Int.reduceLT, Int.reduceLE, gd_true, gd_false, bind_b, q10, eq_self, reduceCtorEq, not_true_eq_false, not_false_eq_true, ne_eq]
        exact hq
