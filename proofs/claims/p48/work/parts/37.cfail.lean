/-! PURE PART, 37: brokers fail: the class -/
/-- an OPEN message is of the transaction that its producer is in; no two producers are in one -/
def OT (N : Nd) : Prop := ∀ m, 0 ≤ m → m < (N 12000 19) → N 13025 m = 1 → 0 ≤ N 13029 m ∧ N 13033 (N 13020 m) = N 13029 m
def XU (N : Nd) : Prop := ∀ x y, 0 ≤ x → x < (N 12000 30) → 0 ≤ y → y < (N 12000 30) → 0 ≤ N 13033 x → N 13033 x = N 13033 y → x = y
theorem OT.brk {N : Nd} {t : Int} (h : OT N) : OT (brkN N t) := fun m h1 h2 h3 => by
  refine h m h1 h2 ?_
  have h4 : (if 0 ≤ m ∧ m < (N 12000 19) ∧ N 13029 m = t then 3 else N 13025 m) = 1 := h3
  split at h4
  · omega
  · exact h4
theorem OT.ctS {N : Nd} {p k : Int} (h : OT N) : OT (ctS N p k) := by
  unfold Jvm.Pilot.@@N@@.ctS
  split
  · exact h
  · split
    · exact OT.brk (N := ct1 N p k) h
    · exact h
theorem XU.ctS {N : Nd} {p k : Int} (h : XU N) : XU (ctS N p k) := by
  unfold Jvm.Pilot.@@N@@.ctS
  split
  · exact h
  · split
    · exact h
    · exact h
theorem ctS_sc {N : Nd} {p k j : Int} : ctS N p k 12000 j = N 12000 j := by
  unfold ctS
  split
  · rfl
  · split <;> rfl
theorem brk_eq {N : Nd} {t x0 : Int} (h : XU N) (h1 : 0 ≤ x0) (h2 : x0 < (N 12000 30)) (h3 : N 13033 x0 = t) (h4 : 0 ≤ t) : stO (up N 14034 x0 1) t 3 ((N 12000 19)) = brkN N t := by
  funext a j
  unfold brkN bkX
  rw [ra_s]
  by_cases e : a = 14034
  · subst e
    rw [if_pos rfl]
    show (if (14034 : Int) = 14034 ∧ j = x0 then 1 else N 14034 j) = if 0 ≤ j ∧ j < (N 12000 30) ∧ N 13033 j = t then 1 else N 14034 j
    congr 1
    simp only [eq_iff_iff, up_s, true_and, false_and, and_true, and_false, if_true, if_false, ↓reduceIte, ↓Option.bind_some, Int.reduceEq, Int.reduceNe, Int.reduceLT, Int.reduceLE, gd_true, gd_false, bind_b, q10, eq_self, reduceCtorEq, not_true_eq_false, not_false_eq_true, ne_eq]
    constructor
    · rintro rfl; exact ⟨h1, h2, h3⟩
    · rintro ⟨x1, x2, x3⟩; exact h _ _ x1 x2 h1 h2 (by omega) (by omega)
  · rw [if_neg e]
    unfold stO
    rw [ra_s, ra_s]
    by_cases e2 : a = 13025
    · rw [if_pos e2, if_pos e2]; rfl
    · rw [if_neg e2, if_neg e2, up_s, if_neg (fun q => e q.1)]
theorem c_takeAt {C : Cd} {N N0 : Nd} {A : Ad} {p k : Int} (g : RG N) (c : CC C N) (h1 : 0 ≤ p) (h2 : p < (N 12000 11)) (h3 : 0 ≤ k) (h4 : k < 60) : p_X5_takeAt (mk C N0 A) (6000 + p) k = some (if N 13018 (60 * p + k) < 0 then (0, mk C N0 A) else (5000 + N 13018 (60 * p + k), mk (uq C 20100 p k 0) N0 A)) := by
  have s2 := g.s.2.1
  obtain ⟨-, -, -, c4, -, -⟩ := c.p p h1 h2
  unfold p_X5_takeAt
  by_cases e : N 13018 (60 * p + k) < 0
  · have e2 : ¬ (0 ≤ k ∧ k < 60 ∧ 0 ≤ N 13018 (60 * p + k)) := by omega
    simp (disch := omega) only [aok, up_s, true_and, false_and, and_true, and_false, if_true, if_false, ↓reduceIte, ↓Option.bind_some, Int.reduceEq, Int.reduceNe, Int.reduceLT, Int.reduceLE, gd_true, gd_false, bind_b, q10, eq_self, reduceCtorEq, not_true_eq_false, not_false_eq_true, ne_eq, cr_11000, cr_15000, cr_16000, cr_20000, cr_20001, cr_21000, cr_22000, cr_25000, cr_1000, cr_2000, cr_3000, cr_3003, cr_3006, cr_4000, cr_5000, cr_6000, cr_7000, cr_8000, cr_9000, cr_10000, cr_13500, cr_17000, cr_17100, cr_17103, cr_17106, cr_19000, cr_20100, cr_21100, cr_23000, cr_24000, cw_11000, cw_15000, cw_16000, cw_20000, cw_20001, cw_21000, cw_22000, cw_25000, cw_1000, cw_2000, cw_3000, cw_3003, cw_3006, cw_4000, cw_5000, cw_6000, cw_7000, cw_8000, cw_9000, cw_10000, cw_13500, cw_17000, cw_17100, cw_17103, cw_17106, cw_19000, cw_20100, cw_21100, cw_23000, cw_24000, lc_13500, lc_15000, lc_16000, lc_17000, lc_17100, lc_17103, lc_17106, lc_19000, lc_20000, lc_20001, lc_20100, lc_21000, lc_21100, lc_22000, lc_23000, lc_24000, lc_25000, gd_t, w_eq, c_messageAt g c h1 h2, e, e2]
  · have e2 : 0 ≤ k ∧ k < 60 ∧ 0 ≤ N 13018 (60 * p + k) := by omega
    simp (disch := omega) only [aok, up_s, true_and, false_and, and_true, and_false, if_true, if_false, ↓reduceIte, ↓Option.bind_some, Int.reduceEq, Int.reduceNe, Int.reduceLT, Int.reduceLE, gd_true, gd_false, bind_b, q10, eq_self, reduceCtorEq, not_true_eq_false, not_false_eq_true, ne_eq, cr_11000, cr_15000, cr_16000, cr_20000, cr_20001, cr_21000, cr_22000, cr_25000, cr_1000, cr_2000, cr_3000, cr_3003, cr_3006, cr_4000, cr_5000, cr_6000, cr_7000, cr_8000, cr_9000, cr_10000, cr_13500, cr_17000, cr_17100, cr_17103, cr_17106, cr_19000, cr_20100, cr_21100, cr_23000, cr_24000, cw_11000, cw_15000, cw_16000, cw_20000, cw_20001, cw_21000, cw_22000, cw_25000, cw_1000, cw_2000, cw_3000, cw_3003, cw_3006, cw_4000, cw_5000, cw_6000, cw_7000, cw_8000, cw_9000, cw_10000, cw_13500, cw_17000, cw_17100, cw_17103, cw_17106, cw_19000, cw_20100, cw_21100, cw_23000, cw_24000, lc_13500, lc_15000, lc_16000, lc_17000, lc_17100, lc_17103, lc_17106, lc_19000, lc_20000, lc_20001, lc_20100, lc_21000, lc_21100, lc_22000, lc_23000, lc_24000, lc_25000, gd_t, w_eq, c_messageAt g c h1 h2, e, e2, c4, if_neg]
theorem c_cutFrom {C : Cd} {N N0 : Nd} {A : Ad} {p e : Int} (g : RG N) (c : CC C N) (ho : OT N) (hx : XU N) (h1 : 0 ≤ p) (h2 : p < (N 12000 11)) (h3 : 0 ≤ e) (h4 : e ≤ 60) : Ok (p_X10_cutFrom (mk C N0 A) 11000 (6000 + p) e) (fun r => r.1 = (ct2 N p e).1 ∧ Rs C N0 A (ct2 N p e).2 r.2) := by
  unfold p_X10_cutFrom
  refine Ok.bnd (Q := fun r => r.1 = (ct2 N p e).1 ∧ Rs C N0 A (ct2 N p e).2 r.2) (lp_for (fun i s => ∃ a N1 M, s = (a, i, M) ∧ (a, N1) = fo (ctG p) e (i - e).toNat (0, N) ∧ Rs C N0 A N1 M ∧ RG N1 ∧ OT N1 ∧ XU N1 ∧ N1 12000 11 = (N 12000 11)) e (60 - e).toNat ?_ ?_ (by omega) ⟨0, N, _, rfl, by rw [show (e - e).toNat = 0 by omega]; rfl, Rs.rf c, g, ho, hx, rfl⟩) (fun r hr => Ok.ret hr)
  · rintro i s i1 i2 ⟨a, N1, M, rfl, hf, ⟨C1, rfl, c1, k1⟩, g1, o1, x1, e1⟩
    have hf2 : ctG p i (a, N1) = fo (ctG p) e (i + 1 - e).toNat (0, N) := by
      rw [show (i + 1 - e).toNat = (i - e).toNat + 1 by omega, fo_S, ← hf, show e + ((i - e).toNat : Int) = i by omega]
    have s5 := g1.s.2.2.2.2.1
    have hl := g1.l p i h1 (by omega) (by omega) (by omega)
    unfold b_X10_cutFrom_5
    unfold ctG at hf2
    by_cases q1 : N1 13018 (60 * p + i) < 0
    · simp (disch := omega) only [aok, up_s, true_and, false_and, and_true, and_false, if_true, if_false, ↓reduceIte, ↓Option.bind_some, Int.reduceEq, Int.reduceNe, Int.reduceLT, Int.reduceLE, gd_true, gd_false, bind_b, q10, eq_self, reduceCtorEq, not_true_eq_false, not_false_eq_true, ne_eq, cr_11000, cr_15000, cr_16000, cr_20000, cr_20001, cr_21000, cr_22000, cr_25000, cr_1000, cr_2000, cr_3000, cr_3003, cr_3006, cr_4000, cr_5000, cr_6000, cr_7000, cr_8000, cr_9000, cr_10000, cr_13500, cr_17000, cr_17100, cr_17103, cr_17106, cr_19000, cr_20100, cr_21100, cr_23000, cr_24000, cw_11000, cw_15000, cw_16000, cw_20000, cw_20001, cw_21000, cw_22000, cw_25000, cw_1000, cw_2000, cw_3000, cw_3003, cw_3006, cw_4000, cw_5000, cw_6000, cw_7000, cw_8000, cw_9000, cw_10000, cw_13500, cw_17000, cw_17100, cw_17103, cw_17106, cw_19000, cw_20100, cw_21100, cw_23000, cw_24000, lc_13500, lc_15000, lc_16000, lc_17000, lc_17100, lc_17103, lc_17106, lc_19000, lc_20000, lc_20001, lc_20100, lc_21000, lc_21100, lc_22000, lc_23000, lc_24000, lc_25000, gd_t, w_eq, c_takeAt g1 c1, q1, if_pos]
      refine ⟨_, rfl, a, N1, _, rfl, ?_, ⟨C1, rfl, c1, k1⟩, g1, o1, x1, e1⟩
      unfold ctS at hf2
      simp only [q1, up_s, true_and, false_and, and_true, and_false, if_true, if_false, ↓reduceIte, ↓Option.bind_some, Int.reduceEq, Int.reduceNe, Int.reduceLT, Int.reduceLE, gd_true, gd_false, bind_b, q10, eq_self, reduceCtorEq, not_true_eq_false, not_false_eq_true, ne_eq] at hf2
      exact hf2
    · obtain ⟨m0, m1, m2, -, -, -, m6, m7, m8, -⟩ := c1.m _ (show 0 ≤ N1 13018 (60 * p + i) by omega) hl.2
      have mb := g1.m _ (show 0 ≤ N1 13018 (60 * p + i) by omega) hl.2
      have s3 := g1.s.2.2.1
      have cc := ((c1.setLog0 (p := p) (k := i) (by omega) (by omega)).setState (m := N1 13018 (60 * p + i)) (v := 2)).setOffset (m := N1 13018 (60 * p + i)) (v := -1)
      by_cases q2 : N1 13025 (N1 13018 (60 * p + i)) = 1
      · have ot := o1 _ (show 0 ≤ N1 13018 (60 * p + i) by omega) hl.2 q2
        simp (disch := omega) only [aok, up_s, true_and, false_and, and_true, and_false, if_true, if_false, ↓reduceIte, ↓Option.bind_some, Int.reduceEq, Int.reduceNe, Int.reduceLT, Int.reduceLE, gd_true, gd_false, bind_b, q10, eq_self, reduceCtorEq, not_true_eq_false, not_false_eq_true, ne_eq, cr_11000, cr_15000, cr_16000, cr_20000, cr_20001, cr_21000, cr_22000, cr_25000, cr_1000, cr_2000, cr_3000, cr_3003, cr_3006, cr_4000, cr_5000, cr_6000, cr_7000, cr_8000, cr_9000, cr_10000, cr_13500, cr_17000, cr_17100, cr_17103, cr_17106, cr_19000, cr_20100, cr_21100, cr_23000, cr_24000, cw_11000, cw_15000, cw_16000, cw_20000, cw_20001, cw_21000, cw_22000, cw_25000, cw_1000, cw_2000, cw_3000, cw_3003, cw_3006, cw_4000, cw_5000, cw_6000, cw_7000, cw_8000, cw_9000, cw_10000, cw_13500, cw_17000, cw_17100, cw_17103, cw_17106, cw_19000, cw_20100, cw_21100, cw_23000, cw_24000, lc_13500, lc_15000, lc_16000, lc_17000, lc_17100, lc_17103, lc_17106, lc_19000, lc_20000, lc_20001, lc_20100, lc_21000, lc_21100, lc_22000, lc_23000, lc_24000, lc_25000, gd_t, w_eq, c_takeAt g1 c1, uq_s, q1, m1, m6, m8, q2, if_pos, if_neg]
        refine Ok.bnd (c_settle (N := up (ct1 N1 p i) 14034 (N1 13020 (N1 13018 (60 * p + i))) 1) (g1.ct1.upBroken (by omega)) (cc.setBroken)) ?_
        rintro ⟨r1, r2⟩ ⟨-, hr⟩
        refine Ok.ret ⟨w (a + 1), brkN (ct1 N1 p i) (N1 13029 (N1 13018 (60 * p + i))), r2, rfl, ?_, ?_, g1.ct1.brkN, OT.brk (N := ct1 N1 p i) o1, x1, e1⟩
        · unfold ctS at hf2
          simp only [q1, q2, up_s, true_and, false_and, and_true, and_false, if_true, if_false, ↓reduceIte, ↓Option.bind_some, Int.reduceEq, Int.reduceNe, Int.reduceLT, Int.reduceLE, gd_true, gd_false, bind_b, q10, eq_self, reduceCtorEq, not_true_eq_false, not_false_eq_true, ne_eq] at hf2
          exact hf2
        · have be := brk_eq (N := ct1 N1 p i) x1 mb.1.1 mb.1.2 ot.2 ot.1
          rw [← be]
          exact hr.tr (((((k1.uq (by rfl)).uq (by decide)).uq (by decide)).uq (by decide)))
      · simp (disch := omega) only [aok, up_s, true_and, false_and, and_true, and_false, if_true, if_false, ↓reduceIte, ↓Option.bind_some, Int.reduceEq, Int.reduceNe, Int.reduceLT, Int.reduceLE, gd_true, gd_false, bind_b, q10, eq_self, reduceCtorEq, not_true_eq_false, not_false_eq_true, ne_eq, cr_11000, cr_15000, cr_16000, cr_20000, cr_20001, cr_21000, cr_22000, cr_25000, cr_1000, cr_2000, cr_3000, cr_3003, cr_3006, cr_4000, cr_5000, cr_6000, cr_7000, cr_8000, cr_9000, cr_10000, cr_13500, cr_17000, cr_17100, cr_17103, cr_17106, cr_19000, cr_20100, cr_21100, cr_23000, cr_24000, cw_11000, cw_15000, cw_16000, cw_20000, cw_20001, cw_21000, cw_22000, cw_25000, cw_1000, cw_2000, cw_3000, cw_3003, cw_3006, cw_4000, cw_5000, cw_6000, cw_7000, cw_8000, cw_9000, cw_10000, cw_13500, cw_17000, cw_17100, cw_17103, cw_17106, cw_19000, cw_20100, cw_21100, cw_23000, cw_24000, lc_13500, lc_15000, lc_16000, lc_17000, lc_17100, lc_17103, lc_17106, lc_19000, lc_20000, lc_20001, lc_20100, lc_21000, lc_21100, lc_22000, lc_23000, lc_24000, lc_25000, gd_t, w_eq, c_takeAt g1 c1, uq_s, q1, m8, q2, if_pos, if_neg]
        refine ⟨_, rfl, w (a + 1), ct1 N1 p i, _, rfl, ?_, ⟨_, rfl, cc, ((k1.uq (by rfl)).uq (by decide)).uq (by decide)⟩, g1.ct1, o1, x1, e1⟩
        unfold ctS at hf2
        simp only [q1, q2, up_s, true_and, false_and, and_true, and_false, if_true, if_false, ↓reduceIte, ↓Option.bind_some, Int.reduceEq, Int.reduceNe, Int.reduceLT, Int.reduceLE, gd_true, gd_false, bind_b, q10, eq_self, reduceCtorEq, not_true_eq_false, not_false_eq_true, ne_eq] at hf2
        exact hf2
  · rintro s ⟨a, N1, M, rfl, hf, hr, -⟩
    unfold b_X10_cutFrom_5
    simp (disch := omega) only [if_neg]
    refine ⟨_, rfl, ?_⟩
    unfold ct2
    rw [show (e + ((60 - e).toNat : Int) - e).toNat = (60 - e).toNat by omega] at hf
    rw [← hf]
    exact ⟨rfl, hr⟩
