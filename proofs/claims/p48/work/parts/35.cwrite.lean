/-! PURE PART, 35: what the class writes (messages, logs) -/
/-- the cells of the class that CC tells of and that calls write -/
def ccell (b j : Int) : Bool := (b == 5000 && (7 ≤ j && j ≤ 10)) || (b == 6000 && (j == 4 || j == 5)) || b == 20100 || (b == 8000 && (2 ≤ j && j ≤ 4)) || (b == 7000 && (1 ≤ j && j ≤ 4)) || (b == 10000 && (j == 5 || j == 6)) || (b == 11000 && (12 ≤ j && j ≤ 15))
def KP (C C' : Cd) : Prop := ∀ b i j, ccell b j = false → C' b i j = C b i j
theorem KP.rf {C : Cd} : KP C C := fun _ _ _ _ => rfl
theorem KP.tr {C C1 C2 : Cd} (h : KP C C1) (h2 : KP C1 C2) : KP C C2 := fun b i j h3 => (h2 b i j h3).trans (h b i j h3)
theorem KP.uq {C C1 : Cd} {b i j v : Int} (h : KP C C1) (h2 : ccell b j = true) : KP C (uq C1 b i j v) := fun b' i' j' h3 => by
  rw [uq_s, if_neg]
  · exact h b' i' j' h3
  · rintro ⟨rfl, -, rfl⟩
    rw [h2] at h3; cases h3
/-- the class's memory says now what N' says, the rest is as it was -/
def Rs (C : Cd) (N0 : Nd) (A : Ad) (N' : Nd) (M : Mm) : Prop := ∃ C', M = mk C' N0 A ∧ CC C' N' ∧ KP C C'
theorem Rs.rf {C : Cd} {N N0 : Nd} {A : Ad} (c : CC C N) : Rs C N0 A N (mk C N0 A) := ⟨C, rfl, c, KP.rf⟩
theorem Rs.tr {C C1 : Cd} {N' N0 : Nd} {A : Ad} {M : Mm} (h : KP C C1) (h2 : Rs C1 N0 A N' M) : Rs C N0 A N' M := by
  obtain ⟨C', h3, h4, h5⟩ := h2
  exact ⟨C', h3, h4, h.tr h5⟩
theorem CC.setLogP {C : Cd} {N : Nd} {p k v : Int} (h3 : 0 ≤ k) (h4 : k < 60) (hv : 0 ≤ v) (c : CC C N) : CC (uq C 20100 p k (5000 + v)) (up N 13018 (60 * p + k) v) := by
  have h := c.setLog (p := p) (v := v) h3 h4
  rw [if_neg (by omega)] at h
  exact h
theorem CC.setLog0 {C : Cd} {N : Nd} {p k : Int} (h3 : 0 ≤ k) (h4 : k < 60) (c : CC C N) : CC (uq C 20100 p k 0) (up N 13018 (60 * p + k) (-1)) := by
  have h := c.setLog (p := p) (v := -1) h3 h4
  rw [if_pos (by omega)] at h
  exact h
theorem c_append {C : Cd} {N N0 : Nd} {A : Ad} {m p t : Int} (g : RG N) (c : CC C N) (h1 : 0 ≤ m) (h2 : m < (N 12000 19)) (hp : p = N 13021 m) (ht : t = (N 12000 1)) (hl : 0 ≤ N 13013 p) (he : eol N p < 60) : Ok (p_X5_append (mk C N0 A) (6000 + p) (5000 + m) t) (Rs C N0 A (apN N m)) := by
  have s2 := g.s.2.1
  have s5 := g.s.2.2.2.2.1
  obtain ⟨-, a2, -⟩ := g.m m h1 h2
  rw [← hp] at a2
  obtain ⟨-, -, -, c4, c5, -⟩ := c.p p a2.1 a2.2
  obtain ⟨-, b2, -⟩ := g.p p a2.1 a2.2
  have lb := RP.lead g.t g.p a2.1 a2.2
  have eb := eol_b g.t g.p g.e a2.1 a2.2
  obtain ⟨-, -, r2, -⟩ := c.r p _ a2.1 a2.2 hl (by omega) b2.2
  have ee := eol_lead hl
  rw [← ee] at r2
  have n1 : ¬ N 13013 p < 0 := by omega
  have n2 : ¬ eol N p < 0 := by omega
  unfold p_X5_append
  simp (disch := omega) only [aok, up_s, true_and, false_and, and_true, and_false, if_true, if_false, ↓reduceIte, ↓Option.bind_some, Int.reduceEq, Int.reduceNe, Int.reduceLT, Int.reduceLE, gd_true, gd_false, bind_b, q10, eq_self, reduceCtorEq, not_true_eq_false, not_false_eq_true, ne_eq, cr_11000, cr_15000, cr_16000, cr_20000, cr_20001, cr_21000, cr_22000, cr_25000, cr_1000, cr_2000, cr_3000, cr_3003, cr_3006, cr_4000, cr_5000, cr_6000, cr_7000, cr_8000, cr_9000, cr_10000, cr_13500, cr_17000, cr_17100, cr_17103, cr_17106, cr_19000, cr_20100, cr_21100, cr_23000, cr_24000, cw_11000, cw_15000, cw_16000, cw_20000, cw_20001, cw_21000, cw_22000, cw_25000, cw_1000, cw_2000, cw_3000, cw_3003, cw_3006, cw_4000, cw_5000, cw_6000, cw_7000, cw_8000, cw_9000, cw_10000, cw_13500, cw_17000, cw_17100, cw_17103, cw_17106, cw_19000, cw_20100, cw_21100, cw_23000, cw_24000, lc_13500, lc_15000, lc_16000, lc_17000, lc_17100, lc_17103, lc_17106, lc_19000, lc_20000, lc_20001, lc_20100, lc_21000, lc_21100, lc_22000, lc_23000, lc_24000, lc_25000, gd_t, w_eq, uq_s, c5, c4, n1, n2, he, r2, if_neg]
  refine ⟨_, rfl, _, rfl, ?_, ?_⟩
  · unfold apN
    rw [← hp, ← ht]
    exact ((((c.setLogP eb.1 he h1).setState).setOffset).setTick).setEnd hl (by omega)
  · exact ((((KP.rf.uq (by rfl)).uq (by decide)).uq (by decide)).uq (by decide)).uq (by decide)
/-- how many messages are of a transaction -/
def cntO (N : Nd) (t : Int) (n : Nat) : Int := su (fun m => if N 13029 m = t then 1 else 0) 0 n
theorem c_settle {C : Cd} {N N0 : Nd} {A : Ad} {t k : Int} (g : RG N) (c : CC C N) : Ok (p_X10_settle (mk C N0 A) 11000 t k) (fun r => r.1 = cntO N t ((N 12000 19)).toNat ∧ Rs C N0 A (stO N t k ((N 12000 19))) r.2) := by
  have s5 := g.s.2.2.2.2.1
  have e5 : ((((N 12000 19)).toNat : Nat) : Int) = (N 12000 19) := by omega
  unfold p_X10_settle
  refine Ok.bnd (Q := fun r => r.1 = cntO N t ((N 12000 19)).toNat ∧ Rs C N0 A (stO N t k ((N 12000 19))) r.2) (lp_for (fun i s => s.1 = cntO N t i.toNat ∧ s.2.1 = i ∧ Rs C N0 A (stO N t k i) s.2.2) 0 ((N 12000 19)).toNat ?_ ?_ (by omega) ⟨rfl, rfl, by rw [stO_0]; exact Rs.rf c⟩) (fun r hr => Ok.ret hr)
  · rintro i ⟨a, j, M⟩ i1 i2 ⟨(ha : a = _), (hj : j = i), C1, (hM : M = _), c1, k1⟩
    subst ha; subst hj; subst hM
    have s1 : cntO N t (j + 1).toNat = cntO N t j.toNat + if N 13029 j = t then 1 else 0 := by
      rw [show (j + 1).toNat = j.toNat + 1 by omega]
      unfold cntO
      rw [su_S, show (0 : Int) + (j.toNat : Int) = j by omega]
    have b1 := @su_b (fun m => if N 13029 m = t then 1 else 0) 0 j.toNat 1 (fun _ _ _ => ite_b)
    have b2 : 0 ≤ cntO N t j.toNat ∧ cntO N t j.toNat ≤ 150 := by unfold cntO; omega
    obtain ⟨⟨-, -, -, -, b4, -⟩, -, -, -, -, b10, -⟩ := c1.b
    have b10' : C1 11000 0 10 = (N 12000 19) := b10
    have q := c1.msg i1 (show j < (N 12000 19) by omega) (by omega)
    obtain ⟨-, -, -, -, -, -, c6, -⟩ := c1.m j i1 (show j < (N 12000 19) by omega)
    have c6' : C1 5000 j 6 = N 13029 j := c6
    unfold b_X10_settle_5
    by_cases e : N 13029 j = t
    · simp (disch := omega) only [aok, up_s, true_and, false_and, and_true, and_false, if_true, if_false, ↓reduceIte, ↓Option.bind_some, Int.reduceEq, Int.reduceNe, Int.reduceLT, Int.reduceLE, gd_true, gd_false, bind_b, q10, eq_self, reduceCtorEq, not_true_eq_false, not_false_eq_true, ne_eq, cr_11000, cr_15000, cr_16000, cr_20000, cr_20001, cr_21000, cr_22000, cr_25000, cr_1000, cr_2000, cr_3000, cr_3003, cr_3006, cr_4000, cr_5000, cr_6000, cr_7000, cr_8000, cr_9000, cr_10000, cr_13500, cr_17000, cr_17100, cr_17103, cr_17106, cr_19000, cr_20100, cr_21100, cr_23000, cr_24000, cw_11000, cw_15000, cw_16000, cw_20000, cw_20001, cw_21000, cw_22000, cw_25000, cw_1000, cw_2000, cw_3000, cw_3003, cw_3006, cw_4000, cw_5000, cw_6000, cw_7000, cw_8000, cw_9000, cw_10000, cw_13500, cw_17000, cw_17100, cw_17103, cw_17106, cw_19000, cw_20100, cw_21100, cw_23000, cw_24000, lc_13500, lc_15000, lc_16000, lc_17000, lc_17100, lc_17103, lc_17106, lc_19000, lc_20000, lc_20001, lc_20100, lc_21000, lc_21100, lc_22000, lc_23000, lc_24000, lc_25000, gd_t, w_eq, b4, b10', q, c6', e, if_pos, if_neg]
      refine ⟨_, rfl, ?_⟩
      rw [if_pos e] at s1
      refine ⟨s1.symm, rfl, _, rfl, ?_, k1.uq (by decide)⟩
      rw [← stO_T i1 e]
      exact c1.setOf
    · simp (disch := omega) only [aok, up_s, true_and, false_and, and_true, and_false, if_true, if_false, ↓reduceIte, ↓Option.bind_some, Int.reduceEq, Int.reduceNe, Int.reduceLT, Int.reduceLE, gd_true, gd_false, bind_b, q10, eq_self, reduceCtorEq, not_true_eq_false, not_false_eq_true, ne_eq, cr_11000, cr_15000, cr_16000, cr_20000, cr_20001, cr_21000, cr_22000, cr_25000, cr_1000, cr_2000, cr_3000, cr_3003, cr_3006, cr_4000, cr_5000, cr_6000, cr_7000, cr_8000, cr_9000, cr_10000, cr_13500, cr_17000, cr_17100, cr_17103, cr_17106, cr_19000, cr_20100, cr_21100, cr_23000, cr_24000, cw_11000, cw_15000, cw_16000, cw_20000, cw_20001, cw_21000, cw_22000, cw_25000, cw_1000, cw_2000, cw_3000, cw_3003, cw_3006, cw_4000, cw_5000, cw_6000, cw_7000, cw_8000, cw_9000, cw_10000, cw_13500, cw_17000, cw_17100, cw_17103, cw_17106, cw_19000, cw_20100, cw_21100, cw_23000, cw_24000, lc_13500, lc_15000, lc_16000, lc_17000, lc_17100, lc_17103, lc_17106, lc_19000, lc_20000, lc_20001, lc_20100, lc_21000, lc_21100, lc_22000, lc_23000, lc_24000, lc_25000, gd_t, w_eq, b4, b10', q, c6', e, if_pos, if_neg]
      refine ⟨_, rfl, ?_⟩
      rw [if_neg e, Int.add_zero] at s1
      refine ⟨s1.symm, rfl, _, rfl, ?_, k1⟩
      rw [← stO_F e]
      exact c1
  · rintro ⟨a, j, M⟩ ⟨(ha : a = _), (hj : j = _), C1, (hM : M = _), c1, k1⟩
    subst ha; subst hj; subst hM
    obtain ⟨⟨-, -, -, -, b4, -⟩, -, -, -, -, b10, -⟩ := c1.b
    have b10' : C1 11000 0 10 = (N 12000 19) := b10
    unfold b_X10_settle_5
    simp (disch := omega) only [aok, up_s, true_and, false_and, and_true, and_false, if_true, if_false, ↓reduceIte, ↓Option.bind_some, Int.reduceEq, Int.reduceNe, Int.reduceLT, Int.reduceLE, gd_true, gd_false, bind_b, q10, eq_self, reduceCtorEq, not_true_eq_false, not_false_eq_true, ne_eq, cr_11000, cr_15000, cr_16000, cr_20000, cr_20001, cr_21000, cr_22000, cr_25000, cr_1000, cr_2000, cr_3000, cr_3003, cr_3006, cr_4000, cr_5000, cr_6000, cr_7000, cr_8000, cr_9000, cr_10000, cr_13500, cr_17000, cr_17100, cr_17103, cr_17106, cr_19000, cr_20100, cr_21100, cr_23000, cr_24000, cw_11000, cw_15000, cw_16000, cw_20000, cw_20001, cw_21000, cw_22000, cw_25000, cw_1000, cw_2000, cw_3000, cw_3003, cw_3006, cw_4000, cw_5000, cw_6000, cw_7000, cw_8000, cw_9000, cw_10000, cw_13500, cw_17000, cw_17100, cw_17103, cw_17106, cw_19000, cw_20100, cw_21100, cw_23000, cw_24000, lc_13500, lc_15000, lc_16000, lc_17000, lc_17100, lc_17103, lc_17106, lc_19000, lc_20000, lc_20001, lc_20100, lc_21000, lc_21100, lc_22000, lc_23000, lc_24000, lc_25000, gd_t, w_eq, b10', if_neg]
    refine ⟨_, rfl, ?_, ?_⟩
    · rw [show ((0 : Int) + (((N 12000 19)).toNat : Int)).toNat = ((N 12000 19)).toNat by omega]
    · rw [show ((0 : Int) + (((N 12000 19)).toNat : Int)) = (N 12000 19) by omega] at c1
      exact ⟨C1, rfl, c1, k1⟩
