/-! PURE PART, 42: in a tick: retention of a partition -/
/-- what stands in a log says so -/
def LM (N : Nd) : Prop := ∀ p k, 0 ≤ p → p < (N 12000 11) → 0 ≤ k → k < 60 → 0 ≤ N 13018 (60 * p + k) → N 13021 (N 13018 (60 * p + k)) = p ∧ N 13026 (N 13018 (60 * p + k)) = k ∧ (N 13024 (N 13018 (60 * p + k)) = 1 ∨ N 13024 (N 13018 (60 * p + k)) = 3)
/-- logs have no gaps -/
def FL (N : Nd) : Prop := ∀ p k, 0 ≤ p → p < (N 12000 11) → 0 ≤ k → k < 60 → (k < eol N p ↔ 0 ≤ N 13018 (60 * p + k))
/-- first offsets -/
def FI (N : Nd) : Prop := ∀ p, 0 ≤ p → p < (N 12000 11) → (N 14008 (N 13012 p) = 0 → ∀ k, 0 ≤ k → k < 60 → 0 ≤ N 13018 (60 * p + k) → (k < N 13015 p ↔ N 13024 (N 13018 (60 * p + k)) = 3)) ∧ (¬ N 14008 (N 13012 p) = 0 → N 13015 p = 0) ∧ N 13015 p ≤ so N p
theorem FI.nf {N : Nd} (h : FI N) : NF N := fun p k h1 h2 h3 h4 => by
  have h5 := (h p h1 h2).2.2
  unfold so at h5
  exact ff_no h3 (by omega)
theorem hw_le {N : Nd} {p r : Int} (h1 : 0 ≤ r) (h2 : r < 3) (h : bt (N 13014 p) r = true) : hw N p ≤ N 13016 (3 * p + r) := by
  have key : ∀ s b, hwS N p s b ≤ b := fun s b => by
    unfold hwS
    split
    · split <;> omega
    · omega
  have k2 : ∀ b, hwS N p r b ≤ N 13016 (3 * p + r) := fun b => by
    unfold hwS
    rw [if_pos h]
    split <;> omega
  have e : hw N p = hwS N p 2 (hwS N p 1 (hwS N p 0 60)) := rfl
  rw [e]
  have a2 := key 2 (hwS N p 1 (hwS N p 0 60))
  have a1 := key 1 (hwS N p 0 60)
  have e3 : r = 0 ∨ r = 1 ∨ r = 2 := by omega
  rcases e3 with e3 | e3 | e3
  · have := k2 60
    rw [e3] at this ⊢
    omega
  · have := k2 (hwS N p 0 60)
    rw [e3] at this ⊢
    omega
  · have := k2 (hwS N p 1 (hwS N p 0 60))
    rw [e3] at this ⊢
    omega
theorem hw_eol {N : Nd} {p : Int} (g : RG N) (l : LI N) (h1 : 0 ≤ p) (h2 : p < (N 12000 11)) : hw N p ≤ eol N p := by
  have lb := RP.lead g.t g.p h1 h2
  unfold eol
  by_cases e : N 13013 p < 0
  · rw [if_pos e]
    exact hw_le low_b.1 low_b.2 (low_in (g.p p h1 h2).2.2.2.2.2.2)
  · rw [if_neg e]
    exact hw_le (by omega) (by omega) ((l p h1 h2).1 (by omega))
theorem c_storedCount {C : Cd} {N N0 : Nd} {A : Ad} {p : Int} (g : RG N) (c : CC C N) (l : LI N) (fl : FL N) (fi : FI N) (h1 : 0 ≤ p) (h2 : p < (N 12000 11)) : p_X5_storedCount (mk C N0 A) (6000 + p) = some (sti N p) := by
  have s2 := g.s.2.1
  have s5 := g.s.2.2.2.2.1
  obtain ⟨-, -, -, -, -, c6⟩ := c.p p h1 h2
  obtain ⟨-, -, -, f1, -⟩ := g.p p h1 h2
  obtain ⟨i1, i2, i3⟩ := fi p h1 h2
  have eb := eol_b g.t g.p g.e h1 h2
  have sb := so_b g.e h1 h2
  have he := hw_eol g l h1 h2
  have z0 : su (fun k => if stA N p k then 1 else 0) 0 (N 13015 p).toNat = 0 := su_zero fun k k1 k2 => by
    rw [if_neg]
    rintro ⟨q1, q2⟩
    by_cases ec : N 14008 (N 13012 p) = 0
    · have := (i1 ec k k1 (by omega) q1).mp (by omega)
      omega
    · have := i2 ec
      omega
  have z1 : ∀ (n : Nat) (i0 : Int), eol N p ≤ i0 → 0 ≤ i0 → i0 + n ≤ 60 → su (fun k => if stA N p k then 1 else 0) i0 n = 0 := fun n i0 k1 k2 k3 => su_zero fun k k4 k5 => by
    rw [if_neg]
    rintro ⟨q1, q2⟩
    have := (fl p k h1 h2 (by omega) (by omega)).mpr q1
    omega
  have key : su (fun k => if stA N p k then 1 else 0) (N 13015 p) (eol N p - N 13015 p).toNat = sti N p := by
    unfold sti
    have e : 60 = (N 13015 p).toNat + ((eol N p - N 13015 p).toNat + (60 - eol N p).toNat) := by omega
    rw [e, su_add, su_add, z0, z1 _ _ (by omega) (by omega) (by omega)]
    rw [show (0 : Int) + ((N 13015 p).toNat : Int) = N 13015 p by omega]
    omega
  unfold p_X5_storedCount
  rw [c_logEnd g c h1 h2, Option.bind_some]
  simp (disch := omega) only [aok, up_s, true_and, false_and, and_true, and_false, if_true, if_false, ↓reduceIte, ↓Option.bind_some, Int.reduceEq, Int.reduceNe, Int.reduceLT, Int.reduceLE, gd_true, gd_false, bind_b, q10, eq_self, reduceCtorEq, not_true_eq_false, not_false_eq_true, ne_eq, cr_11000, cr_15000, cr_16000, cr_20000, cr_20001, cr_21000, cr_22000, cr_25000, cr_1000, cr_2000, cr_3000, cr_3003, cr_3006, cr_4000, cr_5000, cr_6000, cr_7000, cr_8000, cr_9000, cr_10000, cr_13500, cr_17000, cr_17100, cr_17103, cr_17106, cr_19000, cr_20100, cr_21100, cr_23000, cr_24000, cw_11000, cw_15000, cw_16000, cw_20000, cw_20001, cw_21000, cw_22000, cw_25000, cw_1000, cw_2000, cw_3000, cw_3003, cw_3006, cw_4000, cw_5000, cw_6000, cw_7000, cw_8000, cw_9000, cw_10000, cw_13500, cw_17000, cw_17100, cw_17103, cw_17106, cw_19000, cw_20100, cw_21100, cw_23000, cw_24000, lc_13500, lc_15000, lc_16000, lc_17000, lc_17100, lc_17103, lc_17106, lc_19000, lc_20000, lc_20001, lc_20100, lc_21000, lc_21100, lc_22000, lc_23000, lc_24000, lc_25000, gd_t, w_eq, c6]
  rw [lp_su (fun b i => (b, i)) (fun k => if stA N p k then 1 else 0) (N 13015 p) (eol N p - N 13015 p).toNat 1 (fun i _ _ => ite_b) (by omega) ?hS (t := sti N p) ?hE (by omega) rfl]
  · rfl
  case hS =>
    intro i a j1 j2 a1 a2
    have hs := c_storedAt (N0 := N0) (A := A) (k := i) g c h1 h2
    unfold b_X5_storedCount_12
    by_cases e : stA N p i
    · rw [if_pos e] at a2 ⊢
      have e2 : 0 ≤ i ∧ i < 60 ∧ stA N p i := ⟨by omega, by omega, e⟩
      rw [if_pos e2] at hs
      have e3 : 0 ≤ N 13018 (60 * p + i) := e.1
      simp (disch := omega) only [aok, up_s, true_and, false_and, and_true, and_false, if_true, if_false, ↓reduceIte, ↓Option.bind_some, Int.reduceEq, Int.reduceNe, Int.reduceLT, Int.reduceLE, gd_true, gd_false, bind_b, q10, eq_self, reduceCtorEq, not_true_eq_false, not_false_eq_true, ne_eq, cr_11000, cr_15000, cr_16000, cr_20000, cr_20001, cr_21000, cr_22000, cr_25000, cr_1000, cr_2000, cr_3000, cr_3003, cr_3006, cr_4000, cr_5000, cr_6000, cr_7000, cr_8000, cr_9000, cr_10000, cr_13500, cr_17000, cr_17100, cr_17103, cr_17106, cr_19000, cr_20100, cr_21100, cr_23000, cr_24000, cw_11000, cw_15000, cw_16000, cw_20000, cw_20001, cw_21000, cw_22000, cw_25000, cw_1000, cw_2000, cw_3000, cw_3003, cw_3006, cw_4000, cw_5000, cw_6000, cw_7000, cw_8000, cw_9000, cw_10000, cw_13500, cw_17000, cw_17100, cw_17103, cw_17106, cw_19000, cw_20100, cw_21100, cw_23000, cw_24000, lc_13500, lc_15000, lc_16000, lc_17000, lc_17100, lc_17103, lc_17106, lc_19000, lc_20000, lc_20001, lc_20100, lc_21000, lc_21100, lc_22000, lc_23000, lc_24000, lc_25000, gd_t, w_eq, hs, if_pos, if_neg]
    · rw [if_neg e]
      have e2 : ¬ (0 ≤ i ∧ i < 60 ∧ stA N p i) := fun z => e z.2.2
      rw [if_neg e2] at hs
      simp (disch := omega) only [aok, up_s, true_and, false_and, and_true, and_false, if_true, if_false, ↓reduceIte, ↓Option.bind_some, Int.reduceEq, Int.reduceNe, Int.reduceLT, Int.reduceLE, gd_true, gd_false, bind_b, q10, eq_self, reduceCtorEq, not_true_eq_false, not_false_eq_true, ne_eq, cr_11000, cr_15000, cr_16000, cr_20000, cr_20001, cr_21000, cr_22000, cr_25000, cr_1000, cr_2000, cr_3000, cr_3003, cr_3006, cr_4000, cr_5000, cr_6000, cr_7000, cr_8000, cr_9000, cr_10000, cr_13500, cr_17000, cr_17100, cr_17103, cr_17106, cr_19000, cr_20100, cr_21100, cr_23000, cr_24000, cw_11000, cw_15000, cw_16000, cw_20000, cw_20001, cw_21000, cw_22000, cw_25000, cw_1000, cw_2000, cw_3000, cw_3003, cw_3006, cw_4000, cw_5000, cw_6000, cw_7000, cw_8000, cw_9000, cw_10000, cw_13500, cw_17000, cw_17100, cw_17103, cw_17106, cw_19000, cw_20100, cw_21100, cw_23000, cw_24000, lc_13500, lc_15000, lc_16000, lc_17000, lc_17100, lc_17103, lc_17106, lc_19000, lc_20000, lc_20001, lc_20100, lc_21000, lc_21100, lc_22000, lc_23000, lc_24000, lc_25000, gd_t, w_eq, hs, if_pos, if_neg, Int.add_zero]
  case hE =>
    unfold b_X5_storedCount_12
    simp (disch := omega) only [if_neg]
    rw [key]
/-- the first message goes -/
abbrev lgC (N : Nd) (p : Int) : Prop := N 14008 (N 13012 p) = 0 ∧ N 13015 p < so N p ∧ (N 13010 (N 13012 p) < sti N p ∨ N 13009 (N 13012 p) < (N 12000 1) - N 13027 (N 13018 (60 * p + N 13015 p)))
def lg1 (N : Nd) (p : Int) : Nd := up (up N 13024 (N 13018 (60 * p + N 13015 p)) 3) 13015 p (N 13015 p + 1)
def lgF (p : Int) : Nat → Nd → Nd
  | 0, N => N
  | n + 1, N => if lgC N p then lgF p n (lg1 N p) else N
def lgN (N : Nd) (p : Int) : Nd := lgF p 60 N
def lgA (N : Nd) : Nd := fo (fun p N => lgN N p) 0 ((N 12000 11)).toNat N
/-- what holds while messages go -/
def JL (N : Nd) : Prop := RG N ∧ LI N ∧ LM N ∧ FL N ∧ FI N
theorem lg1_ar {N : Nd} {p a : Int} (h : a ≠ 13024) (h2 : a ≠ 13015) : lg1 N p a = N a := by
  funext j
  unfold lg1
  rw [up_s, if_neg (fun q => h2 q.1), up_s, if_neg (fun q => h q.1)]
theorem lgF_ar {a p : Int} (h : a ≠ 13024) (h2 : a ≠ 13015) : ∀ {n : Nat} {N : Nd}, lgF p n N a = N a
  | 0, N => rfl
  | n + 1, N => by
    unfold lgF
    split
    · rw [lgF_ar h h2, lg1_ar h h2]
    · rfl
theorem JL.lg1 {N : Nd} {p : Int} (j : JL N) (h1 : 0 ≤ p) (h2 : p < (N 12000 11)) (h : lgC N p) : JL (lg1 N p) ∧ sti (lg1 N p) p = sti N p - 1 := by
  obtain ⟨g, l, lm, fl, fi⟩ := j
  obtain ⟨i1, i2, i3⟩ := fi p h1 h2
  obtain ⟨-, -, -, f1, -⟩ := g.p p h1 h2
  have sb := so_b g.e h1 h2
  have hb := hw_b g.e h1 h2
  have he := hw_eol g l h1 h2
  have k0 := (fl p (N 13015 p) h1 h2 f1.1 (by omega)).mp (by omega)
  have lk := g.l p (N 13015 p) h1 h2 f1.1 (by omega)
  have m0 := lm p _ h1 h2 f1.1 (by omega) k0
  have uniq : ∀ q k, 0 ≤ q → q < (N 12000 11) → 0 ≤ k → k < 60 → 0 ≤ N 13018 (60 * q + k) → N 13018 (60 * q + k) = N 13018 (60 * p + N 13015 p) → q = p ∧ k = N 13015 p := fun q k q1 q2 q3 q4 q5 q6 => by
    have := lm q k q1 q2 q3 q4 q5
    rw [q6] at this
    exact ⟨this.1.symm.trans m0.1, this.2.1.symm.trans m0.2.1⟩
  have g1 : RG (Jvm.Pilot.@@N@@.lg1 N p) := by
    refine ⟨(g.upState (by omega)).s, (g.upState (m := N 13018 (60 * p + N 13015 p)) (v := 3) (by omega)).t, fun q q1 q2 => ?_, g.e, g.l, (g.upState (by omega)).m, g.x⟩
    obtain ⟨a1, a2, a3, a4, a5⟩ := g.p q q1 q2
    refine ⟨a1, a2, a3, ?_, a5⟩
    show 0 ≤ (if (13015 : Int) = 13015 ∧ q = p then N 13015 p + 1 else N 13015 q) ∧ (if (13015 : Int) = 13015 ∧ q = p then N 13015 p + 1 else N 13015 q) ≤ 60
    split <;> omega
  refine ⟨⟨g1, l, fun q k q1 q2 q3 q4 q5 => ?_, fl, fun q q1 q2 => ?_⟩, ?_⟩
  · have := lm q k q1 q2 q3 q4 q5
    refine ⟨this.1, this.2.1, ?_⟩
    show up N 13024 (N 13018 (60 * p + N 13015 p)) 3 13024 (N 13018 (60 * q + k)) = 1 ∨ up N 13024 (N 13018 (60 * p + N 13015 p)) 3 13024 (N 13018 (60 * q + k)) = 3
    rw [up_s]; split
    · exact Or.inr rfl
    · exact this.2.2
  · obtain ⟨b1, b2, b3⟩ := fi q q1 q2
    refine ⟨fun ec k k1 k2 k3 => ?_, fun ec => ?_, ?_⟩
    · have b4 := b1 ec k k1 k2 k3
      show k < (if (13015 : Int) = 13015 ∧ q = p then N 13015 p + 1 else N 13015 q) ↔ up N 13024 (N 13018 (60 * p + N 13015 p)) 3 13024 (N 13018 (60 * q + k)) = 3
      rw [up_s]
      by_cases e : N 13018 (60 * q + k) = N 13018 (60 * p + N 13015 p)
      · obtain ⟨rfl, rfl⟩ := uniq q k q1 q2 k1 k2 k3 e
        simp only [up_s, true_and, false_and, and_true, and_false, if_true, if_false, ↓reduceIte, ↓Option.bind_some, Int.reduceEq, Int.reduceNe, Int.reduceLT, Int.reduceLE, gd_true, gd_false, bind_b, q10, eq_self, reduceCtorEq, not_true_eq_false, not_false_eq_true, ne_eq]
        exact ⟨fun _ => trivial, fun _ => by omega⟩
      · rw [if_neg (fun z => e z.2)]
        by_cases e2 : q = p
        · subst e2
          simp only [up_s, true_and, false_and, and_true, and_false, if_true, if_false, ↓reduceIte, ↓Option.bind_some, Int.reduceEq, Int.reduceNe, Int.reduceLT, Int.reduceLE, gd_true, gd_false, bind_b, q10, eq_self, reduceCtorEq, not_true_eq_false, not_false_eq_true, ne_eq]
          rw [← b4]
          constructor
          · intro z
            by_cases e3 : k = N 13015 q
            · exact absurd (by rw [e3]) e
            · omega
          · intro z; omega
        · rw [if_neg (fun z => e2 z.2)]; exact b4
    · show (if (13015 : Int) = 13015 ∧ q = p then N 13015 p + 1 else N 13015 q) = 0
      rw [if_neg]
      · exact b2 ec
      · rintro ⟨-, rfl⟩
        exact ec h.1
    · show (if (13015 : Int) = 13015 ∧ q = p then N 13015 p + 1 else N 13015 q) ≤ so N q
      split
      · rename_i e
        rw [e.2]; have := h.2.1; omega
      · exact b3
  · unfold sti
    have e : 60 = (N 13015 p).toNat + (1 + (59 - N 13015 p).toNat) := by omega
    have same : ∀ k, 0 ≤ k → k < 60 → k ≠ N 13015 p → (if stA (Jvm.Pilot.@@N@@.lg1 N p) p k then (1 : Int) else 0) = if stA N p k then 1 else 0 := fun k k1 k2 k3 => by
      have e2 : stA (Jvm.Pilot.@@N@@.lg1 N p) p k ↔ stA N p k := by
        show (0 ≤ N 13018 (60 * p + k) ∧ up N 13024 (N 13018 (60 * p + N 13015 p)) 3 13024 (N 13018 (60 * p + k)) = 1) ↔ _
        rw [up_s]
        constructor
        · rintro ⟨z1, z2⟩
          refine ⟨z1, ?_⟩
          rw [if_neg (fun z => k3 (uniq p k h1 h2 k1 k2 z1 z.2).2)] at z2
          exact z2
        · rintro ⟨z1, z2⟩
          refine ⟨z1, ?_⟩
          rw [if_neg (fun z => k3 (uniq p k h1 h2 k1 k2 z1 z.2).2)]
          exact z2
      by_cases e3 : stA N p k
      · rw [if_pos e3, if_pos (e2.mpr e3)]
      · rw [if_neg e3, if_neg (fun z => e3 (e2.mp z))]
    rw [e, su_add, su_add, su_add, su_add]
    rw [su_congr (g := fun k => if stA (Jvm.Pilot.@@N@@.lg1 N p) p k then 1 else 0) (g' := fun k => if stA N p k then 1 else 0) (i0 := 0) (n := (N 13015 p).toNat) (fun k k1 k2 => same k k1 (by omega) (by omega)),
      su_congr (g := fun k => if stA (Jvm.Pilot.@@N@@.lg1 N p) p k then 1 else 0) (g' := fun k => if stA N p k then 1 else 0) (n := (59 - N 13015 p).toNat) (fun k k1 k2 => same k (by omega) (by omega) (by omega))]
    have o1 : su (fun k => if stA (Jvm.Pilot.@@N@@.lg1 N p) p k then 1 else 0) (0 + ((N 13015 p).toNat : Int)) 1 = 0 := by
      rw [su_S, su_0, if_neg]
      · rfl
      · rw [show (0 : Int) + ((N 13015 p).toNat : Int) + ((0 : Nat) : Int) = N 13015 p by omega]
        rintro ⟨-, z⟩
        have z' : up N 13024 (N 13018 (60 * p + N 13015 p)) 3 13024 (N 13018 (60 * p + N 13015 p)) = 1 := z
        rw [up_s, if_pos ⟨rfl, rfl⟩] at z'
        omega
    have o2 : su (fun k => if stA N p k then 1 else 0) (0 + ((N 13015 p).toNat : Int)) 1 = 1 := by
      rw [su_S, su_0, if_pos]
      · rfl
      · rw [show (0 : Int) + ((N 13015 p).toNat : Int) + ((0 : Nat) : Int) = N 13015 p by omega]
        refine ⟨k0, ?_⟩
        rcases m0.2.2 with z | z
        · exact z
        · have := (i1 h.1 _ f1.1 (by omega) k0).mpr z
          omega
    rw [o1, o2]
    omega
