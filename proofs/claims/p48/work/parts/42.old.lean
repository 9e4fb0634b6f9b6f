/-! PURE PART, 42: in a tick: retention of a partition -/
/-- what stands in a log says so -/
def LM (N : Nd) : Prop := ∀ p k, 0 ≤ p → p < (N 12000 11) → 0 ≤ k → k < 60 → 0 ≤ N 13018 (60 * p + k) → N 13021 (N 13018 (60 * p + k)) = p ∧ N 13026 (N 13018 (60 * p + k)) = k ∧ (N 13024 (N 13018 (60 * p + k)) = 1 ∨ N 13024 (N 13018 (60 * p + k)) = 3)
/-- logs have no gaps -/
def FL (N : Nd) : Prop := ∀ p k, 0 ≤ p → p < (N 12000 11) → 0 ≤ k → k < 60 → (k < eol N p ↔ 0 ≤ N 13018 (60 * p + k))
/-- first offsets -/
def FI (N : Nd) : Prop := ∀ p, 0 ≤ p → p < (N 12000 11) → (N 14008 (N 13012 p) = 0 → ∀ k, 0 ≤ k → k < 60 → 0 ≤ N 13018 (60 * p + k) → (k < N 13015 p ↔ N 13024 (N 13018 (60 * p + k)) = 3)) ∧ (¬ N 14008 (N 13012 p) = 0 → N 13015 p = 0) ∧ N 13015 p ≤ so N p
theorem FI.nf {N : Nd} (h : FI N) : NF N := fun p k h1 h2 h3 h4 => by
  have h5 := (h p h1 h2).2.2
  unfold so at h5
  exact ff_no (n := (hw N p).toNat) (i := 0) h3 (by omega)
theorem hw_le {N : Nd} {p r : Int} (h1 : 0 ≤ r) (h2 : r < 3) (h : bt (N 13014 p) r = true) : hw N p ≤ N 13016 (3 * p + r) := by
  have key : ∀ s b, hwS N p s b ≤ b := fun s b => by
    unfold hwS
    split
    · split <;> omega
    · omega
  have k2 : ∀ b, hwS N p r b ≤ N 13016 (3 * p + r) := fun b => by
    unfold hwS
    rw [if_pos h]
    split <;> omega
  have e : hw N p = hwS N p 2 (hwS N p 1 (hwS N p 0 60)) := rfl
  rw [e]
  have a2 := key 2 (hwS N p 1 (hwS N p 0 60))
  have a1 := key 1 (hwS N p 0 60)
  have e3 : r = 0 ∨ r = 1 ∨ r = 2 := by omega
  rcases e3 with e3 | e3 | e3
  · have := k2 60
    rw [e3] at this ⊢
    omega
  · have := k2 (hwS N p 0 60)
    rw [e3] at this ⊢
    omega
  · have := k2 (hwS N p 1 (hwS N p 0 60))
    rw [e3] at this ⊢
    omega
theorem hw_eol {N : Nd} {p : Int} (g : RG N) (l : LI N) (h1 : 0 ≤ p) (h2 : p < (N 12000 11)) : hw N p ≤ eol N p := by
  have lb := RP.lead g.t g.p h1 h2
  unfold eol
  by_cases e : N 13013 p < 0
  · rw [if_pos e]
    exact hw_le low_b.1 low_b.2 (low_in (g.p p h1 h2).2.2.2.2.2.2)
  · rw [if_neg e]
    exact hw_le (by omega) (by omega) ((l p h1 h2).1 (by omega))
theorem c_storedCount {C : Cd} {N N0 : Nd} {A : Ad} {p : Int} (g : RG N) (c : CC C N) (l : LI N) (fl : FL N) (fi : FI N) (h1 : 0 ≤ p) (h2 : p < (N 12000 11)) : p_X5_storedCount (mk C N0 A) (6000 + p) = some (sti N p) := by
  have s2 := g.s.2.1
  have s5 := g.s.2.2.2.2.1
  obtain ⟨-, -, -, -, -, c6⟩ := c.p p h1 h2
  obtain ⟨-, -, -, f1, -⟩ := g.p p h1 h2
  obtain ⟨i1, i2, i3⟩ := fi p h1 h2
  have eb := eol_b g.t g.p g.e h1 h2
  have sb := so_b g.e h1 h2
  have he := hw_eol g l h1 h2
  have z0 : su (fun k => if stA N p k then 1 else 0) 0 (N 13015 p).toNat = 0 := su_zero fun k k1 k2 => by
    rw [if_neg]
    rintro ⟨q1, q2⟩
    by_cases ec : N 14008 (N 13012 p) = 0
    · have := (i1 ec k k1 (by omega) q1).mp (by omega)
      omega
    · have := i2 ec
      omega
  have z1 : ∀ (n : Nat) (i0 : Int), eol N p ≤ i0 → 0 ≤ i0 → i0 + n ≤ 60 → su (fun k => if stA N p k then 1 else 0) i0 n = 0 := fun n i0 k1 k2 k3 => su_zero fun k k4 k5 => by
    rw [if_neg]
    rintro ⟨q1, q2⟩
    have := (fl p k h1 h2 (by omega) (by omega)).mpr q1
    omega
  have key : su (fun k => if stA N p k then 1 else 0) (N 13015 p) (eol N p - N 13015 p).toNat = sti N p := by
    unfold sti
    have e : 60 = (N 13015 p).toNat + ((eol N p - N 13015 p).toNat + (60 - eol N p).toNat) := by omega
    have z2 := z1 (60 - eol N p).toNat (0 + ((N 13015 p).toNat : Int) + ((eol N p - N 13015 p).toNat : Int)) (by omega) (by omega) (by omega)
    rw [e, su_add, su_add, z0, z2]
    rw [show (0 : Int) + ((N 13015 p).toNat : Int) = N 13015 p by omega]
    omega
  unfold p_X5_storedCount
  rw [c_logEnd g c h1 h2, Option.bind_some]
  simp (disch := omega) only [aok, up_s, true_and, false_and, and_true, and_false, if_true, if_false, ↓reduceIte, ↓Option.bind_some, Int.reduceEq, Int.reduceNe, Int.reduceLT, Int.reduceLE, gd_true, gd_false, bind_b, q10, eq_self, reduceCtorEq, not_true_eq_false, not_false_eq_true, ne_eq, cr_11000, cr_15000, cr_16000, cr_20000, cr_20001, cr_21000, cr_22000, cr_25000, cr_1000, cr_2000, cr_3000, cr_3003, cr_3006, cr_4000, cr_5000, cr_6000, cr_7000, cr_8000, cr_9000, cr_10000, cr_13500, cr_17000, cr_17100, cr_17103, cr_17106, cr_19000, cr_20100, cr_21100, cr_23000, cr_24000, cw_11000, cw_15000, cw_16000, cw_20000, cw_20001, cw_21000, cw_22000, cw_25000, cw_1000, cw_2000, cw_3000, cw_3003, cw_3006, cw_4000, cw_5000, cw_6000, cw_7000, cw_8000, cw_9000, cw_10000, cw_13500, cw_17000, cw_17100, cw_17103, cw_17106, cw_19000, cw_20100, cw_21100, cw_23000, cw_24000, lc_13500, lc_15000, lc_16000, lc_17000, lc_17100, lc_17103, lc_17106, lc_19000, lc_20000, lc_20001, lc_20100, lc_21000, lc_21100, lc_22000, lc_23000, lc_24000, lc_25000, gd_t, w_eq, c6]
  rw [lp_su (fun b i => (b, i)) (fun k => if stA N p k then 1 else 0) (N 13015 p) (eol N p - N 13015 p).toNat 1 (fun i _ _ => ite_b) (by omega) ?hS (t := sti N p) ?hE (by omega) rfl]
  · rfl
  case hS =>
    intro i a j1 j2 a1 a2
    have hs := c_storedAt (N0 := N0) (A := A) (k := i) g c h1 h2
    unfold b_X5_storedCount_12
    by_cases e : stA N p i
    · rw [if_pos e] at a2 ⊢
      have e2 : 0 ≤ i ∧ i < 60 ∧ stA N p i := ⟨by omega, by omega, e⟩
      rw [if_pos e2] at hs
      have e3 : 0 ≤ N 13018 (60 * p + i) := e.1
      simp (disch := omega) only [aok, up_s, true_and, false_and, and_true, and_false, if_true, if_false, ↓reduceIte, ↓Option.bind_some, Int.reduceEq, Int.reduceNe, Int.reduceLT, Int.reduceLE, gd_true, gd_false, bind_b, q10, eq_self, reduceCtorEq, not_true_eq_false, not_false_eq_true, ne_eq, cr_11000, cr_15000, cr_16000, cr_20000, cr_20001, cr_21000, cr_22000, cr_25000, cr_1000, cr_2000, cr_3000, cr_3003, cr_3006, cr_4000, cr_5000, cr_6000, cr_7000, cr_8000, cr_9000, cr_10000, cr_13500, cr_17000, cr_17100, cr_17103, cr_17106, cr_19000, cr_20100, cr_21100, cr_23000, cr_24000, cw_11000, cw_15000, cw_16000, cw_20000, cw_20001, cw_21000, cw_22000, cw_25000, cw_1000, cw_2000, cw_3000, cw_3003, cw_3006, cw_4000, cw_5000, cw_6000, cw_7000, cw_8000, cw_9000, cw_10000, cw_13500, cw_17000, cw_17100, cw_17103, cw_17106, cw_19000, cw_20100, cw_21100, cw_23000, cw_24000, lc_13500, lc_15000, lc_16000, lc_17000, lc_17100, lc_17103, lc_17106, lc_19000, lc_20000, lc_20001, lc_20100, lc_21000, lc_21100, lc_22000, lc_23000, lc_24000, lc_25000, gd_t, w_eq, hs, if_pos, if_neg]
    · rw [if_neg e]
      have e2 : ¬ (0 ≤ i ∧ i < 60 ∧ stA N p i) := fun z => e z.2.2
      rw [if_neg e2] at hs
      simp (disch := omega) only [aok, up_s, true_and, false_and, and_true, and_false, if_true, if_false, ↓reduceIte, ↓Option.bind_some, Int.reduceEq, Int.reduceNe, Int.reduceLT, Int.reduceLE, gd_true, gd_false, bind_b, q10, eq_self, reduceCtorEq, not_true_eq_false, not_false_eq_true, ne_eq, cr_11000, cr_15000, cr_16000, cr_20000, cr_20001, cr_21000, cr_22000, cr_25000, cr_1000, cr_2000, cr_3000, cr_3003, cr_3006, cr_4000, cr_5000, cr_6000, cr_7000, cr_8000, cr_9000, cr_10000, cr_13500, cr_17000, cr_17100, cr_17103, cr_17106, cr_19000, cr_20100, cr_21100, cr_23000, cr_24000, cw_11000, cw_15000, cw_16000, cw_20000, cw_20001, cw_21000, cw_22000, cw_25000, cw_1000, cw_2000, cw_3000, cw_3003, cw_3006, cw_4000, cw_5000, cw_6000, cw_7000, cw_8000, cw_9000, cw_10000, cw_13500, cw_17000, cw_17100, cw_17103, cw_17106, cw_19000, cw_20100, cw_21100, cw_23000, cw_24000, lc_13500, lc_15000, lc_16000, lc_17000, lc_17100, lc_17103, lc_17106, lc_19000, lc_20000, lc_20001, lc_20100, lc_21000, lc_21100, lc_22000, lc_23000, lc_24000, lc_25000, gd_t, w_eq, hs, if_pos, if_neg, Int.add_zero]
  case hE =>
    unfold b_X5_storedCount_12
    simp (disch := omega) only [if_neg]
    rw [key]
/-- the first message goes -/
abbrev lgC (N : Nd) (p : Int) : Prop := N 14008 (N 13012 p) = 0 ∧ N 13015 p < so N p ∧ (N 13010 (N 13012 p) < sti N p ∨ N 13009 (N 13012 p) < (N 12000 1) - N 13027 (N 13018 (60 * p + N 13015 p)))
def lg1 (N : Nd) (p : Int) : Nd := up (up N 13024 (N 13018 (60 * p + N 13015 p)) 3) 13015 p (N 13015 p + 1)
def lgF (p : Int) : Nat → Nd → Nd
  | 0, N => N
  | n + 1, N => if lgC N p then lgF p n (lg1 N p) else N
def lgN (N : Nd) (p : Int) : Nd := lgF p 60 N
def lgA (N : Nd) : Nd := fo (fun p N => lgN N p) 0 ((N 12000 11)).toNat N
/-- what holds while messages go -/
def JL (N : Nd) : Prop := RG N ∧ LI N ∧ LM N ∧ FL N ∧ FI N
theorem lg1_ar {N : Nd} {p a : Int} (h : a ≠ 13024) (h2 : a ≠ 13015) : lg1 N p a = N a := by
  funext j
  unfold lg1
  rw [up_s, if_neg (fun q => h2 q.1), up_s, if_neg (fun q => h q.1)]
theorem lgF_ar {a p : Int} (h : a ≠ 13024) (h2 : a ≠ 13015) : ∀ {n : Nat} {N : Nd}, lgF p n N a = N a
  | 0, N => rfl
  | n + 1, N => by
    unfold lgF
    split
    · rw [lgF_ar h h2, lg1_ar h h2]
    · rfl
theorem JL.lg1 {N : Nd} {p : Int} (j : JL N) (h1 : 0 ≤ p) (h2 : p < (N 12000 11)) (h : lgC N p) : JL (lg1 N p) ∧ sti (lg1 N p) p = sti N p - 1 := by
  obtain ⟨g, l, lm, fl, fi⟩ := j
  obtain ⟨i1, i2, i3⟩ := fi p h1 h2
  obtain ⟨-, -, -, f1, -⟩ := g.p p h1 h2
  have sb := so_b g.e h1 h2
  have hb := hw_b g.e h1 h2
  have he := hw_eol g l h1 h2
  have k0 := (fl p (N 13015 p) h1 h2 f1.1 (by omega)).mp (by omega)
  have lk := g.l p (N 13015 p) h1 h2 f1.1 (by omega)
  have m0 := lm p _ h1 h2 f1.1 (by omega) k0
  have uniq : ∀ q k, 0 ≤ q → q < (N 12000 11) → 0 ≤ k → k < 60 → 0 ≤ N 13018 (60 * q + k) → N 13018 (60 * q + k) = N 13018 (60 * p + N 13015 p) → q = p ∧ k = N 13015 p := fun q k q1 q2 q3 q4 q5 q6 => by
    have := lm q k q1 q2 q3 q4 q5
    rw [q6] at this
    exact ⟨this.1.symm.trans m0.1, this.2.1.symm.trans m0.2.1⟩
  have g1 : RG (Jvm.Pilot.@@N@@.lg1 N p) := by
    refine ⟨g.s, g.t, fun q q1 q2 => ?_, g.e, g.l, (g.upState (m := N 13018 (60 * p + N 13015 p)) (v := 3) (by omega)).m, g.x⟩
    obtain ⟨a1, a2, a3, a4, a5⟩ := g.p q q1 q2
    refine ⟨a1, a2, a3, ?_, a5⟩
    show 0 ≤ (if (13015 : Int) = 13015 ∧ q = p then N 13015 p + 1 else N 13015 q) ∧ (if (13015 : Int) = 13015 ∧ q = p then N 13015 p + 1 else N 13015 q) ≤ 60
    split <;> omega
  refine ⟨⟨g1, l, fun q k q1 q2 q3 q4 q5 => ?_, fl, fun q q1 q2 => ?_⟩, ?_⟩
  · have := lm q k q1 q2 q3 q4 q5
    refine ⟨this.1, this.2.1, ?_⟩
    show up N 13024 (N 13018 (60 * p + N 13015 p)) 3 13024 (N 13018 (60 * q + k)) = 1 ∨ up N 13024 (N 13018 (60 * p + N 13015 p)) 3 13024 (N 13018 (60 * q + k)) = 3
    rw [up_s]; split
    · exact Or.inr rfl
    · exact this.2.2
  · obtain ⟨b1, b2, b3⟩ := fi q q1 q2
    refine ⟨fun ec k k1 k2 k3 => ?_, fun ec => ?_, ?_⟩
    · have b4 := b1 ec k k1 k2 k3
      show k < (if (13015 : Int) = 13015 ∧ q = p then N 13015 p + 1 else N 13015 q) ↔ (if (13024 : Int) = 13024 ∧ N 13018 (60 * q + k) = N 13018 (60 * p + N 13015 p) then 3 else N 13024 (N 13018 (60 * q + k))) = 3
      by_cases e : N 13018 (60 * q + k) = N 13018 (60 * p + N 13015 p)
      · obtain ⟨rfl, rfl⟩ := uniq q k q1 q2 k1 k2 k3 e
        simp only [up_s, true_and, false_and, and_true, and_false, if_true, if_false, ↓reduceIte, ↓Option.bind_some, Int.reduceEq, Int.reduceNe, Int.reduceLT, Int.reduceLE, gd_true, gd_false, bind_b, q10, eq_self, reduceCtorEq, not_true_eq_false, not_false_eq_true, ne_eq]
        exact ⟨fun _ => trivial, fun _ => by omega⟩
      · by_cases e2 : q = p
        · subst e2
          simp only [e, up_s, true_and, false_and, and_true, and_false, if_true, if_false, ↓reduceIte, ↓Option.bind_some, Int.reduceEq, Int.reduceNe, Int.reduceLT, Int.reduceLE, gd_true, gd_false, bind_b, q10, eq_self, reduceCtorEq, not_true_eq_false, not_false_eq_true, ne_eq]
          rw [← b4]
          constructor
          · intro z
            by_cases e3 : k = N 13015 q
            · exact absurd (by rw [e3]) e
            · omega
          · intro z; omega
        · simp only [e, e2, up_s, true_and, false_and, and_true, and_false, if_true, if_false, ↓reduceIte, ↓Option.bind_some, Int.reduceEq, Int.reduceNe, Int.reduceLT, Int.reduceLE, gd_true, gd_false, bind_b, q10, eq_self, reduceCtorEq, not_true_eq_false, not_false_eq_true, ne_eq]; exact b4
    · show (if (13015 : Int) = 13015 ∧ q = p then N 13015 p + 1 else N 13015 q) = 0
      rw [if_neg]
      · exact b2 ec
      · rintro ⟨-, rfl⟩
        exact ec h.1
    · show (if (13015 : Int) = 13015 ∧ q = p then N 13015 p + 1 else N 13015 q) ≤ so N q
      split
      · rename_i e
        rw [e.2]; have := h.2.1; omega
      · exact b3
  · unfold sti
    have e : 60 = (N 13015 p).toNat + (1 + (59 - N 13015 p).toNat) := by omega
    have same : ∀ k, 0 ≤ k → k < 60 → k ≠ N 13015 p → (if stA (Jvm.Pilot.@@N@@.lg1 N p) p k then (1 : Int) else 0) = if stA N p k then 1 else 0 := fun k k1 k2 k3 => by
      have e2 : stA (Jvm.Pilot.@@N@@.lg1 N p) p k ↔ stA N p k := by
        show (0 ≤ N 13018 (60 * p + k) ∧ up N 13024 (N 13018 (60 * p + N 13015 p)) 3 13024 (N 13018 (60 * p + k)) = 1) ↔ _
        rw [up_s]
        constructor
        · rintro ⟨z1, z2⟩
          refine ⟨z1, ?_⟩
          rw [if_neg (fun z => k3 (uniq p k h1 h2 k1 k2 z1 z.2).2)] at z2
          exact z2
        · rintro ⟨z1, z2⟩
          refine ⟨z1, ?_⟩
          rw [if_neg (fun z => k3 (uniq p k h1 h2 k1 k2 z1 z.2).2)]
          exact z2
      by_cases e3 : stA N p k
      · rw [if_pos e3, if_pos (e2.mpr e3)]
      · rw [if_neg e3, if_neg (fun z => e3 (e2.mp z))]
    rw [e, su_add, su_add, su_add, su_add]
    rw [su_congr (g := fun k => if stA (Jvm.Pilot.@@N@@.lg1 N p) p k then 1 else 0) (g' := fun k => if stA N p k then 1 else 0) (i0 := 0) (n := (N 13015 p).toNat) (fun k k1 k2 => same k k1 (by omega) (by omega)),
      su_congr (g := fun k => if stA (Jvm.Pilot.@@N@@.lg1 N p) p k then 1 else 0) (g' := fun k => if stA N p k then 1 else 0) (n := (59 - N 13015 p).toNat) (fun k k1 k2 => same k (by omega) (by omega) (by omega))]
    have o1 : su (fun k => if stA (Jvm.Pilot.@@N@@.lg1 N p) p k then 1 else 0) (0 + ((N 13015 p).toNat : Int)) 1 = 0 := by
      rw [su_S, su_0, if_neg]
      · rfl
      · rw [show (0 : Int) + ((N 13015 p).toNat : Int) + ((0 : Nat) : Int) = N 13015 p by omega]
        rintro ⟨-, z⟩
        have z' : up N 13024 (N 13018 (60 * p + N 13015 p)) 3 13024 (N 13018 (60 * p + N 13015 p)) = 1 := z
        rw [up_s, if_pos ⟨rfl, rfl⟩] at z'
        omega
    have o2 : su (fun k => if stA N p k then 1 else 0) (0 + ((N 13015 p).toNat : Int)) 1 = 1 := by
      rw [su_S, su_0, if_pos]
      · rfl
      · rw [show (0 : Int) + ((N 13015 p).toNat : Int) + ((0 : Nat) : Int) = N 13015 p by omega]
        refine ⟨k0, ?_⟩
        rcases m0.2.2 with z | z
        · exact z
        · have := (i1 h.1 _ f1.1 (by omega) k0).mpr z
          omega
    rw [o1, o2]
    omega
theorem m_firstStored {C : Cd} {N : Nd} {A : Ad} {p : Int} (j : JL N) (h1 : 0 ≤ p) (h2 : p < (N 12000 11)) (hc : N 14008 (N 13012 p) = 0) : p_X11_firstStored (mk C N A) 12000 p = some (if N 13015 p < eol N p then N 13015 p else 60) := by
  obtain ⟨g, l, lm, fl, fi⟩ := j
  obtain ⟨i1, i2, i3⟩ := fi p h1 h2
  obtain ⟨-, -, -, f1, -⟩ := g.p p h1 h2
  have eb := eol_b g.t g.p g.e h1 h2
  have st : ∀ k, 0 ≤ k → k < 60 → (stA N p k ↔ N 13015 p ≤ k ∧ k < eol N p) := fun k k1 k2 => by
    constructor
    · rintro ⟨z1, z2⟩
      have a1 := i1 hc k k1 k2 z1
      exact ⟨by omega, (fl p k h1 h2 k1 k2).mpr z1⟩
    · rintro ⟨z1, z2⟩
      have z3 := (fl p k h1 h2 k1 k2).mp z2
      have a1 := i1 hc k k1 k2 z3
      have a2 := (lm p k h1 h2 k1 k2 z3).2.2
      exact ⟨z3, by omega⟩
  have fr : ff (fun k => decide (stA N p k)) 60 0 = if N 13015 p < eol N p then N 13015 p else 60 := by
    by_cases e : N 13015 p < eol N p
    · rw [if_pos e]
      exact ff_is (by omega) (by omega) (fun k k1 k2 => decide_eq_false fun z => by have := (st k k1 (by omega)).mp z; omega) (fun _ => decide_eq_true ((st _ (by omega) (by omega)).mpr ⟨by omega, e⟩))
    · rw [if_neg e]
      exact ff_is (by omega) (by omega) (fun k k1 k2 => decide_eq_false fun z => by have := (st k k1 (by omega)).mp z; omega) (fun z => by omega)
  have fb := @ff_b (fun k => decide (stA N p k)) 60 0
  unfold p_X11_firstStored
  have step : ∀ k, 0 ≤ k → k < 60 → b_X11_firstStored_2 (mk C N A) 12000 p k = if stA N p k then some (.inr (.inl k)) else some (.inl (k + 1)) := fun k k1 k2 => by
    have hs := @m_isStoredAt C N A p k g.s g.l h1 h2 k1 k2
    unfold b_X11_firstStored_2
    simp (disch := omega) only [aok, up_s, true_and, false_and, and_true, and_false, if_true, if_false, ↓reduceIte, ↓Option.bind_some, Int.reduceEq, Int.reduceNe, Int.reduceLT, Int.reduceLE, gd_true, gd_false, bind_b, q10, eq_self, reduceCtorEq, not_true_eq_false, not_false_eq_true, ne_eq, pt_0, pt_1, pt_2, pt_3, pt_4, pt_5, pt_6, pt_7, pt_8, pt_9, pt_10, pt_11, pt_12, pt_13, pt_14, pt_15, pt_16, pt_17, pt_18, pt_19, pt_20, pt_21, pt_22, pt_23, pt_24, pt_25, pt_26, pt_27, pt_28, pt_29, pt_30, pt_31, pt_32, pt_33, pt_34, pt_35, pt_36, pt_37, pt_38, pt_39, pt_40, pt_41, pt_42, pt_43, pt_44, pt_45, pt_46, pt_47, pt_48, pt_49, pt_50, pt_51, pt_52, pt_53, pt_54, pt_55, pt_56, pt_57, pt_58, pt_59, pt_60, pt_61, pt_62, pt_63, pt_64, pt_65, pt_66, pt_67, pa_13005, pw_13005, pa_13006, pw_13006, pa_13007, pw_13007, pa_14008, pw_14008, pa_13009, pw_13009, pa_13010, pw_13010, pa_13012, pw_13012, pa_13013, pw_13013, pa_13014, pw_13014, pa_13015, pw_13015, pa_13016, pw_13016, pa_13017, pw_13017, pa_13018, pw_13018, pa_13020, pw_13020, pa_13021, pw_13021, pa_13022, pw_13022, pa_13023, pw_13023, pa_13024, pw_13024, pa_13025, pw_13025, pa_13026, pw_13026, pa_13027, pw_13027, pa_13028, pw_13028, pa_13029, pw_13029, pa_13031, pw_13031, pa_13032, pw_13032, pa_13033, pw_13033, pa_14034, pw_14034, pa_13035, pw_13035, pa_13036, pw_13036, pa_13037, pw_13037, pa_13038, pw_13038, pa_13039, pw_13039, pa_13042, pw_13042, pa_13043, pw_13043, pa_13044, pw_13044, pa_13045, pw_13045, pa_13046, pw_13046, pa_13047, pw_13047, pa_13048, pw_13048, pa_13049, pw_13049, pa_13050, pw_13050, pa_13051, pw_13051, pa_13052, pw_13052, pa_13053, pw_13053, pa_13054, pw_13054, pa_13055, pw_13055, pa_13056, pw_13056, pa_13057, pw_13057, pa_13058, pw_13058, pa_13059, pw_13059, pa_13060, pw_13060, pa_13061, pw_13061, pa_13062, pw_13062, pa_13063, pw_13063, pa_13064, pw_13064, pa_13065, pw_13065, pa_13066, pw_13066, pa_13067, pw_13067, ps_0, ps_1, ps_2, ps_3, ps_4, ps_11, ps_19, ps_30, ps_40, ps_41, ln_13005, ln_13006, ln_13007, ln_14008, ln_13009, ln_13010, ln_13012, ln_13013, ln_13014, ln_13015, ln_13016, ln_13017, ln_13018, ln_13020, ln_13021, ln_13022, ln_13023, ln_13024, ln_13025, ln_13026, ln_13027, ln_13028, ln_13029, ln_13031, ln_13032, ln_13033, ln_14034, ln_13035, ln_13036, ln_13037, ln_13038, ln_13039, ln_13042, ln_13043, ln_13044, ln_13045, ln_13046, ln_13047, ln_13048, ln_13049, ln_13050, ln_13051, ln_13052, ln_13053, ln_13054, ln_13055, ln_13056, ln_13057, ln_13058, ln_13059, ln_13060, ln_13061, ln_13062, ln_13063, ln_13064, ln_13065, ln_13066, ln_13067, gd_t, w_eq, hs, k2]
  rw [lp_ff (fun i => i) (fun k => decide (stA N p k)) 60 0 (t := if ff (fun k => decide (stA N p k)) 60 0 < 60 then .inl (ff (fun k => decide (stA N p k)) 60 0) else .inr ()) (fun i j1 j2 hi => ?_) (fun g1 g2 => ?_) (fun g1 => ?_) (by omega) rfl]
  · rw [← fr]
    by_cases e : ff (fun k => decide (stA N p k)) 60 0 < 60
    · rw [if_pos e]; rfl
    · rw [if_neg e]
      show some (60 : Int) = _
      congr 1; omega
  · rw [step i j1 (by omega), if_neg (of_decide_eq_false hi)]
  · rw [step _ (by omega) (by omega), if_pos (of_decide_eq_true g2), if_pos (by omega)]
  · unfold b_X11_firstStored_2
    rw [if_neg (by omega), if_neg (by omega)]
theorem m_lets {C : Cd} {N : Nd} {A : Ad} {p k : Int} (g : RG N) (h1 : 0 ≤ p) (h2 : p < (N 12000 11)) (h3 : 0 ≤ k) (h4 : k < 60) (hk : 0 ≤ N 13018 (60 * p + k)) : p_X11_lets (mk C N A) 12000 p k = some (if N 13010 (N 13012 p) < sti N p ∨ N 13009 (N 13012 p) < (N 12000 1) - N 13027 (N 13018 (60 * p + k)) then 1 else 0) := by
  have s1 := g.s.1; have s2 := g.s.2.1
  have s5 := g.s.2.2.2.2.1
  have s8 := g.s.2.2.2.2.2.2.2.1
  obtain ⟨a1, -⟩ := g.p p h1 h2
  have lk := g.l p k h1 h2 h3 h4
  have mt := (g.m _ hk lk.2).2.2.2.2.2.2.1
  have hs := @m_storedIn C N A p g.s g.l h1 h2
  unfold p_X11_lets
  by_cases e1 : N 13010 (N 13012 p) < sti N p
  · simp (disch := omega) only [aok, up_s, true_and, false_and, and_true, and_false, if_true, if_false, ↓reduceIte, ↓Option.bind_some, Int.reduceEq, Int.reduceNe, Int.reduceLT, Int.reduceLE, gd_true, gd_false, bind_b, q10, eq_self, reduceCtorEq, not_true_eq_false, not_false_eq_true, ne_eq, pt_0, pt_1, pt_2, pt_3, pt_4, pt_5, pt_6, pt_7, pt_8, pt_9, pt_10, pt_11, pt_12, pt_13, pt_14, pt_15, pt_16, pt_17, pt_18, pt_19, pt_20, pt_21, pt_22, pt_23, pt_24, pt_25, pt_26, pt_27, pt_28, pt_29, pt_30, pt_31, pt_32, pt_33, pt_34, pt_35, pt_36, pt_37, pt_38, pt_39, pt_40, pt_41, pt_42, pt_43, pt_44, pt_45, pt_46, pt_47, pt_48, pt_49, pt_50, pt_51, pt_52, pt_53, pt_54, pt_55, pt_56, pt_57, pt_58, pt_59, pt_60, pt_61, pt_62, pt_63, pt_64, pt_65, pt_66, pt_67, pa_13005, pw_13005, pa_13006, pw_13006, pa_13007, pw_13007, pa_14008, pw_14008, pa_13009, pw_13009, pa_13010, pw_13010, pa_13012, pw_13012, pa_13013, pw_13013, pa_13014, pw_13014, pa_13015, pw_13015, pa_13016, pw_13016, pa_13017, pw_13017, pa_13018, pw_13018, pa_13020, pw_13020, pa_13021, pw_13021, pa_13022, pw_13022, pa_13023, pw_13023, pa_13024, pw_13024, pa_13025, pw_13025, pa_13026, pw_13026, pa_13027, pw_13027, pa_13028, pw_13028, pa_13029, pw_13029, pa_13031, pw_13031, pa_13032, pw_13032, pa_13033, pw_13033, pa_14034, pw_14034, pa_13035, pw_13035, pa_13036, pw_13036, pa_13037, pw_13037, pa_13038, pw_13038, pa_13039, pw_13039, pa_13042, pw_13042, pa_13043, pw_13043, pa_13044, pw_13044, pa_13045, pw_13045, pa_13046, pw_13046, pa_13047, pw_13047, pa_13048, pw_13048, pa_13049, pw_13049, pa_13050, pw_13050, pa_13051, pw_13051, pa_13052, pw_13052, pa_13053, pw_13053, pa_13054, pw_13054, pa_13055, pw_13055, pa_13056, pw_13056, pa_13057, pw_13057, pa_13058, pw_13058, pa_13059, pw_13059, pa_13060, pw_13060, pa_13061, pw_13061, pa_13062, pw_13062, pa_13063, pw_13063, pa_13064, pw_13064, pa_13065, pw_13065, pa_13066, pw_13066, pa_13067, pw_13067, ps_0, ps_1, ps_2, ps_3, ps_4, ps_11, ps_19, ps_30, ps_40, ps_41, ln_13005, ln_13006, ln_13007, ln_14008, ln_13009, ln_13010, ln_13012, ln_13013, ln_13014, ln_13015, ln_13016, ln_13017, ln_13018, ln_13020, ln_13021, ln_13022, ln_13023, ln_13024, ln_13025, ln_13026, ln_13027, ln_13028, ln_13029, ln_13031, ln_13032, ln_13033, ln_14034, ln_13035, ln_13036, ln_13037, ln_13038, ln_13039, ln_13042, ln_13043, ln_13044, ln_13045, ln_13046, ln_13047, ln_13048, ln_13049, ln_13050, ln_13051, ln_13052, ln_13053, ln_13054, ln_13055, ln_13056, ln_13057, ln_13058, ln_13059, ln_13060, ln_13061, ln_13062, ln_13063, ln_13064, ln_13065, ln_13066, ln_13067, gd_t, w_eq, hs, e1, true_or]
  · by_cases e2 : N 13009 (N 13012 p) < (N 12000 1) - N 13027 (N 13018 (60 * p + k))
    · simp (disch := omega) only [aok, up_s, true_and, false_and, and_true, and_false, if_true, if_false, ↓reduceIte, ↓Option.bind_some, Int.reduceEq, Int.reduceNe, Int.reduceLT, Int.reduceLE, gd_true, gd_false, bind_b, q10, eq_self, reduceCtorEq, not_true_eq_false, not_false_eq_true, ne_eq, pt_0, pt_1, pt_2, pt_3, pt_4, pt_5, pt_6, pt_7, pt_8, pt_9, pt_10, pt_11, pt_12, pt_13, pt_14, pt_15, pt_16, pt_17, pt_18, pt_19, pt_20, pt_21, pt_22, pt_23, pt_24, pt_25, pt_26, pt_27, pt_28, pt_29, pt_30, pt_31, pt_32, pt_33, pt_34, pt_35, pt_36, pt_37, pt_38, pt_39, pt_40, pt_41, pt_42, pt_43, pt_44, pt_45, pt_46, pt_47, pt_48, pt_49, pt_50, pt_51, pt_52, pt_53, pt_54, pt_55, pt_56, pt_57, pt_58, pt_59, pt_60, pt_61, pt_62, pt_63, pt_64, pt_65, pt_66, pt_67, pa_13005, pw_13005, pa_13006, pw_13006, pa_13007, pw_13007, pa_14008, pw_14008, pa_13009, pw_13009, pa_13010, pw_13010, pa_13012, pw_13012, pa_13013, pw_13013, pa_13014, pw_13014, pa_13015, pw_13015, pa_13016, pw_13016, pa_13017, pw_13017, pa_13018, pw_13018, pa_13020, pw_13020, pa_13021, pw_13021, pa_13022, pw_13022, pa_13023, pw_13023, pa_13024, pw_13024, pa_13025, pw_13025, pa_13026, pw_13026, pa_13027, pw_13027, pa_13028, pw_13028, pa_13029, pw_13029, pa_13031, pw_13031, pa_13032, pw_13032, pa_13033, pw_13033, pa_14034, pw_14034, pa_13035, pw_13035, pa_13036, pw_13036, pa_13037, pw_13037, pa_13038, pw_13038, pa_13039, pw_13039, pa_13042, pw_13042, pa_13043, pw_13043, pa_13044, pw_13044, pa_13045, pw_13045, pa_13046, pw_13046, pa_13047, pw_13047, pa_13048, pw_13048, pa_13049, pw_13049, pa_13050, pw_13050, pa_13051, pw_13051, pa_13052, pw_13052, pa_13053, pw_13053, pa_13054, pw_13054, pa_13055, pw_13055, pa_13056, pw_13056, pa_13057, pw_13057, pa_13058, pw_13058, pa_13059, pw_13059, pa_13060, pw_13060, pa_13061, pw_13061, pa_13062, pw_13062, pa_13063, pw_13063, pa_13064, pw_13064, pa_13065, pw_13065, pa_13066, pw_13066, pa_13067, pw_13067, ps_0, ps_1, ps_2, ps_3, ps_4, ps_11, ps_19, ps_30, ps_40, ps_41, ln_13005, ln_13006, ln_13007, ln_14008, ln_13009, ln_13010, ln_13012, ln_13013, ln_13014, ln_13015, ln_13016, ln_13017, ln_13018, ln_13020, ln_13021, ln_13022, ln_13023, ln_13024, ln_13025, ln_13026, ln_13027, ln_13028, ln_13029, ln_13031, ln_13032, ln_13033, ln_14034, ln_13035, ln_13036, ln_13037, ln_13038, ln_13039, ln_13042, ln_13043, ln_13044, ln_13045, ln_13046, ln_13047, ln_13048, ln_13049, ln_13050, ln_13051, ln_13052, ln_13053, ln_13054, ln_13055, ln_13056, ln_13057, ln_13058, ln_13059, ln_13060, ln_13061, ln_13062, ln_13063, ln_13064, ln_13065, ln_13066, ln_13067, gd_t, w_eq, hs, e1, e2, or_true]
    · simp (disch := omega) only [aok, up_s, true_and, false_and, and_true, and_false, if_true, if_false, ↓reduceIte, ↓Option.bind_some, Int.reduceEq, Int.reduceNe, Int.reduceLT, Int.reduceLE, gd_true, gd_false, bind_b, q10, eq_self, reduceCtorEq, not_true_eq_false, not_false_eq_true, ne_eq, pt_0, pt_1, pt_2, pt_3, pt_4, pt_5, pt_6, pt_7, pt_8, pt_9, pt_10, pt_11, pt_12, pt_13, pt_14, pt_15, pt_16, pt_17, pt_18, pt_19, pt_20, pt_21, pt_22, pt_23, pt_24, pt_25, pt_26, pt_27, pt_28, pt_29, pt_30, pt_31, pt_32, pt_33, pt_34, pt_35, pt_36, pt_37, pt_38, pt_39, pt_40, pt_41, pt_42, pt_43, pt_44, pt_45, pt_46, pt_47, pt_48, pt_49, pt_50, pt_51, pt_52, pt_53, pt_54, pt_55, pt_56, pt_57, pt_58, pt_59, pt_60, pt_61, pt_62, pt_63, pt_64, pt_65, pt_66, pt_67, pa_13005, pw_13005, pa_13006, pw_13006, pa_13007, pw_13007, pa_14008, pw_14008, pa_13009, pw_13009, pa_13010, pw_13010, pa_13012, pw_13012, pa_13013, pw_13013, pa_13014, pw_13014, pa_13015, pw_13015, pa_13016, pw_13016, pa_13017, pw_13017, pa_13018, pw_13018, pa_13020, pw_13020, pa_13021, pw_13021, pa_13022, pw_13022, pa_13023, pw_13023, pa_13024, pw_13024, pa_13025, pw_13025, pa_13026, pw_13026, pa_13027, pw_13027, pa_13028, pw_13028, pa_13029, pw_13029, pa_13031, pw_13031, pa_13032, pw_13032, pa_13033, pw_13033, pa_14034, pw_14034, pa_13035, pw_13035, pa_13036, pw_13036, pa_13037, pw_13037, pa_13038, pw_13038, pa_13039, pw_13039, pa_13042, pw_13042, pa_13043, pw_13043, pa_13044, pw_13044, pa_13045, pw_13045, pa_13046, pw_13046, pa_13047, pw_13047, pa_13048, pw_13048, pa_13049, pw_13049, pa_13050, pw_13050, pa_13051, pw_13051, pa_13052, pw_13052, pa_13053, pw_13053, pa_13054, pw_13054, pa_13055, pw_13055, pa_13056, pw_13056, pa_13057, pw_13057, pa_13058, pw_13058, pa_13059, pw_13059, pa_13060, pw_13060, pa_13061, pw_13061, pa_13062, pw_13062, pa_13063, pw_13063, pa_13064, pw_13064, pa_13065, pw_13065, pa_13066, pw_13066, pa_13067, pw_13067, ps_0, ps_1, ps_2, ps_3, ps_4, ps_11, ps_19, ps_30, ps_40, ps_41, ln_13005, ln_13006, ln_13007, ln_14008, ln_13009, ln_13010, ln_13012, ln_13013, ln_13014, ln_13015, ln_13016, ln_13017, ln_13018, ln_13020, ln_13021, ln_13022, ln_13023, ln_13024, ln_13025, ln_13026, ln_13027, ln_13028, ln_13029, ln_13031, ln_13032, ln_13033, ln_14034, ln_13035, ln_13036, ln_13037, ln_13038, ln_13039, ln_13042, ln_13043, ln_13044, ln_13045, ln_13046, ln_13047, ln_13048, ln_13049, ln_13050, ln_13051, ln_13052, ln_13053, ln_13054, ln_13055, ln_13056, ln_13057, ln_13058, ln_13059, ln_13060, ln_13061, ln_13062, ln_13063, ln_13064, ln_13065, ln_13066, ln_13067, gd_t, w_eq, hs, e1, e2, or_false]
theorem m_letGo1 {C : Cd} {A : Ad} {p : Int} {X : Int × Mm} (hX : X.1 = p) (h1 : 0 ≤ p) : ∀ (n : Nat) (N : Nd), JL N → p < (N 12000 11) → N 14008 (N 13012 p) = 0 → 60 - N 13015 p ≤ n → ∀ F : Nat, n < F → lp (b_X11_letGo_16 12000 X) F (if N 13015 p < eol N p then N 13015 p else 60, mk C N A) = some (mk C (lgF p n N) A) := by
  intro n
  induction n with
  | zero =>
    intro N j h2 hc hn F hF
    obtain ⟨F, rfl⟩ : ∃ G, F = G + 1 := ⟨F - 1, by omega⟩
    obtain ⟨g, l, lm, fl, fi⟩ := j
    have s1 := g.s.1; have s2 := g.s.2.1
    obtain ⟨a1, -⟩ := g.p p h1 h2
    have sb := so_b g.e h1 h2
    have hb := hw_b g.e h1 h2
    have eb := eol_b g.t g.p g.e h1 h2
    have hs := @m_stableOffset C N A p g.s g.e g.l h1 h2
    refine lp_end ?_
    have e2 : ¬ N 13015 p < eol N p := by omega
    have e3 : ¬ (60 : Int) < so N p := by omega
    rw [if_neg e2]
    unfold b_X11_letGo_16
    simp (disch := omega) only [aok, up_s, true_and, false_and, and_true, and_false, if_true, if_false, ↓reduceIte, ↓Option.bind_some, Int.reduceEq, Int.reduceNe, Int.reduceLT, Int.reduceLE, gd_true, gd_false, bind_b, q10, eq_self, reduceCtorEq, not_true_eq_false, not_false_eq_true, ne_eq, pt_0, pt_1, pt_2, pt_3, pt_4, pt_5, pt_6, pt_7, pt_8, pt_9, pt_10, pt_11, pt_12, pt_13, pt_14, pt_15, pt_16, pt_17, pt_18, pt_19, pt_20, pt_21, pt_22, pt_23, pt_24, pt_25, pt_26, pt_27, pt_28, pt_29, pt_30, pt_31, pt_32, pt_33, pt_34, pt_35, pt_36, pt_37, pt_38, pt_39, pt_40, pt_41, pt_42, pt_43, pt_44, pt_45, pt_46, pt_47, pt_48, pt_49, pt_50, pt_51, pt_52, pt_53, pt_54, pt_55, pt_56, pt_57, pt_58, pt_59, pt_60, pt_61, pt_62, pt_63, pt_64, pt_65, pt_66, pt_67, pa_13005, pw_13005, pa_13006, pw_13006, pa_13007, pw_13007, pa_14008, pw_14008, pa_13009, pw_13009, pa_13010, pw_13010, pa_13012, pw_13012, pa_13013, pw_13013, pa_13014, pw_13014, pa_13015, pw_13015, pa_13016, pw_13016, pa_13017, pw_13017, pa_13018, pw_13018, pa_13020, pw_13020, pa_13021, pw_13021, pa_13022, pw_13022, pa_13023, pw_13023, pa_13024, pw_13024, pa_13025, pw_13025, pa_13026, pw_13026, pa_13027, pw_13027, pa_13028, pw_13028, pa_13029, pw_13029, pa_13031, pw_13031, pa_13032, pw_13032, pa_13033, pw_13033, pa_14034, pw_14034, pa_13035, pw_13035, pa_13036, pw_13036, pa_13037, pw_13037, pa_13038, pw_13038, pa_13039, pw_13039, pa_13042, pw_13042, pa_13043, pw_13043, pa_13044, pw_13044, pa_13045, pw_13045, pa_13046, pw_13046, pa_13047, pw_13047, pa_13048, pw_13048, pa_13049, pw_13049, pa_13050, pw_13050, pa_13051, pw_13051, pa_13052, pw_13052, pa_13053, pw_13053, pa_13054, pw_13054, pa_13055, pw_13055, pa_13056, pw_13056, pa_13057, pw_13057, pa_13058, pw_13058, pa_13059, pw_13059, pa_13060, pw_13060, pa_13061, pw_13061, pa_13062, pw_13062, pa_13063, pw_13063, pa_13064, pw_13064, pa_13065, pw_13065, pa_13066, pw_13066, pa_13067, pw_13067, ps_0, ps_1, ps_2, ps_3, ps_4, ps_11, ps_19, ps_30, ps_40, ps_41, ln_13005, ln_13006, ln_13007, ln_14008, ln_13009, ln_13010, ln_13012, ln_13013, ln_13014, ln_13015, ln_13016, ln_13017, ln_13018, ln_13020, ln_13021, ln_13022, ln_13023, ln_13024, ln_13025, ln_13026, ln_13027, ln_13028, ln_13029, ln_13031, ln_13032, ln_13033, ln_14034, ln_13035, ln_13036, ln_13037, ln_13038, ln_13039, ln_13042, ln_13043, ln_13044, ln_13045, ln_13046, ln_13047, ln_13048, ln_13049, ln_13050, ln_13051, ln_13052, ln_13053, ln_13054, ln_13055, ln_13056, ln_13057, ln_13058, ln_13059, ln_13060, ln_13061, ln_13062, ln_13063, ln_13064, ln_13065, ln_13066, ln_13067, gd_t, w_eq, hX, hc, hs, e3]
    rfl
  | succ n ih =>
    intro N j h2 hc hn F hF
    obtain ⟨F, rfl⟩ : ∃ G, F = G + 1 := ⟨F - 1, by omega⟩
    have j0 := j
    obtain ⟨g, l, lm, fl, fi⟩ := j
    obtain ⟨i1, i2, i3⟩ := fi p h1 h2
    have s1 := g.s.1; have s2 := g.s.2.1
    have s5 := g.s.2.2.2.2.1
    obtain ⟨a1, -, -, f1, -⟩ := g.p p h1 h2
    have sb := so_b g.e h1 h2
    have hb := hw_b g.e h1 h2
    have eb := eol_b g.t g.p g.e h1 h2
    have he := hw_eol g l h1 h2
    have hs := @m_stableOffset C N A p g.s g.e g.l h1 h2
    unfold lgF
    by_cases e1 : N 13015 p < so N p
    · have e2 : N 13015 p < eol N p := by omega
      have k0 := (fl p (N 13015 p) h1 h2 f1.1 (by omega)).mp e2
      have lk := g.l p (N 13015 p) h1 h2 f1.1 (by omega)
      have hl := @m_lets C N A p (N 13015 p) g h1 h2 f1.1 (by omega) k0
      rw [if_pos e2]
      by_cases e3 : N 13010 (N 13012 p) < sti N p ∨ N 13009 (N 13012 p) < (N 12000 1) - N 13027 (N 13018 (60 * p + N 13015 p))
      · have hC : lgC N p := ⟨hc, e1, e3⟩
        have jj := (j0.lg1 h1 h2 hC).1
        have hfs := @m_firstStored C (lg1 N p) A p jj h1 h2 hc
        have pf : lg1 N p 13015 p = N 13015 p + 1 := by unfold lg1; simp only [up_s, up_s, true_and, false_and, and_true, and_false, if_true, if_false, ↓reduceIte, ↓Option.bind_some, Int.reduceEq, Int.reduceNe, Int.reduceLT, Int.reduceLE, gd_true, gd_false, bind_b, q10, eq_self, reduceCtorEq, not_true_eq_false, not_false_eq_true, ne_eq]
        have hi := ih (lg1 N p) jj h2 hc (by rw [pf]; omega) F (by omega)
        rw [if_pos hC, ← hi]
        refine lp_next ?_
        rw [if_pos e3] at hl
        unfold b_X11_letGo_16
        unfold lg1 at hfs ⊢
        simp (disch := omega) only [aok, up_s, true_and, false_and, and_true, and_false, if_true, if_false, ↓reduceIte, ↓Option.bind_some, Int.reduceEq, Int.reduceNe, Int.reduceLT, Int.reduceLE, gd_true, gd_false, bind_b, q10, eq_self, reduceCtorEq, not_true_eq_false, not_false_eq_true, ne_eq, pt_0, pt_1, pt_2, pt_3, pt_4, pt_5, pt_6, pt_7, pt_8, pt_9, pt_10, pt_11, pt_12, pt_13, pt_14, pt_15, pt_16, pt_17, pt_18, pt_19, pt_20, pt_21, pt_22, pt_23, pt_24, pt_25, pt_26, pt_27, pt_28, pt_29, pt_30, pt_31, pt_32, pt_33, pt_34, pt_35, pt_36, pt_37, pt_38, pt_39, pt_40, pt_41, pt_42, pt_43, pt_44, pt_45, pt_46, pt_47, pt_48, pt_49, pt_50, pt_51, pt_52, pt_53, pt_54, pt_55, pt_56, pt_57, pt_58, pt_59, pt_60, pt_61, pt_62, pt_63, pt_64, pt_65, pt_66, pt_67, pa_13005, pw_13005, pa_13006, pw_13006, pa_13007, pw_13007, pa_14008, pw_14008, pa_13009, pw_13009, pa_13010, pw_13010, pa_13012, pw_13012, pa_13013, pw_13013, pa_13014, pw_13014, pa_13015, pw_13015, pa_13016, pw_13016, pa_13017, pw_13017, pa_13018, pw_13018, pa_13020, pw_13020, pa_13021, pw_13021, pa_13022, pw_13022, pa_13023, pw_13023, pa_13024, pw_13024, pa_13025, pw_13025, pa_13026, pw_13026, pa_13027, pw_13027, pa_13028, pw_13028, pa_13029, pw_13029, pa_13031, pw_13031, pa_13032, pw_13032, pa_13033, pw_13033, pa_14034, pw_14034, pa_13035, pw_13035, pa_13036, pw_13036, pa_13037, pw_13037, pa_13038, pw_13038, pa_13039, pw_13039, pa_13042, pw_13042, pa_13043, pw_13043, pa_13044, pw_13044, pa_13045, pw_13045, pa_13046, pw_13046, pa_13047, pw_13047, pa_13048, pw_13048, pa_13049, pw_13049, pa_13050, pw_13050, pa_13051, pw_13051, pa_13052, pw_13052, pa_13053, pw_13053, pa_13054, pw_13054, pa_13055, pw_13055, pa_13056, pw_13056, pa_13057, pw_13057, pa_13058, pw_13058, pa_13059, pw_13059, pa_13060, pw_13060, pa_13061, pw_13061, pa_13062, pw_13062, pa_13063, pw_13063, pa_13064, pw_13064, pa_13065, pw_13065, pa_13066, pw_13066, pa_13067, pw_13067, ps_0, ps_1, ps_2, ps_3, ps_4, ps_11, ps_19, ps_30, ps_40, ps_41, ln_13005, ln_13006, ln_13007, ln_14008, ln_13009, ln_13010, ln_13012, ln_13013, ln_13014, ln_13015, ln_13016, ln_13017, ln_13018, ln_13020, ln_13021, ln_13022, ln_13023, ln_13024, ln_13025, ln_13026, ln_13027, ln_13028, ln_13029, ln_13031, ln_13032, ln_13033, ln_14034, ln_13035, ln_13036, ln_13037, ln_13038, ln_13039, ln_13042, ln_13043, ln_13044, ln_13045, ln_13046, ln_13047, ln_13048, ln_13049, ln_13050, ln_13051, ln_13052, ln_13053, ln_13054, ln_13055, ln_13056, ln_13057, ln_13058, ln_13059, ln_13060, ln_13061, ln_13062, ln_13063, ln_13064, ln_13065, ln_13066, ln_13067, gd_t, w_eq, hX, hc, hs, hl, e1, hfs]
      · have hC : ¬ lgC N p := fun z => e3 z.2.2
        rw [if_neg hC]
        refine lp_end ?_
        rw [if_neg e3] at hl
        unfold b_X11_letGo_16
        simp (disch := omega) only [aok, up_s, true_and, false_and, and_true, and_false, if_true, if_false, ↓reduceIte, ↓Option.bind_some, Int.reduceEq, Int.reduceNe, Int.reduceLT, Int.reduceLE, gd_true, gd_false, bind_b, q10, eq_self, reduceCtorEq, not_true_eq_false, not_false_eq_true, ne_eq, pt_0, pt_1, pt_2, pt_3, pt_4, pt_5, pt_6, pt_7, pt_8, pt_9, pt_10, pt_11, pt_12, pt_13, pt_14, pt_15, pt_16, pt_17, pt_18, pt_19, pt_20, pt_21, pt_22, pt_23, pt_24, pt_25, pt_26, pt_27, pt_28, pt_29, pt_30, pt_31, pt_32, pt_33, pt_34, pt_35, pt_36, pt_37, pt_38, pt_39, pt_40, pt_41, pt_42, pt_43, pt_44, pt_45, pt_46, pt_47, pt_48, pt_49, pt_50, pt_51, pt_52, pt_53, pt_54, pt_55, pt_56, pt_57, pt_58, pt_59, pt_60, pt_61, pt_62, pt_63, pt_64, pt_65, pt_66, pt_67, pa_13005, pw_13005, pa_13006, pw_13006, pa_13007, pw_13007, pa_14008, pw_14008, pa_13009, pw_13009, pa_13010, pw_13010, pa_13012, pw_13012, pa_13013, pw_13013, pa_13014, pw_13014, pa_13015, pw_13015, pa_13016, pw_13016, pa_13017, pw_13017, pa_13018, pw_13018, pa_13020, pw_13020, pa_13021, pw_13021, pa_13022, pw_13022, pa_13023, pw_13023, pa_13024, pw_13024, pa_13025, pw_13025, pa_13026, pw_13026, pa_13027, pw_13027, pa_13028, pw_13028, pa_13029, pw_13029, pa_13031, pw_13031, pa_13032, pw_13032, pa_13033, pw_13033, pa_14034, pw_14034, pa_13035, pw_13035, pa_13036, pw_13036, pa_13037, pw_13037, pa_13038, pw_13038, pa_13039, pw_13039, pa_13042, pw_13042, pa_13043, pw_13043, pa_13044, pw_13044, pa_13045, pw_13045, pa_13046, pw_13046, pa_13047, pw_13047, pa_13048, pw_13048, pa_13049, pw_13049, pa_13050, pw_13050, pa_13051, pw_13051, pa_13052, pw_13052, pa_13053, pw_13053, pa_13054, pw_13054, pa_13055, pw_13055, pa_13056, pw_13056, pa_13057, pw_13057, pa_13058, pw_13058, pa_13059, pw_13059, pa_13060, pw_13060, pa_13061, pw_13061, pa_13062, pw_13062, pa_13063, pw_13063, pa_13064, pw_13064, pa_13065, pw_13065, pa_13066, pw_13066, pa_13067, pw_13067, ps_0, ps_1, ps_2, ps_3, ps_4, ps_11, ps_19, ps_30, ps_40, ps_41, ln_13005, ln_13006, ln_13007, ln_14008, ln_13009, ln_13010, ln_13012, ln_13013, ln_13014, ln_13015, ln_13016, ln_13017, ln_13018, ln_13020, ln_13021, ln_13022, ln_13023, ln_13024, ln_13025, ln_13026, ln_13027, ln_13028, ln_13029, ln_13031, ln_13032, ln_13033, ln_14034, ln_13035, ln_13036, ln_13037, ln_13038, ln_13039, ln_13042, ln_13043, ln_13044, ln_13045, ln_13046, ln_13047, ln_13048, ln_13049, ln_13050, ln_13051, ln_13052, ln_13053, ln_13054, ln_13055, ln_13056, ln_13057, ln_13058, ln_13059, ln_13060, ln_13061, ln_13062, ln_13063, ln_13064, ln_13065, ln_13066, ln_13067, gd_t, w_eq, hX, hc, hs, hl, e1]
    · have hC : ¬ lgC N p := fun z => e1 z.2.1
      rw [if_neg hC]
      refine lp_end ?_
      by_cases e2 : N 13015 p < eol N p
      · rw [if_pos e2]
        unfold b_X11_letGo_16
        simp (disch := omega) only [aok, up_s, true_and, false_and, and_true, and_false, if_true, if_false, ↓reduceIte, ↓Option.bind_some, Int.reduceEq, Int.reduceNe, Int.reduceLT, Int.reduceLE, gd_true, gd_false, bind_b, q10, eq_self, reduceCtorEq, not_true_eq_false, not_false_eq_true, ne_eq, pt_0, pt_1, pt_2, pt_3, pt_4, pt_5, pt_6, pt_7, pt_8, pt_9, pt_10, pt_11, pt_12, pt_13, pt_14, pt_15, pt_16, pt_17, pt_18, pt_19, pt_20, pt_21, pt_22, pt_23, pt_24, pt_25, pt_26, pt_27, pt_28, pt_29, pt_30, pt_31, pt_32, pt_33, pt_34, pt_35, pt_36, pt_37, pt_38, pt_39, pt_40, pt_41, pt_42, pt_43, pt_44, pt_45, pt_46, pt_47, pt_48, pt_49, pt_50, pt_51, pt_52, pt_53, pt_54, pt_55, pt_56, pt_57, pt_58, pt_59, pt_60, pt_61, pt_62, pt_63, pt_64, pt_65, pt_66, pt_67, pa_13005, pw_13005, pa_13006, pw_13006, pa_13007, pw_13007, pa_14008, pw_14008, pa_13009, pw_13009, pa_13010, pw_13010, pa_13012, pw_13012, pa_13013, pw_13013, pa_13014, pw_13014, pa_13015, pw_13015, pa_13016, pw_13016, pa_13017, pw_13017, pa_13018, pw_13018, pa_13020, pw_13020, pa_13021, pw_13021, pa_13022, pw_13022, pa_13023, pw_13023, pa_13024, pw_13024, pa_13025, pw_13025, pa_13026, pw_13026, pa_13027, pw_13027, pa_13028, pw_13028, pa_13029, pw_13029, pa_13031, pw_13031, pa_13032, pw_13032, pa_13033, pw_13033, pa_14034, pw_14034, pa_13035, pw_13035, pa_13036, pw_13036, pa_13037, pw_13037, pa_13038, pw_13038, pa_13039, pw_13039, pa_13042, pw_13042, pa_13043, pw_13043, pa_13044, pw_13044, pa_13045, pw_13045, pa_13046, pw_13046, pa_13047, pw_13047, pa_13048, pw_13048, pa_13049, pw_13049, pa_13050, pw_13050, pa_13051, pw_13051, pa_13052, pw_13052, pa_13053, pw_13053, pa_13054, pw_13054, pa_13055, pw_13055, pa_13056, pw_13056, pa_13057, pw_13057, pa_13058, pw_13058, pa_13059, pw_13059, pa_13060, pw_13060, pa_13061, pw_13061, pa_13062, pw_13062, pa_13063, pw_13063, pa_13064, pw_13064, pa_13065, pw_13065, pa_13066, pw_13066, pa_13067, pw_13067, ps_0, ps_1, ps_2, ps_3, ps_4, ps_11, ps_19, ps_30, ps_40, ps_41, ln_13005, ln_13006, ln_13007, ln_14008, ln_13009, ln_13010, ln_13012, ln_13013, ln_13014, ln_13015, ln_13016, ln_13017, ln_13018, ln_13020, ln_13021, ln_13022, ln_13023, ln_13024, ln_13025, ln_13026, ln_13027, ln_13028, ln_13029, ln_13031, ln_13032, ln_13033, ln_14034, ln_13035, ln_13036, ln_13037, ln_13038, ln_13039, ln_13042, ln_13043, ln_13044, ln_13045, ln_13046, ln_13047, ln_13048, ln_13049, ln_13050, ln_13051, ln_13052, ln_13053, ln_13054, ln_13055, ln_13056, ln_13057, ln_13058, ln_13059, ln_13060, ln_13061, ln_13062, ln_13063, ln_13064, ln_13065, ln_13066, ln_13067, gd_t, w_eq, hX, hc, hs, e1]
      · have e3 : ¬ (60 : Int) < so N p := by omega
        rw [if_neg e2]
        unfold b_X11_letGo_16
        simp (disch := omega) only [aok, up_s, true_and, false_and, and_true, and_false, if_true, if_false, ↓reduceIte, ↓Option.bind_some, Int.reduceEq, Int.reduceNe, Int.reduceLT, Int.reduceLE, gd_true, gd_false, bind_b, q10, eq_self, reduceCtorEq, not_true_eq_false, not_false_eq_true, ne_eq, pt_0, pt_1, pt_2, pt_3, pt_4, pt_5, pt_6, pt_7, pt_8, pt_9, pt_10, pt_11, pt_12, pt_13, pt_14, pt_15, pt_16, pt_17, pt_18, pt_19, pt_20, pt_21, pt_22, pt_23, pt_24, pt_25, pt_26, pt_27, pt_28, pt_29, pt_30, pt_31, pt_32, pt_33, pt_34, pt_35, pt_36, pt_37, pt_38, pt_39, pt_40, pt_41, pt_42, pt_43, pt_44, pt_45, pt_46, pt_47, pt_48, pt_49, pt_50, pt_51, pt_52, pt_53, pt_54, pt_55, pt_56, pt_57, pt_58, pt_59, pt_60, pt_61, pt_62, pt_63, pt_64, pt_65, pt_66, pt_67, pa_13005, pw_13005, pa_13006, pw_13006, pa_13007, pw_13007, pa_14008, pw_14008, pa_13009, pw_13009, pa_13010, pw_13010, pa_13012, pw_13012, pa_13013, pw_13013, pa_13014, pw_13014, pa_13015, pw_13015, pa_13016, pw_13016, pa_13017, pw_13017, pa_13018, pw_13018, pa_13020, pw_13020, pa_13021, pw_13021, pa_13022, pw_13022, pa_13023, pw_13023, pa_13024, pw_13024, pa_13025, pw_13025, pa_13026, pw_13026, pa_13027, pw_13027, pa_13028, pw_13028, pa_13029, pw_13029, pa_13031, pw_13031, pa_13032, pw_13032, pa_13033, pw_13033, pa_14034, pw_14034, pa_13035, pw_13035, pa_13036, pw_13036, pa_13037, pw_13037, pa_13038, pw_13038, pa_13039, pw_13039, pa_13042, pw_13042, pa_13043, pw_13043, pa_13044, pw_13044, pa_13045, pw_13045, pa_13046, pw_13046, pa_13047, pw_13047, pa_13048, pw_13048, pa_13049, pw_13049, pa_13050, pw_13050, pa_13051, pw_13051, pa_13052, pw_13052, pa_13053, pw_13053, pa_13054, pw_13054, pa_13055, pw_13055, pa_13056, pw_13056, pa_13057, pw_13057, pa_13058, pw_13058, pa_13059, pw_13059, pa_13060, pw_13060, pa_13061, pw_13061, pa_13062, pw_13062, pa_13063, pw_13063, pa_13064, pw_13064, pa_13065, pw_13065, pa_13066, pw_13066, pa_13067, pw_13067, ps_0, ps_1, ps_2, ps_3, ps_4, ps_11, ps_19, ps_30, ps_40, ps_41, ln_13005, ln_13006, ln_13007, ln_14008, ln_13009, ln_13010, ln_13012, ln_13013, ln_13014, ln_13015, ln_13016, ln_13017, ln_13018, ln_13020, ln_13021, ln_13022, ln_13023, ln_13024, ln_13025, ln_13026, ln_13027, ln_13028, ln_13029, ln_13031, ln_13032, ln_13033, ln_14034, ln_13035, ln_13036, ln_13037, ln_13038, ln_13039, ln_13042, ln_13043, ln_13044, ln_13045, ln_13046, ln_13047, ln_13048, ln_13049, ln_13050, ln_13051, ln_13052, ln_13053, ln_13054, ln_13055, ln_13056, ln_13057, ln_13058, ln_13059, ln_13060, ln_13061, ln_13062, ln_13063, ln_13064, ln_13065, ln_13066, ln_13067, gd_t, w_eq, hX, hc, hs, e3]
