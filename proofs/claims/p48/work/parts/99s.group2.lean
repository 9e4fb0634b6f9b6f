/-! PURE PART, 99s: group: the class's loop -/
/-- that the topics a have partition p -/
abbrev gB (N : Nd) (a p : Int) : Prop := 0 ≤ p ∧ p < (N 12000 11) ∧ bt a (N 13012 p) = true
def GPI (n a : Int) (N : Nd) (C : Cd) (A : Ad) (i : Int) (C' : Cd) (A' : Ad) : Prop := (∀ b x j, ¬ (b = 9000 ∧ 9 * n ≤ x ∧ x < 9 * n + 9) → ¬ (b = 24000 ∧ x = n) → ¬ (b = 1000 ∧ x = n ∧ j = 8) → C' b x j = C b x j) ∧ (∀ p, 0 ≤ p → p < 9 → C' 24000 n p = if p < i ∧ gB N a p then 9000 + (9 * n + p) else 0) ∧ (∀ p, 0 ≤ p → p < i → gB N a p → C' 9000 (9 * n + p) 0 = 6000 + p ∧ C' 9000 (9 * n + p) 1 = 0 ∧ C' 9000 (9 * n + p) 2 = 0 ∧ C' 9000 (9 * n + p) 3 = 0 ∧ C' 9000 (9 * n + p) 4 = 0 ∧ C' 9000 (9 * n + p) 5 = 0) ∧ C' 1000 n 8 = su (fun p => if gB N a p then 1 else 0) 0 i.toNat ∧ ∀ x, ¬ (9000 + 9 * n ≤ x ∧ x < 9000 + (9 * n + i)) → A'.1 x = A.1 x
theorem shX_k {C : Cd} {n p b i j : Int} (h1 : ¬ (b = 9000 ∧ i = 9 * n + p)) (h2 : ¬ (b = 24000 ∧ i = n ∧ j = p)) (h3 : ¬ (b = 1000 ∧ i = n ∧ j = 8)) : shX C n p b i j = C b i j := by
  unfold shX
  repeat first
    | rw [uq_s, if_neg (by omega)]
    | rw [zq_s, if_neg (by omega)]
theorem shX_9 {C : Cd} {n p j : Int} : shX C n p 9000 (9 * n + p) j = if j = 0 then 6000 + p else 0 := by
  unfold shX
  simp only [uq_s, zq_s, up_s, true_and, false_and, and_true, and_false, if_true, if_false, ↓reduceIte, ↓Option.bind_some, Int.reduceEq, Int.reduceNe, Int.reduceLT, Int.reduceLE, gd_true, gd_false, bind_b, q10, eq_self, reduceCtorEq, not_true_eq_false, not_false_eq_true, ne_eq]
  repeat' split
  all_goals first
    | rfl
    | omega
theorem GPI.step {n a : Int} {N : Nd} {C C' : Cd} {A A' : Ad} {i : Int} (h : GPI n a N C A i C' A') (i0 : 0 ≤ i) (i9 : i < 9) (hr : gB N a i) : GPI n a N C A (i + 1) (shX C' n i) (alA A' (9000 + (9 * n + i)) 6) := by
  obtain ⟨h1, h2, h3, h4, h5⟩ := h
  refine ⟨fun b x j q1 q2 q3 => ?_, fun p p1 p2 => ?_, fun p p1 p2 hp => ?_, ?_, fun x hx => ?_⟩
  · rw [shX_k (by omega) (by omega) q3]
    exact h1 b x j q1 q2 q3
  · by_cases e : p = i
    · rw [e, if_pos ⟨by omega, hr⟩]
      unfold shX
      rw [uq_s, if_neg (by omega), uq_s, if_pos ⟨rfl, rfl, rfl⟩]
    · rw [shX_k (by omega) (by omega) (by omega), h2 p p1 p2]
      by_cases z : p < i ∧ gB N a p
      · rw [if_pos z, if_pos ⟨by omega, z.2⟩]
      · rw [if_neg z, if_neg (fun y => z ⟨by omega, y.2⟩)]
  · by_cases e : p = i
    · rw [e]
      simp only [shX_9, up_s, true_and, false_and, and_true, and_false, if_true, if_false, ↓reduceIte, ↓Option.bind_some, Int.reduceEq, Int.reduceNe, Int.reduceLT, Int.reduceLE, gd_true, gd_false, bind_b, q10, eq_self, reduceCtorEq, not_true_eq_false, not_false_eq_true, ne_eq]
    · have k : ∀ j, shX C' n i 9000 (9 * n + p) j = C' 9000 (9 * n + p) j := fun j => shX_k (by omega) (by omega) (by omega)
      rw [k, k, k, k, k, k]
      exact h3 p p1 (by omega) hp
  · rw [show (i + 1).toNat = i.toNat + 1 by omega, su_S, ← h4, show (0 : Int) + (i.toNat : Int) = i by omega, if_pos hr]
    unfold shX
    rw [uq_s, if_pos ⟨rfl, rfl, rfl⟩]
  · rw [ad_al (by omega)]
    exact h5 x (by omega)
theorem GPI.skip {n a : Int} {N : Nd} {C C' : Cd} {A A' : Ad} {i : Int} (h : GPI n a N C A i C' A') (i0 : 0 ≤ i) (hr : ¬ gB N a i) : GPI n a N C A (i + 1) C' A' := by
  obtain ⟨h1, h2, h3, h4, h5⟩ := h
  refine ⟨h1, fun p p1 p2 => ?_, fun p p1 p2 hp => ?_, ?_, fun x hx => h5 x (by omega)⟩
  · rw [h2 p p1 p2]
    by_cases z : p < i ∧ gB N a p
    · rw [if_pos z, if_pos ⟨by omega, z.2⟩]
    · rw [if_neg z, if_neg (fun y => z ⟨by
        by_cases e : p = i
        · rw [e] at y; exact absurd y.2 hr
        · omega, y.2⟩)]
  · by_cases e : p = i
    · rw [e] at hp; exact absurd hp hr
    · exact h3 p p1 (by omega) hp
  · rw [show (i + 1).toNat = i.toNat + 1 by omega, su_S, ← h4, show (0 : Int) + (i.toNat : Int) = i by omega, if_neg hr, Int.add_zero]
theorem c_gpLoop {n a : Int} {C : Cd} {N N0 : Nd} {A : Ad} (G : RG N) (c : CC C N) (n1 : 0 ≤ n) (n2 : n < 3) (a1 : 0 ≤ a) (a8 : a < 8) (hA : ∀ p, 0 ≤ p → p < 9 → A.1 (9000 + (9 * n + p)) = 0) : Ok (lp (b_X10_group_64 9 21000 a (1000 + n)) 1000 (0, mk (giC C n) N0 (giA A n))) (fun M => ∃ C' A', M = mk C' N0 A' ∧ GPI n a N (giC C n) (giA A n) 9 C' A') := by
  have s1 := G.s.1
  have s2 := G.s.2.1
  refine lp_for (fun i x => ∃ C' A', x = (i, mk C' N0 A') ∧ GPI n a N (giC C n) (giA A n) i C' A') 0 9 ?_ ?_ (by decide) ⟨_, _, rfl, fun _ _ _ _ _ _ => rfl, fun p p1 p2 => ?_, fun p p1 p2 => by omega, ?_, fun _ _ => rfl⟩
  · rintro i x i1 i2 ⟨C', A', rfl, h⟩
    have lt : i < 9 := by omega
    have hc := c.i.2.1 i i1 lt
    have f : ∀ b x j, b ≠ 9000 → b ≠ 24000 → b ≠ 1000 → b ≠ 19000 → b ≠ 17000 → b ≠ 3000 → b ≠ 3003 → b ≠ 17100 → b ≠ 17103 → C' b x j = C b x j := fun b x j q1 q2 q3 q4 q5 q6 q7 q8 q9 => by rw [h.1 b x j (by omega) (by omega) (by omega), gi_k (by omega)]
    have e21 : C' 21000 0 i = C 21000 0 i := f _ _ _ (by decide) (by decide) (by decide) (by decide) (by decide) (by decide) (by decide) (by decide) (by decide)
    unfold b_X10_group_64
    by_cases r : i < (N 12000 11)
    · rw [if_pos r] at hc
      obtain ⟨q0, q1, -⟩ := c.p i i1 r
      have tb := (G.p i i1 r).1
      have t0 := (c.t _ tb.1 tb.2).1
      have e60 : C' 6000 i 0 = i := (f _ _ _ (by decide) (by decide) (by decide) (by decide) (by decide) (by decide) (by decide) (by decide) (by decide)).trans q0
      have e61 : C' 6000 i 1 = 10000 + N 13012 i := (f _ _ _ (by decide) (by decide) (by decide) (by decide) (by decide) (by decide) (by decide) (by decide) (by decide)).trans q1
      have e10 : C' 10000 (N 13012 i) 0 = N 13012 i := (f _ _ _ (by decide) (by decide) (by decide) (by decide) (by decide) (by decide) (by decide) (by decide) (by decide)).trans t0
      have nz : ¬ 6000 + i = 0 := by omega
      have bb := bits8 a1 a8 tb.1 (show N 13012 i < 3 by omega)
      by_cases z : bt a (N 13012 i) = true
      · have nb : ¬ ian a (shl 1 (N 13012 i)) = 0 := fun y => bb.mp y z
        have e0 : C' 1000 n 0 = 24000 + n := by
          rw [h.1 _ _ _ (by omega) (by omega) (by omega)]
          unfold giC
          simp only [uq_s, zq_s, up_s, true_and, false_and, and_true, and_false, if_true, if_false, ↓reduceIte, ↓Option.bind_some, Int.reduceEq, Int.reduceNe, Int.reduceLT, Int.reduceLE, gd_true, gd_false, bind_b, q10, eq_self, reduceCtorEq, not_true_eq_false, not_false_eq_true, ne_eq]
        have eb := @su_b (fun p => if gB N a p then 1 else 0) 0 i.toNat 1 (fun _ _ _ => by split <;> omega)
        have ad : A'.1 (9000 + (9 * n + i)) = 0 := by
          rw [h.2.2.2.2 _ (by omega), giA_k (by omega)]
          exact hA i i1 lt
        have as := c_addShare (C := C') (N0 := N0) (A := A') n1 n2 i1 lt e60 e0 (by rw [h.2.2.2.1]; omega) ad
        simp (disch := omega) only [aok, up_s, true_and, false_and, and_true, and_false, if_true, if_false, ↓reduceIte, ↓Option.bind_some, Int.reduceEq, Int.reduceNe, Int.reduceLT, Int.reduceLE, gd_true, gd_false, bind_b, q10, eq_self, reduceCtorEq, not_true_eq_false, not_false_eq_true, ne_eq, cr_11000, cr_15000, cr_16000, cr_20000, cr_20001, cr_21000, cr_22000, cr_25000, cr_1000, cr_2000, cr_3000, cr_3003, cr_3006, cr_4000, cr_5000, cr_6000, cr_7000, cr_8000, cr_9000, cr_10000, cr_13500, cr_17000, cr_17100, cr_17103, cr_17106, cr_19000, cr_20100, cr_21100, cr_23000, cr_24000, cw_11000, cw_15000, cw_16000, cw_20000, cw_20001, cw_21000, cw_22000, cw_25000, cw_1000, cw_2000, cw_3000, cw_3003, cw_3006, cw_4000, cw_5000, cw_6000, cw_7000, cw_8000, cw_9000, cw_10000, cw_13500, cw_17000, cw_17100, cw_17103, cw_17106, cw_19000, cw_20100, cw_21100, cw_23000, cw_24000, lc_13500, lc_15000, lc_16000, lc_17000, lc_17100, lc_17103, lc_17106, lc_19000, lc_20000, lc_20001, lc_20100, lc_21000, lc_21100, lc_22000, lc_23000, lc_24000, lc_25000, gd_t, w_eq, lc_13500, lc_15000, lc_16000, lc_17000, lc_17100, lc_17103, lc_17106, lc_19000, lc_20000, lc_20001, lc_20100, lc_21000, lc_21100, lc_22000, lc_23000, lc_24000, lc_25000, lt, e21, hc, e61, e10, nb, as, nz]
        exact ⟨_, rfl, _, _, rfl, h.step i1 lt ⟨i1, r, z⟩⟩
      · have nb : ian a (shl 1 (N 13012 i)) = 0 := bb.mpr z
        simp (disch := omega) only [aok, up_s, true_and, false_and, and_true, and_false, if_true, if_false, ↓reduceIte, ↓Option.bind_some, Int.reduceEq, Int.reduceNe, Int.reduceLT, Int.reduceLE, gd_true, gd_false, bind_b, q10, eq_self, reduceCtorEq, not_true_eq_false, not_false_eq_true, ne_eq, cr_11000, cr_15000, cr_16000, cr_20000, cr_20001, cr_21000, cr_22000, cr_25000, cr_1000, cr_2000, cr_3000, cr_3003, cr_3006, cr_4000, cr_5000, cr_6000, cr_7000, cr_8000, cr_9000, cr_10000, cr_13500, cr_17000, cr_17100, cr_17103, cr_17106, cr_19000, cr_20100, cr_21100, cr_23000, cr_24000, cw_11000, cw_15000, cw_16000, cw_20000, cw_20001, cw_21000, cw_22000, cw_25000, cw_1000, cw_2000, cw_3000, cw_3003, cw_3006, cw_4000, cw_5000, cw_6000, cw_7000, cw_8000, cw_9000, cw_10000, cw_13500, cw_17000, cw_17100, cw_17103, cw_17106, cw_19000, cw_20100, cw_21100, cw_23000, cw_24000, lc_13500, lc_15000, lc_16000, lc_17000, lc_17100, lc_17103, lc_17106, lc_19000, lc_20000, lc_20001, lc_20100, lc_21000, lc_21100, lc_22000, lc_23000, lc_24000, lc_25000, gd_t, w_eq, lt, e21, hc, e61, e10, nb, nz]
        exact ⟨_, rfl, _, _, rfl, h.skip i1 (fun y => z y.2.2)⟩
    · rw [if_neg r] at hc
      simp (disch := omega) only [aok, up_s, true_and, false_and, and_true, and_false, if_true, if_false, ↓reduceIte, ↓Option.bind_some, Int.reduceEq, Int.reduceNe, Int.reduceLT, Int.reduceLE, gd_true, gd_false, bind_b, q10, eq_self, reduceCtorEq, not_true_eq_false, not_false_eq_true, ne_eq, cr_11000, cr_15000, cr_16000, cr_20000, cr_20001, cr_21000, cr_22000, cr_25000, cr_1000, cr_2000, cr_3000, cr_3003, cr_3006, cr_4000, cr_5000, cr_6000, cr_7000, cr_8000, cr_9000, cr_10000, cr_13500, cr_17000, cr_17100, cr_17103, cr_17106, cr_19000, cr_20100, cr_21100, cr_23000, cr_24000, cw_11000, cw_15000, cw_16000, cw_20000, cw_20001, cw_21000, cw_22000, cw_25000, cw_1000, cw_2000, cw_3000, cw_3003, cw_3006, cw_4000, cw_5000, cw_6000, cw_7000, cw_8000, cw_9000, cw_10000, cw_13500, cw_17000, cw_17100, cw_17103, cw_17106, cw_19000, cw_20100, cw_21100, cw_23000, cw_24000, lc_13500, lc_15000, lc_16000, lc_17000, lc_17100, lc_17103, lc_17106, lc_19000, lc_20000, lc_20001, lc_20100, lc_21000, lc_21100, lc_22000, lc_23000, lc_24000, lc_25000, gd_t, w_eq, lt, e21, hc]
      exact ⟨_, rfl, _, _, rfl, h.skip i1 (fun y => r y.2.1)⟩
  · rintro x ⟨C', A', rfl, h⟩
    have nl : ¬ (0 : Int) + ((9 : Nat) : Int) < 9 := by omega
    unfold b_X10_group_64
    simp (disch := omega) only [aok, up_s, true_and, false_and, and_true, and_false, if_true, if_false, ↓reduceIte, ↓Option.bind_some, Int.reduceEq, Int.reduceNe, Int.reduceLT, Int.reduceLE, gd_true, gd_false, bind_b, q10, eq_self, reduceCtorEq, not_true_eq_false, not_false_eq_true, ne_eq, cr_11000, cr_15000, cr_16000, cr_20000, cr_20001, cr_21000, cr_22000, cr_25000, cr_1000, cr_2000, cr_3000, cr_3003, cr_3006, cr_4000, cr_5000, cr_6000, cr_7000, cr_8000, cr_9000, cr_10000, cr_13500, cr_17000, cr_17100, cr_17103, cr_17106, cr_19000, cr_20100, cr_21100, cr_23000, cr_24000, cw_11000, cw_15000, cw_16000, cw_20000, cw_20001, cw_21000, cw_22000, cw_25000, cw_1000, cw_2000, cw_3000, cw_3003, cw_3006, cw_4000, cw_5000, cw_6000, cw_7000, cw_8000, cw_9000, cw_10000, cw_13500, cw_17000, cw_17100, cw_17103, cw_17106, cw_19000, cw_20100, cw_21100, cw_23000, cw_24000, lc_13500, lc_15000, lc_16000, lc_17000, lc_17100, lc_17103, lc_17106, lc_19000, lc_20000, lc_20001, lc_20100, lc_21000, lc_21100, lc_22000, lc_23000, lc_24000, lc_25000, gd_t, w_eq, nl]
    exact ⟨_, rfl, _, _, rfl, h⟩
  · rw [if_neg (fun z => by omega)]
    unfold giC
    simp only [uq_s, zq_s, up_s, true_and, false_and, and_true, and_false, if_true, if_false, ↓reduceIte, ↓Option.bind_some, Int.reduceEq, Int.reduceNe, Int.reduceLT, Int.reduceLE, gd_true, gd_false, bind_b, q10, eq_self, reduceCtorEq, not_true_eq_false, not_false_eq_true, ne_eq]
  · unfold giC
    simp only [uq_s, zq_s, up_s, true_and, false_and, and_true, and_false, if_true, if_false, ↓reduceIte, ↓Option.bind_some, Int.reduceEq, Int.reduceNe, Int.reduceLT, Int.reduceLE, gd_true, gd_false, bind_b, q10, eq_self, reduceCtorEq, not_true_eq_false, not_false_eq_true, ne_eq]
    rfl
