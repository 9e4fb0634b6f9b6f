/-! PURE PART, 33: how the class's table says what the model's table says (topics, partitions, messages, producers) -/
def CB (C : Cd) (N : Nd) : Prop := (C 11000 0 0 = 25000 ∧ C 11000 0 1 = 21000 ∧ C 11000 0 2 = 22000 ∧ C 11000 0 3 = 16000 ∧ C 11000 0 4 = 20000 ∧ C 11000 0 5 = 20001) ∧ C 11000 0 6 = (N 12000 4) ∧ C 11000 0 7 = (N 12000 11) ∧ C 11000 0 8 = (N 12000 30) ∧ C 11000 0 9 = (N 12000 41) ∧ C 11000 0 10 = (N 12000 19) ∧ C 11000 0 12 = (N 12000 40) ∧ C 11000 0 13 = (N 12000 2) ∧ C 11000 0 14 = (N 12000 3) ∧ C 11000 0 15 = (N 12000 1)
def CI (C : Cd) (N : Nd) : Prop := (∀ t, 0 ≤ t → t < 3 → C 25000 0 t = if t < (N 12000 4) then 10000 + t else 0) ∧ (∀ p, 0 ≤ p → p < 9 → C 21000 0 p = if p < (N 12000 11) then 6000 + p else 0) ∧ (∀ x, 0 ≤ x → x < 4 → C 22000 0 x = if x < (N 12000 30) then 7000 + x else 0) ∧ (∀ g, 0 ≤ g → g < 3 → C 16000 0 g = if g < (N 12000 41) then 1000 + g else 0) ∧ (∀ m, 0 ≤ m → m < 150 → C 20000 0 m = if m < (N 12000 19) then 5000 + m else 0)
def CTp (C : Cd) (N : Nd) : Prop := ∀ t, 0 ≤ t → t < (N 12000 4) → C 10000 t 0 = t ∧ C 10000 t 1 = N 13005 t ∧ C 10000 t 2 = N 13006 t ∧ C 10000 t 3 = N 14008 t ∧ C 10000 t 4 = 21100 + t ∧ C 10000 t 5 = N 13009 t ∧ C 10000 t 6 = N 13010 t ∧ ∀ k, 0 ≤ k → k < 3 → C 21100 t k = if k < N 13005 t then 6000 + (N 13007 t + k) else 0
def CP (C : Cd) (N : Nd) : Prop := ∀ p, 0 ≤ p → p < (N 12000 11) → C 6000 p 0 = p ∧ C 6000 p 1 = 10000 + N 13012 p ∧ C 6000 p 2 = 23000 + p ∧ C 6000 p 3 = 20100 + p ∧ C 6000 p 4 = (if N 13013 p < 0 then 0 else 8000 + (3 * p + N 13013 p)) ∧ C 6000 p 5 = N 13015 p
def CW (C : Cd) (N : Nd) : Prop := ∀ p r, 0 ≤ p → p < (N 12000 11) → 0 ≤ r → r < 3 → C 23000 p r = if r < N 13006 (N 13012 p) then 8000 + (3 * p + r) else 0
def CL (C : Cd) (N : Nd) : Prop := ∀ p k, 0 ≤ p → p < (N 12000 11) → 0 ≤ k → k < 60 → C 20100 p k = if N 13018 (60 * p + k) < 0 then 0 else 5000 + N 13018 (60 * p + k)
def CR (C : Cd) (N : Nd) : Prop := ∀ p r, 0 ≤ p → p < (N 12000 11) → 0 ≤ r → r < 3 → r < N 13006 (N 13012 p) → C 8000 (3 * p + r) 0 = r ∧ C 8000 (3 * p + r) 1 = brk N p r ∧ C 8000 (3 * p + r) 2 = N 13016 (3 * p + r) ∧ C 8000 (3 * p + r) 3 = N 13017 (3 * p + r) ∧ C 8000 (3 * p + r) 4 = if bt (N 13014 p) r then 1 else 0
def CM (C : Cd) (N : Nd) : Prop := ∀ m, 0 ≤ m → m < (N 12000 19) → C 5000 m 0 = m ∧ C 5000 m 1 = 7000 + N 13020 m ∧ C 5000 m 2 = 6000 + N 13021 m ∧ C 5000 m 3 = N 13022 m ∧ C 5000 m 4 = N 13023 m ∧ C 5000 m 5 = (if N 13028 m = 0 then -1 else N 13028 m) ∧ C 5000 m 6 = N 13029 m ∧ C 5000 m 7 = N 13024 m ∧ C 5000 m 8 = N 13025 m ∧ C 5000 m 9 = N 13026 m ∧ C 5000 m 10 = N 13027 m
def CX (C : Cd) (N : Nd) : Prop := ∀ x, 0 ≤ x → x < (N 12000 30) → C 7000 x 0 = x ∧ C 7000 x 1 = N 13031 x ∧ C 7000 x 2 = N 13032 x ∧ C 7000 x 3 = N 13033 x ∧ C 7000 x 4 = N 14034 x ∧ C 7000 x 8 = 13500 + x
/-- all ranges; all of the class's table but for what concerns groups -/
def CC (C : Cd) (N : Nd) : Prop := CB C N ∧ CI C N ∧ CTp C N ∧ CP C N ∧ CW C N ∧ CL C N ∧ CR C N ∧ CM C N ∧ CX C N
section
variable {C : Cd} {N : Nd}
theorem CC.b (c : CC C N) : CB C N := c.1
theorem CC.i (c : CC C N) : CI C N := c.2.1
theorem CC.t (c : CC C N) : CTp C N := c.2.2.1
theorem CC.p (c : CC C N) : CP C N := c.2.2.2.1
theorem CC.w (c : CC C N) : CW C N := c.2.2.2.2.1
theorem CC.l (c : CC C N) : CL C N := c.2.2.2.2.2.1
theorem CC.r (c : CC C N) : CR C N := c.2.2.2.2.2.2.1
theorem CC.m (c : CC C N) : CM C N := c.2.2.2.2.2.2.2.1
theorem CC.x (c : CC C N) : CX C N := c.2.2.2.2.2.2.2.2
end
theorem c_highWatermark {C : Cd} {N N0 : Nd} {A : Ad} {p : Int} (g : RG N) (c : CC C N) (h1 : 0 ≤ p) (h2 : p < (N 12000 11)) : p_X5_highWatermark (mk C N0 A) (6000 + p) = some (hw N p) := by
  have s2 := g.s.2.1
  obtain ⟨-, -, c3, -, -, -⟩ := c.p p h1 h2
  obtain ⟨-, -, -, -, -, a6, -⟩ := g.p p h1 h2
  have rr := g.rep h1 h2
  unfold p_X5_highWatermark
  simp (disch := omega) only [aok, up_s, true_and, false_and, and_true, and_false, if_true, if_false, ↓reduceIte, ↓Option.bind_some, Int.reduceEq, Int.reduceNe, Int.reduceLT, Int.reduceLE, gd_true, gd_false, bind_b, q10, eq_self, reduceCtorEq, not_true_eq_false, not_false_eq_true, ne_eq, cr_11000, cr_15000, cr_16000, cr_20000, cr_20001, cr_21000, cr_22000, cr_25000, cr_1000, cr_2000, cr_3000, cr_3003, cr_3006, cr_4000, cr_5000, cr_6000, cr_7000, cr_8000, cr_9000, cr_10000, cr_13500, cr_17000, cr_17100, cr_17103, cr_17106, cr_19000, cr_20100, cr_21100, cr_23000, cr_24000, cw_11000, cw_15000, cw_16000, cw_20000, cw_20001, cw_21000, cw_22000, cw_25000, cw_1000, cw_2000, cw_3000, cw_3003, cw_3006, cw_4000, cw_5000, cw_6000, cw_7000, cw_8000, cw_9000, cw_10000, cw_13500, cw_17000, cw_17100, cw_17103, cw_17106, cw_19000, cw_20100, cw_21100, cw_23000, cw_24000, lc_13500, lc_15000, lc_16000, lc_17000, lc_17100, lc_17103, lc_17106, lc_19000, lc_20000, lc_20001, lc_20100, lc_21000, lc_21100, lc_22000, lc_23000, lc_24000, lc_25000, gd_t, w_eq, c3]
  rw [lp_fo (fun b i => (b, i)) (hwS N p) 0 3 (a := 60) (fun _ => True) trivial (fun _ _ _ _ _ => trivial) (fun i b i1 i2 _ => ?_) (t := fo (hwS N p) 0 3 60) (fun _ => ?_) (by omega) rfl]
  · rfl
  · have w1 := c.w p i h1 h2 i1 (by omega)
    unfold b_X5_highWatermark_14 hwS
    by_cases e : i < N 13006 (N 13012 p)
    · obtain ⟨r0, r1, r2, r3, r4⟩ := c.r p i h1 h2 i1 (by omega) e
      by_cases e2 : bt (N 13014 p) i
      · by_cases e3 : N 13016 (3 * p + i) < b
        · simp (disch := omega) only [aok, up_s, true_and, false_and, and_true, and_false, if_true, if_false, ↓reduceIte, ↓Option.bind_some, Int.reduceEq, Int.reduceNe, Int.reduceLT, Int.reduceLE, gd_true, gd_false, bind_b, q10, eq_self, reduceCtorEq, not_true_eq_false, not_false_eq_true, ne_eq, cr_11000, cr_15000, cr_16000, cr_20000, cr_20001, cr_21000, cr_22000, cr_25000, cr_1000, cr_2000, cr_3000, cr_3003, cr_3006, cr_4000, cr_5000, cr_6000, cr_7000, cr_8000, cr_9000, cr_10000, cr_13500, cr_17000, cr_17100, cr_17103, cr_17106, cr_19000, cr_20100, cr_21100, cr_23000, cr_24000, cw_11000, cw_15000, cw_16000, cw_20000, cw_20001, cw_21000, cw_22000, cw_25000, cw_1000, cw_2000, cw_3000, cw_3003, cw_3006, cw_4000, cw_5000, cw_6000, cw_7000, cw_8000, cw_9000, cw_10000, cw_13500, cw_17000, cw_17100, cw_17103, cw_17106, cw_19000, cw_20100, cw_21100, cw_23000, cw_24000, lc_13500, lc_15000, lc_16000, lc_17000, lc_17100, lc_17103, lc_17106, lc_19000, lc_20000, lc_20001, lc_20100, lc_21000, lc_21100, lc_22000, lc_23000, lc_24000, lc_25000, gd_t, w_eq, w1, r2, r4, p_J9_min_7cf53, e, e2, e3, if_pos, if_neg]
        · simp (disch := omega) only [aok, up_s, true_and, false_and, and_true, and_false, if_true, if_false, ↓reduceIte, ↓Option.bind_some, Int.reduceEq, Int.reduceNe, Int.reduceLT, Int.reduceLE, gd_true, gd_false, bind_b, q10, eq_self, reduceCtorEq, not_true_eq_false, not_false_eq_true, ne_eq, cr_11000, cr_15000, cr_16000, cr_20000, cr_20001, cr_21000, cr_22000, cr_25000, cr_1000, cr_2000, cr_3000, cr_3003, cr_3006, cr_4000, cr_5000, cr_6000, cr_7000, cr_8000, cr_9000, cr_10000, cr_13500, cr_17000, cr_17100, cr_17103, cr_17106, cr_19000, cr_20100, cr_21100, cr_23000, cr_24000, cw_11000, cw_15000, cw_16000, cw_20000, cw_20001, cw_21000, cw_22000, cw_25000, cw_1000, cw_2000, cw_3000, cw_3003, cw_3006, cw_4000, cw_5000, cw_6000, cw_7000, cw_8000, cw_9000, cw_10000, cw_13500, cw_17000, cw_17100, cw_17103, cw_17106, cw_19000, cw_20100, cw_21100, cw_23000, cw_24000, lc_13500, lc_15000, lc_16000, lc_17000, lc_17100, lc_17103, lc_17106, lc_19000, lc_20000, lc_20001, lc_20100, lc_21000, lc_21100, lc_22000, lc_23000, lc_24000, lc_25000, gd_t, w_eq, w1, r2, r4, p_J9_min_7cf53, e, e2, e3, if_pos, if_neg]
      · simp (disch := omega) only [aok, up_s, true_and, false_and, and_true, and_false, if_true, if_false, ↓reduceIte, ↓Option.bind_some, Int.reduceEq, Int.reduceNe, Int.reduceLT, Int.reduceLE, gd_true, gd_false, bind_b, q10, eq_self, reduceCtorEq, not_true_eq_false, not_false_eq_true, ne_eq, cr_11000, cr_15000, cr_16000, cr_20000, cr_20001, cr_21000, cr_22000, cr_25000, cr_1000, cr_2000, cr_3000, cr_3003, cr_3006, cr_4000, cr_5000, cr_6000, cr_7000, cr_8000, cr_9000, cr_10000, cr_13500, cr_17000, cr_17100, cr_17103, cr_17106, cr_19000, cr_20100, cr_21100, cr_23000, cr_24000, cw_11000, cw_15000, cw_16000, cw_20000, cw_20001, cw_21000, cw_22000, cw_25000, cw_1000, cw_2000, cw_3000, cw_3003, cw_3006, cw_4000, cw_5000, cw_6000, cw_7000, cw_8000, cw_9000, cw_10000, cw_13500, cw_17000, cw_17100, cw_17103, cw_17106, cw_19000, cw_20100, cw_21100, cw_23000, cw_24000, lc_13500, lc_15000, lc_16000, lc_17000, lc_17100, lc_17103, lc_17106, lc_19000, lc_20000, lc_20001, lc_20100, lc_21000, lc_21100, lc_22000, lc_23000, lc_24000, lc_25000, gd_t, w_eq, w1, r2, r4, e, e2, if_pos, if_neg]
    · have e2 : ¬ bt (N 13014 p) i := fun q => e (a6 i i1 (by omega) q)
      simp (disch := omega) only [aok, up_s, true_and, false_and, and_true, and_false, if_true, if_false, ↓reduceIte, ↓Option.bind_some, Int.reduceEq, Int.reduceNe, Int.reduceLT, Int.reduceLE, gd_true, gd_false, bind_b, q10, eq_self, reduceCtorEq, not_true_eq_false, not_false_eq_true, ne_eq, cr_11000, cr_15000, cr_16000, cr_20000, cr_20001, cr_21000, cr_22000, cr_25000, cr_1000, cr_2000, cr_3000, cr_3003, cr_3006, cr_4000, cr_5000, cr_6000, cr_7000, cr_8000, cr_9000, cr_10000, cr_13500, cr_17000, cr_17100, cr_17103, cr_17106, cr_19000, cr_20100, cr_21100, cr_23000, cr_24000, cw_11000, cw_15000, cw_16000, cw_20000, cw_20001, cw_21000, cw_22000, cw_25000, cw_1000, cw_2000, cw_3000, cw_3003, cw_3006, cw_4000, cw_5000, cw_6000, cw_7000, cw_8000, cw_9000, cw_10000, cw_13500, cw_17000, cw_17100, cw_17103, cw_17106, cw_19000, cw_20100, cw_21100, cw_23000, cw_24000, lc_13500, lc_15000, lc_16000, lc_17000, lc_17100, lc_17103, lc_17106, lc_19000, lc_20000, lc_20001, lc_20100, lc_21000, lc_21100, lc_22000, lc_23000, lc_24000, lc_25000, gd_t, w_eq, w1, e, e2, if_pos, if_neg]
  · unfold b_X5_highWatermark_14
    simp (disch := omega) only [aok, up_s, true_and, false_and, and_true, and_false, if_true, if_false, ↓reduceIte, ↓Option.bind_some, Int.reduceEq, Int.reduceNe, Int.reduceLT, Int.reduceLE, gd_true, gd_false, bind_b, q10, eq_self, reduceCtorEq, not_true_eq_false, not_false_eq_true, ne_eq, cr_11000, cr_15000, cr_16000, cr_20000, cr_20001, cr_21000, cr_22000, cr_25000, cr_1000, cr_2000, cr_3000, cr_3003, cr_3006, cr_4000, cr_5000, cr_6000, cr_7000, cr_8000, cr_9000, cr_10000, cr_13500, cr_17000, cr_17100, cr_17103, cr_17106, cr_19000, cr_20100, cr_21100, cr_23000, cr_24000, cw_11000, cw_15000, cw_16000, cw_20000, cw_20001, cw_21000, cw_22000, cw_25000, cw_1000, cw_2000, cw_3000, cw_3003, cw_3006, cw_4000, cw_5000, cw_6000, cw_7000, cw_8000, cw_9000, cw_10000, cw_13500, cw_17000, cw_17100, cw_17103, cw_17106, cw_19000, cw_20100, cw_21100, cw_23000, cw_24000, lc_13500, lc_15000, lc_16000, lc_17000, lc_17100, lc_17103, lc_17106, lc_19000, lc_20000, lc_20001, lc_20100, lc_21000, lc_21100, lc_22000, lc_23000, lc_24000, lc_25000, gd_t, w_eq, if_neg]
theorem c_messageAt {C : Cd} {N N0 : Nd} {A : Ad} {p k : Int} (g : RG N) (c : CC C N) (h1 : 0 ≤ p) (h2 : p < (N 12000 11)) : p_X5_messageAt (mk C N0 A) (6000 + p) k = some (if 0 ≤ k ∧ k < 60 ∧ 0 ≤ N 13018 (60 * p + k) then 5000 + N 13018 (60 * p + k) else 0) := by
  have s2 := g.s.2.1
  obtain ⟨-, -, -, c4, -, -⟩ := c.p p h1 h2
  unfold p_X5_messageAt
  simp (disch := omega) only [aok, up_s, true_and, false_and, and_true, and_false, if_true, if_false, ↓reduceIte, ↓Option.bind_some, Int.reduceEq, Int.reduceNe, Int.reduceLT, Int.reduceLE, gd_true, gd_false, bind_b, q10, eq_self, reduceCtorEq, not_true_eq_false, not_false_eq_true, ne_eq, cr_11000, cr_15000, cr_16000, cr_20000, cr_20001, cr_21000, cr_22000, cr_25000, cr_1000, cr_2000, cr_3000, cr_3003, cr_3006, cr_4000, cr_5000, cr_6000, cr_7000, cr_8000, cr_9000, cr_10000, cr_13500, cr_17000, cr_17100, cr_17103, cr_17106, cr_19000, cr_20100, cr_21100, cr_23000, cr_24000, cw_11000, cw_15000, cw_16000, cw_20000, cw_20001, cw_21000, cw_22000, cw_25000, cw_1000, cw_2000, cw_3000, cw_3003, cw_3006, cw_4000, cw_5000, cw_6000, cw_7000, cw_8000, cw_9000, cw_10000, cw_13500, cw_17000, cw_17100, cw_17103, cw_17106, cw_19000, cw_20100, cw_21100, cw_23000, cw_24000, lc_13500, lc_15000, lc_16000, lc_17000, lc_17100, lc_17103, lc_17106, lc_19000, lc_20000, lc_20001, lc_20100, lc_21000, lc_21100, lc_22000, lc_23000, lc_24000, lc_25000, gd_t, w_eq, c4]
  by_cases k1 : k < 0
  · rw [if_pos k1, if_neg (by omega)]
  · rw [if_neg k1]
    by_cases k2 : k < 60
    · rw [if_pos k2, c.l p k h1 h2 (by omega) k2]
      by_cases e : N 13018 (60 * p + k) < 0
      · simp (disch := omega) only [gd_t, up_s, true_and, false_and, and_true, and_false, if_true, if_false, ↓reduceIte, ↓Option.bind_some, Int.reduceEq, Int.reduceNe, Int.reduceLT, Int.reduceLE, gd_true, gd_false, bind_b, q10, eq_self, reduceCtorEq, not_true_eq_false, not_false_eq_true, ne_eq, if_pos, if_neg]
      · simp (disch := omega) only [gd_t, up_s, true_and, false_and, and_true, and_false, if_true, if_false, ↓reduceIte, ↓Option.bind_some, Int.reduceEq, Int.reduceNe, Int.reduceLT, Int.reduceLE, gd_true, gd_false, bind_b, q10, eq_self, reduceCtorEq, not_true_eq_false, not_false_eq_true, ne_eq, if_pos, if_neg]
    · rw [if_neg k2, if_neg (by omega)]
theorem c_storedAt {C : Cd} {N N0 : Nd} {A : Ad} {p k : Int} (g : RG N) (c : CC C N) (h1 : 0 ≤ p) (h2 : p < (N 12000 11)) : p_X5_storedAt (mk C N0 A) (6000 + p) k = some (if 0 ≤ k ∧ k < 60 ∧ stA N p k then 5000 + N 13018 (60 * p + k) else 0) := by
  have s5 := g.s.2.2.2.2.1
  unfold p_X5_storedAt
  rw [c_messageAt g c h1 h2, Option.bind_some]
  by_cases e : 0 ≤ k ∧ k < 60 ∧ 0 ≤ N 13018 (60 * p + k)
  · have l1 := g.l p k h1 h2 e.1 e.2.1
    obtain ⟨-, -, -, -, -, -, -, c7, -⟩ := c.m _ e.2.2 l1.2
    rw [if_pos e, if_neg (by omega)]
    simp (disch := omega) only [aok, up_s, true_and, false_and, and_true, and_false, if_true, if_false, ↓reduceIte, ↓Option.bind_some, Int.reduceEq, Int.reduceNe, Int.reduceLT, Int.reduceLE, gd_true, gd_false, bind_b, q10, eq_self, reduceCtorEq, not_true_eq_false, not_false_eq_true, ne_eq, cr_11000, cr_15000, cr_16000, cr_20000, cr_20001, cr_21000, cr_22000, cr_25000, cr_1000, cr_2000, cr_3000, cr_3003, cr_3006, cr_4000, cr_5000, cr_6000, cr_7000, cr_8000, cr_9000, cr_10000, cr_13500, cr_17000, cr_17100, cr_17103, cr_17106, cr_19000, cr_20100, cr_21100, cr_23000, cr_24000, cw_11000, cw_15000, cw_16000, cw_20000, cw_20001, cw_21000, cw_22000, cw_25000, cw_1000, cw_2000, cw_3000, cw_3003, cw_3006, cw_4000, cw_5000, cw_6000, cw_7000, cw_8000, cw_9000, cw_10000, cw_13500, cw_17000, cw_17100, cw_17103, cw_17106, cw_19000, cw_20100, cw_21100, cw_23000, cw_24000, lc_13500, lc_15000, lc_16000, lc_17000, lc_17100, lc_17103, lc_17106, lc_19000, lc_20000, lc_20001, lc_20100, lc_21000, lc_21100, lc_22000, lc_23000, lc_24000, lc_25000, gd_t, w_eq, c7]
    by_cases e2 : N 13024 (N 13018 (60 * p + k)) = 1
    · rw [if_pos e2, if_pos ⟨e.1, e.2.1, e.2.2, e2⟩]
    · rw [if_neg e2, if_neg (fun q => e2 q.2.2.2)]
  · rw [if_neg e, if_pos rfl, if_neg (fun q => e ⟨q.1, q.2.1, q.2.2.1⟩)]
theorem c_isPOC {C : Cd} {N N0 : Nd} {A : Ad} {m : Int} (g : RG N) (c : CC C N) (h1 : 0 ≤ m) (h2 : m < (N 12000 19)) : p_X4_isPlainOrCommitted (mk C N0 A) (5000 + m) = some (if N 13025 m = 0 ∨ N 13025 m = 2 then 1 else 0) := by
  have s5 := g.s.2.2.2.2.1
  obtain ⟨-, -, -, -, -, -, -, -, c8, -⟩ := c.m _ h1 h2
  unfold p_X4_isPlainOrCommitted
  simp (disch := omega) only [aok, up_s, true_and, false_and, and_true, and_false, if_true, if_false, ↓reduceIte, ↓Option.bind_some, Int.reduceEq, Int.reduceNe, Int.reduceLT, Int.reduceLE, gd_true, gd_false, bind_b, q10, eq_self, reduceCtorEq, not_true_eq_false, not_false_eq_true, ne_eq, cr_11000, cr_15000, cr_16000, cr_20000, cr_20001, cr_21000, cr_22000, cr_25000, cr_1000, cr_2000, cr_3000, cr_3003, cr_3006, cr_4000, cr_5000, cr_6000, cr_7000, cr_8000, cr_9000, cr_10000, cr_13500, cr_17000, cr_17100, cr_17103, cr_17106, cr_19000, cr_20100, cr_21100, cr_23000, cr_24000, cw_11000, cw_15000, cw_16000, cw_20000, cw_20001, cw_21000, cw_22000, cw_25000, cw_1000, cw_2000, cw_3000, cw_3003, cw_3006, cw_4000, cw_5000, cw_6000, cw_7000, cw_8000, cw_9000, cw_10000, cw_13500, cw_17000, cw_17100, cw_17103, cw_17106, cw_19000, cw_20100, cw_21100, cw_23000, cw_24000, lc_13500, lc_15000, lc_16000, lc_17000, lc_17100, lc_17103, lc_17106, lc_19000, lc_20000, lc_20001, lc_20100, lc_21000, lc_21100, lc_22000, lc_23000, lc_24000, lc_25000, gd_t, w_eq, c8]
  by_cases e2 : N 13025 m = 0
  · rw [if_pos e2, if_pos (Or.inl e2)]
  · rw [if_neg e2]
    by_cases e3 : N 13025 m = 2
    · rw [if_pos e3, if_pos (Or.inr e3)]
    · rw [if_neg e3, if_neg (fun q => q.elim e2 e3)]
/-- a message that can be read at an offset, below a given one -/
abbrev rdA (N : Nd) (p k st : Int) : Prop := 0 ≤ k ∧ k < 60 ∧ k < st ∧ stA N p k ∧ (N 13025 (N 13018 (60 * p + k)) = 0 ∨ N 13025 (N 13018 (60 * p + k)) = 2)
theorem c_readableAt {C : Cd} {N N0 : Nd} {A : Ad} {p k st : Int} (g : RG N) (c : CC C N) (h1 : 0 ≤ p) (h2 : p < (N 12000 11)) : p_X5_readableAt (mk C N0 A) (6000 + p) k st = some (if rdA N p k st then 5000 + N 13018 (60 * p + k) else 0) := by
  unfold p_X5_readableAt
  rw [c_storedAt g c h1 h2]
  simp only [Option.bind_some]
  by_cases e0 : k < st
  · rw [if_pos e0, Option.bind_some]
    by_cases e : 0 ≤ k ∧ k < 60 ∧ stA N p k
    · have l1 := g.l p k h1 h2 e.1 e.2.1
      rw [if_pos e, if_neg (by omega), c_isPOC g c e.2.2.1 l1.2, Option.bind_some, q10]
      by_cases e3 : N 13025 (N 13018 (60 * p + k)) = 0 ∨ N 13025 (N 13018 (60 * p + k)) = 2
      · rw [if_pos e3, if_pos ⟨e.1, e.2.1, e0, e.2.2, e3⟩]
      · rw [if_neg e3, if_neg (fun q => e3 q.2.2.2.2)]
    · rw [if_neg e, if_pos rfl, if_neg (fun q => e ⟨q.1, q.2.1, q.2.2.2.1⟩)]
  · rw [if_neg e0, Option.bind_some, if_pos rfl, if_neg (fun q => e0 q.2.2.1)]
theorem c_stableOffset {C : Cd} {N N0 : Nd} {A : Ad} {p : Int} (g : RG N) (c : CC C N) (h1 : 0 ≤ p) (h2 : p < (N 12000 11)) (hF : ∀ k, 0 ≤ k → k < N 13015 p → opn N p k = false) : p_X5_stableOffset (mk C N0 A) (6000 + p) = some (so N p) := by
  have s2 := g.s.2.1
  have s5 := g.s.2.2.2.2.1
  obtain ⟨-, -, -, c4, -, c6⟩ := c.p p h1 h2
  obtain ⟨-, -, -, f1, -⟩ := g.p p h1 h2
  have hb := hw_b g.e h1 h2
  unfold p_X5_stableOffset
  rw [c_highWatermark g c h1 h2, Option.bind_some]
  simp (disch := omega) only [aok, up_s, true_and, false_and, and_true, and_false, if_true, if_false, ↓reduceIte, ↓Option.bind_some, Int.reduceEq, Int.reduceNe, Int.reduceLT, Int.reduceLE, gd_true, gd_false, bind_b, q10, eq_self, reduceCtorEq, not_true_eq_false, not_false_eq_true, ne_eq, cr_11000, cr_15000, cr_16000, cr_20000, cr_20001, cr_21000, cr_22000, cr_25000, cr_1000, cr_2000, cr_3000, cr_3003, cr_3006, cr_4000, cr_5000, cr_6000, cr_7000, cr_8000, cr_9000, cr_10000, cr_13500, cr_17000, cr_17100, cr_17103, cr_17106, cr_19000, cr_20100, cr_21100, cr_23000, cr_24000, cw_11000, cw_15000, cw_16000, cw_20000, cw_20001, cw_21000, cw_22000, cw_25000, cw_1000, cw_2000, cw_3000, cw_3003, cw_3006, cw_4000, cw_5000, cw_6000, cw_7000, cw_8000, cw_9000, cw_10000, cw_13500, cw_17000, cw_17100, cw_17103, cw_17106, cw_19000, cw_20100, cw_21100, cw_23000, cw_24000, lc_13500, lc_15000, lc_16000, lc_17000, lc_17100, lc_17103, lc_17106, lc_19000, lc_20000, lc_20001, lc_20100, lc_21000, lc_21100, lc_22000, lc_23000, lc_24000, lc_25000, gd_t, w_eq, c6]
  have st : ∀ k, 0 ≤ k → k < hw N p → b_X5_stableOffset_10 (hw N p) (mk C N0 A) (6000 + p) k = if opn N p k = true then some (.inr (.inl k)) else some (.inl (k + 1)) := by
    intro k k1 k2
    have l1 := g.l p k h1 h2 k1 (by omega)
    unfold b_X5_stableOffset_10 opn
    by_cases e : 0 ≤ N 13018 (60 * p + k)
    · obtain ⟨-, -, -, -, -, -, -, -, c8, -⟩ := c.m _ e l1.2
      by_cases e2 : N 13025 (N 13018 (60 * p + k)) = 1
      · simp (disch := omega) only [aok, up_s, true_and, false_and, and_true, and_false, if_true, if_false, ↓reduceIte, ↓Option.bind_some, Int.reduceEq, Int.reduceNe, Int.reduceLT, Int.reduceLE, gd_true, gd_false, bind_b, q10, eq_self, reduceCtorEq, not_true_eq_false, not_false_eq_true, ne_eq, cr_11000, cr_15000, cr_16000, cr_20000, cr_20001, cr_21000, cr_22000, cr_25000, cr_1000, cr_2000, cr_3000, cr_3003, cr_3006, cr_4000, cr_5000, cr_6000, cr_7000, cr_8000, cr_9000, cr_10000, cr_13500, cr_17000, cr_17100, cr_17103, cr_17106, cr_19000, cr_20100, cr_21100, cr_23000, cr_24000, cw_11000, cw_15000, cw_16000, cw_20000, cw_20001, cw_21000, cw_22000, cw_25000, cw_1000, cw_2000, cw_3000, cw_3003, cw_3006, cw_4000, cw_5000, cw_6000, cw_7000, cw_8000, cw_9000, cw_10000, cw_13500, cw_17000, cw_17100, cw_17103, cw_17106, cw_19000, cw_20100, cw_21100, cw_23000, cw_24000, lc_13500, lc_15000, lc_16000, lc_17000, lc_17100, lc_17103, lc_17106, lc_19000, lc_20000, lc_20001, lc_20100, lc_21000, lc_21100, lc_22000, lc_23000, lc_24000, lc_25000, gd_t, w_eq, c_messageAt g c h1 h2, k2, c8, e, e2, decide_true, if_pos, if_neg]
      · simp (disch := omega) only [aok, up_s, true_and, false_and, and_true, and_false, if_true, if_false, ↓reduceIte, ↓Option.bind_some, Int.reduceEq, Int.reduceNe, Int.reduceLT, Int.reduceLE, gd_true, gd_false, bind_b, q10, eq_self, reduceCtorEq, not_true_eq_false, not_false_eq_true, ne_eq, cr_11000, cr_15000, cr_16000, cr_20000, cr_20001, cr_21000, cr_22000, cr_25000, cr_1000, cr_2000, cr_3000, cr_3003, cr_3006, cr_4000, cr_5000, cr_6000, cr_7000, cr_8000, cr_9000, cr_10000, cr_13500, cr_17000, cr_17100, cr_17103, cr_17106, cr_19000, cr_20100, cr_21100, cr_23000, cr_24000, cw_11000, cw_15000, cw_16000, cw_20000, cw_20001, cw_21000, cw_22000, cw_25000, cw_1000, cw_2000, cw_3000, cw_3003, cw_3006, cw_4000, cw_5000, cw_6000, cw_7000, cw_8000, cw_9000, cw_10000, cw_13500, cw_17000, cw_17100, cw_17103, cw_17106, cw_19000, cw_20100, cw_21100, cw_23000, cw_24000, lc_13500, lc_15000, lc_16000, lc_17000, lc_17100, lc_17103, lc_17106, lc_19000, lc_20000, lc_20001, lc_20100, lc_21000, lc_21100, lc_22000, lc_23000, lc_24000, lc_25000, gd_t, w_eq, c_messageAt g c h1 h2, k2, c8, e, e2, decide_false, if_pos, if_neg]
    · simp (disch := omega) only [aok, up_s, true_and, false_and, and_true, and_false, if_true, if_false, ↓reduceIte, ↓Option.bind_some, Int.reduceEq, Int.reduceNe, Int.reduceLT, Int.reduceLE, gd_true, gd_false, bind_b, q10, eq_self, reduceCtorEq, not_true_eq_false, not_false_eq_true, ne_eq, cr_11000, cr_15000, cr_16000, cr_20000, cr_20001, cr_21000, cr_22000, cr_25000, cr_1000, cr_2000, cr_3000, cr_3003, cr_3006, cr_4000, cr_5000, cr_6000, cr_7000, cr_8000, cr_9000, cr_10000, cr_13500, cr_17000, cr_17100, cr_17103, cr_17106, cr_19000, cr_20100, cr_21100, cr_23000, cr_24000, cw_11000, cw_15000, cw_16000, cw_20000, cw_20001, cw_21000, cw_22000, cw_25000, cw_1000, cw_2000, cw_3000, cw_3003, cw_3006, cw_4000, cw_5000, cw_6000, cw_7000, cw_8000, cw_9000, cw_10000, cw_13500, cw_17000, cw_17100, cw_17103, cw_17106, cw_19000, cw_20100, cw_21100, cw_23000, cw_24000, lc_13500, lc_15000, lc_16000, lc_17000, lc_17100, lc_17103, lc_17106, lc_19000, lc_20000, lc_20001, lc_20100, lc_21000, lc_21100, lc_22000, lc_23000, lc_24000, lc_25000, gd_t, w_eq, c_messageAt g c h1 h2, k2, e, decide_false, if_pos, if_neg]
  have fb := @ff_b (opn N p) (hw N p - N 13015 p).toNat (N 13015 p)
  by_cases hh : N 13015 p ≤ hw N p
  · have se : so N p = ff (opn N p) (hw N p - N 13015 p).toNat (N 13015 p) := by
      unfold so
      refine ff_is (by omega) (by omega) (fun k k1 k2 => ?_) (fun k1 => ff_yes (by omega))
      by_cases kk : k < N 13015 p
      · exact hF k k1 kk
      · exact ff_no (by omega) k2
    rw [lp_ff (fun i => i) (opn N p) (hw N p - N 13015 p).toNat (N 13015 p) (t := if so N p < hw N p then .inl (so N p) else .inr ()) (fun i i1 i2 hi => ?_) (fun g1 g2 => ?_) (fun g1 => ?_) (by omega) rfl]
    · by_cases e : so N p < hw N p
      · rw [if_pos e]; rfl
      · rw [if_neg e]
        show some (hw N p) = some (so N p)
        congr 1; omega
    · show b_X5_stableOffset_10 _ _ _ i = _
      rw [st i (by omega) (by omega), hi]; rfl
    · show b_X5_stableOffset_10 _ _ _ (ff (opn N p) (hw N p - N 13015 p).toNat (N 13015 p)) = _
      rw [st _ (by omega) (by omega), if_pos g2, if_pos (by omega), se]
    · show b_X5_stableOffset_10 _ _ _ (N 13015 p + ((hw N p - N 13015 p).toNat : Int)) = _
      unfold b_X5_stableOffset_10
      rw [if_neg (by omega), if_neg (by omega)]
  · have se : so N p = hw N p := by
      unfold so
      exact ff_is (by omega) (by omega) (fun k k1 k2 => hF k k1 (by omega)) (fun k1 => by omega)
    rw [lp_end (t := .inr ()) (by unfold b_X5_stableOffset_10; rw [if_neg (by omega)])]
    show some (hw N p) = some (so N p)
    rw [se]
/-- the first replica in the in-sync set but one; 3 without one -/
def fisb (N : Nd) (p q : Int) : Int := ff (fun r => decide (bt (N 13014 p) r ∧ r ≠ q)) 3 0
theorem c_firstInSyncBut {C : Cd} {N N0 : Nd} {A : Ad} {p q v : Int} (g : RG N) (c : CC C N) (h1 : 0 ≤ p) (h2 : p < (N 12000 11)) (hv : (v = 0 ∧ q = -1) ∨ (v = 8000 + (3 * p + q))) : p_X5_firstInSyncBut (mk C N0 A) (6000 + p) v = some (if fisb N p q < 3 then 8000 + (3 * p + fisb N p q) else 0) := by
  have s2 := g.s.2.1
  obtain ⟨-, -, c3, -, -, -⟩ := c.p p h1 h2
  obtain ⟨-, -, -, -, -, a6, -⟩ := g.p p h1 h2
  have rr := g.rep h1 h2
  unfold p_X5_firstInSyncBut
  simp (disch := omega) only [aok, up_s, true_and, false_and, and_true, and_false, if_true, if_false, ↓reduceIte, ↓Option.bind_some, Int.reduceEq, Int.reduceNe, Int.reduceLT, Int.reduceLE, gd_true, gd_false, bind_b, q10, eq_self, reduceCtorEq, not_true_eq_false, not_false_eq_true, ne_eq, cr_11000, cr_15000, cr_16000, cr_20000, cr_20001, cr_21000, cr_22000, cr_25000, cr_1000, cr_2000, cr_3000, cr_3003, cr_3006, cr_4000, cr_5000, cr_6000, cr_7000, cr_8000, cr_9000, cr_10000, cr_13500, cr_17000, cr_17100, cr_17103, cr_17106, cr_19000, cr_20100, cr_21100, cr_23000, cr_24000, cw_11000, cw_15000, cw_16000, cw_20000, cw_20001, cw_21000, cw_22000, cw_25000, cw_1000, cw_2000, cw_3000, cw_3003, cw_3006, cw_4000, cw_5000, cw_6000, cw_7000, cw_8000, cw_9000, cw_10000, cw_13500, cw_17000, cw_17100, cw_17103, cw_17106, cw_19000, cw_20100, cw_21100, cw_23000, cw_24000, lc_13500, lc_15000, lc_16000, lc_17000, lc_17100, lc_17103, lc_17106, lc_19000, lc_20000, lc_20001, lc_20100, lc_21000, lc_21100, lc_22000, lc_23000, lc_24000, lc_25000, gd_t, w_eq, c3]
  have st : ∀ i, 0 ≤ i → i < 3 → b_X5_firstInSyncBut_11 3 (23000 + p) (mk C N0 A) v i = if (bt (N 13014 p) i ∧ i ≠ q) then some (.inr (.inl (8000 + (3 * p + i)))) else some (.inl (i + 1)) := by
    intro i i1 i2
    have w1 := c.w p i h1 h2 i1 (by omega)
    unfold b_X5_firstInSyncBut_11
    simp (disch := omega) only [aok, up_s, true_and, false_and, and_true, and_false, if_true, if_false, ↓reduceIte, ↓Option.bind_some, Int.reduceEq, Int.reduceNe, Int.reduceLT, Int.reduceLE, gd_true, gd_false, bind_b, q10, eq_self, reduceCtorEq, not_true_eq_false, not_false_eq_true, ne_eq, cr_11000, cr_15000, cr_16000, cr_20000, cr_20001, cr_21000, cr_22000, cr_25000, cr_1000, cr_2000, cr_3000, cr_3003, cr_3006, cr_4000, cr_5000, cr_6000, cr_7000, cr_8000, cr_9000, cr_10000, cr_13500, cr_17000, cr_17100, cr_17103, cr_17106, cr_19000, cr_20100, cr_21100, cr_23000, cr_24000, cw_11000, cw_15000, cw_16000, cw_20000, cw_20001, cw_21000, cw_22000, cw_25000, cw_1000, cw_2000, cw_3000, cw_3003, cw_3006, cw_4000, cw_5000, cw_6000, cw_7000, cw_8000, cw_9000, cw_10000, cw_13500, cw_17000, cw_17100, cw_17103, cw_17106, cw_19000, cw_20100, cw_21100, cw_23000, cw_24000, lc_13500, lc_15000, lc_16000, lc_17000, lc_17100, lc_17103, lc_17106, lc_19000, lc_20000, lc_20001, lc_20100, lc_21000, lc_21100, lc_22000, lc_23000, lc_24000, lc_25000, gd_t, w_eq, if_pos, w1]
    by_cases e : i < N 13006 (N 13012 p)
    · obtain ⟨r0, r1, r2, r3, r4⟩ := c.r p i h1 h2 i1 (by omega) e
      rw [if_pos e, if_neg (by omega)]
      by_cases e1 : 8000 + (3 * p + i) = v
      · have e3 : i = q := by omega
        subst e3
        simp only [e1, up_s, true_and, false_and, and_true, and_false, if_true, if_false, ↓reduceIte, ↓Option.bind_some, Int.reduceEq, Int.reduceNe, Int.reduceLT, Int.reduceLE, gd_true, gd_false, bind_b, q10, eq_self, reduceCtorEq, not_true_eq_false, not_false_eq_true, ne_eq]
      · have e3 : ¬ i = q := by omega
        by_cases e2 : bt (N 13014 p) i
        · simp (disch := omega) only [aok, up_s, true_and, false_and, and_true, and_false, if_true, if_false, ↓reduceIte, ↓Option.bind_some, Int.reduceEq, Int.reduceNe, Int.reduceLT, Int.reduceLE, gd_true, gd_false, bind_b, q10, eq_self, reduceCtorEq, not_true_eq_false, not_false_eq_true, ne_eq, cr_11000, cr_15000, cr_16000, cr_20000, cr_20001, cr_21000, cr_22000, cr_25000, cr_1000, cr_2000, cr_3000, cr_3003, cr_3006, cr_4000, cr_5000, cr_6000, cr_7000, cr_8000, cr_9000, cr_10000, cr_13500, cr_17000, cr_17100, cr_17103, cr_17106, cr_19000, cr_20100, cr_21100, cr_23000, cr_24000, cw_11000, cw_15000, cw_16000, cw_20000, cw_20001, cw_21000, cw_22000, cw_25000, cw_1000, cw_2000, cw_3000, cw_3003, cw_3006, cw_4000, cw_5000, cw_6000, cw_7000, cw_8000, cw_9000, cw_10000, cw_13500, cw_17000, cw_17100, cw_17103, cw_17106, cw_19000, cw_20100, cw_21100, cw_23000, cw_24000, lc_13500, lc_15000, lc_16000, lc_17000, lc_17100, lc_17103, lc_17106, lc_19000, lc_20000, lc_20001, lc_20100, lc_21000, lc_21100, lc_22000, lc_23000, lc_24000, lc_25000, gd_t, w_eq, r4, e1, e2, e3]
        · simp (disch := omega) only [aok, up_s, true_and, false_and, and_true, and_false, if_true, if_false, ↓reduceIte, ↓Option.bind_some, Int.reduceEq, Int.reduceNe, Int.reduceLT, Int.reduceLE, gd_true, gd_false, bind_b, q10, eq_self, reduceCtorEq, not_true_eq_false, not_false_eq_true, ne_eq, cr_11000, cr_15000, cr_16000, cr_20000, cr_20001, cr_21000, cr_22000, cr_25000, cr_1000, cr_2000, cr_3000, cr_3003, cr_3006, cr_4000, cr_5000, cr_6000, cr_7000, cr_8000, cr_9000, cr_10000, cr_13500, cr_17000, cr_17100, cr_17103, cr_17106, cr_19000, cr_20100, cr_21100, cr_23000, cr_24000, cw_11000, cw_15000, cw_16000, cw_20000, cw_20001, cw_21000, cw_22000, cw_25000, cw_1000, cw_2000, cw_3000, cw_3003, cw_3006, cw_4000, cw_5000, cw_6000, cw_7000, cw_8000, cw_9000, cw_10000, cw_13500, cw_17000, cw_17100, cw_17103, cw_17106, cw_19000, cw_20100, cw_21100, cw_23000, cw_24000, lc_13500, lc_15000, lc_16000, lc_17000, lc_17100, lc_17103, lc_17106, lc_19000, lc_20000, lc_20001, lc_20100, lc_21000, lc_21100, lc_22000, lc_23000, lc_24000, lc_25000, gd_t, w_eq, r4, e1, e2, e3]
    · have e2 : ¬ bt (N 13014 p) i := fun q => e (a6 i i1 (by omega) q)
      simp (disch := omega) only [aok, up_s, true_and, false_and, and_true, and_false, if_true, if_false, ↓reduceIte, ↓Option.bind_some, Int.reduceEq, Int.reduceNe, Int.reduceLT, Int.reduceLE, gd_true, gd_false, bind_b, q10, eq_self, reduceCtorEq, not_true_eq_false, not_false_eq_true, ne_eq, cr_11000, cr_15000, cr_16000, cr_20000, cr_20001, cr_21000, cr_22000, cr_25000, cr_1000, cr_2000, cr_3000, cr_3003, cr_3006, cr_4000, cr_5000, cr_6000, cr_7000, cr_8000, cr_9000, cr_10000, cr_13500, cr_17000, cr_17100, cr_17103, cr_17106, cr_19000, cr_20100, cr_21100, cr_23000, cr_24000, cw_11000, cw_15000, cw_16000, cw_20000, cw_20001, cw_21000, cw_22000, cw_25000, cw_1000, cw_2000, cw_3000, cw_3003, cw_3006, cw_4000, cw_5000, cw_6000, cw_7000, cw_8000, cw_9000, cw_10000, cw_13500, cw_17000, cw_17100, cw_17103, cw_17106, cw_19000, cw_20100, cw_21100, cw_23000, cw_24000, lc_13500, lc_15000, lc_16000, lc_17000, lc_17100, lc_17103, lc_17106, lc_19000, lc_20000, lc_20001, lc_20100, lc_21000, lc_21100, lc_22000, lc_23000, lc_24000, lc_25000, gd_t, w_eq, e, e2]
  have fb := @ff_b (fun r => decide (bt (N 13014 p) r ∧ r ≠ q)) 3 0
  rw [lp_ff (fun i => i) (fun r => decide (bt (N 13014 p) r ∧ r ≠ q)) 3 0 (t := if fisb N p q < 3 then .inl (8000 + (3 * p + fisb N p q)) else .inr ()) (fun i i1 i2 hi => ?_) (fun g1 g2 => ?_) (fun g1 => ?_) (by omega) rfl]
  · by_cases e : fisb N p q < 3
    · rw [if_pos e, if_pos e]; rfl
    · rw [if_neg e, if_neg e]; rfl
  · show b_X5_firstInSyncBut_11 _ _ _ _ i = _
    rw [st i i1 (by omega), if_neg (of_decide_eq_false hi)]
  · show b_X5_firstInSyncBut_11 _ _ _ _ (fisb N p q) = _
    have g3 : fisb N p q < 3 := by unfold fisb; omega
    have g4 : bt (N 13014 p) (fisb N p q) = true ∧ fisb N p q ≠ q := of_decide_eq_true g2
    rw [st _ (by unfold fisb; omega) g3, if_pos g4, if_pos g3]
  · show b_X5_firstInSyncBut_11 _ _ _ _ (0 + ((3 : Nat) : Int)) = _
    unfold b_X5_firstInSyncBut_11
    rw [if_neg (by omega), if_neg (by unfold fisb; omega)]
theorem fisb_low {N : Nd} {p : Int} (h : bt (N 13014 p) 0 ∨ bt (N 13014 p) 1 ∨ bt (N 13014 p) 2) : fisb N p (-1) = low (N 13014 p) := by
  unfold fisb low
  by_cases h0 : bt (N 13014 p) 0
  · rw [if_pos h0]
    exact ff_is (by omega) (by omega) (fun k k1 k2 => by omega) (fun _ => by simp [h0])
  · rw [if_neg h0]
    by_cases h1 : bt (N 13014 p) 1
    · rw [if_pos h1]
      refine ff_is (by omega) (by omega) (fun k k1 k2 => ?_) (fun _ => by simp [h1])
      have e : k = 0 := by omega
      subst e; simp [h0]
    · rw [if_neg h1]
      have h2 : bt (N 13014 p) 2 := by rcases h with h | h | h; exact absurd h h0; exact absurd h h1; exact h
      refine ff_is (by omega) (by omega) (fun k k1 k2 => ?_) (fun _ => by simp [h2])
      have e : k = 0 ∨ k = 1 := by omega
      rcases e with e | e <;> subst e
      · simp [h0]
      · simp [h1]
theorem c_logEnd {C : Cd} {N N0 : Nd} {A : Ad} {p : Int} (g : RG N) (c : CC C N) (h1 : 0 ≤ p) (h2 : p < (N 12000 11)) : p_X5_logEnd (mk C N0 A) (6000 + p) = some (eol N p) := by
  have s2 := g.s.2.1
  obtain ⟨-, -, -, -, c5, -⟩ := c.p p h1 h2
  obtain ⟨-, a2, -, -, -, a6, a7⟩ := g.p p h1 h2
  have lb := RP.lead g.t g.p h1 h2
  have rr := g.rep h1 h2
  have lw := @low_b (N 13014 p)
  have lt : bt (N 13014 p) (low (N 13014 p)) := by
    unfold low
    by_cases h0 : bt (N 13014 p) 0
    · rw [if_pos h0]; exact h0
    · rw [if_neg h0]
      by_cases h3 : bt (N 13014 p) 1
      · rw [if_pos h3]; exact h3
      · rw [if_neg h3]
        rcases a7 with h | h | h
        · exact absurd h h0
        · exact absurd h h3
        · exact h
  unfold p_X5_logEnd eol
  by_cases e : N 13013 p < 0
  · have lr := a6 _ lw.1 lw.2 lt
    obtain ⟨-, -, r2, -⟩ := c.r p _ h1 h2 lw.1 lw.2 lr
    simp (disch := omega) only [aok, up_s, true_and, false_and, and_true, and_false, if_true, if_false, ↓reduceIte, ↓Option.bind_some, Int.reduceEq, Int.reduceNe, Int.reduceLT, Int.reduceLE, gd_true, gd_false, bind_b, q10, eq_self, reduceCtorEq, not_true_eq_false, not_false_eq_true, ne_eq, cr_11000, cr_15000, cr_16000, cr_20000, cr_20001, cr_21000, cr_22000, cr_25000, cr_1000, cr_2000, cr_3000, cr_3003, cr_3006, cr_4000, cr_5000, cr_6000, cr_7000, cr_8000, cr_9000, cr_10000, cr_13500, cr_17000, cr_17100, cr_17103, cr_17106, cr_19000, cr_20100, cr_21100, cr_23000, cr_24000, cw_11000, cw_15000, cw_16000, cw_20000, cw_20001, cw_21000, cw_22000, cw_25000, cw_1000, cw_2000, cw_3000, cw_3003, cw_3006, cw_4000, cw_5000, cw_6000, cw_7000, cw_8000, cw_9000, cw_10000, cw_13500, cw_17000, cw_17100, cw_17103, cw_17106, cw_19000, cw_20100, cw_21100, cw_23000, cw_24000, lc_13500, lc_15000, lc_16000, lc_17000, lc_17100, lc_17103, lc_17106, lc_19000, lc_20000, lc_20001, lc_20100, lc_21000, lc_21100, lc_22000, lc_23000, lc_24000, lc_25000, gd_t, w_eq, c_firstInSyncBut (v := 0) (q := -1) g c h1 h2 (Or.inl ⟨rfl, rfl⟩), fisb_low a7, lw.2, c5, e, r2, if_neg]
  · obtain ⟨-, -, r2, -⟩ := c.r p _ h1 h2 (by omega) (by omega) a2.2
    simp (disch := omega) only [aok, up_s, true_and, false_and, and_true, and_false, if_true, if_false, ↓reduceIte, ↓Option.bind_some, Int.reduceEq, Int.reduceNe, Int.reduceLT, Int.reduceLE, gd_true, gd_false, bind_b, q10, eq_self, reduceCtorEq, not_true_eq_false, not_false_eq_true, ne_eq, cr_11000, cr_15000, cr_16000, cr_20000, cr_20001, cr_21000, cr_22000, cr_25000, cr_1000, cr_2000, cr_3000, cr_3003, cr_3006, cr_4000, cr_5000, cr_6000, cr_7000, cr_8000, cr_9000, cr_10000, cr_13500, cr_17000, cr_17100, cr_17103, cr_17106, cr_19000, cr_20100, cr_21100, cr_23000, cr_24000, cw_11000, cw_15000, cw_16000, cw_20000, cw_20001, cw_21000, cw_22000, cw_25000, cw_1000, cw_2000, cw_3000, cw_3003, cw_3006, cw_4000, cw_5000, cw_6000, cw_7000, cw_8000, cw_9000, cw_10000, cw_13500, cw_17000, cw_17100, cw_17103, cw_17106, cw_19000, cw_20100, cw_21100, cw_23000, cw_24000, lc_13500, lc_15000, lc_16000, lc_17000, lc_17100, lc_17103, lc_17106, lc_19000, lc_20000, lc_20001, lc_20100, lc_21000, lc_21100, lc_22000, lc_23000, lc_24000, lc_25000, gd_t, w_eq, c5, e, r2, if_neg]
theorem c_replicaOn {C : Cd} {N N0 : Nd} {A : Ad} {p b : Int} (g : RG N) (c : CC C N) (h1 : 0 ≤ p) (h2 : p < (N 12000 11)) : p_X5_replicaOn (mk C N0 A) (6000 + p) b = some (if ff (fun r => decide (r < N 13006 (N 13012 p) ∧ brk N p r = b)) 3 0 < 3 then 8000 + (3 * p + ff (fun r => decide (r < N 13006 (N 13012 p) ∧ brk N p r = b)) 3 0) else 0) := by
  have s2 := g.s.2.1
  obtain ⟨-, -, c3, -, -, -⟩ := c.p p h1 h2
  have rr := g.rep h1 h2
  unfold p_X5_replicaOn
  simp (disch := omega) only [aok, up_s, true_and, false_and, and_true, and_false, if_true, if_false, ↓reduceIte, ↓Option.bind_some, Int.reduceEq, Int.reduceNe, Int.reduceLT, Int.reduceLE, gd_true, gd_false, bind_b, q10, eq_self, reduceCtorEq, not_true_eq_false, not_false_eq_true, ne_eq, cr_11000, cr_15000, cr_16000, cr_20000, cr_20001, cr_21000, cr_22000, cr_25000, cr_1000, cr_2000, cr_3000, cr_3003, cr_3006, cr_4000, cr_5000, cr_6000, cr_7000, cr_8000, cr_9000, cr_10000, cr_13500, cr_17000, cr_17100, cr_17103, cr_17106, cr_19000, cr_20100, cr_21100, cr_23000, cr_24000, cw_11000, cw_15000, cw_16000, cw_20000, cw_20001, cw_21000, cw_22000, cw_25000, cw_1000, cw_2000, cw_3000, cw_3003, cw_3006, cw_4000, cw_5000, cw_6000, cw_7000, cw_8000, cw_9000, cw_10000, cw_13500, cw_17000, cw_17100, cw_17103, cw_17106, cw_19000, cw_20100, cw_21100, cw_23000, cw_24000, lc_13500, lc_15000, lc_16000, lc_17000, lc_17100, lc_17103, lc_17106, lc_19000, lc_20000, lc_20001, lc_20100, lc_21000, lc_21100, lc_22000, lc_23000, lc_24000, lc_25000, gd_t, w_eq, c3]
  have st : ∀ i, 0 ≤ i → i < 3 → b_X5_replicaOn_11 3 (23000 + p) (mk C N0 A) b i = if (i < N 13006 (N 13012 p) ∧ brk N p i = b) then some (.inr (.inl (8000 + (3 * p + i)))) else some (.inl (i + 1)) := by
    intro i i1 i2
    have w1 := c.w p i h1 h2 i1 (by omega)
    unfold b_X5_replicaOn_11
    simp (disch := omega) only [aok, up_s, true_and, false_and, and_true, and_false, if_true, if_false, ↓reduceIte, ↓Option.bind_some, Int.reduceEq, Int.reduceNe, Int.reduceLT, Int.reduceLE, gd_true, gd_false, bind_b, q10, eq_self, reduceCtorEq, not_true_eq_false, not_false_eq_true, ne_eq, cr_11000, cr_15000, cr_16000, cr_20000, cr_20001, cr_21000, cr_22000, cr_25000, cr_1000, cr_2000, cr_3000, cr_3003, cr_3006, cr_4000, cr_5000, cr_6000, cr_7000, cr_8000, cr_9000, cr_10000, cr_13500, cr_17000, cr_17100, cr_17103, cr_17106, cr_19000, cr_20100, cr_21100, cr_23000, cr_24000, cw_11000, cw_15000, cw_16000, cw_20000, cw_20001, cw_21000, cw_22000, cw_25000, cw_1000, cw_2000, cw_3000, cw_3003, cw_3006, cw_4000, cw_5000, cw_6000, cw_7000, cw_8000, cw_9000, cw_10000, cw_13500, cw_17000, cw_17100, cw_17103, cw_17106, cw_19000, cw_20100, cw_21100, cw_23000, cw_24000, lc_13500, lc_15000, lc_16000, lc_17000, lc_17100, lc_17103, lc_17106, lc_19000, lc_20000, lc_20001, lc_20100, lc_21000, lc_21100, lc_22000, lc_23000, lc_24000, lc_25000, gd_t, w_eq, if_pos, w1]
    by_cases e : i < N 13006 (N 13012 p)
    · obtain ⟨r0, r1, r2, r3, r4⟩ := c.r p i h1 h2 i1 (by omega) e
      rw [if_pos e, if_neg (by omega)]
      simp (disch := omega) only [aok, up_s, true_and, false_and, and_true, and_false, if_true, if_false, ↓reduceIte, ↓Option.bind_some, Int.reduceEq, Int.reduceNe, Int.reduceLT, Int.reduceLE, gd_true, gd_false, bind_b, q10, eq_self, reduceCtorEq, not_true_eq_false, not_false_eq_true, ne_eq, cr_11000, cr_15000, cr_16000, cr_20000, cr_20001, cr_21000, cr_22000, cr_25000, cr_1000, cr_2000, cr_3000, cr_3003, cr_3006, cr_4000, cr_5000, cr_6000, cr_7000, cr_8000, cr_9000, cr_10000, cr_13500, cr_17000, cr_17100, cr_17103, cr_17106, cr_19000, cr_20100, cr_21100, cr_23000, cr_24000, cw_11000, cw_15000, cw_16000, cw_20000, cw_20001, cw_21000, cw_22000, cw_25000, cw_1000, cw_2000, cw_3000, cw_3003, cw_3006, cw_4000, cw_5000, cw_6000, cw_7000, cw_8000, cw_9000, cw_10000, cw_13500, cw_17000, cw_17100, cw_17103, cw_17106, cw_19000, cw_20100, cw_21100, cw_23000, cw_24000, lc_13500, lc_15000, lc_16000, lc_17000, lc_17100, lc_17103, lc_17106, lc_19000, lc_20000, lc_20001, lc_20100, lc_21000, lc_21100, lc_22000, lc_23000, lc_24000, lc_25000, gd_t, w_eq, r1]
      by_cases e2 : brk N p i = b
      · rw [if_pos e2, if_pos ⟨e, e2⟩]
      · rw [if_neg e2, if_neg (fun x => e2 x.2)]
    · rw [if_neg e, if_pos rfl, if_neg (fun x => e x.1)]
  have fb := @ff_b (fun r => decide (r < N 13006 (N 13012 p) ∧ brk N p r = b)) 3 0
  generalize hfr : ff (fun r => decide (r < N 13006 (N 13012 p) ∧ brk N p r = b)) 3 0 = fr at fb
  rw [lp_ff (fun i => i) (fun r => decide (r < N 13006 (N 13012 p) ∧ brk N p r = b)) 3 0 (t := if fr < 3 then .inl (8000 + (3 * p + fr)) else .inr ()) (fun i i1 i2 hi => ?_) (fun g1 g2 => ?_) (fun g1 => ?_) (by omega) rfl]
  · by_cases e : fr < 3
    · rw [if_pos e, if_pos e]; rfl
    · rw [if_neg e, if_neg e]; rfl
  · show b_X5_replicaOn_11 _ _ _ _ i = _
    rw [st i i1 (by omega), if_neg (of_decide_eq_false hi)]
  · rw [hfr] at g1 g2 ⊢
    show b_X5_replicaOn_11 _ _ _ _ fr = _
    rw [st _ (by omega) (by omega), if_pos (of_decide_eq_true g2), if_pos (by omega)]
  · rw [hfr] at g1
    show b_X5_replicaOn_11 _ _ _ _ (0 + ((3 : Nat) : Int)) = _
    unfold b_X5_replicaOn_11
    rw [if_neg (by omega), if_neg (by omega)]
/-- nothing OPEN stands below a first offset -/
def NF (N : Nd) : Prop := ∀ p k, 0 ≤ p → p < (N 12000 11) → 0 ≤ k → k < N 13015 p → opn N p k = false
theorem c_canBeRead {C : Cd} {N N0 : Nd} {A : Ad} {m : Int} (g : RG N) (c : CC C N) (hF : NF N) (h1 : 0 ≤ m) (h2 : m < (N 12000 19)) : p_X4_canBeRead (mk C N0 A) (5000 + m) = some (if canR N m then 1 else 0) := by
  have s5 := g.s.2.2.2.2.1
  obtain ⟨-, a2, -⟩ := g.m m h1 h2
  obtain ⟨-, -, c2, -, -, -, -, c7, -, c9, -⟩ := c.m _ h1 h2
  unfold p_X4_canBeRead
  rw [c_isPOC g c h1 h2]
  simp (disch := omega) only [aok, up_s, true_and, false_and, and_true, and_false, if_true, if_false, ↓reduceIte, ↓Option.bind_some, Int.reduceEq, Int.reduceNe, Int.reduceLT, Int.reduceLE, gd_true, gd_false, bind_b, q10, eq_self, reduceCtorEq, not_true_eq_false, not_false_eq_true, ne_eq, cr_11000, cr_15000, cr_16000, cr_20000, cr_20001, cr_21000, cr_22000, cr_25000, cr_1000, cr_2000, cr_3000, cr_3003, cr_3006, cr_4000, cr_5000, cr_6000, cr_7000, cr_8000, cr_9000, cr_10000, cr_13500, cr_17000, cr_17100, cr_17103, cr_17106, cr_19000, cr_20100, cr_21100, cr_23000, cr_24000, cw_11000, cw_15000, cw_16000, cw_20000, cw_20001, cw_21000, cw_22000, cw_25000, cw_1000, cw_2000, cw_3000, cw_3003, cw_3006, cw_4000, cw_5000, cw_6000, cw_7000, cw_8000, cw_9000, cw_10000, cw_13500, cw_17000, cw_17100, cw_17103, cw_17106, cw_19000, cw_20100, cw_21100, cw_23000, cw_24000, lc_13500, lc_15000, lc_16000, lc_17000, lc_17100, lc_17103, lc_17106, lc_19000, lc_20000, lc_20001, lc_20100, lc_21000, lc_21100, lc_22000, lc_23000, lc_24000, lc_25000, gd_t, w_eq, c7, c2, c9, c_stableOffset g c a2.1 a2.2 (fun k => hF _ k a2.1 a2.2)]
  by_cases e1 : N 13024 m = 1
  · rw [if_pos e1]
    by_cases e3 : N 13025 m = 0 ∨ N 13025 m = 2
    · rw [if_pos e3]
      by_cases e2 : N 13026 m < so N (N 13021 m)
      · rw [if_pos e2, if_pos ⟨e1, e2, e3⟩]
      · rw [if_neg e2, if_neg (fun q => e2 q.2.1)]
    · rw [if_neg e3, if_neg (fun q => e3 q.2.2)]
  · rw [if_neg e1, if_neg (fun q => e1 q.1)]
theorem c_isPlainCutOf {C : Cd} {N N0 : Nd} {A : Ad} {m x p : Int} (g : RG N) (c : CC C N) (h1 : 0 ≤ m) (h2 : m < (N 12000 19)) : p_X4_isPlainCutOf (mk C N0 A) (5000 + m) (7000 + x) (6000 + p) = some (if pcut N x p m then 1 else 0) := by
  have s5 := g.s.2.2.2.2.1
  obtain ⟨-, c1, c2, -, -, -, -, c7, c8, -, -⟩ := c.m _ h1 h2
  unfold p_X4_isPlainCutOf
  simp (disch := omega) only [aok, up_s, true_and, false_and, and_true, and_false, if_true, if_false, ↓reduceIte, ↓Option.bind_some, Int.reduceEq, Int.reduceNe, Int.reduceLT, Int.reduceLE, gd_true, gd_false, bind_b, q10, eq_self, reduceCtorEq, not_true_eq_false, not_false_eq_true, ne_eq, cr_11000, cr_15000, cr_16000, cr_20000, cr_20001, cr_21000, cr_22000, cr_25000, cr_1000, cr_2000, cr_3000, cr_3003, cr_3006, cr_4000, cr_5000, cr_6000, cr_7000, cr_8000, cr_9000, cr_10000, cr_13500, cr_17000, cr_17100, cr_17103, cr_17106, cr_19000, cr_20100, cr_21100, cr_23000, cr_24000, cw_11000, cw_15000, cw_16000, cw_20000, cw_20001, cw_21000, cw_22000, cw_25000, cw_1000, cw_2000, cw_3000, cw_3003, cw_3006, cw_4000, cw_5000, cw_6000, cw_7000, cw_8000, cw_9000, cw_10000, cw_13500, cw_17000, cw_17100, cw_17103, cw_17106, cw_19000, cw_20100, cw_21100, cw_23000, cw_24000, lc_13500, lc_15000, lc_16000, lc_17000, lc_17100, lc_17103, lc_17106, lc_19000, lc_20000, lc_20001, lc_20100, lc_21000, lc_21100, lc_22000, lc_23000, lc_24000, lc_25000, gd_t, w_eq, c7, c2, c1, c8]
  by_cases e1 : N 13024 m = 2
  · rw [if_pos e1]
    by_cases e2 : N 13025 m = 0
    · rw [if_pos e2]
      by_cases e3 : N 13020 m = x
      · rw [if_pos (by omega)]
        by_cases e4 : N 13021 m = p
        · rw [if_pos (by omega), if_pos ⟨e1, e2, e3, e4⟩]
        · rw [if_neg (by omega), if_neg (fun q => e4 q.2.2.2)]
      · rw [if_neg (by omega), if_neg (fun q => e3 q.2.2.1)]
    · rw [if_neg e2, if_neg (fun q => e2 q.2.1)]
  · rw [if_neg e1, if_neg (fun q => e1 q.1)]
theorem CC.msg {C : Cd} {N : Nd} (c : CC C N) {m : Int} (h1 : 0 ≤ m) (h2 : m < (N 12000 19)) (h3 : m < 150) : C 20000 0 m = 5000 + m := by
  rw [c.i.2.2.2.2 m h1 h3, if_pos h2]
theorem c_plainCutCount {C : Cd} {N N0 : Nd} {A : Ad} {x p : Int} (g : RG N) (c : CC C N) : p_X10_plainCutCount (mk C N0 A) 11000 (7000 + x) (6000 + p) = some (cuts N x p) := by
  have s5 := g.s.2.2.2.2.1
  obtain ⟨⟨-, -, -, -, b4, -⟩, -, -, -, -, b10, -⟩ := c.b
  unfold p_X10_plainCutCount
  rw [lp_su (fun b i => (b, i)) (fun m => if pcut N x p m then 1 else 0) 0 ((N 12000 19)).toNat 1 (fun i _ _ => ite_b) (by omega) (fun i a i1 i2 a1 a2 => ?_) (t := cuts N x p) ?_ (by omega) rfl]
  · rfl
  · unfold b_X10_plainCutCount_5
    simp (disch := omega) only [aok, up_s, true_and, false_and, and_true, and_false, if_true, if_false, ↓reduceIte, ↓Option.bind_some, Int.reduceEq, Int.reduceNe, Int.reduceLT, Int.reduceLE, gd_true, gd_false, bind_b, q10, eq_self, reduceCtorEq, not_true_eq_false, not_false_eq_true, ne_eq, cr_11000, cr_15000, cr_16000, cr_20000, cr_20001, cr_21000, cr_22000, cr_25000, cr_1000, cr_2000, cr_3000, cr_3003, cr_3006, cr_4000, cr_5000, cr_6000, cr_7000, cr_8000, cr_9000, cr_10000, cr_13500, cr_17000, cr_17100, cr_17103, cr_17106, cr_19000, cr_20100, cr_21100, cr_23000, cr_24000, cw_11000, cw_15000, cw_16000, cw_20000, cw_20001, cw_21000, cw_22000, cw_25000, cw_1000, cw_2000, cw_3000, cw_3003, cw_3006, cw_4000, cw_5000, cw_6000, cw_7000, cw_8000, cw_9000, cw_10000, cw_13500, cw_17000, cw_17100, cw_17103, cw_17106, cw_19000, cw_20100, cw_21100, cw_23000, cw_24000, lc_13500, lc_15000, lc_16000, lc_17000, lc_17100, lc_17103, lc_17106, lc_19000, lc_20000, lc_20001, lc_20100, lc_21000, lc_21100, lc_22000, lc_23000, lc_24000, lc_25000, gd_t, w_eq, b10, if_neg]
    rfl
  · unfold b_X10_plainCutCount_5
    simp (disch := omega) only [aok, up_s, true_and, false_and, and_true, and_false, if_true, if_false, ↓reduceIte, ↓Option.bind_some, Int.reduceEq, Int.reduceNe, Int.reduceLT, Int.reduceLE, gd_true, gd_false, bind_b, q10, eq_self, reduceCtorEq, not_true_eq_false, not_false_eq_true, ne_eq, cr_11000, cr_15000, cr_16000, cr_20000, cr_20001, cr_21000, cr_22000, cr_25000, cr_1000, cr_2000, cr_3000, cr_3003, cr_3006, cr_4000, cr_5000, cr_6000, cr_7000, cr_8000, cr_9000, cr_10000, cr_13500, cr_17000, cr_17100, cr_17103, cr_17106, cr_19000, cr_20100, cr_21100, cr_23000, cr_24000, cw_11000, cw_15000, cw_16000, cw_20000, cw_20001, cw_21000, cw_22000, cw_25000, cw_1000, cw_2000, cw_3000, cw_3003, cw_3006, cw_4000, cw_5000, cw_6000, cw_7000, cw_8000, cw_9000, cw_10000, cw_13500, cw_17000, cw_17100, cw_17103, cw_17106, cw_19000, cw_20100, cw_21100, cw_23000, cw_24000, lc_13500, lc_15000, lc_16000, lc_17000, lc_17100, lc_17103, lc_17106, lc_19000, lc_20000, lc_20001, lc_20100, lc_21000, lc_21100, lc_22000, lc_23000, lc_24000, lc_25000, gd_t, w_eq, b4, b10, if_pos, if_neg, c.msg, c_isPlainCutOf g c]
    by_cases e : pcut N x p i
    · rw [if_pos e] at a2 ⊢
      rw [if_pos e]
    · rw [if_neg e, if_neg e, Int.add_zero]
theorem c_canAppend {C : Cd} {N N0 : Nd} {A : Ad} {x p : Int} (g : RG N) (c : CC C N) (h1 : 0 ≤ p) (h2 : p < (N 12000 11)) : p_X10_canAppend (mk C N0 A) 11000 (7000 + x) (6000 + p) = some (if (0 ≤ N 13013 p ∧ eol N p < 60) ∧ cuts N x p = 0 then 1 else 0) := by
  have s2 := g.s.2.1
  obtain ⟨-, -, -, -, c5, -⟩ := c.p p h1 h2
  obtain ⟨-, a2, -⟩ := g.p p h1 h2
  have lb := RP.lead g.t g.p h1 h2
  unfold p_X10_canAppend
  rw [c_plainCutCount g c, Option.bind_some]
  simp (disch := omega) only [aok, up_s, true_and, false_and, and_true, and_false, if_true, if_false, ↓reduceIte, ↓Option.bind_some, Int.reduceEq, Int.reduceNe, Int.reduceLT, Int.reduceLE, gd_true, gd_false, bind_b, q10, eq_self, reduceCtorEq, not_true_eq_false, not_false_eq_true, ne_eq, cr_11000, cr_15000, cr_16000, cr_20000, cr_20001, cr_21000, cr_22000, cr_25000, cr_1000, cr_2000, cr_3000, cr_3003, cr_3006, cr_4000, cr_5000, cr_6000, cr_7000, cr_8000, cr_9000, cr_10000, cr_13500, cr_17000, cr_17100, cr_17103, cr_17106, cr_19000, cr_20100, cr_21100, cr_23000, cr_24000, cw_11000, cw_15000, cw_16000, cw_20000, cw_20001, cw_21000, cw_22000, cw_25000, cw_1000, cw_2000, cw_3000, cw_3003, cw_3006, cw_4000, cw_5000, cw_6000, cw_7000, cw_8000, cw_9000, cw_10000, cw_13500, cw_17000, cw_17100, cw_17103, cw_17106, cw_19000, cw_20100, cw_21100, cw_23000, cw_24000, lc_13500, lc_15000, lc_16000, lc_17000, lc_17100, lc_17103, lc_17106, lc_19000, lc_20000, lc_20001, lc_20100, lc_21000, lc_21100, lc_22000, lc_23000, lc_24000, lc_25000, gd_t, w_eq, c5, if_neg]
  by_cases e : N 13013 p < 0
  · rw [if_pos e, if_pos rfl, if_neg (by omega)]
  · obtain ⟨-, -, r2, -⟩ := c.r p _ h1 h2 (by omega) (by omega) a2.2
    rw [if_neg e, if_neg (by omega)]
    have ee := eol_lead (N := N) (p := p) (by omega)
    simp (disch := omega) only [aok, up_s, true_and, false_and, and_true, and_false, if_true, if_false, ↓reduceIte, ↓Option.bind_some, Int.reduceEq, Int.reduceNe, Int.reduceLT, Int.reduceLE, gd_true, gd_false, bind_b, q10, eq_self, reduceCtorEq, not_true_eq_false, not_false_eq_true, ne_eq, cr_11000, cr_15000, cr_16000, cr_20000, cr_20001, cr_21000, cr_22000, cr_25000, cr_1000, cr_2000, cr_3000, cr_3003, cr_3006, cr_4000, cr_5000, cr_6000, cr_7000, cr_8000, cr_9000, cr_10000, cr_13500, cr_17000, cr_17100, cr_17103, cr_17106, cr_19000, cr_20100, cr_21100, cr_23000, cr_24000, cw_11000, cw_15000, cw_16000, cw_20000, cw_20001, cw_21000, cw_22000, cw_25000, cw_1000, cw_2000, cw_3000, cw_3003, cw_3006, cw_4000, cw_5000, cw_6000, cw_7000, cw_8000, cw_9000, cw_10000, cw_13500, cw_17000, cw_17100, cw_17103, cw_17106, cw_19000, cw_20100, cw_21100, cw_23000, cw_24000, lc_13500, lc_15000, lc_16000, lc_17000, lc_17100, lc_17103, lc_17106, lc_19000, lc_20000, lc_20001, lc_20100, lc_21000, lc_21100, lc_22000, lc_23000, lc_24000, lc_25000, gd_t, w_eq, r2, ← ee]
    by_cases e2 : eol N p < 60
    · rw [if_pos e2]
      by_cases e3 : cuts N x p = 0
      · rw [if_pos e3, if_pos ⟨⟨by omega, e2⟩, e3⟩]
      · rw [if_neg e3, if_neg (fun q => e3 q.2)]
    · rw [if_neg e2, if_neg (fun q => e2 q.1.2)]
