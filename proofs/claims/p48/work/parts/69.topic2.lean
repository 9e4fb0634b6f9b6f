/-! PURE PART, 69: topic, both sides -/
theorem c_makePart {C : Cd} {N0 : Nd} {A : Ad} {p t k nw' r : Int} (p1 : 0 ≤ p) (p2 : p < 9) (t1 : 0 ≤ t) (t2 : t < 3) (k1 : 0 ≤ k) (k2 : k < 3) (r1 : 1 ≤ r) (r2 : r ≤ 3) (b7 : C 11000 0 7 = p) (b15 : C 11000 0 15 = nw') (b1 : C 11000 0 1 = 21000) (hT2 : C 10000 t 2 = r) (hT0 : C 10000 t 0 = t) (hT4 : C 10000 t 4 = 21100 + t) (h6 : A.1 (6000 + p) = 0) (hA : A.1 (23000 + p) = 0 ∧ A.1 (20100 + p) = 0 ∧ ∀ q, 0 ≤ q → q < 3 → A.1 (8000 + (3 * p + q)) = 0) :
    ∃ C' A', p_X10_makePartition (mk C N0 A) 11000 (10000 + t) k = some (mk C' N0 A') ∧ (C' 6000 p 0 = p ∧ C' 6000 p 1 = 10000 + t ∧ C' 6000 p 2 = 23000 + p ∧ C' 6000 p 3 = 20100 + p ∧ C' 6000 p 4 = 8000 + 3 * p ∧ C' 6000 p 5 = 0) ∧ (∀ i, C' 20100 p i = 0) ∧ (∀ q, 0 ≤ q → q < 3 → C' 23000 p q = if q < r then 8000 + (3 * p + q) else 0) ∧
      (∀ q, 0 ≤ q → q < r → C' 8000 (3 * p + q) 0 = q ∧ C' 8000 (3 * p + q) 1 = (t + k + q) % 3 ∧ C' 8000 (3 * p + q) 2 = 0 ∧ C' 8000 (3 * p + q) 3 = nw' ∧ C' 8000 (3 * p + q) 4 = 1) ∧ (C' 21100 t k = 6000 + p ∧ C' 21000 0 p = 6000 + p ∧ C' 11000 0 7 = p + 1) ∧
      (∀ b i j, ¬ (b = 6000 ∧ i = p) → ¬ (b = 23000 ∧ i = p) → ¬ (b = 20100 ∧ i = p) → ¬ (b = 8000 ∧ 3 * p ≤ i ∧ i < 3 * p + 3) → ¬ (b = 21100 ∧ i = t ∧ j = k) → ¬ (b = 21000 ∧ i = 0 ∧ j = p) → ¬ (b = 11000 ∧ i = 0 ∧ j = 7) → C' b i j = C b i j) ∧
      (∀ a, a ≠ 6000 + p → a ≠ 23000 + p → a ≠ 20100 + p → ¬ (8000 + 3 * p ≤ a ∧ a < 8000 + 3 * p + 3) → A'.1 a = A.1 a) := by
  have z7 : zq C 6000 p 11000 0 7 = p := by rw [zq_s, if_neg (by omega)]; exact b7
  have z15 : zq C 6000 p 11000 0 15 = nw' := by rw [zq_s, if_neg (by omega)]; exact b15
  obtain ⟨C1, A1, i1, i2, i3, i4, i5, i6, i7⟩ := c_partInit (C := zq C 6000 p) (N0 := N0) (A := alA A (6000 + p) 6) (p := p) (t := t) (k := k) (nw' := nw') (r := r) p1 p2 t1 t2 k1 k2 r1 r2 (by rw [zq_s, if_neg (by omega)]; exact hT2) (by rw [zq_s, if_neg (by omega)]; exact hT0) ⟨by rw [ad_al (by omega)]; exact hA.1, by rw [ad_al (by omega)]; exact hA.2.1, fun q q1 q2 => by rw [ad_al (by omega)]; exact hA.2.2 q q1 q2⟩
  have g4 : C1 10000 t 4 = 21100 + t := by rw [i6 _ _ _ (by omega) (by omega) (by omega) (by omega), zq_s, if_neg (by omega)]; exact hT4
  have g7 : C1 11000 0 7 = p := by rw [i6 _ _ _ (by omega) (by omega) (by omega) (by omega)]; exact z7
  have g1 : C1 11000 0 1 = 21000 := by rw [i6 _ _ _ (by omega) (by omega) (by omega) (by omega), zq_s, if_neg (by omega)]; exact b1
  have wp : w (p + 1) = p + 1 := w_eq (by omega) (by omega)
  refine ⟨uq (uq (uq C1 21100 t k (6000 + p)) 21000 0 p (6000 + p)) 11000 0 7 (p + 1), A1, ?_, ?_, fun i => ?_, fun q q1 q2 => ?_, fun q q1 q2 => ?_, ?_, fun b i j b1 b2 b3 b4 b5 b6 b7 => ?_, fun a a1 a2 a3 a4 => ?_⟩
  · unfold p_X10_makePartition
    simp (disch := first | omega | assumption) only [aok, up_s, true_and, false_and, and_true, and_false, if_true, if_false, ↓reduceIte, ↓Option.bind_some, Int.reduceEq, Int.reduceNe, Int.reduceLT, Int.reduceLE, gd_true, gd_false, bind_b, q10, eq_self, reduceCtorEq, not_true_eq_false, not_false_eq_true, ne_eq, cr_11000, cr_15000, cr_16000, cr_20000, cr_20001, cr_21000, cr_22000, cr_25000, cr_1000, cr_2000, cr_3000, cr_3003, cr_3006, cr_4000, cr_5000, cr_6000, cr_7000, cr_8000, cr_9000, cr_10000, cr_13500, cr_17000, cr_17100, cr_17103, cr_17106, cr_19000, cr_20100, cr_21100, cr_23000, cr_24000, cw_11000, cw_15000, cw_16000, cw_20000, cw_20001, cw_21000, cw_22000, cw_25000, cw_1000, cw_2000, cw_3000, cw_3003, cw_3006, cw_4000, cw_5000, cw_6000, cw_7000, cw_8000, cw_9000, cw_10000, cw_13500, cw_17000, cw_17100, cw_17103, cw_17106, cw_19000, cw_20100, cw_21100, cw_23000, cw_24000, lc_13500, lc_15000, lc_16000, lc_17000, lc_17100, lc_17103, lc_17106, lc_19000, lc_20000, lc_20001, lc_20100, lc_21000, lc_21100, lc_22000, lc_23000, lc_24000, lc_25000, gd_t, w_eq, b7, p2, k2, al_6000, z7, z15, i1, g4, uq_s, g7, g1, wp]
  · simp only [uq_s, up_s, true_and, false_and, and_true, and_false, if_true, if_false, ↓reduceIte, ↓Option.bind_some, Int.reduceEq, Int.reduceNe, Int.reduceLT, Int.reduceLE, gd_true, gd_false, bind_b, q10, eq_self, reduceCtorEq, not_true_eq_false, not_false_eq_true, ne_eq]
    exact i2
  · simp only [uq_s, up_s, true_and, false_and, and_true, and_false, if_true, if_false, ↓reduceIte, ↓Option.bind_some, Int.reduceEq, Int.reduceNe, Int.reduceLT, Int.reduceLE, gd_true, gd_false, bind_b, q10, eq_self, reduceCtorEq, not_true_eq_false, not_false_eq_true, ne_eq]
    exact i3 i
  · simp only [uq_s, up_s, true_and, false_and, and_true, and_false, if_true, if_false, ↓reduceIte, ↓Option.bind_some, Int.reduceEq, Int.reduceNe, Int.reduceLT, Int.reduceLE, gd_true, gd_false, bind_b, q10, eq_self, reduceCtorEq, not_true_eq_false, not_false_eq_true, ne_eq]
    exact i4 q q1 q2
  · simp only [uq_s, up_s, true_and, false_and, and_true, and_false, if_true, if_false, ↓reduceIte, ↓Option.bind_some, Int.reduceEq, Int.reduceNe, Int.reduceLT, Int.reduceLE, gd_true, gd_false, bind_b, q10, eq_self, reduceCtorEq, not_true_eq_false, not_false_eq_true, ne_eq]
    exact i5 q q1 q2
  · simp only [uq_s, up_s, true_and, false_and, and_true, and_false, if_true, if_false, ↓reduceIte, ↓Option.bind_some, Int.reduceEq, Int.reduceNe, Int.reduceLT, Int.reduceLE, gd_true, gd_false, bind_b, q10, eq_self, reduceCtorEq, not_true_eq_false, not_false_eq_true, ne_eq, and_self]
  · rw [uq_s, if_neg (by omega), uq_s, if_neg (by omega), uq_s, if_neg (by omega), i6 b i j b1 b2 b3 b4, zq_s, if_neg b1]
  · rw [i7 a a2 a3 a4, ad_al a1]
/-- a table of the class that says what the model's says, one partition more -/
theorem CC.part1 {C C' : Cd} {N1 : Nd} {t P r k a nw' : Int} (c : CC C (tpI N1 t P r k)) (t1 : 0 ≤ t) (hN : (N1 12000 4) = t) (k1 : 0 ≤ k) (k3 : k < 3) (P0 : 0 ≤ P) (P9 : P + k < 9) (r1 : 1 ≤ r) (r2 : r ≤ 3) (hr : N1 13006 t = r) (hf : N1 13007 t = P) (hfirst : N1 13015 (P + k) = 0) (hend : ∀ q, 0 ≤ q → q < 3 → N1 13016 (3 * (P + k) + q) = 0) (hnow : (N1 12000 1) = nw')
    (h6 : C' 6000 (P + k) 0 = P + k ∧ C' 6000 (P + k) 1 = 10000 + t ∧ C' 6000 (P + k) 2 = 23000 + (P + k) ∧ C' 6000 (P + k) 3 = 20100 + (P + k) ∧ C' 6000 (P + k) 4 = 8000 + 3 * (P + k) ∧ C' 6000 (P + k) 5 = 0) (hl : ∀ i, C' 20100 (P + k) i = 0) (hw' : ∀ q, 0 ≤ q → q < 3 → C' 23000 (P + k) q = if q < r then 8000 + (3 * (P + k) + q) else 0)
    (h8 : ∀ q, 0 ≤ q → q < r → C' 8000 (3 * (P + k) + q) 0 = q ∧ C' 8000 (3 * (P + k) + q) 1 = (t + k + q) % 3 ∧ C' 8000 (3 * (P + k) + q) 2 = 0 ∧ C' 8000 (3 * (P + k) + q) 3 = nw' ∧ C' 8000 (3 * (P + k) + q) 4 = 1) (hn : C' 21100 t k = 6000 + (P + k) ∧ C' 21000 0 (P + k) = 6000 + (P + k) ∧ C' 11000 0 7 = P + k + 1)
    (hk : ∀ b i j, ¬ (b = 6000 ∧ i = P + k) → ¬ (b = 23000 ∧ i = P + k) → ¬ (b = 20100 ∧ i = P + k) → ¬ (b = 8000 ∧ 3 * (P + k) ≤ i ∧ i < 3 * (P + k) + 3) → ¬ (b = 21100 ∧ i = t ∧ j = k) → ¬ (b = 21000 ∧ i = 0 ∧ j = P + k) → ¬ (b = 11000 ∧ i = 0 ∧ j = 7) → C' b i j = C b i j) : CC C' (tpI N1 t P r (k + 1)) := by
  have kk : ∀ j, tpI N1 t P r (k + 1) 12000 j = if j = 11 then P + k + 1 else tpI N1 t P r k 12000 j := fun j => by
    rw [ti_k, ti_k]
    by_cases e : j = 11
    · rw [if_pos e, if_pos e]; omega
    · rw [if_neg e, if_neg e, if_neg e]
  have kj : ∀ j, j ≠ 11 → tpI N1 t P r (k + 1) 12000 j = tpI N1 t P r k 12000 j := fun j hj => by rw [kk, if_neg hj]
  have l1 : (if P ≤ P + k ∧ P + k < P + (k + 1) then t else N1 13012 (P + k)) = t := if_pos (by omega)
  have l2 : (if P ≤ P + k ∧ P + k < P + (k + 1) then (0 : Int) else N1 13013 (P + k)) = 0 := if_pos (by omega)
  have l4 : (if P ≤ P + k ∧ P + k < P + (k + 1) then shl 1 r - 1 else N1 13014 (P + k)) = shl 1 r - 1 := if_pos (by omega)
  have pp : tpI N1 t P r k 12000 11 = P + k := by rw [ti_k, if_pos rfl]
  have top : tpI N1 t P r k 12000 4 = t := by rw [ti_k, if_neg (by decide)]; exact hN
  have sc : ∀ b : Int, b ≠ 12000 → b ≠ 13012 → b ≠ 13013 → b ≠ 13014 → b ≠ 13017 → b ≠ 13018 → tpI N1 t P r (k + 1) b = tpI N1 t P r k b := fun b h0 h1 h2 h3 h4 h5 => by rw [ti_ar h0 h1 h2 h3 h4 h5, ti_ar h0 h1 h2 h3 h4 h5]
  have cell : ∀ b i j, b ≠ 6000 → b ≠ 23000 → b ≠ 20100 → b ≠ 8000 → b ≠ 21100 → b ≠ 21000 → b ≠ 11000 → C' b i j = C b i j := fun b i j b1 b2 b3 b4 b5 b6 b7 => hk b i j (by omega) (by omega) (by omega) (by omega) (by omega) (by omega) (by omega)
  have c11 : ∀ j, j ≠ 7 → C' 11000 0 j = C 11000 0 j := fun j hj => hk _ _ _ (by omega) (by omega) (by omega) (by omega) (by omega) (by omega) (by omega)
  obtain ⟨⟨b0, b1, b2, b3, b4, b5⟩, b6, b7, b8, b9, b10, b12, b13, b14, b15⟩ := c.b
  refine ⟨⟨⟨?_, ?_, ?_, ?_, ?_, ?_⟩, ?_, ?_, ?_, ?_, ?_, ?_, ?_, ?_, ?_⟩, ⟨fun i i1 i2 => ?_, fun i i1 i2 => ?_, fun i i1 i2 => ?_, fun i i1 i2 => ?_, fun i i1 i2 => ?_⟩, fun i i1 i2 => ?_, fun i i1 i2 => ?_, fun i q i1 i2 q1 q2 => ?_, fun i q i1 i2 q1 q2 => ?_, fun i q i1 i2 q1 q2 q3 => ?_, fun i i1 i2 => ?_, fun i i1 i2 => ?_⟩
  · rw [c11 _ (by decide)]; exact b0
  · rw [c11 _ (by decide)]; exact b1
  · rw [c11 _ (by decide)]; exact b2
  · rw [c11 _ (by decide)]; exact b3
  · rw [c11 _ (by decide)]; exact b4
  · rw [c11 _ (by decide)]; exact b5
  · rw [c11 _ (by decide), kk, if_neg (by decide)]; exact b6
  · rw [hn.2.2, kk, if_pos rfl]
  · rw [c11 _ (by decide), kk, if_neg (by decide)]; exact b8
  · rw [c11 _ (by decide), kk, if_neg (by decide)]; exact b9
  · rw [c11 _ (by decide), kk, if_neg (by decide)]; exact b10
  · rw [c11 _ (by decide), kk, if_neg (by decide)]; exact b12
  · rw [c11 _ (by decide), kk, if_neg (by decide)]; exact b13
  · rw [c11 _ (by decide), kk, if_neg (by decide)]; exact b14
  · rw [c11 _ (by decide), kk, if_neg (by decide)]; exact b15
  · rw [cell _ _ _ (by decide) (by decide) (by decide) (by decide) (by decide) (by decide) (by decide), kj 4 (by decide)]
    exact c.i.1 i i1 i2
  · rw [kk, if_pos rfl]
    have q := c.i.2.1 i i1 i2
    rw [pp] at q
    by_cases e : i = P + k
    · rw [e, hn.2.1, if_pos (by omega)]
    · rw [hk _ _ _ (by omega) (by omega) (by omega) (by omega) (by omega) (by omega) (by omega), q]
      by_cases e2 : i < P + k
      · rw [if_pos e2, if_pos (by omega)]
      · rw [if_neg e2, if_neg (by omega)]
  · rw [cell _ _ _ (by decide) (by decide) (by decide) (by decide) (by decide) (by decide) (by decide), kj 30 (by decide)]
    exact c.i.2.2.1 i i1 i2
  · rw [cell _ _ _ (by decide) (by decide) (by decide) (by decide) (by decide) (by decide) (by decide), kj 41 (by decide)]
    exact c.i.2.2.2.1 i i1 i2
  · rw [cell _ _ _ (by decide) (by decide) (by decide) (by decide) (by decide) (by decide) (by decide), kj 19 (by decide)]
    exact c.i.2.2.2.2 i i1 i2
  · rw [kk, if_neg (by decide)] at i2
    have q := c.t i i1 i2
    rw [top] at i2
    rw [sc 13005 (by decide) (by decide) (by decide) (by decide) (by decide) (by decide), sc 13006 (by decide) (by decide) (by decide) (by decide) (by decide) (by decide), sc 14008 (by decide) (by decide) (by decide) (by decide) (by decide) (by decide), sc 13009 (by decide) (by decide) (by decide) (by decide) (by decide) (by decide), sc 13010 (by decide) (by decide) (by decide) (by decide) (by decide) (by decide), sc 13007 (by decide) (by decide) (by decide) (by decide) (by decide) (by decide)]
    have e : ∀ j, C' 10000 i j = C 10000 i j := fun j => cell _ _ _ (by decide) (by decide) (by decide) (by decide) (by decide) (by decide) (by decide)
    rw [e, e, e, e, e, e, e]
    refine ⟨q.1, q.2.1, q.2.2.1, q.2.2.2.1, q.2.2.2.2.1, q.2.2.2.2.2.1, q.2.2.2.2.2.2.1, fun z z1 z2 => ?_⟩
    rw [hk _ _ _ (by omega) (by omega) (by omega) (by omega) (by omega) (by omega) (by omega)]
    exact q.2.2.2.2.2.2.2 z z1 z2
  · rw [kk, if_pos rfl] at i2
    rw [ti_t, ti_l, sc 13015 (by decide) (by decide) (by decide) (by decide) (by decide) (by decide)]
    by_cases e : i = P + k
    · rw [e, l1, l2, if_neg (by omega), ti_ar (by decide) (by decide) (by decide) (by decide) (by decide) (by decide), hfirst]
      refine ⟨h6.1, h6.2.1, h6.2.2.1, h6.2.2.2.1, ?_, h6.2.2.2.2.2⟩
      rw [h6.2.2.2.2.1]
      omega
    · have q := c.p i i1 (by rw [pp]; omega)
      rw [ti_t, ti_l] at q
      have e6 : ∀ j, C' 6000 i j = C 6000 i j := fun j => hk _ _ _ (by omega) (by omega) (by omega) (by omega) (by omega) (by omega) (by omega)
      rw [e6, e6, e6, e6, e6, e6]
      by_cases e2 : P ≤ i ∧ i < P + k
      · rw [if_pos e2, if_pos e2] at q
        rw [if_pos (by omega : P ≤ i ∧ i < P + (k + 1)), if_pos (by omega : P ≤ i ∧ i < P + (k + 1))]
        exact q
      · rw [if_neg e2, if_neg e2] at q
        rw [if_neg (by omega : ¬ (P ≤ i ∧ i < P + (k + 1))), if_neg (by omega : ¬ (P ≤ i ∧ i < P + (k + 1)))]
        exact q
  · rw [kk, if_pos rfl] at i2
    rw [ti_t, sc 13006 (by decide) (by decide) (by decide) (by decide) (by decide) (by decide)]
    by_cases e : i = P + k
    · rw [e, l1, ti_ar (by decide) (by decide) (by decide) (by decide) (by decide) (by decide), hr]
      exact hw' q q1 q2
    · have z := c.w i q i1 (by rw [pp]; omega) q1 q2
      rw [ti_t] at z
      rw [hk _ _ _ (by omega) (by omega) (by omega) (by omega) (by omega) (by omega) (by omega)]
      by_cases e2 : P ≤ i ∧ i < P + k
      · rw [if_pos e2] at z
        rw [if_pos (by omega : P ≤ i ∧ i < P + (k + 1))]
        exact z
      · rw [if_neg e2] at z
        rw [if_neg (by omega : ¬ (P ≤ i ∧ i < P + (k + 1)))]
        exact z
  · rw [kk, if_pos rfl] at i2
    rw [ti_g]
    by_cases e : i = P + k
    · have l5 : (if 60 * P ≤ 60 * (P + k) + q ∧ 60 * (P + k) + q < 60 * (P + (k + 1)) then (-1 : Int) else N1 13018 (60 * (P + k) + q)) = -1 := if_pos (by omega)
      rw [e, l5, if_pos (by omega)]
      exact hl q
    · have z := c.l i q i1 (by rw [pp]; omega) q1 q2
      rw [ti_g] at z
      rw [hk _ _ _ (by omega) (by omega) (by omega) (by omega) (by omega) (by omega) (by omega)]
      by_cases e2 : 60 * P ≤ 60 * i + q ∧ 60 * i + q < 60 * (P + k)
      · rw [if_pos e2] at z
        rw [if_pos (by omega : 60 * P ≤ 60 * i + q ∧ 60 * i + q < 60 * (P + (k + 1)))]
        exact z
      · rw [if_neg e2] at z
        rw [if_neg (by omega : ¬ (60 * P ≤ 60 * i + q ∧ 60 * i + q < 60 * (P + (k + 1))))]
        exact z
  · rw [kk, if_pos rfl] at i2
    rw [ti_t, sc 13006 (by decide) (by decide) (by decide) (by decide) (by decide) (by decide)] at q3
    unfold brk
    rw [ti_t, sc 13016 (by decide) (by decide) (by decide) (by decide) (by decide) (by decide), sc 13007 (by decide) (by decide) (by decide) (by decide) (by decide) (by decide), ti_c, ti_s]
    by_cases e : i = P + k
    · rw [e, if_pos (by omega)] at q3
      rw [ti_ar (by decide) (by decide) (by decide) (by decide) (by decide) (by decide), hr] at q3
      have z := h8 q q1 q3
      have sh := (shl1 r1 r2).2 q q1 q2
      have l3 : (if 3 * P ≤ 3 * (P + k) + q ∧ 3 * (P + k) + q < 3 * (P + (k + 1)) then (N1 12000 1) else N1 13017 (3 * (P + k) + q)) = (N1 12000 1) := if_pos (by omega)
      rw [e, l1, l3, l4, ti_ar (by decide) (by decide) (by decide) (by decide) (by decide) (by decide), ti_ar (by decide) (by decide) (by decide) (by decide) (by decide) (by decide), hf, hend q q1 q2, if_pos (sh.mpr q3)]
      refine ⟨z.1, ?_, z.2.2.1, z.2.2.2.1.trans hnow.symm, z.2.2.2.2⟩
      rw [z.2.1]
      congr 1
      omega
    · have z := c.r i q i1 (by rw [pp]; omega) q1 q2
      unfold brk at z
      rw [ti_t, ti_c, ti_s] at z
      have e8 : ∀ j, C' 8000 (3 * i + q) j = C 8000 (3 * i + q) j := fun j => hk _ _ _ (by omega) (by omega) (by omega) (by omega) (by omega) (by omega) (by omega)
      rw [e8, e8, e8, e8, e8]
      by_cases e2 : P ≤ i ∧ i < P + k
      · rw [if_pos (by omega : P ≤ i ∧ i < P + (k + 1))] at q3 ⊢
        rw [if_pos e2, if_pos e2, if_pos (by omega : 3 * P ≤ 3 * i + q ∧ 3 * i + q < 3 * (P + k))] at z
        rw [if_pos (by omega : 3 * P ≤ 3 * i + q ∧ 3 * i + q < 3 * (P + (k + 1))), if_pos (by omega : P ≤ i ∧ i < P + (k + 1))]
        exact z q3
      · rw [if_neg (by omega : ¬ (P ≤ i ∧ i < P + (k + 1)))] at q3 ⊢
        rw [if_neg e2, if_neg e2, if_neg (by omega : ¬ (3 * P ≤ 3 * i + q ∧ 3 * i + q < 3 * (P + k)))] at z
        rw [if_neg (by omega : ¬ (3 * P ≤ 3 * i + q ∧ 3 * i + q < 3 * (P + (k + 1)))), if_neg (by omega : ¬ (P ≤ i ∧ i < P + (k + 1)))]
        exact z q3
  · rw [kk, if_neg (by decide)] at i2
    have e : ∀ j, C' 5000 i j = C 5000 i j := fun j => cell _ _ _ (by decide) (by decide) (by decide) (by decide) (by decide) (by decide) (by decide)
    simp only [e]
    exact c.m i i1 i2
  · rw [kk, if_neg (by decide)] at i2
    have e : ∀ j, C' 7000 i j = C 7000 i j := fun j => cell _ _ _ (by decide) (by decide) (by decide) (by decide) (by decide) (by decide) (by decide)
    simp only [e]
    exact c.x i i1 i2
/-- what a new topic leaves alone in the class's table -/
def TFr (C C' : Cd) : Prop := ∀ b i j, b ≠ 6000 → b ≠ 23000 → b ≠ 20100 → b ≠ 8000 → b ≠ 21100 → b ≠ 21000 → b ≠ 10000 → b ≠ 25000 → ¬ (b = 11000 ∧ (j = 6 ∨ j = 7)) → C' b i j = C b i j
def TTo (C : Cd) (t P a r c k : Int) : Prop := (C 10000 t 0 = t ∧ C 10000 t 1 = a ∧ C 10000 t 2 = r ∧ C 10000 t 3 = c ∧ C 10000 t 4 = 21100 + t ∧ C 10000 t 5 = 999 ∧ C 10000 t 6 = 60) ∧ ∀ i, 0 ≤ i → i < 3 → C 21100 t i = if i < k then 6000 + (P + i) else 0
def TAd (A A' : Ad) (t P k : Int) : Prop := ∀ x, x ≠ 10000 + t → x ≠ 21100 + t → ¬ (6000 + P ≤ x ∧ x < 6000 + P + k) → ¬ (23000 + P ≤ x ∧ x < 23000 + P + k) → ¬ (20100 + P ≤ x ∧ x < 20100 + P + k) → ¬ (8000 + 3 * P ≤ x ∧ x < 8000 + 3 * (P + k)) → A'.1 x = A.1 x
theorem c_tpLoop {C0 C : Cd} {N0 N1 : Nd} {A0 A : Ad} {t P a r c : Int} (hc : CC C N1) (t1 : 0 ≤ t) (t2 : t < 3) (hN : (N1 12000 4) = t) (hP : (N1 12000 11) = P) (P0 : 0 ≤ P) (a1 : 1 ≤ a) (a3 : a ≤ 3) (P9 : P + a ≤ 9) (r1 : 1 ≤ r) (r2 : r ≤ 3) (hr : N1 13006 t = r) (hf : N1 13007 t = P) (hfirst : ∀ q, P ≤ q → q < 9 → N1 13015 q = 0 ∧ ∀ z, 0 ≤ z → z < 3 → N1 13016 (3 * q + z) = 0)
    (ha : ∀ p, P ≤ p → p < 9 → A0.1 (6000 + p) = 0 ∧ A0.1 (23000 + p) = 0 ∧ A0.1 (20100 + p) = 0 ∧ ∀ z, 0 ≤ z → z < 3 → A0.1 (8000 + (3 * p + z)) = 0) (tt : TTo C t P a r c 0) (fr : TFr C0 C) (ad : TAd A0 A t P 0) :
    Ok (lp (b_X10_topic_58 a 11000 (10000 + t)) 1000 (0, mk C N0 A)) (fun M => ∃ C' A', M = mk C' N0 A' ∧ CC C' (tpI N1 t P r a) ∧ TTo C' t P a r c a ∧ TFr C0 C' ∧ TAd A0 A' t P a) := by
  refine lp_for (fun k s => ∃ C' A', s = (k, mk C' N0 A') ∧ CC C' (tpI N1 t P r k) ∧ TTo C' t P a r c k ∧ TFr C0 C' ∧ TAd A0 A' t P k) 0 a.toNat ?_ ?_ (by omega) ⟨C, A, rfl, by rw [ti_0 hP]; exact hc, tt, fr, ad⟩
  · rintro k s k1 k2 ⟨C1, A1, rfl, c1, ⟨⟨u0, u1, u2, u3, u4, u5, u6⟩, uo⟩, f1, d1⟩
    have ka : k < a := by omega
    have aP := ha (P + k) (by omega) (by omega)
    have pp : tpI N1 t P r k 12000 11 = P + k := by rw [ti_k, if_pos rfl]
    have b7 : C1 11000 0 7 = P + k := by rw [← pp]; exact c1.b.2.2.1
    have b15 : C1 11000 0 15 = (N1 12000 1) := by rw [c1.b.2.2.2.2.2.2.2.2.2, ti_k, if_neg (by decide)]
    have b1 : C1 11000 0 1 = 21000 := c1.b.1.2.1
    obtain ⟨C2, A2, i1, i2, i3, i4, i5, i6, i7, i8⟩ := c_makePart (C := C1) (N0 := N0) (A := A1) (p := P + k) (t := t) (k := k) (nw' := (N1 12000 1)) (r := r) (by omega) (by omega) t1 t2 k1 (by omega) r1 r2 b7 b15 b1 u2 u0 u4 (by rw [d1 _ (by omega) (by omega) (by omega) (by omega) (by omega) (by omega)]; exact aP.1) ⟨by rw [d1 _ (by omega) (by omega) (by omega) (by omega) (by omega) (by omega)]; exact aP.2.1, by rw [d1 _ (by omega) (by omega) (by omega) (by omega) (by omega) (by omega)]; exact aP.2.2.1, fun q q1 q2 => by rw [d1 _ (by omega) (by omega) (by omega) (by omega) (by omega) (by omega)]; exact aP.2.2.2 q q1 q2⟩
    have fE := hfirst (P + k) (by omega) (by omega)
    have c2 := c1.part1 (a := a) (nw' := (N1 12000 1)) t1 hN k1 (by omega) P0 (by omega) r1 r2 hr hf fE.1 fE.2 rfl i2 i3 i4 i5 i6 i7
    unfold b_X10_topic_58
    simp (disch := omega) only [aok, up_s, true_and, false_and, and_true, and_false, if_true, if_false, ↓reduceIte, ↓Option.bind_some, Int.reduceEq, Int.reduceNe, Int.reduceLT, Int.reduceLE, gd_true, gd_false, bind_b, q10, eq_self, reduceCtorEq, not_true_eq_false, not_false_eq_true, ne_eq, cr_11000, cr_15000, cr_16000, cr_20000, cr_20001, cr_21000, cr_22000, cr_25000, cr_1000, cr_2000, cr_3000, cr_3003, cr_3006, cr_4000, cr_5000, cr_6000, cr_7000, cr_8000, cr_9000, cr_10000, cr_13500, cr_17000, cr_17100, cr_17103, cr_17106, cr_19000, cr_20100, cr_21100, cr_23000, cr_24000, cw_11000, cw_15000, cw_16000, cw_20000, cw_20001, cw_21000, cw_22000, cw_25000, cw_1000, cw_2000, cw_3000, cw_3003, cw_3006, cw_4000, cw_5000, cw_6000, cw_7000, cw_8000, cw_9000, cw_10000, cw_13500, cw_17000, cw_17100, cw_17103, cw_17106, cw_19000, cw_20100, cw_21100, cw_23000, cw_24000, lc_13500, lc_15000, lc_16000, lc_17000, lc_17100, lc_17103, lc_17106, lc_19000, lc_20000, lc_20001, lc_20100, lc_21000, lc_21100, lc_22000, lc_23000, lc_24000, lc_25000, gd_t, w_eq, ka, i1]
    refine ⟨_, rfl, C2, A2, rfl, c2, ⟨?_, fun i j1 j2 => ?_⟩, fun b i j h1 h2 h3 h4 h5 h6 h7 h8 h9 => ?_, fun x x1 x2 x3 x4 x5 x6 => ?_⟩
    · have e : ∀ j, C2 10000 t j = C1 10000 t j := fun j => i7 _ _ _ (by omega) (by omega) (by omega) (by omega) (by omega) (by omega) (by omega)
      rw [e, e, e, e, e, e, e]
      exact ⟨u0, u1, u2, u3, u4, u5, u6⟩
    · by_cases e : i = k
      · rw [e, i6.1, if_pos (by omega)]
      · rw [i7 _ _ _ (by omega) (by omega) (by omega) (by omega) (by omega) (by omega) (by omega), uo i j1 j2]
        by_cases e2 : i < k
        · rw [if_pos e2, if_pos (by omega)]
        · rw [if_neg e2, if_neg (by omega)]
    · rw [i7 b i j (by omega) (by omega) (by omega) (by omega) (by omega) (by omega) (by omega)]
      exact f1 b i j h1 h2 h3 h4 h5 h6 h7 h8 h9
    · rw [i8 x (by omega) (by omega) (by omega) (by omega)]
      exact d1 x x1 x2 (by omega) (by omega) (by omega) (by omega)
  · rintro s ⟨C1, A1, rfl, c1, t1', f1, d1⟩
    have ea : (0 : Int) + (a.toNat : Int) = a := by omega
    rw [ea] at c1 t1' d1 ⊢
    unfold b_X10_topic_58
    simp only [Int.lt_irrefl, if_false]
    exact ⟨_, rfl, C1, A1, rfl, c1, t1', f1, d1⟩
/-- the model's table with a new topic -/
def tpN (N : Nd) (a r c : Int) : Nd := up (tpI (tp0 N ((N 12000 4)) ((N 12000 11)) a r c) ((N 12000 4)) ((N 12000 11)) r a) 12000 4 ((N 12000 4) + 1)
theorem tn_ar {N : Nd} {a r c b : Int} (h0 : b ≠ 12000) (h1 : b ≠ 13012) (h2 : b ≠ 13013) (h3 : b ≠ 13014) (h4 : b ≠ 13017) (h5 : b ≠ 13018) (h6 : ¬ (13005 ≤ b ∧ b ≤ 13010)) (h7 : b ≠ 14008) : tpN N a r c b = N b := by
  unfold tpN tp0
  funext k
  rw [up_s, if_neg (fun z => h0 z.1), ti_ar h0 h1 h2 h3 h4 h5]
  repeat rw [up_s, if_neg (by omega)]
