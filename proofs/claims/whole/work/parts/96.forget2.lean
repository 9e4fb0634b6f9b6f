/-! PURE PART, 96: seek: what the class forgets -/
section FGT
variable {C : Cd} {N N0 : Nd} {A : Ad} {g p : Int}
theorem c_rmK {lb ab i cap w n x : Int} {D f : Int → Int} {K : Int → Bool} (hp : LPl lb ab i cap) (hl : LSr C lb ab i g w f) (F : KpL D n K w f) (n0 : 0 ≤ n) (nc : n ≤ cap) (inj : ∀ k k', 0 ≤ k → k < n → 0 ≤ k' → k' < n → D k = D k' → k = k') : Ok (p_X2_removeLetter (mk C N0 A) (lb + i) (2000 + (150 * g + x))) (fun M => ∃ C' w' f', M = mk C' N0 A ∧ LSr C' lb ab i g w' f' ∧ KpL D n (fun k => K k && !decide (D k = x)) w' f' ∧ LK lb ab i C C') := by
  have wb := F.b n0
  by_cases z : ∃ k0, 0 ≤ k0 ∧ k0 < n ∧ K k0 = true ∧ D k0 = x
  · obtain ⟨k0, k1, k2, k3, k4⟩ := z
    obtain ⟨pb, pl⟩ := F.pl n0 k1 k2 k3 (fun k q1 q2 q3 => inj k k0 q1 q2 k1 k2 q3)
    rw [k4] at pl
    refine Ok.mono (c_remove (N0 := N0) (A := A) (m := x) hp hl (by omega) pb.1 (by omega) pl) ?_
    rintro M ⟨C', rfl, l', lk⟩
    rw [if_pos pb.2] at l'
    refine ⟨C', _, _, rfl, l', (F.rm k1 k2 k3).congr (fun k q1 q2 => ?_), lk⟩
    have e : decide (D k = x) = (k == k0) := by
      by_cases e : k = k0
      · simp [e, k4]
      · have : D k ≠ x := fun q => e (inj k k0 q1 q2 k1 k2 (q.trans k4.symm))
        simp [e, this]
    simp only [e]
  · have hx : ∀ k, 0 ≤ k → k < w → (f k = x ↔ k = w) := fun k k1 k2 => ⟨fun h => absurd h (F.no n0 (fun i i1 i2 i3 i4 => z ⟨i, i1, i2, i3, i4⟩) k1 k2), fun h => by omega⟩
    refine Ok.mono (c_remove (N0 := N0) (A := A) (m := x) hp hl (by omega) wb.1 (Int.le_refl _) hx) ?_
    rintro M ⟨C', rfl, l', lk⟩
    rw [if_neg (Int.lt_irrefl w)] at l'
    refine ⟨C', w, f, rfl, ⟨l'.1, l'.2.1, fun k k1 k2 => ?_⟩, F.congr (fun k q1 q2 => ?_), lk⟩
    · have : C' ab i k = 2000 + (150 * g + (if k < w then f k else f (k + 1))) := l'.2.2 k k1 k2
      rw [if_pos k2] at this
      exact this
    · by_cases y : K k = true
      · have : D k ≠ x := fun q => z ⟨k, q1, q2, y, q⟩
        simp [this]
      · simp at y
        simp [y]
def fgb (C : Cd) (N : Nd) (g p x y : Int) : Bool := decide (y < x ∧ C 17000 g y ≠ 0 ∧ N 13021 y = p)
def FGT (C C' : Cd) (N : Nd) (g p n : Int) (f : Int → Int) (x : Int) : Prop := (∀ b i z, ¬ (b = 17100 ∧ i = g) → ¬ (b = 3000 ∧ i = g ∧ z = 1) → ¬ (b = 17103 ∧ i = g) → ¬ (b = 3003 ∧ i = g ∧ z = 1) → ¬ (b = 2000 ∧ 150 * g ≤ i ∧ i < 150 * g + 150 ∧ (z = 1 ∨ z = 6)) → C' b i z = C b i z) ∧ (∀ y z, 0 ≤ y → y < 150 → (z = 1 ∨ z = 6) → C' 2000 (150 * g + y) z = if fgb C N g p x y = true then 0 else C 2000 (150 * g + y) z) ∧ (∃ w f', LSr C' 3000 17100 g g w f' ∧ KpL f n (fun k => !fgb C N g p x (f k)) w f') ∧ ∃ w f', LSr C' 3003 17103 g g w f' ∧ KpL (fun k => N 13063 (150 * g + k)) (N 13046 g) (fun k => !fgb C N g p x (N 13063 (150 * g + k))) w f'
theorem FGT.same {C' : Cd} {n x x' : Int} {f : Int → Int} (h : FGT C C' N g p n f x) (e : ∀ y, fgb C N g p x' y = fgb C N g p x y) : FGT C C' N g p n f x' := by
  unfold FGT at h ⊢
  simp only [e]
  exact h
theorem c_forget {n : Int} {f : Int → Int} (G : RG N) (c : CC C N) (a : GA C N g) (g1 : 0 ≤ g) (g2 : g < 3) (w : GW1 C N g n f) : Ok (p_X0_forget (mk C N0 A) (1000 + g) (6000 + p)) (fun M => ∃ C', M = mk C' N0 A ∧ FGT C C' N g p n f 150) := by
  have s5 := G.s.2.2.2.2.1
  have o2 := a.o.2.2.1
  obtain ⟨d1, d2, d3, d4⟩ := a.de
  have inj1 : ∀ k k', 0 ≤ k → k < n → 0 ≤ k' → k' < n → f k = f k' → k = k' := fun k k' q1 q2 r1 r2 h => by
    by_cases x : k < k'
    · exact absurd h (w.dis q1 x r2)
    · by_cases y : k' < k
      · exact absurd h.symm (w.dis r1 y q2)
      · omega
  have inj2 : ∀ k k', 0 ≤ k → k < N 13046 g → 0 ≤ k' → k' < N 13046 g → N 13063 (150 * g + k) = N 13063 (150 * g + k') → k = k' := fun k k' q1 q2 r1 r2 h => by
    by_cases x : k < k'
    · exact absurd h ((d3 k' r1 r2).2 k q1 x)
    · by_cases y : k' < k
      · exact absurd h.symm ((d3 k q1 q2).2 k' r1 y)
      · omega
  have f0 : ∀ y, fgb C N g p 0 y = true → 0 ≤ y → False := fun y h y0 => by
    unfold fgb at h
    simp at h
    omega
  have lo : Ok (lp (b_X0_forget_11 150 (17000 + g) (6000 + p) (1000 + g)) 1000 (0, mk C N0 A)) (fun M => ∃ C', M = mk C' N0 A ∧ FGT C C' N g p n f 150) := by
    refine lp_for (fun x s => ∃ C', s = (x, mk C' N0 A) ∧ FGT C C' N g p n f x) 0 150 ?_ ?_ (by decide) ⟨C, rfl, ⟨fun _ _ _ _ _ _ _ _ => rfl, fun y z y1 y2 _ => ?_, ⟨n, f, w.1, KpL.all w.2.1.1 (fun i i1 i2 => ?_)⟩, _, _, d1, KpL.all d2.1 (fun i i1 i2 => ?_)⟩⟩
    · rintro x s x1 x2 ⟨C1, rfl, h⟩
      have x150 : x < 150 := by omega
      have e17 : C1 17000 g x = C 17000 g x := h.1 _ _ _ (by omega) (by omega) (by omega) (by omega) (by omega)
      obtain ⟨l1, l2, -⟩ := a.le x x1 x150
      unfold b_X0_forget_11
      by_cases z : C 17000 g x = 0
      · simp (disch := omega) only [aok, up_s, true_and, false_and, and_true, and_false, if_true, if_false, ↓reduceIte, ↓Option.bind_some, Int.reduceEq, Int.reduceNe, Int.reduceLT, Int.reduceLE, gd_true, gd_false, bind_b, q10, eq_self, reduceCtorEq, not_true_eq_false, not_false_eq_true, ne_eq, cr_11000, cr_15000, cr_16000, cr_20000, cr_20001, cr_21000, cr_22000, cr_25000, cr_1000, cr_2000, cr_3000, cr_3003, cr_3006, cr_4000, cr_5000, cr_6000, cr_7000, cr_8000, cr_9000, cr_10000, cr_13500, cr_17000, cr_17100, cr_17103, cr_17106, cr_19000, cr_20100, cr_21100, cr_23000, cr_24000, cw_11000, cw_15000, cw_16000, cw_20000, cw_20001, cw_21000, cw_22000, cw_25000, cw_1000, cw_2000, cw_3000, cw_3003, cw_3006, cw_4000, cw_5000, cw_6000, cw_7000, cw_8000, cw_9000, cw_10000, cw_13500, cw_17000, cw_17100, cw_17103, cw_17106, cw_19000, cw_20100, cw_21100, cw_23000, cw_24000, lc_13500, lc_15000, lc_16000, lc_17000, lc_17100, lc_17103, lc_17106, lc_19000, lc_20000, lc_20001, lc_20100, lc_21000, lc_21100, lc_22000, lc_23000, lc_24000, lc_25000, gd_t, w_eq, x150, e17, z]
        refine ⟨_, rfl, C1, rfl, h.same (fun y => ?_)⟩
        unfold fgb
        by_cases e : y = x
        · rw [e]; simp [z]
        · have : y < x + 1 ↔ y < x := by omega
          simp only [this]
      · have e := l1.resolve_left z
        rw [e] at e17
        obtain ⟨y1, y2, -⟩ := l2 z
        have t0 : C1 2000 (150 * g + x) 0 = 5000 + x := by rw [h.1 _ _ _ (by omega) (by omega) (by omega) (by omega) (by omega)]; exact y2
        have t2 : C1 5000 x 2 = 6000 + N 13021 x := by rw [h.1 _ _ _ (by omega) (by omega) (by omega) (by omega) (by omega)]; exact (c.m x x1 y1).2.2.1
        by_cases q : N 13021 x = p
        · have q' : 6000 + N 13021 x = 6000 + p := by omega
          have o3 : C1 1000 g 3 = 3000 + g := by rw [h.1 _ _ _ (by omega) (by omega) (by omega) (by omega) (by omega)]; exact a.o.2.2.2.1
          obtain ⟨h1, h2, ⟨w1, f1, h3, h4⟩, w2, f2, h5, h6⟩ := h
          obtain ⟨M1, r1, C2, w3, f3, rfl, l3, F3, k3⟩ := c_rmK (N0 := N0) (A := A) (x := x) (LPl.w g1 g2) h3 h4 w.2.1.1 w.2.1.2 inj1
          have o4 : C2 1000 g 4 = 3003 + g := by rw [k3 _ _ _ (by omega) (by omega), h1 _ _ _ (by omega) (by omega) (by omega) (by omega) (by omega)]; exact a.o.2.2.2.2.1
          have h5' : LSr C2 3003 17103 g g w2 f2 := by
            refine ⟨?_, ?_, fun k q1 q2 => ?_⟩
            · rw [k3 _ _ _ (by omega) (by omega)]; exact h5.1
            · rw [k3 _ _ _ (by omega) (by omega)]; exact h5.2.1
            · rw [k3 _ _ _ (by omega) (by omega)]; exact h5.2.2 k q1 q2
          obtain ⟨M2, r2, C3, w4, f4, rfl, l4, F4, k4⟩ := c_rmK (N0 := N0) (A := A) (x := x) (LPl.d g1 g2) h5' h6 d2.1 d2.2 inj2
          have fx : ∀ y, fgb C N g p (x + 1) y = (fgb C N g p x y || decide (y = x)) := fun y => by
            unfold fgb
            by_cases e : y = x
            · rw [e]; simp [z, q]; omega
            · have : y < x + 1 ↔ y < x := by omega
              simp [this, e]
          simp (disch := omega) only [aok, up_s, true_and, false_and, and_true, and_false, if_true, if_false, ↓reduceIte, ↓Option.bind_some, Int.reduceEq, Int.reduceNe, Int.reduceLT, Int.reduceLE, gd_true, gd_false, bind_b, q10, eq_self, reduceCtorEq, not_true_eq_false, not_false_eq_true, ne_eq, cr_11000, cr_15000, cr_16000, cr_20000, cr_20001, cr_21000, cr_22000, cr_25000, cr_1000, cr_2000, cr_3000, cr_3003, cr_3006, cr_4000, cr_5000, cr_6000, cr_7000, cr_8000, cr_9000, cr_10000, cr_13500, cr_17000, cr_17100, cr_17103, cr_17106, cr_19000, cr_20100, cr_21100, cr_23000, cr_24000, cw_11000, cw_15000, cw_16000, cw_20000, cw_20001, cw_21000, cw_22000, cw_25000, cw_1000, cw_2000, cw_3000, cw_3003, cw_3006, cw_4000, cw_5000, cw_6000, cw_7000, cw_8000, cw_9000, cw_10000, cw_13500, cw_17000, cw_17100, cw_17103, cw_17106, cw_19000, cw_20100, cw_21100, cw_23000, cw_24000, lc_13500, lc_15000, lc_16000, lc_17000, lc_17100, lc_17103, lc_17106, lc_19000, lc_20000, lc_20001, lc_20100, lc_21000, lc_21100, lc_22000, lc_23000, lc_24000, lc_25000, gd_t, w_eq, x150, e17, t0, t2, q', o3, r1, o4, r2, if_neg]
          refine ⟨_, rfl, _, rfl, fun b i z' z1 z2 z3 z4 z5 => ?_, fun y z' y1' y2' hz' => ?_, ⟨w3, f3, ?_, F3.congr (fun k _ _ => ?_)⟩, w4, f4, (l4.uq (by decide) (by decide)).uq (by decide) (by decide), F4.congr (fun k _ _ => ?_)⟩
          · rw [uq_s, if_neg (by omega), uq_s, if_neg (by omega), k4 _ _ _ (by omega) (by omega), k3 _ _ _ (by omega) (by omega)]
            exact h1 b i z' z1 z2 z3 z4 z5
          · rw [fx, uq_s, uq_s]
            by_cases e : y = x
            · have ed : decide (y = x) = true := by simp [e]
              rw [ed, Bool.or_true, if_pos rfl]
              rcases hz' with hz' | hz'
              · rw [if_neg (by omega), if_pos ⟨rfl, by omega, hz'⟩]
              · rw [if_pos ⟨rfl, by omega, hz'⟩]
            · have ed : decide (y = x) = false := by simp [e]
              rw [ed, Bool.or_false, if_neg (by omega), if_neg (by omega), k4 _ _ _ (by omega) (by omega), k3 _ _ _ (by omega) (by omega)]
              exact h2 y z' y1' y2' hz'
          · have l3' : LSr C3 3000 17100 g g w3 f3 := by
              refine ⟨?_, ?_, fun k q1 q2 => ?_⟩
              · rw [k4 _ _ _ (by omega) (by omega)]; exact l3.1
              · rw [k4 _ _ _ (by omega) (by omega)]; exact l3.2.1
              · rw [k4 _ _ _ (by omega) (by omega)]; exact l3.2.2 k q1 q2
            exact (l3'.uq (by decide) (by decide)).uq (by decide) (by decide)
          · simp only [fx, Bool.not_or]
          · simp only [fx, Bool.not_or]
        · have q' : ¬ 6000 + N 13021 x = 6000 + p := by omega
          simp (disch := omega) only [aok, up_s, true_and, false_and, and_true, and_false, if_true, if_false, ↓reduceIte, ↓Option.bind_some, Int.reduceEq, Int.reduceNe, Int.reduceLT, Int.reduceLE, gd_true, gd_false, bind_b, q10, eq_self, reduceCtorEq, not_true_eq_false, not_false_eq_true, ne_eq, cr_11000, cr_15000, cr_16000, cr_20000, cr_20001, cr_21000, cr_22000, cr_25000, cr_1000, cr_2000, cr_3000, cr_3003, cr_3006, cr_4000, cr_5000, cr_6000, cr_7000, cr_8000, cr_9000, cr_10000, cr_13500, cr_17000, cr_17100, cr_17103, cr_17106, cr_19000, cr_20100, cr_21100, cr_23000, cr_24000, cw_11000, cw_15000, cw_16000, cw_20000, cw_20001, cw_21000, cw_22000, cw_25000, cw_1000, cw_2000, cw_3000, cw_3003, cw_3006, cw_4000, cw_5000, cw_6000, cw_7000, cw_8000, cw_9000, cw_10000, cw_13500, cw_17000, cw_17100, cw_17103, cw_17106, cw_19000, cw_20100, cw_21100, cw_23000, cw_24000, lc_13500, lc_15000, lc_16000, lc_17000, lc_17100, lc_17103, lc_17106, lc_19000, lc_20000, lc_20001, lc_20100, lc_21000, lc_21100, lc_22000, lc_23000, lc_24000, lc_25000, gd_t, w_eq, x150, e17, t0, t2, q', if_neg]
          refine ⟨_, rfl, C1, rfl, h.same (fun y => ?_)⟩
          unfold fgb
          by_cases e : y = x
          · rw [e]; simp [q]
          · have : y < x + 1 ↔ y < x := by omega
            simp only [this]
    · rintro s ⟨C1, rfl, h⟩
      unfold b_X0_forget_11
      simp (disch := omega) only [aok, up_s, true_and, false_and, and_true, and_false, if_true, if_false, ↓reduceIte, ↓Option.bind_some, Int.reduceEq, Int.reduceNe, Int.reduceLT, Int.reduceLE, gd_true, gd_false, bind_b, q10, eq_self, reduceCtorEq, not_true_eq_false, not_false_eq_true, ne_eq, cr_11000, cr_15000, cr_16000, cr_20000, cr_20001, cr_21000, cr_22000, cr_25000, cr_1000, cr_2000, cr_3000, cr_3003, cr_3006, cr_4000, cr_5000, cr_6000, cr_7000, cr_8000, cr_9000, cr_10000, cr_13500, cr_17000, cr_17100, cr_17103, cr_17106, cr_19000, cr_20100, cr_21100, cr_23000, cr_24000, cw_11000, cw_15000, cw_16000, cw_20000, cw_20001, cw_21000, cw_22000, cw_25000, cw_1000, cw_2000, cw_3000, cw_3003, cw_3006, cw_4000, cw_5000, cw_6000, cw_7000, cw_8000, cw_9000, cw_10000, cw_13500, cw_17000, cw_17100, cw_17103, cw_17106, cw_19000, cw_20100, cw_21100, cw_23000, cw_24000, lc_13500, lc_15000, lc_16000, lc_17000, lc_17100, lc_17103, lc_17106, lc_19000, lc_20000, lc_20001, lc_20100, lc_21000, lc_21100, lc_22000, lc_23000, lc_24000, lc_25000, gd_t, w_eq, Int.lt_irrefl]
      exact ⟨_, rfl, C1, rfl, h⟩
    · rw [if_neg (fun q => f0 y q y1)]
    · have := (w.2.2.1 i i1 i2).1
      cases q : fgb C N g p 0 (f i)
      · rfl
      · exact absurd (f0 _ q this) (fun z => z)
    · have := (d3 i i1 i2).1.1
      cases q : fgb C N g p 0 (N 13063 (150 * g + i))
      · rfl
      · exact absurd (f0 _ q this) (fun z => z)
  obtain ⟨M, r, C', rfl, h⟩ := lo
  refine ⟨_, ?_, C', rfl, h⟩
  unfold p_X0_forget
  simp (disch := omega) only [aok, up_s, true_and, false_and, and_true, and_false, if_true, if_false, ↓reduceIte, ↓Option.bind_some, Int.reduceEq, Int.reduceNe, Int.reduceLT, Int.reduceLE, gd_true, gd_false, bind_b, q10, eq_self, reduceCtorEq, not_true_eq_false, not_false_eq_true, ne_eq, cr_11000, cr_15000, cr_16000, cr_20000, cr_20001, cr_21000, cr_22000, cr_25000, cr_1000, cr_2000, cr_3000, cr_3003, cr_3006, cr_4000, cr_5000, cr_6000, cr_7000, cr_8000, cr_9000, cr_10000, cr_13500, cr_17000, cr_17100, cr_17103, cr_17106, cr_19000, cr_20100, cr_21100, cr_23000, cr_24000, cw_11000, cw_15000, cw_16000, cw_20000, cw_20001, cw_21000, cw_22000, cw_25000, cw_1000, cw_2000, cw_3000, cw_3003, cw_3006, cw_4000, cw_5000, cw_6000, cw_7000, cw_8000, cw_9000, cw_10000, cw_13500, cw_17000, cw_17100, cw_17103, cw_17106, cw_19000, cw_20100, cw_21100, cw_23000, cw_24000, lc_13500, lc_15000, lc_16000, lc_17000, lc_17100, lc_17103, lc_17106, lc_19000, lc_20000, lc_20001, lc_20100, lc_21000, lc_21100, lc_22000, lc_23000, lc_24000, lc_25000, gd_t, w_eq, o2, r]
end FGT
