/-! PURE PART, 87: read: letters made, places read on from, deliveries -/
/-- a letter is made -/
def ltC (C : Cd) (g m : Int) : Cd := uq (uq (uq (uq (uq (uq (uq (uq (zq C 2000 (150 * g + m)) 2000 (150 * g + m) 1 0) 2000 (150 * g + m) 2 0) 2000 (150 * g + m) 3 0) 2000 (150 * g + m) 4 0) 2000 (150 * g + m) 5 0) 2000 (150 * g + m) 6 0) 2000 (150 * g + m) 0 (5000 + m)) 17000 g m (2000 + (150 * g + m))
section MAKE
variable {C : Cd} {N N0 : Nd} {A : Ad} {g j m : Int}
theorem lt_k {b i z : Int} (h1 : ¬ (b = 2000 ∧ i = 150 * g + m)) (h2 : ¬ (b = 17000 ∧ i = g ∧ z = m)) : ltC C g m b i z = C b i z := by
  unfold ltC
  rw [uq_s, if_neg h2, uq_s, if_neg (by omega), uq_s, if_neg (by omega), uq_s, if_neg (by omega), uq_s, if_neg (by omega), uq_s, if_neg (by omega), uq_s, if_neg (by omega), uq_s, if_neg (by omega), zq_s, if_neg h1]
theorem lt_c {z : Int} : ltC C g m 2000 (150 * g + m) z = if z = 0 then 5000 + m else 0 := by
  unfold ltC
  simp only [uq_s, zq_s, up_s, true_and, false_and, and_true, and_false, if_true, if_false, ↓reduceIte, ↓Option.bind_some, Int.reduceEq, Int.reduceNe, Int.reduceLT, Int.reduceLE, gd_true, gd_false, bind_b, q10, eq_self, reduceCtorEq, not_true_eq_false, not_false_eq_true, ne_eq]
  by_cases e : z = 0
  · rw [if_pos e, if_pos e]
  · rw [if_neg e, if_neg e]
    repeat' split
    all_goals rfl
theorem lt_l : ltC C g m 17000 g m = 2000 + (150 * g + m) := by
  unfold ltC
  rw [uq_s, if_pos ⟨rfl, rfl, rfl⟩]
theorem KG.lt (m1 : 0 ≤ m) (m2 : m < 150) : KG g C (ltC C g m) := fun b i z h => lt_k (by unfold inG at h; omega) (by unfold inG at h; omega)
theorem c_letterOf (G : RG N) (c : CC C N) (a : GA C N g) (g1 : 0 ≤ g) (g2 : g < 3) (m1 : 0 ≤ m) (m2 : m < (N 12000 19)) (hA : C 17000 g m = 0 → A.1 (2000 + (150 * g + m)) = 0) : p_X0_letterOf (mk C N0 A) (1000 + g) (5000 + m) = some (2000 + (150 * g + m), if C 17000 g m = 0 then mk (ltC C g m) N0 (alA A (2000 + (150 * g + m)) 7) else mk C N0 A) := by
  have s5 := G.s.2.2.2.2.1
  have m150 : m < 150 := by omega
  have kn := c_known (N0 := N0) (A := A) G c a g1 g2 m1 m2
  have c0 := (c.m m m1 m2).1
  have o2 := a.o.2.2.1
  unfold p_X0_letterOf
  by_cases z : C 17000 g m = 0
  · have ad := hA z
    have e1 : 2000 + (150 * (1000 + g - 1000) + m) = 2000 + (150 * g + m) := by omega
    have z0 : zq C 2000 (150 * g + m) 5000 m 0 = m := by rw [zq_s, if_neg (by omega)]; exact c0
    have z2 : zq C 2000 (150 * g + m) 1000 g 2 = 17000 + g := by rw [zq_s, if_neg (by omega)]; exact o2
    rw [z] at kn
    rw [if_pos z]
    unfold p_X1_init
    simp (disch := first | omega | assumption) only [aok, up_s, true_and, false_and, and_true, and_false, if_true, if_false, ↓reduceIte, ↓Option.bind_some, Int.reduceEq, Int.reduceNe, Int.reduceLT, Int.reduceLE, gd_true, gd_false, bind_b, q10, eq_self, reduceCtorEq, not_true_eq_false, not_false_eq_true, ne_eq, cr_11000, cr_15000, cr_16000, cr_20000, cr_20001, cr_21000, cr_22000, cr_25000, cr_1000, cr_2000, cr_3000, cr_3003, cr_3006, cr_4000, cr_5000, cr_6000, cr_7000, cr_8000, cr_9000, cr_10000, cr_13500, cr_17000, cr_17100, cr_17103, cr_17106, cr_19000, cr_20100, cr_21100, cr_23000, cr_24000, cw_11000, cw_15000, cw_16000, cw_20000, cw_20001, cw_21000, cw_22000, cw_25000, cw_1000, cw_2000, cw_3000, cw_3003, cw_3006, cw_4000, cw_5000, cw_6000, cw_7000, cw_8000, cw_9000, cw_10000, cw_13500, cw_17000, cw_17100, cw_17103, cw_17106, cw_19000, cw_20100, cw_21100, cw_23000, cw_24000, lc_13500, lc_15000, lc_16000, lc_17000, lc_17100, lc_17103, lc_17106, lc_19000, lc_20000, lc_20001, lc_20100, lc_21000, lc_21100, lc_22000, lc_23000, lc_24000, lc_25000, gd_t, w_eq, kn, c0, e1, al_2000, ad, uq_s, z0, z2, m150, if_neg]
    rfl
  · have e := ((a.le m m1 m150).1).resolve_left z
    rw [e] at kn
    rw [if_neg z]
    simp (disch := omega) only [aok, up_s, true_and, false_and, and_true, and_false, if_true, if_false, ↓reduceIte, ↓Option.bind_some, Int.reduceEq, Int.reduceNe, Int.reduceLT, Int.reduceLE, gd_true, gd_false, bind_b, q10, eq_self, reduceCtorEq, not_true_eq_false, not_false_eq_true, ne_eq, cr_11000, cr_15000, cr_16000, cr_20000, cr_20001, cr_21000, cr_22000, cr_25000, cr_1000, cr_2000, cr_3000, cr_3003, cr_3006, cr_4000, cr_5000, cr_6000, cr_7000, cr_8000, cr_9000, cr_10000, cr_13500, cr_17000, cr_17100, cr_17103, cr_17106, cr_19000, cr_20100, cr_21100, cr_23000, cr_24000, cw_11000, cw_15000, cw_16000, cw_20000, cw_20001, cw_21000, cw_22000, cw_25000, cw_1000, cw_2000, cw_3000, cw_3003, cw_3006, cw_4000, cw_5000, cw_6000, cw_7000, cw_8000, cw_9000, cw_10000, cw_13500, cw_17000, cw_17100, cw_17103, cw_17106, cw_19000, cw_20100, cw_21100, cw_23000, cw_24000, lc_13500, lc_15000, lc_16000, lc_17000, lc_17100, lc_17103, lc_17106, lc_19000, lc_20000, lc_20001, lc_20100, lc_21000, lc_21100, lc_22000, lc_23000, lc_24000, lc_25000, gd_t, w_eq, kn, if_neg]
theorem GA.lt (G : RG N) (a : GA C N g) (g1 : 0 ≤ g) (g2 : g < 3) (m1 : 0 ≤ m) (m2 : m < (N 12000 19)) (z : C 17000 g m = 0) (hs : N 13024 m = 3 ∨ canR N m) (r : gR N g (N 13021 m)) : GA (ltC C g m) N g := by
  have s5 := G.s.2.2.2.2.1
  have lm := a.le m m1 (by omega)
  have lm3 := lm.2.2.1 z
  have e : ∀ b i y, ¬ (b = 2000 ∧ i = 150 * g + m) → ¬ (b = 17000 ∧ i = g ∧ y = m) → ltC C g m b i y = C b i y := fun b i y h1 h2 => lt_k h1 h2
  refine ⟨?_, fun p p1 p2 => ?_, fun x x1 x2 => ?_, fun x x1 x2 x3 => ?_, fun x x1 x2 => ?_, ?_, ?_, a.nm, a.np, a.nu⟩
  · have o := a.o
    unfold GO at o ⊢
    rw [e _ _ _ (by omega) (by omega), e _ _ _ (by omega) (by omega), e _ _ _ (by omega) (by omega), e _ _ _ (by omega) (by omega), e _ _ _ (by omega) (by omega), e _ _ _ (by omega) (by omega), e _ _ _ (by omega) (by omega), e _ _ _ (by omega) (by omega), e _ _ _ (by omega) (by omega)]
    exact o
  · have x := a.sh p p1 p2
    have e9 : ∀ y, ltC C g m 9000 (9 * g + p) y = C 9000 (9 * g + p) y := fun y => e _ _ _ (by omega) (by omega)
    rw [e _ _ _ (by omega) (by omega), e9, e9, e9, e9, e9]
    exact x
  · have q := a.me x x1 x2
    have e9 : ∀ y, ltC C g m 4000 (12 * g + x) y = C 4000 (12 * g + x) y := fun y => e _ _ _ (by omega) (by omega)
    rw [e _ _ _ (by omega) (by omega), e9, e9, e9, e9, e9]
    exact q
  · obtain ⟨y1, y2⟩ := a.ha x x1 x2 x3
    refine ⟨⟨?_, ?_, fun i i1 i2 => ?_⟩, fun i i1 i2 => ?_⟩
    · rw [e _ _ _ (by omega) (by omega)]; exact y1.1
    · rw [e _ _ _ (by omega) (by omega)]; exact y1.2.1
    · rw [e _ _ _ (by omega) (by omega)]; exact y1.2.2 i i1 i2
    · obtain ⟨⟨b1, b2, b3, b4, b5⟩, r6⟩ := y2 i i1 i2
      have nm' : hf N g x i ≠ m := fun y => by rw [y] at b3; omega
      rw [e _ _ _ (by omega) (by omega), e _ _ _ (by omega) (by omega), e _ _ _ (by omega) (by omega)]
      exact ⟨⟨b1, b2, b3, b4, b5⟩, r6⟩
  · obtain ⟨x1', x2', x3', x4', x5', x6', x7', x8', x9', x0'⟩ := a.le x x1 x2
    by_cases ex : x = m
    · subst ex
      have w1 : ¬ N 13059 (150 * g + x) = 1 := fun y => by have := x6'.mpr y; omega
      have w2 : ¬ N 13062 (150 * g + x) = 1 := fun y => by have := x7'.mpr y; omega
      have e0 : ltC C g x 2000 (150 * g + x) 0 = 5000 + x := by rw [lt_c, if_pos rfl]
      have ez : ∀ y, y ≠ 0 → ltC C g x 2000 (150 * g + x) y = 0 := fun y h => by rw [lt_c, if_neg h]
      rw [lt_l, e0, ez 1 (by decide), ez 2 (by decide), ez 3 (by decide), ez 5 (by decide), ez 6 (by decide)]
      refine ⟨Or.inr rfl, fun _ => ⟨m2, rfl, hs, r⟩, fun y => by omega, fun _ => lm3.2.2.symm, x5', ⟨fun y => absurd y (by decide), fun y => absurd y w1⟩, ⟨fun y => absurd y (by decide), fun y => absurd y w2⟩, fun y => absurd y (by decide), by decide, fun y => absurd y w1⟩
    · have ee : ∀ y, ltC C g m 2000 (150 * g + x) y = C 2000 (150 * g + x) y := fun y => e _ _ _ (by omega) (by omega)
      rw [e 17000 g x (by omega) (by omega), ee, ee, ee, ee, ee, ee]
      exact ⟨x1', x2', x3', x4', x5', x6', x7', x8', x9', x0'⟩
  · obtain ⟨n, f, ⟨w1, w2, w3⟩, w4⟩ := a.wa
    refine ⟨n, f, ⟨?_, ?_, fun i i1 i2 => ?_⟩, w4⟩
    · rw [e _ _ _ (by omega) (by omega)]; exact w1
    · rw [e _ _ _ (by omega) (by omega)]; exact w2
    · rw [e _ _ _ (by omega) (by omega)]; exact w3 i i1 i2
  · obtain ⟨⟨w1, w2, w3⟩, w4⟩ := a.de
    refine ⟨⟨?_, ?_, fun i i1 i2 => ?_⟩, w4⟩
    · rw [e _ _ _ (by omega) (by omega)]; exact w1
    · rw [e _ _ _ (by omega) (by omega)]; exact w2
    · rw [e _ _ _ (by omega) (by omega)]; exact w3 i i1 i2
theorem lt_fd (a : GA C N g) (g1 : 0 ≤ g) (m1 : 0 ≤ m) (m2 : m < 150) (z : C 17000 g m = 0) {x : Int} : Fdl (ltC C g m) g x = Fdl C g x := by
  have lm3 := (a.le m m1 m2).2.2.1 z
  show ltC C g m 2000 (150 * g + x) 6 = C 2000 (150 * g + x) 6
  by_cases e : x = m
  · rw [e, lt_c, if_neg (by decide)]
    exact lm3.2.1.symm
  · exact lt_k (by omega) (by omega)
theorem GIn.lt (a : GA C N g) (h : GIn C N g) (g1 : 0 ≤ g) (m1 : 0 ≤ m) (m2 : m < 150) (z : C 17000 g m = 0) : GIn (ltC C g m) N g := by
  have fd := fun x => lt_fd (x := x) a g1 m1 m2 z
  have sq : ∀ p, So (ltC C g m) g p = So C g p := fun p => lt_k (by omega) (by omega)
  have pd : ∀ x, (Pd (ltC C g m) N g x ↔ Pd C N g x) := fun x => by unfold Pd; rw [fd]
  obtain ⟨x1, x2, x3, x4, x5, x6⟩ := h
  refine ⟨fun u v u1 u2 v1 v2 hp hc hq h1 h2 => ?_, fun v v1 v2 hc hg h1 h2 => ?_, fun u v u1 u2 v1 v2 h1 h2 h3 h4 h5 => ?_, fun u v u1 u2 v1 v2 h1 h2 h4 h5 => ?_, fun p hg => ?_, fun x h1 h2 => ?_⟩
  · rw [sq] at h1
    exact (pd v).mpr (x1 u v u1 u2 v1 v2 ((pd u).mp hp) hc hq h1 h2)
  · rw [sq] at h1
    exact (pd v).mpr (x2 v v1 v2 hc hg h1 h2)
  · rw [fd] at h2 h3
    exact x3 u v u1 u2 v1 v2 h1 h2 h3 h4 h5
  · rw [fd] at h1
    rw [fd, fd] at h2
    exact x4 u v u1 u2 v1 v2 h1 h2 h4 h5
  · rw [sq]
    exact x5 p hg
  · obtain ⟨y1, y2, y3, y4⟩ := x6 x h1 h2
    have e9 : ltC C g m 1000 g 9 = C 1000 g 9 := lt_k (by omega) (by omega)
    rw [fd, sq, e9]
    refine ⟨fun q => y1 ?_, y2, y3, fun q => y4 ((pd x).mp q)⟩
    by_cases e : x = m
    · rw [e, lt_c, if_neg (by decide)] at q
      omega
    · rw [lt_k (by omega) (by omega)] at q
      exact q
theorem NE.lt (G : RG N) (h : NE C N A) (g1 : 0 ≤ g) (g2 : g < (N 12000 41)) (g3 : g < 3) (m1 : 0 ≤ m) (m2 : m < 150) : NE (ltC C g m) N (alA A (2000 + (150 * g + m)) 7) := by
  obtain ⟨n1, n2, n3, n4, n5, n6, n7⟩ := h
  have s1 := G.s.1
  have s2 := G.s.2.1
  have s3 := G.s.2.2.1
  have s4 := G.s.2.2.2.1
  have s5 := G.s.2.2.2.2.1
  refine ⟨fun t t1 t2 => ?_, fun p p1 p2 => ?_, fun x x1 x2 => ?_, fun x x1 x2 => ?_, fun h h1 h2 => ?_, fun h q h1 h2 q1 q2 hq => ?_, fun h x h1 h2 x1 x2 hx => ?_⟩
  · have q := n1 t t1 t2
    rw [ad_al (by omega), ad_al (by omega)]; exact q
  · have q := n2 p p1 p2
    refine ⟨?_, ?_, ?_, fun z z1 z2 => ?_⟩
    · rw [ad_al (by omega)]; exact q.1
    · rw [ad_al (by omega)]; exact q.2.1
    · rw [ad_al (by omega)]; exact q.2.2.1
    · rw [ad_al (by omega)]; exact q.2.2.2 z z1 z2
  · have q := n3 x x1 x2
    rw [ad_al (by omega), ad_al (by omega)]; exact q
  · have q := n4 x x1 x2
    rw [ad_al (by omega)]; exact q
  · have q := n5 h h1 h2
    refine ⟨?_, ?_, ?_, ?_, ?_, ?_, ?_, ?_, fun z z1 z2 => ?_⟩ <;> rw [ad_al (by omega)]
    · exact q.1
    · exact q.2.1
    · exact q.2.2.1
    · exact q.2.2.2.1
    · exact q.2.2.2.2.1
    · exact q.2.2.2.2.2.1
    · exact q.2.2.2.2.2.2.1
    · exact q.2.2.2.2.2.2.2.1
    · exact q.2.2.2.2.2.2.2.2 z z1 z2
  · have r := n6 h q h1 h2 q1 q2 hq
    rw [ad_al (by omega), ad_al (by omega), ad_al (by omega)]; exact r
  · by_cases e : h = g ∧ x = m
    · exfalso
      rw [e.1, e.2] at hx
      rcases hx with hx | hx
      · omega
      · rw [lt_l] at hx
        omega
    · have hx' : (N 12000 41) ≤ h ∨ C 17000 h x = 0 := hx.imp id (fun y => by rw [lt_k (by omega) (by omega)] at y; exact y)
      rw [ad_al (by omega)]
      exact n7 h x h1 h2 x1 x2 hx'
/-- it reads on from another offset -/
theorem GA.ro {p v : Int} (a : GA C N g) (g1 : 0 ≤ g) (p1 : 0 ≤ p) (p2 : p < 9) (hv : N 13058 (9 * g + p) ≤ v ∧ v ≤ 60) : GA (uq C 9000 (9 * g + p) 4 v) (up N 13058 (9 * g + p) v) g := by
  have rv : ∀ q, (up N 13058 (9 * g + p) v) 13058 (9 * g + q) = if q = p then v else N 13058 (9 * g + q) := fun q => by
    simp only [up_s, up_s, true_and, false_and, and_true, and_false, if_true, if_false, ↓reduceIte, ↓Option.bind_some, Int.reduceEq, Int.reduceNe, Int.reduceLT, Int.reduceLE, gd_true, gd_false, bind_b, q10, eq_self, reduceCtorEq, not_true_eq_false, not_false_eq_true, ne_eq]
    by_cases e : q = p
    · rw [if_pos e, if_pos (by omega)]
    · rw [if_neg e, if_neg (by omega)]
  refine ⟨a.o, fun q q1 q2 => ?_, a.me, fun z z1 z2 z3 => ?_, a.le, a.wa, a.de, a.nm, fun q q1 q2 => ?_, a.nu⟩
  · obtain ⟨x1, x2⟩ := a.sh q q1 q2
    refine ⟨x1, fun r => ?_⟩
    obtain ⟨y0, y1, y2, y3, y4⟩ := x2 r
    rw [rv]
    refine ⟨?_, ?_, ?_, ?_, ?_⟩
    · rw [uq_s, if_neg (by omega)]; exact y0
    · rw [uq_s, if_neg (by omega)]; exact y1
    · rw [uq_s, if_neg (by omega)]; exact y2
    · rw [uq_s, if_neg (by omega)]; exact y3
    · rw [uq_s]
      by_cases e : q = p
      · rw [if_pos e, if_pos (by omega)]
      · rw [if_neg e, if_neg (by omega)]; exact y4
  · obtain ⟨x1, x2⟩ := a.ha z z1 z2 z3
    refine ⟨x1, fun k k1 k2 => ?_⟩
    obtain ⟨y1, ⟨y2, y3, y4, y5⟩, y6⟩ := x2 k k1 k2
    refine ⟨y1, ⟨y2, y3, y4, fun q => ?_⟩, y6⟩
    have := y5 q
    show N 13026 (hf N g z k) < (up N 13058 (9 * g + p) v) 13058 (9 * g + N 13021 (hf N g z k))
    rw [rv]
    split
    · rename_i e
      rw [e] at this
      omega
    · exact this
  · obtain ⟨x1, x2, x3⟩ := a.np q q1 q2
    refine ⟨x1, x2, ?_⟩
    rw [rv]
    split
    · rename_i e
      rw [e] at x3
      omega
    · exact x3
/-- a message leaves its row -/
theorem GA.unrow {C1 : Cd} {n i0 : Int} {f : Int → Int} (a : GA C N g) (g1 : 0 ≤ g) (m1 : 0 ≤ m) (m2 : m < 150) (w : GW1 C N g n f) (h0 : 0 ≤ i0) (h1 : i0 < n) (hm : f i0 = m) (l : LSr C1 3000 17100 g g (n - 1) (fun k => if k < i0 then f k else f (k + 1))) (lk : LK 3000 17100 g C C1) : GA (uq C1 2000 (150 * g + m) 1 0) (up N 13059 (150 * g + m) 0) g := by
  have e : ∀ b i z, ¬ (b = 17100 ∧ i = g) → ¬ (b = 3000 ∧ i = g ∧ z = 1) → ¬ (b = 2000 ∧ i = 150 * g + m ∧ z = 1) → uq C1 2000 (150 * g + m) 1 0 b i z = C b i z := fun b i z z1 z2 z3 => by
    rw [uq_s, if_neg z3]; exact lk b i z z1 z2
  have e0 : uq C1 2000 (150 * g + m) 1 0 2000 (150 * g + m) 1 = 0 := by rw [uq_s, if_pos ⟨rfl, rfl, rfl⟩]
  have l' := l.uq (b := 2000) (x := 150 * g + m) (y := 1) (v := 0) (by decide) (by decide)
  generalize uq C1 2000 (150 * g + m) 1 0 = C' at e e0 l' ⊢
  have wv : ∀ x, (up N 13059 (150 * g + m) 0) 13059 (150 * g + x) = if x = m then 0 else N 13059 (150 * g + x) := fun x => by
    simp only [up_s, up_s, true_and, false_and, and_true, and_false, if_true, if_false, ↓reduceIte, ↓Option.bind_some, Int.reduceEq, Int.reduceNe, Int.reduceLT, Int.reduceLE, gd_true, gd_false, bind_b, q10, eq_self, reduceCtorEq, not_true_eq_false, not_false_eq_true, ne_eq]
    by_cases q : x = m
    · rw [if_pos q, if_pos (by omega)]
    · rw [if_neg q, if_neg (by omega)]
  have fm := (w.2.2.1 i0 h0 h1).2.2
  rw [hm] at fm
  refine ⟨?_, fun p p1 p2 => ?_, fun x x1 x2 => ?_, fun x x1 x2 x3 => ?_, fun x x1 x2 => ?_, ?_, ?_, a.nm, a.np, a.nu⟩
  · have o := a.o
    unfold GO at o ⊢
    rw [e _ _ _ (by omega) (by omega) (by omega), e _ _ _ (by omega) (by omega) (by omega), e _ _ _ (by omega) (by omega) (by omega), e _ _ _ (by omega) (by omega) (by omega), e _ _ _ (by omega) (by omega) (by omega), e _ _ _ (by omega) (by omega) (by omega), e _ _ _ (by omega) (by omega) (by omega), e _ _ _ (by omega) (by omega) (by omega), e _ _ _ (by omega) (by omega) (by omega)]
    exact o
  · have x := a.sh p p1 p2
    have e9 : ∀ y, C' 9000 (9 * g + p) y = C 9000 (9 * g + p) y := fun y => e _ _ _ (by omega) (by omega) (by omega)
    rw [e _ _ _ (by omega) (by omega) (by omega), e9, e9, e9, e9, e9]
    exact x
  · have q := a.me x x1 x2
    have e9 : ∀ y, C' 4000 (12 * g + x) y = C 4000 (12 * g + x) y := fun y => e _ _ _ (by omega) (by omega) (by omega)
    rw [e _ _ _ (by omega) (by omega) (by omega), e9, e9, e9, e9, e9]
    exact q
  · obtain ⟨y1, y2⟩ := a.ha x x1 x2 x3
    refine ⟨⟨?_, ?_, fun i i1 i2 => ?_⟩, fun i i1 i2 => ?_⟩
    · rw [e _ _ _ (by omega) (by omega) (by omega)]; exact y1.1
    · rw [e _ _ _ (by omega) (by omega) (by omega)]; exact y1.2.1
    · rw [e _ _ _ (by omega) (by omega) (by omega)]; exact y1.2.2 i i1 i2
    · obtain ⟨⟨b1, b2, b3, b4, b5⟩, r6⟩ := y2 i i1 i2
      have nm' : hf N g x i ≠ m := fun y => by
        rw [y] at b3
        have := (a.le m m1 m2).2.2.2.2.2.1.mpr fm
        omega
      refine ⟨⟨b1, b2, ?_, ?_, ?_⟩, r6⟩
      · show C' 2000 (150 * g + hf N g x i) 1 = 2
        rw [e _ _ _ (by omega) (by omega) (by omega)]; exact b3
      · show C' 2000 (150 * g + hf N g x i) 3 = _
        rw [e _ _ _ (by omega) (by omega) (by omega)]; exact b4
      · show C' 2000 (150 * g + hf N g x i) 4 = _
        rw [e _ _ _ (by omega) (by omega) (by omega)]; exact b5
  · obtain ⟨x1', x2', x3', x4', x5', x6', x7', x8', x9', x0'⟩ := a.le x x1 x2
    have ee : ∀ y, y ≠ 1 → C' 2000 (150 * g + x) y = C 2000 (150 * g + x) y := fun y hy => e _ _ _ (by omega) (by omega) (by omega)
    rw [e 17000 g x (by omega) (by omega) (by omega), ee 0 (by decide), ee 2 (by decide), ee 3 (by decide), ee 5 (by decide), ee 6 (by decide), wv]
    by_cases ex : x = m
    · subst ex
      have w1 := x6'.mpr fm
      have nd : ¬ N 13062 (150 * g + x) = 1 := fun y => by have := x7'.mpr y; omega
      rw [e0, if_pos rfl]
      exact ⟨x1', x2', fun y => by have := (x3' y).1; omega, x4', ⟨Or.inl rfl, x5'.2⟩, ⟨fun y => absurd y (by decide), fun y => absurd y (by decide)⟩, ⟨fun y => absurd y (by decide), fun y => absurd y nd⟩, fun y => absurd y (by decide), by decide, fun y => absurd y (by decide)⟩
    · rw [e 2000 _ 1 (by omega) (by omega) (by omega), if_neg ex]
      exact ⟨x1', x2', x3', x4', x5', x6', x7', x8', x9', x0'⟩
  · have wb := w.2.1
    refine ⟨n - 1, _, l', by omega, fun i i1 i2 => ?_, fun i k i1 i2 k2 => ?_, fun x x1 x2 hx => ?_⟩
    · have key : ∀ s, 0 ≤ s → s < n → s ≠ i0 → 0 ≤ f s ∧ f s < 150 ∧ (up N 13059 (150 * g + m) 0) 13059 (150 * g + f s) = 1 := fun s s1 s2 s3 => by
        have y := w.2.2.1 s s1 s2
        have ne : f s ≠ m := fun q => by
          by_cases c : s < i0
          · exact w.dis s1 c h1 (q.trans hm.symm)
          · exact w.dis h0 (by omega) s2 (hm.trans q.symm)
        rw [wv, if_neg ne]
        exact y
      by_cases c : i < i0
      · simp only [if_pos c]; exact key i i1 (by omega) (by omega)
      · simp only [if_neg c]; exact key (i + 1) (by omega) (by omega) (by omega)
    · by_cases c : k < i0
      · simp only [if_pos c, if_pos (show i < i0 by omega)]
        exact w.2.2.2.1 i k i1 i2 (by omega)
      · by_cases c2 : i < i0
        · simp only [if_neg c, if_pos c2]
          exact w.2.2.2.1 i (k + 1) i1 (by omega) (by omega)
        · simp only [if_neg c, if_neg c2]
          exact w.2.2.2.1 (i + 1) (k + 1) (by omega) (by omega) (by omega)
    · rw [wv] at hx
      split at hx
      · omega
      · rename_i ne
        obtain ⟨i, i1, i2, i3⟩ := w.2.2.2.2 x x1 x2 hx
        have ni : i ≠ i0 := fun q => ne (by rw [← i3, q]; exact hm)
        by_cases c : i < i0
        · exact ⟨i, i1, by omega, by simp only [if_pos c]; exact i3⟩
        · exact ⟨i - 1, by omega, by omega, by simp only [if_neg (show ¬ i - 1 < i0 by omega)]; rw [show i - 1 + 1 = i by omega]; exact i3⟩
  · obtain ⟨⟨w1, w2, w3⟩, w4⟩ := a.de
    refine ⟨⟨?_, ?_, fun i i1 i2 => ?_⟩, w4⟩
    · rw [e _ _ _ (by omega) (by omega) (by omega)]; exact w1
    · rw [e _ _ _ (by omega) (by omega) (by omega)]; exact w2
    · rw [e _ _ _ (by omega) (by omega) (by omega)]; exact w3 i i1 i2
end MAKE
