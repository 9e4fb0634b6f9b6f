/-! PURE PART, 62: producer, abort, begin -/
/-- the class's table with a new producer -/
def prC (C : Cd) (x : Int) : Cd := uq (uq (uq (uq (zq (uq (uq (uq (uq (uq (uq (uq (zq C 7000 x) 7000 x 1 10) 7000 x 2 0) 7000 x 3 (-1)) 7000 x 4 0) 7000 x 5 0) 7000 x 6 0) 7000 x 7 0) 13500 x) 7000 x 8 (13500 + x)) 7000 x 0 x) 22000 0 x (7000 + x)) 11000 0 8 (x + 1)
theorem prC_k {C : Cd} {x b i j : Int} (h1 : ¬ (b = 7000 ∧ i = x)) (h2 : ¬ (b = 13500 ∧ i = x)) (h3 : ¬ (b = 22000 ∧ i = 0 ∧ j = x)) (h4 : ¬ (b = 11000 ∧ i = 0 ∧ j = 8)) : prC C x b i j = C b i j := by
  unfold prC
  repeat first
    | rw [uq_s, if_neg (by omega)]
    | rw [zq_s, if_neg (by omega)]
def prN (N : Nd) (x : Int) : Nd := up (up (up N 13031 x 10) 13033 x (-1)) 12000 30 (x + 1)
theorem gcell_ne {b : Int} (h : gcell b = true) : b ≠ 5000 ∧ b ≠ 6000 ∧ b ≠ 7000 ∧ b ≠ 8000 ∧ b ≠ 10000 ∧ b ≠ 11000 ∧ b ≠ 13500 ∧ b ≠ 16000 ∧ b ≠ 20000 ∧ b ≠ 20001 ∧ b ≠ 20100 ∧ b ≠ 21000 ∧ b ≠ 21100 ∧ b ≠ 22000 ∧ b ≠ 23000 ∧ b ≠ 25000 ∧ b ≠ 15000 := by
  unfold gcell at h
  simp only [Bool.or_eq_true, beq_iff_eq] at h
  omega
theorem garr_b {a : Int} (h : garr a = true) : 13042 ≤ a ∧ a ≤ 13064 := by
  unfold garr at h
  exact of_decide_eq_true h
theorem JN.prod {N : Nd} {x : Int} (j : JN N) (hx : x = (N 12000 30)) (h : x < 4) (hs : N 13032 x = 0) (hb : N 14034 x = 0) : JN (prN N x) := by
  have s := j.g.s
  have gx : ∀ i, prN N x 13033 i = if i = x then -1 else N 13033 i := fun i => by unfold prN; simp only [up_s, up_s, true_and, false_and, and_true, and_false, if_true, if_false, ↓reduceIte, ↓Option.bind_some, Int.reduceEq, Int.reduceNe, Int.reduceLT, Int.reduceLE, gd_true, gd_false, bind_b, q10, eq_self, reduceCtorEq, not_true_eq_false, not_false_eq_true, ne_eq]
  have bx : ∀ i, prN N x 14034 i = N 14034 i := fun i => rfl
  have x0 : 0 ≤ x := by rw [hx]; exact s.2.2.1.1
  have g' : RG (prN N x) := by
    obtain ⟨⟨a1, a2, a3, a4, a5, a6, a7, a8, a9⟩, g2⟩ := j.g
    refine ⟨⟨a1, a2, ?_, a4, a5, a6, a7, a8, a9⟩, g2.1, g2.2.1, g2.2.2.1, g2.2.2.2.1, fun m m1 m2 => ?_, fun i i1 i2 => ?_⟩
    · show 0 ≤ x + 1 ∧ x + 1 ≤ 4
      omega
    · obtain ⟨b1, b2⟩ := g2.2.2.2.2.1 m m1 m2
      refine ⟨?_, b2⟩
      show 0 ≤ N 13020 m ∧ N 13020 m < x + 1
      omega
    · have i3 : i < x + 1 := i2
      rw [gx, bx]
      show (0 ≤ (prN N x) 13031 i ∧ (prN N x) 13031 i ≤ 20) ∧ (0 ≤ N 13032 i ∧ N 13032 i ≤ 150) ∧ (_ ∧ _ < (N 12000 40)) ∧ _
      unfold prN
      simp only [up_s, up_s, true_and, false_and, and_true, and_false, if_true, if_false, ↓reduceIte, ↓Option.bind_some, Int.reduceEq, Int.reduceNe, Int.reduceLT, Int.reduceLE, gd_true, gd_false, bind_b, q10, eq_self, reduceCtorEq, not_true_eq_false, not_false_eq_true, ne_eq]
      by_cases e : i = x
      · subst e
        simp only [if_true, hs, hb]
        omega
      · simp only [e, if_false]
        exact g2.2.2.2.2.2 i i1 (by omega)
  refine ⟨⟨⟨g', j.1.1.2⟩, j.1.2⟩, ⟨fun m m1 m2 m3 => ?_, fun a b a1 a2 b1 b2 ha hab => ?_⟩, j.sl, j.tk, j.n1, j.n2, j.ms, fun m y m1 m2 y1 y2 hy hm => ?_⟩
  · have := (j.g.m m m1 m2).1
    show 0 ≤ N 13029 m ∧ prN N x 13033 (N 13020 m) = N 13029 m
    rw [gx, if_neg (by omega)]
    exact j.ot m m1 m2 m3
  · have a3 : a < x + 1 := a2
    have b3 : b < x + 1 := b2
    rw [gx] at ha
    rw [gx, gx] at hab
    by_cases e : a = x
    · rw [if_pos e] at ha; omega
    · rw [if_neg e] at ha hab
      by_cases e2 : b = x
      · rw [if_pos e2] at hab; omega
      · rw [if_neg e2] at hab
        exact j.xu a b a1 (by omega) b1 (by omega) ha hab
  · have y3 : y < x + 1 := y2
    rw [gx] at hy hm
    by_cases e : y = x
    · rw [if_pos e] at hy; omega
    · rw [if_neg e] at hy hm
      exact j.xs m y m1 m2 y1 (by omega) hy hm
theorem JJ.prod {n : Int} {C : Cd} {N : Nd} {A : Ad} {x : Int} (j : JJ n C N A) (hx : x = (N 12000 30)) (h : x < 4) : JJ (n + 1) (prC C x) (prN N x) (alA (alA A (7000 + x) 9) (13500 + x) 9) := by
  obtain ⟨l, d1, d2⟩ := j.d
  have s3 := j.jn.g.s.2.2.1
  have x0 : 0 ≤ x := by omega
  obtain ⟨f1, f2, f3, f4, f5⟩ := j.fn
  have fx := f2 x (by omega) h
  have gx : ∀ i, prN N x 13033 i = if i = x then -1 else N 13033 i := fun i => by unfold prN; simp only [up_s, up_s, true_and, false_and, and_true, and_false, if_true, if_false, ↓reduceIte, ↓Option.bind_some, Int.reduceEq, Int.reduceNe, Int.reduceLT, Int.reduceLE, gd_true, gd_false, bind_b, q10, eq_self, reduceCtorEq, not_true_eq_false, not_false_eq_true, ne_eq]
  have jn := j.jn.prod hx h fx.1 fx.2.1
  have c := j.c
  have cc : CC (prC C x) (prN N x) := by
    refine ⟨⟨c.b.1, c.b.2.1, c.b.2.2.1, rfl, c.b.2.2.2.2⟩, ⟨c.i.1, c.i.2.1, fun i i1 i2 => ?_, c.i.2.2.2⟩, c.t, c.p, c.w, c.l, c.r, c.m, fun i i1 i2 => ?_⟩
    · have q := c.i.2.2.1 i i1 i2
      rw [← hx] at q
      show prC C x 22000 0 i = if i < x + 1 then 7000 + i else 0
      unfold prC
      simp only [uq_s, zq_s, up_s, true_and, false_and, and_true, and_false, if_true, if_false, ↓reduceIte, ↓Option.bind_some, Int.reduceEq, Int.reduceNe, Int.reduceLT, Int.reduceLE, gd_true, gd_false, bind_b, q10, eq_self, reduceCtorEq, not_true_eq_false, not_false_eq_true, ne_eq]
      by_cases e : i = x
      · subst e
        simp (disch := omega) only [if_pos, if_true]
      · simp only [e, if_false]
        rw [q]
        by_cases e2 : i < x
        · rw [if_pos e2, if_pos (by omega)]
        · rw [if_neg e2, if_neg (by omega)]
    · have i3 : i < x + 1 := i2
      rw [gx]
      unfold prC prN
      simp only [uq_s, zq_s, up_s, up_s, true_and, false_and, and_true, and_false, if_true, if_false, ↓reduceIte, ↓Option.bind_some, Int.reduceEq, Int.reduceNe, Int.reduceLT, Int.reduceLE, gd_true, gd_false, bind_b, q10, eq_self, reduceCtorEq, not_true_eq_false, not_false_eq_true, ne_eq]
      by_cases e : i = x
      · subst e
        simp only [if_true, fx, true_and, and_self]
      · have q := c.x i i1 (by omega)
        simp only [e, if_false]
        exact q
  have sg : SG C (prC C x) N (prN N x) := ⟨fun b hb => by
    have := gcell_ne hb
    funext i k
    exact prC_k (by omega) (by omega) (by omega) (by omega), fun a ha => by
    have := garr_b ha
    funext k
    unfold prN
    rw [up_s, if_neg (by omega), up_s, if_neg (by omega), up_s, if_neg (by omega)]⟩
  refine j.step jn cc ⟨l, d1, d2⟩ sg Mo.rf (fun _ _ _ _ => Iff.rfl) (Int.le_refl _) (Int.le_refl _) rfl ?_ ?_ ?_ (by omega) ⟨by have := j.b.2.1; show (N 12000 1) ≤ _; omega, by have := j.b.2.2.1; show (N 12000 40) ≤ _; omega⟩
  · intro y y1 y2
    have y3 : y < x + 1 := y2
    by_cases e : y = x
    · subst e
      refine ⟨fun _ => ⟨?_, fun hz => ?_⟩, ?_, fun hz => absurd fx.2.2 hz⟩
      · unfold prC
        simp only [uq_s, zq_s, up_s, true_and, false_and, and_true, and_false, if_true, if_false, ↓reduceIte, ↓Option.bind_some, Int.reduceEq, Int.reduceNe, Int.reduceLT, Int.reduceLE, gd_true, gd_false, bind_b, q10, eq_self, reduceCtorEq, not_true_eq_false, not_false_eq_true, ne_eq]
      · rw [gx, if_pos rfl] at hz; omega
      · show 0 ≤ N 13035 y ∧ N 13035 y ≤ 9
        rw [fx.2.2]
        omega
    · obtain ⟨q1, q2, q3⟩ := j.px y y1 (by omega)
      have k7 : ∀ k, prC C x 7000 y k = C 7000 y k := fun k => prC_k (by omega) (by omega) (by omega) (by omega)
      have k13 : ∀ k, prC C x 13500 y k = C 13500 y k := fun k => prC_k (by omega) (by omega) (by omega) (by omega)
      have gy : prN N x 13033 y = N 13033 y := by rw [gx, if_neg e]
      refine ⟨fun hz => ?_, q2, fun hz => ?_⟩
      · rw [k7, gy]
        exact q1 hz
      · rw [k7, k7, k7]
        obtain ⟨z1, z2, z3, z4⟩ := q3 hz
        exact ⟨z1, z2, z3, fun p p1 p2 => ⟨(k13 p).trans (z4 p p1 p2).1, (z4 p p1 p2).2⟩⟩
  · obtain ⟨e1, e2, e3, e4, e5, e6, e7⟩ := j.ne
    refine ⟨fun t t1 t2 => ?_, fun p p1 p2 => ?_, fun y y1 y2 => ?_, fun m m1 m2 => ?_, fun g g1 g2 => ?_, fun g k g1 g2 k1 k2 hk => ?_, fun g m g1 g2 m1 m2 hm => ?_⟩
    · have q := e1 t t1 t2
      have t3 : (N 12000 4) ≤ t := t1
      have s1 := j.jn.g.s.1
      rw [ad_al (by omega), ad_al (by omega), ad_al (by omega), ad_al (by omega)]
      exact q
    · have q := e2 p p1 p2
      have t3 : (N 12000 11) ≤ p := p1
      have s1 := j.jn.g.s.2.1
      refine ⟨?_, ?_, ?_, fun r r1 r2 => ?_⟩ <;> rw [ad_al (by omega), ad_al (by omega)]
      · exact q.1
      · exact q.2.1
      · exact q.2.2.1
      · exact q.2.2.2 r r1 r2
    · have y3 : x + 1 ≤ y := y1
      have q := e3 y (by omega) y2
      rw [ad_al (by omega), ad_al (by omega), ad_al (by omega), ad_al (by omega)]
      exact q
    · have q := e4 m m1 m2
      have t3 : (N 12000 19) ≤ m := m1
      have s1 := j.jn.g.s.2.2.2.2.1
      rw [ad_al (by omega), ad_al (by omega)]
      exact q
    · have q := e5 g g1 g2
      have t3 : (N 12000 41) ≤ g := g1
      have s1 := j.jn.g.s.2.2.2.1
      refine ⟨?_, ?_, ?_, ?_, ?_, ?_, ?_, ?_, fun r r1 r2 => ?_⟩ <;> rw [ad_al (by omega), ad_al (by omega)]
      · exact q.1
      · exact q.2.1
      · exact q.2.2.1
      · exact q.2.2.2.1
      · exact q.2.2.2.2.1
      · exact q.2.2.2.2.2.1
      · exact q.2.2.2.2.2.2.1
      · exact q.2.2.2.2.2.2.2.1
      · exact q.2.2.2.2.2.2.2.2 r r1 r2
    · have q := e6 g k g1 g2 k1 k2 hk
      rw [ad_al (by omega), ad_al (by omega), ad_al (by omega), ad_al (by omega), ad_al (by omega), ad_al (by omega)]
      exact q
    · have q := e7 g m g1 g2 m1 m2 (by
        have z : prC C x 17000 g m = C 17000 g m := prC_k (by omega) (by omega) (by omega) (by omega)
        rw [← z]
        exact hm)
      rw [ad_al (by omega), ad_al (by omega)]
      exact q
  · refine ⟨f1, fun y y1 y2 => ?_, f3, f4, fun y y1 y2 hy => ?_⟩
    · have y3 : x + 1 ≤ y := y1
      exact f2 y (by omega) y2
    · have hy' : x + 1 ≤ y ∨ prN N x 13033 y < 0 := hy
      rw [gx] at hy'
      by_cases e : y = x
      · subst e
        exact ⟨fx.2.1, fx.2.2⟩
      · rw [if_neg e] at hy'
        exact f5 y y1 y2 (by omega)
theorem q_producer {n : Int} {C : Cd} {N : Nd} {A : Ad} (j : JJ n C N A) : SR n C N A (p_G_producer (mk C N A) 11000 15000) (fun M => p_X11_producer M 12000) := by
  have s3 := j.jn.g.s.2.2.1
  have b8 : C 11000 0 8 = (N 12000 30) := j.c.b.2.2.2.1
  have b2 : C 11000 0 2 = 22000 := j.c.b.1.2.2.1
  unfold p_G_producer p_X10_producer
  by_cases h : (N 12000 30) < 4
  · obtain ⟨-, -, e3, -⟩ := j.ne
    have ad := e3 _ (Int.le_refl _) h
    have jj : JJ (n + 1) (prC C ((N 12000 30))) (prN (up N 12000 0 0) ((N 12000 30))) (alA (alA A (7000 + (N 12000 30)) 9) (13500 + (N 12000 30)) 9) := JJ.prod (N := up N 12000 0 0) j.thrown rfl h
    have e1 : 13500 + (7000 + (N 12000 30) - 7000) = 13500 + (N 12000 30) := by omega
    refine ⟨0, uq (prC C ((N 12000 30))) 15000 0 0 ((N 12000 30)), alA (alA A (7000 + (N 12000 30)) 9) (13500 + (N 12000 30)) 9, ?_, (N 12000 30), prN (up N 12000 0 0) ((N 12000 30)), ?_, rfl, fun _ => rfl, jj.out⟩
    · unfold p_X6_init
      have a2 : (alA A (7000 + (N 12000 30)) 9).1 (13500 + (N 12000 30)) = 0 := by rw [ad_al (by omega)]; exact ad.2
      simp (disch := first | omega | assumption) only [aok, up_s, true_and, false_and, and_true, and_false, if_true, if_false, ↓reduceIte, ↓Option.bind_some, Int.reduceEq, Int.reduceNe, Int.reduceLT, Int.reduceLE, gd_true, gd_false, bind_b, q10, eq_self, reduceCtorEq, not_true_eq_false, not_false_eq_true, ne_eq, cr_11000, cr_15000, cr_16000, cr_20000, cr_20001, cr_21000, cr_22000, cr_25000, cr_1000, cr_2000, cr_3000, cr_3003, cr_3006, cr_4000, cr_5000, cr_6000, cr_7000, cr_8000, cr_9000, cr_10000, cr_13500, cr_17000, cr_17100, cr_17103, cr_17106, cr_19000, cr_20100, cr_21100, cr_23000, cr_24000, cw_11000, cw_15000, cw_16000, cw_20000, cw_20001, cw_21000, cw_22000, cw_25000, cw_1000, cw_2000, cw_3000, cw_3003, cw_3006, cw_4000, cw_5000, cw_6000, cw_7000, cw_8000, cw_9000, cw_10000, cw_13500, cw_17000, cw_17100, cw_17103, cw_17106, cw_19000, cw_20100, cw_21100, cw_23000, cw_24000, lc_13500, lc_15000, lc_16000, lc_17000, lc_17100, lc_17103, lc_17106, lc_19000, lc_20000, lc_20001, lc_20100, lc_21000, lc_21100, lc_22000, lc_23000, lc_24000, lc_25000, gd_t, w_eq, thT, thU, psT, psU, hnT, thr_mk, ↓Option.bind_some, b8, b2, h, al_7000, ad.1, e1, al_13500, lc_13500, a2, uq_s, zq_s, cw_22000, lc_22000]
      rfl
    · unfold p_X11_producer
      have e4 : w ((N 12000 30) + 1) = (N 12000 30) + 1 := w_eq (by omega) (by omega)
      have ne : ¬ (N 12000 30) = 4 := by omega
      simp (disch := omega) only [aok, up_s, true_and, false_and, and_true, and_false, if_true, if_false, ↓reduceIte, ↓Option.bind_some, Int.reduceEq, Int.reduceNe, Int.reduceLT, Int.reduceLE, gd_true, gd_false, bind_b, q10, eq_self, reduceCtorEq, not_true_eq_false, not_false_eq_true, ne_eq, pt_0, pt_1, pt_2, pt_3, pt_4, pt_5, pt_6, pt_7, pt_8, pt_9, pt_10, pt_11, pt_12, pt_13, pt_14, pt_15, pt_16, pt_17, pt_18, pt_19, pt_20, pt_21, pt_22, pt_23, pt_24, pt_25, pt_26, pt_27, pt_28, pt_29, pt_30, pt_31, pt_32, pt_33, pt_34, pt_35, pt_36, pt_37, pt_38, pt_39, pt_40, pt_41, pt_42, pt_43, pt_44, pt_45, pt_46, pt_47, pt_48, pt_49, pt_50, pt_51, pt_52, pt_53, pt_54, pt_55, pt_56, pt_57, pt_58, pt_59, pt_60, pt_61, pt_62, pt_63, pt_64, pt_65, pt_66, pt_67, pa_13005, pw_13005, pa_13006, pw_13006, pa_13007, pw_13007, pa_14008, pw_14008, pa_13009, pw_13009, pa_13010, pw_13010, pa_13012, pw_13012, pa_13013, pw_13013, pa_13014, pw_13014, pa_13015, pw_13015, pa_13016, pw_13016, pa_13017, pw_13017, pa_13018, pw_13018, pa_13020, pw_13020, pa_13021, pw_13021, pa_13022, pw_13022, pa_13023, pw_13023, pa_13024, pw_13024, pa_13025, pw_13025, pa_13026, pw_13026, pa_13027, pw_13027, pa_13028, pw_13028, pa_13029, pw_13029, pa_13031, pw_13031, pa_13032, pw_13032, pa_13033, pw_13033, pa_14034, pw_14034, pa_13035, pw_13035, pa_13036, pw_13036, pa_13037, pw_13037, pa_13038, pw_13038, pa_13039, pw_13039, pa_13042, pw_13042, pa_13043, pw_13043, pa_13044, pw_13044, pa_13045, pw_13045, pa_13046, pw_13046, pa_13047, pw_13047, pa_13048, pw_13048, pa_13049, pw_13049, pa_13050, pw_13050, pa_13051, pw_13051, pa_13052, pw_13052, pa_13053, pw_13053, pa_13054, pw_13054, pa_13055, pw_13055, pa_13056, pw_13056, pa_13057, pw_13057, pa_13058, pw_13058, pa_13059, pw_13059, pa_13060, pw_13060, pa_13061, pw_13061, pa_13062, pw_13062, pa_13063, pw_13063, pa_13064, pw_13064, pa_13065, pw_13065, pa_13066, pw_13066, pa_13067, pw_13067, ps_0, ps_1, ps_2, ps_3, ps_4, ps_11, ps_19, ps_30, ps_40, ps_41, ln_13005, ln_13006, ln_13007, ln_14008, ln_13009, ln_13010, ln_13012, ln_13013, ln_13014, ln_13015, ln_13016, ln_13017, ln_13018, ln_13020, ln_13021, ln_13022, ln_13023, ln_13024, ln_13025, ln_13026, ln_13027, ln_13028, ln_13029, ln_13031, ln_13032, ln_13033, ln_14034, ln_13035, ln_13036, ln_13037, ln_13038, ln_13039, ln_13042, ln_13043, ln_13044, ln_13045, ln_13046, ln_13047, ln_13048, ln_13049, ln_13050, ln_13051, ln_13052, ln_13053, ln_13054, ln_13055, ln_13056, ln_13057, ln_13058, ln_13059, ln_13060, ln_13061, ln_13062, ln_13063, ln_13064, ln_13065, ln_13066, ln_13067, gd_t, w_eq, ne, e4]
      simp only [Int.add_sub_cancel]
      rfl
  · refine SR.r j 1 (by omega) ?_ ?_
    · simp (disch := omega) only [aok, up_s, true_and, false_and, and_true, and_false, if_true, if_false, ↓reduceIte, ↓Option.bind_some, Int.reduceEq, Int.reduceNe, Int.reduceLT, Int.reduceLE, gd_true, gd_false, bind_b, q10, eq_self, reduceCtorEq, not_true_eq_false, not_false_eq_true, ne_eq, cr_11000, cr_15000, cr_16000, cr_20000, cr_20001, cr_21000, cr_22000, cr_25000, cr_1000, cr_2000, cr_3000, cr_3003, cr_3006, cr_4000, cr_5000, cr_6000, cr_7000, cr_8000, cr_9000, cr_10000, cr_13500, cr_17000, cr_17100, cr_17103, cr_17106, cr_19000, cr_20100, cr_21100, cr_23000, cr_24000, cw_11000, cw_15000, cw_16000, cw_20000, cw_20001, cw_21000, cw_22000, cw_25000, cw_1000, cw_2000, cw_3000, cw_3003, cw_3006, cw_4000, cw_5000, cw_6000, cw_7000, cw_8000, cw_9000, cw_10000, cw_13500, cw_17000, cw_17100, cw_17103, cw_17106, cw_19000, cw_20100, cw_21100, cw_23000, cw_24000, lc_13500, lc_15000, lc_16000, lc_17000, lc_17100, lc_17103, lc_17106, lc_19000, lc_20000, lc_20001, lc_20100, lc_21000, lc_21100, lc_22000, lc_23000, lc_24000, lc_25000, gd_t, w_eq, thT, thU, psT, psU, hnT, thr_mk, ↓Option.bind_some, b8, h]
    · unfold p_X11_producer
      have ne : (N 12000 30) = 4 := by omega
      simp (disch := omega) only [aok, up_s, true_and, false_and, and_true, and_false, if_true, if_false, ↓reduceIte, ↓Option.bind_some, Int.reduceEq, Int.reduceNe, Int.reduceLT, Int.reduceLE, gd_true, gd_false, bind_b, q10, eq_self, reduceCtorEq, not_true_eq_false, not_false_eq_true, ne_eq, pt_0, pt_1, pt_2, pt_3, pt_4, pt_5, pt_6, pt_7, pt_8, pt_9, pt_10, pt_11, pt_12, pt_13, pt_14, pt_15, pt_16, pt_17, pt_18, pt_19, pt_20, pt_21, pt_22, pt_23, pt_24, pt_25, pt_26, pt_27, pt_28, pt_29, pt_30, pt_31, pt_32, pt_33, pt_34, pt_35, pt_36, pt_37, pt_38, pt_39, pt_40, pt_41, pt_42, pt_43, pt_44, pt_45, pt_46, pt_47, pt_48, pt_49, pt_50, pt_51, pt_52, pt_53, pt_54, pt_55, pt_56, pt_57, pt_58, pt_59, pt_60, pt_61, pt_62, pt_63, pt_64, pt_65, pt_66, pt_67, pa_13005, pw_13005, pa_13006, pw_13006, pa_13007, pw_13007, pa_14008, pw_14008, pa_13009, pw_13009, pa_13010, pw_13010, pa_13012, pw_13012, pa_13013, pw_13013, pa_13014, pw_13014, pa_13015, pw_13015, pa_13016, pw_13016, pa_13017, pw_13017, pa_13018, pw_13018, pa_13020, pw_13020, pa_13021, pw_13021, pa_13022, pw_13022, pa_13023, pw_13023, pa_13024, pw_13024, pa_13025, pw_13025, pa_13026, pw_13026, pa_13027, pw_13027, pa_13028, pw_13028, pa_13029, pw_13029, pa_13031, pw_13031, pa_13032, pw_13032, pa_13033, pw_13033, pa_14034, pw_14034, pa_13035, pw_13035, pa_13036, pw_13036, pa_13037, pw_13037, pa_13038, pw_13038, pa_13039, pw_13039, pa_13042, pw_13042, pa_13043, pw_13043, pa_13044, pw_13044, pa_13045, pw_13045, pa_13046, pw_13046, pa_13047, pw_13047, pa_13048, pw_13048, pa_13049, pw_13049, pa_13050, pw_13050, pa_13051, pw_13051, pa_13052, pw_13052, pa_13053, pw_13053, pa_13054, pw_13054, pa_13055, pw_13055, pa_13056, pw_13056, pa_13057, pw_13057, pa_13058, pw_13058, pa_13059, pw_13059, pa_13060, pw_13060, pa_13061, pw_13061, pa_13062, pw_13062, pa_13063, pw_13063, pa_13064, pw_13064, pa_13065, pw_13065, pa_13066, pw_13066, pa_13067, pw_13067, ps_0, ps_1, ps_2, ps_3, ps_4, ps_11, ps_19, ps_30, ps_40, ps_41, ln_13005, ln_13006, ln_13007, ln_14008, ln_13009, ln_13010, ln_13012, ln_13013, ln_13014, ln_13015, ln_13016, ln_13017, ln_13018, ln_13020, ln_13021, ln_13022, ln_13023, ln_13024, ln_13025, ln_13026, ln_13027, ln_13028, ln_13029, ln_13031, ln_13032, ln_13033, ln_14034, ln_13035, ln_13036, ln_13037, ln_13038, ln_13039, ln_13042, ln_13043, ln_13044, ln_13045, ln_13046, ln_13047, ln_13048, ln_13049, ln_13050, ln_13051, ln_13052, ln_13053, ln_13054, ln_13055, ln_13056, ln_13057, ln_13058, ln_13059, ln_13060, ln_13061, ln_13062, ln_13063, ln_13064, ln_13065, ln_13066, ln_13067, gd_t, w_eq, ne, m_refuse]

/-- what is attached is forgotten -/
def fgI (N : Nd) (x i : Int) : Nd := ra (up N 13035 x 0) 13039 (fun k => if 9 * x ≤ k ∧ k < 9 * x + i then -1 else N 13039 k)
theorem fgI_0 {N : Nd} {x : Int} : fgI N x 0 = up N 13035 x 0 := by
  funext a k
  unfold fgI
  rw [ra_s]
  by_cases h : a = 13039
  · rw [if_pos h, if_neg (by omega), h]; rfl
  · rw [if_neg h]
theorem fgI_S {N : Nd} {x i : Int} (h : 0 ≤ i) : up (fgI N x i) 13039 (9 * x + i) (-1) = fgI N x (i + 1) := by
  funext a k
  unfold fgI
  rw [up_s, ra_s, ra_s]
  by_cases e : a = 13039
  · subst e
    simp only [true_and, if_true]
    by_cases e2 : k = 9 * x + i
    · rw [if_pos e2, if_pos (by omega)]
    · rw [if_neg e2]
      by_cases e3 : 9 * x ≤ k ∧ k < 9 * x + i
      · rw [if_pos e3, if_pos (by omega)]
      · rw [if_neg e3, if_neg (by omega)]
  · rw [if_neg (fun z => e z.1), if_neg e, if_neg e]
theorem m_forgetPlaces {C : Cd} {N : Nd} {A : Ad} {x : Int} (x1 : 0 ≤ x) (x2 : x < 4) : p_X11_forgetPlaces (mk C N A) 12000 x = some (mk C (fgI N x 9) A) := by
  unfold p_X11_forgetPlaces
  simp (disch := omega) only [aok, up_s, true_and, false_and, and_true, and_false, if_true, if_false, ↓reduceIte, ↓Option.bind_some, Int.reduceEq, Int.reduceNe, Int.reduceLT, Int.reduceLE, gd_true, gd_false, bind_b, q10, eq_self, reduceCtorEq, not_true_eq_false, not_false_eq_true, ne_eq, pt_0, pt_1, pt_2, pt_3, pt_4, pt_5, pt_6, pt_7, pt_8, pt_9, pt_10, pt_11, pt_12, pt_13, pt_14, pt_15, pt_16, pt_17, pt_18, pt_19, pt_20, pt_21, pt_22, pt_23, pt_24, pt_25, pt_26, pt_27, pt_28, pt_29, pt_30, pt_31, pt_32, pt_33, pt_34, pt_35, pt_36, pt_37, pt_38, pt_39, pt_40, pt_41, pt_42, pt_43, pt_44, pt_45, pt_46, pt_47, pt_48, pt_49, pt_50, pt_51, pt_52, pt_53, pt_54, pt_55, pt_56, pt_57, pt_58, pt_59, pt_60, pt_61, pt_62, pt_63, pt_64, pt_65, pt_66, pt_67, pa_13005, pw_13005, pa_13006, pw_13006, pa_13007, pw_13007, pa_14008, pw_14008, pa_13009, pw_13009, pa_13010, pw_13010, pa_13012, pw_13012, pa_13013, pw_13013, pa_13014, pw_13014, pa_13015, pw_13015, pa_13016, pw_13016, pa_13017, pw_13017, pa_13018, pw_13018, pa_13020, pw_13020, pa_13021, pw_13021, pa_13022, pw_13022, pa_13023, pw_13023, pa_13024, pw_13024, pa_13025, pw_13025, pa_13026, pw_13026, pa_13027, pw_13027, pa_13028, pw_13028, pa_13029, pw_13029, pa_13031, pw_13031, pa_13032, pw_13032, pa_13033, pw_13033, pa_14034, pw_14034, pa_13035, pw_13035, pa_13036, pw_13036, pa_13037, pw_13037, pa_13038, pw_13038, pa_13039, pw_13039, pa_13042, pw_13042, pa_13043, pw_13043, pa_13044, pw_13044, pa_13045, pw_13045, pa_13046, pw_13046, pa_13047, pw_13047, pa_13048, pw_13048, pa_13049, pw_13049, pa_13050, pw_13050, pa_13051, pw_13051, pa_13052, pw_13052, pa_13053, pw_13053, pa_13054, pw_13054, pa_13055, pw_13055, pa_13056, pw_13056, pa_13057, pw_13057, pa_13058, pw_13058, pa_13059, pw_13059, pa_13060, pw_13060, pa_13061, pw_13061, pa_13062, pw_13062, pa_13063, pw_13063, pa_13064, pw_13064, pa_13065, pw_13065, pa_13066, pw_13066, pa_13067, pw_13067, ps_0, ps_1, ps_2, ps_3, ps_4, ps_11, ps_19, ps_30, ps_40, ps_41, ln_13005, ln_13006, ln_13007, ln_14008, ln_13009, ln_13010, ln_13012, ln_13013, ln_13014, ln_13015, ln_13016, ln_13017, ln_13018, ln_13020, ln_13021, ln_13022, ln_13023, ln_13024, ln_13025, ln_13026, ln_13027, ln_13028, ln_13029, ln_13031, ln_13032, ln_13033, ln_14034, ln_13035, ln_13036, ln_13037, ln_13038, ln_13039, ln_13042, ln_13043, ln_13044, ln_13045, ln_13046, ln_13047, ln_13048, ln_13049, ln_13050, ln_13051, ln_13052, ln_13053, ln_13054, ln_13055, ln_13056, ln_13057, ln_13058, ln_13059, ln_13060, ln_13061, ln_13062, ln_13063, ln_13064, ln_13065, ln_13066, ln_13067, gd_t, w_eq]
  have hlp : lp (b_X11_forgetPlaces_9 12000 x) 1000 (0, mk C (up N 13035 x 0) A) = some (mk C (fgI N x 9) A) := by
    refine lp_seq (fun k : Nat => ((k : Int), mk C (fgI N x k) A)) (t := mk C (fgI N x 9) A) 9 (fun k hk => ?_) ?_ (by omega) ?_
    case refine_3 =>
      show _ = (((0 : Nat) : Int), mk C (fgI N x ((0 : Nat) : Int)) A)
      rw [show ((0 : Nat) : Int) = 0 from rfl, fgI_0]
    case refine_2 =>
      unfold b_X11_forgetPlaces_9
      rw [if_neg (show ¬ ((9 : Nat) : Int) < 9 by decide)]
      rfl
    have e : w (w (9 * x) + (k : Int)) = 9 * x + k := by rw [w_eq (z := 9 * x) (by omega) (by omega), w_eq (by omega) (by omega)]
    have k9 : (k : Int) < 9 := by omega
    have ic : ((k + 1 : Nat) : Int) = (k : Int) + 1 := by omega
    unfold b_X11_forgetPlaces_9
    simp (disch := omega) only [aok, up_s, true_and, false_and, and_true, and_false, if_true, if_false, ↓reduceIte, ↓Option.bind_some, Int.reduceEq, Int.reduceNe, Int.reduceLT, Int.reduceLE, gd_true, gd_false, bind_b, q10, eq_self, reduceCtorEq, not_true_eq_false, not_false_eq_true, ne_eq, pt_0, pt_1, pt_2, pt_3, pt_4, pt_5, pt_6, pt_7, pt_8, pt_9, pt_10, pt_11, pt_12, pt_13, pt_14, pt_15, pt_16, pt_17, pt_18, pt_19, pt_20, pt_21, pt_22, pt_23, pt_24, pt_25, pt_26, pt_27, pt_28, pt_29, pt_30, pt_31, pt_32, pt_33, pt_34, pt_35, pt_36, pt_37, pt_38, pt_39, pt_40, pt_41, pt_42, pt_43, pt_44, pt_45, pt_46, pt_47, pt_48, pt_49, pt_50, pt_51, pt_52, pt_53, pt_54, pt_55, pt_56, pt_57, pt_58, pt_59, pt_60, pt_61, pt_62, pt_63, pt_64, pt_65, pt_66, pt_67, pa_13005, pw_13005, pa_13006, pw_13006, pa_13007, pw_13007, pa_14008, pw_14008, pa_13009, pw_13009, pa_13010, pw_13010, pa_13012, pw_13012, pa_13013, pw_13013, pa_13014, pw_13014, pa_13015, pw_13015, pa_13016, pw_13016, pa_13017, pw_13017, pa_13018, pw_13018, pa_13020, pw_13020, pa_13021, pw_13021, pa_13022, pw_13022, pa_13023, pw_13023, pa_13024, pw_13024, pa_13025, pw_13025, pa_13026, pw_13026, pa_13027, pw_13027, pa_13028, pw_13028, pa_13029, pw_13029, pa_13031, pw_13031, pa_13032, pw_13032, pa_13033, pw_13033, pa_14034, pw_14034, pa_13035, pw_13035, pa_13036, pw_13036, pa_13037, pw_13037, pa_13038, pw_13038, pa_13039, pw_13039, pa_13042, pw_13042, pa_13043, pw_13043, pa_13044, pw_13044, pa_13045, pw_13045, pa_13046, pw_13046, pa_13047, pw_13047, pa_13048, pw_13048, pa_13049, pw_13049, pa_13050, pw_13050, pa_13051, pw_13051, pa_13052, pw_13052, pa_13053, pw_13053, pa_13054, pw_13054, pa_13055, pw_13055, pa_13056, pw_13056, pa_13057, pw_13057, pa_13058, pw_13058, pa_13059, pw_13059, pa_13060, pw_13060, pa_13061, pw_13061, pa_13062, pw_13062, pa_13063, pw_13063, pa_13064, pw_13064, pa_13065, pw_13065, pa_13066, pw_13066, pa_13067, pw_13067, ps_0, ps_1, ps_2, ps_3, ps_4, ps_11, ps_19, ps_30, ps_40, ps_41, ln_13005, ln_13006, ln_13007, ln_14008, ln_13009, ln_13010, ln_13012, ln_13013, ln_13014, ln_13015, ln_13016, ln_13017, ln_13018, ln_13020, ln_13021, ln_13022, ln_13023, ln_13024, ln_13025, ln_13026, ln_13027, ln_13028, ln_13029, ln_13031, ln_13032, ln_13033, ln_14034, ln_13035, ln_13036, ln_13037, ln_13038, ln_13039, ln_13042, ln_13043, ln_13044, ln_13045, ln_13046, ln_13047, ln_13048, ln_13049, ln_13050, ln_13051, ln_13052, ln_13053, ln_13054, ln_13055, ln_13056, ln_13057, ln_13058, ln_13059, ln_13060, ln_13061, ln_13062, ln_13063, ln_13064, ln_13065, ln_13066, ln_13067, gd_t, w_eq, e, k9]
    rw [fgI_S (by omega), ic]
  rw [hlp]
  rfl
theorem fgI_ar {N : Nd} {x i a : Int} (h : a ≠ 13035) (h2 : a ≠ 13039) : fgI N x i a = N a := by
  funext k
  unfold fgI
  rw [ra_s, if_neg h2, up_s, if_neg (fun z => h z.1)]
theorem JN.forget {N : Nd} {x i : Int} (j : JN N) : JN (fgI N x i) ∧ Mo N (fgI N x i) := ⟨j, Mo.rf⟩
/-- a transaction ends: all its messages become one thing -/
def enN (N : Nd) (x k : Int) : Nd := up (up (stO N (N 13033 x) k ((N 12000 19))) 13033 x (-1)) 14034 x 0
theorem m_endAll {C : Cd} {N : Nd} {A : Ad} {x k : Int} (g : RG N) (x1 : 0 ≤ x) (x2 : x < (N 12000 30)) : p_X11_endAll (mk C N A) 12000 x k = some (cntO N (N 13033 x) ((N 12000 19)).toNat, mk C (enN N x k) A) := by
  have s5 := g.s.2.2.2.2.1
  have s3 := g.s.2.2.1
  have cb : ∀ n : Nat, 0 ≤ cntO N (N 13033 x) n ∧ cntO N (N 13033 x) n ≤ n := fun n => by
    have := su_b (g := fun m => if N 13029 m = N 13033 x then 1 else 0) (i0 := 0) (n := n) (b := 1) (fun i _ _ => by split <;> omega)
    unfold cntO
    omega
  unfold p_X11_endAll
  have hlp : lp (b_X11_endAll_5 12000 x k) 1000 (0, 0, mk C N A) = some (cntO N (N 13033 x) ((N 12000 19)).toNat, mk C (stO N (N 13033 x) k ((N 12000 19))) A) := by
    refine lp_seq (fun i : Nat => (cntO N (N 13033 x) i, (i : Int), mk C (stO N (N 13033 x) k i) A)) ((N 12000 19)).toNat (fun i hi => ?_) ?_ (by omega) ?_
    case refine_3 =>
      show _ = (cntO N (N 13033 x) 0, ((0 : Nat) : Int), mk C (stO N (N 13033 x) k ((0 : Nat) : Int)) A)
      rw [show ((0 : Nat) : Int) = 0 from rfl, stO_0]
      rfl
    case refine_2 =>
      have e1 : stO N (N 13033 x) k (((N 12000 19)).toNat : Int) 12000 19 = (N 12000 19) := rfl
      have e4 : (((N 12000 19)).toNat : Int) = (N 12000 19) := by omega
      have nl : ¬ (((N 12000 19)).toNat : Int) < (N 12000 19) := by omega
      unfold b_X11_endAll_5
      simp (disch := omega) only [aok, up_s, true_and, false_and, and_true, and_false, if_true, if_false, ↓reduceIte, ↓Option.bind_some, Int.reduceEq, Int.reduceNe, Int.reduceLT, Int.reduceLE, gd_true, gd_false, bind_b, q10, eq_self, reduceCtorEq, not_true_eq_false, not_false_eq_true, ne_eq, pt_0, pt_1, pt_2, pt_3, pt_4, pt_5, pt_6, pt_7, pt_8, pt_9, pt_10, pt_11, pt_12, pt_13, pt_14, pt_15, pt_16, pt_17, pt_18, pt_19, pt_20, pt_21, pt_22, pt_23, pt_24, pt_25, pt_26, pt_27, pt_28, pt_29, pt_30, pt_31, pt_32, pt_33, pt_34, pt_35, pt_36, pt_37, pt_38, pt_39, pt_40, pt_41, pt_42, pt_43, pt_44, pt_45, pt_46, pt_47, pt_48, pt_49, pt_50, pt_51, pt_52, pt_53, pt_54, pt_55, pt_56, pt_57, pt_58, pt_59, pt_60, pt_61, pt_62, pt_63, pt_64, pt_65, pt_66, pt_67, pa_13005, pw_13005, pa_13006, pw_13006, pa_13007, pw_13007, pa_14008, pw_14008, pa_13009, pw_13009, pa_13010, pw_13010, pa_13012, pw_13012, pa_13013, pw_13013, pa_13014, pw_13014, pa_13015, pw_13015, pa_13016, pw_13016, pa_13017, pw_13017, pa_13018, pw_13018, pa_13020, pw_13020, pa_13021, pw_13021, pa_13022, pw_13022, pa_13023, pw_13023, pa_13024, pw_13024, pa_13025, pw_13025, pa_13026, pw_13026, pa_13027, pw_13027, pa_13028, pw_13028, pa_13029, pw_13029, pa_13031, pw_13031, pa_13032, pw_13032, pa_13033, pw_13033, pa_14034, pw_14034, pa_13035, pw_13035, pa_13036, pw_13036, pa_13037, pw_13037, pa_13038, pw_13038, pa_13039, pw_13039, pa_13042, pw_13042, pa_13043, pw_13043, pa_13044, pw_13044, pa_13045, pw_13045, pa_13046, pw_13046, pa_13047, pw_13047, pa_13048, pw_13048, pa_13049, pw_13049, pa_13050, pw_13050, pa_13051, pw_13051, pa_13052, pw_13052, pa_13053, pw_13053, pa_13054, pw_13054, pa_13055, pw_13055, pa_13056, pw_13056, pa_13057, pw_13057, pa_13058, pw_13058, pa_13059, pw_13059, pa_13060, pw_13060, pa_13061, pw_13061, pa_13062, pw_13062, pa_13063, pw_13063, pa_13064, pw_13064, pa_13065, pw_13065, pa_13066, pw_13066, pa_13067, pw_13067, ps_0, ps_1, ps_2, ps_3, ps_4, ps_11, ps_19, ps_30, ps_40, ps_41, ln_13005, ln_13006, ln_13007, ln_14008, ln_13009, ln_13010, ln_13012, ln_13013, ln_13014, ln_13015, ln_13016, ln_13017, ln_13018, ln_13020, ln_13021, ln_13022, ln_13023, ln_13024, ln_13025, ln_13026, ln_13027, ln_13028, ln_13029, ln_13031, ln_13032, ln_13033, ln_14034, ln_13035, ln_13036, ln_13037, ln_13038, ln_13039, ln_13042, ln_13043, ln_13044, ln_13045, ln_13046, ln_13047, ln_13048, ln_13049, ln_13050, ln_13051, ln_13052, ln_13053, ln_13054, ln_13055, ln_13056, ln_13057, ln_13058, ln_13059, ln_13060, ln_13061, ln_13062, ln_13063, ln_13064, ln_13065, ln_13066, ln_13067, gd_t, w_eq, e1, nl]
      rw [e4]
    have c1 := cb i
    have e1 : stO N (N 13033 x) k i 12000 19 = (N 12000 19) := rfl
    have e2 : ∀ j, stO N (N 13033 x) k i 13029 j = N 13029 j := fun j => rfl
    have e3 : ∀ j, stO N (N 13033 x) k i 13033 j = N 13033 j := fun j => rfl
    have lt : (i : Int) < (N 12000 19) := by omega
    have cs : cntO N (N 13033 x) (i + 1) = cntO N (N 13033 x) i + (if N 13029 i = N 13033 x then 1 else 0) := by
      unfold cntO
      rw [su_S]
      simp only [Int.zero_add]
    have ic : ((i + 1 : Nat) : Int) = (i : Int) + 1 := by omega
    unfold b_X11_endAll_5
    by_cases c : N 13029 i = N 13033 x
    · rw [if_pos c] at cs
      simp (disch := omega) only [aok, up_s, true_and, false_and, and_true, and_false, if_true, if_false, ↓reduceIte, ↓Option.bind_some, Int.reduceEq, Int.reduceNe, Int.reduceLT, Int.reduceLE, gd_true, gd_false, bind_b, q10, eq_self, reduceCtorEq, not_true_eq_false, not_false_eq_true, ne_eq, pt_0, pt_1, pt_2, pt_3, pt_4, pt_5, pt_6, pt_7, pt_8, pt_9, pt_10, pt_11, pt_12, pt_13, pt_14, pt_15, pt_16, pt_17, pt_18, pt_19, pt_20, pt_21, pt_22, pt_23, pt_24, pt_25, pt_26, pt_27, pt_28, pt_29, pt_30, pt_31, pt_32, pt_33, pt_34, pt_35, pt_36, pt_37, pt_38, pt_39, pt_40, pt_41, pt_42, pt_43, pt_44, pt_45, pt_46, pt_47, pt_48, pt_49, pt_50, pt_51, pt_52, pt_53, pt_54, pt_55, pt_56, pt_57, pt_58, pt_59, pt_60, pt_61, pt_62, pt_63, pt_64, pt_65, pt_66, pt_67, pa_13005, pw_13005, pa_13006, pw_13006, pa_13007, pw_13007, pa_14008, pw_14008, pa_13009, pw_13009, pa_13010, pw_13010, pa_13012, pw_13012, pa_13013, pw_13013, pa_13014, pw_13014, pa_13015, pw_13015, pa_13016, pw_13016, pa_13017, pw_13017, pa_13018, pw_13018, pa_13020, pw_13020, pa_13021, pw_13021, pa_13022, pw_13022, pa_13023, pw_13023, pa_13024, pw_13024, pa_13025, pw_13025, pa_13026, pw_13026, pa_13027, pw_13027, pa_13028, pw_13028, pa_13029, pw_13029, pa_13031, pw_13031, pa_13032, pw_13032, pa_13033, pw_13033, pa_14034, pw_14034, pa_13035, pw_13035, pa_13036, pw_13036, pa_13037, pw_13037, pa_13038, pw_13038, pa_13039, pw_13039, pa_13042, pw_13042, pa_13043, pw_13043, pa_13044, pw_13044, pa_13045, pw_13045, pa_13046, pw_13046, pa_13047, pw_13047, pa_13048, pw_13048, pa_13049, pw_13049, pa_13050, pw_13050, pa_13051, pw_13051, pa_13052, pw_13052, pa_13053, pw_13053, pa_13054, pw_13054, pa_13055, pw_13055, pa_13056, pw_13056, pa_13057, pw_13057, pa_13058, pw_13058, pa_13059, pw_13059, pa_13060, pw_13060, pa_13061, pw_13061, pa_13062, pw_13062, pa_13063, pw_13063, pa_13064, pw_13064, pa_13065, pw_13065, pa_13066, pw_13066, pa_13067, pw_13067, ps_0, ps_1, ps_2, ps_3, ps_4, ps_11, ps_19, ps_30, ps_40, ps_41, ln_13005, ln_13006, ln_13007, ln_14008, ln_13009, ln_13010, ln_13012, ln_13013, ln_13014, ln_13015, ln_13016, ln_13017, ln_13018, ln_13020, ln_13021, ln_13022, ln_13023, ln_13024, ln_13025, ln_13026, ln_13027, ln_13028, ln_13029, ln_13031, ln_13032, ln_13033, ln_14034, ln_13035, ln_13036, ln_13037, ln_13038, ln_13039, ln_13042, ln_13043, ln_13044, ln_13045, ln_13046, ln_13047, ln_13048, ln_13049, ln_13050, ln_13051, ln_13052, ln_13053, ln_13054, ln_13055, ln_13056, ln_13057, ln_13058, ln_13059, ln_13060, ln_13061, ln_13062, ln_13063, ln_13064, ln_13065, ln_13066, ln_13067, gd_t, w_eq, e1, lt, e2, e3, c]
      rw [stO_T (by omega) c, cs, ic]
    · rw [if_neg c] at cs
      simp (disch := omega) only [aok, up_s, true_and, false_and, and_true, and_false, if_true, if_false, ↓reduceIte, ↓Option.bind_some, Int.reduceEq, Int.reduceNe, Int.reduceLT, Int.reduceLE, gd_true, gd_false, bind_b, q10, eq_self, reduceCtorEq, not_true_eq_false, not_false_eq_true, ne_eq, pt_0, pt_1, pt_2, pt_3, pt_4, pt_5, pt_6, pt_7, pt_8, pt_9, pt_10, pt_11, pt_12, pt_13, pt_14, pt_15, pt_16, pt_17, pt_18, pt_19, pt_20, pt_21, pt_22, pt_23, pt_24, pt_25, pt_26, pt_27, pt_28, pt_29, pt_30, pt_31, pt_32, pt_33, pt_34, pt_35, pt_36, pt_37, pt_38, pt_39, pt_40, pt_41, pt_42, pt_43, pt_44, pt_45, pt_46, pt_47, pt_48, pt_49, pt_50, pt_51, pt_52, pt_53, pt_54, pt_55, pt_56, pt_57, pt_58, pt_59, pt_60, pt_61, pt_62, pt_63, pt_64, pt_65, pt_66, pt_67, pa_13005, pw_13005, pa_13006, pw_13006, pa_13007, pw_13007, pa_14008, pw_14008, pa_13009, pw_13009, pa_13010, pw_13010, pa_13012, pw_13012, pa_13013, pw_13013, pa_13014, pw_13014, pa_13015, pw_13015, pa_13016, pw_13016, pa_13017, pw_13017, pa_13018, pw_13018, pa_13020, pw_13020, pa_13021, pw_13021, pa_13022, pw_13022, pa_13023, pw_13023, pa_13024, pw_13024, pa_13025, pw_13025, pa_13026, pw_13026, pa_13027, pw_13027, pa_13028, pw_13028, pa_13029, pw_13029, pa_13031, pw_13031, pa_13032, pw_13032, pa_13033, pw_13033, pa_14034, pw_14034, pa_13035, pw_13035, pa_13036, pw_13036, pa_13037, pw_13037, pa_13038, pw_13038, pa_13039, pw_13039, pa_13042, pw_13042, pa_13043, pw_13043, pa_13044, pw_13044, pa_13045, pw_13045, pa_13046, pw_13046, pa_13047, pw_13047, pa_13048, pw_13048, pa_13049, pw_13049, pa_13050, pw_13050, pa_13051, pw_13051, pa_13052, pw_13052, pa_13053, pw_13053, pa_13054, pw_13054, pa_13055, pw_13055, pa_13056, pw_13056, pa_13057, pw_13057, pa_13058, pw_13058, pa_13059, pw_13059, pa_13060, pw_13060, pa_13061, pw_13061, pa_13062, pw_13062, pa_13063, pw_13063, pa_13064, pw_13064, pa_13065, pw_13065, pa_13066, pw_13066, pa_13067, pw_13067, ps_0, ps_1, ps_2, ps_3, ps_4, ps_11, ps_19, ps_30, ps_40, ps_41, ln_13005, ln_13006, ln_13007, ln_14008, ln_13009, ln_13010, ln_13012, ln_13013, ln_13014, ln_13015, ln_13016, ln_13017, ln_13018, ln_13020, ln_13021, ln_13022, ln_13023, ln_13024, ln_13025, ln_13026, ln_13027, ln_13028, ln_13029, ln_13031, ln_13032, ln_13033, ln_14034, ln_13035, ln_13036, ln_13037, ln_13038, ln_13039, ln_13042, ln_13043, ln_13044, ln_13045, ln_13046, ln_13047, ln_13048, ln_13049, ln_13050, ln_13051, ln_13052, ln_13053, ln_13054, ln_13055, ln_13056, ln_13057, ln_13058, ln_13059, ln_13060, ln_13061, ln_13062, ln_13063, ln_13064, ln_13065, ln_13066, ln_13067, gd_t, w_eq, e1, lt, e2, e3, c]
      rw [stO_F c, cs, ic, Int.add_zero]
  rw [hlp]
  simp (disch := omega) only [aok, up_s, true_and, false_and, and_true, and_false, if_true, if_false, ↓reduceIte, ↓Option.bind_some, Int.reduceEq, Int.reduceNe, Int.reduceLT, Int.reduceLE, gd_true, gd_false, bind_b, q10, eq_self, reduceCtorEq, not_true_eq_false, not_false_eq_true, ne_eq, pt_0, pt_1, pt_2, pt_3, pt_4, pt_5, pt_6, pt_7, pt_8, pt_9, pt_10, pt_11, pt_12, pt_13, pt_14, pt_15, pt_16, pt_17, pt_18, pt_19, pt_20, pt_21, pt_22, pt_23, pt_24, pt_25, pt_26, pt_27, pt_28, pt_29, pt_30, pt_31, pt_32, pt_33, pt_34, pt_35, pt_36, pt_37, pt_38, pt_39, pt_40, pt_41, pt_42, pt_43, pt_44, pt_45, pt_46, pt_47, pt_48, pt_49, pt_50, pt_51, pt_52, pt_53, pt_54, pt_55, pt_56, pt_57, pt_58, pt_59, pt_60, pt_61, pt_62, pt_63, pt_64, pt_65, pt_66, pt_67, pa_13005, pw_13005, pa_13006, pw_13006, pa_13007, pw_13007, pa_14008, pw_14008, pa_13009, pw_13009, pa_13010, pw_13010, pa_13012, pw_13012, pa_13013, pw_13013, pa_13014, pw_13014, pa_13015, pw_13015, pa_13016, pw_13016, pa_13017, pw_13017, pa_13018, pw_13018, pa_13020, pw_13020, pa_13021, pw_13021, pa_13022, pw_13022, pa_13023, pw_13023, pa_13024, pw_13024, pa_13025, pw_13025, pa_13026, pw_13026, pa_13027, pw_13027, pa_13028, pw_13028, pa_13029, pw_13029, pa_13031, pw_13031, pa_13032, pw_13032, pa_13033, pw_13033, pa_14034, pw_14034, pa_13035, pw_13035, pa_13036, pw_13036, pa_13037, pw_13037, pa_13038, pw_13038, pa_13039, pw_13039, pa_13042, pw_13042, pa_13043, pw_13043, pa_13044, pw_13044, pa_13045, pw_13045, pa_13046, pw_13046, pa_13047, pw_13047, pa_13048, pw_13048, pa_13049, pw_13049, pa_13050, pw_13050, pa_13051, pw_13051, pa_13052, pw_13052, pa_13053, pw_13053, pa_13054, pw_13054, pa_13055, pw_13055, pa_13056, pw_13056, pa_13057, pw_13057, pa_13058, pw_13058, pa_13059, pw_13059, pa_13060, pw_13060, pa_13061, pw_13061, pa_13062, pw_13062, pa_13063, pw_13063, pa_13064, pw_13064, pa_13065, pw_13065, pa_13066, pw_13066, pa_13067, pw_13067, ps_0, ps_1, ps_2, ps_3, ps_4, ps_11, ps_19, ps_30, ps_40, ps_41, ln_13005, ln_13006, ln_13007, ln_14008, ln_13009, ln_13010, ln_13012, ln_13013, ln_13014, ln_13015, ln_13016, ln_13017, ln_13018, ln_13020, ln_13021, ln_13022, ln_13023, ln_13024, ln_13025, ln_13026, ln_13027, ln_13028, ln_13029, ln_13031, ln_13032, ln_13033, ln_14034, ln_13035, ln_13036, ln_13037, ln_13038, ln_13039, ln_13042, ln_13043, ln_13044, ln_13045, ln_13046, ln_13047, ln_13048, ln_13049, ln_13050, ln_13051, ln_13052, ln_13053, ln_13054, ln_13055, ln_13056, ln_13057, ln_13058, ln_13059, ln_13060, ln_13061, ln_13062, ln_13063, ln_13064, ln_13065, ln_13066, ln_13067, gd_t, w_eq]
  rfl
theorem JN.endT {N : Nd} {x k : Int} (j : JN N) (x1 : 0 ≤ x) (x2 : x < (N 12000 30)) (h0 : 0 ≤ N 13033 x) (hk : k = 3 ∨ (k = 2 ∧ N 14034 x = 0 ∧ ∀ m, 0 ≤ m → m < (N 12000 19) → N 13029 m = N 13033 x → N 13024 m = 1 ∧ N 13026 m < hw N (N 13021 m))) : JN (enN N x k) ∧ Mo N (enN N x k) := by
  have k3 : k = 2 ∨ k = 3 := by omega
  have of : ∀ m, 0 ≤ m → m < (N 12000 19) → enN N x k 13025 m = if N 13029 m = N 13033 x then k else N 13025 m := fun m m1 m2 => by
    show (if 0 ≤ m ∧ m < (N 12000 19) ∧ N 13029 m = N 13033 x then k else N 13025 m) = _
    by_cases e : N 13029 m = N 13033 x
    · rw [if_pos e, if_pos ⟨m1, m2, e⟩]
    · rw [if_neg e, if_neg (fun z => e z.2.2)]
  have gx : ∀ i, enN N x k 13033 i = if i = x then -1 else N 13033 i := fun i => by unfold enN; simp only [up_s, up_s, true_and, false_and, and_true, and_false, if_true, if_false, ↓reduceIte, ↓Option.bind_some, Int.reduceEq, Int.reduceNe, Int.reduceLT, Int.reduceLE, gd_true, gd_false, bind_b, q10, eq_self, reduceCtorEq, not_true_eq_false, not_false_eq_true, ne_eq]; rfl
  have bx : ∀ i, enN N x k 14034 i = if i = x then 0 else N 14034 i := fun i => by unfold enN; simp only [up_s, up_s, true_and, false_and, and_true, and_false, if_true, if_false, ↓reduceIte, ↓Option.bind_some, Int.reduceEq, Int.reduceNe, Int.reduceLT, Int.reduceLE, gd_true, gd_false, bind_b, q10, eq_self, reduceCtorEq, not_true_eq_false, not_false_eq_true, ne_eq]; rfl
  have hs : ∀ q, hw (enN N x k) q = hw N q := fun q => rfl
  -- of the transaction
  have ins : ∀ m, 0 ≤ m → m < (N 12000 19) → N 13029 m = N 13033 x → N 13020 m = x ∧ N 13025 m ≠ 2 ∧ N 13025 m ≠ 0 ∧ (N 14034 x = 0 → N 13025 m = 1) := fun m m1 m2 m3 => by
    have a := j.xs m x m1 m2 x1 x2 h0 m3
    have b := (j.ms m m1 m2).2.2.1
    exact ⟨a.1, a.2.1, by omega, a.2.2⟩
  have op : ∀ q i, 0 ≤ q → q < (N 12000 11) → 0 ≤ i → i < 60 → opn (enN N x k) q i = true → opn N q i = true := fun q i q1 q2 i1 i2 ho => by
    have lb := j.g.l q i q1 q2 i1 i2
    unfold opn at ho ⊢
    have ho' := of_decide_eq_true ho
    refine decide_eq_true ⟨ho'.1, ?_⟩
    have lp : 0 ≤ N 13018 (60 * q + i) := ho'.1
    have y : enN N x k 13025 (N 13018 (60 * q + i)) = 1 := ho'.2
    rw [of _ lp lb.2] at y
    split at y
    · omega
    · exact y
  have sm : ∀ q, 0 ≤ q → q < (N 12000 11) → so N q ≤ so (enN N x k) q := fun q q1 q2 => by
    have hb := hw_b j.g.e q1 q2
    exact so_mono3 hb.1 (fun i i1 i2 => op q i q1 q2 i1 (by omega)) (Int.le_refl _)
  have g' : RG (enN N x k) := by
    have g1 := (j.g.stO (t := N 13033 x) (k := k) (n := (N 12000 19)) (by omega))
    refine ⟨g1.1, g1.2.1, g1.2.2.1, g1.2.2.2.1, g1.2.2.2.2.1, g1.2.2.2.2.2.1, fun i i1 i2 => ?_⟩
    obtain ⟨a1, a2, a3, a4⟩ := j.g.x i i1 i2
    rw [gx, bx]
    have bg := j.g.s.2.2.2.2.2.2.2.2
    refine ⟨a1, a2, ?_, ?_⟩
    · show _ ∧ _ < (N 12000 40)
      split
      · omega
      · exact a3
    · split
      · omega
      · exact a4
  refine ⟨⟨⟨⟨g', j.li, j.lm, j.fl, fun p p1 p2 => ?_⟩, j.1.2⟩, ⟨fun m m1 m2 m3 => ?_, fun a b a1 a2 b1 b2 ha hab => ?_⟩, j.sl, j.tk, fun p a b p1 p2 a1 a2 a3 hla hlb hpr hna hnb => ?_, fun c i c1 c2 hc1 hc2 hc3 i1 i2 hl hp hn => ?_, fun m m1 m2 => ?_, fun m y m1 m2 y1 y2 hy hm => ?_⟩, ⟨⟨Int.le_refl _, Int.le_refl _⟩, fun p p1 p2 => ⟨sm p p1 p2, rfl, Int.le_refl _⟩, fun m m1 m2 => ⟨⟨rfl, rfl⟩, fun h => ⟨h, rfl⟩, fun h => ⟨rfl, Or.inr ⟨h.1, ?_⟩⟩⟩, fun m m1 m2 m3 m4 m5 => ⟨m2, ?_⟩⟩⟩
  · have q := j.fi p p1 p2
    have := sm p p1 p2
    exact ⟨q.1, q.2.1, by have q3 := q.2.2; show N 13015 p ≤ _; omega⟩
  · rw [of m m1 m2] at m3
    split at m3
    · omega
    · rename_i ne
      have a := j.ot m m1 m2 m3
      refine ⟨a.1, ?_⟩
      show enN N x k 13033 (N 13020 m) = N 13029 m
      rw [gx, if_neg]
      · exact a.2
      · intro z
        rw [z] at a
        exact ne a.2.symm
  · rw [gx] at ha
    rw [gx, gx] at hab
    by_cases e : a = x
    · rw [if_pos e] at ha; omega
    · rw [if_neg e] at ha hab
      by_cases e2 : b = x
      · rw [if_pos e2] at hab; omega
      · rw [if_neg e2] at hab
        exact j.xu a b a1 a2 b1 b2 ha hab
  · have la := j.g.l p a p1 p2 a1 (by omega)
    have lb := j.g.l p b p1 p2 (by omega) a3
    have nd : ∀ m, 0 ≤ m → m < (N 12000 19) → ndl (enN N x k) m → ndl N m := fun m m1 m2 z => by
      obtain ⟨z1, z2⟩ := z
      refine ⟨z1, ?_⟩
      rw [of m m1 m2] at z2
      split at z2
      · rename_i e
        rcases hk with hk | hk
        · exact absurd hk z2
        · have := (ins m m1 m2 e).2.2.2 hk.2.1
          omega
      · exact z2
    exact j.n1 p a b p1 p2 a1 a2 a3 hla hlb hpr (nd _ hla la.2 hna) (nd _ hlb lb.2 hnb)
  · have gp := (j.g.m c c1 c2).2.1
    have lb := j.g.l _ i gp.1 gp.2 i1 i2
    rw [of c c1 c2] at hc2
    have hc2' : N 13025 c = 0 := by
      split at hc2
      · omega
      · exact hc2
    have hl' : 0 ≤ N 13018 (60 * N 13021 c + i) := hl
    obtain ⟨z1, z2⟩ := hn
    have z2' : enN N x k 13025 (N 13018 (60 * N 13021 c + i)) ≠ 3 := z2
    rw [of _ hl' lb.2] at z2'
    refine j.n2 c i c1 c2 hc1 hc2' hc3 i1 i2 hl hp ⟨z1, ?_⟩
    split at z2'
    · rename_i e
      rcases hk with hk | hk
      · exact absurd hk z2'
      · have := (ins _ hl' lb.2 e).2.2.2 hk.2.1
        omega
    · exact z2'
  · have q := j.ms m m1 m2
    have gp := (j.g.m m m1 m2).2.1
    have := sm _ gp.1 gp.2
    rw [of m m1 m2]
    refine ⟨fun h => ?_, fun h => ?_, ?_, fun h => ?_, fun h => ?_⟩
    · split at h
      · rename_i e
        rcases hk with hk | hk
        · omega
        · exact ⟨Or.inl (hk.2.2 m m1 m2 e).1, (hk.2.2 m m1 m2 e).2⟩
      · exact q.1 h
    · have q2 := q.2.1 h
      show N 13026 m < so (enN N x k) (N 13021 m)
      omega
    · split
      · rename_i e
        have q3 : N 13029 m ≠ -1 := by omega
        exact ⟨fun z => by omega, fun z => absurd z q3⟩
      · exact q.2.2.1
    · split at h
      · omega
      · exact q.2.2.2.1 h
    · have q5 := q.2.2.2.2 h
      refine ⟨q5.1, ?_⟩
      split
      · rename_i e
        have := (ins m m1 m2 e).2.2.1
        omega
      · exact q5.2
  · rw [gx] at hy hm
    by_cases e : y = x
    · rw [if_pos e] at hy; omega
    · rw [if_neg e] at hy hm
      have nt : N 13029 m ≠ N 13033 x := fun z => e (j.xu y x y1 y2 x1 x2 hy (hm.symm.trans z))
      rw [of m m1 m2, if_neg nt, bx, if_neg e]
      exact j.xs m y m1 m2 y1 y2 hy hm
  · rw [of m m1 m2, if_neg]
    intro z
    have := ins m m1 m2 z
    have h2 := h.2.2
    omega
  · have z1 : N 13024 m = 1 := m4.1
    have z2 := m4.2.2
    have z3 : N 13026 m < so N (N 13021 m) := m5
    rw [of m m1 m2] at z2
    refine ⟨z1, z3, ?_⟩
    split at z2
    · rename_i e
      rcases hk with hk | hk
      · omega
      · have o1 := (ins m m1 m2 e).2.2.2 hk.2.1
        exfalso
        have s1 := (j.sl m m1 m2).1 (Or.inl z1)
        have n1 := ff_no (P := opn N (N 13021 m)) (n := (hw N (N 13021 m)).toNat) (i := 0) (k := N 13026 m) s1.1 z3
        have y : opn N (N 13021 m) (N 13026 m) = true := by
          unfold opn
          rw [s1.2]
          exact decide_eq_true ⟨m1, o1⟩
        rw [y] at n1
        cases n1
    · exact z2
theorem loA_ne {a : Int} (h : loA a = false) : a ≠ 13018 ∧ a ≠ 13024 ∧ a ≠ 13026 ∧ a ≠ 13025 ∧ a ≠ 13027 ∧ a ≠ 14034 ∧ a ≠ 13013 ∧ a ≠ 13014 ∧ a ≠ 13015 ∧ a ≠ 13016 ∧ a ≠ 13017 := by
  unfold loA at h
  simp only [Bool.or_eq_false_iff, beq_eq_false_iff_ne] at h
  omega
theorem ccell_7 {i : Int} (h : 5 ≤ i) : ccell 7000 i = false := by
  unfold ccell
  simp
  omega
/-- a call on one producer's transaction -/
theorem JJ.tx {n n' : Int} {C C' : Cd} {N N' : Nd} {A : Ad} {x : Int} (j : JJ n C N A) (x2 : x < (N 12000 30)) (jn : JN N') (c : CC C' N') (mo : Mo N N')
    (kc : ∀ b i k, ccell b k = false → ¬ (b = 7000 ∧ i = x ∧ k = 5) → C' b i k = C b i k)
    (sc : ∀ k, k ≠ 40 → N' 12000 k = N 12000 k)
    (ar : ∀ a, a ≠ 12000 → a ≠ 13025 → a ≠ 13033 → a ≠ 14034 → a ≠ 13035 → a ≠ 13039 → N' a = N a)
    (gy : ∀ y, y ≠ x → N' 13033 y = N 13033 y ∧ N' 14034 y = N 14034 y ∧ N' 13035 y = N 13035 y)
    (py : ∀ k, (k < 9 * x ∨ 9 * x + 9 ≤ k) → N' 13039 k = N 13039 k)
    (h0 : N' 13035 x = 0) (h5 : C' 7000 x 5 = 0) (hp : 0 ≤ N' 13033 x → ∀ p, 0 ≤ p → p < 9 → N' 13039 (9 * x + p) = -1) (hb : N' 13033 x < 0 → N' 14034 x = 0)
    (hn : n ≤ n') (bn : (N 12000 1) ≤ 30 * n') (bb : N' 12000 40 ≤ n') : JJ n' C' N' A := by
  obtain ⟨l, d1, d2⟩ := j.d
  obtain ⟨f1, f2, f3, f4, f5⟩ := j.fn
  have sg : SG C C' N N' := ⟨fun b h => by
    have z := gcell_ne h
    funext i k
    exact kc b i k (ccell_g h k) (fun q => z.2.2.1 q.1), fun a h => by
    have z := garr_b h
    exact ar a (by omega) (by omega) (by omega) (by omega) (by omega) (by omega)⟩
  have hr : ∀ g p, 0 ≤ g → g < (N 12000 41) → (gR N' g p ↔ gR N g p) := fun g p _ _ => by
    unfold gR
    rw [sc 11 (by decide), ar 13042 (by decide) (by decide) (by decide) (by decide) (by decide) (by decide), ar 13012 (by decide) (by decide) (by decide) (by decide) (by decide) (by decide)]
  have e19 := sc 19 (by decide); have e30 := sc 30 (by decide); have e41 := sc 41 (by decide); have e11 := sc 11 (by decide); have e4 := sc 4 (by decide); have e1 := sc 1 (by decide)
  have eS : N' 13024 = N 13024 := ar _ (by decide) (by decide) (by decide) (by decide) (by decide) (by decide)
  have eD : N' 13028 = N 13028 := ar _ (by decide) (by decide) (by decide) (by decide) (by decide) (by decide)
  refine j.step jn c ⟨l, d1.eq e19 (fun m _ _ => by rw [eS]) eD, ⟨(kc 11000 0 11 rfl (by omega)).trans d2.1, d2.2.1, fun i hi => (kc 20001 0 i rfl (by omega)).trans (d2.2.2 i hi)⟩⟩ sg mo hr (by rw [e4]; exact Int.le_refl _) (by rw [e1]; exact Int.le_refl _) e41 ?_ ?_ ?_ hn ⟨by rw [e1]; exact bn, bb⟩
  · intro y y1 y2
    rw [e30] at y2
    by_cases e : y = x
    · subst e
      exact ⟨fun _ => ⟨h5, hp⟩, by rw [h0]; omega, fun z => absurd h0 z⟩
    · have q := gy y e
      refine (j.px y y1 y2).step jn.g sg (fun k hk => kc 7000 y k (ccell_7 hk) (fun z => e z.2.1)) (fun k => kc 13500 y k rfl (by omega)) q.2.2 ?_ ?_ ?_ (fun p p1 p2 => py _ (by omega)) mo hr e41 (by rw [q.1]; exact id)
      · rw [ar 13036 (by decide) (by decide) (by decide) (by decide) (by decide) (by decide)]
      · rw [ar 13037 (by decide) (by decide) (by decide) (by decide) (by decide) (by decide)]
      · rw [ar 13038 (by decide) (by decide) (by decide) (by decide) (by decide) (by decide)]
  · have q := j.ne
    unfold NE at q ⊢
    rw [e4, e11, e30, e19, e41, ar 13044 (by decide) (by decide) (by decide) (by decide) (by decide) (by decide), sg.1 17000 (by decide)]
    exact q
  · refine ⟨?_, fun y y1 y2 => ?_, ?_, ?_, fun y y1 y2 hy => ?_⟩
    · rw [e11, ar 13015 (by decide) (by decide) (by decide) (by decide) (by decide) (by decide), ar 13016 (by decide) (by decide) (by decide) (by decide) (by decide) (by decide)]
      exact f1
    · rw [e30] at y1
      have q := gy y (by omega)
      rw [q.2.1, q.2.2, ar 13032 (by decide) (by decide) (by decide) (by decide) (by decide) (by decide)]
      exact f2 y y1 y2
    · rw [e19, eD]; exact f3
    · rw [e41, sg.2 13043 (by decide), sg.2 13044 (by decide), sg.2 13045 (by decide), sg.2 13046 (by decide), sg.2 13047 (by decide), sg.2 13051 (by decide), sg.2 13057 (by decide), sg.2 13058 (by decide), sg.2 13059 (by decide), sg.2 13062 (by decide), sg.2 13064 (by decide)]
      exact f4
    · rw [e30] at hy
      by_cases e : y = x
      · subst e
        exact ⟨hb (by omega), h0⟩
      · have q := gy y e
        rw [q.1] at hy
        rw [q.2.1, q.2.2]
        exact f5 y y1 y2 hy
theorem CC.setAtt {C : Cd} {N : Nd} {x v : Int} (c : CC C N) : CC (uq C 7000 x 5 v) N :=
  ⟨c.b, c.i, c.t, c.p, c.w, c.l, c.r, c.m, fun i h1 h2 => by
    have q := c.x i h1 h2
    simp only [uq_s, up_s, true_and, false_and, and_true, and_false, if_true, if_false, ↓reduceIte, ↓Option.bind_some, Int.reduceEq, Int.reduceNe, Int.reduceLT, Int.reduceLE, gd_true, gd_false, bind_b, q10, eq_self, reduceCtorEq, not_true_eq_false, not_false_eq_true, ne_eq, and_false]
    exact q⟩
theorem c_endTransaction {C : Cd} {N : Nd} {A : Ad} {x : Int} (x1 : 0 ≤ x) (x2 : x < 4) : p_X6_endTransaction (mk C N A) (7000 + x) = some (mk (uq (uq (uq C 7000 x 3 (-1)) 7000 x 4 0) 7000 x 5 0) N A) := by
  unfold p_X6_endTransaction
  simp (disch := omega) only [aok, up_s, true_and, false_and, and_true, and_false, if_true, if_false, ↓reduceIte, ↓Option.bind_some, Int.reduceEq, Int.reduceNe, Int.reduceLT, Int.reduceLE, gd_true, gd_false, bind_b, q10, eq_self, reduceCtorEq, not_true_eq_false, not_false_eq_true, ne_eq, cr_11000, cr_15000, cr_16000, cr_20000, cr_20001, cr_21000, cr_22000, cr_25000, cr_1000, cr_2000, cr_3000, cr_3003, cr_3006, cr_4000, cr_5000, cr_6000, cr_7000, cr_8000, cr_9000, cr_10000, cr_13500, cr_17000, cr_17100, cr_17103, cr_17106, cr_19000, cr_20100, cr_21100, cr_23000, cr_24000, cw_11000, cw_15000, cw_16000, cw_20000, cw_20001, cw_21000, cw_22000, cw_25000, cw_1000, cw_2000, cw_3000, cw_3003, cw_3006, cw_4000, cw_5000, cw_6000, cw_7000, cw_8000, cw_9000, cw_10000, cw_13500, cw_17000, cw_17100, cw_17103, cw_17106, cw_19000, cw_20100, cw_21100, cw_23000, cw_24000, lc_13500, lc_15000, lc_16000, lc_17000, lc_17100, lc_17103, lc_17106, lc_19000, lc_20000, lc_20001, lc_20100, lc_21000, lc_21100, lc_22000, lc_23000, lc_24000, lc_25000, gd_t, w_eq]
/-- the end of a transaction, as both sides leave their tables -/
theorem JJ.endT {n : Int} {C C1 : Cd} {N : Nd} {A : Ad} {x k : Int} (j : JJ n C N A) (x1 : 0 ≤ x) (x2 : x < (N 12000 30)) (h0 : 0 ≤ N 13033 x) (hk : k = 3 ∨ (k = 2 ∧ N 14034 x = 0 ∧ ∀ m, 0 ≤ m → m < (N 12000 19) → N 13029 m = N 13033 x → N 13024 m = 1 ∧ N 13026 m < hw N (N 13021 m))) (c1 : CC C1 (stO N (N 13033 x) k ((N 12000 19)))) (kp : KP C C1) : JJ (n + 1) (uq (uq (uq C1 7000 x 3 (-1)) 7000 x 4 0) 7000 x 5 0) (enN (fgI N x 9) x k) A := by
  have jf : JN (fgI N x 9) ∧ Mo N (fgI N x 9) := j.jn.forget
  have je := jf.1.endT (x := x) (k := k) x1 x2 h0 hk
  have cc : CC (uq (uq (uq C1 7000 x 3 (-1)) 7000 x 4 0) 7000 x 5 0) (enN (fgI N x 9) x k) := (c1.setGoes (x := x) (v := -1)).setBroken (x := x) (v := 0) |>.setAtt
  have gx : ∀ i, enN (fgI N x 9) x k 13033 i = if i = x then -1 else N 13033 i := fun i => by unfold enN; simp only [up_s, up_s, true_and, false_and, and_true, and_false, if_true, if_false, ↓reduceIte, ↓Option.bind_some, Int.reduceEq, Int.reduceNe, Int.reduceLT, Int.reduceLE, gd_true, gd_false, bind_b, q10, eq_self, reduceCtorEq, not_true_eq_false, not_false_eq_true, ne_eq]; rfl
  have bx : ∀ i, enN (fgI N x 9) x k 14034 i = if i = x then 0 else N 14034 i := fun i => by unfold enN; simp only [up_s, up_s, true_and, false_and, and_true, and_false, if_true, if_false, ↓reduceIte, ↓Option.bind_some, Int.reduceEq, Int.reduceNe, Int.reduceLT, Int.reduceLE, gd_true, gd_false, bind_b, q10, eq_self, reduceCtorEq, not_true_eq_false, not_false_eq_true, ne_eq]; rfl
  refine j.tx x2 je.1 cc je.2 (fun b i q hq hx => ?_) (fun k _ => rfl) (fun a h1 h2 h3 h4 h5 h6 => ?_) (fun y hy => ⟨by rw [gx, if_neg hy], by rw [bx, if_neg hy], ?_⟩) (fun q hq => ?_) ?_ ?_ (fun z => by rw [gx, if_pos rfl] at z; omega) (fun _ => by rw [bx, if_pos rfl]) (by omega) (by have := j.b.2.1; omega) (by have := j.b.2.2.1; show (N 12000 40) ≤ _; omega)
  · rw [uq_s, if_neg (fun z => hx z), uq_s, if_neg (fun z => by rw [z.1, z.2.2] at hq; cases hq), uq_s, if_neg (fun z => by rw [z.1, z.2.2] at hq; cases hq)]
    exact kp b i q hq
  · unfold enN stO
    funext q
    rw [up_s, if_neg (fun z => h4 z.1), up_s, if_neg (fun z => h3 z.1), ra_s, if_neg h2, fgI_ar h5 h6]
  · show fgI N x 9 13035 y = N 13035 y
    unfold fgI
    rw [ra_s, if_neg (by decide), up_s, if_neg (fun z => hy z.2)]
  · show fgI N x 9 13039 q = N 13039 q
    unfold fgI
    rw [ra_s, if_pos rfl, if_neg (by omega)]
  · show fgI N x 9 13035 x = 0
    unfold fgI
    rw [ra_s, if_neg (by decide), up_s, if_pos ⟨rfl, rfl⟩]
  · rw [uq_s, if_pos ⟨rfl, rfl, rfl⟩]
theorem q_abort {n : Int} {C : Cd} {N : Nd} {A : Ad} {x : Int} (j : JJ n C N A) : SR n C N A (p_G_abort (mk C N A) 11000 x 15000) (fun M => p_X11_abort M 12000 x) := by
  have g := j.jn.g
  have s3 := g.s.2.2.1
  have ht := c_producerOf (N0 := N) (A := A) (t := x) g j.c
  have mt := fun C A => @m_isProducer C (up N 12000 0 0) A x j.z.s
  simp only [up_s, up_s, true_and, false_and, and_true, and_false, if_true, if_false, ↓reduceIte, ↓Option.bind_some, Int.reduceEq, Int.reduceNe, Int.reduceLT, Int.reduceLE, gd_true, gd_false, bind_b, q10, eq_self, reduceCtorEq, not_true_eq_false, not_false_eq_true, ne_eq] at mt
  unfold p_G_abort p_X10_abort
  by_cases h1 : 0 ≤ x ∧ x < (N 12000 30)
  · obtain ⟨c0, c1, c2, c3, c4, c5⟩ := j.c.x x h1.1 h1.2
    have gx := (g.x x h1.1 h1.2).2.2.1
    by_cases h2 : N 13033 x = -1
    · refine SR.r j 2 (by omega) ?_ ?_
      · simp (disch := omega) only [aok, up_s, true_and, false_and, and_true, and_false, if_true, if_false, ↓reduceIte, ↓Option.bind_some, Int.reduceEq, Int.reduceNe, Int.reduceLT, Int.reduceLE, gd_true, gd_false, bind_b, q10, eq_self, reduceCtorEq, not_true_eq_false, not_false_eq_true, ne_eq, cr_11000, cr_15000, cr_16000, cr_20000, cr_20001, cr_21000, cr_22000, cr_25000, cr_1000, cr_2000, cr_3000, cr_3003, cr_3006, cr_4000, cr_5000, cr_6000, cr_7000, cr_8000, cr_9000, cr_10000, cr_13500, cr_17000, cr_17100, cr_17103, cr_17106, cr_19000, cr_20100, cr_21100, cr_23000, cr_24000, cw_11000, cw_15000, cw_16000, cw_20000, cw_20001, cw_21000, cw_22000, cw_25000, cw_1000, cw_2000, cw_3000, cw_3003, cw_3006, cw_4000, cw_5000, cw_6000, cw_7000, cw_8000, cw_9000, cw_10000, cw_13500, cw_17000, cw_17100, cw_17103, cw_17106, cw_19000, cw_20100, cw_21100, cw_23000, cw_24000, lc_13500, lc_15000, lc_16000, lc_17000, lc_17100, lc_17103, lc_17106, lc_19000, lc_20000, lc_20001, lc_20100, lc_21000, lc_21100, lc_22000, lc_23000, lc_24000, lc_25000, gd_t, w_eq, thT, thU, psT, psU, hnT, thr_mk, ↓Option.bind_some, ht, h1, c3, h2]
      · unfold p_X11_abort
        simp (disch := omega) only [aok, up_s, true_and, false_and, and_true, and_false, if_true, if_false, ↓reduceIte, ↓Option.bind_some, Int.reduceEq, Int.reduceNe, Int.reduceLT, Int.reduceLE, gd_true, gd_false, bind_b, q10, eq_self, reduceCtorEq, not_true_eq_false, not_false_eq_true, ne_eq, pt_0, pt_1, pt_2, pt_3, pt_4, pt_5, pt_6, pt_7, pt_8, pt_9, pt_10, pt_11, pt_12, pt_13, pt_14, pt_15, pt_16, pt_17, pt_18, pt_19, pt_20, pt_21, pt_22, pt_23, pt_24, pt_25, pt_26, pt_27, pt_28, pt_29, pt_30, pt_31, pt_32, pt_33, pt_34, pt_35, pt_36, pt_37, pt_38, pt_39, pt_40, pt_41, pt_42, pt_43, pt_44, pt_45, pt_46, pt_47, pt_48, pt_49, pt_50, pt_51, pt_52, pt_53, pt_54, pt_55, pt_56, pt_57, pt_58, pt_59, pt_60, pt_61, pt_62, pt_63, pt_64, pt_65, pt_66, pt_67, pa_13005, pw_13005, pa_13006, pw_13006, pa_13007, pw_13007, pa_14008, pw_14008, pa_13009, pw_13009, pa_13010, pw_13010, pa_13012, pw_13012, pa_13013, pw_13013, pa_13014, pw_13014, pa_13015, pw_13015, pa_13016, pw_13016, pa_13017, pw_13017, pa_13018, pw_13018, pa_13020, pw_13020, pa_13021, pw_13021, pa_13022, pw_13022, pa_13023, pw_13023, pa_13024, pw_13024, pa_13025, pw_13025, pa_13026, pw_13026, pa_13027, pw_13027, pa_13028, pw_13028, pa_13029, pw_13029, pa_13031, pw_13031, pa_13032, pw_13032, pa_13033, pw_13033, pa_14034, pw_14034, pa_13035, pw_13035, pa_13036, pw_13036, pa_13037, pw_13037, pa_13038, pw_13038, pa_13039, pw_13039, pa_13042, pw_13042, pa_13043, pw_13043, pa_13044, pw_13044, pa_13045, pw_13045, pa_13046, pw_13046, pa_13047, pw_13047, pa_13048, pw_13048, pa_13049, pw_13049, pa_13050, pw_13050, pa_13051, pw_13051, pa_13052, pw_13052, pa_13053, pw_13053, pa_13054, pw_13054, pa_13055, pw_13055, pa_13056, pw_13056, pa_13057, pw_13057, pa_13058, pw_13058, pa_13059, pw_13059, pa_13060, pw_13060, pa_13061, pw_13061, pa_13062, pw_13062, pa_13063, pw_13063, pa_13064, pw_13064, pa_13065, pw_13065, pa_13066, pw_13066, pa_13067, pw_13067, ps_0, ps_1, ps_2, ps_3, ps_4, ps_11, ps_19, ps_30, ps_40, ps_41, ln_13005, ln_13006, ln_13007, ln_14008, ln_13009, ln_13010, ln_13012, ln_13013, ln_13014, ln_13015, ln_13016, ln_13017, ln_13018, ln_13020, ln_13021, ln_13022, ln_13023, ln_13024, ln_13025, ln_13026, ln_13027, ln_13028, ln_13029, ln_13031, ln_13032, ln_13033, ln_14034, ln_13035, ln_13036, ln_13037, ln_13038, ln_13039, ln_13042, ln_13043, ln_13044, ln_13045, ln_13046, ln_13047, ln_13048, ln_13049, ln_13050, ln_13051, ln_13052, ln_13053, ln_13054, ln_13055, ln_13056, ln_13057, ln_13058, ln_13059, ln_13060, ln_13061, ln_13062, ln_13063, ln_13064, ln_13065, ln_13066, ln_13067, gd_t, w_eq, mt, h1, h2, m_refuse]
    · have jz : JJ n C (up N 12000 0 0) A := j.thrown
      obtain ⟨r, r1, r2, C', r3, r4, r5⟩ := c_settle (N0 := N) (A := A) (t := N 13033 x) (k := 3) j.z (show CC C (up N 12000 0 0) from j.c)
      have jj := jz.endT (x := x) (k := 3) (C1 := C') h1.1 h1.2 (show 0 ≤ N 13033 x by omega) (Or.inl rfl) r4 r5
      refine SR.w (C1 := uq (uq (uq C' 7000 x 3 (-1)) 7000 x 4 0) 7000 x 5 0) (N1 := enN (fgI (up N 12000 0 0) x 9) x 3) (cntO N (N 13033 x) ((N 12000 19)).toNat) ?_ ?_ rfl jj
      · have e : (p_X10_settle (mk C N A) 11000 (N 13033 x) 3) = some (cntO N (N 13033 x) ((N 12000 19)).toNat, mk C' N A) := by
          rw [show r = (cntO (up N 12000 0 0) (N 13033 x) ((up N 12000 0 0) 12000 19).toNat, mk C' N A) from Prod.ext r2 r3] at r1
          exact r1
        simp (disch := omega) only [aok, up_s, true_and, false_and, and_true, and_false, if_true, if_false, ↓reduceIte, ↓Option.bind_some, Int.reduceEq, Int.reduceNe, Int.reduceLT, Int.reduceLE, gd_true, gd_false, bind_b, q10, eq_self, reduceCtorEq, not_true_eq_false, not_false_eq_true, ne_eq, cr_11000, cr_15000, cr_16000, cr_20000, cr_20001, cr_21000, cr_22000, cr_25000, cr_1000, cr_2000, cr_3000, cr_3003, cr_3006, cr_4000, cr_5000, cr_6000, cr_7000, cr_8000, cr_9000, cr_10000, cr_13500, cr_17000, cr_17100, cr_17103, cr_17106, cr_19000, cr_20100, cr_21100, cr_23000, cr_24000, cw_11000, cw_15000, cw_16000, cw_20000, cw_20001, cw_21000, cw_22000, cw_25000, cw_1000, cw_2000, cw_3000, cw_3003, cw_3006, cw_4000, cw_5000, cw_6000, cw_7000, cw_8000, cw_9000, cw_10000, cw_13500, cw_17000, cw_17100, cw_17103, cw_17106, cw_19000, cw_20100, cw_21100, cw_23000, cw_24000, lc_13500, lc_15000, lc_16000, lc_17000, lc_17100, lc_17103, lc_17106, lc_19000, lc_20000, lc_20001, lc_20100, lc_21000, lc_21100, lc_22000, lc_23000, lc_24000, lc_25000, gd_t, w_eq, thT, thU, psT, psU, hnT, thr_mk, ↓Option.bind_some, ht, h1, c3, h2, e, c_endTransaction]
      · unfold p_X11_abort
        have gf : RG (fgI (up N 12000 0 0) x 9) := j.z
        have me := fun C => @m_endAll C (fgI (up N 12000 0 0) x 9) A x 3 gf h1.1 h1.2
        have nl : ¬ N 13033 x < 0 := by omega
        simp (disch := omega) only [aok, up_s, true_and, false_and, and_true, and_false, if_true, if_false, ↓reduceIte, ↓Option.bind_some, Int.reduceEq, Int.reduceNe, Int.reduceLT, Int.reduceLE, gd_true, gd_false, bind_b, q10, eq_self, reduceCtorEq, not_true_eq_false, not_false_eq_true, ne_eq, pt_0, pt_1, pt_2, pt_3, pt_4, pt_5, pt_6, pt_7, pt_8, pt_9, pt_10, pt_11, pt_12, pt_13, pt_14, pt_15, pt_16, pt_17, pt_18, pt_19, pt_20, pt_21, pt_22, pt_23, pt_24, pt_25, pt_26, pt_27, pt_28, pt_29, pt_30, pt_31, pt_32, pt_33, pt_34, pt_35, pt_36, pt_37, pt_38, pt_39, pt_40, pt_41, pt_42, pt_43, pt_44, pt_45, pt_46, pt_47, pt_48, pt_49, pt_50, pt_51, pt_52, pt_53, pt_54, pt_55, pt_56, pt_57, pt_58, pt_59, pt_60, pt_61, pt_62, pt_63, pt_64, pt_65, pt_66, pt_67, pa_13005, pw_13005, pa_13006, pw_13006, pa_13007, pw_13007, pa_14008, pw_14008, pa_13009, pw_13009, pa_13010, pw_13010, pa_13012, pw_13012, pa_13013, pw_13013, pa_13014, pw_13014, pa_13015, pw_13015, pa_13016, pw_13016, pa_13017, pw_13017, pa_13018, pw_13018, pa_13020, pw_13020, pa_13021, pw_13021, pa_13022, pw_13022, pa_13023, pw_13023, pa_13024, pw_13024, pa_13025, pw_13025, pa_13026, pw_13026, pa_13027, pw_13027, pa_13028, pw_13028, pa_13029, pw_13029, pa_13031, pw_13031, pa_13032, pw_13032, pa_13033, pw_13033, pa_14034, pw_14034, pa_13035, pw_13035, pa_13036, pw_13036, pa_13037, pw_13037, pa_13038, pw_13038, pa_13039, pw_13039, pa_13042, pw_13042, pa_13043, pw_13043, pa_13044, pw_13044, pa_13045, pw_13045, pa_13046, pw_13046, pa_13047, pw_13047, pa_13048, pw_13048, pa_13049, pw_13049, pa_13050, pw_13050, pa_13051, pw_13051, pa_13052, pw_13052, pa_13053, pw_13053, pa_13054, pw_13054, pa_13055, pw_13055, pa_13056, pw_13056, pa_13057, pw_13057, pa_13058, pw_13058, pa_13059, pw_13059, pa_13060, pw_13060, pa_13061, pw_13061, pa_13062, pw_13062, pa_13063, pw_13063, pa_13064, pw_13064, pa_13065, pw_13065, pa_13066, pw_13066, pa_13067, pw_13067, ps_0, ps_1, ps_2, ps_3, ps_4, ps_11, ps_19, ps_30, ps_40, ps_41, ln_13005, ln_13006, ln_13007, ln_14008, ln_13009, ln_13010, ln_13012, ln_13013, ln_13014, ln_13015, ln_13016, ln_13017, ln_13018, ln_13020, ln_13021, ln_13022, ln_13023, ln_13024, ln_13025, ln_13026, ln_13027, ln_13028, ln_13029, ln_13031, ln_13032, ln_13033, ln_14034, ln_13035, ln_13036, ln_13037, ln_13038, ln_13039, ln_13042, ln_13043, ln_13044, ln_13045, ln_13046, ln_13047, ln_13048, ln_13049, ln_13050, ln_13051, ln_13052, ln_13053, ln_13054, ln_13055, ln_13056, ln_13057, ln_13058, ln_13059, ln_13060, ln_13061, ln_13062, ln_13063, ln_13064, ln_13065, ln_13066, ln_13067, gd_t, w_eq, mt, h1, nl, m_forgetPlaces, me]
        rfl
  · refine SR.r j 1 (by omega) ?_ ?_
    · simp (disch := omega) only [aok, up_s, true_and, false_and, and_true, and_false, if_true, if_false, ↓reduceIte, ↓Option.bind_some, Int.reduceEq, Int.reduceNe, Int.reduceLT, Int.reduceLE, gd_true, gd_false, bind_b, q10, eq_self, reduceCtorEq, not_true_eq_false, not_false_eq_true, ne_eq, cr_11000, cr_15000, cr_16000, cr_20000, cr_20001, cr_21000, cr_22000, cr_25000, cr_1000, cr_2000, cr_3000, cr_3003, cr_3006, cr_4000, cr_5000, cr_6000, cr_7000, cr_8000, cr_9000, cr_10000, cr_13500, cr_17000, cr_17100, cr_17103, cr_17106, cr_19000, cr_20100, cr_21100, cr_23000, cr_24000, cw_11000, cw_15000, cw_16000, cw_20000, cw_20001, cw_21000, cw_22000, cw_25000, cw_1000, cw_2000, cw_3000, cw_3003, cw_3006, cw_4000, cw_5000, cw_6000, cw_7000, cw_8000, cw_9000, cw_10000, cw_13500, cw_17000, cw_17100, cw_17103, cw_17106, cw_19000, cw_20100, cw_21100, cw_23000, cw_24000, lc_13500, lc_15000, lc_16000, lc_17000, lc_17100, lc_17103, lc_17106, lc_19000, lc_20000, lc_20001, lc_20100, lc_21000, lc_21100, lc_22000, lc_23000, lc_24000, lc_25000, gd_t, w_eq, thT, thU, psT, psU, hnT, thr_mk, ↓Option.bind_some, ht, h1]
    · unfold p_X11_abort
      simp (disch := omega) only [aok, up_s, true_and, false_and, and_true, and_false, if_true, if_false, ↓reduceIte, ↓Option.bind_some, Int.reduceEq, Int.reduceNe, Int.reduceLT, Int.reduceLE, gd_true, gd_false, bind_b, q10, eq_self, reduceCtorEq, not_true_eq_false, not_false_eq_true, ne_eq, pt_0, pt_1, pt_2, pt_3, pt_4, pt_5, pt_6, pt_7, pt_8, pt_9, pt_10, pt_11, pt_12, pt_13, pt_14, pt_15, pt_16, pt_17, pt_18, pt_19, pt_20, pt_21, pt_22, pt_23, pt_24, pt_25, pt_26, pt_27, pt_28, pt_29, pt_30, pt_31, pt_32, pt_33, pt_34, pt_35, pt_36, pt_37, pt_38, pt_39, pt_40, pt_41, pt_42, pt_43, pt_44, pt_45, pt_46, pt_47, pt_48, pt_49, pt_50, pt_51, pt_52, pt_53, pt_54, pt_55, pt_56, pt_57, pt_58, pt_59, pt_60, pt_61, pt_62, pt_63, pt_64, pt_65, pt_66, pt_67, pa_13005, pw_13005, pa_13006, pw_13006, pa_13007, pw_13007, pa_14008, pw_14008, pa_13009, pw_13009, pa_13010, pw_13010, pa_13012, pw_13012, pa_13013, pw_13013, pa_13014, pw_13014, pa_13015, pw_13015, pa_13016, pw_13016, pa_13017, pw_13017, pa_13018, pw_13018, pa_13020, pw_13020, pa_13021, pw_13021, pa_13022, pw_13022, pa_13023, pw_13023, pa_13024, pw_13024, pa_13025, pw_13025, pa_13026, pw_13026, pa_13027, pw_13027, pa_13028, pw_13028, pa_13029, pw_13029, pa_13031, pw_13031, pa_13032, pw_13032, pa_13033, pw_13033, pa_14034, pw_14034, pa_13035, pw_13035, pa_13036, pw_13036, pa_13037, pw_13037, pa_13038, pw_13038, pa_13039, pw_13039, pa_13042, pw_13042, pa_13043, pw_13043, pa_13044, pw_13044, pa_13045, pw_13045, pa_13046, pw_13046, pa_13047, pw_13047, pa_13048, pw_13048, pa_13049, pw_13049, pa_13050, pw_13050, pa_13051, pw_13051, pa_13052, pw_13052, pa_13053, pw_13053, pa_13054, pw_13054, pa_13055, pw_13055, pa_13056, pw_13056, pa_13057, pw_13057, pa_13058, pw_13058, pa_13059, pw_13059, pa_13060, pw_13060, pa_13061, pw_13061, pa_13062, pw_13062, pa_13063, pw_13063, pa_13064, pw_13064, pa_13065, pw_13065, pa_13066, pw_13066, pa_13067, pw_13067, ps_0, ps_1, ps_2, ps_3, ps_4, ps_11, ps_19, ps_30, ps_40, ps_41, ln_13005, ln_13006, ln_13007, ln_14008, ln_13009, ln_13010, ln_13012, ln_13013, ln_13014, ln_13015, ln_13016, ln_13017, ln_13018, ln_13020, ln_13021, ln_13022, ln_13023, ln_13024, ln_13025, ln_13026, ln_13027, ln_13028, ln_13029, ln_13031, ln_13032, ln_13033, ln_14034, ln_13035, ln_13036, ln_13037, ln_13038, ln_13039, ln_13042, ln_13043, ln_13044, ln_13045, ln_13046, ln_13047, ln_13048, ln_13049, ln_13050, ln_13051, ln_13052, ln_13053, ln_13054, ln_13055, ln_13056, ln_13057, ln_13058, ln_13059, ln_13060, ln_13061, ln_13062, ln_13063, ln_13064, ln_13065, ln_13066, ln_13067, gd_t, w_eq, mt, h1, m_refuse]
/-- a transaction begins -/
def bgN (N : Nd) (x : Int) : Nd := up (fgI (up (up N 13033 x ((N 12000 40))) 14034 x 0) x 9) 12000 40 ((N 12000 40) + 1)
theorem JN.begin {N : Nd} {x : Int} (j : JN N) (h : N 13033 x < 0) (hn : (N 12000 40) < 400000000) : JN (bgN N x) := by
  have gx : ∀ i, bgN N x 13033 i = if i = x then (N 12000 40) else N 13033 i := fun i => by
    show (up (up N 13033 x ((N 12000 40))) 14034 x 0) 13033 i = _
    simp only [up_s, up_s, true_and, false_and, and_true, and_false, if_true, if_false, ↓reduceIte, ↓Option.bind_some, Int.reduceEq, Int.reduceNe, Int.reduceLT, Int.reduceLE, gd_true, gd_false, bind_b, q10, eq_self, reduceCtorEq, not_true_eq_false, not_false_eq_true, ne_eq]
  have bx : ∀ i, bgN N x 14034 i = if i = x then 0 else N 14034 i := fun i => by
    show (up (up N 13033 x ((N 12000 40))) 14034 x 0) 14034 i = _
    simp only [up_s, up_s, true_and, false_and, and_true, and_false, if_true, if_false, ↓reduceIte, ↓Option.bind_some, Int.reduceEq, Int.reduceNe, Int.reduceLT, Int.reduceLE, gd_true, gd_false, bind_b, q10, eq_self, reduceCtorEq, not_true_eq_false, not_false_eq_true, ne_eq]
  have s9 := j.g.s.2.2.2.2.2.2.2.2
  have g' : RG (bgN N x) := by
    obtain ⟨⟨a1, a2, a3, a4, a5, a6, a7, a8, a9⟩, g2⟩ := j.g
    refine ⟨⟨a1, a2, a3, a4, a5, a6, a7, a8, ?_⟩, g2.1, g2.2.1, g2.2.2.1, g2.2.2.2.1, fun m m1 m2 => ?_, fun i i1 i2 => ?_⟩
    · show 0 ≤ (N 12000 40) + 1 ∧ (N 12000 40) + 1 ≤ 400000000
      omega
    · obtain ⟨b1, b2, b3, b4, b5, b6, b7, b8⟩ := g2.2.2.2.2.1 m m1 m2
      refine ⟨b1, b2, b3, b4, b5, b6, b7, ?_⟩
      show -1 ≤ N 13029 m ∧ N 13029 m < (N 12000 40) + 1
      omega
    · obtain ⟨b1, b2, b3, b4⟩ := g2.2.2.2.2.2 i i1 i2
      rw [gx, bx]
      refine ⟨b1, b2, ?_, ?_⟩
      · show _ ∧ _ < (N 12000 40) + 1
        split <;> omega
      · split
        · omega
        · exact b4
  refine ⟨⟨⟨g', j.1.1.2⟩, j.1.2⟩, ⟨fun m m1 m2 m3 => ?_, fun a b a1 a2 b1 b2 ha hab => ?_⟩, j.sl, j.tk, j.n1, j.n2, j.ms, fun m y m1 m2 y1 y2 hy hm => ?_⟩
  · have a := j.ot m m1 m2 m3
    refine ⟨a.1, ?_⟩
    show bgN N x 13033 (N 13020 m) = N 13029 m
    rw [gx, if_neg]
    · exact a.2
    · intro z
      rw [z] at a
      have a1 := a.1
      have a2 := a.2
      have a1' : 0 ≤ N 13029 m := a1
      omega
  · have ga := (j.g.x a a1 a2).2.2.1
    have gb := (j.g.x b b1 b2).2.2.1
    rw [gx] at ha
    rw [gx, gx] at hab
    by_cases e : a = x
    · by_cases e2 : b = x
      · rw [e, e2]
      · rw [if_pos e, if_neg e2] at hab; omega
    · by_cases e2 : b = x
      · rw [if_neg e, if_pos e2] at hab; omega
      · rw [if_neg e] at ha
        rw [if_neg e, if_neg e2] at hab
        exact j.xu a b a1 a2 b1 b2 ha hab
  · have gm := (j.g.m m m1 m2).2.2.2.2.2.2.2
    have hm' : N 13029 m = bgN N x 13033 y := hm
    rw [gx] at hy hm'
    by_cases e : y = x
    · rw [if_pos e] at hm'; omega
    · rw [if_neg e] at hy hm'
      rw [bx, if_neg e]
      exact j.xs m y m1 m2 y1 y2 hy hm'
theorem q_begin {n : Int} {C : Cd} {N : Nd} {A : Ad} {x : Int} (hn : n < 10000000) (j : JJ n C N A) : SR n C N A (p_G_begin (mk C N A) 11000 x 15000) (fun M => p_X11_begin M 12000 x) := by
  have g := j.jn.g
  have s3 := g.s.2.2.1
  have bb := j.b.2.2.1
  have s9 := g.s.2.2.2.2.2.2.2.2
  have b12 : C 11000 0 12 = (N 12000 40) := j.c.b.2.2.2.2.2.2.1
  have ht := c_producerOf (N0 := N) (A := A) (t := x) g j.c
  have mt := fun C A => @m_isProducer C (up N 12000 0 0) A x j.z.s
  simp only [up_s, up_s, true_and, false_and, and_true, and_false, if_true, if_false, ↓reduceIte, ↓Option.bind_some, Int.reduceEq, Int.reduceNe, Int.reduceLT, Int.reduceLE, gd_true, gd_false, bind_b, q10, eq_self, reduceCtorEq, not_true_eq_false, not_false_eq_true, ne_eq] at mt
  unfold p_G_begin p_X10_begin
  by_cases h1 : 0 ≤ x ∧ x < (N 12000 30)
  · obtain ⟨c0, c1, c2, c3, c4, c5⟩ := j.c.x x h1.1 h1.2
    have gx := (g.x x h1.1 h1.2).2.2.1
    by_cases h2 : N 13033 x = -1
    · have f5 := j.fn.2.2.2.2 x h1.1 (by omega) (Or.inr (by omega))
      have jz : JJ n C (up N 12000 0 0) A := j.thrown
      have jb : JN (bgN (up N 12000 0 0) x) := jz.jn.begin (show N 13033 x < 0 by omega) (show (N 12000 40) < 400000000 by omega)
      have ub : up (up (up N 12000 0 0) 13033 x ((N 12000 40))) 14034 x 0 = up (up N 12000 0 0) 13033 x ((N 12000 40)) := by
        have := @up_same (up (up N 12000 0 0) 13033 x ((N 12000 40))) 14034 x
        have e : (up (up N 12000 0 0) 13033 x ((N 12000 40))) 14034 x = 0 := f5.1
        rw [e] at this
        exact this
      have cc : CC (uq (uq C 7000 x 3 ((N 12000 40))) 11000 0 12 ((N 12000 40) + 1)) (bgN (up N 12000 0 0) x) := by
        have k : CC (uq (uq C 7000 x 3 ((N 12000 40))) 11000 0 12 ((N 12000 40) + 1)) (up (up (up N 12000 0 0) 13033 x ((N 12000 40))) 12000 40 ((N 12000 40) + 1)) := CC.setBegun (CC.setGoes (N := up N 12000 0 0) j.c)
        rw [← ub] at k
        exact k
      have gx : ∀ i, bgN (up N 12000 0 0) x 13033 i = if i = x then (N 12000 40) else N 13033 i := fun i => by
        show (up (up (up N 12000 0 0) 13033 x ((N 12000 40))) 14034 x 0) 13033 i = _
        simp only [up_s, up_s, true_and, false_and, and_true, and_false, if_true, if_false, ↓reduceIte, ↓Option.bind_some, Int.reduceEq, Int.reduceNe, Int.reduceLT, Int.reduceLE, gd_true, gd_false, bind_b, q10, eq_self, reduceCtorEq, not_true_eq_false, not_false_eq_true, ne_eq]
      have bx : ∀ i, bgN (up N 12000 0 0) x 14034 i = if i = x then 0 else N 14034 i := fun i => by
        show (up (up (up N 12000 0 0) 13033 x ((N 12000 40))) 14034 x 0) 14034 i = _
        simp only [up_s, up_s, true_and, false_and, and_true, and_false, if_true, if_false, ↓reduceIte, ↓Option.bind_some, Int.reduceEq, Int.reduceNe, Int.reduceLT, Int.reduceLE, gd_true, gd_false, bind_b, q10, eq_self, reduceCtorEq, not_true_eq_false, not_false_eq_true, ne_eq]
      have pp : ∀ q, bgN (up N 12000 0 0) x 13039 q = if 9 * x ≤ q ∧ q < 9 * x + 9 then -1 else N 13039 q := fun q => rfl
      have ps : ∀ y, bgN (up N 12000 0 0) x 13035 y = if y = x then 0 else N 13035 y := fun y => by
        show (up (up (up (up N 12000 0 0) 13033 x ((N 12000 40))) 14034 x 0) 13035 x 0) 13035 y = _
        simp only [up_s, up_s, true_and, false_and, and_true, and_false, if_true, if_false, ↓reduceIte, ↓Option.bind_some, Int.reduceEq, Int.reduceNe, Int.reduceLT, Int.reduceLE, gd_true, gd_false, bind_b, q10, eq_self, reduceCtorEq, not_true_eq_false, not_false_eq_true, ne_eq]
      have jj : JJ (n + 1) (uq (uq C 7000 x 3 ((N 12000 40))) 11000 0 12 ((N 12000 40) + 1)) (bgN (up N 12000 0 0) x) A := by
        refine jz.tx h1.2 jb cc Mo.rf (fun b i q hq hx => ?_) (fun k hk => ?_) (fun a a1 a2 a3 a4 a5 a6 => ?_) (fun y hy => ⟨by rw [gx, if_neg hy]; rfl, by rw [bx, if_neg hy]; rfl, by rw [ps, if_neg hy]; rfl⟩) (fun q hq => by rw [pp, if_neg (by omega)]; rfl) (by rw [ps, if_pos rfl]) ?_ (fun _ p p1 p2 => by rw [pp, if_pos (by omega)]) (fun _ => by rw [bx, if_pos rfl]) (by omega) (by have := j.b.2.1; show (N 12000 1) ≤ _; omega) (by show (N 12000 40) + 1 ≤ _; omega)
        · rw [uq_s, if_neg (fun z => by rw [z.1, z.2.2] at hq; cases hq), uq_s, if_neg (fun z => by rw [z.1, z.2.2] at hq; cases hq)]
        · unfold bgN
          rw [up_s, if_neg (fun z => hk z.2), fgI_ar (by decide) (by decide), up_s, if_neg (by simp), up_s, if_neg (by simp)]
        · funext q
          unfold bgN
          rw [up_s, if_neg (fun z => a1 z.1), fgI_ar a5 a6, up_s, if_neg (fun z => a4 z.1), up_s, if_neg (fun z => a3 z.1)]
        · rw [uq_s, if_neg (by omega), uq_s, if_neg (by omega)]
          exact ((j.px x h1.1 h1.2).1 f5.2).1
      refine SR.w (C1 := uq (uq C 7000 x 3 ((N 12000 40))) 11000 0 12 ((N 12000 40) + 1)) (N1 := bgN (up N 12000 0 0) x) ((N 12000 40)) ?_ ?_ rfl jj
      · have e1 : w ((N 12000 40) + 1) = (N 12000 40) + 1 := w_eq (by omega) (by omega)
        simp (disch := omega) only [aok, up_s, true_and, false_and, and_true, and_false, if_true, if_false, ↓reduceIte, ↓Option.bind_some, Int.reduceEq, Int.reduceNe, Int.reduceLT, Int.reduceLE, gd_true, gd_false, bind_b, q10, eq_self, reduceCtorEq, not_true_eq_false, not_false_eq_true, ne_eq, cr_11000, cr_15000, cr_16000, cr_20000, cr_20001, cr_21000, cr_22000, cr_25000, cr_1000, cr_2000, cr_3000, cr_3003, cr_3006, cr_4000, cr_5000, cr_6000, cr_7000, cr_8000, cr_9000, cr_10000, cr_13500, cr_17000, cr_17100, cr_17103, cr_17106, cr_19000, cr_20100, cr_21100, cr_23000, cr_24000, cw_11000, cw_15000, cw_16000, cw_20000, cw_20001, cw_21000, cw_22000, cw_25000, cw_1000, cw_2000, cw_3000, cw_3003, cw_3006, cw_4000, cw_5000, cw_6000, cw_7000, cw_8000, cw_9000, cw_10000, cw_13500, cw_17000, cw_17100, cw_17103, cw_17106, cw_19000, cw_20100, cw_21100, cw_23000, cw_24000, lc_13500, lc_15000, lc_16000, lc_17000, lc_17100, lc_17103, lc_17106, lc_19000, lc_20000, lc_20001, lc_20100, lc_21000, lc_21100, lc_22000, lc_23000, lc_24000, lc_25000, gd_t, w_eq, thT, thU, psT, psU, hnT, thr_mk, ↓Option.bind_some, ht, h1, c3, h2, b12, uq_s, e1]
      · unfold p_X11_begin
        have e1 : w ((N 12000 40) + 1) = (N 12000 40) + 1 := w_eq (by omega) (by omega)
        have e2 : w ((N 12000 40) + 1 - 1) = (N 12000 40) := by rw [w_eq (by omega) (by omega)]; omega
        have e3 : ian 0 1 = 0 := by decide
        have nl : N 13033 x < 0 := by omega
        have fg : ∀ M : Nd, fgI M x 9 12000 40 = M 12000 40 := fun M => congrFun (fgI_ar (by decide) (by decide)) 40
        simp (disch := omega) only [aok, up_s, true_and, false_and, and_true, and_false, if_true, if_false, ↓reduceIte, ↓Option.bind_some, Int.reduceEq, Int.reduceNe, Int.reduceLT, Int.reduceLE, gd_true, gd_false, bind_b, q10, eq_self, reduceCtorEq, not_true_eq_false, not_false_eq_true, ne_eq, pt_0, pt_1, pt_2, pt_3, pt_4, pt_5, pt_6, pt_7, pt_8, pt_9, pt_10, pt_11, pt_12, pt_13, pt_14, pt_15, pt_16, pt_17, pt_18, pt_19, pt_20, pt_21, pt_22, pt_23, pt_24, pt_25, pt_26, pt_27, pt_28, pt_29, pt_30, pt_31, pt_32, pt_33, pt_34, pt_35, pt_36, pt_37, pt_38, pt_39, pt_40, pt_41, pt_42, pt_43, pt_44, pt_45, pt_46, pt_47, pt_48, pt_49, pt_50, pt_51, pt_52, pt_53, pt_54, pt_55, pt_56, pt_57, pt_58, pt_59, pt_60, pt_61, pt_62, pt_63, pt_64, pt_65, pt_66, pt_67, pa_13005, pw_13005, pa_13006, pw_13006, pa_13007, pw_13007, pa_14008, pw_14008, pa_13009, pw_13009, pa_13010, pw_13010, pa_13012, pw_13012, pa_13013, pw_13013, pa_13014, pw_13014, pa_13015, pw_13015, pa_13016, pw_13016, pa_13017, pw_13017, pa_13018, pw_13018, pa_13020, pw_13020, pa_13021, pw_13021, pa_13022, pw_13022, pa_13023, pw_13023, pa_13024, pw_13024, pa_13025, pw_13025, pa_13026, pw_13026, pa_13027, pw_13027, pa_13028, pw_13028, pa_13029, pw_13029, pa_13031, pw_13031, pa_13032, pw_13032, pa_13033, pw_13033, pa_14034, pw_14034, pa_13035, pw_13035, pa_13036, pw_13036, pa_13037, pw_13037, pa_13038, pw_13038, pa_13039, pw_13039, pa_13042, pw_13042, pa_13043, pw_13043, pa_13044, pw_13044, pa_13045, pw_13045, pa_13046, pw_13046, pa_13047, pw_13047, pa_13048, pw_13048, pa_13049, pw_13049, pa_13050, pw_13050, pa_13051, pw_13051, pa_13052, pw_13052, pa_13053, pw_13053, pa_13054, pw_13054, pa_13055, pw_13055, pa_13056, pw_13056, pa_13057, pw_13057, pa_13058, pw_13058, pa_13059, pw_13059, pa_13060, pw_13060, pa_13061, pw_13061, pa_13062, pw_13062, pa_13063, pw_13063, pa_13064, pw_13064, pa_13065, pw_13065, pa_13066, pw_13066, pa_13067, pw_13067, ps_0, ps_1, ps_2, ps_3, ps_4, ps_11, ps_19, ps_30, ps_40, ps_41, ln_13005, ln_13006, ln_13007, ln_14008, ln_13009, ln_13010, ln_13012, ln_13013, ln_13014, ln_13015, ln_13016, ln_13017, ln_13018, ln_13020, ln_13021, ln_13022, ln_13023, ln_13024, ln_13025, ln_13026, ln_13027, ln_13028, ln_13029, ln_13031, ln_13032, ln_13033, ln_14034, ln_13035, ln_13036, ln_13037, ln_13038, ln_13039, ln_13042, ln_13043, ln_13044, ln_13045, ln_13046, ln_13047, ln_13048, ln_13049, ln_13050, ln_13051, ln_13052, ln_13053, ln_13054, ln_13055, ln_13056, ln_13057, ln_13058, ln_13059, ln_13060, ln_13061, ln_13062, ln_13063, ln_13064, ln_13065, ln_13066, ln_13067, gd_t, w_eq, mt, h1, nl, m_forgetPlaces, e3, fg, e1, e2]
        simp only [Int.add_sub_cancel]
        rfl
    · refine SR.r j 2 (by omega) ?_ ?_
      · simp (disch := omega) only [aok, up_s, true_and, false_and, and_true, and_false, if_true, if_false, ↓reduceIte, ↓Option.bind_some, Int.reduceEq, Int.reduceNe, Int.reduceLT, Int.reduceLE, gd_true, gd_false, bind_b, q10, eq_self, reduceCtorEq, not_true_eq_false, not_false_eq_true, ne_eq, cr_11000, cr_15000, cr_16000, cr_20000, cr_20001, cr_21000, cr_22000, cr_25000, cr_1000, cr_2000, cr_3000, cr_3003, cr_3006, cr_4000, cr_5000, cr_6000, cr_7000, cr_8000, cr_9000, cr_10000, cr_13500, cr_17000, cr_17100, cr_17103, cr_17106, cr_19000, cr_20100, cr_21100, cr_23000, cr_24000, cw_11000, cw_15000, cw_16000, cw_20000, cw_20001, cw_21000, cw_22000, cw_25000, cw_1000, cw_2000, cw_3000, cw_3003, cw_3006, cw_4000, cw_5000, cw_6000, cw_7000, cw_8000, cw_9000, cw_10000, cw_13500, cw_17000, cw_17100, cw_17103, cw_17106, cw_19000, cw_20100, cw_21100, cw_23000, cw_24000, lc_13500, lc_15000, lc_16000, lc_17000, lc_17100, lc_17103, lc_17106, lc_19000, lc_20000, lc_20001, lc_20100, lc_21000, lc_21100, lc_22000, lc_23000, lc_24000, lc_25000, gd_t, w_eq, thT, thU, psT, psU, hnT, thr_mk, ↓Option.bind_some, ht, h1, c3, h2]
      · unfold p_X11_begin
        have nl : ¬ N 13033 x < 0 := by omega
        simp (disch := omega) only [aok, up_s, true_and, false_and, and_true, and_false, if_true, if_false, ↓reduceIte, ↓Option.bind_some, Int.reduceEq, Int.reduceNe, Int.reduceLT, Int.reduceLE, gd_true, gd_false, bind_b, q10, eq_self, reduceCtorEq, not_true_eq_false, not_false_eq_true, ne_eq, pt_0, pt_1, pt_2, pt_3, pt_4, pt_5, pt_6, pt_7, pt_8, pt_9, pt_10, pt_11, pt_12, pt_13, pt_14, pt_15, pt_16, pt_17, pt_18, pt_19, pt_20, pt_21, pt_22, pt_23, pt_24, pt_25, pt_26, pt_27, pt_28, pt_29, pt_30, pt_31, pt_32, pt_33, pt_34, pt_35, pt_36, pt_37, pt_38, pt_39, pt_40, pt_41, pt_42, pt_43, pt_44, pt_45, pt_46, pt_47, pt_48, pt_49, pt_50, pt_51, pt_52, pt_53, pt_54, pt_55, pt_56, pt_57, pt_58, pt_59, pt_60, pt_61, pt_62, pt_63, pt_64, pt_65, pt_66, pt_67, pa_13005, pw_13005, pa_13006, pw_13006, pa_13007, pw_13007, pa_14008, pw_14008, pa_13009, pw_13009, pa_13010, pw_13010, pa_13012, pw_13012, pa_13013, pw_13013, pa_13014, pw_13014, pa_13015, pw_13015, pa_13016, pw_13016, pa_13017, pw_13017, pa_13018, pw_13018, pa_13020, pw_13020, pa_13021, pw_13021, pa_13022, pw_13022, pa_13023, pw_13023, pa_13024, pw_13024, pa_13025, pw_13025, pa_13026, pw_13026, pa_13027, pw_13027, pa_13028, pw_13028, pa_13029, pw_13029, pa_13031, pw_13031, pa_13032, pw_13032, pa_13033, pw_13033, pa_14034, pw_14034, pa_13035, pw_13035, pa_13036, pw_13036, pa_13037, pw_13037, pa_13038, pw_13038, pa_13039, pw_13039, pa_13042, pw_13042, pa_13043, pw_13043, pa_13044, pw_13044, pa_13045, pw_13045, pa_13046, pw_13046, pa_13047, pw_13047, pa_13048, pw_13048, pa_13049, pw_13049, pa_13050, pw_13050, pa_13051, pw_13051, pa_13052, pw_13052, pa_13053, pw_13053, pa_13054, pw_13054, pa_13055, pw_13055, pa_13056, pw_13056, pa_13057, pw_13057, pa_13058, pw_13058, pa_13059, pw_13059, pa_13060, pw_13060, pa_13061, pw_13061, pa_13062, pw_13062, pa_13063, pw_13063, pa_13064, pw_13064, pa_13065, pw_13065, pa_13066, pw_13066, pa_13067, pw_13067, ps_0, ps_1, ps_2, ps_3, ps_4, ps_11, ps_19, ps_30, ps_40, ps_41, ln_13005, ln_13006, ln_13007, ln_14008, ln_13009, ln_13010, ln_13012, ln_13013, ln_13014, ln_13015, ln_13016, ln_13017, ln_13018, ln_13020, ln_13021, ln_13022, ln_13023, ln_13024, ln_13025, ln_13026, ln_13027, ln_13028, ln_13029, ln_13031, ln_13032, ln_13033, ln_14034, ln_13035, ln_13036, ln_13037, ln_13038, ln_13039, ln_13042, ln_13043, ln_13044, ln_13045, ln_13046, ln_13047, ln_13048, ln_13049, ln_13050, ln_13051, ln_13052, ln_13053, ln_13054, ln_13055, ln_13056, ln_13057, ln_13058, ln_13059, ln_13060, ln_13061, ln_13062, ln_13063, ln_13064, ln_13065, ln_13066, ln_13067, gd_t, w_eq, mt, h1, nl, m_refuse]
  · refine SR.r j 1 (by omega) ?_ ?_
    · simp (disch := omega) only [aok, up_s, true_and, false_and, and_true, and_false, if_true, if_false, ↓reduceIte, ↓Option.bind_some, Int.reduceEq, Int.reduceNe, Int.reduceLT, Int.reduceLE, gd_true, gd_false, bind_b, q10, eq_self, reduceCtorEq, not_true_eq_false, not_false_eq_true, ne_eq, cr_11000, cr_15000, cr_16000, cr_20000, cr_20001, cr_21000, cr_22000, cr_25000, cr_1000, cr_2000, cr_3000, cr_3003, cr_3006, cr_4000, cr_5000, cr_6000, cr_7000, cr_8000, cr_9000, cr_10000, cr_13500, cr_17000, cr_17100, cr_17103, cr_17106, cr_19000, cr_20100, cr_21100, cr_23000, cr_24000, cw_11000, cw_15000, cw_16000, cw_20000, cw_20001, cw_21000, cw_22000, cw_25000, cw_1000, cw_2000, cw_3000, cw_3003, cw_3006, cw_4000, cw_5000, cw_6000, cw_7000, cw_8000, cw_9000, cw_10000, cw_13500, cw_17000, cw_17100, cw_17103, cw_17106, cw_19000, cw_20100, cw_21100, cw_23000, cw_24000, lc_13500, lc_15000, lc_16000, lc_17000, lc_17100, lc_17103, lc_17106, lc_19000, lc_20000, lc_20001, lc_20100, lc_21000, lc_21100, lc_22000, lc_23000, lc_24000, lc_25000, gd_t, w_eq, thT, thU, psT, psU, hnT, thr_mk, ↓Option.bind_some, ht, h1]
    · unfold p_X11_begin
      simp (disch := omega) only [aok, up_s, true_and, false_and, and_true, and_false, if_true, if_false, ↓reduceIte, ↓Option.bind_some, Int.reduceEq, Int.reduceNe, Int.reduceLT, Int.reduceLE, gd_true, gd_false, bind_b, q10, eq_self, reduceCtorEq, not_true_eq_false, not_false_eq_true, ne_eq, pt_0, pt_1, pt_2, pt_3, pt_4, pt_5, pt_6, pt_7, pt_8, pt_9, pt_10, pt_11, pt_12, pt_13, pt_14, pt_15, pt_16, pt_17, pt_18, pt_19, pt_20, pt_21, pt_22, pt_23, pt_24, pt_25, pt_26, pt_27, pt_28, pt_29, pt_30, pt_31, pt_32, pt_33, pt_34, pt_35, pt_36, pt_37, pt_38, pt_39, pt_40, pt_41, pt_42, pt_43, pt_44, pt_45, pt_46, pt_47, pt_48, pt_49, pt_50, pt_51, pt_52, pt_53, pt_54, pt_55, pt_56, pt_57, pt_58, pt_59, pt_60, pt_61, pt_62, pt_63, pt_64, pt_65, pt_66, pt_67, pa_13005, pw_13005, pa_13006, pw_13006, pa_13007, pw_13007, pa_14008, pw_14008, pa_13009, pw_13009, pa_13010, pw_13010, pa_13012, pw_13012, pa_13013, pw_13013, pa_13014, pw_13014, pa_13015, pw_13015, pa_13016, pw_13016, pa_13017, pw_13017, pa_13018, pw_13018, pa_13020, pw_13020, pa_13021, pw_13021, pa_13022, pw_13022, pa_13023, pw_13023, pa_13024, pw_13024, pa_13025, pw_13025, pa_13026, pw_13026, pa_13027, pw_13027, pa_13028, pw_13028, pa_13029, pw_13029, pa_13031, pw_13031, pa_13032, pw_13032, pa_13033, pw_13033, pa_14034, pw_14034, pa_13035, pw_13035, pa_13036, pw_13036, pa_13037, pw_13037, pa_13038, pw_13038, pa_13039, pw_13039, pa_13042, pw_13042, pa_13043, pw_13043, pa_13044, pw_13044, pa_13045, pw_13045, pa_13046, pw_13046, pa_13047, pw_13047, pa_13048, pw_13048, pa_13049, pw_13049, pa_13050, pw_13050, pa_13051, pw_13051, pa_13052, pw_13052, pa_13053, pw_13053, pa_13054, pw_13054, pa_13055, pw_13055, pa_13056, pw_13056, pa_13057, pw_13057, pa_13058, pw_13058, pa_13059, pw_13059, pa_13060, pw_13060, pa_13061, pw_13061, pa_13062, pw_13062, pa_13063, pw_13063, pa_13064, pw_13064, pa_13065, pw_13065, pa_13066, pw_13066, pa_13067, pw_13067, ps_0, ps_1, ps_2, ps_3, ps_4, ps_11, ps_19, ps_30, ps_40, ps_41, ln_13005, ln_13006, ln_13007, ln_14008, ln_13009, ln_13010, ln_13012, ln_13013, ln_13014, ln_13015, ln_13016, ln_13017, ln_13018, ln_13020, ln_13021, ln_13022, ln_13023, ln_13024, ln_13025, ln_13026, ln_13027, ln_13028, ln_13029, ln_13031, ln_13032, ln_13033, ln_14034, ln_13035, ln_13036, ln_13037, ln_13038, ln_13039, ln_13042, ln_13043, ln_13044, ln_13045, ln_13046, ln_13047, ln_13048, ln_13049, ln_13050, ln_13051, ln_13052, ln_13053, ln_13054, ln_13055, ln_13056, ln_13057, ln_13058, ln_13059, ln_13060, ln_13061, ln_13062, ln_13063, ln_13064, ln_13065, ln_13066, ln_13067, gd_t, w_eq, mt, h1, m_refuse]
