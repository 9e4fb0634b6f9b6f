/-! PURE PART, 60: calls that leave groups alone: what holds goes on -/
/-- producers: nothing else of theirs than what CC tells of is other -/
def SX (C C' : Cd) (N N' : Nd) : Prop := (∀ x j, 5 ≤ j → C' 7000 x j = C 7000 x j) ∧ C' 13500 = C 13500 ∧ N' 13035 = N 13035 ∧ N' 13036 = N 13036 ∧ N' 13037 = N 13037 ∧ N' 13038 = N 13038 ∧ N' 13039 = N 13039
theorem PX1.step {C C' : Cd} {N N' : Nd} {x : Int} (y : PX1 C N x) (g1 : RG N') (s : SG C C' N N') (h7 : ∀ j, 5 ≤ j → C' 7000 x j = C 7000 x j) (h13 : ∀ j, C' 13500 x j = C 13500 x j) (hP : N' 13035 x = N 13035 x) (hG : N' 13036 x = N 13036 x) (hM : N' 13037 x = N 13037 x) (hN : N' 13038 x = N 13038 x) (hL : ∀ p, 0 ≤ p → p < 9 → N' 13039 (9 * x + p) = N 13039 (9 * x + p)) (mo : Mo N N') (hr : ∀ g p, 0 ≤ g → g < (N 12000 41) → (gR N' g p ↔ gR N g p)) (hg : (N' 12000 41) = (N 12000 41)) (hx : 0 ≤ N' 13033 x → 0 ≤ N 13033 x) : PX1 C' N' x := by
  have e1 := s.1 2000 (by decide); have e6 := s.1 9000 (by decide)
  have n1 := s.2 13043 (by decide); have m3 := s.2 13055 (by decide); have m4 := s.2 13056 (by decide); have m7 := s.2 13059 (by decide)
  obtain ⟨y1, y2, y3⟩ := y
  unfold PX1 Pd Fdl So
  rw [hP, hG, hM, hN, n1, m3, m4, m7, e1, e6, h7 5 (by omega), h7 6 (by omega), h7 7 (by omega), hg]
  refine ⟨fun z => ⟨(y1 z).1, fun w p p1 p2 => by rw [hL p p1 p2]; exact (y1 z).2 (hx w) p p1 p2⟩, y2, fun z => ?_⟩
  obtain ⟨z1, z2, z3, z4⟩ := y3 z
  refine ⟨z1, z2, z3, fun p p1 p2 => ?_⟩
  obtain ⟨w1, w2, w3⟩ := z4 p p1 p2
  rw [hL p p1 p2, h13]
  refine ⟨w1, w2, fun q => ?_⟩
  obtain ⟨v1, v2⟩ := w3 q
  refine ⟨(hr _ p z1.1 z1.2.1).mpr v1, fun u => ?_⟩
  obtain ⟨t1, t2⟩ := v2 u
  refine ⟨t1, fun r => ?_⟩
  obtain ⟨r1, r2⟩ := t2 r
  have sm := (mo.2.1 p v1.1 v1.2.1).1
  have e9 : So C (N 13036 x) p = C 9000 (9 * N 13036 x + p) 5 := rfl
  rw [e9] at r1 r2
  refine ⟨⟨r1.1, by omega⟩, fun b b1 b2 b3 b4 b5 b6 => ?_⟩
  obtain ⟨c1, c2⟩ := mo.2.2.2 b b1 b2 (by rw [b4]; exact v1.2.1) b3 (by rw [b4]; omega)
  have zb := mo.2.2.1 b b1 c1
  have c3 := (zb.2.2 c2).1
  exact r2 b b1 c1 c2 (by rw [← zb.1.1]; exact b4) (by rw [← c3]; exact b5) (by rw [← c3]; exact b6)
theorem PX.step {C C' : Cd} {N N' : Nd} (px : PX C N) (g1 : RG N') (s : SG C C' N N') (sx : SX C C' N N') (mo : Mo N N') (hr : ∀ g p, 0 ≤ g → g < (N 12000 41) → (gR N' g p ↔ gR N g p)) (hg : (N' 12000 41) = (N 12000 41)) (hp : (N' 12000 30) = (N 12000 30)) (hx : ∀ x, 0 ≤ x → x < (N 12000 30) → 0 ≤ N' 13033 x → 0 ≤ N 13033 x) : PX C' N' := by
  obtain ⟨s1, s2, s3, s4, s5, s6, s7⟩ := sx
  intro x x1 x2
  rw [hp] at x2
  exact (px x x1 x2).step g1 s (s1 x) (fun k => by rw [s2]) (by rw [s3]) (by rw [s4]) (by rw [s5]) (by rw [s6]) (fun p _ _ => by rw [s7]) mo hr hg (hx x x1 x2)
theorem JJ.step {n n' : Int} {C C' : Cd} {N N' : Nd} {A A' : Ad} (j : JJ n C N A) (jn : JN N') (c : CC C' N') (d : ∃ l, DLs N' l ∧ DLc C' l) (s : SG C C' N N') (mo : Mo N N') (hr : ∀ g p, 0 ≤ g → g < (N 12000 41) → (gR N' g p ↔ gR N g p)) (ht : (N 12000 4) ≤ (N' 12000 4)) (hw : (N 12000 1) ≤ (N' 12000 1)) (hg : (N' 12000 41) = (N 12000 41)) (px : PX C' N') (ne : NE C' N' A') (fn : FN N') (hn : n ≤ n') (hb : (N' 12000 1) ≤ 30 * n' ∧ (N' 12000 40) ≤ n') : JJ n' C' N' A' := by
  refine ⟨jn, c, d, fun g g1 g2 => ?_, px, ne, fn, ⟨fun g m h1 h2 h3 h4 => by rw [s.1 2000 (by decide)]; rw [hg] at h1; exact j.zn.1 g m h1 h2 h3 h4, fun g h1 h2 => by
    rw [hg] at h2
    unfold mcn
    rw [s.2 13047 (by decide)]
    exact j.zn.2.1 g h1 h2, fun g m h1 h2 h3 h4 => by
    rw [hg] at h2
    have q := (j.zn.2.2 g m h1 h2 h3 h4).up hn
    unfold FS1 Fdl at q ⊢
    rw [s.1 2000 (by decide), s.2 13064 (by decide)]
    exact q⟩, by have := j.b.1; omega, hb.1, hb.2, fun g g1 g2 => ?_⟩
  · rw [hg] at g2
    have gr := j.gr g1 g2
    exact ⟨gr.1.step j.jn.g j.jn.ms s mo (fun p => hr g p g1 g2) ht hw, gr.2.step j.jn.g jn.g j.jn.ms gr.1 s mo (fun p => hr g p g1 g2)⟩
  · rw [hg] at g2
    rw [s.1 1000 (by decide)]
    have := j.b.2.2.2 g g1 g2
    omega
theorem ccell_g {b : Int} (h : gcell b = true) : ∀ j, ccell b j = false := by
  intro j
  unfold gcell at h
  unfold ccell
  simp only [Bool.or_eq_true, beq_iff_eq] at h
  rcases h with ((((((((((((h | h) | h) | h) | h) | h) | h) | h) | h) | h) | h) | h) | h) <;> subst h <;> rfl
theorem KP.g {C C' : Cd} (k : KP C C') {b : Int} (h : gcell b = true) : C' b = C b := by
  funext i j
  exact k b i j (ccell_g h j)
theorem KP.x {C C' : Cd} (k : KP C C') : (∀ x j, 5 ≤ j → C' 7000 x j = C 7000 x j) ∧ C' 13500 = C 13500 := by
  refine ⟨fun x j h => k 7000 x j ?_, ?_⟩
  · unfold ccell
    simp
    omega
  · funext i j
    exact k 13500 i j rfl
theorem DLs.eq {N N' : Nd} {l : List Int} (h : DLs N l) (h0 : N' 12000 19 = (N 12000 19)) (h1 : ∀ m, 0 ≤ m → m < (N 12000 19) → (N' 13024 m = 0 ↔ N 13024 m = 0)) (h2 : N' 13028 = N 13028) : DLs N' l := by
  obtain ⟨a, b, c⟩ := h
  refine ⟨a.imp fun {x y} z => by unfold lt2 at *; rw [h2]; exact z, fun m hm => ?_, fun m m1 m2 m3 => ?_⟩
  · obtain ⟨x, y, z⟩ := b m hm
    exact ⟨x, by rw [h0]; exact y, (h1 m x y).mpr z⟩
  · rw [h0] at m2
    exact c m m1 m2 ((h1 m m1 m2).mp m3)
theorem DLc.kp {C C' : Cd} {l : List Int} (h : DLc C l) (k : KP C C') : DLc C' l := by
  obtain ⟨a, b, c⟩ := h
  exact ⟨(k 11000 0 11 rfl).trans a, b, fun i hi => (k 20001 0 i rfl).trans (c i hi)⟩
/-- what a call of the rest doesn't touch -/
def SN (N N' : Nd) : Prop := (∀ j, j ≠ 0 → j ≠ 1 → j ≠ 2 → j ≠ 3 → N' 12000 j = N 12000 j) ∧ N' 13028 = N 13028 ∧ N' 13012 = N 13012 ∧ (∀ a, 13035 ≤ a ∧ a < 14000 → N' a = N a)
theorem NE.eq {C C' : Cd} {N N' : Nd} {A A' : Ad} (h : NE C N A) (h0 : ∀ j, j ≠ 0 → j ≠ 1 → j ≠ 2 → j ≠ 3 → N' 12000 j = N 12000 j) (h1 : N' 13044 = N 13044) (h2 : C' 17000 = C 17000) (hA : A'.1 = A.1) : NE C' N' A' := by
  unfold NE
  rw [h0 4 (by decide) (by decide) (by decide) (by decide), h0 11 (by decide) (by decide) (by decide) (by decide), h0 30 (by decide) (by decide) (by decide) (by decide), h0 19 (by decide) (by decide) (by decide) (by decide), h0 41 (by decide) (by decide) (by decide) (by decide), h1, h2, hA]
  exact h
theorem FN.eq {N N' : Nd} (h : FN N) (s : SN N N') (hp : ∀ p, (N 12000 11) ≤ p → p < 9 → N' 13015 p = N 13015 p ∧ ∀ r, 0 ≤ r → r < 3 → N' 13016 (3 * p + r) = N 13016 (3 * p + r)) (hx : ∀ x, (N 12000 30) ≤ x → x < 4 → N' 13032 x = N 13032 x ∧ N' 14034 x = N 14034 x) (hb : ∀ x, 0 ≤ x → x < 4 → ((N 12000 30) ≤ x ∨ N' 13033 x < 0) → N' 14034 x = 0 ∧ N' 13035 x = 0) : FN N' := by
  obtain ⟨s0, s1, s2, s3⟩ := s
  obtain ⟨a, b, c, d, -⟩ := h
  have e11 := s0 11 (by decide) (by decide) (by decide) (by decide)
  have e30 := s0 30 (by decide) (by decide) (by decide) (by decide)
  have e19 := s0 19 (by decide) (by decide) (by decide) (by decide)
  have e41 := s0 41 (by decide) (by decide) (by decide) (by decide)
  refine ⟨fun p p1 p2 => ?_, fun x x1 x2 => ?_, ?_, ?_, by rw [e30]; exact hb⟩
  · rw [e11] at p1
    have x := hp p p1 p2
    have y := a p p1 p2
    exact ⟨x.1.trans y.1, fun r r1 r2 => (x.2 r r1 r2).trans (y.2 r r1 r2)⟩
  · rw [e30] at x1
    have x3 := hx x x1 x2
    have y := b x x1 x2
    refine ⟨x3.1.trans y.1, x3.2.trans y.2.1, ?_⟩
    rw [s3 13035 (by decide)]
    exact y.2.2
  · rw [e19, s1]; exact c
  · rw [e41, s3 13043 (by decide), s3 13044 (by decide), s3 13045 (by decide), s3 13046 (by decide), s3 13047 (by decide), s3 13051 (by decide), s3 13057 (by decide), s3 13058 (by decide), s3 13059 (by decide), s3 13062 (by decide), s3 13064 (by decide)]
    exact d
/-- a call that writes cells that CC tells of, of partitions, messages and producers alone -/
theorem JJ.kp {n n' : Int} {C C' : Cd} {N N' : Nd} {A A' : Ad} (j : JJ n C N A) (jn : JN N') (c : CC C' N') (k : KP C C') (mo : Mo N N') (s : SN N N') (hA : A'.1 = A.1) (hst : ∀ m, 0 ≤ m → m < (N 12000 19) → (N' 13024 m = 0 ↔ N 13024 m = 0)) (hw : (N 12000 1) ≤ (N' 12000 1)) (hn : n ≤ n') (hb : (N' 12000 1) ≤ 30 * n') (hx : N' 13033 = N 13033) (hp : ∀ p, (N 12000 11) ≤ p → p < 9 → N' 13015 p = N 13015 p ∧ ∀ r, 0 ≤ r → r < 3 → N' 13016 (3 * p + r) = N 13016 (3 * p + r)) (hx2 : ∀ x, (N 12000 30) ≤ x → x < 4 → N' 13032 x = N 13032 x ∧ N' 14034 x = N 14034 x) (hxb : ∀ x, 0 ≤ x → x < (N 12000 30) → N 13033 x < 0 → N' 14034 x = N 14034 x) : JJ n' C' N' A' := by
  obtain ⟨l, d1, d2⟩ := j.d
  have e := s.1
  have sg : SG C C' N N' := ⟨fun b h => k.g h, fun a h => s.2.2.2 a (by unfold garr at h; have := of_decide_eq_true h; omega)⟩
  have hr : ∀ g p, 0 ≤ g → g < (N 12000 41) → (gR N' g p ↔ gR N g p) := fun g p _ _ => by
    unfold gR
    rw [e 11 (by decide) (by decide) (by decide) (by decide), s.2.2.2 13042 (by decide), s.2.2.1]
  have sx : SX C C' N N' := ⟨k.x.1, k.x.2, s.2.2.2 _ (by decide), s.2.2.2 _ (by decide), s.2.2.2 _ (by decide), s.2.2.2 _ (by decide), s.2.2.2 _ (by decide)⟩
  refine j.step jn c ⟨l, d1.eq (e 19 (by decide) (by decide) (by decide) (by decide)) hst s.2.1, d2.kp k⟩ sg mo hr (by rw [e 4 (by decide) (by decide) (by decide) (by decide)]; exact Int.le_refl _) hw (e 41 (by decide) (by decide) (by decide) (by decide)) (j.px.step jn.g sg sx mo hr (e 41 (by decide) (by decide) (by decide) (by decide)) (e 30 (by decide) (by decide) (by decide) (by decide)) (fun x _ _ h => by rw [hx] at h; exact h)) (j.ne.eq e (s.2.2.2 _ (by decide)) (k.g (by decide)) hA) (j.fn.eq s hp hx2 (fun x x1 x2 h => by
    rw [hx] at h
    have z := (j.fn.2.2.2.2 x x1 x2 h).1
    refine ⟨?_, ?_⟩
    · by_cases y : x < (N 12000 30)
      · exact (hxb x x1 y (by omega)).trans z
      · exact (hx2 x (by omega) x2).2.trans z
    · rw [s.2.2.2 13035 (by decide)]
      exact (j.fn.2.2.2.2 x x1 x2 h).2)) hn ⟨hb, ?_⟩
  rw [e 40 (by decide) (by decide) (by decide) (by decide)]
  have := j.b.2.2.1
  omega
theorem SR.w {n : Int} {C C1 : Cd} {N N1 : Nd} {A : Ad} {e : Option (Int × Mm)} {pm : Mm → Option (Int × Mm)} (v : Int) (h1 : e = some (0, mk (uq C1 15000 0 0 v) N A)) (h2 : pm (mk (uq C1 15000 0 0 v) N A) = some (v, mk (uq C1 15000 0 0 v) N1 A)) (h3 : N1 12000 0 = 0) (j : JJ (n + 1) C1 N1 A) : SR n C N A e pm :=
  ⟨0, _, _, h1, v, _, h2, h3, fun _ => rfl, j.out⟩
theorem q_speed {n : Int} {C : Cd} {N : Nd} {A : Ad} {v : Int} (j : JJ n C N A) : SR n C N A (p_G_speed (mk C N A) 11000 v 15000) (fun M => p_X11_speed M 12000 v) := by
  have b14 : C 11000 0 14 = (N 12000 3) := j.c.b.2.2.2.2.2.2.2.2.1
  unfold p_G_speed p_X10_speed
  by_cases h : 0 ≤ v ∧ v ≤ 9
  · have jz : JN (up N 12000 0 0) := j.jn
    have jn : JN (up (up N 12000 0 0) 12000 3 v) := by
      have g : RG (up (up N 12000 0 0) 12000 3 v) := by
        obtain ⟨⟨a1, a2, a3, a4, a5, a6, a7, a8⟩, g2⟩ := jz.g
        exact ⟨⟨a1, a2, a3, a4, a5, a6, h, a8⟩, g2⟩
      exact ⟨⟨⟨g, jz.1.1.2⟩, jz.1.2⟩, jz.2⟩
    have jj : JJ n C (up N 12000 0 0) A := j.thrown
    refine SR.w (C1 := uq C 11000 0 14 v) (N1 := up (up N 12000 0 0) 12000 3 v) ((N 12000 3)) ?_ ?_ rfl (jj.kp jn (CC.setSpeed (N := up N 12000 0 0) j.c) (KP.rf.uq (by decide)) Mo.rf ⟨fun j h0 h1 h2 h3 => if_neg (fun z => h3 z.2), rfl, rfl, fun a h => by funext k; exact if_neg (fun z => by omega)⟩ rfl (fun m _ _ => Iff.rfl) (Int.le_refl _) (by omega) (by have := j.b.2.1; show (N 12000 1) ≤ _; omega) rfl (fun _ _ _ => ⟨rfl, fun _ _ _ => rfl⟩) (fun _ _ _ => ⟨rfl, rfl⟩) (fun _ _ _ _ => rfl))
    · simp (disch := omega) only [aok, up_s, true_and, false_and, and_true, and_false, if_true, if_false, ↓reduceIte, ↓Option.bind_some, Int.reduceEq, Int.reduceNe, Int.reduceLT, Int.reduceLE, gd_true, gd_false, bind_b, q10, eq_self, reduceCtorEq, not_true_eq_false, not_false_eq_true, ne_eq, cr_11000, cr_15000, cr_16000, cr_20000, cr_20001, cr_21000, cr_22000, cr_25000, cr_1000, cr_2000, cr_3000, cr_3003, cr_3006, cr_4000, cr_5000, cr_6000, cr_7000, cr_8000, cr_9000, cr_10000, cr_13500, cr_17000, cr_17100, cr_17103, cr_17106, cr_19000, cr_20100, cr_21100, cr_23000, cr_24000, cw_11000, cw_15000, cw_16000, cw_20000, cw_20001, cw_21000, cw_22000, cw_25000, cw_1000, cw_2000, cw_3000, cw_3003, cw_3006, cw_4000, cw_5000, cw_6000, cw_7000, cw_8000, cw_9000, cw_10000, cw_13500, cw_17000, cw_17100, cw_17103, cw_17106, cw_19000, cw_20100, cw_21100, cw_23000, cw_24000, lc_13500, lc_15000, lc_16000, lc_17000, lc_17100, lc_17103, lc_17106, lc_19000, lc_20000, lc_20001, lc_20100, lc_21000, lc_21100, lc_22000, lc_23000, lc_24000, lc_25000, gd_t, w_eq, thT, thU, psT, psU, hnT, thr_mk, ↓Option.bind_some, c_within, h, b14]
    · unfold p_X11_speed
      simp (disch := omega) only [aok, up_s, true_and, false_and, and_true, and_false, if_true, if_false, ↓reduceIte, ↓Option.bind_some, Int.reduceEq, Int.reduceNe, Int.reduceLT, Int.reduceLE, gd_true, gd_false, bind_b, q10, eq_self, reduceCtorEq, not_true_eq_false, not_false_eq_true, ne_eq, pt_0, pt_1, pt_2, pt_3, pt_4, pt_5, pt_6, pt_7, pt_8, pt_9, pt_10, pt_11, pt_12, pt_13, pt_14, pt_15, pt_16, pt_17, pt_18, pt_19, pt_20, pt_21, pt_22, pt_23, pt_24, pt_25, pt_26, pt_27, pt_28, pt_29, pt_30, pt_31, pt_32, pt_33, pt_34, pt_35, pt_36, pt_37, pt_38, pt_39, pt_40, pt_41, pt_42, pt_43, pt_44, pt_45, pt_46, pt_47, pt_48, pt_49, pt_50, pt_51, pt_52, pt_53, pt_54, pt_55, pt_56, pt_57, pt_58, pt_59, pt_60, pt_61, pt_62, pt_63, pt_64, pt_65, pt_66, pt_67, pa_13005, pw_13005, pa_13006, pw_13006, pa_13007, pw_13007, pa_14008, pw_14008, pa_13009, pw_13009, pa_13010, pw_13010, pa_13012, pw_13012, pa_13013, pw_13013, pa_13014, pw_13014, pa_13015, pw_13015, pa_13016, pw_13016, pa_13017, pw_13017, pa_13018, pw_13018, pa_13020, pw_13020, pa_13021, pw_13021, pa_13022, pw_13022, pa_13023, pw_13023, pa_13024, pw_13024, pa_13025, pw_13025, pa_13026, pw_13026, pa_13027, pw_13027, pa_13028, pw_13028, pa_13029, pw_13029, pa_13031, pw_13031, pa_13032, pw_13032, pa_13033, pw_13033, pa_14034, pw_14034, pa_13035, pw_13035, pa_13036, pw_13036, pa_13037, pw_13037, pa_13038, pw_13038, pa_13039, pw_13039, pa_13042, pw_13042, pa_13043, pw_13043, pa_13044, pw_13044, pa_13045, pw_13045, pa_13046, pw_13046, pa_13047, pw_13047, pa_13048, pw_13048, pa_13049, pw_13049, pa_13050, pw_13050, pa_13051, pw_13051, pa_13052, pw_13052, pa_13053, pw_13053, pa_13054, pw_13054, pa_13055, pw_13055, pa_13056, pw_13056, pa_13057, pw_13057, pa_13058, pw_13058, pa_13059, pw_13059, pa_13060, pw_13060, pa_13061, pw_13061, pa_13062, pw_13062, pa_13063, pw_13063, pa_13064, pw_13064, pa_13065, pw_13065, pa_13066, pw_13066, pa_13067, pw_13067, ps_0, ps_1, ps_2, ps_3, ps_4, ps_11, ps_19, ps_30, ps_40, ps_41, ln_13005, ln_13006, ln_13007, ln_14008, ln_13009, ln_13010, ln_13012, ln_13013, ln_13014, ln_13015, ln_13016, ln_13017, ln_13018, ln_13020, ln_13021, ln_13022, ln_13023, ln_13024, ln_13025, ln_13026, ln_13027, ln_13028, ln_13029, ln_13031, ln_13032, ln_13033, ln_14034, ln_13035, ln_13036, ln_13037, ln_13038, ln_13039, ln_13042, ln_13043, ln_13044, ln_13045, ln_13046, ln_13047, ln_13048, ln_13049, ln_13050, ln_13051, ln_13052, ln_13053, ln_13054, ln_13055, ln_13056, ln_13057, ln_13058, ln_13059, ln_13060, ln_13061, ln_13062, ln_13063, ln_13064, ln_13065, ln_13066, ln_13067, gd_t, w_eq, m_in, h]
  · refine SR.r j 1 (by omega) ?_ ?_
    · simp (disch := omega) only [aok, up_s, true_and, false_and, and_true, and_false, if_true, if_false, ↓reduceIte, ↓Option.bind_some, Int.reduceEq, Int.reduceNe, Int.reduceLT, Int.reduceLE, gd_true, gd_false, bind_b, q10, eq_self, reduceCtorEq, not_true_eq_false, not_false_eq_true, ne_eq, cr_11000, cr_15000, cr_16000, cr_20000, cr_20001, cr_21000, cr_22000, cr_25000, cr_1000, cr_2000, cr_3000, cr_3003, cr_3006, cr_4000, cr_5000, cr_6000, cr_7000, cr_8000, cr_9000, cr_10000, cr_13500, cr_17000, cr_17100, cr_17103, cr_17106, cr_19000, cr_20100, cr_21100, cr_23000, cr_24000, cw_11000, cw_15000, cw_16000, cw_20000, cw_20001, cw_21000, cw_22000, cw_25000, cw_1000, cw_2000, cw_3000, cw_3003, cw_3006, cw_4000, cw_5000, cw_6000, cw_7000, cw_8000, cw_9000, cw_10000, cw_13500, cw_17000, cw_17100, cw_17103, cw_17106, cw_19000, cw_20100, cw_21100, cw_23000, cw_24000, lc_13500, lc_15000, lc_16000, lc_17000, lc_17100, lc_17103, lc_17106, lc_19000, lc_20000, lc_20001, lc_20100, lc_21000, lc_21100, lc_22000, lc_23000, lc_24000, lc_25000, gd_t, w_eq, thT, thU, psT, psU, hnT, thr_mk, ↓Option.bind_some, c_within, h]
    · unfold p_X11_speed
      simp (disch := omega) only [aok, up_s, true_and, false_and, and_true, and_false, if_true, if_false, ↓reduceIte, ↓Option.bind_some, Int.reduceEq, Int.reduceNe, Int.reduceLT, Int.reduceLE, gd_true, gd_false, bind_b, q10, eq_self, reduceCtorEq, not_true_eq_false, not_false_eq_true, ne_eq, pt_0, pt_1, pt_2, pt_3, pt_4, pt_5, pt_6, pt_7, pt_8, pt_9, pt_10, pt_11, pt_12, pt_13, pt_14, pt_15, pt_16, pt_17, pt_18, pt_19, pt_20, pt_21, pt_22, pt_23, pt_24, pt_25, pt_26, pt_27, pt_28, pt_29, pt_30, pt_31, pt_32, pt_33, pt_34, pt_35, pt_36, pt_37, pt_38, pt_39, pt_40, pt_41, pt_42, pt_43, pt_44, pt_45, pt_46, pt_47, pt_48, pt_49, pt_50, pt_51, pt_52, pt_53, pt_54, pt_55, pt_56, pt_57, pt_58, pt_59, pt_60, pt_61, pt_62, pt_63, pt_64, pt_65, pt_66, pt_67, pa_13005, pw_13005, pa_13006, pw_13006, pa_13007, pw_13007, pa_14008, pw_14008, pa_13009, pw_13009, pa_13010, pw_13010, pa_13012, pw_13012, pa_13013, pw_13013, pa_13014, pw_13014, pa_13015, pw_13015, pa_13016, pw_13016, pa_13017, pw_13017, pa_13018, pw_13018, pa_13020, pw_13020, pa_13021, pw_13021, pa_13022, pw_13022, pa_13023, pw_13023, pa_13024, pw_13024, pa_13025, pw_13025, pa_13026, pw_13026, pa_13027, pw_13027, pa_13028, pw_13028, pa_13029, pw_13029, pa_13031, pw_13031, pa_13032, pw_13032, pa_13033, pw_13033, pa_14034, pw_14034, pa_13035, pw_13035, pa_13036, pw_13036, pa_13037, pw_13037, pa_13038, pw_13038, pa_13039, pw_13039, pa_13042, pw_13042, pa_13043, pw_13043, pa_13044, pw_13044, pa_13045, pw_13045, pa_13046, pw_13046, pa_13047, pw_13047, pa_13048, pw_13048, pa_13049, pw_13049, pa_13050, pw_13050, pa_13051, pw_13051, pa_13052, pw_13052, pa_13053, pw_13053, pa_13054, pw_13054, pa_13055, pw_13055, pa_13056, pw_13056, pa_13057, pw_13057, pa_13058, pw_13058, pa_13059, pw_13059, pa_13060, pw_13060, pa_13061, pw_13061, pa_13062, pw_13062, pa_13063, pw_13063, pa_13064, pw_13064, pa_13065, pw_13065, pa_13066, pw_13066, pa_13067, pw_13067, ps_0, ps_1, ps_2, ps_3, ps_4, ps_11, ps_19, ps_30, ps_40, ps_41, ln_13005, ln_13006, ln_13007, ln_14008, ln_13009, ln_13010, ln_13012, ln_13013, ln_13014, ln_13015, ln_13016, ln_13017, ln_13018, ln_13020, ln_13021, ln_13022, ln_13023, ln_13024, ln_13025, ln_13026, ln_13027, ln_13028, ln_13029, ln_13031, ln_13032, ln_13033, ln_14034, ln_13035, ln_13036, ln_13037, ln_13038, ln_13039, ln_13042, ln_13043, ln_13044, ln_13045, ln_13046, ln_13047, ln_13048, ln_13049, ln_13050, ln_13051, ln_13052, ln_13053, ln_13054, ln_13055, ln_13056, ln_13057, ln_13058, ln_13059, ln_13060, ln_13061, ln_13062, ln_13063, ln_13064, ln_13065, ln_13066, ln_13067, gd_t, w_eq, m_in, h, m_refuse]
