/-! PURE PART, 92: read: the log is looked through -/
section LOOK2
variable {N0 : Nd} {g j p n : Int}
theorem nob_n {N : Nd} {v o : Int} (jn : JN N) (p1 : 0 ≤ p) (p2 : p < (N 12000 11)) (h : nob N p v o) (o1 : 0 ≤ o) (o2 : o < 60) (nr : ¬ rdA N p o (so N p)) : nob N p v (o + 1) := fun b b1 b2 hc hp h1 h2 => by
  by_cases e : N 13026 b = o
  · have y := (jn.sl b b1 b2).1 (Or.inl hc.1)
    rw [hp, e] at y
    have lb : N 13018 (60 * p + o) = b := by omega
    exact nr ((rdA_can jn p1 p2 o1 o2 (by omega)).mpr (by rw [lb]; exact hc))
  · exact h b b1 b2 hc hp h1 (by omega)
theorem look (g1 : 0 ≤ g) (j1 : 0 ≤ j) (j2 : j < 12) : ∀ (d : Nat) (C : Cd) (N : Nd) (A : Ad) (o : Int) (F Fm : Nat), JJ n C N A → g < (N 12000 41) → N 13047 (12 * g + j) = 1 → own N g j p → 0 ≤ o → N 13058 (9 * g + p) ≤ o → so N p - o ≤ d → nob N p (N 13058 (9 * g + p)) o → d < F → d + 1 < Fm →
    ∃ C1 N1 A1, LKp g j N N1 ∧ (((JJ n C1 N1 A1 ∧ NLE N1 g p) ∧ lp (b_X0_nextOfLog_14 (so N p) (9000 + (9 * g + p)) (1000 + g) ((N 12000 1))) F (o, mk C N0 A) = some (.inr (mk C1 N0 A1)) ∧ ∀ C'' A'', lp (b_X11_gLooksThrough_21 12000 p g j) Fm (-1, nxo N p o, mk C'' N A'') = some (-1, mk C'' N1 A'')) ∨ ∃ m C' A', FND n C1 N1 A1 g p m C' A' ∧ lp (b_X0_nextOfLog_14 (so N p) (9000 + (9 * g + p)) (1000 + g) ((N 12000 1))) F (o, mk C N0 A) = some (.inl (2000 + (150 * g + m), mk C' N0 A')) ∧ ∀ C'' A'', lp (b_X11_gLooksThrough_21 12000 p g j) Fm (-1, nxo N p o, mk C'' N A'') = some (m, mk C'' (up N1 13058 (9 * g + p) (N1 13026 m + 1)) A'')) := by
  intro d
  have fin : ∀ (C : Cd) (N : Nd) (A : Ad) (o : Int) (F Fm : Nat), JJ n C N A → so N p ≤ o → nob N p (N 13058 (9 * g + p)) o → 0 < F → 0 < Fm → ∃ C1 N1 A1, LKp g j N N1 ∧ (((JJ n C1 N1 A1 ∧ NLE N1 g p) ∧ lp (b_X0_nextOfLog_14 (so N p) (9000 + (9 * g + p)) (1000 + g) ((N 12000 1))) F (o, mk C N0 A) = some (.inr (mk C1 N0 A1)) ∧ ∀ C'' A'', lp (b_X11_gLooksThrough_21 12000 p g j) Fm (-1, nxo N p o, mk C'' N A'') = some (-1, mk C'' N1 A'')) ∨ ∃ m C' A', FND n C1 N1 A1 g p m C' A' ∧ lp (b_X0_nextOfLog_14 (so N p) (9000 + (9 * g + p)) (1000 + g) ((N 12000 1))) F (o, mk C N0 A) = some (.inl (2000 + (150 * g + m), mk C' N0 A')) ∧ ∀ C'' A'', lp (b_X11_gLooksThrough_21 12000 p g j) Fm (-1, nxo N p o, mk C'' N A'') = some (m, mk C'' (up N1 13058 (9 * g + p) (N1 13026 m + 1)) A'')) := fun C N A o F Fm jj z no hF hFm => by
    obtain ⟨F, rfl⟩ : ∃ G, F = G + 1 := ⟨F - 1, by omega⟩
    obtain ⟨Fm, rfl⟩ : ∃ G, Fm = G + 1 := ⟨Fm - 1, by omega⟩
    refine ⟨C, N, A, LKp.rf, Or.inl ⟨⟨jj, fun b b1 b2 b3 b4 b5 => no b b1 b2 b3 b4 b5 (by have := b3.2.1; rw [b4] at this; omega)⟩, lp_end ?_, fun C'' A'' => lp_end ?_⟩⟩
    · have nl : ¬ o < so N p := by omega
      unfold b_X0_nextOfLog_14
      simp (disch := omega) only [aok, up_s, true_and, false_and, and_true, and_false, if_true, if_false, ↓reduceIte, ↓Option.bind_some, Int.reduceEq, Int.reduceNe, Int.reduceLT, Int.reduceLE, gd_true, gd_false, bind_b, q10, eq_self, reduceCtorEq, not_true_eq_false, not_false_eq_true, ne_eq, cr_11000, cr_15000, cr_16000, cr_20000, cr_20001, cr_21000, cr_22000, cr_25000, cr_1000, cr_2000, cr_3000, cr_3003, cr_3006, cr_4000, cr_5000, cr_6000, cr_7000, cr_8000, cr_9000, cr_10000, cr_13500, cr_17000, cr_17100, cr_17103, cr_17106, cr_19000, cr_20100, cr_21100, cr_23000, cr_24000, cw_11000, cw_15000, cw_16000, cw_20000, cw_20001, cw_21000, cw_22000, cw_25000, cw_1000, cw_2000, cw_3000, cw_3003, cw_3006, cw_4000, cw_5000, cw_6000, cw_7000, cw_8000, cw_9000, cw_10000, cw_13500, cw_17000, cw_17100, cw_17103, cw_17106, cw_19000, cw_20100, cw_21100, cw_23000, cw_24000, lc_13500, lc_15000, lc_16000, lc_17000, lc_17100, lc_17103, lc_17106, lc_19000, lc_20000, lc_20001, lc_20100, lc_21000, lc_21100, lc_22000, lc_23000, lc_24000, lc_25000, gd_t, w_eq, nl]
    · rw [nxo_e z]
      unfold b_X11_gLooksThrough_21
      simp (disch := omega) only [aok, up_s, true_and, false_and, and_true, and_false, if_true, if_false, ↓reduceIte, ↓Option.bind_some, Int.reduceEq, Int.reduceNe, Int.reduceLT, Int.reduceLE, gd_true, gd_false, bind_b, q10, eq_self, reduceCtorEq, not_true_eq_false, not_false_eq_true, ne_eq, pt_0, pt_1, pt_2, pt_3, pt_4, pt_5, pt_6, pt_7, pt_8, pt_9, pt_10, pt_11, pt_12, pt_13, pt_14, pt_15, pt_16, pt_17, pt_18, pt_19, pt_20, pt_21, pt_22, pt_23, pt_24, pt_25, pt_26, pt_27, pt_28, pt_29, pt_30, pt_31, pt_32, pt_33, pt_34, pt_35, pt_36, pt_37, pt_38, pt_39, pt_40, pt_41, pt_42, pt_43, pt_44, pt_45, pt_46, pt_47, pt_48, pt_49, pt_50, pt_51, pt_52, pt_53, pt_54, pt_55, pt_56, pt_57, pt_58, pt_59, pt_60, pt_61, pt_62, pt_63, pt_64, pt_65, pt_66, pt_67, pa_13005, pw_13005, pa_13006, pw_13006, pa_13007, pw_13007, pa_14008, pw_14008, pa_13009, pw_13009, pa_13010, pw_13010, pa_13012, pw_13012, pa_13013, pw_13013, pa_13014, pw_13014, pa_13015, pw_13015, pa_13016, pw_13016, pa_13017, pw_13017, pa_13018, pw_13018, pa_13020, pw_13020, pa_13021, pw_13021, pa_13022, pw_13022, pa_13023, pw_13023, pa_13024, pw_13024, pa_13025, pw_13025, pa_13026, pw_13026, pa_13027, pw_13027, pa_13028, pw_13028, pa_13029, pw_13029, pa_13031, pw_13031, pa_13032, pw_13032, pa_13033, pw_13033, pa_14034, pw_14034, pa_13035, pw_13035, pa_13036, pw_13036, pa_13037, pw_13037, pa_13038, pw_13038, pa_13039, pw_13039, pa_13042, pw_13042, pa_13043, pw_13043, pa_13044, pw_13044, pa_13045, pw_13045, pa_13046, pw_13046, pa_13047, pw_13047, pa_13048, pw_13048, pa_13049, pw_13049, pa_13050, pw_13050, pa_13051, pw_13051, pa_13052, pw_13052, pa_13053, pw_13053, pa_13054, pw_13054, pa_13055, pw_13055, pa_13056, pw_13056, pa_13057, pw_13057, pa_13058, pw_13058, pa_13059, pw_13059, pa_13060, pw_13060, pa_13061, pw_13061, pa_13062, pw_13062, pa_13063, pw_13063, pa_13064, pw_13064, pa_13065, pw_13065, pa_13066, pw_13066, pa_13067, pw_13067, ps_0, ps_1, ps_2, ps_3, ps_4, ps_11, ps_19, ps_30, ps_40, ps_41, ln_13005, ln_13006, ln_13007, ln_14008, ln_13009, ln_13010, ln_13012, ln_13013, ln_13014, ln_13015, ln_13016, ln_13017, ln_13018, ln_13020, ln_13021, ln_13022, ln_13023, ln_13024, ln_13025, ln_13026, ln_13027, ln_13028, ln_13029, ln_13031, ln_13032, ln_13033, ln_14034, ln_13035, ln_13036, ln_13037, ln_13038, ln_13039, ln_13042, ln_13043, ln_13044, ln_13045, ln_13046, ln_13047, ln_13048, ln_13049, ln_13050, ln_13051, ln_13052, ln_13053, ln_13054, ln_13055, ln_13056, ln_13057, ln_13058, ln_13059, ln_13060, ln_13061, ln_13062, ln_13063, ln_13064, ln_13065, ln_13066, ln_13067, gd_t, w_eq]
  induction d with
  | zero =>
    intro C N A o F Fm jj g2 hi hw o1 hb hd no hF hFm
    exact fin C N A o F Fm jj (by omega) no (by omega) (by omega)
  | succ d ih =>
    intro C N A o F Fm jj g2 hi hw o1 hb hd no hF hFm
    by_cases z : so N p ≤ o
    · exact fin C N A o F Fm jj z no (by omega) (by omega)
    · have G := jj.jn.g
      have p1 := hw.1.1
      have p2 := hw.1.2.1
      have sb := so_b G.e p1 p2
      have hbb := hw_b G.e p1 p2
      obtain ⟨F, rfl⟩ : ∃ G, F = G + 1 := ⟨F - 1, by omega⟩
      by_cases rd : rdA N p o (so N p)
      · obtain ⟨Fm, rfl⟩ : ∃ G, Fm = G + 1 := ⟨Fm - 1, by omega⟩
        rw [nxo_y rd]
        rcases look1 (N0 := N0) jj g1 g2 j1 j2 hi hw hb rd no with ⟨C1, N1, A1, k1, k2, k3, k4, k5⟩ | ⟨C', A', k0, k1, k2, k3⟩
        · have sc : N1 12000 = N 12000 := k2.1.n0 (by decide)
          obtain ⟨C2, N2, A2, y1, y2⟩ := ih C1 N1 A1 (o + 1) F Fm k1 (by rw [sc]; exact g2) (by rw [k2.2.1 _ (by decide) (by decide) (by decide) (by decide)]; exact hi) ⟨(k2.1.gr g p).mpr hw.1, by rw [k2.2.1 _ (by decide) (by decide) (by decide) (by decide)]; exact hw.2⟩ (by omega) (by omega) (by rw [k2.1.so]; omega) (fun b _ _ _ _ h1 h2 => by rw [k3] at h1; omega) (by omega) (by omega)
          rw [k2.1.so, sc] at y2
          refine ⟨C2, N2, A2, LKp.tr G.s.2.2.2.2.1.2 k2 y1, ?_⟩
          rcases y2 with ⟨z1, z2, z3⟩ | ⟨m, C', A', z1, z2, z3⟩
          · exact Or.inl ⟨z1, (lp_next k4).trans z2, fun C'' A'' => (lp_next (k5 C'' A'')).trans (z3 C'' A'')⟩
          · exact Or.inr ⟨m, C', A', z1, (lp_next k4).trans z2, fun C'' A'' => (lp_next (k5 C'' A'')).trans (z3 C'' A'')⟩
        · refine ⟨C, N, A, LKp.rf, Or.inr ⟨_, C', A', k1, lp_end k2, fun C'' A'' => ?_⟩⟩
          obtain ⟨Fm, rfl⟩ : ∃ G, Fm = G + 1 := ⟨Fm - 1, by omega⟩
          obtain ⟨x, hx⟩ := k3 C'' A''
          have m1 := k1.2.1.1
          rw [k0]
          refine (lp_next hx).trans (lp_end ?_)
          unfold b_X11_gLooksThrough_21
          simp (disch := omega) only [aok, up_s, true_and, false_and, and_true, and_false, if_true, if_false, ↓reduceIte, ↓Option.bind_some, Int.reduceEq, Int.reduceNe, Int.reduceLT, Int.reduceLE, gd_true, gd_false, bind_b, q10, eq_self, reduceCtorEq, not_true_eq_false, not_false_eq_true, ne_eq, pt_0, pt_1, pt_2, pt_3, pt_4, pt_5, pt_6, pt_7, pt_8, pt_9, pt_10, pt_11, pt_12, pt_13, pt_14, pt_15, pt_16, pt_17, pt_18, pt_19, pt_20, pt_21, pt_22, pt_23, pt_24, pt_25, pt_26, pt_27, pt_28, pt_29, pt_30, pt_31, pt_32, pt_33, pt_34, pt_35, pt_36, pt_37, pt_38, pt_39, pt_40, pt_41, pt_42, pt_43, pt_44, pt_45, pt_46, pt_47, pt_48, pt_49, pt_50, pt_51, pt_52, pt_53, pt_54, pt_55, pt_56, pt_57, pt_58, pt_59, pt_60, pt_61, pt_62, pt_63, pt_64, pt_65, pt_66, pt_67, pa_13005, pw_13005, pa_13006, pw_13006, pa_13007, pw_13007, pa_14008, pw_14008, pa_13009, pw_13009, pa_13010, pw_13010, pa_13012, pw_13012, pa_13013, pw_13013, pa_13014, pw_13014, pa_13015, pw_13015, pa_13016, pw_13016, pa_13017, pw_13017, pa_13018, pw_13018, pa_13020, pw_13020, pa_13021, pw_13021, pa_13022, pw_13022, pa_13023, pw_13023, pa_13024, pw_13024, pa_13025, pw_13025, pa_13026, pw_13026, pa_13027, pw_13027, pa_13028, pw_13028, pa_13029, pw_13029, pa_13031, pw_13031, pa_13032, pw_13032, pa_13033, pw_13033, pa_14034, pw_14034, pa_13035, pw_13035, pa_13036, pw_13036, pa_13037, pw_13037, pa_13038, pw_13038, pa_13039, pw_13039, pa_13042, pw_13042, pa_13043, pw_13043, pa_13044, pw_13044, pa_13045, pw_13045, pa_13046, pw_13046, pa_13047, pw_13047, pa_13048, pw_13048, pa_13049, pw_13049, pa_13050, pw_13050, pa_13051, pw_13051, pa_13052, pw_13052, pa_13053, pw_13053, pa_13054, pw_13054, pa_13055, pw_13055, pa_13056, pw_13056, pa_13057, pw_13057, pa_13058, pw_13058, pa_13059, pw_13059, pa_13060, pw_13060, pa_13061, pw_13061, pa_13062, pw_13062, pa_13063, pw_13063, pa_13064, pw_13064, pa_13065, pw_13065, pa_13066, pw_13066, pa_13067, pw_13067, ps_0, ps_1, ps_2, ps_3, ps_4, ps_11, ps_19, ps_30, ps_40, ps_41, ln_13005, ln_13006, ln_13007, ln_14008, ln_13009, ln_13010, ln_13012, ln_13013, ln_13014, ln_13015, ln_13016, ln_13017, ln_13018, ln_13020, ln_13021, ln_13022, ln_13023, ln_13024, ln_13025, ln_13026, ln_13027, ln_13028, ln_13029, ln_13031, ln_13032, ln_13033, ln_14034, ln_13035, ln_13036, ln_13037, ln_13038, ln_13039, ln_13042, ln_13043, ln_13044, ln_13045, ln_13046, ln_13047, ln_13048, ln_13049, ln_13050, ln_13051, ln_13052, ln_13053, ln_13054, ln_13055, ln_13056, ln_13057, ln_13058, ln_13059, ln_13060, ln_13061, ln_13062, ln_13063, ln_13064, ln_13065, ln_13066, ln_13067, gd_t, w_eq, if_neg]
      · obtain ⟨C2, N2, A2, y1, y2⟩ := ih C N A (o + 1) F Fm jj g2 hi hw (by omega) (by omega) (by omega) (nob_n jj.jn p1 p2 no o1 (by omega) rd) (by omega) (by omega)
        rw [nxo_n rd]
        have bd : b_X0_nextOfLog_14 (so N p) (9000 + (9 * g + p)) (1000 + g) ((N 12000 1)) (o, mk C N0 A) = some (.inl (o + 1, mk C N0 A)) := by
          have hre := c_readableAt (N0 := N0) (A := A) (k := o) (st := so N p) G jj.c p1 p2
          rw [if_neg rd] at hre
          have s4 := G.s.2.2.2.1
          have s2 := G.s.2.1
          have t0 := (((jj.gr g1 g2).1.sh p p1 (by omega)).2 hw.1).1
          have lt : o < so N p := by omega
          unfold b_X0_nextOfLog_14
          simp (disch := omega) only [aok, up_s, true_and, false_and, and_true, and_false, if_true, if_false, ↓reduceIte, ↓Option.bind_some, Int.reduceEq, Int.reduceNe, Int.reduceLT, Int.reduceLE, gd_true, gd_false, bind_b, q10, eq_self, reduceCtorEq, not_true_eq_false, not_false_eq_true, ne_eq, cr_11000, cr_15000, cr_16000, cr_20000, cr_20001, cr_21000, cr_22000, cr_25000, cr_1000, cr_2000, cr_3000, cr_3003, cr_3006, cr_4000, cr_5000, cr_6000, cr_7000, cr_8000, cr_9000, cr_10000, cr_13500, cr_17000, cr_17100, cr_17103, cr_17106, cr_19000, cr_20100, cr_21100, cr_23000, cr_24000, cw_11000, cw_15000, cw_16000, cw_20000, cw_20001, cw_21000, cw_22000, cw_25000, cw_1000, cw_2000, cw_3000, cw_3003, cw_3006, cw_4000, cw_5000, cw_6000, cw_7000, cw_8000, cw_9000, cw_10000, cw_13500, cw_17000, cw_17100, cw_17103, cw_17106, cw_19000, cw_20100, cw_21100, cw_23000, cw_24000, lc_13500, lc_15000, lc_16000, lc_17000, lc_17100, lc_17103, lc_17106, lc_19000, lc_20000, lc_20001, lc_20100, lc_21000, lc_21100, lc_22000, lc_23000, lc_24000, lc_25000, gd_t, w_eq, lt, t0, hre]
        refine ⟨C2, N2, A2, y1, ?_⟩
        rcases y2 with ⟨z1, z2, z3⟩ | ⟨m, C', A', z1, z2, z3⟩
        · exact Or.inl ⟨z1, (lp_next bd).trans z2, z3⟩
        · exact Or.inr ⟨m, C', A', z1, (lp_next bd).trans z2, z3⟩
theorem lookA {C : Cd} {N : Nd} {A : Ad} (jj : JJ n C N A) (g1 : 0 ≤ g) (g2 : g < (N 12000 41)) (j1 : 0 ≤ j) (j2 : j < 12) (hi : N 13047 (12 * g + j) = 1) (hw : own N g j p) :
    ∃ C1 N1 A1, LKp g j N N1 ∧ (((JJ n C1 N1 A1 ∧ NLE N1 g p) ∧ p_X0_nextOfLog (mk C N0 A) (1000 + g) (9000 + (9 * g + p)) ((N 12000 1)) = some (0, mk C1 N0 A1) ∧ ∀ C'' A'', p_X11_gLooksThrough (mk C'' N A'') 12000 g j p = some (-1, mk C'' N1 A'')) ∨ ∃ m C' A', FND n C1 N1 A1 g p m C' A' ∧ p_X0_nextOfLog (mk C N0 A) (1000 + g) (9000 + (9 * g + p)) ((N 12000 1)) = some (2000 + (150 * g + m), mk C' N0 A') ∧ ∀ C'' A'', p_X11_gLooksThrough (mk C'' N A'') 12000 g j p = some (m, mk C'' (up N1 13058 (9 * g + p) (N1 13026 m + 1)) A'')) := by
  have G := jj.jn.g
  have s4 := G.s.2.2.2.1
  have s2 := G.s.2.1
  have p1 := hw.1.1
  have p2 := hw.1.2.1
  have sb := so_b G.e p1 p2
  have hbb := hw_b G.e p1 p2
  have ga := (jj.gr g1 g2).1
  have np := (ga.np p p1 (by omega)).2.2
  obtain ⟨t0, -, -, -, t4⟩ := (ga.sh p p1 (by omega)).2 hw.1
  have cs := c_stableOffset (N0 := N0) (A := A) G jj.c p1 p2 (fun k => jj.jn.fi.nf p k p1 p2)
  have gn := fun C'' A'' => @m_gNextOffset N p (N 13058 (9 * g + p)) C'' A'' jj.jn p1 p2 np.1 np.2
  obtain ⟨C1, N1, A1, y1, y2⟩ := look (N0 := N0) (p := p) g1 j1 j2 60 C N A (N 13058 (9 * g + p)) 1000 1000 jj g2 hi hw np.1 (Int.le_refl _) (by omega) (fun b _ _ _ _ h1 h2 => by omega) (by omega) (by omega)
  refine ⟨C1, N1, A1, y1, ?_⟩
  unfold p_X0_nextOfLog p_X11_gLooksThrough
  rcases y2 with ⟨z1, z2, z3⟩ | ⟨m, C', A', z1, z2, z3⟩
  · refine Or.inl ⟨z1, ?_, fun C'' A'' => ?_⟩
    · simp (disch := omega) only [aok, up_s, true_and, false_and, and_true, and_false, if_true, if_false, ↓reduceIte, ↓Option.bind_some, Int.reduceEq, Int.reduceNe, Int.reduceLT, Int.reduceLE, gd_true, gd_false, bind_b, q10, eq_self, reduceCtorEq, not_true_eq_false, not_false_eq_true, ne_eq, cr_11000, cr_15000, cr_16000, cr_20000, cr_20001, cr_21000, cr_22000, cr_25000, cr_1000, cr_2000, cr_3000, cr_3003, cr_3006, cr_4000, cr_5000, cr_6000, cr_7000, cr_8000, cr_9000, cr_10000, cr_13500, cr_17000, cr_17100, cr_17103, cr_17106, cr_19000, cr_20100, cr_21100, cr_23000, cr_24000, cw_11000, cw_15000, cw_16000, cw_20000, cw_20001, cw_21000, cw_22000, cw_25000, cw_1000, cw_2000, cw_3000, cw_3003, cw_3006, cw_4000, cw_5000, cw_6000, cw_7000, cw_8000, cw_9000, cw_10000, cw_13500, cw_17000, cw_17100, cw_17103, cw_17106, cw_19000, cw_20100, cw_21100, cw_23000, cw_24000, lc_13500, lc_15000, lc_16000, lc_17000, lc_17100, lc_17103, lc_17106, lc_19000, lc_20000, lc_20001, lc_20100, lc_21000, lc_21100, lc_22000, lc_23000, lc_24000, lc_25000, gd_t, w_eq, Sum.elim_inl, Sum.elim_inr, t0, t4, cs, z2]
    · simp (disch := omega) only [aok, up_s, true_and, false_and, and_true, and_false, if_true, if_false, ↓reduceIte, ↓Option.bind_some, Int.reduceEq, Int.reduceNe, Int.reduceLT, Int.reduceLE, gd_true, gd_false, bind_b, q10, eq_self, reduceCtorEq, not_true_eq_false, not_false_eq_true, ne_eq, pt_0, pt_1, pt_2, pt_3, pt_4, pt_5, pt_6, pt_7, pt_8, pt_9, pt_10, pt_11, pt_12, pt_13, pt_14, pt_15, pt_16, pt_17, pt_18, pt_19, pt_20, pt_21, pt_22, pt_23, pt_24, pt_25, pt_26, pt_27, pt_28, pt_29, pt_30, pt_31, pt_32, pt_33, pt_34, pt_35, pt_36, pt_37, pt_38, pt_39, pt_40, pt_41, pt_42, pt_43, pt_44, pt_45, pt_46, pt_47, pt_48, pt_49, pt_50, pt_51, pt_52, pt_53, pt_54, pt_55, pt_56, pt_57, pt_58, pt_59, pt_60, pt_61, pt_62, pt_63, pt_64, pt_65, pt_66, pt_67, pa_13005, pw_13005, pa_13006, pw_13006, pa_13007, pw_13007, pa_14008, pw_14008, pa_13009, pw_13009, pa_13010, pw_13010, pa_13012, pw_13012, pa_13013, pw_13013, pa_13014, pw_13014, pa_13015, pw_13015, pa_13016, pw_13016, pa_13017, pw_13017, pa_13018, pw_13018, pa_13020, pw_13020, pa_13021, pw_13021, pa_13022, pw_13022, pa_13023, pw_13023, pa_13024, pw_13024, pa_13025, pw_13025, pa_13026, pw_13026, pa_13027, pw_13027, pa_13028, pw_13028, pa_13029, pw_13029, pa_13031, pw_13031, pa_13032, pw_13032, pa_13033, pw_13033, pa_14034, pw_14034, pa_13035, pw_13035, pa_13036, pw_13036, pa_13037, pw_13037, pa_13038, pw_13038, pa_13039, pw_13039, pa_13042, pw_13042, pa_13043, pw_13043, pa_13044, pw_13044, pa_13045, pw_13045, pa_13046, pw_13046, pa_13047, pw_13047, pa_13048, pw_13048, pa_13049, pw_13049, pa_13050, pw_13050, pa_13051, pw_13051, pa_13052, pw_13052, pa_13053, pw_13053, pa_13054, pw_13054, pa_13055, pw_13055, pa_13056, pw_13056, pa_13057, pw_13057, pa_13058, pw_13058, pa_13059, pw_13059, pa_13060, pw_13060, pa_13061, pw_13061, pa_13062, pw_13062, pa_13063, pw_13063, pa_13064, pw_13064, pa_13065, pw_13065, pa_13066, pw_13066, pa_13067, pw_13067, ps_0, ps_1, ps_2, ps_3, ps_4, ps_11, ps_19, ps_30, ps_40, ps_41, ln_13005, ln_13006, ln_13007, ln_14008, ln_13009, ln_13010, ln_13012, ln_13013, ln_13014, ln_13015, ln_13016, ln_13017, ln_13018, ln_13020, ln_13021, ln_13022, ln_13023, ln_13024, ln_13025, ln_13026, ln_13027, ln_13028, ln_13029, ln_13031, ln_13032, ln_13033, ln_14034, ln_13035, ln_13036, ln_13037, ln_13038, ln_13039, ln_13042, ln_13043, ln_13044, ln_13045, ln_13046, ln_13047, ln_13048, ln_13049, ln_13050, ln_13051, ln_13052, ln_13053, ln_13054, ln_13055, ln_13056, ln_13057, ln_13058, ln_13059, ln_13060, ln_13061, ln_13062, ln_13063, ln_13064, ln_13065, ln_13066, ln_13067, gd_t, w_eq, gn, z3]
  · refine Or.inr ⟨m, C', A', z1, ?_, fun C'' A'' => ?_⟩
    · simp (disch := omega) only [aok, up_s, true_and, false_and, and_true, and_false, if_true, if_false, ↓reduceIte, ↓Option.bind_some, Int.reduceEq, Int.reduceNe, Int.reduceLT, Int.reduceLE, gd_true, gd_false, bind_b, q10, eq_self, reduceCtorEq, not_true_eq_false, not_false_eq_true, ne_eq, cr_11000, cr_15000, cr_16000, cr_20000, cr_20001, cr_21000, cr_22000, cr_25000, cr_1000, cr_2000, cr_3000, cr_3003, cr_3006, cr_4000, cr_5000, cr_6000, cr_7000, cr_8000, cr_9000, cr_10000, cr_13500, cr_17000, cr_17100, cr_17103, cr_17106, cr_19000, cr_20100, cr_21100, cr_23000, cr_24000, cw_11000, cw_15000, cw_16000, cw_20000, cw_20001, cw_21000, cw_22000, cw_25000, cw_1000, cw_2000, cw_3000, cw_3003, cw_3006, cw_4000, cw_5000, cw_6000, cw_7000, cw_8000, cw_9000, cw_10000, cw_13500, cw_17000, cw_17100, cw_17103, cw_17106, cw_19000, cw_20100, cw_21100, cw_23000, cw_24000, lc_13500, lc_15000, lc_16000, lc_17000, lc_17100, lc_17103, lc_17106, lc_19000, lc_20000, lc_20001, lc_20100, lc_21000, lc_21100, lc_22000, lc_23000, lc_24000, lc_25000, gd_t, w_eq, Sum.elim_inl, Sum.elim_inr, t0, t4, cs, z2]
    · simp (disch := omega) only [aok, up_s, true_and, false_and, and_true, and_false, if_true, if_false, ↓reduceIte, ↓Option.bind_some, Int.reduceEq, Int.reduceNe, Int.reduceLT, Int.reduceLE, gd_true, gd_false, bind_b, q10, eq_self, reduceCtorEq, not_true_eq_false, not_false_eq_true, ne_eq, pt_0, pt_1, pt_2, pt_3, pt_4, pt_5, pt_6, pt_7, pt_8, pt_9, pt_10, pt_11, pt_12, pt_13, pt_14, pt_15, pt_16, pt_17, pt_18, pt_19, pt_20, pt_21, pt_22, pt_23, pt_24, pt_25, pt_26, pt_27, pt_28, pt_29, pt_30, pt_31, pt_32, pt_33, pt_34, pt_35, pt_36, pt_37, pt_38, pt_39, pt_40, pt_41, pt_42, pt_43, pt_44, pt_45, pt_46, pt_47, pt_48, pt_49, pt_50, pt_51, pt_52, pt_53, pt_54, pt_55, pt_56, pt_57, pt_58, pt_59, pt_60, pt_61, pt_62, pt_63, pt_64, pt_65, pt_66, pt_67, pa_13005, pw_13005, pa_13006, pw_13006, pa_13007, pw_13007, pa_14008, pw_14008, pa_13009, pw_13009, pa_13010, pw_13010, pa_13012, pw_13012, pa_13013, pw_13013, pa_13014, pw_13014, pa_13015, pw_13015, pa_13016, pw_13016, pa_13017, pw_13017, pa_13018, pw_13018, pa_13020, pw_13020, pa_13021, pw_13021, pa_13022, pw_13022, pa_13023, pw_13023, pa_13024, pw_13024, pa_13025, pw_13025, pa_13026, pw_13026, pa_13027, pw_13027, pa_13028, pw_13028, pa_13029, pw_13029, pa_13031, pw_13031, pa_13032, pw_13032, pa_13033, pw_13033, pa_14034, pw_14034, pa_13035, pw_13035, pa_13036, pw_13036, pa_13037, pw_13037, pa_13038, pw_13038, pa_13039, pw_13039, pa_13042, pw_13042, pa_13043, pw_13043, pa_13044, pw_13044, pa_13045, pw_13045, pa_13046, pw_13046, pa_13047, pw_13047, pa_13048, pw_13048, pa_13049, pw_13049, pa_13050, pw_13050, pa_13051, pw_13051, pa_13052, pw_13052, pa_13053, pw_13053, pa_13054, pw_13054, pa_13055, pw_13055, pa_13056, pw_13056, pa_13057, pw_13057, pa_13058, pw_13058, pa_13059, pw_13059, pa_13060, pw_13060, pa_13061, pw_13061, pa_13062, pw_13062, pa_13063, pw_13063, pa_13064, pw_13064, pa_13065, pw_13065, pa_13066, pw_13066, pa_13067, pw_13067, ps_0, ps_1, ps_2, ps_3, ps_4, ps_11, ps_19, ps_30, ps_40, ps_41, ln_13005, ln_13006, ln_13007, ln_14008, ln_13009, ln_13010, ln_13012, ln_13013, ln_13014, ln_13015, ln_13016, ln_13017, ln_13018, ln_13020, ln_13021, ln_13022, ln_13023, ln_13024, ln_13025, ln_13026, ln_13027, ln_13028, ln_13029, ln_13031, ln_13032, ln_13033, ln_14034, ln_13035, ln_13036, ln_13037, ln_13038, ln_13039, ln_13042, ln_13043, ln_13044, ln_13045, ln_13046, ln_13047, ln_13048, ln_13049, ln_13050, ln_13051, ln_13052, ln_13053, ln_13054, ln_13055, ln_13056, ln_13057, ln_13058, ln_13059, ln_13060, ln_13061, ln_13062, ln_13063, ln_13064, ln_13065, ln_13066, ln_13067, gd_t, w_eq, gn, z3]
/-- what is found comes into the hand -/
theorem FND.dlv {C C' : Cd} {N : Nd} {A A' : Ad} {m : Int} (h : FND n C N A g p m C' A') (g1 : 0 ≤ g) (g2 : g < (N 12000 41)) (j1 : 0 ≤ j) (j2 : j < 12) (hi : N 13047 (12 * g + j) = 1) (hw : own N g j p) (hc : hn N g j < N 13049 (12 * g + j)) (hn9 : n < 10000000) :
    p_X0_deliver (mk (uq C' 4000 (12 * g + j) 4 p) N0 A') (1000 + g) (4000 + (12 * g + j)) (2000 + (150 * g + m)) 0 = some (2000 + (150 * g + m), mk (dlC (uq C' 4000 (12 * g + j) 4 p) g j m 0 (hn N g j)) N0 A') ∧
    (∀ C'' A'', p_X11_gDelivers (mk C'' (up (up N 13058 (9 * g + p) (N 13026 m + 1)) 13050 (12 * g + j) p) A'') 12000 g j m 0 0 = some (mk C'' (dlN (up (up N 13058 (9 * g + p) (N 13026 m + 1)) 13050 (12 * g + j) p) g j m 0 0) A'')) ∧
    dlC (uq C' 4000 (12 * g + j) 4 p) g j m 0 (hn N g j) 2000 (150 * g + m) 0 = 5000 + m ∧ dlC (uq C' 4000 (12 * g + j) 4 p) g j m 0 (hn N g j) 5000 m 0 = m ∧
    JJ (n + 1) (dlC (uq C' 4000 (12 * g + j) 4 p) g j m 0 (hn N g j)) (dlN (up (up N 13058 (9 * g + p) (N 13026 m + 1)) 13050 (12 * g + j) p) g j m 0 0) A' := by
  obtain ⟨jj, ⟨m1, m2, rc, mp⟩, ⟨o1, o2, hl, hb⟩, no, ⟨nw, row⟩, ⟨ga', ne', kc'⟩, ⟨fd', b1', so'⟩, ⟨un', w0', t0'⟩, wm'⟩ := h
  have G := jj.jn.g
  have s2 := G.s.2.1
  have s4 := G.s.2.2.2.1
  have s5 := G.s.2.2.2.2.1
  have g3 : g < 3 := by omega
  have m150 : m < 150 := by omega
  have p1 := hw.1.1
  have p2 := hw.1.2.1
  have gr := jj.gr g1 g2
  have h9 := gr.1.h9 j1 j2 hi
  have nmj := (gr.1.nm j j1 j2).2.2 hi
  have c9 : 0 ≤ C 1000 g 9 ∧ C 1000 g 9 ≤ n := ⟨by have := (gr.2.2.2.2.2.2 m m1 m150).2.1; have := (gr.2.2.2.2.2.2 m m1 m150).2.2.1; omega, jj.b.2.2.2 g g1 g2⟩
  have hz : N 13051 (12 * g + j) = hn N g j := rfl
  have kn : MG g N (up N 13058 (9 * g + p) (N 13026 m + 1)) := MG.rf.up (by unfold inN; omega)
  have kn1 : MG g N (up (up N 13058 (9 * g + p) (N 13026 m + 1)) 13050 (12 * g + j) p) := kn.up (by unfold inN; omega)
  have k1 : KG g C (uq C' 4000 (12 * g + j) 4 p) := kc'.uq (by unfold inG; omega)
  have a1 := ga'.lat (p := p) g1 j1 j2 (by omega)
  have un1 : uq C' 4000 (12 * g + j) 4 p 17000 g m ≠ 0 := by rw [uq_s, if_neg (by omega)]; exact un'
  have w1 : uq C' 4000 (12 * g + j) 4 p 2000 (150 * g + m) 1 = 0 := by rw [uq_s, if_neg (by omega)]; exact w0'
  have t1 : uq C' 4000 (12 * g + j) 4 p 2000 (150 * g + m) 3 = 0 := by rw [uq_s, if_neg (by omega)]; exact t0'
  have c19 : uq C' 4000 (12 * g + j) 4 p 1000 g 9 = C 1000 g 9 := by rw [uq_s, if_neg (by omega), b1']
  have mem := ((a1.me j j1 j2).2 hi).2.1
  have hand := (a1.ha j j1 j2 hi).1
  have f1 : ∀ x, Fdl (uq C' 4000 (12 * g + j) 4 p) g x = Fdl C g x := fun x => by
    rw [← fd' x]
    show uq C' 4000 (12 * g + j) 4 p 2000 (150 * g + x) 6 = _
    rw [uq_s, if_neg (by omega)]
  have a2 := a1.dlv (t := 0) (fr := 0) (n := hn N g j) (m := m) (j := j) (jj.jn.mg kn1).g g1 g3 j1 j2 hi hc m1 m2 un1 w1 (show N 13055 (9 * g + N 13021 m) = j by rw [mp]; exact hw.2) t1 (by omega) (Or.inl rfl) (fun _ => by
    show N 13026 m < (up (up N 13058 (9 * g + p) (N 13026 m + 1)) 13050 (12 * g + j) p) 13058 (9 * g + N 13021 m)
    rw [up_s, if_neg (by omega), up_s, if_pos ⟨rfl, by rw [mp]⟩]
    omega) rfl
  have k2 : KG g C (dlC (uq C' 4000 (12 * g + j) 4 p) g j m 0 (hn N g j)) := k1.tr (KG.dl g1 j1 j2 m1 m150)
  have kn2 : MG g N (dlN (up (up N 13058 (9 * g + p) (N 13026 m + 1)) 13050 (12 * g + j) p) g j m 0 0) := kn1.tr (MG.dl j1 j2 m1 m150 (show 0 ≤ N 13051 (12 * g + j) ∧ N 13051 (12 * g + j) < 9 by omega))
  refine ⟨c_deliver (f := hf N g j) g1 g3 j1 j2 m1 m150 mem hand h9.1 (by omega) (Or.inl rfl) (by omega), fun C'' A'' => m_gDelivers g1 g3 j1 j2 m1 m150 (show 0 ≤ N 13051 (12 * g + j) ∧ N 13051 (12 * g + j) < 9 by omega), ?_, ?_, ?_⟩
  · rw [dl_k (by omega) (by omega) (by omega) (by omega)]
    exact ((a1.le m m1 m150).2.1 un1).2.1
  · rw [dl_k (by omega) (by omega) (by omega) (by omega), k1 _ _ _ (by unfold inG; omega)]
    exact (jj.c.m m m1 m2).1
  have mp' : N 13021 m = p := mp
  have oneg : N 13055 (9 * g + N 13021 m) ≠ -1 := by rw [mp, hw.2]; omega
  have no' : ∀ b, 0 ≤ b → b < (N 12000 19) → canR N b → N 13021 b = N 13021 m → N 13058 (9 * g + N 13021 m) ≤ N 13026 b → N 13026 b < N 13026 m → False := by
    rw [mp]; exact no
  have lg := gr.2.lg m1 m2 rc (by rw [mp]; exact hw.1) oneg (by rw [mp]; exact hb) no'
  have fv : fdv (uq C' 4000 (12 * g + j) 4 p) g m = if Fdl C g m = 0 then C 1000 g 9 + 1 else Fdl C g m := by
    unfold fdv
    rw [c19]
    have := f1 m
    rw [show uq C' 4000 (12 * g + j) 4 p 2000 (150 * g + m) 6 = Fdl C g m from f1 m]
  have cv : fcv (uq C' 4000 (12 * g + j) 4 p) g m = if Fdl C g m = 0 then C 1000 g 9 + 1 else C 1000 g 9 := by
    unfold fcv
    rw [c19, show uq C' 4000 (12 * g + j) 4 p 2000 (150 * g + m) 6 = Fdl C g m from f1 m]
  have f0 := (gr.2.2.2.2.2.2 m m1 m150).2.1
  have f2 : ∀ x, 0 ≤ x → x < 150 → x ≠ m → Fdl (dlC (uq C' 4000 (12 * g + j) 4 p) g j m 0 (hn N g j)) g x = Fdl C g x := fun x x1 x2 x3 => by
    rw [← f1 x]
    exact dl_k (by omega) (by omega) (by omega) (by omega)
  have f2m : Fdl (dlC (uq C' 4000 (12 * g + j) 4 p) g j m 0 (hn N g j)) g m = if Fdl C g m = 0 then C 1000 g 9 + 1 else Fdl C g m := by
    rw [← fv]
    exact dl_6
  have c29 : dlC (uq C' 4000 (12 * g + j) 4 p) g j m 0 (hn N g j) 1000 g 9 = if Fdl C g m = 0 then C 1000 g 9 + 1 else C 1000 g 9 := by
    rw [← cv]
    exact dl_9
  have pos : 0 < Fdl (dlC (uq C' 4000 (12 * g + j) 4 p) g j m 0 (hn N g j)) g m := by
    rw [f2m]
    split <;> omega
  have rr : RD C (dlC (uq C' 4000 (12 * g + j) 4 p) g j m 0 (hn N g j)) N (dlN (up (up N 13058 (9 * g + p) (N 13026 m + 1)) 13050 (12 * g + j) p) g j m 0 0) g m := by
    refine ⟨⟨k2, kn2⟩, fun x x1 x2 x3 => ⟨f2 x x1 x2 x3, by rw [dn_ar (by decide) (by decide)]; rfl⟩, ?_, Or.inl pos, fun q => ?_, ⟨by rw [dn_ar (by decide) (by decide)]; rfl, by rw [dn_ar (by decide) (by decide)]; rfl, by rw [dn_ar (by decide) (by decide)]; rfl, by rw [dn_ar (by decide) (by decide)]; rfl⟩, fun q q1 q2 q3 => ?_⟩
    · rw [f2m, c29]
      by_cases z : Fdl C g m = 0
      · rw [if_pos z, if_pos z]; exact Or.inr ⟨z, rfl, rfl⟩
      · rw [if_neg z, if_neg z]; exact Or.inl ⟨rfl, rfl⟩
    · rw [← so' q]
      show dlC (uq C' 4000 (12 * g + j) 4 p) g j m 0 (hn N g j) 9000 (9 * g + q) 5 = _
      rw [dl_k (by omega) (by omega) (by omega) (by omega), uq_s, if_neg (by omega)]
    · rw [dn_ar (by decide) (by decide), up_s, if_neg (by omega), up_s, if_neg (by omega)]
  have ron : (dlN (up (up N 13058 (9 * g + p) (N 13026 m + 1)) 13050 (12 * g + j) p) g j m 0 0) 13058 (9 * g + N 13021 m) = N 13026 m + 1 := by
    rw [dn_ar (by decide) (by decide), up_s, if_neg (by omega), up_s, if_pos ⟨rfl, by rw [mp]⟩]
  have gi := GIn.rd jj.jn gr.2 rr m1 m2 (by rw [mp]; exact hl) lg.1 (Or.inr ⟨ron, rc, no'⟩) (Or.inr lg.2.1) (fun z z2 b b1 b2 b3 b4 b5 b6 => absurd ⟨b5.symm, b6.symm⟩ (row b b1 b2 b4)) (fun z a q1 q2 q3 q4 q5 q6 => lg.2.2 (fun q => by rcases q with q | q <;> omega) a q1 q2 q4 q5) (fun x x1 x2 h => by
    by_cases e : x = m
    · rw [e]; exact pos
    · rw [f2 x x1 x2 e]
      rw [dl_k (by omega) (by omega) (by omega) (by omega), uq_s, if_neg (by omega), wm' x x1 x2] at h
      exact gr.2.w6 x1 x2 h)
  have ne1 : NE (dlC (uq C' 4000 (12 * g + j) 4 p) g j m 0 (hn N g j)) (dlN (up (up N 13058 (9 * g + p) (N 13026 m + 1)) 13050 (12 * g + j) p) g j m 0 0) A' := ne'.grp (g := g) ((MG.rf.up (by unfold inN; omega)).tr (MG.dl j1 j2 m1 m150 (show 0 ≤ N 13051 (12 * g + j) ∧ N 13051 (12 * g + j) < 9 by omega))) (by rw [dn_ar (by decide) (by decide)]; rfl) (by funext i z; rw [dl_k (by omega) (by omega) (by omega) (by omega), uq_s, if_neg (by omega)]) rfl
  exact jj.grp g1 g2 k2 kn2 ⟨a2, gi⟩ (rr.pk G) ne1 (by rw [dn_ar (by decide) (by decide)]; rfl) (by omega) (by rw [c29]; split <;> omega) (fun x x1 x2 => by
    have q : FS1 n C N g x := jj.zn.2.2 g x g1 g2 x1 x2
    unfold FS1 at q ⊢
    rw [dn_s]
    by_cases e : x = m
    · have sv : w ((up (up N 13058 (9 * g + p) (N 13026 m + 1)) 13050 (12 * g + j) p) 13064 (150 * g + m) + 1) = N 13064 (150 * g + m) + 1 := by
        rw [e] at q
        exact w_eq (z := N 13064 (150 * g + m) + 1) (by omega) (by omega)
      rw [if_pos e, sv, ← e]
      refine ⟨⟨fun _ => by omega, fun _ => ?_⟩, by omega, by omega⟩
      rw [e]; exact pos
    · rw [if_neg e, f2 x x1 x2 e]
      exact ⟨q.1, q.2.1, by have := q.2.2; show N 13064 (150 * g + x) ≤ n + 1; omega⟩)
end LOOK2
