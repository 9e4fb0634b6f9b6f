/-! PURE PART, a32: the start's calls -/
section ST
variable {n : Int} {C : Cd} {N : Nd} {A : Ad}
theorem topic_m {a r c : Int} (hc : c = 0 ∨ c = 1) (j : JJ n C N A) (h1 : 1 ≤ a ∧ a ≤ 3) (h2 : 1 ≤ r ∧ r ≤ 3) (h3 : (N 12000 4) < 3) (h4 : (N 12000 2) = 7) (h9 : (N 12000 11) + a ≤ 9) : ∀ C A, p_X11_topic (mk C N A) 12000 a r c = some ((N 12000 4), mk C (tpN (up N 12000 0 0) a r c) A) := fun C A => by
  have G := j.jn.g
  have s1 := G.s.1
  have s2 := G.s.2.1
  have h3' : ¬ (N 12000 4) = 3 := by omega
  have wt : w ((N 12000 4) + 1) = (N 12000 4) + 1 := w_eq (by omega) (by omega)
  have ml := m_tpLoop (C := C) (N := tp0 (up N 12000 0 0) ((N 12000 4)) ((N 12000 11)) a r c) (A := A) (t := (N 12000 4)) (P := (N 12000 11)) (a := a) (r := r) rfl s2.1 h1.1 h1.2 h9 h2.1 h2.2
  have ec : ian c 1 = c := by rcases hc with rfl | rfl <;> decide
  have e4 : tpI (tp0 (up N 12000 0 0) ((N 12000 4)) ((N 12000 11)) a r c) ((N 12000 4)) ((N 12000 11)) r a 12000 4 = (N 12000 4) := by rw [ti_k, if_neg (by decide)]; rfl
  have ml' : lp (b_X11_topic_121 a 12000 ((N 12000 4)) r) 1000 (0, mk C (up (up (up (up (up (up (up N 12000 0 0) 13005 ((N 12000 4)) a) 13006 ((N 12000 4)) r) 13007 ((N 12000 4)) ((N 12000 11))) 14008 ((N 12000 4)) c) 13009 ((N 12000 4)) 999) 13010 ((N 12000 4)) 60) A) = some (mk C (tpI (tp0 (up N 12000 0 0) ((N 12000 4)) ((N 12000 11)) a r c) ((N 12000 4)) ((N 12000 11)) r a) A) := ml
  unfold p_X11_topic
  simp (disch := omega) only [aok, up_s, true_and, false_and, and_true, and_false, if_true, if_false, ↓reduceIte, ↓Option.bind_some, Int.reduceEq, Int.reduceNe, Int.reduceLT, Int.reduceLE, gd_true, gd_false, bind_b, q10, eq_self, reduceCtorEq, not_true_eq_false, not_false_eq_true, ne_eq, pt_0, pt_1, pt_2, pt_3, pt_4, pt_5, pt_6, pt_7, pt_8, pt_9, pt_10, pt_11, pt_12, pt_13, pt_14, pt_15, pt_16, pt_17, pt_18, pt_19, pt_20, pt_21, pt_22, pt_23, pt_24, pt_25, pt_26, pt_27, pt_28, pt_29, pt_30, pt_31, pt_32, pt_33, pt_34, pt_35, pt_36, pt_37, pt_38, pt_39, pt_40, pt_41, pt_42, pt_43, pt_44, pt_45, pt_46, pt_47, pt_48, pt_49, pt_50, pt_51, pt_52, pt_53, pt_54, pt_55, pt_56, pt_57, pt_58, pt_59, pt_60, pt_61, pt_62, pt_63, pt_64, pt_65, pt_66, pt_67, pa_13005, pw_13005, pa_13006, pw_13006, pa_13007, pw_13007, pa_14008, pw_14008, pa_13009, pw_13009, pa_13010, pw_13010, pa_13012, pw_13012, pa_13013, pw_13013, pa_13014, pw_13014, pa_13015, pw_13015, pa_13016, pw_13016, pa_13017, pw_13017, pa_13018, pw_13018, pa_13020, pw_13020, pa_13021, pw_13021, pa_13022, pw_13022, pa_13023, pw_13023, pa_13024, pw_13024, pa_13025, pw_13025, pa_13026, pw_13026, pa_13027, pw_13027, pa_13028, pw_13028, pa_13029, pw_13029, pa_13031, pw_13031, pa_13032, pw_13032, pa_13033, pw_13033, pa_14034, pw_14034, pa_13035, pw_13035, pa_13036, pw_13036, pa_13037, pw_13037, pa_13038, pw_13038, pa_13039, pw_13039, pa_13042, pw_13042, pa_13043, pw_13043, pa_13044, pw_13044, pa_13045, pw_13045, pa_13046, pw_13046, pa_13047, pw_13047, pa_13048, pw_13048, pa_13049, pw_13049, pa_13050, pw_13050, pa_13051, pw_13051, pa_13052, pw_13052, pa_13053, pw_13053, pa_13054, pw_13054, pa_13055, pw_13055, pa_13056, pw_13056, pa_13057, pw_13057, pa_13058, pw_13058, pa_13059, pw_13059, pa_13060, pw_13060, pa_13061, pw_13061, pa_13062, pw_13062, pa_13063, pw_13063, pa_13064, pw_13064, pa_13065, pw_13065, pa_13066, pw_13066, pa_13067, pw_13067, ps_0, ps_1, ps_2, ps_3, ps_4, ps_11, ps_19, ps_30, ps_40, ps_41, ln_13005, ln_13006, ln_13007, ln_14008, ln_13009, ln_13010, ln_13012, ln_13013, ln_13014, ln_13015, ln_13016, ln_13017, ln_13018, ln_13020, ln_13021, ln_13022, ln_13023, ln_13024, ln_13025, ln_13026, ln_13027, ln_13028, ln_13029, ln_13031, ln_13032, ln_13033, ln_14034, ln_13035, ln_13036, ln_13037, ln_13038, ln_13039, ln_13042, ln_13043, ln_13044, ln_13045, ln_13046, ln_13047, ln_13048, ln_13049, ln_13050, ln_13051, ln_13052, ln_13053, ln_13054, ln_13055, ln_13056, ln_13057, ln_13058, ln_13059, ln_13060, ln_13061, ln_13062, ln_13063, ln_13064, ln_13065, ln_13066, ln_13067, gd_t, w_eq, m_in, h1, h2, h3', h4, ec, ml', e4, wt]
  rfl
theorem producer_m (j : JJ n C N A) (h : (N 12000 30) < 4) : ∀ C A, p_X11_producer (mk C N A) 12000 = some ((N 12000 30), mk C (prN (up N 12000 0 0) ((N 12000 30))) A) := fun C A => by
  have s3 := j.jn.g.s.2.2.1
  unfold p_X11_producer
  have e4 : w ((N 12000 30) + 1) = (N 12000 30) + 1 := w_eq (by omega) (by omega)
  have ne : ¬ (N 12000 30) = 4 := by omega
  simp (disch := omega) only [aok, up_s, true_and, false_and, and_true, and_false, if_true, if_false, ↓reduceIte, ↓Option.bind_some, Int.reduceEq, Int.reduceNe, Int.reduceLT, Int.reduceLE, gd_true, gd_false, bind_b, q10, eq_self, reduceCtorEq, not_true_eq_false, not_false_eq_true, ne_eq, pt_0, pt_1, pt_2, pt_3, pt_4, pt_5, pt_6, pt_7, pt_8, pt_9, pt_10, pt_11, pt_12, pt_13, pt_14, pt_15, pt_16, pt_17, pt_18, pt_19, pt_20, pt_21, pt_22, pt_23, pt_24, pt_25, pt_26, pt_27, pt_28, pt_29, pt_30, pt_31, pt_32, pt_33, pt_34, pt_35, pt_36, pt_37, pt_38, pt_39, pt_40, pt_41, pt_42, pt_43, pt_44, pt_45, pt_46, pt_47, pt_48, pt_49, pt_50, pt_51, pt_52, pt_53, pt_54, pt_55, pt_56, pt_57, pt_58, pt_59, pt_60, pt_61, pt_62, pt_63, pt_64, pt_65, pt_66, pt_67, pa_13005, pw_13005, pa_13006, pw_13006, pa_13007, pw_13007, pa_14008, pw_14008, pa_13009, pw_13009, pa_13010, pw_13010, pa_13012, pw_13012, pa_13013, pw_13013, pa_13014, pw_13014, pa_13015, pw_13015, pa_13016, pw_13016, pa_13017, pw_13017, pa_13018, pw_13018, pa_13020, pw_13020, pa_13021, pw_13021, pa_13022, pw_13022, pa_13023, pw_13023, pa_13024, pw_13024, pa_13025, pw_13025, pa_13026, pw_13026, pa_13027, pw_13027, pa_13028, pw_13028, pa_13029, pw_13029, pa_13031, pw_13031, pa_13032, pw_13032, pa_13033, pw_13033, pa_14034, pw_14034, pa_13035, pw_13035, pa_13036, pw_13036, pa_13037, pw_13037, pa_13038, pw_13038, pa_13039, pw_13039, pa_13042, pw_13042, pa_13043, pw_13043, pa_13044, pw_13044, pa_13045, pw_13045, pa_13046, pw_13046, pa_13047, pw_13047, pa_13048, pw_13048, pa_13049, pw_13049, pa_13050, pw_13050, pa_13051, pw_13051, pa_13052, pw_13052, pa_13053, pw_13053, pa_13054, pw_13054, pa_13055, pw_13055, pa_13056, pw_13056, pa_13057, pw_13057, pa_13058, pw_13058, pa_13059, pw_13059, pa_13060, pw_13060, pa_13061, pw_13061, pa_13062, pw_13062, pa_13063, pw_13063, pa_13064, pw_13064, pa_13065, pw_13065, pa_13066, pw_13066, pa_13067, pw_13067, ps_0, ps_1, ps_2, ps_3, ps_4, ps_11, ps_19, ps_30, ps_40, ps_41, ln_13005, ln_13006, ln_13007, ln_14008, ln_13009, ln_13010, ln_13012, ln_13013, ln_13014, ln_13015, ln_13016, ln_13017, ln_13018, ln_13020, ln_13021, ln_13022, ln_13023, ln_13024, ln_13025, ln_13026, ln_13027, ln_13028, ln_13029, ln_13031, ln_13032, ln_13033, ln_14034, ln_13035, ln_13036, ln_13037, ln_13038, ln_13039, ln_13042, ln_13043, ln_13044, ln_13045, ln_13046, ln_13047, ln_13048, ln_13049, ln_13050, ln_13051, ln_13052, ln_13053, ln_13054, ln_13055, ln_13056, ln_13057, ln_13058, ln_13059, ln_13060, ln_13061, ln_13062, ln_13063, ln_13064, ln_13065, ln_13066, ln_13067, gd_t, w_eq, ne, e4]
  simp only [Int.add_sub_cancel]
  rfl
theorem group_m {a : Int} (j : JJ n C N A) (h1 : 0 < a) (h2 : a < shl 1 ((N 12000 4))) (h3 : (N 12000 41) < 3) : ∀ C A, p_X11_group (mk C N A) 12000 a = some ((N 12000 41), mk C (gpN (up N 12000 0 0) ((N 12000 41)) a) A) := fun C A => by
  have G := j.jn.g
  have s1 := G.s.1
  have s4 := G.s.2.2.2.1
  have wt : w ((N 12000 41) + 1) = (N 12000 41) + 1 := w_eq (by omega) (by omega)
  have h3' : ¬ (N 12000 41) = 3 := by omega
  have ml := m_gpLoop (C := C) (N := up (up N 12000 0 0) 13042 ((N 12000 41)) a) (A := A) (n := (N 12000 41)) rfl s4.1 h3
  have e41 : gpI (up (up N 12000 0 0) 13042 ((N 12000 41)) a) ((N 12000 41)) 9 12000 41 = (N 12000 41) := by rw [gpI_k (by decide) (by decide)]; rfl
  unfold p_X11_group
  simp (disch := omega) only [aok, up_s, true_and, false_and, and_true, and_false, if_true, if_false, ↓reduceIte, ↓Option.bind_some, Int.reduceEq, Int.reduceNe, Int.reduceLT, Int.reduceLE, gd_true, gd_false, bind_b, q10, eq_self, reduceCtorEq, not_true_eq_false, not_false_eq_true, ne_eq, pt_0, pt_1, pt_2, pt_3, pt_4, pt_5, pt_6, pt_7, pt_8, pt_9, pt_10, pt_11, pt_12, pt_13, pt_14, pt_15, pt_16, pt_17, pt_18, pt_19, pt_20, pt_21, pt_22, pt_23, pt_24, pt_25, pt_26, pt_27, pt_28, pt_29, pt_30, pt_31, pt_32, pt_33, pt_34, pt_35, pt_36, pt_37, pt_38, pt_39, pt_40, pt_41, pt_42, pt_43, pt_44, pt_45, pt_46, pt_47, pt_48, pt_49, pt_50, pt_51, pt_52, pt_53, pt_54, pt_55, pt_56, pt_57, pt_58, pt_59, pt_60, pt_61, pt_62, pt_63, pt_64, pt_65, pt_66, pt_67, pa_13005, pw_13005, pa_13006, pw_13006, pa_13007, pw_13007, pa_14008, pw_14008, pa_13009, pw_13009, pa_13010, pw_13010, pa_13012, pw_13012, pa_13013, pw_13013, pa_13014, pw_13014, pa_13015, pw_13015, pa_13016, pw_13016, pa_13017, pw_13017, pa_13018, pw_13018, pa_13020, pw_13020, pa_13021, pw_13021, pa_13022, pw_13022, pa_13023, pw_13023, pa_13024, pw_13024, pa_13025, pw_13025, pa_13026, pw_13026, pa_13027, pw_13027, pa_13028, pw_13028, pa_13029, pw_13029, pa_13031, pw_13031, pa_13032, pw_13032, pa_13033, pw_13033, pa_14034, pw_14034, pa_13035, pw_13035, pa_13036, pw_13036, pa_13037, pw_13037, pa_13038, pw_13038, pa_13039, pw_13039, pa_13042, pw_13042, pa_13043, pw_13043, pa_13044, pw_13044, pa_13045, pw_13045, pa_13046, pw_13046, pa_13047, pw_13047, pa_13048, pw_13048, pa_13049, pw_13049, pa_13050, pw_13050, pa_13051, pw_13051, pa_13052, pw_13052, pa_13053, pw_13053, pa_13054, pw_13054, pa_13055, pw_13055, pa_13056, pw_13056, pa_13057, pw_13057, pa_13058, pw_13058, pa_13059, pw_13059, pa_13060, pw_13060, pa_13061, pw_13061, pa_13062, pw_13062, pa_13063, pw_13063, pa_13064, pw_13064, pa_13065, pw_13065, pa_13066, pw_13066, pa_13067, pw_13067, ps_0, ps_1, ps_2, ps_3, ps_4, ps_11, ps_19, ps_30, ps_40, ps_41, ln_13005, ln_13006, ln_13007, ln_14008, ln_13009, ln_13010, ln_13012, ln_13013, ln_13014, ln_13015, ln_13016, ln_13017, ln_13018, ln_13020, ln_13021, ln_13022, ln_13023, ln_13024, ln_13025, ln_13026, ln_13027, ln_13028, ln_13029, ln_13031, ln_13032, ln_13033, ln_14034, ln_13035, ln_13036, ln_13037, ln_13038, ln_13039, ln_13042, ln_13043, ln_13044, ln_13045, ln_13046, ln_13047, ln_13048, ln_13049, ln_13050, ln_13051, ln_13052, ln_13053, ln_13054, ln_13055, ln_13056, ln_13057, ln_13058, ln_13059, ln_13060, ln_13061, ln_13062, ln_13063, ln_13064, ln_13065, ln_13066, ln_13067, gd_t, w_eq, h1, h2, h3', ml, e41, wt]
  simp only [Int.add_sub_cancel]
  rfl
theorem x_join0 (l : LV n C N A) (h : N 13044 0 = 0) : Ok (q_L_join (mk C N A) 11000 0) (fun r => r.1 = 0 ∧ ∃ C2 X A2, r.2 = mk C2 X A2 ∧ LV (n + 1) C2 X A2 ∧ X 13044 0 = 1 ∧ mcn X 0 = 1) := by
  have j := l.1
  have g2 := l.2.1.1.g
  have gr := j.gr (Int.le_refl 0) g2
  have m0 : mcn N 0 = 0 := su_zero fun i i1 i2 => (((gr.1.nm i i1 (by omega)).2.1) (by rw [h]; exact i1)).1
  obtain ⟨N2, m1, m2, m3, m5, m6, m7⟩ := join_m j ⟨Int.le_refl 0, g2⟩ (by omega) (by omega)
  obtain ⟨z, C2, A2, c1, c2, -, c4⟩ := L_join j m7
  have ez := c2 m6
  obtain ⟨xa, xb⟩ := mg_ar m1
  have ge : GRE (up N 12000 0 0) N2 := GRE.ws m1 ((m2 _ (by decide)).trans rfl) ((m2 _ (by decide)).trans rfl) (WS.same ((m2 _ (by decide)).trans rfl) ((m2 _ (by decide)).trans rfl))
  have w2 : WV N2 := (show WV (up N 12000 0 0) from l.2.1).gr ge
  have mo : Mo N N2 := m1.mo
  refine ⟨_, c1, by show z = 0; rw [ez, h], C2, _, A2, rfl, l.mo w2 mo (m2 _ (by decide)) c4, ?_, ?_⟩
  · rw [xa 13044 (by decide), m3, h]
    rfl
  · have e : mcn (mg N N2) 0 = mcn N2 0 := by
      unfold mcn
      rw [xa 13047 (by decide)]
    rw [e, m5, m0]
    rfl
theorem x_beat_v (l : LV n C N A) {o : Int} (o1 : 0 ≤ o) (o2 : o < 12) (hi0 : N 13047 (12 * 0 + o) = 1) (ht : ∀ p, 0 ≤ p → p < 3 → tg N p = o ∧ (ow N p = -1 ∨ ow N p = o)) : Ok (q_L_beat (mk C N A) 11000 0 o) (fun r => r.1 = 3) := by
  have j := l.1
  have w := l.2.1
  have g2 := w.1.g
  have h1 : (0 : Int) ≤ 0 ∧ 0 < (N 12000 41) := ⟨Int.le_refl 0, g2⟩
  obtain ⟨N1, N2, b1, b2, ⟨ws, oy, oz⟩, hm⟩ := beat_m j h1 ⟨o1, by omega⟩ hi0
  have b12 := b1.tr b2
  obtain ⟨z, C2, A2, c1, c2, -, c4⟩ := L_beat j hm
  have ez := c2 (by rw [b12.2.1 12000 (by decide) (by decide) (by decide) (by decide)]; rfl)
  have eB : ∀ p, (up (up N 12000 0 0) 13048 (12 * 0 + o) ((N 12000 1))) 13055 (9 * 0 + p) = N 13055 (9 * 0 + p) := fun p => rfl
  have t1 : N1 13056 = N 13056 := (b1.2.1 13056 (by decide) (by decide) (by decide) (by decide)).trans rfl
  have gb : ∀ p, gR (up (up N 12000 0 0) 13048 (12 * 0 + o) ((N 12000 1))) 0 p ↔ 0 ≤ p ∧ p < 3 := fun p => gr3 w j.jn
  have ow2 : ∀ p, 0 ≤ p → p < 3 → N2 13055 (9 * 0 + p) = o := fun p p1 p2 => by
    obtain ⟨y1, y2⟩ := oy.1 p p1 (by omega)
    obtain ⟨z1, z2⟩ := oz.1 p p1 (by omega)
    rw [eB] at y2
    have gr1 : gR N1 0 p := (b1.1.gr 0 p).mpr ((gb p).mpr ⟨p1, p2⟩)
    have a1 := y2 (fun y => y.2.2.2 (ht p p1 p2).1)
    rcases (ht p p1 p2).2 with q | q
    · exact z1 ⟨p1, gr1, by rw [t1]; exact (ht p p1 p2).1, a1.trans q⟩
    · rw [z2 (fun y => by have := y.2.2.2; rw [a1] at this; have q' : N 13055 (9 * 0 + p) = o := q; omega)]
      exact a1.trans q
  refine ⟨_, c1, ?_⟩
  show z = 3
  rw [ez]
  unfold owc
  rw [su_congr (g' := fun p => if p < 3 then 1 else 0) fun p p1 p2 => by
    by_cases e : p < 3
    · rw [if_pos e, if_pos ⟨(b12.1.gr 0 p).mpr ((gb p).mpr ⟨p1, e⟩), ow2 p p1 e⟩]
    · rw [if_neg e, if_neg (fun q => e ((gb p).mp ((b12.1.gr 0 p).mp q.1)).2)]]
  decide +kernel
/-- join and beat: the loop's begin -/
theorem x_jb (l : LV n C N A) (h : N 13044 0 = 0) {P : Int × Mm → Prop} (k : ∀ C2 X A2, LW (n + 2) C2 X A2 → P (1, mk C2 X A2)) : Ok ((q_L_join (mk C N A) 11000 0).bind fun r105 => if r105.1 = 0 then (q_L_beat r105.2 11000 0 0).bind fun r108 => if r108.1 = 3 then some ((1, r108.2)) else some ((0, r108.2)) else some ((0, r105.2)) : Option (Int × Mm)) P := by
  refine Ok.bnd (x_join0 l h) ?_
  rintro ⟨_, _⟩ ⟨rfl, C2, X, A2, rfl, l2, h1, hm⟩
  dsimp only
  rw [if_pos rfl]
  have j := l2.1
  have g2 := l2.2.1.1.g
  have ga := (j.gr (Int.le_refl 0) g2).1
  have one : ∀ i, 0 ≤ i → i < 12 → X 13047 (12 * 0 + i) = 1 → i = 0 := fun i i1 i2 hi => by
    by_cases e : X 13044 0 ≤ i
    · have := ((ga.nm i i1 i2).2.1 e).1
      omega
    · omega
  have i0 : X 13047 (12 * 0 + 0) = 1 := by
    rcases (ga.nm 0 (by decide) (by decide)).1 with q | q
    · exfalso
      have z : mcn X 0 = 0 := su_zero fun i i1 i2 => by
        rcases (ga.nm i i1 (by omega)).1 with y | y
        · exact y
        · have := one i i1 (by omega) y
          rw [this]
          exact q
      omega
    · exact q
  have ht : ∀ p, 0 ≤ p → p < 3 → tg X p = 0 ∧ (ow X p = -1 ∨ ow X p = 0) := fun p p1 p2 => by
    obtain ⟨a, b⟩ := (ga.np p p1 (by omega)).1
    have t := ga.nu.2.2.2.2 (by omega) p p1 (by omega) ((gr3 l2.2.1 j.jn).mpr ⟨p1, p2⟩)
    have b' := b.resolve_left t
    exact ⟨one _ b'.1 b'.2.1 b'.2.2.1, a.imp id fun q => one _ q.1 q.2.1 q.2.2.1⟩
  obtain ⟨r, e, -, C3, Y, A3, e2, l3, m1, m2, -⟩ := x_beat l2 (g := 0) rfl (o := 0) (by decide) (by decide)
  obtain ⟨r', e', v⟩ := x_beat_v l2 (o := 0) (by decide) (by decide) i0 ht
  have rr : r' = r := Option.some.inj (e'.symm.trans e)
  subst rr
  rw [e, Option.bind_some, if_pos v, e2]
  refine Ok.ret (k C3 Y A3 ⟨l3.1.ups (by omega), ⟨l3.2.1, ?_⟩, l3.2.2⟩)
  rw [m2 13044 (by decide), h1]
  decide
end ST
