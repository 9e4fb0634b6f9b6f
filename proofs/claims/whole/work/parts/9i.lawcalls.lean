/-! PURE PART, 9i: the law's calls, one by one (by program: gen_law.py) -/
theorem lcp_self {v : Int} : lcp v v = 0 := by
  unfold lcp
  rw [if_neg (Int.lt_irrefl v), if_pos rfl]
theorem au01 {C : Cd} {N : Nd} {A : Ad} {x v : Int} {M : Mm} (h : p_X11_audit (mk C N A) 12000 x = some (v, M)) : v = 0 ∨ v = 1 := by
  unfold p_X11_audit p_X11_refuseIt at h
  by_cases c : 0 ≤ x ∧ x ≤ 6
  · simp (disch := omega) only [aok, up_s, true_and, false_and, and_true, and_false, if_true, if_false, ↓reduceIte, ↓Option.bind_some, Int.reduceEq, Int.reduceNe, Int.reduceLT, Int.reduceLE, gd_true, gd_false, bind_b, q10, eq_self, reduceCtorEq, not_true_eq_false, not_false_eq_true, ne_eq, pt_0, pt_1, pt_2, pt_3, pt_4, pt_5, pt_6, pt_7, pt_8, pt_9, pt_10, pt_11, pt_12, pt_13, pt_14, pt_15, pt_16, pt_17, pt_18, pt_19, pt_20, pt_21, pt_22, pt_23, pt_24, pt_25, pt_26, pt_27, pt_28, pt_29, pt_30, pt_31, pt_32, pt_33, pt_34, pt_35, pt_36, pt_37, pt_38, pt_39, pt_40, pt_41, pt_42, pt_43, pt_44, pt_45, pt_46, pt_47, pt_48, pt_49, pt_50, pt_51, pt_52, pt_53, pt_54, pt_55, pt_56, pt_57, pt_58, pt_59, pt_60, pt_61, pt_62, pt_63, pt_64, pt_65, pt_66, pt_67, pa_13005, pw_13005, pa_13006, pw_13006, pa_13007, pw_13007, pa_14008, pw_14008, pa_13009, pw_13009, pa_13010, pw_13010, pa_13012, pw_13012, pa_13013, pw_13013, pa_13014, pw_13014, pa_13015, pw_13015, pa_13016, pw_13016, pa_13017, pw_13017, pa_13018, pw_13018, pa_13020, pw_13020, pa_13021, pw_13021, pa_13022, pw_13022, pa_13023, pw_13023, pa_13024, pw_13024, pa_13025, pw_13025, pa_13026, pw_13026, pa_13027, pw_13027, pa_13028, pw_13028, pa_13029, pw_13029, pa_13031, pw_13031, pa_13032, pw_13032, pa_13033, pw_13033, pa_14034, pw_14034, pa_13035, pw_13035, pa_13036, pw_13036, pa_13037, pw_13037, pa_13038, pw_13038, pa_13039, pw_13039, pa_13042, pw_13042, pa_13043, pw_13043, pa_13044, pw_13044, pa_13045, pw_13045, pa_13046, pw_13046, pa_13047, pw_13047, pa_13048, pw_13048, pa_13049, pw_13049, pa_13050, pw_13050, pa_13051, pw_13051, pa_13052, pw_13052, pa_13053, pw_13053, pa_13054, pw_13054, pa_13055, pw_13055, pa_13056, pw_13056, pa_13057, pw_13057, pa_13058, pw_13058, pa_13059, pw_13059, pa_13060, pw_13060, pa_13061, pw_13061, pa_13062, pw_13062, pa_13063, pw_13063, pa_13064, pw_13064, pa_13065, pw_13065, pa_13066, pw_13066, pa_13067, pw_13067, ps_0, ps_1, ps_2, ps_3, ps_4, ps_11, ps_19, ps_30, ps_40, ps_41, ln_13005, ln_13006, ln_13007, ln_14008, ln_13009, ln_13010, ln_13012, ln_13013, ln_13014, ln_13015, ln_13016, ln_13017, ln_13018, ln_13020, ln_13021, ln_13022, ln_13023, ln_13024, ln_13025, ln_13026, ln_13027, ln_13028, ln_13029, ln_13031, ln_13032, ln_13033, ln_14034, ln_13035, ln_13036, ln_13037, ln_13038, ln_13039, ln_13042, ln_13043, ln_13044, ln_13045, ln_13046, ln_13047, ln_13048, ln_13049, ln_13050, ln_13051, ln_13052, ln_13053, ln_13054, ln_13055, ln_13056, ln_13057, ln_13058, ln_13059, ln_13060, ln_13061, ln_13062, ln_13063, ln_13064, ln_13065, ln_13066, ln_13067, gd_t, w_eq, m_in, c, Option.some.injEq, Prod.mk.injEq] at h
    exact Or.inr h.1.symm
  · simp (disch := omega) only [aok, up_s, true_and, false_and, and_true, and_false, if_true, if_false, ↓reduceIte, ↓Option.bind_some, Int.reduceEq, Int.reduceNe, Int.reduceLT, Int.reduceLE, gd_true, gd_false, bind_b, q10, eq_self, reduceCtorEq, not_true_eq_false, not_false_eq_true, ne_eq, pt_0, pt_1, pt_2, pt_3, pt_4, pt_5, pt_6, pt_7, pt_8, pt_9, pt_10, pt_11, pt_12, pt_13, pt_14, pt_15, pt_16, pt_17, pt_18, pt_19, pt_20, pt_21, pt_22, pt_23, pt_24, pt_25, pt_26, pt_27, pt_28, pt_29, pt_30, pt_31, pt_32, pt_33, pt_34, pt_35, pt_36, pt_37, pt_38, pt_39, pt_40, pt_41, pt_42, pt_43, pt_44, pt_45, pt_46, pt_47, pt_48, pt_49, pt_50, pt_51, pt_52, pt_53, pt_54, pt_55, pt_56, pt_57, pt_58, pt_59, pt_60, pt_61, pt_62, pt_63, pt_64, pt_65, pt_66, pt_67, pa_13005, pw_13005, pa_13006, pw_13006, pa_13007, pw_13007, pa_14008, pw_14008, pa_13009, pw_13009, pa_13010, pw_13010, pa_13012, pw_13012, pa_13013, pw_13013, pa_13014, pw_13014, pa_13015, pw_13015, pa_13016, pw_13016, pa_13017, pw_13017, pa_13018, pw_13018, pa_13020, pw_13020, pa_13021, pw_13021, pa_13022, pw_13022, pa_13023, pw_13023, pa_13024, pw_13024, pa_13025, pw_13025, pa_13026, pw_13026, pa_13027, pw_13027, pa_13028, pw_13028, pa_13029, pw_13029, pa_13031, pw_13031, pa_13032, pw_13032, pa_13033, pw_13033, pa_14034, pw_14034, pa_13035, pw_13035, pa_13036, pw_13036, pa_13037, pw_13037, pa_13038, pw_13038, pa_13039, pw_13039, pa_13042, pw_13042, pa_13043, pw_13043, pa_13044, pw_13044, pa_13045, pw_13045, pa_13046, pw_13046, pa_13047, pw_13047, pa_13048, pw_13048, pa_13049, pw_13049, pa_13050, pw_13050, pa_13051, pw_13051, pa_13052, pw_13052, pa_13053, pw_13053, pa_13054, pw_13054, pa_13055, pw_13055, pa_13056, pw_13056, pa_13057, pw_13057, pa_13058, pw_13058, pa_13059, pw_13059, pa_13060, pw_13060, pa_13061, pw_13061, pa_13062, pw_13062, pa_13063, pw_13063, pa_13064, pw_13064, pa_13065, pw_13065, pa_13066, pw_13066, pa_13067, pw_13067, ps_0, ps_1, ps_2, ps_3, ps_4, ps_11, ps_19, ps_30, ps_40, ps_41, ln_13005, ln_13006, ln_13007, ln_14008, ln_13009, ln_13010, ln_13012, ln_13013, ln_13014, ln_13015, ln_13016, ln_13017, ln_13018, ln_13020, ln_13021, ln_13022, ln_13023, ln_13024, ln_13025, ln_13026, ln_13027, ln_13028, ln_13029, ln_13031, ln_13032, ln_13033, ln_14034, ln_13035, ln_13036, ln_13037, ln_13038, ln_13039, ln_13042, ln_13043, ln_13044, ln_13045, ln_13046, ln_13047, ln_13048, ln_13049, ln_13050, ln_13051, ln_13052, ln_13053, ln_13054, ln_13055, ln_13056, ln_13057, ln_13058, ln_13059, ln_13060, ln_13061, ln_13062, ln_13063, ln_13064, ln_13065, ln_13066, ln_13067, gd_t, w_eq, m_in, c, Option.some.injEq, Prod.mk.injEq] at h
    exact Or.inl h.1.symm
section LAWC
variable {n k sl : Int} {C : Cd} {N : Nd} {A : Ad} {sc : Int → Int}
theorem cl_0 (hs : ∀ i, r32 (sc i)) (hn : 0 ≤ n ∧ n < 600) (hk : 0 ≤ k) (hk2 : k + 5 < sl) (hl : sl ≤ 3072) (j : JJ n C N A) : ∃ C1 N1 A1, c_L_0 (k, mk C N A) sl sc = some (.inl (k + 6, mk C1 N1 A1)) ∧ JJ (n + 1) C1 N1 A1 := by
  have w1 : w (k + 1) = k + 1 := w_eq (by omega) (by omega)
  have w2 : w (k + 2) = k + 2 := w_eq (by omega) (by omega)
  have w3 : w (k + 3) = k + 3 := w_eq (by omega) (by omega)
  have w4 : w (k + 4) = k + 4 := w_eq (by omega) (by omega)
  have w5 : w (k + 5) = k + 5 := w_eq (by omega) (by omega)
  have w6 : w (k + 6) = k + 6 := w_eq (by omega) (by omega)
  by_cases y : sc (k + 3) = 0
  · have q : SR n C N A (p_L_topic (mk C N A) 11000 (sc (k + 1)) (sc (k + 2)) 0 15000) (fun M => p_X11_topic M 12000 (sc (k + 1)) (sc (k + 2)) 0) := q_topic (Or.inl rfl) j
    obtain ⟨kk, C1, A1, e1, v, N1, e2, e3, e4, jj⟩ := q
    have e2' : p_X11_topic (mk C1 N A1) 12000 (sc (k + 1)) (sc (k + 2)) 0 = some (v, mk C1 N1 A1) := e2
    have t1 : p_X11_thrown (mk C1 N1 A1) 12000 = some kk := by
        unfold p_X11_thrown
        rw [pt_0, e3]
    refine ⟨C1, N1, A1, ?_, jj⟩
    unfold c_L_0
    by_cases z : kk = 0
    · have q4 := e4 z
      simp (disch := omega) only [aok, up_s, true_and, false_and, and_true, and_false, if_true, if_false, ↓reduceIte, ↓Option.bind_some, Int.reduceEq, Int.reduceNe, Int.reduceLT, Int.reduceLE, gd_true, gd_false, bind_b, q10, eq_self, reduceCtorEq, not_true_eq_false, not_false_eq_true, ne_eq, cr_11000, cr_15000, cr_16000, cr_20000, cr_20001, cr_21000, cr_22000, cr_25000, cr_1000, cr_2000, cr_3000, cr_3003, cr_3006, cr_4000, cr_5000, cr_6000, cr_7000, cr_8000, cr_9000, cr_10000, cr_13500, cr_17000, cr_17100, cr_17103, cr_17106, cr_19000, cr_20100, cr_21100, cr_23000, cr_24000, cw_11000, cw_15000, cw_16000, cw_20000, cw_20001, cw_21000, cw_22000, cw_25000, cw_1000, cw_2000, cw_3000, cw_3003, cw_3006, cw_4000, cw_5000, cw_6000, cw_7000, cw_8000, cw_9000, cw_10000, cw_13500, cw_17000, cw_17100, cw_17103, cw_17106, cw_19000, cw_20100, cw_21100, cw_23000, cw_24000, lc_13500, lc_15000, lc_16000, lc_17000, lc_17100, lc_17103, lc_17106, lc_19000, lc_20000, lc_20001, lc_20100, lc_21000, lc_21100, lc_22000, lc_23000, lc_24000, lc_25000, gd_t, w_eq, w1, w2, w3, w4, w5, w6, e1, e2', t1, z, y, q4, lcp_self]
    · simp (disch := omega) only [aok, up_s, true_and, false_and, and_true, and_false, if_true, if_false, ↓reduceIte, ↓Option.bind_some, Int.reduceEq, Int.reduceNe, Int.reduceLT, Int.reduceLE, gd_true, gd_false, bind_b, q10, eq_self, reduceCtorEq, not_true_eq_false, not_false_eq_true, ne_eq, cr_11000, cr_15000, cr_16000, cr_20000, cr_20001, cr_21000, cr_22000, cr_25000, cr_1000, cr_2000, cr_3000, cr_3003, cr_3006, cr_4000, cr_5000, cr_6000, cr_7000, cr_8000, cr_9000, cr_10000, cr_13500, cr_17000, cr_17100, cr_17103, cr_17106, cr_19000, cr_20100, cr_21100, cr_23000, cr_24000, cw_11000, cw_15000, cw_16000, cw_20000, cw_20001, cw_21000, cw_22000, cw_25000, cw_1000, cw_2000, cw_3000, cw_3003, cw_3006, cw_4000, cw_5000, cw_6000, cw_7000, cw_8000, cw_9000, cw_10000, cw_13500, cw_17000, cw_17100, cw_17103, cw_17106, cw_19000, cw_20100, cw_21100, cw_23000, cw_24000, lc_13500, lc_15000, lc_16000, lc_17000, lc_17100, lc_17103, lc_17106, lc_19000, lc_20000, lc_20001, lc_20100, lc_21000, lc_21100, lc_22000, lc_23000, lc_24000, lc_25000, gd_t, w_eq, w1, w2, w3, w4, w5, w6, e1, e2', t1, z, y]
  · have q : SR n C N A (p_L_topic (mk C N A) 11000 (sc (k + 1)) (sc (k + 2)) 1 15000) (fun M => p_X11_topic M 12000 (sc (k + 1)) (sc (k + 2)) 1) := q_topic (Or.inr rfl) j
    obtain ⟨kk, C1, A1, e1, v, N1, e2, e3, e4, jj⟩ := q
    have e2' : p_X11_topic (mk C1 N A1) 12000 (sc (k + 1)) (sc (k + 2)) 1 = some (v, mk C1 N1 A1) := e2
    have t1 : p_X11_thrown (mk C1 N1 A1) 12000 = some kk := by
        unfold p_X11_thrown
        rw [pt_0, e3]
    refine ⟨C1, N1, A1, ?_, jj⟩
    unfold c_L_0
    by_cases z : kk = 0
    · have q4 := e4 z
      simp (disch := omega) only [aok, up_s, true_and, false_and, and_true, and_false, if_true, if_false, ↓reduceIte, ↓Option.bind_some, Int.reduceEq, Int.reduceNe, Int.reduceLT, Int.reduceLE, gd_true, gd_false, bind_b, q10, eq_self, reduceCtorEq, not_true_eq_false, not_false_eq_true, ne_eq, cr_11000, cr_15000, cr_16000, cr_20000, cr_20001, cr_21000, cr_22000, cr_25000, cr_1000, cr_2000, cr_3000, cr_3003, cr_3006, cr_4000, cr_5000, cr_6000, cr_7000, cr_8000, cr_9000, cr_10000, cr_13500, cr_17000, cr_17100, cr_17103, cr_17106, cr_19000, cr_20100, cr_21100, cr_23000, cr_24000, cw_11000, cw_15000, cw_16000, cw_20000, cw_20001, cw_21000, cw_22000, cw_25000, cw_1000, cw_2000, cw_3000, cw_3003, cw_3006, cw_4000, cw_5000, cw_6000, cw_7000, cw_8000, cw_9000, cw_10000, cw_13500, cw_17000, cw_17100, cw_17103, cw_17106, cw_19000, cw_20100, cw_21100, cw_23000, cw_24000, lc_13500, lc_15000, lc_16000, lc_17000, lc_17100, lc_17103, lc_17106, lc_19000, lc_20000, lc_20001, lc_20100, lc_21000, lc_21100, lc_22000, lc_23000, lc_24000, lc_25000, gd_t, w_eq, w1, w2, w3, w4, w5, w6, e1, e2', t1, z, y, q4, lcp_self]
    · simp (disch := omega) only [aok, up_s, true_and, false_and, and_true, and_false, if_true, if_false, ↓reduceIte, ↓Option.bind_some, Int.reduceEq, Int.reduceNe, Int.reduceLT, Int.reduceLE, gd_true, gd_false, bind_b, q10, eq_self, reduceCtorEq, not_true_eq_false, not_false_eq_true, ne_eq, cr_11000, cr_15000, cr_16000, cr_20000, cr_20001, cr_21000, cr_22000, cr_25000, cr_1000, cr_2000, cr_3000, cr_3003, cr_3006, cr_4000, cr_5000, cr_6000, cr_7000, cr_8000, cr_9000, cr_10000, cr_13500, cr_17000, cr_17100, cr_17103, cr_17106, cr_19000, cr_20100, cr_21100, cr_23000, cr_24000, cw_11000, cw_15000, cw_16000, cw_20000, cw_20001, cw_21000, cw_22000, cw_25000, cw_1000, cw_2000, cw_3000, cw_3003, cw_3006, cw_4000, cw_5000, cw_6000, cw_7000, cw_8000, cw_9000, cw_10000, cw_13500, cw_17000, cw_17100, cw_17103, cw_17106, cw_19000, cw_20100, cw_21100, cw_23000, cw_24000, lc_13500, lc_15000, lc_16000, lc_17000, lc_17100, lc_17103, lc_17106, lc_19000, lc_20000, lc_20001, lc_20100, lc_21000, lc_21100, lc_22000, lc_23000, lc_24000, lc_25000, gd_t, w_eq, w1, w2, w3, w4, w5, w6, e1, e2', t1, z, y]
theorem cl_1 (hs : ∀ i, r32 (sc i)) (hn : 0 ≤ n ∧ n < 600) (hk : 0 ≤ k) (hk2 : k + 5 < sl) (hl : sl ≤ 3072) (j : JJ n C N A) : ∃ C1 N1 A1, c_L_1 (k, mk C N A) sl sc = some (.inl (k + 6, mk C1 N1 A1)) ∧ JJ (n + 1) C1 N1 A1 := by
  have w1 : w (k + 1) = k + 1 := w_eq (by omega) (by omega)
  have w2 : w (k + 2) = k + 2 := w_eq (by omega) (by omega)
  have w3 : w (k + 3) = k + 3 := w_eq (by omega) (by omega)
  have w4 : w (k + 4) = k + 4 := w_eq (by omega) (by omega)
  have w5 : w (k + 5) = k + 5 := w_eq (by omega) (by omega)
  have w6 : w (k + 6) = k + 6 := w_eq (by omega) (by omega)
  have q : SR n C N A (p_L_retain (mk C N A) 11000 (sc (k + 1)) (sc (k + 2)) (sc (k + 3)) 15000) (fun M => p_X11_retain M 12000 (sc (k + 1)) (sc (k + 2)) (sc (k + 3))) := q_retain j
  obtain ⟨kk, C1, A1, e1, v, N1, e2, e3, e4, jj⟩ := q
  have e2' : p_X11_retain (mk C1 N A1) 12000 (sc (k + 1)) (sc (k + 2)) (sc (k + 3)) = some (v, mk C1 N1 A1) := e2
  have t1 : p_X11_thrown (mk C1 N1 A1) 12000 = some kk := by
      unfold p_X11_thrown
      rw [pt_0, e3]
  refine ⟨C1, N1, A1, ?_, jj⟩
  unfold c_L_1
  by_cases z : kk = 0
  · have q4 := e4 z
    simp (disch := omega) only [aok, up_s, true_and, false_and, and_true, and_false, if_true, if_false, ↓reduceIte, ↓Option.bind_some, Int.reduceEq, Int.reduceNe, Int.reduceLT, Int.reduceLE, gd_true, gd_false, bind_b, q10, eq_self, reduceCtorEq, not_true_eq_false, not_false_eq_true, ne_eq, cr_11000, cr_15000, cr_16000, cr_20000, cr_20001, cr_21000, cr_22000, cr_25000, cr_1000, cr_2000, cr_3000, cr_3003, cr_3006, cr_4000, cr_5000, cr_6000, cr_7000, cr_8000, cr_9000, cr_10000, cr_13500, cr_17000, cr_17100, cr_17103, cr_17106, cr_19000, cr_20100, cr_21100, cr_23000, cr_24000, cw_11000, cw_15000, cw_16000, cw_20000, cw_20001, cw_21000, cw_22000, cw_25000, cw_1000, cw_2000, cw_3000, cw_3003, cw_3006, cw_4000, cw_5000, cw_6000, cw_7000, cw_8000, cw_9000, cw_10000, cw_13500, cw_17000, cw_17100, cw_17103, cw_17106, cw_19000, cw_20100, cw_21100, cw_23000, cw_24000, lc_13500, lc_15000, lc_16000, lc_17000, lc_17100, lc_17103, lc_17106, lc_19000, lc_20000, lc_20001, lc_20100, lc_21000, lc_21100, lc_22000, lc_23000, lc_24000, lc_25000, gd_t, w_eq, w1, w2, w3, w4, w5, w6, e1, e2', t1, z, q4, lcp_self]
  · simp (disch := omega) only [aok, up_s, true_and, false_and, and_true, and_false, if_true, if_false, ↓reduceIte, ↓Option.bind_some, Int.reduceEq, Int.reduceNe, Int.reduceLT, Int.reduceLE, gd_true, gd_false, bind_b, q10, eq_self, reduceCtorEq, not_true_eq_false, not_false_eq_true, ne_eq, cr_11000, cr_15000, cr_16000, cr_20000, cr_20001, cr_21000, cr_22000, cr_25000, cr_1000, cr_2000, cr_3000, cr_3003, cr_3006, cr_4000, cr_5000, cr_6000, cr_7000, cr_8000, cr_9000, cr_10000, cr_13500, cr_17000, cr_17100, cr_17103, cr_17106, cr_19000, cr_20100, cr_21100, cr_23000, cr_24000, cw_11000, cw_15000, cw_16000, cw_20000, cw_20001, cw_21000, cw_22000, cw_25000, cw_1000, cw_2000, cw_3000, cw_3003, cw_3006, cw_4000, cw_5000, cw_6000, cw_7000, cw_8000, cw_9000, cw_10000, cw_13500, cw_17000, cw_17100, cw_17103, cw_17106, cw_19000, cw_20100, cw_21100, cw_23000, cw_24000, lc_13500, lc_15000, lc_16000, lc_17000, lc_17100, lc_17103, lc_17106, lc_19000, lc_20000, lc_20001, lc_20100, lc_21000, lc_21100, lc_22000, lc_23000, lc_24000, lc_25000, gd_t, w_eq, w1, w2, w3, w4, w5, w6, e1, e2', t1, z]
theorem cl_2 (hs : ∀ i, r32 (sc i)) (hn : 0 ≤ n ∧ n < 600) (hk : 0 ≤ k) (hk2 : k + 5 < sl) (hl : sl ≤ 3072) (j : JJ n C N A) : ∃ C1 N1 A1, c_L_2 (k, mk C N A) sl sc = some (.inl (k + 6, mk C1 N1 A1)) ∧ JJ (n + 1) C1 N1 A1 := by
  have w1 : w (k + 1) = k + 1 := w_eq (by omega) (by omega)
  have w2 : w (k + 2) = k + 2 := w_eq (by omega) (by omega)
  have w3 : w (k + 3) = k + 3 := w_eq (by omega) (by omega)
  have w4 : w (k + 4) = k + 4 := w_eq (by omega) (by omega)
  have w5 : w (k + 5) = k + 5 := w_eq (by omega) (by omega)
  have w6 : w (k + 6) = k + 6 := w_eq (by omega) (by omega)
  have q : SR n C N A (p_L_compact (mk C N A) 11000 (sc (k + 1)) 15000) (fun M => p_X11_compact M 12000 (sc (k + 1))) := q_compact j
  obtain ⟨kk, C1, A1, e1, v, N1, e2, e3, e4, jj⟩ := q
  have e2' : p_X11_compact (mk C1 N A1) 12000 (sc (k + 1)) = some (v, mk C1 N1 A1) := e2
  have t1 : p_X11_thrown (mk C1 N1 A1) 12000 = some kk := by
      unfold p_X11_thrown
      rw [pt_0, e3]
  refine ⟨C1, N1, A1, ?_, jj⟩
  unfold c_L_2
  by_cases z : kk = 0
  · have q4 := e4 z
    simp (disch := omega) only [aok, up_s, true_and, false_and, and_true, and_false, if_true, if_false, ↓reduceIte, ↓Option.bind_some, Int.reduceEq, Int.reduceNe, Int.reduceLT, Int.reduceLE, gd_true, gd_false, bind_b, q10, eq_self, reduceCtorEq, not_true_eq_false, not_false_eq_true, ne_eq, cr_11000, cr_15000, cr_16000, cr_20000, cr_20001, cr_21000, cr_22000, cr_25000, cr_1000, cr_2000, cr_3000, cr_3003, cr_3006, cr_4000, cr_5000, cr_6000, cr_7000, cr_8000, cr_9000, cr_10000, cr_13500, cr_17000, cr_17100, cr_17103, cr_17106, cr_19000, cr_20100, cr_21100, cr_23000, cr_24000, cw_11000, cw_15000, cw_16000, cw_20000, cw_20001, cw_21000, cw_22000, cw_25000, cw_1000, cw_2000, cw_3000, cw_3003, cw_3006, cw_4000, cw_5000, cw_6000, cw_7000, cw_8000, cw_9000, cw_10000, cw_13500, cw_17000, cw_17100, cw_17103, cw_17106, cw_19000, cw_20100, cw_21100, cw_23000, cw_24000, lc_13500, lc_15000, lc_16000, lc_17000, lc_17100, lc_17103, lc_17106, lc_19000, lc_20000, lc_20001, lc_20100, lc_21000, lc_21100, lc_22000, lc_23000, lc_24000, lc_25000, gd_t, w_eq, w1, w2, w3, w4, w5, w6, e1, e2', t1, z, q4, lcp_self]
  · simp (disch := omega) only [aok, up_s, true_and, false_and, and_true, and_false, if_true, if_false, ↓reduceIte, ↓Option.bind_some, Int.reduceEq, Int.reduceNe, Int.reduceLT, Int.reduceLE, gd_true, gd_false, bind_b, q10, eq_self, reduceCtorEq, not_true_eq_false, not_false_eq_true, ne_eq, cr_11000, cr_15000, cr_16000, cr_20000, cr_20001, cr_21000, cr_22000, cr_25000, cr_1000, cr_2000, cr_3000, cr_3003, cr_3006, cr_4000, cr_5000, cr_6000, cr_7000, cr_8000, cr_9000, cr_10000, cr_13500, cr_17000, cr_17100, cr_17103, cr_17106, cr_19000, cr_20100, cr_21100, cr_23000, cr_24000, cw_11000, cw_15000, cw_16000, cw_20000, cw_20001, cw_21000, cw_22000, cw_25000, cw_1000, cw_2000, cw_3000, cw_3003, cw_3006, cw_4000, cw_5000, cw_6000, cw_7000, cw_8000, cw_9000, cw_10000, cw_13500, cw_17000, cw_17100, cw_17103, cw_17106, cw_19000, cw_20100, cw_21100, cw_23000, cw_24000, lc_13500, lc_15000, lc_16000, lc_17000, lc_17100, lc_17103, lc_17106, lc_19000, lc_20000, lc_20001, lc_20100, lc_21000, lc_21100, lc_22000, lc_23000, lc_24000, lc_25000, gd_t, w_eq, w1, w2, w3, w4, w5, w6, e1, e2', t1, z]
theorem cl_3 (hs : ∀ i, r32 (sc i)) (hn : 0 ≤ n ∧ n < 600) (hk : 0 ≤ k) (hk2 : k + 5 < sl) (hl : sl ≤ 3072) (j : JJ n C N A) : ∃ C1 N1 A1, c_L_3 (k, mk C N A) sl sc = some (.inl (k + 6, mk C1 N1 A1)) ∧ JJ (n + 1) C1 N1 A1 := by
  have w1 : w (k + 1) = k + 1 := w_eq (by omega) (by omega)
  have w2 : w (k + 2) = k + 2 := w_eq (by omega) (by omega)
  have w3 : w (k + 3) = k + 3 := w_eq (by omega) (by omega)
  have w4 : w (k + 4) = k + 4 := w_eq (by omega) (by omega)
  have w5 : w (k + 5) = k + 5 := w_eq (by omega) (by omega)
  have w6 : w (k + 6) = k + 6 := w_eq (by omega) (by omega)
  have q : SR n C N A (p_L_fail (mk C N A) 11000 (sc (k + 1)) 15000) (fun M => p_X11_fail M 12000 (sc (k + 1))) := q_fail j
  obtain ⟨kk, C1, A1, e1, v, N1, e2, e3, e4, jj⟩ := q
  have e2' : p_X11_fail (mk C1 N A1) 12000 (sc (k + 1)) = some (v, mk C1 N1 A1) := e2
  have t1 : p_X11_thrown (mk C1 N1 A1) 12000 = some kk := by
      unfold p_X11_thrown
      rw [pt_0, e3]
  refine ⟨C1, N1, A1, ?_, jj⟩
  unfold c_L_3
  by_cases z : kk = 0
  · have q4 := e4 z
    simp (disch := omega) only [aok, up_s, true_and, false_and, and_true, and_false, if_true, if_false, ↓reduceIte, ↓Option.bind_some, Int.reduceEq, Int.reduceNe, Int.reduceLT, Int.reduceLE, gd_true, gd_false, bind_b, q10, eq_self, reduceCtorEq, not_true_eq_false, not_false_eq_true, ne_eq, cr_11000, cr_15000, cr_16000, cr_20000, cr_20001, cr_21000, cr_22000, cr_25000, cr_1000, cr_2000, cr_3000, cr_3003, cr_3006, cr_4000, cr_5000, cr_6000, cr_7000, cr_8000, cr_9000, cr_10000, cr_13500, cr_17000, cr_17100, cr_17103, cr_17106, cr_19000, cr_20100, cr_21100, cr_23000, cr_24000, cw_11000, cw_15000, cw_16000, cw_20000, cw_20001, cw_21000, cw_22000, cw_25000, cw_1000, cw_2000, cw_3000, cw_3003, cw_3006, cw_4000, cw_5000, cw_6000, cw_7000, cw_8000, cw_9000, cw_10000, cw_13500, cw_17000, cw_17100, cw_17103, cw_17106, cw_19000, cw_20100, cw_21100, cw_23000, cw_24000, lc_13500, lc_15000, lc_16000, lc_17000, lc_17100, lc_17103, lc_17106, lc_19000, lc_20000, lc_20001, lc_20100, lc_21000, lc_21100, lc_22000, lc_23000, lc_24000, lc_25000, gd_t, w_eq, w1, w2, w3, w4, w5, w6, e1, e2', t1, z, q4, lcp_self]
  · simp (disch := omega) only [aok, up_s, true_and, false_and, and_true, and_false, if_true, if_false, ↓reduceIte, ↓Option.bind_some, Int.reduceEq, Int.reduceNe, Int.reduceLT, Int.reduceLE, gd_true, gd_false, bind_b, q10, eq_self, reduceCtorEq, not_true_eq_false, not_false_eq_true, ne_eq, cr_11000, cr_15000, cr_16000, cr_20000, cr_20001, cr_21000, cr_22000, cr_25000, cr_1000, cr_2000, cr_3000, cr_3003, cr_3006, cr_4000, cr_5000, cr_6000, cr_7000, cr_8000, cr_9000, cr_10000, cr_13500, cr_17000, cr_17100, cr_17103, cr_17106, cr_19000, cr_20100, cr_21100, cr_23000, cr_24000, cw_11000, cw_15000, cw_16000, cw_20000, cw_20001, cw_21000, cw_22000, cw_25000, cw_1000, cw_2000, cw_3000, cw_3003, cw_3006, cw_4000, cw_5000, cw_6000, cw_7000, cw_8000, cw_9000, cw_10000, cw_13500, cw_17000, cw_17100, cw_17103, cw_17106, cw_19000, cw_20100, cw_21100, cw_23000, cw_24000, lc_13500, lc_15000, lc_16000, lc_17000, lc_17100, lc_17103, lc_17106, lc_19000, lc_20000, lc_20001, lc_20100, lc_21000, lc_21100, lc_22000, lc_23000, lc_24000, lc_25000, gd_t, w_eq, w1, w2, w3, w4, w5, w6, e1, e2', t1, z]
theorem cl_4 (hs : ∀ i, r32 (sc i)) (hn : 0 ≤ n ∧ n < 600) (hk : 0 ≤ k) (hk2 : k + 5 < sl) (hl : sl ≤ 3072) (j : JJ n C N A) : ∃ C1 N1 A1, c_L_4 (k, mk C N A) sl sc = some (.inl (k + 6, mk C1 N1 A1)) ∧ JJ (n + 1) C1 N1 A1 := by
  have w1 : w (k + 1) = k + 1 := w_eq (by omega) (by omega)
  have w2 : w (k + 2) = k + 2 := w_eq (by omega) (by omega)
  have w3 : w (k + 3) = k + 3 := w_eq (by omega) (by omega)
  have w4 : w (k + 4) = k + 4 := w_eq (by omega) (by omega)
  have w5 : w (k + 5) = k + 5 := w_eq (by omega) (by omega)
  have w6 : w (k + 6) = k + 6 := w_eq (by omega) (by omega)
  have q : SR n C N A (p_L_restore (mk C N A) 11000 (sc (k + 1)) 15000) (fun M => p_X11_restore M 12000 (sc (k + 1))) := q_restore j
  obtain ⟨kk, C1, A1, e1, v, N1, e2, e3, e4, jj⟩ := q
  have e2' : p_X11_restore (mk C1 N A1) 12000 (sc (k + 1)) = some (v, mk C1 N1 A1) := e2
  have t1 : p_X11_thrown (mk C1 N1 A1) 12000 = some kk := by
      unfold p_X11_thrown
      rw [pt_0, e3]
  refine ⟨C1, N1, A1, ?_, jj⟩
  unfold c_L_4
  by_cases z : kk = 0
  · have q4 := e4 z
    simp (disch := omega) only [aok, up_s, true_and, false_and, and_true, and_false, if_true, if_false, ↓reduceIte, ↓Option.bind_some, Int.reduceEq, Int.reduceNe, Int.reduceLT, Int.reduceLE, gd_true, gd_false, bind_b, q10, eq_self, reduceCtorEq, not_true_eq_false, not_false_eq_true, ne_eq, cr_11000, cr_15000, cr_16000, cr_20000, cr_20001, cr_21000, cr_22000, cr_25000, cr_1000, cr_2000, cr_3000, cr_3003, cr_3006, cr_4000, cr_5000, cr_6000, cr_7000, cr_8000, cr_9000, cr_10000, cr_13500, cr_17000, cr_17100, cr_17103, cr_17106, cr_19000, cr_20100, cr_21100, cr_23000, cr_24000, cw_11000, cw_15000, cw_16000, cw_20000, cw_20001, cw_21000, cw_22000, cw_25000, cw_1000, cw_2000, cw_3000, cw_3003, cw_3006, cw_4000, cw_5000, cw_6000, cw_7000, cw_8000, cw_9000, cw_10000, cw_13500, cw_17000, cw_17100, cw_17103, cw_17106, cw_19000, cw_20100, cw_21100, cw_23000, cw_24000, lc_13500, lc_15000, lc_16000, lc_17000, lc_17100, lc_17103, lc_17106, lc_19000, lc_20000, lc_20001, lc_20100, lc_21000, lc_21100, lc_22000, lc_23000, lc_24000, lc_25000, gd_t, w_eq, w1, w2, w3, w4, w5, w6, e1, e2', t1, z, q4, lcp_self]
  · simp (disch := omega) only [aok, up_s, true_and, false_and, and_true, and_false, if_true, if_false, ↓reduceIte, ↓Option.bind_some, Int.reduceEq, Int.reduceNe, Int.reduceLT, Int.reduceLE, gd_true, gd_false, bind_b, q10, eq_self, reduceCtorEq, not_true_eq_false, not_false_eq_true, ne_eq, cr_11000, cr_15000, cr_16000, cr_20000, cr_20001, cr_21000, cr_22000, cr_25000, cr_1000, cr_2000, cr_3000, cr_3003, cr_3006, cr_4000, cr_5000, cr_6000, cr_7000, cr_8000, cr_9000, cr_10000, cr_13500, cr_17000, cr_17100, cr_17103, cr_17106, cr_19000, cr_20100, cr_21100, cr_23000, cr_24000, cw_11000, cw_15000, cw_16000, cw_20000, cw_20001, cw_21000, cw_22000, cw_25000, cw_1000, cw_2000, cw_3000, cw_3003, cw_3006, cw_4000, cw_5000, cw_6000, cw_7000, cw_8000, cw_9000, cw_10000, cw_13500, cw_17000, cw_17100, cw_17103, cw_17106, cw_19000, cw_20100, cw_21100, cw_23000, cw_24000, lc_13500, lc_15000, lc_16000, lc_17000, lc_17100, lc_17103, lc_17106, lc_19000, lc_20000, lc_20001, lc_20100, lc_21000, lc_21100, lc_22000, lc_23000, lc_24000, lc_25000, gd_t, w_eq, w1, w2, w3, w4, w5, w6, e1, e2', t1, z]
theorem cl_5 (hs : ∀ i, r32 (sc i)) (hn : 0 ≤ n ∧ n < 600) (hk : 0 ≤ k) (hk2 : k + 5 < sl) (hl : sl ≤ 3072) (j : JJ n C N A) : ∃ C1 N1 A1, c_L_5 (k, mk C N A) sl sc = some (.inl (k + 6, mk C1 N1 A1)) ∧ JJ (n + 1) C1 N1 A1 := by
  have w1 : w (k + 1) = k + 1 := w_eq (by omega) (by omega)
  have w2 : w (k + 2) = k + 2 := w_eq (by omega) (by omega)
  have w3 : w (k + 3) = k + 3 := w_eq (by omega) (by omega)
  have w4 : w (k + 4) = k + 4 := w_eq (by omega) (by omega)
  have w5 : w (k + 5) = k + 5 := w_eq (by omega) (by omega)
  have w6 : w (k + 6) = k + 6 := w_eq (by omega) (by omega)
  have q : SR n C N A (p_L_fetch (mk C N A) 11000 (sc (k + 1)) 15000) (fun M => p_X11_fetch M 12000 (sc (k + 1))) := q_fetch j
  obtain ⟨kk, C1, A1, e1, v, N1, e2, e3, e4, jj⟩ := q
  have e2' : p_X11_fetch (mk C1 N A1) 12000 (sc (k + 1)) = some (v, mk C1 N1 A1) := e2
  have t1 : p_X11_thrown (mk C1 N1 A1) 12000 = some kk := by
      unfold p_X11_thrown
      rw [pt_0, e3]
  refine ⟨C1, N1, A1, ?_, jj⟩
  unfold c_L_5
  by_cases z : kk = 0
  · have q4 := e4 z
    simp (disch := omega) only [aok, up_s, true_and, false_and, and_true, and_false, if_true, if_false, ↓reduceIte, ↓Option.bind_some, Int.reduceEq, Int.reduceNe, Int.reduceLT, Int.reduceLE, gd_true, gd_false, bind_b, q10, eq_self, reduceCtorEq, not_true_eq_false, not_false_eq_true, ne_eq, cr_11000, cr_15000, cr_16000, cr_20000, cr_20001, cr_21000, cr_22000, cr_25000, cr_1000, cr_2000, cr_3000, cr_3003, cr_3006, cr_4000, cr_5000, cr_6000, cr_7000, cr_8000, cr_9000, cr_10000, cr_13500, cr_17000, cr_17100, cr_17103, cr_17106, cr_19000, cr_20100, cr_21100, cr_23000, cr_24000, cw_11000, cw_15000, cw_16000, cw_20000, cw_20001, cw_21000, cw_22000, cw_25000, cw_1000, cw_2000, cw_3000, cw_3003, cw_3006, cw_4000, cw_5000, cw_6000, cw_7000, cw_8000, cw_9000, cw_10000, cw_13500, cw_17000, cw_17100, cw_17103, cw_17106, cw_19000, cw_20100, cw_21100, cw_23000, cw_24000, lc_13500, lc_15000, lc_16000, lc_17000, lc_17100, lc_17103, lc_17106, lc_19000, lc_20000, lc_20001, lc_20100, lc_21000, lc_21100, lc_22000, lc_23000, lc_24000, lc_25000, gd_t, w_eq, w1, w2, w3, w4, w5, w6, e1, e2', t1, z, q4, lcp_self]
  · simp (disch := omega) only [aok, up_s, true_and, false_and, and_true, and_false, if_true, if_false, ↓reduceIte, ↓Option.bind_some, Int.reduceEq, Int.reduceNe, Int.reduceLT, Int.reduceLE, gd_true, gd_false, bind_b, q10, eq_self, reduceCtorEq, not_true_eq_false, not_false_eq_true, ne_eq, cr_11000, cr_15000, cr_16000, cr_20000, cr_20001, cr_21000, cr_22000, cr_25000, cr_1000, cr_2000, cr_3000, cr_3003, cr_3006, cr_4000, cr_5000, cr_6000, cr_7000, cr_8000, cr_9000, cr_10000, cr_13500, cr_17000, cr_17100, cr_17103, cr_17106, cr_19000, cr_20100, cr_21100, cr_23000, cr_24000, cw_11000, cw_15000, cw_16000, cw_20000, cw_20001, cw_21000, cw_22000, cw_25000, cw_1000, cw_2000, cw_3000, cw_3003, cw_3006, cw_4000, cw_5000, cw_6000, cw_7000, cw_8000, cw_9000, cw_10000, cw_13500, cw_17000, cw_17100, cw_17103, cw_17106, cw_19000, cw_20100, cw_21100, cw_23000, cw_24000, lc_13500, lc_15000, lc_16000, lc_17000, lc_17100, lc_17103, lc_17106, lc_19000, lc_20000, lc_20001, lc_20100, lc_21000, lc_21100, lc_22000, lc_23000, lc_24000, lc_25000, gd_t, w_eq, w1, w2, w3, w4, w5, w6, e1, e2', t1, z]
theorem cl_6 (hs : ∀ i, r32 (sc i)) (hn : 0 ≤ n ∧ n < 600) (hk : 0 ≤ k) (hk2 : k + 5 < sl) (hl : sl ≤ 3072) (j : JJ n C N A) : ∃ C1 N1 A1, c_L_6 (k, mk C N A) sl sc = some (.inl (k + 6, mk C1 N1 A1)) ∧ JJ (n + 1) C1 N1 A1 := by
  have w1 : w (k + 1) = k + 1 := w_eq (by omega) (by omega)
  have w2 : w (k + 2) = k + 2 := w_eq (by omega) (by omega)
  have w3 : w (k + 3) = k + 3 := w_eq (by omega) (by omega)
  have w4 : w (k + 4) = k + 4 := w_eq (by omega) (by omega)
  have w5 : w (k + 5) = k + 5 := w_eq (by omega) (by omega)
  have w6 : w (k + 6) = k + 6 := w_eq (by omega) (by omega)
  have q : SR n C N A (p_L_speed (mk C N A) 11000 (sc (k + 1)) 15000) (fun M => p_X11_speed M 12000 (sc (k + 1))) := q_speed j
  obtain ⟨kk, C1, A1, e1, v, N1, e2, e3, e4, jj⟩ := q
  have e2' : p_X11_speed (mk C1 N A1) 12000 (sc (k + 1)) = some (v, mk C1 N1 A1) := e2
  have t1 : p_X11_thrown (mk C1 N1 A1) 12000 = some kk := by
      unfold p_X11_thrown
      rw [pt_0, e3]
  refine ⟨C1, N1, A1, ?_, jj⟩
  unfold c_L_6
  by_cases z : kk = 0
  · have q4 := e4 z
    simp (disch := omega) only [aok, up_s, true_and, false_and, and_true, and_false, if_true, if_false, ↓reduceIte, ↓Option.bind_some, Int.reduceEq, Int.reduceNe, Int.reduceLT, Int.reduceLE, gd_true, gd_false, bind_b, q10, eq_self, reduceCtorEq, not_true_eq_false, not_false_eq_true, ne_eq, cr_11000, cr_15000, cr_16000, cr_20000, cr_20001, cr_21000, cr_22000, cr_25000, cr_1000, cr_2000, cr_3000, cr_3003, cr_3006, cr_4000, cr_5000, cr_6000, cr_7000, cr_8000, cr_9000, cr_10000, cr_13500, cr_17000, cr_17100, cr_17103, cr_17106, cr_19000, cr_20100, cr_21100, cr_23000, cr_24000, cw_11000, cw_15000, cw_16000, cw_20000, cw_20001, cw_21000, cw_22000, cw_25000, cw_1000, cw_2000, cw_3000, cw_3003, cw_3006, cw_4000, cw_5000, cw_6000, cw_7000, cw_8000, cw_9000, cw_10000, cw_13500, cw_17000, cw_17100, cw_17103, cw_17106, cw_19000, cw_20100, cw_21100, cw_23000, cw_24000, lc_13500, lc_15000, lc_16000, lc_17000, lc_17100, lc_17103, lc_17106, lc_19000, lc_20000, lc_20001, lc_20100, lc_21000, lc_21100, lc_22000, lc_23000, lc_24000, lc_25000, gd_t, w_eq, w1, w2, w3, w4, w5, w6, e1, e2', t1, z, q4, lcp_self]
  · simp (disch := omega) only [aok, up_s, true_and, false_and, and_true, and_false, if_true, if_false, ↓reduceIte, ↓Option.bind_some, Int.reduceEq, Int.reduceNe, Int.reduceLT, Int.reduceLE, gd_true, gd_false, bind_b, q10, eq_self, reduceCtorEq, not_true_eq_false, not_false_eq_true, ne_eq, cr_11000, cr_15000, cr_16000, cr_20000, cr_20001, cr_21000, cr_22000, cr_25000, cr_1000, cr_2000, cr_3000, cr_3003, cr_3006, cr_4000, cr_5000, cr_6000, cr_7000, cr_8000, cr_9000, cr_10000, cr_13500, cr_17000, cr_17100, cr_17103, cr_17106, cr_19000, cr_20100, cr_21100, cr_23000, cr_24000, cw_11000, cw_15000, cw_16000, cw_20000, cw_20001, cw_21000, cw_22000, cw_25000, cw_1000, cw_2000, cw_3000, cw_3003, cw_3006, cw_4000, cw_5000, cw_6000, cw_7000, cw_8000, cw_9000, cw_10000, cw_13500, cw_17000, cw_17100, cw_17103, cw_17106, cw_19000, cw_20100, cw_21100, cw_23000, cw_24000, lc_13500, lc_15000, lc_16000, lc_17000, lc_17100, lc_17103, lc_17106, lc_19000, lc_20000, lc_20001, lc_20100, lc_21000, lc_21100, lc_22000, lc_23000, lc_24000, lc_25000, gd_t, w_eq, w1, w2, w3, w4, w5, w6, e1, e2', t1, z]
theorem cl_7 (hs : ∀ i, r32 (sc i)) (hn : 0 ≤ n ∧ n < 600) (hk : 0 ≤ k) (hk2 : k + 5 < sl) (hl : sl ≤ 3072) (j : JJ n C N A) : ∃ C1 N1 A1, c_L_7 (k, mk C N A) sl sc = some (.inl (k + 6, mk C1 N1 A1)) ∧ JJ (n + 1) C1 N1 A1 := by
  have w1 : w (k + 1) = k + 1 := w_eq (by omega) (by omega)
  have w2 : w (k + 2) = k + 2 := w_eq (by omega) (by omega)
  have w3 : w (k + 3) = k + 3 := w_eq (by omega) (by omega)
  have w4 : w (k + 4) = k + 4 := w_eq (by omega) (by omega)
  have w5 : w (k + 5) = k + 5 := w_eq (by omega) (by omega)
  have w6 : w (k + 6) = k + 6 := w_eq (by omega) (by omega)
  have q : SR n C N A (p_L_tick (mk C N A) 11000 (sc (k + 1)) 15000) (fun M => p_X11_tick M 12000 (sc (k + 1))) := q_tick (by omega) j
  obtain ⟨kk, C1, A1, e1, v, N1, e2, e3, e4, jj⟩ := q
  have e2' : p_X11_tick (mk C1 N A1) 12000 (sc (k + 1)) = some (v, mk C1 N1 A1) := e2
  have t1 : p_X11_thrown (mk C1 N1 A1) 12000 = some kk := by
      unfold p_X11_thrown
      rw [pt_0, e3]
  refine ⟨C1, N1, A1, ?_, jj⟩
  unfold c_L_7
  by_cases z : kk = 0
  · have q4 := e4 z
    simp (disch := omega) only [aok, up_s, true_and, false_and, and_true, and_false, if_true, if_false, ↓reduceIte, ↓Option.bind_some, Int.reduceEq, Int.reduceNe, Int.reduceLT, Int.reduceLE, gd_true, gd_false, bind_b, q10, eq_self, reduceCtorEq, not_true_eq_false, not_false_eq_true, ne_eq, cr_11000, cr_15000, cr_16000, cr_20000, cr_20001, cr_21000, cr_22000, cr_25000, cr_1000, cr_2000, cr_3000, cr_3003, cr_3006, cr_4000, cr_5000, cr_6000, cr_7000, cr_8000, cr_9000, cr_10000, cr_13500, cr_17000, cr_17100, cr_17103, cr_17106, cr_19000, cr_20100, cr_21100, cr_23000, cr_24000, cw_11000, cw_15000, cw_16000, cw_20000, cw_20001, cw_21000, cw_22000, cw_25000, cw_1000, cw_2000, cw_3000, cw_3003, cw_3006, cw_4000, cw_5000, cw_6000, cw_7000, cw_8000, cw_9000, cw_10000, cw_13500, cw_17000, cw_17100, cw_17103, cw_17106, cw_19000, cw_20100, cw_21100, cw_23000, cw_24000, lc_13500, lc_15000, lc_16000, lc_17000, lc_17100, lc_17103, lc_17106, lc_19000, lc_20000, lc_20001, lc_20100, lc_21000, lc_21100, lc_22000, lc_23000, lc_24000, lc_25000, gd_t, w_eq, w1, w2, w3, w4, w5, w6, e1, e2', t1, z, q4, lcp_self]
  · simp (disch := omega) only [aok, up_s, true_and, false_and, and_true, and_false, if_true, if_false, ↓reduceIte, ↓Option.bind_some, Int.reduceEq, Int.reduceNe, Int.reduceLT, Int.reduceLE, gd_true, gd_false, bind_b, q10, eq_self, reduceCtorEq, not_true_eq_false, not_false_eq_true, ne_eq, cr_11000, cr_15000, cr_16000, cr_20000, cr_20001, cr_21000, cr_22000, cr_25000, cr_1000, cr_2000, cr_3000, cr_3003, cr_3006, cr_4000, cr_5000, cr_6000, cr_7000, cr_8000, cr_9000, cr_10000, cr_13500, cr_17000, cr_17100, cr_17103, cr_17106, cr_19000, cr_20100, cr_21100, cr_23000, cr_24000, cw_11000, cw_15000, cw_16000, cw_20000, cw_20001, cw_21000, cw_22000, cw_25000, cw_1000, cw_2000, cw_3000, cw_3003, cw_3006, cw_4000, cw_5000, cw_6000, cw_7000, cw_8000, cw_9000, cw_10000, cw_13500, cw_17000, cw_17100, cw_17103, cw_17106, cw_19000, cw_20100, cw_21100, cw_23000, cw_24000, lc_13500, lc_15000, lc_16000, lc_17000, lc_17100, lc_17103, lc_17106, lc_19000, lc_20000, lc_20001, lc_20100, lc_21000, lc_21100, lc_22000, lc_23000, lc_24000, lc_25000, gd_t, w_eq, w1, w2, w3, w4, w5, w6, e1, e2', t1, z]
theorem cl_8 (hs : ∀ i, r32 (sc i)) (hn : 0 ≤ n ∧ n < 600) (hk : 0 ≤ k) (hk2 : k + 5 < sl) (hl : sl ≤ 3072) (j : JJ n C N A) : ∃ C1 N1 A1, c_L_8 (k, mk C N A) = some (.inl (k + 6, mk C1 N1 A1)) ∧ JJ (n + 1) C1 N1 A1 := by
  have w1 : w (k + 1) = k + 1 := w_eq (by omega) (by omega)
  have w2 : w (k + 2) = k + 2 := w_eq (by omega) (by omega)
  have w3 : w (k + 3) = k + 3 := w_eq (by omega) (by omega)
  have w4 : w (k + 4) = k + 4 := w_eq (by omega) (by omega)
  have w5 : w (k + 5) = k + 5 := w_eq (by omega) (by omega)
  have w6 : w (k + 6) = k + 6 := w_eq (by omega) (by omega)
  have q : SR n C N A (p_L_producer (mk C N A) 11000 15000) (fun M => p_X11_producer M 12000 ) := q_producer j
  obtain ⟨kk, C1, A1, e1, v, N1, e2, e3, e4, jj⟩ := q
  have e2' : p_X11_producer (mk C1 N A1) 12000 = some (v, mk C1 N1 A1) := e2
  have t1 : p_X11_thrown (mk C1 N1 A1) 12000 = some kk := by
      unfold p_X11_thrown
      rw [pt_0, e3]
  refine ⟨C1, N1, A1, ?_, jj⟩
  unfold c_L_8
  by_cases z : kk = 0
  · have q4 := e4 z
    simp (disch := omega) only [aok, up_s, true_and, false_and, and_true, and_false, if_true, if_false, ↓reduceIte, ↓Option.bind_some, Int.reduceEq, Int.reduceNe, Int.reduceLT, Int.reduceLE, gd_true, gd_false, bind_b, q10, eq_self, reduceCtorEq, not_true_eq_false, not_false_eq_true, ne_eq, cr_11000, cr_15000, cr_16000, cr_20000, cr_20001, cr_21000, cr_22000, cr_25000, cr_1000, cr_2000, cr_3000, cr_3003, cr_3006, cr_4000, cr_5000, cr_6000, cr_7000, cr_8000, cr_9000, cr_10000, cr_13500, cr_17000, cr_17100, cr_17103, cr_17106, cr_19000, cr_20100, cr_21100, cr_23000, cr_24000, cw_11000, cw_15000, cw_16000, cw_20000, cw_20001, cw_21000, cw_22000, cw_25000, cw_1000, cw_2000, cw_3000, cw_3003, cw_3006, cw_4000, cw_5000, cw_6000, cw_7000, cw_8000, cw_9000, cw_10000, cw_13500, cw_17000, cw_17100, cw_17103, cw_17106, cw_19000, cw_20100, cw_21100, cw_23000, cw_24000, lc_13500, lc_15000, lc_16000, lc_17000, lc_17100, lc_17103, lc_17106, lc_19000, lc_20000, lc_20001, lc_20100, lc_21000, lc_21100, lc_22000, lc_23000, lc_24000, lc_25000, gd_t, w_eq, w1, w2, w3, w4, w5, w6, e1, e2', t1, z, q4, lcp_self]
  · simp (disch := omega) only [aok, up_s, true_and, false_and, and_true, and_false, if_true, if_false, ↓reduceIte, ↓Option.bind_some, Int.reduceEq, Int.reduceNe, Int.reduceLT, Int.reduceLE, gd_true, gd_false, bind_b, q10, eq_self, reduceCtorEq, not_true_eq_false, not_false_eq_true, ne_eq, cr_11000, cr_15000, cr_16000, cr_20000, cr_20001, cr_21000, cr_22000, cr_25000, cr_1000, cr_2000, cr_3000, cr_3003, cr_3006, cr_4000, cr_5000, cr_6000, cr_7000, cr_8000, cr_9000, cr_10000, cr_13500, cr_17000, cr_17100, cr_17103, cr_17106, cr_19000, cr_20100, cr_21100, cr_23000, cr_24000, cw_11000, cw_15000, cw_16000, cw_20000, cw_20001, cw_21000, cw_22000, cw_25000, cw_1000, cw_2000, cw_3000, cw_3003, cw_3006, cw_4000, cw_5000, cw_6000, cw_7000, cw_8000, cw_9000, cw_10000, cw_13500, cw_17000, cw_17100, cw_17103, cw_17106, cw_19000, cw_20100, cw_21100, cw_23000, cw_24000, lc_13500, lc_15000, lc_16000, lc_17000, lc_17100, lc_17103, lc_17106, lc_19000, lc_20000, lc_20001, lc_20100, lc_21000, lc_21100, lc_22000, lc_23000, lc_24000, lc_25000, gd_t, w_eq, w1, w2, w3, w4, w5, w6, e1, e2', t1, z]
theorem cl_9 (hs : ∀ i, r32 (sc i)) (hn : 0 ≤ n ∧ n < 600) (hk : 0 ≤ k) (hk2 : k + 5 < sl) (hl : sl ≤ 3072) (j : JJ n C N A) : ∃ C1 N1 A1, c_L_9 (k, mk C N A) sl sc = some (.inl (k + 6, mk C1 N1 A1)) ∧ JJ (n + 1) C1 N1 A1 := by
  have w1 : w (k + 1) = k + 1 := w_eq (by omega) (by omega)
  have w2 : w (k + 2) = k + 2 := w_eq (by omega) (by omega)
  have w3 : w (k + 3) = k + 3 := w_eq (by omega) (by omega)
  have w4 : w (k + 4) = k + 4 := w_eq (by omega) (by omega)
  have w5 : w (k + 5) = k + 5 := w_eq (by omega) (by omega)
  have w6 : w (k + 6) = k + 6 := w_eq (by omega) (by omega)
  have q : SR n C N A (p_L_quota (mk C N A) 11000 (sc (k + 1)) (sc (k + 2)) 15000) (fun M => p_X11_quota M 12000 (sc (k + 1)) (sc (k + 2))) := q_quota j
  obtain ⟨kk, C1, A1, e1, v, N1, e2, e3, e4, jj⟩ := q
  have e2' : p_X11_quota (mk C1 N A1) 12000 (sc (k + 1)) (sc (k + 2)) = some (v, mk C1 N1 A1) := e2
  have t1 : p_X11_thrown (mk C1 N1 A1) 12000 = some kk := by
      unfold p_X11_thrown
      rw [pt_0, e3]
  refine ⟨C1, N1, A1, ?_, jj⟩
  unfold c_L_9
  by_cases z : kk = 0
  · have q4 := e4 z
    simp (disch := omega) only [aok, up_s, true_and, false_and, and_true, and_false, if_true, if_false, ↓reduceIte, ↓Option.bind_some, Int.reduceEq, Int.reduceNe, Int.reduceLT, Int.reduceLE, gd_true, gd_false, bind_b, q10, eq_self, reduceCtorEq, not_true_eq_false, not_false_eq_true, ne_eq, cr_11000, cr_15000, cr_16000, cr_20000, cr_20001, cr_21000, cr_22000, cr_25000, cr_1000, cr_2000, cr_3000, cr_3003, cr_3006, cr_4000, cr_5000, cr_6000, cr_7000, cr_8000, cr_9000, cr_10000, cr_13500, cr_17000, cr_17100, cr_17103, cr_17106, cr_19000, cr_20100, cr_21100, cr_23000, cr_24000, cw_11000, cw_15000, cw_16000, cw_20000, cw_20001, cw_21000, cw_22000, cw_25000, cw_1000, cw_2000, cw_3000, cw_3003, cw_3006, cw_4000, cw_5000, cw_6000, cw_7000, cw_8000, cw_9000, cw_10000, cw_13500, cw_17000, cw_17100, cw_17103, cw_17106, cw_19000, cw_20100, cw_21100, cw_23000, cw_24000, lc_13500, lc_15000, lc_16000, lc_17000, lc_17100, lc_17103, lc_17106, lc_19000, lc_20000, lc_20001, lc_20100, lc_21000, lc_21100, lc_22000, lc_23000, lc_24000, lc_25000, gd_t, w_eq, w1, w2, w3, w4, w5, w6, e1, e2', t1, z, q4, lcp_self]
  · simp (disch := omega) only [aok, up_s, true_and, false_and, and_true, and_false, if_true, if_false, ↓reduceIte, ↓Option.bind_some, Int.reduceEq, Int.reduceNe, Int.reduceLT, Int.reduceLE, gd_true, gd_false, bind_b, q10, eq_self, reduceCtorEq, not_true_eq_false, not_false_eq_true, ne_eq, cr_11000, cr_15000, cr_16000, cr_20000, cr_20001, cr_21000, cr_22000, cr_25000, cr_1000, cr_2000, cr_3000, cr_3003, cr_3006, cr_4000, cr_5000, cr_6000, cr_7000, cr_8000, cr_9000, cr_10000, cr_13500, cr_17000, cr_17100, cr_17103, cr_17106, cr_19000, cr_20100, cr_21100, cr_23000, cr_24000, cw_11000, cw_15000, cw_16000, cw_20000, cw_20001, cw_21000, cw_22000, cw_25000, cw_1000, cw_2000, cw_3000, cw_3003, cw_3006, cw_4000, cw_5000, cw_6000, cw_7000, cw_8000, cw_9000, cw_10000, cw_13500, cw_17000, cw_17100, cw_17103, cw_17106, cw_19000, cw_20100, cw_21100, cw_23000, cw_24000, lc_13500, lc_15000, lc_16000, lc_17000, lc_17100, lc_17103, lc_17106, lc_19000, lc_20000, lc_20001, lc_20100, lc_21000, lc_21100, lc_22000, lc_23000, lc_24000, lc_25000, gd_t, w_eq, w1, w2, w3, w4, w5, w6, e1, e2', t1, z]
theorem cl_10 (hs : ∀ i, r32 (sc i)) (hn : 0 ≤ n ∧ n < 600) (hk : 0 ≤ k) (hk2 : k + 5 < sl) (hl : sl ≤ 3072) (j : JJ n C N A) : ∃ C1 N1 A1, c_L_10 (k, mk C N A) sl sc = some (.inl (k + 6, mk C1 N1 A1)) ∧ JJ (n + 1) C1 N1 A1 := by
  have w1 : w (k + 1) = k + 1 := w_eq (by omega) (by omega)
  have w2 : w (k + 2) = k + 2 := w_eq (by omega) (by omega)
  have w3 : w (k + 3) = k + 3 := w_eq (by omega) (by omega)
  have w4 : w (k + 4) = k + 4 := w_eq (by omega) (by omega)
  have w5 : w (k + 5) = k + 5 := w_eq (by omega) (by omega)
  have w6 : w (k + 6) = k + 6 := w_eq (by omega) (by omega)
  have q : SR n C N A (p_L_send (mk C N A) 11000 (sc (k + 1)) (sc (k + 2)) (sc (k + 3)) (sc (k + 4)) 15000) (fun M => p_X11_send M 12000 (sc (k + 1)) (sc (k + 2)) (sc (k + 3)) (sc (k + 4))) := q_send (hs (k + 3)) j
  obtain ⟨kk, C1, A1, e1, v, N1, e2, e3, e4, jj⟩ := q
  have e2' : p_X11_send (mk C1 N A1) 12000 (sc (k + 1)) (sc (k + 2)) (sc (k + 3)) (sc (k + 4)) = some (v, mk C1 N1 A1) := e2
  have t1 : p_X11_thrown (mk C1 N1 A1) 12000 = some kk := by
      unfold p_X11_thrown
      rw [pt_0, e3]
  refine ⟨C1, N1, A1, ?_, jj⟩
  unfold c_L_10
  by_cases z : kk = 0
  · have q4 := e4 z
    simp (disch := omega) only [aok, up_s, true_and, false_and, and_true, and_false, if_true, if_false, ↓reduceIte, ↓Option.bind_some, Int.reduceEq, Int.reduceNe, Int.reduceLT, Int.reduceLE, gd_true, gd_false, bind_b, q10, eq_self, reduceCtorEq, not_true_eq_false, not_false_eq_true, ne_eq, cr_11000, cr_15000, cr_16000, cr_20000, cr_20001, cr_21000, cr_22000, cr_25000, cr_1000, cr_2000, cr_3000, cr_3003, cr_3006, cr_4000, cr_5000, cr_6000, cr_7000, cr_8000, cr_9000, cr_10000, cr_13500, cr_17000, cr_17100, cr_17103, cr_17106, cr_19000, cr_20100, cr_21100, cr_23000, cr_24000, cw_11000, cw_15000, cw_16000, cw_20000, cw_20001, cw_21000, cw_22000, cw_25000, cw_1000, cw_2000, cw_3000, cw_3003, cw_3006, cw_4000, cw_5000, cw_6000, cw_7000, cw_8000, cw_9000, cw_10000, cw_13500, cw_17000, cw_17100, cw_17103, cw_17106, cw_19000, cw_20100, cw_21100, cw_23000, cw_24000, lc_13500, lc_15000, lc_16000, lc_17000, lc_17100, lc_17103, lc_17106, lc_19000, lc_20000, lc_20001, lc_20100, lc_21000, lc_21100, lc_22000, lc_23000, lc_24000, lc_25000, gd_t, w_eq, w1, w2, w3, w4, w5, w6, e1, e2', t1, z, q4, lcp_self]
  · simp (disch := omega) only [aok, up_s, true_and, false_and, and_true, and_false, if_true, if_false, ↓reduceIte, ↓Option.bind_some, Int.reduceEq, Int.reduceNe, Int.reduceLT, Int.reduceLE, gd_true, gd_false, bind_b, q10, eq_self, reduceCtorEq, not_true_eq_false, not_false_eq_true, ne_eq, cr_11000, cr_15000, cr_16000, cr_20000, cr_20001, cr_21000, cr_22000, cr_25000, cr_1000, cr_2000, cr_3000, cr_3003, cr_3006, cr_4000, cr_5000, cr_6000, cr_7000, cr_8000, cr_9000, cr_10000, cr_13500, cr_17000, cr_17100, cr_17103, cr_17106, cr_19000, cr_20100, cr_21100, cr_23000, cr_24000, cw_11000, cw_15000, cw_16000, cw_20000, cw_20001, cw_21000, cw_22000, cw_25000, cw_1000, cw_2000, cw_3000, cw_3003, cw_3006, cw_4000, cw_5000, cw_6000, cw_7000, cw_8000, cw_9000, cw_10000, cw_13500, cw_17000, cw_17100, cw_17103, cw_17106, cw_19000, cw_20100, cw_21100, cw_23000, cw_24000, lc_13500, lc_15000, lc_16000, lc_17000, lc_17100, lc_17103, lc_17106, lc_19000, lc_20000, lc_20001, lc_20100, lc_21000, lc_21100, lc_22000, lc_23000, lc_24000, lc_25000, gd_t, w_eq, w1, w2, w3, w4, w5, w6, e1, e2', t1, z]
theorem cl_11 (hs : ∀ i, r32 (sc i)) (hn : 0 ≤ n ∧ n < 600) (hk : 0 ≤ k) (hk2 : k + 5 < sl) (hl : sl ≤ 3072) (j : JJ n C N A) : ∃ C1 N1 A1, c_L_11 (k, mk C N A) sl sc = some (.inl (k + 6, mk C1 N1 A1)) ∧ JJ (n + 1) C1 N1 A1 := by
  have w1 : w (k + 1) = k + 1 := w_eq (by omega) (by omega)
  have w2 : w (k + 2) = k + 2 := w_eq (by omega) (by omega)
  have w3 : w (k + 3) = k + 3 := w_eq (by omega) (by omega)
  have w4 : w (k + 4) = k + 4 := w_eq (by omega) (by omega)
  have w5 : w (k + 5) = k + 5 := w_eq (by omega) (by omega)
  have w6 : w (k + 6) = k + 6 := w_eq (by omega) (by omega)
  have q : SR n C N A (p_L_sendSome (mk C N A) 11000 (sc (k + 1)) (sc (k + 2)) (sc (k + 3)) (sc (k + 4)) 15000) (fun M => p_X11_sendSome M 12000 (sc (k + 1)) (sc (k + 2)) (sc (k + 3)) (sc (k + 4))) := q_sendSome j
  obtain ⟨kk, C1, A1, e1, v, N1, e2, e3, e4, jj⟩ := q
  have e2' : p_X11_sendSome (mk C1 N A1) 12000 (sc (k + 1)) (sc (k + 2)) (sc (k + 3)) (sc (k + 4)) = some (v, mk C1 N1 A1) := e2
  have t1 : p_X11_thrown (mk C1 N1 A1) 12000 = some kk := by
      unfold p_X11_thrown
      rw [pt_0, e3]
  refine ⟨C1, N1, A1, ?_, jj⟩
  unfold c_L_11
  by_cases z : kk = 0
  · have q4 := e4 z
    simp (disch := omega) only [aok, up_s, true_and, false_and, and_true, and_false, if_true, if_false, ↓reduceIte, ↓Option.bind_some, Int.reduceEq, Int.reduceNe, Int.reduceLT, Int.reduceLE, gd_true, gd_false, bind_b, q10, eq_self, reduceCtorEq, not_true_eq_false, not_false_eq_true, ne_eq, cr_11000, cr_15000, cr_16000, cr_20000, cr_20001, cr_21000, cr_22000, cr_25000, cr_1000, cr_2000, cr_3000, cr_3003, cr_3006, cr_4000, cr_5000, cr_6000, cr_7000, cr_8000, cr_9000, cr_10000, cr_13500, cr_17000, cr_17100, cr_17103, cr_17106, cr_19000, cr_20100, cr_21100, cr_23000, cr_24000, cw_11000, cw_15000, cw_16000, cw_20000, cw_20001, cw_21000, cw_22000, cw_25000, cw_1000, cw_2000, cw_3000, cw_3003, cw_3006, cw_4000, cw_5000, cw_6000, cw_7000, cw_8000, cw_9000, cw_10000, cw_13500, cw_17000, cw_17100, cw_17103, cw_17106, cw_19000, cw_20100, cw_21100, cw_23000, cw_24000, lc_13500, lc_15000, lc_16000, lc_17000, lc_17100, lc_17103, lc_17106, lc_19000, lc_20000, lc_20001, lc_20100, lc_21000, lc_21100, lc_22000, lc_23000, lc_24000, lc_25000, gd_t, w_eq, w1, w2, w3, w4, w5, w6, e1, e2', t1, z, q4, lcp_self]
  · simp (disch := omega) only [aok, up_s, true_and, false_and, and_true, and_false, if_true, if_false, ↓reduceIte, ↓Option.bind_some, Int.reduceEq, Int.reduceNe, Int.reduceLT, Int.reduceLE, gd_true, gd_false, bind_b, q10, eq_self, reduceCtorEq, not_true_eq_false, not_false_eq_true, ne_eq, cr_11000, cr_15000, cr_16000, cr_20000, cr_20001, cr_21000, cr_22000, cr_25000, cr_1000, cr_2000, cr_3000, cr_3003, cr_3006, cr_4000, cr_5000, cr_6000, cr_7000, cr_8000, cr_9000, cr_10000, cr_13500, cr_17000, cr_17100, cr_17103, cr_17106, cr_19000, cr_20100, cr_21100, cr_23000, cr_24000, cw_11000, cw_15000, cw_16000, cw_20000, cw_20001, cw_21000, cw_22000, cw_25000, cw_1000, cw_2000, cw_3000, cw_3003, cw_3006, cw_4000, cw_5000, cw_6000, cw_7000, cw_8000, cw_9000, cw_10000, cw_13500, cw_17000, cw_17100, cw_17103, cw_17106, cw_19000, cw_20100, cw_21100, cw_23000, cw_24000, lc_13500, lc_15000, lc_16000, lc_17000, lc_17100, lc_17103, lc_17106, lc_19000, lc_20000, lc_20001, lc_20100, lc_21000, lc_21100, lc_22000, lc_23000, lc_24000, lc_25000, gd_t, w_eq, w1, w2, w3, w4, w5, w6, e1, e2', t1, z]
theorem cl_12 (hs : ∀ i, r32 (sc i)) (hn : 0 ≤ n ∧ n < 600) (hk : 0 ≤ k) (hk2 : k + 5 < sl) (hl : sl ≤ 3072) (j : JJ n C N A) : ∃ C1 N1 A1, c_L_12 (k, mk C N A) sl sc = some (.inl (k + 6, mk C1 N1 A1)) ∧ JJ (n + 1) C1 N1 A1 := by
  have w1 : w (k + 1) = k + 1 := w_eq (by omega) (by omega)
  have w2 : w (k + 2) = k + 2 := w_eq (by omega) (by omega)
  have w3 : w (k + 3) = k + 3 := w_eq (by omega) (by omega)
  have w4 : w (k + 4) = k + 4 := w_eq (by omega) (by omega)
  have w5 : w (k + 5) = k + 5 := w_eq (by omega) (by omega)
  have w6 : w (k + 6) = k + 6 := w_eq (by omega) (by omega)
  have q : SR n C N A (p_L_sendLater (mk C N A) 11000 (sc (k + 1)) (sc (k + 2)) (sc (k + 3)) (sc (k + 4)) (sc (k + 5)) 15000) (fun M => p_X11_sendLater M 12000 (sc (k + 1)) (sc (k + 2)) (sc (k + 3)) (sc (k + 4)) (sc (k + 5))) := q_sendLater (hs (k + 3)) j
  obtain ⟨kk, C1, A1, e1, v, N1, e2, e3, e4, jj⟩ := q
  have e2' : p_X11_sendLater (mk C1 N A1) 12000 (sc (k + 1)) (sc (k + 2)) (sc (k + 3)) (sc (k + 4)) (sc (k + 5)) = some (v, mk C1 N1 A1) := e2
  have t1 : p_X11_thrown (mk C1 N1 A1) 12000 = some kk := by
      unfold p_X11_thrown
      rw [pt_0, e3]
  refine ⟨C1, N1, A1, ?_, jj⟩
  unfold c_L_12
  by_cases z : kk = 0
  · have q4 := e4 z
    simp (disch := omega) only [aok, up_s, true_and, false_and, and_true, and_false, if_true, if_false, ↓reduceIte, ↓Option.bind_some, Int.reduceEq, Int.reduceNe, Int.reduceLT, Int.reduceLE, gd_true, gd_false, bind_b, q10, eq_self, reduceCtorEq, not_true_eq_false, not_false_eq_true, ne_eq, cr_11000, cr_15000, cr_16000, cr_20000, cr_20001, cr_21000, cr_22000, cr_25000, cr_1000, cr_2000, cr_3000, cr_3003, cr_3006, cr_4000, cr_5000, cr_6000, cr_7000, cr_8000, cr_9000, cr_10000, cr_13500, cr_17000, cr_17100, cr_17103, cr_17106, cr_19000, cr_20100, cr_21100, cr_23000, cr_24000, cw_11000, cw_15000, cw_16000, cw_20000, cw_20001, cw_21000, cw_22000, cw_25000, cw_1000, cw_2000, cw_3000, cw_3003, cw_3006, cw_4000, cw_5000, cw_6000, cw_7000, cw_8000, cw_9000, cw_10000, cw_13500, cw_17000, cw_17100, cw_17103, cw_17106, cw_19000, cw_20100, cw_21100, cw_23000, cw_24000, lc_13500, lc_15000, lc_16000, lc_17000, lc_17100, lc_17103, lc_17106, lc_19000, lc_20000, lc_20001, lc_20100, lc_21000, lc_21100, lc_22000, lc_23000, lc_24000, lc_25000, gd_t, w_eq, w1, w2, w3, w4, w5, w6, e1, e2', t1, z, q4, lcp_self]
  · simp (disch := omega) only [aok, up_s, true_and, false_and, and_true, and_false, if_true, if_false, ↓reduceIte, ↓Option.bind_some, Int.reduceEq, Int.reduceNe, Int.reduceLT, Int.reduceLE, gd_true, gd_false, bind_b, q10, eq_self, reduceCtorEq, not_true_eq_false, not_false_eq_true, ne_eq, cr_11000, cr_15000, cr_16000, cr_20000, cr_20001, cr_21000, cr_22000, cr_25000, cr_1000, cr_2000, cr_3000, cr_3003, cr_3006, cr_4000, cr_5000, cr_6000, cr_7000, cr_8000, cr_9000, cr_10000, cr_13500, cr_17000, cr_17100, cr_17103, cr_17106, cr_19000, cr_20100, cr_21100, cr_23000, cr_24000, cw_11000, cw_15000, cw_16000, cw_20000, cw_20001, cw_21000, cw_22000, cw_25000, cw_1000, cw_2000, cw_3000, cw_3003, cw_3006, cw_4000, cw_5000, cw_6000, cw_7000, cw_8000, cw_9000, cw_10000, cw_13500, cw_17000, cw_17100, cw_17103, cw_17106, cw_19000, cw_20100, cw_21100, cw_23000, cw_24000, lc_13500, lc_15000, lc_16000, lc_17000, lc_17100, lc_17103, lc_17106, lc_19000, lc_20000, lc_20001, lc_20100, lc_21000, lc_21100, lc_22000, lc_23000, lc_24000, lc_25000, gd_t, w_eq, w1, w2, w3, w4, w5, w6, e1, e2', t1, z]
theorem cl_13 (hs : ∀ i, r32 (sc i)) (hn : 0 ≤ n ∧ n < 600) (hk : 0 ≤ k) (hk2 : k + 5 < sl) (hl : sl ≤ 3072) (j : JJ n C N A) : ∃ C1 N1 A1, c_L_13 (k, mk C N A) sl sc = some (.inl (k + 6, mk C1 N1 A1)) ∧ JJ (n + 1) C1 N1 A1 := by
  have w1 : w (k + 1) = k + 1 := w_eq (by omega) (by omega)
  have w2 : w (k + 2) = k + 2 := w_eq (by omega) (by omega)
  have w3 : w (k + 3) = k + 3 := w_eq (by omega) (by omega)
  have w4 : w (k + 4) = k + 4 := w_eq (by omega) (by omega)
  have w5 : w (k + 5) = k + 5 := w_eq (by omega) (by omega)
  have w6 : w (k + 6) = k + 6 := w_eq (by omega) (by omega)
  have q : SR n C N A (p_L_resend (mk C N A) 11000 (sc (k + 1)) (sc (k + 2)) 15000) (fun M => p_X11_resend M 12000 (sc (k + 1)) (sc (k + 2))) := q_resend j
  obtain ⟨kk, C1, A1, e1, v, N1, e2, e3, e4, jj⟩ := q
  have e2' : p_X11_resend (mk C1 N A1) 12000 (sc (k + 1)) (sc (k + 2)) = some (v, mk C1 N1 A1) := e2
  have t1 : p_X11_thrown (mk C1 N1 A1) 12000 = some kk := by
      unfold p_X11_thrown
      rw [pt_0, e3]
  refine ⟨C1, N1, A1, ?_, jj⟩
  unfold c_L_13
  by_cases z : kk = 0
  · have q4 := e4 z
    simp (disch := omega) only [aok, up_s, true_and, false_and, and_true, and_false, if_true, if_false, ↓reduceIte, ↓Option.bind_some, Int.reduceEq, Int.reduceNe, Int.reduceLT, Int.reduceLE, gd_true, gd_false, bind_b, q10, eq_self, reduceCtorEq, not_true_eq_false, not_false_eq_true, ne_eq, cr_11000, cr_15000, cr_16000, cr_20000, cr_20001, cr_21000, cr_22000, cr_25000, cr_1000, cr_2000, cr_3000, cr_3003, cr_3006, cr_4000, cr_5000, cr_6000, cr_7000, cr_8000, cr_9000, cr_10000, cr_13500, cr_17000, cr_17100, cr_17103, cr_17106, cr_19000, cr_20100, cr_21100, cr_23000, cr_24000, cw_11000, cw_15000, cw_16000, cw_20000, cw_20001, cw_21000, cw_22000, cw_25000, cw_1000, cw_2000, cw_3000, cw_3003, cw_3006, cw_4000, cw_5000, cw_6000, cw_7000, cw_8000, cw_9000, cw_10000, cw_13500, cw_17000, cw_17100, cw_17103, cw_17106, cw_19000, cw_20100, cw_21100, cw_23000, cw_24000, lc_13500, lc_15000, lc_16000, lc_17000, lc_17100, lc_17103, lc_17106, lc_19000, lc_20000, lc_20001, lc_20100, lc_21000, lc_21100, lc_22000, lc_23000, lc_24000, lc_25000, gd_t, w_eq, w1, w2, w3, w4, w5, w6, e1, e2', t1, z, q4, lcp_self]
  · simp (disch := omega) only [aok, up_s, true_and, false_and, and_true, and_false, if_true, if_false, ↓reduceIte, ↓Option.bind_some, Int.reduceEq, Int.reduceNe, Int.reduceLT, Int.reduceLE, gd_true, gd_false, bind_b, q10, eq_self, reduceCtorEq, not_true_eq_false, not_false_eq_true, ne_eq, cr_11000, cr_15000, cr_16000, cr_20000, cr_20001, cr_21000, cr_22000, cr_25000, cr_1000, cr_2000, cr_3000, cr_3003, cr_3006, cr_4000, cr_5000, cr_6000, cr_7000, cr_8000, cr_9000, cr_10000, cr_13500, cr_17000, cr_17100, cr_17103, cr_17106, cr_19000, cr_20100, cr_21100, cr_23000, cr_24000, cw_11000, cw_15000, cw_16000, cw_20000, cw_20001, cw_21000, cw_22000, cw_25000, cw_1000, cw_2000, cw_3000, cw_3003, cw_3006, cw_4000, cw_5000, cw_6000, cw_7000, cw_8000, cw_9000, cw_10000, cw_13500, cw_17000, cw_17100, cw_17103, cw_17106, cw_19000, cw_20100, cw_21100, cw_23000, cw_24000, lc_13500, lc_15000, lc_16000, lc_17000, lc_17100, lc_17103, lc_17106, lc_19000, lc_20000, lc_20001, lc_20100, lc_21000, lc_21100, lc_22000, lc_23000, lc_24000, lc_25000, gd_t, w_eq, w1, w2, w3, w4, w5, w6, e1, e2', t1, z]
theorem cl_14 (hs : ∀ i, r32 (sc i)) (hn : 0 ≤ n ∧ n < 600) (hk : 0 ≤ k) (hk2 : k + 5 < sl) (hl : sl ≤ 3072) (j : JJ n C N A) : ∃ C1 N1 A1, c_L_14 (k, mk C N A) sl sc = some (.inl (k + 6, mk C1 N1 A1)) ∧ JJ (n + 1) C1 N1 A1 := by
  have w1 : w (k + 1) = k + 1 := w_eq (by omega) (by omega)
  have w2 : w (k + 2) = k + 2 := w_eq (by omega) (by omega)
  have w3 : w (k + 3) = k + 3 := w_eq (by omega) (by omega)
  have w4 : w (k + 4) = k + 4 := w_eq (by omega) (by omega)
  have w5 : w (k + 5) = k + 5 := w_eq (by omega) (by omega)
  have w6 : w (k + 6) = k + 6 := w_eq (by omega) (by omega)
  have q : SR n C N A (p_L_begin (mk C N A) 11000 (sc (k + 1)) 15000) (fun M => p_X11_begin M 12000 (sc (k + 1))) := q_begin (by omega) j
  obtain ⟨kk, C1, A1, e1, v, N1, e2, e3, e4, jj⟩ := q
  have e2' : p_X11_begin (mk C1 N A1) 12000 (sc (k + 1)) = some (v, mk C1 N1 A1) := e2
  have t1 : p_X11_thrown (mk C1 N1 A1) 12000 = some kk := by
      unfold p_X11_thrown
      rw [pt_0, e3]
  refine ⟨C1, N1, A1, ?_, jj⟩
  unfold c_L_14
  by_cases z : kk = 0
  · have q4 := e4 z
    simp (disch := omega) only [aok, up_s, true_and, false_and, and_true, and_false, if_true, if_false, ↓reduceIte, ↓Option.bind_some, Int.reduceEq, Int.reduceNe, Int.reduceLT, Int.reduceLE, gd_true, gd_false, bind_b, q10, eq_self, reduceCtorEq, not_true_eq_false, not_false_eq_true, ne_eq, cr_11000, cr_15000, cr_16000, cr_20000, cr_20001, cr_21000, cr_22000, cr_25000, cr_1000, cr_2000, cr_3000, cr_3003, cr_3006, cr_4000, cr_5000, cr_6000, cr_7000, cr_8000, cr_9000, cr_10000, cr_13500, cr_17000, cr_17100, cr_17103, cr_17106, cr_19000, cr_20100, cr_21100, cr_23000, cr_24000, cw_11000, cw_15000, cw_16000, cw_20000, cw_20001, cw_21000, cw_22000, cw_25000, cw_1000, cw_2000, cw_3000, cw_3003, cw_3006, cw_4000, cw_5000, cw_6000, cw_7000, cw_8000, cw_9000, cw_10000, cw_13500, cw_17000, cw_17100, cw_17103, cw_17106, cw_19000, cw_20100, cw_21100, cw_23000, cw_24000, lc_13500, lc_15000, lc_16000, lc_17000, lc_17100, lc_17103, lc_17106, lc_19000, lc_20000, lc_20001, lc_20100, lc_21000, lc_21100, lc_22000, lc_23000, lc_24000, lc_25000, gd_t, w_eq, w1, w2, w3, w4, w5, w6, e1, e2', t1, z, q4, lcp_self]
  · simp (disch := omega) only [aok, up_s, true_and, false_and, and_true, and_false, if_true, if_false, ↓reduceIte, ↓Option.bind_some, Int.reduceEq, Int.reduceNe, Int.reduceLT, Int.reduceLE, gd_true, gd_false, bind_b, q10, eq_self, reduceCtorEq, not_true_eq_false, not_false_eq_true, ne_eq, cr_11000, cr_15000, cr_16000, cr_20000, cr_20001, cr_21000, cr_22000, cr_25000, cr_1000, cr_2000, cr_3000, cr_3003, cr_3006, cr_4000, cr_5000, cr_6000, cr_7000, cr_8000, cr_9000, cr_10000, cr_13500, cr_17000, cr_17100, cr_17103, cr_17106, cr_19000, cr_20100, cr_21100, cr_23000, cr_24000, cw_11000, cw_15000, cw_16000, cw_20000, cw_20001, cw_21000, cw_22000, cw_25000, cw_1000, cw_2000, cw_3000, cw_3003, cw_3006, cw_4000, cw_5000, cw_6000, cw_7000, cw_8000, cw_9000, cw_10000, cw_13500, cw_17000, cw_17100, cw_17103, cw_17106, cw_19000, cw_20100, cw_21100, cw_23000, cw_24000, lc_13500, lc_15000, lc_16000, lc_17000, lc_17100, lc_17103, lc_17106, lc_19000, lc_20000, lc_20001, lc_20100, lc_21000, lc_21100, lc_22000, lc_23000, lc_24000, lc_25000, gd_t, w_eq, w1, w2, w3, w4, w5, w6, e1, e2', t1, z]
theorem cl_15 (hs : ∀ i, r32 (sc i)) (hn : 0 ≤ n ∧ n < 600) (hk : 0 ≤ k) (hk2 : k + 5 < sl) (hl : sl ≤ 3072) (j : JJ n C N A) : ∃ C1 N1 A1, c_L_15 (k, mk C N A) sl sc = some (.inl (k + 6, mk C1 N1 A1)) ∧ JJ (n + 1) C1 N1 A1 := by
  have w1 : w (k + 1) = k + 1 := w_eq (by omega) (by omega)
  have w2 : w (k + 2) = k + 2 := w_eq (by omega) (by omega)
  have w3 : w (k + 3) = k + 3 := w_eq (by omega) (by omega)
  have w4 : w (k + 4) = k + 4 := w_eq (by omega) (by omega)
  have w5 : w (k + 5) = k + 5 := w_eq (by omega) (by omega)
  have w6 : w (k + 6) = k + 6 := w_eq (by omega) (by omega)
  have q : SR n C N A (p_L_attach (mk C N A) 11000 (sc (k + 1)) (sc (k + 2)) (sc (k + 3)) 15000) (fun M => p_X11_attach M 12000 (sc (k + 1)) (sc (k + 2)) (sc (k + 3))) := q_attach j
  obtain ⟨kk, C1, A1, e1, v, N1, e2, e3, e4, jj⟩ := q
  have e2' : p_X11_attach (mk C1 N A1) 12000 (sc (k + 1)) (sc (k + 2)) (sc (k + 3)) = some (v, mk C1 N1 A1) := e2
  have t1 : p_X11_thrown (mk C1 N1 A1) 12000 = some kk := by
      unfold p_X11_thrown
      rw [pt_0, e3]
  refine ⟨C1, N1, A1, ?_, jj⟩
  unfold c_L_15
  by_cases z : kk = 0
  · have q4 := e4 z
    simp (disch := omega) only [aok, up_s, true_and, false_and, and_true, and_false, if_true, if_false, ↓reduceIte, ↓Option.bind_some, Int.reduceEq, Int.reduceNe, Int.reduceLT, Int.reduceLE, gd_true, gd_false, bind_b, q10, eq_self, reduceCtorEq, not_true_eq_false, not_false_eq_true, ne_eq, cr_11000, cr_15000, cr_16000, cr_20000, cr_20001, cr_21000, cr_22000, cr_25000, cr_1000, cr_2000, cr_3000, cr_3003, cr_3006, cr_4000, cr_5000, cr_6000, cr_7000, cr_8000, cr_9000, cr_10000, cr_13500, cr_17000, cr_17100, cr_17103, cr_17106, cr_19000, cr_20100, cr_21100, cr_23000, cr_24000, cw_11000, cw_15000, cw_16000, cw_20000, cw_20001, cw_21000, cw_22000, cw_25000, cw_1000, cw_2000, cw_3000, cw_3003, cw_3006, cw_4000, cw_5000, cw_6000, cw_7000, cw_8000, cw_9000, cw_10000, cw_13500, cw_17000, cw_17100, cw_17103, cw_17106, cw_19000, cw_20100, cw_21100, cw_23000, cw_24000, lc_13500, lc_15000, lc_16000, lc_17000, lc_17100, lc_17103, lc_17106, lc_19000, lc_20000, lc_20001, lc_20100, lc_21000, lc_21100, lc_22000, lc_23000, lc_24000, lc_25000, gd_t, w_eq, w1, w2, w3, w4, w5, w6, e1, e2', t1, z, q4, lcp_self]
  · simp (disch := omega) only [aok, up_s, true_and, false_and, and_true, and_false, if_true, if_false, ↓reduceIte, ↓Option.bind_some, Int.reduceEq, Int.reduceNe, Int.reduceLT, Int.reduceLE, gd_true, gd_false, bind_b, q10, eq_self, reduceCtorEq, not_true_eq_false, not_false_eq_true, ne_eq, cr_11000, cr_15000, cr_16000, cr_20000, cr_20001, cr_21000, cr_22000, cr_25000, cr_1000, cr_2000, cr_3000, cr_3003, cr_3006, cr_4000, cr_5000, cr_6000, cr_7000, cr_8000, cr_9000, cr_10000, cr_13500, cr_17000, cr_17100, cr_17103, cr_17106, cr_19000, cr_20100, cr_21100, cr_23000, cr_24000, cw_11000, cw_15000, cw_16000, cw_20000, cw_20001, cw_21000, cw_22000, cw_25000, cw_1000, cw_2000, cw_3000, cw_3003, cw_3006, cw_4000, cw_5000, cw_6000, cw_7000, cw_8000, cw_9000, cw_10000, cw_13500, cw_17000, cw_17100, cw_17103, cw_17106, cw_19000, cw_20100, cw_21100, cw_23000, cw_24000, lc_13500, lc_15000, lc_16000, lc_17000, lc_17100, lc_17103, lc_17106, lc_19000, lc_20000, lc_20001, lc_20100, lc_21000, lc_21100, lc_22000, lc_23000, lc_24000, lc_25000, gd_t, w_eq, w1, w2, w3, w4, w5, w6, e1, e2', t1, z]
theorem cl_16 (hs : ∀ i, r32 (sc i)) (hn : 0 ≤ n ∧ n < 600) (hk : 0 ≤ k) (hk2 : k + 5 < sl) (hl : sl ≤ 3072) (j : JJ n C N A) : ∃ C1 N1 A1, c_L_16 (k, mk C N A) sl sc = some (.inl (k + 6, mk C1 N1 A1)) ∧ JJ (n + 1) C1 N1 A1 := by
  have w1 : w (k + 1) = k + 1 := w_eq (by omega) (by omega)
  have w2 : w (k + 2) = k + 2 := w_eq (by omega) (by omega)
  have w3 : w (k + 3) = k + 3 := w_eq (by omega) (by omega)
  have w4 : w (k + 4) = k + 4 := w_eq (by omega) (by omega)
  have w5 : w (k + 5) = k + 5 := w_eq (by omega) (by omega)
  have w6 : w (k + 6) = k + 6 := w_eq (by omega) (by omega)
  have q : SR n C N A (p_L_commit (mk C N A) 11000 (sc (k + 1)) 15000) (fun M => p_X11_commit M 12000 (sc (k + 1))) := q_commit j
  obtain ⟨kk, C1, A1, e1, v, N1, e2, e3, e4, jj⟩ := q
  have e2' : p_X11_commit (mk C1 N A1) 12000 (sc (k + 1)) = some (v, mk C1 N1 A1) := e2
  have t1 : p_X11_thrown (mk C1 N1 A1) 12000 = some kk := by
      unfold p_X11_thrown
      rw [pt_0, e3]
  refine ⟨C1, N1, A1, ?_, jj⟩
  unfold c_L_16
  by_cases z : kk = 0
  · have q4 := e4 z
    simp (disch := omega) only [aok, up_s, true_and, false_and, and_true, and_false, if_true, if_false, ↓reduceIte, ↓Option.bind_some, Int.reduceEq, Int.reduceNe, Int.reduceLT, Int.reduceLE, gd_true, gd_false, bind_b, q10, eq_self, reduceCtorEq, not_true_eq_false, not_false_eq_true, ne_eq, cr_11000, cr_15000, cr_16000, cr_20000, cr_20001, cr_21000, cr_22000, cr_25000, cr_1000, cr_2000, cr_3000, cr_3003, cr_3006, cr_4000, cr_5000, cr_6000, cr_7000, cr_8000, cr_9000, cr_10000, cr_13500, cr_17000, cr_17100, cr_17103, cr_17106, cr_19000, cr_20100, cr_21100, cr_23000, cr_24000, cw_11000, cw_15000, cw_16000, cw_20000, cw_20001, cw_21000, cw_22000, cw_25000, cw_1000, cw_2000, cw_3000, cw_3003, cw_3006, cw_4000, cw_5000, cw_6000, cw_7000, cw_8000, cw_9000, cw_10000, cw_13500, cw_17000, cw_17100, cw_17103, cw_17106, cw_19000, cw_20100, cw_21100, cw_23000, cw_24000, lc_13500, lc_15000, lc_16000, lc_17000, lc_17100, lc_17103, lc_17106, lc_19000, lc_20000, lc_20001, lc_20100, lc_21000, lc_21100, lc_22000, lc_23000, lc_24000, lc_25000, gd_t, w_eq, w1, w2, w3, w4, w5, w6, e1, e2', t1, z, q4, lcp_self]
  · simp (disch := omega) only [aok, up_s, true_and, false_and, and_true, and_false, if_true, if_false, ↓reduceIte, ↓Option.bind_some, Int.reduceEq, Int.reduceNe, Int.reduceLT, Int.reduceLE, gd_true, gd_false, bind_b, q10, eq_self, reduceCtorEq, not_true_eq_false, not_false_eq_true, ne_eq, cr_11000, cr_15000, cr_16000, cr_20000, cr_20001, cr_21000, cr_22000, cr_25000, cr_1000, cr_2000, cr_3000, cr_3003, cr_3006, cr_4000, cr_5000, cr_6000, cr_7000, cr_8000, cr_9000, cr_10000, cr_13500, cr_17000, cr_17100, cr_17103, cr_17106, cr_19000, cr_20100, cr_21100, cr_23000, cr_24000, cw_11000, cw_15000, cw_16000, cw_20000, cw_20001, cw_21000, cw_22000, cw_25000, cw_1000, cw_2000, cw_3000, cw_3003, cw_3006, cw_4000, cw_5000, cw_6000, cw_7000, cw_8000, cw_9000, cw_10000, cw_13500, cw_17000, cw_17100, cw_17103, cw_17106, cw_19000, cw_20100, cw_21100, cw_23000, cw_24000, lc_13500, lc_15000, lc_16000, lc_17000, lc_17100, lc_17103, lc_17106, lc_19000, lc_20000, lc_20001, lc_20100, lc_21000, lc_21100, lc_22000, lc_23000, lc_24000, lc_25000, gd_t, w_eq, w1, w2, w3, w4, w5, w6, e1, e2', t1, z]
theorem cl_17 (hs : ∀ i, r32 (sc i)) (hn : 0 ≤ n ∧ n < 600) (hk : 0 ≤ k) (hk2 : k + 5 < sl) (hl : sl ≤ 3072) (j : JJ n C N A) : ∃ C1 N1 A1, c_L_17 (k, mk C N A) sl sc = some (.inl (k + 6, mk C1 N1 A1)) ∧ JJ (n + 1) C1 N1 A1 := by
  have w1 : w (k + 1) = k + 1 := w_eq (by omega) (by omega)
  have w2 : w (k + 2) = k + 2 := w_eq (by omega) (by omega)
  have w3 : w (k + 3) = k + 3 := w_eq (by omega) (by omega)
  have w4 : w (k + 4) = k + 4 := w_eq (by omega) (by omega)
  have w5 : w (k + 5) = k + 5 := w_eq (by omega) (by omega)
  have w6 : w (k + 6) = k + 6 := w_eq (by omega) (by omega)
  have q : SR n C N A (p_L_abort (mk C N A) 11000 (sc (k + 1)) 15000) (fun M => p_X11_abort M 12000 (sc (k + 1))) := q_abort j
  obtain ⟨kk, C1, A1, e1, v, N1, e2, e3, e4, jj⟩ := q
  have e2' : p_X11_abort (mk C1 N A1) 12000 (sc (k + 1)) = some (v, mk C1 N1 A1) := e2
  have t1 : p_X11_thrown (mk C1 N1 A1) 12000 = some kk := by
      unfold p_X11_thrown
      rw [pt_0, e3]
  refine ⟨C1, N1, A1, ?_, jj⟩
  unfold c_L_17
  by_cases z : kk = 0
  · have q4 := e4 z
    simp (disch := omega) only [aok, up_s, true_and, false_and, and_true, and_false, if_true, if_false, ↓reduceIte, ↓Option.bind_some, Int.reduceEq, Int.reduceNe, Int.reduceLT, Int.reduceLE, gd_true, gd_false, bind_b, q10, eq_self, reduceCtorEq, not_true_eq_false, not_false_eq_true, ne_eq, cr_11000, cr_15000, cr_16000, cr_20000, cr_20001, cr_21000, cr_22000, cr_25000, cr_1000, cr_2000, cr_3000, cr_3003, cr_3006, cr_4000, cr_5000, cr_6000, cr_7000, cr_8000, cr_9000, cr_10000, cr_13500, cr_17000, cr_17100, cr_17103, cr_17106, cr_19000, cr_20100, cr_21100, cr_23000, cr_24000, cw_11000, cw_15000, cw_16000, cw_20000, cw_20001, cw_21000, cw_22000, cw_25000, cw_1000, cw_2000, cw_3000, cw_3003, cw_3006, cw_4000, cw_5000, cw_6000, cw_7000, cw_8000, cw_9000, cw_10000, cw_13500, cw_17000, cw_17100, cw_17103, cw_17106, cw_19000, cw_20100, cw_21100, cw_23000, cw_24000, lc_13500, lc_15000, lc_16000, lc_17000, lc_17100, lc_17103, lc_17106, lc_19000, lc_20000, lc_20001, lc_20100, lc_21000, lc_21100, lc_22000, lc_23000, lc_24000, lc_25000, gd_t, w_eq, w1, w2, w3, w4, w5, w6, e1, e2', t1, z, q4, lcp_self]
  · simp (disch := omega) only [aok, up_s, true_and, false_and, and_true, and_false, if_true, if_false, ↓reduceIte, ↓Option.bind_some, Int.reduceEq, Int.reduceNe, Int.reduceLT, Int.reduceLE, gd_true, gd_false, bind_b, q10, eq_self, reduceCtorEq, not_true_eq_false, not_false_eq_true, ne_eq, cr_11000, cr_15000, cr_16000, cr_20000, cr_20001, cr_21000, cr_22000, cr_25000, cr_1000, cr_2000, cr_3000, cr_3003, cr_3006, cr_4000, cr_5000, cr_6000, cr_7000, cr_8000, cr_9000, cr_10000, cr_13500, cr_17000, cr_17100, cr_17103, cr_17106, cr_19000, cr_20100, cr_21100, cr_23000, cr_24000, cw_11000, cw_15000, cw_16000, cw_20000, cw_20001, cw_21000, cw_22000, cw_25000, cw_1000, cw_2000, cw_3000, cw_3003, cw_3006, cw_4000, cw_5000, cw_6000, cw_7000, cw_8000, cw_9000, cw_10000, cw_13500, cw_17000, cw_17100, cw_17103, cw_17106, cw_19000, cw_20100, cw_21100, cw_23000, cw_24000, lc_13500, lc_15000, lc_16000, lc_17000, lc_17100, lc_17103, lc_17106, lc_19000, lc_20000, lc_20001, lc_20100, lc_21000, lc_21100, lc_22000, lc_23000, lc_24000, lc_25000, gd_t, w_eq, w1, w2, w3, w4, w5, w6, e1, e2', t1, z]
theorem cl_18 (hs : ∀ i, r32 (sc i)) (hn : 0 ≤ n ∧ n < 600) (hk : 0 ≤ k) (hk2 : k + 5 < sl) (hl : sl ≤ 3072) (j : JJ n C N A) : ∃ C1 N1 A1, c_L_18 (k, mk C N A) sl sc = some (.inl (k + 6, mk C1 N1 A1)) ∧ JJ (n + 1) C1 N1 A1 := by
  have w1 : w (k + 1) = k + 1 := w_eq (by omega) (by omega)
  have w2 : w (k + 2) = k + 2 := w_eq (by omega) (by omega)
  have w3 : w (k + 3) = k + 3 := w_eq (by omega) (by omega)
  have w4 : w (k + 4) = k + 4 := w_eq (by omega) (by omega)
  have w5 : w (k + 5) = k + 5 := w_eq (by omega) (by omega)
  have w6 : w (k + 6) = k + 6 := w_eq (by omega) (by omega)
  have q : SR n C N A (p_L_group (mk C N A) 11000 (sc (k + 1)) 15000) (fun M => p_X11_group M 12000 (sc (k + 1))) := q_group j
  obtain ⟨kk, C1, A1, e1, v, N1, e2, e3, e4, jj⟩ := q
  have e2' : p_X11_group (mk C1 N A1) 12000 (sc (k + 1)) = some (v, mk C1 N1 A1) := e2
  have t1 : p_X11_thrown (mk C1 N1 A1) 12000 = some kk := by
      unfold p_X11_thrown
      rw [pt_0, e3]
  refine ⟨C1, N1, A1, ?_, jj⟩
  unfold c_L_18
  by_cases z : kk = 0
  · have q4 := e4 z
    simp (disch := omega) only [aok, up_s, true_and, false_and, and_true, and_false, if_true, if_false, ↓reduceIte, ↓Option.bind_some, Int.reduceEq, Int.reduceNe, Int.reduceLT, Int.reduceLE, gd_true, gd_false, bind_b, q10, eq_self, reduceCtorEq, not_true_eq_false, not_false_eq_true, ne_eq, cr_11000, cr_15000, cr_16000, cr_20000, cr_20001, cr_21000, cr_22000, cr_25000, cr_1000, cr_2000, cr_3000, cr_3003, cr_3006, cr_4000, cr_5000, cr_6000, cr_7000, cr_8000, cr_9000, cr_10000, cr_13500, cr_17000, cr_17100, cr_17103, cr_17106, cr_19000, cr_20100, cr_21100, cr_23000, cr_24000, cw_11000, cw_15000, cw_16000, cw_20000, cw_20001, cw_21000, cw_22000, cw_25000, cw_1000, cw_2000, cw_3000, cw_3003, cw_3006, cw_4000, cw_5000, cw_6000, cw_7000, cw_8000, cw_9000, cw_10000, cw_13500, cw_17000, cw_17100, cw_17103, cw_17106, cw_19000, cw_20100, cw_21100, cw_23000, cw_24000, lc_13500, lc_15000, lc_16000, lc_17000, lc_17100, lc_17103, lc_17106, lc_19000, lc_20000, lc_20001, lc_20100, lc_21000, lc_21100, lc_22000, lc_23000, lc_24000, lc_25000, gd_t, w_eq, w1, w2, w3, w4, w5, w6, e1, e2', t1, z, q4, lcp_self]
  · simp (disch := omega) only [aok, up_s, true_and, false_and, and_true, and_false, if_true, if_false, ↓reduceIte, ↓Option.bind_some, Int.reduceEq, Int.reduceNe, Int.reduceLT, Int.reduceLE, gd_true, gd_false, bind_b, q10, eq_self, reduceCtorEq, not_true_eq_false, not_false_eq_true, ne_eq, cr_11000, cr_15000, cr_16000, cr_20000, cr_20001, cr_21000, cr_22000, cr_25000, cr_1000, cr_2000, cr_3000, cr_3003, cr_3006, cr_4000, cr_5000, cr_6000, cr_7000, cr_8000, cr_9000, cr_10000, cr_13500, cr_17000, cr_17100, cr_17103, cr_17106, cr_19000, cr_20100, cr_21100, cr_23000, cr_24000, cw_11000, cw_15000, cw_16000, cw_20000, cw_20001, cw_21000, cw_22000, cw_25000, cw_1000, cw_2000, cw_3000, cw_3003, cw_3006, cw_4000, cw_5000, cw_6000, cw_7000, cw_8000, cw_9000, cw_10000, cw_13500, cw_17000, cw_17100, cw_17103, cw_17106, cw_19000, cw_20100, cw_21100, cw_23000, cw_24000, lc_13500, lc_15000, lc_16000, lc_17000, lc_17100, lc_17103, lc_17106, lc_19000, lc_20000, lc_20001, lc_20100, lc_21000, lc_21100, lc_22000, lc_23000, lc_24000, lc_25000, gd_t, w_eq, w1, w2, w3, w4, w5, w6, e1, e2', t1, z]
theorem cl_19 (hs : ∀ i, r32 (sc i)) (hn : 0 ≤ n ∧ n < 600) (hk : 0 ≤ k) (hk2 : k + 5 < sl) (hl : sl ≤ 3072) (j : JJ n C N A) : ∃ C1 N1 A1, c_L_19 (k, mk C N A) sl sc = some (.inl (k + 6, mk C1 N1 A1)) ∧ JJ (n + 1) C1 N1 A1 := by
  have w1 : w (k + 1) = k + 1 := w_eq (by omega) (by omega)
  have w2 : w (k + 2) = k + 2 := w_eq (by omega) (by omega)
  have w3 : w (k + 3) = k + 3 := w_eq (by omega) (by omega)
  have w4 : w (k + 4) = k + 4 := w_eq (by omega) (by omega)
  have w5 : w (k + 5) = k + 5 := w_eq (by omega) (by omega)
  have w6 : w (k + 6) = k + 6 := w_eq (by omega) (by omega)
  have q : SR n C N A (p_L_join (mk C N A) 11000 (sc (k + 1)) 15000) (fun M => p_X11_join M 12000 (sc (k + 1))) := q_join j
  obtain ⟨kk, C1, A1, e1, v, N1, e2, e3, e4, jj⟩ := q
  have e2' : p_X11_join (mk C1 N A1) 12000 (sc (k + 1)) = some (v, mk C1 N1 A1) := e2
  have t1 : p_X11_thrown (mk C1 N1 A1) 12000 = some kk := by
      unfold p_X11_thrown
      rw [pt_0, e3]
  refine ⟨C1, N1, A1, ?_, jj⟩
  unfold c_L_19
  by_cases z : kk = 0
  · have q4 := e4 z
    simp (disch := omega) only [aok, up_s, true_and, false_and, and_true, and_false, if_true, if_false, ↓reduceIte, ↓Option.bind_some, Int.reduceEq, Int.reduceNe, Int.reduceLT, Int.reduceLE, gd_true, gd_false, bind_b, q10, eq_self, reduceCtorEq, not_true_eq_false, not_false_eq_true, ne_eq, cr_11000, cr_15000, cr_16000, cr_20000, cr_20001, cr_21000, cr_22000, cr_25000, cr_1000, cr_2000, cr_3000, cr_3003, cr_3006, cr_4000, cr_5000, cr_6000, cr_7000, cr_8000, cr_9000, cr_10000, cr_13500, cr_17000, cr_17100, cr_17103, cr_17106, cr_19000, cr_20100, cr_21100, cr_23000, cr_24000, cw_11000, cw_15000, cw_16000, cw_20000, cw_20001, cw_21000, cw_22000, cw_25000, cw_1000, cw_2000, cw_3000, cw_3003, cw_3006, cw_4000, cw_5000, cw_6000, cw_7000, cw_8000, cw_9000, cw_10000, cw_13500, cw_17000, cw_17100, cw_17103, cw_17106, cw_19000, cw_20100, cw_21100, cw_23000, cw_24000, lc_13500, lc_15000, lc_16000, lc_17000, lc_17100, lc_17103, lc_17106, lc_19000, lc_20000, lc_20001, lc_20100, lc_21000, lc_21100, lc_22000, lc_23000, lc_24000, lc_25000, gd_t, w_eq, w1, w2, w3, w4, w5, w6, e1, e2', t1, z, q4, lcp_self]
  · simp (disch := omega) only [aok, up_s, true_and, false_and, and_true, and_false, if_true, if_false, ↓reduceIte, ↓Option.bind_some, Int.reduceEq, Int.reduceNe, Int.reduceLT, Int.reduceLE, gd_true, gd_false, bind_b, q10, eq_self, reduceCtorEq, not_true_eq_false, not_false_eq_true, ne_eq, cr_11000, cr_15000, cr_16000, cr_20000, cr_20001, cr_21000, cr_22000, cr_25000, cr_1000, cr_2000, cr_3000, cr_3003, cr_3006, cr_4000, cr_5000, cr_6000, cr_7000, cr_8000, cr_9000, cr_10000, cr_13500, cr_17000, cr_17100, cr_17103, cr_17106, cr_19000, cr_20100, cr_21100, cr_23000, cr_24000, cw_11000, cw_15000, cw_16000, cw_20000, cw_20001, cw_21000, cw_22000, cw_25000, cw_1000, cw_2000, cw_3000, cw_3003, cw_3006, cw_4000, cw_5000, cw_6000, cw_7000, cw_8000, cw_9000, cw_10000, cw_13500, cw_17000, cw_17100, cw_17103, cw_17106, cw_19000, cw_20100, cw_21100, cw_23000, cw_24000, lc_13500, lc_15000, lc_16000, lc_17000, lc_17100, lc_17103, lc_17106, lc_19000, lc_20000, lc_20001, lc_20100, lc_21000, lc_21100, lc_22000, lc_23000, lc_24000, lc_25000, gd_t, w_eq, w1, w2, w3, w4, w5, w6, e1, e2', t1, z]
theorem cl_20 (hs : ∀ i, r32 (sc i)) (hn : 0 ≤ n ∧ n < 600) (hk : 0 ≤ k) (hk2 : k + 5 < sl) (hl : sl ≤ 3072) (j : JJ n C N A) : ∃ C1 N1 A1, c_L_20 (k, mk C N A) sl sc = some (.inl (k + 6, mk C1 N1 A1)) ∧ JJ (n + 1) C1 N1 A1 := by
  have w1 : w (k + 1) = k + 1 := w_eq (by omega) (by omega)
  have w2 : w (k + 2) = k + 2 := w_eq (by omega) (by omega)
  have w3 : w (k + 3) = k + 3 := w_eq (by omega) (by omega)
  have w4 : w (k + 4) = k + 4 := w_eq (by omega) (by omega)
  have w5 : w (k + 5) = k + 5 := w_eq (by omega) (by omega)
  have w6 : w (k + 6) = k + 6 := w_eq (by omega) (by omega)
  have q : SR n C N A (p_L_leave (mk C N A) 11000 (sc (k + 1)) (sc (k + 2)) 15000) (fun M => p_X11_leave M 12000 (sc (k + 1)) (sc (k + 2))) := q_leave j
  obtain ⟨kk, C1, A1, e1, v, N1, e2, e3, e4, jj⟩ := q
  have e2' : p_X11_leave (mk C1 N A1) 12000 (sc (k + 1)) (sc (k + 2)) = some (v, mk C1 N1 A1) := e2
  have t1 : p_X11_thrown (mk C1 N1 A1) 12000 = some kk := by
      unfold p_X11_thrown
      rw [pt_0, e3]
  refine ⟨C1, N1, A1, ?_, jj⟩
  unfold c_L_20
  by_cases z : kk = 0
  · have q4 := e4 z
    simp (disch := omega) only [aok, up_s, true_and, false_and, and_true, and_false, if_true, if_false, ↓reduceIte, ↓Option.bind_some, Int.reduceEq, Int.reduceNe, Int.reduceLT, Int.reduceLE, gd_true, gd_false, bind_b, q10, eq_self, reduceCtorEq, not_true_eq_false, not_false_eq_true, ne_eq, cr_11000, cr_15000, cr_16000, cr_20000, cr_20001, cr_21000, cr_22000, cr_25000, cr_1000, cr_2000, cr_3000, cr_3003, cr_3006, cr_4000, cr_5000, cr_6000, cr_7000, cr_8000, cr_9000, cr_10000, cr_13500, cr_17000, cr_17100, cr_17103, cr_17106, cr_19000, cr_20100, cr_21100, cr_23000, cr_24000, cw_11000, cw_15000, cw_16000, cw_20000, cw_20001, cw_21000, cw_22000, cw_25000, cw_1000, cw_2000, cw_3000, cw_3003, cw_3006, cw_4000, cw_5000, cw_6000, cw_7000, cw_8000, cw_9000, cw_10000, cw_13500, cw_17000, cw_17100, cw_17103, cw_17106, cw_19000, cw_20100, cw_21100, cw_23000, cw_24000, lc_13500, lc_15000, lc_16000, lc_17000, lc_17100, lc_17103, lc_17106, lc_19000, lc_20000, lc_20001, lc_20100, lc_21000, lc_21100, lc_22000, lc_23000, lc_24000, lc_25000, gd_t, w_eq, w1, w2, w3, w4, w5, w6, e1, e2', t1, z, q4, lcp_self]
  · simp (disch := omega) only [aok, up_s, true_and, false_and, and_true, and_false, if_true, if_false, ↓reduceIte, ↓Option.bind_some, Int.reduceEq, Int.reduceNe, Int.reduceLT, Int.reduceLE, gd_true, gd_false, bind_b, q10, eq_self, reduceCtorEq, not_true_eq_false, not_false_eq_true, ne_eq, cr_11000, cr_15000, cr_16000, cr_20000, cr_20001, cr_21000, cr_22000, cr_25000, cr_1000, cr_2000, cr_3000, cr_3003, cr_3006, cr_4000, cr_5000, cr_6000, cr_7000, cr_8000, cr_9000, cr_10000, cr_13500, cr_17000, cr_17100, cr_17103, cr_17106, cr_19000, cr_20100, cr_21100, cr_23000, cr_24000, cw_11000, cw_15000, cw_16000, cw_20000, cw_20001, cw_21000, cw_22000, cw_25000, cw_1000, cw_2000, cw_3000, cw_3003, cw_3006, cw_4000, cw_5000, cw_6000, cw_7000, cw_8000, cw_9000, cw_10000, cw_13500, cw_17000, cw_17100, cw_17103, cw_17106, cw_19000, cw_20100, cw_21100, cw_23000, cw_24000, lc_13500, lc_15000, lc_16000, lc_17000, lc_17100, lc_17103, lc_17106, lc_19000, lc_20000, lc_20001, lc_20100, lc_21000, lc_21100, lc_22000, lc_23000, lc_24000, lc_25000, gd_t, w_eq, w1, w2, w3, w4, w5, w6, e1, e2', t1, z]
theorem cl_21 (hs : ∀ i, r32 (sc i)) (hn : 0 ≤ n ∧ n < 600) (hk : 0 ≤ k) (hk2 : k + 5 < sl) (hl : sl ≤ 3072) (j : JJ n C N A) : ∃ C1 N1 A1, c_L_21 (k, mk C N A) sl sc = some (.inl (k + 6, mk C1 N1 A1)) ∧ JJ (n + 1) C1 N1 A1 := by
  have w1 : w (k + 1) = k + 1 := w_eq (by omega) (by omega)
  have w2 : w (k + 2) = k + 2 := w_eq (by omega) (by omega)
  have w3 : w (k + 3) = k + 3 := w_eq (by omega) (by omega)
  have w4 : w (k + 4) = k + 4 := w_eq (by omega) (by omega)
  have w5 : w (k + 5) = k + 5 := w_eq (by omega) (by omega)
  have w6 : w (k + 6) = k + 6 := w_eq (by omega) (by omega)
  have q : SR n C N A (p_L_beat (mk C N A) 11000 (sc (k + 1)) (sc (k + 2)) 15000) (fun M => p_X11_beat M 12000 (sc (k + 1)) (sc (k + 2))) := q_beat j
  obtain ⟨kk, C1, A1, e1, v, N1, e2, e3, e4, jj⟩ := q
  have e2' : p_X11_beat (mk C1 N A1) 12000 (sc (k + 1)) (sc (k + 2)) = some (v, mk C1 N1 A1) := e2
  have t1 : p_X11_thrown (mk C1 N1 A1) 12000 = some kk := by
      unfold p_X11_thrown
      rw [pt_0, e3]
  refine ⟨C1, N1, A1, ?_, jj⟩
  unfold c_L_21
  by_cases z : kk = 0
  · have q4 := e4 z
    simp (disch := omega) only [aok, up_s, true_and, false_and, and_true, and_false, if_true, if_false, ↓reduceIte, ↓Option.bind_some, Int.reduceEq, Int.reduceNe, Int.reduceLT, Int.reduceLE, gd_true, gd_false, bind_b, q10, eq_self, reduceCtorEq, not_true_eq_false, not_false_eq_true, ne_eq, cr_11000, cr_15000, cr_16000, cr_20000, cr_20001, cr_21000, cr_22000, cr_25000, cr_1000, cr_2000, cr_3000, cr_3003, cr_3006, cr_4000, cr_5000, cr_6000, cr_7000, cr_8000, cr_9000, cr_10000, cr_13500, cr_17000, cr_17100, cr_17103, cr_17106, cr_19000, cr_20100, cr_21100, cr_23000, cr_24000, cw_11000, cw_15000, cw_16000, cw_20000, cw_20001, cw_21000, cw_22000, cw_25000, cw_1000, cw_2000, cw_3000, cw_3003, cw_3006, cw_4000, cw_5000, cw_6000, cw_7000, cw_8000, cw_9000, cw_10000, cw_13500, cw_17000, cw_17100, cw_17103, cw_17106, cw_19000, cw_20100, cw_21100, cw_23000, cw_24000, lc_13500, lc_15000, lc_16000, lc_17000, lc_17100, lc_17103, lc_17106, lc_19000, lc_20000, lc_20001, lc_20100, lc_21000, lc_21100, lc_22000, lc_23000, lc_24000, lc_25000, gd_t, w_eq, w1, w2, w3, w4, w5, w6, e1, e2', t1, z, q4, lcp_self]
  · simp (disch := omega) only [aok, up_s, true_and, false_and, and_true, and_false, if_true, if_false, ↓reduceIte, ↓Option.bind_some, Int.reduceEq, Int.reduceNe, Int.reduceLT, Int.reduceLE, gd_true, gd_false, bind_b, q10, eq_self, reduceCtorEq, not_true_eq_false, not_false_eq_true, ne_eq, cr_11000, cr_15000, cr_16000, cr_20000, cr_20001, cr_21000, cr_22000, cr_25000, cr_1000, cr_2000, cr_3000, cr_3003, cr_3006, cr_4000, cr_5000, cr_6000, cr_7000, cr_8000, cr_9000, cr_10000, cr_13500, cr_17000, cr_17100, cr_17103, cr_17106, cr_19000, cr_20100, cr_21100, cr_23000, cr_24000, cw_11000, cw_15000, cw_16000, cw_20000, cw_20001, cw_21000, cw_22000, cw_25000, cw_1000, cw_2000, cw_3000, cw_3003, cw_3006, cw_4000, cw_5000, cw_6000, cw_7000, cw_8000, cw_9000, cw_10000, cw_13500, cw_17000, cw_17100, cw_17103, cw_17106, cw_19000, cw_20100, cw_21100, cw_23000, cw_24000, lc_13500, lc_15000, lc_16000, lc_17000, lc_17100, lc_17103, lc_17106, lc_19000, lc_20000, lc_20001, lc_20100, lc_21000, lc_21100, lc_22000, lc_23000, lc_24000, lc_25000, gd_t, w_eq, w1, w2, w3, w4, w5, w6, e1, e2', t1, z]
theorem cl_22 (hs : ∀ i, r32 (sc i)) (hn : 0 ≤ n ∧ n < 600) (hk : 0 ≤ k) (hk2 : k + 5 < sl) (hl : sl ≤ 3072) (j : JJ n C N A) : ∃ C1 N1 A1, c_L_22 (k, mk C N A) sl sc = some (.inl (k + 6, mk C1 N1 A1)) ∧ JJ (n + 1) C1 N1 A1 := by
  have w1 : w (k + 1) = k + 1 := w_eq (by omega) (by omega)
  have w2 : w (k + 2) = k + 2 := w_eq (by omega) (by omega)
  have w3 : w (k + 3) = k + 3 := w_eq (by omega) (by omega)
  have w4 : w (k + 4) = k + 4 := w_eq (by omega) (by omega)
  have w5 : w (k + 5) = k + 5 := w_eq (by omega) (by omega)
  have w6 : w (k + 6) = k + 6 := w_eq (by omega) (by omega)
  have q : SR n C N A (p_L_credits (mk C N A) 11000 (sc (k + 1)) (sc (k + 2)) (sc (k + 3)) 15000) (fun M => p_X11_credits M 12000 (sc (k + 1)) (sc (k + 2)) (sc (k + 3))) := q_credits j
  obtain ⟨kk, C1, A1, e1, v, N1, e2, e3, e4, jj⟩ := q
  have e2' : p_X11_credits (mk C1 N A1) 12000 (sc (k + 1)) (sc (k + 2)) (sc (k + 3)) = some (v, mk C1 N1 A1) := e2
  have t1 : p_X11_thrown (mk C1 N1 A1) 12000 = some kk := by
      unfold p_X11_thrown
      rw [pt_0, e3]
  refine ⟨C1, N1, A1, ?_, jj⟩
  unfold c_L_22
  by_cases z : kk = 0
  · have q4 := e4 z
    simp (disch := omega) only [aok, up_s, true_and, false_and, and_true, and_false, if_true, if_false, ↓reduceIte, ↓Option.bind_some, Int.reduceEq, Int.reduceNe, Int.reduceLT, Int.reduceLE, gd_true, gd_false, bind_b, q10, eq_self, reduceCtorEq, not_true_eq_false, not_false_eq_true, ne_eq, cr_11000, cr_15000, cr_16000, cr_20000, cr_20001, cr_21000, cr_22000, cr_25000, cr_1000, cr_2000, cr_3000, cr_3003, cr_3006, cr_4000, cr_5000, cr_6000, cr_7000, cr_8000, cr_9000, cr_10000, cr_13500, cr_17000, cr_17100, cr_17103, cr_17106, cr_19000, cr_20100, cr_21100, cr_23000, cr_24000, cw_11000, cw_15000, cw_16000, cw_20000, cw_20001, cw_21000, cw_22000, cw_25000, cw_1000, cw_2000, cw_3000, cw_3003, cw_3006, cw_4000, cw_5000, cw_6000, cw_7000, cw_8000, cw_9000, cw_10000, cw_13500, cw_17000, cw_17100, cw_17103, cw_17106, cw_19000, cw_20100, cw_21100, cw_23000, cw_24000, lc_13500, lc_15000, lc_16000, lc_17000, lc_17100, lc_17103, lc_17106, lc_19000, lc_20000, lc_20001, lc_20100, lc_21000, lc_21100, lc_22000, lc_23000, lc_24000, lc_25000, gd_t, w_eq, w1, w2, w3, w4, w5, w6, e1, e2', t1, z, q4, lcp_self]
  · simp (disch := omega) only [aok, up_s, true_and, false_and, and_true, and_false, if_true, if_false, ↓reduceIte, ↓Option.bind_some, Int.reduceEq, Int.reduceNe, Int.reduceLT, Int.reduceLE, gd_true, gd_false, bind_b, q10, eq_self, reduceCtorEq, not_true_eq_false, not_false_eq_true, ne_eq, cr_11000, cr_15000, cr_16000, cr_20000, cr_20001, cr_21000, cr_22000, cr_25000, cr_1000, cr_2000, cr_3000, cr_3003, cr_3006, cr_4000, cr_5000, cr_6000, cr_7000, cr_8000, cr_9000, cr_10000, cr_13500, cr_17000, cr_17100, cr_17103, cr_17106, cr_19000, cr_20100, cr_21100, cr_23000, cr_24000, cw_11000, cw_15000, cw_16000, cw_20000, cw_20001, cw_21000, cw_22000, cw_25000, cw_1000, cw_2000, cw_3000, cw_3003, cw_3006, cw_4000, cw_5000, cw_6000, cw_7000, cw_8000, cw_9000, cw_10000, cw_13500, cw_17000, cw_17100, cw_17103, cw_17106, cw_19000, cw_20100, cw_21100, cw_23000, cw_24000, lc_13500, lc_15000, lc_16000, lc_17000, lc_17100, lc_17103, lc_17106, lc_19000, lc_20000, lc_20001, lc_20100, lc_21000, lc_21100, lc_22000, lc_23000, lc_24000, lc_25000, gd_t, w_eq, w1, w2, w3, w4, w5, w6, e1, e2', t1, z]
theorem cl_23 (hs : ∀ i, r32 (sc i)) (hn : 0 ≤ n ∧ n < 600) (hk : 0 ≤ k) (hk2 : k + 5 < sl) (hl : sl ≤ 3072) (j : JJ n C N A) : ∃ C1 N1 A1, c_L_23 (k, mk C N A) sl sc = some (.inl (k + 6, mk C1 N1 A1)) ∧ JJ (n + 1) C1 N1 A1 := by
  have w1 : w (k + 1) = k + 1 := w_eq (by omega) (by omega)
  have w2 : w (k + 2) = k + 2 := w_eq (by omega) (by omega)
  have w3 : w (k + 3) = k + 3 := w_eq (by omega) (by omega)
  have w4 : w (k + 4) = k + 4 := w_eq (by omega) (by omega)
  have w5 : w (k + 5) = k + 5 := w_eq (by omega) (by omega)
  have w6 : w (k + 6) = k + 6 := w_eq (by omega) (by omega)
  have q : SR n C N A (p_L_read (mk C N A) 11000 (sc (k + 1)) (sc (k + 2)) 15000) (fun M => p_X11_read M 12000 (sc (k + 1)) (sc (k + 2))) := q_read (by omega) j
  obtain ⟨kk, C1, A1, e1, v, N1, e2, e3, e4, jj⟩ := q
  have e2' : p_X11_read (mk C1 N A1) 12000 (sc (k + 1)) (sc (k + 2)) = some (v, mk C1 N1 A1) := e2
  have t1 : p_X11_thrown (mk C1 N1 A1) 12000 = some kk := by
      unfold p_X11_thrown
      rw [pt_0, e3]
  refine ⟨C1, N1, A1, ?_, jj⟩
  unfold c_L_23
  by_cases z : kk = 0
  · have q4 := e4 z
    simp (disch := omega) only [aok, up_s, true_and, false_and, and_true, and_false, if_true, if_false, ↓reduceIte, ↓Option.bind_some, Int.reduceEq, Int.reduceNe, Int.reduceLT, Int.reduceLE, gd_true, gd_false, bind_b, q10, eq_self, reduceCtorEq, not_true_eq_false, not_false_eq_true, ne_eq, cr_11000, cr_15000, cr_16000, cr_20000, cr_20001, cr_21000, cr_22000, cr_25000, cr_1000, cr_2000, cr_3000, cr_3003, cr_3006, cr_4000, cr_5000, cr_6000, cr_7000, cr_8000, cr_9000, cr_10000, cr_13500, cr_17000, cr_17100, cr_17103, cr_17106, cr_19000, cr_20100, cr_21100, cr_23000, cr_24000, cw_11000, cw_15000, cw_16000, cw_20000, cw_20001, cw_21000, cw_22000, cw_25000, cw_1000, cw_2000, cw_3000, cw_3003, cw_3006, cw_4000, cw_5000, cw_6000, cw_7000, cw_8000, cw_9000, cw_10000, cw_13500, cw_17000, cw_17100, cw_17103, cw_17106, cw_19000, cw_20100, cw_21100, cw_23000, cw_24000, lc_13500, lc_15000, lc_16000, lc_17000, lc_17100, lc_17103, lc_17106, lc_19000, lc_20000, lc_20001, lc_20100, lc_21000, lc_21100, lc_22000, lc_23000, lc_24000, lc_25000, gd_t, w_eq, w1, w2, w3, w4, w5, w6, e1, e2', t1, z, q4, lcp_self]
  · simp (disch := omega) only [aok, up_s, true_and, false_and, and_true, and_false, if_true, if_false, ↓reduceIte, ↓Option.bind_some, Int.reduceEq, Int.reduceNe, Int.reduceLT, Int.reduceLE, gd_true, gd_false, bind_b, q10, eq_self, reduceCtorEq, not_true_eq_false, not_false_eq_true, ne_eq, cr_11000, cr_15000, cr_16000, cr_20000, cr_20001, cr_21000, cr_22000, cr_25000, cr_1000, cr_2000, cr_3000, cr_3003, cr_3006, cr_4000, cr_5000, cr_6000, cr_7000, cr_8000, cr_9000, cr_10000, cr_13500, cr_17000, cr_17100, cr_17103, cr_17106, cr_19000, cr_20100, cr_21100, cr_23000, cr_24000, cw_11000, cw_15000, cw_16000, cw_20000, cw_20001, cw_21000, cw_22000, cw_25000, cw_1000, cw_2000, cw_3000, cw_3003, cw_3006, cw_4000, cw_5000, cw_6000, cw_7000, cw_8000, cw_9000, cw_10000, cw_13500, cw_17000, cw_17100, cw_17103, cw_17106, cw_19000, cw_20100, cw_21100, cw_23000, cw_24000, lc_13500, lc_15000, lc_16000, lc_17000, lc_17100, lc_17103, lc_17106, lc_19000, lc_20000, lc_20001, lc_20100, lc_21000, lc_21100, lc_22000, lc_23000, lc_24000, lc_25000, gd_t, w_eq, w1, w2, w3, w4, w5, w6, e1, e2', t1, z]
theorem cl_24 (hs : ∀ i, r32 (sc i)) (hn : 0 ≤ n ∧ n < 600) (hk : 0 ≤ k) (hk2 : k + 5 < sl) (hl : sl ≤ 3072) (j : JJ n C N A) : ∃ C1 N1 A1, c_L_24 (k, mk C N A) sl sc = some (.inl (k + 6, mk C1 N1 A1)) ∧ JJ (n + 1) C1 N1 A1 := by
  have w1 : w (k + 1) = k + 1 := w_eq (by omega) (by omega)
  have w2 : w (k + 2) = k + 2 := w_eq (by omega) (by omega)
  have w3 : w (k + 3) = k + 3 := w_eq (by omega) (by omega)
  have w4 : w (k + 4) = k + 4 := w_eq (by omega) (by omega)
  have w5 : w (k + 5) = k + 5 := w_eq (by omega) (by omega)
  have w6 : w (k + 6) = k + 6 := w_eq (by omega) (by omega)
  have q : SR n C N A (p_L_done (mk C N A) 11000 (sc (k + 1)) (sc (k + 2)) (sc (k + 3)) 15000) (fun M => p_X11_done M 12000 (sc (k + 1)) (sc (k + 2)) (sc (k + 3))) := q_done j
  obtain ⟨kk, C1, A1, e1, v, N1, e2, e3, e4, jj⟩ := q
  have e2' : p_X11_done (mk C1 N A1) 12000 (sc (k + 1)) (sc (k + 2)) (sc (k + 3)) = some (v, mk C1 N1 A1) := e2
  have t1 : p_X11_thrown (mk C1 N1 A1) 12000 = some kk := by
      unfold p_X11_thrown
      rw [pt_0, e3]
  refine ⟨C1, N1, A1, ?_, jj⟩
  unfold c_L_24
  by_cases z : kk = 0
  · have q4 := e4 z
    simp (disch := omega) only [aok, up_s, true_and, false_and, and_true, and_false, if_true, if_false, ↓reduceIte, ↓Option.bind_some, Int.reduceEq, Int.reduceNe, Int.reduceLT, Int.reduceLE, gd_true, gd_false, bind_b, q10, eq_self, reduceCtorEq, not_true_eq_false, not_false_eq_true, ne_eq, cr_11000, cr_15000, cr_16000, cr_20000, cr_20001, cr_21000, cr_22000, cr_25000, cr_1000, cr_2000, cr_3000, cr_3003, cr_3006, cr_4000, cr_5000, cr_6000, cr_7000, cr_8000, cr_9000, cr_10000, cr_13500, cr_17000, cr_17100, cr_17103, cr_17106, cr_19000, cr_20100, cr_21100, cr_23000, cr_24000, cw_11000, cw_15000, cw_16000, cw_20000, cw_20001, cw_21000, cw_22000, cw_25000, cw_1000, cw_2000, cw_3000, cw_3003, cw_3006, cw_4000, cw_5000, cw_6000, cw_7000, cw_8000, cw_9000, cw_10000, cw_13500, cw_17000, cw_17100, cw_17103, cw_17106, cw_19000, cw_20100, cw_21100, cw_23000, cw_24000, lc_13500, lc_15000, lc_16000, lc_17000, lc_17100, lc_17103, lc_17106, lc_19000, lc_20000, lc_20001, lc_20100, lc_21000, lc_21100, lc_22000, lc_23000, lc_24000, lc_25000, gd_t, w_eq, w1, w2, w3, w4, w5, w6, e1, e2', t1, z, q4, lcp_self]
  · simp (disch := omega) only [aok, up_s, true_and, false_and, and_true, and_false, if_true, if_false, ↓reduceIte, ↓Option.bind_some, Int.reduceEq, Int.reduceNe, Int.reduceLT, Int.reduceLE, gd_true, gd_false, bind_b, q10, eq_self, reduceCtorEq, not_true_eq_false, not_false_eq_true, ne_eq, cr_11000, cr_15000, cr_16000, cr_20000, cr_20001, cr_21000, cr_22000, cr_25000, cr_1000, cr_2000, cr_3000, cr_3003, cr_3006, cr_4000, cr_5000, cr_6000, cr_7000, cr_8000, cr_9000, cr_10000, cr_13500, cr_17000, cr_17100, cr_17103, cr_17106, cr_19000, cr_20100, cr_21100, cr_23000, cr_24000, cw_11000, cw_15000, cw_16000, cw_20000, cw_20001, cw_21000, cw_22000, cw_25000, cw_1000, cw_2000, cw_3000, cw_3003, cw_3006, cw_4000, cw_5000, cw_6000, cw_7000, cw_8000, cw_9000, cw_10000, cw_13500, cw_17000, cw_17100, cw_17103, cw_17106, cw_19000, cw_20100, cw_21100, cw_23000, cw_24000, lc_13500, lc_15000, lc_16000, lc_17000, lc_17100, lc_17103, lc_17106, lc_19000, lc_20000, lc_20001, lc_20100, lc_21000, lc_21100, lc_22000, lc_23000, lc_24000, lc_25000, gd_t, w_eq, w1, w2, w3, w4, w5, w6, e1, e2', t1, z]
theorem cl_25 (hs : ∀ i, r32 (sc i)) (hn : 0 ≤ n ∧ n < 600) (hk : 0 ≤ k) (hk2 : k + 5 < sl) (hl : sl ≤ 3072) (j : JJ n C N A) : ∃ C1 N1 A1, c_L_25 (k, mk C N A) sl sc = some (.inl (k + 6, mk C1 N1 A1)) ∧ JJ (n + 1) C1 N1 A1 := by
  have w1 : w (k + 1) = k + 1 := w_eq (by omega) (by omega)
  have w2 : w (k + 2) = k + 2 := w_eq (by omega) (by omega)
  have w3 : w (k + 3) = k + 3 := w_eq (by omega) (by omega)
  have w4 : w (k + 4) = k + 4 := w_eq (by omega) (by omega)
  have w5 : w (k + 5) = k + 5 := w_eq (by omega) (by omega)
  have w6 : w (k + 6) = k + 6 := w_eq (by omega) (by omega)
  have q : SR n C N A (p_L_retry (mk C N A) 11000 (sc (k + 1)) (sc (k + 2)) (sc (k + 3)) 15000) (fun M => p_X11_retry M 12000 (sc (k + 1)) (sc (k + 2)) (sc (k + 3))) := q_retry j
  obtain ⟨kk, C1, A1, e1, v, N1, e2, e3, e4, jj⟩ := q
  have e2' : p_X11_retry (mk C1 N A1) 12000 (sc (k + 1)) (sc (k + 2)) (sc (k + 3)) = some (v, mk C1 N1 A1) := e2
  have t1 : p_X11_thrown (mk C1 N1 A1) 12000 = some kk := by
      unfold p_X11_thrown
      rw [pt_0, e3]
  refine ⟨C1, N1, A1, ?_, jj⟩
  unfold c_L_25
  by_cases z : kk = 0
  · have q4 := e4 z
    simp (disch := omega) only [aok, up_s, true_and, false_and, and_true, and_false, if_true, if_false, ↓reduceIte, ↓Option.bind_some, Int.reduceEq, Int.reduceNe, Int.reduceLT, Int.reduceLE, gd_true, gd_false, bind_b, q10, eq_self, reduceCtorEq, not_true_eq_false, not_false_eq_true, ne_eq, cr_11000, cr_15000, cr_16000, cr_20000, cr_20001, cr_21000, cr_22000, cr_25000, cr_1000, cr_2000, cr_3000, cr_3003, cr_3006, cr_4000, cr_5000, cr_6000, cr_7000, cr_8000, cr_9000, cr_10000, cr_13500, cr_17000, cr_17100, cr_17103, cr_17106, cr_19000, cr_20100, cr_21100, cr_23000, cr_24000, cw_11000, cw_15000, cw_16000, cw_20000, cw_20001, cw_21000, cw_22000, cw_25000, cw_1000, cw_2000, cw_3000, cw_3003, cw_3006, cw_4000, cw_5000, cw_6000, cw_7000, cw_8000, cw_9000, cw_10000, cw_13500, cw_17000, cw_17100, cw_17103, cw_17106, cw_19000, cw_20100, cw_21100, cw_23000, cw_24000, lc_13500, lc_15000, lc_16000, lc_17000, lc_17100, lc_17103, lc_17106, lc_19000, lc_20000, lc_20001, lc_20100, lc_21000, lc_21100, lc_22000, lc_23000, lc_24000, lc_25000, gd_t, w_eq, w1, w2, w3, w4, w5, w6, e1, e2', t1, z, q4, lcp_self]
  · simp (disch := omega) only [aok, up_s, true_and, false_and, and_true, and_false, if_true, if_false, ↓reduceIte, ↓Option.bind_some, Int.reduceEq, Int.reduceNe, Int.reduceLT, Int.reduceLE, gd_true, gd_false, bind_b, q10, eq_self, reduceCtorEq, not_true_eq_false, not_false_eq_true, ne_eq, cr_11000, cr_15000, cr_16000, cr_20000, cr_20001, cr_21000, cr_22000, cr_25000, cr_1000, cr_2000, cr_3000, cr_3003, cr_3006, cr_4000, cr_5000, cr_6000, cr_7000, cr_8000, cr_9000, cr_10000, cr_13500, cr_17000, cr_17100, cr_17103, cr_17106, cr_19000, cr_20100, cr_21100, cr_23000, cr_24000, cw_11000, cw_15000, cw_16000, cw_20000, cw_20001, cw_21000, cw_22000, cw_25000, cw_1000, cw_2000, cw_3000, cw_3003, cw_3006, cw_4000, cw_5000, cw_6000, cw_7000, cw_8000, cw_9000, cw_10000, cw_13500, cw_17000, cw_17100, cw_17103, cw_17106, cw_19000, cw_20100, cw_21100, cw_23000, cw_24000, lc_13500, lc_15000, lc_16000, lc_17000, lc_17100, lc_17103, lc_17106, lc_19000, lc_20000, lc_20001, lc_20100, lc_21000, lc_21100, lc_22000, lc_23000, lc_24000, lc_25000, gd_t, w_eq, w1, w2, w3, w4, w5, w6, e1, e2', t1, z]
theorem cl_26 (hs : ∀ i, r32 (sc i)) (hn : 0 ≤ n ∧ n < 600) (hk : 0 ≤ k) (hk2 : k + 5 < sl) (hl : sl ≤ 3072) (j : JJ n C N A) : ∃ C1 N1 A1, c_L_26 (k, mk C N A) sl sc = some (.inl (k + 6, mk C1 N1 A1)) ∧ JJ (n + 1) C1 N1 A1 := by
  have w1 : w (k + 1) = k + 1 := w_eq (by omega) (by omega)
  have w2 : w (k + 2) = k + 2 := w_eq (by omega) (by omega)
  have w3 : w (k + 3) = k + 3 := w_eq (by omega) (by omega)
  have w4 : w (k + 4) = k + 4 := w_eq (by omega) (by omega)
  have w5 : w (k + 5) = k + 5 := w_eq (by omega) (by omega)
  have w6 : w (k + 6) = k + 6 := w_eq (by omega) (by omega)
  have q : SR n C N A (p_L_commitOffsets (mk C N A) 11000 (sc (k + 1)) (sc (k + 2)) 15000) (fun M => p_X11_commitOffsets M 12000 (sc (k + 1)) (sc (k + 2))) := q_commitOffsets j
  obtain ⟨kk, C1, A1, e1, v, N1, e2, e3, e4, jj⟩ := q
  have e2' : p_X11_commitOffsets (mk C1 N A1) 12000 (sc (k + 1)) (sc (k + 2)) = some (v, mk C1 N1 A1) := e2
  have t1 : p_X11_thrown (mk C1 N1 A1) 12000 = some kk := by
      unfold p_X11_thrown
      rw [pt_0, e3]
  refine ⟨C1, N1, A1, ?_, jj⟩
  unfold c_L_26
  by_cases z : kk = 0
  · have q4 := e4 z
    simp (disch := omega) only [aok, up_s, true_and, false_and, and_true, and_false, if_true, if_false, ↓reduceIte, ↓Option.bind_some, Int.reduceEq, Int.reduceNe, Int.reduceLT, Int.reduceLE, gd_true, gd_false, bind_b, q10, eq_self, reduceCtorEq, not_true_eq_false, not_false_eq_true, ne_eq, cr_11000, cr_15000, cr_16000, cr_20000, cr_20001, cr_21000, cr_22000, cr_25000, cr_1000, cr_2000, cr_3000, cr_3003, cr_3006, cr_4000, cr_5000, cr_6000, cr_7000, cr_8000, cr_9000, cr_10000, cr_13500, cr_17000, cr_17100, cr_17103, cr_17106, cr_19000, cr_20100, cr_21100, cr_23000, cr_24000, cw_11000, cw_15000, cw_16000, cw_20000, cw_20001, cw_21000, cw_22000, cw_25000, cw_1000, cw_2000, cw_3000, cw_3003, cw_3006, cw_4000, cw_5000, cw_6000, cw_7000, cw_8000, cw_9000, cw_10000, cw_13500, cw_17000, cw_17100, cw_17103, cw_17106, cw_19000, cw_20100, cw_21100, cw_23000, cw_24000, lc_13500, lc_15000, lc_16000, lc_17000, lc_17100, lc_17103, lc_17106, lc_19000, lc_20000, lc_20001, lc_20100, lc_21000, lc_21100, lc_22000, lc_23000, lc_24000, lc_25000, gd_t, w_eq, w1, w2, w3, w4, w5, w6, e1, e2', t1, z, q4, lcp_self]
  · simp (disch := omega) only [aok, up_s, true_and, false_and, and_true, and_false, if_true, if_false, ↓reduceIte, ↓Option.bind_some, Int.reduceEq, Int.reduceNe, Int.reduceLT, Int.reduceLE, gd_true, gd_false, bind_b, q10, eq_self, reduceCtorEq, not_true_eq_false, not_false_eq_true, ne_eq, cr_11000, cr_15000, cr_16000, cr_20000, cr_20001, cr_21000, cr_22000, cr_25000, cr_1000, cr_2000, cr_3000, cr_3003, cr_3006, cr_4000, cr_5000, cr_6000, cr_7000, cr_8000, cr_9000, cr_10000, cr_13500, cr_17000, cr_17100, cr_17103, cr_17106, cr_19000, cr_20100, cr_21100, cr_23000, cr_24000, cw_11000, cw_15000, cw_16000, cw_20000, cw_20001, cw_21000, cw_22000, cw_25000, cw_1000, cw_2000, cw_3000, cw_3003, cw_3006, cw_4000, cw_5000, cw_6000, cw_7000, cw_8000, cw_9000, cw_10000, cw_13500, cw_17000, cw_17100, cw_17103, cw_17106, cw_19000, cw_20100, cw_21100, cw_23000, cw_24000, lc_13500, lc_15000, lc_16000, lc_17000, lc_17100, lc_17103, lc_17106, lc_19000, lc_20000, lc_20001, lc_20100, lc_21000, lc_21100, lc_22000, lc_23000, lc_24000, lc_25000, gd_t, w_eq, w1, w2, w3, w4, w5, w6, e1, e2', t1, z]
theorem cl_27 (hs : ∀ i, r32 (sc i)) (hn : 0 ≤ n ∧ n < 600) (hk : 0 ≤ k) (hk2 : k + 5 < sl) (hl : sl ≤ 3072) (j : JJ n C N A) : ∃ C1 N1 A1, c_L_27 (k, mk C N A) sl sc = some (.inl (k + 6, mk C1 N1 A1)) ∧ JJ (n + 1) C1 N1 A1 := by
  have w1 : w (k + 1) = k + 1 := w_eq (by omega) (by omega)
  have w2 : w (k + 2) = k + 2 := w_eq (by omega) (by omega)
  have w3 : w (k + 3) = k + 3 := w_eq (by omega) (by omega)
  have w4 : w (k + 4) = k + 4 := w_eq (by omega) (by omega)
  have w5 : w (k + 5) = k + 5 := w_eq (by omega) (by omega)
  have w6 : w (k + 6) = k + 6 := w_eq (by omega) (by omega)
  have q : SR n C N A (p_L_seek (mk C N A) 11000 (sc (k + 1)) (sc (k + 2)) (sc (k + 3)) 15000) (fun M => p_X11_seek M 12000 (sc (k + 1)) (sc (k + 2)) (sc (k + 3))) := q_seek j
  obtain ⟨kk, C1, A1, e1, v, N1, e2, e3, e4, jj⟩ := q
  have e2' : p_X11_seek (mk C1 N A1) 12000 (sc (k + 1)) (sc (k + 2)) (sc (k + 3)) = some (v, mk C1 N1 A1) := e2
  have t1 : p_X11_thrown (mk C1 N1 A1) 12000 = some kk := by
      unfold p_X11_thrown
      rw [pt_0, e3]
  refine ⟨C1, N1, A1, ?_, jj⟩
  unfold c_L_27
  by_cases z : kk = 0
  · have q4 := e4 z
    simp (disch := omega) only [aok, up_s, true_and, false_and, and_true, and_false, if_true, if_false, ↓reduceIte, ↓Option.bind_some, Int.reduceEq, Int.reduceNe, Int.reduceLT, Int.reduceLE, gd_true, gd_false, bind_b, q10, eq_self, reduceCtorEq, not_true_eq_false, not_false_eq_true, ne_eq, cr_11000, cr_15000, cr_16000, cr_20000, cr_20001, cr_21000, cr_22000, cr_25000, cr_1000, cr_2000, cr_3000, cr_3003, cr_3006, cr_4000, cr_5000, cr_6000, cr_7000, cr_8000, cr_9000, cr_10000, cr_13500, cr_17000, cr_17100, cr_17103, cr_17106, cr_19000, cr_20100, cr_21100, cr_23000, cr_24000, cw_11000, cw_15000, cw_16000, cw_20000, cw_20001, cw_21000, cw_22000, cw_25000, cw_1000, cw_2000, cw_3000, cw_3003, cw_3006, cw_4000, cw_5000, cw_6000, cw_7000, cw_8000, cw_9000, cw_10000, cw_13500, cw_17000, cw_17100, cw_17103, cw_17106, cw_19000, cw_20100, cw_21100, cw_23000, cw_24000, lc_13500, lc_15000, lc_16000, lc_17000, lc_17100, lc_17103, lc_17106, lc_19000, lc_20000, lc_20001, lc_20100, lc_21000, lc_21100, lc_22000, lc_23000, lc_24000, lc_25000, gd_t, w_eq, w1, w2, w3, w4, w5, w6, e1, e2', t1, z, q4, lcp_self]
  · simp (disch := omega) only [aok, up_s, true_and, false_and, and_true, and_false, if_true, if_false, ↓reduceIte, ↓Option.bind_some, Int.reduceEq, Int.reduceNe, Int.reduceLT, Int.reduceLE, gd_true, gd_false, bind_b, q10, eq_self, reduceCtorEq, not_true_eq_false, not_false_eq_true, ne_eq, cr_11000, cr_15000, cr_16000, cr_20000, cr_20001, cr_21000, cr_22000, cr_25000, cr_1000, cr_2000, cr_3000, cr_3003, cr_3006, cr_4000, cr_5000, cr_6000, cr_7000, cr_8000, cr_9000, cr_10000, cr_13500, cr_17000, cr_17100, cr_17103, cr_17106, cr_19000, cr_20100, cr_21100, cr_23000, cr_24000, cw_11000, cw_15000, cw_16000, cw_20000, cw_20001, cw_21000, cw_22000, cw_25000, cw_1000, cw_2000, cw_3000, cw_3003, cw_3006, cw_4000, cw_5000, cw_6000, cw_7000, cw_8000, cw_9000, cw_10000, cw_13500, cw_17000, cw_17100, cw_17103, cw_17106, cw_19000, cw_20100, cw_21100, cw_23000, cw_24000, lc_13500, lc_15000, lc_16000, lc_17000, lc_17100, lc_17103, lc_17106, lc_19000, lc_20000, lc_20001, lc_20100, lc_21000, lc_21100, lc_22000, lc_23000, lc_24000, lc_25000, gd_t, w_eq, w1, w2, w3, w4, w5, w6, e1, e2', t1, z]
theorem cl_28 (hs : ∀ i, r32 (sc i)) (hn : 0 ≤ n ∧ n < 600) (hk : 0 ≤ k) (hk2 : k + 5 < sl) (hl : sl ≤ 3072) (j : JJ n C N A) : ∃ C1 N1 A1, c_L_28 (k, mk C N A) sl sc = some (.inl (k + 6, mk C1 N1 A1)) ∧ JJ (n + 1) C1 N1 A1 := by
  have w1 : w (k + 1) = k + 1 := w_eq (by omega) (by omega)
  have w2 : w (k + 2) = k + 2 := w_eq (by omega) (by omega)
  have w3 : w (k + 3) = k + 3 := w_eq (by omega) (by omega)
  have w4 : w (k + 4) = k + 4 := w_eq (by omega) (by omega)
  have w5 : w (k + 5) = k + 5 := w_eq (by omega) (by omega)
  have w6 : w (k + 6) = k + 6 := w_eq (by omega) (by omega)
  have q : SR n C N A (p_L_message (mk C N A) 11000 (sc (k + 1)) (sc (k + 2)) 15000) (fun M => p_X11_message M 12000 (sc (k + 1)) (sc (k + 2))) := q_message j
  obtain ⟨kk, C1, A1, e1, v, N1, e2, e3, e4, jj⟩ := q
  have e2' : p_X11_message (mk C1 N A1) 12000 (sc (k + 1)) (sc (k + 2)) = some (v, mk C1 N1 A1) := e2
  have t1 : p_X11_thrown (mk C1 N1 A1) 12000 = some kk := by
      unfold p_X11_thrown
      rw [pt_0, e3]
  refine ⟨C1, N1, A1, ?_, jj⟩
  unfold c_L_28
  by_cases z : kk = 0
  · have q4 := e4 z
    simp (disch := omega) only [aok, up_s, true_and, false_and, and_true, and_false, if_true, if_false, ↓reduceIte, ↓Option.bind_some, Int.reduceEq, Int.reduceNe, Int.reduceLT, Int.reduceLE, gd_true, gd_false, bind_b, q10, eq_self, reduceCtorEq, not_true_eq_false, not_false_eq_true, ne_eq, cr_11000, cr_15000, cr_16000, cr_20000, cr_20001, cr_21000, cr_22000, cr_25000, cr_1000, cr_2000, cr_3000, cr_3003, cr_3006, cr_4000, cr_5000, cr_6000, cr_7000, cr_8000, cr_9000, cr_10000, cr_13500, cr_17000, cr_17100, cr_17103, cr_17106, cr_19000, cr_20100, cr_21100, cr_23000, cr_24000, cw_11000, cw_15000, cw_16000, cw_20000, cw_20001, cw_21000, cw_22000, cw_25000, cw_1000, cw_2000, cw_3000, cw_3003, cw_3006, cw_4000, cw_5000, cw_6000, cw_7000, cw_8000, cw_9000, cw_10000, cw_13500, cw_17000, cw_17100, cw_17103, cw_17106, cw_19000, cw_20100, cw_21100, cw_23000, cw_24000, lc_13500, lc_15000, lc_16000, lc_17000, lc_17100, lc_17103, lc_17106, lc_19000, lc_20000, lc_20001, lc_20100, lc_21000, lc_21100, lc_22000, lc_23000, lc_24000, lc_25000, gd_t, w_eq, w1, w2, w3, w4, w5, w6, e1, e2', t1, z, q4, lcp_self]
  · simp (disch := omega) only [aok, up_s, true_and, false_and, and_true, and_false, if_true, if_false, ↓reduceIte, ↓Option.bind_some, Int.reduceEq, Int.reduceNe, Int.reduceLT, Int.reduceLE, gd_true, gd_false, bind_b, q10, eq_self, reduceCtorEq, not_true_eq_false, not_false_eq_true, ne_eq, cr_11000, cr_15000, cr_16000, cr_20000, cr_20001, cr_21000, cr_22000, cr_25000, cr_1000, cr_2000, cr_3000, cr_3003, cr_3006, cr_4000, cr_5000, cr_6000, cr_7000, cr_8000, cr_9000, cr_10000, cr_13500, cr_17000, cr_17100, cr_17103, cr_17106, cr_19000, cr_20100, cr_21100, cr_23000, cr_24000, cw_11000, cw_15000, cw_16000, cw_20000, cw_20001, cw_21000, cw_22000, cw_25000, cw_1000, cw_2000, cw_3000, cw_3003, cw_3006, cw_4000, cw_5000, cw_6000, cw_7000, cw_8000, cw_9000, cw_10000, cw_13500, cw_17000, cw_17100, cw_17103, cw_17106, cw_19000, cw_20100, cw_21100, cw_23000, cw_24000, lc_13500, lc_15000, lc_16000, lc_17000, lc_17100, lc_17103, lc_17106, lc_19000, lc_20000, lc_20001, lc_20100, lc_21000, lc_21100, lc_22000, lc_23000, lc_24000, lc_25000, gd_t, w_eq, w1, w2, w3, w4, w5, w6, e1, e2', t1, z]
theorem cl_29 (hs : ∀ i, r32 (sc i)) (hn : 0 ≤ n ∧ n < 600) (hk : 0 ≤ k) (hk2 : k + 5 < sl) (hl : sl ≤ 3072) (j : JJ n C N A) : ∃ C1 N1 A1, c_L_29 (k, mk C N A) sl sc = some (.inl (k + 6, mk C1 N1 A1)) ∧ JJ (n + 1) C1 N1 A1 := by
  have w1 : w (k + 1) = k + 1 := w_eq (by omega) (by omega)
  have w2 : w (k + 2) = k + 2 := w_eq (by omega) (by omega)
  have w3 : w (k + 3) = k + 3 := w_eq (by omega) (by omega)
  have w4 : w (k + 4) = k + 4 := w_eq (by omega) (by omega)
  have w5 : w (k + 5) = k + 5 := w_eq (by omega) (by omega)
  have w6 : w (k + 6) = k + 6 := w_eq (by omega) (by omega)
  have q : SR n C N A (p_L_at (mk C N A) 11000 (sc (k + 1)) (sc (k + 2)) 15000) (fun M => p_X11_at M 12000 (sc (k + 1)) (sc (k + 2))) := q_at j
  obtain ⟨kk, C1, A1, e1, v, N1, e2, e3, e4, jj⟩ := q
  have e2' : p_X11_at (mk C1 N A1) 12000 (sc (k + 1)) (sc (k + 2)) = some (v, mk C1 N1 A1) := e2
  have t1 : p_X11_thrown (mk C1 N1 A1) 12000 = some kk := by
      unfold p_X11_thrown
      rw [pt_0, e3]
  refine ⟨C1, N1, A1, ?_, jj⟩
  unfold c_L_29
  by_cases z : kk = 0
  · have q4 := e4 z
    simp (disch := omega) only [aok, up_s, true_and, false_and, and_true, and_false, if_true, if_false, ↓reduceIte, ↓Option.bind_some, Int.reduceEq, Int.reduceNe, Int.reduceLT, Int.reduceLE, gd_true, gd_false, bind_b, q10, eq_self, reduceCtorEq, not_true_eq_false, not_false_eq_true, ne_eq, cr_11000, cr_15000, cr_16000, cr_20000, cr_20001, cr_21000, cr_22000, cr_25000, cr_1000, cr_2000, cr_3000, cr_3003, cr_3006, cr_4000, cr_5000, cr_6000, cr_7000, cr_8000, cr_9000, cr_10000, cr_13500, cr_17000, cr_17100, cr_17103, cr_17106, cr_19000, cr_20100, cr_21100, cr_23000, cr_24000, cw_11000, cw_15000, cw_16000, cw_20000, cw_20001, cw_21000, cw_22000, cw_25000, cw_1000, cw_2000, cw_3000, cw_3003, cw_3006, cw_4000, cw_5000, cw_6000, cw_7000, cw_8000, cw_9000, cw_10000, cw_13500, cw_17000, cw_17100, cw_17103, cw_17106, cw_19000, cw_20100, cw_21100, cw_23000, cw_24000, lc_13500, lc_15000, lc_16000, lc_17000, lc_17100, lc_17103, lc_17106, lc_19000, lc_20000, lc_20001, lc_20100, lc_21000, lc_21100, lc_22000, lc_23000, lc_24000, lc_25000, gd_t, w_eq, w1, w2, w3, w4, w5, w6, e1, e2', t1, z, q4, lcp_self]
  · simp (disch := omega) only [aok, up_s, true_and, false_and, and_true, and_false, if_true, if_false, ↓reduceIte, ↓Option.bind_some, Int.reduceEq, Int.reduceNe, Int.reduceLT, Int.reduceLE, gd_true, gd_false, bind_b, q10, eq_self, reduceCtorEq, not_true_eq_false, not_false_eq_true, ne_eq, cr_11000, cr_15000, cr_16000, cr_20000, cr_20001, cr_21000, cr_22000, cr_25000, cr_1000, cr_2000, cr_3000, cr_3003, cr_3006, cr_4000, cr_5000, cr_6000, cr_7000, cr_8000, cr_9000, cr_10000, cr_13500, cr_17000, cr_17100, cr_17103, cr_17106, cr_19000, cr_20100, cr_21100, cr_23000, cr_24000, cw_11000, cw_15000, cw_16000, cw_20000, cw_20001, cw_21000, cw_22000, cw_25000, cw_1000, cw_2000, cw_3000, cw_3003, cw_3006, cw_4000, cw_5000, cw_6000, cw_7000, cw_8000, cw_9000, cw_10000, cw_13500, cw_17000, cw_17100, cw_17103, cw_17106, cw_19000, cw_20100, cw_21100, cw_23000, cw_24000, lc_13500, lc_15000, lc_16000, lc_17000, lc_17100, lc_17103, lc_17106, lc_19000, lc_20000, lc_20001, lc_20100, lc_21000, lc_21100, lc_22000, lc_23000, lc_24000, lc_25000, gd_t, w_eq, w1, w2, w3, w4, w5, w6, e1, e2', t1, z]
theorem cl_30 (hs : ∀ i, r32 (sc i)) (hn : 0 ≤ n ∧ n < 600) (hk : 0 ≤ k) (hk2 : k + 5 < sl) (hl : sl ≤ 3072) (j : JJ n C N A) : ∃ C1 N1 A1, c_L_30 (k, mk C N A) sl sc = some (.inl (k + 6, mk C1 N1 A1)) ∧ JJ (n + 1) C1 N1 A1 := by
  have w1 : w (k + 1) = k + 1 := w_eq (by omega) (by omega)
  have w2 : w (k + 2) = k + 2 := w_eq (by omega) (by omega)
  have w3 : w (k + 3) = k + 3 := w_eq (by omega) (by omega)
  have w4 : w (k + 4) = k + 4 := w_eq (by omega) (by omega)
  have w5 : w (k + 5) = k + 5 := w_eq (by omega) (by omega)
  have w6 : w (k + 6) = k + 6 := w_eq (by omega) (by omega)
  have q : SR n C N A (p_L_partition (mk C N A) 11000 (sc (k + 1)) (sc (k + 2)) 15000) (fun M => p_X11_partition M 12000 (sc (k + 1)) (sc (k + 2))) := q_partition j
  obtain ⟨kk, C1, A1, e1, v, N1, e2, e3, e4, jj⟩ := q
  have e2' : p_X11_partition (mk C1 N A1) 12000 (sc (k + 1)) (sc (k + 2)) = some (v, mk C1 N1 A1) := e2
  have t1 : p_X11_thrown (mk C1 N1 A1) 12000 = some kk := by
      unfold p_X11_thrown
      rw [pt_0, e3]
  refine ⟨C1, N1, A1, ?_, jj⟩
  unfold c_L_30
  by_cases z : kk = 0
  · have q4 := e4 z
    simp (disch := omega) only [aok, up_s, true_and, false_and, and_true, and_false, if_true, if_false, ↓reduceIte, ↓Option.bind_some, Int.reduceEq, Int.reduceNe, Int.reduceLT, Int.reduceLE, gd_true, gd_false, bind_b, q10, eq_self, reduceCtorEq, not_true_eq_false, not_false_eq_true, ne_eq, cr_11000, cr_15000, cr_16000, cr_20000, cr_20001, cr_21000, cr_22000, cr_25000, cr_1000, cr_2000, cr_3000, cr_3003, cr_3006, cr_4000, cr_5000, cr_6000, cr_7000, cr_8000, cr_9000, cr_10000, cr_13500, cr_17000, cr_17100, cr_17103, cr_17106, cr_19000, cr_20100, cr_21100, cr_23000, cr_24000, cw_11000, cw_15000, cw_16000, cw_20000, cw_20001, cw_21000, cw_22000, cw_25000, cw_1000, cw_2000, cw_3000, cw_3003, cw_3006, cw_4000, cw_5000, cw_6000, cw_7000, cw_8000, cw_9000, cw_10000, cw_13500, cw_17000, cw_17100, cw_17103, cw_17106, cw_19000, cw_20100, cw_21100, cw_23000, cw_24000, lc_13500, lc_15000, lc_16000, lc_17000, lc_17100, lc_17103, lc_17106, lc_19000, lc_20000, lc_20001, lc_20100, lc_21000, lc_21100, lc_22000, lc_23000, lc_24000, lc_25000, gd_t, w_eq, w1, w2, w3, w4, w5, w6, e1, e2', t1, z, q4, lcp_self]
  · simp (disch := omega) only [aok, up_s, true_and, false_and, and_true, and_false, if_true, if_false, ↓reduceIte, ↓Option.bind_some, Int.reduceEq, Int.reduceNe, Int.reduceLT, Int.reduceLE, gd_true, gd_false, bind_b, q10, eq_self, reduceCtorEq, not_true_eq_false, not_false_eq_true, ne_eq, cr_11000, cr_15000, cr_16000, cr_20000, cr_20001, cr_21000, cr_22000, cr_25000, cr_1000, cr_2000, cr_3000, cr_3003, cr_3006, cr_4000, cr_5000, cr_6000, cr_7000, cr_8000, cr_9000, cr_10000, cr_13500, cr_17000, cr_17100, cr_17103, cr_17106, cr_19000, cr_20100, cr_21100, cr_23000, cr_24000, cw_11000, cw_15000, cw_16000, cw_20000, cw_20001, cw_21000, cw_22000, cw_25000, cw_1000, cw_2000, cw_3000, cw_3003, cw_3006, cw_4000, cw_5000, cw_6000, cw_7000, cw_8000, cw_9000, cw_10000, cw_13500, cw_17000, cw_17100, cw_17103, cw_17106, cw_19000, cw_20100, cw_21100, cw_23000, cw_24000, lc_13500, lc_15000, lc_16000, lc_17000, lc_17100, lc_17103, lc_17106, lc_19000, lc_20000, lc_20001, lc_20100, lc_21000, lc_21100, lc_22000, lc_23000, lc_24000, lc_25000, gd_t, w_eq, w1, w2, w3, w4, w5, w6, e1, e2', t1, z]
theorem cl_31 (hs : ∀ i, r32 (sc i)) (hn : 0 ≤ n ∧ n < 600) (hk : 0 ≤ k) (hk2 : k + 5 < sl) (hl : sl ≤ 3072) (j : JJ n C N A) : ∃ C1 N1 A1, c_L_31 (k, mk C N A) sl sc = some (.inl (k + 6, mk C1 N1 A1)) ∧ JJ (n + 1) C1 N1 A1 := by
  have w1 : w (k + 1) = k + 1 := w_eq (by omega) (by omega)
  have w2 : w (k + 2) = k + 2 := w_eq (by omega) (by omega)
  have w3 : w (k + 3) = k + 3 := w_eq (by omega) (by omega)
  have w4 : w (k + 4) = k + 4 := w_eq (by omega) (by omega)
  have w5 : w (k + 5) = k + 5 := w_eq (by omega) (by omega)
  have w6 : w (k + 6) = k + 6 := w_eq (by omega) (by omega)
  have q : SR n C N A (p_L_replica (mk C N A) 11000 (sc (k + 1)) (sc (k + 2)) (sc (k + 3)) 15000) (fun M => p_X11_replica M 12000 (sc (k + 1)) (sc (k + 2)) (sc (k + 3))) := q_replica j
  obtain ⟨kk, C1, A1, e1, v, N1, e2, e3, e4, jj⟩ := q
  have e2' : p_X11_replica (mk C1 N A1) 12000 (sc (k + 1)) (sc (k + 2)) (sc (k + 3)) = some (v, mk C1 N1 A1) := e2
  have t1 : p_X11_thrown (mk C1 N1 A1) 12000 = some kk := by
      unfold p_X11_thrown
      rw [pt_0, e3]
  refine ⟨C1, N1, A1, ?_, jj⟩
  unfold c_L_31
  by_cases z : kk = 0
  · have q4 := e4 z
    simp (disch := omega) only [aok, up_s, true_and, false_and, and_true, and_false, if_true, if_false, ↓reduceIte, ↓Option.bind_some, Int.reduceEq, Int.reduceNe, Int.reduceLT, Int.reduceLE, gd_true, gd_false, bind_b, q10, eq_self, reduceCtorEq, not_true_eq_false, not_false_eq_true, ne_eq, cr_11000, cr_15000, cr_16000, cr_20000, cr_20001, cr_21000, cr_22000, cr_25000, cr_1000, cr_2000, cr_3000, cr_3003, cr_3006, cr_4000, cr_5000, cr_6000, cr_7000, cr_8000, cr_9000, cr_10000, cr_13500, cr_17000, cr_17100, cr_17103, cr_17106, cr_19000, cr_20100, cr_21100, cr_23000, cr_24000, cw_11000, cw_15000, cw_16000, cw_20000, cw_20001, cw_21000, cw_22000, cw_25000, cw_1000, cw_2000, cw_3000, cw_3003, cw_3006, cw_4000, cw_5000, cw_6000, cw_7000, cw_8000, cw_9000, cw_10000, cw_13500, cw_17000, cw_17100, cw_17103, cw_17106, cw_19000, cw_20100, cw_21100, cw_23000, cw_24000, lc_13500, lc_15000, lc_16000, lc_17000, lc_17100, lc_17103, lc_17106, lc_19000, lc_20000, lc_20001, lc_20100, lc_21000, lc_21100, lc_22000, lc_23000, lc_24000, lc_25000, gd_t, w_eq, w1, w2, w3, w4, w5, w6, e1, e2', t1, z, q4, lcp_self]
  · simp (disch := omega) only [aok, up_s, true_and, false_and, and_true, and_false, if_true, if_false, ↓reduceIte, ↓Option.bind_some, Int.reduceEq, Int.reduceNe, Int.reduceLT, Int.reduceLE, gd_true, gd_false, bind_b, q10, eq_self, reduceCtorEq, not_true_eq_false, not_false_eq_true, ne_eq, cr_11000, cr_15000, cr_16000, cr_20000, cr_20001, cr_21000, cr_22000, cr_25000, cr_1000, cr_2000, cr_3000, cr_3003, cr_3006, cr_4000, cr_5000, cr_6000, cr_7000, cr_8000, cr_9000, cr_10000, cr_13500, cr_17000, cr_17100, cr_17103, cr_17106, cr_19000, cr_20100, cr_21100, cr_23000, cr_24000, cw_11000, cw_15000, cw_16000, cw_20000, cw_20001, cw_21000, cw_22000, cw_25000, cw_1000, cw_2000, cw_3000, cw_3003, cw_3006, cw_4000, cw_5000, cw_6000, cw_7000, cw_8000, cw_9000, cw_10000, cw_13500, cw_17000, cw_17100, cw_17103, cw_17106, cw_19000, cw_20100, cw_21100, cw_23000, cw_24000, lc_13500, lc_15000, lc_16000, lc_17000, lc_17100, lc_17103, lc_17106, lc_19000, lc_20000, lc_20001, lc_20100, lc_21000, lc_21100, lc_22000, lc_23000, lc_24000, lc_25000, gd_t, w_eq, w1, w2, w3, w4, w5, w6, e1, e2', t1, z]
theorem cl_32 (hs : ∀ i, r32 (sc i)) (hn : 0 ≤ n ∧ n < 600) (hk : 0 ≤ k) (hk2 : k + 5 < sl) (hl : sl ≤ 3072) (j : JJ n C N A) : ∃ C1 N1 A1, c_L_32 (k, mk C N A) sl sc = some (.inl (k + 6, mk C1 N1 A1)) ∧ JJ (n + 1) C1 N1 A1 := by
  have w1 : w (k + 1) = k + 1 := w_eq (by omega) (by omega)
  have w2 : w (k + 2) = k + 2 := w_eq (by omega) (by omega)
  have w3 : w (k + 3) = k + 3 := w_eq (by omega) (by omega)
  have w4 : w (k + 4) = k + 4 := w_eq (by omega) (by omega)
  have w5 : w (k + 5) = k + 5 := w_eq (by omega) (by omega)
  have w6 : w (k + 6) = k + 6 := w_eq (by omega) (by omega)
  have q : SR n C N A (p_L_offsetAt (mk C N A) 11000 (sc (k + 1)) (sc (k + 2)) 15000) (fun M => p_X11_offsetAt M 12000 (sc (k + 1)) (sc (k + 2))) := q_offsetAt j
  obtain ⟨kk, C1, A1, e1, v, N1, e2, e3, e4, jj⟩ := q
  have e2' : p_X11_offsetAt (mk C1 N A1) 12000 (sc (k + 1)) (sc (k + 2)) = some (v, mk C1 N1 A1) := e2
  have t1 : p_X11_thrown (mk C1 N1 A1) 12000 = some kk := by
      unfold p_X11_thrown
      rw [pt_0, e3]
  refine ⟨C1, N1, A1, ?_, jj⟩
  unfold c_L_32
  by_cases z : kk = 0
  · have q4 := e4 z
    simp (disch := omega) only [aok, up_s, true_and, false_and, and_true, and_false, if_true, if_false, ↓reduceIte, ↓Option.bind_some, Int.reduceEq, Int.reduceNe, Int.reduceLT, Int.reduceLE, gd_true, gd_false, bind_b, q10, eq_self, reduceCtorEq, not_true_eq_false, not_false_eq_true, ne_eq, cr_11000, cr_15000, cr_16000, cr_20000, cr_20001, cr_21000, cr_22000, cr_25000, cr_1000, cr_2000, cr_3000, cr_3003, cr_3006, cr_4000, cr_5000, cr_6000, cr_7000, cr_8000, cr_9000, cr_10000, cr_13500, cr_17000, cr_17100, cr_17103, cr_17106, cr_19000, cr_20100, cr_21100, cr_23000, cr_24000, cw_11000, cw_15000, cw_16000, cw_20000, cw_20001, cw_21000, cw_22000, cw_25000, cw_1000, cw_2000, cw_3000, cw_3003, cw_3006, cw_4000, cw_5000, cw_6000, cw_7000, cw_8000, cw_9000, cw_10000, cw_13500, cw_17000, cw_17100, cw_17103, cw_17106, cw_19000, cw_20100, cw_21100, cw_23000, cw_24000, lc_13500, lc_15000, lc_16000, lc_17000, lc_17100, lc_17103, lc_17106, lc_19000, lc_20000, lc_20001, lc_20100, lc_21000, lc_21100, lc_22000, lc_23000, lc_24000, lc_25000, gd_t, w_eq, w1, w2, w3, w4, w5, w6, e1, e2', t1, z, q4, lcp_self]
  · simp (disch := omega) only [aok, up_s, true_and, false_and, and_true, and_false, if_true, if_false, ↓reduceIte, ↓Option.bind_some, Int.reduceEq, Int.reduceNe, Int.reduceLT, Int.reduceLE, gd_true, gd_false, bind_b, q10, eq_self, reduceCtorEq, not_true_eq_false, not_false_eq_true, ne_eq, cr_11000, cr_15000, cr_16000, cr_20000, cr_20001, cr_21000, cr_22000, cr_25000, cr_1000, cr_2000, cr_3000, cr_3003, cr_3006, cr_4000, cr_5000, cr_6000, cr_7000, cr_8000, cr_9000, cr_10000, cr_13500, cr_17000, cr_17100, cr_17103, cr_17106, cr_19000, cr_20100, cr_21100, cr_23000, cr_24000, cw_11000, cw_15000, cw_16000, cw_20000, cw_20001, cw_21000, cw_22000, cw_25000, cw_1000, cw_2000, cw_3000, cw_3003, cw_3006, cw_4000, cw_5000, cw_6000, cw_7000, cw_8000, cw_9000, cw_10000, cw_13500, cw_17000, cw_17100, cw_17103, cw_17106, cw_19000, cw_20100, cw_21100, cw_23000, cw_24000, lc_13500, lc_15000, lc_16000, lc_17000, lc_17100, lc_17103, lc_17106, lc_19000, lc_20000, lc_20001, lc_20100, lc_21000, lc_21100, lc_22000, lc_23000, lc_24000, lc_25000, gd_t, w_eq, w1, w2, w3, w4, w5, w6, e1, e2', t1, z]
theorem cl_33 (hs : ∀ i, r32 (sc i)) (hn : 0 ≤ n ∧ n < 600) (hk : 0 ≤ k) (hk2 : k + 5 < sl) (hl : sl ≤ 3072) (j : JJ n C N A) : ∃ C1 N1 A1, c_L_33 (k, mk C N A) sl sc = some (.inl (k + 6, mk C1 N1 A1)) ∧ JJ (n + 1) C1 N1 A1 := by
  have w1 : w (k + 1) = k + 1 := w_eq (by omega) (by omega)
  have w2 : w (k + 2) = k + 2 := w_eq (by omega) (by omega)
  have w3 : w (k + 3) = k + 3 := w_eq (by omega) (by omega)
  have w4 : w (k + 4) = k + 4 := w_eq (by omega) (by omega)
  have w5 : w (k + 5) = k + 5 := w_eq (by omega) (by omega)
  have w6 : w (k + 6) = k + 6 := w_eq (by omega) (by omega)
  have q : SR n C N A (p_L_value (mk C N A) 11000 (sc (k + 1)) (sc (k + 2)) 15000) (fun M => p_X11_value M 12000 (sc (k + 1)) (sc (k + 2))) := q_value (hs (k + 2)) j
  obtain ⟨kk, C1, A1, e1, v, N1, e2, e3, e4, jj⟩ := q
  have e2' : p_X11_value (mk C1 N A1) 12000 (sc (k + 1)) (sc (k + 2)) = some (v, mk C1 N1 A1) := e2
  have t1 : p_X11_thrown (mk C1 N1 A1) 12000 = some kk := by
      unfold p_X11_thrown
      rw [pt_0, e3]
  refine ⟨C1, N1, A1, ?_, jj⟩
  unfold c_L_33
  by_cases z : kk = 0
  · have q4 := e4 z
    simp (disch := omega) only [aok, up_s, true_and, false_and, and_true, and_false, if_true, if_false, ↓reduceIte, ↓Option.bind_some, Int.reduceEq, Int.reduceNe, Int.reduceLT, Int.reduceLE, gd_true, gd_false, bind_b, q10, eq_self, reduceCtorEq, not_true_eq_false, not_false_eq_true, ne_eq, cr_11000, cr_15000, cr_16000, cr_20000, cr_20001, cr_21000, cr_22000, cr_25000, cr_1000, cr_2000, cr_3000, cr_3003, cr_3006, cr_4000, cr_5000, cr_6000, cr_7000, cr_8000, cr_9000, cr_10000, cr_13500, cr_17000, cr_17100, cr_17103, cr_17106, cr_19000, cr_20100, cr_21100, cr_23000, cr_24000, cw_11000, cw_15000, cw_16000, cw_20000, cw_20001, cw_21000, cw_22000, cw_25000, cw_1000, cw_2000, cw_3000, cw_3003, cw_3006, cw_4000, cw_5000, cw_6000, cw_7000, cw_8000, cw_9000, cw_10000, cw_13500, cw_17000, cw_17100, cw_17103, cw_17106, cw_19000, cw_20100, cw_21100, cw_23000, cw_24000, lc_13500, lc_15000, lc_16000, lc_17000, lc_17100, lc_17103, lc_17106, lc_19000, lc_20000, lc_20001, lc_20100, lc_21000, lc_21100, lc_22000, lc_23000, lc_24000, lc_25000, gd_t, w_eq, w1, w2, w3, w4, w5, w6, e1, e2', t1, z, q4, lcp_self]
  · simp (disch := omega) only [aok, up_s, true_and, false_and, and_true, and_false, if_true, if_false, ↓reduceIte, ↓Option.bind_some, Int.reduceEq, Int.reduceNe, Int.reduceLT, Int.reduceLE, gd_true, gd_false, bind_b, q10, eq_self, reduceCtorEq, not_true_eq_false, not_false_eq_true, ne_eq, cr_11000, cr_15000, cr_16000, cr_20000, cr_20001, cr_21000, cr_22000, cr_25000, cr_1000, cr_2000, cr_3000, cr_3003, cr_3006, cr_4000, cr_5000, cr_6000, cr_7000, cr_8000, cr_9000, cr_10000, cr_13500, cr_17000, cr_17100, cr_17103, cr_17106, cr_19000, cr_20100, cr_21100, cr_23000, cr_24000, cw_11000, cw_15000, cw_16000, cw_20000, cw_20001, cw_21000, cw_22000, cw_25000, cw_1000, cw_2000, cw_3000, cw_3003, cw_3006, cw_4000, cw_5000, cw_6000, cw_7000, cw_8000, cw_9000, cw_10000, cw_13500, cw_17000, cw_17100, cw_17103, cw_17106, cw_19000, cw_20100, cw_21100, cw_23000, cw_24000, lc_13500, lc_15000, lc_16000, lc_17000, lc_17100, lc_17103, lc_17106, lc_19000, lc_20000, lc_20001, lc_20100, lc_21000, lc_21100, lc_22000, lc_23000, lc_24000, lc_25000, gd_t, w_eq, w1, w2, w3, w4, w5, w6, e1, e2', t1, z]
theorem cl_34 (hs : ∀ i, r32 (sc i)) (hn : 0 ≤ n ∧ n < 600) (hk : 0 ≤ k) (hk2 : k + 5 < sl) (hl : sl ≤ 3072) (j : JJ n C N A) : ∃ C1 N1 A1, c_L_34 (k, mk C N A) sl sc = some (.inl (k + 6, mk C1 N1 A1)) ∧ JJ (n + 1) C1 N1 A1 := by
  have w1 : w (k + 1) = k + 1 := w_eq (by omega) (by omega)
  have w2 : w (k + 2) = k + 2 := w_eq (by omega) (by omega)
  have w3 : w (k + 3) = k + 3 := w_eq (by omega) (by omega)
  have w4 : w (k + 4) = k + 4 := w_eq (by omega) (by omega)
  have w5 : w (k + 5) = k + 5 := w_eq (by omega) (by omega)
  have w6 : w (k + 6) = k + 6 := w_eq (by omega) (by omega)
  have q : SR n C N A (p_L_sum (mk C N A) 11000 (sc (k + 1)) (sc (k + 2)) (sc (k + 3)) (sc (k + 4)) 15000) (fun M => p_X11_sum M 12000 (sc (k + 1)) (sc (k + 2)) (sc (k + 3)) (sc (k + 4))) := q_sum (hs (k + 2)) j
  obtain ⟨kk, C1, A1, e1, v, N1, e2, e3, e4, jj⟩ := q
  have e2' : p_X11_sum (mk C1 N A1) 12000 (sc (k + 1)) (sc (k + 2)) (sc (k + 3)) (sc (k + 4)) = some (v, mk C1 N1 A1) := e2
  have t1 : p_X11_thrown (mk C1 N1 A1) 12000 = some kk := by
      unfold p_X11_thrown
      rw [pt_0, e3]
  refine ⟨C1, N1, A1, ?_, jj⟩
  unfold c_L_34
  by_cases z : kk = 0
  · have q4 := e4 z
    simp (disch := omega) only [aok, up_s, true_and, false_and, and_true, and_false, if_true, if_false, ↓reduceIte, ↓Option.bind_some, Int.reduceEq, Int.reduceNe, Int.reduceLT, Int.reduceLE, gd_true, gd_false, bind_b, q10, eq_self, reduceCtorEq, not_true_eq_false, not_false_eq_true, ne_eq, cr_11000, cr_15000, cr_16000, cr_20000, cr_20001, cr_21000, cr_22000, cr_25000, cr_1000, cr_2000, cr_3000, cr_3003, cr_3006, cr_4000, cr_5000, cr_6000, cr_7000, cr_8000, cr_9000, cr_10000, cr_13500, cr_17000, cr_17100, cr_17103, cr_17106, cr_19000, cr_20100, cr_21100, cr_23000, cr_24000, cw_11000, cw_15000, cw_16000, cw_20000, cw_20001, cw_21000, cw_22000, cw_25000, cw_1000, cw_2000, cw_3000, cw_3003, cw_3006, cw_4000, cw_5000, cw_6000, cw_7000, cw_8000, cw_9000, cw_10000, cw_13500, cw_17000, cw_17100, cw_17103, cw_17106, cw_19000, cw_20100, cw_21100, cw_23000, cw_24000, lc_13500, lc_15000, lc_16000, lc_17000, lc_17100, lc_17103, lc_17106, lc_19000, lc_20000, lc_20001, lc_20100, lc_21000, lc_21100, lc_22000, lc_23000, lc_24000, lc_25000, gd_t, w_eq, w1, w2, w3, w4, w5, w6, e1, e2', t1, z, q4, lcp_self]
  · simp (disch := omega) only [aok, up_s, true_and, false_and, and_true, and_false, if_true, if_false, ↓reduceIte, ↓Option.bind_some, Int.reduceEq, Int.reduceNe, Int.reduceLT, Int.reduceLE, gd_true, gd_false, bind_b, q10, eq_self, reduceCtorEq, not_true_eq_false, not_false_eq_true, ne_eq, cr_11000, cr_15000, cr_16000, cr_20000, cr_20001, cr_21000, cr_22000, cr_25000, cr_1000, cr_2000, cr_3000, cr_3003, cr_3006, cr_4000, cr_5000, cr_6000, cr_7000, cr_8000, cr_9000, cr_10000, cr_13500, cr_17000, cr_17100, cr_17103, cr_17106, cr_19000, cr_20100, cr_21100, cr_23000, cr_24000, cw_11000, cw_15000, cw_16000, cw_20000, cw_20001, cw_21000, cw_22000, cw_25000, cw_1000, cw_2000, cw_3000, cw_3003, cw_3006, cw_4000, cw_5000, cw_6000, cw_7000, cw_8000, cw_9000, cw_10000, cw_13500, cw_17000, cw_17100, cw_17103, cw_17106, cw_19000, cw_20100, cw_21100, cw_23000, cw_24000, lc_13500, lc_15000, lc_16000, lc_17000, lc_17100, lc_17103, lc_17106, lc_19000, lc_20000, lc_20001, lc_20100, lc_21000, lc_21100, lc_22000, lc_23000, lc_24000, lc_25000, gd_t, w_eq, w1, w2, w3, w4, w5, w6, e1, e2', t1, z]
theorem cl_35 (hs : ∀ i, r32 (sc i)) (hn : 0 ≤ n ∧ n < 600) (hk : 0 ≤ k) (hk2 : k + 5 < sl) (hl : sl ≤ 3072) (j : JJ n C N A) : ∃ C1 N1 A1, c_L_35 (k, mk C N A) sl sc = some (.inl (k + 6, mk C1 N1 A1)) ∧ JJ (n + 1) C1 N1 A1 := by
  have w1 : w (k + 1) = k + 1 := w_eq (by omega) (by omega)
  have w2 : w (k + 2) = k + 2 := w_eq (by omega) (by omega)
  have w3 : w (k + 3) = k + 3 := w_eq (by omega) (by omega)
  have w4 : w (k + 4) = k + 4 := w_eq (by omega) (by omega)
  have w5 : w (k + 5) = k + 5 := w_eq (by omega) (by omega)
  have w6 : w (k + 6) = k + 6 := w_eq (by omega) (by omega)
  have q : SR n C N A (p_L_share (mk C N A) 11000 (sc (k + 1)) (sc (k + 2)) (sc (k + 3)) 15000) (fun M => p_X11_share M 12000 (sc (k + 1)) (sc (k + 2)) (sc (k + 3))) := q_share j
  obtain ⟨kk, C1, A1, e1, v, N1, e2, e3, e4, jj⟩ := q
  have e2' : p_X11_share (mk C1 N A1) 12000 (sc (k + 1)) (sc (k + 2)) (sc (k + 3)) = some (v, mk C1 N1 A1) := e2
  have t1 : p_X11_thrown (mk C1 N1 A1) 12000 = some kk := by
      unfold p_X11_thrown
      rw [pt_0, e3]
  refine ⟨C1, N1, A1, ?_, jj⟩
  unfold c_L_35
  by_cases z : kk = 0
  · have q4 := e4 z
    simp (disch := omega) only [aok, up_s, true_and, false_and, and_true, and_false, if_true, if_false, ↓reduceIte, ↓Option.bind_some, Int.reduceEq, Int.reduceNe, Int.reduceLT, Int.reduceLE, gd_true, gd_false, bind_b, q10, eq_self, reduceCtorEq, not_true_eq_false, not_false_eq_true, ne_eq, cr_11000, cr_15000, cr_16000, cr_20000, cr_20001, cr_21000, cr_22000, cr_25000, cr_1000, cr_2000, cr_3000, cr_3003, cr_3006, cr_4000, cr_5000, cr_6000, cr_7000, cr_8000, cr_9000, cr_10000, cr_13500, cr_17000, cr_17100, cr_17103, cr_17106, cr_19000, cr_20100, cr_21100, cr_23000, cr_24000, cw_11000, cw_15000, cw_16000, cw_20000, cw_20001, cw_21000, cw_22000, cw_25000, cw_1000, cw_2000, cw_3000, cw_3003, cw_3006, cw_4000, cw_5000, cw_6000, cw_7000, cw_8000, cw_9000, cw_10000, cw_13500, cw_17000, cw_17100, cw_17103, cw_17106, cw_19000, cw_20100, cw_21100, cw_23000, cw_24000, lc_13500, lc_15000, lc_16000, lc_17000, lc_17100, lc_17103, lc_17106, lc_19000, lc_20000, lc_20001, lc_20100, lc_21000, lc_21100, lc_22000, lc_23000, lc_24000, lc_25000, gd_t, w_eq, w1, w2, w3, w4, w5, w6, e1, e2', t1, z, q4, lcp_self]
  · simp (disch := omega) only [aok, up_s, true_and, false_and, and_true, and_false, if_true, if_false, ↓reduceIte, ↓Option.bind_some, Int.reduceEq, Int.reduceNe, Int.reduceLT, Int.reduceLE, gd_true, gd_false, bind_b, q10, eq_self, reduceCtorEq, not_true_eq_false, not_false_eq_true, ne_eq, cr_11000, cr_15000, cr_16000, cr_20000, cr_20001, cr_21000, cr_22000, cr_25000, cr_1000, cr_2000, cr_3000, cr_3003, cr_3006, cr_4000, cr_5000, cr_6000, cr_7000, cr_8000, cr_9000, cr_10000, cr_13500, cr_17000, cr_17100, cr_17103, cr_17106, cr_19000, cr_20100, cr_21100, cr_23000, cr_24000, cw_11000, cw_15000, cw_16000, cw_20000, cw_20001, cw_21000, cw_22000, cw_25000, cw_1000, cw_2000, cw_3000, cw_3003, cw_3006, cw_4000, cw_5000, cw_6000, cw_7000, cw_8000, cw_9000, cw_10000, cw_13500, cw_17000, cw_17100, cw_17103, cw_17106, cw_19000, cw_20100, cw_21100, cw_23000, cw_24000, lc_13500, lc_15000, lc_16000, lc_17000, lc_17100, lc_17103, lc_17106, lc_19000, lc_20000, lc_20001, lc_20100, lc_21000, lc_21100, lc_22000, lc_23000, lc_24000, lc_25000, gd_t, w_eq, w1, w2, w3, w4, w5, w6, e1, e2', t1, z]
theorem cl_36 (hs : ∀ i, r32 (sc i)) (hn : 0 ≤ n ∧ n < 600) (hk : 0 ≤ k) (hk2 : k + 5 < sl) (hl : sl ≤ 3072) (j : JJ n C N A) : ∃ C1 N1 A1, c_L_36 (k, mk C N A) sl sc = some (.inl (k + 6, mk C1 N1 A1)) ∧ JJ (n + 1) C1 N1 A1 := by
  have w1 : w (k + 1) = k + 1 := w_eq (by omega) (by omega)
  have w2 : w (k + 2) = k + 2 := w_eq (by omega) (by omega)
  have w3 : w (k + 3) = k + 3 := w_eq (by omega) (by omega)
  have w4 : w (k + 4) = k + 4 := w_eq (by omega) (by omega)
  have w5 : w (k + 5) = k + 5 := w_eq (by omega) (by omega)
  have w6 : w (k + 6) = k + 6 := w_eq (by omega) (by omega)
  have q : SR n C N A (p_L_member (mk C N A) 11000 (sc (k + 1)) (sc (k + 2)) (sc (k + 3)) 15000) (fun M => p_X11_member M 12000 (sc (k + 1)) (sc (k + 2)) (sc (k + 3))) := q_member j
  obtain ⟨kk, C1, A1, e1, v, N1, e2, e3, e4, jj⟩ := q
  have e2' : p_X11_member (mk C1 N A1) 12000 (sc (k + 1)) (sc (k + 2)) (sc (k + 3)) = some (v, mk C1 N1 A1) := e2
  have t1 : p_X11_thrown (mk C1 N1 A1) 12000 = some kk := by
      unfold p_X11_thrown
      rw [pt_0, e3]
  refine ⟨C1, N1, A1, ?_, jj⟩
  unfold c_L_36
  by_cases z : kk = 0
  · have q4 := e4 z
    simp (disch := omega) only [aok, up_s, true_and, false_and, and_true, and_false, if_true, if_false, ↓reduceIte, ↓Option.bind_some, Int.reduceEq, Int.reduceNe, Int.reduceLT, Int.reduceLE, gd_true, gd_false, bind_b, q10, eq_self, reduceCtorEq, not_true_eq_false, not_false_eq_true, ne_eq, cr_11000, cr_15000, cr_16000, cr_20000, cr_20001, cr_21000, cr_22000, cr_25000, cr_1000, cr_2000, cr_3000, cr_3003, cr_3006, cr_4000, cr_5000, cr_6000, cr_7000, cr_8000, cr_9000, cr_10000, cr_13500, cr_17000, cr_17100, cr_17103, cr_17106, cr_19000, cr_20100, cr_21100, cr_23000, cr_24000, cw_11000, cw_15000, cw_16000, cw_20000, cw_20001, cw_21000, cw_22000, cw_25000, cw_1000, cw_2000, cw_3000, cw_3003, cw_3006, cw_4000, cw_5000, cw_6000, cw_7000, cw_8000, cw_9000, cw_10000, cw_13500, cw_17000, cw_17100, cw_17103, cw_17106, cw_19000, cw_20100, cw_21100, cw_23000, cw_24000, lc_13500, lc_15000, lc_16000, lc_17000, lc_17100, lc_17103, lc_17106, lc_19000, lc_20000, lc_20001, lc_20100, lc_21000, lc_21100, lc_22000, lc_23000, lc_24000, lc_25000, gd_t, w_eq, w1, w2, w3, w4, w5, w6, e1, e2', t1, z, q4, lcp_self]
  · simp (disch := omega) only [aok, up_s, true_and, false_and, and_true, and_false, if_true, if_false, ↓reduceIte, ↓Option.bind_some, Int.reduceEq, Int.reduceNe, Int.reduceLT, Int.reduceLE, gd_true, gd_false, bind_b, q10, eq_self, reduceCtorEq, not_true_eq_false, not_false_eq_true, ne_eq, cr_11000, cr_15000, cr_16000, cr_20000, cr_20001, cr_21000, cr_22000, cr_25000, cr_1000, cr_2000, cr_3000, cr_3003, cr_3006, cr_4000, cr_5000, cr_6000, cr_7000, cr_8000, cr_9000, cr_10000, cr_13500, cr_17000, cr_17100, cr_17103, cr_17106, cr_19000, cr_20100, cr_21100, cr_23000, cr_24000, cw_11000, cw_15000, cw_16000, cw_20000, cw_20001, cw_21000, cw_22000, cw_25000, cw_1000, cw_2000, cw_3000, cw_3003, cw_3006, cw_4000, cw_5000, cw_6000, cw_7000, cw_8000, cw_9000, cw_10000, cw_13500, cw_17000, cw_17100, cw_17103, cw_17106, cw_19000, cw_20100, cw_21100, cw_23000, cw_24000, lc_13500, lc_15000, lc_16000, lc_17000, lc_17100, lc_17103, lc_17106, lc_19000, lc_20000, lc_20001, lc_20100, lc_21000, lc_21100, lc_22000, lc_23000, lc_24000, lc_25000, gd_t, w_eq, w1, w2, w3, w4, w5, w6, e1, e2', t1, z]
theorem cl_37 (hs : ∀ i, r32 (sc i)) (hn : 0 ≤ n ∧ n < 600) (hk : 0 ≤ k) (hk2 : k + 5 < sl) (hl : sl ≤ 3072) (j : JJ n C N A) : ∃ C1 N1 A1, c_L_37 (k, mk C N A) sl sc = some (.inl (k + 6, mk C1 N1 A1)) ∧ JJ (n + 1) C1 N1 A1 := by
  have w1 : w (k + 1) = k + 1 := w_eq (by omega) (by omega)
  have w2 : w (k + 2) = k + 2 := w_eq (by omega) (by omega)
  have w3 : w (k + 3) = k + 3 := w_eq (by omega) (by omega)
  have w4 : w (k + 4) = k + 4 := w_eq (by omega) (by omega)
  have w5 : w (k + 5) = k + 5 := w_eq (by omega) (by omega)
  have w6 : w (k + 6) = k + 6 := w_eq (by omega) (by omega)
  have q : SR n C N A (p_L_hand (mk C N A) 11000 (sc (k + 1)) (sc (k + 2)) (sc (k + 3)) (sc (k + 4)) 15000) (fun M => p_X11_hand M 12000 (sc (k + 1)) (sc (k + 2)) (sc (k + 3)) (sc (k + 4))) := q_hand j
  obtain ⟨kk, C1, A1, e1, v, N1, e2, e3, e4, jj⟩ := q
  have e2' : p_X11_hand (mk C1 N A1) 12000 (sc (k + 1)) (sc (k + 2)) (sc (k + 3)) (sc (k + 4)) = some (v, mk C1 N1 A1) := e2
  have t1 : p_X11_thrown (mk C1 N1 A1) 12000 = some kk := by
      unfold p_X11_thrown
      rw [pt_0, e3]
  refine ⟨C1, N1, A1, ?_, jj⟩
  unfold c_L_37
  by_cases z : kk = 0
  · have q4 := e4 z
    simp (disch := omega) only [aok, up_s, true_and, false_and, and_true, and_false, if_true, if_false, ↓reduceIte, ↓Option.bind_some, Int.reduceEq, Int.reduceNe, Int.reduceLT, Int.reduceLE, gd_true, gd_false, bind_b, q10, eq_self, reduceCtorEq, not_true_eq_false, not_false_eq_true, ne_eq, cr_11000, cr_15000, cr_16000, cr_20000, cr_20001, cr_21000, cr_22000, cr_25000, cr_1000, cr_2000, cr_3000, cr_3003, cr_3006, cr_4000, cr_5000, cr_6000, cr_7000, cr_8000, cr_9000, cr_10000, cr_13500, cr_17000, cr_17100, cr_17103, cr_17106, cr_19000, cr_20100, cr_21100, cr_23000, cr_24000, cw_11000, cw_15000, cw_16000, cw_20000, cw_20001, cw_21000, cw_22000, cw_25000, cw_1000, cw_2000, cw_3000, cw_3003, cw_3006, cw_4000, cw_5000, cw_6000, cw_7000, cw_8000, cw_9000, cw_10000, cw_13500, cw_17000, cw_17100, cw_17103, cw_17106, cw_19000, cw_20100, cw_21100, cw_23000, cw_24000, lc_13500, lc_15000, lc_16000, lc_17000, lc_17100, lc_17103, lc_17106, lc_19000, lc_20000, lc_20001, lc_20100, lc_21000, lc_21100, lc_22000, lc_23000, lc_24000, lc_25000, gd_t, w_eq, w1, w2, w3, w4, w5, w6, e1, e2', t1, z, q4, lcp_self]
  · simp (disch := omega) only [aok, up_s, true_and, false_and, and_true, and_false, if_true, if_false, ↓reduceIte, ↓Option.bind_some, Int.reduceEq, Int.reduceNe, Int.reduceLT, Int.reduceLE, gd_true, gd_false, bind_b, q10, eq_self, reduceCtorEq, not_true_eq_false, not_false_eq_true, ne_eq, cr_11000, cr_15000, cr_16000, cr_20000, cr_20001, cr_21000, cr_22000, cr_25000, cr_1000, cr_2000, cr_3000, cr_3003, cr_3006, cr_4000, cr_5000, cr_6000, cr_7000, cr_8000, cr_9000, cr_10000, cr_13500, cr_17000, cr_17100, cr_17103, cr_17106, cr_19000, cr_20100, cr_21100, cr_23000, cr_24000, cw_11000, cw_15000, cw_16000, cw_20000, cw_20001, cw_21000, cw_22000, cw_25000, cw_1000, cw_2000, cw_3000, cw_3003, cw_3006, cw_4000, cw_5000, cw_6000, cw_7000, cw_8000, cw_9000, cw_10000, cw_13500, cw_17000, cw_17100, cw_17103, cw_17106, cw_19000, cw_20100, cw_21100, cw_23000, cw_24000, lc_13500, lc_15000, lc_16000, lc_17000, lc_17100, lc_17103, lc_17106, lc_19000, lc_20000, lc_20001, lc_20100, lc_21000, lc_21100, lc_22000, lc_23000, lc_24000, lc_25000, gd_t, w_eq, w1, w2, w3, w4, w5, w6, e1, e2', t1, z]
theorem cl_38 (hs : ∀ i, r32 (sc i)) (hn : 0 ≤ n ∧ n < 600) (hk : 0 ≤ k) (hk2 : k + 5 < sl) (hl : sl ≤ 3072) (j : JJ n C N A) : ∃ C1 N1 A1, c_L_38 (k, mk C N A) sl sc = some (.inl (k + 6, mk C1 N1 A1)) ∧ JJ (n + 1) C1 N1 A1 := by
  have w1 : w (k + 1) = k + 1 := w_eq (by omega) (by omega)
  have w2 : w (k + 2) = k + 2 := w_eq (by omega) (by omega)
  have w3 : w (k + 3) = k + 3 := w_eq (by omega) (by omega)
  have w4 : w (k + 4) = k + 4 := w_eq (by omega) (by omega)
  have w5 : w (k + 5) = k + 5 := w_eq (by omega) (by omega)
  have w6 : w (k + 6) = k + 6 := w_eq (by omega) (by omega)
  have q : SR n C N A (p_L_waits (mk C N A) 11000 (sc (k + 1)) (sc (k + 2)) (sc (k + 3)) 15000) (fun M => p_X11_waits M 12000 (sc (k + 1)) (sc (k + 2)) (sc (k + 3))) := q_waits j
  obtain ⟨kk, C1, A1, e1, v, N1, e2, e3, e4, jj⟩ := q
  have e2' : p_X11_waits (mk C1 N A1) 12000 (sc (k + 1)) (sc (k + 2)) (sc (k + 3)) = some (v, mk C1 N1 A1) := e2
  have t1 : p_X11_thrown (mk C1 N1 A1) 12000 = some kk := by
      unfold p_X11_thrown
      rw [pt_0, e3]
  refine ⟨C1, N1, A1, ?_, jj⟩
  unfold c_L_38
  by_cases z : kk = 0
  · have q4 := e4 z
    simp (disch := omega) only [aok, up_s, true_and, false_and, and_true, and_false, if_true, if_false, ↓reduceIte, ↓Option.bind_some, Int.reduceEq, Int.reduceNe, Int.reduceLT, Int.reduceLE, gd_true, gd_false, bind_b, q10, eq_self, reduceCtorEq, not_true_eq_false, not_false_eq_true, ne_eq, cr_11000, cr_15000, cr_16000, cr_20000, cr_20001, cr_21000, cr_22000, cr_25000, cr_1000, cr_2000, cr_3000, cr_3003, cr_3006, cr_4000, cr_5000, cr_6000, cr_7000, cr_8000, cr_9000, cr_10000, cr_13500, cr_17000, cr_17100, cr_17103, cr_17106, cr_19000, cr_20100, cr_21100, cr_23000, cr_24000, cw_11000, cw_15000, cw_16000, cw_20000, cw_20001, cw_21000, cw_22000, cw_25000, cw_1000, cw_2000, cw_3000, cw_3003, cw_3006, cw_4000, cw_5000, cw_6000, cw_7000, cw_8000, cw_9000, cw_10000, cw_13500, cw_17000, cw_17100, cw_17103, cw_17106, cw_19000, cw_20100, cw_21100, cw_23000, cw_24000, lc_13500, lc_15000, lc_16000, lc_17000, lc_17100, lc_17103, lc_17106, lc_19000, lc_20000, lc_20001, lc_20100, lc_21000, lc_21100, lc_22000, lc_23000, lc_24000, lc_25000, gd_t, w_eq, w1, w2, w3, w4, w5, w6, e1, e2', t1, z, q4, lcp_self]
  · simp (disch := omega) only [aok, up_s, true_and, false_and, and_true, and_false, if_true, if_false, ↓reduceIte, ↓Option.bind_some, Int.reduceEq, Int.reduceNe, Int.reduceLT, Int.reduceLE, gd_true, gd_false, bind_b, q10, eq_self, reduceCtorEq, not_true_eq_false, not_false_eq_true, ne_eq, cr_11000, cr_15000, cr_16000, cr_20000, cr_20001, cr_21000, cr_22000, cr_25000, cr_1000, cr_2000, cr_3000, cr_3003, cr_3006, cr_4000, cr_5000, cr_6000, cr_7000, cr_8000, cr_9000, cr_10000, cr_13500, cr_17000, cr_17100, cr_17103, cr_17106, cr_19000, cr_20100, cr_21100, cr_23000, cr_24000, cw_11000, cw_15000, cw_16000, cw_20000, cw_20001, cw_21000, cw_22000, cw_25000, cw_1000, cw_2000, cw_3000, cw_3003, cw_3006, cw_4000, cw_5000, cw_6000, cw_7000, cw_8000, cw_9000, cw_10000, cw_13500, cw_17000, cw_17100, cw_17103, cw_17106, cw_19000, cw_20100, cw_21100, cw_23000, cw_24000, lc_13500, lc_15000, lc_16000, lc_17000, lc_17100, lc_17103, lc_17106, lc_19000, lc_20000, lc_20001, lc_20100, lc_21000, lc_21100, lc_22000, lc_23000, lc_24000, lc_25000, gd_t, w_eq, w1, w2, w3, w4, w5, w6, e1, e2', t1, z]
theorem cl_39 (hs : ∀ i, r32 (sc i)) (hn : 0 ≤ n ∧ n < 600) (hk : 0 ≤ k) (hk2 : k + 5 < sl) (hl : sl ≤ 3072) (j : JJ n C N A) : ∃ C1 N1 A1, c_L_39 (k, mk C N A) sl sc = some (.inl (k + 6, mk C1 N1 A1)) ∧ JJ (n + 1) C1 N1 A1 := by
  have w1 : w (k + 1) = k + 1 := w_eq (by omega) (by omega)
  have w2 : w (k + 2) = k + 2 := w_eq (by omega) (by omega)
  have w3 : w (k + 3) = k + 3 := w_eq (by omega) (by omega)
  have w4 : w (k + 4) = k + 4 := w_eq (by omega) (by omega)
  have w5 : w (k + 5) = k + 5 := w_eq (by omega) (by omega)
  have w6 : w (k + 6) = k + 6 := w_eq (by omega) (by omega)
  have q : SR n C N A (p_L_dead (mk C N A) 11000 (sc (k + 1)) (sc (k + 2)) 15000) (fun M => p_X11_dead M 12000 (sc (k + 1)) (sc (k + 2))) := q_dead j
  obtain ⟨kk, C1, A1, e1, v, N1, e2, e3, e4, jj⟩ := q
  have e2' : p_X11_dead (mk C1 N A1) 12000 (sc (k + 1)) (sc (k + 2)) = some (v, mk C1 N1 A1) := e2
  have t1 : p_X11_thrown (mk C1 N1 A1) 12000 = some kk := by
      unfold p_X11_thrown
      rw [pt_0, e3]
  refine ⟨C1, N1, A1, ?_, jj⟩
  unfold c_L_39
  by_cases z : kk = 0
  · have q4 := e4 z
    simp (disch := omega) only [aok, up_s, true_and, false_and, and_true, and_false, if_true, if_false, ↓reduceIte, ↓Option.bind_some, Int.reduceEq, Int.reduceNe, Int.reduceLT, Int.reduceLE, gd_true, gd_false, bind_b, q10, eq_self, reduceCtorEq, not_true_eq_false, not_false_eq_true, ne_eq, cr_11000, cr_15000, cr_16000, cr_20000, cr_20001, cr_21000, cr_22000, cr_25000, cr_1000, cr_2000, cr_3000, cr_3003, cr_3006, cr_4000, cr_5000, cr_6000, cr_7000, cr_8000, cr_9000, cr_10000, cr_13500, cr_17000, cr_17100, cr_17103, cr_17106, cr_19000, cr_20100, cr_21100, cr_23000, cr_24000, cw_11000, cw_15000, cw_16000, cw_20000, cw_20001, cw_21000, cw_22000, cw_25000, cw_1000, cw_2000, cw_3000, cw_3003, cw_3006, cw_4000, cw_5000, cw_6000, cw_7000, cw_8000, cw_9000, cw_10000, cw_13500, cw_17000, cw_17100, cw_17103, cw_17106, cw_19000, cw_20100, cw_21100, cw_23000, cw_24000, lc_13500, lc_15000, lc_16000, lc_17000, lc_17100, lc_17103, lc_17106, lc_19000, lc_20000, lc_20001, lc_20100, lc_21000, lc_21100, lc_22000, lc_23000, lc_24000, lc_25000, gd_t, w_eq, w1, w2, w3, w4, w5, w6, e1, e2', t1, z, q4, lcp_self]
  · simp (disch := omega) only [aok, up_s, true_and, false_and, and_true, and_false, if_true, if_false, ↓reduceIte, ↓Option.bind_some, Int.reduceEq, Int.reduceNe, Int.reduceLT, Int.reduceLE, gd_true, gd_false, bind_b, q10, eq_self, reduceCtorEq, not_true_eq_false, not_false_eq_true, ne_eq, cr_11000, cr_15000, cr_16000, cr_20000, cr_20001, cr_21000, cr_22000, cr_25000, cr_1000, cr_2000, cr_3000, cr_3003, cr_3006, cr_4000, cr_5000, cr_6000, cr_7000, cr_8000, cr_9000, cr_10000, cr_13500, cr_17000, cr_17100, cr_17103, cr_17106, cr_19000, cr_20100, cr_21100, cr_23000, cr_24000, cw_11000, cw_15000, cw_16000, cw_20000, cw_20001, cw_21000, cw_22000, cw_25000, cw_1000, cw_2000, cw_3000, cw_3003, cw_3006, cw_4000, cw_5000, cw_6000, cw_7000, cw_8000, cw_9000, cw_10000, cw_13500, cw_17000, cw_17100, cw_17103, cw_17106, cw_19000, cw_20100, cw_21100, cw_23000, cw_24000, lc_13500, lc_15000, lc_16000, lc_17000, lc_17100, lc_17103, lc_17106, lc_19000, lc_20000, lc_20001, lc_20100, lc_21000, lc_21100, lc_22000, lc_23000, lc_24000, lc_25000, gd_t, w_eq, w1, w2, w3, w4, w5, w6, e1, e2', t1, z]
theorem cl_40 (hs : ∀ i, r32 (sc i)) (hn : 0 ≤ n ∧ n < 600) (hk : 0 ≤ k) (hk2 : k + 5 < sl) (hl : sl ≤ 3072) (j : JJ n C N A) : ∃ C1 N1 A1, c_L_40 (k, mk C N A) sl sc = some (.inl (k + 6, mk C1 N1 A1)) ∧ JJ (n + 1) C1 N1 A1 := by
  have w1 : w (k + 1) = k + 1 := w_eq (by omega) (by omega)
  have w2 : w (k + 2) = k + 2 := w_eq (by omega) (by omega)
  have w3 : w (k + 3) = k + 3 := w_eq (by omega) (by omega)
  have w4 : w (k + 4) = k + 4 := w_eq (by omega) (by omega)
  have w5 : w (k + 5) = k + 5 := w_eq (by omega) (by omega)
  have w6 : w (k + 6) = k + 6 := w_eq (by omega) (by omega)
  have q : SR n C N A (p_L_seen (mk C N A) 11000 (sc (k + 1)) (sc (k + 2)) 15000) (fun M => p_X11_seen M 12000 (sc (k + 1)) (sc (k + 2))) := q_seen j
  obtain ⟨kk, C1, A1, e1, v, N1, e2, e3, e4, jj⟩ := q
  have e2' : p_X11_seen (mk C1 N A1) 12000 (sc (k + 1)) (sc (k + 2)) = some (v, mk C1 N1 A1) := e2
  have t1 : p_X11_thrown (mk C1 N1 A1) 12000 = some kk := by
      unfold p_X11_thrown
      rw [pt_0, e3]
  refine ⟨C1, N1, A1, ?_, jj⟩
  unfold c_L_40
  by_cases z : kk = 0
  · have q4 := e4 z
    simp (disch := omega) only [aok, up_s, true_and, false_and, and_true, and_false, if_true, if_false, ↓reduceIte, ↓Option.bind_some, Int.reduceEq, Int.reduceNe, Int.reduceLT, Int.reduceLE, gd_true, gd_false, bind_b, q10, eq_self, reduceCtorEq, not_true_eq_false, not_false_eq_true, ne_eq, cr_11000, cr_15000, cr_16000, cr_20000, cr_20001, cr_21000, cr_22000, cr_25000, cr_1000, cr_2000, cr_3000, cr_3003, cr_3006, cr_4000, cr_5000, cr_6000, cr_7000, cr_8000, cr_9000, cr_10000, cr_13500, cr_17000, cr_17100, cr_17103, cr_17106, cr_19000, cr_20100, cr_21100, cr_23000, cr_24000, cw_11000, cw_15000, cw_16000, cw_20000, cw_20001, cw_21000, cw_22000, cw_25000, cw_1000, cw_2000, cw_3000, cw_3003, cw_3006, cw_4000, cw_5000, cw_6000, cw_7000, cw_8000, cw_9000, cw_10000, cw_13500, cw_17000, cw_17100, cw_17103, cw_17106, cw_19000, cw_20100, cw_21100, cw_23000, cw_24000, lc_13500, lc_15000, lc_16000, lc_17000, lc_17100, lc_17103, lc_17106, lc_19000, lc_20000, lc_20001, lc_20100, lc_21000, lc_21100, lc_22000, lc_23000, lc_24000, lc_25000, gd_t, w_eq, w1, w2, w3, w4, w5, w6, e1, e2', t1, z, q4, lcp_self]
  · simp (disch := omega) only [aok, up_s, true_and, false_and, and_true, and_false, if_true, if_false, ↓reduceIte, ↓Option.bind_some, Int.reduceEq, Int.reduceNe, Int.reduceLT, Int.reduceLE, gd_true, gd_false, bind_b, q10, eq_self, reduceCtorEq, not_true_eq_false, not_false_eq_true, ne_eq, cr_11000, cr_15000, cr_16000, cr_20000, cr_20001, cr_21000, cr_22000, cr_25000, cr_1000, cr_2000, cr_3000, cr_3003, cr_3006, cr_4000, cr_5000, cr_6000, cr_7000, cr_8000, cr_9000, cr_10000, cr_13500, cr_17000, cr_17100, cr_17103, cr_17106, cr_19000, cr_20100, cr_21100, cr_23000, cr_24000, cw_11000, cw_15000, cw_16000, cw_20000, cw_20001, cw_21000, cw_22000, cw_25000, cw_1000, cw_2000, cw_3000, cw_3003, cw_3006, cw_4000, cw_5000, cw_6000, cw_7000, cw_8000, cw_9000, cw_10000, cw_13500, cw_17000, cw_17100, cw_17103, cw_17106, cw_19000, cw_20100, cw_21100, cw_23000, cw_24000, lc_13500, lc_15000, lc_16000, lc_17000, lc_17100, lc_17103, lc_17106, lc_19000, lc_20000, lc_20001, lc_20100, lc_21000, lc_21100, lc_22000, lc_23000, lc_24000, lc_25000, gd_t, w_eq, w1, w2, w3, w4, w5, w6, e1, e2', t1, z]
theorem cl_41 (hs : ∀ i, r32 (sc i)) (hn : 0 ≤ n ∧ n < 600) (hk : 0 ≤ k) (hk2 : k + 5 < sl) (hl : sl ≤ 3072) (j : JJ n C N A) : ∃ C1 N1 A1, c_L_41 (k, mk C N A) sl sc = some (.inl (k + 6, mk C1 N1 A1)) ∧ JJ (n + 1) C1 N1 A1 := by
  have w1 : w (k + 1) = k + 1 := w_eq (by omega) (by omega)
  have w2 : w (k + 2) = k + 2 := w_eq (by omega) (by omega)
  have w3 : w (k + 3) = k + 3 := w_eq (by omega) (by omega)
  have w4 : w (k + 4) = k + 4 := w_eq (by omega) (by omega)
  have w5 : w (k + 5) = k + 5 := w_eq (by omega) (by omega)
  have w6 : w (k + 6) = k + 6 := w_eq (by omega) (by omega)
  have q : SR n C N A (p_L_count (mk C N A) 11000 (sc (k + 1)) 15000) (fun M => p_X11_count M 12000 (sc (k + 1))) := q_count j
  obtain ⟨kk, C1, A1, e1, v, N1, e2, e3, e4, jj⟩ := q
  have e2' : p_X11_count (mk C1 N A1) 12000 (sc (k + 1)) = some (v, mk C1 N1 A1) := e2
  have t1 : p_X11_thrown (mk C1 N1 A1) 12000 = some kk := by
      unfold p_X11_thrown
      rw [pt_0, e3]
  refine ⟨C1, N1, A1, ?_, jj⟩
  unfold c_L_41
  by_cases z : kk = 0
  · have q4 := e4 z
    simp (disch := omega) only [aok, up_s, true_and, false_and, and_true, and_false, if_true, if_false, ↓reduceIte, ↓Option.bind_some, Int.reduceEq, Int.reduceNe, Int.reduceLT, Int.reduceLE, gd_true, gd_false, bind_b, q10, eq_self, reduceCtorEq, not_true_eq_false, not_false_eq_true, ne_eq, cr_11000, cr_15000, cr_16000, cr_20000, cr_20001, cr_21000, cr_22000, cr_25000, cr_1000, cr_2000, cr_3000, cr_3003, cr_3006, cr_4000, cr_5000, cr_6000, cr_7000, cr_8000, cr_9000, cr_10000, cr_13500, cr_17000, cr_17100, cr_17103, cr_17106, cr_19000, cr_20100, cr_21100, cr_23000, cr_24000, cw_11000, cw_15000, cw_16000, cw_20000, cw_20001, cw_21000, cw_22000, cw_25000, cw_1000, cw_2000, cw_3000, cw_3003, cw_3006, cw_4000, cw_5000, cw_6000, cw_7000, cw_8000, cw_9000, cw_10000, cw_13500, cw_17000, cw_17100, cw_17103, cw_17106, cw_19000, cw_20100, cw_21100, cw_23000, cw_24000, lc_13500, lc_15000, lc_16000, lc_17000, lc_17100, lc_17103, lc_17106, lc_19000, lc_20000, lc_20001, lc_20100, lc_21000, lc_21100, lc_22000, lc_23000, lc_24000, lc_25000, gd_t, w_eq, w1, w2, w3, w4, w5, w6, e1, e2', t1, z, q4, lcp_self]
  · simp (disch := omega) only [aok, up_s, true_and, false_and, and_true, and_false, if_true, if_false, ↓reduceIte, ↓Option.bind_some, Int.reduceEq, Int.reduceNe, Int.reduceLT, Int.reduceLE, gd_true, gd_false, bind_b, q10, eq_self, reduceCtorEq, not_true_eq_false, not_false_eq_true, ne_eq, cr_11000, cr_15000, cr_16000, cr_20000, cr_20001, cr_21000, cr_22000, cr_25000, cr_1000, cr_2000, cr_3000, cr_3003, cr_3006, cr_4000, cr_5000, cr_6000, cr_7000, cr_8000, cr_9000, cr_10000, cr_13500, cr_17000, cr_17100, cr_17103, cr_17106, cr_19000, cr_20100, cr_21100, cr_23000, cr_24000, cw_11000, cw_15000, cw_16000, cw_20000, cw_20001, cw_21000, cw_22000, cw_25000, cw_1000, cw_2000, cw_3000, cw_3003, cw_3006, cw_4000, cw_5000, cw_6000, cw_7000, cw_8000, cw_9000, cw_10000, cw_13500, cw_17000, cw_17100, cw_17103, cw_17106, cw_19000, cw_20100, cw_21100, cw_23000, cw_24000, lc_13500, lc_15000, lc_16000, lc_17000, lc_17100, lc_17103, lc_17106, lc_19000, lc_20000, lc_20001, lc_20100, lc_21000, lc_21100, lc_22000, lc_23000, lc_24000, lc_25000, gd_t, w_eq, w1, w2, w3, w4, w5, w6, e1, e2', t1, z]
theorem cl_42 (hs : ∀ i, r32 (sc i)) (hn : 0 ≤ n ∧ n < 600) (hk : 0 ≤ k) (hk2 : k + 5 < sl) (hl : sl ≤ 3072) (j : JJ n C N A) : ∃ C1 N1 A1, c_L_42 (k, mk C N A) sl sc = some (.inl (k + 6, mk C1 N1 A1)) ∧ JJ (n + 1) C1 N1 A1 := by
  have w1 : w (k + 1) = k + 1 := w_eq (by omega) (by omega)
  have w2 : w (k + 2) = k + 2 := w_eq (by omega) (by omega)
  have w3 : w (k + 3) = k + 3 := w_eq (by omega) (by omega)
  have w4 : w (k + 4) = k + 4 := w_eq (by omega) (by omega)
  have w5 : w (k + 5) = k + 5 := w_eq (by omega) (by omega)
  have w6 : w (k + 6) = k + 6 := w_eq (by omega) (by omega)
  have q : SR n C N A (p_L_ofGroup (mk C N A) 11000 (sc (k + 1)) (sc (k + 2)) 15000) (fun M => p_X11_ofGroup M 12000 (sc (k + 1)) (sc (k + 2))) := q_ofGroup j
  obtain ⟨kk, C1, A1, e1, v, N1, e2, e3, e4, jj⟩ := q
  have e2' : p_X11_ofGroup (mk C1 N A1) 12000 (sc (k + 1)) (sc (k + 2)) = some (v, mk C1 N1 A1) := e2
  have t1 : p_X11_thrown (mk C1 N1 A1) 12000 = some kk := by
      unfold p_X11_thrown
      rw [pt_0, e3]
  refine ⟨C1, N1, A1, ?_, jj⟩
  unfold c_L_42
  by_cases z : kk = 0
  · have q4 := e4 z
    simp (disch := omega) only [aok, up_s, true_and, false_and, and_true, and_false, if_true, if_false, ↓reduceIte, ↓Option.bind_some, Int.reduceEq, Int.reduceNe, Int.reduceLT, Int.reduceLE, gd_true, gd_false, bind_b, q10, eq_self, reduceCtorEq, not_true_eq_false, not_false_eq_true, ne_eq, cr_11000, cr_15000, cr_16000, cr_20000, cr_20001, cr_21000, cr_22000, cr_25000, cr_1000, cr_2000, cr_3000, cr_3003, cr_3006, cr_4000, cr_5000, cr_6000, cr_7000, cr_8000, cr_9000, cr_10000, cr_13500, cr_17000, cr_17100, cr_17103, cr_17106, cr_19000, cr_20100, cr_21100, cr_23000, cr_24000, cw_11000, cw_15000, cw_16000, cw_20000, cw_20001, cw_21000, cw_22000, cw_25000, cw_1000, cw_2000, cw_3000, cw_3003, cw_3006, cw_4000, cw_5000, cw_6000, cw_7000, cw_8000, cw_9000, cw_10000, cw_13500, cw_17000, cw_17100, cw_17103, cw_17106, cw_19000, cw_20100, cw_21100, cw_23000, cw_24000, lc_13500, lc_15000, lc_16000, lc_17000, lc_17100, lc_17103, lc_17106, lc_19000, lc_20000, lc_20001, lc_20100, lc_21000, lc_21100, lc_22000, lc_23000, lc_24000, lc_25000, gd_t, w_eq, w1, w2, w3, w4, w5, w6, e1, e2', t1, z, q4, lcp_self]
  · simp (disch := omega) only [aok, up_s, true_and, false_and, and_true, and_false, if_true, if_false, ↓reduceIte, ↓Option.bind_some, Int.reduceEq, Int.reduceNe, Int.reduceLT, Int.reduceLE, gd_true, gd_false, bind_b, q10, eq_self, reduceCtorEq, not_true_eq_false, not_false_eq_true, ne_eq, cr_11000, cr_15000, cr_16000, cr_20000, cr_20001, cr_21000, cr_22000, cr_25000, cr_1000, cr_2000, cr_3000, cr_3003, cr_3006, cr_4000, cr_5000, cr_6000, cr_7000, cr_8000, cr_9000, cr_10000, cr_13500, cr_17000, cr_17100, cr_17103, cr_17106, cr_19000, cr_20100, cr_21100, cr_23000, cr_24000, cw_11000, cw_15000, cw_16000, cw_20000, cw_20001, cw_21000, cw_22000, cw_25000, cw_1000, cw_2000, cw_3000, cw_3003, cw_3006, cw_4000, cw_5000, cw_6000, cw_7000, cw_8000, cw_9000, cw_10000, cw_13500, cw_17000, cw_17100, cw_17103, cw_17106, cw_19000, cw_20100, cw_21100, cw_23000, cw_24000, lc_13500, lc_15000, lc_16000, lc_17000, lc_17100, lc_17103, lc_17106, lc_19000, lc_20000, lc_20001, lc_20100, lc_21000, lc_21100, lc_22000, lc_23000, lc_24000, lc_25000, gd_t, w_eq, w1, w2, w3, w4, w5, w6, e1, e2', t1, z]
theorem cl_43 (hs : ∀ i, r32 (sc i)) (hn : 0 ≤ n ∧ n < 600) (hk : 0 ≤ k) (hk2 : k + 5 < sl) (hl : sl ≤ 3072) (j : JJ n C N A) : ∃ C1 N1 A1, c_L_43 (k, mk C N A) sl sc = some (.inl (k + 6, mk C1 N1 A1)) ∧ JJ (n + 1) C1 N1 A1 := by
  have w1 : w (k + 1) = k + 1 := w_eq (by omega) (by omega)
  have w2 : w (k + 2) = k + 2 := w_eq (by omega) (by omega)
  have w3 : w (k + 3) = k + 3 := w_eq (by omega) (by omega)
  have w4 : w (k + 4) = k + 4 := w_eq (by omega) (by omega)
  have w5 : w (k + 5) = k + 5 := w_eq (by omega) (by omega)
  have w6 : w (k + 6) = k + 6 := w_eq (by omega) (by omega)
  have q : SR n C N A (p_L_audit (mk C N A) 11000 (sc (k + 1)) 15000) (fun M => p_X11_audit M 12000 (sc (k + 1))) := q_audit j
  obtain ⟨kk, C1, A1, e1, v, N1, e2, e3, e4, jj⟩ := q
  have e2' : p_X11_audit (mk C1 N A1) 12000 (sc (k + 1)) = some (v, mk C1 N1 A1) := e2
  have t1 : p_X11_thrown (mk C1 N1 A1) 12000 = some kk := by
      unfold p_X11_thrown
      rw [pt_0, e3]
  refine ⟨C1, N1, A1, ?_, jj⟩
  unfold c_L_43
  by_cases z : kk = 0
  · have q4 := e4 z
    rcases au01 e2' with y | y
    · rw [y] at q4 e2'
      simp (disch := omega) only [aok, up_s, true_and, false_and, and_true, and_false, if_true, if_false, ↓reduceIte, ↓Option.bind_some, Int.reduceEq, Int.reduceNe, Int.reduceLT, Int.reduceLE, gd_true, gd_false, bind_b, q10, eq_self, reduceCtorEq, not_true_eq_false, not_false_eq_true, ne_eq, cr_11000, cr_15000, cr_16000, cr_20000, cr_20001, cr_21000, cr_22000, cr_25000, cr_1000, cr_2000, cr_3000, cr_3003, cr_3006, cr_4000, cr_5000, cr_6000, cr_7000, cr_8000, cr_9000, cr_10000, cr_13500, cr_17000, cr_17100, cr_17103, cr_17106, cr_19000, cr_20100, cr_21100, cr_23000, cr_24000, cw_11000, cw_15000, cw_16000, cw_20000, cw_20001, cw_21000, cw_22000, cw_25000, cw_1000, cw_2000, cw_3000, cw_3003, cw_3006, cw_4000, cw_5000, cw_6000, cw_7000, cw_8000, cw_9000, cw_10000, cw_13500, cw_17000, cw_17100, cw_17103, cw_17106, cw_19000, cw_20100, cw_21100, cw_23000, cw_24000, lc_13500, lc_15000, lc_16000, lc_17000, lc_17100, lc_17103, lc_17106, lc_19000, lc_20000, lc_20001, lc_20100, lc_21000, lc_21100, lc_22000, lc_23000, lc_24000, lc_25000, gd_t, w_eq, w1, w2, w3, w4, w5, w6, e1, e2', t1, z, q4, lcp_self]
    · rw [y] at q4 e2'
      simp (disch := omega) only [aok, up_s, true_and, false_and, and_true, and_false, if_true, if_false, ↓reduceIte, ↓Option.bind_some, Int.reduceEq, Int.reduceNe, Int.reduceLT, Int.reduceLE, gd_true, gd_false, bind_b, q10, eq_self, reduceCtorEq, not_true_eq_false, not_false_eq_true, ne_eq, cr_11000, cr_15000, cr_16000, cr_20000, cr_20001, cr_21000, cr_22000, cr_25000, cr_1000, cr_2000, cr_3000, cr_3003, cr_3006, cr_4000, cr_5000, cr_6000, cr_7000, cr_8000, cr_9000, cr_10000, cr_13500, cr_17000, cr_17100, cr_17103, cr_17106, cr_19000, cr_20100, cr_21100, cr_23000, cr_24000, cw_11000, cw_15000, cw_16000, cw_20000, cw_20001, cw_21000, cw_22000, cw_25000, cw_1000, cw_2000, cw_3000, cw_3003, cw_3006, cw_4000, cw_5000, cw_6000, cw_7000, cw_8000, cw_9000, cw_10000, cw_13500, cw_17000, cw_17100, cw_17103, cw_17106, cw_19000, cw_20100, cw_21100, cw_23000, cw_24000, lc_13500, lc_15000, lc_16000, lc_17000, lc_17100, lc_17103, lc_17106, lc_19000, lc_20000, lc_20001, lc_20100, lc_21000, lc_21100, lc_22000, lc_23000, lc_24000, lc_25000, gd_t, w_eq, w1, w2, w3, w4, w5, w6, e1, e2', t1, z, q4, lcp_self]
  · simp (disch := omega) only [aok, up_s, true_and, false_and, and_true, and_false, if_true, if_false, ↓reduceIte, ↓Option.bind_some, Int.reduceEq, Int.reduceNe, Int.reduceLT, Int.reduceLE, gd_true, gd_false, bind_b, q10, eq_self, reduceCtorEq, not_true_eq_false, not_false_eq_true, ne_eq, cr_11000, cr_15000, cr_16000, cr_20000, cr_20001, cr_21000, cr_22000, cr_25000, cr_1000, cr_2000, cr_3000, cr_3003, cr_3006, cr_4000, cr_5000, cr_6000, cr_7000, cr_8000, cr_9000, cr_10000, cr_13500, cr_17000, cr_17100, cr_17103, cr_17106, cr_19000, cr_20100, cr_21100, cr_23000, cr_24000, cw_11000, cw_15000, cw_16000, cw_20000, cw_20001, cw_21000, cw_22000, cw_25000, cw_1000, cw_2000, cw_3000, cw_3003, cw_3006, cw_4000, cw_5000, cw_6000, cw_7000, cw_8000, cw_9000, cw_10000, cw_13500, cw_17000, cw_17100, cw_17103, cw_17106, cw_19000, cw_20100, cw_21100, cw_23000, cw_24000, lc_13500, lc_15000, lc_16000, lc_17000, lc_17100, lc_17103, lc_17106, lc_19000, lc_20000, lc_20001, lc_20100, lc_21000, lc_21100, lc_22000, lc_23000, lc_24000, lc_25000, gd_t, w_eq, w1, w2, w3, w4, w5, w6, e1, e2', t1, z]
theorem cl_44 (hs : ∀ i, r32 (sc i)) (hn : 0 ≤ n ∧ n < 600) (hk : 0 ≤ k) (hk2 : k + 5 < sl) (hl : sl ≤ 3072) (j : JJ n C N A) : ∃ C1 N1 A1, c_L_44 (k, mk C N A) = some (.inl (k + 6, mk C1 N1 A1)) ∧ JJ (n + 1) C1 N1 A1 := by
  have w1 : w (k + 1) = k + 1 := w_eq (by omega) (by omega)
  have w2 : w (k + 2) = k + 2 := w_eq (by omega) (by omega)
  have w3 : w (k + 3) = k + 3 := w_eq (by omega) (by omega)
  have w4 : w (k + 4) = k + 4 := w_eq (by omega) (by omega)
  have w5 : w (k + 5) = k + 5 := w_eq (by omega) (by omega)
  have w6 : w (k + 6) = k + 6 := w_eq (by omega) (by omega)
  have e1 := c_digest (N0 := N) (A' := A) j
  have e2 := m_digest j A
  refine ⟨C, up N 12000 0 0, A, ?_, j.thrown.next⟩
  unfold c_L_44
  simp (disch := omega) only [aok, up_s, true_and, false_and, and_true, and_false, if_true, if_false, ↓reduceIte, ↓Option.bind_some, Int.reduceEq, Int.reduceNe, Int.reduceLT, Int.reduceLE, gd_true, gd_false, bind_b, q10, eq_self, reduceCtorEq, not_true_eq_false, not_false_eq_true, ne_eq, cr_11000, cr_15000, cr_16000, cr_20000, cr_20001, cr_21000, cr_22000, cr_25000, cr_1000, cr_2000, cr_3000, cr_3003, cr_3006, cr_4000, cr_5000, cr_6000, cr_7000, cr_8000, cr_9000, cr_10000, cr_13500, cr_17000, cr_17100, cr_17103, cr_17106, cr_19000, cr_20100, cr_21100, cr_23000, cr_24000, cw_11000, cw_15000, cw_16000, cw_20000, cw_20001, cw_21000, cw_22000, cw_25000, cw_1000, cw_2000, cw_3000, cw_3003, cw_3006, cw_4000, cw_5000, cw_6000, cw_7000, cw_8000, cw_9000, cw_10000, cw_13500, cw_17000, cw_17100, cw_17103, cw_17106, cw_19000, cw_20100, cw_21100, cw_23000, cw_24000, lc_13500, lc_15000, lc_16000, lc_17000, lc_17100, lc_17103, lc_17106, lc_19000, lc_20000, lc_20001, lc_20100, lc_21000, lc_21100, lc_22000, lc_23000, lc_24000, lc_25000, gd_t, w_eq, w6, e1, e2]
theorem law_b (hs : ∀ i, r32 (sc i)) (hn : 0 ≤ n ∧ n < 600) (hk : 0 ≤ k) (hk2 : k + 5 < sl) (hl : sl ≤ 3072) (j : JJ n C N A) : ∃ C1 N1 A1, b_L_law_23 sl sc (k, mk C N A) = some (.inl (k + 6, mk C1 N1 A1)) ∧ JJ (n + 1) C1 N1 A1 := by
  have ws : w (w sl - 6) = sl - 6 := by
    rw [w_eq (z := sl) (by omega) (by omega)]
    exact w_eq (by omega) (by omega)
  have nl : ¬ sl - 6 < k := by omega
  have w6 : w (k + 6) = k + 6 := w_eq (by omega) (by omega)
  unfold b_L_law_23
  rw [ws, if_neg nl, gd_t (show 0 ≤ k ∧ k < sl by omega)]
  by_cases h0 : ian (sc k) 63 = 0
  · rw [if_pos h0]
    exact cl_0 hs hn hk hk2 hl j
  rw [if_neg h0]
  by_cases h1 : ian (sc k) 63 = 1
  · rw [if_pos h1]
    exact cl_1 hs hn hk hk2 hl j
  rw [if_neg h1]
  by_cases h2 : ian (sc k) 63 = 2
  · rw [if_pos h2]
    exact cl_2 hs hn hk hk2 hl j
  rw [if_neg h2]
  by_cases h3 : ian (sc k) 63 = 3
  · rw [if_pos h3]
    exact cl_3 hs hn hk hk2 hl j
  rw [if_neg h3]
  by_cases h4 : ian (sc k) 63 = 4
  · rw [if_pos h4]
    exact cl_4 hs hn hk hk2 hl j
  rw [if_neg h4]
  by_cases h5 : ian (sc k) 63 = 5
  · rw [if_pos h5]
    exact cl_5 hs hn hk hk2 hl j
  rw [if_neg h5]
  by_cases h6 : ian (sc k) 63 = 6
  · rw [if_pos h6]
    exact cl_6 hs hn hk hk2 hl j
  rw [if_neg h6]
  by_cases h7 : ian (sc k) 63 = 7
  · rw [if_pos h7]
    exact cl_7 hs hn hk hk2 hl j
  rw [if_neg h7]
  by_cases h8 : ian (sc k) 63 = 8
  · rw [if_pos h8]
    exact cl_8 (sl := sl) hs hn hk hk2 hl j
  rw [if_neg h8]
  by_cases h9 : ian (sc k) 63 = 9
  · rw [if_pos h9]
    exact cl_9 hs hn hk hk2 hl j
  rw [if_neg h9]
  by_cases h10 : ian (sc k) 63 = 10
  · rw [if_pos h10]
    exact cl_10 hs hn hk hk2 hl j
  rw [if_neg h10]
  by_cases h11 : ian (sc k) 63 = 11
  · rw [if_pos h11]
    exact cl_11 hs hn hk hk2 hl j
  rw [if_neg h11]
  by_cases h12 : ian (sc k) 63 = 12
  · rw [if_pos h12]
    exact cl_12 hs hn hk hk2 hl j
  rw [if_neg h12]
  by_cases h13 : ian (sc k) 63 = 13
  · rw [if_pos h13]
    exact cl_13 hs hn hk hk2 hl j
  rw [if_neg h13]
  by_cases h14 : ian (sc k) 63 = 14
  · rw [if_pos h14]
    exact cl_14 hs hn hk hk2 hl j
  rw [if_neg h14]
  by_cases h15 : ian (sc k) 63 = 15
  · rw [if_pos h15]
    exact cl_15 hs hn hk hk2 hl j
  rw [if_neg h15]
  by_cases h16 : ian (sc k) 63 = 16
  · rw [if_pos h16]
    exact cl_16 hs hn hk hk2 hl j
  rw [if_neg h16]
  by_cases h17 : ian (sc k) 63 = 17
  · rw [if_pos h17]
    exact cl_17 hs hn hk hk2 hl j
  rw [if_neg h17]
  by_cases h18 : ian (sc k) 63 = 18
  · rw [if_pos h18]
    exact cl_18 hs hn hk hk2 hl j
  rw [if_neg h18]
  by_cases h19 : ian (sc k) 63 = 19
  · rw [if_pos h19]
    exact cl_19 hs hn hk hk2 hl j
  rw [if_neg h19]
  by_cases h20 : ian (sc k) 63 = 20
  · rw [if_pos h20]
    exact cl_20 hs hn hk hk2 hl j
  rw [if_neg h20]
  by_cases h21 : ian (sc k) 63 = 21
  · rw [if_pos h21]
    exact cl_21 hs hn hk hk2 hl j
  rw [if_neg h21]
  by_cases h22 : ian (sc k) 63 = 22
  · rw [if_pos h22]
    exact cl_22 hs hn hk hk2 hl j
  rw [if_neg h22]
  by_cases h23 : ian (sc k) 63 = 23
  · rw [if_pos h23]
    exact cl_23 hs hn hk hk2 hl j
  rw [if_neg h23]
  by_cases h24 : ian (sc k) 63 = 24
  · rw [if_pos h24]
    exact cl_24 hs hn hk hk2 hl j
  rw [if_neg h24]
  by_cases h25 : ian (sc k) 63 = 25
  · rw [if_pos h25]
    exact cl_25 hs hn hk hk2 hl j
  rw [if_neg h25]
  by_cases h26 : ian (sc k) 63 = 26
  · rw [if_pos h26]
    exact cl_26 hs hn hk hk2 hl j
  rw [if_neg h26]
  by_cases h27 : ian (sc k) 63 = 27
  · rw [if_pos h27]
    exact cl_27 hs hn hk hk2 hl j
  rw [if_neg h27]
  by_cases h28 : ian (sc k) 63 = 28
  · rw [if_pos h28]
    exact cl_28 hs hn hk hk2 hl j
  rw [if_neg h28]
  by_cases h29 : ian (sc k) 63 = 29
  · rw [if_pos h29]
    exact cl_29 hs hn hk hk2 hl j
  rw [if_neg h29]
  by_cases h30 : ian (sc k) 63 = 30
  · rw [if_pos h30]
    exact cl_30 hs hn hk hk2 hl j
  rw [if_neg h30]
  by_cases h31 : ian (sc k) 63 = 31
  · rw [if_pos h31]
    exact cl_31 hs hn hk hk2 hl j
  rw [if_neg h31]
  by_cases h32 : ian (sc k) 63 = 32
  · rw [if_pos h32]
    exact cl_32 hs hn hk hk2 hl j
  rw [if_neg h32]
  by_cases h33 : ian (sc k) 63 = 33
  · rw [if_pos h33]
    exact cl_33 hs hn hk hk2 hl j
  rw [if_neg h33]
  by_cases h34 : ian (sc k) 63 = 34
  · rw [if_pos h34]
    exact cl_34 hs hn hk hk2 hl j
  rw [if_neg h34]
  by_cases h35 : ian (sc k) 63 = 35
  · rw [if_pos h35]
    exact cl_35 hs hn hk hk2 hl j
  rw [if_neg h35]
  by_cases h36 : ian (sc k) 63 = 36
  · rw [if_pos h36]
    exact cl_36 hs hn hk hk2 hl j
  rw [if_neg h36]
  by_cases h37 : ian (sc k) 63 = 37
  · rw [if_pos h37]
    exact cl_37 hs hn hk hk2 hl j
  rw [if_neg h37]
  by_cases h38 : ian (sc k) 63 = 38
  · rw [if_pos h38]
    exact cl_38 hs hn hk hk2 hl j
  rw [if_neg h38]
  by_cases h39 : ian (sc k) 63 = 39
  · rw [if_pos h39]
    exact cl_39 hs hn hk hk2 hl j
  rw [if_neg h39]
  by_cases h40 : ian (sc k) 63 = 40
  · rw [if_pos h40]
    exact cl_40 hs hn hk hk2 hl j
  rw [if_neg h40]
  by_cases h41 : ian (sc k) 63 = 41
  · rw [if_pos h41]
    exact cl_41 hs hn hk hk2 hl j
  rw [if_neg h41]
  by_cases h42 : ian (sc k) 63 = 42
  · rw [if_pos h42]
    exact cl_42 hs hn hk hk2 hl j
  rw [if_neg h42]
  by_cases h43 : ian (sc k) 63 = 43
  · rw [if_pos h43]
    exact cl_43 hs hn hk hk2 hl j
  rw [if_neg h43]
  by_cases h44 : ian (sc k) 63 = 44
  · rw [if_pos h44]
    exact cl_44 (sl := sl) hs hn hk hk2 hl j
  rw [if_neg h44]
  exact ⟨C, N, A, by rw [w6], j.next⟩
theorem law_loop (hs : ∀ i, r32 (sc i)) (hl : sl ≤ 3072) (hl0 : 0 ≤ sl) : ∀ (d : Nat) (n : Int) (C : Cd) (N : Nd) (A : Ad) (F : Nat), 0 ≤ n → JJ n C N A → sl < 6 * n + 6 * d + 6 → d < F → ∃ M, lp (b_L_law_23 sl sc) F (6 * n, mk C N A) = some (.inr M) := by
  intro d
  induction d with
  | zero =>
    intro n C N A F n0 j hd hF
    have ws : w (w sl - 6) = sl - 6 := by
      rw [w_eq (z := sl) (by omega) (by omega)]
      exact w_eq (by omega) (by omega)
    refine ⟨mk C N A, lp_now (by omega) ?_⟩
    unfold b_L_law_23
    rw [ws, if_pos (show sl - 6 < 6 * n by omega)]
  | succ d ih =>
    intro n C N A F n0 j hd hF
    obtain ⟨F, rfl⟩ : ∃ G, F = G + 1 := ⟨F - 1, by omega⟩
    by_cases e : sl - 6 < 6 * n
    · have ws : w (w sl - 6) = sl - 6 := by
        rw [w_eq (z := sl) (by omega) (by omega)]
        exact w_eq (by omega) (by omega)
      refine ⟨mk C N A, lp_now (by omega) ?_⟩
      unfold b_L_law_23
      rw [ws, if_pos e]
    · obtain ⟨C1, N1, A1, h1, j1⟩ := law_b (k := 6 * n) hs ⟨n0, by omega⟩ (by omega) (by omega) hl j
      obtain ⟨M, hM⟩ := ih (n + 1) C1 N1 A1 F (by omega) j1 (by omega) (by omega)
      rw [show 6 * (n + 1) = 6 * n + 6 by omega] at hM
      exact ⟨M, (lp_next h1).trans hM⟩
end LAWC
