/-! PURE PART, 64: send, sendSome -/
theorem RG.upIn {N : Nd} {m v : Int} (g : RG N) (hv : -1 ≤ v ∧ v < (N 12000 40)) : RG (up N 13029 m v) :=
  ⟨g.s, g.t, g.p, g.e, g.l, fun i h1 h2 => by
    obtain ⟨a1, a2, a3, a4, a5, a6, a7, a8⟩ := g.m i h1 h2
    refine ⟨a1, a2, a3, a4, a5, a6, a7, ?_⟩
    show up N 13029 m v 13029 i ≥ -1 ∧ up N 13029 m v 13029 i < (N 12000 40)
    rw [up_s]; split
    · exact hv
    · exact a8, g.x⟩
theorem RG.upSent {N : Nd} {m v : Int} (g : RG N) (hv : 0 ≤ v ∧ v ≤ 150) : RG (up N 13032 m v) :=
  ⟨g.s, g.t, g.p, g.e, g.l, g.m, fun x h1 h2 => by
    obtain ⟨a1, a2, a3, a4⟩ := g.x x h1 h2
    refine ⟨a1, ?_, a3, a4⟩
    rw [up_s]; split
    · exact hv
    · exact a2⟩
theorem nw_20 {N : Nd} {x p k v : Int} : nwN N x p k v 0 0 = up (nwN N x p k v 2 0) 13024 ((N 12000 19)) 0 := by
  funext a i
  unfold nwN
  simp only [up_s]
  by_cases h1 : a = 13024
  · subst h1
    simp only [Int.reduceEq, false_and, if_false, true_and]
    by_cases h2 : i = (N 12000 19)
    · rw [if_pos h2, if_pos h2]
    · rw [if_neg h2, if_neg h2, if_neg h2]
  · have h2 : ¬ (a = 13024 ∧ i = (N 12000 19)) := fun z => h1 z.1
    rw [if_neg h2, if_neg h2, if_neg h2]
theorem RG.n1N {N : Nd} {x p k v : Int} (j : JN N) (hm : (N 12000 19) < 150) (x1 : 0 ≤ x) (x2 : x < (N 12000 30)) (p1 : 0 ≤ p) (p2 : p < (N 12000 11)) (hv : -1 ≤ v ∧ v ≤ 999) : RG (n1N N x p k v) := by
  have g1 := (j.new (k := k) hm x1 x2 p1 p2 hv (Or.inr ⟨rfl, rfl⟩)).1.g
  have g2 := g1.upState (m := (N 12000 19)) (v := 0) (by omega)
  rw [← nw_20] at g2
  have gx := (j.g.x x x1 x2).2.2.1
  unfold Jvm.Pilot.@@N@@.n1N
  exact (g2.upOf (m := (N 12000 19)) (v := if N 13033 x < 0 then 0 else 1) (by split <;> omega)).upIn (m := (N 12000 19)) (v := N 13033 x) (by show _ ∧ _ < (N 12000 40); omega)
abbrev csd (N : Nd) (x p : Int) : Prop := N 13032 x < N 13031 x ∧ N 14034 x = 0 ∧ (N 12000 19) < 150 ∧ (0 ≤ N 13013 p ∧ eol N p < 60) ∧ cuts N x p = 0
theorem m_canSend {C : Cd} {N : Nd} {A : Ad} {x p : Int} (g : RG N) (x1 : 0 ≤ x) (x2 : x < (N 12000 30)) (p1 : 0 ≤ p) (p2 : p < (N 12000 11)) (xb : N 13033 x < 0 → N 14034 x = 0) : p_X11_canSend (mk C N A) 12000 x p = some (if csd N x p then 1 else 0) := by
  have s3 := g.s.2.2.1
  have hr := @m_hasRoom C N A p g.s g.t g.p p1 p2
  have hc := @m_cutOf C N A x p g.s
  unfold p_X11_canSend
  by_cases h1 : N 13032 x < N 13031 x
  · by_cases h2 : N 14034 x = 0
    · have e : ∀ c : Prop, ∀ _ : Decidable c, (if c then (some 1 : Option Int) else some 1) = some 1 := fun c _ => by split <;> rfl
      by_cases h3 : 0 ≤ N 13013 p ∧ eol N p < 60
      · by_cases h4 : cuts N x p = 0
        · by_cases h5 : (N 12000 19) < 150
          · have z : csd N x p := ⟨h1, h2, h5, h3, h4⟩
            simp (disch := omega) only [aok, up_s, true_and, false_and, and_true, and_false, if_true, if_false, ↓reduceIte, ↓Option.bind_some, Int.reduceEq, Int.reduceNe, Int.reduceLT, Int.reduceLE, gd_true, gd_false, bind_b, q10, eq_self, reduceCtorEq, not_true_eq_false, not_false_eq_true, ne_eq, pt_0, pt_1, pt_2, pt_3, pt_4, pt_5, pt_6, pt_7, pt_8, pt_9, pt_10, pt_11, pt_12, pt_13, pt_14, pt_15, pt_16, pt_17, pt_18, pt_19, pt_20, pt_21, pt_22, pt_23, pt_24, pt_25, pt_26, pt_27, pt_28, pt_29, pt_30, pt_31, pt_32, pt_33, pt_34, pt_35, pt_36, pt_37, pt_38, pt_39, pt_40, pt_41, pt_42, pt_43, pt_44, pt_45, pt_46, pt_47, pt_48, pt_49, pt_50, pt_51, pt_52, pt_53, pt_54, pt_55, pt_56, pt_57, pt_58, pt_59, pt_60, pt_61, pt_62, pt_63, pt_64, pt_65, pt_66, pt_67, pa_13005, pw_13005, pa_13006, pw_13006, pa_13007, pw_13007, pa_14008, pw_14008, pa_13009, pw_13009, pa_13010, pw_13010, pa_13012, pw_13012, pa_13013, pw_13013, pa_13014, pw_13014, pa_13015, pw_13015, pa_13016, pw_13016, pa_13017, pw_13017, pa_13018, pw_13018, pa_13020, pw_13020, pa_13021, pw_13021, pa_13022, pw_13022, pa_13023, pw_13023, pa_13024, pw_13024, pa_13025, pw_13025, pa_13026, pw_13026, pa_13027, pw_13027, pa_13028, pw_13028, pa_13029, pw_13029, pa_13031, pw_13031, pa_13032, pw_13032, pa_13033, pw_13033, pa_14034, pw_14034, pa_13035, pw_13035, pa_13036, pw_13036, pa_13037, pw_13037, pa_13038, pw_13038, pa_13039, pw_13039, pa_13042, pw_13042, pa_13043, pw_13043, pa_13044, pw_13044, pa_13045, pw_13045, pa_13046, pw_13046, pa_13047, pw_13047, pa_13048, pw_13048, pa_13049, pw_13049, pa_13050, pw_13050, pa_13051, pw_13051, pa_13052, pw_13052, pa_13053, pw_13053, pa_13054, pw_13054, pa_13055, pw_13055, pa_13056, pw_13056, pa_13057, pw_13057, pa_13058, pw_13058, pa_13059, pw_13059, pa_13060, pw_13060, pa_13061, pw_13061, pa_13062, pw_13062, pa_13063, pw_13063, pa_13064, pw_13064, pa_13065, pw_13065, pa_13066, pw_13066, pa_13067, pw_13067, ps_0, ps_1, ps_2, ps_3, ps_4, ps_11, ps_19, ps_30, ps_40, ps_41, ln_13005, ln_13006, ln_13007, ln_14008, ln_13009, ln_13010, ln_13012, ln_13013, ln_13014, ln_13015, ln_13016, ln_13017, ln_13018, ln_13020, ln_13021, ln_13022, ln_13023, ln_13024, ln_13025, ln_13026, ln_13027, ln_13028, ln_13029, ln_13031, ln_13032, ln_13033, ln_14034, ln_13035, ln_13036, ln_13037, ln_13038, ln_13039, ln_13042, ln_13043, ln_13044, ln_13045, ln_13046, ln_13047, ln_13048, ln_13049, ln_13050, ln_13051, ln_13052, ln_13053, ln_13054, ln_13055, ln_13056, ln_13057, ln_13058, ln_13059, ln_13060, ln_13061, ln_13062, ln_13063, ln_13064, ln_13065, ln_13066, ln_13067, gd_t, w_eq, h1, h2, hr, h3, hc, h4, h5, e]
            rw [if_pos z]
          · have z : ¬ csd N x p := fun y => h5 y.2.2.1
            simp (disch := omega) only [aok, up_s, true_and, false_and, and_true, and_false, if_true, if_false, ↓reduceIte, ↓Option.bind_some, Int.reduceEq, Int.reduceNe, Int.reduceLT, Int.reduceLE, gd_true, gd_false, bind_b, q10, eq_self, reduceCtorEq, not_true_eq_false, not_false_eq_true, ne_eq, pt_0, pt_1, pt_2, pt_3, pt_4, pt_5, pt_6, pt_7, pt_8, pt_9, pt_10, pt_11, pt_12, pt_13, pt_14, pt_15, pt_16, pt_17, pt_18, pt_19, pt_20, pt_21, pt_22, pt_23, pt_24, pt_25, pt_26, pt_27, pt_28, pt_29, pt_30, pt_31, pt_32, pt_33, pt_34, pt_35, pt_36, pt_37, pt_38, pt_39, pt_40, pt_41, pt_42, pt_43, pt_44, pt_45, pt_46, pt_47, pt_48, pt_49, pt_50, pt_51, pt_52, pt_53, pt_54, pt_55, pt_56, pt_57, pt_58, pt_59, pt_60, pt_61, pt_62, pt_63, pt_64, pt_65, pt_66, pt_67, pa_13005, pw_13005, pa_13006, pw_13006, pa_13007, pw_13007, pa_14008, pw_14008, pa_13009, pw_13009, pa_13010, pw_13010, pa_13012, pw_13012, pa_13013, pw_13013, pa_13014, pw_13014, pa_13015, pw_13015, pa_13016, pw_13016, pa_13017, pw_13017, pa_13018, pw_13018, pa_13020, pw_13020, pa_13021, pw_13021, pa_13022, pw_13022, pa_13023, pw_13023, pa_13024, pw_13024, pa_13025, pw_13025, pa_13026, pw_13026, pa_13027, pw_13027, pa_13028, pw_13028, pa_13029, pw_13029, pa_13031, pw_13031, pa_13032, pw_13032, pa_13033, pw_13033, pa_14034, pw_14034, pa_13035, pw_13035, pa_13036, pw_13036, pa_13037, pw_13037, pa_13038, pw_13038, pa_13039, pw_13039, pa_13042, pw_13042, pa_13043, pw_13043, pa_13044, pw_13044, pa_13045, pw_13045, pa_13046, pw_13046, pa_13047, pw_13047, pa_13048, pw_13048, pa_13049, pw_13049, pa_13050, pw_13050, pa_13051, pw_13051, pa_13052, pw_13052, pa_13053, pw_13053, pa_13054, pw_13054, pa_13055, pw_13055, pa_13056, pw_13056, pa_13057, pw_13057, pa_13058, pw_13058, pa_13059, pw_13059, pa_13060, pw_13060, pa_13061, pw_13061, pa_13062, pw_13062, pa_13063, pw_13063, pa_13064, pw_13064, pa_13065, pw_13065, pa_13066, pw_13066, pa_13067, pw_13067, ps_0, ps_1, ps_2, ps_3, ps_4, ps_11, ps_19, ps_30, ps_40, ps_41, ln_13005, ln_13006, ln_13007, ln_14008, ln_13009, ln_13010, ln_13012, ln_13013, ln_13014, ln_13015, ln_13016, ln_13017, ln_13018, ln_13020, ln_13021, ln_13022, ln_13023, ln_13024, ln_13025, ln_13026, ln_13027, ln_13028, ln_13029, ln_13031, ln_13032, ln_13033, ln_14034, ln_13035, ln_13036, ln_13037, ln_13038, ln_13039, ln_13042, ln_13043, ln_13044, ln_13045, ln_13046, ln_13047, ln_13048, ln_13049, ln_13050, ln_13051, ln_13052, ln_13053, ln_13054, ln_13055, ln_13056, ln_13057, ln_13058, ln_13059, ln_13060, ln_13061, ln_13062, ln_13063, ln_13064, ln_13065, ln_13066, ln_13067, gd_t, w_eq, h1, h2, hr, h3, hc, h4, h5, z, e]
        · have z : ¬ csd N x p := fun y => h4 y.2.2.2.2
          simp (disch := omega) only [aok, up_s, true_and, false_and, and_true, and_false, if_true, if_false, ↓reduceIte, ↓Option.bind_some, Int.reduceEq, Int.reduceNe, Int.reduceLT, Int.reduceLE, gd_true, gd_false, bind_b, q10, eq_self, reduceCtorEq, not_true_eq_false, not_false_eq_true, ne_eq, pt_0, pt_1, pt_2, pt_3, pt_4, pt_5, pt_6, pt_7, pt_8, pt_9, pt_10, pt_11, pt_12, pt_13, pt_14, pt_15, pt_16, pt_17, pt_18, pt_19, pt_20, pt_21, pt_22, pt_23, pt_24, pt_25, pt_26, pt_27, pt_28, pt_29, pt_30, pt_31, pt_32, pt_33, pt_34, pt_35, pt_36, pt_37, pt_38, pt_39, pt_40, pt_41, pt_42, pt_43, pt_44, pt_45, pt_46, pt_47, pt_48, pt_49, pt_50, pt_51, pt_52, pt_53, pt_54, pt_55, pt_56, pt_57, pt_58, pt_59, pt_60, pt_61, pt_62, pt_63, pt_64, pt_65, pt_66, pt_67, pa_13005, pw_13005, pa_13006, pw_13006, pa_13007, pw_13007, pa_14008, pw_14008, pa_13009, pw_13009, pa_13010, pw_13010, pa_13012, pw_13012, pa_13013, pw_13013, pa_13014, pw_13014, pa_13015, pw_13015, pa_13016, pw_13016, pa_13017, pw_13017, pa_13018, pw_13018, pa_13020, pw_13020, pa_13021, pw_13021, pa_13022, pw_13022, pa_13023, pw_13023, pa_13024, pw_13024, pa_13025, pw_13025, pa_13026, pw_13026, pa_13027, pw_13027, pa_13028, pw_13028, pa_13029, pw_13029, pa_13031, pw_13031, pa_13032, pw_13032, pa_13033, pw_13033, pa_14034, pw_14034, pa_13035, pw_13035, pa_13036, pw_13036, pa_13037, pw_13037, pa_13038, pw_13038, pa_13039, pw_13039, pa_13042, pw_13042, pa_13043, pw_13043, pa_13044, pw_13044, pa_13045, pw_13045, pa_13046, pw_13046, pa_13047, pw_13047, pa_13048, pw_13048, pa_13049, pw_13049, pa_13050, pw_13050, pa_13051, pw_13051, pa_13052, pw_13052, pa_13053, pw_13053, pa_13054, pw_13054, pa_13055, pw_13055, pa_13056, pw_13056, pa_13057, pw_13057, pa_13058, pw_13058, pa_13059, pw_13059, pa_13060, pw_13060, pa_13061, pw_13061, pa_13062, pw_13062, pa_13063, pw_13063, pa_13064, pw_13064, pa_13065, pw_13065, pa_13066, pw_13066, pa_13067, pw_13067, ps_0, ps_1, ps_2, ps_3, ps_4, ps_11, ps_19, ps_30, ps_40, ps_41, ln_13005, ln_13006, ln_13007, ln_14008, ln_13009, ln_13010, ln_13012, ln_13013, ln_13014, ln_13015, ln_13016, ln_13017, ln_13018, ln_13020, ln_13021, ln_13022, ln_13023, ln_13024, ln_13025, ln_13026, ln_13027, ln_13028, ln_13029, ln_13031, ln_13032, ln_13033, ln_14034, ln_13035, ln_13036, ln_13037, ln_13038, ln_13039, ln_13042, ln_13043, ln_13044, ln_13045, ln_13046, ln_13047, ln_13048, ln_13049, ln_13050, ln_13051, ln_13052, ln_13053, ln_13054, ln_13055, ln_13056, ln_13057, ln_13058, ln_13059, ln_13060, ln_13061, ln_13062, ln_13063, ln_13064, ln_13065, ln_13066, ln_13067, gd_t, w_eq, h1, h2, hr, h3, hc, h4, z, e]
      · have z : ¬ csd N x p := fun y => h3 y.2.2.2.1
        simp (disch := omega) only [aok, up_s, true_and, false_and, and_true, and_false, if_true, if_false, ↓reduceIte, ↓Option.bind_some, Int.reduceEq, Int.reduceNe, Int.reduceLT, Int.reduceLE, gd_true, gd_false, bind_b, q10, eq_self, reduceCtorEq, not_true_eq_false, not_false_eq_true, ne_eq, pt_0, pt_1, pt_2, pt_3, pt_4, pt_5, pt_6, pt_7, pt_8, pt_9, pt_10, pt_11, pt_12, pt_13, pt_14, pt_15, pt_16, pt_17, pt_18, pt_19, pt_20, pt_21, pt_22, pt_23, pt_24, pt_25, pt_26, pt_27, pt_28, pt_29, pt_30, pt_31, pt_32, pt_33, pt_34, pt_35, pt_36, pt_37, pt_38, pt_39, pt_40, pt_41, pt_42, pt_43, pt_44, pt_45, pt_46, pt_47, pt_48, pt_49, pt_50, pt_51, pt_52, pt_53, pt_54, pt_55, pt_56, pt_57, pt_58, pt_59, pt_60, pt_61, pt_62, pt_63, pt_64, pt_65, pt_66, pt_67, pa_13005, pw_13005, pa_13006, pw_13006, pa_13007, pw_13007, pa_14008, pw_14008, pa_13009, pw_13009, pa_13010, pw_13010, pa_13012, pw_13012, pa_13013, pw_13013, pa_13014, pw_13014, pa_13015, pw_13015, pa_13016, pw_13016, pa_13017, pw_13017, pa_13018, pw_13018, pa_13020, pw_13020, pa_13021, pw_13021, pa_13022, pw_13022, pa_13023, pw_13023, pa_13024, pw_13024, pa_13025, pw_13025, pa_13026, pw_13026, pa_13027, pw_13027, pa_13028, pw_13028, pa_13029, pw_13029, pa_13031, pw_13031, pa_13032, pw_13032, pa_13033, pw_13033, pa_14034, pw_14034, pa_13035, pw_13035, pa_13036, pw_13036, pa_13037, pw_13037, pa_13038, pw_13038, pa_13039, pw_13039, pa_13042, pw_13042, pa_13043, pw_13043, pa_13044, pw_13044, pa_13045, pw_13045, pa_13046, pw_13046, pa_13047, pw_13047, pa_13048, pw_13048, pa_13049, pw_13049, pa_13050, pw_13050, pa_13051, pw_13051, pa_13052, pw_13052, pa_13053, pw_13053, pa_13054, pw_13054, pa_13055, pw_13055, pa_13056, pw_13056, pa_13057, pw_13057, pa_13058, pw_13058, pa_13059, pw_13059, pa_13060, pw_13060, pa_13061, pw_13061, pa_13062, pw_13062, pa_13063, pw_13063, pa_13064, pw_13064, pa_13065, pw_13065, pa_13066, pw_13066, pa_13067, pw_13067, ps_0, ps_1, ps_2, ps_3, ps_4, ps_11, ps_19, ps_30, ps_40, ps_41, ln_13005, ln_13006, ln_13007, ln_14008, ln_13009, ln_13010, ln_13012, ln_13013, ln_13014, ln_13015, ln_13016, ln_13017, ln_13018, ln_13020, ln_13021, ln_13022, ln_13023, ln_13024, ln_13025, ln_13026, ln_13027, ln_13028, ln_13029, ln_13031, ln_13032, ln_13033, ln_14034, ln_13035, ln_13036, ln_13037, ln_13038, ln_13039, ln_13042, ln_13043, ln_13044, ln_13045, ln_13046, ln_13047, ln_13048, ln_13049, ln_13050, ln_13051, ln_13052, ln_13053, ln_13054, ln_13055, ln_13056, ln_13057, ln_13058, ln_13059, ln_13060, ln_13061, ln_13062, ln_13063, ln_13064, ln_13065, ln_13066, ln_13067, gd_t, w_eq, h1, h2, hr, h3, z, e]
    · have z : ¬ csd N x p := fun y => h2 y.2.1
      have h3 : ¬ N 13033 x < 0 := fun y => h2 (xb y)
      simp (disch := omega) only [aok, up_s, true_and, false_and, and_true, and_false, if_true, if_false, ↓reduceIte, ↓Option.bind_some, Int.reduceEq, Int.reduceNe, Int.reduceLT, Int.reduceLE, gd_true, gd_false, bind_b, q10, eq_self, reduceCtorEq, not_true_eq_false, not_false_eq_true, ne_eq, pt_0, pt_1, pt_2, pt_3, pt_4, pt_5, pt_6, pt_7, pt_8, pt_9, pt_10, pt_11, pt_12, pt_13, pt_14, pt_15, pt_16, pt_17, pt_18, pt_19, pt_20, pt_21, pt_22, pt_23, pt_24, pt_25, pt_26, pt_27, pt_28, pt_29, pt_30, pt_31, pt_32, pt_33, pt_34, pt_35, pt_36, pt_37, pt_38, pt_39, pt_40, pt_41, pt_42, pt_43, pt_44, pt_45, pt_46, pt_47, pt_48, pt_49, pt_50, pt_51, pt_52, pt_53, pt_54, pt_55, pt_56, pt_57, pt_58, pt_59, pt_60, pt_61, pt_62, pt_63, pt_64, pt_65, pt_66, pt_67, pa_13005, pw_13005, pa_13006, pw_13006, pa_13007, pw_13007, pa_14008, pw_14008, pa_13009, pw_13009, pa_13010, pw_13010, pa_13012, pw_13012, pa_13013, pw_13013, pa_13014, pw_13014, pa_13015, pw_13015, pa_13016, pw_13016, pa_13017, pw_13017, pa_13018, pw_13018, pa_13020, pw_13020, pa_13021, pw_13021, pa_13022, pw_13022, pa_13023, pw_13023, pa_13024, pw_13024, pa_13025, pw_13025, pa_13026, pw_13026, pa_13027, pw_13027, pa_13028, pw_13028, pa_13029, pw_13029, pa_13031, pw_13031, pa_13032, pw_13032, pa_13033, pw_13033, pa_14034, pw_14034, pa_13035, pw_13035, pa_13036, pw_13036, pa_13037, pw_13037, pa_13038, pw_13038, pa_13039, pw_13039, pa_13042, pw_13042, pa_13043, pw_13043, pa_13044, pw_13044, pa_13045, pw_13045, pa_13046, pw_13046, pa_13047, pw_13047, pa_13048, pw_13048, pa_13049, pw_13049, pa_13050, pw_13050, pa_13051, pw_13051, pa_13052, pw_13052, pa_13053, pw_13053, pa_13054, pw_13054, pa_13055, pw_13055, pa_13056, pw_13056, pa_13057, pw_13057, pa_13058, pw_13058, pa_13059, pw_13059, pa_13060, pw_13060, pa_13061, pw_13061, pa_13062, pw_13062, pa_13063, pw_13063, pa_13064, pw_13064, pa_13065, pw_13065, pa_13066, pw_13066, pa_13067, pw_13067, ps_0, ps_1, ps_2, ps_3, ps_4, ps_11, ps_19, ps_30, ps_40, ps_41, ln_13005, ln_13006, ln_13007, ln_14008, ln_13009, ln_13010, ln_13012, ln_13013, ln_13014, ln_13015, ln_13016, ln_13017, ln_13018, ln_13020, ln_13021, ln_13022, ln_13023, ln_13024, ln_13025, ln_13026, ln_13027, ln_13028, ln_13029, ln_13031, ln_13032, ln_13033, ln_14034, ln_13035, ln_13036, ln_13037, ln_13038, ln_13039, ln_13042, ln_13043, ln_13044, ln_13045, ln_13046, ln_13047, ln_13048, ln_13049, ln_13050, ln_13051, ln_13052, ln_13053, ln_13054, ln_13055, ln_13056, ln_13057, ln_13058, ln_13059, ln_13060, ln_13061, ln_13062, ln_13063, ln_13064, ln_13065, ln_13066, ln_13067, gd_t, w_eq, h1, h2, h3, z]
  · have z : ¬ csd N x p := fun y => h1 y.1
    simp (disch := omega) only [aok, up_s, true_and, false_and, and_true, and_false, if_true, if_false, ↓reduceIte, ↓Option.bind_some, Int.reduceEq, Int.reduceNe, Int.reduceLT, Int.reduceLE, gd_true, gd_false, bind_b, q10, eq_self, reduceCtorEq, not_true_eq_false, not_false_eq_true, ne_eq, pt_0, pt_1, pt_2, pt_3, pt_4, pt_5, pt_6, pt_7, pt_8, pt_9, pt_10, pt_11, pt_12, pt_13, pt_14, pt_15, pt_16, pt_17, pt_18, pt_19, pt_20, pt_21, pt_22, pt_23, pt_24, pt_25, pt_26, pt_27, pt_28, pt_29, pt_30, pt_31, pt_32, pt_33, pt_34, pt_35, pt_36, pt_37, pt_38, pt_39, pt_40, pt_41, pt_42, pt_43, pt_44, pt_45, pt_46, pt_47, pt_48, pt_49, pt_50, pt_51, pt_52, pt_53, pt_54, pt_55, pt_56, pt_57, pt_58, pt_59, pt_60, pt_61, pt_62, pt_63, pt_64, pt_65, pt_66, pt_67, pa_13005, pw_13005, pa_13006, pw_13006, pa_13007, pw_13007, pa_14008, pw_14008, pa_13009, pw_13009, pa_13010, pw_13010, pa_13012, pw_13012, pa_13013, pw_13013, pa_13014, pw_13014, pa_13015, pw_13015, pa_13016, pw_13016, pa_13017, pw_13017, pa_13018, pw_13018, pa_13020, pw_13020, pa_13021, pw_13021, pa_13022, pw_13022, pa_13023, pw_13023, pa_13024, pw_13024, pa_13025, pw_13025, pa_13026, pw_13026, pa_13027, pw_13027, pa_13028, pw_13028, pa_13029, pw_13029, pa_13031, pw_13031, pa_13032, pw_13032, pa_13033, pw_13033, pa_14034, pw_14034, pa_13035, pw_13035, pa_13036, pw_13036, pa_13037, pw_13037, pa_13038, pw_13038, pa_13039, pw_13039, pa_13042, pw_13042, pa_13043, pw_13043, pa_13044, pw_13044, pa_13045, pw_13045, pa_13046, pw_13046, pa_13047, pw_13047, pa_13048, pw_13048, pa_13049, pw_13049, pa_13050, pw_13050, pa_13051, pw_13051, pa_13052, pw_13052, pa_13053, pw_13053, pa_13054, pw_13054, pa_13055, pw_13055, pa_13056, pw_13056, pa_13057, pw_13057, pa_13058, pw_13058, pa_13059, pw_13059, pa_13060, pw_13060, pa_13061, pw_13061, pa_13062, pw_13062, pa_13063, pw_13063, pa_13064, pw_13064, pa_13065, pw_13065, pa_13066, pw_13066, pa_13067, pw_13067, ps_0, ps_1, ps_2, ps_3, ps_4, ps_11, ps_19, ps_30, ps_40, ps_41, ln_13005, ln_13006, ln_13007, ln_14008, ln_13009, ln_13010, ln_13012, ln_13013, ln_13014, ln_13015, ln_13016, ln_13017, ln_13018, ln_13020, ln_13021, ln_13022, ln_13023, ln_13024, ln_13025, ln_13026, ln_13027, ln_13028, ln_13029, ln_13031, ln_13032, ln_13033, ln_14034, ln_13035, ln_13036, ln_13037, ln_13038, ln_13039, ln_13042, ln_13043, ln_13044, ln_13045, ln_13046, ln_13047, ln_13048, ln_13049, ln_13050, ln_13051, ln_13052, ln_13053, ln_13054, ln_13055, ln_13056, ln_13057, ln_13058, ln_13059, ln_13060, ln_13061, ln_13062, ln_13063, ln_13064, ln_13065, ln_13066, ln_13067, gd_t, w_eq, h1, z]
theorem c_canSend {C : Cd} {N N0 : Nd} {A : Ad} {x p : Int} (g : RG N) (c : CC C N) (x1 : 0 ≤ x) (x2 : x < (N 12000 30)) (p1 : 0 ≤ p) (p2 : p < (N 12000 11)) : p_X10_canSend (mk C N0 A) 11000 (7000 + x) (6000 + p) = some (if csd N x p then 1 else 0) := by
  have s3 := g.s.2.2.1
  have hc := c_canAppend (N0 := N0) (A := A) (x := x) g c p1 p2
  obtain ⟨c0, c1, c2, c3, c4, c5⟩ := c.x x x1 x2
  have b10 : C 11000 0 10 = (N 12000 19) := c.b.2.2.2.2.2.1
  unfold p_X10_canSend
  by_cases h1 : N 13032 x < N 13031 x
  · by_cases h2 : N 14034 x = 0
    · by_cases h5 : (N 12000 19) < 150
      · by_cases h3 : (0 ≤ N 13013 p ∧ eol N p < 60) ∧ cuts N x p = 0
        · have z : csd N x p := ⟨h1, h2, h5, h3.1, h3.2⟩
          rw [if_pos h3] at hc
          simp (disch := omega) only [aok, up_s, true_and, false_and, and_true, and_false, if_true, if_false, ↓reduceIte, ↓Option.bind_some, Int.reduceEq, Int.reduceNe, Int.reduceLT, Int.reduceLE, gd_true, gd_false, bind_b, q10, eq_self, reduceCtorEq, not_true_eq_false, not_false_eq_true, ne_eq, cr_11000, cr_15000, cr_16000, cr_20000, cr_20001, cr_21000, cr_22000, cr_25000, cr_1000, cr_2000, cr_3000, cr_3003, cr_3006, cr_4000, cr_5000, cr_6000, cr_7000, cr_8000, cr_9000, cr_10000, cr_13500, cr_17000, cr_17100, cr_17103, cr_17106, cr_19000, cr_20100, cr_21100, cr_23000, cr_24000, cw_11000, cw_15000, cw_16000, cw_20000, cw_20001, cw_21000, cw_22000, cw_25000, cw_1000, cw_2000, cw_3000, cw_3003, cw_3006, cw_4000, cw_5000, cw_6000, cw_7000, cw_8000, cw_9000, cw_10000, cw_13500, cw_17000, cw_17100, cw_17103, cw_17106, cw_19000, cw_20100, cw_21100, cw_23000, cw_24000, lc_13500, lc_15000, lc_16000, lc_17000, lc_17100, lc_17103, lc_17106, lc_19000, lc_20000, lc_20001, lc_20100, lc_21000, lc_21100, lc_22000, lc_23000, lc_24000, lc_25000, gd_t, w_eq, c1, c2, c4, b10, h1, h2, h5, hc]
          rw [if_pos z]
        · have z : ¬ csd N x p := fun y => h3 ⟨y.2.2.2.1, y.2.2.2.2⟩
          rw [if_neg h3] at hc
          simp (disch := omega) only [aok, up_s, true_and, false_and, and_true, and_false, if_true, if_false, ↓reduceIte, ↓Option.bind_some, Int.reduceEq, Int.reduceNe, Int.reduceLT, Int.reduceLE, gd_true, gd_false, bind_b, q10, eq_self, reduceCtorEq, not_true_eq_false, not_false_eq_true, ne_eq, cr_11000, cr_15000, cr_16000, cr_20000, cr_20001, cr_21000, cr_22000, cr_25000, cr_1000, cr_2000, cr_3000, cr_3003, cr_3006, cr_4000, cr_5000, cr_6000, cr_7000, cr_8000, cr_9000, cr_10000, cr_13500, cr_17000, cr_17100, cr_17103, cr_17106, cr_19000, cr_20100, cr_21100, cr_23000, cr_24000, cw_11000, cw_15000, cw_16000, cw_20000, cw_20001, cw_21000, cw_22000, cw_25000, cw_1000, cw_2000, cw_3000, cw_3003, cw_3006, cw_4000, cw_5000, cw_6000, cw_7000, cw_8000, cw_9000, cw_10000, cw_13500, cw_17000, cw_17100, cw_17103, cw_17106, cw_19000, cw_20100, cw_21100, cw_23000, cw_24000, lc_13500, lc_15000, lc_16000, lc_17000, lc_17100, lc_17103, lc_17106, lc_19000, lc_20000, lc_20001, lc_20100, lc_21000, lc_21100, lc_22000, lc_23000, lc_24000, lc_25000, gd_t, w_eq, c1, c2, c4, b10, h1, h2, h5, hc, z]
      · have z : ¬ csd N x p := fun y => h5 y.2.2.1
        simp (disch := omega) only [aok, up_s, true_and, false_and, and_true, and_false, if_true, if_false, ↓reduceIte, ↓Option.bind_some, Int.reduceEq, Int.reduceNe, Int.reduceLT, Int.reduceLE, gd_true, gd_false, bind_b, q10, eq_self, reduceCtorEq, not_true_eq_false, not_false_eq_true, ne_eq, cr_11000, cr_15000, cr_16000, cr_20000, cr_20001, cr_21000, cr_22000, cr_25000, cr_1000, cr_2000, cr_3000, cr_3003, cr_3006, cr_4000, cr_5000, cr_6000, cr_7000, cr_8000, cr_9000, cr_10000, cr_13500, cr_17000, cr_17100, cr_17103, cr_17106, cr_19000, cr_20100, cr_21100, cr_23000, cr_24000, cw_11000, cw_15000, cw_16000, cw_20000, cw_20001, cw_21000, cw_22000, cw_25000, cw_1000, cw_2000, cw_3000, cw_3003, cw_3006, cw_4000, cw_5000, cw_6000, cw_7000, cw_8000, cw_9000, cw_10000, cw_13500, cw_17000, cw_17100, cw_17103, cw_17106, cw_19000, cw_20100, cw_21100, cw_23000, cw_24000, lc_13500, lc_15000, lc_16000, lc_17000, lc_17100, lc_17103, lc_17106, lc_19000, lc_20000, lc_20001, lc_20100, lc_21000, lc_21100, lc_22000, lc_23000, lc_24000, lc_25000, gd_t, w_eq, c1, c2, c4, b10, h1, h2, h5, z]
    · have z : ¬ csd N x p := fun y => h2 y.2.1
      simp (disch := omega) only [aok, up_s, true_and, false_and, and_true, and_false, if_true, if_false, ↓reduceIte, ↓Option.bind_some, Int.reduceEq, Int.reduceNe, Int.reduceLT, Int.reduceLE, gd_true, gd_false, bind_b, q10, eq_self, reduceCtorEq, not_true_eq_false, not_false_eq_true, ne_eq, cr_11000, cr_15000, cr_16000, cr_20000, cr_20001, cr_21000, cr_22000, cr_25000, cr_1000, cr_2000, cr_3000, cr_3003, cr_3006, cr_4000, cr_5000, cr_6000, cr_7000, cr_8000, cr_9000, cr_10000, cr_13500, cr_17000, cr_17100, cr_17103, cr_17106, cr_19000, cr_20100, cr_21100, cr_23000, cr_24000, cw_11000, cw_15000, cw_16000, cw_20000, cw_20001, cw_21000, cw_22000, cw_25000, cw_1000, cw_2000, cw_3000, cw_3003, cw_3006, cw_4000, cw_5000, cw_6000, cw_7000, cw_8000, cw_9000, cw_10000, cw_13500, cw_17000, cw_17100, cw_17103, cw_17106, cw_19000, cw_20100, cw_21100, cw_23000, cw_24000, lc_13500, lc_15000, lc_16000, lc_17000, lc_17100, lc_17103, lc_17106, lc_19000, lc_20000, lc_20001, lc_20100, lc_21000, lc_21100, lc_22000, lc_23000, lc_24000, lc_25000, gd_t, w_eq, c1, c2, c4, b10, h1, h2, z]
  · have z : ¬ csd N x p := fun y => h1 y.1
    simp (disch := omega) only [aok, up_s, true_and, false_and, and_true, and_false, if_true, if_false, ↓reduceIte, ↓Option.bind_some, Int.reduceEq, Int.reduceNe, Int.reduceLT, Int.reduceLE, gd_true, gd_false, bind_b, q10, eq_self, reduceCtorEq, not_true_eq_false, not_false_eq_true, ne_eq, cr_11000, cr_15000, cr_16000, cr_20000, cr_20001, cr_21000, cr_22000, cr_25000, cr_1000, cr_2000, cr_3000, cr_3003, cr_3006, cr_4000, cr_5000, cr_6000, cr_7000, cr_8000, cr_9000, cr_10000, cr_13500, cr_17000, cr_17100, cr_17103, cr_17106, cr_19000, cr_20100, cr_21100, cr_23000, cr_24000, cw_11000, cw_15000, cw_16000, cw_20000, cw_20001, cw_21000, cw_22000, cw_25000, cw_1000, cw_2000, cw_3000, cw_3003, cw_3006, cw_4000, cw_5000, cw_6000, cw_7000, cw_8000, cw_9000, cw_10000, cw_13500, cw_17000, cw_17100, cw_17103, cw_17106, cw_19000, cw_20100, cw_21100, cw_23000, cw_24000, lc_13500, lc_15000, lc_16000, lc_17000, lc_17100, lc_17103, lc_17106, lc_19000, lc_20000, lc_20001, lc_20100, lc_21000, lc_21100, lc_22000, lc_23000, lc_24000, lc_25000, gd_t, w_eq, c1, c2, c4, b10, h1, z]
theorem m_newMessage {C : Cd} {N : Nd} {A : Ad} {x p k v : Int} (hm : 0 ≤ (N 12000 19) ∧ (N 12000 19) < 150) (hd : N 13028 ((N 12000 19)) = 0) : p_X11_newMessage (mk C N A) 12000 x p k v = some ((N 12000 19), mk C (nwN N x p k v 0 0) A) := by
  have e1 : w ((N 12000 19) + 1) = (N 12000 19) + 1 := w_eq (by omega) (by omega)
  unfold p_X11_newMessage
  simp (disch := omega) only [aok, up_s, true_and, false_and, and_true, and_false, if_true, if_false, ↓reduceIte, ↓Option.bind_some, Int.reduceEq, Int.reduceNe, Int.reduceLT, Int.reduceLE, gd_true, gd_false, bind_b, q10, eq_self, reduceCtorEq, not_true_eq_false, not_false_eq_true, ne_eq, pt_0, pt_1, pt_2, pt_3, pt_4, pt_5, pt_6, pt_7, pt_8, pt_9, pt_10, pt_11, pt_12, pt_13, pt_14, pt_15, pt_16, pt_17, pt_18, pt_19, pt_20, pt_21, pt_22, pt_23, pt_24, pt_25, pt_26, pt_27, pt_28, pt_29, pt_30, pt_31, pt_32, pt_33, pt_34, pt_35, pt_36, pt_37, pt_38, pt_39, pt_40, pt_41, pt_42, pt_43, pt_44, pt_45, pt_46, pt_47, pt_48, pt_49, pt_50, pt_51, pt_52, pt_53, pt_54, pt_55, pt_56, pt_57, pt_58, pt_59, pt_60, pt_61, pt_62, pt_63, pt_64, pt_65, pt_66, pt_67, pa_13005, pw_13005, pa_13006, pw_13006, pa_13007, pw_13007, pa_14008, pw_14008, pa_13009, pw_13009, pa_13010, pw_13010, pa_13012, pw_13012, pa_13013, pw_13013, pa_13014, pw_13014, pa_13015, pw_13015, pa_13016, pw_13016, pa_13017, pw_13017, pa_13018, pw_13018, pa_13020, pw_13020, pa_13021, pw_13021, pa_13022, pw_13022, pa_13023, pw_13023, pa_13024, pw_13024, pa_13025, pw_13025, pa_13026, pw_13026, pa_13027, pw_13027, pa_13028, pw_13028, pa_13029, pw_13029, pa_13031, pw_13031, pa_13032, pw_13032, pa_13033, pw_13033, pa_14034, pw_14034, pa_13035, pw_13035, pa_13036, pw_13036, pa_13037, pw_13037, pa_13038, pw_13038, pa_13039, pw_13039, pa_13042, pw_13042, pa_13043, pw_13043, pa_13044, pw_13044, pa_13045, pw_13045, pa_13046, pw_13046, pa_13047, pw_13047, pa_13048, pw_13048, pa_13049, pw_13049, pa_13050, pw_13050, pa_13051, pw_13051, pa_13052, pw_13052, pa_13053, pw_13053, pa_13054, pw_13054, pa_13055, pw_13055, pa_13056, pw_13056, pa_13057, pw_13057, pa_13058, pw_13058, pa_13059, pw_13059, pa_13060, pw_13060, pa_13061, pw_13061, pa_13062, pw_13062, pa_13063, pw_13063, pa_13064, pw_13064, pa_13065, pw_13065, pa_13066, pw_13066, pa_13067, pw_13067, ps_0, ps_1, ps_2, ps_3, ps_4, ps_11, ps_19, ps_30, ps_40, ps_41, ln_13005, ln_13006, ln_13007, ln_14008, ln_13009, ln_13010, ln_13012, ln_13013, ln_13014, ln_13015, ln_13016, ln_13017, ln_13018, ln_13020, ln_13021, ln_13022, ln_13023, ln_13024, ln_13025, ln_13026, ln_13027, ln_13028, ln_13029, ln_13031, ln_13032, ln_13033, ln_14034, ln_13035, ln_13036, ln_13037, ln_13038, ln_13039, ln_13042, ln_13043, ln_13044, ln_13045, ln_13046, ln_13047, ln_13048, ln_13049, ln_13050, ln_13051, ln_13052, ln_13053, ln_13054, ln_13055, ln_13056, ln_13057, ln_13058, ln_13059, ln_13060, ln_13061, ln_13062, ln_13063, ln_13064, ln_13065, ln_13066, ln_13067, gd_t, w_eq, e1]
  congr 3
  unfold nwN
  congr 1
  have q := @up_same (up (up (up (up (up (up (up (up (up N 13020 ((N 12000 19)) x) 13021 ((N 12000 19)) p) 13022 ((N 12000 19)) k) 13023 ((N 12000 19)) v) 13024 ((N 12000 19)) 0) 13025 ((N 12000 19)) 0) 13026 ((N 12000 19)) (-1)) 13027 ((N 12000 19)) (-1)) 13029 ((N 12000 19)) (-1)) 13028 ((N 12000 19))
  have q2 : (up (up (up (up (up (up (up (up (up N 13020 ((N 12000 19)) x) 13021 ((N 12000 19)) p) 13022 ((N 12000 19)) k) 13023 ((N 12000 19)) v) 13024 ((N 12000 19)) 0) 13025 ((N 12000 19)) 0) 13026 ((N 12000 19)) (-1)) 13027 ((N 12000 19)) (-1)) 13029 ((N 12000 19)) (-1)) 13028 ((N 12000 19)) = 0 := hd
  rw [q2] at q
  exact q.symm
theorem n1_pa {N : Nd} {x p k v : Int} : n1N N x p k v 13021 ((N 12000 19)) = p := by
  show nwN N x p k v 0 0 13021 ((N 12000 19)) = p
  rw [nw_pa, if_pos rfl]
theorem m_sendNow {C : Cd} {N : Nd} {A : Ad} {x p k v : Int} (j : JN N) (hm : (N 12000 19) < 150) (hd : N 13028 ((N 12000 19)) = 0) (x1 : 0 ≤ x) (x2 : x < (N 12000 30)) (p1 : 0 ≤ p) (p2 : p < (N 12000 11)) (hv : -1 ≤ v ∧ v ≤ 999) (hl : 0 ≤ N 13013 p) (he : eol N p < 60) (hs : N 13032 x < 20) : p_X11_sendNow (mk C N A) 12000 x p k v = some ((N 12000 19), mk C (snN N x p k v) A) := by
  have s5 := j.g.s.2.2.2.2.1
  have s3 := j.g.s.2.2.1
  have gx := j.g.x x x1 x2
  have mn := fun C => @m_newMessage C N A x p k v ⟨s5.1, hm⟩ hd
  have e1 : nwN N x p k v 0 0 13033 x = N 13033 x := rfl
  have e2 : nwN N x p k v 0 0 13032 x = N 13032 x := rfl
  have e3 : w (N 13032 x + 1) = N 13032 x + 1 := w_eq (by omega) (by omega)
  have gn := (RG.n1N (k := k) j hm x1 x2 p1 p2 hv).upSent (m := x) (v := N 13032 x + 1) (by omega)
  have mlt : (N 12000 19) < up (n1N N x p k v) 13032 x (N 13032 x + 1) 12000 19 := by
    show (N 12000 19) < nwN N x p k v 0 0 12000 19
    rw [nwN_sc, if_pos rfl]; omega
  have pm : up (n1N N x p k v) 13032 x (N 13032 x + 1) 13021 ((N 12000 19)) = p := n1_pa (k := k) (v := v)
  have ma := fun C => @m_append C (up (n1N N x p k v) 13032 x (N 13032 x + 1)) A ((N 12000 19)) gn s5.1 mlt (by rw [pm]; exact hl) (by rw [pm]; exact he)
  have e4 : n1N N x p k v 13032 x = N 13032 x := rfl
  unfold p_X11_sendNow
  by_cases h : N 13033 x < 0
  · have u : up (up (nwN N x p k v 0 0) 13025 ((N 12000 19)) 0) 13029 ((N 12000 19)) (N 13033 x) = n1N N x p k v := by unfold n1N; rw [if_pos h]
    simp (disch := omega) only [aok, up_s, true_and, false_and, and_true, and_false, if_true, if_false, ↓reduceIte, ↓Option.bind_some, Int.reduceEq, Int.reduceNe, Int.reduceLT, Int.reduceLE, gd_true, gd_false, bind_b, q10, eq_self, reduceCtorEq, not_true_eq_false, not_false_eq_true, ne_eq, pt_0, pt_1, pt_2, pt_3, pt_4, pt_5, pt_6, pt_7, pt_8, pt_9, pt_10, pt_11, pt_12, pt_13, pt_14, pt_15, pt_16, pt_17, pt_18, pt_19, pt_20, pt_21, pt_22, pt_23, pt_24, pt_25, pt_26, pt_27, pt_28, pt_29, pt_30, pt_31, pt_32, pt_33, pt_34, pt_35, pt_36, pt_37, pt_38, pt_39, pt_40, pt_41, pt_42, pt_43, pt_44, pt_45, pt_46, pt_47, pt_48, pt_49, pt_50, pt_51, pt_52, pt_53, pt_54, pt_55, pt_56, pt_57, pt_58, pt_59, pt_60, pt_61, pt_62, pt_63, pt_64, pt_65, pt_66, pt_67, pa_13005, pw_13005, pa_13006, pw_13006, pa_13007, pw_13007, pa_14008, pw_14008, pa_13009, pw_13009, pa_13010, pw_13010, pa_13012, pw_13012, pa_13013, pw_13013, pa_13014, pw_13014, pa_13015, pw_13015, pa_13016, pw_13016, pa_13017, pw_13017, pa_13018, pw_13018, pa_13020, pw_13020, pa_13021, pw_13021, pa_13022, pw_13022, pa_13023, pw_13023, pa_13024, pw_13024, pa_13025, pw_13025, pa_13026, pw_13026, pa_13027, pw_13027, pa_13028, pw_13028, pa_13029, pw_13029, pa_13031, pw_13031, pa_13032, pw_13032, pa_13033, pw_13033, pa_14034, pw_14034, pa_13035, pw_13035, pa_13036, pw_13036, pa_13037, pw_13037, pa_13038, pw_13038, pa_13039, pw_13039, pa_13042, pw_13042, pa_13043, pw_13043, pa_13044, pw_13044, pa_13045, pw_13045, pa_13046, pw_13046, pa_13047, pw_13047, pa_13048, pw_13048, pa_13049, pw_13049, pa_13050, pw_13050, pa_13051, pw_13051, pa_13052, pw_13052, pa_13053, pw_13053, pa_13054, pw_13054, pa_13055, pw_13055, pa_13056, pw_13056, pa_13057, pw_13057, pa_13058, pw_13058, pa_13059, pw_13059, pa_13060, pw_13060, pa_13061, pw_13061, pa_13062, pw_13062, pa_13063, pw_13063, pa_13064, pw_13064, pa_13065, pw_13065, pa_13066, pw_13066, pa_13067, pw_13067, ps_0, ps_1, ps_2, ps_3, ps_4, ps_11, ps_19, ps_30, ps_40, ps_41, ln_13005, ln_13006, ln_13007, ln_14008, ln_13009, ln_13010, ln_13012, ln_13013, ln_13014, ln_13015, ln_13016, ln_13017, ln_13018, ln_13020, ln_13021, ln_13022, ln_13023, ln_13024, ln_13025, ln_13026, ln_13027, ln_13028, ln_13029, ln_13031, ln_13032, ln_13033, ln_14034, ln_13035, ln_13036, ln_13037, ln_13038, ln_13039, ln_13042, ln_13043, ln_13044, ln_13045, ln_13046, ln_13047, ln_13048, ln_13049, ln_13050, ln_13051, ln_13052, ln_13053, ln_13054, ln_13055, ln_13056, ln_13057, ln_13058, ln_13059, ln_13060, ln_13061, ln_13062, ln_13063, ln_13064, ln_13065, ln_13066, ln_13067, gd_t, w_eq, mn, e1, e2, e3, h, u, e4, ma]
    rw [ap_se]
    rfl
  · have u : up (up (nwN N x p k v 0 0) 13025 ((N 12000 19)) 1) 13029 ((N 12000 19)) (N 13033 x) = n1N N x p k v := by unfold n1N; rw [if_neg h]
    simp (disch := omega) only [aok, up_s, true_and, false_and, and_true, and_false, if_true, if_false, ↓reduceIte, ↓Option.bind_some, Int.reduceEq, Int.reduceNe, Int.reduceLT, Int.reduceLE, gd_true, gd_false, bind_b, q10, eq_self, reduceCtorEq, not_true_eq_false, not_false_eq_true, ne_eq, pt_0, pt_1, pt_2, pt_3, pt_4, pt_5, pt_6, pt_7, pt_8, pt_9, pt_10, pt_11, pt_12, pt_13, pt_14, pt_15, pt_16, pt_17, pt_18, pt_19, pt_20, pt_21, pt_22, pt_23, pt_24, pt_25, pt_26, pt_27, pt_28, pt_29, pt_30, pt_31, pt_32, pt_33, pt_34, pt_35, pt_36, pt_37, pt_38, pt_39, pt_40, pt_41, pt_42, pt_43, pt_44, pt_45, pt_46, pt_47, pt_48, pt_49, pt_50, pt_51, pt_52, pt_53, pt_54, pt_55, pt_56, pt_57, pt_58, pt_59, pt_60, pt_61, pt_62, pt_63, pt_64, pt_65, pt_66, pt_67, pa_13005, pw_13005, pa_13006, pw_13006, pa_13007, pw_13007, pa_14008, pw_14008, pa_13009, pw_13009, pa_13010, pw_13010, pa_13012, pw_13012, pa_13013, pw_13013, pa_13014, pw_13014, pa_13015, pw_13015, pa_13016, pw_13016, pa_13017, pw_13017, pa_13018, pw_13018, pa_13020, pw_13020, pa_13021, pw_13021, pa_13022, pw_13022, pa_13023, pw_13023, pa_13024, pw_13024, pa_13025, pw_13025, pa_13026, pw_13026, pa_13027, pw_13027, pa_13028, pw_13028, pa_13029, pw_13029, pa_13031, pw_13031, pa_13032, pw_13032, pa_13033, pw_13033, pa_14034, pw_14034, pa_13035, pw_13035, pa_13036, pw_13036, pa_13037, pw_13037, pa_13038, pw_13038, pa_13039, pw_13039, pa_13042, pw_13042, pa_13043, pw_13043, pa_13044, pw_13044, pa_13045, pw_13045, pa_13046, pw_13046, pa_13047, pw_13047, pa_13048, pw_13048, pa_13049, pw_13049, pa_13050, pw_13050, pa_13051, pw_13051, pa_13052, pw_13052, pa_13053, pw_13053, pa_13054, pw_13054, pa_13055, pw_13055, pa_13056, pw_13056, pa_13057, pw_13057, pa_13058, pw_13058, pa_13059, pw_13059, pa_13060, pw_13060, pa_13061, pw_13061, pa_13062, pw_13062, pa_13063, pw_13063, pa_13064, pw_13064, pa_13065, pw_13065, pa_13066, pw_13066, pa_13067, pw_13067, ps_0, ps_1, ps_2, ps_3, ps_4, ps_11, ps_19, ps_30, ps_40, ps_41, ln_13005, ln_13006, ln_13007, ln_14008, ln_13009, ln_13010, ln_13012, ln_13013, ln_13014, ln_13015, ln_13016, ln_13017, ln_13018, ln_13020, ln_13021, ln_13022, ln_13023, ln_13024, ln_13025, ln_13026, ln_13027, ln_13028, ln_13029, ln_13031, ln_13032, ln_13033, ln_14034, ln_13035, ln_13036, ln_13037, ln_13038, ln_13039, ln_13042, ln_13043, ln_13044, ln_13045, ln_13046, ln_13047, ln_13048, ln_13049, ln_13050, ln_13051, ln_13052, ln_13053, ln_13054, ln_13055, ln_13056, ln_13057, ln_13058, ln_13059, ln_13060, ln_13061, ln_13062, ln_13063, ln_13064, ln_13065, ln_13066, ln_13067, gd_t, w_eq, mn, e1, e2, e3, h, u, e4, ma]
    rw [ap_se]
    rfl
/-- the class's table with a new message -/
def msC (C : Cd) (m x p k v d t : Int) : Cd := uq (uq (uq (uq (uq (uq (uq (uq (uq (uq (uq (uq (uq (zq C 5000 m) 5000 m 7 0) 5000 m 9 (-1)) 5000 m 10 (-1)) 5000 m 0 m) 5000 m 1 (7000 + x)) 5000 m 2 (6000 + p)) 5000 m 3 k) 5000 m 4 v) 5000 m 5 d) 5000 m 6 t) 5000 m 8 (if t = -1 then 0 else 1)) 20000 0 m (5000 + m)) 11000 0 10 (m + 1)
theorem msC_k {C : Cd} {m x p k v d t b i j : Int} (h1 : ¬ (b = 5000 ∧ i = m)) (h2 : ¬ (b = 20000 ∧ i = 0 ∧ j = m)) (h3 : ¬ (b = 11000 ∧ i = 0 ∧ j = 10)) : msC C m x p k v d t b i j = C b i j := by
  unfold msC
  repeat first
    | rw [uq_s, if_neg (by omega)]
    | rw [zq_s, if_neg (by omega)]
theorem CC.new {C : Cd} {N : Nd} {x p k v d t : Int} (c : CC C N) (hd : 0 ≤ d) (ht : -1 ≤ t) : CC (msC C ((N 12000 19)) x p k v (if d = 0 then -1 else d) t) (up (up (nwN N x p k v 0 d) 13025 ((N 12000 19)) (if t < 0 then 0 else 1)) 13029 ((N 12000 19)) t) := by
  have tt : (if t = -1 then (0 : Int) else 1) = if t < 0 then 0 else 1 := by
    by_cases e : t = -1
    · rw [if_pos e, if_pos (by omega)]
    · rw [if_neg e, if_neg (by omega)]
  refine ⟨⟨c.b.1, c.b.2.1, c.b.2.2.1, c.b.2.2.2.1, c.b.2.2.2.2.1, ?_, c.b.2.2.2.2.2.2⟩, ⟨c.i.1, c.i.2.1, c.i.2.2.1, c.i.2.2.2.1, fun i i1 i2 => ?_⟩, c.t, c.p, c.w, c.l, c.r, fun i i1 i2 => ?_, c.x⟩
  · show msC C ((N 12000 19)) x p k v (if d = 0 then -1 else d) t 11000 0 10 = nwN N x p k v 0 d 12000 19
    rw [nwN_sc, if_pos rfl]
    rfl
  · have q := c.i.2.2.2.2 i i1 i2
    show msC C ((N 12000 19)) x p k v (if d = 0 then -1 else d) t 20000 0 i = if i < nwN N x p k v 0 d 12000 19 then 5000 + i else 0
    rw [nwN_sc, if_pos rfl]
    unfold msC
    simp only [uq_s, zq_s, up_s, true_and, false_and, and_true, and_false, if_true, if_false, ↓reduceIte, ↓Option.bind_some, Int.reduceEq, Int.reduceNe, Int.reduceLT, Int.reduceLE, gd_true, gd_false, bind_b, q10, eq_self, reduceCtorEq, not_true_eq_false, not_false_eq_true, ne_eq]
    by_cases e : i = (N 12000 19)
    · rw [if_pos e, if_pos (by omega), e]
    · rw [if_neg e, q]
      by_cases e2 : i < (N 12000 19)
      · rw [if_pos e2, if_pos (by omega)]
      · rw [if_neg e2, if_neg (by omega)]
  · have i3 : i < nwN N x p k v 0 d 12000 19 := i2
    rw [nwN_sc, if_pos rfl] at i3
    rw [tt.symm]
    unfold msC nwN
    simp only [uq_s, zq_s, up_s, up_s, true_and, false_and, and_true, and_false, if_true, if_false, ↓reduceIte, ↓Option.bind_some, Int.reduceEq, Int.reduceNe, Int.reduceLT, Int.reduceLE, gd_true, gd_false, bind_b, q10, eq_self, reduceCtorEq, not_true_eq_false, not_false_eq_true, ne_eq]
    by_cases e : i = (N 12000 19)
    · simp only [e, if_true, true_and, and_self]
    · have q := c.m i i1 (by omega)
      simp only [e, if_false]
      exact q
/-- a new message in what holds between calls -/
theorem JJ.msg {n : Int} {C C' : Cd} {N N' : Nd} {A : Ad} {m : Int} (j : JJ n C N A) (hm : m = (N 12000 19)) (h150 : m < 150) (jn : JN N') (c : CC C' N') (mo : Mo N N')
    (kc : ∀ b i k, ccell b k = false → ¬ (b = 5000 ∧ i = m) → ¬ (b = 20000 ∧ i = 0 ∧ k = m) → ¬ (b = 11000 ∧ i = 0 ∧ k = 10) → b ≠ 20001 → ¬ (b = 11000 ∧ k = 11) → C' b i k = C b i k) (d : ∃ l, DLs N' l ∧ DLc C' l)
    (sc : ∀ k, k ≠ 19 → N' 12000 k = N 12000 k) (s19 : N' 12000 19 = m + 1)
    (ar : ∀ a, a ≠ 12000 → a ≠ 13018 → a ≠ 13016 → ¬ (13020 ≤ a ∧ a ≤ 13029) → a ≠ 13032 → N' a = N a)
    (fe : ∀ p, (N 12000 11) ≤ p → ∀ r, 0 ≤ r → r < 3 → N' 13016 (3 * p + r) = N 13016 (3 * p + r)) (fd : ∀ i, i ≠ m → N' 13028 i = N 13028 i) (fm : 0 ≤ N' 13028 m ∧ N' 13028 m ≤ 400000050) (xs : ∀ y, (N 12000 30) ≤ y → N' 13032 y = N 13032 y) : JJ n C' N' (alA A (5000 + m) 11) := by
  obtain ⟨f1, f2, f3, f4, f5⟩ := j.fn
  have s5 := j.jn.g.s.2.2.2.2.1
  have arr : ∀ a, 13030 ≤ a → a ≠ 13032 → N' a = N a := fun a h h2 => ar a (by omega) (by omega) (by omega) (by omega) h2
  have e11 := sc 11 (by decide); have e30 := sc 30 (by decide); have e41 := sc 41 (by decide); have e4 := sc 4 (by decide); have e1 := sc 1 (by decide); have e40 := sc 40 (by decide)
  have sg : SG C C' N N' := ⟨fun b h => by
    have z := gcell_ne h
    funext i k
    exact kc b i k (ccell_g h k) (by omega) (by omega) (by omega) (by omega) (by omega), fun a h => by
    have z := garr_b h
    exact arr a (by omega) (by omega)⟩
  have hr : ∀ g p, 0 ≤ g → g < (N 12000 41) → (gR N' g p ↔ gR N g p) := fun g p _ _ => by
    unfold gR
    rw [e11, arr 13042 (by decide) (by decide), ar 13012 (by decide) (by decide) (by decide) (by decide) (by decide)]
  have sx : SX C C' N N' := ⟨fun x k hk => kc 7000 x k (ccell_7 hk) (by omega) (by omega) (by omega) (by omega) (by omega), by funext i k; exact kc 13500 i k rfl (by omega) (by omega) (by omega) (by omega) (by omega), arr _ (by decide) (by decide), arr _ (by decide) (by decide), arr _ (by decide) (by decide), arr _ (by decide) (by decide), arr _ (by decide) (by decide)⟩
  refine j.step jn c d sg mo hr (by rw [e4]; exact Int.le_refl _) (by rw [e1]; exact Int.le_refl _) e41 (j.px.step jn.g sg sx mo hr e41 e30 (fun x _ _ h => by rw [arr 13033 (by decide) (by decide)] at h; exact h)) ?_ ?_ (Int.le_refl _) ⟨by rw [e1]; exact j.b.2.1, by rw [e40]; exact j.b.2.2.1⟩
  · obtain ⟨q1, q2, q3, q4, q5, q6, q7⟩ := j.ne
    have s1 := j.jn.g.s.1; have s2 := j.jn.g.s.2.1; have s4 := j.jn.g.s.2.2.2.1; have s3 := j.jn.g.s.2.2.1
    unfold NE
    rw [e4, e11, e30, s19, e41, arr 13044 (by decide) (by decide), sg.1 17000 (by decide)]
    refine ⟨fun t t1 t2 => ?_, fun p p1 p2 => ?_, fun y y1 y2 => ?_, fun i i1 i2 => ?_, fun g g1 g2 => ?_, fun g k g1 g2 k1 k2 hk => ?_, fun g i g1 g2 i1 i2 hi => ?_⟩
    · rw [ad_al (by omega), ad_al (by omega)]
      exact q1 t t1 t2
    · have q := q2 p p1 p2
      refine ⟨?_, ?_, ?_, fun r r1 r2 => ?_⟩ <;> rw [ad_al (by omega)]
      · exact q.1
      · exact q.2.1
      · exact q.2.2.1
      · exact q.2.2.2 r r1 r2
    · rw [ad_al (by omega), ad_al (by omega)]
      exact q3 y y1 y2
    · rw [ad_al (by omega)]
      exact q4 i (by omega) i2
    · have q := q5 g g1 g2
      refine ⟨?_, ?_, ?_, ?_, ?_, ?_, ?_, ?_, fun r r1 r2 => ?_⟩ <;> rw [ad_al (by omega)]
      · exact q.1
      · exact q.2.1
      · exact q.2.2.1
      · exact q.2.2.2.1
      · exact q.2.2.2.2.1
      · exact q.2.2.2.2.2.1
      · exact q.2.2.2.2.2.2.1
      · exact q.2.2.2.2.2.2.2.1
      · exact q.2.2.2.2.2.2.2.2 r r1 r2
    · rw [ad_al (by omega), ad_al (by omega), ad_al (by omega)]
      exact q6 g k g1 g2 k1 k2 hk
    · rw [ad_al (by omega)]
      exact q7 g i g1 g2 i1 i2 hi
  · refine ⟨fun p p1 p2 => ?_, fun y y1 y2 => ?_, fun i i1 i2 => ?_, ?_, ?_⟩
    · rw [e11] at p1
      rw [ar 13015 (by decide) (by decide) (by decide) (by decide) (by decide)]
      refine ⟨(f1 p p1 p2).1, fun r r1 r2 => ?_⟩
      rw [fe p p1 r r1 r2]
      exact (f1 p p1 p2).2 r r1 r2
    · rw [e30] at y1
      rw [xs y y1, ar 14034 (by decide) (by decide) (by decide) (by decide) (by decide), arr 13035 (by decide) (by decide)]
      exact f2 y y1 y2
    · rw [s19]
      by_cases e : i = m
      · rw [e]
        exact ⟨fm.1, fm.2, fun z => by omega⟩
      · rw [fd i e]
        have z := f3 i i1 i2
        exact ⟨z.1, z.2.1, fun y => z.2.2 (by omega)⟩
    · rw [e41, sg.2 13043 (by decide), sg.2 13044 (by decide), sg.2 13045 (by decide), sg.2 13046 (by decide), sg.2 13047 (by decide), sg.2 13051 (by decide), sg.2 13057 (by decide), sg.2 13058 (by decide), sg.2 13059 (by decide), sg.2 13062 (by decide), sg.2 13064 (by decide)]
      exact f4
    · rw [e30, arr 13033 (by decide) (by decide), ar 14034 (by decide) (by decide) (by decide) (by decide) (by decide), arr 13035 (by decide) (by decide)]
      exact f5
theorem c_newMsg {C : Cd} {N0 : Nd} {A : Ad} {m x p k v d t : Int} (m1 : 0 ≤ m) (m2 : m < 150) (b10 : C 11000 0 10 = m) (b4 : C 11000 0 4 = 20000) (ht : -1 ≤ t) : ∃ C4, p_X4_init (mk (zq C 5000 m) N0 A) (5000 + m) m (7000 + x) (6000 + p) k v d t = some (mk C4 N0 A) ∧ p_X10_keep (mk C4 N0 A) 11000 (5000 + m) = some (mk (msC C m x p k v d t) N0 A) := by
  refine ⟨uq (uq (uq (uq (uq (uq (uq (uq (uq (uq (uq (zq C 5000 m) 5000 m 7 0) 5000 m 9 (-1)) 5000 m 10 (-1)) 5000 m 0 m) 5000 m 1 (7000 + x)) 5000 m 2 (6000 + p)) 5000 m 3 k) 5000 m 4 v) 5000 m 5 d) 5000 m 6 t) 5000 m 8 (if t = -1 then 0 else 1), ?_, ?_⟩
  · unfold p_X4_init
    by_cases h : t = -1
    · simp (disch := omega) only [aok, up_s, true_and, false_and, and_true, and_false, if_true, if_false, ↓reduceIte, ↓Option.bind_some, Int.reduceEq, Int.reduceNe, Int.reduceLT, Int.reduceLE, gd_true, gd_false, bind_b, q10, eq_self, reduceCtorEq, not_true_eq_false, not_false_eq_true, ne_eq, cr_11000, cr_15000, cr_16000, cr_20000, cr_20001, cr_21000, cr_22000, cr_25000, cr_1000, cr_2000, cr_3000, cr_3003, cr_3006, cr_4000, cr_5000, cr_6000, cr_7000, cr_8000, cr_9000, cr_10000, cr_13500, cr_17000, cr_17100, cr_17103, cr_17106, cr_19000, cr_20100, cr_21100, cr_23000, cr_24000, cw_11000, cw_15000, cw_16000, cw_20000, cw_20001, cw_21000, cw_22000, cw_25000, cw_1000, cw_2000, cw_3000, cw_3003, cw_3006, cw_4000, cw_5000, cw_6000, cw_7000, cw_8000, cw_9000, cw_10000, cw_13500, cw_17000, cw_17100, cw_17103, cw_17106, cw_19000, cw_20100, cw_21100, cw_23000, cw_24000, lc_13500, lc_15000, lc_16000, lc_17000, lc_17100, lc_17103, lc_17106, lc_19000, lc_20000, lc_20001, lc_20100, lc_21000, lc_21100, lc_22000, lc_23000, lc_24000, lc_25000, gd_t, w_eq, h]
    · simp (disch := omega) only [aok, up_s, true_and, false_and, and_true, and_false, if_true, if_false, ↓reduceIte, ↓Option.bind_some, Int.reduceEq, Int.reduceNe, Int.reduceLT, Int.reduceLE, gd_true, gd_false, bind_b, q10, eq_self, reduceCtorEq, not_true_eq_false, not_false_eq_true, ne_eq, cr_11000, cr_15000, cr_16000, cr_20000, cr_20001, cr_21000, cr_22000, cr_25000, cr_1000, cr_2000, cr_3000, cr_3003, cr_3006, cr_4000, cr_5000, cr_6000, cr_7000, cr_8000, cr_9000, cr_10000, cr_13500, cr_17000, cr_17100, cr_17103, cr_17106, cr_19000, cr_20100, cr_21100, cr_23000, cr_24000, cw_11000, cw_15000, cw_16000, cw_20000, cw_20001, cw_21000, cw_22000, cw_25000, cw_1000, cw_2000, cw_3000, cw_3003, cw_3006, cw_4000, cw_5000, cw_6000, cw_7000, cw_8000, cw_9000, cw_10000, cw_13500, cw_17000, cw_17100, cw_17103, cw_17106, cw_19000, cw_20100, cw_21100, cw_23000, cw_24000, lc_13500, lc_15000, lc_16000, lc_17000, lc_17100, lc_17103, lc_17106, lc_19000, lc_20000, lc_20001, lc_20100, lc_21000, lc_21100, lc_22000, lc_23000, lc_24000, lc_25000, gd_t, w_eq, h]
  · unfold p_X10_keep
    have e1 : w (m + 1) = m + 1 := w_eq (by omega) (by omega)
    simp (disch := omega) only [aok, up_s, true_and, false_and, and_true, and_false, if_true, if_false, ↓reduceIte, ↓Option.bind_some, Int.reduceEq, Int.reduceNe, Int.reduceLT, Int.reduceLE, gd_true, gd_false, bind_b, q10, eq_self, reduceCtorEq, not_true_eq_false, not_false_eq_true, ne_eq, cr_11000, cr_15000, cr_16000, cr_20000, cr_20001, cr_21000, cr_22000, cr_25000, cr_1000, cr_2000, cr_3000, cr_3003, cr_3006, cr_4000, cr_5000, cr_6000, cr_7000, cr_8000, cr_9000, cr_10000, cr_13500, cr_17000, cr_17100, cr_17103, cr_17106, cr_19000, cr_20100, cr_21100, cr_23000, cr_24000, cw_11000, cw_15000, cw_16000, cw_20000, cw_20001, cw_21000, cw_22000, cw_25000, cw_1000, cw_2000, cw_3000, cw_3003, cw_3006, cw_4000, cw_5000, cw_6000, cw_7000, cw_8000, cw_9000, cw_10000, cw_13500, cw_17000, cw_17100, cw_17103, cw_17106, cw_19000, cw_20100, cw_21100, cw_23000, cw_24000, lc_13500, lc_15000, lc_16000, lc_17000, lc_17100, lc_17103, lc_17106, lc_19000, lc_20000, lc_20001, lc_20100, lc_21000, lc_21100, lc_22000, lc_23000, lc_24000, lc_25000, gd_t, w_eq, uq_s, zq_s, b10, b4, m2, e1]
    rfl
/-- a message is sent at once: the class's side, and what holds then -/
theorem JJ.send {n : Int} {C : Cd} {Z N0 : Nd} {A : Ad} {x p k v : Int} (j : JJ n C Z A) (x1 : 0 ≤ x) (x2 : x < (Z 12000 30)) (p1 : 0 ≤ p) (p2 : p < (Z 12000 11)) (hv : -1 ≤ v ∧ v ≤ 999) (h : csd Z x p) : ∃ C', p_X10_sendNow (mk C N0 A) 11000 (7000 + x) (6000 + p) k v = some ((Z 12000 19), mk C' N0 (alA A (5000 + (Z 12000 19)) 11)) ∧ JJ n C' (snN Z x p k v) (alA A (5000 + (Z 12000 19)) 11) := by
  obtain ⟨h1, h2, h3, ⟨h4, h5⟩, h6⟩ := h
  have g := j.jn.g
  have c := j.c
  have s5 := g.s.2.2.2.2.1
  have s3 := g.s.2.2.1
  have gx := g.x x x1 x2
  obtain ⟨l, d1, d2⟩ := j.d
  have b10 : C 11000 0 10 = (Z 12000 19) := c.b.2.2.2.2.2.1
  have b4 : C 11000 0 4 = 20000 := c.b.1.2.2.2.2.1
  have b15 : C 11000 0 15 = (Z 12000 1) := c.b.2.2.2.2.2.2.2.2.2
  obtain ⟨c0, c1, c2, c3, c4, c5⟩ := c.x x x1 x2
  have cn : CC (msC C ((Z 12000 19)) x p k v (-1) (Z 13033 x)) (n1N Z x p k v) := CC.new (x := x) (p := p) (k := k) (v := v) (d := 0) (t := Z 13033 x) c (Int.le_refl _) gx.2.2.1.1
  have gn := RG.n1N (k := k) j.jn h3 x1 x2 p1 p2 hv
  have mlt : (Z 12000 19) < n1N Z x p k v 12000 19 := by
    show (Z 12000 19) < nwN Z x p k v 0 0 12000 19
    rw [nwN_sc, if_pos rfl]; omega
  have ea : (mk (msC C ((Z 12000 19)) x p k v (-1) (Z 13033 x)) N0 (alA A (5000 + (Z 12000 19)) 11)) = (mk (msC C ((Z 12000 19)) x p k v (-1) (Z 13033 x)) N0 (alA A (5000 + (Z 12000 19)) 11)) := rfl
  obtain ⟨r, r1, C1, r2, r3, r4⟩ := c_append (N0 := N0) (A := alA A (5000 + (Z 12000 19)) 11) (m := (Z 12000 19)) (p := p) (t := (Z 12000 1)) gn cn s5.1 mlt n1_pa.symm rfl h4 h5
  rw [r2] at r1
  have m15 : msC C ((Z 12000 19)) x p k v (-1) (Z 13033 x) 11000 0 15 = (Z 12000 1) := by rw [msC_k (by omega) (by omega) (by omega)]; exact b15
  have k72 : C1 7000 x 2 = Z 13032 x := (r3.x x x1 x2).2.2.1
  have k50 : C1 5000 ((Z 12000 19)) 0 = (Z 12000 19) := (r3.m ((Z 12000 19)) s5.1 mlt).1
  have e3 : w (Z 13032 x + 1) = Z 13032 x + 1 := w_eq (by omega) (by omega)
  obtain ⟨C4, i1, i2⟩ := c_newMsg (C := C) (N0 := N0) (A := alA A (5000 + (Z 12000 19)) 11) (m := (Z 12000 19)) (x := x) (p := p) (k := k) (v := v) (d := -1) (t := Z 13033 x) s5.1 h3 b10 b4 gx.2.2.1.1
  have ad := j.ne.2.2.2.1 ((Z 12000 19)) (Int.le_refl _) h3
  have z10 : zq C 5000 ((Z 12000 19)) 11000 0 10 = (Z 12000 19) := by rw [zq_s, if_neg (by omega)]; exact b10
  have z73 : zq C 5000 ((Z 12000 19)) 7000 x 3 = Z 13033 x := by rw [zq_s, if_neg (by omega)]; exact c3
  refine ⟨uq C1 7000 x 2 (Z 13032 x + 1), ?_, ?_⟩
  · unfold p_X10_sendNow
    simp (disch := first | omega | assumption) only [aok, up_s, true_and, false_and, and_true, and_false, if_true, if_false, ↓reduceIte, ↓Option.bind_some, Int.reduceEq, Int.reduceNe, Int.reduceLT, Int.reduceLE, gd_true, gd_false, bind_b, q10, eq_self, reduceCtorEq, not_true_eq_false, not_false_eq_true, ne_eq, cr_11000, cr_15000, cr_16000, cr_20000, cr_20001, cr_21000, cr_22000, cr_25000, cr_1000, cr_2000, cr_3000, cr_3003, cr_3006, cr_4000, cr_5000, cr_6000, cr_7000, cr_8000, cr_9000, cr_10000, cr_13500, cr_17000, cr_17100, cr_17103, cr_17106, cr_19000, cr_20100, cr_21100, cr_23000, cr_24000, cw_11000, cw_15000, cw_16000, cw_20000, cw_20001, cw_21000, cw_22000, cw_25000, cw_1000, cw_2000, cw_3000, cw_3003, cw_3006, cw_4000, cw_5000, cw_6000, cw_7000, cw_8000, cw_9000, cw_10000, cw_13500, cw_17000, cw_17100, cw_17103, cw_17106, cw_19000, cw_20100, cw_21100, cw_23000, cw_24000, lc_13500, lc_15000, lc_16000, lc_17000, lc_17100, lc_17103, lc_17106, lc_19000, lc_20000, lc_20001, lc_20100, lc_21000, lc_21100, lc_22000, lc_23000, lc_24000, lc_25000, gd_t, w_eq, b10, al_5000, z10, z73, i1, i2, m15, r1, k72, e3]
    simp (disch := omega) only [uq_s, up_s, true_and, false_and, and_true, and_false, if_true, if_false, ↓reduceIte, ↓Option.bind_some, Int.reduceEq, Int.reduceNe, Int.reduceLT, Int.reduceLE, gd_true, gd_false, bind_b, q10, eq_self, reduceCtorEq, not_true_eq_false, not_false_eq_true, ne_eq, k50]
  · have jn := j.jn.snN (k := k) h3 x1 x2 p1 p2 hv h4 h5 h6 (by omega)
    have ap : ∀ a, a ≠ 13018 → a ≠ 13024 → a ≠ 13026 → a ≠ 13027 → a ≠ 13016 → apN (n1N Z x p k v) ((Z 12000 19)) a = n1N Z x p k v a := fun a z1 z2 z3 z4 z5 => by
      unfold apN
      funext i
      rw [up_s, if_neg (fun q => z5 q.1), up_s, if_neg (fun q => z4 q.1), up_s, if_neg (fun q => z3 q.1), up_s, if_neg (fun q => z2 q.1), up_s, if_neg (fun q => z1 q.1)]
    have nn : ∀ a, a ≠ 12000 → ¬ (13020 ≤ a ∧ a ≤ 13029) → n1N Z x p k v a = Z a := fun a z1 z2 => by
      unfold n1N nwN
      funext i
      repeat rw [up_s, if_neg (by omega)]
    have st : ∀ i, snN Z x p k v 13024 i = if i = (Z 12000 19) then 1 else Z 13024 i := fun i => by
      show apN (n1N Z x p k v) ((Z 12000 19)) 13024 i = _
      have : apN (n1N Z x p k v) ((Z 12000 19)) 13024 i = if i = (Z 12000 19) then 1 else n1N Z x p k v 13024 i := by unfold apN; simp only [up_s, up_s, true_and, false_and, and_true, and_false, if_true, if_false, ↓reduceIte, ↓Option.bind_some, Int.reduceEq, Int.reduceNe, Int.reduceLT, Int.reduceLE, gd_true, gd_false, bind_b, q10, eq_self, reduceCtorEq, not_true_eq_false, not_false_eq_true, ne_eq]
      rw [this]
      by_cases e : i = (Z 12000 19)
      · rw [if_pos e, if_pos e]
      · rw [if_neg e, if_neg e]
        show nwN Z x p k v 0 0 13024 i = _
        rw [nw_st, if_neg e]
    have du : ∀ i, snN Z x p k v 13028 i = if i = (Z 12000 19) then 0 else Z 13028 i := fun i => by
      show nwN Z x p k v 0 0 13028 i = _
      rw [nw_du]
    have s19 : snN Z x p k v 12000 19 = (Z 12000 19) + 1 := by
      show nwN Z x p k v 0 0 12000 19 = _
      rw [nwN_sc, if_pos rfl]
    have cc : CC (uq C1 7000 x 2 (Z 13032 x + 1)) (snN Z x p k v) := r3.setSent (x := x) (v := Z 13032 x + 1)
    have kc : ∀ b i q, ccell b q = false → ¬ (b = 5000 ∧ i = (Z 12000 19)) → ¬ (b = 20000 ∧ i = 0 ∧ q = (Z 12000 19)) → ¬ (b = 11000 ∧ i = 0 ∧ q = 10) → uq C1 7000 x 2 (Z 13032 x + 1) b i q = C b i q := fun b i q h h1 h2 h3 => by
      rw [uq_s, if_neg (fun z => by rw [z.1, z.2.2] at h; cases h), r4 b i q h, msC_k h1 h2 h3]
    refine j.msg rfl h3 jn.1 cc jn.2 (fun b i q h h1 h2 h3 _ _ => kc b i q h h1 h2 h3) ⟨l, ⟨?_, fun i hi => ?_, fun i i1 i2 i3 => ?_⟩, ⟨(kc 11000 0 11 rfl (by omega) (by omega) (by omega)).trans d2.1, d2.2.1, fun i hi => (kc 20001 0 i rfl (by omega) (by omega) (by omega)).trans (d2.2.2 i hi)⟩⟩ (fun q hq => ?_) s19 (fun a a1 a2 a3 a4 a5 => ?_) (fun q q1 r r1 r2 => ?_) (fun i hi => by rw [du, if_neg hi]) (by rw [du, if_pos rfl]; omega) (fun y hy => ?_)
    · refine List.Pairwise.imp_of_mem (fun {a b} ha hb hab => ?_) d1.1
      have y1 := d1.2.1 a ha
      have y2 := d1.2.1 b hb
      unfold lt2 at *
      rw [du, du, if_neg (by omega), if_neg (by omega)]
      exact hab
    · obtain ⟨y1, y2, y3⟩ := d1.2.1 i hi
      refine ⟨y1, by rw [s19]; omega, ?_⟩
      rw [st, if_neg (by omega)]
      exact y3
    · rw [s19] at i2
      rw [st] at i3
      by_cases e : i = (Z 12000 19)
      · rw [if_pos e] at i3; omega
      · rw [if_neg e] at i3
        exact d1.2.2 i i1 (by omega) i3
    · show nwN Z x p k v 0 0 12000 q = _
      rw [nwN_sc, if_neg hq]
    · unfold snN
      funext i
      rw [up_s, if_neg (fun z => a5 z.1), ap a a2 (by omega) (by omega) (by omega) a3, nn a a1 a4]
    · have lb := RP.lead g.t g.p p1 p2
      show apN (n1N Z x p k v) ((Z 12000 19)) 13016 (3 * q + r) = _
      unfold apN
      rw [n1_pa]
      have e9 : n1N Z x p k v 13013 p = Z 13013 p := rfl
      rw [e9, up_s, if_neg (by omega), up_s, if_neg (by omega), up_s, if_neg (by omega), up_s, if_neg (by omega), up_s, if_neg (by omega), nn 13016 (by decide) (by decide)]
    · unfold snN
      rw [up_s, if_neg (by omega)]
      rfl
theorem q_send {n : Int} {C : Cd} {N : Nd} {A : Ad} {x t k v : Int} (hk : r32 k) (j : JJ n C N A) : SR n C N A (p_G_send (mk C N A) 11000 x t k v 15000) (fun M => p_X11_send M 12000 x t k v) := by
  have g := j.jn.g
  have jz : JJ n C (up N 12000 0 0) A := j.thrown
  have hx := c_producerOf (N0 := N) (A := A) (t := x) g j.c
  have ht := c_topicOf (N0 := N) (A := A) (t := t) g j.c
  have mx := fun C A => @m_isProducer C (up N 12000 0 0) A x j.z.s
  have mt := fun C A => @m_isTopic C (up N 12000 0 0) A t j.z.s
  simp only [up_s, up_s, true_and, false_and, and_true, and_false, if_true, if_false, ↓reduceIte, ↓Option.bind_some, Int.reduceEq, Int.reduceNe, Int.reduceLT, Int.reduceLE, gd_true, gd_false, bind_b, q10, eq_self, reduceCtorEq, not_true_eq_false, not_false_eq_true, ne_eq] at mx mt
  unfold p_G_send p_X10_send
  by_cases h1 : 0 ≤ x ∧ x < (N 12000 30)
  · by_cases h2 : 0 ≤ t ∧ t < (N 12000 4)
    · have pb := pf_b (k := k) g h2.1 h2.2
      have s3 := g.s.2.2.1
      have s1 := g.s.1
      have hp := c_partitionFor (N0 := N) (A := A) g j.c hk h2.1 h2.2
      have mp := fun C A => @m_partitionFor C (up N 12000 0 0) A t k j.z hk h2.1 h2.2
      have e : pf (up N 12000 0 0) t k = pf N t k := rfl
      rw [e] at mp
      by_cases h3 : -1 ≤ v ∧ v ≤ 999
      · have hc := c_canSend (N0 := N) (A := A) (x := x) (p := pf N t k) g j.c h1.1 h1.2 pb.2.2.1 pb.2.2.2
        have f5 := fun z => (j.fn.2.2.2.2 x h1.1 (by omega) (Or.inr z)).1
        have mc := fun C A => @m_canSend C (up N 12000 0 0) A x (pf N t k) j.z h1.1 h1.2 pb.2.2.1 pb.2.2.2 f5
        by_cases h4 : csd N x (pf N t k)
        · obtain ⟨C', i1, i2⟩ := JJ.send (N0 := N) (k := k) jz h1.1 h1.2 pb.2.2.1 pb.2.2.2 h3 h4
          have gx := g.x x h1.1 h1.2
          have s5 := g.s.2.2.2.2.1
          have hs := h4.1
          have ms := fun C A => @m_sendNow C (up N 12000 0 0) A x (pf N t k) k v jz.jn h4.2.2.1 ((j.fn.2.2.1 _ s5.1 h4.2.2.1).2.2 (Int.le_refl _)) h1.1 h1.2 pb.2.2.1 pb.2.2.2 h3 h4.2.2.2.1.1 h4.2.2.2.1.2 (show N 13032 x < 20 by omega)
          have h4' : csd (up N 12000 0 0) x (pf N t k) := h4
          have e5 : (up N 12000 0 0) 12000 19 = (N 12000 19) := rfl
          rw [e5] at i1 i2 ms
          refine ⟨0, uq C' 15000 0 0 ((N 12000 19)), alA A (5000 + (N 12000 19)) 11, ?_, (N 12000 19), snN (up N 12000 0 0) x (pf N t k) k v, ?_, rfl, fun _ => rfl, i2.out.next⟩
          · rw [if_pos h4] at hc
            simp (disch := omega) only [aok, up_s, true_and, false_and, and_true, and_false, if_true, if_false, ↓reduceIte, ↓Option.bind_some, Int.reduceEq, Int.reduceNe, Int.reduceLT, Int.reduceLE, gd_true, gd_false, bind_b, q10, eq_self, reduceCtorEq, not_true_eq_false, not_false_eq_true, ne_eq, cr_11000, cr_15000, cr_16000, cr_20000, cr_20001, cr_21000, cr_22000, cr_25000, cr_1000, cr_2000, cr_3000, cr_3003, cr_3006, cr_4000, cr_5000, cr_6000, cr_7000, cr_8000, cr_9000, cr_10000, cr_13500, cr_17000, cr_17100, cr_17103, cr_17106, cr_19000, cr_20100, cr_21100, cr_23000, cr_24000, cw_11000, cw_15000, cw_16000, cw_20000, cw_20001, cw_21000, cw_22000, cw_25000, cw_1000, cw_2000, cw_3000, cw_3003, cw_3006, cw_4000, cw_5000, cw_6000, cw_7000, cw_8000, cw_9000, cw_10000, cw_13500, cw_17000, cw_17100, cw_17103, cw_17106, cw_19000, cw_20100, cw_21100, cw_23000, cw_24000, lc_13500, lc_15000, lc_16000, lc_17000, lc_17100, lc_17103, lc_17106, lc_19000, lc_20000, lc_20001, lc_20100, lc_21000, lc_21100, lc_22000, lc_23000, lc_24000, lc_25000, gd_t, w_eq, thT, thU, psT, psU, hnT, thr_mk, ↓Option.bind_some, hx, h1, ht, h2, hp, c_within, h3, hc, i1]
          · unfold p_X11_send
            have mc' : ∀ C A, p_X11_canSend (mk C (up N 12000 0 0) A) 12000 x (pf N t k) = some 1 := fun C A => by rw [mc, if_pos h4']
            simp (disch := omega) only [aok, up_s, true_and, false_and, and_true, and_false, if_true, if_false, ↓reduceIte, ↓Option.bind_some, Int.reduceEq, Int.reduceNe, Int.reduceLT, Int.reduceLE, gd_true, gd_false, bind_b, q10, eq_self, reduceCtorEq, not_true_eq_false, not_false_eq_true, ne_eq, pt_0, pt_1, pt_2, pt_3, pt_4, pt_5, pt_6, pt_7, pt_8, pt_9, pt_10, pt_11, pt_12, pt_13, pt_14, pt_15, pt_16, pt_17, pt_18, pt_19, pt_20, pt_21, pt_22, pt_23, pt_24, pt_25, pt_26, pt_27, pt_28, pt_29, pt_30, pt_31, pt_32, pt_33, pt_34, pt_35, pt_36, pt_37, pt_38, pt_39, pt_40, pt_41, pt_42, pt_43, pt_44, pt_45, pt_46, pt_47, pt_48, pt_49, pt_50, pt_51, pt_52, pt_53, pt_54, pt_55, pt_56, pt_57, pt_58, pt_59, pt_60, pt_61, pt_62, pt_63, pt_64, pt_65, pt_66, pt_67, pa_13005, pw_13005, pa_13006, pw_13006, pa_13007, pw_13007, pa_14008, pw_14008, pa_13009, pw_13009, pa_13010, pw_13010, pa_13012, pw_13012, pa_13013, pw_13013, pa_13014, pw_13014, pa_13015, pw_13015, pa_13016, pw_13016, pa_13017, pw_13017, pa_13018, pw_13018, pa_13020, pw_13020, pa_13021, pw_13021, pa_13022, pw_13022, pa_13023, pw_13023, pa_13024, pw_13024, pa_13025, pw_13025, pa_13026, pw_13026, pa_13027, pw_13027, pa_13028, pw_13028, pa_13029, pw_13029, pa_13031, pw_13031, pa_13032, pw_13032, pa_13033, pw_13033, pa_14034, pw_14034, pa_13035, pw_13035, pa_13036, pw_13036, pa_13037, pw_13037, pa_13038, pw_13038, pa_13039, pw_13039, pa_13042, pw_13042, pa_13043, pw_13043, pa_13044, pw_13044, pa_13045, pw_13045, pa_13046, pw_13046, pa_13047, pw_13047, pa_13048, pw_13048, pa_13049, pw_13049, pa_13050, pw_13050, pa_13051, pw_13051, pa_13052, pw_13052, pa_13053, pw_13053, pa_13054, pw_13054, pa_13055, pw_13055, pa_13056, pw_13056, pa_13057, pw_13057, pa_13058, pw_13058, pa_13059, pw_13059, pa_13060, pw_13060, pa_13061, pw_13061, pa_13062, pw_13062, pa_13063, pw_13063, pa_13064, pw_13064, pa_13065, pw_13065, pa_13066, pw_13066, pa_13067, pw_13067, ps_0, ps_1, ps_2, ps_3, ps_4, ps_11, ps_19, ps_30, ps_40, ps_41, ln_13005, ln_13006, ln_13007, ln_14008, ln_13009, ln_13010, ln_13012, ln_13013, ln_13014, ln_13015, ln_13016, ln_13017, ln_13018, ln_13020, ln_13021, ln_13022, ln_13023, ln_13024, ln_13025, ln_13026, ln_13027, ln_13028, ln_13029, ln_13031, ln_13032, ln_13033, ln_14034, ln_13035, ln_13036, ln_13037, ln_13038, ln_13039, ln_13042, ln_13043, ln_13044, ln_13045, ln_13046, ln_13047, ln_13048, ln_13049, ln_13050, ln_13051, ln_13052, ln_13053, ln_13054, ln_13055, ln_13056, ln_13057, ln_13058, ln_13059, ln_13060, ln_13061, ln_13062, ln_13063, ln_13064, ln_13065, ln_13066, ln_13067, gd_t, w_eq, mx, h1, mt, h2, m_in, h3, mp, mc', ms]
        · have h4' : ¬ csd (up N 12000 0 0) x (pf N t k) := h4
          simp only [h4', if_false] at mc
          rw [if_neg h4] at hc
          refine SR.r j 3 (by omega) ?_ ?_
          · simp (disch := omega) only [aok, up_s, true_and, false_and, and_true, and_false, if_true, if_false, ↓reduceIte, ↓Option.bind_some, Int.reduceEq, Int.reduceNe, Int.reduceLT, Int.reduceLE, gd_true, gd_false, bind_b, q10, eq_self, reduceCtorEq, not_true_eq_false, not_false_eq_true, ne_eq, cr_11000, cr_15000, cr_16000, cr_20000, cr_20001, cr_21000, cr_22000, cr_25000, cr_1000, cr_2000, cr_3000, cr_3003, cr_3006, cr_4000, cr_5000, cr_6000, cr_7000, cr_8000, cr_9000, cr_10000, cr_13500, cr_17000, cr_17100, cr_17103, cr_17106, cr_19000, cr_20100, cr_21100, cr_23000, cr_24000, cw_11000, cw_15000, cw_16000, cw_20000, cw_20001, cw_21000, cw_22000, cw_25000, cw_1000, cw_2000, cw_3000, cw_3003, cw_3006, cw_4000, cw_5000, cw_6000, cw_7000, cw_8000, cw_9000, cw_10000, cw_13500, cw_17000, cw_17100, cw_17103, cw_17106, cw_19000, cw_20100, cw_21100, cw_23000, cw_24000, lc_13500, lc_15000, lc_16000, lc_17000, lc_17100, lc_17103, lc_17106, lc_19000, lc_20000, lc_20001, lc_20100, lc_21000, lc_21100, lc_22000, lc_23000, lc_24000, lc_25000, gd_t, w_eq, thT, thU, psT, psU, hnT, thr_mk, ↓Option.bind_some, hx, h1, ht, h2, hp, c_within, h3, hc]
          · unfold p_X11_send
            simp (disch := omega) only [aok, up_s, true_and, false_and, and_true, and_false, if_true, if_false, ↓reduceIte, ↓Option.bind_some, Int.reduceEq, Int.reduceNe, Int.reduceLT, Int.reduceLE, gd_true, gd_false, bind_b, q10, eq_self, reduceCtorEq, not_true_eq_false, not_false_eq_true, ne_eq, pt_0, pt_1, pt_2, pt_3, pt_4, pt_5, pt_6, pt_7, pt_8, pt_9, pt_10, pt_11, pt_12, pt_13, pt_14, pt_15, pt_16, pt_17, pt_18, pt_19, pt_20, pt_21, pt_22, pt_23, pt_24, pt_25, pt_26, pt_27, pt_28, pt_29, pt_30, pt_31, pt_32, pt_33, pt_34, pt_35, pt_36, pt_37, pt_38, pt_39, pt_40, pt_41, pt_42, pt_43, pt_44, pt_45, pt_46, pt_47, pt_48, pt_49, pt_50, pt_51, pt_52, pt_53, pt_54, pt_55, pt_56, pt_57, pt_58, pt_59, pt_60, pt_61, pt_62, pt_63, pt_64, pt_65, pt_66, pt_67, pa_13005, pw_13005, pa_13006, pw_13006, pa_13007, pw_13007, pa_14008, pw_14008, pa_13009, pw_13009, pa_13010, pw_13010, pa_13012, pw_13012, pa_13013, pw_13013, pa_13014, pw_13014, pa_13015, pw_13015, pa_13016, pw_13016, pa_13017, pw_13017, pa_13018, pw_13018, pa_13020, pw_13020, pa_13021, pw_13021, pa_13022, pw_13022, pa_13023, pw_13023, pa_13024, pw_13024, pa_13025, pw_13025, pa_13026, pw_13026, pa_13027, pw_13027, pa_13028, pw_13028, pa_13029, pw_13029, pa_13031, pw_13031, pa_13032, pw_13032, pa_13033, pw_13033, pa_14034, pw_14034, pa_13035, pw_13035, pa_13036, pw_13036, pa_13037, pw_13037, pa_13038, pw_13038, pa_13039, pw_13039, pa_13042, pw_13042, pa_13043, pw_13043, pa_13044, pw_13044, pa_13045, pw_13045, pa_13046, pw_13046, pa_13047, pw_13047, pa_13048, pw_13048, pa_13049, pw_13049, pa_13050, pw_13050, pa_13051, pw_13051, pa_13052, pw_13052, pa_13053, pw_13053, pa_13054, pw_13054, pa_13055, pw_13055, pa_13056, pw_13056, pa_13057, pw_13057, pa_13058, pw_13058, pa_13059, pw_13059, pa_13060, pw_13060, pa_13061, pw_13061, pa_13062, pw_13062, pa_13063, pw_13063, pa_13064, pw_13064, pa_13065, pw_13065, pa_13066, pw_13066, pa_13067, pw_13067, ps_0, ps_1, ps_2, ps_3, ps_4, ps_11, ps_19, ps_30, ps_40, ps_41, ln_13005, ln_13006, ln_13007, ln_14008, ln_13009, ln_13010, ln_13012, ln_13013, ln_13014, ln_13015, ln_13016, ln_13017, ln_13018, ln_13020, ln_13021, ln_13022, ln_13023, ln_13024, ln_13025, ln_13026, ln_13027, ln_13028, ln_13029, ln_13031, ln_13032, ln_13033, ln_14034, ln_13035, ln_13036, ln_13037, ln_13038, ln_13039, ln_13042, ln_13043, ln_13044, ln_13045, ln_13046, ln_13047, ln_13048, ln_13049, ln_13050, ln_13051, ln_13052, ln_13053, ln_13054, ln_13055, ln_13056, ln_13057, ln_13058, ln_13059, ln_13060, ln_13061, ln_13062, ln_13063, ln_13064, ln_13065, ln_13066, ln_13067, gd_t, w_eq, mx, h1, mt, h2, m_in, h3, mp, mc, m_refuse]
      · refine SR.r j 2 (by omega) ?_ ?_
        · simp (disch := omega) only [aok, up_s, true_and, false_and, and_true, and_false, if_true, if_false, ↓reduceIte, ↓Option.bind_some, Int.reduceEq, Int.reduceNe, Int.reduceLT, Int.reduceLE, gd_true, gd_false, bind_b, q10, eq_self, reduceCtorEq, not_true_eq_false, not_false_eq_true, ne_eq, cr_11000, cr_15000, cr_16000, cr_20000, cr_20001, cr_21000, cr_22000, cr_25000, cr_1000, cr_2000, cr_3000, cr_3003, cr_3006, cr_4000, cr_5000, cr_6000, cr_7000, cr_8000, cr_9000, cr_10000, cr_13500, cr_17000, cr_17100, cr_17103, cr_17106, cr_19000, cr_20100, cr_21100, cr_23000, cr_24000, cw_11000, cw_15000, cw_16000, cw_20000, cw_20001, cw_21000, cw_22000, cw_25000, cw_1000, cw_2000, cw_3000, cw_3003, cw_3006, cw_4000, cw_5000, cw_6000, cw_7000, cw_8000, cw_9000, cw_10000, cw_13500, cw_17000, cw_17100, cw_17103, cw_17106, cw_19000, cw_20100, cw_21100, cw_23000, cw_24000, lc_13500, lc_15000, lc_16000, lc_17000, lc_17100, lc_17103, lc_17106, lc_19000, lc_20000, lc_20001, lc_20100, lc_21000, lc_21100, lc_22000, lc_23000, lc_24000, lc_25000, gd_t, w_eq, thT, thU, psT, psU, hnT, thr_mk, ↓Option.bind_some, hx, h1, ht, h2, hp, c_within, h3]
        · unfold p_X11_send
          simp (disch := omega) only [aok, up_s, true_and, false_and, and_true, and_false, if_true, if_false, ↓reduceIte, ↓Option.bind_some, Int.reduceEq, Int.reduceNe, Int.reduceLT, Int.reduceLE, gd_true, gd_false, bind_b, q10, eq_self, reduceCtorEq, not_true_eq_false, not_false_eq_true, ne_eq, pt_0, pt_1, pt_2, pt_3, pt_4, pt_5, pt_6, pt_7, pt_8, pt_9, pt_10, pt_11, pt_12, pt_13, pt_14, pt_15, pt_16, pt_17, pt_18, pt_19, pt_20, pt_21, pt_22, pt_23, pt_24, pt_25, pt_26, pt_27, pt_28, pt_29, pt_30, pt_31, pt_32, pt_33, pt_34, pt_35, pt_36, pt_37, pt_38, pt_39, pt_40, pt_41, pt_42, pt_43, pt_44, pt_45, pt_46, pt_47, pt_48, pt_49, pt_50, pt_51, pt_52, pt_53, pt_54, pt_55, pt_56, pt_57, pt_58, pt_59, pt_60, pt_61, pt_62, pt_63, pt_64, pt_65, pt_66, pt_67, pa_13005, pw_13005, pa_13006, pw_13006, pa_13007, pw_13007, pa_14008, pw_14008, pa_13009, pw_13009, pa_13010, pw_13010, pa_13012, pw_13012, pa_13013, pw_13013, pa_13014, pw_13014, pa_13015, pw_13015, pa_13016, pw_13016, pa_13017, pw_13017, pa_13018, pw_13018, pa_13020, pw_13020, pa_13021, pw_13021, pa_13022, pw_13022, pa_13023, pw_13023, pa_13024, pw_13024, pa_13025, pw_13025, pa_13026, pw_13026, pa_13027, pw_13027, pa_13028, pw_13028, pa_13029, pw_13029, pa_13031, pw_13031, pa_13032, pw_13032, pa_13033, pw_13033, pa_14034, pw_14034, pa_13035, pw_13035, pa_13036, pw_13036, pa_13037, pw_13037, pa_13038, pw_13038, pa_13039, pw_13039, pa_13042, pw_13042, pa_13043, pw_13043, pa_13044, pw_13044, pa_13045, pw_13045, pa_13046, pw_13046, pa_13047, pw_13047, pa_13048, pw_13048, pa_13049, pw_13049, pa_13050, pw_13050, pa_13051, pw_13051, pa_13052, pw_13052, pa_13053, pw_13053, pa_13054, pw_13054, pa_13055, pw_13055, pa_13056, pw_13056, pa_13057, pw_13057, pa_13058, pw_13058, pa_13059, pw_13059, pa_13060, pw_13060, pa_13061, pw_13061, pa_13062, pw_13062, pa_13063, pw_13063, pa_13064, pw_13064, pa_13065, pw_13065, pa_13066, pw_13066, pa_13067, pw_13067, ps_0, ps_1, ps_2, ps_3, ps_4, ps_11, ps_19, ps_30, ps_40, ps_41, ln_13005, ln_13006, ln_13007, ln_14008, ln_13009, ln_13010, ln_13012, ln_13013, ln_13014, ln_13015, ln_13016, ln_13017, ln_13018, ln_13020, ln_13021, ln_13022, ln_13023, ln_13024, ln_13025, ln_13026, ln_13027, ln_13028, ln_13029, ln_13031, ln_13032, ln_13033, ln_14034, ln_13035, ln_13036, ln_13037, ln_13038, ln_13039, ln_13042, ln_13043, ln_13044, ln_13045, ln_13046, ln_13047, ln_13048, ln_13049, ln_13050, ln_13051, ln_13052, ln_13053, ln_13054, ln_13055, ln_13056, ln_13057, ln_13058, ln_13059, ln_13060, ln_13061, ln_13062, ln_13063, ln_13064, ln_13065, ln_13066, ln_13067, gd_t, w_eq, mx, h1, mt, h2, m_in, h3, m_refuse]
    · refine SR.r j 1 (by omega) ?_ ?_
      · simp (disch := omega) only [aok, up_s, true_and, false_and, and_true, and_false, if_true, if_false, ↓reduceIte, ↓Option.bind_some, Int.reduceEq, Int.reduceNe, Int.reduceLT, Int.reduceLE, gd_true, gd_false, bind_b, q10, eq_self, reduceCtorEq, not_true_eq_false, not_false_eq_true, ne_eq, cr_11000, cr_15000, cr_16000, cr_20000, cr_20001, cr_21000, cr_22000, cr_25000, cr_1000, cr_2000, cr_3000, cr_3003, cr_3006, cr_4000, cr_5000, cr_6000, cr_7000, cr_8000, cr_9000, cr_10000, cr_13500, cr_17000, cr_17100, cr_17103, cr_17106, cr_19000, cr_20100, cr_21100, cr_23000, cr_24000, cw_11000, cw_15000, cw_16000, cw_20000, cw_20001, cw_21000, cw_22000, cw_25000, cw_1000, cw_2000, cw_3000, cw_3003, cw_3006, cw_4000, cw_5000, cw_6000, cw_7000, cw_8000, cw_9000, cw_10000, cw_13500, cw_17000, cw_17100, cw_17103, cw_17106, cw_19000, cw_20100, cw_21100, cw_23000, cw_24000, lc_13500, lc_15000, lc_16000, lc_17000, lc_17100, lc_17103, lc_17106, lc_19000, lc_20000, lc_20001, lc_20100, lc_21000, lc_21100, lc_22000, lc_23000, lc_24000, lc_25000, gd_t, w_eq, thT, thU, psT, psU, hnT, thr_mk, ↓Option.bind_some, hx, h1, ht, h2]
      · unfold p_X11_send
        simp (disch := omega) only [aok, up_s, true_and, false_and, and_true, and_false, if_true, if_false, ↓reduceIte, ↓Option.bind_some, Int.reduceEq, Int.reduceNe, Int.reduceLT, Int.reduceLE, gd_true, gd_false, bind_b, q10, eq_self, reduceCtorEq, not_true_eq_false, not_false_eq_true, ne_eq, pt_0, pt_1, pt_2, pt_3, pt_4, pt_5, pt_6, pt_7, pt_8, pt_9, pt_10, pt_11, pt_12, pt_13, pt_14, pt_15, pt_16, pt_17, pt_18, pt_19, pt_20, pt_21, pt_22, pt_23, pt_24, pt_25, pt_26, pt_27, pt_28, pt_29, pt_30, pt_31, pt_32, pt_33, pt_34, pt_35, pt_36, pt_37, pt_38, pt_39, pt_40, pt_41, pt_42, pt_43, pt_44, pt_45, pt_46, pt_47, pt_48, pt_49, pt_50, pt_51, pt_52, pt_53, pt_54, pt_55, pt_56, pt_57, pt_58, pt_59, pt_60, pt_61, pt_62, pt_63, pt_64, pt_65, pt_66, pt_67, pa_13005, pw_13005, pa_13006, pw_13006, pa_13007, pw_13007, pa_14008, pw_14008, pa_13009, pw_13009, pa_13010, pw_13010, pa_13012, pw_13012, pa_13013, pw_13013, pa_13014, pw_13014, pa_13015, pw_13015, pa_13016, pw_13016, pa_13017, pw_13017, pa_13018, pw_13018, pa_13020, pw_13020, pa_13021, pw_13021, pa_13022, pw_13022, pa_13023, pw_13023, pa_13024, pw_13024, pa_13025, pw_13025, pa_13026, pw_13026, pa_13027, pw_13027, pa_13028, pw_13028, pa_13029, pw_13029, pa_13031, pw_13031, pa_13032, pw_13032, pa_13033, pw_13033, pa_14034, pw_14034, pa_13035, pw_13035, pa_13036, pw_13036, pa_13037, pw_13037, pa_13038, pw_13038, pa_13039, pw_13039, pa_13042, pw_13042, pa_13043, pw_13043, pa_13044, pw_13044, pa_13045, pw_13045, pa_13046, pw_13046, pa_13047, pw_13047, pa_13048, pw_13048, pa_13049, pw_13049, pa_13050, pw_13050, pa_13051, pw_13051, pa_13052, pw_13052, pa_13053, pw_13053, pa_13054, pw_13054, pa_13055, pw_13055, pa_13056, pw_13056, pa_13057, pw_13057, pa_13058, pw_13058, pa_13059, pw_13059, pa_13060, pw_13060, pa_13061, pw_13061, pa_13062, pw_13062, pa_13063, pw_13063, pa_13064, pw_13064, pa_13065, pw_13065, pa_13066, pw_13066, pa_13067, pw_13067, ps_0, ps_1, ps_2, ps_3, ps_4, ps_11, ps_19, ps_30, ps_40, ps_41, ln_13005, ln_13006, ln_13007, ln_14008, ln_13009, ln_13010, ln_13012, ln_13013, ln_13014, ln_13015, ln_13016, ln_13017, ln_13018, ln_13020, ln_13021, ln_13022, ln_13023, ln_13024, ln_13025, ln_13026, ln_13027, ln_13028, ln_13029, ln_13031, ln_13032, ln_13033, ln_14034, ln_13035, ln_13036, ln_13037, ln_13038, ln_13039, ln_13042, ln_13043, ln_13044, ln_13045, ln_13046, ln_13047, ln_13048, ln_13049, ln_13050, ln_13051, ln_13052, ln_13053, ln_13054, ln_13055, ln_13056, ln_13057, ln_13058, ln_13059, ln_13060, ln_13061, ln_13062, ln_13063, ln_13064, ln_13065, ln_13066, ln_13067, gd_t, w_eq, mx, h1, mt, h2, m_refuse]
  · refine SR.r j 1 (by omega) ?_ ?_
    · simp (disch := omega) only [aok, up_s, true_and, false_and, and_true, and_false, if_true, if_false, ↓reduceIte, ↓Option.bind_some, Int.reduceEq, Int.reduceNe, Int.reduceLT, Int.reduceLE, gd_true, gd_false, bind_b, q10, eq_self, reduceCtorEq, not_true_eq_false, not_false_eq_true, ne_eq, cr_11000, cr_15000, cr_16000, cr_20000, cr_20001, cr_21000, cr_22000, cr_25000, cr_1000, cr_2000, cr_3000, cr_3003, cr_3006, cr_4000, cr_5000, cr_6000, cr_7000, cr_8000, cr_9000, cr_10000, cr_13500, cr_17000, cr_17100, cr_17103, cr_17106, cr_19000, cr_20100, cr_21100, cr_23000, cr_24000, cw_11000, cw_15000, cw_16000, cw_20000, cw_20001, cw_21000, cw_22000, cw_25000, cw_1000, cw_2000, cw_3000, cw_3003, cw_3006, cw_4000, cw_5000, cw_6000, cw_7000, cw_8000, cw_9000, cw_10000, cw_13500, cw_17000, cw_17100, cw_17103, cw_17106, cw_19000, cw_20100, cw_21100, cw_23000, cw_24000, lc_13500, lc_15000, lc_16000, lc_17000, lc_17100, lc_17103, lc_17106, lc_19000, lc_20000, lc_20001, lc_20100, lc_21000, lc_21100, lc_22000, lc_23000, lc_24000, lc_25000, gd_t, w_eq, thT, thU, psT, psU, hnT, thr_mk, ↓Option.bind_some, hx, h1]
    · unfold p_X11_send
      simp (disch := omega) only [aok, up_s, true_and, false_and, and_true, and_false, if_true, if_false, ↓reduceIte, ↓Option.bind_some, Int.reduceEq, Int.reduceNe, Int.reduceLT, Int.reduceLE, gd_true, gd_false, bind_b, q10, eq_self, reduceCtorEq, not_true_eq_false, not_false_eq_true, ne_eq, pt_0, pt_1, pt_2, pt_3, pt_4, pt_5, pt_6, pt_7, pt_8, pt_9, pt_10, pt_11, pt_12, pt_13, pt_14, pt_15, pt_16, pt_17, pt_18, pt_19, pt_20, pt_21, pt_22, pt_23, pt_24, pt_25, pt_26, pt_27, pt_28, pt_29, pt_30, pt_31, pt_32, pt_33, pt_34, pt_35, pt_36, pt_37, pt_38, pt_39, pt_40, pt_41, pt_42, pt_43, pt_44, pt_45, pt_46, pt_47, pt_48, pt_49, pt_50, pt_51, pt_52, pt_53, pt_54, pt_55, pt_56, pt_57, pt_58, pt_59, pt_60, pt_61, pt_62, pt_63, pt_64, pt_65, pt_66, pt_67, pa_13005, pw_13005, pa_13006, pw_13006, pa_13007, pw_13007, pa_14008, pw_14008, pa_13009, pw_13009, pa_13010, pw_13010, pa_13012, pw_13012, pa_13013, pw_13013, pa_13014, pw_13014, pa_13015, pw_13015, pa_13016, pw_13016, pa_13017, pw_13017, pa_13018, pw_13018, pa_13020, pw_13020, pa_13021, pw_13021, pa_13022, pw_13022, pa_13023, pw_13023, pa_13024, pw_13024, pa_13025, pw_13025, pa_13026, pw_13026, pa_13027, pw_13027, pa_13028, pw_13028, pa_13029, pw_13029, pa_13031, pw_13031, pa_13032, pw_13032, pa_13033, pw_13033, pa_14034, pw_14034, pa_13035, pw_13035, pa_13036, pw_13036, pa_13037, pw_13037, pa_13038, pw_13038, pa_13039, pw_13039, pa_13042, pw_13042, pa_13043, pw_13043, pa_13044, pw_13044, pa_13045, pw_13045, pa_13046, pw_13046, pa_13047, pw_13047, pa_13048, pw_13048, pa_13049, pw_13049, pa_13050, pw_13050, pa_13051, pw_13051, pa_13052, pw_13052, pa_13053, pw_13053, pa_13054, pw_13054, pa_13055, pw_13055, pa_13056, pw_13056, pa_13057, pw_13057, pa_13058, pw_13058, pa_13059, pw_13059, pa_13060, pw_13060, pa_13061, pw_13061, pa_13062, pw_13062, pa_13063, pw_13063, pa_13064, pw_13064, pa_13065, pw_13065, pa_13066, pw_13066, pa_13067, pw_13067, ps_0, ps_1, ps_2, ps_3, ps_4, ps_11, ps_19, ps_30, ps_40, ps_41, ln_13005, ln_13006, ln_13007, ln_14008, ln_13009, ln_13010, ln_13012, ln_13013, ln_13014, ln_13015, ln_13016, ln_13017, ln_13018, ln_13020, ln_13021, ln_13022, ln_13023, ln_13024, ln_13025, ln_13026, ln_13027, ln_13028, ln_13029, ln_13031, ln_13032, ln_13033, ln_14034, ln_13035, ln_13036, ln_13037, ln_13038, ln_13039, ln_13042, ln_13043, ln_13044, ln_13045, ln_13046, ln_13047, ln_13048, ln_13049, ln_13050, ln_13051, ln_13052, ln_13053, ln_13054, ln_13055, ln_13056, ln_13057, ln_13058, ln_13059, ln_13060, ln_13061, ln_13062, ln_13063, ln_13064, ln_13065, ln_13066, ln_13067, gd_t, w_eq, mx, h1, m_refuse]
