/-! PURE PART, a17: one reads: the call -/
/-- what a read of the member o does -/
def RDO (N : Nd) (g o : Int) (N2 : Nd) (v : Int) : Prop :=
  (v = -1 ∧ N2 = N ∧ ¬ N 13051 (12 * g + o) < N 13049 (12 * g + o)) ∨
  (N 13051 (12 * g + o) < N 13049 (12 * g + o) ∧ ((bst N g o v ∧ N2 = dlN (up N 13059 (150 * g + v) 0) g o v (N 13061 (150 * g + v)) 1) ∨
  ((∀ x, ¬ cnd N g o x) ∧ ((v = -1 ∧ LKp g o N N2 ∧ ∀ p, p < 9 → own N2 g o p → 0 ≤ N2 13013 p → NLE N2 g p) ∨ ((0 ≤ v ∧ v < 150) ∧ DV g o N v N2)))))
section READC
variable {n : Int} {C : Cd} {N : Nd} {A : Ad}
theorem read_m {g o : Int} (hn9 : n < 10000000) (j : JJ n C N A) (h1 : 0 ≤ g ∧ g < (N 12000 41)) (h01 : 0 ≤ o ∧ o ≤ 11) (h02 : N 13047 (12 * g + o) = 1) : ∃ N2 v, RDO (up N 12000 0 0) g o N2 v ∧ N2 12000 0 = 0 ∧ ∀ C A, p_X11_read (mk C N A) 12000 g o = some (v, mk C N2 A) := by
  have G := j.jn.g
  have s4 := G.s.2.2.2.1
  have s5 := G.s.2.2.2.2.1
  have hi := fun C A => @m_isMember C (up N 12000 0 0) A g o j.z.s
  simp only [up_s, up_s, true_and, false_and, and_true, and_false, if_true, if_false, ↓reduceIte, ↓Option.bind_some, Int.reduceEq, Int.reduceNe, Int.reduceLT, Int.reduceLE, gd_true, gd_false, bind_b, q10, eq_self, reduceCtorEq, not_true_eq_false, not_false_eq_true, ne_eq] at hi
  have g3 : g < 3 := by omega
  have a := (j.gr h1.1 h1.2).1
  have o2 : o < 12 := by omega
  have jz : JJ n C (up N 12000 0 0) A := j.thrown
  have nmj := (a.nm o h01.1 o2).2.2 h02
  by_cases h2 : N 13051 (12 * g + o) < N 13049 (12 * g + o)
  · have nw := fun C'' A'' => m_gNextWaiting (j := o) jz.jn (jz.gr h1.1 h1.2).1 h1.1 g3 C'' A''
    by_cases ex : ∃ b, bst (up N 12000 0 0) g o b
    · obtain ⟨b, hb⟩ := ex
      have nw' : ∀ C'' A'', p_X11_gNextWaiting (mk C'' (up N 12000 0 0) A'') 12000 g o = some b := fun C'' A'' => by
        obtain ⟨x, x1, x2⟩ := nw C'' A''
        rcases x2 with ⟨rfl, x2⟩ | x2
        · exact absurd hb.1 (x2 b)
        · rw [bst_eq hb x2]; exact x1
      have hbm := hb.1.1
      have hbm2 : b < (N 12000 19) := hb.1.2.1
      obtain ⟨C1, C2, y1, y2, y3, y4, y5, y6⟩ := row_dlv (N0 := N) (m := b) jz h1.1 h1.2 h01.1 o2 h02 hb.1 h2 hn9
      refine ⟨_, b, Or.inr ⟨h2, Or.inl ⟨hb, rfl⟩⟩, ?_, fun C A => ?_⟩
      · rw [dn_ar (by decide) (by decide)]
        rfl
      · have nb : ¬ b = -1 := by omega
        have y3' : ∀ C'' A'', p_X11_gDelivers (mk C'' (up (up N 12000 0 0) 13059 (150 * g + b) 0) A'') 12000 g o b (N 13061 (150 * g + b)) 1 = some (mk C'' (dlN (up (up N 12000 0 0) 13059 (150 * g + b) 0) g o b (N 13061 (150 * g + b)) 1) A'') := y3
        unfold p_X11_read
        simp (disch := omega) only [aok, up_s, true_and, false_and, and_true, and_false, if_true, if_false, ↓reduceIte, ↓Option.bind_some, Int.reduceEq, Int.reduceNe, Int.reduceLT, Int.reduceLE, gd_true, gd_false, bind_b, q10, eq_self, reduceCtorEq, not_true_eq_false, not_false_eq_true, ne_eq, pt_0, pt_1, pt_2, pt_3, pt_4, pt_5, pt_6, pt_7, pt_8, pt_9, pt_10, pt_11, pt_12, pt_13, pt_14, pt_15, pt_16, pt_17, pt_18, pt_19, pt_20, pt_21, pt_22, pt_23, pt_24, pt_25, pt_26, pt_27, pt_28, pt_29, pt_30, pt_31, pt_32, pt_33, pt_34, pt_35, pt_36, pt_37, pt_38, pt_39, pt_40, pt_41, pt_42, pt_43, pt_44, pt_45, pt_46, pt_47, pt_48, pt_49, pt_50, pt_51, pt_52, pt_53, pt_54, pt_55, pt_56, pt_57, pt_58, pt_59, pt_60, pt_61, pt_62, pt_63, pt_64, pt_65, pt_66, pt_67, pa_13005, pw_13005, pa_13006, pw_13006, pa_13007, pw_13007, pa_14008, pw_14008, pa_13009, pw_13009, pa_13010, pw_13010, pa_13012, pw_13012, pa_13013, pw_13013, pa_13014, pw_13014, pa_13015, pw_13015, pa_13016, pw_13016, pa_13017, pw_13017, pa_13018, pw_13018, pa_13020, pw_13020, pa_13021, pw_13021, pa_13022, pw_13022, pa_13023, pw_13023, pa_13024, pw_13024, pa_13025, pw_13025, pa_13026, pw_13026, pa_13027, pw_13027, pa_13028, pw_13028, pa_13029, pw_13029, pa_13031, pw_13031, pa_13032, pw_13032, pa_13033, pw_13033, pa_14034, pw_14034, pa_13035, pw_13035, pa_13036, pw_13036, pa_13037, pw_13037, pa_13038, pw_13038, pa_13039, pw_13039, pa_13042, pw_13042, pa_13043, pw_13043, pa_13044, pw_13044, pa_13045, pw_13045, pa_13046, pw_13046, pa_13047, pw_13047, pa_13048, pw_13048, pa_13049, pw_13049, pa_13050, pw_13050, pa_13051, pw_13051, pa_13052, pw_13052, pa_13053, pw_13053, pa_13054, pw_13054, pa_13055, pw_13055, pa_13056, pw_13056, pa_13057, pw_13057, pa_13058, pw_13058, pa_13059, pw_13059, pa_13060, pw_13060, pa_13061, pw_13061, pa_13062, pw_13062, pa_13063, pw_13063, pa_13064, pw_13064, pa_13065, pw_13065, pa_13066, pw_13066, pa_13067, pw_13067, ps_0, ps_1, ps_2, ps_3, ps_4, ps_11, ps_19, ps_30, ps_40, ps_41, ln_13005, ln_13006, ln_13007, ln_14008, ln_13009, ln_13010, ln_13012, ln_13013, ln_13014, ln_13015, ln_13016, ln_13017, ln_13018, ln_13020, ln_13021, ln_13022, ln_13023, ln_13024, ln_13025, ln_13026, ln_13027, ln_13028, ln_13029, ln_13031, ln_13032, ln_13033, ln_14034, ln_13035, ln_13036, ln_13037, ln_13038, ln_13039, ln_13042, ln_13043, ln_13044, ln_13045, ln_13046, ln_13047, ln_13048, ln_13049, ln_13050, ln_13051, ln_13052, ln_13053, ln_13054, ln_13055, ln_13056, ln_13057, ln_13058, ln_13059, ln_13060, ln_13061, ln_13062, ln_13063, ln_13064, ln_13065, ln_13066, ln_13067, gd_t, w_eq, Sum.elim_inl, Sum.elim_inr, hi, h1, h01, h02, h2, nw', nb, y3']
    · have nw' : ∀ C'' A'', p_X11_gNextWaiting (mk C'' (up N 12000 0 0) A'') 12000 g o = some (-1) := fun C'' A'' => by
        obtain ⟨x, x1, x2⟩ := nw C'' A''
        rcases x2 with ⟨rfl, -⟩ | x2
        · exact x1
        · exact absurd ⟨x, x2⟩ ex
      have no : ∀ x, ¬ cnd (up N 12000 0 0) g o x := by
        obtain ⟨x, x1, x2⟩ := nw C A
        rcases x2 with ⟨-, x2⟩ | x2
        · exact x2
        · exact absurd ⟨x, x2⟩ ex
      obtain ⟨C1, N1, A1, sc, y⟩ := shLoop (N0 := N) (l := N 13050 (12 * g + o)) h1.1 h01.1 o2 (by omega) hn9 9 C (up N 12000 0 0) A 0 1000 jz h1.2 h02 h2 rfl (by omega) (by omega) (by omega)
      have z12 : N1 12000 0 = 0 := by rw [sc]; rfl
      rcases y with ⟨⟨y1, y1l, y1s⟩, y2, y3⟩ | ⟨m, m1, m2, dv, y1, y2, y3, y4, y5⟩
      · refine ⟨N1, -1, Or.inr ⟨h2, Or.inr ⟨no, Or.inl ⟨rfl, y1l, fun p p2 ow ld => ?_⟩⟩⟩, z12, fun C A => ?_⟩
        · have p1 := ow.1.1
          have lb := nmj.2.2.1
          have e : (N 13050 (12 * g + o) + 1 + (p - N 13050 (12 * g + o) - 1) % 9) % 9 = p := by omega
          have q := y1s ((p - N 13050 (12 * g + o) - 1) % 9) (by omega) (by omega)
          unfold SK at q
          rw [e] at q
          exact q ow ld
        · unfold p_X11_read
          simp (disch := omega) only [aok, up_s, true_and, false_and, and_true, and_false, if_true, if_false, ↓reduceIte, ↓Option.bind_some, Int.reduceEq, Int.reduceNe, Int.reduceLT, Int.reduceLE, gd_true, gd_false, bind_b, q10, eq_self, reduceCtorEq, not_true_eq_false, not_false_eq_true, ne_eq, pt_0, pt_1, pt_2, pt_3, pt_4, pt_5, pt_6, pt_7, pt_8, pt_9, pt_10, pt_11, pt_12, pt_13, pt_14, pt_15, pt_16, pt_17, pt_18, pt_19, pt_20, pt_21, pt_22, pt_23, pt_24, pt_25, pt_26, pt_27, pt_28, pt_29, pt_30, pt_31, pt_32, pt_33, pt_34, pt_35, pt_36, pt_37, pt_38, pt_39, pt_40, pt_41, pt_42, pt_43, pt_44, pt_45, pt_46, pt_47, pt_48, pt_49, pt_50, pt_51, pt_52, pt_53, pt_54, pt_55, pt_56, pt_57, pt_58, pt_59, pt_60, pt_61, pt_62, pt_63, pt_64, pt_65, pt_66, pt_67, pa_13005, pw_13005, pa_13006, pw_13006, pa_13007, pw_13007, pa_14008, pw_14008, pa_13009, pw_13009, pa_13010, pw_13010, pa_13012, pw_13012, pa_13013, pw_13013, pa_13014, pw_13014, pa_13015, pw_13015, pa_13016, pw_13016, pa_13017, pw_13017, pa_13018, pw_13018, pa_13020, pw_13020, pa_13021, pw_13021, pa_13022, pw_13022, pa_13023, pw_13023, pa_13024, pw_13024, pa_13025, pw_13025, pa_13026, pw_13026, pa_13027, pw_13027, pa_13028, pw_13028, pa_13029, pw_13029, pa_13031, pw_13031, pa_13032, pw_13032, pa_13033, pw_13033, pa_14034, pw_14034, pa_13035, pw_13035, pa_13036, pw_13036, pa_13037, pw_13037, pa_13038, pw_13038, pa_13039, pw_13039, pa_13042, pw_13042, pa_13043, pw_13043, pa_13044, pw_13044, pa_13045, pw_13045, pa_13046, pw_13046, pa_13047, pw_13047, pa_13048, pw_13048, pa_13049, pw_13049, pa_13050, pw_13050, pa_13051, pw_13051, pa_13052, pw_13052, pa_13053, pw_13053, pa_13054, pw_13054, pa_13055, pw_13055, pa_13056, pw_13056, pa_13057, pw_13057, pa_13058, pw_13058, pa_13059, pw_13059, pa_13060, pw_13060, pa_13061, pw_13061, pa_13062, pw_13062, pa_13063, pw_13063, pa_13064, pw_13064, pa_13065, pw_13065, pa_13066, pw_13066, pa_13067, pw_13067, ps_0, ps_1, ps_2, ps_3, ps_4, ps_11, ps_19, ps_30, ps_40, ps_41, ln_13005, ln_13006, ln_13007, ln_14008, ln_13009, ln_13010, ln_13012, ln_13013, ln_13014, ln_13015, ln_13016, ln_13017, ln_13018, ln_13020, ln_13021, ln_13022, ln_13023, ln_13024, ln_13025, ln_13026, ln_13027, ln_13028, ln_13029, ln_13031, ln_13032, ln_13033, ln_14034, ln_13035, ln_13036, ln_13037, ln_13038, ln_13039, ln_13042, ln_13043, ln_13044, ln_13045, ln_13046, ln_13047, ln_13048, ln_13049, ln_13050, ln_13051, ln_13052, ln_13053, ln_13054, ln_13055, ln_13056, ln_13057, ln_13058, ln_13059, ln_13060, ln_13061, ln_13062, ln_13063, ln_13064, ln_13065, ln_13066, ln_13067, gd_t, w_eq, Sum.elim_inl, Sum.elim_inr, hi, h1, h01, h02, h2, nw', y3]
      · refine ⟨N1, m, Or.inr ⟨h2, Or.inr ⟨no, Or.inr ⟨⟨m1, m2⟩, dv⟩⟩⟩, z12, fun C A => ?_⟩
        unfold p_X11_read
        simp (disch := omega) only [aok, up_s, true_and, false_and, and_true, and_false, if_true, if_false, ↓reduceIte, ↓Option.bind_some, Int.reduceEq, Int.reduceNe, Int.reduceLT, Int.reduceLE, gd_true, gd_false, bind_b, q10, eq_self, reduceCtorEq, not_true_eq_false, not_false_eq_true, ne_eq, pt_0, pt_1, pt_2, pt_3, pt_4, pt_5, pt_6, pt_7, pt_8, pt_9, pt_10, pt_11, pt_12, pt_13, pt_14, pt_15, pt_16, pt_17, pt_18, pt_19, pt_20, pt_21, pt_22, pt_23, pt_24, pt_25, pt_26, pt_27, pt_28, pt_29, pt_30, pt_31, pt_32, pt_33, pt_34, pt_35, pt_36, pt_37, pt_38, pt_39, pt_40, pt_41, pt_42, pt_43, pt_44, pt_45, pt_46, pt_47, pt_48, pt_49, pt_50, pt_51, pt_52, pt_53, pt_54, pt_55, pt_56, pt_57, pt_58, pt_59, pt_60, pt_61, pt_62, pt_63, pt_64, pt_65, pt_66, pt_67, pa_13005, pw_13005, pa_13006, pw_13006, pa_13007, pw_13007, pa_14008, pw_14008, pa_13009, pw_13009, pa_13010, pw_13010, pa_13012, pw_13012, pa_13013, pw_13013, pa_13014, pw_13014, pa_13015, pw_13015, pa_13016, pw_13016, pa_13017, pw_13017, pa_13018, pw_13018, pa_13020, pw_13020, pa_13021, pw_13021, pa_13022, pw_13022, pa_13023, pw_13023, pa_13024, pw_13024, pa_13025, pw_13025, pa_13026, pw_13026, pa_13027, pw_13027, pa_13028, pw_13028, pa_13029, pw_13029, pa_13031, pw_13031, pa_13032, pw_13032, pa_13033, pw_13033, pa_14034, pw_14034, pa_13035, pw_13035, pa_13036, pw_13036, pa_13037, pw_13037, pa_13038, pw_13038, pa_13039, pw_13039, pa_13042, pw_13042, pa_13043, pw_13043, pa_13044, pw_13044, pa_13045, pw_13045, pa_13046, pw_13046, pa_13047, pw_13047, pa_13048, pw_13048, pa_13049, pw_13049, pa_13050, pw_13050, pa_13051, pw_13051, pa_13052, pw_13052, pa_13053, pw_13053, pa_13054, pw_13054, pa_13055, pw_13055, pa_13056, pw_13056, pa_13057, pw_13057, pa_13058, pw_13058, pa_13059, pw_13059, pa_13060, pw_13060, pa_13061, pw_13061, pa_13062, pw_13062, pa_13063, pw_13063, pa_13064, pw_13064, pa_13065, pw_13065, pa_13066, pw_13066, pa_13067, pw_13067, ps_0, ps_1, ps_2, ps_3, ps_4, ps_11, ps_19, ps_30, ps_40, ps_41, ln_13005, ln_13006, ln_13007, ln_14008, ln_13009, ln_13010, ln_13012, ln_13013, ln_13014, ln_13015, ln_13016, ln_13017, ln_13018, ln_13020, ln_13021, ln_13022, ln_13023, ln_13024, ln_13025, ln_13026, ln_13027, ln_13028, ln_13029, ln_13031, ln_13032, ln_13033, ln_14034, ln_13035, ln_13036, ln_13037, ln_13038, ln_13039, ln_13042, ln_13043, ln_13044, ln_13045, ln_13046, ln_13047, ln_13048, ln_13049, ln_13050, ln_13051, ln_13052, ln_13053, ln_13054, ln_13055, ln_13056, ln_13057, ln_13058, ln_13059, ln_13060, ln_13061, ln_13062, ln_13063, ln_13064, ln_13065, ln_13066, ln_13067, gd_t, w_eq, Sum.elim_inl, Sum.elim_inr, hi, h1, h01, h02, h2, nw', y5]
  · refine ⟨up N 12000 0 0, -1, Or.inl ⟨rfl, rfl, h2⟩, rfl, fun C A => ?_⟩
    unfold p_X11_read
    simp (disch := omega) only [aok, up_s, true_and, false_and, and_true, and_false, if_true, if_false, ↓reduceIte, ↓Option.bind_some, Int.reduceEq, Int.reduceNe, Int.reduceLT, Int.reduceLE, gd_true, gd_false, bind_b, q10, eq_self, reduceCtorEq, not_true_eq_false, not_false_eq_true, ne_eq, pt_0, pt_1, pt_2, pt_3, pt_4, pt_5, pt_6, pt_7, pt_8, pt_9, pt_10, pt_11, pt_12, pt_13, pt_14, pt_15, pt_16, pt_17, pt_18, pt_19, pt_20, pt_21, pt_22, pt_23, pt_24, pt_25, pt_26, pt_27, pt_28, pt_29, pt_30, pt_31, pt_32, pt_33, pt_34, pt_35, pt_36, pt_37, pt_38, pt_39, pt_40, pt_41, pt_42, pt_43, pt_44, pt_45, pt_46, pt_47, pt_48, pt_49, pt_50, pt_51, pt_52, pt_53, pt_54, pt_55, pt_56, pt_57, pt_58, pt_59, pt_60, pt_61, pt_62, pt_63, pt_64, pt_65, pt_66, pt_67, pa_13005, pw_13005, pa_13006, pw_13006, pa_13007, pw_13007, pa_14008, pw_14008, pa_13009, pw_13009, pa_13010, pw_13010, pa_13012, pw_13012, pa_13013, pw_13013, pa_13014, pw_13014, pa_13015, pw_13015, pa_13016, pw_13016, pa_13017, pw_13017, pa_13018, pw_13018, pa_13020, pw_13020, pa_13021, pw_13021, pa_13022, pw_13022, pa_13023, pw_13023, pa_13024, pw_13024, pa_13025, pw_13025, pa_13026, pw_13026, pa_13027, pw_13027, pa_13028, pw_13028, pa_13029, pw_13029, pa_13031, pw_13031, pa_13032, pw_13032, pa_13033, pw_13033, pa_14034, pw_14034, pa_13035, pw_13035, pa_13036, pw_13036, pa_13037, pw_13037, pa_13038, pw_13038, pa_13039, pw_13039, pa_13042, pw_13042, pa_13043, pw_13043, pa_13044, pw_13044, pa_13045, pw_13045, pa_13046, pw_13046, pa_13047, pw_13047, pa_13048, pw_13048, pa_13049, pw_13049, pa_13050, pw_13050, pa_13051, pw_13051, pa_13052, pw_13052, pa_13053, pw_13053, pa_13054, pw_13054, pa_13055, pw_13055, pa_13056, pw_13056, pa_13057, pw_13057, pa_13058, pw_13058, pa_13059, pw_13059, pa_13060, pw_13060, pa_13061, pw_13061, pa_13062, pw_13062, pa_13063, pw_13063, pa_13064, pw_13064, pa_13065, pw_13065, pa_13066, pw_13066, pa_13067, pw_13067, ps_0, ps_1, ps_2, ps_3, ps_4, ps_11, ps_19, ps_30, ps_40, ps_41, ln_13005, ln_13006, ln_13007, ln_14008, ln_13009, ln_13010, ln_13012, ln_13013, ln_13014, ln_13015, ln_13016, ln_13017, ln_13018, ln_13020, ln_13021, ln_13022, ln_13023, ln_13024, ln_13025, ln_13026, ln_13027, ln_13028, ln_13029, ln_13031, ln_13032, ln_13033, ln_14034, ln_13035, ln_13036, ln_13037, ln_13038, ln_13039, ln_13042, ln_13043, ln_13044, ln_13045, ln_13046, ln_13047, ln_13048, ln_13049, ln_13050, ln_13051, ln_13052, ln_13053, ln_13054, ln_13055, ln_13056, ln_13057, ln_13058, ln_13059, ln_13060, ln_13061, ln_13062, ln_13063, ln_13064, ln_13065, ln_13066, ln_13067, gd_t, w_eq, hi, h1, h01, h02, h2]
theorem rd_call (hn9 : n < 10000000) (j : JJ n C N A) (g2 : 0 < (N 12000 41)) {g : Int} (hg : g = 0) (o : Int) : Ok (q_L_read (mk C N A) 11000 g o) (fun r => ∃ C2 A2 N2, r.2 = mk C2 N2 A2 ∧ JJ (n + 1) C2 N2 A2 ∧ ((((0 ≤ o ∧ o ≤ 11) ∧ N 13047 (12 * 0 + o) = 1) ∧ ∃ Nr, N2 = mg N Nr ∧ RDO (up N 12000 0 0) 0 o Nr r.1) ∨ (¬ ((0 ≤ o ∧ o ≤ 11) ∧ N 13047 (12 * 0 + o) = 1) ∧ N2 = N ∧ r.1 < 0))) := by
  have h1 : 0 ≤ g ∧ g < (N 12000 41) := by omega
  by_cases h0 : (0 ≤ o ∧ o ≤ 11) ∧ N 13047 (12 * g + o) = 1
  · obtain ⟨N2, v, r1, r2, r3⟩ := read_m hn9 j h1 h0.1 h0.2
    obtain ⟨z, C2, A2, c1, c2, -, c4⟩ := L_read hn9 j r3
    subst hg
    have ez := c2 r2
    subst ez
    exact ⟨_, c1, C2, A2, _, rfl, c4, Or.inl ⟨h0, N2, rfl, r1⟩⟩
  · have hi := fun C A => @m_isMember C (up N 12000 0 0) A g o j.z.s
    simp only [up_s, up_s, true_and, false_and, and_true, and_false, if_true, if_false, ↓reduceIte, ↓Option.bind_some, Int.reduceEq, Int.reduceNe, Int.reduceLT, Int.reduceLE, gd_true, gd_false, bind_b, q10, eq_self, reduceCtorEq, not_true_eq_false, not_false_eq_true, ne_eq] at hi
    have h0' : ¬ ((0 ≤ g ∧ g < (N 12000 41)) ∧ (0 ≤ o ∧ o ≤ 11) ∧ N 13047 (12 * g + o) = 1) := fun z => h0 z.2
    simp only [if_neg h0'] at hi
    obtain ⟨z, C2, A2, c1, -, c3, c4⟩ := L_read (N2 := up (up N 12000 0 0) 12000 0 1) (v2 := 0) hn9 j (g := g) (o := o) (fun C A => by
      unfold p_X11_read
      simp (disch := omega) only [aok, up_s, true_and, false_and, and_true, and_false, if_true, if_false, ↓reduceIte, ↓Option.bind_some, Int.reduceEq, Int.reduceNe, Int.reduceLT, Int.reduceLE, gd_true, gd_false, bind_b, q10, eq_self, reduceCtorEq, not_true_eq_false, not_false_eq_true, ne_eq, pt_0, pt_1, pt_2, pt_3, pt_4, pt_5, pt_6, pt_7, pt_8, pt_9, pt_10, pt_11, pt_12, pt_13, pt_14, pt_15, pt_16, pt_17, pt_18, pt_19, pt_20, pt_21, pt_22, pt_23, pt_24, pt_25, pt_26, pt_27, pt_28, pt_29, pt_30, pt_31, pt_32, pt_33, pt_34, pt_35, pt_36, pt_37, pt_38, pt_39, pt_40, pt_41, pt_42, pt_43, pt_44, pt_45, pt_46, pt_47, pt_48, pt_49, pt_50, pt_51, pt_52, pt_53, pt_54, pt_55, pt_56, pt_57, pt_58, pt_59, pt_60, pt_61, pt_62, pt_63, pt_64, pt_65, pt_66, pt_67, pa_13005, pw_13005, pa_13006, pw_13006, pa_13007, pw_13007, pa_14008, pw_14008, pa_13009, pw_13009, pa_13010, pw_13010, pa_13012, pw_13012, pa_13013, pw_13013, pa_13014, pw_13014, pa_13015, pw_13015, pa_13016, pw_13016, pa_13017, pw_13017, pa_13018, pw_13018, pa_13020, pw_13020, pa_13021, pw_13021, pa_13022, pw_13022, pa_13023, pw_13023, pa_13024, pw_13024, pa_13025, pw_13025, pa_13026, pw_13026, pa_13027, pw_13027, pa_13028, pw_13028, pa_13029, pw_13029, pa_13031, pw_13031, pa_13032, pw_13032, pa_13033, pw_13033, pa_14034, pw_14034, pa_13035, pw_13035, pa_13036, pw_13036, pa_13037, pw_13037, pa_13038, pw_13038, pa_13039, pw_13039, pa_13042, pw_13042, pa_13043, pw_13043, pa_13044, pw_13044, pa_13045, pw_13045, pa_13046, pw_13046, pa_13047, pw_13047, pa_13048, pw_13048, pa_13049, pw_13049, pa_13050, pw_13050, pa_13051, pw_13051, pa_13052, pw_13052, pa_13053, pw_13053, pa_13054, pw_13054, pa_13055, pw_13055, pa_13056, pw_13056, pa_13057, pw_13057, pa_13058, pw_13058, pa_13059, pw_13059, pa_13060, pw_13060, pa_13061, pw_13061, pa_13062, pw_13062, pa_13063, pw_13063, pa_13064, pw_13064, pa_13065, pw_13065, pa_13066, pw_13066, pa_13067, pw_13067, ps_0, ps_1, ps_2, ps_3, ps_4, ps_11, ps_19, ps_30, ps_40, ps_41, ln_13005, ln_13006, ln_13007, ln_14008, ln_13009, ln_13010, ln_13012, ln_13013, ln_13014, ln_13015, ln_13016, ln_13017, ln_13018, ln_13020, ln_13021, ln_13022, ln_13023, ln_13024, ln_13025, ln_13026, ln_13027, ln_13028, ln_13029, ln_13031, ln_13032, ln_13033, ln_14034, ln_13035, ln_13036, ln_13037, ln_13038, ln_13039, ln_13042, ln_13043, ln_13044, ln_13045, ln_13046, ln_13047, ln_13048, ln_13049, ln_13050, ln_13051, ln_13052, ln_13053, ln_13054, ln_13055, ln_13056, ln_13057, ln_13058, ln_13059, ln_13060, ln_13061, ln_13062, ln_13063, ln_13064, ln_13065, ln_13066, ln_13067, gd_t, w_eq, hi, m_refuse])
    rw [mg_th2] at c1 c4
    have z3 := c3 (by rw [up_s, if_pos ⟨rfl, rfl⟩]; decide)
    subst hg
    exact ⟨_, c1, C2, A2, N, rfl, c4, Or.inr ⟨h0, rfl, by show z < 0; omega⟩⟩
/-- what a read leaves, whatever it answers -/
theorem RDO.gre {o : Int} {N2 : Nd} {v : Int} (j : JJ n C N A) (w : WV N) (o1 : 0 ≤ o) (o2 : o < 12) (hi : N 13047 (12 * 0 + o) = 1) (r : RDO N 0 o N2 v) : GRE N N2 ∧ N2 13044 = N 13044 := by
  have G := j.jn.g
  have s5 := G.s.2.2.2.2.1
  have g2 := w.1.g
  have nm := ((j.gr (Int.le_refl 0) g2).1.nm o o1 o2).2.2 hi
  unfold hn at nm
  have lk : ∀ Nx, LKp 0 o N Nx → MG 0 N Nx ∧ (∀ b, b = 13042 ∨ b = 13064 ∨ b = 13044 ∨ b = 13051 → Nx b = N b) ∧ ∀ m, 0 ≤ m → m < 150 → wt Nx m = 1 → (wt N m = 1 ∧ du Nx m = du N m) ∨ (du Nx m ≤ (N 12000 1) + 4 ∧ (0 < sn N m ∨ N 13025 m = 0 ∨ N 13025 m = 2)) := fun Nx h => by
    refine ⟨h.1, fun b hb => h.2.1 b (by omega) (by omega) (by omega) (by omega), fun m m1 m2 hw' => ?_⟩
    rcases h.2.2.2.2 m m1 m2 hw' with z | ⟨⟨z1, z2, z3, z4, z5⟩, z6, -⟩
    · exact Or.inl ⟨z, (h.2.2.2.1 m m1 m2 z).2⟩
    · refine Or.inr ⟨?_, Or.inr z2.2.2⟩
      show Nx 13060 (150 * 0 + m) ≤ _
      omega
  rcases r with ⟨-, rfl, -⟩ | ⟨h2, ⟨hb, rfl⟩ | ⟨-, ⟨-, l, -⟩ | ⟨⟨v1, v2⟩, Nx, q, l, ow, ⟨c0, c1, c2, c3, c4⟩, rfl⟩⟩⟩
  · exact ⟨⟨MG.rf, rfl, fun m _ _ h => Or.inl ⟨h, rfl⟩, fun m _ _ h => Or.inl h⟩, rfl⟩
  · have hbm := hb.1
    have v1 := hbm.1
    have v2 : v < 150 := by have := hbm.2.1; omega
    have hd : 0 ≤ (up N 13059 (150 * 0 + v) 0) 13051 (12 * 0 + o) ∧ (up N 13059 (150 * 0 + v) 0) 13051 (12 * 0 + o) < 9 := by
      rw [up_s, if_neg (by omega)]
      omega
    refine ⟨⟨(MG.rf.up (by unfold inN; omega)).tr (MG.dl o1 o2 v1 v2 hd), ?_, fun m m1 m2 hw' => Or.inl ?_, fun m m1 m2 hs => ?_⟩, ?_⟩
    · rw [dn_ar (by decide) (by decide)]; rfl
    · unfold wt at hw' ⊢
      unfold du
      rw [dn_ar (by decide) (by decide), up_s] at hw'
      rw [dn_ar (by decide) (by decide), up_s, if_neg (by omega)]
      by_cases e : m = v
      · rw [if_pos ⟨rfl, by rw [e]⟩] at hw'
        exact absurd hw' (by decide)
      · rw [if_neg (by omega)] at hw'
        exact ⟨hw', rfl⟩
    · unfold sn at hs ⊢
      rw [dn_s] at hs
      by_cases e : m = v
      · rw [e]
        exact Or.inr (w.2.2.1 v v1 v2 (Or.inr hbm.2.2.1))
      · rw [if_neg e, up_s, if_neg (by omega)] at hs
        exact Or.inl hs
    · rw [dn_ar (by decide) (by decide)]; rfl
  · obtain ⟨k1, k2, k3⟩ := lk N2 l
    refine ⟨⟨k1, k2 _ (by decide), k3, fun m m1 m2 hs => Or.inl ?_⟩, k2 _ (by decide)⟩
    have e : N2 13064 = N 13064 := k2 _ (by decide)
    unfold sn at hs ⊢
    rw [e] at hs
    exact hs
  · obtain ⟨k1, k2, k3⟩ := lk Nx l
    have eh : Nx 13051 = N 13051 := k2 _ (by decide)
    have es : Nx 13064 = N 13064 := k2 _ (by decide)
    have p9 : q < 9 := by
      have a := ow.1.2.1
      have sc : Nx 12000 = N 12000 := k1.n0 (by decide)
      rw [sc] at a
      have := G.s.2.1
      omega
    have p1 := ow.1.1
    have hd : 0 ≤ (up (up Nx 13058 (9 * 0 + q) (Nx 13026 v + 1)) 13050 (12 * 0 + o) q) 13051 (12 * 0 + o) ∧ (up (up Nx 13058 (9 * 0 + q) (Nx 13026 v + 1)) 13050 (12 * 0 + o) q) 13051 (12 * 0 + o) < 9 := by
      rw [up_s, if_neg (by omega), up_s, if_neg (by omega), eh]
      omega
    refine ⟨⟨k1.tr (((MG.rf.up (by unfold inN; omega)).up (by unfold inN; omega)).tr (MG.dl o1 o2 v1 v2 hd)), ?_, fun m m1 m2 hw' => ?_, fun m m1 m2 hs => ?_⟩, ?_⟩
    · rw [dn_ar (by decide) (by decide)]
      exact k2 _ (by decide)
    · have e1 : dlN (up (up Nx 13058 (9 * 0 + q) (Nx 13026 v + 1)) 13050 (12 * 0 + o) q) 0 o v 0 0 13059 = Nx 13059 := by
        rw [dn_ar (by decide) (by decide)]; rfl
      have e2 : dlN (up (up Nx 13058 (9 * 0 + q) (Nx 13026 v + 1)) 13050 (12 * 0 + o) q) 0 o v 0 0 13060 = Nx 13060 := by
        rw [dn_ar (by decide) (by decide)]; rfl
      unfold wt at hw'
      rw [e1] at hw'
      have := k3 m m1 m2 hw'
      unfold du at this ⊢
      rw [e2]
      exact this
    · unfold sn at hs ⊢
      rw [dn_s] at hs
      by_cases e : m = v
      · rw [k1.can] at c1
        rw [e]
        exact Or.inr c1.2.2
      · rw [if_neg e, up_s, if_neg (by omega), up_s, if_neg (by omega), es] at hs
        exact Or.inl hs
    · rw [dn_ar (by decide) (by decide)]
      exact k2 _ (by decide)
/-- the message that a read delivers -/
theorem RDO.got {o : Int} {N2 : Nd} {v : Int} (hn9 : n < 10000000) (j : JJ n C N A) (w : WV N) (o1 : 0 ≤ o) (o2 : o < 12) (hi : N 13047 (12 * 0 + o) = 1) (r : RDO N 0 o N2 v) (hv : 0 ≤ v) : v < (N 12000 19) ∧ (N 13024 v = 1 ∨ N 13024 v = 3) ∧ (N 13025 v = 0 ∨ N 13025 v = 2) ∧ (sn N2 v = sn N v + 1 ∧ ∀ x, x ≠ v → sn N2 x = sn N x) ∧ (∀ a, 0 ≤ a → a < (N 12000 19) → 0 < sn N a → sn N v = 0 → N 13021 a = N 13021 v → N 13022 a = N 13022 v → N 13026 a < N 13026 v) := by
  have G := j.jn.g
  have s5 := G.s.2.2.2.2.1
  have g2 := w.1.g
  have gr := j.gr (Int.le_refl 0) g2
  have fs := fun m m1 m2 => j.zn.2.2 0 m (Int.le_refl 0) g2 m1 m2
  rcases r with ⟨e, -, -⟩ | ⟨h2, ⟨hb, rfl⟩ | ⟨-, ⟨e, -, -⟩ | ⟨⟨v1, v2⟩, Nx, q, l, ow, ⟨c0, c1, c2, c3, c4⟩, rfl⟩⟩⟩
  · omega
  · have hbm := hb.1
    have v2 : v < 150 := by have := hbm.2.1; omega
    have wv : wt N v = 1 := hbm.2.2.1
    have st := letter_st j g2 hv v2 (Or.inr wv)
    have fv := fs v hv v2
    unfold FS1 at fv
    refine ⟨hbm.2.1, ?_, w.2.2.1 v hv v2 (Or.inr wv), ⟨?_, fun x hx => ?_⟩, fun a a1 a2 a3 a4 a5 a6 => ?_⟩
    · exact st.2.elim Or.inr (fun z => Or.inl z.1)
    · show dlN (up N 13059 (150 * 0 + v) 0) 0 o v (N 13061 (150 * 0 + v)) 1 13064 (150 * 0 + v) = N 13064 (150 * 0 + v) + 1
      rw [dn_s, if_pos rfl, up_s, if_neg (by omega)]
      exact w_eq (by omega) (by omega)
    · show dlN (up N 13059 (150 * 0 + v) 0) 0 o v (N 13061 (150 * 0 + v)) 1 13064 (150 * 0 + x) = N 13064 (150 * 0 + x)
      rw [dn_s, if_neg hx, up_s, if_neg (by omega)]
    · have fa := fs a a1 (by omega)
      unfold FS1 at fa
      have fa' := fa.1.mpr a3
      have f0 := (gr.2.2.2.2.2.2 v hv v2).2.1
      have fz : Fdl C 0 v = 0 := by
        have q : ¬ 0 < Fdl C 0 v := fun z => by
          have := fv.1.mp z
          unfold sn at a4
          omega
        omega
      exact gr.2.2.2.1 a v a1 a2 hv hbm.2.1 wv fz fa' a5 a6
  · omega
  · have sc : Nx 12000 = N 12000 := l.1.n0 (by decide)
    have mp : Nx 13021 = N 13021 := l.1.n0 (by decide)
    have mo : Nx 13026 = N 13026 := l.1.n0 (by decide)
    have es : Nx 13064 = N 13064 := l.2.1 _ (by decide) (by decide) (by decide) (by decide)
    rw [sc] at c0
    rw [l.1.can] at c1
    rw [mp] at c2
    rw [mo] at c3
    have ow' := (l.ow q).mp ow
    have fv := fs v v1 v2
    unfold FS1 at fv
    refine ⟨c0, Or.inl c1.1, c1.2.2, ⟨?_, fun x hx => ?_⟩, fun a a1 a2 a3 a4 a5 a6 => ?_⟩
    · show dlN _ 0 o v 0 0 13064 (150 * 0 + v) = N 13064 (150 * 0 + v) + 1
      rw [dn_s, if_pos rfl, up_s, if_neg (by omega), up_s, if_neg (by omega), es]
      exact w_eq (by omega) (by omega)
    · show dlN _ 0 o v 0 0 13064 (150 * 0 + x) = N 13064 (150 * 0 + x)
      rw [dn_s, if_neg hx, up_s, if_neg (by omega), up_s, if_neg (by omega), es]
    · have fa := fs a a1 (by omega)
      unfold FS1 at fa
      have fa' := fa.1.mpr a3
      obtain ⟨x1, x2, x3, x4, x5, x6⟩ := gr.2
      have oneg : N 13055 (9 * 0 + q) ≠ -1 := by
        have := ow'.2
        omega
      have z := (x5 q ow'.1).2 oneg
      have ro := l.2.2.1 q
      by_cases y : N 13026 a < N 13026 v
      · exact y
      · have pd := x1 a v a1 a2 v1 c0 (Or.inl fa') c1 a5 (by rw [c2]; omega) (by omega)
        rcases pd with pd | pd
        · have := fv.1.mp pd
          unfold sn at a4
          omega
        · exact absurd (l.2.2.2.1 v v1 v2 pd).1 c4
end READC
