/-! PURE PART, a15: the group's calls, but reads and retries -/
theorem GRE.ws {N X : Nd} (m : MG 0 N X) (ht : X 13042 = N 13042) (hs : X 13064 = N 13064) (h : WS 0 N X) : GRE N X := by
  refine ⟨m, ht, fun i i1 i2 hw' => ?_, fun i i1 i2 h2 => Or.inl ?_⟩
  · rcases h i i1 i2 hw' with z | z
    · exact Or.inl z
    · refine Or.inr ⟨?_, Or.inl z.2⟩
      have := z.1
      show X 13060 (150 * 0 + i) ≤ _
      omega
  · unfold sn at h2 ⊢
    rw [hs] at h2
    exact h2
theorem WS.same {N X : Nd} {g : Int} (hw' : X 13059 = N 13059) (hd : X 13060 = N 13060) : WS g N X := fun m m1 m2 h => Or.inl (by
  rw [hw'] at h
  exact ⟨h, by rw [hd]⟩)
section GROUPC
variable {n : Int} {C : Cd} {N : Nd} {A : Ad}
theorem KW.gr {e : Option (Int × Mm)} {N2 : Nd} {v2 : Int} (l : LW n C N A) (h0 : N2 12000 0 = 0) (hv : -99 ≤ v2) (ge : GRE (up N 12000 0 0) N2) (es : N2 13064 = N 13064) (eh : N2 13044 0 ≤ 8) (h : CALL n N e N2 v2) : Ok e (KW (n + 1)) := by
  have w0 : WV (up N 12000 0 0) := l.2.1.1
  have mo : Mo (up N 12000 0 0) N2 := ge.1.mo
  exact KW.mo l h0 hv ⟨w0.gr ge, eh⟩ mo es h
theorem LW.g2 (l : LW n C N A) : 0 < (N 12000 41) := l.2.1.1.1.g
/-- one joins -/
theorem join_m {g : Int} (j : JJ n C N A) (h1 : 0 ≤ g ∧ g < (N 12000 41)) (h2 : N 13044 g < 12) (h3 : mcn N g < 4) : ∃ N2, MG g (up N 12000 0 0) N2 ∧ (∀ b, b = 13042 ∨ b = 13064 ∨ b = 13059 ∨ b = 13060 → N2 b = N b) ∧ N2 13044 g = N 13044 g + 1 ∧ mcn N2 g = mcn N g + 1 ∧ N2 12000 0 = 0 ∧ ∀ C A, p_X11_join (mk C N A) 12000 g = some (N 13044 g, mk C N2 A) := by
  have G := j.jn.g
  have s4 := G.s.2.2.2.1
  have s8 := G.s.2.2.2.2.2.2.2.1
  have hi := fun C A => @m_isGroup C (up N 12000 0 0) A g j.z.s
  simp only [up_s, up_s, true_and, false_and, and_true, and_false, if_true, if_false, ↓reduceIte, ↓Option.bind_some, Int.reduceEq, Int.reduceNe, Int.reduceLT, Int.reduceLE, gd_true, gd_false, bind_b, q10, eq_self, reduceCtorEq, not_true_eq_false, not_false_eq_true, ne_eq] at hi
  have g3 : g < 3 := by omega
  have h10 := h1.1
  have gr := j.gr h1.1 h1.2
  have a := gr.1
  have nh := a.nu.2.1
  have mm := fun C A => @m_gMembers C (up N 12000 0 0) A g a.nm h1.1 g3
  have mm' : ∀ C A, p_X11_gMembers (mk C (up N 12000 0 0) A) 12000 g = some (mcn N g) := mm
  have h2' : ¬ N 13044 g = 12 := by omega
  have h3' : ¬ mcn N g = 4 := by omega
  have jz : JJ n C (up N 12000 0 0) A := j.thrown
  have az := (jz.gr h1.1 h1.2)
  have km : MG g (up N 12000 0 0) (jnN (up N 12000 0 0) g (N 13044 g) ((N 12000 1)) (N 13043 g + 1)) := MG.jn nh.1 h2
  have gw : GAw (jnC C g (N 13044 g) ((N 12000 1)) (N 13043 g + 1)) (jnN (up N 12000 0 0) g (N 13044 g) ((N 12000 1)) (N 13043 g + 1)) g := az.1.join jz.jn.g nh.1 h2 rfl rfl rfl
  obtain ⟨C2, N2, cd, md, ga2, kc3, km3, ka3⟩ := deal (jz.jn.mg km) gw h1.1 g3 (fun p p2 r => join_t az.1 h1.1 p2 ((km.gr g p).mp r)) (fun p p1 p2 => by
    rw [nj_ar (b := 13056) (by decide) (by decide) (by decide) (by decide) (by decide) (by decide)]
    simp only [km.gr]
    exact (az.1.np p p1 p2).1.2.imp id (fun z => ⟨z.1, z.2.1, z.2.2.2⟩))
  have kn : MG g (up N 12000 0 0) N2 := km.tr km3
  have sc : N2 12000 = (up N 12000 0 0) 12000 := kn.n0 (by decide)
  have eH : ∀ i, N2 13044 i = if i = g then N 13044 g + 1 else (up N 12000 0 0) 13044 i := fun i => by rw [ka3 _ (by decide) (by decide) (by decide), nj_H]
  have eM : mcn N2 g = mcn N g + 1 := by
    have e := mcn_upd (N := up N 12000 0 0) (N' := N2) (g := g) (j := N 13044 g) (v := 1) nh.1 h2 (fun i _ _ => by rw [ka3 _ (by decide) (by decide) (by decide), nj_I])
    rw [e]
    have i0 : (up N 12000 0 0) 13047 (12 * g + N 13044 g) = 0 := ((az.1.nm _ nh.1 h2).2.1 (Int.le_refl _)).1
    rw [i0]
    show mcn N g + (1 - 0) = _
    omega
  have gb : 0 ≤ N 13043 g ∧ N 13043 g ≤ 24 := by
    have x := a.nu.2.2.1
    have y := @su_b (fun i => N 13047 (12 * g + i)) 0 12 1 (fun i i1 i2 => by have := (a.nm i i1 (by omega)).1; omega)
    have y' : mcn N g = su (fun i => N 13047 (12 * g + i)) 0 12 := rfl
    have z : mcn N g ≤ N 13044 g := by
      rw [y']
      have q : su (fun i => N 13047 (12 * g + i)) 0 12 ≤ su (fun i => if i < N 13044 g then 1 else 0) 0 12 := su_le fun i i1 i2 => by
        have w' := a.nm i i1 (by omega)
        by_cases e : i < N 13044 g
        · rw [if_pos e]; have := w'.1; omega
        · rw [if_neg e, (w'.2.1 (by omega)).1]
          exact Int.le_refl _
      have q2 : su (fun i => if i < N 13044 g then 1 else 0) 0 12 = N 13044 g := su_lt12 nh.1 nh.2
      omega
    omega
  refine ⟨N2, kn, fun b hb => ?_, by rw [eH, if_pos rfl], eM, by rw [sc]; rfl, fun C A => ?_⟩
  · have nb : N2 b = jnN (up N 12000 0 0) g (N 13044 g) ((N 12000 1)) (N 13043 g + 1) b := ka3 b (by omega) (by omega) (by omega)
    rw [nb, nj_ar (by omega) (by omega) (by omega) (by omega) (by omega) (by omega)]
    funext k
    rw [up_s, if_neg (by omega)]
  · have md' : ∀ C' A', p_X11_gDeals (mk C' (up (up (up (up (up (up (up N 12000 0 0) 13044 g (N 13044 g + 1)) 13047 (12 * g + N 13044 g) 1) 13048 (12 * g + N 13044 g) ((N 12000 1))) 13049 (12 * g + N 13044 g) 3) 13050 (12 * g + N 13044 g) (-1)) 13043 g (N 13043 g + 1)) A') 12000 g = some (mk C' N2 A') := md
    unfold p_X11_join
    simp (disch := omega) only [aok, up_s, true_and, false_and, and_true, and_false, if_true, if_false, ↓reduceIte, ↓Option.bind_some, Int.reduceEq, Int.reduceNe, Int.reduceLT, Int.reduceLE, gd_true, gd_false, bind_b, q10, eq_self, reduceCtorEq, not_true_eq_false, not_false_eq_true, ne_eq, pt_0, pt_1, pt_2, pt_3, pt_4, pt_5, pt_6, pt_7, pt_8, pt_9, pt_10, pt_11, pt_12, pt_13, pt_14, pt_15, pt_16, pt_17, pt_18, pt_19, pt_20, pt_21, pt_22, pt_23, pt_24, pt_25, pt_26, pt_27, pt_28, pt_29, pt_30, pt_31, pt_32, pt_33, pt_34, pt_35, pt_36, pt_37, pt_38, pt_39, pt_40, pt_41, pt_42, pt_43, pt_44, pt_45, pt_46, pt_47, pt_48, pt_49, pt_50, pt_51, pt_52, pt_53, pt_54, pt_55, pt_56, pt_57, pt_58, pt_59, pt_60, pt_61, pt_62, pt_63, pt_64, pt_65, pt_66, pt_67, pa_13005, pw_13005, pa_13006, pw_13006, pa_13007, pw_13007, pa_14008, pw_14008, pa_13009, pw_13009, pa_13010, pw_13010, pa_13012, pw_13012, pa_13013, pw_13013, pa_13014, pw_13014, pa_13015, pw_13015, pa_13016, pw_13016, pa_13017, pw_13017, pa_13018, pw_13018, pa_13020, pw_13020, pa_13021, pw_13021, pa_13022, pw_13022, pa_13023, pw_13023, pa_13024, pw_13024, pa_13025, pw_13025, pa_13026, pw_13026, pa_13027, pw_13027, pa_13028, pw_13028, pa_13029, pw_13029, pa_13031, pw_13031, pa_13032, pw_13032, pa_13033, pw_13033, pa_14034, pw_14034, pa_13035, pw_13035, pa_13036, pw_13036, pa_13037, pw_13037, pa_13038, pw_13038, pa_13039, pw_13039, pa_13042, pw_13042, pa_13043, pw_13043, pa_13044, pw_13044, pa_13045, pw_13045, pa_13046, pw_13046, pa_13047, pw_13047, pa_13048, pw_13048, pa_13049, pw_13049, pa_13050, pw_13050, pa_13051, pw_13051, pa_13052, pw_13052, pa_13053, pw_13053, pa_13054, pw_13054, pa_13055, pw_13055, pa_13056, pw_13056, pa_13057, pw_13057, pa_13058, pw_13058, pa_13059, pw_13059, pa_13060, pw_13060, pa_13061, pw_13061, pa_13062, pw_13062, pa_13063, pw_13063, pa_13064, pw_13064, pa_13065, pw_13065, pa_13066, pw_13066, pa_13067, pw_13067, ps_0, ps_1, ps_2, ps_3, ps_4, ps_11, ps_19, ps_30, ps_40, ps_41, ln_13005, ln_13006, ln_13007, ln_14008, ln_13009, ln_13010, ln_13012, ln_13013, ln_13014, ln_13015, ln_13016, ln_13017, ln_13018, ln_13020, ln_13021, ln_13022, ln_13023, ln_13024, ln_13025, ln_13026, ln_13027, ln_13028, ln_13029, ln_13031, ln_13032, ln_13033, ln_14034, ln_13035, ln_13036, ln_13037, ln_13038, ln_13039, ln_13042, ln_13043, ln_13044, ln_13045, ln_13046, ln_13047, ln_13048, ln_13049, ln_13050, ln_13051, ln_13052, ln_13053, ln_13054, ln_13055, ln_13056, ln_13057, ln_13058, ln_13059, ln_13060, ln_13061, ln_13062, ln_13063, ln_13064, ln_13065, ln_13066, ln_13067, gd_t, w_eq, hi, h1, mm', h3', h2', md']
theorem k_join (l : LW n C N A) {g : Int} (hg : g = 0) (h7 : N 13044 0 ≤ 7) : Ok (q_L_join (mk C N A) 11000 g) (KW (n + 1)) := by
  have j := l.1
  have g2 := l.g2
  have m4 := j.zn.2.1 0 (Int.le_refl 0) g2
  have hi := fun C A => @m_isGroup C (up N 12000 0 0) A g j.z.s
  simp only [up_s, up_s, true_and, false_and, and_true, and_false, if_true, if_false, ↓reduceIte, ↓Option.bind_some, Int.reduceEq, Int.reduceNe, Int.reduceLT, Int.reduceLE, gd_true, gd_false, bind_b, q10, eq_self, reduceCtorEq, not_true_eq_false, not_false_eq_true, ne_eq] at hi
  have h1 : 0 ≤ g ∧ g < (N 12000 41) := by omega
  have s4 := j.jn.g.s.2.2.2.1
  by_cases h3 : mcn N g < 4
  · obtain ⟨N2, m1, m2, m3, m5, m6, m7⟩ := join_m j h1 (by rw [hg]; omega) h3
    subst hg
    have nh := ((j.gr h1.1 h1.2).1.nu.2.1).1
    refine KW.gr (N2 := N2) (v2 := N 13044 0) l m6 (by omega) (GRE.ws m1 ((m2 _ (by decide)).trans rfl) ((m2 _ (by decide)).trans rfl) (WS.same ((m2 _ (by decide)).trans rfl) ((m2 _ (by decide)).trans rfl))) (m2 _ (by decide)) (by rw [m3]; omega) (L_join j m7)
  · have h3' : mcn N g = 4 := by rw [hg] at h3 ⊢; omega
    have mm := fun C A => @m_gMembers C (up N 12000 0 0) A g (j.gr h1.1 h1.2).1.nm h1.1 (by omega)
    have mm' : ∀ C A, p_X11_gMembers (mk C (up N 12000 0 0) A) 12000 g = some (mcn N g) := mm
    refine KW.ref (k := 2) (v2 := 0) l (by decide) (L_join j fun C A => ?_)
    unfold p_X11_join
    simp (disch := omega) only [aok, up_s, true_and, false_and, and_true, and_false, if_true, if_false, ↓reduceIte, ↓Option.bind_some, Int.reduceEq, Int.reduceNe, Int.reduceLT, Int.reduceLE, gd_true, gd_false, bind_b, q10, eq_self, reduceCtorEq, not_true_eq_false, not_false_eq_true, ne_eq, pt_0, pt_1, pt_2, pt_3, pt_4, pt_5, pt_6, pt_7, pt_8, pt_9, pt_10, pt_11, pt_12, pt_13, pt_14, pt_15, pt_16, pt_17, pt_18, pt_19, pt_20, pt_21, pt_22, pt_23, pt_24, pt_25, pt_26, pt_27, pt_28, pt_29, pt_30, pt_31, pt_32, pt_33, pt_34, pt_35, pt_36, pt_37, pt_38, pt_39, pt_40, pt_41, pt_42, pt_43, pt_44, pt_45, pt_46, pt_47, pt_48, pt_49, pt_50, pt_51, pt_52, pt_53, pt_54, pt_55, pt_56, pt_57, pt_58, pt_59, pt_60, pt_61, pt_62, pt_63, pt_64, pt_65, pt_66, pt_67, pa_13005, pw_13005, pa_13006, pw_13006, pa_13007, pw_13007, pa_14008, pw_14008, pa_13009, pw_13009, pa_13010, pw_13010, pa_13012, pw_13012, pa_13013, pw_13013, pa_13014, pw_13014, pa_13015, pw_13015, pa_13016, pw_13016, pa_13017, pw_13017, pa_13018, pw_13018, pa_13020, pw_13020, pa_13021, pw_13021, pa_13022, pw_13022, pa_13023, pw_13023, pa_13024, pw_13024, pa_13025, pw_13025, pa_13026, pw_13026, pa_13027, pw_13027, pa_13028, pw_13028, pa_13029, pw_13029, pa_13031, pw_13031, pa_13032, pw_13032, pa_13033, pw_13033, pa_14034, pw_14034, pa_13035, pw_13035, pa_13036, pw_13036, pa_13037, pw_13037, pa_13038, pw_13038, pa_13039, pw_13039, pa_13042, pw_13042, pa_13043, pw_13043, pa_13044, pw_13044, pa_13045, pw_13045, pa_13046, pw_13046, pa_13047, pw_13047, pa_13048, pw_13048, pa_13049, pw_13049, pa_13050, pw_13050, pa_13051, pw_13051, pa_13052, pw_13052, pa_13053, pw_13053, pa_13054, pw_13054, pa_13055, pw_13055, pa_13056, pw_13056, pa_13057, pw_13057, pa_13058, pw_13058, pa_13059, pw_13059, pa_13060, pw_13060, pa_13061, pw_13061, pa_13062, pw_13062, pa_13063, pw_13063, pa_13064, pw_13064, pa_13065, pw_13065, pa_13066, pw_13066, pa_13067, pw_13067, ps_0, ps_1, ps_2, ps_3, ps_4, ps_11, ps_19, ps_30, ps_40, ps_41, ln_13005, ln_13006, ln_13007, ln_14008, ln_13009, ln_13010, ln_13012, ln_13013, ln_13014, ln_13015, ln_13016, ln_13017, ln_13018, ln_13020, ln_13021, ln_13022, ln_13023, ln_13024, ln_13025, ln_13026, ln_13027, ln_13028, ln_13029, ln_13031, ln_13032, ln_13033, ln_14034, ln_13035, ln_13036, ln_13037, ln_13038, ln_13039, ln_13042, ln_13043, ln_13044, ln_13045, ln_13046, ln_13047, ln_13048, ln_13049, ln_13050, ln_13051, ln_13052, ln_13053, ln_13054, ln_13055, ln_13056, ln_13057, ln_13058, ln_13059, ln_13060, ln_13061, ln_13062, ln_13063, ln_13064, ln_13065, ln_13066, ln_13067, gd_t, w_eq, hi, h1, mm', h3', m_refuse]
theorem k_leave (l : LW n C N A) {g : Int} (hg : g = 0) (o : Int) : Ok (q_L_leave (mk C N A) 11000 g o) (KW (n + 1)) := by
  have j := l.1
  have g2 := l.g2
  have h1 : 0 ≤ g ∧ g < (N 12000 41) := by omega
  have hi := fun C A => @m_isMember C (up N 12000 0 0) A g o j.z.s
  simp only [up_s, up_s, true_and, false_and, and_true, and_false, if_true, if_false, ↓reduceIte, ↓Option.bind_some, Int.reduceEq, Int.reduceNe, Int.reduceLT, Int.reduceLE, gd_true, gd_false, bind_b, q10, eq_self, reduceCtorEq, not_true_eq_false, not_false_eq_true, ne_eq] at hi
  have jz : JJ n C (up N 12000 0 0) A := j.thrown
  by_cases h0 : (0 ≤ o ∧ o ≤ 11) ∧ N 13047 (12 * g + o) = 1
  · have h01 := h0.1; have h02 := h0.2
    have o2 : o < 12 := by omega
    obtain ⟨C2, N2, s, r1, r2, j2, kc, kn, ws, ka⟩ := goes (N0 := N) jz h1.1 h1.2 h01.1 o2 h02
    have sc : N2 12000 = (up N 12000 0 0) 12000 := kn.n0 (by decide)
    have ar : ∀ b, b = 13042 ∨ b = 13064 ∨ b = 13044 → N2 b = N b := fun b hb => by
      rw [ka b (by omega) (by omega) (by omega) (by omega) (by omega) (by omega) (by omega) (by omega)]
      funext k
      rw [up_s, if_neg (by omega)]
    have hm : ∀ C A, p_X11_leave (mk C N A) 12000 g o = some (s, mk C N2 A) := fun C A => by
      unfold p_X11_leave
      simp (disch := omega) only [aok, up_s, true_and, false_and, and_true, and_false, if_true, if_false, ↓reduceIte, ↓Option.bind_some, Int.reduceEq, Int.reduceNe, Int.reduceLT, Int.reduceLE, gd_true, gd_false, bind_b, q10, eq_self, reduceCtorEq, not_true_eq_false, not_false_eq_true, ne_eq, pt_0, pt_1, pt_2, pt_3, pt_4, pt_5, pt_6, pt_7, pt_8, pt_9, pt_10, pt_11, pt_12, pt_13, pt_14, pt_15, pt_16, pt_17, pt_18, pt_19, pt_20, pt_21, pt_22, pt_23, pt_24, pt_25, pt_26, pt_27, pt_28, pt_29, pt_30, pt_31, pt_32, pt_33, pt_34, pt_35, pt_36, pt_37, pt_38, pt_39, pt_40, pt_41, pt_42, pt_43, pt_44, pt_45, pt_46, pt_47, pt_48, pt_49, pt_50, pt_51, pt_52, pt_53, pt_54, pt_55, pt_56, pt_57, pt_58, pt_59, pt_60, pt_61, pt_62, pt_63, pt_64, pt_65, pt_66, pt_67, pa_13005, pw_13005, pa_13006, pw_13006, pa_13007, pw_13007, pa_14008, pw_14008, pa_13009, pw_13009, pa_13010, pw_13010, pa_13012, pw_13012, pa_13013, pw_13013, pa_13014, pw_13014, pa_13015, pw_13015, pa_13016, pw_13016, pa_13017, pw_13017, pa_13018, pw_13018, pa_13020, pw_13020, pa_13021, pw_13021, pa_13022, pw_13022, pa_13023, pw_13023, pa_13024, pw_13024, pa_13025, pw_13025, pa_13026, pw_13026, pa_13027, pw_13027, pa_13028, pw_13028, pa_13029, pw_13029, pa_13031, pw_13031, pa_13032, pw_13032, pa_13033, pw_13033, pa_14034, pw_14034, pa_13035, pw_13035, pa_13036, pw_13036, pa_13037, pw_13037, pa_13038, pw_13038, pa_13039, pw_13039, pa_13042, pw_13042, pa_13043, pw_13043, pa_13044, pw_13044, pa_13045, pw_13045, pa_13046, pw_13046, pa_13047, pw_13047, pa_13048, pw_13048, pa_13049, pw_13049, pa_13050, pw_13050, pa_13051, pw_13051, pa_13052, pw_13052, pa_13053, pw_13053, pa_13054, pw_13054, pa_13055, pw_13055, pa_13056, pw_13056, pa_13057, pw_13057, pa_13058, pw_13058, pa_13059, pw_13059, pa_13060, pw_13060, pa_13061, pw_13061, pa_13062, pw_13062, pa_13063, pw_13063, pa_13064, pw_13064, pa_13065, pw_13065, pa_13066, pw_13066, pa_13067, pw_13067, ps_0, ps_1, ps_2, ps_3, ps_4, ps_11, ps_19, ps_30, ps_40, ps_41, ln_13005, ln_13006, ln_13007, ln_14008, ln_13009, ln_13010, ln_13012, ln_13013, ln_13014, ln_13015, ln_13016, ln_13017, ln_13018, ln_13020, ln_13021, ln_13022, ln_13023, ln_13024, ln_13025, ln_13026, ln_13027, ln_13028, ln_13029, ln_13031, ln_13032, ln_13033, ln_14034, ln_13035, ln_13036, ln_13037, ln_13038, ln_13039, ln_13042, ln_13043, ln_13044, ln_13045, ln_13046, ln_13047, ln_13048, ln_13049, ln_13050, ln_13051, ln_13052, ln_13053, ln_13054, ln_13055, ln_13056, ln_13057, ln_13058, ln_13059, ln_13060, ln_13061, ln_13062, ln_13063, ln_13064, ln_13065, ln_13066, ln_13067, gd_t, w_eq, hi, h1, h01, h02, r2]
    subst hg
    exact KW.gr (N2 := N2) (v2 := s) l (by rw [sc]; rfl) (by have := ws.2; omega) (GRE.ws kn ((ar _ (by decide)).trans rfl) ((ar _ (by decide)).trans rfl) ws.1) (ar _ (by decide)) (by rw [ar 13044 (by decide)]; exact l.2.1.2) (L_leave j hm)
  · have h0' : ¬ ((0 ≤ g ∧ g < (N 12000 41)) ∧ (0 ≤ o ∧ o ≤ 11) ∧ N 13047 (12 * g + o) = 1) := fun z => h0 z.2
    simp only [if_neg h0'] at hi
    refine KW.ref (k := 1) (v2 := 0) l (by decide) (L_leave j fun C A => ?_)
    unfold p_X11_leave
    simp (disch := omega) only [aok, up_s, true_and, false_and, and_true, and_false, if_true, if_false, ↓reduceIte, ↓Option.bind_some, Int.reduceEq, Int.reduceNe, Int.reduceLT, Int.reduceLE, gd_true, gd_false, bind_b, q10, eq_self, reduceCtorEq, not_true_eq_false, not_false_eq_true, ne_eq, pt_0, pt_1, pt_2, pt_3, pt_4, pt_5, pt_6, pt_7, pt_8, pt_9, pt_10, pt_11, pt_12, pt_13, pt_14, pt_15, pt_16, pt_17, pt_18, pt_19, pt_20, pt_21, pt_22, pt_23, pt_24, pt_25, pt_26, pt_27, pt_28, pt_29, pt_30, pt_31, pt_32, pt_33, pt_34, pt_35, pt_36, pt_37, pt_38, pt_39, pt_40, pt_41, pt_42, pt_43, pt_44, pt_45, pt_46, pt_47, pt_48, pt_49, pt_50, pt_51, pt_52, pt_53, pt_54, pt_55, pt_56, pt_57, pt_58, pt_59, pt_60, pt_61, pt_62, pt_63, pt_64, pt_65, pt_66, pt_67, pa_13005, pw_13005, pa_13006, pw_13006, pa_13007, pw_13007, pa_14008, pw_14008, pa_13009, pw_13009, pa_13010, pw_13010, pa_13012, pw_13012, pa_13013, pw_13013, pa_13014, pw_13014, pa_13015, pw_13015, pa_13016, pw_13016, pa_13017, pw_13017, pa_13018, pw_13018, pa_13020, pw_13020, pa_13021, pw_13021, pa_13022, pw_13022, pa_13023, pw_13023, pa_13024, pw_13024, pa_13025, pw_13025, pa_13026, pw_13026, pa_13027, pw_13027, pa_13028, pw_13028, pa_13029, pw_13029, pa_13031, pw_13031, pa_13032, pw_13032, pa_13033, pw_13033, pa_14034, pw_14034, pa_13035, pw_13035, pa_13036, pw_13036, pa_13037, pw_13037, pa_13038, pw_13038, pa_13039, pw_13039, pa_13042, pw_13042, pa_13043, pw_13043, pa_13044, pw_13044, pa_13045, pw_13045, pa_13046, pw_13046, pa_13047, pw_13047, pa_13048, pw_13048, pa_13049, pw_13049, pa_13050, pw_13050, pa_13051, pw_13051, pa_13052, pw_13052, pa_13053, pw_13053, pa_13054, pw_13054, pa_13055, pw_13055, pa_13056, pw_13056, pa_13057, pw_13057, pa_13058, pw_13058, pa_13059, pw_13059, pa_13060, pw_13060, pa_13061, pw_13061, pa_13062, pw_13062, pa_13063, pw_13063, pa_13064, pw_13064, pa_13065, pw_13065, pa_13066, pw_13066, pa_13067, pw_13067, ps_0, ps_1, ps_2, ps_3, ps_4, ps_11, ps_19, ps_30, ps_40, ps_41, ln_13005, ln_13006, ln_13007, ln_14008, ln_13009, ln_13010, ln_13012, ln_13013, ln_13014, ln_13015, ln_13016, ln_13017, ln_13018, ln_13020, ln_13021, ln_13022, ln_13023, ln_13024, ln_13025, ln_13026, ln_13027, ln_13028, ln_13029, ln_13031, ln_13032, ln_13033, ln_14034, ln_13035, ln_13036, ln_13037, ln_13038, ln_13039, ln_13042, ln_13043, ln_13044, ln_13045, ln_13046, ln_13047, ln_13048, ln_13049, ln_13050, ln_13051, ln_13052, ln_13053, ln_13054, ln_13055, ln_13056, ln_13057, ln_13058, ln_13059, ln_13060, ln_13061, ln_13062, ln_13063, ln_13064, ln_13065, ln_13066, ln_13067, gd_t, w_eq, hi, m_refuse]
theorem k_commitOffsets (l : LW n C N A) {g : Int} (hg : g = 0) (o : Int) : Ok (q_L_commitOffsets (mk C N A) 11000 g o) (KW (n + 1)) := by
  have j := l.1
  have g2 := l.g2
  have s4 := j.jn.g.s.2.2.2.1
  have h1 : 0 ≤ g ∧ g < (N 12000 41) := by omega
  have g3 : g < 3 := by omega
  have hi := fun C A => @m_isMember C (up N 12000 0 0) A g o j.z.s
  simp only [up_s, up_s, true_and, false_and, and_true, and_false, if_true, if_false, ↓reduceIte, ↓Option.bind_some, Int.reduceEq, Int.reduceNe, Int.reduceLT, Int.reduceLE, gd_true, gd_false, bind_b, q10, eq_self, reduceCtorEq, not_true_eq_false, not_false_eq_true, ne_eq] at hi
  have jz : JJ n C (up N 12000 0 0) A := j.thrown
  by_cases h0 : (0 ≤ o ∧ o ≤ 11) ∧ N 13047 (12 * g + o) = 1
  · have h01 := h0.1; have h02 := h0.2
    have o2 : o < 12 := by omega
    have ml := @m_coLoop C (up N 12000 0 0) g o jz.jn (jz.gr h1.1 h1.2).1 h1.1 g3 h01.1 o2 h02
    have hm : ∀ C A, p_X11_commitOffsets (mk C N A) 12000 g o = some (coK N g o 9, mk C (coI (up N 12000 0 0) g o 9) A) := fun C A => by
      unfold p_X11_commitOffsets
      simp (disch := omega) only [aok, up_s, true_and, false_and, and_true, and_false, if_true, if_false, ↓reduceIte, ↓Option.bind_some, Int.reduceEq, Int.reduceNe, Int.reduceLT, Int.reduceLE, gd_true, gd_false, bind_b, q10, eq_self, reduceCtorEq, not_true_eq_false, not_false_eq_true, ne_eq, pt_0, pt_1, pt_2, pt_3, pt_4, pt_5, pt_6, pt_7, pt_8, pt_9, pt_10, pt_11, pt_12, pt_13, pt_14, pt_15, pt_16, pt_17, pt_18, pt_19, pt_20, pt_21, pt_22, pt_23, pt_24, pt_25, pt_26, pt_27, pt_28, pt_29, pt_30, pt_31, pt_32, pt_33, pt_34, pt_35, pt_36, pt_37, pt_38, pt_39, pt_40, pt_41, pt_42, pt_43, pt_44, pt_45, pt_46, pt_47, pt_48, pt_49, pt_50, pt_51, pt_52, pt_53, pt_54, pt_55, pt_56, pt_57, pt_58, pt_59, pt_60, pt_61, pt_62, pt_63, pt_64, pt_65, pt_66, pt_67, pa_13005, pw_13005, pa_13006, pw_13006, pa_13007, pw_13007, pa_14008, pw_14008, pa_13009, pw_13009, pa_13010, pw_13010, pa_13012, pw_13012, pa_13013, pw_13013, pa_13014, pw_13014, pa_13015, pw_13015, pa_13016, pw_13016, pa_13017, pw_13017, pa_13018, pw_13018, pa_13020, pw_13020, pa_13021, pw_13021, pa_13022, pw_13022, pa_13023, pw_13023, pa_13024, pw_13024, pa_13025, pw_13025, pa_13026, pw_13026, pa_13027, pw_13027, pa_13028, pw_13028, pa_13029, pw_13029, pa_13031, pw_13031, pa_13032, pw_13032, pa_13033, pw_13033, pa_14034, pw_14034, pa_13035, pw_13035, pa_13036, pw_13036, pa_13037, pw_13037, pa_13038, pw_13038, pa_13039, pw_13039, pa_13042, pw_13042, pa_13043, pw_13043, pa_13044, pw_13044, pa_13045, pw_13045, pa_13046, pw_13046, pa_13047, pw_13047, pa_13048, pw_13048, pa_13049, pw_13049, pa_13050, pw_13050, pa_13051, pw_13051, pa_13052, pw_13052, pa_13053, pw_13053, pa_13054, pw_13054, pa_13055, pw_13055, pa_13056, pw_13056, pa_13057, pw_13057, pa_13058, pw_13058, pa_13059, pw_13059, pa_13060, pw_13060, pa_13061, pw_13061, pa_13062, pw_13062, pa_13063, pw_13063, pa_13064, pw_13064, pa_13065, pw_13065, pa_13066, pw_13066, pa_13067, pw_13067, ps_0, ps_1, ps_2, ps_3, ps_4, ps_11, ps_19, ps_30, ps_40, ps_41, ln_13005, ln_13006, ln_13007, ln_14008, ln_13009, ln_13010, ln_13012, ln_13013, ln_13014, ln_13015, ln_13016, ln_13017, ln_13018, ln_13020, ln_13021, ln_13022, ln_13023, ln_13024, ln_13025, ln_13026, ln_13027, ln_13028, ln_13029, ln_13031, ln_13032, ln_13033, ln_14034, ln_13035, ln_13036, ln_13037, ln_13038, ln_13039, ln_13042, ln_13043, ln_13044, ln_13045, ln_13046, ln_13047, ln_13048, ln_13049, ln_13050, ln_13051, ln_13052, ln_13053, ln_13054, ln_13055, ln_13056, ln_13057, ln_13058, ln_13059, ln_13060, ln_13061, ln_13062, ln_13063, ln_13064, ln_13065, ln_13066, ln_13067, gd_t, w_eq, hi, h1, h01, h02, ml]
      rfl
    have kb : 0 ≤ coK N g o 9 := by
      unfold coK
      exact (su_b (b := 1) (fun i _ _ => by split <;> omega)).1
    have ar : ∀ b, b ≠ 13057 → coI (up N 12000 0 0) g o 9 b = (up N 12000 0 0) b := fun b hb => by
      funext k
      unfold coI
      rw [if_neg (fun z => hb z.1)]
    have mg := MG.co (N := up N 12000 0 0) (g := g) (j := o) (i := 9) h1.1 (by omega)
    subst hg
    exact KW.gr (N2 := coI (up N 12000 0 0) 0 o 9) (v2 := coK N 0 o 9) l (by rw [ar 12000 (by decide)]; rfl) (by omega) (GRE.ws mg (ar _ (by decide)) (ar _ (by decide)) (WS.same (ar _ (by decide)) (ar _ (by decide)))) ((ar _ (by decide)).trans rfl) (by rw [ar 13044 (by decide)]; exact l.2.1.2) (L_commitOffsets j hm)
  · have h0' : ¬ ((0 ≤ g ∧ g < (N 12000 41)) ∧ (0 ≤ o ∧ o ≤ 11) ∧ N 13047 (12 * g + o) = 1) := fun z => h0 z.2
    simp only [if_neg h0'] at hi
    refine KW.ref (k := 1) (v2 := 0) l (by decide) (L_commitOffsets j fun C A => ?_)
    unfold p_X11_commitOffsets
    simp (disch := omega) only [aok, up_s, true_and, false_and, and_true, and_false, if_true, if_false, ↓reduceIte, ↓Option.bind_some, Int.reduceEq, Int.reduceNe, Int.reduceLT, Int.reduceLE, gd_true, gd_false, bind_b, q10, eq_self, reduceCtorEq, not_true_eq_false, not_false_eq_true, ne_eq, pt_0, pt_1, pt_2, pt_3, pt_4, pt_5, pt_6, pt_7, pt_8, pt_9, pt_10, pt_11, pt_12, pt_13, pt_14, pt_15, pt_16, pt_17, pt_18, pt_19, pt_20, pt_21, pt_22, pt_23, pt_24, pt_25, pt_26, pt_27, pt_28, pt_29, pt_30, pt_31, pt_32, pt_33, pt_34, pt_35, pt_36, pt_37, pt_38, pt_39, pt_40, pt_41, pt_42, pt_43, pt_44, pt_45, pt_46, pt_47, pt_48, pt_49, pt_50, pt_51, pt_52, pt_53, pt_54, pt_55, pt_56, pt_57, pt_58, pt_59, pt_60, pt_61, pt_62, pt_63, pt_64, pt_65, pt_66, pt_67, pa_13005, pw_13005, pa_13006, pw_13006, pa_13007, pw_13007, pa_14008, pw_14008, pa_13009, pw_13009, pa_13010, pw_13010, pa_13012, pw_13012, pa_13013, pw_13013, pa_13014, pw_13014, pa_13015, pw_13015, pa_13016, pw_13016, pa_13017, pw_13017, pa_13018, pw_13018, pa_13020, pw_13020, pa_13021, pw_13021, pa_13022, pw_13022, pa_13023, pw_13023, pa_13024, pw_13024, pa_13025, pw_13025, pa_13026, pw_13026, pa_13027, pw_13027, pa_13028, pw_13028, pa_13029, pw_13029, pa_13031, pw_13031, pa_13032, pw_13032, pa_13033, pw_13033, pa_14034, pw_14034, pa_13035, pw_13035, pa_13036, pw_13036, pa_13037, pw_13037, pa_13038, pw_13038, pa_13039, pw_13039, pa_13042, pw_13042, pa_13043, pw_13043, pa_13044, pw_13044, pa_13045, pw_13045, pa_13046, pw_13046, pa_13047, pw_13047, pa_13048, pw_13048, pa_13049, pw_13049, pa_13050, pw_13050, pa_13051, pw_13051, pa_13052, pw_13052, pa_13053, pw_13053, pa_13054, pw_13054, pa_13055, pw_13055, pa_13056, pw_13056, pa_13057, pw_13057, pa_13058, pw_13058, pa_13059, pw_13059, pa_13060, pw_13060, pa_13061, pw_13061, pa_13062, pw_13062, pa_13063, pw_13063, pa_13064, pw_13064, pa_13065, pw_13065, pa_13066, pw_13066, pa_13067, pw_13067, ps_0, ps_1, ps_2, ps_3, ps_4, ps_11, ps_19, ps_30, ps_40, ps_41, ln_13005, ln_13006, ln_13007, ln_14008, ln_13009, ln_13010, ln_13012, ln_13013, ln_13014, ln_13015, ln_13016, ln_13017, ln_13018, ln_13020, ln_13021, ln_13022, ln_13023, ln_13024, ln_13025, ln_13026, ln_13027, ln_13028, ln_13029, ln_13031, ln_13032, ln_13033, ln_14034, ln_13035, ln_13036, ln_13037, ln_13038, ln_13039, ln_13042, ln_13043, ln_13044, ln_13045, ln_13046, ln_13047, ln_13048, ln_13049, ln_13050, ln_13051, ln_13052, ln_13053, ln_13054, ln_13055, ln_13056, ln_13057, ln_13058, ln_13059, ln_13060, ln_13061, ln_13062, ln_13063, ln_13064, ln_13065, ln_13066, ln_13067, gd_t, w_eq, hi, m_refuse]
/-- a message is through with: the model's side -/
theorem done_m {g o m : Int} (j : JJ n C N A) (h1 : 0 ≤ g ∧ g < (N 12000 41)) (h01 : 0 ≤ o ∧ o ≤ 11) (h02 : N 13047 (12 * g + o) = 1) (h2 : hpl N g o m < hn N g o) : ∀ C A, p_X11_done (mk C N A) 12000 g o m = some (hn N g o - 1, mk C (ooN (up N 12000 0 0) g o (hpl N g o m)) A) := fun C' A' => by
  have G := j.jn.g
  have s4 := G.s.2.2.2.1
  have hi := fun C A => @m_isMember C (up N 12000 0 0) A g o j.z.s
  simp only [up_s, up_s, true_and, false_and, and_true, and_false, if_true, if_false, ↓reduceIte, ↓Option.bind_some, Int.reduceEq, Int.reduceNe, Int.reduceLT, Int.reduceLE, gd_true, gd_false, bind_b, q10, eq_self, reduceCtorEq, not_true_eq_false, not_false_eq_true, ne_eq] at hi
  have g3 : g < 3 := by omega
  have a := (j.gr h1.1 h1.2).1
  have o2 : o < 12 := by omega
  have h9 := a.h9 h01.1 o2 h02
  have jz : JJ n C (up N 12000 0 0) A := j.thrown
  have pl := @m_place C (up N 12000 0 0) g o m (jz.gr h1.1 h1.2).1 h1.1 g3 h01.1 o2 h02
  have e1 : hpl (up N 12000 0 0) g o m = hpl N g o m := rfl
  have e2 : hn (up N 12000 0 0) g o = hn N g o := rfl
  rw [e1, e2] at pl
  have hb := @hpl_b N g o m h9.1
  have om := fun C A => @m_out C (up N 12000 0 0) A g o (hpl N g o m) h1.1 g3 h01.1 o2 hb.1 h2 h9.2.1
  have eh : ooN (up N 12000 0 0) g o (hpl N g o m) 13051 (12 * g + o) = hn N g o - 1 := by
    have := @on_n (up N 12000 0 0) g o (hpl N g o m) h01.1 h1.1 o
    rw [if_pos rfl] at this
    exact this
  have np : ¬ hpl N g o m = -1 := by omega
  unfold p_X11_done
  simp (disch := omega) only [aok, up_s, true_and, false_and, and_true, and_false, if_true, if_false, ↓reduceIte, ↓Option.bind_some, Int.reduceEq, Int.reduceNe, Int.reduceLT, Int.reduceLE, gd_true, gd_false, bind_b, q10, eq_self, reduceCtorEq, not_true_eq_false, not_false_eq_true, ne_eq, pt_0, pt_1, pt_2, pt_3, pt_4, pt_5, pt_6, pt_7, pt_8, pt_9, pt_10, pt_11, pt_12, pt_13, pt_14, pt_15, pt_16, pt_17, pt_18, pt_19, pt_20, pt_21, pt_22, pt_23, pt_24, pt_25, pt_26, pt_27, pt_28, pt_29, pt_30, pt_31, pt_32, pt_33, pt_34, pt_35, pt_36, pt_37, pt_38, pt_39, pt_40, pt_41, pt_42, pt_43, pt_44, pt_45, pt_46, pt_47, pt_48, pt_49, pt_50, pt_51, pt_52, pt_53, pt_54, pt_55, pt_56, pt_57, pt_58, pt_59, pt_60, pt_61, pt_62, pt_63, pt_64, pt_65, pt_66, pt_67, pa_13005, pw_13005, pa_13006, pw_13006, pa_13007, pw_13007, pa_14008, pw_14008, pa_13009, pw_13009, pa_13010, pw_13010, pa_13012, pw_13012, pa_13013, pw_13013, pa_13014, pw_13014, pa_13015, pw_13015, pa_13016, pw_13016, pa_13017, pw_13017, pa_13018, pw_13018, pa_13020, pw_13020, pa_13021, pw_13021, pa_13022, pw_13022, pa_13023, pw_13023, pa_13024, pw_13024, pa_13025, pw_13025, pa_13026, pw_13026, pa_13027, pw_13027, pa_13028, pw_13028, pa_13029, pw_13029, pa_13031, pw_13031, pa_13032, pw_13032, pa_13033, pw_13033, pa_14034, pw_14034, pa_13035, pw_13035, pa_13036, pw_13036, pa_13037, pw_13037, pa_13038, pw_13038, pa_13039, pw_13039, pa_13042, pw_13042, pa_13043, pw_13043, pa_13044, pw_13044, pa_13045, pw_13045, pa_13046, pw_13046, pa_13047, pw_13047, pa_13048, pw_13048, pa_13049, pw_13049, pa_13050, pw_13050, pa_13051, pw_13051, pa_13052, pw_13052, pa_13053, pw_13053, pa_13054, pw_13054, pa_13055, pw_13055, pa_13056, pw_13056, pa_13057, pw_13057, pa_13058, pw_13058, pa_13059, pw_13059, pa_13060, pw_13060, pa_13061, pw_13061, pa_13062, pw_13062, pa_13063, pw_13063, pa_13064, pw_13064, pa_13065, pw_13065, pa_13066, pw_13066, pa_13067, pw_13067, ps_0, ps_1, ps_2, ps_3, ps_4, ps_11, ps_19, ps_30, ps_40, ps_41, ln_13005, ln_13006, ln_13007, ln_14008, ln_13009, ln_13010, ln_13012, ln_13013, ln_13014, ln_13015, ln_13016, ln_13017, ln_13018, ln_13020, ln_13021, ln_13022, ln_13023, ln_13024, ln_13025, ln_13026, ln_13027, ln_13028, ln_13029, ln_13031, ln_13032, ln_13033, ln_14034, ln_13035, ln_13036, ln_13037, ln_13038, ln_13039, ln_13042, ln_13043, ln_13044, ln_13045, ln_13046, ln_13047, ln_13048, ln_13049, ln_13050, ln_13051, ln_13052, ln_13053, ln_13054, ln_13055, ln_13056, ln_13057, ln_13058, ln_13059, ln_13060, ln_13061, ln_13062, ln_13063, ln_13064, ln_13065, ln_13066, ln_13067, gd_t, w_eq, hi, h1, h01, h02, pl, h2, np, om, eh]
theorem k_done (l : LW n C N A) {g : Int} (hg : g = 0) (o m : Int) : Ok (q_L_done (mk C N A) 11000 g o m) (KW (n + 1)) := by
  have j := l.1
  have g2 := l.g2
  have s4 := j.jn.g.s.2.2.2.1
  have h1 : 0 ≤ g ∧ g < (N 12000 41) := by omega
  have g3 : g < 3 := by omega
  have hi := fun C A => @m_isMember C (up N 12000 0 0) A g o j.z.s
  simp only [up_s, up_s, true_and, false_and, and_true, and_false, if_true, if_false, ↓reduceIte, ↓Option.bind_some, Int.reduceEq, Int.reduceNe, Int.reduceLT, Int.reduceLE, gd_true, gd_false, bind_b, q10, eq_self, reduceCtorEq, not_true_eq_false, not_false_eq_true, ne_eq] at hi
  have jz : JJ n C (up N 12000 0 0) A := j.thrown
  by_cases h0 : (0 ≤ o ∧ o ≤ 11) ∧ N 13047 (12 * g + o) = 1
  · have h01 := h0.1; have h02 := h0.2
    have o2 : o < 12 := by omega
    have a := (j.gr h1.1 h1.2).1
    have h9 := a.h9 h01.1 o2 h02
    have hb := @hpl_b N g o m h9.1
    by_cases h2 : hpl N g o m < hn N g o
    · have hm := done_m j h1 h01 h02 h2
      have mg := MG.out (N := up N 12000 0 0) (g := g) (j := o) (k := hpl N g o m) h1.1 h01.1 o2 hb.1 h2 h9.2.1
      have ar : ∀ b, (b < 13051 ∨ 13054 < b) → ooN (up N 12000 0 0) g o (hpl N g o m) b = (up N 12000 0 0) b := fun b hb => on_ar hb
      subst hg
      exact KW.gr (N2 := ooN (up N 12000 0 0) 0 o (hpl N 0 o m)) (v2 := hn N 0 o - 1) l (by rw [ar 12000 (by decide)]; rfl) (by omega) (GRE.ws mg (ar _ (by decide)) (ar _ (by decide)) (WS.same (ar _ (by decide)) (ar _ (by decide)))) ((ar _ (by decide)).trans rfl) (by rw [ar 13044 (by decide)]; exact l.2.1.2) (L_done j hm)
    · have az := (jz.gr h1.1 h1.2).1
      have pl := @m_place C (up N 12000 0 0) g o m az h1.1 g3 h01.1 o2 h02
      have e1 : hpl (up N 12000 0 0) g o m = hpl N g o m := rfl
      have e2 : hn (up N 12000 0 0) g o = hn N g o := rfl
      rw [e1, e2] at pl
      refine KW.ref (k := 2) (v2 := 0) l (by decide) (L_done j fun C A => ?_)
      unfold p_X11_done
      simp (disch := omega) only [aok, up_s, true_and, false_and, and_true, and_false, if_true, if_false, ↓reduceIte, ↓Option.bind_some, Int.reduceEq, Int.reduceNe, Int.reduceLT, Int.reduceLE, gd_true, gd_false, bind_b, q10, eq_self, reduceCtorEq, not_true_eq_false, not_false_eq_true, ne_eq, pt_0, pt_1, pt_2, pt_3, pt_4, pt_5, pt_6, pt_7, pt_8, pt_9, pt_10, pt_11, pt_12, pt_13, pt_14, pt_15, pt_16, pt_17, pt_18, pt_19, pt_20, pt_21, pt_22, pt_23, pt_24, pt_25, pt_26, pt_27, pt_28, pt_29, pt_30, pt_31, pt_32, pt_33, pt_34, pt_35, pt_36, pt_37, pt_38, pt_39, pt_40, pt_41, pt_42, pt_43, pt_44, pt_45, pt_46, pt_47, pt_48, pt_49, pt_50, pt_51, pt_52, pt_53, pt_54, pt_55, pt_56, pt_57, pt_58, pt_59, pt_60, pt_61, pt_62, pt_63, pt_64, pt_65, pt_66, pt_67, pa_13005, pw_13005, pa_13006, pw_13006, pa_13007, pw_13007, pa_14008, pw_14008, pa_13009, pw_13009, pa_13010, pw_13010, pa_13012, pw_13012, pa_13013, pw_13013, pa_13014, pw_13014, pa_13015, pw_13015, pa_13016, pw_13016, pa_13017, pw_13017, pa_13018, pw_13018, pa_13020, pw_13020, pa_13021, pw_13021, pa_13022, pw_13022, pa_13023, pw_13023, pa_13024, pw_13024, pa_13025, pw_13025, pa_13026, pw_13026, pa_13027, pw_13027, pa_13028, pw_13028, pa_13029, pw_13029, pa_13031, pw_13031, pa_13032, pw_13032, pa_13033, pw_13033, pa_14034, pw_14034, pa_13035, pw_13035, pa_13036, pw_13036, pa_13037, pw_13037, pa_13038, pw_13038, pa_13039, pw_13039, pa_13042, pw_13042, pa_13043, pw_13043, pa_13044, pw_13044, pa_13045, pw_13045, pa_13046, pw_13046, pa_13047, pw_13047, pa_13048, pw_13048, pa_13049, pw_13049, pa_13050, pw_13050, pa_13051, pw_13051, pa_13052, pw_13052, pa_13053, pw_13053, pa_13054, pw_13054, pa_13055, pw_13055, pa_13056, pw_13056, pa_13057, pw_13057, pa_13058, pw_13058, pa_13059, pw_13059, pa_13060, pw_13060, pa_13061, pw_13061, pa_13062, pw_13062, pa_13063, pw_13063, pa_13064, pw_13064, pa_13065, pw_13065, pa_13066, pw_13066, pa_13067, pw_13067, ps_0, ps_1, ps_2, ps_3, ps_4, ps_11, ps_19, ps_30, ps_40, ps_41, ln_13005, ln_13006, ln_13007, ln_14008, ln_13009, ln_13010, ln_13012, ln_13013, ln_13014, ln_13015, ln_13016, ln_13017, ln_13018, ln_13020, ln_13021, ln_13022, ln_13023, ln_13024, ln_13025, ln_13026, ln_13027, ln_13028, ln_13029, ln_13031, ln_13032, ln_13033, ln_14034, ln_13035, ln_13036, ln_13037, ln_13038, ln_13039, ln_13042, ln_13043, ln_13044, ln_13045, ln_13046, ln_13047, ln_13048, ln_13049, ln_13050, ln_13051, ln_13052, ln_13053, ln_13054, ln_13055, ln_13056, ln_13057, ln_13058, ln_13059, ln_13060, ln_13061, ln_13062, ln_13063, ln_13064, ln_13065, ln_13066, ln_13067, gd_t, w_eq, hi, h1, h01, h02, pl, h2, m_refuse]
  · have h0' : ¬ ((0 ≤ g ∧ g < (N 12000 41)) ∧ (0 ≤ o ∧ o ≤ 11) ∧ N 13047 (12 * g + o) = 1) := fun z => h0 z.2
    simp only [if_neg h0'] at hi
    refine KW.ref (k := 1) (v2 := 0) l (by decide) (L_done j fun C A => ?_)
    unfold p_X11_done
    simp (disch := omega) only [aok, up_s, true_and, false_and, and_true, and_false, if_true, if_false, ↓reduceIte, ↓Option.bind_some, Int.reduceEq, Int.reduceNe, Int.reduceLT, Int.reduceLE, gd_true, gd_false, bind_b, q10, eq_self, reduceCtorEq, not_true_eq_false, not_false_eq_true, ne_eq, pt_0, pt_1, pt_2, pt_3, pt_4, pt_5, pt_6, pt_7, pt_8, pt_9, pt_10, pt_11, pt_12, pt_13, pt_14, pt_15, pt_16, pt_17, pt_18, pt_19, pt_20, pt_21, pt_22, pt_23, pt_24, pt_25, pt_26, pt_27, pt_28, pt_29, pt_30, pt_31, pt_32, pt_33, pt_34, pt_35, pt_36, pt_37, pt_38, pt_39, pt_40, pt_41, pt_42, pt_43, pt_44, pt_45, pt_46, pt_47, pt_48, pt_49, pt_50, pt_51, pt_52, pt_53, pt_54, pt_55, pt_56, pt_57, pt_58, pt_59, pt_60, pt_61, pt_62, pt_63, pt_64, pt_65, pt_66, pt_67, pa_13005, pw_13005, pa_13006, pw_13006, pa_13007, pw_13007, pa_14008, pw_14008, pa_13009, pw_13009, pa_13010, pw_13010, pa_13012, pw_13012, pa_13013, pw_13013, pa_13014, pw_13014, pa_13015, pw_13015, pa_13016, pw_13016, pa_13017, pw_13017, pa_13018, pw_13018, pa_13020, pw_13020, pa_13021, pw_13021, pa_13022, pw_13022, pa_13023, pw_13023, pa_13024, pw_13024, pa_13025, pw_13025, pa_13026, pw_13026, pa_13027, pw_13027, pa_13028, pw_13028, pa_13029, pw_13029, pa_13031, pw_13031, pa_13032, pw_13032, pa_13033, pw_13033, pa_14034, pw_14034, pa_13035, pw_13035, pa_13036, pw_13036, pa_13037, pw_13037, pa_13038, pw_13038, pa_13039, pw_13039, pa_13042, pw_13042, pa_13043, pw_13043, pa_13044, pw_13044, pa_13045, pw_13045, pa_13046, pw_13046, pa_13047, pw_13047, pa_13048, pw_13048, pa_13049, pw_13049, pa_13050, pw_13050, pa_13051, pw_13051, pa_13052, pw_13052, pa_13053, pw_13053, pa_13054, pw_13054, pa_13055, pw_13055, pa_13056, pw_13056, pa_13057, pw_13057, pa_13058, pw_13058, pa_13059, pw_13059, pa_13060, pw_13060, pa_13061, pw_13061, pa_13062, pw_13062, pa_13063, pw_13063, pa_13064, pw_13064, pa_13065, pw_13065, pa_13066, pw_13066, pa_13067, pw_13067, ps_0, ps_1, ps_2, ps_3, ps_4, ps_11, ps_19, ps_30, ps_40, ps_41, ln_13005, ln_13006, ln_13007, ln_14008, ln_13009, ln_13010, ln_13012, ln_13013, ln_13014, ln_13015, ln_13016, ln_13017, ln_13018, ln_13020, ln_13021, ln_13022, ln_13023, ln_13024, ln_13025, ln_13026, ln_13027, ln_13028, ln_13029, ln_13031, ln_13032, ln_13033, ln_14034, ln_13035, ln_13036, ln_13037, ln_13038, ln_13039, ln_13042, ln_13043, ln_13044, ln_13045, ln_13046, ln_13047, ln_13048, ln_13049, ln_13050, ln_13051, ln_13052, ln_13053, ln_13054, ln_13055, ln_13056, ln_13057, ln_13058, ln_13059, ln_13060, ln_13061, ln_13062, ln_13063, ln_13064, ln_13065, ln_13066, ln_13067, gd_t, w_eq, hi, m_refuse]
/-- one beats: the model's side -/
theorem beat_m {g o : Int} (j : JJ n C N A) (h1 : 0 ≤ g ∧ g < (N 12000 41)) (h01 : 0 ≤ o ∧ o ≤ 11) (h02 : N 13047 (12 * g + o) = 1) : ∃ N1 N2, BKp g (up (up N 12000 0 0) 13048 (12 * g + o) ((N 12000 1))) N1 ∧ BKp g N1 N2 ∧ (WS g (up N 12000 0 0) N2 ∧ OWX (PG g o) (-1) g 0 (up (up N 12000 0 0) 13048 (12 * g + o) ((N 12000 1))) N1 ∧ OWX (PT g o) o g 0 N1 N2) ∧ ∀ C A, p_X11_beat (mk C N A) 12000 g o = some (owc N2 g o, mk C N2 A) := by
  have G := j.jn.g
  have s4 := G.s.2.2.2.1
  have hi := fun C A => @m_isMember C (up N 12000 0 0) A g o j.z.s
  simp only [up_s, up_s, true_and, false_and, and_true, and_false, if_true, if_false, ↓reduceIte, ↓Option.bind_some, Int.reduceEq, Int.reduceNe, Int.reduceLT, Int.reduceLE, gd_true, gd_false, bind_b, q10, eq_self, reduceCtorEq, not_true_eq_false, not_false_eq_true, ne_eq] at hi
  have g3 : g < 3 := by omega
  have jz : JJ n C (up N 12000 0 0) A := j.thrown
  have o2 : o < 12 := by omega
  have ab : GA (uq C 4000 (12 * g + o) 2 ((N 12000 1))) (up (up N 12000 0 0) 13048 (12 * g + o) ((N 12000 1))) g := (jz.gr h1.1 h1.2).1.beat jz.jn.g h1.1 h01.1 o2
  have jb : JJ n (uq C 4000 (12 * g + o) 2 ((N 12000 1))) (up (up N 12000 0 0) 13048 (12 * g + o) ((N 12000 1))) A := by
    refine jz.grp h1.1 h1.2 (KG.rf.uq (by unfold inG; omega)) (MG.rf.up (by unfold inN; omega)) ⟨ab, (jz.gr h1.1 h1.2).2⟩ ⟨Int.le_refl _, fun _ p _ => ⟨rfl, Or.inl rfl, fun _ => ⟨rfl, fun _ _ _ _ _ h => h⟩⟩⟩ (jz.ne.grp (g := g) (MG.rf.up (by unfold inN; omega)) rfl rfl rfl) rfl (Int.le_refl n) ?_ (jz.fs0 h1.1 h1.2 (Int.le_refl n) (fun _ _ _ => rfl) rfl)
    have := j.b.2.2.2 g h1.1 h1.2
    exact this
  obtain ⟨C1, N1, y1, yo, y2, y3, y4⟩ := gvLoop (N0 := N) (g := g) (j := o) h1.1 h01.1 o2 9 (uq C 4000 (12 * g + o) 2 ((N 12000 1))) (up (up N 12000 0 0) 13048 (12 * g + o) ((N 12000 1))) 0 1000 jb h1.2 h02 (by omega) (by omega) (by omega)
  have sc : N1 12000 = (up N 12000 0 0) 12000 := y1.1.n0 (by decide)
  obtain ⟨C2, N2, z1, zo, z2, z3, z4⟩ := tkLoop (N0 := N) (g := g) (j := o) h1.1 h01.1 o2 9 C1 N1 0 1000 y2 (by rw [sc]; exact h1.2) (by rw [y1.2.1 _ (by decide) (by decide) (by decide) (by decide)]; exact h02) (by omega) (by omega) (by omega)
  have mw := fun C A => @m_gOwned C N2 A g o z2.jn.g h1.1 g3
  have wk := (y1.tr z1).2.2.ws jb h1.1 h1.2
  refine ⟨N1, N2, y1, z1, ⟨wk, yo, zo⟩, fun C A => ?_⟩
  unfold p_X11_beat
  simp (disch := omega) only [aok, up_s, true_and, false_and, and_true, and_false, if_true, if_false, ↓reduceIte, ↓Option.bind_some, Int.reduceEq, Int.reduceNe, Int.reduceLT, Int.reduceLE, gd_true, gd_false, bind_b, q10, eq_self, reduceCtorEq, not_true_eq_false, not_false_eq_true, ne_eq, pt_0, pt_1, pt_2, pt_3, pt_4, pt_5, pt_6, pt_7, pt_8, pt_9, pt_10, pt_11, pt_12, pt_13, pt_14, pt_15, pt_16, pt_17, pt_18, pt_19, pt_20, pt_21, pt_22, pt_23, pt_24, pt_25, pt_26, pt_27, pt_28, pt_29, pt_30, pt_31, pt_32, pt_33, pt_34, pt_35, pt_36, pt_37, pt_38, pt_39, pt_40, pt_41, pt_42, pt_43, pt_44, pt_45, pt_46, pt_47, pt_48, pt_49, pt_50, pt_51, pt_52, pt_53, pt_54, pt_55, pt_56, pt_57, pt_58, pt_59, pt_60, pt_61, pt_62, pt_63, pt_64, pt_65, pt_66, pt_67, pa_13005, pw_13005, pa_13006, pw_13006, pa_13007, pw_13007, pa_14008, pw_14008, pa_13009, pw_13009, pa_13010, pw_13010, pa_13012, pw_13012, pa_13013, pw_13013, pa_13014, pw_13014, pa_13015, pw_13015, pa_13016, pw_13016, pa_13017, pw_13017, pa_13018, pw_13018, pa_13020, pw_13020, pa_13021, pw_13021, pa_13022, pw_13022, pa_13023, pw_13023, pa_13024, pw_13024, pa_13025, pw_13025, pa_13026, pw_13026, pa_13027, pw_13027, pa_13028, pw_13028, pa_13029, pw_13029, pa_13031, pw_13031, pa_13032, pw_13032, pa_13033, pw_13033, pa_14034, pw_14034, pa_13035, pw_13035, pa_13036, pw_13036, pa_13037, pw_13037, pa_13038, pw_13038, pa_13039, pw_13039, pa_13042, pw_13042, pa_13043, pw_13043, pa_13044, pw_13044, pa_13045, pw_13045, pa_13046, pw_13046, pa_13047, pw_13047, pa_13048, pw_13048, pa_13049, pw_13049, pa_13050, pw_13050, pa_13051, pw_13051, pa_13052, pw_13052, pa_13053, pw_13053, pa_13054, pw_13054, pa_13055, pw_13055, pa_13056, pw_13056, pa_13057, pw_13057, pa_13058, pw_13058, pa_13059, pw_13059, pa_13060, pw_13060, pa_13061, pw_13061, pa_13062, pw_13062, pa_13063, pw_13063, pa_13064, pw_13064, pa_13065, pw_13065, pa_13066, pw_13066, pa_13067, pw_13067, ps_0, ps_1, ps_2, ps_3, ps_4, ps_11, ps_19, ps_30, ps_40, ps_41, ln_13005, ln_13006, ln_13007, ln_14008, ln_13009, ln_13010, ln_13012, ln_13013, ln_13014, ln_13015, ln_13016, ln_13017, ln_13018, ln_13020, ln_13021, ln_13022, ln_13023, ln_13024, ln_13025, ln_13026, ln_13027, ln_13028, ln_13029, ln_13031, ln_13032, ln_13033, ln_14034, ln_13035, ln_13036, ln_13037, ln_13038, ln_13039, ln_13042, ln_13043, ln_13044, ln_13045, ln_13046, ln_13047, ln_13048, ln_13049, ln_13050, ln_13051, ln_13052, ln_13053, ln_13054, ln_13055, ln_13056, ln_13057, ln_13058, ln_13059, ln_13060, ln_13061, ln_13062, ln_13063, ln_13064, ln_13065, ln_13066, ln_13067, gd_t, w_eq, hi, h1, h01, h02, y4, z4, mw]
  rfl
theorem owc_b {g o : Int} : 0 ≤ owc N g o ∧ owc N g o ≤ 9 := by
  have := su_b (g := fun p => if gR N g p ∧ N 13055 (9 * g + p) = o then 1 else 0) (i0 := 0) (n := 9) (b := 1) (fun i _ _ => by split <;> omega)
  unfold owc
  omega
theorem k_beat (l : LW n C N A) {g : Int} (hg : g = 0) (o : Int) : Ok (q_L_beat (mk C N A) 11000 g o) (KW (n + 1)) := by
  have j := l.1
  have g2 := l.g2
  have h1 : 0 ≤ g ∧ g < (N 12000 41) := by omega
  have hi := fun C A => @m_isMember C (up N 12000 0 0) A g o j.z.s
  simp only [up_s, up_s, true_and, false_and, and_true, and_false, if_true, if_false, ↓reduceIte, ↓Option.bind_some, Int.reduceEq, Int.reduceNe, Int.reduceLT, Int.reduceLE, gd_true, gd_false, bind_b, q10, eq_self, reduceCtorEq, not_true_eq_false, not_false_eq_true, ne_eq] at hi
  by_cases h0 : (0 ≤ o ∧ o ≤ 11) ∧ N 13047 (12 * g + o) = 1
  · obtain ⟨N1, N2, b1, b2, ⟨ws, -, -⟩, hm⟩ := beat_m j h1 h0.1 h0.2
    have b12 := b1.tr b2
    have ow := @owc_b N2 g o
    have mg : MG g (up N 12000 0 0) N2 := (MG.rf.up (by unfold inN; omega)).tr b12.1
    have ar : ∀ b, b = 12000 ∨ b = 13042 ∨ b = 13064 ∨ b = 13044 → N2 b = (up N 12000 0 0) b := fun b hb => by
      rw [b12.2.1 b (by omega) (by omega) (by omega) (by omega)]
      funext k
      rw [up_s, if_neg (by omega)]
    subst hg
    exact KW.gr (N2 := N2) (v2 := owc N2 0 o) l (by rw [ar 12000 (by decide)]; rfl) (by omega) (GRE.ws mg (ar _ (by decide)) (ar _ (by decide)) ws) ((ar _ (by decide)).trans rfl) (by rw [ar 13044 (by decide)]; exact l.2.1.2) (L_beat j hm)
  · have h0' : ¬ ((0 ≤ g ∧ g < (N 12000 41)) ∧ (0 ≤ o ∧ o ≤ 11) ∧ N 13047 (12 * g + o) = 1) := fun z => h0 z.2
    simp only [if_neg h0'] at hi
    refine KW.ref (k := 1) (v2 := 0) l (by decide) (L_beat j fun C A => ?_)
    unfold p_X11_beat
    simp (disch := omega) only [aok, up_s, true_and, false_and, and_true, and_false, if_true, if_false, ↓reduceIte, ↓Option.bind_some, Int.reduceEq, Int.reduceNe, Int.reduceLT, Int.reduceLE, gd_true, gd_false, bind_b, q10, eq_self, reduceCtorEq, not_true_eq_false, not_false_eq_true, ne_eq, pt_0, pt_1, pt_2, pt_3, pt_4, pt_5, pt_6, pt_7, pt_8, pt_9, pt_10, pt_11, pt_12, pt_13, pt_14, pt_15, pt_16, pt_17, pt_18, pt_19, pt_20, pt_21, pt_22, pt_23, pt_24, pt_25, pt_26, pt_27, pt_28, pt_29, pt_30, pt_31, pt_32, pt_33, pt_34, pt_35, pt_36, pt_37, pt_38, pt_39, pt_40, pt_41, pt_42, pt_43, pt_44, pt_45, pt_46, pt_47, pt_48, pt_49, pt_50, pt_51, pt_52, pt_53, pt_54, pt_55, pt_56, pt_57, pt_58, pt_59, pt_60, pt_61, pt_62, pt_63, pt_64, pt_65, pt_66, pt_67, pa_13005, pw_13005, pa_13006, pw_13006, pa_13007, pw_13007, pa_14008, pw_14008, pa_13009, pw_13009, pa_13010, pw_13010, pa_13012, pw_13012, pa_13013, pw_13013, pa_13014, pw_13014, pa_13015, pw_13015, pa_13016, pw_13016, pa_13017, pw_13017, pa_13018, pw_13018, pa_13020, pw_13020, pa_13021, pw_13021, pa_13022, pw_13022, pa_13023, pw_13023, pa_13024, pw_13024, pa_13025, pw_13025, pa_13026, pw_13026, pa_13027, pw_13027, pa_13028, pw_13028, pa_13029, pw_13029, pa_13031, pw_13031, pa_13032, pw_13032, pa_13033, pw_13033, pa_14034, pw_14034, pa_13035, pw_13035, pa_13036, pw_13036, pa_13037, pw_13037, pa_13038, pw_13038, pa_13039, pw_13039, pa_13042, pw_13042, pa_13043, pw_13043, pa_13044, pw_13044, pa_13045, pw_13045, pa_13046, pw_13046, pa_13047, pw_13047, pa_13048, pw_13048, pa_13049, pw_13049, pa_13050, pw_13050, pa_13051, pw_13051, pa_13052, pw_13052, pa_13053, pw_13053, pa_13054, pw_13054, pa_13055, pw_13055, pa_13056, pw_13056, pa_13057, pw_13057, pa_13058, pw_13058, pa_13059, pw_13059, pa_13060, pw_13060, pa_13061, pw_13061, pa_13062, pw_13062, pa_13063, pw_13063, pa_13064, pw_13064, pa_13065, pw_13065, pa_13066, pw_13066, pa_13067, pw_13067, ps_0, ps_1, ps_2, ps_3, ps_4, ps_11, ps_19, ps_30, ps_40, ps_41, ln_13005, ln_13006, ln_13007, ln_14008, ln_13009, ln_13010, ln_13012, ln_13013, ln_13014, ln_13015, ln_13016, ln_13017, ln_13018, ln_13020, ln_13021, ln_13022, ln_13023, ln_13024, ln_13025, ln_13026, ln_13027, ln_13028, ln_13029, ln_13031, ln_13032, ln_13033, ln_14034, ln_13035, ln_13036, ln_13037, ln_13038, ln_13039, ln_13042, ln_13043, ln_13044, ln_13045, ln_13046, ln_13047, ln_13048, ln_13049, ln_13050, ln_13051, ln_13052, ln_13053, ln_13054, ln_13055, ln_13056, ln_13057, ln_13058, ln_13059, ln_13060, ln_13061, ln_13062, ln_13063, ln_13064, ln_13065, ln_13066, ln_13067, gd_t, w_eq, hi, m_refuse]
end GROUPC
