/-! PURE PART, 32: what the model writes (messages) -/
/-- another array in place of one -/
def ra (N : Nd) (a : Int) (F : Int → Int) : Nd := fun b k => if b = a then F k else N b k
theorem ra_s {N : Nd} {a b k : Int} {F : Int → Int} : ra N a F b k = if b = a then F k else N b k := rfl
theorem up_ra {N : Nd} {a j v : Int} : up N a j v = ra N a (fun k => if k = j then v else N a k) := by
  funext b k
  rw [up_s, ra_s]
  by_cases h : b = a
  · subst h; simp
  · rw [if_neg h, if_neg (fun q => h q.1)]
theorem RG.upState {N : Nd} {m v : Int} (g : RG N) (hv : 0 ≤ v ∧ v ≤ 3) : RG (up N 13024 m v) :=
  ⟨g.s, g.t, g.p, g.e, g.l, fun i h1 h2 => by
    obtain ⟨a1, a2, a3, a4, a5, a6, a7, a8⟩ := g.m i h1 h2
    refine ⟨a1, a2, a3, ?_, a5, a6, a7, a8⟩
    rw [up_s]; split
    · exact hv
    · exact a4, g.x⟩
theorem RG.upOf {N : Nd} {m v : Int} (g : RG N) (hv : 0 ≤ v ∧ v ≤ 3) : RG (up N 13025 m v) :=
  ⟨g.s, g.t, g.p, g.e, g.l, fun i h1 h2 => by
    obtain ⟨a1, a2, a3, a4, a5, a6, a7, a8⟩ := g.m i h1 h2
    refine ⟨a1, a2, a3, a4, ?_, a6, a7, a8⟩
    rw [up_s]; split
    · exact hv
    · exact a5, g.x⟩
theorem RG.upOffset {N : Nd} {m v : Int} (g : RG N) (hv : -1 ≤ v ∧ v < 60) : RG (up N 13026 m v) :=
  ⟨g.s, g.t, g.p, g.e, g.l, fun i h1 h2 => by
    obtain ⟨a1, a2, a3, a4, a5, a6, a7, a8⟩ := g.m i h1 h2
    refine ⟨a1, a2, a3, a4, a5, ?_, a7, a8⟩
    rw [up_s]; split
    · exact hv
    · exact a6, g.x⟩
theorem RG.upTick {N : Nd} {m v : Int} (g : RG N) (hv : -1 ≤ v ∧ v ≤ (N 12000 1)) : RG (up N 13027 m v) :=
  ⟨g.s, g.t, g.p, g.e, g.l, fun i h1 h2 => by
    obtain ⟨a1, a2, a3, a4, a5, a6, a7, a8⟩ := g.m i h1 h2
    refine ⟨a1, a2, a3, a4, a5, a6, ?_, a8⟩
    rw [up_s]; split
    · exact hv
    · exact a7, g.x⟩
theorem RG.upLog {N : Nd} {i v : Int} (g : RG N) (hv : -1 ≤ v ∧ v < (N 12000 19)) : RG (up N 13018 i v) :=
  ⟨g.s, g.t, g.p, g.e, fun p k h1 h2 h3 h4 => by
    have := g.l p k h1 h2 h3 h4
    show -1 ≤ up N 13018 i v 13018 (60 * p + k) ∧ up N 13018 i v 13018 (60 * p + k) < (N 12000 19)
    rw [up_s]; split
    · exact hv
    · exact this, g.m, g.x⟩
theorem RG.upEnd {N : Nd} {i v : Int} (g : RG N) (hv : 0 ≤ v ∧ v ≤ 60) : RG (up N 13016 i v) :=
  ⟨g.s, g.t, g.p, fun p k h1 h2 h3 h4 => by
    have := g.e p k h1 h2 h3 h4
    refine ⟨?_, this.2⟩
    rw [up_s]; split
    · exact hv
    · exact this.1, g.l, g.m, g.x⟩
theorem RG.upBroken {N : Nd} {i v : Int} (g : RG N) (hv : 0 ≤ v ∧ v ≤ 1) : RG (up N 14034 i v) :=
  ⟨g.s, g.t, g.p, g.e, g.l, g.m, fun x h1 h2 => by
    obtain ⟨a1, a2, a3, a4⟩ := g.x x h1 h2
    refine ⟨a1, a2, a3, ?_⟩
    rw [up_s]; split
    · exact hv
    · exact a4⟩
/-- to append -/
def apN (N : Nd) (m : Int) : Nd := up (up (up (up (up N 13018 (60 * N 13021 m + eol N (N 13021 m)) m) 13024 m 1) 13026 m (eol N (N 13021 m))) 13027 m ((N 12000 1))) 13016 (3 * N 13021 m + N 13013 (N 13021 m)) (eol N (N 13021 m) + 1)
theorem eol_lead {N : Nd} {p : Int} (h : 0 ≤ N 13013 p) : eol N p = N 13016 (3 * p + N 13013 p) := by unfold eol; rw [if_neg (by omega)]
theorem m_append {C : Cd} {N : Nd} {A : Ad} {m : Int} (g : RG N) (h1 : 0 ≤ m) (h2 : m < (N 12000 19)) (hl : 0 ≤ N 13013 (N 13021 m)) (he : eol N (N 13021 m) < 60) : p_X11_append (mk C N A) 12000 m = some (mk C (apN N m) A) := by
  have s2 := g.s.2.1
  have s5 := g.s.2.2.2.2.1
  obtain ⟨-, a2, -⟩ := g.m m h1 h2
  have lb := RP.lead g.t g.p a2.1 a2.2
  have eb := eol_b g.t g.p g.e a2.1 a2.2
  have ee := eol_lead hl
  unfold p_X11_append
  simp only [pt_21, pa_13021]
  rw [gd_t ⟨by decide, by omega, by rw [ln_13021]; omega⟩, Option.bind_some, m_endOfLog g.s g.t g.p a2.1 a2.2]
  simp only [↓Option.bind_some]
  simp (disch := omega) only [aok, up_s, true_and, false_and, and_true, and_false, if_true, if_false, ↓reduceIte, ↓Option.bind_some, Int.reduceEq, Int.reduceNe, Int.reduceLT, Int.reduceLE, gd_true, gd_false, bind_b, q10, eq_self, reduceCtorEq, not_true_eq_false, not_false_eq_true, ne_eq, pt_0, pt_1, pt_2, pt_3, pt_4, pt_5, pt_6, pt_7, pt_8, pt_9, pt_10, pt_11, pt_12, pt_13, pt_14, pt_15, pt_16, pt_17, pt_18, pt_19, pt_20, pt_21, pt_22, pt_23, pt_24, pt_25, pt_26, pt_27, pt_28, pt_29, pt_30, pt_31, pt_32, pt_33, pt_34, pt_35, pt_36, pt_37, pt_38, pt_39, pt_40, pt_41, pt_42, pt_43, pt_44, pt_45, pt_46, pt_47, pt_48, pt_49, pt_50, pt_51, pt_52, pt_53, pt_54, pt_55, pt_56, pt_57, pt_58, pt_59, pt_60, pt_61, pt_62, pt_63, pt_64, pt_65, pt_66, pt_67, pa_13005, pw_13005, pa_13006, pw_13006, pa_13007, pw_13007, pa_14008, pw_14008, pa_13009, pw_13009, pa_13010, pw_13010, pa_13012, pw_13012, pa_13013, pw_13013, pa_13014, pw_13014, pa_13015, pw_13015, pa_13016, pw_13016, pa_13017, pw_13017, pa_13018, pw_13018, pa_13020, pw_13020, pa_13021, pw_13021, pa_13022, pw_13022, pa_13023, pw_13023, pa_13024, pw_13024, pa_13025, pw_13025, pa_13026, pw_13026, pa_13027, pw_13027, pa_13028, pw_13028, pa_13029, pw_13029, pa_13031, pw_13031, pa_13032, pw_13032, pa_13033, pw_13033, pa_14034, pw_14034, pa_13035, pw_13035, pa_13036, pw_13036, pa_13037, pw_13037, pa_13038, pw_13038, pa_13039, pw_13039, pa_13042, pw_13042, pa_13043, pw_13043, pa_13044, pw_13044, pa_13045, pw_13045, pa_13046, pw_13046, pa_13047, pw_13047, pa_13048, pw_13048, pa_13049, pw_13049, pa_13050, pw_13050, pa_13051, pw_13051, pa_13052, pw_13052, pa_13053, pw_13053, pa_13054, pw_13054, pa_13055, pw_13055, pa_13056, pw_13056, pa_13057, pw_13057, pa_13058, pw_13058, pa_13059, pw_13059, pa_13060, pw_13060, pa_13061, pw_13061, pa_13062, pw_13062, pa_13063, pw_13063, pa_13064, pw_13064, pa_13065, pw_13065, pa_13066, pw_13066, pa_13067, pw_13067, ps_0, ps_1, ps_2, ps_3, ps_4, ps_11, ps_19, ps_30, ps_40, ps_41, ln_13005, ln_13006, ln_13007, ln_14008, ln_13009, ln_13010, ln_13012, ln_13013, ln_13014, ln_13015, ln_13016, ln_13017, ln_13018, ln_13020, ln_13021, ln_13022, ln_13023, ln_13024, ln_13025, ln_13026, ln_13027, ln_13028, ln_13029, ln_13031, ln_13032, ln_13033, ln_14034, ln_13035, ln_13036, ln_13037, ln_13038, ln_13039, ln_13042, ln_13043, ln_13044, ln_13045, ln_13046, ln_13047, ln_13048, ln_13049, ln_13050, ln_13051, ln_13052, ln_13053, ln_13054, ln_13055, ln_13056, ln_13057, ln_13058, ln_13059, ln_13060, ln_13061, ln_13062, ln_13063, ln_13064, ln_13065, ln_13066, ln_13067, gd_t, w_eq]
  unfold apN
  rw [← ee]
theorem RG.apN {N : Nd} {m : Int} (g : RG N) (h1 : 0 ≤ m) (h2 : m < (N 12000 19)) (he : eol N (N 13021 m) < 60) : RG (apN N m) := by
  have s5 := g.s.2.2.2.2.1
  have s8 := g.s.2.2.2.2.2.2.2.1
  obtain ⟨-, a2, -⟩ := g.m m h1 h2
  have eb := eol_b g.t g.p g.e a2.1 a2.2
  exact ((((g.upLog (by omega)).upState (by omega)).upOffset (by omega)).upTick (by show _ ∧ _ ≤ (N 12000 1); omega)).upEnd (by omega)
/-- all messages of a transaction become one thing -/
def stO (N : Nd) (t k n : Int) : Nd := ra N 13025 (fun j => if 0 ≤ j ∧ j < n ∧ N 13029 j = t then k else N 13025 j)
theorem stO_0 {N : Nd} {t k : Int} : stO N t k 0 = N := by
  funext a j
  unfold stO
  rw [ra_s]
  by_cases h : a = 13025
  · rw [if_pos h, if_neg (by omega), h]
  · rw [if_neg h]
theorem stO_T {N : Nd} {t k i : Int} (h : 0 ≤ i) (h2 : N 13029 i = t) : up (stO N t k i) 13025 i k = stO N t k (i + 1) := by
  funext a j
  unfold stO
  rw [up_s, ra_s, ra_s]
  by_cases e : a = 13025
  · subst e
    simp only [true_and, if_true]
    by_cases e2 : j = i
    · subst e2; rw [if_pos rfl, if_pos (by omega)]
    · rw [if_neg e2]
      congr 1
      simp only [eq_iff_iff]
      constructor
      · rintro ⟨x1, x2, x3⟩; exact ⟨x1, by omega, x3⟩
      · rintro ⟨x1, x2, x3⟩; exact ⟨x1, by omega, x3⟩
  · rw [if_neg (fun q => e q.1), if_neg e, if_neg e]
theorem stO_F {N : Nd} {t k i : Int} (h2 : ¬ N 13029 i = t) : stO N t k i = stO N t k (i + 1) := by
  funext a j
  unfold stO
  rw [ra_s, ra_s]
  by_cases e : a = 13025
  · rw [if_pos e, if_pos e]
    congr 1
    simp only [eq_iff_iff]
    constructor
    · rintro ⟨x1, x2, x3⟩; exact ⟨x1, by omega, x3⟩
    · rintro ⟨x1, x2, x3⟩
      refine ⟨x1, ?_, x3⟩
      by_cases e2 : j = i
      · subst e2; exact absurd x3 h2
      · omega
  · rw [if_neg e, if_neg e]
theorem RG.stO {N : Nd} {t k n : Int} (g : RG N) (hv : 0 ≤ k ∧ k ≤ 3) : RG (stO N t k n) :=
  ⟨g.s, g.t, g.p, g.e, g.l, fun i h1 h2 => by
    obtain ⟨a1, a2, a3, a4, a5, a6, a7, a8⟩ := g.m i h1 h2
    refine ⟨a1, a2, a3, a4, ?_, a6, a7, a8⟩
    show 0 ≤ (if 0 ≤ i ∧ i < n ∧ N 13029 i = t then k else N 13025 i) ∧ (if 0 ≤ i ∧ i < n ∧ N 13029 i = t then k else N 13025 i) ≤ 3
    split
    · exact hv
    · exact a5, g.x⟩
/-- the producers of a broken transaction -/
def bkX (N : Nd) (t n : Int) : Nd := ra N 14034 (fun x => if 0 ≤ x ∧ x < n ∧ N 13033 x = t then 1 else N 14034 x)
def brkN (N : Nd) (t : Int) : Nd := bkX (stO N t 3 ((N 12000 19))) t ((N 12000 30))
theorem RG.bkX {N : Nd} {t n : Int} (g : RG N) : RG (bkX N t n) :=
  ⟨g.s, g.t, g.p, g.e, g.l, g.m, fun i h1 h2 => by
    obtain ⟨a1, a2, a3, a4⟩ := g.x i h1 h2
    refine ⟨a1, a2, a3, ?_⟩
    show 0 ≤ (if 0 ≤ i ∧ i < n ∧ N 13033 i = t then 1 else N 14034 i) ∧ (if 0 ≤ i ∧ i < n ∧ N 13033 i = t then 1 else N 14034 i) ≤ 1
    split
    · omega
    · exact a4⟩
theorem RG.brkN {N : Nd} {t : Int} (g : RG N) : RG (brkN N t) := (g.stO (by omega)).bkX
theorem bkX_0 {N : Nd} {t : Int} : bkX N t 0 = N := by
  funext a j
  unfold bkX
  rw [ra_s]
  by_cases h : a = 14034
  · rw [if_pos h, if_neg (by omega), h]
  · rw [if_neg h]
theorem bkX_T {N : Nd} {t i : Int} (h : 0 ≤ i) (h2 : N 13033 i = t) : up (bkX N t i) 14034 i 1 = bkX N t (i + 1) := by
  funext a j
  unfold bkX
  rw [up_s, ra_s, ra_s]
  by_cases e : a = 14034
  · subst e
    simp only [true_and, if_true]
    by_cases e2 : j = i
    · subst e2; rw [if_pos rfl, if_pos (by omega)]
    · rw [if_neg e2]
      congr 1
      simp only [eq_iff_iff]
      constructor
      · rintro ⟨x1, x2, x3⟩; exact ⟨x1, by omega, x3⟩
      · rintro ⟨x1, x2, x3⟩; exact ⟨x1, by omega, x3⟩
  · rw [if_neg (fun q => e q.1), if_neg e, if_neg e]
theorem bkX_F {N : Nd} {t i : Int} (h2 : ¬ N 13033 i = t) : bkX N t i = bkX N t (i + 1) := by
  funext a j
  unfold bkX
  rw [ra_s, ra_s]
  by_cases e : a = 14034
  · rw [if_pos e, if_pos e]
    congr 1
    simp only [eq_iff_iff]
    constructor
    · rintro ⟨x1, x2, x3⟩; exact ⟨x1, by omega, x3⟩
    · rintro ⟨x1, x2, x3⟩
      refine ⟨x1, ?_, x3⟩
      by_cases e2 : j = i
      · subst e2; exact absurd x3 h2
      · omega
  · rw [if_neg e, if_neg e]
theorem m_breakAll {C : Cd} {N : Nd} {A : Ad} {t : Int} (g : RG N) : p_X11_breakAll (mk C N A) 12000 t = some (mk C (brkN N t) A) := by
  have s3 := g.s.2.2.1
  have s5 := g.s.2.2.2.2.1
  have e5 : ((((N 12000 19)).toNat : Nat) : Int) = (N 12000 19) := by omega
  have e3 : ((((N 12000 30)).toNat : Nat) : Int) = (N 12000 30) := by omega
  have o1 : ian 1 1 = 1 := by decide
  have o2 : ian 0 1 = 0 := by decide
  unfold p_X11_breakAll
  rw [lp_seq (fun i => ((i : Int), mk C (stO N t 3 i) A)) ((N 12000 19)).toNat (t := mk C (stO N t 3 ((N 12000 19))) A) ?h1 ?h2 (by omega) (by rw [show ((0 : Nat) : Int) = 0 from rfl, stO_0]), Option.bind_some, lp_seq (fun i => ((i : Int), mk C (bkX (stO N t 3 ((N 12000 19))) t i) A)) ((N 12000 30)).toNat (t := mk C (brkN N t) A) ?h3 ?h4 (by omega) (by rw [show ((0 : Nat) : Int) = 0 from rfl, bkX_0])]
  · rfl
  case h1 =>
    intro i hi
    unfold b_X11_breakAll_2
    simp (disch := omega) only [aok, up_s, true_and, false_and, and_true, and_false, if_true, if_false, ↓reduceIte, ↓Option.bind_some, Int.reduceEq, Int.reduceNe, Int.reduceLT, Int.reduceLE, gd_true, gd_false, bind_b, q10, eq_self, reduceCtorEq, not_true_eq_false, not_false_eq_true, ne_eq, pt_0, pt_1, pt_2, pt_3, pt_4, pt_5, pt_6, pt_7, pt_8, pt_9, pt_10, pt_11, pt_12, pt_13, pt_14, pt_15, pt_16, pt_17, pt_18, pt_19, pt_20, pt_21, pt_22, pt_23, pt_24, pt_25, pt_26, pt_27, pt_28, pt_29, pt_30, pt_31, pt_32, pt_33, pt_34, pt_35, pt_36, pt_37, pt_38, pt_39, pt_40, pt_41, pt_42, pt_43, pt_44, pt_45, pt_46, pt_47, pt_48, pt_49, pt_50, pt_51, pt_52, pt_53, pt_54, pt_55, pt_56, pt_57, pt_58, pt_59, pt_60, pt_61, pt_62, pt_63, pt_64, pt_65, pt_66, pt_67, pa_13005, pw_13005, pa_13006, pw_13006, pa_13007, pw_13007, pa_14008, pw_14008, pa_13009, pw_13009, pa_13010, pw_13010, pa_13012, pw_13012, pa_13013, pw_13013, pa_13014, pw_13014, pa_13015, pw_13015, pa_13016, pw_13016, pa_13017, pw_13017, pa_13018, pw_13018, pa_13020, pw_13020, pa_13021, pw_13021, pa_13022, pw_13022, pa_13023, pw_13023, pa_13024, pw_13024, pa_13025, pw_13025, pa_13026, pw_13026, pa_13027, pw_13027, pa_13028, pw_13028, pa_13029, pw_13029, pa_13031, pw_13031, pa_13032, pw_13032, pa_13033, pw_13033, pa_14034, pw_14034, pa_13035, pw_13035, pa_13036, pw_13036, pa_13037, pw_13037, pa_13038, pw_13038, pa_13039, pw_13039, pa_13042, pw_13042, pa_13043, pw_13043, pa_13044, pw_13044, pa_13045, pw_13045, pa_13046, pw_13046, pa_13047, pw_13047, pa_13048, pw_13048, pa_13049, pw_13049, pa_13050, pw_13050, pa_13051, pw_13051, pa_13052, pw_13052, pa_13053, pw_13053, pa_13054, pw_13054, pa_13055, pw_13055, pa_13056, pw_13056, pa_13057, pw_13057, pa_13058, pw_13058, pa_13059, pw_13059, pa_13060, pw_13060, pa_13061, pw_13061, pa_13062, pw_13062, pa_13063, pw_13063, pa_13064, pw_13064, pa_13065, pw_13065, pa_13066, pw_13066, pa_13067, pw_13067, ps_0, ps_1, ps_2, ps_3, ps_4, ps_11, ps_19, ps_30, ps_40, ps_41, ln_13005, ln_13006, ln_13007, ln_14008, ln_13009, ln_13010, ln_13012, ln_13013, ln_13014, ln_13015, ln_13016, ln_13017, ln_13018, ln_13020, ln_13021, ln_13022, ln_13023, ln_13024, ln_13025, ln_13026, ln_13027, ln_13028, ln_13029, ln_13031, ln_13032, ln_13033, ln_14034, ln_13035, ln_13036, ln_13037, ln_13038, ln_13039, ln_13042, ln_13043, ln_13044, ln_13045, ln_13046, ln_13047, ln_13048, ln_13049, ln_13050, ln_13051, ln_13052, ln_13053, ln_13054, ln_13055, ln_13056, ln_13057, ln_13058, ln_13059, ln_13060, ln_13061, ln_13062, ln_13063, ln_13064, ln_13065, ln_13066, ln_13067, gd_t, w_eq, show ∀ j, stO N t 3 i 12000 j = N 12000 j from fun _ => rfl, show ∀ j, stO N t 3 i 13029 j = N 13029 j from fun _ => rfl, if_pos]
    by_cases e : N 13029 i = t
    · rw [if_pos e, stO_T (by omega) e]; rfl
    · rw [if_neg e, up_same, stO_F e]; rfl
  case h2 =>
    unfold b_X11_breakAll_2
    simp (disch := omega) only [aok, up_s, true_and, false_and, and_true, and_false, if_true, if_false, ↓reduceIte, ↓Option.bind_some, Int.reduceEq, Int.reduceNe, Int.reduceLT, Int.reduceLE, gd_true, gd_false, bind_b, q10, eq_self, reduceCtorEq, not_true_eq_false, not_false_eq_true, ne_eq, pt_0, pt_1, pt_2, pt_3, pt_4, pt_5, pt_6, pt_7, pt_8, pt_9, pt_10, pt_11, pt_12, pt_13, pt_14, pt_15, pt_16, pt_17, pt_18, pt_19, pt_20, pt_21, pt_22, pt_23, pt_24, pt_25, pt_26, pt_27, pt_28, pt_29, pt_30, pt_31, pt_32, pt_33, pt_34, pt_35, pt_36, pt_37, pt_38, pt_39, pt_40, pt_41, pt_42, pt_43, pt_44, pt_45, pt_46, pt_47, pt_48, pt_49, pt_50, pt_51, pt_52, pt_53, pt_54, pt_55, pt_56, pt_57, pt_58, pt_59, pt_60, pt_61, pt_62, pt_63, pt_64, pt_65, pt_66, pt_67, pa_13005, pw_13005, pa_13006, pw_13006, pa_13007, pw_13007, pa_14008, pw_14008, pa_13009, pw_13009, pa_13010, pw_13010, pa_13012, pw_13012, pa_13013, pw_13013, pa_13014, pw_13014, pa_13015, pw_13015, pa_13016, pw_13016, pa_13017, pw_13017, pa_13018, pw_13018, pa_13020, pw_13020, pa_13021, pw_13021, pa_13022, pw_13022, pa_13023, pw_13023, pa_13024, pw_13024, pa_13025, pw_13025, pa_13026, pw_13026, pa_13027, pw_13027, pa_13028, pw_13028, pa_13029, pw_13029, pa_13031, pw_13031, pa_13032, pw_13032, pa_13033, pw_13033, pa_14034, pw_14034, pa_13035, pw_13035, pa_13036, pw_13036, pa_13037, pw_13037, pa_13038, pw_13038, pa_13039, pw_13039, pa_13042, pw_13042, pa_13043, pw_13043, pa_13044, pw_13044, pa_13045, pw_13045, pa_13046, pw_13046, pa_13047, pw_13047, pa_13048, pw_13048, pa_13049, pw_13049, pa_13050, pw_13050, pa_13051, pw_13051, pa_13052, pw_13052, pa_13053, pw_13053, pa_13054, pw_13054, pa_13055, pw_13055, pa_13056, pw_13056, pa_13057, pw_13057, pa_13058, pw_13058, pa_13059, pw_13059, pa_13060, pw_13060, pa_13061, pw_13061, pa_13062, pw_13062, pa_13063, pw_13063, pa_13064, pw_13064, pa_13065, pw_13065, pa_13066, pw_13066, pa_13067, pw_13067, ps_0, ps_1, ps_2, ps_3, ps_4, ps_11, ps_19, ps_30, ps_40, ps_41, ln_13005, ln_13006, ln_13007, ln_14008, ln_13009, ln_13010, ln_13012, ln_13013, ln_13014, ln_13015, ln_13016, ln_13017, ln_13018, ln_13020, ln_13021, ln_13022, ln_13023, ln_13024, ln_13025, ln_13026, ln_13027, ln_13028, ln_13029, ln_13031, ln_13032, ln_13033, ln_14034, ln_13035, ln_13036, ln_13037, ln_13038, ln_13039, ln_13042, ln_13043, ln_13044, ln_13045, ln_13046, ln_13047, ln_13048, ln_13049, ln_13050, ln_13051, ln_13052, ln_13053, ln_13054, ln_13055, ln_13056, ln_13057, ln_13058, ln_13059, ln_13060, ln_13061, ln_13062, ln_13063, ln_13064, ln_13065, ln_13066, ln_13067, gd_t, w_eq, show ∀ j, stO N t 3 (((N 12000 19)).toNat : Int) 12000 j = N 12000 j from fun _ => rfl, if_neg]
    rw [e5]
  case h3 =>
    intro i hi
    obtain ⟨-, -, -, a4⟩ := g.x i (by omega) (by omega)
    have eb : bkX (stO N t 3 ((N 12000 19))) t i 14034 i = N 14034 i := if_neg (by omega)
    unfold b_X11_breakAll_44
    simp (disch := omega) only [aok, up_s, true_and, false_and, and_true, and_false, if_true, if_false, ↓reduceIte, ↓Option.bind_some, Int.reduceEq, Int.reduceNe, Int.reduceLT, Int.reduceLE, gd_true, gd_false, bind_b, q10, eq_self, reduceCtorEq, not_true_eq_false, not_false_eq_true, ne_eq, pt_0, pt_1, pt_2, pt_3, pt_4, pt_5, pt_6, pt_7, pt_8, pt_9, pt_10, pt_11, pt_12, pt_13, pt_14, pt_15, pt_16, pt_17, pt_18, pt_19, pt_20, pt_21, pt_22, pt_23, pt_24, pt_25, pt_26, pt_27, pt_28, pt_29, pt_30, pt_31, pt_32, pt_33, pt_34, pt_35, pt_36, pt_37, pt_38, pt_39, pt_40, pt_41, pt_42, pt_43, pt_44, pt_45, pt_46, pt_47, pt_48, pt_49, pt_50, pt_51, pt_52, pt_53, pt_54, pt_55, pt_56, pt_57, pt_58, pt_59, pt_60, pt_61, pt_62, pt_63, pt_64, pt_65, pt_66, pt_67, pa_13005, pw_13005, pa_13006, pw_13006, pa_13007, pw_13007, pa_14008, pw_14008, pa_13009, pw_13009, pa_13010, pw_13010, pa_13012, pw_13012, pa_13013, pw_13013, pa_13014, pw_13014, pa_13015, pw_13015, pa_13016, pw_13016, pa_13017, pw_13017, pa_13018, pw_13018, pa_13020, pw_13020, pa_13021, pw_13021, pa_13022, pw_13022, pa_13023, pw_13023, pa_13024, pw_13024, pa_13025, pw_13025, pa_13026, pw_13026, pa_13027, pw_13027, pa_13028, pw_13028, pa_13029, pw_13029, pa_13031, pw_13031, pa_13032, pw_13032, pa_13033, pw_13033, pa_14034, pw_14034, pa_13035, pw_13035, pa_13036, pw_13036, pa_13037, pw_13037, pa_13038, pw_13038, pa_13039, pw_13039, pa_13042, pw_13042, pa_13043, pw_13043, pa_13044, pw_13044, pa_13045, pw_13045, pa_13046, pw_13046, pa_13047, pw_13047, pa_13048, pw_13048, pa_13049, pw_13049, pa_13050, pw_13050, pa_13051, pw_13051, pa_13052, pw_13052, pa_13053, pw_13053, pa_13054, pw_13054, pa_13055, pw_13055, pa_13056, pw_13056, pa_13057, pw_13057, pa_13058, pw_13058, pa_13059, pw_13059, pa_13060, pw_13060, pa_13061, pw_13061, pa_13062, pw_13062, pa_13063, pw_13063, pa_13064, pw_13064, pa_13065, pw_13065, pa_13066, pw_13066, pa_13067, pw_13067, ps_0, ps_1, ps_2, ps_3, ps_4, ps_11, ps_19, ps_30, ps_40, ps_41, ln_13005, ln_13006, ln_13007, ln_14008, ln_13009, ln_13010, ln_13012, ln_13013, ln_13014, ln_13015, ln_13016, ln_13017, ln_13018, ln_13020, ln_13021, ln_13022, ln_13023, ln_13024, ln_13025, ln_13026, ln_13027, ln_13028, ln_13029, ln_13031, ln_13032, ln_13033, ln_14034, ln_13035, ln_13036, ln_13037, ln_13038, ln_13039, ln_13042, ln_13043, ln_13044, ln_13045, ln_13046, ln_13047, ln_13048, ln_13049, ln_13050, ln_13051, ln_13052, ln_13053, ln_13054, ln_13055, ln_13056, ln_13057, ln_13058, ln_13059, ln_13060, ln_13061, ln_13062, ln_13063, ln_13064, ln_13065, ln_13066, ln_13067, gd_t, w_eq, o1, o2, show ∀ j, bkX (stO N t 3 ((N 12000 19))) t i 12000 j = N 12000 j from fun _ => rfl, show ∀ j, bkX (stO N t 3 ((N 12000 19))) t i 13033 j = N 13033 j from fun _ => rfl, eb, if_pos]
    by_cases e : N 13033 i = t
    · show _ = some (Sum.inl ((i : Int) + 1, mk C (bkX (stO N t 3 ((N 12000 19))) t ((i : Int) + 1)) A))
      rw [if_pos e, ← bkX_T (by omega) (show stO N t 3 ((N 12000 19)) 13033 i = t from e)]
      split <;> rfl
    · show _ = some (Sum.inl ((i : Int) + 1, mk C (bkX (stO N t 3 ((N 12000 19))) t ((i : Int) + 1)) A))
      rw [if_neg e, ← bkX_F (show ¬ stO N t 3 ((N 12000 19)) 13033 i = t from e)]
      by_cases e2 : N 14034 i = 0
      · rw [if_pos e2, show (0 : Int) = bkX (stO N t 3 ((N 12000 19))) t i 14034 i from by rw [eb, e2], up_same]
      · rw [if_neg e2, show (1 : Int) = bkX (stO N t 3 ((N 12000 19))) t i 14034 i from by rw [eb]; omega, up_same]
  case h4 =>
    unfold b_X11_breakAll_44
    simp (disch := omega) only [aok, up_s, true_and, false_and, and_true, and_false, if_true, if_false, ↓reduceIte, ↓Option.bind_some, Int.reduceEq, Int.reduceNe, Int.reduceLT, Int.reduceLE, gd_true, gd_false, bind_b, q10, eq_self, reduceCtorEq, not_true_eq_false, not_false_eq_true, ne_eq, pt_0, pt_1, pt_2, pt_3, pt_4, pt_5, pt_6, pt_7, pt_8, pt_9, pt_10, pt_11, pt_12, pt_13, pt_14, pt_15, pt_16, pt_17, pt_18, pt_19, pt_20, pt_21, pt_22, pt_23, pt_24, pt_25, pt_26, pt_27, pt_28, pt_29, pt_30, pt_31, pt_32, pt_33, pt_34, pt_35, pt_36, pt_37, pt_38, pt_39, pt_40, pt_41, pt_42, pt_43, pt_44, pt_45, pt_46, pt_47, pt_48, pt_49, pt_50, pt_51, pt_52, pt_53, pt_54, pt_55, pt_56, pt_57, pt_58, pt_59, pt_60, pt_61, pt_62, pt_63, pt_64, pt_65, pt_66, pt_67, pa_13005, pw_13005, pa_13006, pw_13006, pa_13007, pw_13007, pa_14008, pw_14008, pa_13009, pw_13009, pa_13010, pw_13010, pa_13012, pw_13012, pa_13013, pw_13013, pa_13014, pw_13014, pa_13015, pw_13015, pa_13016, pw_13016, pa_13017, pw_13017, pa_13018, pw_13018, pa_13020, pw_13020, pa_13021, pw_13021, pa_13022, pw_13022, pa_13023, pw_13023, pa_13024, pw_13024, pa_13025, pw_13025, pa_13026, pw_13026, pa_13027, pw_13027, pa_13028, pw_13028, pa_13029, pw_13029, pa_13031, pw_13031, pa_13032, pw_13032, pa_13033, pw_13033, pa_14034, pw_14034, pa_13035, pw_13035, pa_13036, pw_13036, pa_13037, pw_13037, pa_13038, pw_13038, pa_13039, pw_13039, pa_13042, pw_13042, pa_13043, pw_13043, pa_13044, pw_13044, pa_13045, pw_13045, pa_13046, pw_13046, pa_13047, pw_13047, pa_13048, pw_13048, pa_13049, pw_13049, pa_13050, pw_13050, pa_13051, pw_13051, pa_13052, pw_13052, pa_13053, pw_13053, pa_13054, pw_13054, pa_13055, pw_13055, pa_13056, pw_13056, pa_13057, pw_13057, pa_13058, pw_13058, pa_13059, pw_13059, pa_13060, pw_13060, pa_13061, pw_13061, pa_13062, pw_13062, pa_13063, pw_13063, pa_13064, pw_13064, pa_13065, pw_13065, pa_13066, pw_13066, pa_13067, pw_13067, ps_0, ps_1, ps_2, ps_3, ps_4, ps_11, ps_19, ps_30, ps_40, ps_41, ln_13005, ln_13006, ln_13007, ln_14008, ln_13009, ln_13010, ln_13012, ln_13013, ln_13014, ln_13015, ln_13016, ln_13017, ln_13018, ln_13020, ln_13021, ln_13022, ln_13023, ln_13024, ln_13025, ln_13026, ln_13027, ln_13028, ln_13029, ln_13031, ln_13032, ln_13033, ln_14034, ln_13035, ln_13036, ln_13037, ln_13038, ln_13039, ln_13042, ln_13043, ln_13044, ln_13045, ln_13046, ln_13047, ln_13048, ln_13049, ln_13050, ln_13051, ln_13052, ln_13053, ln_13054, ln_13055, ln_13056, ln_13057, ln_13058, ln_13059, ln_13060, ln_13061, ln_13062, ln_13063, ln_13064, ln_13065, ln_13066, ln_13067, gd_t, w_eq, show ∀ j, bkX (stO N t 3 ((N 12000 19))) t (((N 12000 30)).toNat : Int) 12000 j = N 12000 j from fun _ => rfl, if_neg]
    unfold brkN
    rw [e3]
