/-! PURE PART, a21: all brokers come back, all that is open ends -/
/-- every broker is there -/
def ALV (N : Nd) : Prop := ∀ i, 0 ≤ i → i < 3 → bt ((N 12000 2)) i = true
/-- no transaction goes on, below x -/
def GON (x : Int) (N : Nd) : Prop := ∀ y, 0 ≤ y → y < x → N 13033 y = -1
/-- every partition is led; replicas on brokers below b are in sync -/
def FSB (b : Int) (N : Nd) : Prop := ∀ p, 0 ≤ p → p < 3 → 0 ≤ N 13013 p ∧ ∀ r, 0 ≤ r → r < 3 → brk N p r < b → bt (N 13014 p) r = true ∧ N 13016 (3 * p + r) = eol N p ∧ (r ≠ N 13013 p → N 13017 (3 * p + r) = (N 12000 1))
def HLT (N : Nd) : Prop := ALV N ∧ GON 2 N ∧ FSB 3 N
theorem bits7 : ∀ s : Fin 8, bt (s.val : Int) 0 = true → bt (s.val : Int) 1 = true → bt (s.val : Int) 2 = true → (s.val : Int) = 7 := by decide +kernel
theorem brk3 {N : Nd} {p r : Int} : 0 ≤ brk N p r ∧ brk N p r < 3 := by unfold brk; omega
section HEALS
variable {n : Int} {C : Cd} {N : Nd} {A : Ad}
abbrev KX (n : Int) (R : Nd → Prop) : Int × Mm → Prop := fun r => (-99 ≤ r.1 ∧ r.1 ≤ 1000) ∧ ∃ C2 N2 A2, r.2 = mk C2 N2 A2 ∧ LW n C2 N2 A2 ∧ R N2
theorem KX.ref {e : Option (Int × Mm)} {R : Nd → Prop} {v2 k : Int} (l : LW n C N A) (hk : k ≠ 0) (hR : R N) (h : CALL n N e (up (up N 12000 0 0) 12000 0 k) v2) : Ok e (KX (n + 1) R) := by
  obtain ⟨z, C2, A2, h1, -, h3, h4⟩ := h
  rw [mg_th2] at h1 h4
  have z3 := h3 (by rw [up_s, if_pos ⟨rfl, rfl⟩]; exact hk)
  exact ⟨_, h1, ⟨by show -99 ≤ z; omega, by show z ≤ 1000; omega⟩, C2, N, A2, rfl, ⟨h4, l.2⟩, hR⟩
theorem KX.br {e : Option (Int × Mm)} {R : Nd → Prop} {N2 : Nd} {v2 : Int} (l : LW n C N A) (h0 : N2 12000 0 = 0) (hv : -99 ≤ v2 ∧ v2 ≤ 1000) (hE : EBr N N2) (hR : R (mg N N2)) (h : CALL n N e N2 v2) : Ok e (KX (n + 1) R) := by
  obtain ⟨z, C2, A2, h1, h2, -, h4⟩ := h
  have e := h2 h0
  exact ⟨_, h1, by show -99 ≤ z ∧ z ≤ 1000; rw [e]; exact hv, C2, _, A2, rfl, l.br hE h4, hR⟩
theorem x_speed (l : LW n C N A) : Ok (q_L_speed (mk C N A) 11000 9) (KX (n + 1) (fun _ => True)) := by
  have j := l.1
  have s7 := j.jn.g.s.2.2.2.2.2.2.1
  refine KX.br (N2 := up (up N 12000 0 0) 12000 3 9) (v2 := (N 12000 3)) l rfl (by omega) ?_ trivial (L_speed j fun C A => ?_)
  · refine ⟨Mo.rf, OK2.ar rfl, fun a a1 a2 _ => ?_, ⟨rfl, rfl, rfl, rfl⟩, fun a ha => ?_, Int.le_refl _, fun m m1 m2 => ?_, fun m m1 m2 h => Or.inl ⟨m2, h, rfl⟩, fun h => h⟩
    · funext k
      rw [up_s, if_neg (by omega), up_s, if_neg (by omega)]
    · funext k
      rw [up_s, if_neg (by omega), up_s, if_neg (by omega)]
    · have m2' : m < (N 12000 19) := m2
      omega
  · unfold p_X11_speed
    have h : (0 : Int) ≤ 9 ∧ (9 : Int) ≤ 9 := by decide
    simp (disch := omega) only [aok, up_s, true_and, false_and, and_true, and_false, if_true, if_false, ↓reduceIte, ↓Option.bind_some, Int.reduceEq, Int.reduceNe, Int.reduceLT, Int.reduceLE, gd_true, gd_false, bind_b, q10, eq_self, reduceCtorEq, not_true_eq_false, not_false_eq_true, ne_eq, pt_0, pt_1, pt_2, pt_3, pt_4, pt_5, pt_6, pt_7, pt_8, pt_9, pt_10, pt_11, pt_12, pt_13, pt_14, pt_15, pt_16, pt_17, pt_18, pt_19, pt_20, pt_21, pt_22, pt_23, pt_24, pt_25, pt_26, pt_27, pt_28, pt_29, pt_30, pt_31, pt_32, pt_33, pt_34, pt_35, pt_36, pt_37, pt_38, pt_39, pt_40, pt_41, pt_42, pt_43, pt_44, pt_45, pt_46, pt_47, pt_48, pt_49, pt_50, pt_51, pt_52, pt_53, pt_54, pt_55, pt_56, pt_57, pt_58, pt_59, pt_60, pt_61, pt_62, pt_63, pt_64, pt_65, pt_66, pt_67, pa_13005, pw_13005, pa_13006, pw_13006, pa_13007, pw_13007, pa_14008, pw_14008, pa_13009, pw_13009, pa_13010, pw_13010, pa_13012, pw_13012, pa_13013, pw_13013, pa_13014, pw_13014, pa_13015, pw_13015, pa_13016, pw_13016, pa_13017, pw_13017, pa_13018, pw_13018, pa_13020, pw_13020, pa_13021, pw_13021, pa_13022, pw_13022, pa_13023, pw_13023, pa_13024, pw_13024, pa_13025, pw_13025, pa_13026, pw_13026, pa_13027, pw_13027, pa_13028, pw_13028, pa_13029, pw_13029, pa_13031, pw_13031, pa_13032, pw_13032, pa_13033, pw_13033, pa_14034, pw_14034, pa_13035, pw_13035, pa_13036, pw_13036, pa_13037, pw_13037, pa_13038, pw_13038, pa_13039, pw_13039, pa_13042, pw_13042, pa_13043, pw_13043, pa_13044, pw_13044, pa_13045, pw_13045, pa_13046, pw_13046, pa_13047, pw_13047, pa_13048, pw_13048, pa_13049, pw_13049, pa_13050, pw_13050, pa_13051, pw_13051, pa_13052, pw_13052, pa_13053, pw_13053, pa_13054, pw_13054, pa_13055, pw_13055, pa_13056, pw_13056, pa_13057, pw_13057, pa_13058, pw_13058, pa_13059, pw_13059, pa_13060, pw_13060, pa_13061, pw_13061, pa_13062, pw_13062, pa_13063, pw_13063, pa_13064, pw_13064, pa_13065, pw_13065, pa_13066, pw_13066, pa_13067, pw_13067, ps_0, ps_1, ps_2, ps_3, ps_4, ps_11, ps_19, ps_30, ps_40, ps_41, ln_13005, ln_13006, ln_13007, ln_14008, ln_13009, ln_13010, ln_13012, ln_13013, ln_13014, ln_13015, ln_13016, ln_13017, ln_13018, ln_13020, ln_13021, ln_13022, ln_13023, ln_13024, ln_13025, ln_13026, ln_13027, ln_13028, ln_13029, ln_13031, ln_13032, ln_13033, ln_14034, ln_13035, ln_13036, ln_13037, ln_13038, ln_13039, ln_13042, ln_13043, ln_13044, ln_13045, ln_13046, ln_13047, ln_13048, ln_13049, ln_13050, ln_13051, ln_13052, ln_13053, ln_13054, ln_13055, ln_13056, ln_13057, ln_13058, ln_13059, ln_13060, ln_13061, ln_13062, ln_13063, ln_13064, ln_13065, ln_13066, ln_13067, gd_t, w_eq, m_in, h]
theorem x_restore (l : LW n C N A) {b : Int} (b1 : 0 ≤ b) (b2 : b < 3) : Ok (q_L_restore (mk C N A) 11000 b) (KX (n + 1) (fun X => ∀ i, 0 ≤ i → i < 3 → (bt ((N 12000 2)) i = true ∨ i = b) → bt ((X 12000 2)) i = true)) := by
  have j := l.1
  have g := j.jn.g
  have s6 := g.s.2.2.2.2.2.1
  have s2 := g.s.2.1
  have h1 : 0 ≤ b ∧ b ≤ 2 := by omega
  by_cases h2 : bt ((N 12000 2)) b = true
  · refine KX.ref (k := 2) (v2 := 0) l (by decide) (fun i _ _ h => ?_) (L_restore j fun C A => ?_)
    · rcases h with h | h
      · exact h
      · rw [h]; exact h2
    · unfold p_X11_restore
      simp (disch := omega) only [aok, up_s, true_and, false_and, and_true, and_false, if_true, if_false, ↓reduceIte, ↓Option.bind_some, Int.reduceEq, Int.reduceNe, Int.reduceLT, Int.reduceLE, gd_true, gd_false, bind_b, q10, eq_self, reduceCtorEq, not_true_eq_false, not_false_eq_true, ne_eq, pt_0, pt_1, pt_2, pt_3, pt_4, pt_5, pt_6, pt_7, pt_8, pt_9, pt_10, pt_11, pt_12, pt_13, pt_14, pt_15, pt_16, pt_17, pt_18, pt_19, pt_20, pt_21, pt_22, pt_23, pt_24, pt_25, pt_26, pt_27, pt_28, pt_29, pt_30, pt_31, pt_32, pt_33, pt_34, pt_35, pt_36, pt_37, pt_38, pt_39, pt_40, pt_41, pt_42, pt_43, pt_44, pt_45, pt_46, pt_47, pt_48, pt_49, pt_50, pt_51, pt_52, pt_53, pt_54, pt_55, pt_56, pt_57, pt_58, pt_59, pt_60, pt_61, pt_62, pt_63, pt_64, pt_65, pt_66, pt_67, pa_13005, pw_13005, pa_13006, pw_13006, pa_13007, pw_13007, pa_14008, pw_14008, pa_13009, pw_13009, pa_13010, pw_13010, pa_13012, pw_13012, pa_13013, pw_13013, pa_13014, pw_13014, pa_13015, pw_13015, pa_13016, pw_13016, pa_13017, pw_13017, pa_13018, pw_13018, pa_13020, pw_13020, pa_13021, pw_13021, pa_13022, pw_13022, pa_13023, pw_13023, pa_13024, pw_13024, pa_13025, pw_13025, pa_13026, pw_13026, pa_13027, pw_13027, pa_13028, pw_13028, pa_13029, pw_13029, pa_13031, pw_13031, pa_13032, pw_13032, pa_13033, pw_13033, pa_14034, pw_14034, pa_13035, pw_13035, pa_13036, pw_13036, pa_13037, pw_13037, pa_13038, pw_13038, pa_13039, pw_13039, pa_13042, pw_13042, pa_13043, pw_13043, pa_13044, pw_13044, pa_13045, pw_13045, pa_13046, pw_13046, pa_13047, pw_13047, pa_13048, pw_13048, pa_13049, pw_13049, pa_13050, pw_13050, pa_13051, pw_13051, pa_13052, pw_13052, pa_13053, pw_13053, pa_13054, pw_13054, pa_13055, pw_13055, pa_13056, pw_13056, pa_13057, pw_13057, pa_13058, pw_13058, pa_13059, pw_13059, pa_13060, pw_13060, pa_13061, pw_13061, pa_13062, pw_13062, pa_13063, pw_13063, pa_13064, pw_13064, pa_13065, pw_13065, pa_13066, pw_13066, pa_13067, pw_13067, ps_0, ps_1, ps_2, ps_3, ps_4, ps_11, ps_19, ps_30, ps_40, ps_41, ln_13005, ln_13006, ln_13007, ln_14008, ln_13009, ln_13010, ln_13012, ln_13013, ln_13014, ln_13015, ln_13016, ln_13017, ln_13018, ln_13020, ln_13021, ln_13022, ln_13023, ln_13024, ln_13025, ln_13026, ln_13027, ln_13028, ln_13029, ln_13031, ln_13032, ln_13033, ln_14034, ln_13035, ln_13036, ln_13037, ln_13038, ln_13039, ln_13042, ln_13043, ln_13044, ln_13045, ln_13046, ln_13047, ln_13048, ln_13049, ln_13050, ln_13051, ln_13052, ln_13053, ln_13054, ln_13055, ln_13056, ln_13057, ln_13058, ln_13059, ln_13060, ln_13061, ln_13062, ln_13063, ln_13064, ln_13065, ln_13066, ln_13067, gd_t, w_eq, m_in, h1, m_has, h2, m_refuse]
  · have sb := sbt_ok s6.1 s6.2 h1.1 (by omega : b < 3)
    have jz : JN (up N 12000 0 0) := j.jn
    have jl : JN (up (up N 12000 0 0) 12000 2 (sbt ((N 12000 2)) b)) := jz.upLive sb.1
    have eb := EBr.re j.jn h1.1 (by omega : b < 3) rfl
    have rc := reA_c (N := up (up N 12000 0 0) 12000 2 (sbt ((N 12000 2)) b)) (b := b) s2.1 s2.2
    have z0 := (reA_at (N := up (up N 12000 0 0) 12000 2 (sbt ((N 12000 2)) b)) (b := b) s2.1).1 12000 (by decide)
    have mr := fun C A => @m_restoreLoop C (up (up N 12000 0 0) 12000 2 (sbt ((N 12000 2)) b)) A b jl.g
    generalize reA (up (up N 12000 0 0) 12000 2 (sbt ((N 12000 2)) b)) b = R at eb rc z0 mr
    refine KX.br (N2 := R.2) (v2 := R.1) l (by rw [z0]; rfl) (by omega) eb (fun i i1 i2 h => ?_) (L_restore j fun C A => ?_)
    · show bt (R.2 12000 2) i = true
      rw [z0]
      have q := (sb.2 i i1 i2).mpr
      refine q ?_
      by_cases e : i = b
      · rw [if_pos e]; trivial
      · rw [if_neg e]
        exact h.resolve_right e
    · unfold p_X11_restore
      have e : ior ((N 12000 2)) (shl 1 b) = sbt ((N 12000 2)) b := rfl
      simp (disch := omega) only [aok, up_s, true_and, false_and, and_true, and_false, if_true, if_false, ↓reduceIte, ↓Option.bind_some, Int.reduceEq, Int.reduceNe, Int.reduceLT, Int.reduceLE, gd_true, gd_false, bind_b, q10, eq_self, reduceCtorEq, not_true_eq_false, not_false_eq_true, ne_eq, pt_0, pt_1, pt_2, pt_3, pt_4, pt_5, pt_6, pt_7, pt_8, pt_9, pt_10, pt_11, pt_12, pt_13, pt_14, pt_15, pt_16, pt_17, pt_18, pt_19, pt_20, pt_21, pt_22, pt_23, pt_24, pt_25, pt_26, pt_27, pt_28, pt_29, pt_30, pt_31, pt_32, pt_33, pt_34, pt_35, pt_36, pt_37, pt_38, pt_39, pt_40, pt_41, pt_42, pt_43, pt_44, pt_45, pt_46, pt_47, pt_48, pt_49, pt_50, pt_51, pt_52, pt_53, pt_54, pt_55, pt_56, pt_57, pt_58, pt_59, pt_60, pt_61, pt_62, pt_63, pt_64, pt_65, pt_66, pt_67, pa_13005, pw_13005, pa_13006, pw_13006, pa_13007, pw_13007, pa_14008, pw_14008, pa_13009, pw_13009, pa_13010, pw_13010, pa_13012, pw_13012, pa_13013, pw_13013, pa_13014, pw_13014, pa_13015, pw_13015, pa_13016, pw_13016, pa_13017, pw_13017, pa_13018, pw_13018, pa_13020, pw_13020, pa_13021, pw_13021, pa_13022, pw_13022, pa_13023, pw_13023, pa_13024, pw_13024, pa_13025, pw_13025, pa_13026, pw_13026, pa_13027, pw_13027, pa_13028, pw_13028, pa_13029, pw_13029, pa_13031, pw_13031, pa_13032, pw_13032, pa_13033, pw_13033, pa_14034, pw_14034, pa_13035, pw_13035, pa_13036, pw_13036, pa_13037, pw_13037, pa_13038, pw_13038, pa_13039, pw_13039, pa_13042, pw_13042, pa_13043, pw_13043, pa_13044, pw_13044, pa_13045, pw_13045, pa_13046, pw_13046, pa_13047, pw_13047, pa_13048, pw_13048, pa_13049, pw_13049, pa_13050, pw_13050, pa_13051, pw_13051, pa_13052, pw_13052, pa_13053, pw_13053, pa_13054, pw_13054, pa_13055, pw_13055, pa_13056, pw_13056, pa_13057, pw_13057, pa_13058, pw_13058, pa_13059, pw_13059, pa_13060, pw_13060, pa_13061, pw_13061, pa_13062, pw_13062, pa_13063, pw_13063, pa_13064, pw_13064, pa_13065, pw_13065, pa_13066, pw_13066, pa_13067, pw_13067, ps_0, ps_1, ps_2, ps_3, ps_4, ps_11, ps_19, ps_30, ps_40, ps_41, ln_13005, ln_13006, ln_13007, ln_14008, ln_13009, ln_13010, ln_13012, ln_13013, ln_13014, ln_13015, ln_13016, ln_13017, ln_13018, ln_13020, ln_13021, ln_13022, ln_13023, ln_13024, ln_13025, ln_13026, ln_13027, ln_13028, ln_13029, ln_13031, ln_13032, ln_13033, ln_14034, ln_13035, ln_13036, ln_13037, ln_13038, ln_13039, ln_13042, ln_13043, ln_13044, ln_13045, ln_13046, ln_13047, ln_13048, ln_13049, ln_13050, ln_13051, ln_13052, ln_13053, ln_13054, ln_13055, ln_13056, ln_13057, ln_13058, ln_13059, ln_13060, ln_13061, ln_13062, ln_13063, ln_13064, ln_13065, ln_13066, ln_13067, gd_t, w_eq, m_in, h1, m_has, h2, e, mr]
theorem lead_all (l : LW n C N A) (a : ALV N) : ∀ p, 0 ≤ p → p < 3 → 0 ≤ N 13013 p := fun p p1 p2 => by
  have w := l.2.1.1
  have p3 : p < (N 12000 11) := by have := w.1.1.2.1; omega
  by_cases z : 0 ≤ N 13013 p
  · exact z
  · have q := w.2.2.2.2.2 p p1 p3 (by omega)
    have b := @brk3 N p (low (N 13014 p))
    rw [a _ b.1 b.2] at q
    exact absurd q (by decide)
theorem rpo_at {p r b : Int} (t : N 13006 (N 13012 p) = 3) (r1 : 0 ≤ r) (r2 : r < 3) (h : brk N p r = b) : rpo N p b = r := by
  unfold rpo
  refine ff_is r1 (by omega) (fun k k1 k2 => decide_eq_false fun q => ?_) (fun _ => decide_eq_true ⟨by rw [t]; exact r2, h⟩)
  have := brk_ne (N := N) (p := p) k1 (by omega) r1 r2 (q.2.trans h.symm)
  omega
theorem tr3 (w : WV N) (j : JN N) {p : Int} (p1 : 0 ≤ p) (p2 : p < 3) : N 13006 (N 13012 p) = 3 := by
  have p3 : p < (N 12000 11) := by have := w.1.1.2.1; omega
  have q := (j.g.p p p1 p3).1
  have e : N 13012 p = 0 := by have := w.1.1.1; omega
  rw [e]
  exact w.1.2.1.2.1
theorem x_fetch (l : LW n C N A) (a : ALV N) {b x : Int} (b1 : 0 ≤ b) (b2 : b < 3) : Ok (q_L_fetch (mk C N A) 11000 b) (KX (n + 1) (fun X => ALV X ∧ (GON x N → GON x X) ∧ (FSB b N → FSB (b + 1) X))) := by
  have j := l.1
  have w := l.2.1.1
  have h1 : 0 ≤ b ∧ b ≤ 2 := by omega
  have h2 : bt ((N 12000 2)) b = true := a b b1 b2
  have jz : JN (up N 12000 0 0) := j.jn
  have eb := EBr.fe (b := b) j.jn
  have rc := feA_c (b := b) jz
  obtain ⟨k1, k2⟩ := feA_at (N := up N 12000 0 0) (b := b) jz.g.s.2.1.1 (lead3 jz.g)
  have mr := fun C A => @m_fetchLoop C (up N 12000 0 0) A b jz.g
  generalize feA (up N 12000 0 0) b = R at eb rc k1 k2 mr
  have z0 := k1 12000 (by decide) (by decide) (by decide)
  refine KX.br (N2 := R.2) (v2 := R.1) l (by rw [z0]; rfl) (by omega) eb ⟨fun i i1 i2 => ?_, fun h y y1 y2 => ?_, fun h p p1 p2 => ?_⟩ (L_fetch j fun C A => ?_)
  · show bt (R.2 12000 2) i = true
    rw [z0]
    exact a i i1 i2
  · show R.2 13033 y = -1
    rw [k1 13033 (by decide) (by decide) (by decide)]
    exact h y y1 y2
  · have p3 : p < (N 12000 11) := by have := w.1.1.2.1; omega
    obtain ⟨ld, fr⟩ := h p p1 p2
    have eL : R.2 13013 = N 13013 := (k1 13013 (by decide) (by decide) (by decide)).trans rfl
    have eB : ∀ r, brk R.2 p r = brk N p r := fun r => brk_ar ((k1 13012 (by decide) (by decide) (by decide)).trans rfl) ((k1 13007 (by decide) (by decide) (by decide)).trans rfl) p r
    have eN : R.2 12000 1 = (N 12000 1) := by rw [z0]; rfl
    have lb := lead3 j.jn.g p p1 p3
    obtain ⟨ki, kr⟩ := k2 p p1
    have fc : feC (up N 12000 0 0) b p ↔ feC N b p := Iff.rfl
    have eo : eol (up N 12000 0 0) p = eol N p := rfl
    have sy : (0 ≤ N 13014 p ∧ N 13014 p ≤ 7) := (j.jn.g.p p p1 p3).2.2.1
    have eoR : eol R.2 p = eol N p := by
      rw [eol_lead (by rw [eL]; exact ld), eol_lead ld, eL, (kr _ ld lb).1, if_neg (fun z => z.2.1.2.2 z.2.2.symm)]
      rfl
    show 0 ≤ R.2 13013 p ∧ ∀ r, 0 ≤ r → r < 3 → brk R.2 p r < b + 1 → bt (R.2 13014 p) r = true ∧ R.2 13016 (3 * p + r) = eol R.2 p ∧ (r ≠ R.2 13013 p → R.2 13017 (3 * p + r) = R.2 12000 1)
    rw [eL, eoR, eN]
    refine ⟨ld, fun r r1 r2 hb => ?_⟩
    rw [eB] at hb
    obtain ⟨e1, e2⟩ := kr r r1 r2
    by_cases e : brk N p r = b
    · have rp : rpo N p b = r := rpo_at (tr3 w j.jn p1 p2) r1 r2 e
      have rp' : rpo (up N 12000 0 0) p b = r := rp
      by_cases el : r = N 13013 p
      · have nf : ¬ feC (up N 12000 0 0) b p := fun z => z.2.2 (by rw [rp']; exact el)
        rw [if_neg (fun z => nf z.2)] at ki
        rw [if_neg (fun z => nf z.2.1)] at e1
        refine ⟨?_, ?_, fun z => absurd el z⟩
        · rw [ki, el]
          exact (j.jn.li p p1 p3).1 ld
        · rw [e1, eol_lead ld, el]
          rfl
      · have yf : feC (up N 12000 0 0) b p := ⟨by rw [rp']; exact r2, ld, fun z => el (by rw [rp'] at z; exact z)⟩
        rw [if_pos ⟨p3, yf⟩, rp'] at ki
        rw [if_pos ⟨p3, yf, rp'.symm⟩] at e1 e2
        refine ⟨?_, e1, fun _ => e2⟩
        rw [ki]
        have q := ((sbt_ok sy.1 sy.2 r1 r2).2 r r1 r2).mpr
        exact q (by rw [if_pos rfl]; trivial)
    · obtain ⟨f1, f2, f3⟩ := fr r r1 r2 (by omega)
      have ne : ¬ (p < (up N 12000 0 0) 12000 11 ∧ feC (up N 12000 0 0) b p ∧ r = rpo (up N 12000 0 0) p b) := fun z => by
        have q := (rpo_b z.2.1.1).2.2
        rw [← z.2.2] at q
        exact e q
      rw [if_neg ne] at e1 e2
      refine ⟨?_, e1.trans f2, fun z => e2.trans (f3 z)⟩
      rw [ki]
      split
      · rename_i z
        have rb := rpo_b z.2.1
        have q := ((sbt_ok sy.1 sy.2 rb.1 z.2.1).2 r r1 r2).mpr
        refine q ?_
        split
        · trivial
        · exact f1
      · exact f1
  · unfold p_X11_fetch
    simp (disch := omega) only [aok, up_s, true_and, false_and, and_true, and_false, if_true, if_false, ↓reduceIte, ↓Option.bind_some, Int.reduceEq, Int.reduceNe, Int.reduceLT, Int.reduceLE, gd_true, gd_false, bind_b, q10, eq_self, reduceCtorEq, not_true_eq_false, not_false_eq_true, ne_eq, pt_0, pt_1, pt_2, pt_3, pt_4, pt_5, pt_6, pt_7, pt_8, pt_9, pt_10, pt_11, pt_12, pt_13, pt_14, pt_15, pt_16, pt_17, pt_18, pt_19, pt_20, pt_21, pt_22, pt_23, pt_24, pt_25, pt_26, pt_27, pt_28, pt_29, pt_30, pt_31, pt_32, pt_33, pt_34, pt_35, pt_36, pt_37, pt_38, pt_39, pt_40, pt_41, pt_42, pt_43, pt_44, pt_45, pt_46, pt_47, pt_48, pt_49, pt_50, pt_51, pt_52, pt_53, pt_54, pt_55, pt_56, pt_57, pt_58, pt_59, pt_60, pt_61, pt_62, pt_63, pt_64, pt_65, pt_66, pt_67, pa_13005, pw_13005, pa_13006, pw_13006, pa_13007, pw_13007, pa_14008, pw_14008, pa_13009, pw_13009, pa_13010, pw_13010, pa_13012, pw_13012, pa_13013, pw_13013, pa_13014, pw_13014, pa_13015, pw_13015, pa_13016, pw_13016, pa_13017, pw_13017, pa_13018, pw_13018, pa_13020, pw_13020, pa_13021, pw_13021, pa_13022, pw_13022, pa_13023, pw_13023, pa_13024, pw_13024, pa_13025, pw_13025, pa_13026, pw_13026, pa_13027, pw_13027, pa_13028, pw_13028, pa_13029, pw_13029, pa_13031, pw_13031, pa_13032, pw_13032, pa_13033, pw_13033, pa_14034, pw_14034, pa_13035, pw_13035, pa_13036, pw_13036, pa_13037, pw_13037, pa_13038, pw_13038, pa_13039, pw_13039, pa_13042, pw_13042, pa_13043, pw_13043, pa_13044, pw_13044, pa_13045, pw_13045, pa_13046, pw_13046, pa_13047, pw_13047, pa_13048, pw_13048, pa_13049, pw_13049, pa_13050, pw_13050, pa_13051, pw_13051, pa_13052, pw_13052, pa_13053, pw_13053, pa_13054, pw_13054, pa_13055, pw_13055, pa_13056, pw_13056, pa_13057, pw_13057, pa_13058, pw_13058, pa_13059, pw_13059, pa_13060, pw_13060, pa_13061, pw_13061, pa_13062, pw_13062, pa_13063, pw_13063, pa_13064, pw_13064, pa_13065, pw_13065, pa_13066, pw_13066, pa_13067, pw_13067, ps_0, ps_1, ps_2, ps_3, ps_4, ps_11, ps_19, ps_30, ps_40, ps_41, ln_13005, ln_13006, ln_13007, ln_14008, ln_13009, ln_13010, ln_13012, ln_13013, ln_13014, ln_13015, ln_13016, ln_13017, ln_13018, ln_13020, ln_13021, ln_13022, ln_13023, ln_13024, ln_13025, ln_13026, ln_13027, ln_13028, ln_13029, ln_13031, ln_13032, ln_13033, ln_14034, ln_13035, ln_13036, ln_13037, ln_13038, ln_13039, ln_13042, ln_13043, ln_13044, ln_13045, ln_13046, ln_13047, ln_13048, ln_13049, ln_13050, ln_13051, ln_13052, ln_13053, ln_13054, ln_13055, ln_13056, ln_13057, ln_13058, ln_13059, ln_13060, ln_13061, ln_13062, ln_13063, ln_13064, ln_13065, ln_13066, ln_13067, gd_t, w_eq, m_in, h1, m_has, h2, mr]
theorem x_abort (l : LW n C N A) (a : ALV N) {x : Int} (x1 : 0 ≤ x) (x2 : x < 2) : Ok (q_L_abort (mk C N A) 11000 x) (KX (n + 1) (fun X => ALV X ∧ (GON x N → GON (x + 1) X))) := by
  have j := l.1
  have g := j.jn.g
  have s3 := g.s.2.2.1
  have s5 := g.s.2.2.2.2.1
  have mt := fun C A => @m_isProducer C (up N 12000 0 0) A x j.z.s
  simp only [up_s, up_s, true_and, false_and, and_true, and_false, if_true, if_false, ↓reduceIte, ↓Option.bind_some, Int.reduceEq, Int.reduceNe, Int.reduceLT, Int.reduceLE, gd_true, gd_false, bind_b, q10, eq_self, reduceCtorEq, not_true_eq_false, not_false_eq_true, ne_eq] at mt
  have h1 : 0 ≤ x ∧ x < (N 12000 30) := by have := l.2.1.1.1.1.2.2.1; omega
  have gx := (g.x x h1.1 h1.2).2.2.1
  by_cases h2 : N 13033 x = -1
  · refine KX.ref (k := 2) (v2 := 0) l (by decide) ⟨a, fun h y y1 y2 => ?_⟩ (L_abort j fun C A => ?_)
    · by_cases e : y = x
      · rw [e]; exact h2
      · exact h y y1 (by omega)
    · unfold p_X11_abort
      simp (disch := omega) only [aok, up_s, true_and, false_and, and_true, and_false, if_true, if_false, ↓reduceIte, ↓Option.bind_some, Int.reduceEq, Int.reduceNe, Int.reduceLT, Int.reduceLE, gd_true, gd_false, bind_b, q10, eq_self, reduceCtorEq, not_true_eq_false, not_false_eq_true, ne_eq, pt_0, pt_1, pt_2, pt_3, pt_4, pt_5, pt_6, pt_7, pt_8, pt_9, pt_10, pt_11, pt_12, pt_13, pt_14, pt_15, pt_16, pt_17, pt_18, pt_19, pt_20, pt_21, pt_22, pt_23, pt_24, pt_25, pt_26, pt_27, pt_28, pt_29, pt_30, pt_31, pt_32, pt_33, pt_34, pt_35, pt_36, pt_37, pt_38, pt_39, pt_40, pt_41, pt_42, pt_43, pt_44, pt_45, pt_46, pt_47, pt_48, pt_49, pt_50, pt_51, pt_52, pt_53, pt_54, pt_55, pt_56, pt_57, pt_58, pt_59, pt_60, pt_61, pt_62, pt_63, pt_64, pt_65, pt_66, pt_67, pa_13005, pw_13005, pa_13006, pw_13006, pa_13007, pw_13007, pa_14008, pw_14008, pa_13009, pw_13009, pa_13010, pw_13010, pa_13012, pw_13012, pa_13013, pw_13013, pa_13014, pw_13014, pa_13015, pw_13015, pa_13016, pw_13016, pa_13017, pw_13017, pa_13018, pw_13018, pa_13020, pw_13020, pa_13021, pw_13021, pa_13022, pw_13022, pa_13023, pw_13023, pa_13024, pw_13024, pa_13025, pw_13025, pa_13026, pw_13026, pa_13027, pw_13027, pa_13028, pw_13028, pa_13029, pw_13029, pa_13031, pw_13031, pa_13032, pw_13032, pa_13033, pw_13033, pa_14034, pw_14034, pa_13035, pw_13035, pa_13036, pw_13036, pa_13037, pw_13037, pa_13038, pw_13038, pa_13039, pw_13039, pa_13042, pw_13042, pa_13043, pw_13043, pa_13044, pw_13044, pa_13045, pw_13045, pa_13046, pw_13046, pa_13047, pw_13047, pa_13048, pw_13048, pa_13049, pw_13049, pa_13050, pw_13050, pa_13051, pw_13051, pa_13052, pw_13052, pa_13053, pw_13053, pa_13054, pw_13054, pa_13055, pw_13055, pa_13056, pw_13056, pa_13057, pw_13057, pa_13058, pw_13058, pa_13059, pw_13059, pa_13060, pw_13060, pa_13061, pw_13061, pa_13062, pw_13062, pa_13063, pw_13063, pa_13064, pw_13064, pa_13065, pw_13065, pa_13066, pw_13066, pa_13067, pw_13067, ps_0, ps_1, ps_2, ps_3, ps_4, ps_11, ps_19, ps_30, ps_40, ps_41, ln_13005, ln_13006, ln_13007, ln_14008, ln_13009, ln_13010, ln_13012, ln_13013, ln_13014, ln_13015, ln_13016, ln_13017, ln_13018, ln_13020, ln_13021, ln_13022, ln_13023, ln_13024, ln_13025, ln_13026, ln_13027, ln_13028, ln_13029, ln_13031, ln_13032, ln_13033, ln_14034, ln_13035, ln_13036, ln_13037, ln_13038, ln_13039, ln_13042, ln_13043, ln_13044, ln_13045, ln_13046, ln_13047, ln_13048, ln_13049, ln_13050, ln_13051, ln_13052, ln_13053, ln_13054, ln_13055, ln_13056, ln_13057, ln_13058, ln_13059, ln_13060, ln_13061, ln_13062, ln_13063, ln_13064, ln_13065, ln_13066, ln_13067, gd_t, w_eq, mt, h1, h2, m_refuse]
  · have jf : JN (fgI (up N 12000 0 0) x 9) := j.jn
    have gf : RG (fgI (up N 12000 0 0) x 9) := j.z
    have me := fun C A => @m_endAll C (fgI (up N 12000 0 0) x 9) A x 3 gf h1.1 h1.2
    have nl : ¬ N 13033 x < 0 := by omega
    have h0 : 0 ≤ fgI (up N 12000 0 0) x 9 13033 x := by rw [fgI_ar (by decide) (by decide)]; show 0 ≤ N 13033 x; omega
    have mo : Mo N (enN (fgI (up N 12000 0 0) x 9) x 3) := (jf.endT (x := x) (k := 3) h1.1 h1.2 h0 (Or.inl rfl)).2
    have cb : 0 ≤ cntO N (N 13033 x) ((N 12000 19)).toNat ∧ cntO N (N 13033 x) ((N 12000 19)).toNat ≤ 150 := by
      have := su_b (g := fun m => if N 13029 m = N 13033 x then 1 else 0) (i0 := 0) (n := ((N 12000 19)).toNat) (b := 1) (fun i _ _ => by split <;> omega)
      unfold cntO
      omega
    have e12 : enN (fgI (up N 12000 0 0) x 9) x 3 12000 = (up N 12000 0 0) 12000 := by
      funext i
      unfold enN stO
      rw [up_s, if_neg (by omega), up_s, if_neg (by omega), ra_s, if_neg (by decide), fgI_ar (by decide) (by decide)]
    refine KX.br (N2 := enN (fgI (up N 12000 0 0) x 9) x 3) (v2 := cntO N (N 13033 x) ((N 12000 19)).toNat) l (by rw [e12]; rfl) (by omega) (EBr.en jf (fun a h0 _ h3 h4 => ?_) (fun i hi => ?_) mo h1.1 h1.2 h0) ⟨fun i i1 i2 => ?_, fun h y y1 y2 => ?_⟩ (L_abort j fun C A => ?_)
    · rw [fgI_ar h3 h4]
      funext q
      rw [up_s, if_neg (fun z => h0 z.1)]
    · rw [fgI_ar (by decide) (by decide), up_s, if_neg (fun z => hi z.2)]
    · show bt (enN (fgI (up N 12000 0 0) x 9) x 3 12000 2) i = true
      rw [e12]
      exact a i i1 i2
    · show enN (fgI (up N 12000 0 0) x 9) x 3 13033 y = -1
      unfold enN stO
      rw [up_s, if_neg (by omega), up_s]
      by_cases e : y = x
      · rw [if_pos ⟨rfl, e⟩]
      · rw [if_neg (fun z => e z.2), ra_s, if_neg (by decide), fgI_ar (by decide) (by decide)]
        exact h y y1 (by omega)
    · unfold p_X11_abort
      simp (disch := omega) only [aok, up_s, true_and, false_and, and_true, and_false, if_true, if_false, ↓reduceIte, ↓Option.bind_some, Int.reduceEq, Int.reduceNe, Int.reduceLT, Int.reduceLE, gd_true, gd_false, bind_b, q10, eq_self, reduceCtorEq, not_true_eq_false, not_false_eq_true, ne_eq, pt_0, pt_1, pt_2, pt_3, pt_4, pt_5, pt_6, pt_7, pt_8, pt_9, pt_10, pt_11, pt_12, pt_13, pt_14, pt_15, pt_16, pt_17, pt_18, pt_19, pt_20, pt_21, pt_22, pt_23, pt_24, pt_25, pt_26, pt_27, pt_28, pt_29, pt_30, pt_31, pt_32, pt_33, pt_34, pt_35, pt_36, pt_37, pt_38, pt_39, pt_40, pt_41, pt_42, pt_43, pt_44, pt_45, pt_46, pt_47, pt_48, pt_49, pt_50, pt_51, pt_52, pt_53, pt_54, pt_55, pt_56, pt_57, pt_58, pt_59, pt_60, pt_61, pt_62, pt_63, pt_64, pt_65, pt_66, pt_67, pa_13005, pw_13005, pa_13006, pw_13006, pa_13007, pw_13007, pa_14008, pw_14008, pa_13009, pw_13009, pa_13010, pw_13010, pa_13012, pw_13012, pa_13013, pw_13013, pa_13014, pw_13014, pa_13015, pw_13015, pa_13016, pw_13016, pa_13017, pw_13017, pa_13018, pw_13018, pa_13020, pw_13020, pa_13021, pw_13021, pa_13022, pw_13022, pa_13023, pw_13023, pa_13024, pw_13024, pa_13025, pw_13025, pa_13026, pw_13026, pa_13027, pw_13027, pa_13028, pw_13028, pa_13029, pw_13029, pa_13031, pw_13031, pa_13032, pw_13032, pa_13033, pw_13033, pa_14034, pw_14034, pa_13035, pw_13035, pa_13036, pw_13036, pa_13037, pw_13037, pa_13038, pw_13038, pa_13039, pw_13039, pa_13042, pw_13042, pa_13043, pw_13043, pa_13044, pw_13044, pa_13045, pw_13045, pa_13046, pw_13046, pa_13047, pw_13047, pa_13048, pw_13048, pa_13049, pw_13049, pa_13050, pw_13050, pa_13051, pw_13051, pa_13052, pw_13052, pa_13053, pw_13053, pa_13054, pw_13054, pa_13055, pw_13055, pa_13056, pw_13056, pa_13057, pw_13057, pa_13058, pw_13058, pa_13059, pw_13059, pa_13060, pw_13060, pa_13061, pw_13061, pa_13062, pw_13062, pa_13063, pw_13063, pa_13064, pw_13064, pa_13065, pw_13065, pa_13066, pw_13066, pa_13067, pw_13067, ps_0, ps_1, ps_2, ps_3, ps_4, ps_11, ps_19, ps_30, ps_40, ps_41, ln_13005, ln_13006, ln_13007, ln_14008, ln_13009, ln_13010, ln_13012, ln_13013, ln_13014, ln_13015, ln_13016, ln_13017, ln_13018, ln_13020, ln_13021, ln_13022, ln_13023, ln_13024, ln_13025, ln_13026, ln_13027, ln_13028, ln_13029, ln_13031, ln_13032, ln_13033, ln_14034, ln_13035, ln_13036, ln_13037, ln_13038, ln_13039, ln_13042, ln_13043, ln_13044, ln_13045, ln_13046, ln_13047, ln_13048, ln_13049, ln_13050, ln_13051, ln_13052, ln_13053, ln_13054, ln_13055, ln_13056, ln_13057, ln_13058, ln_13059, ln_13060, ln_13061, ln_13062, ln_13063, ln_13064, ln_13065, ln_13066, ln_13067, gd_t, w_eq, mt, h1, nl, m_forgetPlaces, me]
      rfl
theorem x_resend (l : LW n C N A) (a : ALV N) {x p y : Int} : Ok (q_L_resend (mk C N A) 11000 x p) (KX (n + 1) (fun X => ALV X ∧ (GON y N → GON y X))) := by
  have j := l.1
  have g := j.jn.g
  have jz : JN (up N 12000 0 0) := j.jn
  have mx := fun C A => @m_isProducer C (up N 12000 0 0) A x j.z.s
  have mt := fun C A => @m_isPartition C (up N 12000 0 0) A p j.z.s
  have mc := fun C A => @m_cutOf C (up N 12000 0 0) A x p j.z.s
  have ec : cuts (up N 12000 0 0) x p = cuts N x p := rfl
  rw [ec] at mc
  simp only [up_s, up_s, true_and, false_and, and_true, and_false, if_true, if_false, ↓reduceIte, ↓Option.bind_some, Int.reduceEq, Int.reduceNe, Int.reduceLT, Int.reduceLE, gd_true, gd_false, bind_b, q10, eq_self, reduceCtorEq, not_true_eq_false, not_false_eq_true, ne_eq] at mx mt
  have s5 := g.s.2.2.2.2.1
  have cb : 0 ≤ cuts N x p ∧ cuts N x p ≤ 150 := by
    have := su_b (g := fun m => if pcut N x p m then 1 else 0) (i0 := 0) (n := ((N 12000 19)).toNat) (b := 1) (fun i _ _ => by split <;> omega)
    unfold cuts
    omega
  by_cases h1 : 0 ≤ x ∧ x < (N 12000 30)
  · by_cases h2 : 0 ≤ p ∧ p < (N 12000 11)
    · have s2 := g.s.2.1
      have mhl := fun C A => @m_hasLeader C (up N 12000 0 0) A p j.z.s h2.1 h2.2
      have eL : up N 12000 0 0 13013 p = N 13013 p := rfl
      rw [eL] at mhl
      by_cases h3 : N 13013 p < 0
      · have nl : ¬ 0 ≤ N 13013 p := by omega
        refine KX.ref (k := 2) (v2 := 0) l (by decide) ⟨a, id⟩ (L_resend j fun C A => ?_)
        unfold p_X11_resend
        simp (disch := omega) only [aok, up_s, true_and, false_and, and_true, and_false, if_true, if_false, ↓reduceIte, ↓Option.bind_some, Int.reduceEq, Int.reduceNe, Int.reduceLT, Int.reduceLE, gd_true, gd_false, bind_b, q10, eq_self, reduceCtorEq, not_true_eq_false, not_false_eq_true, ne_eq, pt_0, pt_1, pt_2, pt_3, pt_4, pt_5, pt_6, pt_7, pt_8, pt_9, pt_10, pt_11, pt_12, pt_13, pt_14, pt_15, pt_16, pt_17, pt_18, pt_19, pt_20, pt_21, pt_22, pt_23, pt_24, pt_25, pt_26, pt_27, pt_28, pt_29, pt_30, pt_31, pt_32, pt_33, pt_34, pt_35, pt_36, pt_37, pt_38, pt_39, pt_40, pt_41, pt_42, pt_43, pt_44, pt_45, pt_46, pt_47, pt_48, pt_49, pt_50, pt_51, pt_52, pt_53, pt_54, pt_55, pt_56, pt_57, pt_58, pt_59, pt_60, pt_61, pt_62, pt_63, pt_64, pt_65, pt_66, pt_67, pa_13005, pw_13005, pa_13006, pw_13006, pa_13007, pw_13007, pa_14008, pw_14008, pa_13009, pw_13009, pa_13010, pw_13010, pa_13012, pw_13012, pa_13013, pw_13013, pa_13014, pw_13014, pa_13015, pw_13015, pa_13016, pw_13016, pa_13017, pw_13017, pa_13018, pw_13018, pa_13020, pw_13020, pa_13021, pw_13021, pa_13022, pw_13022, pa_13023, pw_13023, pa_13024, pw_13024, pa_13025, pw_13025, pa_13026, pw_13026, pa_13027, pw_13027, pa_13028, pw_13028, pa_13029, pw_13029, pa_13031, pw_13031, pa_13032, pw_13032, pa_13033, pw_13033, pa_14034, pw_14034, pa_13035, pw_13035, pa_13036, pw_13036, pa_13037, pw_13037, pa_13038, pw_13038, pa_13039, pw_13039, pa_13042, pw_13042, pa_13043, pw_13043, pa_13044, pw_13044, pa_13045, pw_13045, pa_13046, pw_13046, pa_13047, pw_13047, pa_13048, pw_13048, pa_13049, pw_13049, pa_13050, pw_13050, pa_13051, pw_13051, pa_13052, pw_13052, pa_13053, pw_13053, pa_13054, pw_13054, pa_13055, pw_13055, pa_13056, pw_13056, pa_13057, pw_13057, pa_13058, pw_13058, pa_13059, pw_13059, pa_13060, pw_13060, pa_13061, pw_13061, pa_13062, pw_13062, pa_13063, pw_13063, pa_13064, pw_13064, pa_13065, pw_13065, pa_13066, pw_13066, pa_13067, pw_13067, ps_0, ps_1, ps_2, ps_3, ps_4, ps_11, ps_19, ps_30, ps_40, ps_41, ln_13005, ln_13006, ln_13007, ln_14008, ln_13009, ln_13010, ln_13012, ln_13013, ln_13014, ln_13015, ln_13016, ln_13017, ln_13018, ln_13020, ln_13021, ln_13022, ln_13023, ln_13024, ln_13025, ln_13026, ln_13027, ln_13028, ln_13029, ln_13031, ln_13032, ln_13033, ln_14034, ln_13035, ln_13036, ln_13037, ln_13038, ln_13039, ln_13042, ln_13043, ln_13044, ln_13045, ln_13046, ln_13047, ln_13048, ln_13049, ln_13050, ln_13051, ln_13052, ln_13053, ln_13054, ln_13055, ln_13056, ln_13057, ln_13058, ln_13059, ln_13060, ln_13061, ln_13062, ln_13063, ln_13064, ln_13065, ln_13066, ln_13067, gd_t, w_eq, mx, h1, mt, h2, mc, mhl, nl, m_refuse]
      · have nl : 0 ≤ N 13013 p := by omega
        have eb := eol_b g.t g.p g.e h2.1 h2.2
        have me := fun C A => @m_endOfLog C (up N 12000 0 0) A p j.z.s j.z.t j.z.p h2.1 h2.2
        have e9 : eol (up N 12000 0 0) p = eol N p := rfl
        rw [e9] at me
        have we : w (eol N p + cuts N x p) = eol N p + cuts N x p := w_eq (by omega) (by omega)
        by_cases h4 : 60 < eol N p + cuts N x p
        · refine KX.ref (k := 2) (v2 := 0) l (by decide) ⟨a, id⟩ (L_resend j fun C A => ?_)
          unfold p_X11_resend
          simp (disch := omega) only [aok, up_s, true_and, false_and, and_true, and_false, if_true, if_false, ↓reduceIte, ↓Option.bind_some, Int.reduceEq, Int.reduceNe, Int.reduceLT, Int.reduceLE, gd_true, gd_false, bind_b, q10, eq_self, reduceCtorEq, not_true_eq_false, not_false_eq_true, ne_eq, pt_0, pt_1, pt_2, pt_3, pt_4, pt_5, pt_6, pt_7, pt_8, pt_9, pt_10, pt_11, pt_12, pt_13, pt_14, pt_15, pt_16, pt_17, pt_18, pt_19, pt_20, pt_21, pt_22, pt_23, pt_24, pt_25, pt_26, pt_27, pt_28, pt_29, pt_30, pt_31, pt_32, pt_33, pt_34, pt_35, pt_36, pt_37, pt_38, pt_39, pt_40, pt_41, pt_42, pt_43, pt_44, pt_45, pt_46, pt_47, pt_48, pt_49, pt_50, pt_51, pt_52, pt_53, pt_54, pt_55, pt_56, pt_57, pt_58, pt_59, pt_60, pt_61, pt_62, pt_63, pt_64, pt_65, pt_66, pt_67, pa_13005, pw_13005, pa_13006, pw_13006, pa_13007, pw_13007, pa_14008, pw_14008, pa_13009, pw_13009, pa_13010, pw_13010, pa_13012, pw_13012, pa_13013, pw_13013, pa_13014, pw_13014, pa_13015, pw_13015, pa_13016, pw_13016, pa_13017, pw_13017, pa_13018, pw_13018, pa_13020, pw_13020, pa_13021, pw_13021, pa_13022, pw_13022, pa_13023, pw_13023, pa_13024, pw_13024, pa_13025, pw_13025, pa_13026, pw_13026, pa_13027, pw_13027, pa_13028, pw_13028, pa_13029, pw_13029, pa_13031, pw_13031, pa_13032, pw_13032, pa_13033, pw_13033, pa_14034, pw_14034, pa_13035, pw_13035, pa_13036, pw_13036, pa_13037, pw_13037, pa_13038, pw_13038, pa_13039, pw_13039, pa_13042, pw_13042, pa_13043, pw_13043, pa_13044, pw_13044, pa_13045, pw_13045, pa_13046, pw_13046, pa_13047, pw_13047, pa_13048, pw_13048, pa_13049, pw_13049, pa_13050, pw_13050, pa_13051, pw_13051, pa_13052, pw_13052, pa_13053, pw_13053, pa_13054, pw_13054, pa_13055, pw_13055, pa_13056, pw_13056, pa_13057, pw_13057, pa_13058, pw_13058, pa_13059, pw_13059, pa_13060, pw_13060, pa_13061, pw_13061, pa_13062, pw_13062, pa_13063, pw_13063, pa_13064, pw_13064, pa_13065, pw_13065, pa_13066, pw_13066, pa_13067, pw_13067, ps_0, ps_1, ps_2, ps_3, ps_4, ps_11, ps_19, ps_30, ps_40, ps_41, ln_13005, ln_13006, ln_13007, ln_14008, ln_13009, ln_13010, ln_13012, ln_13013, ln_13014, ln_13015, ln_13016, ln_13017, ln_13018, ln_13020, ln_13021, ln_13022, ln_13023, ln_13024, ln_13025, ln_13026, ln_13027, ln_13028, ln_13029, ln_13031, ln_13032, ln_13033, ln_14034, ln_13035, ln_13036, ln_13037, ln_13038, ln_13039, ln_13042, ln_13043, ln_13044, ln_13045, ln_13046, ln_13047, ln_13048, ln_13049, ln_13050, ln_13051, ln_13052, ln_13053, ln_13054, ln_13055, ln_13056, ln_13057, ln_13058, ln_13059, ln_13060, ln_13061, ln_13062, ln_13063, ln_13064, ln_13065, ln_13066, ln_13067, gd_t, w_eq, mx, h1, mt, h2, mc, mhl, nl, me, we, h4, m_refuse]
        · have h60 : eol (up N 12000 0 0) p + cuts (up N 12000 0 0) x p ≤ 60 := by rw [e9, ec]; omega
          have ml' := fun C A => @m_rsLoop C (up N 12000 0 0) A x p jz h2.1 h2.2 nl h60
          have ri := rs_all (x := x) jz h2.1 h2.2 nl h60 ((N 12000 19)).toNat (by show ((((N 12000 19)).toNat : Nat) : Int) ≤ (N 12000 19); omega)
          have ra := fun a h => @rsA_ar (up N 12000 0 0) x p a ((N 12000 19)).toNat h
          refine KX.br (N2 := rsA (up N 12000 0 0) x p ((N 12000 19)).toNat) (v2 := cuts N x p) l (by rw [ra 12000 (by decide)]; rfl) (by omega) ?_ ⟨fun i i1 i2 => ?_, fun h z z1 z2 => ?_⟩ (L_resend j fun C A => ?_)
          · refine EBr.lo (Y := up N 12000 0 0) ri.2.1 (OK2.ar (ra 13025 (by decide))) ri.2.2.1 (fun j h0 _ h2 _ => by rw [up_s, if_neg (fun z => h0 z.2)]) (fun a h => by funext k; rw [up_s, if_neg (fun z => h z.1)]) (Int.le_refl _) (fun h q q1 q2 hl => ?_)
            rw [ra 12000 (by decide)] at q2
            have q2' : q < (N 12000 11) := q2
            rw [ra 13013 (by decide)] at hl
            have hl' : N 13013 q < 0 := hl
            rw [ra 12000 (by decide), ra 13014 (by decide), brk_ar (ra 13012 (by decide)) (ra 13007 (by decide))]
            exact h q q1 q2' hl'
          · show bt (rsA (up N 12000 0 0) x p ((N 12000 19)).toNat 12000 2) i = true
            rw [ra 12000 (by decide)]
            exact a i i1 i2
          · show rsA (up N 12000 0 0) x p ((N 12000 19)).toNat 13033 z = -1
            rw [ra 13033 (by decide)]
            exact h z z1 z2
          · unfold p_X11_resend
            simp (disch := omega) only [aok, up_s, true_and, false_and, and_true, and_false, if_true, if_false, ↓reduceIte, ↓Option.bind_some, Int.reduceEq, Int.reduceNe, Int.reduceLT, Int.reduceLE, gd_true, gd_false, bind_b, q10, eq_self, reduceCtorEq, not_true_eq_false, not_false_eq_true, ne_eq, pt_0, pt_1, pt_2, pt_3, pt_4, pt_5, pt_6, pt_7, pt_8, pt_9, pt_10, pt_11, pt_12, pt_13, pt_14, pt_15, pt_16, pt_17, pt_18, pt_19, pt_20, pt_21, pt_22, pt_23, pt_24, pt_25, pt_26, pt_27, pt_28, pt_29, pt_30, pt_31, pt_32, pt_33, pt_34, pt_35, pt_36, pt_37, pt_38, pt_39, pt_40, pt_41, pt_42, pt_43, pt_44, pt_45, pt_46, pt_47, pt_48, pt_49, pt_50, pt_51, pt_52, pt_53, pt_54, pt_55, pt_56, pt_57, pt_58, pt_59, pt_60, pt_61, pt_62, pt_63, pt_64, pt_65, pt_66, pt_67, pa_13005, pw_13005, pa_13006, pw_13006, pa_13007, pw_13007, pa_14008, pw_14008, pa_13009, pw_13009, pa_13010, pw_13010, pa_13012, pw_13012, pa_13013, pw_13013, pa_13014, pw_13014, pa_13015, pw_13015, pa_13016, pw_13016, pa_13017, pw_13017, pa_13018, pw_13018, pa_13020, pw_13020, pa_13021, pw_13021, pa_13022, pw_13022, pa_13023, pw_13023, pa_13024, pw_13024, pa_13025, pw_13025, pa_13026, pw_13026, pa_13027, pw_13027, pa_13028, pw_13028, pa_13029, pw_13029, pa_13031, pw_13031, pa_13032, pw_13032, pa_13033, pw_13033, pa_14034, pw_14034, pa_13035, pw_13035, pa_13036, pw_13036, pa_13037, pw_13037, pa_13038, pw_13038, pa_13039, pw_13039, pa_13042, pw_13042, pa_13043, pw_13043, pa_13044, pw_13044, pa_13045, pw_13045, pa_13046, pw_13046, pa_13047, pw_13047, pa_13048, pw_13048, pa_13049, pw_13049, pa_13050, pw_13050, pa_13051, pw_13051, pa_13052, pw_13052, pa_13053, pw_13053, pa_13054, pw_13054, pa_13055, pw_13055, pa_13056, pw_13056, pa_13057, pw_13057, pa_13058, pw_13058, pa_13059, pw_13059, pa_13060, pw_13060, pa_13061, pw_13061, pa_13062, pw_13062, pa_13063, pw_13063, pa_13064, pw_13064, pa_13065, pw_13065, pa_13066, pw_13066, pa_13067, pw_13067, ps_0, ps_1, ps_2, ps_3, ps_4, ps_11, ps_19, ps_30, ps_40, ps_41, ln_13005, ln_13006, ln_13007, ln_14008, ln_13009, ln_13010, ln_13012, ln_13013, ln_13014, ln_13015, ln_13016, ln_13017, ln_13018, ln_13020, ln_13021, ln_13022, ln_13023, ln_13024, ln_13025, ln_13026, ln_13027, ln_13028, ln_13029, ln_13031, ln_13032, ln_13033, ln_14034, ln_13035, ln_13036, ln_13037, ln_13038, ln_13039, ln_13042, ln_13043, ln_13044, ln_13045, ln_13046, ln_13047, ln_13048, ln_13049, ln_13050, ln_13051, ln_13052, ln_13053, ln_13054, ln_13055, ln_13056, ln_13057, ln_13058, ln_13059, ln_13060, ln_13061, ln_13062, ln_13063, ln_13064, ln_13065, ln_13066, ln_13067, gd_t, w_eq, mx, h1, mt, h2, mc, mhl, nl, me, we, h4, ml']
    · refine KX.ref (k := 1) (v2 := 0) l (by decide) ⟨a, id⟩ (L_resend j fun C A => ?_)
      unfold p_X11_resend
      simp (disch := omega) only [aok, up_s, true_and, false_and, and_true, and_false, if_true, if_false, ↓reduceIte, ↓Option.bind_some, Int.reduceEq, Int.reduceNe, Int.reduceLT, Int.reduceLE, gd_true, gd_false, bind_b, q10, eq_self, reduceCtorEq, not_true_eq_false, not_false_eq_true, ne_eq, pt_0, pt_1, pt_2, pt_3, pt_4, pt_5, pt_6, pt_7, pt_8, pt_9, pt_10, pt_11, pt_12, pt_13, pt_14, pt_15, pt_16, pt_17, pt_18, pt_19, pt_20, pt_21, pt_22, pt_23, pt_24, pt_25, pt_26, pt_27, pt_28, pt_29, pt_30, pt_31, pt_32, pt_33, pt_34, pt_35, pt_36, pt_37, pt_38, pt_39, pt_40, pt_41, pt_42, pt_43, pt_44, pt_45, pt_46, pt_47, pt_48, pt_49, pt_50, pt_51, pt_52, pt_53, pt_54, pt_55, pt_56, pt_57, pt_58, pt_59, pt_60, pt_61, pt_62, pt_63, pt_64, pt_65, pt_66, pt_67, pa_13005, pw_13005, pa_13006, pw_13006, pa_13007, pw_13007, pa_14008, pw_14008, pa_13009, pw_13009, pa_13010, pw_13010, pa_13012, pw_13012, pa_13013, pw_13013, pa_13014, pw_13014, pa_13015, pw_13015, pa_13016, pw_13016, pa_13017, pw_13017, pa_13018, pw_13018, pa_13020, pw_13020, pa_13021, pw_13021, pa_13022, pw_13022, pa_13023, pw_13023, pa_13024, pw_13024, pa_13025, pw_13025, pa_13026, pw_13026, pa_13027, pw_13027, pa_13028, pw_13028, pa_13029, pw_13029, pa_13031, pw_13031, pa_13032, pw_13032, pa_13033, pw_13033, pa_14034, pw_14034, pa_13035, pw_13035, pa_13036, pw_13036, pa_13037, pw_13037, pa_13038, pw_13038, pa_13039, pw_13039, pa_13042, pw_13042, pa_13043, pw_13043, pa_13044, pw_13044, pa_13045, pw_13045, pa_13046, pw_13046, pa_13047, pw_13047, pa_13048, pw_13048, pa_13049, pw_13049, pa_13050, pw_13050, pa_13051, pw_13051, pa_13052, pw_13052, pa_13053, pw_13053, pa_13054, pw_13054, pa_13055, pw_13055, pa_13056, pw_13056, pa_13057, pw_13057, pa_13058, pw_13058, pa_13059, pw_13059, pa_13060, pw_13060, pa_13061, pw_13061, pa_13062, pw_13062, pa_13063, pw_13063, pa_13064, pw_13064, pa_13065, pw_13065, pa_13066, pw_13066, pa_13067, pw_13067, ps_0, ps_1, ps_2, ps_3, ps_4, ps_11, ps_19, ps_30, ps_40, ps_41, ln_13005, ln_13006, ln_13007, ln_14008, ln_13009, ln_13010, ln_13012, ln_13013, ln_13014, ln_13015, ln_13016, ln_13017, ln_13018, ln_13020, ln_13021, ln_13022, ln_13023, ln_13024, ln_13025, ln_13026, ln_13027, ln_13028, ln_13029, ln_13031, ln_13032, ln_13033, ln_14034, ln_13035, ln_13036, ln_13037, ln_13038, ln_13039, ln_13042, ln_13043, ln_13044, ln_13045, ln_13046, ln_13047, ln_13048, ln_13049, ln_13050, ln_13051, ln_13052, ln_13053, ln_13054, ln_13055, ln_13056, ln_13057, ln_13058, ln_13059, ln_13060, ln_13061, ln_13062, ln_13063, ln_13064, ln_13065, ln_13066, ln_13067, gd_t, w_eq, mx, h1, mt, h2, m_refuse]
  · refine KX.ref (k := 1) (v2 := 0) l (by decide) ⟨a, id⟩ (L_resend j fun C A => ?_)
    unfold p_X11_resend
    simp (disch := omega) only [aok, up_s, true_and, false_and, and_true, and_false, if_true, if_false, ↓reduceIte, ↓Option.bind_some, Int.reduceEq, Int.reduceNe, Int.reduceLT, Int.reduceLE, gd_true, gd_false, bind_b, q10, eq_self, reduceCtorEq, not_true_eq_false, not_false_eq_true, ne_eq, pt_0, pt_1, pt_2, pt_3, pt_4, pt_5, pt_6, pt_7, pt_8, pt_9, pt_10, pt_11, pt_12, pt_13, pt_14, pt_15, pt_16, pt_17, pt_18, pt_19, pt_20, pt_21, pt_22, pt_23, pt_24, pt_25, pt_26, pt_27, pt_28, pt_29, pt_30, pt_31, pt_32, pt_33, pt_34, pt_35, pt_36, pt_37, pt_38, pt_39, pt_40, pt_41, pt_42, pt_43, pt_44, pt_45, pt_46, pt_47, pt_48, pt_49, pt_50, pt_51, pt_52, pt_53, pt_54, pt_55, pt_56, pt_57, pt_58, pt_59, pt_60, pt_61, pt_62, pt_63, pt_64, pt_65, pt_66, pt_67, pa_13005, pw_13005, pa_13006, pw_13006, pa_13007, pw_13007, pa_14008, pw_14008, pa_13009, pw_13009, pa_13010, pw_13010, pa_13012, pw_13012, pa_13013, pw_13013, pa_13014, pw_13014, pa_13015, pw_13015, pa_13016, pw_13016, pa_13017, pw_13017, pa_13018, pw_13018, pa_13020, pw_13020, pa_13021, pw_13021, pa_13022, pw_13022, pa_13023, pw_13023, pa_13024, pw_13024, pa_13025, pw_13025, pa_13026, pw_13026, pa_13027, pw_13027, pa_13028, pw_13028, pa_13029, pw_13029, pa_13031, pw_13031, pa_13032, pw_13032, pa_13033, pw_13033, pa_14034, pw_14034, pa_13035, pw_13035, pa_13036, pw_13036, pa_13037, pw_13037, pa_13038, pw_13038, pa_13039, pw_13039, pa_13042, pw_13042, pa_13043, pw_13043, pa_13044, pw_13044, pa_13045, pw_13045, pa_13046, pw_13046, pa_13047, pw_13047, pa_13048, pw_13048, pa_13049, pw_13049, pa_13050, pw_13050, pa_13051, pw_13051, pa_13052, pw_13052, pa_13053, pw_13053, pa_13054, pw_13054, pa_13055, pw_13055, pa_13056, pw_13056, pa_13057, pw_13057, pa_13058, pw_13058, pa_13059, pw_13059, pa_13060, pw_13060, pa_13061, pw_13061, pa_13062, pw_13062, pa_13063, pw_13063, pa_13064, pw_13064, pa_13065, pw_13065, pa_13066, pw_13066, pa_13067, pw_13067, ps_0, ps_1, ps_2, ps_3, ps_4, ps_11, ps_19, ps_30, ps_40, ps_41, ln_13005, ln_13006, ln_13007, ln_14008, ln_13009, ln_13010, ln_13012, ln_13013, ln_13014, ln_13015, ln_13016, ln_13017, ln_13018, ln_13020, ln_13021, ln_13022, ln_13023, ln_13024, ln_13025, ln_13026, ln_13027, ln_13028, ln_13029, ln_13031, ln_13032, ln_13033, ln_14034, ln_13035, ln_13036, ln_13037, ln_13038, ln_13039, ln_13042, ln_13043, ln_13044, ln_13045, ln_13046, ln_13047, ln_13048, ln_13049, ln_13050, ln_13051, ln_13052, ln_13053, ln_13054, ln_13055, ln_13056, ln_13057, ln_13058, ln_13059, ln_13060, ln_13061, ln_13062, ln_13063, ln_13064, ln_13065, ln_13066, ln_13067, gd_t, w_eq, mx, h1, m_refuse]
/-- healthy: nothing is open, all ends are one -/
theorem HLT.so (h : HLT N) (j : JN N) (w : WV N) {p : Int} (p1 : 0 ≤ p) (p2 : p < 3) : so N p = eol N p ∧ N 13014 p = 7 ∧ 0 ≤ N 13013 p := by
  obtain ⟨h1, h2, h3⟩ := h
  have p3 : p < (N 12000 11) := by have := w.1.1.2.1; omega
  obtain ⟨ld, fr⟩ := h3 p p1 p2
  have fr' := fun r r1 r2 => fr r r1 r2 (@brk3 N p r).2
  have eb := eol_b j.g.t j.g.p j.g.e p1 p3
  have hwe : hw N p = eol N p := by
    have a := hw_eol j.g j.li p1 p3
    have b : eol N p ≤ hw N p := hw_ge eb.2 (fun r r1 r2 _ => by rw [(fr' r r1 r2).2.1]; exact Int.le_refl _)
    omega
  have hb := hw_b j.g.e p1 p3
  refine ⟨?_, ?_, ld⟩
  · rw [← hwe]
    unfold Jvm.Pilot.@@N@@.so
    refine ff_is (by omega) (by omega) (fun k k1 k2 => decide_eq_false fun q => ?_) (fun z => by omega)
    have lg := j.g.l p k p1 p3 k1 (by omega)
    have o := j.ot _ q.1 lg.2 q.2
    have gm := (j.g.m _ q.1 lg.2).1
    have pr : (N 12000 30) = 2 := w.1.1.2.2.1
    have := h2 _ gm.1 (by omega)
    omega
  · have sy := (j.g.p p p1 p3).2.2.1
    have b := bits7 ⟨(N 13014 p).toNat, by omega⟩
    have e : (((N 13014 p).toNat : Nat) : Int) = N 13014 p := by omega
    simp only [e] at b
    exact b (fr' 0 (by decide) (by decide)).1 (fr' 1 (by decide) (by decide)).1 (fr' 2 (by decide) (by decide)).1
theorem mb_mc {g : Int} (nm : GNm N g) : (mbits N g = 0 ∧ mcn N g = 0) ∨ (mbits N g ≠ 0 ∧ 0 < mcn N g) := by
  have t0 : ∀ i : Int, 0 ≤ i → i < 12 → (N 13047 (12 * g + i) = 0 ∧ shl (N 13047 (12 * g + i)) i = 0) ∨ (N 13047 (12 * g + i) = 1 ∧ 1 ≤ shl (N 13047 (12 * g + i)) i) := fun i i1 i2 => by
    have b := bit_i (i := i) (b := 0) i1 i2 (Int.le_refl 0) (by have := Nat.two_pow_pos i.toNat; omega)
    rcases (nm i i1 i2).1 with z | z
    · left
      rw [z]
      exact ⟨rfl, b.2.2⟩
    · right
      rw [z, b.2.1]
      have := Nat.two_pow_pos i.toNat
      exact ⟨rfl, by omega⟩
  by_cases ex : ∃ i, 0 ≤ i ∧ i < 12 ∧ N 13047 (12 * g + i) = 1
  · obtain ⟨i, i1, i2, i3⟩ := ex
    right
    have a := su_ge (g := fun j => shl (N 13047 (12 * g + j)) j) (i0 := 0) (n := 12) (fun k k1 k2 => by rcases t0 k k1 (by omega) with z | z <;> omega) i i1 (by omega)
    have b := su_ge (g := fun j => N 13047 (12 * g + j)) (i0 := 0) (n := 12) (fun k k1 k2 => by rcases t0 k k1 (by omega) with z | z <;> omega) i i1 (by omega)
    have c := t0 i i1 i2
    unfold mbits mcn
    constructor <;> omega
  · left
    have no : ∀ i, 0 ≤ i → i < 12 → N 13047 (12 * g + i) = 0 ∧ shl (N 13047 (12 * g + i)) i = 0 := fun i i1 i2 => (t0 i i1 i2).resolve_right (fun z => ex ⟨i, i1, i2, z.1⟩)
    exact ⟨su_zero fun i i1 i2 => (no i i1 (by omega)).2, su_zero fun i i1 i2 => (no i i1 (by omega)).1⟩
end HEALS
