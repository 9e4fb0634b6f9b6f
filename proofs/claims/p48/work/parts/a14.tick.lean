/-! PURE PART, a14: a tick -/
/-- every topic's log is thinned, never cut -/
def CPD (N : Nd) : Prop := ∀ p, 0 ≤ p → p < (N 12000 11) → ¬ N 14008 (N 13012 p) = 0
theorem lgN_k {N : Nd} {p : Int} (h : ¬ N 14008 (N 13012 p) = 0) : lgN N p = N := by
  show lgF p (59 + 1) N = N
  unfold lgF
  rw [if_neg (fun z => h z.1)]
theorem tkP_c {N : Nd} {p : Int} (h : ¬ N 14008 (N 13012 p) = 0) : tkP N p = fiP (coP N p) p := by
  unfold tkP
  refine lgN_k ?_
  rw [fiP_ar (a := 14008) (by decide) (by decide), fiP_ar (a := 13012) (by decide) (by decide), coP_ar (by decide), coP_ar (by decide)]
  exact h
theorem coP_nl {N : Nd} {p : Int} (h : N 13013 p < 0) : coP N p = N :=
  fo_inv (g := fun r N => coS N p r) (i0 := 0) (n := 3) (a := N) (fun _ s => s = N) rfl fun r s _ _ e => by
    show coS s p r = N
    rw [e]
    unfold coS
    rw [if_neg (fun z => by have := z.2.1; omega)]
theorem fiP_nl {N : Nd} {p : Int} (h : N 13013 p < 0) : fiP N p = N :=
  fo_inv (g := fun r N => fiS N p r) (i0 := 0) (n := 3) (a := N) (fun _ s => s = N) rfl fun r s _ _ e => by
    show fiS s p r = N
    rw [e]
    unfold fiS
    rw [if_neg (fun z => by have := z.2.1; omega)]
theorem tkA_c {N : Nd} (hc : CPD N) : (∀ a, a ≠ 13016 → a ≠ 13017 → a ≠ 13014 → tkA N a = N a) ∧ ∀ p, 0 ≤ p → N 13013 p < 0 → tkA N 13014 p = N 13014 p :=
  fo_inv (g := fun p N => tkP N p) (i0 := 0) (n := ((N 12000 11)).toNat) (a := N) (fun _ s => (∀ a, a ≠ 13016 → a ≠ 13017 → a ≠ 13014 → s a = N a) ∧ ∀ p, 0 ≤ p → N 13013 p < 0 → s 13014 p = N 13014 p) ⟨fun _ _ _ _ => rfl, fun _ _ _ => rfl⟩ (fun i s i1 i2 ⟨h1, h2⟩ => by
    have c : ¬ s 14008 (s 13012 i) = 0 := by
      rw [h1 14008 (by decide) (by decide) (by decide), h1 13012 (by decide) (by decide) (by decide)]
      exact hc i i1 (by omega)
    show (∀ a, a ≠ 13016 → a ≠ 13017 → a ≠ 13014 → tkP s i a = N a) ∧ ∀ p, 0 ≤ p → N 13013 p < 0 → tkP s i 13014 p = N 13014 p
    rw [tkP_c c]
    refine ⟨fun a a1 a2 a3 => by rw [fiP_ar a2 a3, coP_ar a1, h1 a a1 a2 a3], fun p p1 hl => ?_⟩
    by_cases e : p = i
    · have l : s 13013 i < 0 := by
        rw [h1 13013 (by decide) (by decide) (by decide), ← e]
        exact hl
      rw [coP_nl l, fiP_nl l]
      exact h2 p p1 hl
    · rw [fiP_at (by omega) (by omega), coP_ar (by decide)]
      exact h2 p p1 hl)
theorem apFs_st0 {m : Int} : ∀ (l : List Int) (N : Nd), (l.foldl apF N) 13024 m = 0 → N 13024 m = 0
  | [], _, h => h
  | a :: l, N, h => by
    have h1 := apFs_st0 l (apF N a) h
    unfold apF at h1
    split at h1
    · have e : apN N a 13024 m = if m = a then 1 else N 13024 m := by unfold apN; simp only [up_s, up_s, true_and, false_and, and_true, and_false, if_true, if_false, ↓reduceIte, ↓Option.bind_some, Int.reduceEq, Int.reduceNe, Int.reduceLT, Int.reduceLE, gd_true, gd_false, bind_b, q10, eq_self, reduceCtorEq, not_true_eq_false, not_false_eq_true, ne_eq]
      rw [e] at h1
      by_cases z : m = a
      · rw [if_pos z] at h1
        exact absurd h1 (by decide)
      · rw [if_neg z] at h1
        exact h1
    · exact h1
theorem SH.cpd {N : Nd} (j : JN N) (h : SH N) : CPD N := fun p p1 p2 => by
  have q := (j.g.p p p1 p2).1
  have e : N 13012 p = 0 := by have := h.1.1; omega
  rw [e, h.2.1.2.2.2]
  decide
theorem TKR.br {N X : Nd} (j : JN N) (hg : (N 12000 41) = 1) (hc : CPD N) (t : TKR N X) : ∃ N3 N4, EBr N N3 ∧ (JN N3 ∧ JN N4) ∧ (N3 12000 1) = (N 12000 1) + 1 ∧ EXR 0 N3 N4 ∧ X = xsN N4 4 := by
  obtain ⟨l, N4, ⟨j0, j4⟩, dl, ex, rfl⟩ := t
  have nd : l.Nodup := dl.1.imp fun {a b} z e => by
    rw [e] at z
    exact lt2_ir z
  obtain ⟨j1, mo1⟩ := j0.apFs nd dl.2.1
  have ar := fun (a : Int) (h : a ≠ 13018 ∧ a ≠ 13024 ∧ a ≠ 13026 ∧ a ≠ 13027 ∧ a ≠ 13016) => apFs_ar h l (up N 12000 1 ((N 12000 1) + 1))
  have st0 := fun m => apFs_st0 (m := m) l (up N 12000 1 ((N 12000 1) + 1))
  obtain ⟨j2, mo2⟩ := j1.tkA
  have lo := lo_tkA j1
  have ex := ex hg
  generalize l.foldl apF (up N 12000 1 ((N 12000 1) + 1)) = Y at j1 mo1 ar j2 mo2 lo ex st0
  have c1 : CPD Y := fun p p1 p2 => by
    rw [ar 12000 (by decide)] at p2
    rw [ar 14008 (by decide), ar 13012 (by decide)]
    exact hc p p1 p2
  obtain ⟨t1, t2⟩ := tkA_c c1
  have mo : Mo N Y := by
    have q : Mo (up N 12000 1 ((N 12000 1) + 1)) Y := mo1
    exact q
  have arr : ∀ a, a ≠ 12000 → a ≠ 13018 → a ≠ 13024 → a ≠ 13026 → a ≠ 13027 → a ≠ 13016 → a ≠ 13017 → a ≠ 13014 → tkA Y a = N a := fun a a1 a2 a3 a4 a5 a6 a7 a8 => by
    rw [t1 a a6 a7 a8, ar a ⟨a2, a3, a4, a5, a6⟩]
    funext k
    rw [up_s, if_neg (fun z => a1 z.1)]
  have s12 : ∀ i, tkA Y 12000 i = up N 12000 1 ((N 12000 1) + 1) 12000 i := fun i => by
    rw [t1 12000 (by decide) (by decide) (by decide), ar 12000 (by decide)]
  refine ⟨tkA Y, N4, ⟨mo.tr j.g mo2 j2.g, OK2.ar (arr _ (by decide) (by decide) (by decide) (by decide) (by decide) (by decide) (by decide) (by decide)), fun a a1 a2 _ => arr a (by omega) (by omega) (by omega) (by omega) (by omega) (by omega) (by omega) (by omega), ⟨s12 4, s12 11, s12 30, s12 41⟩, fun a ha => arr a (by omega) (by omega) (by omega) (by omega) (by omega) (by omega) (by omega) (by omega), ?_, fun m m1 m2 => ?_, fun m m1 m2 h => Or.inl ⟨?_, ?_, ?_⟩, fun h p p1 p2 hl => ?_⟩, ⟨j2, j4⟩, s12 1, ex, rfl⟩
  · rw [s12 1]
    show (N 12000 1) ≤ (N 12000 1) + 1
    omega
  · rw [s12 19] at m2
    have m2' : m < (N 12000 19) := m2
    omega
  · rw [s12 19] at m2
    exact m2
  · refine st0 m ?_
    rw [t1 13024 (by decide) (by decide) (by decide)] at h
    exact h
  · rw [arr 13028 (by decide) (by decide) (by decide) (by decide) (by decide) (by decide) (by decide) (by decide)]
  · rw [s12 11] at p2
    have p2' : p < (N 12000 11) := p2
    have el : tkA Y 13013 = N 13013 := arr _ (by decide) (by decide) (by decide) (by decide) (by decide) (by decide) (by decide) (by decide)
    rw [el] at hl
    have ey : Y 13013 = N 13013 := (ar 13013 (by decide)).trans rfl
    have ei : Y 13014 = N 13014 := (ar 13014 (by decide)).trans rfl
    rw [t2 p p1 (by rw [ey]; exact hl), ei, s12 2, brk_ar (arr 13012 (by decide) (by decide) (by decide) (by decide) (by decide) (by decide) (by decide) (by decide)) (arr 13007 (by decide) (by decide) (by decide) (by decide) (by decide) (by decide) (by decide) (by decide))]
    exact h p p1 p2' hl
/-- what a call of the group leaves -/
def GRE (N X : Nd) : Prop := MG 0 N X ∧ X 13042 = N 13042 ∧ (∀ m, 0 ≤ m → m < 150 → wt X m = 1 → (wt N m = 1 ∧ du X m = du N m) ∨ (du X m ≤ (N 12000 1) + 4 ∧ (0 < sn N m ∨ N 13025 m = 0 ∨ N 13025 m = 2))) ∧ ∀ m, 0 ≤ m → m < 150 → 0 < sn X m → 0 < sn N m ∨ N 13025 m = 0 ∨ N 13025 m = 2
theorem WV.gr {N X : Nd} (w : WV N) (e : GRE N X) : WV X := by
  obtain ⟨w1, w2, w3, w5, w6, w8⟩ := w
  obtain ⟨mg', et, ew, es⟩ := e
  have n0 : ∀ a, a < 13043 → X a = N a := fun a ha => mg'.n0 (Or.inl ha)
  have sc : X 12000 = N 12000 := n0 _ (by decide)
  refine ⟨⟨⟨by rw [sc]; exact w1.1.1, by rw [sc]; exact w1.1.2.1, by rw [sc]; exact w1.1.2.2.1, by rw [sc]; exact w1.1.2.2.2⟩, ⟨by rw [n0 13005 (by decide)]; exact w1.2.1.1, by rw [n0 13006 (by decide)]; exact w1.2.1.2.1, by rw [n0 13007 (by decide)]; exact w1.2.1.2.2.1, ?_⟩, by rw [et]; exact w1.2.2⟩, fun m m1 m2 => ?_, fun m m1 m2 h => ?_, fun m m1 m2 h => ?_, fun m m1 m2 h => ?_, fun p p1 p2 hl => ?_⟩
  · rw [mg'.n0 (a := 14008) (Or.inr (by decide))]
    exact w1.2.1.2.2.2
  · rw [sc] at m2
    rw [n0 13022 (by decide)]
    exact w2 m m1 m2
  · rw [n0 13025 (by decide)]
    rcases h with h | h
    · rcases es m m1 m2 h with z | z
      · exact w3 m m1 m2 (Or.inl z)
      · exact z
    · rcases ew m m1 m2 h with z | z
      · exact w3 m m1 m2 (Or.inr z.1)
      · rcases z.2 with y | y
        · exact w3 m m1 m2 (Or.inl y)
        · exact y
  · rw [sc]
    rcases ew m m1 m2 h with z | z
    · rw [z.2]
      exact w5 m m1 m2 z.1
    · exact z.1
  · rw [sc] at m2 ⊢
    rw [n0 13024 (by decide)] at h
    rw [n0 13028 (by decide)]
    exact w6 m m1 m2 h
  · rw [sc] at p2 ⊢
    rw [n0 13013 (by decide)] at hl
    rw [n0 13014 (by decide), brk_ar (n0 13012 (by decide)) (n0 13007 (by decide))]
    exact w8 p p1 p2 hl
theorem GRE.ex {N X : Nd} (e : EXR 0 N X) : GRE N X := by
  have es : X 13064 = N 13064 := e.2.1 _ (by decide)
  refine ⟨e.1, e.2.1 _ (by decide), fun m m1 m2 hw' => ?_, fun m m1 m2 hs => Or.inl ?_⟩
  · rcases e.2.2.1 m m1 m2 hw' with z | z
    · exact Or.inl z
    · refine Or.inr ⟨?_, Or.inl z.2⟩
      have := z.1
      show X 13060 (150 * 0 + m) ≤ _
      omega
  · unfold sn at hs ⊢
    rw [es] at hs
    exact hs
section TICK
variable {n : Int} {C : Cd} {N : Nd} {A : Ad}
theorem WV.tk {X : Nd} (j : JJ n C N A) (w : WV N) (t : TKR N X) : WV X ∧ Mo N X ∧ X 13064 = N 13064 ∧ X 13044 = N 13044 := by
  obtain ⟨N3, N4, e, ⟨j3, j4⟩, -, ex, rfl⟩ := TKR.br j.jn w.1.1.2.2.2 (w.1.cpd j.jn) t
  have w3 := WV.br j w e
  have w4 := w3.gr (GRE.ex ex)
  have m4 : Mo N N4 := e.1.tr j.jn.g ex.1.mo j4.g
  have s3 : N3 13064 = N 13064 := e.2.2.1 _ (by decide) (by decide) (by decide)
  have s4 : N4 13064 = N 13064 := (ex.2.1 _ (by decide)).trans s3
  have h3 : N3 13044 = N 13044 := e.2.2.1 _ (by decide) (by decide) (by decide)
  have h4 : N4 13044 = N 13044 := (ex.2.1 _ (by decide)).trans h3
  exact ⟨w4, m4, s4, h4⟩
theorem WV.tks : ∀ (d : Nat) {n : Int} {C : Cd} {N X : Nd} {A : Ad}, JJ n C N A → WV N → RG X → TKS d N X → WV X ∧ Mo N X ∧ X 13064 = N 13064 ∧ X 13044 = N 13044
  | 0, _, _, _, _, _, _, w, _, h => by
    have e : _ = _ := h
    subst e
    exact ⟨w, Mo.rf, rfl, rfl⟩
  | d + 1, n, C, N, X, A, j, w, gx, h => by
    obtain ⟨N1, t, ⟨n1, C1, A1, j1⟩, h2⟩ := h
    obtain ⟨a1, a2, a3, a4⟩ := WV.tk j w t
    obtain ⟨b1, b2, b3, b4⟩ := WV.tks d j1 a1 gx h2
    exact ⟨b1, a2.tr j.jn.g b2 gx, b3.trans a3, b4.trans a4⟩
theorem KW.mo {e : Option (Int × Mm)} {N2 : Nd} {v2 : Int} (l : LW n C N A) (h0 : N2 12000 0 = 0) (hv : -99 ≤ v2) (w2 : WB N2) (m2 : Mo N N2) (es : N2 13064 = N 13064) (h : CALL n N e N2 v2) : Ok e (KW (n + 1)) := by
  obtain ⟨z, C2, A2, h1, h2, -, h4⟩ := h
  obtain ⟨j, w, gt, ls⟩ := l
  have m3 : Mo N (mg N N2) := m2
  have w3 : WB (mg N N2) := w2
  have es' : (mg N N2) 13064 = N 13064 := by
    rw [← es]
    rfl
  exact ⟨_, h1, by show -99 ≤ z; rw [h2 h0]; exact hv, C2, _, A2, rfl, h4, w3, gt.mo es' rfl, LST.mo j w.1.1.g ls m3 es' rfl⟩
theorem k_tick (hn : n < 10000000) (l : LW n C N A) (t : Int) : Ok (q_L_tick (mk C N A) 11000 t) (KW (n + 1)) := by
  have j := l.1
  by_cases h : 1 ≤ t ∧ t ≤ 30
  · have jz0 : JJ n C (up N 12000 0 0) A := j.thrown
    have jz : JJ (n + 1) C (up N 12000 0 0) A := jz0.next
    obtain ⟨C2, N2, y1, y2, y3, y4, y5⟩ := tcLoop (N0 := N) (T := t) (by omega) t.toNat C (up N 12000 0 0) 0 1000 jz (by have := j.b.2.1; show (N 12000 1) + _ ≤ _; omega) (by omega) (by omega) h.2 (by omega)
    have w0 : WV (up N 12000 0 0) := l.2.1.1
    obtain ⟨b1, b2, b3, b4⟩ := WV.tks t.toNat jz w0 y3.jn.g y5
    have b2' : Mo N N2 := b2
    have s8 := y3.jn.g.s.2.2.2.2.2.2.2.1
    refine KW.mo (N2 := N2) (v2 := (N2 12000 1)) l (by rw [y4]; rfl) (by omega) ⟨b1, by rw [b4]; exact l.2.1.2⟩ b2' (b3.trans rfl) (L_tick hn j fun C A => ?_)
    unfold p_X11_tick
    simp (disch := omega) only [aok, up_s, true_and, false_and, and_true, and_false, if_true, if_false, ↓reduceIte, ↓Option.bind_some, Int.reduceEq, Int.reduceNe, Int.reduceLT, Int.reduceLE, gd_true, gd_false, bind_b, q10, eq_self, reduceCtorEq, not_true_eq_false, not_false_eq_true, ne_eq, pt_0, pt_1, pt_2, pt_3, pt_4, pt_5, pt_6, pt_7, pt_8, pt_9, pt_10, pt_11, pt_12, pt_13, pt_14, pt_15, pt_16, pt_17, pt_18, pt_19, pt_20, pt_21, pt_22, pt_23, pt_24, pt_25, pt_26, pt_27, pt_28, pt_29, pt_30, pt_31, pt_32, pt_33, pt_34, pt_35, pt_36, pt_37, pt_38, pt_39, pt_40, pt_41, pt_42, pt_43, pt_44, pt_45, pt_46, pt_47, pt_48, pt_49, pt_50, pt_51, pt_52, pt_53, pt_54, pt_55, pt_56, pt_57, pt_58, pt_59, pt_60, pt_61, pt_62, pt_63, pt_64, pt_65, pt_66, pt_67, pa_13005, pw_13005, pa_13006, pw_13006, pa_13007, pw_13007, pa_14008, pw_14008, pa_13009, pw_13009, pa_13010, pw_13010, pa_13012, pw_13012, pa_13013, pw_13013, pa_13014, pw_13014, pa_13015, pw_13015, pa_13016, pw_13016, pa_13017, pw_13017, pa_13018, pw_13018, pa_13020, pw_13020, pa_13021, pw_13021, pa_13022, pw_13022, pa_13023, pw_13023, pa_13024, pw_13024, pa_13025, pw_13025, pa_13026, pw_13026, pa_13027, pw_13027, pa_13028, pw_13028, pa_13029, pw_13029, pa_13031, pw_13031, pa_13032, pw_13032, pa_13033, pw_13033, pa_14034, pw_14034, pa_13035, pw_13035, pa_13036, pw_13036, pa_13037, pw_13037, pa_13038, pw_13038, pa_13039, pw_13039, pa_13042, pw_13042, pa_13043, pw_13043, pa_13044, pw_13044, pa_13045, pw_13045, pa_13046, pw_13046, pa_13047, pw_13047, pa_13048, pw_13048, pa_13049, pw_13049, pa_13050, pw_13050, pa_13051, pw_13051, pa_13052, pw_13052, pa_13053, pw_13053, pa_13054, pw_13054, pa_13055, pw_13055, pa_13056, pw_13056, pa_13057, pw_13057, pa_13058, pw_13058, pa_13059, pw_13059, pa_13060, pw_13060, pa_13061, pw_13061, pa_13062, pw_13062, pa_13063, pw_13063, pa_13064, pw_13064, pa_13065, pw_13065, pa_13066, pw_13066, pa_13067, pw_13067, ps_0, ps_1, ps_2, ps_3, ps_4, ps_11, ps_19, ps_30, ps_40, ps_41, ln_13005, ln_13006, ln_13007, ln_14008, ln_13009, ln_13010, ln_13012, ln_13013, ln_13014, ln_13015, ln_13016, ln_13017, ln_13018, ln_13020, ln_13021, ln_13022, ln_13023, ln_13024, ln_13025, ln_13026, ln_13027, ln_13028, ln_13029, ln_13031, ln_13032, ln_13033, ln_14034, ln_13035, ln_13036, ln_13037, ln_13038, ln_13039, ln_13042, ln_13043, ln_13044, ln_13045, ln_13046, ln_13047, ln_13048, ln_13049, ln_13050, ln_13051, ln_13052, ln_13053, ln_13054, ln_13055, ln_13056, ln_13057, ln_13058, ln_13059, ln_13060, ln_13061, ln_13062, ln_13063, ln_13064, ln_13065, ln_13066, ln_13067, gd_t, w_eq, m_in, h, y2]
  · refine KW.ref (k := 1) (v2 := 0) l (by decide) (L_tick hn j fun C A => ?_)
    unfold p_X11_tick
    simp (disch := omega) only [aok, up_s, true_and, false_and, and_true, and_false, if_true, if_false, ↓reduceIte, ↓Option.bind_some, Int.reduceEq, Int.reduceNe, Int.reduceLT, Int.reduceLE, gd_true, gd_false, bind_b, q10, eq_self, reduceCtorEq, not_true_eq_false, not_false_eq_true, ne_eq, pt_0, pt_1, pt_2, pt_3, pt_4, pt_5, pt_6, pt_7, pt_8, pt_9, pt_10, pt_11, pt_12, pt_13, pt_14, pt_15, pt_16, pt_17, pt_18, pt_19, pt_20, pt_21, pt_22, pt_23, pt_24, pt_25, pt_26, pt_27, pt_28, pt_29, pt_30, pt_31, pt_32, pt_33, pt_34, pt_35, pt_36, pt_37, pt_38, pt_39, pt_40, pt_41, pt_42, pt_43, pt_44, pt_45, pt_46, pt_47, pt_48, pt_49, pt_50, pt_51, pt_52, pt_53, pt_54, pt_55, pt_56, pt_57, pt_58, pt_59, pt_60, pt_61, pt_62, pt_63, pt_64, pt_65, pt_66, pt_67, pa_13005, pw_13005, pa_13006, pw_13006, pa_13007, pw_13007, pa_14008, pw_14008, pa_13009, pw_13009, pa_13010, pw_13010, pa_13012, pw_13012, pa_13013, pw_13013, pa_13014, pw_13014, pa_13015, pw_13015, pa_13016, pw_13016, pa_13017, pw_13017, pa_13018, pw_13018, pa_13020, pw_13020, pa_13021, pw_13021, pa_13022, pw_13022, pa_13023, pw_13023, pa_13024, pw_13024, pa_13025, pw_13025, pa_13026, pw_13026, pa_13027, pw_13027, pa_13028, pw_13028, pa_13029, pw_13029, pa_13031, pw_13031, pa_13032, pw_13032, pa_13033, pw_13033, pa_14034, pw_14034, pa_13035, pw_13035, pa_13036, pw_13036, pa_13037, pw_13037, pa_13038, pw_13038, pa_13039, pw_13039, pa_13042, pw_13042, pa_13043, pw_13043, pa_13044, pw_13044, pa_13045, pw_13045, pa_13046, pw_13046, pa_13047, pw_13047, pa_13048, pw_13048, pa_13049, pw_13049, pa_13050, pw_13050, pa_13051, pw_13051, pa_13052, pw_13052, pa_13053, pw_13053, pa_13054, pw_13054, pa_13055, pw_13055, pa_13056, pw_13056, pa_13057, pw_13057, pa_13058, pw_13058, pa_13059, pw_13059, pa_13060, pw_13060, pa_13061, pw_13061, pa_13062, pw_13062, pa_13063, pw_13063, pa_13064, pw_13064, pa_13065, pw_13065, pa_13066, pw_13066, pa_13067, pw_13067, ps_0, ps_1, ps_2, ps_3, ps_4, ps_11, ps_19, ps_30, ps_40, ps_41, ln_13005, ln_13006, ln_13007, ln_14008, ln_13009, ln_13010, ln_13012, ln_13013, ln_13014, ln_13015, ln_13016, ln_13017, ln_13018, ln_13020, ln_13021, ln_13022, ln_13023, ln_13024, ln_13025, ln_13026, ln_13027, ln_13028, ln_13029, ln_13031, ln_13032, ln_13033, ln_14034, ln_13035, ln_13036, ln_13037, ln_13038, ln_13039, ln_13042, ln_13043, ln_13044, ln_13045, ln_13046, ln_13047, ln_13048, ln_13049, ln_13050, ln_13051, ln_13052, ln_13053, ln_13054, ln_13055, ln_13056, ln_13057, ln_13058, ln_13059, ln_13060, ln_13061, ln_13062, ln_13063, ln_13064, ln_13065, ln_13066, ln_13067, gd_t, w_eq, m_in, h, m_refuse]
end TICK
