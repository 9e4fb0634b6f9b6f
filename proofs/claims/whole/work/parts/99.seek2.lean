/-! PURE PART, 99: seek, the call -/
section SK2
variable {C C' : Cd} {N N' : Nd} {g p v n : Int}
theorem GIn.sk (G : RG N) (a : GA C N g) (h : GIn C N g) (p1 : 0 ≤ p) (p2 : p < 9) (hv : 0 ≤ v) (ow : N 13055 (9 * g + p) = -1) (kc : KG g C C') (kn : MG g N N') (o1 : N' 13055 = N 13055) (o2 : N' 13058 = N 13058) (o3 : ∀ q, N' 13057 (9 * g + q) = if q = p then v else N 13057 (9 * g + q)) (s1 : ∀ q, So C' g q = if q = p then v else So C g q) (c9 : C' 1000 g 9 = C 1000 g 9)
    (hy : ∀ y, 0 ≤ y → y < 150 → (N 13021 y = p → C' 2000 (150 * g + y) 1 = 0 ∧ Fdl C' g y = 0 ∧ N' 13059 (150 * g + y) ≠ 1) ∧ (N 13021 y ≠ p → C' 2000 (150 * g + y) 1 = C 2000 (150 * g + y) 1 ∧ Fdl C' g y = Fdl C g y ∧ N' 13059 (150 * g + y) = N 13059 (150 * g + y))) : GIn C' N' g := by
  have b5 := G.s.2.2.2.2.1
  have sc : N' 12000 = N 12000 := kn.n0 (by decide)
  have mP : N' 13021 = N 13021 := kn.n0 (by decide)
  have mO : N' 13026 = N 13026 := kn.n0 (by decide)
  have mK : N' 13022 = N 13022 := kn.n0 (by decide)
  obtain ⟨x1, x2, x3, x4, x5, x6⟩ := h
  have np : ∀ y, 0 ≤ y → y < 150 → N 13021 y = p → ¬ Pd C' N' g y := fun y y1 y2 e q => by
    obtain ⟨-, z1, z2⟩ := (hy y y1 y2).1 e
    rcases q with q | q
    · omega
    · exact z2 q
  have sp : ∀ y, 0 ≤ y → y < 150 → N 13021 y ≠ p → (Pd C' N' g y ↔ Pd C N g y) := fun y y1 y2 e => by
    obtain ⟨-, z1, z2⟩ := (hy y y1 y2).2 e
    unfold Pd
    rw [z1, z2]
  have sf : ∀ y, 0 ≤ y → y < 150 → 0 < Fdl C' g y → N 13021 y ≠ p ∧ Fdl C' g y = Fdl C g y := fun y y1 y2 q => by
    by_cases e : N 13021 y = p
    · have := ((hy y y1 y2).1 e).2.1
      omega
    · exact ⟨e, ((hy y y1 y2).2 e).2.1⟩
  unfold GIn
  rw [sc, mP, mO, mK, o1, o2]
  refine ⟨fun u w u1 u2 v1 v2 hp hc hq h1 h2 => ?_, fun w v1 v2 hc hg h1 h2 => ?_, fun u w u1 u2 v1 v2 h1 h2 h3 h4 h5 => ?_, fun u w u1 u2 v1 v2 h1 h2 h4 h5 => ?_, fun q hg => ?_, fun m m1 m2 => ?_⟩
  · by_cases e : N 13021 w = p
    · exact absurd hp (np u u1 (by omega) (hq.trans e))
    · rw [s1, if_neg e] at h1
      exact (sp w v1 (by omega) e).mpr (x1 u w u1 u2 v1 v2 ((sp u u1 (by omega) (by rw [hq]; exact e)).mp hp) (kn.can.mp hc) hq h1 h2)
  · by_cases e : N 13021 w = p
    · rw [s1, if_pos e] at h1
      rw [o3, if_pos e, e] at h2
      rcases h2 with h2 | h2
      · omega
      · exact absurd ow h2.1
    · rw [s1, if_neg e] at h1
      rw [o3, if_neg e] at h2
      exact (sp w v1 (by omega) e).mpr (x2 w v1 v2 (kn.can.mp hc) ((kn.gr g _).mp hg) h1 h2)
  · obtain ⟨e, e2⟩ := sf u u1 (by omega) h3
    have ew : N 13021 w ≠ p := by rw [← h4]; exact e
    obtain ⟨-, z1, z2⟩ := (hy w v1 (by omega)).2 ew
    rw [z2] at h1
    rw [z1] at h2
    rw [e2] at h3
    exact x3 u w u1 u2 v1 v2 h1 h2 h3 h4 h5
  · obtain ⟨e, e2⟩ := sf u u1 (by omega) h1
    have ew : N 13021 w ≠ p := by rw [← h4]; exact e
    obtain ⟨-, z1, z2⟩ := (hy w v1 (by omega)).2 ew
    rw [e2] at h1 h2
    rw [z1] at h2
    exact x4 u w u1 u2 v1 v2 h1 h2 h4 h5
  · have hg' := (kn.gr g q).mp hg
    rw [s1, o3, kn.so]
    by_cases e : q = p
    · rw [if_pos e, if_pos e]
      refine ⟨⟨hv, Int.le_refl _, Or.inl (Int.le_refl _)⟩, fun z => ?_⟩
      rw [e] at z
      exact absurd ow z
    · rw [if_neg e, if_neg e]
      exact x5 q hg'
  · obtain ⟨z1, z2, z3, z4⟩ := x6 m m1 m2
    rw [c9]
    by_cases e : N 13021 m = p
    · obtain ⟨y1, y2, y3⟩ := (hy m m1 m2).1 e
      refine ⟨fun q => by omega, by omega, by rw [y2]; omega, fun q => absurd q (np m m1 m2 e)⟩
    · obtain ⟨y1, y2, y3⟩ := (hy m m1 m2).2 e
      rw [y1, y2, s1, if_neg e]
      exact ⟨z1, z2, z3, fun q => z4 ((sp m m1 m2 e).mp q)⟩
end SK2
theorem q_seek {n : Int} {C : Cd} {N : Nd} {A : Ad} {g p v : Int} (j : JJ n C N A) : SR n C N A (p_L_seek (mk C N A) 11000 g p v 15000) (fun M => p_X11_seek M 12000 g p v) := by
  have G := j.jn.g
  have s2 := G.s.2.1
  have s4 := G.s.2.2.2.1
  have s5 := G.s.2.2.2.2.1
  have hm := c_groupOf (N0 := N) (A := A) (t := g) G j.c
  have hi := fun C A => @m_isGroup C (up N 12000 0 0) A g j.z.s
  simp only [up_s, up_s, true_and, false_and, and_true, and_false, if_true, if_false, ↓reduceIte, ↓Option.bind_some, Int.reduceEq, Int.reduceNe, Int.reduceLT, Int.reduceLE, gd_true, gd_false, bind_b, q10, eq_self, reduceCtorEq, not_true_eq_false, not_false_eq_true, ne_eq] at hi
  unfold p_L_seek p_X10_seek
  by_cases h1 : 0 ≤ g ∧ g < (N 12000 41)
  · have g3 : g < 3 := by omega
    have jz : JJ n C (up N 12000 0 0) A := j.thrown
    have a := (j.gr h1.1 h1.2).1
    have sa := c_shareAt (N0 := N) (A := A) (p := p) G a h1.1 g3
    have hr := fun C A => @m_gReads C (up N 12000 0 0) A g p jz.jn.g h1.1 g3
    have er : gR (up N 12000 0 0) g p ↔ gR N g p := Iff.rfl
    simp only [er] at hr
    by_cases r : gR N g p
    · have p1 := r.1
      have p9 : p < 9 := by have := r.2.1; omega
      rw [if_pos r] at sa
      simp only [if_pos r] at hr
      have hso : p_X10_shareOf (mk C N A) (1000 + g) p = some (0, 9000 + (9 * g + p), mk C N A) := by
        unfold p_X10_shareOf
        simp (disch := omega) only [aok, up_s, true_and, false_and, and_true, and_false, if_true, if_false, ↓reduceIte, ↓Option.bind_some, Int.reduceEq, Int.reduceNe, Int.reduceLT, Int.reduceLE, gd_true, gd_false, bind_b, q10, eq_self, reduceCtorEq, not_true_eq_false, not_false_eq_true, ne_eq, cr_11000, cr_15000, cr_16000, cr_20000, cr_20001, cr_21000, cr_22000, cr_25000, cr_1000, cr_2000, cr_3000, cr_3003, cr_3006, cr_4000, cr_5000, cr_6000, cr_7000, cr_8000, cr_9000, cr_10000, cr_13500, cr_17000, cr_17100, cr_17103, cr_17106, cr_19000, cr_20100, cr_21100, cr_23000, cr_24000, cw_11000, cw_15000, cw_16000, cw_20000, cw_20001, cw_21000, cw_22000, cw_25000, cw_1000, cw_2000, cw_3000, cw_3003, cw_3006, cw_4000, cw_5000, cw_6000, cw_7000, cw_8000, cw_9000, cw_10000, cw_13500, cw_17000, cw_17100, cw_17103, cw_17106, cw_19000, cw_20100, cw_21100, cw_23000, cw_24000, lc_13500, lc_15000, lc_16000, lc_17000, lc_17100, lc_17103, lc_17106, lc_19000, lc_20000, lc_20001, lc_20100, lc_21000, lc_21100, lc_22000, lc_23000, lc_24000, lc_25000, gd_t, w_eq, sa, if_neg]
      by_cases h2 : 0 ≤ v ∧ v ≤ 60
      · obtain ⟨t0, t1, t2, t3, t4⟩ := (a.sh p p1 p9).2 r
        by_cases ow : N 13055 (9 * g + p) = -1
        · have z1 : C 9000 (9 * g + p) 1 = 0 := by rw [t1, ow]; rfl
          have az := (jz.gr h1.1 h1.2).1
          have gz := (jz.gr h1.1 h1.2).2
          have a0 : GA (skC C g p v) (up (up N 12000 0 0) 13057 (9 * g + p) v) g := az.sk0 h1.1 ⟨p1, p9⟩ h2
          have kc0 : KG g C (skC C g p v) := (KG.rf.uq (by unfold inG; omega)).uq (by unfold inG; omega)
          have kn0 : MG g (up N 12000 0 0) (up (up N 12000 0 0) 13057 (9 * g + p) v) := MG.rf.up (by unfold inN; omega)
          have j0 := jz.jn.mg kn0
          have c0 := jz.c.mg kc0 kn0
          obtain ⟨nw, f, w⟩ := a0.wa
          obtain ⟨M, r1, C', rfl, F⟩ := c_forget (N0 := N) (A := A) (p := p) j0.g c0 a0 h1.1 g3 w
          have r1' : p_X0_forget (mk (uq (uq C 9000 (9 * g + p) 3 v) 9000 (9 * g + p) 5 v) N A) (1000 + g) (6000 + p) = some (mk C' N A) := r1
          have F1 := F.1
          obtain ⟨ga, mg, kg, hy⟩ := a0.sk j0.g h1.1 g3 p1 ow w F
          obtain ⟨d1, d2, d3, -⟩ := a0.de
          obtain ⟨n1, n2, n3, n4, -⟩ := sk_all (p := p) (M := up (up N 12000 0 0) 13057 (9 * g + p) v) (fun k k1 k2 => ⟨(d3 k k1 k2).1.1, (d3 k k1 k2).1.2.1⟩) d2.1 d2.2 h1.1 ((N 12000 19))
          have sw := fun C A => m_swLoop (p := p) j0.g h1.1 g3 C A
          have fdm := fun C A => m_gForgetsDead (N := swI (up (up N 12000 0 0) 13057 (9 * g + p) v) g p ((N 12000 19))) (g := g) (p := p) (by rw [sw_ar (by decide), sw_ar (by decide)]; exact fun k k1 k2 => ⟨(d3 k k1 k2).1.1, (d3 k k1 k2).1.2.1⟩) (by rw [sw_ar (by decide)]; exact d2.1) (by rw [sw_ar (by decide)]; exact d2.2) h1.1 g3 C A
          have em : (up (up N 12000 0 0) 13057 (9 * g + p) v) 12000 19 = N 12000 19 := rfl
          rw [em] at ga mg hy
          simp only [em] at sw
          generalize hNf : fdN (swI (up (up N 12000 0 0) 13057 (9 * g + p) v) g p ((N 12000 19))) g p = Nf at *
          have kc : KG g C C' := kc0.tr kg
          have kn : MG g (up N 12000 0 0) Nf := kn0.tr mg
          have e95 : ∀ q, So C' g q = if q = p then v else So C g q := fun q => by
            show C' 9000 (9 * g + q) 5 = _
            rw [F1 _ _ _ (by omega) (by omega) (by omega) (by omega) (by omega)]
            unfold skC
            rw [uq_s]
            by_cases e : q = p
            · rw [if_pos (by omega), if_pos e]
            · rw [if_neg (by omega), uq_s, if_neg (by omega), if_neg e]
          have fs : ∀ y, Fdl (skC C g p v) g y = Fdl C g y := fun y => by
            show skC C g p v 2000 (150 * g + y) 6 = _
            unfold skC
            rw [uq_s, if_neg (by omega), uq_s, if_neg (by omega)]
          have ws : ∀ y, skC C g p v 2000 (150 * g + y) 1 = C 2000 (150 * g + y) 1 := fun y => by
            unfold skC
            rw [uq_s, if_neg (by omega), uq_s, if_neg (by omega)]
          have gi : GIn C' Nf g := gz.sk (v := v) (p := p) jz.jn.g az p1 p9 h2.1 ow kc kn (by rw [n1 _ (by decide) (by decide) (by decide) (by decide)]; rfl) (by rw [n1 _ (by decide) (by decide) (by decide) (by decide)]; rfl) (fun q => by
            rw [n1 _ (by decide) (by decide) (by decide) (by decide), up_s]
            by_cases e : q = p
            · rw [if_pos (by omega), if_pos e]
            · rw [if_neg (by omega), if_neg e]) e95 (by
            rw [F1 _ _ _ (by omega) (by omega) (by omega) (by omega) (by omega)]
            unfold skC
            rw [uq_s, if_neg (by omega), uq_s, if_neg (by omega)]) (fun y y1 y2 => by
            have := hy y y1 y2
            rw [fs, ws] at this
            exact this)
          have pk : PK g C C' (up N 12000 0 0) Nf := by
            refine ⟨by rw [n1 _ (by decide) (by decide) (by decide) (by decide)]; exact Int.le_refl _, fun _ q hq => ⟨by rw [n1 _ (by decide) (by decide) (by decide) (by decide)]; rfl, Or.inl (by rw [n1 _ (by decide) (by decide) (by decide) (by decide)]; rfl), fun z => ?_⟩⟩
            have eq' : q ≠ p := fun e => z (by rw [n1 _ (by decide) (by decide) (by decide) (by decide), e]; exact ow)
            refine ⟨by rw [e95, if_neg eq'], fun b b1 b2 _ b4 hb => ?_⟩
            have b150 : b < 150 := by
              have b2' : b < (N 12000 19) := b2
              omega
            have nb : (up (up N 12000 0 0) 13057 (9 * g + p) v) 13021 b ≠ p := fun e => eq' (b4.symm.trans e)
            obtain ⟨-, y2, y3⟩ := (hy b b1 b150).2 nb
            unfold Pd at hb ⊢
            rw [y2, y3, fs]
            exact hb
          have ne1 : NE C' Nf A := j.ne.grp (g := g) ((MG.rf (g := g)).tr kn) (by rw [n1 _ (by decide) (by decide) (by decide) (by decide)]; rfl) (by
            funext i z
            rw [F1 _ _ _ (by omega) (by omega) (by omega) (by omega) (by omega)]
            unfold skC
            rw [uq_s, if_neg (by omega), uq_s, if_neg (by omega)]) rfl
          have jj : JJ (n + 1) C' Nf A := jz.grp h1.1 h1.2 kc kn ⟨ga, gi⟩ pk ne1 (by rw [n1 _ (by decide) (by decide) (by decide) (by decide)]; rfl) (by omega) (by
            have := j.b.2.2.2 g h1.1 h1.2
            rw [F1 _ _ _ (by omega) (by omega) (by omega) (by omega) (by omega)]
            unfold skC
            rw [uq_s, if_neg (by omega), uq_s, if_neg (by omega)]
            omega)
          refine SR.w (C1 := C') (N1 := Nf) (N 13057 (9 * g + p)) ?_ ?_ (by rw [n1 _ (by decide) (by decide) (by decide) (by decide)]; rfl) jj
          · have t0' : uq (uq C 9000 (9 * g + p) 3 v) 9000 (9 * g + p) 5 v 9000 (9 * g + p) 0 = 6000 + p := by rw [uq_s, if_neg (by omega), uq_s, if_neg (by omega)]; exact t0
            simp (disch := omega) only [aok, up_s, true_and, false_and, and_true, and_false, if_true, if_false, ↓reduceIte, ↓Option.bind_some, Int.reduceEq, Int.reduceNe, Int.reduceLT, Int.reduceLE, gd_true, gd_false, bind_b, q10, eq_self, reduceCtorEq, not_true_eq_false, not_false_eq_true, ne_eq, cr_11000, cr_15000, cr_16000, cr_20000, cr_20001, cr_21000, cr_22000, cr_25000, cr_1000, cr_2000, cr_3000, cr_3003, cr_3006, cr_4000, cr_5000, cr_6000, cr_7000, cr_8000, cr_9000, cr_10000, cr_13500, cr_17000, cr_17100, cr_17103, cr_17106, cr_19000, cr_20100, cr_21100, cr_23000, cr_24000, cw_11000, cw_15000, cw_16000, cw_20000, cw_20001, cw_21000, cw_22000, cw_25000, cw_1000, cw_2000, cw_3000, cw_3003, cw_3006, cw_4000, cw_5000, cw_6000, cw_7000, cw_8000, cw_9000, cw_10000, cw_13500, cw_17000, cw_17100, cw_17103, cw_17106, cw_19000, cw_20100, cw_21100, cw_23000, cw_24000, lc_13500, lc_15000, lc_16000, lc_17000, lc_17100, lc_17103, lc_17106, lc_19000, lc_20000, lc_20001, lc_20100, lc_21000, lc_21100, lc_22000, lc_23000, lc_24000, lc_25000, gd_t, w_eq, thT, thU, psT, psU, hnT, thr_mk, ↓Option.bind_some, hm, h1, hso, c_within, h2, z1, t3, t0', r1']
          · unfold p_X11_seek
            simp (disch := omega) only [aok, up_s, true_and, false_and, and_true, and_false, if_true, if_false, ↓reduceIte, ↓Option.bind_some, Int.reduceEq, Int.reduceNe, Int.reduceLT, Int.reduceLE, gd_true, gd_false, bind_b, q10, eq_self, reduceCtorEq, not_true_eq_false, not_false_eq_true, ne_eq, pt_0, pt_1, pt_2, pt_3, pt_4, pt_5, pt_6, pt_7, pt_8, pt_9, pt_10, pt_11, pt_12, pt_13, pt_14, pt_15, pt_16, pt_17, pt_18, pt_19, pt_20, pt_21, pt_22, pt_23, pt_24, pt_25, pt_26, pt_27, pt_28, pt_29, pt_30, pt_31, pt_32, pt_33, pt_34, pt_35, pt_36, pt_37, pt_38, pt_39, pt_40, pt_41, pt_42, pt_43, pt_44, pt_45, pt_46, pt_47, pt_48, pt_49, pt_50, pt_51, pt_52, pt_53, pt_54, pt_55, pt_56, pt_57, pt_58, pt_59, pt_60, pt_61, pt_62, pt_63, pt_64, pt_65, pt_66, pt_67, pa_13005, pw_13005, pa_13006, pw_13006, pa_13007, pw_13007, pa_14008, pw_14008, pa_13009, pw_13009, pa_13010, pw_13010, pa_13012, pw_13012, pa_13013, pw_13013, pa_13014, pw_13014, pa_13015, pw_13015, pa_13016, pw_13016, pa_13017, pw_13017, pa_13018, pw_13018, pa_13020, pw_13020, pa_13021, pw_13021, pa_13022, pw_13022, pa_13023, pw_13023, pa_13024, pw_13024, pa_13025, pw_13025, pa_13026, pw_13026, pa_13027, pw_13027, pa_13028, pw_13028, pa_13029, pw_13029, pa_13031, pw_13031, pa_13032, pw_13032, pa_13033, pw_13033, pa_14034, pw_14034, pa_13035, pw_13035, pa_13036, pw_13036, pa_13037, pw_13037, pa_13038, pw_13038, pa_13039, pw_13039, pa_13042, pw_13042, pa_13043, pw_13043, pa_13044, pw_13044, pa_13045, pw_13045, pa_13046, pw_13046, pa_13047, pw_13047, pa_13048, pw_13048, pa_13049, pw_13049, pa_13050, pw_13050, pa_13051, pw_13051, pa_13052, pw_13052, pa_13053, pw_13053, pa_13054, pw_13054, pa_13055, pw_13055, pa_13056, pw_13056, pa_13057, pw_13057, pa_13058, pw_13058, pa_13059, pw_13059, pa_13060, pw_13060, pa_13061, pw_13061, pa_13062, pw_13062, pa_13063, pw_13063, pa_13064, pw_13064, pa_13065, pw_13065, pa_13066, pw_13066, pa_13067, pw_13067, ps_0, ps_1, ps_2, ps_3, ps_4, ps_11, ps_19, ps_30, ps_40, ps_41, ln_13005, ln_13006, ln_13007, ln_14008, ln_13009, ln_13010, ln_13012, ln_13013, ln_13014, ln_13015, ln_13016, ln_13017, ln_13018, ln_13020, ln_13021, ln_13022, ln_13023, ln_13024, ln_13025, ln_13026, ln_13027, ln_13028, ln_13029, ln_13031, ln_13032, ln_13033, ln_14034, ln_13035, ln_13036, ln_13037, ln_13038, ln_13039, ln_13042, ln_13043, ln_13044, ln_13045, ln_13046, ln_13047, ln_13048, ln_13049, ln_13050, ln_13051, ln_13052, ln_13053, ln_13054, ln_13055, ln_13056, ln_13057, ln_13058, ln_13059, ln_13060, ln_13061, ln_13062, ln_13063, ln_13064, ln_13065, ln_13066, ln_13067, gd_t, w_eq, hi, h1, hr, m_in, h2, ow, sw, fdm]
        · have z1 : ¬ C 9000 (9 * g + p) 1 = 0 := by
            rw [t1]
            unfold obj
            rcases (a.np p p1 p9).1.1 with z | z
            · exact absurd z ow
            · rw [if_neg ow]; omega
          refine SR.r j 3 (by omega) ?_ ?_
          · simp (disch := omega) only [aok, up_s, true_and, false_and, and_true, and_false, if_true, if_false, ↓reduceIte, ↓Option.bind_some, Int.reduceEq, Int.reduceNe, Int.reduceLT, Int.reduceLE, gd_true, gd_false, bind_b, q10, eq_self, reduceCtorEq, not_true_eq_false, not_false_eq_true, ne_eq, cr_11000, cr_15000, cr_16000, cr_20000, cr_20001, cr_21000, cr_22000, cr_25000, cr_1000, cr_2000, cr_3000, cr_3003, cr_3006, cr_4000, cr_5000, cr_6000, cr_7000, cr_8000, cr_9000, cr_10000, cr_13500, cr_17000, cr_17100, cr_17103, cr_17106, cr_19000, cr_20100, cr_21100, cr_23000, cr_24000, cw_11000, cw_15000, cw_16000, cw_20000, cw_20001, cw_21000, cw_22000, cw_25000, cw_1000, cw_2000, cw_3000, cw_3003, cw_3006, cw_4000, cw_5000, cw_6000, cw_7000, cw_8000, cw_9000, cw_10000, cw_13500, cw_17000, cw_17100, cw_17103, cw_17106, cw_19000, cw_20100, cw_21100, cw_23000, cw_24000, lc_13500, lc_15000, lc_16000, lc_17000, lc_17100, lc_17103, lc_17106, lc_19000, lc_20000, lc_20001, lc_20100, lc_21000, lc_21100, lc_22000, lc_23000, lc_24000, lc_25000, gd_t, w_eq, thT, thU, psT, psU, hnT, thr_mk, ↓Option.bind_some, hm, h1, hso, c_within, h2, z1]
          · unfold p_X11_seek
            simp (disch := omega) only [aok, up_s, true_and, false_and, and_true, and_false, if_true, if_false, ↓reduceIte, ↓Option.bind_some, Int.reduceEq, Int.reduceNe, Int.reduceLT, Int.reduceLE, gd_true, gd_false, bind_b, q10, eq_self, reduceCtorEq, not_true_eq_false, not_false_eq_true, ne_eq, pt_0, pt_1, pt_2, pt_3, pt_4, pt_5, pt_6, pt_7, pt_8, pt_9, pt_10, pt_11, pt_12, pt_13, pt_14, pt_15, pt_16, pt_17, pt_18, pt_19, pt_20, pt_21, pt_22, pt_23, pt_24, pt_25, pt_26, pt_27, pt_28, pt_29, pt_30, pt_31, pt_32, pt_33, pt_34, pt_35, pt_36, pt_37, pt_38, pt_39, pt_40, pt_41, pt_42, pt_43, pt_44, pt_45, pt_46, pt_47, pt_48, pt_49, pt_50, pt_51, pt_52, pt_53, pt_54, pt_55, pt_56, pt_57, pt_58, pt_59, pt_60, pt_61, pt_62, pt_63, pt_64, pt_65, pt_66, pt_67, pa_13005, pw_13005, pa_13006, pw_13006, pa_13007, pw_13007, pa_14008, pw_14008, pa_13009, pw_13009, pa_13010, pw_13010, pa_13012, pw_13012, pa_13013, pw_13013, pa_13014, pw_13014, pa_13015, pw_13015, pa_13016, pw_13016, pa_13017, pw_13017, pa_13018, pw_13018, pa_13020, pw_13020, pa_13021, pw_13021, pa_13022, pw_13022, pa_13023, pw_13023, pa_13024, pw_13024, pa_13025, pw_13025, pa_13026, pw_13026, pa_13027, pw_13027, pa_13028, pw_13028, pa_13029, pw_13029, pa_13031, pw_13031, pa_13032, pw_13032, pa_13033, pw_13033, pa_14034, pw_14034, pa_13035, pw_13035, pa_13036, pw_13036, pa_13037, pw_13037, pa_13038, pw_13038, pa_13039, pw_13039, pa_13042, pw_13042, pa_13043, pw_13043, pa_13044, pw_13044, pa_13045, pw_13045, pa_13046, pw_13046, pa_13047, pw_13047, pa_13048, pw_13048, pa_13049, pw_13049, pa_13050, pw_13050, pa_13051, pw_13051, pa_13052, pw_13052, pa_13053, pw_13053, pa_13054, pw_13054, pa_13055, pw_13055, pa_13056, pw_13056, pa_13057, pw_13057, pa_13058, pw_13058, pa_13059, pw_13059, pa_13060, pw_13060, pa_13061, pw_13061, pa_13062, pw_13062, pa_13063, pw_13063, pa_13064, pw_13064, pa_13065, pw_13065, pa_13066, pw_13066, pa_13067, pw_13067, ps_0, ps_1, ps_2, ps_3, ps_4, ps_11, ps_19, ps_30, ps_40, ps_41, ln_13005, ln_13006, ln_13007, ln_14008, ln_13009, ln_13010, ln_13012, ln_13013, ln_13014, ln_13015, ln_13016, ln_13017, ln_13018, ln_13020, ln_13021, ln_13022, ln_13023, ln_13024, ln_13025, ln_13026, ln_13027, ln_13028, ln_13029, ln_13031, ln_13032, ln_13033, ln_14034, ln_13035, ln_13036, ln_13037, ln_13038, ln_13039, ln_13042, ln_13043, ln_13044, ln_13045, ln_13046, ln_13047, ln_13048, ln_13049, ln_13050, ln_13051, ln_13052, ln_13053, ln_13054, ln_13055, ln_13056, ln_13057, ln_13058, ln_13059, ln_13060, ln_13061, ln_13062, ln_13063, ln_13064, ln_13065, ln_13066, ln_13067, gd_t, w_eq, hi, h1, hr, m_in, h2, ow, m_refuse]
      · refine SR.r j 2 (by omega) ?_ ?_
        · simp (disch := omega) only [aok, up_s, true_and, false_and, and_true, and_false, if_true, if_false, ↓reduceIte, ↓Option.bind_some, Int.reduceEq, Int.reduceNe, Int.reduceLT, Int.reduceLE, gd_true, gd_false, bind_b, q10, eq_self, reduceCtorEq, not_true_eq_false, not_false_eq_true, ne_eq, cr_11000, cr_15000, cr_16000, cr_20000, cr_20001, cr_21000, cr_22000, cr_25000, cr_1000, cr_2000, cr_3000, cr_3003, cr_3006, cr_4000, cr_5000, cr_6000, cr_7000, cr_8000, cr_9000, cr_10000, cr_13500, cr_17000, cr_17100, cr_17103, cr_17106, cr_19000, cr_20100, cr_21100, cr_23000, cr_24000, cw_11000, cw_15000, cw_16000, cw_20000, cw_20001, cw_21000, cw_22000, cw_25000, cw_1000, cw_2000, cw_3000, cw_3003, cw_3006, cw_4000, cw_5000, cw_6000, cw_7000, cw_8000, cw_9000, cw_10000, cw_13500, cw_17000, cw_17100, cw_17103, cw_17106, cw_19000, cw_20100, cw_21100, cw_23000, cw_24000, lc_13500, lc_15000, lc_16000, lc_17000, lc_17100, lc_17103, lc_17106, lc_19000, lc_20000, lc_20001, lc_20100, lc_21000, lc_21100, lc_22000, lc_23000, lc_24000, lc_25000, gd_t, w_eq, thT, thU, psT, psU, hnT, thr_mk, ↓Option.bind_some, hm, h1, hso, c_within, h2]
        · unfold p_X11_seek
          simp (disch := omega) only [aok, up_s, true_and, false_and, and_true, and_false, if_true, if_false, ↓reduceIte, ↓Option.bind_some, Int.reduceEq, Int.reduceNe, Int.reduceLT, Int.reduceLE, gd_true, gd_false, bind_b, q10, eq_self, reduceCtorEq, not_true_eq_false, not_false_eq_true, ne_eq, pt_0, pt_1, pt_2, pt_3, pt_4, pt_5, pt_6, pt_7, pt_8, pt_9, pt_10, pt_11, pt_12, pt_13, pt_14, pt_15, pt_16, pt_17, pt_18, pt_19, pt_20, pt_21, pt_22, pt_23, pt_24, pt_25, pt_26, pt_27, pt_28, pt_29, pt_30, pt_31, pt_32, pt_33, pt_34, pt_35, pt_36, pt_37, pt_38, pt_39, pt_40, pt_41, pt_42, pt_43, pt_44, pt_45, pt_46, pt_47, pt_48, pt_49, pt_50, pt_51, pt_52, pt_53, pt_54, pt_55, pt_56, pt_57, pt_58, pt_59, pt_60, pt_61, pt_62, pt_63, pt_64, pt_65, pt_66, pt_67, pa_13005, pw_13005, pa_13006, pw_13006, pa_13007, pw_13007, pa_14008, pw_14008, pa_13009, pw_13009, pa_13010, pw_13010, pa_13012, pw_13012, pa_13013, pw_13013, pa_13014, pw_13014, pa_13015, pw_13015, pa_13016, pw_13016, pa_13017, pw_13017, pa_13018, pw_13018, pa_13020, pw_13020, pa_13021, pw_13021, pa_13022, pw_13022, pa_13023, pw_13023, pa_13024, pw_13024, pa_13025, pw_13025, pa_13026, pw_13026, pa_13027, pw_13027, pa_13028, pw_13028, pa_13029, pw_13029, pa_13031, pw_13031, pa_13032, pw_13032, pa_13033, pw_13033, pa_14034, pw_14034, pa_13035, pw_13035, pa_13036, pw_13036, pa_13037, pw_13037, pa_13038, pw_13038, pa_13039, pw_13039, pa_13042, pw_13042, pa_13043, pw_13043, pa_13044, pw_13044, pa_13045, pw_13045, pa_13046, pw_13046, pa_13047, pw_13047, pa_13048, pw_13048, pa_13049, pw_13049, pa_13050, pw_13050, pa_13051, pw_13051, pa_13052, pw_13052, pa_13053, pw_13053, pa_13054, pw_13054, pa_13055, pw_13055, pa_13056, pw_13056, pa_13057, pw_13057, pa_13058, pw_13058, pa_13059, pw_13059, pa_13060, pw_13060, pa_13061, pw_13061, pa_13062, pw_13062, pa_13063, pw_13063, pa_13064, pw_13064, pa_13065, pw_13065, pa_13066, pw_13066, pa_13067, pw_13067, ps_0, ps_1, ps_2, ps_3, ps_4, ps_11, ps_19, ps_30, ps_40, ps_41, ln_13005, ln_13006, ln_13007, ln_14008, ln_13009, ln_13010, ln_13012, ln_13013, ln_13014, ln_13015, ln_13016, ln_13017, ln_13018, ln_13020, ln_13021, ln_13022, ln_13023, ln_13024, ln_13025, ln_13026, ln_13027, ln_13028, ln_13029, ln_13031, ln_13032, ln_13033, ln_14034, ln_13035, ln_13036, ln_13037, ln_13038, ln_13039, ln_13042, ln_13043, ln_13044, ln_13045, ln_13046, ln_13047, ln_13048, ln_13049, ln_13050, ln_13051, ln_13052, ln_13053, ln_13054, ln_13055, ln_13056, ln_13057, ln_13058, ln_13059, ln_13060, ln_13061, ln_13062, ln_13063, ln_13064, ln_13065, ln_13066, ln_13067, gd_t, w_eq, hi, h1, hr, m_in, h2, m_refuse]
    · rw [if_neg r] at sa
      simp only [if_neg r] at hr
      have hso : p_X10_shareOf (mk C N A) (1000 + g) p = some (1, 0, mk C N (thA A)) := by
        unfold p_X10_shareOf
        simp (disch := omega) only [aok, up_s, true_and, false_and, and_true, and_false, if_true, if_false, ↓reduceIte, ↓Option.bind_some, Int.reduceEq, Int.reduceNe, Int.reduceLT, Int.reduceLE, gd_true, gd_false, bind_b, q10, eq_self, reduceCtorEq, not_true_eq_false, not_false_eq_true, ne_eq, cr_11000, cr_15000, cr_16000, cr_20000, cr_20001, cr_21000, cr_22000, cr_25000, cr_1000, cr_2000, cr_3000, cr_3003, cr_3006, cr_4000, cr_5000, cr_6000, cr_7000, cr_8000, cr_9000, cr_10000, cr_13500, cr_17000, cr_17100, cr_17103, cr_17106, cr_19000, cr_20100, cr_21100, cr_23000, cr_24000, cw_11000, cw_15000, cw_16000, cw_20000, cw_20001, cw_21000, cw_22000, cw_25000, cw_1000, cw_2000, cw_3000, cw_3003, cw_3006, cw_4000, cw_5000, cw_6000, cw_7000, cw_8000, cw_9000, cw_10000, cw_13500, cw_17000, cw_17100, cw_17103, cw_17106, cw_19000, cw_20100, cw_21100, cw_23000, cw_24000, lc_13500, lc_15000, lc_16000, lc_17000, lc_17100, lc_17103, lc_17106, lc_19000, lc_20000, lc_20001, lc_20100, lc_21000, lc_21100, lc_22000, lc_23000, lc_24000, lc_25000, gd_t, w_eq, thT, thU, psT, psU, hnT, thr_mk, ↓Option.bind_some, sa]
      refine SR.r j 1 (by omega) ?_ ?_
      · simp (disch := omega) only [aok, up_s, true_and, false_and, and_true, and_false, if_true, if_false, ↓reduceIte, ↓Option.bind_some, Int.reduceEq, Int.reduceNe, Int.reduceLT, Int.reduceLE, gd_true, gd_false, bind_b, q10, eq_self, reduceCtorEq, not_true_eq_false, not_false_eq_true, ne_eq, cr_11000, cr_15000, cr_16000, cr_20000, cr_20001, cr_21000, cr_22000, cr_25000, cr_1000, cr_2000, cr_3000, cr_3003, cr_3006, cr_4000, cr_5000, cr_6000, cr_7000, cr_8000, cr_9000, cr_10000, cr_13500, cr_17000, cr_17100, cr_17103, cr_17106, cr_19000, cr_20100, cr_21100, cr_23000, cr_24000, cw_11000, cw_15000, cw_16000, cw_20000, cw_20001, cw_21000, cw_22000, cw_25000, cw_1000, cw_2000, cw_3000, cw_3003, cw_3006, cw_4000, cw_5000, cw_6000, cw_7000, cw_8000, cw_9000, cw_10000, cw_13500, cw_17000, cw_17100, cw_17103, cw_17106, cw_19000, cw_20100, cw_21100, cw_23000, cw_24000, lc_13500, lc_15000, lc_16000, lc_17000, lc_17100, lc_17103, lc_17106, lc_19000, lc_20000, lc_20001, lc_20100, lc_21000, lc_21100, lc_22000, lc_23000, lc_24000, lc_25000, gd_t, w_eq, thT, thU, psT, psU, hnT, thr_mk, ↓Option.bind_some, hm, h1, hso]
      · unfold p_X11_seek
        simp (disch := omega) only [aok, up_s, true_and, false_and, and_true, and_false, if_true, if_false, ↓reduceIte, ↓Option.bind_some, Int.reduceEq, Int.reduceNe, Int.reduceLT, Int.reduceLE, gd_true, gd_false, bind_b, q10, eq_self, reduceCtorEq, not_true_eq_false, not_false_eq_true, ne_eq, pt_0, pt_1, pt_2, pt_3, pt_4, pt_5, pt_6, pt_7, pt_8, pt_9, pt_10, pt_11, pt_12, pt_13, pt_14, pt_15, pt_16, pt_17, pt_18, pt_19, pt_20, pt_21, pt_22, pt_23, pt_24, pt_25, pt_26, pt_27, pt_28, pt_29, pt_30, pt_31, pt_32, pt_33, pt_34, pt_35, pt_36, pt_37, pt_38, pt_39, pt_40, pt_41, pt_42, pt_43, pt_44, pt_45, pt_46, pt_47, pt_48, pt_49, pt_50, pt_51, pt_52, pt_53, pt_54, pt_55, pt_56, pt_57, pt_58, pt_59, pt_60, pt_61, pt_62, pt_63, pt_64, pt_65, pt_66, pt_67, pa_13005, pw_13005, pa_13006, pw_13006, pa_13007, pw_13007, pa_14008, pw_14008, pa_13009, pw_13009, pa_13010, pw_13010, pa_13012, pw_13012, pa_13013, pw_13013, pa_13014, pw_13014, pa_13015, pw_13015, pa_13016, pw_13016, pa_13017, pw_13017, pa_13018, pw_13018, pa_13020, pw_13020, pa_13021, pw_13021, pa_13022, pw_13022, pa_13023, pw_13023, pa_13024, pw_13024, pa_13025, pw_13025, pa_13026, pw_13026, pa_13027, pw_13027, pa_13028, pw_13028, pa_13029, pw_13029, pa_13031, pw_13031, pa_13032, pw_13032, pa_13033, pw_13033, pa_14034, pw_14034, pa_13035, pw_13035, pa_13036, pw_13036, pa_13037, pw_13037, pa_13038, pw_13038, pa_13039, pw_13039, pa_13042, pw_13042, pa_13043, pw_13043, pa_13044, pw_13044, pa_13045, pw_13045, pa_13046, pw_13046, pa_13047, pw_13047, pa_13048, pw_13048, pa_13049, pw_13049, pa_13050, pw_13050, pa_13051, pw_13051, pa_13052, pw_13052, pa_13053, pw_13053, pa_13054, pw_13054, pa_13055, pw_13055, pa_13056, pw_13056, pa_13057, pw_13057, pa_13058, pw_13058, pa_13059, pw_13059, pa_13060, pw_13060, pa_13061, pw_13061, pa_13062, pw_13062, pa_13063, pw_13063, pa_13064, pw_13064, pa_13065, pw_13065, pa_13066, pw_13066, pa_13067, pw_13067, ps_0, ps_1, ps_2, ps_3, ps_4, ps_11, ps_19, ps_30, ps_40, ps_41, ln_13005, ln_13006, ln_13007, ln_14008, ln_13009, ln_13010, ln_13012, ln_13013, ln_13014, ln_13015, ln_13016, ln_13017, ln_13018, ln_13020, ln_13021, ln_13022, ln_13023, ln_13024, ln_13025, ln_13026, ln_13027, ln_13028, ln_13029, ln_13031, ln_13032, ln_13033, ln_14034, ln_13035, ln_13036, ln_13037, ln_13038, ln_13039, ln_13042, ln_13043, ln_13044, ln_13045, ln_13046, ln_13047, ln_13048, ln_13049, ln_13050, ln_13051, ln_13052, ln_13053, ln_13054, ln_13055, ln_13056, ln_13057, ln_13058, ln_13059, ln_13060, ln_13061, ln_13062, ln_13063, ln_13064, ln_13065, ln_13066, ln_13067, gd_t, w_eq, hi, h1, hr, m_refuse]
  · refine SR.r j 1 (by omega) ?_ ?_
    · simp (disch := omega) only [aok, up_s, true_and, false_and, and_true, and_false, if_true, if_false, ↓reduceIte, ↓Option.bind_some, Int.reduceEq, Int.reduceNe, Int.reduceLT, Int.reduceLE, gd_true, gd_false, bind_b, q10, eq_self, reduceCtorEq, not_true_eq_false, not_false_eq_true, ne_eq, cr_11000, cr_15000, cr_16000, cr_20000, cr_20001, cr_21000, cr_22000, cr_25000, cr_1000, cr_2000, cr_3000, cr_3003, cr_3006, cr_4000, cr_5000, cr_6000, cr_7000, cr_8000, cr_9000, cr_10000, cr_13500, cr_17000, cr_17100, cr_17103, cr_17106, cr_19000, cr_20100, cr_21100, cr_23000, cr_24000, cw_11000, cw_15000, cw_16000, cw_20000, cw_20001, cw_21000, cw_22000, cw_25000, cw_1000, cw_2000, cw_3000, cw_3003, cw_3006, cw_4000, cw_5000, cw_6000, cw_7000, cw_8000, cw_9000, cw_10000, cw_13500, cw_17000, cw_17100, cw_17103, cw_17106, cw_19000, cw_20100, cw_21100, cw_23000, cw_24000, lc_13500, lc_15000, lc_16000, lc_17000, lc_17100, lc_17103, lc_17106, lc_19000, lc_20000, lc_20001, lc_20100, lc_21000, lc_21100, lc_22000, lc_23000, lc_24000, lc_25000, gd_t, w_eq, thT, thU, psT, psU, hnT, thr_mk, ↓Option.bind_some, hm, h1]
    · unfold p_X11_seek
      simp (disch := omega) only [aok, up_s, true_and, false_and, and_true, and_false, if_true, if_false, ↓reduceIte, ↓Option.bind_some, Int.reduceEq, Int.reduceNe, Int.reduceLT, Int.reduceLE, gd_true, gd_false, bind_b, q10, eq_self, reduceCtorEq, not_true_eq_false, not_false_eq_true, ne_eq, pt_0, pt_1, pt_2, pt_3, pt_4, pt_5, pt_6, pt_7, pt_8, pt_9, pt_10, pt_11, pt_12, pt_13, pt_14, pt_15, pt_16, pt_17, pt_18, pt_19, pt_20, pt_21, pt_22, pt_23, pt_24, pt_25, pt_26, pt_27, pt_28, pt_29, pt_30, pt_31, pt_32, pt_33, pt_34, pt_35, pt_36, pt_37, pt_38, pt_39, pt_40, pt_41, pt_42, pt_43, pt_44, pt_45, pt_46, pt_47, pt_48, pt_49, pt_50, pt_51, pt_52, pt_53, pt_54, pt_55, pt_56, pt_57, pt_58, pt_59, pt_60, pt_61, pt_62, pt_63, pt_64, pt_65, pt_66, pt_67, pa_13005, pw_13005, pa_13006, pw_13006, pa_13007, pw_13007, pa_14008, pw_14008, pa_13009, pw_13009, pa_13010, pw_13010, pa_13012, pw_13012, pa_13013, pw_13013, pa_13014, pw_13014, pa_13015, pw_13015, pa_13016, pw_13016, pa_13017, pw_13017, pa_13018, pw_13018, pa_13020, pw_13020, pa_13021, pw_13021, pa_13022, pw_13022, pa_13023, pw_13023, pa_13024, pw_13024, pa_13025, pw_13025, pa_13026, pw_13026, pa_13027, pw_13027, pa_13028, pw_13028, pa_13029, pw_13029, pa_13031, pw_13031, pa_13032, pw_13032, pa_13033, pw_13033, pa_14034, pw_14034, pa_13035, pw_13035, pa_13036, pw_13036, pa_13037, pw_13037, pa_13038, pw_13038, pa_13039, pw_13039, pa_13042, pw_13042, pa_13043, pw_13043, pa_13044, pw_13044, pa_13045, pw_13045, pa_13046, pw_13046, pa_13047, pw_13047, pa_13048, pw_13048, pa_13049, pw_13049, pa_13050, pw_13050, pa_13051, pw_13051, pa_13052, pw_13052, pa_13053, pw_13053, pa_13054, pw_13054, pa_13055, pw_13055, pa_13056, pw_13056, pa_13057, pw_13057, pa_13058, pw_13058, pa_13059, pw_13059, pa_13060, pw_13060, pa_13061, pw_13061, pa_13062, pw_13062, pa_13063, pw_13063, pa_13064, pw_13064, pa_13065, pw_13065, pa_13066, pw_13066, pa_13067, pw_13067, ps_0, ps_1, ps_2, ps_3, ps_4, ps_11, ps_19, ps_30, ps_40, ps_41, ln_13005, ln_13006, ln_13007, ln_14008, ln_13009, ln_13010, ln_13012, ln_13013, ln_13014, ln_13015, ln_13016, ln_13017, ln_13018, ln_13020, ln_13021, ln_13022, ln_13023, ln_13024, ln_13025, ln_13026, ln_13027, ln_13028, ln_13029, ln_13031, ln_13032, ln_13033, ln_14034, ln_13035, ln_13036, ln_13037, ln_13038, ln_13039, ln_13042, ln_13043, ln_13044, ln_13045, ln_13046, ln_13047, ln_13048, ln_13049, ln_13050, ln_13051, ln_13052, ln_13053, ln_13054, ln_13055, ln_13056, ln_13057, ln_13058, ln_13059, ln_13060, ln_13061, ln_13062, ln_13063, ln_13064, ln_13065, ln_13066, ln_13067, gd_t, w_eq, hi, h1, m_refuse]
