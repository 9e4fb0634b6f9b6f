/-! PURE PART, a30: readsAll; in the end all that can be read was -/
section END
variable {n : Int} {C : Cd} {N X : Nd} {A : Ad}
theorem PH.mg' {T : Int} (h : PH T N) (m : MG 0 N X) : PH T X := by
  rw [m.gm]
  exact h
/-- what holds at a round's begin -/
def RND (T r : Int) (N : Nd) : Prop := PH T N ∧ 0 < mcn N 0 ∧ (N 12000 1) = T + r ∧ (∀ m, 0 ≤ m → m < 150 → wt N m = 1 → du N m ≤ T + 4 ∨ du N m ≤ (N 12000 1)) ∧ (1 ≤ r → (∀ p, 0 ≤ p → p < 3 → ow N p = tg N p ∧ tg N p ≠ -1) ∧ ∀ i, 0 ≤ i → i < 12 → N 13047 (12 * 0 + i) = 1 → hn N 0 i = 0 ∧ FAR i (24 * (r - 1)) N)
def btn (N B : Nd) : Nd := fun a k => if a = 13048 then B a k else N a k
theorem btn_of (h : ∀ a, a ≠ 13048 → X a = N a) : X = btn N X := by
  funext a k
  unfold btn
  by_cases e : a = 13048
  · rw [if_pos e]
  · rw [if_neg e, h a e]
theorem BTS.wrd {T r : Int} (l : LV n C X A) (h : RND T r N) (b : BTS N X) (r0 : 0 ≤ r) : WRD T X ∧ (X 12000 1) = (N 12000 1) ∧ (1 ≤ r → ∀ i, 0 ≤ i → i < 12 → X 13047 (12 * 0 + i) = 1 → hn X 0 i = 0) ∧ ∀ j, 0 ≤ j → j < 12 → X 13047 (12 * 0 + j) = 1 → FAR j (24 * (r - 1)) X := by
  obtain ⟨h1, h2, h3, h4, h5⟩ := h
  obtain ⟨b1, b2, b3, b4, b5⟩ := b
  have sc : X 12000 = N 12000 := b1.n0 (Or.inl (by decide))
  have eI : X 13047 = N 13047 := b2 _ (by decide)
  refine ⟨⟨h1.mg' b1, ?_, b3, fun m m1 m2 hw' => ?_, fun i i1 i2 hi => ?_⟩, by rw [sc], fun hr i i1 i2 hi => ?_, fun j j1 j2 hj => ?_⟩
  · unfold mcn at h2 ⊢
    rw [eI]
    exact h2
  · by_cases z : 1 ≤ r
    · have hx := b5 (fun p p1 p2 => ((h5 z).1 p p1 p2).1)
      have e1 : wt X m = wt N m := by unfold wt; rw [hx 13059 (by decide)]
      have e2 : du X m = du N m := by unfold du; rw [hx 13060 (by decide)]
      rw [e2, sc]
      exact h4 m m1 m2 (by rw [← e1]; exact hw')
    · left
      have q := l.2.1.2.2.2.1 m m1 m2 hw'
      rw [sc] at q
      omega
  · rw [eI] at hi
    rw [sc]
    exact b4 i i1 i2 hi
  · have hx := b5 (fun p p1 p2 => ((h5 hr).1 p p1 p2).1)
    rw [eI] at hi
    unfold hn
    rw [hx 13051 (by decide)]
    exact ((h5 hr).2 i i1 i2 hi).1
  · by_cases z : 1 ≤ r
    · have hx := btn_of (b5 (fun p p1 p2 => ((h5 z).1 p p1 p2).1))
      rw [eI] at hj
      have q := ((h5 z).2 j j1 j2 hj).2
      rw [hx]
      exact q
    · exact FAR.c0 (by omega)
/-- a tick of the rounds -/
theorem x_tick {T : Int} (hn9 : n < 9990000) (l : LV n C N A) (wd : WRD T N) : Ok (q_L_tick (mk C N A) 11000 1) (fun r => 0 < r.1 ∧ ∃ C2 X A2, r.2 = mk C2 X A2 ∧ LV (n + 1) C2 X A2 ∧ PH T X ∧ (X 12000 1) = (N 12000 1) + 1 ∧ (∀ a, 13034 ≤ a → a < 13068 → X a = N a) ∧ (∀ i, Psi i X ≤ Psi i N) ∧ (T + 9 ≤ (N 12000 1) → ∀ i, ZZ i N → ZZ i X)) := by
  have j := l.1
  have h : (1 : Int) ≤ 1 ∧ (1 : Int) ≤ 30 := by decide
  have jz0 : JJ n C (up N 12000 0 0) A := j.thrown
  have jz : JJ (n + 1) C (up N 12000 0 0) A := jz0.next
  have s8 := j.jn.g.s.2.2.2.2.2.2.2.1
  obtain ⟨C2, N2, y1, y2, y3, y4, y5⟩ := tcLoop (N0 := N) (T := 1) (n := n + 1) (by omega) 1 C (up N 12000 0 0) 0 1000 jz (by have := j.b.2.1; show (N 12000 1) + _ ≤ _; omega) (by omega) (by omega) (by omega) (by omega)
  obtain ⟨N1, t, -, e⟩ := y5
  have e' : N2 = N1 := e
  subst e'
  have w0 : WV (up N 12000 0 0) := l.2.1
  have bn : BTN (up N 12000 0 0) := wd.2.2.2.2
  have ph : PH T (up N 12000 0 0) := wd.1
  obtain ⟨p1, p2, p3, p5, p4⟩ := PH.tk jz w0 bn ph t
  obtain ⟨a1, a2, a3, a4⟩ := WV.tk jz w0 t
  have mo : Mo N N2 := a2
  have nw : (N2 12000 1) = (N 12000 1) + 1 := p3
  obtain ⟨z, C3, A3, c1, c2, -, c4⟩ := L_tick (n := n) (N2 := N2) (v2 := (N2 12000 1)) (t := 1) (by omega) j (fun C A => by
    unfold p_X11_tick
    simp (disch := omega) only [aok, up_s, true_and, false_and, and_true, and_false, if_true, if_false, ↓reduceIte, ↓Option.bind_some, Int.reduceEq, Int.reduceNe, Int.reduceLT, Int.reduceLE, gd_true, gd_false, bind_b, q10, eq_self, reduceCtorEq, not_true_eq_false, not_false_eq_true, ne_eq, pt_0, pt_1, pt_2, pt_3, pt_4, pt_5, pt_6, pt_7, pt_8, pt_9, pt_10, pt_11, pt_12, pt_13, pt_14, pt_15, pt_16, pt_17, pt_18, pt_19, pt_20, pt_21, pt_22, pt_23, pt_24, pt_25, pt_26, pt_27, pt_28, pt_29, pt_30, pt_31, pt_32, pt_33, pt_34, pt_35, pt_36, pt_37, pt_38, pt_39, pt_40, pt_41, pt_42, pt_43, pt_44, pt_45, pt_46, pt_47, pt_48, pt_49, pt_50, pt_51, pt_52, pt_53, pt_54, pt_55, pt_56, pt_57, pt_58, pt_59, pt_60, pt_61, pt_62, pt_63, pt_64, pt_65, pt_66, pt_67, pa_13005, pw_13005, pa_13006, pw_13006, pa_13007, pw_13007, pa_14008, pw_14008, pa_13009, pw_13009, pa_13010, pw_13010, pa_13012, pw_13012, pa_13013, pw_13013, pa_13014, pw_13014, pa_13015, pw_13015, pa_13016, pw_13016, pa_13017, pw_13017, pa_13018, pw_13018, pa_13020, pw_13020, pa_13021, pw_13021, pa_13022, pw_13022, pa_13023, pw_13023, pa_13024, pw_13024, pa_13025, pw_13025, pa_13026, pw_13026, pa_13027, pw_13027, pa_13028, pw_13028, pa_13029, pw_13029, pa_13031, pw_13031, pa_13032, pw_13032, pa_13033, pw_13033, pa_14034, pw_14034, pa_13035, pw_13035, pa_13036, pw_13036, pa_13037, pw_13037, pa_13038, pw_13038, pa_13039, pw_13039, pa_13042, pw_13042, pa_13043, pw_13043, pa_13044, pw_13044, pa_13045, pw_13045, pa_13046, pw_13046, pa_13047, pw_13047, pa_13048, pw_13048, pa_13049, pw_13049, pa_13050, pw_13050, pa_13051, pw_13051, pa_13052, pw_13052, pa_13053, pw_13053, pa_13054, pw_13054, pa_13055, pw_13055, pa_13056, pw_13056, pa_13057, pw_13057, pa_13058, pw_13058, pa_13059, pw_13059, pa_13060, pw_13060, pa_13061, pw_13061, pa_13062, pw_13062, pa_13063, pw_13063, pa_13064, pw_13064, pa_13065, pw_13065, pa_13066, pw_13066, pa_13067, pw_13067, ps_0, ps_1, ps_2, ps_3, ps_4, ps_11, ps_19, ps_30, ps_40, ps_41, ln_13005, ln_13006, ln_13007, ln_14008, ln_13009, ln_13010, ln_13012, ln_13013, ln_13014, ln_13015, ln_13016, ln_13017, ln_13018, ln_13020, ln_13021, ln_13022, ln_13023, ln_13024, ln_13025, ln_13026, ln_13027, ln_13028, ln_13029, ln_13031, ln_13032, ln_13033, ln_14034, ln_13035, ln_13036, ln_13037, ln_13038, ln_13039, ln_13042, ln_13043, ln_13044, ln_13045, ln_13046, ln_13047, ln_13048, ln_13049, ln_13050, ln_13051, ln_13052, ln_13053, ln_13054, ln_13055, ln_13056, ln_13057, ln_13058, ln_13059, ln_13060, ln_13061, ln_13062, ln_13063, ln_13064, ln_13065, ln_13066, ln_13067, gd_t, w_eq, m_in, h, y2])
  have ez := c2 (by rw [y4]; rfl)
  have ar : ∀ a, 13034 ≤ a → a < 13068 → N2 a = N a := fun a b1 b2 => by
    rw [p2 a b1]
    funext k
    rw [up_s, if_neg (by omega)]
  have em : (N2 12000 19) = (N 12000 19) := p5
  refine ⟨_, c1, by show 0 < z; rw [ez, nw]; omega, C3, _, A3, rfl, l.mo a1 mo (a3.trans rfl) c4, p1, nw, fun a b1 b2 => ?_, fun i => ?_, fun h9 i hz => ?_⟩
  · rw [← ar a b1 b2]
    funext k
    unfold mg
    rw [if_pos ⟨by unfold gho; simp; omega, fun z => by omega⟩]
  · have q : Psi i N2 ≤ Psi i N := tick_om j l.2.1 mo em (ar _ (by decide) (by decide)) (ar _ (by decide) (by decide)) (ar _ (by decide) (by decide)) i
    exact q
  · have pc := p4 h9
    have z2 : ZZ i N2 := by
      refine ⟨fun m m1 m2 hw' => ?_, fun m m1 m2 hc ho => ?_⟩
      · have e1 : wt N2 m = wt N m := by unfold wt; rw [ar 13059 (by decide) (by decide)]
        rw [e1] at hw'
        have wo := wait_off j l.2.1.1.g m1 m2 hw'
        have pe := (mo.2.2.1 m m1 wo.1).1.1
        unfold ow
        rw [ar 13055 (by decide) (by decide), pe]
        exact hz.1 m m1 m2 hw'
      · rw [em] at m2
        have pe := mo.2.2.1 m m1 m2
        have hc' := (pc m m1 m2).mp hc
        have eo := (pe.2.2 hc').1
        unfold ow at ho
        rw [ar 13055 (by decide) (by decide), pe.1.1] at ho
        unfold ro
        rw [ar 13058 (by decide) (by decide), pe.1.1, eo]
        exact hz.2 m m1 m2 hc' ho
    exact z2
theorem l_round {T r : Int} (hn9 : n < 9000000) (l : LV n C N A) (h : RND T r N) (r0 : 0 ≤ r) (r1 : r < 16) : Ok (b_L_readsAll_5 11000 15001 13490 (1, r, mk C N A)) (Sum.elim (fun s => ∃ C2 X A2, s = (1, r + 1, mk C2 X A2) ∧ LV (n + 32000) C2 X A2 ∧ RND T (r + 1) X) (fun _ => False)) := by
  unfold b_L_readsAll_5
  dsimp only
  rw [if_pos r1, if_neg (show ¬ (1 : Int) = 0 by decide)]
  refine Ok.bnd (l_beats l h.2.1) ?_
  rintro ⟨_, _⟩ ⟨rfl, C2, X, A2, rfl, l2, bs⟩
  dsimp only
  obtain ⟨w1, w2, w3, w4⟩ := bs.wrd l2 h r0
  refine Ok.bnd (l_mems (T := T) (r := r) (by omega) l2 w1 r0 (by rw [w2]; exact h.2.2.1) w3 w4) ?_
  rintro _ ⟨C3, Y, A3, rfl, l3, w5, y1, y2, y3⟩
  dsimp only
  refine Ok.bnd (x_tick (by omega) l3 w5) ?_
  rintro ⟨v, _⟩ ⟨hv, C4, Z, A4, rfl, l4, p1, p2, p3, p4, p5⟩
  dsimp only at hv ⊢
  rw [if_pos hv, ian11, Option.bind_some, w_eq (z := r + 1) (by omega) (by omega)]
  have eI : Z 13047 = Y 13047 := p3 _ (by decide) (by decide)
  have nY : (Y 12000 1) = T + r := by rw [y1, w2]; exact h.2.2.1
  refine Ok.ret ⟨C4, Z, A4, rfl, l4.ups (by omega), p1, ?_, by rw [p2, nY]; omega, fun m m1 m2 hw' => ?_, fun _ => ⟨fun p q1 q2 => ?_, fun i i1 i2 hi => ?_⟩⟩
  · have q := w5.2.1
    unfold mcn at q ⊢
    rw [eI]
    exact q
  · have e1 : wt Z m = wt Y m := by unfold wt; rw [p3 13059 (by decide) (by decide)]
    have e2 : du Z m = du Y m := by unfold du; rw [p3 13060 (by decide) (by decide)]
    rw [e2, p2]
    have := w5.2.2.2.1 m m1 m2 (by rw [← e1]; exact hw')
    omega
  · unfold ow tg
    rw [p3 13055 (by decide) (by decide), p3 13056 (by decide) (by decide)]
    exact w5.2.2.1 p q1 q2
  · rw [eI, y2] at hi
    obtain ⟨a1, a2⟩ := y3 i i1 i2 hi
    refine ⟨?_, ?_⟩
    · unfold hn
      rw [p3 13051 (by decide) (by decide)]
      exact a1
    · rw [show 24 * (r + 1 - 1) = 24 * r by omega]
      exact a2.mono (p4 i) (fun y z => p5 (by omega) i z)
theorem l_readsAll {T : Int} (hn9 : n < 8000000) (l : LV n C N A) (h : RND T 0 N) : Ok (p_L_readsAll (mk C N A) 11000 15001 13490) (fun t => t.1 = 1 ∧ ∃ C2 X A2, t.2 = mk C2 X A2 ∧ LV (n + 520000) C2 X A2 ∧ RND T 16 X) := by
  unfold p_L_readsAll
  refine Ok.bnd (Q := fun t => ∃ C2 X A2, t = (1, mk C2 X A2) ∧ LV (n + 520000) C2 X A2 ∧ RND T 16 X) ?_ ?_
  · refine lp_for (fun r s => ∃ C2 X A2, s = (1, r, mk C2 X A2) ∧ LV (n + 32000 * r) C2 X A2 ∧ RND T r X) 0 16 ?_ ?_ (by omega) ⟨C, N, A, rfl, l.ups (by omega), h⟩
    · rintro r _ r1 r2 ⟨C2, X, A2, rfl, l2, h2⟩
      refine (l_round (T := T) (r := r) (by omega) l2 h2 r1 (by omega)).im ?_
      rintro (s | t) q
      · obtain ⟨C3, Y, A3, e, l3, h3⟩ := q
        exact ⟨C3, Y, A3, e, l3.ups (by omega), h3⟩
      · exact q.elim
    · rintro _ ⟨C2, X, A2, rfl, l2, h2⟩
      unfold b_L_readsAll_5
      dsimp only
      rw [if_neg (by omega)]
      exact Ok.ret ⟨C2, X, A2, rfl, l2.ups (by omega), h2⟩
  · rintro _ ⟨C2, X, A2, rfl, l2, h2⟩
    dsimp only
    rw [gd_t (Or.inr rfl)]
    exact Ok.ret ⟨rfl, C2, X, A2, rfl, l2, h2⟩
/-- all that can be read was -/
theorem all_seen {T : Int} (j : JJ n C N A) (w : WV N) (h : RND T 16 N) {m : Int} (m1 : 0 ≤ m) (m2 : m < (N 12000 19)) (hc : canR N m) : 0 < sn N m := by
  obtain ⟨h1, h2, h3, h4, h5⟩ := h
  obtain ⟨b1, b2⟩ := h5 (by decide)
  have g2 := w.1.g
  have s5 := j.jn.g.s.2.2.2.2.1
  have p3 : (N 12000 11) = 3 := w.1.1.2.1
  have gm := (j.jn.g.m m m1 m2).2.1
  obtain ⟨c1, c2⟩ := b1 _ gm.1 (by omega)
  have gr := j.gr (Int.le_refl 0) g2
  have np := ((gr.1.np (N 13021 m) gm.1 (by omega)).1).1
  have ng : ow N (N 13021 m) ≠ -1 := by rw [c1]; exact c2
  have mem := np.resolve_left ng
  have z : ZZ (ow N (N 13021 m)) N ∨ Psi (ow N (N 13021 m)) N ≤ 342 - 24 * (16 - 1) := ((b2 _ mem.1 mem.2.1 mem.2.2.1).2.2 (by decide))
  have zz : ZZ (ow N (N 13021 m)) N := z.resolve_right (fun q => by
    have := (@Psi_b N (ow N (N 13021 m))).1
    omega)
  have nw : N 13059 (150 * 0 + m) ≠ 1 := fun q => zz.1 m m1 (by omega) q rfl
  have of := zz.2 m m1 m2 hc rfl
  obtain ⟨x1, x2, x3, x4, x5, x6⟩ := gr.2
  have gr3' := (gr3 w j.jn).mpr ⟨gm.1, (show N 13021 m < 3 by omega)⟩
  have so0 := (x5 _ gr3').1.1
  have o0 := ((j.jn.sl m m1 m2).1 (Or.inl hc.1)).1
  have pd := x2 m m1 m2 hc gr3' (by omega) (Or.inr ⟨ng, of⟩)
  have fd := pd.resolve_right nw
  exact (j.zn.2.2 0 m (Int.le_refl 0) g2 m1 (by omega)).1.mp fd
theorem l_last {T : Int} (l : LV n C N A) (h : RND T 16 N) (r23 : Int × Mm) (e23 : r23.1 = (N 12000 19)) : Ok (lp (b_L_law_305 r23) 151 (1, 0, mk C N A)) (fun t => t.1 = 1) := by
  have g2 := l.2.1.1.g
  have s5 := l.1.jn.g.s.2.2.2.2.1
  refine lp_for (fun m s => ∃ C2 A2, s = (1, m, mk C2 N A2) ∧ JJ (n + 2 * m) C2 N A2) 0 ((N 12000 19)).toNat ?_ ?_ (by omega) ⟨C, A, rfl, l.1.ups (by omega)⟩
  · rintro m _ m1 m2 ⟨C2, A2, rfl, j2⟩
    have m3 : m < (N 12000 19) := by omega
    unfold b_L_law_305
    dsimp only
    rw [e23, if_pos m3, w_eq (z := m + 1) (by omega) (by omega)]
    refine Ok.bnd (QA.ok (L_msg j2 m1 m3 (w := 8) (by decide) (by decide))) ?_
    rintro ⟨_, _⟩ ⟨rfl, C3, A3, rfl, j3⟩
    dsimp only
    have e8 : mv N m 8 = if canR N m then 1 else 0 := rfl
    by_cases hc : canR N m
    · rw [e8, if_pos hc, if_pos rfl]
      refine Ok.bnd (QA.ok (L_seen1 j3 (Int.le_refl 0) g2 m1 m3)) ?_
      rintro ⟨_, _⟩ ⟨rfl, C4, A4, rfl, j4⟩
      dsimp only
      have sn0 : 0 < N 13064 (150 * 0 + m) := all_seen j4 l.2.1 h m1 m3 hc
      rw [if_pos sn0, ian11, Option.bind_some]
      exact Ok.ret ⟨C4, A4, rfl, j4.ups (by omega)⟩
    · rw [e8, if_neg hc, if_neg (show ¬ (0 : Int) = 1 by decide), ian11, Option.bind_some]
      exact Ok.ret ⟨C3, A3, rfl, j3.ups (by omega)⟩
  · rintro _ ⟨C2, A2, rfl, j2⟩
    unfold b_L_law_305
    dsimp only
    rw [e23, if_neg (by omega)]
    exact Ok.ret rfl
/-- the law, from its loop on -/
theorem l_all {sl : Int} {sc : Int → Int} (hn9 : n < 1000000) (l : LW n C N A) (s1 : 0 ≤ sl) (s2 : sl ≤ 260) : Ok ((lp (b_L_law_78 sl sc) 41 (1, 0, mk C N A)).bind fun (t11 : Int × Mm) => if t11.1 = 0 then some (0, t11.2) else (p_L_heals t11.2 11000).bind fun r14 => if r14.1 = 0 then some (0, r14.2) else (p_L_readsAll r14.2 11000 15001 13490).bind fun r17 => if r17.1 = 0 then some (0, r17.2) else (p_L_stays r17.2 11000 15001).bind fun r20 => if r20.1 = 0 then some (0, r20.2) else (q_L_count r20.2 11000 4).bind fun r23 => (lp (b_L_law_305 r23) 151 (t11.1, 0, r23.2)).bind fun (t25 : Int × Mm) => gd (t25.1 = 0 ∨ t25.1 = 1) (some (t25.1, t25.2))) (fun r => r.1 = 1) := by
  have d01 : ¬ (1 : Int) = 0 := by decide
  refine Ok.bnd (l_loop (by omega) l s1 s2) ?_
  rintro _ ⟨C2, N2, A2, rfl, l2⟩
  dsimp only
  rw [if_neg d01]
  refine Ok.bnd (l_heals l2) ?_
  rintro ⟨_, _⟩ ⟨rfl, C3, N3, A3, rfl, l3, h3, m3⟩
  dsimp only
  rw [if_neg d01]
  have rnd : RND ((N3 12000 1)) 0 N3 := ⟨h3.ph l3.2.1, m3, by omega, fun m m1 m2 hw' => Or.inl (l3.2.1.2.2.2.1 m m1 m2 hw'), fun h => by omega⟩
  refine Ok.bnd (l_readsAll (by omega) l3 rnd) ?_
  rintro ⟨_, _⟩ ⟨rfl, C4, N4, A4, rfl, l4, h4⟩
  dsimp only
  rw [if_neg d01]
  refine Ok.bnd (l_stays l4.1 l4.2.1.1.g l4.2.2.1) ?_
  rintro ⟨_, _⟩ ⟨rfl, C5, A5, rfl, j5⟩
  dsimp only
  rw [if_neg d01]
  refine Ok.bnd (QA.ok (L_count4 j5)) ?_
  rintro ⟨_, _⟩ ⟨rfl, C6, A6, rfl, j6⟩
  dsimp only
  refine Ok.bnd (l_last (T := (N3 12000 1)) ⟨j6, l4.2⟩ h4 ((N4 12000 19), mk C6 N4 A6) rfl) ?_
  rintro ⟨v, M⟩ hv
  dsimp only at hv ⊢
  rw [hv, gd_t (Or.inr rfl)]
  exact Ok.ret rfl
end END
