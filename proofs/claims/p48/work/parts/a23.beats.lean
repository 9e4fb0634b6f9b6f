/-! PURE PART, a23: who beats twice has what it is to have -/
abbrev f13 : Int → Mm → Option (Int × Mm) := fun x M => if x = 1 then some (1, M) else none
theorem lk97 {e : Option (Int × Int × Mm)} {M1 : Mm} (h : gK kG0 f13 e = some (1, M1)) : gK kL0 h48 e = some (-97, M1) := by
  unfold gK at h ⊢
  rw [gd_t (show (11000 : Int) ≠ 0 by decide)] at h ⊢
  cases e with
  | none => exact nomatch h
  | some r =>
    have h2 : hnT f13 kG0 r = some (1, M1) := h
    unfold hnT at h2
    show hnT h48 kL0 r = some (-97, M1)
    unfold hnT
    by_cases x : r.1 = 0
    · rw [if_pos x] at h2
      obtain ⟨u, u1, u2⟩ := kg0 r.2.1 r.2.2
      rw [u1] at h2
      have h3 := congrArg Prod.fst (Option.some.inj h2)
      exact absurd h3 (show ¬ (0 : Int) = 1 by decide)
    · rw [if_neg x] at h2 ⊢
      dsimp only [f13] at h2
      by_cases e1 : r.1 = 1
      · rw [if_pos e1] at h2
        have h3 : r.2.2 = M1 := congrArg Prod.snd (Option.some.inj h2)
        dsimp only [h48]
        rw [if_pos e1, h3]
      · rw [if_neg e1] at h2
        exact nomatch h2
theorem q_97 {n : Int} {C : Cd} {N N2 : Nd} {A : Ad} {e : Option (Int × Int × Mm)} {pm : Mm → Option (Int × Mm)} {eG eL : Option (Int × Mm)} {v2 : Int} (hG : eG = gK kG0 f13 e) (hL : eL = gK kL0 h48 e) (s : SR n C N A eG pm) (hm : ∀ C A, pm (mk C N A) = some (v2, mk C N2 A)) (h1 : N2 12000 0 = 1) : ∃ C2 A2, ghq eL (eG.bind fun g => pm g.2) = some (-97, mk C2 (mg N N2) A2) ∧ JJ (n + 1) C2 (mg N N2) A2 := by
  obtain ⟨k, C1, A1, e1, v, N1, e2, e3, e4, jj⟩ := s
  obtain ⟨q1, q2, q3⟩ := q_model e2 (hm C1 A1)
  have k1 : k = 1 := by rw [← e3, q3]; exact h1
  rw [k1, hG] at e1
  have l1 : gK kL0 h48 e = some (-97, mk C1 N A1) := lk97 e1
  have jm : JJ (n + 1) C1 (mg N N1) A1 := jj.mg
  rw [q2] at jm
  refine ⟨C1, A1, ?_, jm⟩
  rw [hL, l1, hG, e1]
  show (pm (mk C1 N A1)).bind (fun z => some (-97, ghm (mk C1 N A1) z.2)) = _
  rw [hm C1 A1]
  show some (-97, ghm (mk C1 N A1) (mk C1 N2 A1)) = _
  rw [ghm_mk]
theorem mg_MG {N X : Nd} (m : MG 0 (up N 12000 0 0) X) : MG 0 N (mg N X) := by
  obtain ⟨a, b⟩ := mg_ar m
  intro c k h
  by_cases e : c = 12000
  · rw [e, b]
  · rw [a c e, m c k h, up_s, if_neg (fun z => e z.1)]
section BEATS
variable {n : Int} {C : Cd} {N : Nd} {A : Ad}
theorem gr3 (w : WV N) (j : JN N) {p : Int} : gR N 0 p ↔ 0 ≤ p ∧ p < 3 := by
  have p3 := w.1.1.2.1
  constructor
  · intro h
    exact ⟨h.1, by have := h.2.1; omega⟩
  · intro ⟨a, b⟩
    refine ⟨a, by omega, ?_⟩
    have q := (j.g.p p a (by omega)).1
    have e : N 13012 p = 0 := by have := w.1.1.1; omega
    rw [e, w.1.2.2]
    decide
/-- a beat of o, of the partitions -/
def OWB (o : Int) (N X : Nd) : Prop := ∀ p, 0 ≤ p → p < 3 → (ow N p = o ∧ tg N p ≠ o → ow X p = -1) ∧ (tg N p = o ∧ ow N p = -1 → ow X p = o) ∧ (¬ (ow N p = o ∧ tg N p ≠ o) → ¬ (tg N p = o ∧ ow N p = -1) → ow X p = ow N p)
def BTR (o : Int) (N X : Nd) : Prop := MG 0 N X ∧ (∀ a, a = 13047 ∨ a = 13056 ∨ a = 13044 → X a = N a) ∧ OWB o N X ∧ (∀ i, X 13048 (12 * 0 + i) = if i = o ∧ N 13047 (12 * 0 + o) = 1 then (N 12000 1) else N 13048 (12 * 0 + i)) ∧ ((∀ p, 0 ≤ p → p < 3 → ow N p = tg N p ∧ tg N p ≠ -1) → ∀ a, a ≠ 13048 → X a = N a)
theorem x_beat (l : LV n C N A) {g : Int} (hg : g = 0) {o : Int} (o1 : 0 ≤ o) (o2 : o < 12) : Ok (q_L_beat (mk C N A) 11000 g o) (fun r => -97 ≤ r.1 ∧ ∃ C2 X A2, r.2 = mk C2 X A2 ∧ LV (n + 1) C2 X A2 ∧ BTR o N X) := by
  have j := l.1
  have w := l.2.1
  have g2 := w.1.g
  have h1 : 0 ≤ g ∧ g < (N 12000 41) := by omega
  have hi := fun C A => @m_isMember C (up N 12000 0 0) A g o j.z.s
  simp only [up_s, up_s, true_and, false_and, and_true, and_false, if_true, if_false, ↓reduceIte, ↓Option.bind_some, Int.reduceEq, Int.reduceNe, Int.reduceLT, Int.reduceLE, gd_true, gd_false, bind_b, q10, eq_self, reduceCtorEq, not_true_eq_false, not_false_eq_true, ne_eq] at hi
  by_cases h0 : (0 ≤ o ∧ o ≤ 11) ∧ N 13047 (12 * g + o) = 1
  · obtain ⟨N1, N2, b1, b2, ⟨ws, oy, oz⟩, hm⟩ := beat_m j h1 h0.1 h0.2
    have b12 := b1.tr b2
    have owb := @owc_b N2 g o
    obtain ⟨z, C2, A2, c1, c2, -, c4⟩ := L_beat j hm
    have mg' : MG g (up N 12000 0 0) N2 := (MG.rf.up (by unfold inN; omega)).tr b12.1
    have ar : ∀ b, ¬ (13051 ≤ b ∧ b ≤ 13055) → b ≠ 13058 → ¬ (13059 ≤ b ∧ b ≤ 13063) → b ≠ 13046 → b ≠ 13048 → N2 b = (up N 12000 0 0) b := fun b h1 h2 h3 h4 h5 => by
      rw [b12.2.1 b h1 h2 h3 h4]
      funext k
      rw [up_s, if_neg (fun z => h5 z.1)]
    have ez := c2 (by rw [ar 12000 (by decide) (by decide) (by decide) (by decide) (by decide)]; rfl)
    have bt1 : ∀ i, N2 13048 (12 * g + i) = if i = o then (N 12000 1) else N 13048 (12 * g + i) := fun i => by
      rw [b12.2.1 13048 (by decide) (by decide) (by decide) (by decide), up_s]
      by_cases e : i = o
      · rw [if_pos e, if_pos ⟨rfl, by rw [e]⟩]
      · rw [if_neg e, if_neg (by omega)]
        rfl
    have eB : ∀ p, (up (up N 12000 0 0) 13048 (12 * g + o) ((N 12000 1))) 13055 (9 * g + p) = N 13055 (9 * g + p) := fun p => rfl
    have tB : ∀ p, (up (up N 12000 0 0) 13048 (12 * g + o) ((N 12000 1))) 13056 (9 * g + p) = N 13056 (9 * g + p) := fun p => rfl
    have t1 : N1 13056 = N 13056 := (b1.2.1 13056 (by decide) (by decide) (by decide) (by decide)).trans rfl
    subst hg
    obtain ⟨xa, xb⟩ := mg_ar mg'
    have gb : ∀ p, 0 ≤ p → p < 3 → gR (up (up N 12000 0 0) 13048 (12 * 0 + o) ((N 12000 1))) 0 p := fun p p1 p2 => (gr3 w j.jn).mpr ⟨p1, p2⟩
    have ge : GRE (up N 12000 0 0) N2 := GRE.ws mg' (ar _ (by decide) (by decide) (by decide) (by decide) (by decide)) (ar _ (by decide) (by decide) (by decide) (by decide) (by decide)) ws
    have w2 : WV N2 := (show WV (up N 12000 0 0) from w).gr ge
    have mo : Mo N N2 := mg'.mo
    refine ⟨_, c1, by show -97 ≤ z; rw [ez]; omega, C2, _, A2, rfl, l.mo w2 mo ((ar _ (by decide) (by decide) (by decide) (by decide) (by decide)).trans rfl) c4, mg_MG mg', fun a ha => ?_, fun p p1 p2 => ?_, fun i => ?_, fun hb a ha => ?_⟩
    · rw [xa a (by omega), ar a (by omega) (by omega) (by omega) (by omega) (by omega)]
      funext k
      rw [up_s, if_neg (by omega)]
    · have e2 : ow (mg N N2) p = N2 13055 (9 * 0 + p) := by
        unfold ow
        rw [xa 13055 (by decide)]
      rw [e2]
      obtain ⟨y1, y2⟩ := oy.1 p p1 (by omega)
      obtain ⟨z1, z2⟩ := oz.1 p p1 (by omega)
      rw [eB] at y2
      have gr1 : gR N1 0 p := (b1.1.gr 0 p).mpr (gb p p1 p2)
      have pgI : PG 0 o (up (up N 12000 0 0) 13048 (12 * 0 + o) ((N 12000 1))) p ↔ (ow N p = o ∧ tg N p ≠ o) := ⟨fun q => q.2, fun q => ⟨gb p p1 p2, q⟩⟩
      have ptI : PT 0 o N1 p ↔ (tg N p = o ∧ N1 13055 (9 * 0 + p) = -1) := by
        unfold PT tg
        rw [t1]
        exact ⟨fun q => q.2, fun q => ⟨gr1, q⟩⟩
      refine ⟨fun q => ?_, fun q => ?_, fun q1 q2 => ?_⟩
      · have a1 := y1 ⟨p1, pgI.mpr q⟩
        rw [z2 (fun y => q.2 (ptI.mp y.2).1)]
        exact a1
      · have np : ¬ (0 ≤ p ∧ PG 0 o (up (up N 12000 0 0) 13048 (12 * 0 + o) ((N 12000 1))) p) := fun y => (pgI.mp y.2).2 q.1
        have a1 := y2 np
        exact z1 ⟨p1, ptI.mpr ⟨q.1, a1.trans q.2⟩⟩
      · have a1 := y2 (fun y => q1 (pgI.mp y.2))
        rw [z2 (fun y => q2 ⟨(ptI.mp y.2).1, by have := (ptI.mp y.2).2; rw [a1] at this; exact this⟩)]
        exact a1
    · rw [xa 13048 (by decide), bt1]
      by_cases e : i = o
      · rw [if_pos e, if_pos ⟨e, h0.2⟩]
      · rw [if_neg e, if_neg (fun z => e z.1)]
    · have e1 : N1 = up (up N 12000 0 0) 13048 (12 * 0 + o) ((N 12000 1)) := oy.2 fun p p1 p2 q => by
        have g3 := (gr3 w j.jn).mp (show gR N 0 p from q.1)
        have b := hb p g3.1 g3.2
        have o' : ow N p = o := q.2.1
        have t' : tg N p ≠ o := q.2.2
        omega
      have e2 : N2 = N1 := oz.2 fun p p1 p2 q => by
        rw [e1] at q
        have g3 := (gr3 w j.jn).mp (show gR N 0 p from q.1)
        have b := hb p g3.1 g3.2
        have o' : ow N p = -1 := q.2.2
        omega
      by_cases h12 : a = 12000
      · rw [h12, xb]
      · rw [xa a h12, e2, e1]
        funext k
        rw [up_s, if_neg (fun z => ha z.1), up_s, if_neg (fun z => h12 z.1)]
  · have h0' : ¬ ((0 ≤ g ∧ g < (N 12000 41)) ∧ (0 ≤ o ∧ o ≤ 11) ∧ N 13047 (12 * g + o) = 1) := fun z => h0 z.2
    simp only [if_neg h0'] at hi
    have hm : ∀ C A, p_X11_beat (mk C N A) 12000 g o = some (0, mk C (up (up N 12000 0 0) 12000 0 1) A) := fun C A => by
      unfold p_X11_beat
      simp (disch := omega) only [aok, up_s, true_and, false_and, and_true, and_false, if_true, if_false, ↓reduceIte, ↓Option.bind_some, Int.reduceEq, Int.reduceNe, Int.reduceLT, Int.reduceLE, gd_true, gd_false, bind_b, q10, eq_self, reduceCtorEq, not_true_eq_false, not_false_eq_true, ne_eq, pt_0, pt_1, pt_2, pt_3, pt_4, pt_5, pt_6, pt_7, pt_8, pt_9, pt_10, pt_11, pt_12, pt_13, pt_14, pt_15, pt_16, pt_17, pt_18, pt_19, pt_20, pt_21, pt_22, pt_23, pt_24, pt_25, pt_26, pt_27, pt_28, pt_29, pt_30, pt_31, pt_32, pt_33, pt_34, pt_35, pt_36, pt_37, pt_38, pt_39, pt_40, pt_41, pt_42, pt_43, pt_44, pt_45, pt_46, pt_47, pt_48, pt_49, pt_50, pt_51, pt_52, pt_53, pt_54, pt_55, pt_56, pt_57, pt_58, pt_59, pt_60, pt_61, pt_62, pt_63, pt_64, pt_65, pt_66, pt_67, pa_13005, pw_13005, pa_13006, pw_13006, pa_13007, pw_13007, pa_14008, pw_14008, pa_13009, pw_13009, pa_13010, pw_13010, pa_13012, pw_13012, pa_13013, pw_13013, pa_13014, pw_13014, pa_13015, pw_13015, pa_13016, pw_13016, pa_13017, pw_13017, pa_13018, pw_13018, pa_13020, pw_13020, pa_13021, pw_13021, pa_13022, pw_13022, pa_13023, pw_13023, pa_13024, pw_13024, pa_13025, pw_13025, pa_13026, pw_13026, pa_13027, pw_13027, pa_13028, pw_13028, pa_13029, pw_13029, pa_13031, pw_13031, pa_13032, pw_13032, pa_13033, pw_13033, pa_14034, pw_14034, pa_13035, pw_13035, pa_13036, pw_13036, pa_13037, pw_13037, pa_13038, pw_13038, pa_13039, pw_13039, pa_13042, pw_13042, pa_13043, pw_13043, pa_13044, pw_13044, pa_13045, pw_13045, pa_13046, pw_13046, pa_13047, pw_13047, pa_13048, pw_13048, pa_13049, pw_13049, pa_13050, pw_13050, pa_13051, pw_13051, pa_13052, pw_13052, pa_13053, pw_13053, pa_13054, pw_13054, pa_13055, pw_13055, pa_13056, pw_13056, pa_13057, pw_13057, pa_13058, pw_13058, pa_13059, pw_13059, pa_13060, pw_13060, pa_13061, pw_13061, pa_13062, pw_13062, pa_13063, pw_13063, pa_13064, pw_13064, pa_13065, pw_13065, pa_13066, pw_13066, pa_13067, pw_13067, ps_0, ps_1, ps_2, ps_3, ps_4, ps_11, ps_19, ps_30, ps_40, ps_41, ln_13005, ln_13006, ln_13007, ln_14008, ln_13009, ln_13010, ln_13012, ln_13013, ln_13014, ln_13015, ln_13016, ln_13017, ln_13018, ln_13020, ln_13021, ln_13022, ln_13023, ln_13024, ln_13025, ln_13026, ln_13027, ln_13028, ln_13029, ln_13031, ln_13032, ln_13033, ln_14034, ln_13035, ln_13036, ln_13037, ln_13038, ln_13039, ln_13042, ln_13043, ln_13044, ln_13045, ln_13046, ln_13047, ln_13048, ln_13049, ln_13050, ln_13051, ln_13052, ln_13053, ln_13054, ln_13055, ln_13056, ln_13057, ln_13058, ln_13059, ln_13060, ln_13061, ln_13062, ln_13063, ln_13064, ln_13065, ln_13066, ln_13067, gd_t, w_eq, hi, m_refuse]
    have q9 : ∃ C2 A2, q_L_beat (mk C N A) 11000 g o = some (-97, mk C2 (mg N (up (up N 12000 0 0) 12000 0 1)) A2) ∧ JJ (n + 1) C2 (mg N (up (up N 12000 0 0) 12000 0 1)) A2 := q_97 (e := p_X10_beat (mk C N A) 11000 g o) (eG := p_G_beat (mk C N A) 11000 g o 15000) (eL := p_L_beat (mk C N A) 11000 g o) (pm := fun M => p_X11_beat M 12000 g o) (N2 := up (up N 12000 0 0) 12000 0 1) (v2 := 0) rfl rfl (q_beat j) hm (by rw [up_s, if_pos ⟨rfl, rfl⟩])
    obtain ⟨C2, A2, c1, c2⟩ := q9
    rw [mg_th2] at c1 c2
    subst hg
    have ni : N 13047 (12 * 0 + o) ≠ 1 := fun z => h0 ⟨⟨o1, by omega⟩, z⟩
    have np := fun p p1 p2 => ((j.gr (Int.le_refl 0) g2).1.np p p1 p2).1
    refine ⟨_, c1, (show (-97 : Int) ≤ -97 by decide), C2, N, A2, rfl, ⟨c2, l.2⟩, MG.rf, fun _ _ => rfl, fun p p1 p2 => ⟨fun q => ?_, fun q => ?_, fun _ _ => rfl⟩, fun i => ?_, fun _ _ _ => rfl⟩
    · have o' : N 13055 (9 * 0 + p) = o := q.1
      rcases (np p p1 (by omega)).1 with z | z
      · omega
      · rw [o'] at z
        exact absurd z.2.2.1 ni
    · have t' : N 13056 (9 * 0 + p) = o := q.1
      rcases (np p p1 (by omega)).2 with z | z
      · omega
      · rw [t'] at z
        exact absurd z.2.2.1 ni
    · rw [if_neg (fun z => ni z.2)]
end BEATS
