/-! PURE PART, 9a: a member goes: it gives up what it owns, and is the target of nothing -/
section GUD
variable {C : Cd} {N N0 : Nd} {A : Ad} {g j p t : Int}
theorem c_giveUpD {D : Cd} (td : 0 ≤ t ∧ t ≤ 400001000) (jn : JN N) (c : CC C N) (gr : GR C N g) (g1 : 0 ≤ g) (g2 : g < 3) (j1 : 0 ≤ j) (j2 : j < 12) (ow : own N g j p) (hD : ∀ b, b ≠ 9000 → D b = C b) (hs0 : D 9000 (9 * g + p) 0 = 6000 + p) : Ok (p_X0_giveUp (mk D N0 A) (1000 + g) (9000 + (9 * g + p)) (4000 + (12 * g + j)) t) (fun M => ∃ C2 N2, M = mk (ovr (uq D 9000 (9 * g + p) 1 0) C2) N0 A ∧ GR (uq C2 9000 (9 * g + p) 1 0) (gvN N g j p t) g ∧ gvN N g j p t = up N2 13055 (9 * g + p) (-1) ∧ ST g C C2 N N2) := by
  have a := gr.1
  have s2 := jn.g.s.2.1
  have p1 := ow.1.1; have p2 := ow.1.2.1
  have hi : N 13047 (12 * g + j) = 1 := by
    have := (a.np p p1 (by omega)).1.1
    rw [ow.2] at this
    rcases this with z | z
    · omega
    · exact z.2.2.1
  have h9 := a.h9 j1 j2 hi
  have me := ((a.me j j1 j2).2 hi).2.1
  have hsz : C 3006 (12 * g + j) 1 = hn N g j := (a.ha j j1 j2 hi).1.2.1
  have ca := c_gvAll (N0 := N0) (A := A) (p := p) (t := t) (D := uq D 9000 (9 * g + p) 1 0) td jn c a gr.2.wf g1 g2 j1 j2 hi p1 (by omega) (fun b hb => by
    rw [← hD b hb]
    funext i z
    rw [uq_s, if_neg (fun q => hb q.1)]) (by rw [uq_s, if_neg (by omega)]; exact hs0)
  have wsub : w (hn N g j - 1) = hn N g j - 1 := w_eq (by omega) (by omega)
  have me' : uq D 9000 (9 * g + p) 1 0 4000 (12 * g + j) 1 = 3006 + (12 * g + j) := by
    rw [uq_s, if_neg (by omega), hD _ (by decide)]; exact me
  have hsz' : uq D 9000 (9 * g + p) 1 0 3006 (12 * g + j) 1 = hn N g j := by
    rw [uq_s, if_neg (by omega), hD _ (by decide)]; exact hsz
  unfold p_X0_giveUp
  simp (disch := omega) only [aok, up_s, true_and, false_and, and_true, and_false, if_true, if_false, ↓reduceIte, ↓Option.bind_some, Int.reduceEq, Int.reduceNe, Int.reduceLT, Int.reduceLE, gd_true, gd_false, bind_b, q10, eq_self, reduceCtorEq, not_true_eq_false, not_false_eq_true, ne_eq, cr_11000, cr_15000, cr_16000, cr_20000, cr_20001, cr_21000, cr_22000, cr_25000, cr_1000, cr_2000, cr_3000, cr_3003, cr_3006, cr_4000, cr_5000, cr_6000, cr_7000, cr_8000, cr_9000, cr_10000, cr_13500, cr_17000, cr_17100, cr_17103, cr_17106, cr_19000, cr_20100, cr_21100, cr_23000, cr_24000, cw_11000, cw_15000, cw_16000, cw_20000, cw_20001, cw_21000, cw_22000, cw_25000, cw_1000, cw_2000, cw_3000, cw_3003, cw_3006, cw_4000, cw_5000, cw_6000, cw_7000, cw_8000, cw_9000, cw_10000, cw_13500, cw_17000, cw_17100, cw_17103, cw_17106, cw_19000, cw_20100, cw_21100, cw_23000, cw_24000, lc_13500, lc_15000, lc_16000, lc_17000, lc_17100, lc_17103, lc_17106, lc_19000, lc_20000, lc_20001, lc_20100, lc_21000, lc_21100, lc_22000, lc_23000, lc_24000, lc_25000, gd_t, w_eq, me', hsz', wsub]
  refine Ok.bnd ca ?_
  rintro M ⟨C', rfl, ga, st, wf, hb, hs⟩
  have ow' : own (gvA N g j p t (hn N g j).toNat) g j p := ⟨(st.2.1.gr g p).mpr ow.1, by rw [st.2.2.2.2.1 13055 (by decide) (by decide) (by decide)]; exact ow.2⟩
  have jn' := jn.mg st.2.1
  exact Ok.ret ⟨_, _, rfl, ⟨ga.free jn'.g g1 g2 j1 j2 ow' (fun s s1 s2 => hs s (by omega) s2), GIn.free (gr.2.st jn.g st (fun m m1 m2 hx => by
    have := wf m m1 m2 hx
    rw [show Fdl C' g m = Fdl C g m from st.2.2.2.1 _ _ (Or.inr (Or.inr rfl))] at this
    exact this)) p1⟩, rfl, st⟩
end GUD
/-- the targets that are the member's, up to k, are none -/
def nlC (C : Cd) (g j k : Int) : Cd := fun b x z => if b = 9000 ∧ z = 2 ∧ 9 * g ≤ x ∧ x < 9 * g + k ∧ C 24000 g (x - 9 * g) ≠ 0 ∧ C 9000 x 2 = 4000 + (12 * g + j) then 0 else C b x z
section NL
variable {C : Cd} {g j k : Int}
theorem nl_k {b x z : Int} (h : ¬ (b = 9000 ∧ z = 2)) : nlC C g j k b x z = C b x z := by
  unfold nlC
  rw [if_neg (fun q => h ⟨q.1, q.2.1⟩)]
theorem nl_b {b : Int} (h : b ≠ 9000) : nlC C g j k b = C b := by
  funext x z
  exact nl_k (fun q => h q.1)
theorem nl_0 : nlC C g j 0 = C := by
  funext b x z
  unfold nlC
  rw [if_neg (by omega)]
theorem nl_t {p : Int} (p1 : 0 ≤ p) : nlC C g j k 9000 (9 * g + p) 2 = if p < k ∧ C 24000 g p ≠ 0 ∧ C 9000 (9 * g + p) 2 = 4000 + (12 * g + j) then 0 else C 9000 (9 * g + p) 2 := by
  unfold nlC
  rw [show 9 * g + p - 9 * g = p by omega]
  by_cases e : p < k ∧ C 24000 g p ≠ 0 ∧ C 9000 (9 * g + p) 2 = 4000 + (12 * g + j)
  · rw [if_pos e, if_pos ⟨rfl, rfl, by omega, by omega, e.2⟩]
  · rw [if_neg e, if_neg (fun q => e ⟨by omega, q.2.2.2.2⟩)]
theorem nl_n (h : ¬ (C 24000 g k ≠ 0 ∧ C 9000 (9 * g + k) 2 = 4000 + (12 * g + j))) : nlC C g j k = nlC C g j (k + 1) := by
  funext b x z
  unfold nlC
  by_cases e : b = 9000 ∧ z = 2 ∧ 9 * g ≤ x ∧ x < 9 * g + k ∧ C 24000 g (x - 9 * g) ≠ 0 ∧ C 9000 x 2 = 4000 + (12 * g + j)
  · rw [if_pos e, if_pos ⟨e.1, e.2.1, e.2.2.1, by omega, e.2.2.2.2⟩]
  · rw [if_neg e, if_neg (fun q => by
      by_cases y : x = 9 * g + k
      · rw [y, show 9 * g + k - 9 * g = k by omega] at q
        exact h q.2.2.2.2
      · exact e ⟨q.1, q.2.1, q.2.2.1, by omega, q.2.2.2.2⟩)]
theorem nl_y (k0 : 0 ≤ k) (h : C 24000 g k ≠ 0) (h2 : C 9000 (9 * g + k) 2 = 4000 + (12 * g + j)) : uq (nlC C g j k) 9000 (9 * g + k) 2 0 = nlC C g j (k + 1) := by
  funext b x z
  rw [uq_s]
  by_cases y : b = 9000 ∧ x = 9 * g + k ∧ z = 2
  · rw [if_pos y, y.1, y.2.1, y.2.2, nl_t k0, if_pos ⟨by omega, h, h2⟩]
  · rw [if_neg y]
    unfold nlC
    by_cases e : b = 9000 ∧ z = 2 ∧ 9 * g ≤ x ∧ x < 9 * g + k ∧ C 24000 g (x - 9 * g) ≠ 0 ∧ C 9000 x 2 = 4000 + (12 * g + j)
    · rw [if_pos e, if_pos ⟨e.1, e.2.1, e.2.2.1, by omega, e.2.2.2.2⟩]
    · rw [if_neg e, if_neg (fun q => e ⟨q.1, q.2.1, q.2.2.1, by omega, q.2.2.2.2⟩)]
theorem nl_ovr {C' : Cd} {p : Int} (h24 : C' 24000 = C 24000) (h9 : C' 9000 = C 9000) : ovr (uq (nlC C g j k) 9000 (9 * g + p) 1 0) C' = nlC (uq C' 9000 (9 * g + p) 1 0) g j k := by
  funext b x z
  have e24 : uq C' 9000 (9 * g + p) 1 0 24000 g (x - 9 * g) = C 24000 g (x - 9 * g) := by rw [uq_s, if_neg (by omega), h24]
  have e92 : uq C' 9000 (9 * g + p) 1 0 9000 x 2 = C 9000 x 2 := by rw [uq_s, if_neg (by omega), h9]
  by_cases hb : b = 9000
  · rw [hb, ovr_9, uq_s]
    by_cases y : x = 9 * g + p ∧ z = 1
    · rw [if_pos ⟨rfl, y⟩, nl_k (by omega), uq_s, if_pos ⟨rfl, y⟩]
    · rw [if_neg (fun q => y q.2)]
      unfold nlC
      rw [e24, e92, uq_s, if_neg (show ¬ ((9000 : Int) = 9000 ∧ x = 9 * g + p ∧ z = 1) from fun q => y q.2), h9]
  · rw [ovr_n hb, nl_k (fun q => hb q.1), uq_s, if_neg (fun q => hb q.1)]
end NL
section LV
variable {C : Cd} {N N0 : Nd} {A : Ad} {g j n : Int}
theorem lvLoop (g1 : 0 ≤ g) (g3 : g < 3) (j1 : 0 ≤ j) (j2 : j < 12) : ∀ (d : Nat) (C : Cd) (N : Nd) (k s : Int) (F : Nat), JN N → CC C N → GR C N g → (N 12000 1) ≤ 400000000 → N 13047 (12 * g + j) = 1 → 0 ≤ k → k + d = 9 → d < F → 0 ≤ s → s ≤ k → (∀ p, 0 ≤ p → p < k → N 13055 (9 * g + p) ≠ j) →
    ∃ C1 N1 s1, BKp g N N1 ∧ KG g C C1 ∧ (C1 17000 = C 17000 ∧ C1 1000 = C 1000 ∧ C1 24000 = C 24000 ∧ ∀ i, C1 2000 i 6 = C 2000 i 6) ∧ (JN N1 ∧ CC C1 N1 ∧ GR C1 N1 g) ∧ (∀ p, 0 ≤ p → p < 9 → N1 13055 (9 * g + p) ≠ j) ∧ (0 ≤ s1 ∧ s1 ≤ 9) ∧ lp (b_X0_removeMember_16 9 (24000 + g) (4000 + (12 * g + j)) (1000 + g) ((N 12000 1))) F (s, k, mk (nlC C g j k) N0 A) = some (s1, mk (nlC C1 g j 9) N0 A) ∧ ∀ C'' A'', lp (b_X11_gGoes_5 12000 g j) F (s, k, mk C'' N A'') = some (s1, mk C'' N1 A'') := by
  intro d
  induction d with
  | zero =>
    intro C N k s F jn c gr hw' hi k0 kd hF s0 sk hno
    have nl : ¬ k < 9 := by omega
    have k9 : k = 9 := by omega
    subst k9
    refine ⟨C, N, s, BKp.rf, KG.rf, ⟨rfl, rfl, rfl, fun _ => rfl⟩, ⟨jn, c, gr⟩, hno, ⟨s0, sk⟩, lp_now (by omega) ?_, fun C'' A'' => lp_now (by omega) ?_⟩
    · unfold b_X0_removeMember_16
      simp (disch := omega) only [aok, up_s, true_and, false_and, and_true, and_false, if_true, if_false, ↓reduceIte, ↓Option.bind_some, Int.reduceEq, Int.reduceNe, Int.reduceLT, Int.reduceLE, gd_true, gd_false, bind_b, q10, eq_self, reduceCtorEq, not_true_eq_false, not_false_eq_true, ne_eq, cr_11000, cr_15000, cr_16000, cr_20000, cr_20001, cr_21000, cr_22000, cr_25000, cr_1000, cr_2000, cr_3000, cr_3003, cr_3006, cr_4000, cr_5000, cr_6000, cr_7000, cr_8000, cr_9000, cr_10000, cr_13500, cr_17000, cr_17100, cr_17103, cr_17106, cr_19000, cr_20100, cr_21100, cr_23000, cr_24000, cw_11000, cw_15000, cw_16000, cw_20000, cw_20001, cw_21000, cw_22000, cw_25000, cw_1000, cw_2000, cw_3000, cw_3003, cw_3006, cw_4000, cw_5000, cw_6000, cw_7000, cw_8000, cw_9000, cw_10000, cw_13500, cw_17000, cw_17100, cw_17103, cw_17106, cw_19000, cw_20100, cw_21100, cw_23000, cw_24000, lc_13500, lc_15000, lc_16000, lc_17000, lc_17100, lc_17103, lc_17106, lc_19000, lc_20000, lc_20001, lc_20100, lc_21000, lc_21100, lc_22000, lc_23000, lc_24000, lc_25000, gd_t, w_eq, nl]
    · unfold b_X11_gGoes_5
      simp (disch := omega) only [aok, up_s, true_and, false_and, and_true, and_false, if_true, if_false, ↓reduceIte, ↓Option.bind_some, Int.reduceEq, Int.reduceNe, Int.reduceLT, Int.reduceLE, gd_true, gd_false, bind_b, q10, eq_self, reduceCtorEq, not_true_eq_false, not_false_eq_true, ne_eq, pt_0, pt_1, pt_2, pt_3, pt_4, pt_5, pt_6, pt_7, pt_8, pt_9, pt_10, pt_11, pt_12, pt_13, pt_14, pt_15, pt_16, pt_17, pt_18, pt_19, pt_20, pt_21, pt_22, pt_23, pt_24, pt_25, pt_26, pt_27, pt_28, pt_29, pt_30, pt_31, pt_32, pt_33, pt_34, pt_35, pt_36, pt_37, pt_38, pt_39, pt_40, pt_41, pt_42, pt_43, pt_44, pt_45, pt_46, pt_47, pt_48, pt_49, pt_50, pt_51, pt_52, pt_53, pt_54, pt_55, pt_56, pt_57, pt_58, pt_59, pt_60, pt_61, pt_62, pt_63, pt_64, pt_65, pt_66, pt_67, pa_13005, pw_13005, pa_13006, pw_13006, pa_13007, pw_13007, pa_14008, pw_14008, pa_13009, pw_13009, pa_13010, pw_13010, pa_13012, pw_13012, pa_13013, pw_13013, pa_13014, pw_13014, pa_13015, pw_13015, pa_13016, pw_13016, pa_13017, pw_13017, pa_13018, pw_13018, pa_13020, pw_13020, pa_13021, pw_13021, pa_13022, pw_13022, pa_13023, pw_13023, pa_13024, pw_13024, pa_13025, pw_13025, pa_13026, pw_13026, pa_13027, pw_13027, pa_13028, pw_13028, pa_13029, pw_13029, pa_13031, pw_13031, pa_13032, pw_13032, pa_13033, pw_13033, pa_14034, pw_14034, pa_13035, pw_13035, pa_13036, pw_13036, pa_13037, pw_13037, pa_13038, pw_13038, pa_13039, pw_13039, pa_13042, pw_13042, pa_13043, pw_13043, pa_13044, pw_13044, pa_13045, pw_13045, pa_13046, pw_13046, pa_13047, pw_13047, pa_13048, pw_13048, pa_13049, pw_13049, pa_13050, pw_13050, pa_13051, pw_13051, pa_13052, pw_13052, pa_13053, pw_13053, pa_13054, pw_13054, pa_13055, pw_13055, pa_13056, pw_13056, pa_13057, pw_13057, pa_13058, pw_13058, pa_13059, pw_13059, pa_13060, pw_13060, pa_13061, pw_13061, pa_13062, pw_13062, pa_13063, pw_13063, pa_13064, pw_13064, pa_13065, pw_13065, pa_13066, pw_13066, pa_13067, pw_13067, ps_0, ps_1, ps_2, ps_3, ps_4, ps_11, ps_19, ps_30, ps_40, ps_41, ln_13005, ln_13006, ln_13007, ln_14008, ln_13009, ln_13010, ln_13012, ln_13013, ln_13014, ln_13015, ln_13016, ln_13017, ln_13018, ln_13020, ln_13021, ln_13022, ln_13023, ln_13024, ln_13025, ln_13026, ln_13027, ln_13028, ln_13029, ln_13031, ln_13032, ln_13033, ln_14034, ln_13035, ln_13036, ln_13037, ln_13038, ln_13039, ln_13042, ln_13043, ln_13044, ln_13045, ln_13046, ln_13047, ln_13048, ln_13049, ln_13050, ln_13051, ln_13052, ln_13053, ln_13054, ln_13055, ln_13056, ln_13057, ln_13058, ln_13059, ln_13060, ln_13061, ln_13062, ln_13063, ln_13064, ln_13065, ln_13066, ln_13067, gd_t, w_eq, nl]
  | succ d ih =>
    intro C N k s F jn c gr hw' hi k0 kd hF s0 sk hno
    have G := jn.g
    have s2 := G.s.2.1
    have s8 := G.s.2.2.2.2.2.2.2.1
    obtain ⟨F, rfl⟩ : ∃ G, F = G + 1 := ⟨F - 1, by omega⟩
    have lt : k < 9 := by omega
    have ga := gr.1
    obtain ⟨s1', s2'⟩ := ga.sh k k0 lt
    have mo := fun C'' A'' => @m_owns C'' N A'' g k j G g1 g3
    have step : ∀ C2 N2 s2, JN N2 → CC C2 N2 → GR C2 N2 g → BKp g N N2 → KG g C C2 → (C2 17000 = C 17000 ∧ C2 1000 = C 1000 ∧ C2 24000 = C 24000 ∧ ∀ i, C2 2000 i 6 = C 2000 i 6) → (∀ p, 0 ≤ p → p < k + 1 → N2 13055 (9 * g + p) ≠ j) → 0 ≤ s2 → s2 ≤ k + 1 → b_X0_removeMember_16 9 (24000 + g) (4000 + (12 * g + j)) (1000 + g) ((N 12000 1)) (s, k, mk (nlC C g j k) N0 A) = some (.inl (s2, k + 1, mk (nlC C2 g j (k + 1)) N0 A)) → (∀ C'' A'', b_X11_gGoes_5 12000 g j (s, k, mk C'' N A'') = some (.inl (s2, k + 1, mk C'' N2 A''))) → ∃ C1 N1 s1, BKp g N N1 ∧ KG g C C1 ∧ (C1 17000 = C 17000 ∧ C1 1000 = C 1000 ∧ C1 24000 = C 24000 ∧ ∀ i, C1 2000 i 6 = C 2000 i 6) ∧ (JN N1 ∧ CC C1 N1 ∧ GR C1 N1 g) ∧ (∀ p, 0 ≤ p → p < 9 → N1 13055 (9 * g + p) ≠ j) ∧ (0 ≤ s1 ∧ s1 ≤ 9) ∧ lp (b_X0_removeMember_16 9 (24000 + g) (4000 + (12 * g + j)) (1000 + g) ((N 12000 1))) (F + 1) (s, k, mk (nlC C g j k) N0 A) = some (s1, mk (nlC C1 g j 9) N0 A) ∧ ∀ C'' A'', lp (b_X11_gGoes_5 12000 g j) (F + 1) (s, k, mk C'' N A'') = some (s1, mk C'' N1 A'') := fun C2 N2 s2 q1 q2 q3 q4 q5 q6 q7 q8 q9 r1 r2 => by
      have sc : N2 12000 = N 12000 := q4.1.n0 (by decide)
      obtain ⟨C1, N1, s1, y1, y2, y3, y4, y5, y6, y7, y8⟩ := ih C2 N2 (k + 1) s2 F q1 q2 q3 (by rw [sc]; exact hw') (by rw [q4.2.1 _ (by decide) (by decide) (by decide) (by decide)]; exact hi) (by omega) (by omega) (by omega) q8 q9 q7
      rw [sc] at y7
      exact ⟨C1, N1, s1, q4.tr y1, q5.tr y2, ⟨y3.1.trans q6.1, y3.2.1.trans q6.2.1, y3.2.2.1.trans q6.2.2.1, fun i => (y3.2.2.2 i).trans (q6.2.2.2 i)⟩, y4, y5, y6, (lp_next r1).trans y7, fun C'' A'' => (lp_next (r2 C'' A'')).trans (y8 C'' A'')⟩
    by_cases r : gR N g k
    · rw [if_pos r] at s1'
      obtain ⟨t0, t1, t2, -⟩ := s2' r
      have oe := obj_eq (g := g) (j := j) (ga.np.o k0 lt) g1 j1
      have te := obj_eq (g := g) (j := j) (ga.np.t k0 lt) g1 j1
      have nz : ¬ 9000 + (9 * g + k) = 0 := by omega
      have e24 : nlC C g j k 24000 g k = 9000 + (9 * g + k) := by rw [nl_k (by omega)]; exact s1'
      have e91 : nlC C g j k 9000 (9 * g + k) 1 = obj g (N 13055 (9 * g + k)) := by rw [nl_k (by omega)]; exact t1
      have e92 : nlC C g j k 9000 (9 * g + k) 2 = obj g (N 13056 (9 * g + k)) := by rw [nl_t k0, if_neg (fun q => by omega)]; exact t2
      by_cases ow : N 13055 (9 * g + k) = j
      · have oe2 := oe.mpr ow
        have mo' : ∀ C'' A'', p_X11_owns (mk C'' N A'') 12000 g j k = some 1 := fun C'' A'' => by rw [mo, if_pos ⟨r, ow⟩]
        obtain ⟨M, r1, C2, N2, rfl, gr2, eN, st⟩ := c_giveUpD (N0 := N0) (A := A) (t := (N 12000 1)) (D := nlC C g j k) ⟨s8.1, by omega⟩ jn c gr g1 g3 j1 j2 ⟨r, ow⟩ (fun b hb => nl_b hb) (by rw [nl_k (by omega)]; exact t0)
        rw [nl_ovr st.kn.2.1 st.kn.2.2.2.2.1] at r1
        have mg := fun C'' A'' => m_gGivesUp (t := (N 12000 1)) jn c gr g1 g3 j1 j2 ⟨r, ow⟩ rfl C'' A''
        have kc : KG g C (uq C2 9000 (9 * g + k) 1 0) := st.1.uq (by unfold inG; omega)
        have wk : WK g ((N 12000 1)) N (gvN N g j k ((N 12000 1))) := WK.gn j1 j2 hi (ga.h9 j1 j2 hi).1 ga.h9'
        have bk : BKp g N (gvN N g j k ((N 12000 1))) := by
          rw [eN] at wk ⊢
          refine ⟨st.2.1.up (by unfold inN; omega), fun a a1 a2 a3 a4 => ?_, wk⟩
          funext i
          rw [up_s, if_neg (by omega), st.2.2.2.2.1 a (by omega) (by omega) (by omega)]
        have jn2 := jn.mg bk.1
        have cc2 := c.mg kc bk.1
        have c1k : ∀ b, b = 17000 ∨ b = 1000 ∨ b = 24000 → uq C2 9000 (9 * g + k) 1 0 b = C b := fun b hb => by
          funext x z
          rw [uq_s, if_neg (by omega)]
          rcases hb with rfl | rfl | rfl
          · rw [st.kn.1]
          · rw [st.kn.2.2.2.2.2]
          · rw [st.kn.2.1]
        have c26 : ∀ i, uq C2 9000 (9 * g + k) 1 0 2000 i 6 = C 2000 i 6 := fun i => by
          rw [uq_s, if_neg (by omega)]
          exact st.2.2.2.1 _ 6 (Or.inr (Or.inr rfl))
        have eO : ∀ p, 0 ≤ p → (gvN N g j k ((N 12000 1))) 13055 (9 * g + p) = if p = k then -1 else N 13055 (9 * g + p) := fun p p1 => by
          rw [eN, up_s]
          by_cases e : p = k
          · rw [if_pos e, if_pos ⟨rfl, by omega⟩]
          · rw [if_neg e, if_neg (by omega), st.2.2.2.2.1 13055 (by decide) (by decide) (by decide)]
        have no2 : ∀ p, 0 ≤ p → p < k + 1 → (gvN N g j k ((N 12000 1))) 13055 (9 * g + p) ≠ j := fun p p1 p2 => by
          rw [eO p p1]
          by_cases e : p = k
          · rw [if_pos e]; omega
          · rw [if_neg e]; exact hno p p1 (by omega)
        have f24 : uq C2 9000 (9 * g + k) 1 0 24000 g k = 9000 + (9 * g + k) := by rw [c1k 24000 (Or.inr (Or.inr rfl))]; exact s1'
        have f92 : uq C2 9000 (9 * g + k) 1 0 9000 (9 * g + k) 2 = obj g (N 13056 (9 * g + k)) := by rw [uq_s, if_neg (by omega), st.kn.2.2.2.2.1]; exact t2
        have h92 : nlC (uq C2 9000 (9 * g + k) 1 0) g j k 9000 (9 * g + k) 2 = obj g (N 13056 (9 * g + k)) := by rw [nl_t k0, if_neg (fun q => by omega)]; exact f92
        by_cases tg : N 13056 (9 * g + k) = j
        · have te2 := te.mpr tg
          have wy := nl_y (C := uq C2 9000 (9 * g + k) 1 0) (g := g) (j := j) k0 (by rw [f24]; omega) (by rw [f92]; exact te2)
          refine step _ _ (s + 1) jn2 cc2 gr2 bk kc ⟨c1k _ (Or.inl rfl), c1k _ (Or.inr (Or.inl rfl)), c1k _ (Or.inr (Or.inr rfl)), c26⟩ no2 (by omega) (by omega) ?_ (fun C'' A'' => ?_)
          · unfold b_X0_removeMember_16
            simp (disch := omega) only [aok, up_s, true_and, false_and, and_true, and_false, if_true, if_false, ↓reduceIte, ↓Option.bind_some, Int.reduceEq, Int.reduceNe, Int.reduceLT, Int.reduceLE, gd_true, gd_false, bind_b, q10, eq_self, reduceCtorEq, not_true_eq_false, not_false_eq_true, ne_eq, cr_11000, cr_15000, cr_16000, cr_20000, cr_20001, cr_21000, cr_22000, cr_25000, cr_1000, cr_2000, cr_3000, cr_3003, cr_3006, cr_4000, cr_5000, cr_6000, cr_7000, cr_8000, cr_9000, cr_10000, cr_13500, cr_17000, cr_17100, cr_17103, cr_17106, cr_19000, cr_20100, cr_21100, cr_23000, cr_24000, cw_11000, cw_15000, cw_16000, cw_20000, cw_20001, cw_21000, cw_22000, cw_25000, cw_1000, cw_2000, cw_3000, cw_3003, cw_3006, cw_4000, cw_5000, cw_6000, cw_7000, cw_8000, cw_9000, cw_10000, cw_13500, cw_17000, cw_17100, cw_17103, cw_17106, cw_19000, cw_20100, cw_21100, cw_23000, cw_24000, lc_13500, lc_15000, lc_16000, lc_17000, lc_17100, lc_17103, lc_17106, lc_19000, lc_20000, lc_20001, lc_20100, lc_21000, lc_21100, lc_22000, lc_23000, lc_24000, lc_25000, gd_t, w_eq, lt, e24, nz, e91, oe2, r1, h92, te2, wy]
          · unfold b_X11_gGoes_5
            simp (disch := omega) only [aok, up_s, true_and, false_and, and_true, and_false, if_true, if_false, ↓reduceIte, ↓Option.bind_some, Int.reduceEq, Int.reduceNe, Int.reduceLT, Int.reduceLE, gd_true, gd_false, bind_b, q10, eq_self, reduceCtorEq, not_true_eq_false, not_false_eq_true, ne_eq, pt_0, pt_1, pt_2, pt_3, pt_4, pt_5, pt_6, pt_7, pt_8, pt_9, pt_10, pt_11, pt_12, pt_13, pt_14, pt_15, pt_16, pt_17, pt_18, pt_19, pt_20, pt_21, pt_22, pt_23, pt_24, pt_25, pt_26, pt_27, pt_28, pt_29, pt_30, pt_31, pt_32, pt_33, pt_34, pt_35, pt_36, pt_37, pt_38, pt_39, pt_40, pt_41, pt_42, pt_43, pt_44, pt_45, pt_46, pt_47, pt_48, pt_49, pt_50, pt_51, pt_52, pt_53, pt_54, pt_55, pt_56, pt_57, pt_58, pt_59, pt_60, pt_61, pt_62, pt_63, pt_64, pt_65, pt_66, pt_67, pa_13005, pw_13005, pa_13006, pw_13006, pa_13007, pw_13007, pa_14008, pw_14008, pa_13009, pw_13009, pa_13010, pw_13010, pa_13012, pw_13012, pa_13013, pw_13013, pa_13014, pw_13014, pa_13015, pw_13015, pa_13016, pw_13016, pa_13017, pw_13017, pa_13018, pw_13018, pa_13020, pw_13020, pa_13021, pw_13021, pa_13022, pw_13022, pa_13023, pw_13023, pa_13024, pw_13024, pa_13025, pw_13025, pa_13026, pw_13026, pa_13027, pw_13027, pa_13028, pw_13028, pa_13029, pw_13029, pa_13031, pw_13031, pa_13032, pw_13032, pa_13033, pw_13033, pa_14034, pw_14034, pa_13035, pw_13035, pa_13036, pw_13036, pa_13037, pw_13037, pa_13038, pw_13038, pa_13039, pw_13039, pa_13042, pw_13042, pa_13043, pw_13043, pa_13044, pw_13044, pa_13045, pw_13045, pa_13046, pw_13046, pa_13047, pw_13047, pa_13048, pw_13048, pa_13049, pw_13049, pa_13050, pw_13050, pa_13051, pw_13051, pa_13052, pw_13052, pa_13053, pw_13053, pa_13054, pw_13054, pa_13055, pw_13055, pa_13056, pw_13056, pa_13057, pw_13057, pa_13058, pw_13058, pa_13059, pw_13059, pa_13060, pw_13060, pa_13061, pw_13061, pa_13062, pw_13062, pa_13063, pw_13063, pa_13064, pw_13064, pa_13065, pw_13065, pa_13066, pw_13066, pa_13067, pw_13067, ps_0, ps_1, ps_2, ps_3, ps_4, ps_11, ps_19, ps_30, ps_40, ps_41, ln_13005, ln_13006, ln_13007, ln_14008, ln_13009, ln_13010, ln_13012, ln_13013, ln_13014, ln_13015, ln_13016, ln_13017, ln_13018, ln_13020, ln_13021, ln_13022, ln_13023, ln_13024, ln_13025, ln_13026, ln_13027, ln_13028, ln_13029, ln_13031, ln_13032, ln_13033, ln_14034, ln_13035, ln_13036, ln_13037, ln_13038, ln_13039, ln_13042, ln_13043, ln_13044, ln_13045, ln_13046, ln_13047, ln_13048, ln_13049, ln_13050, ln_13051, ln_13052, ln_13053, ln_13054, ln_13055, ln_13056, ln_13057, ln_13058, ln_13059, ln_13060, ln_13061, ln_13062, ln_13063, ln_13064, ln_13065, ln_13066, ln_13067, gd_t, w_eq, lt, mo', mg]
        · have te2 : ¬ obj g (N 13056 (9 * g + k)) = 4000 + (12 * g + j) := fun z => tg (te.mp z)
          have wn := nl_n (C := uq C2 9000 (9 * g + k) 1 0) (g := g) (j := j) (k := k) (fun q => te2 (f92.symm.trans q.2))
          refine step _ _ (s + 1) jn2 cc2 gr2 bk kc ⟨c1k _ (Or.inl rfl), c1k _ (Or.inr (Or.inl rfl)), c1k _ (Or.inr (Or.inr rfl)), c26⟩ no2 (by omega) (by omega) ?_ (fun C'' A'' => ?_)
          · unfold b_X0_removeMember_16
            simp (disch := omega) only [aok, up_s, true_and, false_and, and_true, and_false, if_true, if_false, ↓reduceIte, ↓Option.bind_some, Int.reduceEq, Int.reduceNe, Int.reduceLT, Int.reduceLE, gd_true, gd_false, bind_b, q10, eq_self, reduceCtorEq, not_true_eq_false, not_false_eq_true, ne_eq, cr_11000, cr_15000, cr_16000, cr_20000, cr_20001, cr_21000, cr_22000, cr_25000, cr_1000, cr_2000, cr_3000, cr_3003, cr_3006, cr_4000, cr_5000, cr_6000, cr_7000, cr_8000, cr_9000, cr_10000, cr_13500, cr_17000, cr_17100, cr_17103, cr_17106, cr_19000, cr_20100, cr_21100, cr_23000, cr_24000, cw_11000, cw_15000, cw_16000, cw_20000, cw_20001, cw_21000, cw_22000, cw_25000, cw_1000, cw_2000, cw_3000, cw_3003, cw_3006, cw_4000, cw_5000, cw_6000, cw_7000, cw_8000, cw_9000, cw_10000, cw_13500, cw_17000, cw_17100, cw_17103, cw_17106, cw_19000, cw_20100, cw_21100, cw_23000, cw_24000, lc_13500, lc_15000, lc_16000, lc_17000, lc_17100, lc_17103, lc_17106, lc_19000, lc_20000, lc_20001, lc_20100, lc_21000, lc_21100, lc_22000, lc_23000, lc_24000, lc_25000, gd_t, w_eq, lt, e24, nz, e91, oe2, r1, h92, te2]
            rw [wn]
          · unfold b_X11_gGoes_5
            simp (disch := omega) only [aok, up_s, true_and, false_and, and_true, and_false, if_true, if_false, ↓reduceIte, ↓Option.bind_some, Int.reduceEq, Int.reduceNe, Int.reduceLT, Int.reduceLE, gd_true, gd_false, bind_b, q10, eq_self, reduceCtorEq, not_true_eq_false, not_false_eq_true, ne_eq, pt_0, pt_1, pt_2, pt_3, pt_4, pt_5, pt_6, pt_7, pt_8, pt_9, pt_10, pt_11, pt_12, pt_13, pt_14, pt_15, pt_16, pt_17, pt_18, pt_19, pt_20, pt_21, pt_22, pt_23, pt_24, pt_25, pt_26, pt_27, pt_28, pt_29, pt_30, pt_31, pt_32, pt_33, pt_34, pt_35, pt_36, pt_37, pt_38, pt_39, pt_40, pt_41, pt_42, pt_43, pt_44, pt_45, pt_46, pt_47, pt_48, pt_49, pt_50, pt_51, pt_52, pt_53, pt_54, pt_55, pt_56, pt_57, pt_58, pt_59, pt_60, pt_61, pt_62, pt_63, pt_64, pt_65, pt_66, pt_67, pa_13005, pw_13005, pa_13006, pw_13006, pa_13007, pw_13007, pa_14008, pw_14008, pa_13009, pw_13009, pa_13010, pw_13010, pa_13012, pw_13012, pa_13013, pw_13013, pa_13014, pw_13014, pa_13015, pw_13015, pa_13016, pw_13016, pa_13017, pw_13017, pa_13018, pw_13018, pa_13020, pw_13020, pa_13021, pw_13021, pa_13022, pw_13022, pa_13023, pw_13023, pa_13024, pw_13024, pa_13025, pw_13025, pa_13026, pw_13026, pa_13027, pw_13027, pa_13028, pw_13028, pa_13029, pw_13029, pa_13031, pw_13031, pa_13032, pw_13032, pa_13033, pw_13033, pa_14034, pw_14034, pa_13035, pw_13035, pa_13036, pw_13036, pa_13037, pw_13037, pa_13038, pw_13038, pa_13039, pw_13039, pa_13042, pw_13042, pa_13043, pw_13043, pa_13044, pw_13044, pa_13045, pw_13045, pa_13046, pw_13046, pa_13047, pw_13047, pa_13048, pw_13048, pa_13049, pw_13049, pa_13050, pw_13050, pa_13051, pw_13051, pa_13052, pw_13052, pa_13053, pw_13053, pa_13054, pw_13054, pa_13055, pw_13055, pa_13056, pw_13056, pa_13057, pw_13057, pa_13058, pw_13058, pa_13059, pw_13059, pa_13060, pw_13060, pa_13061, pw_13061, pa_13062, pw_13062, pa_13063, pw_13063, pa_13064, pw_13064, pa_13065, pw_13065, pa_13066, pw_13066, pa_13067, pw_13067, ps_0, ps_1, ps_2, ps_3, ps_4, ps_11, ps_19, ps_30, ps_40, ps_41, ln_13005, ln_13006, ln_13007, ln_14008, ln_13009, ln_13010, ln_13012, ln_13013, ln_13014, ln_13015, ln_13016, ln_13017, ln_13018, ln_13020, ln_13021, ln_13022, ln_13023, ln_13024, ln_13025, ln_13026, ln_13027, ln_13028, ln_13029, ln_13031, ln_13032, ln_13033, ln_14034, ln_13035, ln_13036, ln_13037, ln_13038, ln_13039, ln_13042, ln_13043, ln_13044, ln_13045, ln_13046, ln_13047, ln_13048, ln_13049, ln_13050, ln_13051, ln_13052, ln_13053, ln_13054, ln_13055, ln_13056, ln_13057, ln_13058, ln_13059, ln_13060, ln_13061, ln_13062, ln_13063, ln_13064, ln_13065, ln_13066, ln_13067, gd_t, w_eq, lt, mo', mg]
      · have oe2 : ¬ obj g (N 13055 (9 * g + k)) = 4000 + (12 * g + j) := fun z => ow (oe.mp z)
        have mo' : ∀ C'' A'', p_X11_owns (mk C'' N A'') 12000 g j k = some 0 := fun C'' A'' => by rw [mo, if_neg (fun z => ow z.2)]
        have no2 : ∀ p, 0 ≤ p → p < k + 1 → N 13055 (9 * g + p) ≠ j := fun p p1 p2 => by
          by_cases e : p = k
          · rw [e]; exact ow
          · exact hno p p1 (by omega)
        by_cases tg : N 13056 (9 * g + k) = j
        · have te2 := te.mpr tg
          have wy := nl_y (C := C) (g := g) (j := j) k0 (by rw [s1']; omega) (by rw [t2]; exact te2)
          refine step C N s jn c gr BKp.rf KG.rf ⟨rfl, rfl, rfl, fun _ => rfl⟩ no2 s0 (by omega) ?_ (fun C'' A'' => ?_)
          · unfold b_X0_removeMember_16
            simp (disch := omega) only [aok, up_s, true_and, false_and, and_true, and_false, if_true, if_false, ↓reduceIte, ↓Option.bind_some, Int.reduceEq, Int.reduceNe, Int.reduceLT, Int.reduceLE, gd_true, gd_false, bind_b, q10, eq_self, reduceCtorEq, not_true_eq_false, not_false_eq_true, ne_eq, cr_11000, cr_15000, cr_16000, cr_20000, cr_20001, cr_21000, cr_22000, cr_25000, cr_1000, cr_2000, cr_3000, cr_3003, cr_3006, cr_4000, cr_5000, cr_6000, cr_7000, cr_8000, cr_9000, cr_10000, cr_13500, cr_17000, cr_17100, cr_17103, cr_17106, cr_19000, cr_20100, cr_21100, cr_23000, cr_24000, cw_11000, cw_15000, cw_16000, cw_20000, cw_20001, cw_21000, cw_22000, cw_25000, cw_1000, cw_2000, cw_3000, cw_3003, cw_3006, cw_4000, cw_5000, cw_6000, cw_7000, cw_8000, cw_9000, cw_10000, cw_13500, cw_17000, cw_17100, cw_17103, cw_17106, cw_19000, cw_20100, cw_21100, cw_23000, cw_24000, lc_13500, lc_15000, lc_16000, lc_17000, lc_17100, lc_17103, lc_17106, lc_19000, lc_20000, lc_20001, lc_20100, lc_21000, lc_21100, lc_22000, lc_23000, lc_24000, lc_25000, gd_t, w_eq, lt, e24, nz, e91, oe2, e92, te2, wy]
          · unfold b_X11_gGoes_5
            simp (disch := omega) only [aok, up_s, true_and, false_and, and_true, and_false, if_true, if_false, ↓reduceIte, ↓Option.bind_some, Int.reduceEq, Int.reduceNe, Int.reduceLT, Int.reduceLE, gd_true, gd_false, bind_b, q10, eq_self, reduceCtorEq, not_true_eq_false, not_false_eq_true, ne_eq, pt_0, pt_1, pt_2, pt_3, pt_4, pt_5, pt_6, pt_7, pt_8, pt_9, pt_10, pt_11, pt_12, pt_13, pt_14, pt_15, pt_16, pt_17, pt_18, pt_19, pt_20, pt_21, pt_22, pt_23, pt_24, pt_25, pt_26, pt_27, pt_28, pt_29, pt_30, pt_31, pt_32, pt_33, pt_34, pt_35, pt_36, pt_37, pt_38, pt_39, pt_40, pt_41, pt_42, pt_43, pt_44, pt_45, pt_46, pt_47, pt_48, pt_49, pt_50, pt_51, pt_52, pt_53, pt_54, pt_55, pt_56, pt_57, pt_58, pt_59, pt_60, pt_61, pt_62, pt_63, pt_64, pt_65, pt_66, pt_67, pa_13005, pw_13005, pa_13006, pw_13006, pa_13007, pw_13007, pa_14008, pw_14008, pa_13009, pw_13009, pa_13010, pw_13010, pa_13012, pw_13012, pa_13013, pw_13013, pa_13014, pw_13014, pa_13015, pw_13015, pa_13016, pw_13016, pa_13017, pw_13017, pa_13018, pw_13018, pa_13020, pw_13020, pa_13021, pw_13021, pa_13022, pw_13022, pa_13023, pw_13023, pa_13024, pw_13024, pa_13025, pw_13025, pa_13026, pw_13026, pa_13027, pw_13027, pa_13028, pw_13028, pa_13029, pw_13029, pa_13031, pw_13031, pa_13032, pw_13032, pa_13033, pw_13033, pa_14034, pw_14034, pa_13035, pw_13035, pa_13036, pw_13036, pa_13037, pw_13037, pa_13038, pw_13038, pa_13039, pw_13039, pa_13042, pw_13042, pa_13043, pw_13043, pa_13044, pw_13044, pa_13045, pw_13045, pa_13046, pw_13046, pa_13047, pw_13047, pa_13048, pw_13048, pa_13049, pw_13049, pa_13050, pw_13050, pa_13051, pw_13051, pa_13052, pw_13052, pa_13053, pw_13053, pa_13054, pw_13054, pa_13055, pw_13055, pa_13056, pw_13056, pa_13057, pw_13057, pa_13058, pw_13058, pa_13059, pw_13059, pa_13060, pw_13060, pa_13061, pw_13061, pa_13062, pw_13062, pa_13063, pw_13063, pa_13064, pw_13064, pa_13065, pw_13065, pa_13066, pw_13066, pa_13067, pw_13067, ps_0, ps_1, ps_2, ps_3, ps_4, ps_11, ps_19, ps_30, ps_40, ps_41, ln_13005, ln_13006, ln_13007, ln_14008, ln_13009, ln_13010, ln_13012, ln_13013, ln_13014, ln_13015, ln_13016, ln_13017, ln_13018, ln_13020, ln_13021, ln_13022, ln_13023, ln_13024, ln_13025, ln_13026, ln_13027, ln_13028, ln_13029, ln_13031, ln_13032, ln_13033, ln_14034, ln_13035, ln_13036, ln_13037, ln_13038, ln_13039, ln_13042, ln_13043, ln_13044, ln_13045, ln_13046, ln_13047, ln_13048, ln_13049, ln_13050, ln_13051, ln_13052, ln_13053, ln_13054, ln_13055, ln_13056, ln_13057, ln_13058, ln_13059, ln_13060, ln_13061, ln_13062, ln_13063, ln_13064, ln_13065, ln_13066, ln_13067, gd_t, w_eq, lt, mo']
        · have te2 : ¬ obj g (N 13056 (9 * g + k)) = 4000 + (12 * g + j) := fun z => tg (te.mp z)
          have wn := nl_n (C := C) (g := g) (j := j) (k := k) (fun q => te2 (t2.symm.trans q.2))
          refine step C N s jn c gr BKp.rf KG.rf ⟨rfl, rfl, rfl, fun _ => rfl⟩ no2 s0 (by omega) ?_ (fun C'' A'' => ?_)
          · unfold b_X0_removeMember_16
            simp (disch := omega) only [aok, up_s, true_and, false_and, and_true, and_false, if_true, if_false, ↓reduceIte, ↓Option.bind_some, Int.reduceEq, Int.reduceNe, Int.reduceLT, Int.reduceLE, gd_true, gd_false, bind_b, q10, eq_self, reduceCtorEq, not_true_eq_false, not_false_eq_true, ne_eq, cr_11000, cr_15000, cr_16000, cr_20000, cr_20001, cr_21000, cr_22000, cr_25000, cr_1000, cr_2000, cr_3000, cr_3003, cr_3006, cr_4000, cr_5000, cr_6000, cr_7000, cr_8000, cr_9000, cr_10000, cr_13500, cr_17000, cr_17100, cr_17103, cr_17106, cr_19000, cr_20100, cr_21100, cr_23000, cr_24000, cw_11000, cw_15000, cw_16000, cw_20000, cw_20001, cw_21000, cw_22000, cw_25000, cw_1000, cw_2000, cw_3000, cw_3003, cw_3006, cw_4000, cw_5000, cw_6000, cw_7000, cw_8000, cw_9000, cw_10000, cw_13500, cw_17000, cw_17100, cw_17103, cw_17106, cw_19000, cw_20100, cw_21100, cw_23000, cw_24000, lc_13500, lc_15000, lc_16000, lc_17000, lc_17100, lc_17103, lc_17106, lc_19000, lc_20000, lc_20001, lc_20100, lc_21000, lc_21100, lc_22000, lc_23000, lc_24000, lc_25000, gd_t, w_eq, lt, e24, nz, e91, oe2, e92, te2]
            rw [wn]
          · unfold b_X11_gGoes_5
            simp (disch := omega) only [aok, up_s, true_and, false_and, and_true, and_false, if_true, if_false, ↓reduceIte, ↓Option.bind_some, Int.reduceEq, Int.reduceNe, Int.reduceLT, Int.reduceLE, gd_true, gd_false, bind_b, q10, eq_self, reduceCtorEq, not_true_eq_false, not_false_eq_true, ne_eq, pt_0, pt_1, pt_2, pt_3, pt_4, pt_5, pt_6, pt_7, pt_8, pt_9, pt_10, pt_11, pt_12, pt_13, pt_14, pt_15, pt_16, pt_17, pt_18, pt_19, pt_20, pt_21, pt_22, pt_23, pt_24, pt_25, pt_26, pt_27, pt_28, pt_29, pt_30, pt_31, pt_32, pt_33, pt_34, pt_35, pt_36, pt_37, pt_38, pt_39, pt_40, pt_41, pt_42, pt_43, pt_44, pt_45, pt_46, pt_47, pt_48, pt_49, pt_50, pt_51, pt_52, pt_53, pt_54, pt_55, pt_56, pt_57, pt_58, pt_59, pt_60, pt_61, pt_62, pt_63, pt_64, pt_65, pt_66, pt_67, pa_13005, pw_13005, pa_13006, pw_13006, pa_13007, pw_13007, pa_14008, pw_14008, pa_13009, pw_13009, pa_13010, pw_13010, pa_13012, pw_13012, pa_13013, pw_13013, pa_13014, pw_13014, pa_13015, pw_13015, pa_13016, pw_13016, pa_13017, pw_13017, pa_13018, pw_13018, pa_13020, pw_13020, pa_13021, pw_13021, pa_13022, pw_13022, pa_13023, pw_13023, pa_13024, pw_13024, pa_13025, pw_13025, pa_13026, pw_13026, pa_13027, pw_13027, pa_13028, pw_13028, pa_13029, pw_13029, pa_13031, pw_13031, pa_13032, pw_13032, pa_13033, pw_13033, pa_14034, pw_14034, pa_13035, pw_13035, pa_13036, pw_13036, pa_13037, pw_13037, pa_13038, pw_13038, pa_13039, pw_13039, pa_13042, pw_13042, pa_13043, pw_13043, pa_13044, pw_13044, pa_13045, pw_13045, pa_13046, pw_13046, pa_13047, pw_13047, pa_13048, pw_13048, pa_13049, pw_13049, pa_13050, pw_13050, pa_13051, pw_13051, pa_13052, pw_13052, pa_13053, pw_13053, pa_13054, pw_13054, pa_13055, pw_13055, pa_13056, pw_13056, pa_13057, pw_13057, pa_13058, pw_13058, pa_13059, pw_13059, pa_13060, pw_13060, pa_13061, pw_13061, pa_13062, pw_13062, pa_13063, pw_13063, pa_13064, pw_13064, pa_13065, pw_13065, pa_13066, pw_13066, pa_13067, pw_13067, ps_0, ps_1, ps_2, ps_3, ps_4, ps_11, ps_19, ps_30, ps_40, ps_41, ln_13005, ln_13006, ln_13007, ln_14008, ln_13009, ln_13010, ln_13012, ln_13013, ln_13014, ln_13015, ln_13016, ln_13017, ln_13018, ln_13020, ln_13021, ln_13022, ln_13023, ln_13024, ln_13025, ln_13026, ln_13027, ln_13028, ln_13029, ln_13031, ln_13032, ln_13033, ln_14034, ln_13035, ln_13036, ln_13037, ln_13038, ln_13039, ln_13042, ln_13043, ln_13044, ln_13045, ln_13046, ln_13047, ln_13048, ln_13049, ln_13050, ln_13051, ln_13052, ln_13053, ln_13054, ln_13055, ln_13056, ln_13057, ln_13058, ln_13059, ln_13060, ln_13061, ln_13062, ln_13063, ln_13064, ln_13065, ln_13066, ln_13067, gd_t, w_eq, lt, mo']
    · rw [if_neg r] at s1'
      have mo' : ∀ C'' A'', p_X11_owns (mk C'' N A'') 12000 g j k = some 0 := fun C'' A'' => by rw [mo, if_neg (fun z => r z.1)]
      have no2 : ∀ p, 0 ≤ p → p < k + 1 → N 13055 (9 * g + p) ≠ j := fun p p1 p2 => by
        by_cases e : p = k
        · rw [e]
          rcases (ga.np k k0 lt).1.1 with z | z
          · omega
          · exact absurd z.2.2.2 r
        · exact hno p p1 (by omega)
      have e24 : nlC C g j k 24000 g k = 0 := by rw [nl_k (by omega)]; exact s1'
      have wn := nl_n (C := C) (g := g) (j := j) (k := k) (fun q => q.1 s1')
      refine step C N s jn c gr BKp.rf KG.rf ⟨rfl, rfl, rfl, fun _ => rfl⟩ no2 s0 (by omega) ?_ (fun C'' A'' => ?_)
      · unfold b_X0_removeMember_16
        simp (disch := omega) only [aok, up_s, true_and, false_and, and_true, and_false, if_true, if_false, ↓reduceIte, ↓Option.bind_some, Int.reduceEq, Int.reduceNe, Int.reduceLT, Int.reduceLE, gd_true, gd_false, bind_b, q10, eq_self, reduceCtorEq, not_true_eq_false, not_false_eq_true, ne_eq, cr_11000, cr_15000, cr_16000, cr_20000, cr_20001, cr_21000, cr_22000, cr_25000, cr_1000, cr_2000, cr_3000, cr_3003, cr_3006, cr_4000, cr_5000, cr_6000, cr_7000, cr_8000, cr_9000, cr_10000, cr_13500, cr_17000, cr_17100, cr_17103, cr_17106, cr_19000, cr_20100, cr_21100, cr_23000, cr_24000, cw_11000, cw_15000, cw_16000, cw_20000, cw_20001, cw_21000, cw_22000, cw_25000, cw_1000, cw_2000, cw_3000, cw_3003, cw_3006, cw_4000, cw_5000, cw_6000, cw_7000, cw_8000, cw_9000, cw_10000, cw_13500, cw_17000, cw_17100, cw_17103, cw_17106, cw_19000, cw_20100, cw_21100, cw_23000, cw_24000, lc_13500, lc_15000, lc_16000, lc_17000, lc_17100, lc_17103, lc_17106, lc_19000, lc_20000, lc_20001, lc_20100, lc_21000, lc_21100, lc_22000, lc_23000, lc_24000, lc_25000, gd_t, w_eq, lt, e24]
        rw [wn]
      · unfold b_X11_gGoes_5
        simp (disch := omega) only [aok, up_s, true_and, false_and, and_true, and_false, if_true, if_false, ↓reduceIte, ↓Option.bind_some, Int.reduceEq, Int.reduceNe, Int.reduceLT, Int.reduceLE, gd_true, gd_false, bind_b, q10, eq_self, reduceCtorEq, not_true_eq_false, not_false_eq_true, ne_eq, pt_0, pt_1, pt_2, pt_3, pt_4, pt_5, pt_6, pt_7, pt_8, pt_9, pt_10, pt_11, pt_12, pt_13, pt_14, pt_15, pt_16, pt_17, pt_18, pt_19, pt_20, pt_21, pt_22, pt_23, pt_24, pt_25, pt_26, pt_27, pt_28, pt_29, pt_30, pt_31, pt_32, pt_33, pt_34, pt_35, pt_36, pt_37, pt_38, pt_39, pt_40, pt_41, pt_42, pt_43, pt_44, pt_45, pt_46, pt_47, pt_48, pt_49, pt_50, pt_51, pt_52, pt_53, pt_54, pt_55, pt_56, pt_57, pt_58, pt_59, pt_60, pt_61, pt_62, pt_63, pt_64, pt_65, pt_66, pt_67, pa_13005, pw_13005, pa_13006, pw_13006, pa_13007, pw_13007, pa_14008, pw_14008, pa_13009, pw_13009, pa_13010, pw_13010, pa_13012, pw_13012, pa_13013, pw_13013, pa_13014, pw_13014, pa_13015, pw_13015, pa_13016, pw_13016, pa_13017, pw_13017, pa_13018, pw_13018, pa_13020, pw_13020, pa_13021, pw_13021, pa_13022, pw_13022, pa_13023, pw_13023, pa_13024, pw_13024, pa_13025, pw_13025, pa_13026, pw_13026, pa_13027, pw_13027, pa_13028, pw_13028, pa_13029, pw_13029, pa_13031, pw_13031, pa_13032, pw_13032, pa_13033, pw_13033, pa_14034, pw_14034, pa_13035, pw_13035, pa_13036, pw_13036, pa_13037, pw_13037, pa_13038, pw_13038, pa_13039, pw_13039, pa_13042, pw_13042, pa_13043, pw_13043, pa_13044, pw_13044, pa_13045, pw_13045, pa_13046, pw_13046, pa_13047, pw_13047, pa_13048, pw_13048, pa_13049, pw_13049, pa_13050, pw_13050, pa_13051, pw_13051, pa_13052, pw_13052, pa_13053, pw_13053, pa_13054, pw_13054, pa_13055, pw_13055, pa_13056, pw_13056, pa_13057, pw_13057, pa_13058, pw_13058, pa_13059, pw_13059, pa_13060, pw_13060, pa_13061, pw_13061, pa_13062, pw_13062, pa_13063, pw_13063, pa_13064, pw_13064, pa_13065, pw_13065, pa_13066, pw_13066, pa_13067, pw_13067, ps_0, ps_1, ps_2, ps_3, ps_4, ps_11, ps_19, ps_30, ps_40, ps_41, ln_13005, ln_13006, ln_13007, ln_14008, ln_13009, ln_13010, ln_13012, ln_13013, ln_13014, ln_13015, ln_13016, ln_13017, ln_13018, ln_13020, ln_13021, ln_13022, ln_13023, ln_13024, ln_13025, ln_13026, ln_13027, ln_13028, ln_13029, ln_13031, ln_13032, ln_13033, ln_14034, ln_13035, ln_13036, ln_13037, ln_13038, ln_13039, ln_13042, ln_13043, ln_13044, ln_13045, ln_13046, ln_13047, ln_13048, ln_13049, ln_13050, ln_13051, ln_13052, ln_13053, ln_13054, ln_13055, ln_13056, ln_13057, ln_13058, ln_13059, ln_13060, ln_13061, ln_13062, ln_13063, ln_13064, ln_13065, ln_13066, ln_13067, gd_t, w_eq, lt, mo']
end LV
