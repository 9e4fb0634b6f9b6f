/-! PURE PART, 93: read -/
section READ
variable {N0 : Nd} {g j n : Int}
theorem pde_any {C : Cd} {A : Ad} {m v a0 a1 fr : Int} (g1 : 0 ≤ g) (g2 : g < 3) (m1 : 0 ≤ m) (m2 : m < 150) : p_X0_deliver (mk (uq C 2000 (150 * g + m) 1 v) N0 A) a0 a1 (2000 + (150 * g + m)) fr = p_X0_deliver (mk C N0 A) a0 a1 (2000 + (150 * g + m)) fr := by
  have e : ∀ X : Cd, wr (mk X N0 A) (2000 + (150 * g + m)) 1 2 = mk (uq X 2000 (150 * g + m) 1 2) N0 A := fun X => cw_2000 (by omega) (by omega)
  have e2 : uq (uq C 2000 (150 * g + m) 1 v) 2000 (150 * g + m) 1 2 = uq C 2000 (150 * g + m) 1 2 := by
    funext b i j
    rw [uq_s, uq_s, uq_s]
    by_cases h : b = 2000 ∧ i = 150 * g + m ∧ j = 1
    · rw [if_pos h, if_pos h]
    · rw [if_neg h, if_neg h, if_neg h]
  unfold p_X0_deliver
  rw [e, e, e2]
/-- a message that waits comes into the hand -/
theorem row_dlv {C : Cd} {N : Nd} {A : Ad} {m : Int} (jj : JJ n C N A) (g1 : 0 ≤ g) (g2 : g < (N 12000 41)) (j1 : 0 ≤ j) (j2 : j < 12) (hi : N 13047 (12 * g + j) = 1) (hb : cnd N g j m) (hc : hn N g j < N 13049 (12 * g + j)) (hn9 : n < 10000000) :
    ∃ C1 C2, p_X2_removeLetter (mk C N0 A) (3000 + g) (2000 + (150 * g + m)) = some (mk C1 N0 A) ∧ p_X0_deliver (mk C1 N0 A) (1000 + g) (4000 + (12 * g + j)) (2000 + (150 * g + m)) 1 = some (2000 + (150 * g + m), mk C2 N0 A) ∧
    (∀ C'' A'', p_X11_gDelivers (mk C'' (up N 13059 (150 * g + m) 0) A'') 12000 g j m (N 13061 (150 * g + m)) 1 = some (mk C'' (dlN (up N 13059 (150 * g + m) 0) g j m (N 13061 (150 * g + m)) 1) A'')) ∧
    C2 2000 (150 * g + m) 0 = 5000 + m ∧ C2 5000 m 0 = m ∧ JJ (n + 1) C2 (dlN (up N 13059 (150 * g + m) 0) g j m (N 13061 (150 * g + m)) 1) A := by
  obtain ⟨m1, m2, wt, ow, -, row⟩ := hb
  have G := jj.jn.g
  have s2 := G.s.2.1
  have s4 := G.s.2.2.2.1
  have s5 := G.s.2.2.2.2.1
  have g3 : g < 3 := by omega
  have m150 : m < 150 := by omega
  have gr := jj.gr g1 g2
  have h9 := gr.1.h9 j1 j2 hi
  have nmj := (gr.1.nm j j1 j2).2.2 hi
  have c9 : 0 ≤ C 1000 g 9 ∧ C 1000 g 9 ≤ n := ⟨by have := (gr.2.2.2.2.2.2 m m1 m150).2.1; have := (gr.2.2.2.2.2.2 m m1 m150).2.2.1; omega, jj.b.2.2.2 g g1 g2⟩
  have wk := gr.1.le.wk m1 m150 wt
  obtain ⟨nw, f, w⟩ := gr.1.wa
  obtain ⟨i0, h0, h1, hm⟩ := w.2.2.2.2 m m1 m150 wt
  have rm := c_remove (N0 := N0) (A := A) (m := m) (i0 := i0) (LPl.w g1 g3) w.1 w.2.1.2 h0 (by omega) (fun k k1 k2 => ⟨fun z => by
    by_cases x : k < i0
    · exact absurd (z.trans hm.symm) (w.dis k1 x h1)
    · by_cases y : i0 < k
      · exact absurd (hm.trans z.symm) (w.dis h0 y k2)
      · omega, fun z => by rw [z]; exact hm⟩)
  rw [if_pos h1] at rm
  obtain ⟨M, rm1, C1, hM, l, lk⟩ := rm
  rw [hM] at rm1
  have a1 := gr.1.unrow g1 m1 m150 w h0 h1 hm l lk
  have e1 : ∀ b i z, ¬ (b = 17100 ∧ i = g) → ¬ (b = 3000 ∧ i = g ∧ z = 1) → ¬ (b = 2000 ∧ i = 150 * g + m ∧ z = 1) → uq C1 2000 (150 * g + m) 1 0 b i z = C b i z := fun b i z z1 z2 z3 => by
    rw [uq_s, if_neg z3]; exact lk b i z z1 z2
  have w1 : uq C1 2000 (150 * g + m) 1 0 2000 (150 * g + m) 1 = 0 := by rw [uq_s, if_pos ⟨rfl, rfl, rfl⟩]
  obtain ⟨d1, d2, d3, d4, -⟩ := (gr.1.le m m1 m150).2.2.2.2.2.2.2.2.2 wt
  have t1 : uq C1 2000 (150 * g + m) 1 0 2000 (150 * g + m) 3 = N 13061 (150 * g + m) := by rw [e1 _ _ _ (by omega) (by omega) (by omega)]; exact d2
  have un1 : uq C1 2000 (150 * g + m) 1 0 17000 g m ≠ 0 := by rw [e1 _ _ _ (by omega) (by omega) (by omega)]; exact wk.2.1
  have c19 : uq C1 2000 (150 * g + m) 1 0 1000 g 9 = C 1000 g 9 := e1 _ _ _ (by omega) (by omega) (by omega)
  have kn1 : MG g N (up N 13059 (150 * g + m) 0) := MG.rf.up (by unfold inN; omega)
  have k1 : KG g C (uq C1 2000 (150 * g + m) 1 0) := fun b i z h => by unfold inG at h; exact e1 _ _ _ (by omega) (by omega) (by omega)
  have a2 := a1.dlv (t := N 13061 (150 * g + m)) (fr := 1) (n := hn N g j) (m := m) (j := j) (jj.jn.mg kn1).g g1 g3 j1 j2 hi hc m1 m2 un1 w1 ow.2 t1 ⟨d3, d4⟩ (Or.inr rfl) (fun z => absurd z (by decide)) rfl
  have mem := ((a1.me j j1 j2).2 hi).2.1
  have hand := (a1.ha j j1 j2 hi).1
  have hz : N 13051 (12 * g + j) = hn N g j := rfl
  have cd := c_deliver (N0 := N0) (A := A) (m := m) (fr := 1) g1 g3 j1 j2 m1 m150 mem hand h9.1 (show hn N g j < 9 by omega) (Or.inr rfl) (by rw [c19]; omega)
  rw [pde_any g1 g3 m1 m150] at cd
  have k2 : KG g C (dlC (uq C1 2000 (150 * g + m) 1 0) g j m 1 (hn N g j)) := k1.tr (KG.dl g1 j1 j2 m1 m150)
  have mdl : MG g (up N 13059 (150 * g + m) 0) (dlN (up N 13059 (150 * g + m) 0) g j m (N 13061 (150 * g + m)) 1) := MG.dl j1 j2 m1 m150 (show 0 ≤ N 13051 (12 * g + j) ∧ N 13051 (12 * g + j) < 9 by omega)
  have kn2 := kn1.tr mdl
  refine ⟨C1, dlC (uq C1 2000 (150 * g + m) 1 0) g j m 1 (hn N g j), rm1, cd, fun C'' A'' => m_gDelivers g1 g3 j1 j2 m1 m150 (show 0 ≤ N 13051 (12 * g + j) ∧ N 13051 (12 * g + j) < 9 by omega), ?_, ?_, ?_⟩
  · show dlC (uq C1 2000 (150 * g + m) 1 0) g j m 1 (hn N g j) 2000 (150 * g + m) 0 = _
    rw [dl_k (by omega) (by omega) (by omega) (by omega), e1 _ _ _ (by omega) (by omega) (by omega)]
    exact wk.2.2.2.1
  · show dlC (uq C1 2000 (150 * g + m) 1 0) g j m 1 (hn N g j) 5000 m 0 = _
    rw [dl_k (by omega) (by omega) (by omega) (by omega), e1 _ _ _ (by omega) (by omega) (by omega)]
    exact (jj.c.m m m1 m2).1
  have f1 : ∀ x, Fdl (uq C1 2000 (150 * g + m) 1 0) g x = Fdl C g x := fun x => e1 _ _ _ (by omega) (by omega) (by omega)
  have f0 := (gr.2.2.2.2.2.2 m m1 m150).2.1
  have fv : fdv (uq C1 2000 (150 * g + m) 1 0) g m = if Fdl C g m = 0 then C 1000 g 9 + 1 else Fdl C g m := by
    unfold fdv
    rw [c19, show uq C1 2000 (150 * g + m) 1 0 2000 (150 * g + m) 6 = Fdl C g m from f1 m]
  have cv : fcv (uq C1 2000 (150 * g + m) 1 0) g m = if Fdl C g m = 0 then C 1000 g 9 + 1 else C 1000 g 9 := by
    unfold fcv
    rw [c19, show uq C1 2000 (150 * g + m) 1 0 2000 (150 * g + m) 6 = Fdl C g m from f1 m]
  have f2 : ∀ x, 0 ≤ x → x < 150 → x ≠ m → Fdl (dlC (uq C1 2000 (150 * g + m) 1 0) g j m 1 (hn N g j)) g x = Fdl C g x := fun x x1 x2 x3 => by
    rw [← f1 x]
    exact dl_k (by omega) (by omega) (by omega) (by omega)
  have f2m : Fdl (dlC (uq C1 2000 (150 * g + m) 1 0) g j m 1 (hn N g j)) g m = if Fdl C g m = 0 then C 1000 g 9 + 1 else Fdl C g m := by
    rw [← fv]
    exact dl_6
  have c29 : dlC (uq C1 2000 (150 * g + m) 1 0) g j m 1 (hn N g j) 1000 g 9 = if Fdl C g m = 0 then C 1000 g 9 + 1 else C 1000 g 9 := by
    rw [← cv]
    exact dl_9
  have pos : 0 < Fdl (dlC (uq C1 2000 (150 * g + m) 1 0) g j m 1 (hn N g j)) g m := by
    rw [f2m]
    split <;> omega
  have rr : RD C (dlC (uq C1 2000 (150 * g + m) 1 0) g j m 1 (hn N g j)) N (dlN (up N 13059 (150 * g + m) 0) g j m (N 13061 (150 * g + m)) 1) g m := by
    refine ⟨⟨k2, kn2⟩, fun x x1 x2 x3 => ⟨f2 x x1 x2 x3, by rw [dn_ar (by decide) (by decide), up_s, if_neg (by omega)]⟩, ?_, Or.inl pos, fun q => ?_, ⟨by rw [dn_ar (by decide) (by decide)]; rfl, by rw [dn_ar (by decide) (by decide)]; rfl, by rw [dn_ar (by decide) (by decide)]; rfl, by rw [dn_ar (by decide) (by decide)]; rfl⟩, fun q q1 q2 q3 => by rw [dn_ar (by decide) (by decide)]; rfl⟩
    · rw [f2m, c29]
      by_cases z : Fdl C g m = 0
      · rw [if_pos z, if_pos z]; exact Or.inr ⟨z, rfl, rfl⟩
      · rw [if_neg z, if_neg z]; exact Or.inl ⟨rfl, rfl⟩
    · show dlC (uq C1 2000 (150 * g + m) 1 0) g j m 1 (hn N g j) 9000 (9 * g + q) 5 = _
      rw [dl_k (by omega) (by omega) (by omega) (by omega), e1 _ _ _ (by omega) (by omega) (by omega)]
  have gi := GIn.rd jj.jn gr.2 rr m1 m2 (gr.1.le.off jj.jn m1 m150 wk.2.1).2.2 ((gr.2.2.2.2.2.2 m m1 m150).2.2.2 (Or.inr wt)) (Or.inl (by rw [dn_ar (by decide) (by decide)]; rfl)) (Or.inl (Or.inr wt)) (fun z z2 b b1 b2 b3 b4 b5 b6 => by
      have y := row b b1 b2 b4 b5.symm b6.symm
      have ne : N 13026 m ≠ N 13026 b := fun q => b3 (gr.1.le.inj jj.jn b1 (by omega) (gr.1.le.wk b1 (by omega) b4).2.1 m1 m150 wk.2.1 b5.symm q.symm)
      omega) (fun z a q1 q2 q3 q4 q5 q6 => gr.2.2.2.1 a m q1 q2 m1 m2 wt z q4 q5 q6) (fun x x1 x2 h => by
    by_cases e : x = m
    · rw [e]; exact pos
    · rw [f2 x x1 x2 e]
      rw [dl_k (by omega) (by omega) (by omega) (by omega), e1 _ _ _ (by omega) (by omega) (by omega)] at h
      exact gr.2.w6 x1 x2 h)
  have ne1 : NE (dlC (uq C1 2000 (150 * g + m) 1 0) g j m 1 (hn N g j)) (dlN (up N 13059 (150 * g + m) 0) g j m (N 13061 (150 * g + m)) 1) A := jj.ne.grp (g := g) kn2 (by rw [dn_ar (by decide) (by decide)]; rfl) (by funext i z; rw [dl_k (by omega) (by omega) (by omega) (by omega), e1 _ _ _ (by omega) (by omega) (by omega)]) rfl
  exact jj.grp g1 g2 k2 kn2 ⟨a2, gi⟩ (rr.pk G) ne1 (by rw [dn_ar (by decide) (by decide)]; rfl) (by omega) (by rw [c29]; split <;> omega) (fun x x1 x2 => by
    have q : FS1 n C N g x := jj.zn.2.2 g x g1 g2 x1 x2
    unfold FS1 at q ⊢
    rw [dn_s]
    by_cases e : x = m
    · have q2 := q
      rw [e] at q2
      rw [if_pos e, show (up N 13059 (150 * g + m) 0) 13064 (150 * g + m) = N 13064 (150 * g + m) from rfl, w_eq (z := N 13064 (150 * g + m) + 1) (by omega) (by omega), ← e]
      refine ⟨⟨fun _ => by omega, fun _ => ?_⟩, by omega, by omega⟩
      rw [e]; exact pos
    · rw [if_neg e, f2 x x1 x2 e]
      exact ⟨q.1, q.2.1, by have := q.2.2; show N 13064 (150 * g + x) ≤ n + 1; omega⟩)
/-- the i-th partition in turn has nothing left to read -/
def SK (g j l : Int) (N : Nd) (i : Int) : Prop := own N g j ((l + 1 + i) % 9) → 0 ≤ N 13013 ((l + 1 + i) % 9) → NLE N g ((l + 1 + i) % 9)
theorem SK.mono {g j l i : Int} {N N1 : Nd} (h : LKp g j N N1) (u : SK g j l N i) : SK g j l N1 i := fun a b => by
  have e : N1 13013 = N 13013 := h.1.n0 (by decide)
  rw [e] at b
  exact (u ((h.ow _).mp a) b).mono h
/-- from share to share -/
theorem shLoop {l : Int} (g1 : 0 ≤ g) (j1 : 0 ≤ j) (j2 : j < 12) (hl : -1 ≤ l ∧ l ≤ 8) (hn9 : n < 10000000) : ∀ (d : Nat) (C : Cd) (N : Nd) (A : Ad) (k : Int) (F : Nat), JJ n C N A → g < (N 12000 41) → N 13047 (12 * g + j) = 1 → hn N g j < N 13049 (12 * g + j) → N 13050 (12 * g + j) = l → 0 ≤ k → k + d = 9 → d < F →
    ∃ C1 N1 A1, N1 12000 = N 12000 ∧ (((JJ n C1 N1 A1 ∧ LKp g j N N1 ∧ ∀ i, k ≤ i → i < 9 → SK g j l N1 i) ∧ lp (b_X0_deliverNext_46 (1000 + g) (4000 + (12 * g + j)) ((N 12000 1))) F (k + 1, mk C N0 A) = some (.inr (mk C1 N0 A1)) ∧ ∀ C'' A'', lp (b_X11_read_110 (l + 1) 12000 g j (12 * g + j)) F (k, mk C'' N A'') = some (.inr (mk C'' N1 A''))) ∨ ∃ m, 0 ≤ m ∧ m < 150 ∧ DV g j N m N1 ∧ C1 2000 (150 * g + m) 0 = 5000 + m ∧ C1 5000 m 0 = m ∧ JJ (n + 1) C1 N1 A1 ∧ lp (b_X0_deliverNext_46 (1000 + g) (4000 + (12 * g + j)) ((N 12000 1))) F (k + 1, mk C N0 A) = some (.inl (2000 + (150 * g + m), mk C1 N0 A1)) ∧ ∀ C'' A'', lp (b_X11_read_110 (l + 1) 12000 g j (12 * g + j)) F (k, mk C'' N A'') = some (.inl (m, mk C'' N1 A''))) := by
  intro d
  induction d with
  | zero =>
    intro C N A k F jj g2 hi hc el k0 kd hF
    have G := jj.jn.g
    have s4 := G.s.2.2.2.1
    obtain ⟨F, rfl⟩ : ∃ G, F = G + 1 := ⟨F - 1, by omega⟩
    have o0 := (jj.gr g1 g2).1.o.1
    refine ⟨C, N, A, rfl, Or.inl ⟨⟨jj, LKp.rf, fun i i1 i2 => by omega⟩, lp_end ?_, fun C'' A'' => lp_end ?_⟩⟩
    · have nl : 9 < k + 1 := by omega
      unfold b_X0_deliverNext_46
      simp (disch := omega) only [aok, up_s, true_and, false_and, and_true, and_false, if_true, if_false, ↓reduceIte, ↓Option.bind_some, Int.reduceEq, Int.reduceNe, Int.reduceLT, Int.reduceLE, gd_true, gd_false, bind_b, q10, eq_self, reduceCtorEq, not_true_eq_false, not_false_eq_true, ne_eq, cr_11000, cr_15000, cr_16000, cr_20000, cr_20001, cr_21000, cr_22000, cr_25000, cr_1000, cr_2000, cr_3000, cr_3003, cr_3006, cr_4000, cr_5000, cr_6000, cr_7000, cr_8000, cr_9000, cr_10000, cr_13500, cr_17000, cr_17100, cr_17103, cr_17106, cr_19000, cr_20100, cr_21100, cr_23000, cr_24000, cw_11000, cw_15000, cw_16000, cw_20000, cw_20001, cw_21000, cw_22000, cw_25000, cw_1000, cw_2000, cw_3000, cw_3003, cw_3006, cw_4000, cw_5000, cw_6000, cw_7000, cw_8000, cw_9000, cw_10000, cw_13500, cw_17000, cw_17100, cw_17103, cw_17106, cw_19000, cw_20100, cw_21100, cw_23000, cw_24000, lc_13500, lc_15000, lc_16000, lc_17000, lc_17100, lc_17103, lc_17106, lc_19000, lc_20000, lc_20001, lc_20100, lc_21000, lc_21100, lc_22000, lc_23000, lc_24000, lc_25000, gd_t, w_eq, o0, nl]
    · have nl : ¬ k < 9 := by omega
      unfold b_X11_read_110
      simp (disch := omega) only [aok, up_s, true_and, false_and, and_true, and_false, if_true, if_false, ↓reduceIte, ↓Option.bind_some, Int.reduceEq, Int.reduceNe, Int.reduceLT, Int.reduceLE, gd_true, gd_false, bind_b, q10, eq_self, reduceCtorEq, not_true_eq_false, not_false_eq_true, ne_eq, pt_0, pt_1, pt_2, pt_3, pt_4, pt_5, pt_6, pt_7, pt_8, pt_9, pt_10, pt_11, pt_12, pt_13, pt_14, pt_15, pt_16, pt_17, pt_18, pt_19, pt_20, pt_21, pt_22, pt_23, pt_24, pt_25, pt_26, pt_27, pt_28, pt_29, pt_30, pt_31, pt_32, pt_33, pt_34, pt_35, pt_36, pt_37, pt_38, pt_39, pt_40, pt_41, pt_42, pt_43, pt_44, pt_45, pt_46, pt_47, pt_48, pt_49, pt_50, pt_51, pt_52, pt_53, pt_54, pt_55, pt_56, pt_57, pt_58, pt_59, pt_60, pt_61, pt_62, pt_63, pt_64, pt_65, pt_66, pt_67, pa_13005, pw_13005, pa_13006, pw_13006, pa_13007, pw_13007, pa_14008, pw_14008, pa_13009, pw_13009, pa_13010, pw_13010, pa_13012, pw_13012, pa_13013, pw_13013, pa_13014, pw_13014, pa_13015, pw_13015, pa_13016, pw_13016, pa_13017, pw_13017, pa_13018, pw_13018, pa_13020, pw_13020, pa_13021, pw_13021, pa_13022, pw_13022, pa_13023, pw_13023, pa_13024, pw_13024, pa_13025, pw_13025, pa_13026, pw_13026, pa_13027, pw_13027, pa_13028, pw_13028, pa_13029, pw_13029, pa_13031, pw_13031, pa_13032, pw_13032, pa_13033, pw_13033, pa_14034, pw_14034, pa_13035, pw_13035, pa_13036, pw_13036, pa_13037, pw_13037, pa_13038, pw_13038, pa_13039, pw_13039, pa_13042, pw_13042, pa_13043, pw_13043, pa_13044, pw_13044, pa_13045, pw_13045, pa_13046, pw_13046, pa_13047, pw_13047, pa_13048, pw_13048, pa_13049, pw_13049, pa_13050, pw_13050, pa_13051, pw_13051, pa_13052, pw_13052, pa_13053, pw_13053, pa_13054, pw_13054, pa_13055, pw_13055, pa_13056, pw_13056, pa_13057, pw_13057, pa_13058, pw_13058, pa_13059, pw_13059, pa_13060, pw_13060, pa_13061, pw_13061, pa_13062, pw_13062, pa_13063, pw_13063, pa_13064, pw_13064, pa_13065, pw_13065, pa_13066, pw_13066, pa_13067, pw_13067, ps_0, ps_1, ps_2, ps_3, ps_4, ps_11, ps_19, ps_30, ps_40, ps_41, ln_13005, ln_13006, ln_13007, ln_14008, ln_13009, ln_13010, ln_13012, ln_13013, ln_13014, ln_13015, ln_13016, ln_13017, ln_13018, ln_13020, ln_13021, ln_13022, ln_13023, ln_13024, ln_13025, ln_13026, ln_13027, ln_13028, ln_13029, ln_13031, ln_13032, ln_13033, ln_14034, ln_13035, ln_13036, ln_13037, ln_13038, ln_13039, ln_13042, ln_13043, ln_13044, ln_13045, ln_13046, ln_13047, ln_13048, ln_13049, ln_13050, ln_13051, ln_13052, ln_13053, ln_13054, ln_13055, ln_13056, ln_13057, ln_13058, ln_13059, ln_13060, ln_13061, ln_13062, ln_13063, ln_13064, ln_13065, ln_13066, ln_13067, gd_t, w_eq, nl]
  | succ d ih =>
    intro C N A k F jj g2 hi hc el k0 kd hF
    have G := jj.jn.g
    have s4 := G.s.2.2.2.1
    have s2 := G.s.2.1
    obtain ⟨F, rfl⟩ : ∃ G, F = G + 1 := ⟨F - 1, by omega⟩
    have ga := (jj.gr g1 g2).1
    have g3 : g < 3 := by omega
    have o0 := ga.o.1
    have m4 := ((ga.me j j1 j2).2 hi).2.2.2.2
    rw [el] at m4
    have nl : ¬ 9 < k + 1 := by omega
    have yl : k < 9 := by omega
    have kd' : k + 1 + (d : Int) = 9 := by omega
    have q1 : irm (l + (k + 1)) 9 = (l + 1 + k) % 9 := by rw [irm_nn (by omega) (by omega) (by omega) (by omega)]; congr 1; omega
    have q2 : irm (l + 1 + k) 9 = (l + 1 + k) % 9 := irm_nn (by omega) (by omega) (by omega) (by omega)
    have qb : 0 ≤ (l + 1 + k) % 9 ∧ (l + 1 + k) % 9 < 9 := by omega
    generalize eq9 : (l + 1 + k) % 9 = q at q1 q2 qb
    have sa := c_shareAt (N0 := N0) (A := A) (p := q) G ga g1 g3
    have mo := fun C'' A'' => @m_owns C'' N A'' g q j G g1 g3
    have step : ∀ C2 N2 A2, JJ n C2 N2 A2 → LKp g j N N2 → SK g j l N2 k → b_X0_deliverNext_46 (1000 + g) (4000 + (12 * g + j)) ((N 12000 1)) (k + 1, mk C N0 A) = some (.inl (k + 1 + 1, mk C2 N0 A2)) → (∀ C'' A'', b_X11_read_110 (l + 1) 12000 g j (12 * g + j) (k, mk C'' N A'') = some (.inl (k + 1, mk C'' N2 A''))) → ∃ C1 N1 A1, N1 12000 = N 12000 ∧ (((JJ n C1 N1 A1 ∧ LKp g j N N1 ∧ ∀ i, k ≤ i → i < 9 → SK g j l N1 i) ∧ lp (b_X0_deliverNext_46 (1000 + g) (4000 + (12 * g + j)) ((N 12000 1))) (F + 1) (k + 1, mk C N0 A) = some (.inr (mk C1 N0 A1)) ∧ ∀ C'' A'', lp (b_X11_read_110 (l + 1) 12000 g j (12 * g + j)) (F + 1) (k, mk C'' N A'') = some (.inr (mk C'' N1 A''))) ∨ ∃ m, 0 ≤ m ∧ m < 150 ∧ DV g j N m N1 ∧ C1 2000 (150 * g + m) 0 = 5000 + m ∧ C1 5000 m 0 = m ∧ JJ (n + 1) C1 N1 A1 ∧ lp (b_X0_deliverNext_46 (1000 + g) (4000 + (12 * g + j)) ((N 12000 1))) (F + 1) (k + 1, mk C N0 A) = some (.inl (2000 + (150 * g + m), mk C1 N0 A1)) ∧ ∀ C'' A'', lp (b_X11_read_110 (l + 1) 12000 g j (12 * g + j)) (F + 1) (k, mk C'' N A'') = some (.inl (m, mk C'' N1 A''))) := fun C2 N2 A2 j2' lk sk b1 b2 => by
      have sc : N2 12000 = N 12000 := lk.1.n0 (by decide)
      have e1 := lk.2.1 13047 (by decide) (by decide) (by decide) (by decide)
      have e2 := lk.2.1 13049 (by decide) (by decide) (by decide) (by decide)
      have e3 := lk.2.1 13050 (by decide) (by decide) (by decide) (by decide)
      have e4 := lk.2.1 13051 (by decide) (by decide) (by decide) (by decide)
      obtain ⟨C1, N1, A1, y1, y2⟩ := ih C2 N2 A2 (k + 1) F j2' (by rw [sc]; exact g2) (by rw [e1]; exact hi) (by rw [e2]; unfold hn; rw [e4]; exact hc) (by rw [e3]; exact el) (by omega) (by omega) (by omega)
      rw [sc] at y2
      refine ⟨C1, N1, A1, y1.trans sc, ?_⟩
      rcases y2 with ⟨z1, z2, z3⟩ | ⟨m, z1, z2, ⟨Nx, qx, zd, zr⟩, z3, z4, z5, z6, z7⟩
      · exact Or.inl ⟨⟨z1.1, LKp.tr G.s.2.2.2.2.1.2 lk z1.2.1, fun i i1 i2 => by
          by_cases e : i = k
          · rw [e]; exact sk.mono z1.2.1
          · exact z1.2.2 i (by omega) i2⟩, (lp_next b1).trans z2, fun C'' A'' => (lp_next (b2 C'' A'')).trans (z3 C'' A'')⟩
      · exact Or.inr ⟨m, z1, z2, ⟨Nx, qx, LKp.tr G.s.2.2.2.2.1.2 lk zd, zr⟩, z3, z4, z5, (lp_next b1).trans z6, fun C'' A'' => (lp_next (b2 C'' A'')).trans (z7 C'' A'')⟩
    by_cases r : gR N g q
    · have sh := (ga.sh q qb.1 qb.2).2 r
      rw [if_pos r] at sa
      have oe := obj_eq (g := g) (j := j) (ga.np.o qb.1 qb.2) g1 j1
      have sh1 := sh.2.1
      have sh0 := sh.1
      by_cases ow : N 13055 (9 * g + q) = j
      · have oe2 := oe.mpr ow
        rw [oe2] at sh1
        have mo' : ∀ C'' A'', p_X11_owns (mk C'' N A'') 12000 g j q = some 1 := fun C'' A'' => by rw [mo, if_pos ⟨r, ow⟩]
        have cp4 := (jj.c.p q r.1 r.2.1).2.2.2.2.1
        have ml := fun C'' A'' => @m_hasLeader C'' N A'' q G.s r.1 r.2.1
        by_cases ld : N 13013 q < 0
        · rw [if_pos ld] at cp4
          have ld' : ¬ 0 ≤ N 13013 q := by omega
          simp only [if_neg ld'] at ml
          refine step C N A jj LKp.rf (fun _ b => by rw [eq9] at b; omega) ?_ (fun C'' A'' => ?_)
          · unfold b_X0_deliverNext_46
            simp (disch := omega) only [aok, up_s, true_and, false_and, and_true, and_false, if_true, if_false, ↓reduceIte, ↓Option.bind_some, Int.reduceEq, Int.reduceNe, Int.reduceLT, Int.reduceLE, gd_true, gd_false, bind_b, q10, eq_self, reduceCtorEq, not_true_eq_false, not_false_eq_true, ne_eq, cr_11000, cr_15000, cr_16000, cr_20000, cr_20001, cr_21000, cr_22000, cr_25000, cr_1000, cr_2000, cr_3000, cr_3003, cr_3006, cr_4000, cr_5000, cr_6000, cr_7000, cr_8000, cr_9000, cr_10000, cr_13500, cr_17000, cr_17100, cr_17103, cr_17106, cr_19000, cr_20100, cr_21100, cr_23000, cr_24000, cw_11000, cw_15000, cw_16000, cw_20000, cw_20001, cw_21000, cw_22000, cw_25000, cw_1000, cw_2000, cw_3000, cw_3003, cw_3006, cw_4000, cw_5000, cw_6000, cw_7000, cw_8000, cw_9000, cw_10000, cw_13500, cw_17000, cw_17100, cw_17103, cw_17106, cw_19000, cw_20100, cw_21100, cw_23000, cw_24000, lc_13500, lc_15000, lc_16000, lc_17000, lc_17100, lc_17103, lc_17106, lc_19000, lc_20000, lc_20001, lc_20100, lc_21000, lc_21100, lc_22000, lc_23000, lc_24000, lc_25000, gd_t, w_eq, o0, nl, m4, q1, sa, sh1, sh0, cp4, if_neg]
          · unfold b_X11_read_110
            simp (disch := omega) only [aok, up_s, true_and, false_and, and_true, and_false, if_true, if_false, ↓reduceIte, ↓Option.bind_some, Int.reduceEq, Int.reduceNe, Int.reduceLT, Int.reduceLE, gd_true, gd_false, bind_b, q10, eq_self, reduceCtorEq, not_true_eq_false, not_false_eq_true, ne_eq, pt_0, pt_1, pt_2, pt_3, pt_4, pt_5, pt_6, pt_7, pt_8, pt_9, pt_10, pt_11, pt_12, pt_13, pt_14, pt_15, pt_16, pt_17, pt_18, pt_19, pt_20, pt_21, pt_22, pt_23, pt_24, pt_25, pt_26, pt_27, pt_28, pt_29, pt_30, pt_31, pt_32, pt_33, pt_34, pt_35, pt_36, pt_37, pt_38, pt_39, pt_40, pt_41, pt_42, pt_43, pt_44, pt_45, pt_46, pt_47, pt_48, pt_49, pt_50, pt_51, pt_52, pt_53, pt_54, pt_55, pt_56, pt_57, pt_58, pt_59, pt_60, pt_61, pt_62, pt_63, pt_64, pt_65, pt_66, pt_67, pa_13005, pw_13005, pa_13006, pw_13006, pa_13007, pw_13007, pa_14008, pw_14008, pa_13009, pw_13009, pa_13010, pw_13010, pa_13012, pw_13012, pa_13013, pw_13013, pa_13014, pw_13014, pa_13015, pw_13015, pa_13016, pw_13016, pa_13017, pw_13017, pa_13018, pw_13018, pa_13020, pw_13020, pa_13021, pw_13021, pa_13022, pw_13022, pa_13023, pw_13023, pa_13024, pw_13024, pa_13025, pw_13025, pa_13026, pw_13026, pa_13027, pw_13027, pa_13028, pw_13028, pa_13029, pw_13029, pa_13031, pw_13031, pa_13032, pw_13032, pa_13033, pw_13033, pa_14034, pw_14034, pa_13035, pw_13035, pa_13036, pw_13036, pa_13037, pw_13037, pa_13038, pw_13038, pa_13039, pw_13039, pa_13042, pw_13042, pa_13043, pw_13043, pa_13044, pw_13044, pa_13045, pw_13045, pa_13046, pw_13046, pa_13047, pw_13047, pa_13048, pw_13048, pa_13049, pw_13049, pa_13050, pw_13050, pa_13051, pw_13051, pa_13052, pw_13052, pa_13053, pw_13053, pa_13054, pw_13054, pa_13055, pw_13055, pa_13056, pw_13056, pa_13057, pw_13057, pa_13058, pw_13058, pa_13059, pw_13059, pa_13060, pw_13060, pa_13061, pw_13061, pa_13062, pw_13062, pa_13063, pw_13063, pa_13064, pw_13064, pa_13065, pw_13065, pa_13066, pw_13066, pa_13067, pw_13067, ps_0, ps_1, ps_2, ps_3, ps_4, ps_11, ps_19, ps_30, ps_40, ps_41, ln_13005, ln_13006, ln_13007, ln_14008, ln_13009, ln_13010, ln_13012, ln_13013, ln_13014, ln_13015, ln_13016, ln_13017, ln_13018, ln_13020, ln_13021, ln_13022, ln_13023, ln_13024, ln_13025, ln_13026, ln_13027, ln_13028, ln_13029, ln_13031, ln_13032, ln_13033, ln_14034, ln_13035, ln_13036, ln_13037, ln_13038, ln_13039, ln_13042, ln_13043, ln_13044, ln_13045, ln_13046, ln_13047, ln_13048, ln_13049, ln_13050, ln_13051, ln_13052, ln_13053, ln_13054, ln_13055, ln_13056, ln_13057, ln_13058, ln_13059, ln_13060, ln_13061, ln_13062, ln_13063, ln_13064, ln_13065, ln_13066, ln_13067, gd_t, w_eq, yl, q2, mo', ml]
        · rw [if_neg ld] at cp4
          have ld' : 0 ≤ N 13013 q := by omega
          simp only [if_pos ld'] at ml
          have lb := RP.lead G.t G.p r.1 r.2.1
          obtain ⟨C1, N1, A1, y1, y2⟩ := lookA (N0 := N0) jj g1 g2 j1 j2 hi ⟨r, ow⟩
          rcases y2 with ⟨z1, z2, z3⟩ | ⟨m, C', A', z1, z2, z3⟩
          · refine step C1 N1 A1 z1.1 y1 (fun _ _ => by rw [eq9]; exact z1.2) ?_ (fun C'' A'' => ?_)
            · unfold b_X0_deliverNext_46
              simp (disch := omega) only [aok, up_s, true_and, false_and, and_true, and_false, if_true, if_false, ↓reduceIte, ↓Option.bind_some, Int.reduceEq, Int.reduceNe, Int.reduceLT, Int.reduceLE, gd_true, gd_false, bind_b, q10, eq_self, reduceCtorEq, not_true_eq_false, not_false_eq_true, ne_eq, cr_11000, cr_15000, cr_16000, cr_20000, cr_20001, cr_21000, cr_22000, cr_25000, cr_1000, cr_2000, cr_3000, cr_3003, cr_3006, cr_4000, cr_5000, cr_6000, cr_7000, cr_8000, cr_9000, cr_10000, cr_13500, cr_17000, cr_17100, cr_17103, cr_17106, cr_19000, cr_20100, cr_21100, cr_23000, cr_24000, cw_11000, cw_15000, cw_16000, cw_20000, cw_20001, cw_21000, cw_22000, cw_25000, cw_1000, cw_2000, cw_3000, cw_3003, cw_3006, cw_4000, cw_5000, cw_6000, cw_7000, cw_8000, cw_9000, cw_10000, cw_13500, cw_17000, cw_17100, cw_17103, cw_17106, cw_19000, cw_20100, cw_21100, cw_23000, cw_24000, lc_13500, lc_15000, lc_16000, lc_17000, lc_17100, lc_17103, lc_17106, lc_19000, lc_20000, lc_20001, lc_20100, lc_21000, lc_21100, lc_22000, lc_23000, lc_24000, lc_25000, gd_t, w_eq, o0, nl, m4, q1, sa, sh1, sh0, cp4, z2, if_neg]
            · unfold b_X11_read_110
              simp (disch := omega) only [aok, up_s, true_and, false_and, and_true, and_false, if_true, if_false, ↓reduceIte, ↓Option.bind_some, Int.reduceEq, Int.reduceNe, Int.reduceLT, Int.reduceLE, gd_true, gd_false, bind_b, q10, eq_self, reduceCtorEq, not_true_eq_false, not_false_eq_true, ne_eq, pt_0, pt_1, pt_2, pt_3, pt_4, pt_5, pt_6, pt_7, pt_8, pt_9, pt_10, pt_11, pt_12, pt_13, pt_14, pt_15, pt_16, pt_17, pt_18, pt_19, pt_20, pt_21, pt_22, pt_23, pt_24, pt_25, pt_26, pt_27, pt_28, pt_29, pt_30, pt_31, pt_32, pt_33, pt_34, pt_35, pt_36, pt_37, pt_38, pt_39, pt_40, pt_41, pt_42, pt_43, pt_44, pt_45, pt_46, pt_47, pt_48, pt_49, pt_50, pt_51, pt_52, pt_53, pt_54, pt_55, pt_56, pt_57, pt_58, pt_59, pt_60, pt_61, pt_62, pt_63, pt_64, pt_65, pt_66, pt_67, pa_13005, pw_13005, pa_13006, pw_13006, pa_13007, pw_13007, pa_14008, pw_14008, pa_13009, pw_13009, pa_13010, pw_13010, pa_13012, pw_13012, pa_13013, pw_13013, pa_13014, pw_13014, pa_13015, pw_13015, pa_13016, pw_13016, pa_13017, pw_13017, pa_13018, pw_13018, pa_13020, pw_13020, pa_13021, pw_13021, pa_13022, pw_13022, pa_13023, pw_13023, pa_13024, pw_13024, pa_13025, pw_13025, pa_13026, pw_13026, pa_13027, pw_13027, pa_13028, pw_13028, pa_13029, pw_13029, pa_13031, pw_13031, pa_13032, pw_13032, pa_13033, pw_13033, pa_14034, pw_14034, pa_13035, pw_13035, pa_13036, pw_13036, pa_13037, pw_13037, pa_13038, pw_13038, pa_13039, pw_13039, pa_13042, pw_13042, pa_13043, pw_13043, pa_13044, pw_13044, pa_13045, pw_13045, pa_13046, pw_13046, pa_13047, pw_13047, pa_13048, pw_13048, pa_13049, pw_13049, pa_13050, pw_13050, pa_13051, pw_13051, pa_13052, pw_13052, pa_13053, pw_13053, pa_13054, pw_13054, pa_13055, pw_13055, pa_13056, pw_13056, pa_13057, pw_13057, pa_13058, pw_13058, pa_13059, pw_13059, pa_13060, pw_13060, pa_13061, pw_13061, pa_13062, pw_13062, pa_13063, pw_13063, pa_13064, pw_13064, pa_13065, pw_13065, pa_13066, pw_13066, pa_13067, pw_13067, ps_0, ps_1, ps_2, ps_3, ps_4, ps_11, ps_19, ps_30, ps_40, ps_41, ln_13005, ln_13006, ln_13007, ln_14008, ln_13009, ln_13010, ln_13012, ln_13013, ln_13014, ln_13015, ln_13016, ln_13017, ln_13018, ln_13020, ln_13021, ln_13022, ln_13023, ln_13024, ln_13025, ln_13026, ln_13027, ln_13028, ln_13029, ln_13031, ln_13032, ln_13033, ln_14034, ln_13035, ln_13036, ln_13037, ln_13038, ln_13039, ln_13042, ln_13043, ln_13044, ln_13045, ln_13046, ln_13047, ln_13048, ln_13049, ln_13050, ln_13051, ln_13052, ln_13053, ln_13054, ln_13055, ln_13056, ln_13057, ln_13058, ln_13059, ln_13060, ln_13061, ln_13062, ln_13063, ln_13064, ln_13065, ln_13066, ln_13067, gd_t, w_eq, yl, q2, mo', ml, z3]
          · have sc : N1 12000 = N 12000 := y1.1.n0 (by decide)
            have e1 := y1.2.1 13047 (by decide) (by decide) (by decide) (by decide)
            have e2 := y1.2.1 13049 (by decide) (by decide) (by decide) (by decide)
            have e4 := y1.2.1 13051 (by decide) (by decide) (by decide) (by decide)
            have e5 := y1.2.1 13055 (by decide) (by decide) (by decide) (by decide)
            have r' : gR N1 g q := (y1.1.gr g q).mpr r
            obtain ⟨x1, x2, x3, x4, x5⟩ := z1.dlv (N0 := N0) g1 (by rw [sc]; exact g2) j1 j2 (by rw [e1]; exact hi) ⟨r', by rw [e5]; exact ow⟩ (by rw [e2]; unfold hn; rw [e4]; exact hc) hn9
            have m1 := z1.2.1.1
            have m2 := z1.2.1.2.1
            have s5 := z1.1.jn.g.s.2.2.2.2.1
            have ga' := z1.2.2.2.2.2.1.1
            have kc' := z1.2.2.2.2.2.1.2.2
            have sh' := ((ga'.sh q qb.1 qb.2).2 r').1
            have c6 : C' 6000 q 0 = q := by
              rw [kc' _ _ _ (by unfold inG; omega)]
              exact (z1.1.c.p q r.1 r'.2.1).1
            refine ⟨_, _, A', ?_, Or.inr ⟨m, m1, by omega, ⟨N1, q, y1, ⟨r', by rw [e5]; exact ow⟩, ⟨z1.2.1.2.1, z1.2.1.2.2.1, z1.2.1.2.2.2, z1.2.2.1.2.2.2, z1.2.2.2.2.1.1⟩, rfl⟩, x3, x4, x5, lp_end ?_, fun C'' A'' => lp_end ?_⟩⟩
            · rw [dn_ar (by decide) (by decide)]
              exact sc
            · unfold b_X0_deliverNext_46
              simp (disch := omega) only [aok, up_s, true_and, false_and, and_true, and_false, if_true, if_false, ↓reduceIte, ↓Option.bind_some, Int.reduceEq, Int.reduceNe, Int.reduceLT, Int.reduceLE, gd_true, gd_false, bind_b, q10, eq_self, reduceCtorEq, not_true_eq_false, not_false_eq_true, ne_eq, cr_11000, cr_15000, cr_16000, cr_20000, cr_20001, cr_21000, cr_22000, cr_25000, cr_1000, cr_2000, cr_3000, cr_3003, cr_3006, cr_4000, cr_5000, cr_6000, cr_7000, cr_8000, cr_9000, cr_10000, cr_13500, cr_17000, cr_17100, cr_17103, cr_17106, cr_19000, cr_20100, cr_21100, cr_23000, cr_24000, cw_11000, cw_15000, cw_16000, cw_20000, cw_20001, cw_21000, cw_22000, cw_25000, cw_1000, cw_2000, cw_3000, cw_3003, cw_3006, cw_4000, cw_5000, cw_6000, cw_7000, cw_8000, cw_9000, cw_10000, cw_13500, cw_17000, cw_17100, cw_17103, cw_17106, cw_19000, cw_20100, cw_21100, cw_23000, cw_24000, lc_13500, lc_15000, lc_16000, lc_17000, lc_17100, lc_17103, lc_17106, lc_19000, lc_20000, lc_20001, lc_20100, lc_21000, lc_21100, lc_22000, lc_23000, lc_24000, lc_25000, gd_t, w_eq, o0, nl, m4, q1, sa, sh1, sh0, cp4, z2, sh', c6, x1, if_neg]
            · unfold b_X11_read_110
              have m1' : ¬ m = -1 := by omega
              simp (disch := omega) only [aok, up_s, true_and, false_and, and_true, and_false, if_true, if_false, ↓reduceIte, ↓Option.bind_some, Int.reduceEq, Int.reduceNe, Int.reduceLT, Int.reduceLE, gd_true, gd_false, bind_b, q10, eq_self, reduceCtorEq, not_true_eq_false, not_false_eq_true, ne_eq, pt_0, pt_1, pt_2, pt_3, pt_4, pt_5, pt_6, pt_7, pt_8, pt_9, pt_10, pt_11, pt_12, pt_13, pt_14, pt_15, pt_16, pt_17, pt_18, pt_19, pt_20, pt_21, pt_22, pt_23, pt_24, pt_25, pt_26, pt_27, pt_28, pt_29, pt_30, pt_31, pt_32, pt_33, pt_34, pt_35, pt_36, pt_37, pt_38, pt_39, pt_40, pt_41, pt_42, pt_43, pt_44, pt_45, pt_46, pt_47, pt_48, pt_49, pt_50, pt_51, pt_52, pt_53, pt_54, pt_55, pt_56, pt_57, pt_58, pt_59, pt_60, pt_61, pt_62, pt_63, pt_64, pt_65, pt_66, pt_67, pa_13005, pw_13005, pa_13006, pw_13006, pa_13007, pw_13007, pa_14008, pw_14008, pa_13009, pw_13009, pa_13010, pw_13010, pa_13012, pw_13012, pa_13013, pw_13013, pa_13014, pw_13014, pa_13015, pw_13015, pa_13016, pw_13016, pa_13017, pw_13017, pa_13018, pw_13018, pa_13020, pw_13020, pa_13021, pw_13021, pa_13022, pw_13022, pa_13023, pw_13023, pa_13024, pw_13024, pa_13025, pw_13025, pa_13026, pw_13026, pa_13027, pw_13027, pa_13028, pw_13028, pa_13029, pw_13029, pa_13031, pw_13031, pa_13032, pw_13032, pa_13033, pw_13033, pa_14034, pw_14034, pa_13035, pw_13035, pa_13036, pw_13036, pa_13037, pw_13037, pa_13038, pw_13038, pa_13039, pw_13039, pa_13042, pw_13042, pa_13043, pw_13043, pa_13044, pw_13044, pa_13045, pw_13045, pa_13046, pw_13046, pa_13047, pw_13047, pa_13048, pw_13048, pa_13049, pw_13049, pa_13050, pw_13050, pa_13051, pw_13051, pa_13052, pw_13052, pa_13053, pw_13053, pa_13054, pw_13054, pa_13055, pw_13055, pa_13056, pw_13056, pa_13057, pw_13057, pa_13058, pw_13058, pa_13059, pw_13059, pa_13060, pw_13060, pa_13061, pw_13061, pa_13062, pw_13062, pa_13063, pw_13063, pa_13064, pw_13064, pa_13065, pw_13065, pa_13066, pw_13066, pa_13067, pw_13067, ps_0, ps_1, ps_2, ps_3, ps_4, ps_11, ps_19, ps_30, ps_40, ps_41, ln_13005, ln_13006, ln_13007, ln_14008, ln_13009, ln_13010, ln_13012, ln_13013, ln_13014, ln_13015, ln_13016, ln_13017, ln_13018, ln_13020, ln_13021, ln_13022, ln_13023, ln_13024, ln_13025, ln_13026, ln_13027, ln_13028, ln_13029, ln_13031, ln_13032, ln_13033, ln_14034, ln_13035, ln_13036, ln_13037, ln_13038, ln_13039, ln_13042, ln_13043, ln_13044, ln_13045, ln_13046, ln_13047, ln_13048, ln_13049, ln_13050, ln_13051, ln_13052, ln_13053, ln_13054, ln_13055, ln_13056, ln_13057, ln_13058, ln_13059, ln_13060, ln_13061, ln_13062, ln_13063, ln_13064, ln_13065, ln_13066, ln_13067, gd_t, w_eq, yl, q2, mo', ml, z3, m1', x2]
      · have oe2 : ¬ obj g (N 13055 (9 * g + q)) = 4000 + (12 * g + j) := fun y => ow (oe.mp y)
        have mo' : ∀ C'' A'', p_X11_owns (mk C'' N A'') 12000 g j q = some 0 := fun C'' A'' => by rw [mo, if_neg (fun z => ow z.2)]
        refine step C N A jj LKp.rf (fun b _ => by rw [eq9] at b; exact absurd b.2 ow) ?_ (fun C'' A'' => ?_)
        · unfold b_X0_deliverNext_46
          simp (disch := omega) only [aok, up_s, true_and, false_and, and_true, and_false, if_true, if_false, ↓reduceIte, ↓Option.bind_some, Int.reduceEq, Int.reduceNe, Int.reduceLT, Int.reduceLE, gd_true, gd_false, bind_b, q10, eq_self, reduceCtorEq, not_true_eq_false, not_false_eq_true, ne_eq, cr_11000, cr_15000, cr_16000, cr_20000, cr_20001, cr_21000, cr_22000, cr_25000, cr_1000, cr_2000, cr_3000, cr_3003, cr_3006, cr_4000, cr_5000, cr_6000, cr_7000, cr_8000, cr_9000, cr_10000, cr_13500, cr_17000, cr_17100, cr_17103, cr_17106, cr_19000, cr_20100, cr_21100, cr_23000, cr_24000, cw_11000, cw_15000, cw_16000, cw_20000, cw_20001, cw_21000, cw_22000, cw_25000, cw_1000, cw_2000, cw_3000, cw_3003, cw_3006, cw_4000, cw_5000, cw_6000, cw_7000, cw_8000, cw_9000, cw_10000, cw_13500, cw_17000, cw_17100, cw_17103, cw_17106, cw_19000, cw_20100, cw_21100, cw_23000, cw_24000, lc_13500, lc_15000, lc_16000, lc_17000, lc_17100, lc_17103, lc_17106, lc_19000, lc_20000, lc_20001, lc_20100, lc_21000, lc_21100, lc_22000, lc_23000, lc_24000, lc_25000, gd_t, w_eq, o0, nl, m4, q1, sa, sh1, oe2, if_neg]
        · unfold b_X11_read_110
          simp (disch := omega) only [aok, up_s, true_and, false_and, and_true, and_false, if_true, if_false, ↓reduceIte, ↓Option.bind_some, Int.reduceEq, Int.reduceNe, Int.reduceLT, Int.reduceLE, gd_true, gd_false, bind_b, q10, eq_self, reduceCtorEq, not_true_eq_false, not_false_eq_true, ne_eq, pt_0, pt_1, pt_2, pt_3, pt_4, pt_5, pt_6, pt_7, pt_8, pt_9, pt_10, pt_11, pt_12, pt_13, pt_14, pt_15, pt_16, pt_17, pt_18, pt_19, pt_20, pt_21, pt_22, pt_23, pt_24, pt_25, pt_26, pt_27, pt_28, pt_29, pt_30, pt_31, pt_32, pt_33, pt_34, pt_35, pt_36, pt_37, pt_38, pt_39, pt_40, pt_41, pt_42, pt_43, pt_44, pt_45, pt_46, pt_47, pt_48, pt_49, pt_50, pt_51, pt_52, pt_53, pt_54, pt_55, pt_56, pt_57, pt_58, pt_59, pt_60, pt_61, pt_62, pt_63, pt_64, pt_65, pt_66, pt_67, pa_13005, pw_13005, pa_13006, pw_13006, pa_13007, pw_13007, pa_14008, pw_14008, pa_13009, pw_13009, pa_13010, pw_13010, pa_13012, pw_13012, pa_13013, pw_13013, pa_13014, pw_13014, pa_13015, pw_13015, pa_13016, pw_13016, pa_13017, pw_13017, pa_13018, pw_13018, pa_13020, pw_13020, pa_13021, pw_13021, pa_13022, pw_13022, pa_13023, pw_13023, pa_13024, pw_13024, pa_13025, pw_13025, pa_13026, pw_13026, pa_13027, pw_13027, pa_13028, pw_13028, pa_13029, pw_13029, pa_13031, pw_13031, pa_13032, pw_13032, pa_13033, pw_13033, pa_14034, pw_14034, pa_13035, pw_13035, pa_13036, pw_13036, pa_13037, pw_13037, pa_13038, pw_13038, pa_13039, pw_13039, pa_13042, pw_13042, pa_13043, pw_13043, pa_13044, pw_13044, pa_13045, pw_13045, pa_13046, pw_13046, pa_13047, pw_13047, pa_13048, pw_13048, pa_13049, pw_13049, pa_13050, pw_13050, pa_13051, pw_13051, pa_13052, pw_13052, pa_13053, pw_13053, pa_13054, pw_13054, pa_13055, pw_13055, pa_13056, pw_13056, pa_13057, pw_13057, pa_13058, pw_13058, pa_13059, pw_13059, pa_13060, pw_13060, pa_13061, pw_13061, pa_13062, pw_13062, pa_13063, pw_13063, pa_13064, pw_13064, pa_13065, pw_13065, pa_13066, pw_13066, pa_13067, pw_13067, ps_0, ps_1, ps_2, ps_3, ps_4, ps_11, ps_19, ps_30, ps_40, ps_41, ln_13005, ln_13006, ln_13007, ln_14008, ln_13009, ln_13010, ln_13012, ln_13013, ln_13014, ln_13015, ln_13016, ln_13017, ln_13018, ln_13020, ln_13021, ln_13022, ln_13023, ln_13024, ln_13025, ln_13026, ln_13027, ln_13028, ln_13029, ln_13031, ln_13032, ln_13033, ln_14034, ln_13035, ln_13036, ln_13037, ln_13038, ln_13039, ln_13042, ln_13043, ln_13044, ln_13045, ln_13046, ln_13047, ln_13048, ln_13049, ln_13050, ln_13051, ln_13052, ln_13053, ln_13054, ln_13055, ln_13056, ln_13057, ln_13058, ln_13059, ln_13060, ln_13061, ln_13062, ln_13063, ln_13064, ln_13065, ln_13066, ln_13067, gd_t, w_eq, yl, q2, mo']
    · rw [if_neg r] at sa
      have mo' : ∀ C'' A'', p_X11_owns (mk C'' N A'') 12000 g j q = some 0 := fun C'' A'' => by rw [mo, if_neg (fun z => r z.1)]
      refine step C N A jj LKp.rf (fun b _ => by rw [eq9] at b; exact absurd b.1 r) ?_ (fun C'' A'' => ?_)
      · unfold b_X0_deliverNext_46
        simp (disch := omega) only [aok, up_s, true_and, false_and, and_true, and_false, if_true, if_false, ↓reduceIte, ↓Option.bind_some, Int.reduceEq, Int.reduceNe, Int.reduceLT, Int.reduceLE, gd_true, gd_false, bind_b, q10, eq_self, reduceCtorEq, not_true_eq_false, not_false_eq_true, ne_eq, cr_11000, cr_15000, cr_16000, cr_20000, cr_20001, cr_21000, cr_22000, cr_25000, cr_1000, cr_2000, cr_3000, cr_3003, cr_3006, cr_4000, cr_5000, cr_6000, cr_7000, cr_8000, cr_9000, cr_10000, cr_13500, cr_17000, cr_17100, cr_17103, cr_17106, cr_19000, cr_20100, cr_21100, cr_23000, cr_24000, cw_11000, cw_15000, cw_16000, cw_20000, cw_20001, cw_21000, cw_22000, cw_25000, cw_1000, cw_2000, cw_3000, cw_3003, cw_3006, cw_4000, cw_5000, cw_6000, cw_7000, cw_8000, cw_9000, cw_10000, cw_13500, cw_17000, cw_17100, cw_17103, cw_17106, cw_19000, cw_20100, cw_21100, cw_23000, cw_24000, lc_13500, lc_15000, lc_16000, lc_17000, lc_17100, lc_17103, lc_17106, lc_19000, lc_20000, lc_20001, lc_20100, lc_21000, lc_21100, lc_22000, lc_23000, lc_24000, lc_25000, gd_t, w_eq, o0, nl, m4, q1, sa, if_neg]
      · unfold b_X11_read_110
        simp (disch := omega) only [aok, up_s, true_and, false_and, and_true, and_false, if_true, if_false, ↓reduceIte, ↓Option.bind_some, Int.reduceEq, Int.reduceNe, Int.reduceLT, Int.reduceLE, gd_true, gd_false, bind_b, q10, eq_self, reduceCtorEq, not_true_eq_false, not_false_eq_true, ne_eq, pt_0, pt_1, pt_2, pt_3, pt_4, pt_5, pt_6, pt_7, pt_8, pt_9, pt_10, pt_11, pt_12, pt_13, pt_14, pt_15, pt_16, pt_17, pt_18, pt_19, pt_20, pt_21, pt_22, pt_23, pt_24, pt_25, pt_26, pt_27, pt_28, pt_29, pt_30, pt_31, pt_32, pt_33, pt_34, pt_35, pt_36, pt_37, pt_38, pt_39, pt_40, pt_41, pt_42, pt_43, pt_44, pt_45, pt_46, pt_47, pt_48, pt_49, pt_50, pt_51, pt_52, pt_53, pt_54, pt_55, pt_56, pt_57, pt_58, pt_59, pt_60, pt_61, pt_62, pt_63, pt_64, pt_65, pt_66, pt_67, pa_13005, pw_13005, pa_13006, pw_13006, pa_13007, pw_13007, pa_14008, pw_14008, pa_13009, pw_13009, pa_13010, pw_13010, pa_13012, pw_13012, pa_13013, pw_13013, pa_13014, pw_13014, pa_13015, pw_13015, pa_13016, pw_13016, pa_13017, pw_13017, pa_13018, pw_13018, pa_13020, pw_13020, pa_13021, pw_13021, pa_13022, pw_13022, pa_13023, pw_13023, pa_13024, pw_13024, pa_13025, pw_13025, pa_13026, pw_13026, pa_13027, pw_13027, pa_13028, pw_13028, pa_13029, pw_13029, pa_13031, pw_13031, pa_13032, pw_13032, pa_13033, pw_13033, pa_14034, pw_14034, pa_13035, pw_13035, pa_13036, pw_13036, pa_13037, pw_13037, pa_13038, pw_13038, pa_13039, pw_13039, pa_13042, pw_13042, pa_13043, pw_13043, pa_13044, pw_13044, pa_13045, pw_13045, pa_13046, pw_13046, pa_13047, pw_13047, pa_13048, pw_13048, pa_13049, pw_13049, pa_13050, pw_13050, pa_13051, pw_13051, pa_13052, pw_13052, pa_13053, pw_13053, pa_13054, pw_13054, pa_13055, pw_13055, pa_13056, pw_13056, pa_13057, pw_13057, pa_13058, pw_13058, pa_13059, pw_13059, pa_13060, pw_13060, pa_13061, pw_13061, pa_13062, pw_13062, pa_13063, pw_13063, pa_13064, pw_13064, pa_13065, pw_13065, pa_13066, pw_13066, pa_13067, pw_13067, ps_0, ps_1, ps_2, ps_3, ps_4, ps_11, ps_19, ps_30, ps_40, ps_41, ln_13005, ln_13006, ln_13007, ln_14008, ln_13009, ln_13010, ln_13012, ln_13013, ln_13014, ln_13015, ln_13016, ln_13017, ln_13018, ln_13020, ln_13021, ln_13022, ln_13023, ln_13024, ln_13025, ln_13026, ln_13027, ln_13028, ln_13029, ln_13031, ln_13032, ln_13033, ln_14034, ln_13035, ln_13036, ln_13037, ln_13038, ln_13039, ln_13042, ln_13043, ln_13044, ln_13045, ln_13046, ln_13047, ln_13048, ln_13049, ln_13050, ln_13051, ln_13052, ln_13053, ln_13054, ln_13055, ln_13056, ln_13057, ln_13058, ln_13059, ln_13060, ln_13061, ln_13062, ln_13063, ln_13064, ln_13065, ln_13066, ln_13067, gd_t, w_eq, yl, q2, mo']
end READ
