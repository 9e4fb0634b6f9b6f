/-! PURE PART, 45: in a tick: the class's loop over partitions; delayed messages -/
theorem c_tickLoop {C : Cd} {N N0 : Nd} {A : Ad} (j : JT N) (c : CC C N) : Ok (lp (b_X10_passTick_24 9 21000 11000) 1000 (0, mk C N0 A)) (Rs C N0 A (tkA N)) := by
  have s2 := j.1.1.s.2.1
  refine lp_for (fun i s => ∃ N1 M, s = (i, M) ∧ N1 = fo (fun p N => tkP N p) 0 (min i ((N 12000 11))).toNat N ∧ JT N1 ∧ N1 12000 11 = (N 12000 11) ∧ Rs C N0 A N1 M) 0 9 ?_ ?_ (by omega) ⟨N, _, rfl, by rw [show (min 0 ((N 12000 11))).toNat = 0 by omega]; rfl, j, rfl, Rs.rf c⟩
  · rintro i s i1 i2 ⟨N1, M, rfl, hf, j1, e1, C1, rfl, c1, k1⟩
    have q := c1.part i1 (by omega)
    rw [e1] at q
    unfold b_X10_passTick_24
    by_cases e0 : i < (N 12000 11)
    · have hf2 : tkP N1 i = fo (fun p N => tkP N p) 0 (min (i + 1) ((N 12000 11))).toNat N := by
        rw [show (min (i + 1) ((N 12000 11))).toNat = (min i ((N 12000 11))).toNat + 1 by omega, fo_S, ← hf, show (0 : Int) + ((min i ((N 12000 11))).toNat : Int) = i by omega]
      simp (disch := omega) only [aok, up_s, true_and, false_and, and_true, and_false, if_true, if_false, ↓reduceIte, ↓Option.bind_some, Int.reduceEq, Int.reduceNe, Int.reduceLT, Int.reduceLE, gd_true, gd_false, bind_b, q10, eq_self, reduceCtorEq, not_true_eq_false, not_false_eq_true, ne_eq, cr_11000, cr_15000, cr_16000, cr_20000, cr_20001, cr_21000, cr_22000, cr_25000, cr_1000, cr_2000, cr_3000, cr_3003, cr_3006, cr_4000, cr_5000, cr_6000, cr_7000, cr_8000, cr_9000, cr_10000, cr_13500, cr_17000, cr_17100, cr_17103, cr_17106, cr_19000, cr_20100, cr_21100, cr_23000, cr_24000, cw_11000, cw_15000, cw_16000, cw_20000, cw_20001, cw_21000, cw_22000, cw_25000, cw_1000, cw_2000, cw_3000, cw_3003, cw_3006, cw_4000, cw_5000, cw_6000, cw_7000, cw_8000, cw_9000, cw_10000, cw_13500, cw_17000, cw_17100, cw_17103, cw_17106, cw_19000, cw_20100, cw_21100, cw_23000, cw_24000, lc_13500, lc_15000, lc_16000, lc_17000, lc_17100, lc_17103, lc_17106, lc_19000, lc_20000, lc_20001, lc_20100, lc_21000, lc_21100, lc_22000, lc_23000, lc_24000, lc_25000, gd_t, w_eq, q, e0, if_pos, if_neg]
      refine Ok.bnd (c_copyAll j1.1.1 c1 i1 (by omega)) ?_
      rintro M2 ⟨C2, rfl, c2, k2⟩
      have j2 := j1.coP i1 (by omega)
      have e2 : (coP N1 i) 12000 11 = (N 12000 11) := (congrFun (coP_ar (by decide)) _).trans e1
      refine Ok.bnd (c_checkInSync j2.1.1 j2.1.2.1 c2 i1 (by omega)) ?_
      rintro M3 ⟨C3, rfl, c3, k3⟩
      have j3 := j2.fiP i1 (by omega)
      have e3 : (fiP (coP N1 i) i) 12000 11 = (N 12000 11) := (congrFun (fiP_ar (by decide) (by decide)) _).trans e2
      refine Ok.bnd (c_removeOld j3.1 c3 i1 (by omega)) ?_
      rintro M4 ⟨C4, rfl, c4, k4⟩
      exact Ok.ret ⟨tkP N1 i, _, rfl, hf2, j1.tkP i1 (by omega), tkP_sc.trans e1, C4, rfl, c4, ((k1.tr k2).tr k3).tr k4⟩
    · simp (disch := omega) only [aok, up_s, true_and, false_and, and_true, and_false, if_true, if_false, ↓reduceIte, ↓Option.bind_some, Int.reduceEq, Int.reduceNe, Int.reduceLT, Int.reduceLE, gd_true, gd_false, bind_b, q10, eq_self, reduceCtorEq, not_true_eq_false, not_false_eq_true, ne_eq, cr_11000, cr_15000, cr_16000, cr_20000, cr_20001, cr_21000, cr_22000, cr_25000, cr_1000, cr_2000, cr_3000, cr_3003, cr_3006, cr_4000, cr_5000, cr_6000, cr_7000, cr_8000, cr_9000, cr_10000, cr_13500, cr_17000, cr_17100, cr_17103, cr_17106, cr_19000, cr_20100, cr_21100, cr_23000, cr_24000, cw_11000, cw_15000, cw_16000, cw_20000, cw_20001, cw_21000, cw_22000, cw_25000, cw_1000, cw_2000, cw_3000, cw_3003, cw_3006, cw_4000, cw_5000, cw_6000, cw_7000, cw_8000, cw_9000, cw_10000, cw_13500, cw_17000, cw_17100, cw_17103, cw_17106, cw_19000, cw_20100, cw_21100, cw_23000, cw_24000, lc_13500, lc_15000, lc_16000, lc_17000, lc_17100, lc_17103, lc_17106, lc_19000, lc_20000, lc_20001, lc_20100, lc_21000, lc_21100, lc_22000, lc_23000, lc_24000, lc_25000, gd_t, w_eq, q, e0, if_pos, if_neg]
      refine ⟨_, rfl, N1, _, rfl, ?_, j1, e1, C1, rfl, c1, k1⟩
      rw [hf, show (min (i + 1) ((N 12000 11))).toNat = (min i ((N 12000 11))).toNat by omega]
  · rintro s ⟨N1, M, rfl, hf, -, -, hr⟩
    unfold b_X10_passTick_24
    simp (disch := omega) only [if_neg]
    refine ⟨_, rfl, ?_⟩
    rw [show (min ((0 : Int) + ((9 : Nat) : Int)) ((N 12000 11))).toNat = ((N 12000 11)).toNat by omega] at hf
    unfold tkA
    rw [← hf]
    exact hr
theorem coA_sc {N : Nd} : (coA N) 12000 11 = (N 12000 11) := fo_inv (g := fun p N => coP N p) (i0 := 0) (n := ((N 12000 11)).toNat) (a := N) (fun _ s => s 12000 11 = (N 12000 11)) rfl (fun i s _ _ h => (congrFun (coP_ar (by decide)) _).trans h)
theorem JT.coA {N : Nd} (j : JT N) : JT (coA N) := by
  have s2 := j.1.1.s.2.1
  exact (fo_inv (g := fun p N => Jvm.Pilot.@@N@@.coP N p) (i0 := 0) (n := ((N 12000 11)).toNat) (a := N) (fun _ s => JT s ∧ s 12000 11 = (N 12000 11)) ⟨j, rfl⟩ (fun i s i1 i2 h => ⟨h.1.coP i1 (by rw [h.2]; omega), (congrFun (coP_ar (by decide)) _).trans h.2⟩)).1
theorem JT.fiA {N : Nd} (j : JT N) : JT (fiA N) := by
  have s2 := j.1.1.s.2.1
  exact (fo_inv (g := fun p N => Jvm.Pilot.@@N@@.fiP N p) (i0 := 0) (n := ((N 12000 11)).toNat) (a := N) (fun _ s => JT s ∧ s 12000 11 = (N 12000 11)) ⟨j, rfl⟩ (fun i s i1 i2 h => ⟨h.1.fiP i1 (by rw [h.2]; omega), (congrFun (fiP_ar (by decide) (by decide)) _).trans h.2⟩)).1
/-! delayed messages -/
theorem so_mono2 {N N' : Nd} {q : Int} (h0 : 0 ≤ hw N q) (h1 : ∀ k, 0 ≤ k → k < hw N q → opn N' q k = opn N q k) (h2 : hw N q ≤ hw N' q) : so N q ≤ so N' q := by
  have b1 := @ff_b (opn N q) (hw N q).toNat 0
  have b2 := @ff_b (opn N' q) (hw N' q).toNat 0
  unfold so
  by_cases e : ff (opn N' q) (hw N' q).toNat 0 < ff (opn N q) (hw N q).toNat 0
  · have n1 := ff_no b2.1 e
    have y1 := @ff_yes (opn N' q) (hw N' q).toNat 0 (by omega)
    rw [h1 _ b2.1 (by omega), n1] at y1; cases y1
  · omega
theorem eol_ap {N : Nd} {m q : Int} (g : RG N) (h1 : 0 ≤ m) (h2 : m < (N 12000 19)) (hl : 0 ≤ N 13013 (N 13021 m)) (q1 : 0 ≤ q) (q2 : q < (N 12000 11)) : eol (apN N m) q = if q = N 13021 m then eol N q + 1 else eol N q := by
  obtain ⟨-, a2, -⟩ := g.m m h1 h2
  have lb := RP.lead g.t g.p a2.1 a2.2
  have lb2 := RP.lead g.t g.p q1 q2
  have lw := @low_b (N 13014 q)
  have e1 : apN N m 13013 q = N 13013 q := rfl
  have e2 : apN N m 13014 q = N 13014 q := rfl
  have e3 : ∀ k, apN N m 13016 k = if k = 3 * N 13021 m + N 13013 (N 13021 m) then eol N (N 13021 m) + 1 else N 13016 k := fun k => by
    unfold apN
    simp only [up_s, up_s, true_and, false_and, and_true, and_false, if_true, if_false, ↓reduceIte, ↓Option.bind_some, Int.reduceEq, Int.reduceNe, Int.reduceLT, Int.reduceLE, gd_true, gd_false, bind_b, q10, eq_self, reduceCtorEq, not_true_eq_false, not_false_eq_true, ne_eq]
  by_cases e : q = N 13021 m
  · subst e
    rw [if_pos rfl, eol_lead (N := apN N m) hl]
    rw [e1, e3, if_pos rfl]
  · rw [if_neg e]
    unfold eol
    rw [e1, e2, e3, e3]
    by_cases c : N 13013 q < 0
    · rw [if_pos c, if_pos c, if_neg (by omega)]
    · rw [if_neg c, if_neg c, if_neg (by omega)]
theorem hw_ap {N : Nd} {m q : Int} (g : RG N) (en : EN N) (h1 : 0 ≤ m) (h2 : m < (N 12000 19)) (hl : 0 ≤ N 13013 (N 13021 m)) (q1 : 0 ≤ q) (q2 : q < (N 12000 11)) : hw N q ≤ hw (apN N m) q := by
  have e3 : ∀ k, apN N m 13016 k = if k = 3 * N 13021 m + N 13013 (N 13021 m) then eol N (N 13021 m) + 1 else N 13016 k := fun k => by
    unfold apN
    simp only [up_s, up_s, true_and, false_and, and_true, and_false, if_true, if_false, ↓reduceIte, ↓Option.bind_some, Int.reduceEq, Int.reduceNe, Int.reduceLT, Int.reduceLE, gd_true, gd_false, bind_b, q10, eq_self, reduceCtorEq, not_true_eq_false, not_false_eq_true, ne_eq]
  refine hw_ge (hw_b g.e q1 q2).2 fun k k1 k2 hk => ?_
  have a1 := hw_le (N := N) k1 k2 hk
  rw [e3]
  split
  · rename_i e
    have := eol_lead hl
    rw [e] at a1
    omega
  · exact a1
/-- to append keeps what holds of logs -/
theorem JT.apN {N : Nd} {m : Int} (j : JT N) (h1 : 0 ≤ m) (h2 : m < (N 12000 19)) (hl : 0 ≤ N 13013 (N 13021 m)) (he : eol N (N 13021 m) < 60) (hs : N 13024 m = 0 ∨ N 13024 m = 2) : JT (apN N m) := by
  obtain ⟨⟨g, l, lm, fl, fi⟩, en⟩ := j
  obtain ⟨-, a2, -⟩ := g.m m h1 h2
  have eb := eol_b g.t g.p g.e a2.1 a2.2
  have g' := g.apN h1 h2 he
  have lg : ∀ k, Jvm.Pilot.@@N@@.apN N m 13018 k = if k = 60 * N 13021 m + eol N (N 13021 m) then m else N 13018 k := fun k => by
    unfold Jvm.Pilot.@@N@@.apN
    simp only [up_s, up_s, true_and, false_and, and_true, and_false, if_true, if_false, ↓reduceIte, ↓Option.bind_some, Int.reduceEq, Int.reduceNe, Int.reduceLT, Int.reduceLE, gd_true, gd_false, bind_b, q10, eq_self, reduceCtorEq, not_true_eq_false, not_false_eq_true, ne_eq]
  have st : ∀ k, Jvm.Pilot.@@N@@.apN N m 13024 k = if k = m then 1 else N 13024 k := fun k => by
    unfold Jvm.Pilot.@@N@@.apN
    simp only [up_s, up_s, true_and, false_and, and_true, and_false, if_true, if_false, ↓reduceIte, ↓Option.bind_some, Int.reduceEq, Int.reduceNe, Int.reduceLT, Int.reduceLE, gd_true, gd_false, bind_b, q10, eq_self, reduceCtorEq, not_true_eq_false, not_false_eq_true, ne_eq]
  have os : ∀ k, Jvm.Pilot.@@N@@.apN N m 13026 k = if k = m then eol N (N 13021 m) else N 13026 k := fun k => by
    unfold Jvm.Pilot.@@N@@.apN
    simp only [up_s, up_s, true_and, false_and, and_true, and_false, if_true, if_false, ↓reduceIte, ↓Option.bind_some, Int.reduceEq, Int.reduceNe, Int.reduceLT, Int.reduceLE, gd_true, gd_false, bind_b, q10, eq_self, reduceCtorEq, not_true_eq_false, not_false_eq_true, ne_eq]
  have ot : ∀ q k, 0 ≤ q → q < (N 12000 11) → 0 ≤ k → k < 60 → 0 ≤ N 13018 (60 * q + k) → N 13018 (60 * q + k) ≠ m := fun q k q1 q2 k1 k2 k3 k4 => by
    have := (lm q k q1 q2 k1 k2 k3).2.2
    rw [k4] at this
    omega
  refine ⟨⟨g', l, fun q k q1 q2 k1 k2 => ?_, fun q k q1 q2 k1 k2 => ?_, fun q q1 q2 => ?_⟩, fun q r q1 q2 r1 r2 => ?_⟩
  · have q2' : q < (N 12000 11) := q2
    show 0 ≤ Jvm.Pilot.@@N@@.apN N m 13018 (60 * q + k) → N 13021 (Jvm.Pilot.@@N@@.apN N m 13018 (60 * q + k)) = q ∧ Jvm.Pilot.@@N@@.apN N m 13026 (Jvm.Pilot.@@N@@.apN N m 13018 (60 * q + k)) = k ∧ (Jvm.Pilot.@@N@@.apN N m 13024 (Jvm.Pilot.@@N@@.apN N m 13018 (60 * q + k)) = 1 ∨ Jvm.Pilot.@@N@@.apN N m 13024 (Jvm.Pilot.@@N@@.apN N m 13018 (60 * q + k)) = 3)
    rw [lg, st, os]
    by_cases e : 60 * q + k = 60 * N 13021 m + eol N (N 13021 m)
    · have e2 : q = N 13021 m := by omega
      have e3 : k = eol N (N 13021 m) := by omega
      rw [if_pos e, if_pos rfl, if_pos rfl]
      exact fun _ => ⟨e2.symm, e3.symm, Or.inl rfl⟩
    · rw [if_neg e]
      intro k3
      have := ot q k q1 q2' k1 k2 k3
      rw [if_neg this, if_neg this]
      exact lm q k q1 q2' k1 k2 k3
  · have q2' : q < (N 12000 11) := q2
    rw [eol_ap g h1 h2 hl q1 q2', lg]
    have := fl q k q1 q2' k1 k2
    by_cases e : q = N 13021 m
    · subst e
      rw [if_pos rfl]
      by_cases e3 : k = eol N (N 13021 m)
      · rw [if_pos (by omega)]; omega
      · rw [if_neg (by omega)]; omega
    · rw [if_neg e, if_neg (by omega)]; exact this
  · have q2' : q < (N 12000 11) := q2
    obtain ⟨i1, i2, i3⟩ := fi q q1 q2'
    have hwe := hw_eol g l q1 q2'
    have hwb := hw_b g.e q1 q2'
    have hs := so_mono2 (N' := Jvm.Pilot.@@N@@.apN N m) hwb.1 (fun k k1 k2 => by
      unfold opn
      rw [lg, if_neg]
      · rfl
      · intro z
        have e2 : q = N 13021 m := by omega
        subst e2
        omega) (hw_ap g en h1 h2 hl q1 q2')
    refine ⟨fun ec k k1 k2 => ?_, i2, by show N 13015 q ≤ _; omega⟩
    show 0 ≤ Jvm.Pilot.@@N@@.apN N m 13018 (60 * q + k) → (k < N 13015 q ↔ Jvm.Pilot.@@N@@.apN N m 13024 (Jvm.Pilot.@@N@@.apN N m 13018 (60 * q + k)) = 3)
    rw [lg, st]
    by_cases e : 60 * q + k = 60 * N 13021 m + eol N (N 13021 m)
    · have e2 : q = N 13021 m := by omega
      have e3 : k = eol N q := by rw [e2] at e ⊢; omega
      have sb := so_b g.e q1 q2'
      rw [if_pos e, if_pos rfl]
      intro _
      constructor
      · intro z; omega
      · intro z; omega
    · rw [if_neg e]
      intro k3
      rw [if_neg (ot q k q1 q2' k1 k2 k3)]
      exact i1 ec k k1 k2 k3
  · have q2' : q < (N 12000 11) := q2
    have e3 : Jvm.Pilot.@@N@@.apN N m 13016 (3 * q + r) = if 3 * q + r = 3 * N 13021 m + N 13013 (N 13021 m) then eol N (N 13021 m) + 1 else N 13016 (3 * q + r) := by
      unfold Jvm.Pilot.@@N@@.apN
      simp only [up_s, up_s, true_and, false_and, and_true, and_false, if_true, if_false, ↓reduceIte, ↓Option.bind_some, Int.reduceEq, Int.reduceNe, Int.reduceLT, Int.reduceLE, gd_true, gd_false, bind_b, q10, eq_self, reduceCtorEq, not_true_eq_false, not_false_eq_true, ne_eq]
    have lb := RP.lead g.t g.p a2.1 a2.2
    have a1 := en q r q1 q2' r1 r2
    rw [eol_ap g h1 h2 hl q1 q2', e3]
    by_cases e : q = N 13021 m
    · subst e
      rw [if_pos rfl]
      split <;> omega
    · rw [if_neg e, if_neg (by omega)]; exact a1
