/-! PURE PART, 50: brokers fail, are restored, fetch: what holds of messages and logs -/
theorem JN.cut {N N2 N' : Nd} {p s l e : Int} (j : JN N) (h1 : 0 ≤ p) (h2 : p < (N 12000 11)) (l1 : 0 ≤ l) (l2 : l < 3) (hs : ∀ k, 0 ≤ k → k < 3 → bt s k = true → bt (N 13014 p) k = true) (hl : bt s l = true) (hN2 : N2 = up (up N 13014 p s) 13013 p l) (he : e = N 13016 (3 * p + l)) (hN' : N' = lwN (ct2 N2 p e).2 p e) (g2 : RG N2) (g' : RG N') (li' : LI N') : JN N' ∧ Mo N N' := by
  have bl := hs l l1 l2 hl
  have er := (j.g.e p l h1 h2 l1 l2).1
  have een := j.en p l h1 h2 l1 l2
  have hwl := hw_le l1 l2 bl
  have a2 : ∀ a, a ≠ 13014 → a ≠ 13013 → N2 a = N a := fun a z1 z2 => by
    funext i; rw [hN2, up_s, if_neg (fun q => z2 q.1), up_s, if_neg (fun q => z1 q.1)]
  have sp : CTI N2 p e 60 (ct2 N2 p e).2 := ct2_spec g2 (by unfold SL; rw [a2 12000 (by decide) (by decide), a2 13024 (by decide) (by decide), a2 13026 (by decide) (by decide), a2 13018 (by decide) (by decide), a2 13021 (by decide) (by decide)]; exact j.sl) (j.lm.ar (a2 _ (by decide) (by decide)) (a2 _ (by decide) (by decide)) (a2 _ (by decide) (by decide)) (a2 _ (by decide) (by decide)) (a2 _ (by decide) (by decide))) (by unfold OT; rw [a2 12000 (by decide) (by decide), a2 13025 (by decide) (by decide), a2 13029 (by decide) (by decide), a2 13033 (by decide) (by decide), a2 13020 (by decide) (by decide)]; exact j.ot) (by unfold XS; rw [a2 12000 (by decide) (by decide), a2 13025 (by decide) (by decide), a2 13029 (by decide) (by decide), a2 13033 (by decide) (by decide), a2 13020 (by decide) (by decide), a2 14034 (by decide) (by decide)]; exact j.xs) (by rw [a2 12000 (by decide) (by decide), a2 13025 (by decide) (by decide), a2 13029 (by decide) (by decide)]; exact fun m m1 m2 => (j.ms m m1 m2).2.2.1) h1 (by rw [a2 12000 (by decide) (by decide)]; exact h2) (by omega) (by omega)
  obtain ⟨k1, k2, k3, k4⟩ := sp
  generalize hX : (ct2 N2 p e).2 = X at k1 k2 k3 k4 hN'
  have kx : ∀ a, a ≠ 13016 → N' a = X a := fun a z => by funext i; rw [hN']; unfold lwN; rw [ra_s, if_neg z]
  have ka : ∀ a, a ≠ 13018 ∧ a ≠ 13024 ∧ a ≠ 13026 ∧ a ≠ 13025 ∧ a ≠ 14034 → a ≠ 13016 → a ≠ 13014 → a ≠ 13013 → N' a = N a := fun a z z1 z2 z3 => (kx a z1).trans ((k1 a z).trans (a2 a z2 z3))
  have e0 : N' 12000 = N 12000 := ka _ (by decide) (by decide) (by decide) (by decide)
  have eI : N' 13029 = N 13029 := ka _ (by decide) (by decide) (by decide) (by decide)
  have eG : N' 13033 = N 13033 := ka _ (by decide) (by decide) (by decide) (by decide)
  have eP : N' 13020 = N 13020 := ka _ (by decide) (by decide) (by decide) (by decide)
  have eQ : N' 13021 = N 13021 := ka _ (by decide) (by decide) (by decide) (by decide)
  have eK : N' 13022 = N 13022 := ka _ (by decide) (by decide) (by decide) (by decide)
  have eD : N' 13028 = N 13028 := ka _ (by decide) (by decide) (by decide) (by decide)
  have eT : N' 13027 = N 13027 := ka _ (by decide) (by decide) (by decide) (by decide)
  have eF : N' 13015 = N 13015 := ka _ (by decide) (by decide) (by decide) (by decide)
  have eZ : N' 13012 = N 13012 := ka _ (by decide) (by decide) (by decide) (by decide)
  have eC : N' 14008 = N 14008 := ka _ (by decide) (by decide) (by decide) (by decide)
  have in2 : ∀ m, inr N2 p e 60 m ↔ inr N p e 60 m := fun m => by unfold inr; rw [a2 13024 (by decide) (by decide), a2 13026 (by decide) (by decide), a2 13021 (by decide) (by decide)]
  have lg : ∀ q k, 0 ≤ q → q < (N 12000 11) → 0 ≤ k → k < 60 → N' 13018 (60 * q + k) = if q = p ∧ e ≤ k then -1 else N 13018 (60 * q + k) := fun q k q1 q2 b c => by
    have := k2 q k q1 (by rw [a2 12000 (by decide) (by decide)]; exact q2) b c
    rw [kx _ (by decide), this, a2 13018 (by decide) (by decide)]
    by_cases z : q = p ∧ e ≤ k
    · rw [if_pos z, if_pos ⟨z.1, z.2, c⟩]
    · rw [if_neg z, if_neg (fun y => z ⟨y.1, y.2.1⟩)]
  have mm : ∀ m, 0 ≤ m → m < (N 12000 19) → N' 13024 m = (if inr N p e 60 m then 2 else N 13024 m) ∧ N' 13026 m = (if inr N p e 60 m then -1 else N 13026 m) ∧ (N' 13025 m = N 13025 m ∨ (N' 13025 m = 3 ∧ N 13025 m = 1)) ∧ (inr N p e 60 m → N' 13025 m ≠ 1) := fun m m1 m2 => by
    have := k3 m m1 (by rw [a2 12000 (by decide) (by decide)]; exact m2)
    simp only [in2] at this
    rw [a2 13024 (by decide) (by decide), a2 13026 (by decide) (by decide), a2 13025 (by decide) (by decide)] at this
    rw [kx _ (by decide), kx _ (by decide), kx _ (by decide)]
    exact this
  have re : ∀ i, N' 13016 i = if 3 * p ≤ i ∧ i < 3 * p + 3 ∧ e < N 13016 i then e else N 13016 i := fun i => by
    rw [hN']
    show (if 3 * p ≤ i ∧ i < 3 * p + 3 ∧ e < X 13016 i then e else X 13016 i) = _
    rw [k1 13016 (by decide), a2 13016 (by decide) (by decide)]
  have sy : ∀ q, N' 13014 q = if q = p then s else N 13014 q := fun q => by
    rw [kx _ (by decide), k1 _ (by decide), hN2]; simp only [up_s, up_s, true_and, false_and, and_true, and_false, if_true, if_false, ↓reduceIte, ↓Option.bind_some, Int.reduceEq, Int.reduceNe, Int.reduceLT, Int.reduceLE, gd_true, gd_false, bind_b, q10, eq_self, reduceCtorEq, not_true_eq_false, not_false_eq_true, ne_eq]
  have ld : ∀ q, N' 13013 q = if q = p then l else N 13013 q := fun q => by
    rw [kx _ (by decide), k1 _ (by decide), hN2]; simp only [up_s, up_s, true_and, false_and, and_true, and_false, if_true, if_false, ↓reduceIte, ↓Option.bind_some, Int.reduceEq, Int.reduceNe, Int.reduceLT, Int.reduceLE, gd_true, gd_false, bind_b, q10, eq_self, reduceCtorEq, not_true_eq_false, not_false_eq_true, ne_eq]
  have eo : ∀ q, 0 ≤ q → q < (N 12000 11) → eol N' q = if q = p then e else eol N q := fun q q1 q2 => by
    have lb := RP.lead j.g.t j.g.p q1 q2
    have lw := @low_b (N 13014 q)
    unfold eol
    rw [ld, sy, re, re]
    by_cases z : q = p
    · subst z
      simp only [eq_self, if_true, if_false, ↓reduceIte]
      rw [if_neg (show ¬ l < 0 by omega), ← he, if_neg (by omega)]
    · simp only [z, if_false, ↓reduceIte]
      by_cases y : N 13013 q < 0
      · rw [if_pos y, if_pos y, if_neg (by omega)]
      · rw [if_neg y, if_neg y, if_neg (by omega)]
  have hh : ∀ q, 0 ≤ q → q < (N 12000 11) → hw N q ≤ hw N' q := fun q q1 q2 => hw_ge (hw_b j.g.e q1 q2).2 fun r r1 r2 hr => by
    rw [sy] at hr
    rw [re]
    by_cases z : q = p
    · subst z
      rw [if_pos rfl] at hr
      have := hw_le r1 r2 (hs r r1 r2 hr)
      split <;> omega
    · rw [if_neg z] at hr
      have := hw_le r1 r2 hr
      rw [if_neg (by omega)]; exact this
  have nin : ∀ m, 0 ≤ m → m < (N 12000 19) → N 13026 m < hw N (N 13021 m) → ¬ inr N p e 60 m := fun m m1 m2 m3 z => by
    rw [z.2.1] at m3
    have := z.2.2.1
    omega
  have hs' : ∀ q, 0 ≤ q → q < (N 12000 11) → so N q ≤ so N' q := fun q q1 q2 => so_mono3 (hw_b j.g.e q1 q2).1 (fun k a b hk => by
    have hb := hw_b j.g.e q1 q2
    have l0 := lg q k q1 q2 a (by omega)
    rw [if_neg (fun z => by obtain ⟨rfl, z⟩ := z; omega)] at l0
    unfold opn at hk ⊢
    rw [l0] at hk
    have hk2 := of_decide_eq_true hk
    have lr := j.g.l q k q1 q2 a (by omega)
    rcases (mm _ hk2.1 lr.2).2.2.1 with z | z
    · exact decide_eq_true ⟨hk2.1, by rw [← z]; exact hk2.2⟩
    · omega) (hh q q1 q2)
  have sb : ∀ q, 0 ≤ q → q < (N 12000 11) → so N q ≤ hw N q := fun q q1 q2 => (so_b j.g.e q1 q2).2
  have st : ∀ q k, 0 ≤ q → q < (N 12000 11) → 0 ≤ k → k < 60 → 0 ≤ N' 13018 (60 * q + k) → N' 13018 (60 * q + k) = N 13018 (60 * q + k) ∧ 0 ≤ N 13018 (60 * q + k) ∧ N 13018 (60 * q + k) < (N 12000 19) ∧ ¬ inr N p e 60 (N 13018 (60 * q + k)) ∧ ¬ (q = p ∧ e ≤ k) := fun q k q1 q2 a b c => by
    have l0 := lg q k q1 q2 a b
    by_cases z : q = p ∧ e ≤ k
    · rw [if_pos z] at l0; omega
    · rw [if_neg z] at l0
      rw [l0] at c
      refine ⟨l0, c, (j.g.l q k q1 q2 a b).2, fun y => z ?_, z⟩
      have := j.lm q k q1 q2 a b c
      have y1 := y.2.1
      have y2 := y.2.2.1
      rw [this.1] at y1
      rw [this.2.1] at y2
      exact ⟨y1, y2⟩
  have JTn : JT N' := by
    refine ⟨⟨g', li', fun q k q1 q2 a b => ?_, fun q k q1 q2 a b => ?_, fun q q1 q2 => ?_⟩, fun q r q1 q2 a b => ?_⟩ <;> rw [e0] at q2
    · intro c
      obtain ⟨s1, s2, s3, s4, -⟩ := st q k q1 q2 a b c
      have := j.lm q k q1 q2 a b s2
      have m0 := mm _ s2 s3
      rw [s1, eQ, m0.1, m0.2.1, if_neg s4, if_neg s4]
      exact this
    · rw [eo q q1 q2, lg q k q1 q2 a b]
      have := j.fl q k q1 q2 a b
      by_cases z : q = p
      · subst z
        rw [if_pos rfl]
        by_cases z2 : e ≤ k
        · rw [if_pos ⟨rfl, z2⟩]; omega
        · rw [if_neg (fun y => z2 y.2), ← this]; omega
      · rw [if_neg z, if_neg (fun y => z y.1)]; exact this
    · obtain ⟨i1, i2, i3⟩ := j.fi q q1 q2
      rw [eZ, eC, eF]
      refine ⟨fun ec k a b c => ?_, i2, by have := hs' q q1 q2; omega⟩
      obtain ⟨s1, s2, s3, s4, -⟩ := st q k q1 q2 a b c
      rw [s1, (mm _ s2 s3).1, if_neg s4]
      exact i1 ec k a b s2
    · rw [eo q q1 q2, re]
      have := j.en q r q1 q2 a b
      by_cases z : q = p
      · subst z
        rw [if_pos rfl]
        split <;> omega
      · rw [if_neg z, if_neg (by omega)]; exact this
  have ndd : ∀ m, 0 ≤ m → m < (N 12000 19) → ndl N' m → ndl N m := fun m m1 m2 z => by
    unfold ndl at z ⊢
    rw [eD] at z
    rcases (mm m m1 m2).2.2.1 with y | y
    · rw [y] at z; exact z
    · exact absurd y.1 z.2
  refine ⟨⟨JTn, ⟨fun m m1 m2 => ?_, by unfold XU; rw [e0, eG]; exact j.xu⟩, fun m m1 m2 => ?_, fun q k q1 q2 a b c => ?_, fun q i k q1 q2 a b c d f => ?_, fun c k c1 c2 => ?_, fun m m1 m2 => ?_, ?_⟩, ⟨by rw [e0]; exact ⟨Int.le_refl _, Int.le_refl _⟩, fun q q1 q2 => ⟨hs' q q1 q2, by rw [eZ], by rw [eF]; exact Int.le_refl _⟩, fun m m1 m2 => ?_, fun m m1 m2 m3 m4 m5 => ?_⟩⟩
  · rw [e0] at m2
    rw [eI, eG, eP]
    intro z
    refine j.ot m m1 m2 ?_
    have := (mm m m1 m2).2.2.1
    omega
  · rw [e0] at m2
    obtain ⟨a, b, -⟩ := mm m m1 m2
    have x := j.sl m m1 m2
    rw [a, b, eQ]
    by_cases z : inr N p e 60 m
    · rw [if_pos z, if_pos z]; exact ⟨fun y => by omega, fun _ => rfl⟩
    · rw [if_neg z, if_neg z]
      refine ⟨fun y => ?_, x.2⟩
      have x1 := x.1 y
      have gp := (j.g.m m m1 m2).2
      refine ⟨x1.1, ?_⟩
      rw [lg _ _ gp.1.1 gp.1.2 x1.1 gp.2.2.2.2.1.2, if_neg (fun w => z ⟨y, w.1, w.2, gp.2.2.2.2.1.2⟩)]
      exact x1.2
  · rw [e0] at q2
    obtain ⟨s1, s2, -⟩ := st q k q1 q2 a b c
    have x := j.tk q k q1 q2 a b s2
    rw [s1, eT]
    refine ⟨x.1, fun i i1 i2 i3 => ?_⟩
    obtain ⟨r1, r2, -⟩ := st q i q1 q2 i1 (by omega) i3
    rw [r1]
    exact x.2 i i1 i2 r2
  · rw [e0] at q2
    obtain ⟨s1, s2, s3, -⟩ := st q i q1 q2 a (by omega) d
    obtain ⟨r1, r2, r3, -⟩ := st q k q1 q2 (by omega) c f
    rw [s1, r1, eP]
    exact fun z1 z2 z3 => j.n1 q i k q1 q2 a b c s2 r2 z1 (ndd _ s2 s3 z2) (ndd _ r2 r3 z3)
  · rw [e0] at c2
    obtain ⟨a, b, f, -⟩ := mm c c1 c2
    rw [a, eD, eQ, eP]
    intro z1 z2 z3 b1 b2 b3 b4 b5
    have gp := (j.g.m c c1 c2).2.1
    have oc : N 13025 c = 0 := by omega
    obtain ⟨s1, s2, s3, s4, s5⟩ := st _ k gp.1 gp.2 b1 b2 b3
    rw [s1] at b4 b5 ⊢
    by_cases z : inr N p e 60 c
    · have sl := (j.sl c c1 c2).1 z.1
      have zp := z.2.1
      have ze := z.2.2
      have lt : k < N 13026 c := by
        by_cases w : e ≤ k
        · exact absurd ⟨zp, w⟩ s5
        · omega
      have := j.n1 _ k (N 13026 c) gp.1 gp.2 b1 lt ze.2 s2 (by omega) (by rw [sl.2]; exact b4) (ndd _ s2 s3 b5) (by rw [sl.2]; exact ⟨z3, by omega⟩)
      omega
    · rw [if_neg z] at z1
      exact j.n2 c k c1 c2 z1 oc z3 b1 b2 s2 b4 (ndd _ s2 s3 b5)
  · rw [e0] at m2
    obtain ⟨a, b, f, d⟩ := mm m m1 m2
    have x := j.ms m m1 m2
    have gp := (j.g.m m m1 m2).2.1
    have y1 := hs' _ gp.1 gp.2
    have y2 := hh _ gp.1 gp.2
    have y3 := sb _ gp.1 gp.2
    rw [eQ, eI, eD, a, b]
    refine ⟨fun z => ?_, fun z => ?_, ?_, fun z => ?_, fun z => ?_⟩
    · have x1 := x.1 (by omega)
      have n0 := nin m m1 m2 x1.2
      rw [if_neg n0, if_neg n0]
      exact ⟨x1.1, by omega⟩
    · split at z
      · omega
      · rename_i n0
        rw [if_neg n0]
        have := x.2.1 z
        omega
    · rw [← x.2.2.1]; omega
    · have o1 : N 13025 m = 1 := by omega
      rw [if_neg (fun y => d y z)]
      exact x.2.2.2.1 o1
    · split at z
      · omega
      · have := x.2.2.2.2 z
        exact ⟨this.1, by omega⟩
  · unfold XS
    rw [e0, eG, eI, eP, kx 13025 (by decide), kx 14034 (by decide)]
    have := k4
    unfold XS at this
    rw [k1 12000 (by decide), k1 13033 (by decide), k1 13029 (by decide), k1 13020 (by decide), a2 12000 (by decide) (by decide), a2 13033 (by decide) (by decide), a2 13029 (by decide) (by decide), a2 13020 (by decide) (by decide)] at this
    exact this
  · obtain ⟨a, b, f, d⟩ := mm m m1 m2
    have gp := (j.g.m m m1 m2).2.1
    have y3 := sb _ gp.1 gp.2
    rw [a, b, eQ, eK]
    refine ⟨⟨rfl, rfl⟩, fun h => ?_, fun h => ?_⟩
    · have n0 := nin m m1 m2 (by have := (j.ms m m1 m2).2.1 h; omega)
      rw [if_neg n0, if_neg n0]; exact ⟨h, rfl⟩
    · have n0 := nin m m1 m2 (by have := h.2.1; omega)
      rw [if_neg n0, if_neg n0]
      exact ⟨rfl, Or.inr ⟨h.1, by have := h.2.2; omega⟩⟩
  · rw [e0] at m2
    obtain ⟨a, b, f, d⟩ := mm m m1 m2
    rw [eQ] at m5
    unfold canR at m4 ⊢
    rw [a, b, eQ] at m4
    rw [b] at m5
    have n0 : ¬ inr N p e 60 m := fun z => by rw [if_pos z] at m4; omega
    rw [if_neg n0] at m4 m5
    rw [if_neg n0] at m4
    exact ⟨m2, m4.1, m5, by omega⟩
theorem JN.faN {N : Nd} {p r : Int} (j : JN N) (h1 : 0 ≤ p) (h2 : p < (N 12000 11)) (h3 : 0 ≤ r) (h4 : r < 3) : JN (faN N p r).2 ∧ Mo N (faN N p r).2 := by
  have s := (j.g.p p h1 h2).2.2.1
  have k := clr_ok s.1 s.2 h3 h4
  have g' := j.g.faN j.li h1 h2 h3 h4
  have l' := j.li.faN j.g h1 h2 h3 h4
  have lb := RP.lead j.g.t j.g.p h1 h2
  unfold Jvm.Pilot.@@N@@.faN at g' l' ⊢
  by_cases e0 : r = N 13013 p
  · rw [if_pos e0] at g' l' ⊢
    by_cases e : clr (N 13014 p) r = 0
    · rw [if_pos e] at g' l' ⊢
      have ld : ∀ q, up N 13013 p (-1) 13013 q = if q = p then -1 else N 13013 q := fun q => by simp only [up_s, up_s, true_and, false_and, and_true, and_false, if_true, if_false, ↓reduceIte, ↓Option.bind_some, Int.reduceEq, Int.reduceNe, Int.reduceLT, Int.reduceLE, gd_true, gd_false, bind_b, q10, eq_self, reduceCtorEq, not_true_eq_false, not_false_eq_true, ne_eq]
      have lr : low (N 13014 p) = r := by
        have lw := @low_b (N 13014 p)
        have li := low_in (j.g.p p h1 h2).2.2.2.2.2.2
        by_cases ei : low (N 13014 p) = r
        · exact ei
        · have := (k.2 _ lw.1 lw.2).mpr (by rw [if_neg ei]; exact li)
          rw [e] at this
          have ee : low (N 13014 p) = 0 ∨ low (N 13014 p) = 1 ∨ low (N 13014 p) = 2 := by omega
          rcases ee with ee | ee | ee <;> rw [ee] at this <;> exact absurd this (by decide)
      have eo : ∀ q, 0 ≤ q → q < (N 12000 11) → eol (up N 13013 p (-1)) q = eol N q := fun q q1 q2 => by
        unfold eol
        rw [ld]
        show (if (if q = p then -1 else N 13013 q) < 0 then N 13016 (3 * q + low (N 13014 q)) else N 13016 (3 * q + (if q = p then -1 else N 13013 q))) = _
        by_cases z : q = p
        · subst z
          simp only [eq_self, if_true, if_false, ↓reduceIte]
          rw [if_pos (show (-1 : Int) < 0 by omega), if_neg (show ¬ N 13013 q < 0 by omega), lr, e0]
        · simp only [z, if_false]
      exact j.ends (j.t.ends g' l' rfl rfl rfl rfl rfl rfl rfl rfl rfl eo (fun q i q1 q2 a b => j.en q i q1 q2 a b) (fun q _ _ => Int.le_refl _)) (fun a _ _ _ z => by funext i; exact if_neg (fun q => z q.1)) (fun q _ _ => Int.le_refl _)
    · rw [if_neg e] at g' l' ⊢
      have lw := @low_b (clr (N 13014 p) r)
      have li := low_in ((set_ne k.1.1 k.1.2).mp e)
      have ee : eol (up (up N 13014 p (clr (N 13014 p) r)) 13013 p (low (clr (N 13014 p) r))) p = N 13016 (3 * p + low (clr (N 13014 p) r)) := by
        unfold eol
        simp only [up_s, up_s, true_and, false_and, and_true, and_false, if_true, if_false, ↓reduceIte, ↓Option.bind_some, Int.reduceEq, Int.reduceNe, Int.reduceLT, Int.reduceLE, gd_true, gd_false, bind_b, q10, eq_self, reduceCtorEq, not_true_eq_false, not_false_eq_true, ne_eq]
        rw [if_neg (by omega)]
      rw [ee] at g' l' ⊢
      refine j.cut h1 h2 lw.1 lw.2 (fun i i1 i2 hi => ?_) li rfl rfl rfl (j.g.clear2 h1 h2 h3 h4 e) g' l'
      rw [k.2 i i1 i2] at hi
      split at hi
      · exact hi.elim
      · exact hi
  · rw [if_neg e0] at g' l' ⊢
    by_cases e : N 13013 p < 0
    · rw [if_pos e] at g' l' ⊢
      exact ⟨j, Mo.rf⟩
    · rw [if_neg e] at g' l' ⊢
      have sy : ∀ q, up N 13014 p (clr (N 13014 p) r) 13014 q = if q = p then clr (N 13014 p) r else N 13014 q := fun q => by simp only [up_s, up_s, true_and, false_and, and_true, and_false, if_true, if_false, ↓reduceIte, ↓Option.bind_some, Int.reduceEq, Int.reduceNe, Int.reduceLT, Int.reduceLE, gd_true, gd_false, bind_b, q10, eq_self, reduceCtorEq, not_true_eq_false, not_false_eq_true, ne_eq]
      have hh : ∀ q, 0 ≤ q → q < (N 12000 11) → hw N q ≤ hw (up N 13014 p (clr (N 13014 p) r)) q := fun q q1 q2 => hw_ge (hw_b j.g.e q1 q2).2 fun i i1 i2 hi => by
        rw [sy] at hi
        show hw N q ≤ N 13016 (3 * q + i)
        refine hw_le i1 i2 ?_
        split at hi
        · rename_i z
          rw [k.2 i i1 i2] at hi
          split at hi
          · exact hi.elim
          · rw [z]; exact hi
        · exact hi
      have eo : ∀ q, 0 ≤ q → q < (N 12000 11) → eol (up N 13014 p (clr (N 13014 p) r)) q = eol N q := fun q q1 q2 => by
        unfold eol
        rw [sy]
        show (if N 13013 q < 0 then N 13016 (3 * q + low (if q = p then clr (N 13014 p) r else N 13014 q)) else N 13016 (3 * q + N 13013 q)) = _
        by_cases z : q = p
        · subst z
          rw [if_neg e, if_neg e]
        · rw [if_neg z]
      exact j.ends (j.t.ends g' l' rfl rfl rfl rfl rfl rfl rfl rfl rfl eo (fun q i q1 q2 a b => j.en q i q1 q2 a b) hh) (fun a _ _ z _ => by funext i; exact if_neg (fun q => z q.1)) hh
