/-! PURE PART, 99t: group: what holds goes on -/
def gpN (N : Nd) (n a : Int) : Nd := up (gpI (up N 13042 n a) n 9) 12000 41 (n + 1)
section GX
variable {C1 C3 : Cd} {N1 : Nd} {h n a v : Int}
theorem gx_r (hn' : h ≠ n) (p : Int) : gR (up (up N1 13042 n a) 12000 41 v) h p ↔ gR N1 h p := by
  have e : (up (up N1 13042 n a) 12000 41 v) 13042 h = N1 13042 h := by
    rw [up_s, if_neg (by omega), up_s, if_neg (by omega)]
  unfold gR
  rw [e]
  exact Iff.rfl
theorem GA.gx (hn' : h ≠ n) (x : GA C1 N1 h) (hC : ∀ b i j, ¬ (b = 24000 ∧ i = n) → b ≠ 16000 → b ≠ 11000 → C3 b i j = C1 b i j) : GA C3 (up (up N1 13042 n a) 12000 41 v) h := by
  have hr := fun p => @gx_r N1 h n a v hn' p
  have eb : ∀ b, b ≠ 24000 → b ≠ 16000 → b ≠ 11000 → C3 b = C1 b := fun b h1 h2 h3 => by
    funext i j
    exact hC b i j (by omega) h2 h3
  have eT : (up (up N1 13042 n a) 12000 41 v) 13042 h = N1 13042 h := by
    rw [up_s, if_neg (by omega), up_s, if_neg (by omega)]
  refine ⟨?_, fun p p1 p2 => ?_, ?_, ?_, ?_, ?_, ?_, x.nm, fun p p1 p2 => ?_, ?_⟩
  · unfold GO
    rw [eb 1000 (by decide) (by decide) (by decide)]
    simp only [hr]
    exact x.o
  · rw [hC 24000 h p (by omega) (by decide) (by decide), eb 9000 (by decide) (by decide) (by decide)]
    simp only [hr]
    exact x.sh p p1 p2
  · unfold GMe
    rw [eb 19000 (by decide) (by decide) (by decide), eb 4000 (by decide) (by decide) (by decide)]
    exact x.me
  · unfold GHa LSr
    rw [eb 3006 (by decide) (by decide) (by decide), eb 17106 (by decide) (by decide) (by decide), eb 2000 (by decide) (by decide) (by decide)]
    exact x.ha
  · unfold GLe
    rw [eb 17000 (by decide) (by decide) (by decide), eb 2000 (by decide) (by decide) (by decide)]
    simp only [hr]
    exact x.le
  · unfold GWa GW1 LSr
    rw [eb 3000 (by decide) (by decide) (by decide), eb 17100 (by decide) (by decide) (by decide)]
    exact x.wa
  · unfold GDe LSr
    rw [eb 3003 (by decide) (by decide) (by decide), eb 17103 (by decide) (by decide) (by decide)]
    exact x.de
  · simp only [hr]
    exact x.np p p1 p2
  · obtain ⟨u1, u2, u3, u4, u5⟩ := x.nu
    refine ⟨⟨by rw [eT]; exact u1.1, by rw [eT]; exact u1.2.1, fun t h1 h2 h3 => u1.2.2 t h1 h2 (by rw [eT] at h3; exact h3)⟩, u2, u3, fun i j i1 i2 j1 j2 y1 y2 => ?_, fun z p p1 p2 r => u5 z p p1 p2 ((hr p).mp r)⟩
    unfold tcn
    simp only [hr]
    exact u4 i j i1 i2 j1 j2 y1 y2
theorem GIn.gx (hn' : h ≠ n) (x : GIn C1 N1 h) (hC : ∀ b i j, ¬ (b = 24000 ∧ i = n) → b ≠ 16000 → b ≠ 11000 → C3 b i j = C1 b i j) : GIn C3 (up (up N1 13042 n a) 12000 41 v) h := by
  have hr := fun p => @gx_r N1 h n a v hn' p
  have eb : ∀ b, b ≠ 24000 → b ≠ 16000 → b ≠ 11000 → C3 b = C1 b := fun b h1 h2 h3 => by
    funext i j
    exact hC b i j (by omega) h2 h3
  unfold GIn Pd Fdl So
  rw [eb 2000 (by decide) (by decide) (by decide), eb 9000 (by decide) (by decide) (by decide), eb 1000 (by decide) (by decide) (by decide)]
  simp only [hr]
  exact x
end GX
theorem PX.newg {C C' : Cd} {N N' : Nd} {g : Int} (G : RG N) (px : PX C N) (kc : KG g C C') (kn : MG g N N') (hg : g = (N 12000 41)) : PX C' N' := by
  have s5 := G.s.2.2.2.2.1
  have s2 := G.s.2.1
  have sc : N' 12000 = N 12000 := kn.n0 (by decide)
  have mP : N' 13021 = N 13021 := kn.n0 (by decide)
  have mO : N' 13026 = N 13026 := kn.n0 (by decide)
  have x1 : N' 13035 = N 13035 := kn.n0 (by decide)
  have x2 : N' 13033 = N 13033 := kn.n0 (by decide)
  have x3 : N' 13039 = N 13039 := kn.n0 (by decide)
  have x4 : N' 13036 = N 13036 := kn.n0 (by decide)
  have x5 : N' 13037 = N 13037 := kn.n0 (by decide)
  have x6 : N' 13038 = N 13038 := kn.n0 (by decide)
  have c7 : ∀ x j, C' 7000 x j = C 7000 x j := fun x j => kc _ _ _ (by unfold inG; omega)
  have c13 : ∀ x j, C' 13500 x j = C 13500 x j := fun x j => kc _ _ _ (by unfold inG; omega)
  intro x y1 y2
  rw [sc] at y2
  obtain ⟨q1, q2, q3⟩ := px x y1 y2
  unfold PX1
  rw [x1, x2, x3, x4, x5, x6, sc, mP, mO, c7, c7, c7]
  refine ⟨q1, q2, fun z => ?_⟩
  obtain ⟨z1, z2, z3, z4⟩ := q3 z
  have e : N 13036 x ≠ g := by omega
  rw [kn.n1 e (a := 13043) (by decide) (by decide)]
  refine ⟨z1, z2, z3, fun p p1 p2 => ?_⟩
  obtain ⟨w1, w2, w3⟩ := z4 p p1 p2
  rw [c13]
  refine ⟨w1, w2, fun v => ?_⟩
  obtain ⟨v1, v2⟩ := w3 v
  refine ⟨(kn.gr _ p).mpr v1, fun u => ?_⟩
  obtain ⟨u1, u2⟩ := v2 u
  have sq : So C' (N 13036 x) p = So C (N 13036 x) p := congrFun (kc.c4 e p1 p2) 5
  rw [kn.n4 e (a := 13055) (by decide) (by decide) p1 p2, kn.n4 e (a := 13056) (by decide) (by decide) p1 p2, kn.so, sq]
  refine ⟨u1, fun r => ?_⟩
  obtain ⟨r1, r2⟩ := u2 r
  refine ⟨r1, fun b b1 b2 b3 b4 b5 b6 => ?_⟩
  have q := r2 b b1 b2 (kn.can.mp b3) b4 b5 b6
  have fd : Fdl C' (N 13036 x) b = Fdl C (N 13036 x) b := congrFun (kc.c2 e b1 (by omega)) 6
  unfold Pd at q ⊢
  rw [fd, kn.n5 e (a := 13059) (by decide) (by decide) b1 (by omega)]
  exact q
theorem PX.gx {C1 C3 : Cd} {N1 : Nd} {n a v : Int} (px : PX C1 N1) (hn : n = (N1 12000 41)) (hv : (N1 12000 41) ≤ v) (hC : ∀ b i j, ¬ (b = 24000 ∧ i = n) → b ≠ 16000 → b ≠ 11000 → C3 b i j = C1 b i j) : PX C3 (up (up N1 13042 n a) 12000 41 v) := by
  have eb : ∀ b, b ≠ 24000 → b ≠ 16000 → b ≠ 11000 → C3 b = C1 b := fun b h1 h2 h3 => by
    funext i j
    exact hC b i j (by omega) h2 h3
  intro x y1 y2
  obtain ⟨q1, q2, q3⟩ := px x y1 y2
  unfold PX1 Pd Fdl So
  rw [eb 7000 (by decide) (by decide) (by decide), eb 13500 (by decide) (by decide) (by decide), eb 9000 (by decide) (by decide) (by decide), eb 2000 (by decide) (by decide) (by decide)]
  refine ⟨q1, q2, fun z => ?_⟩
  obtain ⟨⟨z1, z1b, z1c⟩, z2, z3, z4⟩ := q3 z
  refine ⟨⟨z1, by show N1 13036 x < v; omega, z1c⟩, z2, z3, fun p p1 p2 => ?_⟩
  obtain ⟨w1, w2, w3⟩ := z4 p p1 p2
  refine ⟨w1, w2, fun u => ?_⟩
  obtain ⟨v1, v2⟩ := w3 u
  exact ⟨(@gx_r N1 (N1 13036 x) n a v (by omega) p).mpr v1, v2⟩
theorem JJ.newG {k n a : Int} {C C' : Cd} {N : Nd} {A A' : Ad} (j : JJ k C N A) (hn : n = (N 12000 41)) (n3 : n < 3) (a0 : 0 < a) (a8 : a < 8) (ha : ∀ t, 0 ≤ t → t < 3 → bt a t = true → t < (N 12000 4)) (h : GPI n a N (giC C n) (giA A n) 9 C' A') : JJ (k + 1) (uq (uq C' 16000 0 n (1000 + n)) 11000 0 9 (n + 1)) (gpN N n a) A' := by
  have G := j.jn.g
  have s1 := G.s.1
  have s2 := G.s.2.1
  have s3 := G.s.2.2.1
  have s4 := G.s.2.2.2.1
  have s5 := G.s.2.2.2.2.1
  obtain ⟨l, d1, d2⟩ := j.d
  obtain ⟨h1, h2, h3, h4, h5⟩ := h
  obtain ⟨f1, f2, f3, f4, f5⟩ := j.fn
  obtain ⟨⟨f4a, f4b, f4c, f4d⟩, f4e, f4f, f4g⟩ := f4 n (by omega) n3
  have f4z := f4
  have zn := fun m => j.zn.1 n m (by omega) n3
  have fC : ∀ b x i, ¬ (b = 9000 ∧ 9 * n ≤ x ∧ x < 9 * n + 9) → ¬ (x = n ∧ (b = 1000 ∨ b = 24000 ∨ b = 19000 ∨ b = 17000 ∨ b = 3000 ∨ b = 3003 ∨ b = 17100 ∨ b = 17103)) → C' b x i = C b x i := fun b x i q1 q2 => by
    rw [h1 b x i q1 (by omega) (by omega), gi_k q2]
  have g0 : ∀ b x i, b ≠ 9000 → b ≠ 24000 → ¬ (b = 1000 ∧ i = 8) → C' b x i = giC C n b x i := fun b x i q1 q2 q3 => h1 b x i (by omega) (by omega) (by omega)
  generalize eC1 : (fun b x i => if b = 24000 ∧ x = n then C b x i else C' b x i : Cd) = C1
  have c1v : ∀ b x i, C1 b x i = if b = 24000 ∧ x = n then C b x i else C' b x i := fun b x i => by rw [← eC1]
  have kc : KG n C C1 := fun b x i q => by
    rw [c1v]
    by_cases e : b = 24000 ∧ x = n
    · rw [if_pos e]
    · rw [if_neg e]
      unfold inG at q
      exact fC b x i (by omega) (by omega)
  have kn : MG n N (gpI N n 9) := fun b i q => by
    unfold inN at q
    unfold gpI
    rw [ra_s, ra_s]
    by_cases e : b = 13056
    · rw [if_pos e, if_neg (by omega), e]
    · rw [if_neg e]
      by_cases e2 : b = 13055
      · rw [if_pos e2, if_neg (by omega), e2]
      · rw [if_neg e2]
  have eN : gpN N n a = up (up (gpI N n 9) 13042 n a) 12000 41 (n + 1) := by
    have e : gpI (up N 13042 n a) n 9 = up (gpI N n 9) 13042 n a := by
      have e1 : (up N 13042 n a) 13055 = N 13055 := by
        funext q
        rw [up_s, if_neg (by omega)]
      have e2 : (up N 13042 n a) 13056 = N 13056 := by
        funext q
        rw [up_s, if_neg (by omega)]
      funext b i
      rw [up_s]
      unfold gpI
      rw [e1, e2, ra_s, ra_s, ra_s, ra_s]
      by_cases h1 : b = 13056
      · rw [if_pos h1, if_pos h1, if_neg (show ¬ (b = 13042 ∧ i = n) by omega)]
      · rw [if_neg h1, if_neg h1]
        by_cases h2 : b = 13055
        · rw [if_pos h2, if_pos h2, if_neg (show ¬ (b = 13042 ∧ i = n) by omega)]
        · rw [if_neg h2, if_neg h2, up_s]
    unfold gpN
    rw [e]
  have c1 : CC C1 (gpI N n 9) := j.c.mg kc kn
  have j1 : JN (gpI N n 9) := j.jn.mg kn
  have hC : ∀ b i z, ¬ (b = 24000 ∧ i = n) → b ≠ 16000 → b ≠ 11000 → (uq (uq C' 16000 0 n (1000 + n)) 11000 0 9 (n + 1)) b i z = C1 b i z := fun b i z q1 q2 q3 => by
    rw [uq_s, if_neg (by omega), uq_s, if_neg (by omega), c1v, if_neg q1]
  have k11 : ∀ b i z, b = 11000 ∨ b = 16000 → C' b i z = C1 b i z := fun b i z hb => by rw [c1v, if_neg (by omega)]
  have cc : CC (uq (uq C' 16000 0 n (1000 + n)) 11000 0 9 (n + 1)) (gpN N n a) := by
    have z11 : ∀ z, z ≠ 9 → (uq (uq C' 16000 0 n (1000 + n)) 11000 0 9 (n + 1)) 11000 0 z = C1 11000 0 z := fun z hz => by
      rw [uq_s, if_neg (by omega), uq_s, if_neg (by omega), k11 _ _ _ (Or.inl rfl)]
    obtain ⟨⟨b0, b1, b2, b3, b4, b5⟩, b6, b7, b8, b9, b10, b12, b13, b14, b15⟩ := c1.b
    obtain ⟨i1, i2, i3, i4, i5⟩ := c1.i
    have o : ∀ b, b ≠ 24000 → b ≠ 16000 → b ≠ 11000 → (uq (uq C' 16000 0 n (1000 + n)) 11000 0 9 (n + 1)) b = C1 b := fun b q1 q2 q3 => by
      funext i z
      exact hC b i z (by omega) q2 q3
    refine ⟨⟨⟨?_, ?_, ?_, ?_, ?_, ?_⟩, ?_, ?_, ?_, ?_, ?_, ?_, ?_, ?_, ?_⟩, ⟨?_, ?_, ?_, fun i i1 i2 => ?_, ?_⟩, ?_, ?_, ?_, ?_, ?_, ?_, ?_⟩
    · rw [z11 _ (by decide)]; exact b0
    · rw [z11 _ (by decide)]; exact b1
    · rw [z11 _ (by decide)]; exact b2
    · rw [z11 _ (by decide)]; exact b3
    · rw [z11 _ (by decide)]; exact b4
    · rw [z11 _ (by decide)]; exact b5
    · rw [z11 _ (by decide)]; exact b6
    · rw [z11 _ (by decide)]; exact b7
    · rw [z11 _ (by decide)]; exact b8
    · rw [uq_s, if_pos ⟨rfl, rfl, rfl⟩]; rfl
    · rw [z11 _ (by decide)]; exact b10
    · rw [z11 _ (by decide)]; exact b12
    · rw [z11 _ (by decide)]; exact b13
    · rw [z11 _ (by decide)]; exact b14
    · rw [z11 _ (by decide)]; exact b15
    · rw [o 25000 (by decide) (by decide) (by decide)]; exact i1
    · rw [o 21000 (by decide) (by decide) (by decide)]; exact i2
    · rw [o 22000 (by decide) (by decide) (by decide)]; exact i3
    · show _ = if i < n + 1 then 1000 + i else 0
      have q := i4 i i1 i2
      have q' : C1 16000 0 i = if i < (N 12000 41) then 1000 + i else 0 := q
      rw [uq_s, if_neg (by omega), uq_s]
      by_cases e : i = n
      · rw [if_pos ⟨rfl, rfl, e⟩, if_pos (by omega), e]
      · rw [if_neg (fun z => e z.2.2), k11 _ _ _ (Or.inr rfl), q']
        by_cases e2 : i < n
        · rw [if_pos (by omega), if_pos (by omega)]
        · rw [if_neg (by omega), if_neg (by omega)]
    · rw [o 20000 (by decide) (by decide) (by decide)]; exact i5
    · unfold CTp
      rw [o 10000 (by decide) (by decide) (by decide), o 21100 (by decide) (by decide) (by decide)]; exact c1.t
    · unfold CP
      rw [o 6000 (by decide) (by decide) (by decide)]; exact c1.p
    · unfold CW
      rw [o 23000 (by decide) (by decide) (by decide)]; exact c1.w
    · unfold CL
      rw [o 20100 (by decide) (by decide) (by decide)]; exact c1.l
    · unfold CR
      rw [o 8000 (by decide) (by decide) (by decide)]; exact c1.r
    · unfold CM
      rw [o 5000 (by decide) (by decide) (by decide)]; exact c1.m
    · unfold CX
      rw [o 7000 (by decide) (by decide) (by decide)]; exact c1.x
  have jn : JN (gpN N n a) := by
    have g : RG (gpN N n a) := by
      obtain ⟨⟨a1, a2, a3, a4, a5, a6, a7, a8, a9⟩, g2⟩ := j1.g
      exact ⟨⟨a1, a2, a3, (show 0 ≤ n + 1 ∧ n + 1 ≤ 3 by omega), a5, a6, a7, a8, a9⟩, g2⟩
    exact ⟨⟨⟨g, j1.1.1.2⟩, j1.1.2⟩, j1.2⟩
  have gOw : ∀ p, 0 ≤ p → p < 9 → gpN N n a 13055 (9 * n + p) = -1 := fun p p1 p2 => by
    show gpI N n 9 13055 (9 * n + p) = -1
    unfold gpI
    rw [ra_s, if_neg (by decide), ra_s, if_pos rfl, if_pos (by omega)]
  have gTa : ∀ p, 0 ≤ p → p < 9 → gpN N n a 13056 (9 * n + p) = -1 := fun p p1 p2 => by
    show gpI N n 9 13056 (9 * n + p) = -1
    unfold gpI
    rw [ra_s, if_pos rfl, if_pos (by omega)]
  have gTo : gpN N n a 13042 n = a := by
    rw [eN, up_s, if_neg (by omega), up_s, if_pos ⟨rfl, rfl⟩]
  have nk : ∀ b i, b ≠ 13055 → b ≠ 13056 → b ≠ 13042 → b ≠ 12000 → gpN N n a b i = N b i := fun b i q1 q2 q3 q4 => by
    rw [eN, up_s, if_neg (fun z => q4 z.1), up_s, if_neg (fun z => q3 z.1), gpI_k q1 q2]
  have rr : ∀ p, gR (gpN N n a) n p ↔ gB N a p := fun p => by
    unfold gR gB
    rw [gTo]
    exact Iff.rfl
  have hG : ∀ b x i, b ≠ 9000 → b ≠ 24000 → b ≠ 16000 → b ≠ 11000 → ¬ (b = 1000 ∧ i = 8) → (uq (uq C' 16000 0 n (1000 + n)) 11000 0 9 (n + 1)) b x i = giC C n b x i := fun b x i q1 q2 q3 q4 q5 => by
    rw [uq_s, if_neg (by omega), uq_s, if_neg (by omega), g0 b x i q1 q2 q5]
  have hH : ∀ b x i, b = 9000 ∨ b = 24000 ∨ b = 1000 → (uq (uq C' 16000 0 n (1000 + n)) 11000 0 9 (n + 1)) b x i = C' b x i := fun b x i q => by
    rw [uq_s, if_neg (by omega), uq_s, if_neg (by omega)]
  have z2 : ∀ m i, (uq (uq C' 16000 0 n (1000 + n)) 11000 0 9 (n + 1)) 2000 m i = C 2000 m i := fun m i => by
    rw [hG _ _ _ (by decide) (by decide) (by decide) (by decide) (by omega), gi_k (by omega)]
  have gn : GA (uq (uq C' 16000 0 n (1000 + n)) 11000 0 9 (n + 1)) (gpN N n a) n := by
    refine ⟨⟨?_, ?_, ?_, ?_, ?_, ?_, ?_, ?_, ?_⟩, fun p p1 p2 => ?_, fun q q1 q2 => ?_, fun q q1 q2 q3 => ?_, fun m m1 m2 => ?_, ⟨0, fun _ => 0, ⟨?_, ?_, fun k k1 k2 => by omega⟩, by omega, fun i i1 i2 => by omega, fun i q i1 i2 i3 => by omega, fun m m1 m2 z => ?_⟩, ⟨⟨?_, ?_, fun q q1 q2 => ?_⟩, ?_, fun q q1 q2 => ?_, fun m m1 m2 z => ?_⟩, fun q q1 q2 => ⟨?_, fun _ => ⟨?_, ?_⟩, fun z => ?_⟩, fun p p1 p2 => ⟨⟨Or.inl (gOw p p1 p2), Or.inl (gTa p p1 p2)⟩, ?_, ?_⟩, ⟨?_, ?_, ?_, fun u v u1 u2 v1 v2 z1 z2 => ?_, fun z p _ _ _ => ?_⟩⟩
    · rw [hG _ _ _ (by decide) (by decide) (by decide) (by decide) (by decide)]; unfold giC; simp only [uq_s, zq_s, up_s, true_and, false_and, and_true, and_false, if_true, if_false, ↓reduceIte, ↓Option.bind_some, Int.reduceEq, Int.reduceNe, Int.reduceLT, Int.reduceLE, gd_true, gd_false, bind_b, q10, eq_self, reduceCtorEq, not_true_eq_false, not_false_eq_true, ne_eq]
    · rw [hG _ _ _ (by decide) (by decide) (by decide) (by decide) (by decide)]; unfold giC; simp only [uq_s, zq_s, up_s, true_and, false_and, and_true, and_false, if_true, if_false, ↓reduceIte, ↓Option.bind_some, Int.reduceEq, Int.reduceNe, Int.reduceLT, Int.reduceLE, gd_true, gd_false, bind_b, q10, eq_self, reduceCtorEq, not_true_eq_false, not_false_eq_true, ne_eq]
    · rw [hG _ _ _ (by decide) (by decide) (by decide) (by decide) (by decide)]; unfold giC; simp only [uq_s, zq_s, up_s, true_and, false_and, and_true, and_false, if_true, if_false, ↓reduceIte, ↓Option.bind_some, Int.reduceEq, Int.reduceNe, Int.reduceLT, Int.reduceLE, gd_true, gd_false, bind_b, q10, eq_self, reduceCtorEq, not_true_eq_false, not_false_eq_true, ne_eq]
    · rw [hG _ _ _ (by decide) (by decide) (by decide) (by decide) (by decide)]; unfold giC; simp only [uq_s, zq_s, up_s, true_and, false_and, and_true, and_false, if_true, if_false, ↓reduceIte, ↓Option.bind_some, Int.reduceEq, Int.reduceNe, Int.reduceLT, Int.reduceLE, gd_true, gd_false, bind_b, q10, eq_self, reduceCtorEq, not_true_eq_false, not_false_eq_true, ne_eq]
    · rw [hG _ _ _ (by decide) (by decide) (by decide) (by decide) (by decide)]; unfold giC; simp only [uq_s, zq_s, up_s, true_and, false_and, and_true, and_false, if_true, if_false, ↓reduceIte, ↓Option.bind_some, Int.reduceEq, Int.reduceNe, Int.reduceLT, Int.reduceLE, gd_true, gd_false, bind_b, q10, eq_self, reduceCtorEq, not_true_eq_false, not_false_eq_true, ne_eq]
    · rw [hG _ _ _ (by decide) (by decide) (by decide) (by decide) (by decide), nk _ _ (by decide) (by decide) (by decide) (by decide), f4b]; unfold giC; simp only [uq_s, zq_s, up_s, true_and, false_and, and_true, and_false, if_true, if_false, ↓reduceIte, ↓Option.bind_some, Int.reduceEq, Int.reduceNe, Int.reduceLT, Int.reduceLE, gd_true, gd_false, bind_b, q10, eq_self, reduceCtorEq, not_true_eq_false, not_false_eq_true, ne_eq]
    · rw [hG _ _ _ (by decide) (by decide) (by decide) (by decide) (by decide), nk _ _ (by decide) (by decide) (by decide) (by decide), f4a]; unfold giC; simp only [uq_s, zq_s, up_s, true_and, false_and, and_true, and_false, if_true, if_false, ↓reduceIte, ↓Option.bind_some, Int.reduceEq, Int.reduceNe, Int.reduceLT, Int.reduceLE, gd_true, gd_false, bind_b, q10, eq_self, reduceCtorEq, not_true_eq_false, not_false_eq_true, ne_eq]
    · rw [hG _ _ _ (by decide) (by decide) (by decide) (by decide) (by decide), nk _ _ (by decide) (by decide) (by decide) (by decide), f4c]; unfold giC; simp only [uq_s, zq_s, up_s, true_and, false_and, and_true, and_false, if_true, if_false, ↓reduceIte, ↓Option.bind_some, Int.reduceEq, Int.reduceNe, Int.reduceLT, Int.reduceLE, gd_true, gd_false, bind_b, q10, eq_self, reduceCtorEq, not_true_eq_false, not_false_eq_true, ne_eq]
    · rw [hH _ _ _ (by decide), h4]
      simp only [rr]
      rfl
    · simp only [rr]
      rw [hH _ _ _ (by decide), h2 p p1 p2, gOw p p1 p2, gTa p p1 p2, nk 13057 _ (by decide) (by decide) (by decide) (by decide), nk 13058 _ (by decide) (by decide) (by decide) (by decide), (f4f p p1 p2).1, (f4f p p1 p2).2]
      refine ⟨?_, fun z => ?_⟩
      · by_cases z : gB N a p
        · rw [if_pos ⟨p2, z⟩, if_pos z]
        · rw [if_neg (fun y => z y.2), if_neg z]
      · obtain ⟨y0, y1, y2, y3, y4, y5⟩ := h3 p p1 p2 z
        rw [hH _ _ _ (by decide), hH _ _ _ (by decide), hH _ _ _ (by decide), hH _ _ _ (by decide), hH _ _ _ (by decide)]
        exact ⟨y0, y1, y2, y3, y4⟩
    · have e := (f4e q q1 q2).1
      rw [nk 13047 _ (by decide) (by decide) (by decide) (by decide), e, if_neg (by decide), hG _ _ _ (by decide) (by decide) (by decide) (by decide) (by omega)]
      refine ⟨?_, fun z => absurd z (by decide)⟩
      unfold giC
      simp only [uq_s, zq_s, up_s, true_and, false_and, and_true, and_false, if_true, if_false, ↓reduceIte, ↓Option.bind_some, Int.reduceEq, Int.reduceNe, Int.reduceLT, Int.reduceLE, gd_true, gd_false, bind_b, q10, eq_self, reduceCtorEq, not_true_eq_false, not_false_eq_true, ne_eq]
    · have e := (f4e q q1 q2).1
      rw [nk 13047 _ (by decide) (by decide) (by decide) (by decide), e] at q3
      exact absurd q3 (by decide)
    · obtain ⟨w1, w2, w3⟩ := f4g m m1 m2
      obtain ⟨y1, y2⟩ := zn m m1 m2
      have e17 : (uq (uq C' 16000 0 n (1000 + n)) 11000 0 9 (n + 1)) 17000 n m = 0 := by
        rw [hG _ _ _ (by decide) (by decide) (by decide) (by decide) (by omega)]
        unfold giC
        simp only [uq_s, zq_s, up_s, true_and, false_and, and_true, and_false, if_true, if_false, ↓reduceIte, ↓Option.bind_some, Int.reduceEq, Int.reduceNe, Int.reduceLT, Int.reduceLE, gd_true, gd_false, bind_b, q10, eq_self, reduceCtorEq, not_true_eq_false, not_false_eq_true, ne_eq]
      rw [e17, z2, z2, z2, z2, z2, z2, y1, y2, nk 13064 _ (by decide) (by decide) (by decide) (by decide), nk 13059 _ (by decide) (by decide) (by decide) (by decide), nk 13062 _ (by decide) (by decide) (by decide) (by decide), w1, w2, w3]
      exact ⟨Or.inl rfl, fun z => absurd rfl z, fun _ => ⟨rfl, rfl, rfl⟩, fun z => absurd rfl z, ⟨Or.inl rfl, Or.inl rfl⟩, ⟨fun z => absurd z (by decide), fun z => absurd z (by decide)⟩, ⟨fun z => absurd z (by decide), fun z => absurd z (by decide)⟩, fun z => absurd z (by decide), by decide, fun z => absurd z (by decide)⟩
    · rw [hG _ _ _ (by decide) (by decide) (by decide) (by decide) (by decide)]; unfold giC; simp only [uq_s, zq_s, up_s, true_and, false_and, and_true, and_false, if_true, if_false, ↓reduceIte, ↓Option.bind_some, Int.reduceEq, Int.reduceNe, Int.reduceLT, Int.reduceLE, gd_true, gd_false, bind_b, q10, eq_self, reduceCtorEq, not_true_eq_false, not_false_eq_true, ne_eq]
    · rw [hG _ _ _ (by decide) (by decide) (by decide) (by decide) (by decide)]; unfold giC; simp only [uq_s, zq_s, up_s, true_and, false_and, and_true, and_false, if_true, if_false, ↓reduceIte, ↓Option.bind_some, Int.reduceEq, Int.reduceNe, Int.reduceLT, Int.reduceLE, gd_true, gd_false, bind_b, q10, eq_self, reduceCtorEq, not_true_eq_false, not_false_eq_true, ne_eq]
    · rw [nk 13059 _ (by decide) (by decide) (by decide) (by decide), (f4g m m1 m2).1] at z
      exact absurd z (by decide)
    · rw [hG _ _ _ (by decide) (by decide) (by decide) (by decide) (by decide)]; unfold giC; simp only [uq_s, zq_s, up_s, true_and, false_and, and_true, and_false, if_true, if_false, ↓reduceIte, ↓Option.bind_some, Int.reduceEq, Int.reduceNe, Int.reduceLT, Int.reduceLE, gd_true, gd_false, bind_b, q10, eq_self, reduceCtorEq, not_true_eq_false, not_false_eq_true, ne_eq]
    · rw [hG _ _ _ (by decide) (by decide) (by decide) (by decide) (by decide), nk _ _ (by decide) (by decide) (by decide) (by decide), f4d]; unfold giC; simp only [uq_s, zq_s, up_s, true_and, false_and, and_true, and_false, if_true, if_false, ↓reduceIte, ↓Option.bind_some, Int.reduceEq, Int.reduceNe, Int.reduceLT, Int.reduceLE, gd_true, gd_false, bind_b, q10, eq_self, reduceCtorEq, not_true_eq_false, not_false_eq_true, ne_eq]
    · rw [nk _ _ (by decide) (by decide) (by decide) (by decide), f4d] at q2
      omega
    · rw [nk _ _ (by decide) (by decide) (by decide) (by decide), f4d]
      decide
    · rw [nk _ _ (by decide) (by decide) (by decide) (by decide), f4d] at q2
      omega
    · rw [nk 13062 _ (by decide) (by decide) (by decide) (by decide), (f4g m m1 m2).2.1] at z
      exact absurd z (by decide)
    · rw [nk 13047 _ (by decide) (by decide) (by decide) (by decide)]
      exact Or.inl (f4e q q1 q2).1
    · rw [nk 13047 _ (by decide) (by decide) (by decide) (by decide)]
      exact (f4e q q1 q2).1
    · show gpN N n a 13051 (12 * n + q) = 0
      rw [nk 13051 _ (by decide) (by decide) (by decide) (by decide)]
      exact (f4e q q1 q2).2
    · rw [nk 13047 _ (by decide) (by decide) (by decide) (by decide), (f4e q q1 q2).1] at z
      exact absurd z (by decide)
    · rw [nk 13057 _ (by decide) (by decide) (by decide) (by decide), (f4f p p1 p2).1]; decide
    · rw [nk 13058 _ (by decide) (by decide) (by decide) (by decide), (f4f p p1 p2).2]; decide
    · rw [gTo]
      exact ⟨by omega, by omega, ha⟩
    · rw [nk 13044 _ (by decide) (by decide) (by decide) (by decide), f4b]; decide
    · have mc0 : mcn (gpN N n a) n = 0 := su_zero fun i i1 i2 => by
        rw [nk 13047 _ (by decide) (by decide) (by decide) (by decide)]
        exact (f4e i i1 (by omega)).1
      rw [mc0, nk 13044 _ (by decide) (by decide) (by decide) (by decide), nk 13043 _ (by decide) (by decide) (by decide) (by decide), f4b, f4a]
      decide
    · rw [nk 13047 _ (by decide) (by decide) (by decide) (by decide), (f4e u u1 u2).1] at z1
      exact absurd z1 (by decide)
    · have mc0 : mcn (gpN N n a) n = 0 := su_zero fun i i1 i2 => by
        rw [nk 13047 _ (by decide) (by decide) (by decide) (by decide)]
        exact (f4e i i1 (by omega)).1
      omega
  have fd0 : ∀ m, 0 ≤ m → m < 150 → Fdl (uq (uq C' 16000 0 n (1000 + n)) 11000 0 9 (n + 1)) n m = 0 := fun m m1 m2 => (z2 _ _).trans (zn m m1 m2).2
  have pd0 : ∀ m, 0 ≤ m → m < 150 → ¬ Pd (uq (uq C' 16000 0 n (1000 + n)) 11000 0 9 (n + 1)) (gpN N n a) n m := fun m m1 m2 z => by
    rcases z with z | z
    · rw [fd0 m m1 m2] at z
      omega
    · rw [nk 13059 _ (by decide) (by decide) (by decide) (by decide), (f4g m m1 m2).1] at z
      exact absurd z (by decide)
  have so0 : ∀ p, gR (gpN N n a) n p → So (uq (uq C' 16000 0 n (1000 + n)) 11000 0 9 (n + 1)) n p = 0 := fun p hp => by
    have hp' := (rr p).mp hp
    exact (hH _ _ _ (by decide)).trans (h3 p hp'.1 (by have := hp'.2.1; omega) hp').2.2.2.2.2
  have e19 : gpN N n a 12000 19 = (N 12000 19) := rfl
  have gin : GIn (uq (uq C' 16000 0 n (1000 + n)) 11000 0 9 (n + 1)) (gpN N n a) n := by
    refine ⟨fun u v u1 u2 v1 v2 hp hc hq y1 y2 => ?_, fun v v1 v2 hc hg y1 y2 => ?_, fun u v u1 u2 v1 v2 y1 y2 y3 y4 y5 => ?_, fun u v u1 u2 v1 v2 y1 y2 y4 y5 => ?_, fun p hg => ?_, fun m m1 m2 => ?_⟩
    · exact absurd hp (pd0 u u1 (by rw [e19] at u2; omega))
    · have p1 := hg.1
      have p2 : gpN N n a 13021 v < (N 12000 11) := hg.2.1
      rw [so0 _ hg] at y1
      rw [gOw _ p1 (by omega), nk 13057 _ (by decide) (by decide) (by decide) (by decide), (f4f _ p1 (by omega)).1] at y2
      rcases y2 with y2 | y2
      · omega
      · exact absurd rfl y2.1
    · exact absurd (Or.inr y1) (pd0 v v1 (by rw [e19] at v2; omega))
    · exact absurd (Or.inl y1) (pd0 u u1 (by rw [e19] at u2; omega))
    · have p1 := hg.1
      have p2 : p < (N 12000 11) := hg.2.1
      rw [so0 _ hg, gOw p p1 (by omega), nk 13057 _ (by decide) (by decide) (by decide) (by decide), (f4f p p1 (by omega)).1]
      exact ⟨⟨by decide, by decide, Or.inl (by decide)⟩, fun z => absurd rfl z⟩
    · have e9 : (uq (uq C' 16000 0 n (1000 + n)) 11000 0 9 (n + 1)) 1000 n 9 = 0 := by
        rw [hG _ _ _ (by decide) (by decide) (by decide) (by decide) (by decide)]; unfold giC; simp only [uq_s, zq_s, up_s, true_and, false_and, and_true, and_false, if_true, if_false, ↓reduceIte, ↓Option.bind_some, Int.reduceEq, Int.reduceNe, Int.reduceLT, Int.reduceLE, gd_true, gd_false, bind_b, q10, eq_self, reduceCtorEq, not_true_eq_false, not_false_eq_true, ne_eq]
      rw [fd0 m m1 m2, e9, z2, (zn m m1 m2).1]
      exact ⟨fun z => by omega, by decide, by decide, fun z => absurd z (pd0 m m1 m2)⟩
  refine ⟨jn, cc, ⟨l, d1, ⟨?_, d2.2.1, fun i hi => ?_⟩⟩, fun h h0 h9 => ?_, ?_, ?_, ⟨f1, f2, f3, fun h h0 h9 => ?_, f5⟩, ⟨fun h m y1 y2 y3 y4 => ?_, fun h y1 y2 => ?_, fun h m y1 y2 y3 y4 => ?_⟩, by have := j.b.1; omega, by have := j.b.2.1; show (N 12000 1) ≤ _; omega, by have := j.b.2.2.1; show (N 12000 40) ≤ _; omega, fun h h0 h9 => ?_⟩
  · rw [uq_s, if_neg (by omega), uq_s, if_neg (by omega), fC _ _ _ (by omega) (by omega)]; exact d2.1
  · rw [uq_s, if_neg (by omega), uq_s, if_neg (by omega), fC _ _ _ (by omega) (by omega)]; exact d2.2.2 i hi
  · have h9' : h < n + 1 := h9
    by_cases e : h = n
    · rw [e]; exact ⟨gn, gin⟩
    · have gr := j.gr h0 (by omega)
      rw [eN]
      exact ⟨(gr.1.other e G kc kn).gx e hC, (gr.2.other e G gr.1 kc kn).gx e hC⟩
  · rw [eN]
    exact (j.px.newg G kc kn hn).gx (n := n) hn (show (N 12000 41) ≤ n + 1 by omega) hC
  · obtain ⟨n1, n2, n3', n4, n5, n6, n7⟩ := j.ne
    have ad : ∀ x, ¬ (9000 + 9 * n ≤ x ∧ x < 9000 + (9 * n + 9)) → x ≠ 1000 + n ∧ x ≠ 24000 + n ∧ x ≠ 19000 + n ∧ x ≠ 17000 + n ∧ x ≠ 3000 + n ∧ x ≠ 17100 + n ∧ x ≠ 3003 + n ∧ x ≠ 17103 + n → A'.1 x = A.1 x := fun x q1 q2 => by rw [h5 x q1, giA_k q2]
    refine ⟨fun t t1 t2 => ?_, fun p p1 p2 => ?_, fun x x1 x2 => ?_, fun m m1 m2 => ?_, fun h y1 y2 => ?_, fun h q y1 y2 q1 q2 hq => ?_, fun h m y1 y2 q1 q2 hq => ?_⟩
    · have t1' : (N 12000 4) ≤ t := t1
      rw [ad _ (by omega) (by omega), ad _ (by omega) (by omega)]
      exact n1 t t1' t2
    · have p1' : (N 12000 11) ≤ p := p1
      have q := n2 p p1' p2
      refine ⟨?_, ?_, ?_, fun z z1 z2 => ?_⟩
      · rw [ad _ (by omega) (by omega)]; exact q.1
      · rw [ad _ (by omega) (by omega)]; exact q.2.1
      · rw [ad _ (by omega) (by omega)]; exact q.2.2.1
      · rw [ad _ (by omega) (by omega)]; exact q.2.2.2 z z1 z2
    · have x1' : (N 12000 30) ≤ x := x1
      rw [ad _ (by omega) (by omega), ad _ (by omega) (by omega)]
      exact n3' x x1' x2
    · have m1' : (N 12000 19) ≤ m := m1
      rw [ad _ (by omega) (by omega)]
      exact n4 m m1' m2
    · have y1' : n + 1 ≤ h := y1
      have q := n5 h (by omega) y2
      refine ⟨?_, ?_, ?_, ?_, ?_, ?_, ?_, ?_, fun z z1 z2 => ?_⟩ <;> rw [ad _ (by omega) (by omega)]
      · exact q.1
      · exact q.2.1
      · exact q.2.2.1
      · exact q.2.2.2.1
      · exact q.2.2.2.2.1
      · exact q.2.2.2.2.2.1
      · exact q.2.2.2.2.2.2.1
      · exact q.2.2.2.2.2.2.2.1
      · exact q.2.2.2.2.2.2.2.2 z z1 z2
    · have hq' : n + 1 ≤ h ∨ gpN N n a 13044 h ≤ q := hq
      rw [nk 13044 _ (by decide) (by decide) (by decide) (by decide)] at hq'
      have r := n6 h q y1 y2 q1 q2 (by
        rcases hq' with z | z
        · exact Or.inl (by omega)
        · exact Or.inr z)
      rw [ad _ (by omega) (by omega), ad _ (by omega) (by omega), ad _ (by omega) (by omega)]
      exact r
    · have hq' : n + 1 ≤ h ∨ (uq (uq C' 16000 0 n (1000 + n)) 11000 0 9 (n + 1)) 17000 h m = 0 := hq
      rw [ad _ (by omega) (by omega)]
      refine n7 h m y1 y2 q1 q2 ?_
      rcases hq' with z | z
      · exact Or.inl (by omega)
      · by_cases e : h = n
        · exact Or.inl (by omega)
        · rw [hG _ _ _ (by decide) (by decide) (by decide) (by decide) (by omega), gi_k (by omega)] at z
          exact Or.inr z
  · have h0' : n + 1 ≤ h := h0
    have q := f4 h (by omega) h9
    refine ⟨q.1, q.2.1, q.2.2.1, q.2.2.2⟩
  · have y1' : n + 1 ≤ h := y1
    rw [z2, z2]
    exact j.zn.1 h m (by omega) y2 y3 y4
  · have y2' : h < n + 1 := y2
    by_cases e : h = n
    · have mc0 : mcn (gpN N n a) n = 0 := su_zero fun i i1 i2 => by
        rw [nk 13047 _ (by decide) (by decide) (by decide) (by decide)]
        exact (f4e i i1 (by omega)).1
      rw [e, mc0]
      decide
    · have q : mcn (gpN N n a) h = mcn N h := su_congr fun i i1 i2 => by
        rw [nk 13047 _ (by decide) (by decide) (by decide) (by decide)]
      rw [q]
      exact j.zn.2.1 h y1 (by omega)
  · have y2' : h < n + 1 := y2
    unfold FS1 Fdl
    rw [nk 13064 _ (by decide) (by decide) (by decide) (by decide), z2]
    by_cases e : h = n
    · have a := j.zn.1 h m (by omega) (by omega) y3 y4
      have b := (f4 h (by omega) (by omega)).2.2.2 m y3 y4
      rw [a.2, b.2.2]
      have := j.b.1
      exact ⟨Iff.rfl, by omega, by omega⟩
    · exact (j.zn.2.2 h m y1 (by omega) y3 y4).up (by omega)
  · have h9' : h < n + 1 := h9
    by_cases e : h = n
    · rw [e, hG _ _ _ (by decide) (by decide) (by decide) (by decide) (by decide)]
      have := j.b.1
      unfold giC
      simp only [uq_s, zq_s, up_s, true_and, false_and, and_true, and_false, if_true, if_false, ↓reduceIte, ↓Option.bind_some, Int.reduceEq, Int.reduceNe, Int.reduceLT, Int.reduceLE, gd_true, gd_false, bind_b, q10, eq_self, reduceCtorEq, not_true_eq_false, not_false_eq_true, ne_eq]
      omega
    · rw [hG _ _ _ (by decide) (by decide) (by decide) (by decide) (by decide), gi_k (by omega)]
      have := j.b.2.2.2 h h0 (by omega)
      omega
