/-! PURE PART, 71: a call on one group: what holds between calls goes on -/
/-- what a call on group g keeps of what producers have attached -/
def PK (g : Int) (C C' : Cd) (N N' : Nd) : Prop := N 13043 g ≤ N' 13043 g ∧ (N' 13043 g = N 13043 g → ∀ p, gR N g p → N' 13056 (9 * g + p) = N 13056 (9 * g + p) ∧ (N' 13055 (9 * g + p) = N 13055 (9 * g + p) ∨ (N' 13055 (9 * g + p) = -1 ∧ N 13055 (9 * g + p) ≠ N 13056 (9 * g + p)) ∨ (N 13055 (9 * g + p) = -1 ∧ N' 13055 (9 * g + p) = N 13056 (9 * g + p))) ∧ (N' 13055 (9 * g + p) ≠ -1 → So C' g p = So C g p ∧ ∀ b, 0 ≤ b → b < (N 12000 19) → canR N b → N 13021 b = p → Pd C N g b → Pd C' N' g b))
theorem PX.grp {C C' : Cd} {N N' : Nd} {g : Int} (G : RG N) (px : PX C N) (kc : KG g C C') (kn : MG g N N') (pk : PK g C C' N N') : PX C' N' := by
  have s5 := G.s.2.2.2.2.1
  have s2 := G.s.2.1
  have sc : N' 12000 = N 12000 := kn.n0 (by decide)
  have mP : N' 13021 = N 13021 := kn.n0 (by decide)
  have mO : N' 13026 = N 13026 := kn.n0 (by decide)
  have x1 : N' 13035 = N 13035 := kn.n0 (by decide)
  have x2 : N' 13033 = N 13033 := kn.n0 (by decide)
  have x3 : N' 13039 = N 13039 := kn.n0 (by decide)
  have x4 : N' 13036 = N 13036 := kn.n0 (by decide)
  have x5 : N' 13037 = N 13037 := kn.n0 (by decide)
  have x6 : N' 13038 = N 13038 := kn.n0 (by decide)
  have c7 : ∀ x j, C' 7000 x j = C 7000 x j := fun x j => kc _ _ _ (by unfold inG; omega)
  have c13 : ∀ x j, C' 13500 x j = C 13500 x j := fun x j => kc _ _ _ (by unfold inG; omega)
  intro x y1 y2
  rw [sc] at y2
  obtain ⟨q1, q2, q3⟩ := px x y1 y2
  unfold PX1
  rw [x1, x2, x3, x4, x5, x6, sc, mP, mO, c7, c7, c7]
  refine ⟨q1, q2, fun z => ?_⟩
  obtain ⟨z1, z2, z3, z4⟩ := q3 z
  by_cases e : N 13036 x = g
  · rw [e] at z1 z2 z3 z4 ⊢
    refine ⟨z1, z2, by have := pk.1; omega, fun p p1 p2 => ?_⟩
    obtain ⟨w1, w2, w3⟩ := z4 p p1 p2
    rw [c13]
    refine ⟨w1, w2, fun v => ?_⟩
    obtain ⟨v1, v2⟩ := w3 v
    refine ⟨(kn.gr g p).mpr v1, fun u => ?_⟩
    have eg : N' 13043 g = N 13043 g := by have := pk.1; omega
    obtain ⟨t1, t2, t3⟩ := pk.2 eg p v1
    obtain ⟨u1, u2⟩ := v2 (by omega)
    rw [t1, kn.so]
    refine ⟨fun r => ?_, fun r => ?_⟩
    · rcases t2 with t2 | t2 | t2
      · rw [t2] at r; exact u1 r
      · intro y
        by_cases y2 : N 13055 (9 * g + p) = N 13037 x
        · omega
        · exact u1 y2 y
      · exact u1 (by omega)
    · have om : N 13055 (9 * g + p) = N 13037 x := by
        rcases t2 with t2 | t2 | t2
        · rw [← t2]; exact r
        · omega
        · exact absurd (t2.2.symm.trans r) (u1 (by omega))
      obtain ⟨r1, r2⟩ := u2 om
      obtain ⟨a1, a2⟩ := t3 (by omega)
      rw [a1]
      exact ⟨r1, fun b b1 b2 b3 b4 b5 b6 => a2 b b1 b2 (kn.can.mp b3) b4 (r2 b b1 b2 (kn.can.mp b3) b4 b5 b6)⟩
  · rw [kn.n1 e (a := 13043) (by decide) (by decide)]
    refine ⟨z1, z2, z3, fun p p1 p2 => ?_⟩
    obtain ⟨w1, w2, w3⟩ := z4 p p1 p2
    rw [c13]
    refine ⟨w1, w2, fun v => ?_⟩
    obtain ⟨v1, v2⟩ := w3 v
    refine ⟨(kn.gr _ p).mpr v1, fun u => ?_⟩
    obtain ⟨u1, u2⟩ := v2 u
    have sq : So C' (N 13036 x) p = So C (N 13036 x) p := congrFun (kc.c4 e p1 p2) 5
    rw [kn.n4 e (a := 13055) (by decide) (by decide) p1 p2, kn.n4 e (a := 13056) (by decide) (by decide) p1 p2, kn.so, sq]
    refine ⟨u1, fun r => ?_⟩
    obtain ⟨r1, r2⟩ := u2 r
    refine ⟨r1, fun b b1 b2 b3 b4 b5 b6 => ?_⟩
    have q := r2 b b1 b2 (kn.can.mp b3) b4 b5 b6
    have fd : Fdl C' (N 13036 x) b = Fdl C (N 13036 x) b := congrFun (kc.c2 e b1 (by omega)) 6
    unfold Pd at q ⊢
    rw [fd, kn.n5 e (a := 13059) (by decide) (by decide) b1 (by omega)]
    exact q
theorem FN.grp {N N' : Nd} {g : Int} (g0 : 0 ≤ g) (g2 : g < (N 12000 41)) (kn : MG g N N') (fn : FN N) : FN N' := by
  have sc : N' 12000 = N 12000 := kn.n0 (by decide)
  obtain ⟨a, b, c, d, e⟩ := fn
  unfold FN
  rw [sc, kn.n0 (a := 13015) (by decide), kn.n0 (a := 13016) (by decide), kn.n0 (a := 13032) (by decide), kn.n0 (a := 14034) (by decide), kn.n0 (a := 13035) (by decide), kn.n0 (a := 13028) (by decide), kn.n0 (a := 13033) (by decide)]
  refine ⟨a, b, c, fun h h1 h2 => ?_, e⟩
  have hn' : h ≠ g := by omega
  obtain ⟨d1, d2, d3, d4⟩ := d h h1 h2
  rw [kn.n1 hn' (a := 13043) (by decide) (by decide), kn.n1 hn' (a := 13044) (by decide) (by decide), kn.n1 hn' (a := 13045) (by decide) (by decide), kn.n1 hn' (a := 13046) (by decide) (by decide)]
  refine ⟨d1, fun j j1 j2 => ?_, fun p p1 p2 => ?_, fun m m1 m2 => ?_⟩
  · rw [kn.n2 hn' (a := 13047) (by decide) (by decide) j1 j2, kn.n2 hn' (a := 13051) (by decide) (by decide) j1 j2]
    exact d2 j j1 j2
  · rw [kn.n4 hn' (a := 13057) (by decide) (by decide) p1 p2, kn.n4 hn' (a := 13058) (by decide) (by decide) p1 p2]
    exact d3 p p1 p2
  · rw [kn.n5 hn' (a := 13059) (by decide) (by decide) m1 m2, kn.n5 hn' (a := 13062) (by decide) (by decide) m1 m2, kn.n5 hn' (a := 13064) (by decide) (by decide) m1 m2]
    exact d4 m m1 m2
theorem JJ.fs0 {n n' : Int} {C C' : Cd} {N N' : Nd} {A : Ad} {g : Int} (j : JJ n C N A) (g0 : 0 ≤ g) (g2 : g < (N 12000 41)) (hn : n ≤ n') (hc : ∀ m, 0 ≤ m → m < 150 → C' 2000 (150 * g + m) 6 = C 2000 (150 * g + m) 6) (hs : N' 13064 = N 13064) : ∀ m, 0 ≤ m → m < 150 → FS1 n' C' N' g m := fun m m1 m2 => by
  have q := (j.zn.2.2 g m g0 g2 m1 m2).up hn
  unfold FS1 Fdl at q ⊢
  rw [hc m m1 m2, hs]
  exact q
theorem JJ.grp0 {n n' : Int} {C C' : Cd} {N N' : Nd} {A A' : Ad} {g : Int} (j : JJ n C N A) (g0 : 0 ≤ g) (g2 : g < (N 12000 41)) (kc : KG g C C') (kn : MG g N N') (gr : GR C' N' g) (pk : PK g C C' N N') (ne : NE C' N' A') (hm : mcn N' g ≤ 4) (hn : n ≤ n') (hf : C' 1000 g 9 ≤ n') (hfs : ∀ m, 0 ≤ m → m < 150 → FS1 n' C' N' g m) : JJ n' C' N' A' := by
  obtain ⟨l, d1, d2, d3, d4⟩ := j.d
  have sc : N' 12000 = N 12000 := kn.n0 (by decide)
  refine ⟨j.jn.mg kn, j.c.mg kc kn, ⟨l, d1.eq (by rw [sc]) (fun m _ _ => by rw [kn.n0 (a := 13024) (by decide)]) (kn.n0 (by decide)), ⟨?_, d3, fun i hi => ?_⟩⟩, fun h h1 h2 => ?_, j.px.grp j.jn.g kc kn pk, ne, j.fn.grp g0 g2 kn, ⟨fun h m h1 h2 h3 h4 => by
    rw [sc] at h1
    rw [kc.c2 (show h ≠ g by omega) h3 h4]
    exact j.zn.1 h m h1 h2 h3 h4, fun h h1 h2 => by
    rw [sc] at h2
    by_cases e : h = g
    · rw [e]; exact hm
    · have q : mcn N' h = mcn N h := su_congr fun p p1 p2 => by
        rw [kn.n2 e (a := 13047) (by decide) (by decide) p1 (show p < 12 by omega)]
      rw [q]
      exact j.zn.2.1 h h1 h2, fun h m h1 h2 h3 h4 => by
    rw [sc] at h2
    by_cases e : h = g
    · rw [e]; exact hfs m h3 h4
    · have q := (j.zn.2.2 h m h1 h2 h3 h4).up hn
      unfold FS1 Fdl at q ⊢
      rw [kc.c2 e h3 h4, kn.n5 e (a := 13064) (by decide) (by decide) h3 h4]
      exact q⟩, by have := j.b.1; omega, by rw [sc]; have := j.b.2.1; omega, by rw [sc]; have := j.b.2.2.1; omega, fun h h1 h2 => ?_⟩
  · rw [kc _ _ _ (by unfold inG; omega)]; exact d2
  · rw [kc _ _ _ (by unfold inG; omega)]; exact d4 i hi
  · rw [sc] at h2
    by_cases e : h = g
    · rw [e]; exact gr
    · exact ⟨(j.gr h1 h2).1.other e j.jn.g kc kn, (j.gr h1 h2).2.other e j.jn.g (j.gr h1 h2).1 kc kn⟩
  · rw [sc] at h2
    by_cases e : h = g
    · rw [e]; exact hf
    · rw [kc.c1 e (by decide)]
      have := j.b.2.2.2 h h1 h2
      omega
theorem JJ.grp {n n' : Int} {C C' : Cd} {N N' : Nd} {A A' : Ad} {g : Int} (j : JJ n C N A) (g0 : 0 ≤ g) (g2 : g < (N 12000 41)) (kc : KG g C C') (kn : MG g N N') (gr : GR C' N' g) (pk : PK g C C' N N') (ne : NE C' N' A') (hH : N' 13044 = N 13044) (hn : n ≤ n') (hf : C' 1000 g 9 ≤ n') (hfs : ∀ m, 0 ≤ m → m < 150 → FS1 n' C' N' g m) : JJ n' C' N' A' := j.grp0 g0 g2 kc kn gr pk ne (by
  have x := (j.gr g0 g2).1.nu.2.2.1
  have y := gr.1.nu.2.2.1
  have p := pk.1
  have m := j.zn.2.1 g g0 g2
  rw [hH] at y
  omega) hn hf hfs
/-- what a step between hands, rows and dead letters keeps -/
def ST (g : Int) (C C' : Cd) (N N' : Nd) : Prop := KG g C C' ∧ MG g N N' ∧ (∀ b, b ≠ 2000 → b ≠ 3000 → b ≠ 3003 → b ≠ 3006 → b ≠ 17100 → b ≠ 17103 → b ≠ 17106 → C' b = C b) ∧ (∀ i j, j = 0 ∨ j = 5 ∨ j = 6 → C' 2000 i j = C 2000 i j) ∧ (∀ a, ¬ (13051 ≤ a ∧ a ≤ 13054) → ¬ (13059 ≤ a ∧ a ≤ 13063) → a ≠ 13046 → N' a = N a) ∧ ∀ m, 0 ≤ m → m < 150 → (Pd C N g m ↔ Pd C' N' g m)
theorem ST.rf {g : Int} {C : Cd} {N : Nd} : ST g C C N N := ⟨KG.rf, MG.rf, fun _ _ _ _ _ _ _ _ => rfl, fun _ _ _ => rfl, fun _ _ _ _ => rfl, fun _ _ _ => Iff.rfl⟩
theorem ST.tr {g : Int} {C C1 C2 : Cd} {N N1 N2 : Nd} (a : ST g C C1 N N1) (b : ST g C1 C2 N1 N2) : ST g C C2 N N2 := by
  obtain ⟨a1, a2, a3, a4, a5, a6⟩ := a
  obtain ⟨b1, b2, b3, b4, b5, b6⟩ := b
  exact ⟨a1.tr b1, a2.tr b2, fun b h1 h2 h3 h4 h5 h6 h7 => (b3 b h1 h2 h3 h4 h5 h6 h7).trans (a3 b h1 h2 h3 h4 h5 h6 h7), fun i j h => (b4 i j h).trans (a4 i j h), fun a h1 h2 h3 => (b5 a h1 h2 h3).trans (a5 a h1 h2 h3), fun m h1 h2 => (a6 m h1 h2).trans (b6 m h1 h2)⟩
theorem GIn.st {C C' : Cd} {N N' : Nd} {g : Int} (G : RG N) (a : GIn C N g) (s : ST g C C' N N') (hw' : ∀ m, 0 ≤ m → m < 150 → (C' 2000 (150 * g + m) 1 = 2 ∨ C' 2000 (150 * g + m) 1 = 3) → 0 < Fdl C g m) : GIn C' N' g := by
  obtain ⟨kc, kn, s3, s4, s5, s6⟩ := s
  have b5 := G.s.2.2.2.2.1
  have sc : N' 12000 = N 12000 := kn.n0 (by decide)
  have mP : N' 13021 = N 13021 := kn.n0 (by decide)
  have mO : N' 13026 = N 13026 := kn.n0 (by decide)
  have mK : N' 13022 = N 13022 := kn.n0 (by decide)
  have fd : ∀ m, Fdl C' g m = Fdl C g m := fun m => s4 _ _ (Or.inr (Or.inr rfl))
  have sq : ∀ p, So C' g p = So C g p := fun p => by
    show C' 9000 _ 5 = _
    rw [s3 9000 (by decide) (by decide) (by decide) (by decide) (by decide) (by decide) (by decide)]
  have o1 := s5 13055 (by decide) (by decide) (by decide)
  have o2 := s5 13057 (by decide) (by decide) (by decide)
  have o3 := s5 13058 (by decide) (by decide) (by decide)
  obtain ⟨x1, x2, x3, x4, x5, x6⟩ := a
  unfold GIn
  rw [sc, mP, mO, mK, o1, o2, o3]
  refine ⟨fun u v u1 u2 v1 v2 hp hc hq h1 h2 => ?_, fun v v1 v2 hc hg h1 h2 => ?_, fun u v u1 u2 v1 v2 h1 h2 h3 h4 h5 => ?_, fun u v u1 u2 v1 v2 h1 h2 h4 h5 => ?_, fun p hg => ?_, fun m m1 m2 => ?_⟩
  · rw [sq] at h1
    exact (s6 v v1 (by omega)).mp (x1 u v u1 u2 v1 v2 ((s6 u u1 (by omega)).mpr hp) (kn.can.mp hc) hq h1 h2)
  · rw [sq] at h1
    exact (s6 v v1 (by omega)).mp (x2 v v1 v2 (kn.can.mp hc) ((kn.gr g _).mp hg) h1 h2)
  · rw [fd] at h2 h3
    have pv := (s6 v v1 (by omega)).mpr (Or.inr h1)
    have wv : N 13059 (150 * g + v) = 1 := by
      rcases pv with pv | pv
      · omega
      · exact pv
    exact x3 u v u1 u2 v1 v2 wv h2 h3 h4 h5
  · rw [fd] at h1
    rw [fd, fd] at h2
    exact x4 u v u1 u2 v1 v2 h1 h2 h4 h5
  · rw [sq, kn.so]
    exact x5 p ((kn.gr g p).mp hg)
  · rw [fd, s3 1000 (by decide) (by decide) (by decide) (by decide) (by decide) (by decide) (by decide)]
    refine ⟨hw' m m1 m2, (x6 m m1 m2).2.1, (x6 m m1 m2).2.2.1, fun hp => ?_⟩
    rw [sq]
    exact (x6 m m1 m2).2.2.2 ((s6 m m1 m2).mpr hp)
theorem ST.pk {g : Int} {C C' : Cd} {N N' : Nd} (G : RG N) (s : ST g C C' N N') : PK g C C' N N' := by
  obtain ⟨kc, kn, s3, s4, s5, s6⟩ := s
  have b5 := G.s.2.2.2.2.1
  refine ⟨by rw [s5 13043 (by decide) (by decide) (by decide)]; exact Int.le_refl _, fun _ p hp => ⟨by rw [s5 13056 (by decide) (by decide) (by decide)], Or.inl (by rw [s5 13055 (by decide) (by decide) (by decide)]), fun _ => ⟨?_, fun b b1 b2 _ _ h => (s6 b b1 (by omega)).mp h⟩⟩⟩
  show C' 9000 _ 5 = _
  rw [s3 9000 (by decide) (by decide) (by decide) (by decide) (by decide) (by decide) (by decide)]
theorem NE.grp {C C' : Cd} {N N' : Nd} {A A' : Ad} {g : Int} (kn : MG g N N') (h : NE C N A) (h1 : N' 13044 = N 13044) (h2 : C' 17000 = C 17000) (hA : A'.1 = A.1) : NE C' N' A' := by
  have sc : N' 12000 = N 12000 := kn.n0 (by decide)
  exact h.eq (fun j _ _ _ _ => by rw [sc]) h1 h2 hA
theorem JJ.st {n n' : Int} {C C' : Cd} {N N' : Nd} {A A' : Ad} {g : Int} (j : JJ n C N A) (g0 : 0 ≤ g) (g2 : g < (N 12000 41)) (ga : GA C' N' g) (s : ST g C C' N N') (hw' : ∀ m, 0 ≤ m → m < 150 → (C' 2000 (150 * g + m) 1 = 2 ∨ C' 2000 (150 * g + m) 1 = 3) → 0 < Fdl C g m) (hn : n ≤ n') (hA : A'.1 = A.1) : JJ n' C' N' A' :=
  j.grp g0 g2 s.1 s.2.1 ⟨ga, (j.gr g0 g2).2.st j.jn.g s hw'⟩ (s.pk j.jn.g) (j.ne.grp s.2.1 (s.2.2.2.2.1 13044 (by decide) (by decide) (by decide)) (s.2.2.1 17000 (by decide) (by decide) (by decide) (by decide) (by decide) (by decide) (by decide)) hA) (s.2.2.2.2.1 13044 (by decide) (by decide) (by decide)) hn (by
    rw [s.2.2.1 1000 (by decide) (by decide) (by decide) (by decide) (by decide) (by decide) (by decide)]
    have := j.b.2.2.2 g g0 g2
    omega) (j.fs0 g0 g2 hn (fun m _ _ => s.2.2.2.1 _ 6 (Or.inr (Or.inr rfl))) (s.2.2.2.2.1 13064 (by decide) (by decide) (by decide)))
