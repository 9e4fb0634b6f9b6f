/-! PURE PART, 81: topic, the call -/
def tqC (C : Cd) (t a r c : Int) : Cd := uq (uq (uq (uq (uq (uq (uq (zq (zq C 10000 t) 21100 t) 10000 t 4 (21100 + t)) 10000 t 5 999) 10000 t 6 60) 10000 t 0 t) 10000 t 1 a) 10000 t 2 r) 10000 t 3 c
theorem tq_k {C : Cd} {t a r c b i j : Int} (h1 : ¬ (b = 10000 ∧ i = t)) (h2 : ¬ (b = 21100 ∧ i = t)) : tqC C t a r c b i j = C b i j := by
  unfold tqC
  rw [uq_s, if_neg (by omega), uq_s, if_neg (by omega), uq_s, if_neg (by omega), uq_s, if_neg (by omega), uq_s, if_neg (by omega), uq_s, if_neg (by omega), uq_s, if_neg (by omega), zq_s, if_neg (by omega), zq_s, if_neg (by omega)]
theorem CC.newT0 {C : Cd} {N : Nd} {P a r c : Int} (G : RG N) (cc : CC C N) : CC (tqC C ((N 12000 4)) a r c) (tp0 N ((N 12000 4)) P a r c) := by
  have k : ∀ b i j, ¬ (b = 10000 ∧ i = (N 12000 4)) → ¬ (b = 21100 ∧ i = (N 12000 4)) → tqC C ((N 12000 4)) a r c b i j = C b i j := fun b i j => tq_k
  have tt : ∀ p, 0 ≤ p → p < (N 12000 11) → N 13012 p ≠ (N 12000 4) := fun p p1 p2 => by have := (G.p p p1 p2).1; omega
  have eF : ∀ i, i ≠ (N 12000 4) → Jvm.Pilot.@@N@@.tp0 N ((N 12000 4)) P a r c 13007 i = N 13007 i := fun i hi => by
    unfold Jvm.Pilot.@@N@@.tp0
    simp only [up_s, up_s, true_and, false_and, and_true, and_false, if_true, if_false, ↓reduceIte, ↓Option.bind_some, Int.reduceEq, Int.reduceNe, Int.reduceLT, Int.reduceLE, gd_true, gd_false, bind_b, q10, eq_self, reduceCtorEq, not_true_eq_false, not_false_eq_true, ne_eq, hi]
  have eR : ∀ i, i ≠ (N 12000 4) → Jvm.Pilot.@@N@@.tp0 N ((N 12000 4)) P a r c 13006 i = N 13006 i := fun i hi => by
    unfold Jvm.Pilot.@@N@@.tp0
    simp only [up_s, up_s, true_and, false_and, and_true, and_false, if_true, if_false, ↓reduceIte, ↓Option.bind_some, Int.reduceEq, Int.reduceNe, Int.reduceLT, Int.reduceLE, gd_true, gd_false, bind_b, q10, eq_self, reduceCtorEq, not_true_eq_false, not_false_eq_true, ne_eq, hi]
  have eP : ∀ i, i ≠ (N 12000 4) → Jvm.Pilot.@@N@@.tp0 N ((N 12000 4)) P a r c 13005 i = N 13005 i := fun i hi => by
    unfold Jvm.Pilot.@@N@@.tp0
    simp only [up_s, up_s, true_and, false_and, and_true, and_false, if_true, if_false, ↓reduceIte, ↓Option.bind_some, Int.reduceEq, Int.reduceNe, Int.reduceLT, Int.reduceLE, gd_true, gd_false, bind_b, q10, eq_self, reduceCtorEq, not_true_eq_false, not_false_eq_true, ne_eq, hi]
  have eC : ∀ i, i ≠ (N 12000 4) → Jvm.Pilot.@@N@@.tp0 N ((N 12000 4)) P a r c 14008 i = N 14008 i := fun i hi => by
    unfold Jvm.Pilot.@@N@@.tp0
    simp only [up_s, up_s, true_and, false_and, and_true, and_false, if_true, if_false, ↓reduceIte, ↓Option.bind_some, Int.reduceEq, Int.reduceNe, Int.reduceLT, Int.reduceLE, gd_true, gd_false, bind_b, q10, eq_self, reduceCtorEq, not_true_eq_false, not_false_eq_true, ne_eq, hi]
  have eA : ∀ i, i ≠ (N 12000 4) → Jvm.Pilot.@@N@@.tp0 N ((N 12000 4)) P a r c 13009 i = N 13009 i := fun i hi => by
    unfold Jvm.Pilot.@@N@@.tp0
    simp only [up_s, up_s, true_and, false_and, and_true, and_false, if_true, if_false, ↓reduceIte, ↓Option.bind_some, Int.reduceEq, Int.reduceNe, Int.reduceLT, Int.reduceLE, gd_true, gd_false, bind_b, q10, eq_self, reduceCtorEq, not_true_eq_false, not_false_eq_true, ne_eq, hi]
  have eS : ∀ i, i ≠ (N 12000 4) → Jvm.Pilot.@@N@@.tp0 N ((N 12000 4)) P a r c 13010 i = N 13010 i := fun i hi => by
    unfold Jvm.Pilot.@@N@@.tp0
    simp only [up_s, up_s, true_and, false_and, and_true, and_false, if_true, if_false, ↓reduceIte, ↓Option.bind_some, Int.reduceEq, Int.reduceNe, Int.reduceLT, Int.reduceLE, gd_true, gd_false, bind_b, q10, eq_self, reduceCtorEq, not_true_eq_false, not_false_eq_true, ne_eq, hi]
  refine ⟨cc.b, cc.i, fun i i1 i2 => ?_, cc.p, fun p q p1 p2 q1 q2 => ?_, cc.l, fun p q p1 p2 q1 q2 q3 => ?_, cc.m, cc.x⟩
  · have i2' : i < (N 12000 4) := i2
    rw [eP i (by omega), eR i (by omega), eC i (by omega), eA i (by omega), eS i (by omega), eF i (by omega)]
    have e : ∀ j, tqC C ((N 12000 4)) a r c 10000 i j = C 10000 i j := fun j => k _ _ _ (by omega) (by omega)
    have e2 : ∀ j, tqC C ((N 12000 4)) a r c 21100 i j = C 21100 i j := fun j => k _ _ _ (by omega) (by omega)
    rw [e, e, e, e, e, e, e]
    obtain ⟨q1, q2, q3, q4, q5, q6, q7, q8⟩ := cc.t i i1 i2'
    exact ⟨q1, q2, q3, q4, q5, q6, q7, fun j j1 j2 => by rw [e2]; exact q8 j j1 j2⟩
  · have p2' : p < (N 12000 11) := p2
    show C 23000 p q = if q < Jvm.Pilot.@@N@@.tp0 N ((N 12000 4)) P a r c 13006 (N 13012 p) then _ else _
    rw [eR _ (tt p p1 p2')]
    exact cc.w p q p1 p2' q1 q2
  · have p2' : p < (N 12000 11) := p2
    have q3' : q < Jvm.Pilot.@@N@@.tp0 N ((N 12000 4)) P a r c 13006 (N 13012 p) := q3
    rw [eR _ (tt p p1 p2')] at q3'
    have z := cc.r p q p1 p2' q1 q2 q3'
    have eb : brk (Jvm.Pilot.@@N@@.tp0 N ((N 12000 4)) P a r c) p q = brk N p q := by
      unfold brk
      show (N 13012 p + p - Jvm.Pilot.@@N@@.tp0 N ((N 12000 4)) P a r c 13007 (N 13012 p) + q) % 3 = _
      rw [eF _ (tt p p1 p2')]
    rw [eb]
    exact z
theorem CC.newT {C2 : Cd} {N : Nd} {a r c : Int} (t2 : (N 12000 4) < 3) (t0 : 0 ≤ (N 12000 4)) (cc : CC C2 (tpI (tp0 N ((N 12000 4)) ((N 12000 11)) a r c) ((N 12000 4)) ((N 12000 11)) r a)) (tt : TTo C2 ((N 12000 4)) ((N 12000 11)) a r c a) (hr : 1 ≤ a) (ha : a ≤ 3) : CC (uq (uq C2 25000 0 ((N 12000 4)) (10000 + (N 12000 4))) 11000 0 6 ((N 12000 4) + 1)) (tpN N a r c) := by
  have eP : ∀ b : Int, b ≠ 12000 → Jvm.Pilot.@@N@@.tpN N a r c b = tpI (tp0 N ((N 12000 4)) ((N 12000 11)) a r c) ((N 12000 4)) ((N 12000 11)) r a b := fun b hb => by
    funext k
    unfold Jvm.Pilot.@@N@@.tpN
    rw [up_s, if_neg (fun z => hb z.1)]
  have e0 : ∀ k, k ≠ 4 → Jvm.Pilot.@@N@@.tpN N a r c 12000 k = tpI (tp0 N ((N 12000 4)) ((N 12000 11)) a r c) ((N 12000 4)) ((N 12000 11)) r a 12000 k := fun k hk => by
    unfold Jvm.Pilot.@@N@@.tpN
    rw [up_s, if_neg (fun z => hk z.2)]
  have e4 : Jvm.Pilot.@@N@@.tpN N a r c 12000 4 = (N 12000 4) + 1 := by rw [tn_sc, if_pos rfl]
  have o4 : tpI (tp0 N ((N 12000 4)) ((N 12000 11)) a r c) ((N 12000 4)) ((N 12000 11)) r a 12000 4 = (N 12000 4) := by rw [ti_k, if_neg (by decide)]; rfl
  have k : ∀ b i j, ¬ (b = 25000 ∧ i = 0 ∧ j = (N 12000 4)) → ¬ (b = 11000 ∧ i = 0 ∧ j = 6) → uq (uq C2 25000 0 ((N 12000 4)) (10000 + (N 12000 4))) 11000 0 6 ((N 12000 4) + 1) b i j = C2 b i j := fun b i j h1 h2 => by
    rw [uq_s, if_neg h2, uq_s, if_neg h1]
  obtain ⟨⟨b0, b1, b2, b3, b4, b5⟩, b6, b7, b8, b9, b10, b12, b13, b14, b15⟩ := cc.b
  have k11 : ∀ j, j ≠ 6 → uq (uq C2 25000 0 ((N 12000 4)) (10000 + (N 12000 4))) 11000 0 6 ((N 12000 4) + 1) 11000 0 j = C2 11000 0 j := fun j hj => k _ _ _ (by omega) (by omega)
  refine ⟨⟨⟨?_, ?_, ?_, ?_, ?_, ?_⟩, ?_, ?_, ?_, ?_, ?_, ?_, ?_, ?_, ?_⟩, ⟨fun i i1 i2 => ?_, ?_, ?_, ?_, ?_⟩, fun i i1 i2 => ?_, ?_, ?_, ?_, ?_, ?_, ?_⟩
  · rw [k11 _ (by decide)]; exact b0
  · rw [k11 _ (by decide)]; exact b1
  · rw [k11 _ (by decide)]; exact b2
  · rw [k11 _ (by decide)]; exact b3
  · rw [k11 _ (by decide)]; exact b4
  · rw [k11 _ (by decide)]; exact b5
  · rw [e4, uq_s, if_pos ⟨rfl, rfl, rfl⟩]
  · rw [k11 _ (by decide), e0 _ (by decide)]; exact b7
  · rw [k11 _ (by decide), e0 _ (by decide)]; exact b8
  · rw [k11 _ (by decide), e0 _ (by decide)]; exact b9
  · rw [k11 _ (by decide), e0 _ (by decide)]; exact b10
  · rw [k11 _ (by decide), e0 _ (by decide)]; exact b12
  · rw [k11 _ (by decide), e0 _ (by decide)]; exact b13
  · rw [k11 _ (by decide), e0 _ (by decide)]; exact b14
  · rw [k11 _ (by decide), e0 _ (by decide)]; exact b15
  · have q := cc.i.1 i i1 i2
    rw [o4] at q
    rw [e4, uq_s, if_neg (by omega), uq_s]
    by_cases e : i = (N 12000 4)
    · rw [if_pos ⟨rfl, rfl, e⟩, if_pos (by omega), e]
    · rw [if_neg (fun z => e z.2.2), q]
      by_cases e2 : i < (N 12000 4)
      · rw [if_pos e2, if_pos (by omega)]
      · rw [if_neg e2, if_neg (by omega)]
  · rw [e0 _ (by decide)]
    exact fun i i1 i2 => by rw [k _ _ _ (by omega) (by omega)]; exact cc.i.2.1 i i1 i2
  · rw [e0 _ (by decide)]
    exact fun i i1 i2 => by rw [k _ _ _ (by omega) (by omega)]; exact cc.i.2.2.1 i i1 i2
  · rw [e0 _ (by decide)]
    exact fun i i1 i2 => by rw [k _ _ _ (by omega) (by omega)]; exact cc.i.2.2.2.1 i i1 i2
  · rw [e0 _ (by decide)]
    exact fun i i1 i2 => by rw [k _ _ _ (by omega) (by omega)]; exact cc.i.2.2.2.2 i i1 i2
  · rw [e4] at i2
    have e : ∀ j, uq (uq C2 25000 0 ((N 12000 4)) (10000 + (N 12000 4))) 11000 0 6 ((N 12000 4) + 1) 10000 i j = C2 10000 i j := fun j => k _ _ _ (by omega) (by omega)
    have e2 : ∀ j, uq (uq C2 25000 0 ((N 12000 4)) (10000 + (N 12000 4))) 11000 0 6 ((N 12000 4) + 1) 21100 i j = C2 21100 i j := fun j => k _ _ _ (by omega) (by omega)
    rw [e, e, e, e, e, e, e]
    by_cases et : i = (N 12000 4)
    · subst et
      obtain ⟨⟨u0, u1, u2, u3, u4, u5, u6⟩, uo⟩ := tt
      rw [tn_tP, if_pos rfl, tn_tR, if_pos rfl, tn_tC, if_pos rfl, tn_tA, if_pos rfl, tn_tS, if_pos rfl, tn_tF, if_pos rfl]
      exact ⟨u0, u1, u2, u3, u4, u5, u6, fun j j1 j2 => by rw [e2]; exact uo j j1 j2⟩
    · rw [eP 13005 (by decide), eP 13006 (by decide), eP 14008 (by decide), eP 13009 (by decide), eP 13010 (by decide), eP 13007 (by decide)]
      obtain ⟨q1, q2, q3, q4, q5, q6, q7, q8⟩ := cc.t i i1 (by rw [o4]; omega)
      exact ⟨q1, q2, q3, q4, q5, q6, q7, fun j j1 j2 => by rw [e2]; exact q8 j j1 j2⟩
  · unfold CP
    rw [e0 _ (by decide), eP 13012 (by decide), eP 13013 (by decide), eP 13015 (by decide)]
    intro p p1 p2
    have e : ∀ j, uq (uq C2 25000 0 ((N 12000 4)) (10000 + (N 12000 4))) 11000 0 6 ((N 12000 4) + 1) 6000 p j = C2 6000 p j := fun j => k _ _ _ (by omega) (by omega)
    rw [e, e, e, e, e, e]
    exact cc.p p p1 p2
  · unfold CW
    rw [e0 _ (by decide), eP 13012 (by decide), eP 13006 (by decide)]
    intro p q p1 p2 q1 q2
    rw [k _ _ _ (by omega) (by omega)]
    exact cc.w p q p1 p2 q1 q2
  · unfold CL
    rw [e0 _ (by decide), eP 13018 (by decide)]
    intro p q p1 p2 q1 q2
    rw [k _ _ _ (by omega) (by omega)]
    exact cc.l p q p1 p2 q1 q2
  · unfold CR brk
    rw [e0 _ (by decide), eP 13012 (by decide), eP 13006 (by decide), eP 13007 (by decide), eP 13016 (by decide), eP 13017 (by decide), eP 13014 (by decide)]
    intro p q p1 p2 q1 q2 q3
    have e : ∀ j, uq (uq C2 25000 0 ((N 12000 4)) (10000 + (N 12000 4))) 11000 0 6 ((N 12000 4) + 1) 8000 (3 * p + q) j = C2 8000 (3 * p + q) j := fun j => k _ _ _ (by omega) (by omega)
    rw [e, e, e, e, e]
    exact cc.r p q p1 p2 q1 q2 q3
  · unfold CM
    rw [e0 _ (by decide), eP 13020 (by decide), eP 13021 (by decide), eP 13022 (by decide), eP 13023 (by decide), eP 13028 (by decide), eP 13029 (by decide), eP 13024 (by decide), eP 13025 (by decide), eP 13026 (by decide), eP 13027 (by decide)]
    intro m h1 h2
    have e : ∀ j, uq (uq C2 25000 0 ((N 12000 4)) (10000 + (N 12000 4))) 11000 0 6 ((N 12000 4) + 1) 5000 m j = C2 5000 m j := fun j => k _ _ _ (by omega) (by omega)
    simp only [e]
    exact cc.m m h1 h2
  · unfold CX
    rw [e0 _ (by decide), eP 13031 (by decide), eP 13032 (by decide), eP 13033 (by decide), eP 14034 (by decide)]
    intro m h1 h2
    have e : ∀ j, uq (uq C2 25000 0 ((N 12000 4)) (10000 + (N 12000 4))) 11000 0 6 ((N 12000 4) + 1) 7000 m j = C2 7000 m j := fun j => k _ _ _ (by omega) (by omega)
    simp only [e]
    exact cc.x m h1 h2
theorem JJ.topic {n : Int} {C C2 : Cd} {N : Nd} {A A2 : Ad} {a r c : Int} (j : JJ n C N A) (t3 : (N 12000 4) < 3) (a1 : 1 ≤ a) (a3 : a ≤ 3) (r1 : 1 ≤ r) (r2 : r ≤ 3) (hc : 0 ≤ c ∧ c ≤ 1) (cc : CC C2 (tpI (tp0 N ((N 12000 4)) ((N 12000 11)) a r c) ((N 12000 4)) ((N 12000 11)) r a)) (tt : TTo C2 ((N 12000 4)) ((N 12000 11)) a r c a) (fr : TFr C C2) (ad : TAd A A2 ((N 12000 4)) ((N 12000 11)) a) : JJ (n + 1) (uq (uq C2 25000 0 ((N 12000 4)) (10000 + (N 12000 4))) 11000 0 6 ((N 12000 4) + 1)) (tpN N a r c) A2 := by
  obtain ⟨l, d1, d2⟩ := j.d
  have G := j.jn.g
  have s1 := G.s.1
  have s2 := G.s.2.1
  have s3 := G.s.2.2.1
  have s4 := G.s.2.2.2.1
  have s5 := G.s.2.2.2.2.1
  have pl := parts_le G
  have jn := j.jn.newT j.fn t3 a1 a3 r1 r2 hc
  have e4 : tpN N a r c 12000 4 = (N 12000 4) + 1 := by rw [tn_sc, if_pos rfl]
  have e11 : tpN N a r c 12000 11 = (N 12000 11) + a := by rw [tn_sc, if_neg (by decide), if_pos rfl]
  have es : ∀ k, k ≠ 4 → k ≠ 11 → tpN N a r c 12000 k = N 12000 k := fun k h1 h2 => by rw [tn_sc, if_neg h1, if_neg h2]
  have m1 : ∀ b, (b = 13015 ∨ b = 13016 ∨ 13020 ≤ b) → (b < 14000 ∨ b = 14034) → tpN N a r c b = N b := fun b => tn_m
  have c3 := CC.newT t3 s1.1 cc tt a1 a3
  have k : ∀ b i z, b ≠ 6000 → b ≠ 23000 → b ≠ 20100 → b ≠ 8000 → b ≠ 21100 → b ≠ 21000 → b ≠ 10000 → b ≠ 25000 → ¬ (b = 11000 ∧ (z = 6 ∨ z = 7)) → uq (uq C2 25000 0 ((N 12000 4)) (10000 + (N 12000 4))) 11000 0 6 ((N 12000 4) + 1) b i z = C b i z := fun b i z h1 h2 h3 h4 h5 h6 h7 h8 h9 => by
    rw [uq_s, if_neg (by omega), uq_s, if_neg (by omega)]
    exact fr b i z h1 h2 h3 h4 h5 h6 h7 h8 h9
  generalize uq (uq C2 25000 0 ((N 12000 4)) (10000 + (N 12000 4))) 11000 0 6 ((N 12000 4) + 1) = C3 at c3 k ⊢
  have sg : SG C C3 N (tpN N a r c) := ⟨fun b hb => by
    have z := gcell_ne hb
    funext i q
    exact k b i q (by omega) (by omega) (by omega) (by omega) (by omega) (by omega) (by omega) (by unfold gcell at hb; simp only [Bool.or_eq_true, beq_iff_eq] at hb; omega) (by omega), fun b hb => by
    have z := garr_b hb
    exact m1 b (by omega) (by omega)⟩
  have hr : ∀ g p, 0 ≤ g → g < (N 12000 41) → (gR (tpN N a r c) g p ↔ gR N g p) := fun g p g1 g2 => by
    have nu := (j.gr g1 g2).1.nu.1.2.2
    unfold gR
    rw [e11, m1 13042 (by decide) (by decide), tn_t]
    by_cases e : (N 12000 11) ≤ p
    · constructor
      · rintro ⟨q1, q2, q3⟩
        rw [if_pos (by omega)] at q3
        have := nu _ s1.1 t3 q3
        omega
      · rintro ⟨q1, q2, q3⟩
        omega
    · rw [if_neg (by omega)]
      constructor
      · rintro ⟨q1, q2, q3⟩
        exact ⟨q1, by omega, q3⟩
      · rintro ⟨q1, q2, q3⟩
        exact ⟨q1, by omega, q3⟩
  have k11 : ∀ z, z ≠ 6 → z ≠ 7 → C3 11000 0 z = C 11000 0 z := fun z h1 h2 => k _ _ _ (by decide) (by decide) (by decide) (by decide) (by decide) (by decide) (by decide) (by decide) (by omega)
  have kb : ∀ b, b = 7000 ∨ b = 13500 ∨ b = 20001 → ∀ i z, C3 b i z = C b i z := fun b hb i z => k b i z (by omega) (by omega) (by omega) (by omega) (by omega) (by omega) (by omega) (by omega) (by omega)
  have sx : SX C C3 N (tpN N a r c) := ⟨fun x z _ => kb _ (by decide) x z, by funext i z; exact kb _ (by decide) i z, m1 _ (by decide) (by decide), m1 _ (by decide) (by decide), m1 _ (by decide) (by decide), m1 _ (by decide) (by decide), m1 _ (by decide) (by decide)⟩
  have e41 := es 41 (by decide) (by decide)
  have e30 := es 30 (by decide) (by decide)
  refine j.step jn.1 c3 ⟨l, d1.eq (es 19 (by decide) (by decide)) (fun m _ _ => by rw [m1 13024 (by decide) (by decide)]) (m1 _ (by decide) (by decide)), ⟨(k11 11 (by decide) (by decide)).trans d2.1, d2.2.1, fun i hi => (kb _ (by decide) _ _).trans (d2.2.2 i hi)⟩⟩ sg jn.2 hr (by rw [e4]; omega) (by rw [es 1 (by decide) (by decide)]; exact Int.le_refl _) e41 (j.px.step jn.1.g sg sx jn.2 hr e41 e30 (fun x _ _ h => by rw [m1 13033 (by decide) (by decide)] at h; exact h)) ?_ ?_ (by omega) ⟨by rw [es 1 (by decide) (by decide)]; have := j.b.2.1; omega, by rw [es 40 (by decide) (by decide)]; have := j.b.2.2.1; omega⟩
  · obtain ⟨n1, n2, n3, n4, n5, n6, n7⟩ := j.ne
    have a9 : (N 12000 11) + a ≤ 9 := by omega
    unfold NE
    rw [e4, e11, e30, e41, es 19 (by decide) (by decide), m1 13044 (by decide) (by decide), sg.1 17000 (by decide)]
    refine ⟨fun t t1 t2 => ?_, fun p p1 p2 => ?_, fun x x1 x2 => ?_, fun m h1 h2 => ?_, fun g h1 h2 => ?_, fun g q h1 h2 q1 q2 hq => ?_, fun g m h1 h2 q1 q2 hq => ?_⟩
    · have q := n1 t (by omega) t2
      rw [ad _ (by omega) (by omega) (by omega) (by omega) (by omega) (by omega), ad _ (by omega) (by omega) (by omega) (by omega) (by omega) (by omega)]
      exact q
    · have q := n2 p (by omega) p2
      refine ⟨?_, ?_, ?_, fun z z1 z2 => ?_⟩
      · rw [ad _ (by omega) (by omega) (by omega) (by omega) (by omega) (by omega)]; exact q.1
      · rw [ad _ (by omega) (by omega) (by omega) (by omega) (by omega) (by omega)]; exact q.2.1
      · rw [ad _ (by omega) (by omega) (by omega) (by omega) (by omega) (by omega)]; exact q.2.2.1
      · rw [ad _ (by omega) (by omega) (by omega) (by omega) (by omega) (by omega)]; exact q.2.2.2 z z1 z2
    · have q := n3 x x1 x2
      rw [ad _ (by omega) (by omega) (by omega) (by omega) (by omega) (by omega), ad _ (by omega) (by omega) (by omega) (by omega) (by omega) (by omega)]
      exact q
    · have q := n4 m h1 h2
      rw [ad _ (by omega) (by omega) (by omega) (by omega) (by omega) (by omega)]
      exact q
    · have q := n5 g h1 h2
      refine ⟨?_, ?_, ?_, ?_, ?_, ?_, ?_, ?_, fun z z1 z2 => ?_⟩ <;> rw [ad _ (by omega) (by omega) (by omega) (by omega) (by omega) (by omega)]
      · exact q.1
      · exact q.2.1
      · exact q.2.2.1
      · exact q.2.2.2.1
      · exact q.2.2.2.2.1
      · exact q.2.2.2.2.2.1
      · exact q.2.2.2.2.2.2.1
      · exact q.2.2.2.2.2.2.2.1
      · exact q.2.2.2.2.2.2.2.2 z z1 z2
    · have q := n6 g q h1 h2 q1 q2 hq
      rw [ad _ (by omega) (by omega) (by omega) (by omega) (by omega) (by omega), ad _ (by omega) (by omega) (by omega) (by omega) (by omega) (by omega), ad _ (by omega) (by omega) (by omega) (by omega) (by omega) (by omega)]
      exact q
    · have q := n7 g m h1 h2 q1 q2 hq
      rw [ad _ (by omega) (by omega) (by omega) (by omega) (by omega) (by omega)]
      exact q
  · obtain ⟨f1, f2, f3, f4, f5⟩ := j.fn
    unfold FN
    rw [e11, e30, e41, es 19 (by decide) (by decide), m1 13015 (by decide) (by decide), m1 13016 (by decide) (by decide), m1 13032 (by decide) (by decide), m1 14034 (by decide) (by decide), m1 13035 (by decide) (by decide), m1 13028 (by decide) (by decide), m1 13033 (by decide) (by decide), sg.2 13043 (by decide), sg.2 13044 (by decide), sg.2 13045 (by decide), sg.2 13046 (by decide), sg.2 13047 (by decide), sg.2 13051 (by decide), sg.2 13057 (by decide), sg.2 13058 (by decide), sg.2 13059 (by decide), sg.2 13062 (by decide), sg.2 13064 (by decide)]
    exact ⟨fun p p1 p2 => f1 p (by omega) p2, f2, f3, f4, f5⟩
theorem q_topic {n : Int} {C : Cd} {N : Nd} {A : Ad} {a r c : Int} (hc : c = 0 ∨ c = 1) (j : JJ n C N A) : SR n C N A (p_G_topic (mk C N A) 11000 a r c 15000) (fun M => p_X11_topic M 12000 a r c) := by
  have G := j.jn.g
  have s1 := G.s.1
  have s2 := G.s.2.1
  have pl := parts_le G
  have b6 : C 11000 0 6 = (N 12000 4) := j.c.b.2.1
  have b13 : C 11000 0 13 = (N 12000 2) := j.c.b.2.2.2.2.2.2.2.1
  have b0 : C 11000 0 0 = 25000 := j.c.b.1.1
  unfold p_G_topic p_X10_topic
  by_cases h1 : 1 ≤ a ∧ a ≤ 3
  · by_cases h2 : 1 ≤ r ∧ r ≤ 3
    · by_cases h3 : (N 12000 4) < 3
      · have h3' : ¬ (N 12000 4) = 3 := by omega
        by_cases h4 : (N 12000 2) = 7
        · have jz : JJ n C (up N 12000 0 0) A := j.thrown
          obtain ⟨n1, n2, -⟩ := j.ne
          have ad := n1 _ (Int.le_refl _) h3
          have e1 : 21100 + (10000 + (N 12000 4) - 10000) = 21100 + (N 12000 4) := by omega
          have a2 : (alA A (10000 + (N 12000 4)) 7).1 (21100 + (N 12000 4)) = 0 := by rw [ad_al (by omega)]; exact ad.2
          have c0 : CC (tqC C ((N 12000 4)) a r c) (tp0 (up N 12000 0 0) ((N 12000 4)) ((N 12000 11)) a r c) := CC.newT0 (N := up N 12000 0 0) j.z j.c
          have q : ∀ i, tqC C ((N 12000 4)) a r c 10000 ((N 12000 4)) i = if i = 3 then c else if i = 2 then r else if i = 1 then a else if i = 0 then (N 12000 4) else if i = 6 then 60 else if i = 5 then 999 else if i = 4 then 21100 + (N 12000 4) else 0 := fun i => by
            unfold tqC
            simp only [uq_s, zq_s, up_s, true_and, false_and, and_true, and_false, if_true, if_false, ↓reduceIte, ↓Option.bind_some, Int.reduceEq, Int.reduceNe, Int.reduceLT, Int.reduceLE, gd_true, gd_false, bind_b, q10, eq_self, reduceCtorEq, not_true_eq_false, not_false_eq_true, ne_eq]
          have lp1 := c_tpLoop (C0 := C) (N0 := N) (A0 := A) (C := tqC C ((N 12000 4)) a r c) (A := alA (alA A (10000 + (N 12000 4)) 7) (21100 + (N 12000 4)) 3) (t := (N 12000 4)) (P := (N 12000 11)) (a := a) (r := r) (c := c) c0 s1.1 h3 rfl rfl s2.1 h1.1 h1.2 (by omega) h2.1 h2.2 (by unfold tp0; simp only [up_s, up_s, true_and, false_and, and_true, and_false, if_true, if_false, ↓reduceIte, ↓Option.bind_some, Int.reduceEq, Int.reduceNe, Int.reduceLT, Int.reduceLE, gd_true, gd_false, bind_b, q10, eq_self, reduceCtorEq, not_true_eq_false, not_false_eq_true, ne_eq]) (by unfold tp0; simp only [up_s, up_s, true_and, false_and, and_true, and_false, if_true, if_false, ↓reduceIte, ↓Option.bind_some, Int.reduceEq, Int.reduceNe, Int.reduceLT, Int.reduceLE, gd_true, gd_false, bind_b, q10, eq_self, reduceCtorEq, not_true_eq_false, not_false_eq_true, ne_eq]) (fun p p1 p2 => j.fn.1 p p1 p2) (fun p p1 p2 => n2 p p1 p2) ⟨by rw [q, q, q, q, q, q, q]; exact ⟨rfl, rfl, rfl, rfl, rfl, rfl, rfl⟩, fun i i1 i2 => by
            rw [if_neg (by omega)]
            unfold tqC
            simp only [uq_s, zq_s, up_s, true_and, false_and, and_true, and_false, if_true, if_false, ↓reduceIte, ↓Option.bind_some, Int.reduceEq, Int.reduceNe, Int.reduceLT, Int.reduceLE, gd_true, gd_false, bind_b, q10, eq_self, reduceCtorEq, not_true_eq_false, not_false_eq_true, ne_eq]⟩ (fun b i z z1 z2 z3 z4 z5 z6 z7 z8 z9 => tq_k (by omega) (by omega)) (fun x x1 x2 _ _ _ _ => by rw [ad_al x2, ad_al x1])
          obtain ⟨M, l1, C2, A2, rfl, cc, tt, fr, td⟩ := lp1
          have jj := jz.topic (C2 := C2) (A2 := A2) (a := a) (r := r) (c := c) h3 h1.1 h1.2 h2.1 h2.2 (by omega) cc tt fr td
          have f0 : C2 11000 0 0 = 25000 := cc.b.1.1
          have f6 : C2 11000 0 6 = (N 12000 4) := cc.b.2.1
          have f10 : C2 10000 ((N 12000 4)) 0 = (N 12000 4) := tt.1.1
          have wt : w ((N 12000 4) + 1) = (N 12000 4) + 1 := w_eq (by omega) (by omega)
          refine ⟨0, uq (uq (uq C2 25000 0 ((N 12000 4)) (10000 + (N 12000 4))) 11000 0 6 ((N 12000 4) + 1)) 15000 0 0 ((N 12000 4)), A2, ?_, (N 12000 4), tpN (up N 12000 0 0) a r c, ?_, ?_, fun _ => rfl, jj.out⟩
          · have z6 : zq C 10000 ((N 12000 4)) 11000 0 6 = (N 12000 4) := by rw [zq_s, if_neg (by omega)]; exact b6
            have l1' : lp (b_X10_topic_58 a 11000 (10000 + (N 12000 4))) 1000 (0, mk (uq (uq (uq (uq (uq (uq (uq (zq (zq C 10000 ((N 12000 4))) 21100 ((N 12000 4))) 10000 ((N 12000 4)) 4 (21100 + (N 12000 4))) 10000 ((N 12000 4)) 5 999) 10000 ((N 12000 4)) 6 60) 10000 ((N 12000 4)) 0 ((N 12000 4))) 10000 ((N 12000 4)) 1 a) 10000 ((N 12000 4)) 2 r) 10000 ((N 12000 4)) 3 c) N (alA (alA A (10000 + (N 12000 4)) 7) (21100 + (N 12000 4)) 3)) = some (mk C2 N A2) := l1
            unfold p_X9_init
            simp (disch := first | omega | assumption) only [aok, up_s, true_and, false_and, and_true, and_false, if_true, if_false, ↓reduceIte, ↓Option.bind_some, Int.reduceEq, Int.reduceNe, Int.reduceLT, Int.reduceLE, gd_true, gd_false, bind_b, q10, eq_self, reduceCtorEq, not_true_eq_false, not_false_eq_true, ne_eq, cr_11000, cr_15000, cr_16000, cr_20000, cr_20001, cr_21000, cr_22000, cr_25000, cr_1000, cr_2000, cr_3000, cr_3003, cr_3006, cr_4000, cr_5000, cr_6000, cr_7000, cr_8000, cr_9000, cr_10000, cr_13500, cr_17000, cr_17100, cr_17103, cr_17106, cr_19000, cr_20100, cr_21100, cr_23000, cr_24000, cw_11000, cw_15000, cw_16000, cw_20000, cw_20001, cw_21000, cw_22000, cw_25000, cw_1000, cw_2000, cw_3000, cw_3003, cw_3006, cw_4000, cw_5000, cw_6000, cw_7000, cw_8000, cw_9000, cw_10000, cw_13500, cw_17000, cw_17100, cw_17103, cw_17106, cw_19000, cw_20100, cw_21100, cw_23000, cw_24000, lc_13500, lc_15000, lc_16000, lc_17000, lc_17100, lc_17103, lc_17106, lc_19000, lc_20000, lc_20001, lc_20100, lc_21000, lc_21100, lc_22000, lc_23000, lc_24000, lc_25000, gd_t, w_eq, thT, thU, psT, psU, hnT, thr_mk, ↓Option.bind_some, c_within, h1, h2, b6, b13, h3, h4, al_10000, ad.1, z6, e1, al_21100, a2, l1', f0, f6, uq_s, f10, wt]
          · have ml := m_tpLoop (C := uq (uq (uq C2 25000 0 ((N 12000 4)) (10000 + (N 12000 4))) 11000 0 6 ((N 12000 4) + 1)) 15000 0 0 ((N 12000 4))) (N := tp0 (up N 12000 0 0) ((N 12000 4)) ((N 12000 11)) a r c) (A := A2) (t := (N 12000 4)) (P := (N 12000 11)) (a := a) (r := r) rfl s2.1 h1.1 h1.2 (by omega) h2.1 h2.2
            have ec : ian c 1 = c := by rcases hc with rfl | rfl <;> decide
            have e4 : tpI (tp0 (up N 12000 0 0) ((N 12000 4)) ((N 12000 11)) a r c) ((N 12000 4)) ((N 12000 11)) r a 12000 4 = (N 12000 4) := by rw [ti_k, if_neg (by decide)]; rfl
            have ml' : lp (b_X11_topic_121 a 12000 ((N 12000 4)) r) 1000 (0, mk (uq (uq (uq C2 25000 0 ((N 12000 4)) (10000 + (N 12000 4))) 11000 0 6 ((N 12000 4) + 1)) 15000 0 0 ((N 12000 4))) (up (up (up (up (up (up (up N 12000 0 0) 13005 ((N 12000 4)) a) 13006 ((N 12000 4)) r) 13007 ((N 12000 4)) ((N 12000 11))) 14008 ((N 12000 4)) c) 13009 ((N 12000 4)) 999) 13010 ((N 12000 4)) 60) A2) = some (mk (uq (uq (uq C2 25000 0 ((N 12000 4)) (10000 + (N 12000 4))) 11000 0 6 ((N 12000 4) + 1)) 15000 0 0 ((N 12000 4))) (tpI (tp0 (up N 12000 0 0) ((N 12000 4)) ((N 12000 11)) a r c) ((N 12000 4)) ((N 12000 11)) r a) A2) := ml
            unfold p_X11_topic
            simp (disch := omega) only [aok, up_s, true_and, false_and, and_true, and_false, if_true, if_false, ↓reduceIte, ↓Option.bind_some, Int.reduceEq, Int.reduceNe, Int.reduceLT, Int.reduceLE, gd_true, gd_false, bind_b, q10, eq_self, reduceCtorEq, not_true_eq_false, not_false_eq_true, ne_eq, pt_0, pt_1, pt_2, pt_3, pt_4, pt_5, pt_6, pt_7, pt_8, pt_9, pt_10, pt_11, pt_12, pt_13, pt_14, pt_15, pt_16, pt_17, pt_18, pt_19, pt_20, pt_21, pt_22, pt_23, pt_24, pt_25, pt_26, pt_27, pt_28, pt_29, pt_30, pt_31, pt_32, pt_33, pt_34, pt_35, pt_36, pt_37, pt_38, pt_39, pt_40, pt_41, pt_42, pt_43, pt_44, pt_45, pt_46, pt_47, pt_48, pt_49, pt_50, pt_51, pt_52, pt_53, pt_54, pt_55, pt_56, pt_57, pt_58, pt_59, pt_60, pt_61, pt_62, pt_63, pt_64, pt_65, pt_66, pt_67, pa_13005, pw_13005, pa_13006, pw_13006, pa_13007, pw_13007, pa_14008, pw_14008, pa_13009, pw_13009, pa_13010, pw_13010, pa_13012, pw_13012, pa_13013, pw_13013, pa_13014, pw_13014, pa_13015, pw_13015, pa_13016, pw_13016, pa_13017, pw_13017, pa_13018, pw_13018, pa_13020, pw_13020, pa_13021, pw_13021, pa_13022, pw_13022, pa_13023, pw_13023, pa_13024, pw_13024, pa_13025, pw_13025, pa_13026, pw_13026, pa_13027, pw_13027, pa_13028, pw_13028, pa_13029, pw_13029, pa_13031, pw_13031, pa_13032, pw_13032, pa_13033, pw_13033, pa_14034, pw_14034, pa_13035, pw_13035, pa_13036, pw_13036, pa_13037, pw_13037, pa_13038, pw_13038, pa_13039, pw_13039, pa_13042, pw_13042, pa_13043, pw_13043, pa_13044, pw_13044, pa_13045, pw_13045, pa_13046, pw_13046, pa_13047, pw_13047, pa_13048, pw_13048, pa_13049, pw_13049, pa_13050, pw_13050, pa_13051, pw_13051, pa_13052, pw_13052, pa_13053, pw_13053, pa_13054, pw_13054, pa_13055, pw_13055, pa_13056, pw_13056, pa_13057, pw_13057, pa_13058, pw_13058, pa_13059, pw_13059, pa_13060, pw_13060, pa_13061, pw_13061, pa_13062, pw_13062, pa_13063, pw_13063, pa_13064, pw_13064, pa_13065, pw_13065, pa_13066, pw_13066, pa_13067, pw_13067, ps_0, ps_1, ps_2, ps_3, ps_4, ps_11, ps_19, ps_30, ps_40, ps_41, ln_13005, ln_13006, ln_13007, ln_14008, ln_13009, ln_13010, ln_13012, ln_13013, ln_13014, ln_13015, ln_13016, ln_13017, ln_13018, ln_13020, ln_13021, ln_13022, ln_13023, ln_13024, ln_13025, ln_13026, ln_13027, ln_13028, ln_13029, ln_13031, ln_13032, ln_13033, ln_14034, ln_13035, ln_13036, ln_13037, ln_13038, ln_13039, ln_13042, ln_13043, ln_13044, ln_13045, ln_13046, ln_13047, ln_13048, ln_13049, ln_13050, ln_13051, ln_13052, ln_13053, ln_13054, ln_13055, ln_13056, ln_13057, ln_13058, ln_13059, ln_13060, ln_13061, ln_13062, ln_13063, ln_13064, ln_13065, ln_13066, ln_13067, gd_t, w_eq, m_in, h1, h2, h3', h4, ec, ml', e4, wt]
            rfl
          · show tpN (up N 12000 0 0) a r c 12000 0 = 0
            rw [tn_sc, if_neg (by decide), if_neg (by decide)]
            rfl
        · refine SR.r j 2 (by omega) ?_ ?_
          · simp (disch := omega) only [aok, up_s, true_and, false_and, and_true, and_false, if_true, if_false, ↓reduceIte, ↓Option.bind_some, Int.reduceEq, Int.reduceNe, Int.reduceLT, Int.reduceLE, gd_true, gd_false, bind_b, q10, eq_self, reduceCtorEq, not_true_eq_false, not_false_eq_true, ne_eq, cr_11000, cr_15000, cr_16000, cr_20000, cr_20001, cr_21000, cr_22000, cr_25000, cr_1000, cr_2000, cr_3000, cr_3003, cr_3006, cr_4000, cr_5000, cr_6000, cr_7000, cr_8000, cr_9000, cr_10000, cr_13500, cr_17000, cr_17100, cr_17103, cr_17106, cr_19000, cr_20100, cr_21100, cr_23000, cr_24000, cw_11000, cw_15000, cw_16000, cw_20000, cw_20001, cw_21000, cw_22000, cw_25000, cw_1000, cw_2000, cw_3000, cw_3003, cw_3006, cw_4000, cw_5000, cw_6000, cw_7000, cw_8000, cw_9000, cw_10000, cw_13500, cw_17000, cw_17100, cw_17103, cw_17106, cw_19000, cw_20100, cw_21100, cw_23000, cw_24000, lc_13500, lc_15000, lc_16000, lc_17000, lc_17100, lc_17103, lc_17106, lc_19000, lc_20000, lc_20001, lc_20100, lc_21000, lc_21100, lc_22000, lc_23000, lc_24000, lc_25000, gd_t, w_eq, thT, thU, psT, psU, hnT, thr_mk, ↓Option.bind_some, c_within, h1, h2, b6, b13, h3, h4]
          · unfold p_X11_topic
            simp (disch := omega) only [aok, up_s, true_and, false_and, and_true, and_false, if_true, if_false, ↓reduceIte, ↓Option.bind_some, Int.reduceEq, Int.reduceNe, Int.reduceLT, Int.reduceLE, gd_true, gd_false, bind_b, q10, eq_self, reduceCtorEq, not_true_eq_false, not_false_eq_true, ne_eq, pt_0, pt_1, pt_2, pt_3, pt_4, pt_5, pt_6, pt_7, pt_8, pt_9, pt_10, pt_11, pt_12, pt_13, pt_14, pt_15, pt_16, pt_17, pt_18, pt_19, pt_20, pt_21, pt_22, pt_23, pt_24, pt_25, pt_26, pt_27, pt_28, pt_29, pt_30, pt_31, pt_32, pt_33, pt_34, pt_35, pt_36, pt_37, pt_38, pt_39, pt_40, pt_41, pt_42, pt_43, pt_44, pt_45, pt_46, pt_47, pt_48, pt_49, pt_50, pt_51, pt_52, pt_53, pt_54, pt_55, pt_56, pt_57, pt_58, pt_59, pt_60, pt_61, pt_62, pt_63, pt_64, pt_65, pt_66, pt_67, pa_13005, pw_13005, pa_13006, pw_13006, pa_13007, pw_13007, pa_14008, pw_14008, pa_13009, pw_13009, pa_13010, pw_13010, pa_13012, pw_13012, pa_13013, pw_13013, pa_13014, pw_13014, pa_13015, pw_13015, pa_13016, pw_13016, pa_13017, pw_13017, pa_13018, pw_13018, pa_13020, pw_13020, pa_13021, pw_13021, pa_13022, pw_13022, pa_13023, pw_13023, pa_13024, pw_13024, pa_13025, pw_13025, pa_13026, pw_13026, pa_13027, pw_13027, pa_13028, pw_13028, pa_13029, pw_13029, pa_13031, pw_13031, pa_13032, pw_13032, pa_13033, pw_13033, pa_14034, pw_14034, pa_13035, pw_13035, pa_13036, pw_13036, pa_13037, pw_13037, pa_13038, pw_13038, pa_13039, pw_13039, pa_13042, pw_13042, pa_13043, pw_13043, pa_13044, pw_13044, pa_13045, pw_13045, pa_13046, pw_13046, pa_13047, pw_13047, pa_13048, pw_13048, pa_13049, pw_13049, pa_13050, pw_13050, pa_13051, pw_13051, pa_13052, pw_13052, pa_13053, pw_13053, pa_13054, pw_13054, pa_13055, pw_13055, pa_13056, pw_13056, pa_13057, pw_13057, pa_13058, pw_13058, pa_13059, pw_13059, pa_13060, pw_13060, pa_13061, pw_13061, pa_13062, pw_13062, pa_13063, pw_13063, pa_13064, pw_13064, pa_13065, pw_13065, pa_13066, pw_13066, pa_13067, pw_13067, ps_0, ps_1, ps_2, ps_3, ps_4, ps_11, ps_19, ps_30, ps_40, ps_41, ln_13005, ln_13006, ln_13007, ln_14008, ln_13009, ln_13010, ln_13012, ln_13013, ln_13014, ln_13015, ln_13016, ln_13017, ln_13018, ln_13020, ln_13021, ln_13022, ln_13023, ln_13024, ln_13025, ln_13026, ln_13027, ln_13028, ln_13029, ln_13031, ln_13032, ln_13033, ln_14034, ln_13035, ln_13036, ln_13037, ln_13038, ln_13039, ln_13042, ln_13043, ln_13044, ln_13045, ln_13046, ln_13047, ln_13048, ln_13049, ln_13050, ln_13051, ln_13052, ln_13053, ln_13054, ln_13055, ln_13056, ln_13057, ln_13058, ln_13059, ln_13060, ln_13061, ln_13062, ln_13063, ln_13064, ln_13065, ln_13066, ln_13067, gd_t, w_eq, m_in, h1, h2, h3', h4, m_refuse]
      · have h3' : (N 12000 4) = 3 := by omega
        refine SR.r j 2 (by omega) ?_ ?_
        · simp (disch := omega) only [aok, up_s, true_and, false_and, and_true, and_false, if_true, if_false, ↓reduceIte, ↓Option.bind_some, Int.reduceEq, Int.reduceNe, Int.reduceLT, Int.reduceLE, gd_true, gd_false, bind_b, q10, eq_self, reduceCtorEq, not_true_eq_false, not_false_eq_true, ne_eq, cr_11000, cr_15000, cr_16000, cr_20000, cr_20001, cr_21000, cr_22000, cr_25000, cr_1000, cr_2000, cr_3000, cr_3003, cr_3006, cr_4000, cr_5000, cr_6000, cr_7000, cr_8000, cr_9000, cr_10000, cr_13500, cr_17000, cr_17100, cr_17103, cr_17106, cr_19000, cr_20100, cr_21100, cr_23000, cr_24000, cw_11000, cw_15000, cw_16000, cw_20000, cw_20001, cw_21000, cw_22000, cw_25000, cw_1000, cw_2000, cw_3000, cw_3003, cw_3006, cw_4000, cw_5000, cw_6000, cw_7000, cw_8000, cw_9000, cw_10000, cw_13500, cw_17000, cw_17100, cw_17103, cw_17106, cw_19000, cw_20100, cw_21100, cw_23000, cw_24000, lc_13500, lc_15000, lc_16000, lc_17000, lc_17100, lc_17103, lc_17106, lc_19000, lc_20000, lc_20001, lc_20100, lc_21000, lc_21100, lc_22000, lc_23000, lc_24000, lc_25000, gd_t, w_eq, thT, thU, psT, psU, hnT, thr_mk, ↓Option.bind_some, c_within, h1, h2, b6, b13, h3]
        · unfold p_X11_topic
          simp (disch := omega) only [aok, up_s, true_and, false_and, and_true, and_false, if_true, if_false, ↓reduceIte, ↓Option.bind_some, Int.reduceEq, Int.reduceNe, Int.reduceLT, Int.reduceLE, gd_true, gd_false, bind_b, q10, eq_self, reduceCtorEq, not_true_eq_false, not_false_eq_true, ne_eq, pt_0, pt_1, pt_2, pt_3, pt_4, pt_5, pt_6, pt_7, pt_8, pt_9, pt_10, pt_11, pt_12, pt_13, pt_14, pt_15, pt_16, pt_17, pt_18, pt_19, pt_20, pt_21, pt_22, pt_23, pt_24, pt_25, pt_26, pt_27, pt_28, pt_29, pt_30, pt_31, pt_32, pt_33, pt_34, pt_35, pt_36, pt_37, pt_38, pt_39, pt_40, pt_41, pt_42, pt_43, pt_44, pt_45, pt_46, pt_47, pt_48, pt_49, pt_50, pt_51, pt_52, pt_53, pt_54, pt_55, pt_56, pt_57, pt_58, pt_59, pt_60, pt_61, pt_62, pt_63, pt_64, pt_65, pt_66, pt_67, pa_13005, pw_13005, pa_13006, pw_13006, pa_13007, pw_13007, pa_14008, pw_14008, pa_13009, pw_13009, pa_13010, pw_13010, pa_13012, pw_13012, pa_13013, pw_13013, pa_13014, pw_13014, pa_13015, pw_13015, pa_13016, pw_13016, pa_13017, pw_13017, pa_13018, pw_13018, pa_13020, pw_13020, pa_13021, pw_13021, pa_13022, pw_13022, pa_13023, pw_13023, pa_13024, pw_13024, pa_13025, pw_13025, pa_13026, pw_13026, pa_13027, pw_13027, pa_13028, pw_13028, pa_13029, pw_13029, pa_13031, pw_13031, pa_13032, pw_13032, pa_13033, pw_13033, pa_14034, pw_14034, pa_13035, pw_13035, pa_13036, pw_13036, pa_13037, pw_13037, pa_13038, pw_13038, pa_13039, pw_13039, pa_13042, pw_13042, pa_13043, pw_13043, pa_13044, pw_13044, pa_13045, pw_13045, pa_13046, pw_13046, pa_13047, pw_13047, pa_13048, pw_13048, pa_13049, pw_13049, pa_13050, pw_13050, pa_13051, pw_13051, pa_13052, pw_13052, pa_13053, pw_13053, pa_13054, pw_13054, pa_13055, pw_13055, pa_13056, pw_13056, pa_13057, pw_13057, pa_13058, pw_13058, pa_13059, pw_13059, pa_13060, pw_13060, pa_13061, pw_13061, pa_13062, pw_13062, pa_13063, pw_13063, pa_13064, pw_13064, pa_13065, pw_13065, pa_13066, pw_13066, pa_13067, pw_13067, ps_0, ps_1, ps_2, ps_3, ps_4, ps_11, ps_19, ps_30, ps_40, ps_41, ln_13005, ln_13006, ln_13007, ln_14008, ln_13009, ln_13010, ln_13012, ln_13013, ln_13014, ln_13015, ln_13016, ln_13017, ln_13018, ln_13020, ln_13021, ln_13022, ln_13023, ln_13024, ln_13025, ln_13026, ln_13027, ln_13028, ln_13029, ln_13031, ln_13032, ln_13033, ln_14034, ln_13035, ln_13036, ln_13037, ln_13038, ln_13039, ln_13042, ln_13043, ln_13044, ln_13045, ln_13046, ln_13047, ln_13048, ln_13049, ln_13050, ln_13051, ln_13052, ln_13053, ln_13054, ln_13055, ln_13056, ln_13057, ln_13058, ln_13059, ln_13060, ln_13061, ln_13062, ln_13063, ln_13064, ln_13065, ln_13066, ln_13067, gd_t, w_eq, m_in, h1, h2, h3', m_refuse]
    · refine SR.r j 1 (by omega) ?_ ?_
      · simp (disch := omega) only [aok, up_s, true_and, false_and, and_true, and_false, if_true, if_false, ↓reduceIte, ↓Option.bind_some, Int.reduceEq, Int.reduceNe, Int.reduceLT, Int.reduceLE, gd_true, gd_false, bind_b, q10, eq_self, reduceCtorEq, not_true_eq_false, not_false_eq_true, ne_eq, cr_11000, cr_15000, cr_16000, cr_20000, cr_20001, cr_21000, cr_22000, cr_25000, cr_1000, cr_2000, cr_3000, cr_3003, cr_3006, cr_4000, cr_5000, cr_6000, cr_7000, cr_8000, cr_9000, cr_10000, cr_13500, cr_17000, cr_17100, cr_17103, cr_17106, cr_19000, cr_20100, cr_21100, cr_23000, cr_24000, cw_11000, cw_15000, cw_16000, cw_20000, cw_20001, cw_21000, cw_22000, cw_25000, cw_1000, cw_2000, cw_3000, cw_3003, cw_3006, cw_4000, cw_5000, cw_6000, cw_7000, cw_8000, cw_9000, cw_10000, cw_13500, cw_17000, cw_17100, cw_17103, cw_17106, cw_19000, cw_20100, cw_21100, cw_23000, cw_24000, lc_13500, lc_15000, lc_16000, lc_17000, lc_17100, lc_17103, lc_17106, lc_19000, lc_20000, lc_20001, lc_20100, lc_21000, lc_21100, lc_22000, lc_23000, lc_24000, lc_25000, gd_t, w_eq, thT, thU, psT, psU, hnT, thr_mk, ↓Option.bind_some, c_within, h1, h2]
      · unfold p_X11_topic
        simp (disch := omega) only [aok, up_s, true_and, false_and, and_true, and_false, if_true, if_false, ↓reduceIte, ↓Option.bind_some, Int.reduceEq, Int.reduceNe, Int.reduceLT, Int.reduceLE, gd_true, gd_false, bind_b, q10, eq_self, reduceCtorEq, not_true_eq_false, not_false_eq_true, ne_eq, pt_0, pt_1, pt_2, pt_3, pt_4, pt_5, pt_6, pt_7, pt_8, pt_9, pt_10, pt_11, pt_12, pt_13, pt_14, pt_15, pt_16, pt_17, pt_18, pt_19, pt_20, pt_21, pt_22, pt_23, pt_24, pt_25, pt_26, pt_27, pt_28, pt_29, pt_30, pt_31, pt_32, pt_33, pt_34, pt_35, pt_36, pt_37, pt_38, pt_39, pt_40, pt_41, pt_42, pt_43, pt_44, pt_45, pt_46, pt_47, pt_48, pt_49, pt_50, pt_51, pt_52, pt_53, pt_54, pt_55, pt_56, pt_57, pt_58, pt_59, pt_60, pt_61, pt_62, pt_63, pt_64, pt_65, pt_66, pt_67, pa_13005, pw_13005, pa_13006, pw_13006, pa_13007, pw_13007, pa_14008, pw_14008, pa_13009, pw_13009, pa_13010, pw_13010, pa_13012, pw_13012, pa_13013, pw_13013, pa_13014, pw_13014, pa_13015, pw_13015, pa_13016, pw_13016, pa_13017, pw_13017, pa_13018, pw_13018, pa_13020, pw_13020, pa_13021, pw_13021, pa_13022, pw_13022, pa_13023, pw_13023, pa_13024, pw_13024, pa_13025, pw_13025, pa_13026, pw_13026, pa_13027, pw_13027, pa_13028, pw_13028, pa_13029, pw_13029, pa_13031, pw_13031, pa_13032, pw_13032, pa_13033, pw_13033, pa_14034, pw_14034, pa_13035, pw_13035, pa_13036, pw_13036, pa_13037, pw_13037, pa_13038, pw_13038, pa_13039, pw_13039, pa_13042, pw_13042, pa_13043, pw_13043, pa_13044, pw_13044, pa_13045, pw_13045, pa_13046, pw_13046, pa_13047, pw_13047, pa_13048, pw_13048, pa_13049, pw_13049, pa_13050, pw_13050, pa_13051, pw_13051, pa_13052, pw_13052, pa_13053, pw_13053, pa_13054, pw_13054, pa_13055, pw_13055, pa_13056, pw_13056, pa_13057, pw_13057, pa_13058, pw_13058, pa_13059, pw_13059, pa_13060, pw_13060, pa_13061, pw_13061, pa_13062, pw_13062, pa_13063, pw_13063, pa_13064, pw_13064, pa_13065, pw_13065, pa_13066, pw_13066, pa_13067, pw_13067, ps_0, ps_1, ps_2, ps_3, ps_4, ps_11, ps_19, ps_30, ps_40, ps_41, ln_13005, ln_13006, ln_13007, ln_14008, ln_13009, ln_13010, ln_13012, ln_13013, ln_13014, ln_13015, ln_13016, ln_13017, ln_13018, ln_13020, ln_13021, ln_13022, ln_13023, ln_13024, ln_13025, ln_13026, ln_13027, ln_13028, ln_13029, ln_13031, ln_13032, ln_13033, ln_14034, ln_13035, ln_13036, ln_13037, ln_13038, ln_13039, ln_13042, ln_13043, ln_13044, ln_13045, ln_13046, ln_13047, ln_13048, ln_13049, ln_13050, ln_13051, ln_13052, ln_13053, ln_13054, ln_13055, ln_13056, ln_13057, ln_13058, ln_13059, ln_13060, ln_13061, ln_13062, ln_13063, ln_13064, ln_13065, ln_13066, ln_13067, gd_t, w_eq, m_in, h1, h2, m_refuse]
  · refine SR.r j 1 (by omega) ?_ ?_
    · simp (disch := omega) only [aok, up_s, true_and, false_and, and_true, and_false, if_true, if_false, ↓reduceIte, ↓Option.bind_some, Int.reduceEq, Int.reduceNe, Int.reduceLT, Int.reduceLE, gd_true, gd_false, bind_b, q10, eq_self, reduceCtorEq, not_true_eq_false, not_false_eq_true, ne_eq, cr_11000, cr_15000, cr_16000, cr_20000, cr_20001, cr_21000, cr_22000, cr_25000, cr_1000, cr_2000, cr_3000, cr_3003, cr_3006, cr_4000, cr_5000, cr_6000, cr_7000, cr_8000, cr_9000, cr_10000, cr_13500, cr_17000, cr_17100, cr_17103, cr_17106, cr_19000, cr_20100, cr_21100, cr_23000, cr_24000, cw_11000, cw_15000, cw_16000, cw_20000, cw_20001, cw_21000, cw_22000, cw_25000, cw_1000, cw_2000, cw_3000, cw_3003, cw_3006, cw_4000, cw_5000, cw_6000, cw_7000, cw_8000, cw_9000, cw_10000, cw_13500, cw_17000, cw_17100, cw_17103, cw_17106, cw_19000, cw_20100, cw_21100, cw_23000, cw_24000, lc_13500, lc_15000, lc_16000, lc_17000, lc_17100, lc_17103, lc_17106, lc_19000, lc_20000, lc_20001, lc_20100, lc_21000, lc_21100, lc_22000, lc_23000, lc_24000, lc_25000, gd_t, w_eq, thT, thU, psT, psU, hnT, thr_mk, ↓Option.bind_some, c_within, h1]
    · unfold p_X11_topic
      simp (disch := omega) only [aok, up_s, true_and, false_and, and_true, and_false, if_true, if_false, ↓reduceIte, ↓Option.bind_some, Int.reduceEq, Int.reduceNe, Int.reduceLT, Int.reduceLE, gd_true, gd_false, bind_b, q10, eq_self, reduceCtorEq, not_true_eq_false, not_false_eq_true, ne_eq, pt_0, pt_1, pt_2, pt_3, pt_4, pt_5, pt_6, pt_7, pt_8, pt_9, pt_10, pt_11, pt_12, pt_13, pt_14, pt_15, pt_16, pt_17, pt_18, pt_19, pt_20, pt_21, pt_22, pt_23, pt_24, pt_25, pt_26, pt_27, pt_28, pt_29, pt_30, pt_31, pt_32, pt_33, pt_34, pt_35, pt_36, pt_37, pt_38, pt_39, pt_40, pt_41, pt_42, pt_43, pt_44, pt_45, pt_46, pt_47, pt_48, pt_49, pt_50, pt_51, pt_52, pt_53, pt_54, pt_55, pt_56, pt_57, pt_58, pt_59, pt_60, pt_61, pt_62, pt_63, pt_64, pt_65, pt_66, pt_67, pa_13005, pw_13005, pa_13006, pw_13006, pa_13007, pw_13007, pa_14008, pw_14008, pa_13009, pw_13009, pa_13010, pw_13010, pa_13012, pw_13012, pa_13013, pw_13013, pa_13014, pw_13014, pa_13015, pw_13015, pa_13016, pw_13016, pa_13017, pw_13017, pa_13018, pw_13018, pa_13020, pw_13020, pa_13021, pw_13021, pa_13022, pw_13022, pa_13023, pw_13023, pa_13024, pw_13024, pa_13025, pw_13025, pa_13026, pw_13026, pa_13027, pw_13027, pa_13028, pw_13028, pa_13029, pw_13029, pa_13031, pw_13031, pa_13032, pw_13032, pa_13033, pw_13033, pa_14034, pw_14034, pa_13035, pw_13035, pa_13036, pw_13036, pa_13037, pw_13037, pa_13038, pw_13038, pa_13039, pw_13039, pa_13042, pw_13042, pa_13043, pw_13043, pa_13044, pw_13044, pa_13045, pw_13045, pa_13046, pw_13046, pa_13047, pw_13047, pa_13048, pw_13048, pa_13049, pw_13049, pa_13050, pw_13050, pa_13051, pw_13051, pa_13052, pw_13052, pa_13053, pw_13053, pa_13054, pw_13054, pa_13055, pw_13055, pa_13056, pw_13056, pa_13057, pw_13057, pa_13058, pw_13058, pa_13059, pw_13059, pa_13060, pw_13060, pa_13061, pw_13061, pa_13062, pw_13062, pa_13063, pw_13063, pa_13064, pw_13064, pa_13065, pw_13065, pa_13066, pw_13066, pa_13067, pw_13067, ps_0, ps_1, ps_2, ps_3, ps_4, ps_11, ps_19, ps_30, ps_40, ps_41, ln_13005, ln_13006, ln_13007, ln_14008, ln_13009, ln_13010, ln_13012, ln_13013, ln_13014, ln_13015, ln_13016, ln_13017, ln_13018, ln_13020, ln_13021, ln_13022, ln_13023, ln_13024, ln_13025, ln_13026, ln_13027, ln_13028, ln_13029, ln_13031, ln_13032, ln_13033, ln_14034, ln_13035, ln_13036, ln_13037, ln_13038, ln_13039, ln_13042, ln_13043, ln_13044, ln_13045, ln_13046, ln_13047, ln_13048, ln_13049, ln_13050, ln_13051, ln_13052, ln_13053, ln_13054, ln_13055, ln_13056, ln_13057, ln_13058, ln_13059, ln_13060, ln_13061, ln_13062, ln_13063, ln_13064, ln_13065, ln_13066, ln_13067, gd_t, w_eq, m_in, h1, m_refuse]
