/-! PURE PART, 80: topic: what holds goes on -/
section TPN
variable {N : Nd} {a r c : Int}
theorem tn_sc {k : Int} : tpN N a r c 12000 k = if k = 4 then (N 12000 4) + 1 else if k = 11 then (N 12000 11) + a else N 12000 k := by
  unfold tpN
  rw [up_s, ti_k]
  simp only [true_and]
  rfl
theorem tn_t {k : Int} : tpN N a r c 13012 k = if (N 12000 11) ≤ k ∧ k < (N 12000 11) + a then (N 12000 4) else N 13012 k := by
  unfold tpN
  rw [up_s, if_neg (fun z => absurd z.1 (by decide)), ti_t]
  rfl
theorem tn_l {k : Int} : tpN N a r c 13013 k = if (N 12000 11) ≤ k ∧ k < (N 12000 11) + a then 0 else N 13013 k := by
  unfold tpN
  rw [up_s, if_neg (fun z => absurd z.1 (by decide)), ti_l]
  rfl
theorem tn_s {k : Int} : tpN N a r c 13014 k = if (N 12000 11) ≤ k ∧ k < (N 12000 11) + a then shl 1 r - 1 else N 13014 k := by
  unfold tpN
  rw [up_s, if_neg (fun z => absurd z.1 (by decide)), ti_s]
  rfl
theorem tn_c {k : Int} : tpN N a r c 13017 k = if 3 * (N 12000 11) ≤ k ∧ k < 3 * ((N 12000 11) + a) then (N 12000 1) else N 13017 k := by
  unfold tpN
  rw [up_s, if_neg (fun z => absurd z.1 (by decide)), ti_c]
  rfl
theorem tn_g {k : Int} : tpN N a r c 13018 k = if 60 * (N 12000 11) ≤ k ∧ k < 60 * ((N 12000 11) + a) then -1 else N 13018 k := by
  unfold tpN
  rw [up_s, if_neg (fun z => absurd z.1 (by decide)), ti_g]
  rfl
theorem tn_0 {b k : Int} (h : (13005 ≤ b ∧ b ≤ 13010) ∨ b = 14008) : tpN N a r c b k = tp0 N ((N 12000 4)) ((N 12000 11)) a r c b k := by
  unfold tpN
  rw [up_s, if_neg (by omega), ti_ar (by omega) (by omega) (by omega) (by omega) (by omega) (by omega)]
theorem tn_tP {k : Int} : tpN N a r c 13005 k = if k = (N 12000 4) then a else N 13005 k := by
  rw [tn_0 (by decide)]
  unfold tp0
  simp only [up_s, up_s, true_and, false_and, and_true, and_false, if_true, if_false, ↓reduceIte, ↓Option.bind_some, Int.reduceEq, Int.reduceNe, Int.reduceLT, Int.reduceLE, gd_true, gd_false, bind_b, q10, eq_self, reduceCtorEq, not_true_eq_false, not_false_eq_true, ne_eq]
theorem tn_tR {k : Int} : tpN N a r c 13006 k = if k = (N 12000 4) then r else N 13006 k := by
  rw [tn_0 (by decide)]
  unfold tp0
  simp only [up_s, up_s, true_and, false_and, and_true, and_false, if_true, if_false, ↓reduceIte, ↓Option.bind_some, Int.reduceEq, Int.reduceNe, Int.reduceLT, Int.reduceLE, gd_true, gd_false, bind_b, q10, eq_self, reduceCtorEq, not_true_eq_false, not_false_eq_true, ne_eq]
theorem tn_tF {k : Int} : tpN N a r c 13007 k = if k = (N 12000 4) then (N 12000 11) else N 13007 k := by
  rw [tn_0 (by decide)]
  unfold tp0
  simp only [up_s, up_s, true_and, false_and, and_true, and_false, if_true, if_false, ↓reduceIte, ↓Option.bind_some, Int.reduceEq, Int.reduceNe, Int.reduceLT, Int.reduceLE, gd_true, gd_false, bind_b, q10, eq_self, reduceCtorEq, not_true_eq_false, not_false_eq_true, ne_eq]
theorem tn_tC {k : Int} : tpN N a r c 14008 k = if k = (N 12000 4) then c else N 14008 k := by
  rw [tn_0 (by decide)]
  unfold tp0
  simp only [up_s, up_s, true_and, false_and, and_true, and_false, if_true, if_false, ↓reduceIte, ↓Option.bind_some, Int.reduceEq, Int.reduceNe, Int.reduceLT, Int.reduceLE, gd_true, gd_false, bind_b, q10, eq_self, reduceCtorEq, not_true_eq_false, not_false_eq_true, ne_eq]
theorem tn_tA {k : Int} : tpN N a r c 13009 k = if k = (N 12000 4) then 999 else N 13009 k := by
  rw [tn_0 (by decide)]
  unfold tp0
  simp only [up_s, up_s, true_and, false_and, and_true, and_false, if_true, if_false, ↓reduceIte, ↓Option.bind_some, Int.reduceEq, Int.reduceNe, Int.reduceLT, Int.reduceLE, gd_true, gd_false, bind_b, q10, eq_self, reduceCtorEq, not_true_eq_false, not_false_eq_true, ne_eq]
theorem tn_tS {k : Int} : tpN N a r c 13010 k = if k = (N 12000 4) then 60 else N 13010 k := by
  rw [tn_0 (by decide)]
  unfold tp0
  simp only [up_s, up_s, true_and, false_and, and_true, and_false, if_true, if_false, ↓reduceIte, ↓Option.bind_some, Int.reduceEq, Int.reduceNe, Int.reduceLT, Int.reduceLE, gd_true, gd_false, bind_b, q10, eq_self, reduceCtorEq, not_true_eq_false, not_false_eq_true, ne_eq]
theorem tn_m {b : Int} (h : b = 13015 ∨ b = 13016 ∨ 13020 ≤ b) (h2 : b < 14000 ∨ b = 14034) : tpN N a r c b = N b := tn_ar (by omega) (by omega) (by omega) (by omega) (by omega) (by omega) (by omega) (by omega)
theorem tn_hw {p : Int} (p2 : p < (N 12000 11)) : hw (tpN N a r c) p = hw N p := by
  refine fo_congr fun q b q1 q2 => ?_
  have e1 : tpN N a r c 13014 p = N 13014 p := by rw [tn_s, if_neg (by omega)]
  unfold hwS
  rw [e1, tn_m (b := 13016) (by decide) (by decide)]
theorem tn_so (G : RG N) {p : Int} (p1 : 0 ≤ p) (p2 : p < (N 12000 11)) : so (tpN N a r c) p = so N p := by
  have hb := hw_b G.e p1 p2
  unfold so
  rw [tn_hw p2]
  have key : ∀ (n : Nat) (i : Int), 0 ≤ i → i + n ≤ 60 → ff (opn (tpN N a r c) p) n i = ff (opn N p) n i := by
    intro n
    induction n with
    | zero => intro i _ _; rfl
    | succ n ih =>
      intro i i1 i2
      have e : opn (tpN N a r c) p i = opn N p i := by
        unfold opn
        rw [tn_g, if_neg (by omega), tn_m (b := 13025) (by decide) (by decide)]
      unfold ff
      rw [e, ih (i + 1) (by omega) (by omega)]
  exact key _ 0 (by omega) (by omega)
theorem tn_eol (G : RG N) {p : Int} (p1 : 0 ≤ p) (p2 : p < (N 12000 11)) : eol (tpN N a r c) p = eol N p := by
  have e1 : tpN N a r c 13014 p = N 13014 p := by rw [tn_s, if_neg (by omega)]
  have e2 : tpN N a r c 13013 p = N 13013 p := by rw [tn_l, if_neg (by omega)]
  unfold eol
  rw [e1, e2, tn_m (b := 13016) (by decide) (by decide)]
theorem tn_hwN (fn : FN N) (h9 : (N 12000 11) + a ≤ 9) (p0 : 0 ≤ (N 12000 11)) {p : Int} (p1 : (N 12000 11) ≤ p) (p2 : p < (N 12000 11) + a) (r1 : 1 ≤ r) (r2 : r ≤ 3) : hw (tpN N a r c) p = 0 ∧ so (tpN N a r c) p = 0 ∧ eol (tpN N a r c) p = 0 := by
  have sh := (shl1 r1 r2).2
  have f1 := (fn.1 p p1 (by omega)).2
  have hb : hw (tpN N a r c) p ≤ 0 := by
    have e1 : tpN N a r c 13014 p = shl 1 r - 1 := by rw [tn_s, if_pos (by omega)]
    have := hw_le (N := tpN N a r c) (p := p) (r := 0) (by omega) (by omega) (by rw [e1]; exact (sh 0 (by omega) (by omega)).mpr (by omega))
    rw [tn_m (b := 13016) (by decide) (by decide), f1 0 (by omega) (by omega)] at this
    exact this
  have hg : 0 ≤ hw (tpN N a r c) p := hw_ge (by omega) fun k k1 k2 _ => by
    rw [tn_m (b := 13016) (by decide) (by decide), f1 k k1 k2]
    exact Int.le_refl _
  have h0 : hw (tpN N a r c) p = 0 := by omega
  refine ⟨h0, ?_, ?_⟩
  · unfold so
    rw [h0]
    rfl
  · have e2 : tpN N a r c 13013 p = 0 := by rw [tn_l, if_pos (by omega)]
    unfold eol
    rw [e2, if_neg (by omega), tn_m (b := 13016) (by decide) (by decide), Int.add_zero]
    have := f1 0 (by omega) (by omega)
    rw [Int.add_zero] at this
    exact this
theorem JN.newT (j : JN N) (fn : FN N) (t3 : (N 12000 4) < 3) (a1 : 1 ≤ a) (a3 : a ≤ 3) (r1 : 1 ≤ r) (r2 : r ≤ 3) (hc : 0 ≤ c ∧ c ≤ 1) : JN (tpN N a r c) ∧ Mo N (tpN N a r c) := by
  have G := j.g
  have pl := parts_le G
  have s1 := G.s.1
  have s2 := G.s.2.1
  have h9 : (N 12000 11) + a ≤ 9 := by omega
  have sh := shl1 r1 r2
  have e4 : tpN N a r c 12000 4 = (N 12000 4) + 1 := by rw [tn_sc, if_pos rfl]
  have e11 : tpN N a r c 12000 11 = (N 12000 11) + a := by rw [tn_sc, if_neg (by decide), if_pos rfl]
  have es : ∀ k, k ≠ 4 → k ≠ 11 → tpN N a r c 12000 k = N 12000 k := fun k h1 h2 => by rw [tn_sc, if_neg h1, if_neg h2]
  have m1 : ∀ b, (b = 13015 ∨ b = 13016 ∨ 13020 ≤ b) → (b < 14000 ∨ b = 14034) → tpN N a r c b = N b := fun b => tn_m
  have mp : ∀ m, 0 ≤ m → m < (N 12000 19) → 0 ≤ N 13021 m ∧ N 13021 m < (N 12000 11) := fun m h1 h2 => (G.m m h1 h2).2.1
  have hN := fun (p : Int) (p1 : (N 12000 11) ≤ p) (p2 : p < (N 12000 11) + a) => tn_hwN (c := c) fn h9 s2.1 p1 p2 r1 r2
  have g' : RG (tpN N a r c) := by
    refine ⟨⟨?_, ?_, ?_, ?_, ?_, ?_, ?_, ?_, ?_⟩, fun i i1 i2 => ?_, fun p p1 p2 => ?_, fun p k p1 p2 k1 k2 => ?_, fun p k p1 p2 k1 k2 => ?_, fun m h1 h2 => ?_, fun x h1 h2 => ?_⟩
    · rw [e4]; omega
    · rw [e11]; omega
    · rw [es _ (by decide) (by decide)]; exact G.s.2.2.1
    · rw [es _ (by decide) (by decide)]; exact G.s.2.2.2.1
    · rw [es _ (by decide) (by decide)]; exact G.s.2.2.2.2.1
    · rw [es _ (by decide) (by decide)]; exact G.s.2.2.2.2.2.1
    · rw [es _ (by decide) (by decide)]; exact G.s.2.2.2.2.2.2.1
    · rw [es _ (by decide) (by decide)]; exact G.s.2.2.2.2.2.2.2.1
    · rw [es _ (by decide) (by decide)]; exact G.s.2.2.2.2.2.2.2.2
    · rw [e4] at i2
      rw [tn_tP, tn_tR, tn_tF, tn_tC, tn_tA, tn_tS, e11]
      by_cases e : i = (N 12000 4)
      · simp only [e, if_true]
        omega
      · simp only [e, if_false]
        have q := G.t i i1 (by omega)
        exact ⟨q.1, q.2.1, by omega, q.2.2.2⟩
    · rw [e11] at p2
      rw [tn_t, tn_l, tn_s, e4, m1 13015 (by decide) (by decide)]
      by_cases e : (N 12000 11) ≤ p
      · have c0 : (N 12000 11) ≤ p ∧ p < (N 12000 11) + a := by omega
        have f0 := (fn.1 p e (by omega)).1
        simp only [c0, and_self, if_true]
        rw [tn_tR, if_pos rfl, tn_tF, if_pos rfl, tn_tP, if_pos rfl, f0]
        refine ⟨by omega, by omega, by omega, by omega, by omega, fun q q1 q2 hq => (sh.2 q q1 q2).mp hq, Or.inl ((sh.2 0 (by omega) (by omega)).mpr (by omega))⟩
      · have c0 : ¬ ((N 12000 11) ≤ p ∧ p < (N 12000 11) + a) := by omega
        simp only [c0, if_false]
        obtain ⟨q1, q2, q3, q4, q5, q6, q7⟩ := G.p p p1 (by omega)
        have ne : N 13012 p ≠ (N 12000 4) := by omega
        rw [tn_tR, if_neg ne, tn_tF, if_neg ne, tn_tP, if_neg ne]
        exact ⟨by omega, q2, q3, q4, q5, q6, q7⟩
    · rw [e11] at p2
      rw [m1 13016 (by decide) (by decide), tn_c, es 1 (by decide) (by decide)]
      have s8 := G.s.2.2.2.2.2.2.2.1
      by_cases e : (N 12000 11) ≤ p
      · rw [(fn.1 p e (by omega)).2 k k1 k2, if_pos (by omega)]
        omega
      · rw [if_neg (by omega)]
        exact G.e p k p1 (by omega) k1 k2
    · rw [e11] at p2
      rw [tn_g, es 19 (by decide) (by decide)]
      have s5 := G.s.2.2.2.2.1
      by_cases e : (N 12000 11) ≤ p
      · rw [if_pos (by omega)]
        omega
      · rw [if_neg (by omega)]
        exact G.l p k p1 (by omega) k1 k2
    · rw [es 19 (by decide) (by decide)] at h2
      have q := G.m m h1 h2
      rw [m1 13020 (by decide) (by decide), m1 13021 (by decide) (by decide), m1 13023 (by decide) (by decide), m1 13024 (by decide) (by decide), m1 13025 (by decide) (by decide), m1 13026 (by decide) (by decide), m1 13027 (by decide) (by decide), m1 13029 (by decide) (by decide), e11, es 30 (by decide) (by decide), es 1 (by decide) (by decide), es 40 (by decide) (by decide)]
      exact ⟨q.1, by omega, q.2.2⟩
    · rw [es 30 (by decide) (by decide)] at h2
      rw [m1 13031 (by decide) (by decide), m1 13032 (by decide) (by decide), m1 13033 (by decide) (by decide), m1 14034 (by decide) (by decide), es 40 (by decide) (by decide)]
      exact G.x x h1 h2
  have lgN : ∀ p k, 0 ≤ p → p < (N 12000 11) + a → 0 ≤ k → k < 60 → 0 ≤ tpN N a r c 13018 (60 * p + k) → p < (N 12000 11) ∧ tpN N a r c 13018 (60 * p + k) = N 13018 (60 * p + k) := fun p k p1 p2 k1 k2 h => by
    rw [tn_g] at h ⊢
    by_cases e : (N 12000 11) ≤ p
    · rw [if_pos (by omega)] at h
      omega
    · rw [if_neg (by omega)]
      exact ⟨by omega, rfl⟩
  have lgO : ∀ p k, 0 ≤ p → p < (N 12000 11) → 0 ≤ k → k < 60 → tpN N a r c 13018 (60 * p + k) = N 13018 (60 * p + k) := fun p k p1 p2 k1 k2 => by
    rw [tn_g, if_neg (by omega)]
  refine ⟨⟨⟨⟨g', fun p p1 p2 => ?_, fun p k p1 p2 k1 k2 h => ?_, fun p k p1 p2 k1 k2 => ?_, fun p p1 p2 => ?_⟩, fun p k p1 p2 k1 k2 => ?_⟩, ⟨?_, ?_⟩, fun m h1 h2 => ?_, fun p k p1 p2 k1 k2 h => ?_, fun p i k p1 p2 i1 i2 k2 h h' => ?_, fun m k h1 h2 => ?_, fun m h1 h2 => ?_, ?_⟩, ⟨by rw [e11, es 19 (by decide) (by decide)]; omega, fun p p1 p2 => ?_, fun m h1 h2 => ?_, fun m h1 h2 h3 h4 h5 => ?_⟩⟩
  · rw [e11] at p2
    rw [tn_l, tn_s]
    by_cases e : (N 12000 11) ≤ p
    · have c0 : (N 12000 11) ≤ p ∧ p < (N 12000 11) + a := by omega
      simp only [c0, and_self, if_true]
      exact ⟨fun _ => (sh.2 0 (by omega) (by omega)).mpr (by omega), fun z => by omega⟩
    · have c0 : ¬ ((N 12000 11) ≤ p ∧ p < (N 12000 11) + a) := by omega
      simp only [c0, if_false]
      exact j.li p p1 (by omega)
  · rw [e11] at p2
    obtain ⟨q1, q2⟩ := lgN p k p1 p2 k1 k2 h
    rw [q2] at h ⊢
    rw [m1 13021 (by decide) (by decide), m1 13026 (by decide) (by decide), m1 13024 (by decide) (by decide)]
    exact j.lm p k p1 q1 k1 k2 h
  · rw [e11] at p2
    by_cases e : (N 12000 11) ≤ p
    · rw [(hN p e p2).2.2, tn_g, if_pos (by omega)]
      omega
    · rw [tn_eol G p1 (by omega), lgO p k p1 (by omega) k1 k2]
      exact j.fl p k p1 (by omega) k1 k2
  · rw [e11] at p2
    rw [m1 13015 (by decide) (by decide)]
    by_cases e : (N 12000 11) ≤ p
    · rw [(hN p e p2).2.1, (fn.1 p e (by omega)).1]
      refine ⟨fun _ k k1 k2 h => ?_, fun _ => rfl, Int.le_refl _⟩
      have := (lgN p k p1 p2 k1 k2 h).1
      omega
    · have q := j.fi p p1 (by omega)
      have tp := (G.p p p1 (by omega)).1
      rw [tn_so G p1 (by omega), tn_t, if_neg (by omega), tn_tC, if_neg (by omega)]
      refine ⟨fun hc k k1 k2 h => ?_, q.2⟩
      rw [lgO p k p1 (by omega) k1 k2] at h ⊢
      rw [m1 13024 (by decide) (by decide)]
      exact q.1 hc k k1 k2 h
  · rw [e11] at p2
    rw [m1 13016 (by decide) (by decide)]
    by_cases e : (N 12000 11) ≤ p
    · rw [(hN p e p2).2.2, (fn.1 p e (by omega)).2 k k1 k2]
      exact Int.le_refl _
    · rw [tn_eol G p1 (by omega)]
      exact j.en p k p1 (by omega) k1 k2
  · unfold OT
    rw [es 19 (by decide) (by decide), m1 13025 (by decide) (by decide), m1 13029 (by decide) (by decide), m1 13033 (by decide) (by decide), m1 13020 (by decide) (by decide)]
    exact j.ot
  · unfold XU
    rw [es 30 (by decide) (by decide), m1 13033 (by decide) (by decide)]
    exact j.xu
  · rw [es 19 (by decide) (by decide)] at h2
    have q := j.sl m h1 h2
    have b := mp m h1 h2
    have ob := (G.m m h1 h2).2.2.2.2.2.1
    rw [m1 13024 (by decide) (by decide), m1 13026 (by decide) (by decide), m1 13021 (by decide) (by decide)]
    refine ⟨fun z => ?_, q.2⟩
    have q1 := q.1 z
    refine ⟨q1.1, ?_⟩
    rw [lgO _ _ b.1 b.2 q1.1 ob.2]
    exact q1.2
  · rw [e11] at p2
    obtain ⟨q1, q2⟩ := lgN p k p1 p2 k1 k2 h
    rw [q2] at h ⊢
    rw [m1 13027 (by decide) (by decide)]
    have q := j.tk p k p1 q1 k1 k2 h
    refine ⟨q.1, fun i i1 i2 hi => ?_⟩
    rw [lgO p i p1 q1 i1 (by omega)] at hi ⊢
    exact q.2 i i1 i2 hi
  · rw [e11] at p2
    obtain ⟨q1, q2⟩ := lgN p k p1 p2 (by omega) k2 h'
    rw [lgO p i p1 q1 i1 (by omega)] at h ⊢
    rw [q2] at h' ⊢
    unfold ndl
    rw [m1 13020 (by decide) (by decide), m1 13028 (by decide) (by decide), m1 13025 (by decide) (by decide)]
    exact j.n1 p i k p1 q1 i1 i2 k2 h h'
  · rw [es 19 (by decide) (by decide)] at h2
    have b := mp m h1 h2
    unfold ndl
    rw [m1 13024 (by decide) (by decide), m1 13025 (by decide) (by decide), m1 13028 (by decide) (by decide), m1 13021 (by decide) (by decide), m1 13020 (by decide) (by decide)]
    intro z1 z2 z3 k1 k2
    rw [lgO _ k b.1 b.2 k1 k2]
    exact j.n2 m k h1 h2 z1 z2 z3 k1 k2
  · rw [es 19 (by decide) (by decide)] at h2
    have b := mp m h1 h2
    rw [m1 13024 (by decide) (by decide), m1 13025 (by decide) (by decide), m1 13028 (by decide) (by decide), m1 13021 (by decide) (by decide), m1 13026 (by decide) (by decide), m1 13029 (by decide) (by decide), tn_hw b.2, tn_so G b.1 b.2]
    exact j.ms m h1 h2
  · unfold XS
    rw [es 19 (by decide) (by decide), es 30 (by decide) (by decide), m1 13033 (by decide) (by decide), m1 13029 (by decide) (by decide), m1 13020 (by decide) (by decide), m1 13025 (by decide) (by decide), m1 14034 (by decide) (by decide)]
    exact j.xs
  · rw [tn_so G p1 p2, tn_t, if_neg (by omega), m1 13015 (by decide) (by decide)]
    exact ⟨Int.le_refl _, rfl, Int.le_refl _⟩
  · rw [m1 13021 (by decide) (by decide), m1 13022 (by decide) (by decide), m1 13024 (by decide) (by decide), m1 13026 (by decide) (by decide), m1 13025 (by decide) (by decide)]
    exact ⟨⟨rfl, rfl⟩, fun h => ⟨h, rfl⟩, fun h => ⟨rfl, Or.inr ⟨h.1, rfl⟩⟩⟩
  · rw [es 19 (by decide) (by decide)] at h2
    rw [m1 13021 (by decide) (by decide)] at h3 h5
    have b := mp m h1 h2
    unfold canR at h4 ⊢
    rw [m1 13024 (by decide) (by decide), m1 13026 (by decide) (by decide), m1 13021 (by decide) (by decide), m1 13025 (by decide) (by decide), tn_so G b.1 b.2] at h4
    exact ⟨h2, h4⟩
end TPN
