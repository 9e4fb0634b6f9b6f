/-! PURE PART, 82: what is left of a hand; dead letters -/
def kap (K : Int → Bool) (i : Int) : Int := su (fun k => if K k = true then 1 else 0) 0 i.toNat
section KAP
variable {K : Int → Bool} {i n : Int}
theorem kap_0 : kap K 0 = 0 := rfl
theorem kap_S (h : 0 ≤ i) : kap K (i + 1) = kap K i + if K i = true then 1 else 0 := by
  unfold kap
  rw [show (i + 1).toNat = i.toNat + 1 by omega, su_S, show (0 : Int) + (i.toNat : Int) = i by omega]
theorem kap_b : 0 ≤ kap K i ∧ kap K i ≤ i.toNat := by
  have := @su_b (fun k => if K k = true then 1 else 0) 0 i.toNat 1 (fun _ _ _ => ite_b)
  unfold kap
  omega
theorem kap_m : ∀ {k : Nat}, 0 ≤ i → kap K i ≤ kap K (i + k)
  | 0, _ => by rw [show i + ((0 : Nat) : Int) = i by omega]; exact Int.le_refl _
  | k + 1, h => by
    have := kap_m (k := k) h
    have e := kap_S (K := K) (i := i + k) (by omega)
    rw [show i + ((k + 1 : Nat) : Int) = i + k + 1 by omega, e]
    split <;> omega
theorem kap_le (h : 0 ≤ i) (h2 : i ≤ n) : kap K i ≤ kap K n := by
  have := @kap_m K i (n - i).toNat h
  rw [show i + (((n - i).toNat : Nat) : Int) = n by omega] at this
  exact this
theorem kap_lt (h : 0 ≤ i) (h2 : i < n) (hk : K i = true) : kap K i < kap K n := by
  have a := kap_S (K := K) h
  rw [if_pos hk] at a
  have := kap_le (K := K) (i := i + 1) (n := n) (by omega) (by omega)
  omega
theorem kap_sur : ∀ {k : Nat} {p : Int}, 0 ≤ p → p < kap K k → ∃ s : Int, 0 ≤ s ∧ s < (k : Int) ∧ K s = true ∧ kap K s = p
  | 0, p, h, h2 => by
    have : kap K ((0 : Nat) : Int) = 0 := rfl
    omega
  | k + 1, p, h, h2 => by
    have e := kap_S (K := K) (i := (k : Int)) (by omega)
    have ic : ((k + 1 : Nat) : Int) = (k : Int) + 1 := by omega
    rw [ic, e] at h2
    by_cases c : p < kap K k
    · obtain ⟨s, s1, s2, s3, s4⟩ := kap_sur (k := k) h c
      exact ⟨s, s1, by omega, s3, s4⟩
    · by_cases q : K k = true
      · rw [if_pos q] at h2
        exact ⟨k, by omega, by omega, q, by omega⟩
      · rw [if_neg q] at h2
        omega
theorem kap_rm {x : Int} (x0 : 0 ≤ x) (hx : K x = true) : ∀ k : Nat, kap (fun s => K s && decide (s ≠ x)) k = kap K k - if x < k then 1 else 0
  | 0 => by
    rw [if_neg (by omega)]
    rfl
  | k + 1 => by
    have ih := kap_rm x0 hx k
    have ic : ((k + 1 : Nat) : Int) = (k : Int) + 1 := by omega
    have e1 := kap_S (K := K) (i := (k : Int)) (by omega)
    have e2 := kap_S (K := fun s => K s && decide (s ≠ x)) (i := (k : Int)) (by omega)
    rw [ic, e1, e2, ih]
    by_cases c : (k : Int) = x
    · have z : ¬ ((K k && decide ((k : Int) ≠ x)) = true) := by simp [c]
      rw [if_neg z, c, if_pos hx, if_neg (by omega), if_pos (by omega)]
      omega
    · have z : (K k && decide ((k : Int) ≠ x)) = K k := by simp [c]
      rw [z]
      by_cases c2 : x < (k : Int)
      · rw [if_pos c2, if_pos (show x < (k : Int) + 1 by omega)]; omega
      · rw [if_neg c2, if_neg (show ¬ x < (k : Int) + 1 by omega)]; omega
theorem kap_cong {K' : Int → Bool} : ∀ {k : Nat}, (∀ s : Int, 0 ≤ s → s < (k : Int) → K s = K' s) → kap K k = kap K' k := fun h => su_congr fun s s1 s2 => by rw [h s s1 (by omega)]
end KAP
abbrev hb3 (b : Int) : Prop := b = 13052 ∨ b = 13053 ∨ b = 13054
/-- the hand of N' is what K leaves of that of N -/
def FH (N N' : Nd) (g j n : Int) (K : Int → Bool) : Prop := hn N' g j = kap K n ∧ ∀ b, hb3 b → ∀ s, 0 ≤ s → s < n → K s = true → N' b (9 * (12 * g + j) + kap K s) = N b (9 * (12 * g + j) + s)
theorem FH.rf {N : Nd} {g j n : Int} {K : Int → Bool} (h0 : 0 ≤ n) (hn' : hn N g j = n) (hK : ∀ s, 0 ≤ s → s < n → K s = true) : FH N N g j n K := by
  have e : ∀ k : Nat, (k : Int) ≤ n → kap K k = k := by
    intro k
    induction k with
    | zero => intro _; rfl
    | succ k ih =>
      intro hk
      have a := kap_S (K := K) (i := (k : Int)) (by omega)
      rw [if_pos (hK k (by omega) (by omega)), ih (by omega)] at a
      rw [show ((k + 1 : Nat) : Int) = (k : Int) + 1 by omega]
      exact a
  have e' : ∀ s, 0 ≤ s → s ≤ n → kap K s = s := fun s s1 s2 => by
    have := e s.toNat (by omega)
    rw [show ((s.toNat : Nat) : Int) = s by omega] at this
    exact this
  exact ⟨by rw [e' n h0 (Int.le_refl _)]; exact hn', fun b _ s s1 s2 _ => by rw [e' s s1 (by omega)]⟩
theorem FH.cong {N N' : Nd} {g j n : Int} {K K' : Int → Bool} (h : FH N N' g j n K) (h0 : 0 ≤ n) (hK : ∀ s, 0 ≤ s → s < n → K s = K' s) : FH N N' g j n K' := by
  have e' : ∀ s, 0 ≤ s → s ≤ n → kap K s = kap K' s := fun s s1 s2 => by
    have := @kap_cong K K' s.toNat (fun z z1 z2 => hK z z1 (by omega))
    rw [show ((s.toNat : Nat) : Int) = s by omega] at this
    exact this
  refine ⟨by rw [← e' n h0 (Int.le_refl _)]; exact h.1, fun b hb s s1 s2 s3 => ?_⟩
  rw [← e' s s1 (by omega)]
  exact h.2 b hb s s1 s2 (by rw [hK s s1 s2]; exact s3)
theorem FH.rm {N N' : Nd} {g j n x : Int} {K : Int → Bool} (h : FH N N' g j n K) (g1 : 0 ≤ g) (j1 : 0 ≤ j) (x1 : 0 ≤ x) (x2 : x < n) (hx : K x = true) : FH N (ooN N' g j (kap K x)) g j n (fun s => K s && decide (s ≠ x)) := by
  have r : ∀ s, 0 ≤ s → kap (fun s => K s && decide (s ≠ x)) s = kap K s - if x < s then 1 else 0 := fun s s1 => by
    have := kap_rm x1 hx s.toNat
    rw [show ((s.toNat : Nat) : Int) = s by omega] at this
    exact this
  refine ⟨?_, fun b hb s s1 s2 s3 => ?_⟩
  · rw [on_n j1 g1, if_pos rfl, r n (by omega), if_pos x2, h.1]
  · simp only [Bool.and_eq_true, decide_eq_true_eq] at s3
    have lt := kap_lt (K := K) s1 s2 s3.1
    have kb := @kap_b K s
    have kbx := @kap_b K x
    have hv := h.2 b hb s s1 s2 s3.1
    rw [r s s1]
    by_cases c : x < s
    · have ltx := kap_lt (K := K) x1 c hx
      rw [if_pos c, on_b hb (by omega) (by rw [h.1]; omega), if_neg (by omega), show kap K s - 1 + 1 = kap K s by omega]
      exact hv
    · have ltx := kap_lt (K := K) s1 (show s < x by omega) s3.1
      have ltn := kap_lt (K := K) x1 x2 hx
      rw [if_neg c, Int.sub_zero, on_b hb (by omega) (by rw [h.1]; omega), if_pos ltx]
      exact hv
theorem FH.at {N N' : Nd} {g j n p : Int} {K : Int → Bool} (h : FH N N' g j n K) (h0 : 0 ≤ n) (p1 : 0 ≤ p) (p2 : p < hn N' g j) : ∃ s, 0 ≤ s ∧ s < n ∧ K s = true ∧ kap K s = p ∧ ∀ b, hb3 b → N' b (9 * (12 * g + j) + p) = N b (9 * (12 * g + j) + s) := by
  rw [h.1] at p2
  obtain ⟨s, s1, s2, s3, s4⟩ := @kap_sur K n.toNat p p1 (by rw [show ((n.toNat : Nat) : Int) = n by omega]; exact p2)
  exact ⟨s, s1, by omega, s3, s4, fun b hb => by rw [← s4]; exact h.2 b hb s s1 (by omega) s3⟩
/-- hands are the same, but for what lies behind them -/
def HE (N N' : Nd) (g : Int) : Prop := (∀ a, a < 13051 ∨ 13054 < a → N' a = N a) ∧ ∀ z, 0 ≤ z → z < 12 → hn N' g z = hn N g z ∧ (N 13047 (12 * g + z) = 1 → ∀ b, hb3 b → ∀ k, 0 ≤ k → k < hn N g z → N' b (9 * (12 * g + z) + k) = N b (9 * (12 * g + z) + k))
theorem GA.he {C : Cd} {N N' : Nd} {g : Int} (G : RG N) (a : GA C N g) (h : HE N N' g) : GA C N' g := by
  obtain ⟨h1, h2⟩ := h
  have s2 := G.s.2.1
  have e : ∀ b, b < 13051 ∨ 13054 < b → N' b = N b := h1
  have sc := e 12000 (by decide)
  have hr : ∀ p, gR N' g p ↔ gR N g p := fun p => by
    unfold gR
    rw [sc, e 13042 (by decide), e 13012 (by decide)]
  have ec : ∀ m, canR N' m ↔ canR N m := fun m => by
    have es : ∀ q, so N' q = so N q := fun q => by
      unfold so hw opn hwS
      rw [e 13018 (by decide), e 13025 (by decide), e 13014 (by decide), e 13016 (by decide)]
    unfold canR
    rw [es, e 13024 (by decide), e 13026 (by decide), e 13021 (by decide), e 13025 (by decide)]
  refine ⟨?_, fun p p1 p2 => ?_, fun j j1 j2 => ?_, fun j j1 j2 j3 => ?_, fun m m1 m2 => ?_, ?_, ?_, fun j j1 j2 => ?_, fun p p1 p2 => ?_, ?_⟩
  · unfold GO
    rw [e 13044 (by decide), e 13043 (by decide), e 13045 (by decide)]
    simp only [hr]
    exact a.o
  · rw [e 13055 (by decide), e 13056 (by decide), e 13057 (by decide), e 13058 (by decide)]
    simp only [hr]
    exact a.sh p p1 p2
  · rw [e 13047 (by decide), e 13048 (by decide), e 13049 (by decide), e 13050 (by decide)]
    exact a.me j j1 j2
  · rw [e 13047 (by decide)] at j3
    obtain ⟨x1, x2⟩ := a.ha j j1 j2 j3
    obtain ⟨q1, q2'⟩ := h2 j j1 j2
    have q2 := q2' j3
    have hh : ∀ k, 0 ≤ k → k < hn N g j → hf N' g j k = hf N g j k := fun k k1 k2 => q2 _ (Or.inl rfl) k k1 k2
    rw [q1]
    refine ⟨⟨x1.1, x1.2.1, fun k k1 k2 => by rw [hh k k1 k2]; exact x1.2.2 k k1 k2⟩, fun k k1 k2 => ?_⟩
    rw [hh k k1 k2, q2 13053 (Or.inr (Or.inl rfl)) k k1 k2, q2 13054 (Or.inr (Or.inr rfl)) k k1 k2, sc, e 13021 (by decide), e 13026 (by decide), e 13055 (by decide), e 13058 (by decide)]
    obtain ⟨y1, y2, y3⟩ := x2 k k1 k2
    exact ⟨y1, y2, fun i i1 i2 => by rw [hh i i1 (by omega)]; exact y3 i i1 i2⟩
  · obtain ⟨x1, x2, x3, x4, x5, x6, x7, x8, x9, x0⟩ := a.le m m1 m2
    rw [sc, e 13024 (by decide), e 13021 (by decide), e 13064 (by decide), e 13059 (by decide), e 13062 (by decide), e 13060 (by decide), e 13061 (by decide), e 13055 (by decide)]
    simp only [hr, ec]
    refine ⟨x1, x2, x3, x4, x5, x6, x7, fun z => ?_, x9, x0⟩
    obtain ⟨y1, k, k1, k2, k3⟩ := x8 z
    have lt : m < (N 12000 19) := (x2 (fun q => by have := (x3 q).1; omega)).1
    have pb := (G.m m m1 lt).2.1
    have ob := (a.np (N 13021 m) pb.1 (by omega)).1.1.resolve_left y1
    obtain ⟨q1, q2'⟩ := h2 _ ob.1 ob.2.1
    have q2 := q2' ob.2.2.1
    exact ⟨y1, k, k1, by rw [q1]; exact k2, (q2 _ (Or.inl rfl) k k1 k2 : hf N' g _ k = hf N g _ k).trans k3⟩
  · unfold GWa GW1 lw
    rw [e 13059 (by decide), e 13060 (by decide)]
    exact a.wa
  · unfold GDe
    rw [e 13046 (by decide), e 13063 (by decide), e 13062 (by decide)]
    exact a.de
  · rw [e 13047 (by decide), (h2 j j1 j2).1, e 13044 (by decide), e 13049 (by decide), e 13050 (by decide), e 13048 (by decide), sc]
    exact a.nm j j1 j2
  · rw [e 13055 (by decide), e 13056 (by decide), e 13057 (by decide), e 13058 (by decide), e 13047 (by decide)]
    simp only [hr]
    exact a.np p p1 p2
  · have tc : ∀ j, tcn N' g j = tcn N g j := fun j => su_congr fun p _ _ => by
      simp only [hr]
      rw [e 13056 (by decide)]
    have mc : mcn N' g = mcn N g := su_congr fun p _ _ => by rw [e 13047 (by decide)]
    unfold GNu
    rw [mc, sc, e 13042 (by decide), e 13044 (by decide), e 13043 (by decide), e 13047 (by decide), e 13056 (by decide)]
    simp only [tc, hr]
    exact a.nu
section DEAD
variable {C : Cd} {N N0 : Nd} {A : Ad} {g m v : Int}
/-- attempts of a letter that is away -/
theorem GA.att (a : GA C N g) (m1 : 0 ≤ m) (m2 : m < 150) (w0 : C 2000 (150 * g + m) 1 = 0) : GA (uq C 2000 (150 * g + m) 3 v) N g := by
  have e : ∀ x z, ¬ (x = m ∧ z = 3) → uq C 2000 (150 * g + m) 3 v 2000 (150 * g + x) z = C 2000 (150 * g + x) z := fun x z h => by
    rw [uq_s, if_neg (by omega)]
  refine ⟨a.o, a.sh, a.me, fun j j1 j2 j3 => ?_, fun x x1 x2 => ?_, a.wa, a.de, a.nm, a.np, a.nu⟩
  · obtain ⟨y1, y2⟩ := a.ha j j1 j2 j3
    refine ⟨y1, fun k k1 k2 => ?_⟩
    obtain ⟨⟨b1, b2, b3, b4, b5⟩, y3⟩ := y2 k k1 k2
    have nm' : hf N g j k ≠ m := fun q => by rw [q] at b3; omega
    rw [e _ _ (by omega), e _ _ (by omega), e _ _ (by omega)]
    exact ⟨⟨b1, b2, b3, b4, b5⟩, y3⟩
  · obtain ⟨y1, y2, y3, y4, y5, y6, y7, y8, y9, y0⟩ := a.le x x1 x2
    rw [e x 0 (by omega), e x 1 (by omega), e x 2 (by omega), e x 5 (by omega), e x 6 (by omega)]
    refine ⟨y1, y2, y3, y4, y5, y6, y7, y8, y9, fun z => ?_⟩
    by_cases q : x = m
    · rw [q] at z y6
      have := y6.mpr z
      omega
    · rw [e x 3 (by omega)]
      exact y0 z
def ddN (N : Nd) (g m : Int) : Nd := up (up (up N 13062 (150 * g + m) 1) 13063 (150 * g + N 13046 g) m) 13046 g (N 13046 g + 1)
def ddC (C : Cd) (g m n : Int) : Cd := uq (uq (uq C 2000 (150 * g + m) 1 3) 17103 g n (2000 + (150 * g + m))) 3003 g 1 (n + 1)
theorem dd_n (g1 : 0 ≤ g) (a : GA C N g) (m1 : 0 ≤ m) (m2 : m < 150) (w0 : C 2000 (150 * g + m) 1 = 0) : N 13046 g < 150 := by
  have de := a.de
  have lm := a.le m m1 m2
  refine inj_lt (f := fun k => N 13063 (150 * g + k)) de.2.1.1 m1 m2 (fun k k1 k2 => ?_) (fun i k i1 i2 k2 => (de.2.2.1 k (by omega) k2).2 i i1 i2)
  have q := (de.2.2.1 k k1 k2).1
  refine ⟨q.1, q.2.1, fun z => ?_⟩
  have q3 := q.2.2
  have z' : N 13063 (150 * g + k) = m := z
  rw [z'] at q3
  have := lm.2.2.2.2.2.2.1.mpr q3
  omega
theorem GA.dead (G : RG N) (a : GA C N g) (g1 : 0 ≤ g) (g2 : g < 3) (m1 : 0 ≤ m) (m2 : m < 150) (un : C 17000 g m ≠ 0) (w0 : C 2000 (150 * g + m) 1 = 0) : GA (ddC C g m (N 13046 g)) (ddN N g m) g := by
  have d150 := dd_n g1 a m1 m2 w0
  have de := a.de
  have lm := a.le m m1 m2
  have nd : N 13062 (150 * g + m) = 0 := by
    have q := lm.2.2.2.2.1.2
    have q2 := lm.2.2.2.2.2.2.1
    omega
  have e : ∀ b i z, ¬ (b = 2000 ∧ i = 150 * g + m ∧ z = 1) → ¬ (b = 17103 ∧ i = g ∧ z = N 13046 g) → ¬ (b = 3003 ∧ i = g ∧ z = 1) → ddC C g m (N 13046 g) b i z = C b i z := fun b i z h1 h2 h3 => by
    unfold ddC
    rw [uq_s, if_neg h3, uq_s, if_neg h2, uq_s, if_neg h1]
  have e1 : ddC C g m (N 13046 g) 2000 (150 * g + m) 1 = 3 := by
    unfold ddC
    rw [uq_s, if_neg (by omega), uq_s, if_neg (by omega), uq_s, if_pos ⟨rfl, rfl, rfl⟩]
  have e2 : ddC C g m (N 13046 g) 3003 g 1 = N 13046 g + 1 := by
    unfold ddC
    rw [uq_s, if_pos ⟨rfl, rfl, rfl⟩]
  have e3 : ddC C g m (N 13046 g) 17103 g (N 13046 g) = 2000 + (150 * g + m) := by
    unfold ddC
    rw [uq_s, if_neg (by omega), uq_s, if_pos ⟨rfl, rfl, rfl⟩]
  have n1 : ∀ i, ddN N g m 13062 i = if i = 150 * g + m then 1 else N 13062 i := fun i => by unfold ddN; simp only [up_s, up_s, true_and, false_and, and_true, and_false, if_true, if_false, ↓reduceIte, ↓Option.bind_some, Int.reduceEq, Int.reduceNe, Int.reduceLT, Int.reduceLE, gd_true, gd_false, bind_b, q10, eq_self, reduceCtorEq, not_true_eq_false, not_false_eq_true, ne_eq]
  have n2 : ∀ k, ddN N g m 13063 (150 * g + k) = if k = N 13046 g then m else N 13063 (150 * g + k) := fun k => by
    unfold ddN
    simp only [up_s, up_s, true_and, false_and, and_true, and_false, if_true, if_false, ↓reduceIte, ↓Option.bind_some, Int.reduceEq, Int.reduceNe, Int.reduceLT, Int.reduceLE, gd_true, gd_false, bind_b, q10, eq_self, reduceCtorEq, not_true_eq_false, not_false_eq_true, ne_eq]
    by_cases q : k = N 13046 g
    · rw [if_pos q, if_pos (by omega)]
    · rw [if_neg q, if_neg (by omega)]
  have n3 : ddN N g m 13046 g = N 13046 g + 1 := by unfold ddN; simp only [up_s, up_s, true_and, false_and, and_true, and_false, if_true, if_false, ↓reduceIte, ↓Option.bind_some, Int.reduceEq, Int.reduceNe, Int.reduceLT, Int.reduceLE, gd_true, gd_false, bind_b, q10, eq_self, reduceCtorEq, not_true_eq_false, not_false_eq_true, ne_eq]
  have ar : ∀ b, b ≠ 13062 → b ≠ 13063 → b ≠ 13046 → ddN N g m b = N b := fun b h1 h2 h3 => by
    funext i
    unfold ddN
    rw [up_s, if_neg (fun z => h3 z.1), up_s, if_neg (fun z => h2 z.1), up_s, if_neg (fun z => h1 z.1)]
  refine ⟨?_, fun p p1 p2 => ?_, fun z z1 z2 => ?_, fun z z1 z2 z3 => ?_, fun x x1 x2 => ?_, ?_, ?_, a.nm, a.np, a.nu⟩
  · have o := a.o
    unfold GO at o ⊢
    rw [e _ _ _ (by omega) (by omega) (by omega), e _ _ _ (by omega) (by omega) (by omega), e _ _ _ (by omega) (by omega) (by omega), e _ _ _ (by omega) (by omega) (by omega), e _ _ _ (by omega) (by omega) (by omega), e _ _ _ (by omega) (by omega) (by omega), e _ _ _ (by omega) (by omega) (by omega), e _ _ _ (by omega) (by omega) (by omega), e _ _ _ (by omega) (by omega) (by omega)]
    exact o
  · have x := a.sh p p1 p2
    have e9 : ∀ z, ddC C g m (N 13046 g) 9000 (9 * g + p) z = C 9000 (9 * g + p) z := fun z => e _ _ _ (by omega) (by omega) (by omega)
    rw [e _ _ _ (by omega) (by omega) (by omega), e9, e9, e9, e9, e9]
    exact x
  · have x := a.me z z1 z2
    have e9 : ∀ y, ddC C g m (N 13046 g) 4000 (12 * g + z) y = C 4000 (12 * g + z) y := fun y => e _ _ _ (by omega) (by omega) (by omega)
    rw [e _ _ _ (by omega) (by omega) (by omega), e9, e9, e9, e9, e9]
    exact x
  · obtain ⟨y1, y2⟩ := a.ha z z1 z2 z3
    refine ⟨⟨?_, ?_, fun i i1 i2 => ?_⟩, fun i i1 i2 => ?_⟩
    · rw [e _ _ _ (by omega) (by omega) (by omega)]; exact y1.1
    · rw [e _ _ _ (by omega) (by omega) (by omega)]; exact y1.2.1
    · rw [e _ _ _ (by omega) (by omega) (by omega)]; exact y1.2.2 i i1 i2
    · obtain ⟨⟨b1, b2, b3, b4, b5⟩, r6⟩ := y2 i i1 i2
      have nm' : hf N g z i ≠ m := fun y => by rw [y] at b3; omega
      refine ⟨⟨b1, b2, ?_, ?_, ?_⟩, r6⟩
      · show ddC C g m (N 13046 g) 2000 (150 * g + hf N g z i) 1 = 2
        rw [e _ _ _ (by omega) (by omega) (by omega)]; exact b3
      · show ddC C g m (N 13046 g) 2000 (150 * g + hf N g z i) 3 = _
        rw [e _ _ _ (by omega) (by omega) (by omega)]; exact b4
      · show ddC C g m (N 13046 g) 2000 (150 * g + hf N g z i) 4 = _
        rw [e _ _ _ (by omega) (by omega) (by omega)]; exact b5
  · obtain ⟨x1', x2', x3', x4', x5', x6', x7', x8', x9', x0'⟩ := a.le x x1 x2
    have e17 : ddC C g m (N 13046 g) 17000 g x = C 17000 g x := e _ _ _ (by omega) (by omega) (by omega)
    have ee : ∀ z, z ≠ 1 → ddC C g m (N 13046 g) 2000 (150 * g + x) z = C 2000 (150 * g + x) z := fun z hz => e _ _ _ (by omega) (by omega) (by omega)
    rw [e17, ee 0 (by decide), ee 2 (by decide), ee 3 (by decide), ee 5 (by decide), ee 6 (by decide), n1]
    by_cases ex : x = m
    · subst ex
      rw [e1, if_pos rfl]
      have wm : ¬ N 13059 (150 * g + x) = 1 := fun z => by have := x6'.mpr z; omega
      exact ⟨x1', x2', fun z => absurd z un, x4', ⟨x5'.1, Or.inr rfl⟩, ⟨fun z => absurd z (by decide), fun z => absurd z wm⟩, ⟨fun _ => rfl, fun _ => rfl⟩, fun z => absurd z (by decide), by decide, x0'⟩
    · rw [e _ _ 1 (by omega) (by omega) (by omega), if_neg (show ¬ 150 * g + x = 150 * g + m by omega)]
      exact ⟨x1', x2', x3', x4', x5', x6', x7', x8', x9', x0'⟩
  · obtain ⟨n, f, ⟨w1, w2, w3⟩, w4⟩ := a.wa
    refine ⟨n, f, ⟨?_, ?_, fun i i1 i2 => ?_⟩, w4⟩
    · rw [e _ _ _ (by omega) (by omega) (by omega)]; exact w1
    · rw [e _ _ _ (by omega) (by omega) (by omega)]; exact w2
    · rw [e _ _ _ (by omega) (by omega) (by omega)]; exact w3 i i1 i2
  · obtain ⟨⟨w1, w2, w3⟩, w4, w5, w6⟩ := de
    unfold GDe
    rw [n3]
    refine ⟨⟨?_, e2, fun i i1 i2 => ?_⟩, by omega, fun i i1 i2 => ?_, fun x x1 x2 hx => ?_⟩
    · rw [e _ _ _ (by omega) (by omega) (by omega)]; exact w1
    · show ddC C g m (N 13046 g) 17103 g i = 2000 + (150 * g + ddN N g m 13063 (150 * g + i))
      rw [n2]
      by_cases q : i = N 13046 g
      · rw [if_pos q, q]; exact e3
      · rw [if_neg q, e _ _ _ (by omega) (by omega) (by omega)]
        exact w3 i i1 (by omega)
    · rw [n2]
      by_cases q : i = N 13046 g
      · rw [if_pos q, n1, if_pos rfl]
        refine ⟨⟨m1, m2, rfl⟩, fun k k1 k2 z => ?_⟩
        rw [n2, if_neg (by omega)] at z
        have := (w5 k k1 (by omega)).1.2.2
        rw [z] at this
        omega
      · rw [if_neg q]
        have y := w5 i i1 (by omega)
        refine ⟨⟨y.1.1, y.1.2.1, ?_⟩, fun k k1 k2 => ?_⟩
        · rw [n1]
          split
          · rfl
          · exact y.1.2.2
        · rw [n2, if_neg (by omega)]
          exact y.2 k k1 k2
    · by_cases q : x = m
      · exact ⟨N 13046 g, w4.1, by omega, by rw [n2, if_pos rfl, q]⟩
      · rw [n1, if_neg (by omega)] at hx
        obtain ⟨k, k1, k2, k3⟩ := w6 x x1 x2 hx
        exact ⟨k, k1, by omega, by rw [n2, if_neg (by omega)]; exact k3⟩
theorem MG.dd (g1 : 0 ≤ g) (m1 : 0 ≤ m) (m2 : m < 150) (h : 0 ≤ N 13046 g ∧ N 13046 g < 150) : MG g N (ddN N g m) := ((MG.rf.up (by unfold inN; omega)).up (by unfold inN; omega)).up (by unfold inN; omega)
theorem ST.dead (g1 : 0 ≤ g) (m1 : 0 ≤ m) (m2 : m < 150) (h : 0 ≤ N 13046 g ∧ N 13046 g < 150) : ST g C (ddC C g m (N 13046 g)) N (ddN N g m) := by
  have e : ∀ b i z, ¬ (b = 2000 ∧ i = 150 * g + m ∧ z = 1) → ¬ (b = 17103 ∧ i = g) → ¬ (b = 3003 ∧ i = g ∧ z = 1) → ddC C g m (N 13046 g) b i z = C b i z := fun b i z h1 h2 h3 => by
    unfold ddC
    rw [uq_s, if_neg h3, uq_s, if_neg (by omega), uq_s, if_neg h1]
  refine ⟨fun b i z hz => e b i z ?_ ?_ ?_, MG.dd g1 m1 m2 h, fun b h1 h2 h3 h4 h5 h6 h7 => ?_, fun i z hz => e _ _ _ (by omega) (by omega) (by omega), fun b h1 h2 h3 => ?_, fun x x1 x2 => ?_⟩
  · unfold inG at hz; omega
  · unfold inG at hz; omega
  · unfold inG at hz; omega
  · funext i z
    exact e _ _ _ (by omega) (by omega) (by omega)
  · funext i
    unfold ddN
    rw [up_s, if_neg (by omega), up_s, if_neg (by omega), up_s, if_neg (by omega)]
  · unfold Pd Fdl
    rw [e _ _ _ (by omega) (by omega) (by omega)]
    exact Iff.rfl
end DEAD
