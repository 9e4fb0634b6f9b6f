/-! PURE PART, 49: a log is cut: what holds of messages and logs -/
abbrev inr (N : Nd) (p e i m : Int) : Prop := (N 13024 m = 1 ∨ N 13024 m = 3) ∧ N 13021 m = p ∧ e ≤ N 13026 m ∧ N 13026 m < i
def CTI (N : Nd) (p e i : Int) (X : Nd) : Prop :=
  (∀ a, a ≠ 13018 ∧ a ≠ 13024 ∧ a ≠ 13026 ∧ a ≠ 13025 ∧ a ≠ 14034 → X a = N a) ∧
  (∀ q k, 0 ≤ q → q < (N 12000 11) → 0 ≤ k → k < 60 → X 13018 (60 * q + k) = if q = p ∧ e ≤ k ∧ k < i then -1 else N 13018 (60 * q + k)) ∧
  (∀ m, 0 ≤ m → m < (N 12000 19) → X 13024 m = (if inr N p e i m then 2 else N 13024 m) ∧ X 13026 m = (if inr N p e i m then -1 else N 13026 m) ∧ (X 13025 m = N 13025 m ∨ (X 13025 m = 3 ∧ N 13025 m = 1)) ∧ (inr N p e i m → X 13025 m ≠ 1)) ∧ XS X
theorem ct1_at {N : Nd} {p k : Int} : (∀ j, ct1 N p k 13018 j = if j = 60 * p + k then -1 else N 13018 j) ∧ (∀ m, ct1 N p k 13024 m = if m = N 13018 (60 * p + k) then 2 else N 13024 m) ∧ (∀ m, ct1 N p k 13026 m = if m = N 13018 (60 * p + k) then -1 else N 13026 m) := by
  refine ⟨fun j => ?_, fun j => ?_, fun j => ?_⟩ <;> · unfold ct1; simp only [up_s, up_s, true_and, false_and, and_true, and_false, if_true, if_false, ↓reduceIte, ↓Option.bind_some, Int.reduceEq, Int.reduceNe, Int.reduceLT, Int.reduceLE, gd_true, gd_false, bind_b, q10, eq_self, reduceCtorEq, not_true_eq_false, not_false_eq_true, ne_eq]
theorem CTI.step {N : Nd} {p e i : Int} {X : Nd} (g : RG N) (sl : SL N) (lm : LM N) (ot : OT N) (xs : XS N) (mi : ∀ m, 0 ≤ m → m < (N 12000 19) → (N 13025 m = 0 ↔ N 13029 m = -1)) (h1 : 0 ≤ p) (h2 : p < (N 12000 11)) (h3 : 0 ≤ e) (i1 : e ≤ i) (i2 : i < 60) (h : CTI N p e i X) : CTI N p e (i + 1) (ctS X p i) := by
  obtain ⟨k1, k2, k3, k4⟩ := h
  have s0 : X 12000 = N 12000 := k1 _ (by decide)
  have lv := k2 p i h1 h2 (by omega) i2
  rw [if_neg (by omega)] at lv
  have lb := g.l p i h1 h2 (by omega) i2
  have eI : X 13029 = N 13029 := k1 _ (by decide)
  have eG : X 13033 = N 13033 := k1 _ (by decide)
  have eP : X 13020 = N 13020 := k1 _ (by decide)
  by_cases c : N 13018 (60 * p + i) < 0
  · have e0 : ctS X p i = X := by unfold ctS; rw [if_pos (by rw [lv]; exact c)]
    rw [e0]
    have ni : ∀ m, 0 ≤ m → m < (N 12000 19) → (inr N p e (i + 1) m ↔ inr N p e i m) := fun m m1 m2 => by
      constructor
      · rintro ⟨a, b, c1, d⟩
        refine ⟨a, b, c1, ?_⟩
        by_cases q : N 13026 m = i
        · have := ((sl m m1 m2).1 a).2
          rw [b, q] at this
          omega
        · omega
      · rintro ⟨a, b, c1, d⟩; exact ⟨a, b, c1, by omega⟩
    refine ⟨k1, fun q k q1 q2 a b => ?_, fun m m1 m2 => ?_, k4⟩
    · rw [k2 q k q1 q2 a b]
      by_cases z : q = p ∧ e ≤ k ∧ k < i
      · rw [if_pos z, if_pos ⟨z.1, z.2.1, by omega⟩]
      · rw [if_neg z]
        by_cases z2 : q = p ∧ e ≤ k ∧ k < i + 1
        · have ek : k = i := by omega
          rw [if_pos z2, z2.1, ek]; omega
        · rw [if_neg z2]
    · have := k3 m m1 m2
      simp only [ni m m1 m2]
      exact this
  · have m0 : 0 ≤ N 13018 (60 * p + i) := by omega
    have lmm := lm p i h1 h2 (by omega) i2 m0
    generalize hm0 : N 13018 (60 * p + i) = m at lv lb m0 lmm c
    have at1 := @ct1_at X p i
    rw [lv] at at1
    have ii : ∀ n, 0 ≤ n → n < (N 12000 19) → (inr N p e (i + 1) n ↔ n = m ∨ inr N p e i n) := fun n n1 n2 => by
      constructor
      · rintro ⟨a, b, c1, d⟩
        by_cases q : N 13026 n = i
        · have := ((sl n n1 n2).1 a).2
          rw [b, q] at this
          exact Or.inl (by omega)
        · exact Or.inr ⟨a, b, c1, by omega⟩
      · rintro (q | ⟨a, b, c1, d⟩)
        · subst q; exact ⟨lmm.2.2, lmm.1, by omega, by omega⟩
        · exact ⟨a, b, c1, by omega⟩
    have nm : ¬ inr N p e i m := fun z => by have := z.2.2.2; omega
    have t1 : ∀ q k, 0 ≤ q → q < (N 12000 11) → 0 ≤ k → k < 60 → ct1 X p i 13018 (60 * q + k) = if q = p ∧ e ≤ k ∧ k < i + 1 then -1 else N 13018 (60 * q + k) := fun q k q1 q2 a b => by
      rw [at1.1, k2 q k q1 q2 a b]
      by_cases z : 60 * q + k = 60 * p + i
      · have e1 : q = p := by omega
        have e2 : k = i := by omega
        rw [if_pos z, if_pos ⟨e1, by omega, by omega⟩]
      · rw [if_neg z]
        by_cases z2 : q = p ∧ e ≤ k ∧ k < i
        · rw [if_pos z2, if_pos ⟨z2.1, z2.2.1, by omega⟩]
        · rw [if_neg z2, if_neg (fun z3 => z2 ⟨z3.1, z3.2.1, by have := z3.2.2; have := z3.1; omega⟩)]
    have t2 : ∀ n, 0 ≤ n → n < (N 12000 19) → ct1 X p i 13024 n = (if inr N p e (i + 1) n then 2 else N 13024 n) ∧ ct1 X p i 13026 n = (if inr N p e (i + 1) n then -1 else N 13026 n) := fun n n1 n2 => by
      have := k3 n n1 n2
      rw [at1.2.1, at1.2.2, this.1, this.2.1]
      simp only [ii n n1 n2]
      by_cases z : n = m
      · simp only [z, up_s, true_and, false_and, and_true, and_false, if_true, if_false, ↓reduceIte, ↓Option.bind_some, Int.reduceEq, Int.reduceNe, Int.reduceLT, Int.reduceLE, gd_true, gd_false, bind_b, q10, eq_self, reduceCtorEq, not_true_eq_false, not_false_eq_true, ne_eq, true_or]
      · simp only [z, up_s, true_and, false_and, and_true, and_false, if_true, if_false, ↓reduceIte, ↓Option.bind_some, Int.reduceEq, Int.reduceNe, Int.reduceLT, Int.reduceLE, gd_true, gd_false, bind_b, q10, eq_self, reduceCtorEq, not_true_eq_false, not_false_eq_true, ne_eq, false_or]
    have t3 : ∀ a, a ≠ 13018 ∧ a ≠ 13024 ∧ a ≠ 13026 ∧ a ≠ 13025 ∧ a ≠ 14034 → ctS X p i a = N a := fun a ha => (ctS_ar ha).trans (k1 a ha)
    by_cases o : X 13025 m = 1
    · have e0 : ctS X p i = brkN (ct1 X p i) (X 13029 m) := by unfold ctS; rw [lv, if_neg (by omega), if_pos o]
      have o1 : N 13025 m = 1 := by
        rcases (k3 m m0 lb.2).2.2.1 with z | z
        · omega
        · exact z.2
      have ot1 := ot m m0 lb.2 o1
      have px := (g.m m m0 lb.2).1
      have em : X 12000 19 = (N 12000 19) := by rw [s0]
      have ex : X 12000 30 = (N 12000 30) := by rw [s0]
      have of : ∀ n, ctS X p i 13025 n = if 0 ≤ n ∧ n < (N 12000 19) ∧ N 13029 n = N 13029 m then 3 else X 13025 n := fun n => by
        rw [e0]
        show (if 0 ≤ n ∧ n < (X 12000 19) ∧ X 13029 n = X 13029 m then 3 else X 13025 n) = _
        rw [em, eI]
      have ob : ∀ x, ctS X p i 14034 x = if 0 ≤ x ∧ x < (N 12000 30) ∧ N 13033 x = N 13029 m then 1 else X 14034 x := fun x => by
        rw [e0]
        show (if 0 ≤ x ∧ x < (X 12000 30) ∧ X 13033 x = X 13029 m then 1 else X 14034 x) = _
        rw [ex, eG, eI]
      refine ⟨t3, fun q k q1 q2 a b => by rw [e0]; exact t1 q k q1 q2 a b, fun n n1 n2 => ⟨by rw [e0]; exact (t2 n n1 n2).1, by rw [e0]; exact (t2 n n1 n2).2, ?_, ?_⟩, ?_⟩
      · rw [of]
        have kk := (k3 n n1 n2).2.2.1
        by_cases z : N 13029 n = N 13029 m
        · rw [if_pos ⟨n1, n2, z⟩]
          have xx := (xs n _ n1 n2 px.1 px.2 (by omega) (by omega)).2.1
          have m1 := mi n n1 n2
          have rr := (g.m n n1 n2).2.2.2.2.1
          omega
        · rw [if_neg (fun y => z y.2.2)]; exact kk
      · rw [of, ii n n1 n2]
        intro z
        by_cases y : N 13029 n = N 13029 m
        · rw [if_pos ⟨n1, n2, y⟩]; omega
        · rw [if_neg (fun q => y q.2.2)]
          rcases z with z | z
          · rw [z] at y; exact absurd rfl y
          · exact (k3 n n1 n2).2.2.2 z
      · intro n x
        have s1 : ctS X p i 12000 = N 12000 := t3 _ (by decide)
        have s2 : ctS X p i 13033 = N 13033 := t3 _ (by decide)
        have s3 : ctS X p i 13029 = N 13029 := t3 _ (by decide)
        have s4 : ctS X p i 13020 = N 13020 := t3 _ (by decide)
        rw [s1, s2, s3, s4, of, ob]
        intro n1 n2 x1 x2 x3 x4
        have kx := k4 n x n1 (by rw [s0]; exact n2) x1 (by rw [s0]; exact x2) (by rw [eG]; exact x3) (by rw [eI, eG]; exact x4)
        rw [eP] at kx
        by_cases z : N 13029 n = N 13029 m
        · rw [if_pos ⟨n1, n2, z⟩, if_pos ⟨x1, x2, by omega⟩]
          exact ⟨kx.1, by omega, fun y => by omega⟩
        · rw [if_neg (fun q => z q.2.2), if_neg (fun q => z (by omega))]
          exact kx
    · have e0 : ctS X p i = ct1 X p i := by unfold ctS; rw [lv, if_neg (by omega), if_neg o]
      refine ⟨t3, fun q k q1 q2 a b => by rw [e0]; exact t1 q k q1 q2 a b, fun n n1 n2 => ⟨by rw [e0]; exact (t2 n n1 n2).1, by rw [e0]; exact (t2 n n1 n2).2, by rw [e0]; exact (k3 n n1 n2).2.2.1, ?_⟩, by rw [e0]; exact k4⟩
      rw [ii n n1 n2, e0]
      rintro (z | z)
      · subst z; exact o
      · exact (k3 n n1 n2).2.2.2 z
theorem ct2_spec {N : Nd} {p e : Int} (g : RG N) (sl : SL N) (lm : LM N) (ot : OT N) (xs : XS N) (mi : ∀ m, 0 ≤ m → m < (N 12000 19) → (N 13025 m = 0 ↔ N 13029 m = -1)) (h1 : 0 ≤ p) (h2 : p < (N 12000 11)) (h3 : 0 ≤ e) (h4 : e ≤ 60) : CTI N p e 60 (ct2 N p e).2 := by
  have h := fo_inv (g := ctG p) (i0 := e) (n := (60 - e).toNat) (a := (0, N)) (fun i s => CTI N p e i s.2) ⟨fun _ _ => rfl, fun q k _ _ _ _ => by rw [if_neg (by omega)], fun m _ _ => ⟨by rw [if_neg (fun z => by have := z.2.2; omega)], by rw [if_neg (fun z => by have := z.2.2; omega)], Or.inl rfl, fun z => by have := z.2.2; omega⟩, xs⟩ (fun i s i1 i2 hh => hh.step g sl lm ot xs mi h1 h2 h3 i1 (by omega))
  rw [show e + (((60 - e).toNat : Nat) : Int) = 60 by omega] at h
  exact h
