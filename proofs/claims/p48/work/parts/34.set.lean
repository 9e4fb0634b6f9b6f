/-! PURE PART, 34: one cell of the class and its cell of the table -/
theorem CC.setState {C : Cd} {N : Nd} {m v : Int} (c : CC C N) : CC (uq C 5000 m 7 v) (up N 13024 m v) :=
  ⟨c.b, c.i, c.t, c.p, c.w, c.l, c.r, fun i h1 h2 => by
    have q := c.m i h1 h2
    simp only [uq_s, up_s, up_s, true_and, false_and, and_true, and_false, if_true, if_false, ↓reduceIte, ↓Option.bind_some, Int.reduceEq, Int.reduceNe, Int.reduceLT, Int.reduceLE, gd_true, gd_false, bind_b, q10, eq_self, reduceCtorEq, not_true_eq_false, not_false_eq_true, ne_eq]
    refine ⟨q.1, q.2.1, q.2.2.1, q.2.2.2.1, q.2.2.2.2.1, q.2.2.2.2.2.1, q.2.2.2.2.2.2.1, ?_, q.2.2.2.2.2.2.2.2.1, q.2.2.2.2.2.2.2.2.2.1, q.2.2.2.2.2.2.2.2.2.2⟩
    split
    · rfl
    · exact q.2.2.2.2.2.2.2.1, c.x⟩
theorem CC.setOf {C : Cd} {N : Nd} {m v : Int} (c : CC C N) : CC (uq C 5000 m 8 v) (up N 13025 m v) :=
  ⟨c.b, c.i, c.t, c.p, c.w, c.l, c.r, fun i h1 h2 => by
    have q := c.m i h1 h2
    simp only [uq_s, up_s, up_s, true_and, false_and, and_true, and_false, if_true, if_false, ↓reduceIte, ↓Option.bind_some, Int.reduceEq, Int.reduceNe, Int.reduceLT, Int.reduceLE, gd_true, gd_false, bind_b, q10, eq_self, reduceCtorEq, not_true_eq_false, not_false_eq_true, ne_eq]
    refine ⟨q.1, q.2.1, q.2.2.1, q.2.2.2.1, q.2.2.2.2.1, q.2.2.2.2.2.1, q.2.2.2.2.2.2.1, q.2.2.2.2.2.2.2.1, ?_, q.2.2.2.2.2.2.2.2.2.1, q.2.2.2.2.2.2.2.2.2.2⟩
    split
    · rfl
    · exact q.2.2.2.2.2.2.2.2.1, c.x⟩
theorem CC.setOffset {C : Cd} {N : Nd} {m v : Int} (c : CC C N) : CC (uq C 5000 m 9 v) (up N 13026 m v) :=
  ⟨c.b, c.i, c.t, c.p, c.w, c.l, c.r, fun i h1 h2 => by
    have q := c.m i h1 h2
    simp only [uq_s, up_s, up_s, true_and, false_and, and_true, and_false, if_true, if_false, ↓reduceIte, ↓Option.bind_some, Int.reduceEq, Int.reduceNe, Int.reduceLT, Int.reduceLE, gd_true, gd_false, bind_b, q10, eq_self, reduceCtorEq, not_true_eq_false, not_false_eq_true, ne_eq]
    refine ⟨q.1, q.2.1, q.2.2.1, q.2.2.2.1, q.2.2.2.2.1, q.2.2.2.2.2.1, q.2.2.2.2.2.2.1, q.2.2.2.2.2.2.2.1, q.2.2.2.2.2.2.2.2.1, ?_, q.2.2.2.2.2.2.2.2.2.2⟩
    split
    · rfl
    · exact q.2.2.2.2.2.2.2.2.2.1, c.x⟩
theorem CC.setTick {C : Cd} {N : Nd} {m v : Int} (c : CC C N) : CC (uq C 5000 m 10 v) (up N 13027 m v) :=
  ⟨c.b, c.i, c.t, c.p, c.w, c.l, c.r, fun i h1 h2 => by
    have q := c.m i h1 h2
    simp only [uq_s, up_s, up_s, true_and, false_and, and_true, and_false, if_true, if_false, ↓reduceIte, ↓Option.bind_some, Int.reduceEq, Int.reduceNe, Int.reduceLT, Int.reduceLE, gd_true, gd_false, bind_b, q10, eq_self, reduceCtorEq, not_true_eq_false, not_false_eq_true, ne_eq]
    refine ⟨q.1, q.2.1, q.2.2.1, q.2.2.2.1, q.2.2.2.2.1, q.2.2.2.2.2.1, q.2.2.2.2.2.2.1, q.2.2.2.2.2.2.2.1, q.2.2.2.2.2.2.2.2.1, q.2.2.2.2.2.2.2.2.2.1, ?_⟩
    split
    · rfl
    · exact q.2.2.2.2.2.2.2.2.2.2, c.x⟩
theorem CC.setQuota {C : Cd} {N : Nd} {x v : Int} (c : CC C N) : CC (uq C 7000 x 1 v) (up N 13031 x v) :=
  ⟨c.b, c.i, c.t, c.p, c.w, c.l, c.r, c.m, fun i h1 h2 => by
    have q := c.x i h1 h2
    simp only [uq_s, up_s, up_s, true_and, false_and, and_true, and_false, if_true, if_false, ↓reduceIte, ↓Option.bind_some, Int.reduceEq, Int.reduceNe, Int.reduceLT, Int.reduceLE, gd_true, gd_false, bind_b, q10, eq_self, reduceCtorEq, not_true_eq_false, not_false_eq_true, ne_eq]
    refine ⟨q.1, ?_, q.2.2.1, q.2.2.2.1, q.2.2.2.2.1, q.2.2.2.2.2⟩
    split
    · rfl
    · exact q.2.1⟩
theorem CC.setSent {C : Cd} {N : Nd} {x v : Int} (c : CC C N) : CC (uq C 7000 x 2 v) (up N 13032 x v) :=
  ⟨c.b, c.i, c.t, c.p, c.w, c.l, c.r, c.m, fun i h1 h2 => by
    have q := c.x i h1 h2
    simp only [uq_s, up_s, up_s, true_and, false_and, and_true, and_false, if_true, if_false, ↓reduceIte, ↓Option.bind_some, Int.reduceEq, Int.reduceNe, Int.reduceLT, Int.reduceLE, gd_true, gd_false, bind_b, q10, eq_self, reduceCtorEq, not_true_eq_false, not_false_eq_true, ne_eq]
    refine ⟨q.1, q.2.1, ?_, q.2.2.2.1, q.2.2.2.2.1, q.2.2.2.2.2⟩
    split
    · rfl
    · exact q.2.2.1⟩
theorem CC.setGoes {C : Cd} {N : Nd} {x v : Int} (c : CC C N) : CC (uq C 7000 x 3 v) (up N 13033 x v) :=
  ⟨c.b, c.i, c.t, c.p, c.w, c.l, c.r, c.m, fun i h1 h2 => by
    have q := c.x i h1 h2
    simp only [uq_s, up_s, up_s, true_and, false_and, and_true, and_false, if_true, if_false, ↓reduceIte, ↓Option.bind_some, Int.reduceEq, Int.reduceNe, Int.reduceLT, Int.reduceLE, gd_true, gd_false, bind_b, q10, eq_self, reduceCtorEq, not_true_eq_false, not_false_eq_true, ne_eq]
    refine ⟨q.1, q.2.1, q.2.2.1, ?_, q.2.2.2.2.1, q.2.2.2.2.2⟩
    split
    · rfl
    · exact q.2.2.2.1⟩
theorem CC.setBroken {C : Cd} {N : Nd} {x v : Int} (c : CC C N) : CC (uq C 7000 x 4 v) (up N 14034 x v) :=
  ⟨c.b, c.i, c.t, c.p, c.w, c.l, c.r, c.m, fun i h1 h2 => by
    have q := c.x i h1 h2
    simp only [uq_s, up_s, up_s, true_and, false_and, and_true, and_false, if_true, if_false, ↓reduceIte, ↓Option.bind_some, Int.reduceEq, Int.reduceNe, Int.reduceLT, Int.reduceLE, gd_true, gd_false, bind_b, q10, eq_self, reduceCtorEq, not_true_eq_false, not_false_eq_true, ne_eq]
    refine ⟨q.1, q.2.1, q.2.2.1, q.2.2.2.1, ?_, q.2.2.2.2.2⟩
    split
    · rfl
    · exact q.2.2.2.2.1⟩
theorem CC.setFirst {C : Cd} {N : Nd} {p v : Int} (c : CC C N) : CC (uq C 6000 p 5 v) (up N 13015 p v) :=
  ⟨c.b, c.i, c.t, fun i h1 h2 => by
    have q := c.p i h1 h2
    simp only [uq_s, up_s, up_s, true_and, false_and, and_true, and_false, if_true, if_false, ↓reduceIte, ↓Option.bind_some, Int.reduceEq, Int.reduceNe, Int.reduceLT, Int.reduceLE, gd_true, gd_false, bind_b, q10, eq_self, reduceCtorEq, not_true_eq_false, not_false_eq_true, ne_eq]
    refine ⟨q.1, q.2.1, q.2.2.1, q.2.2.2.1, q.2.2.2.2.1, ?_⟩
    split
    · rfl
    · exact q.2.2.2.2.2, c.w, c.l, c.r, c.m, c.x⟩
theorem CC.setAge {C : Cd} {N : Nd} {t v : Int} (c : CC C N) : CC (uq C 10000 t 5 v) (up N 13009 t v) :=
  ⟨c.b, c.i, fun i h1 h2 => by
    have q := c.t i h1 h2
    simp only [uq_s, up_s, up_s, true_and, false_and, and_true, and_false, if_true, if_false, ↓reduceIte, ↓Option.bind_some, Int.reduceEq, Int.reduceNe, Int.reduceLT, Int.reduceLE, gd_true, gd_false, bind_b, q10, eq_self, reduceCtorEq, not_true_eq_false, not_false_eq_true, ne_eq]
    refine ⟨q.1, q.2.1, q.2.2.1, q.2.2.2.1, q.2.2.2.2.1, ?_, q.2.2.2.2.2.2.1, q.2.2.2.2.2.2.2⟩
    split
    · rfl
    · exact q.2.2.2.2.2.1, c.p, c.w, c.l, c.r, c.m, c.x⟩
theorem CC.setSize {C : Cd} {N : Nd} {t v : Int} (c : CC C N) : CC (uq C 10000 t 6 v) (up N 13010 t v) :=
  ⟨c.b, c.i, fun i h1 h2 => by
    have q := c.t i h1 h2
    simp only [uq_s, up_s, up_s, true_and, false_and, and_true, and_false, if_true, if_false, ↓reduceIte, ↓Option.bind_some, Int.reduceEq, Int.reduceNe, Int.reduceLT, Int.reduceLE, gd_true, gd_false, bind_b, q10, eq_self, reduceCtorEq, not_true_eq_false, not_false_eq_true, ne_eq]
    refine ⟨q.1, q.2.1, q.2.2.1, q.2.2.2.1, q.2.2.2.2.1, q.2.2.2.2.2.1, ?_, q.2.2.2.2.2.2.2⟩
    split
    · rfl
    · exact q.2.2.2.2.2.2.1, c.p, c.w, c.l, c.r, c.m, c.x⟩
theorem CC.setBegun {C : Cd} {N : Nd} {v : Int} (c : CC C N) : CC (uq C 11000 0 12 v) (up N 12000 40 v) :=
  ⟨⟨c.b.1, c.b.2.1, c.b.2.2.1, c.b.2.2.2.1, c.b.2.2.2.2.1, c.b.2.2.2.2.2.1, rfl, c.b.2.2.2.2.2.2.2.1, c.b.2.2.2.2.2.2.2.2.1, c.b.2.2.2.2.2.2.2.2.2⟩, c.i, c.t, c.p, c.w, c.l, c.r, c.m, c.x⟩
theorem CC.setLive {C : Cd} {N : Nd} {v : Int} (c : CC C N) : CC (uq C 11000 0 13 v) (up N 12000 2 v) :=
  ⟨⟨c.b.1, c.b.2.1, c.b.2.2.1, c.b.2.2.2.1, c.b.2.2.2.2.1, c.b.2.2.2.2.2.1, c.b.2.2.2.2.2.2.1, rfl, c.b.2.2.2.2.2.2.2.2.1, c.b.2.2.2.2.2.2.2.2.2⟩, c.i, c.t, c.p, c.w, c.l, c.r, c.m, c.x⟩
theorem CC.setSpeed {C : Cd} {N : Nd} {v : Int} (c : CC C N) : CC (uq C 11000 0 14 v) (up N 12000 3 v) :=
  ⟨⟨c.b.1, c.b.2.1, c.b.2.2.1, c.b.2.2.2.1, c.b.2.2.2.2.1, c.b.2.2.2.2.2.1, c.b.2.2.2.2.2.2.1, c.b.2.2.2.2.2.2.2.1, rfl, c.b.2.2.2.2.2.2.2.2.2⟩, c.i, c.t, c.p, c.w, c.l, c.r, c.m, c.x⟩
theorem CC.setNow {C : Cd} {N : Nd} {v : Int} (c : CC C N) : CC (uq C 11000 0 15 v) (up N 12000 1 v) :=
  ⟨⟨c.b.1, c.b.2.1, c.b.2.2.1, c.b.2.2.2.1, c.b.2.2.2.2.1, c.b.2.2.2.2.2.1, c.b.2.2.2.2.2.2.1, c.b.2.2.2.2.2.2.2.1, c.b.2.2.2.2.2.2.2.2.1, rfl⟩, c.i, c.t, c.p, c.w, c.l, c.r, c.m, c.x⟩
theorem CC.setLeader {C : Cd} {N : Nd} {p v : Int} (c : CC C N) : CC (uq C 6000 p 4 (if v < 0 then 0 else 8000 + (3 * p + v))) (up N 13013 p v) :=
  ⟨c.b, c.i, c.t, fun i h1 h2 => by
    have q := c.p i h1 h2
    simp only [uq_s, up_s, up_s, true_and, false_and, and_true, and_false, if_true, if_false, ↓reduceIte, ↓Option.bind_some, Int.reduceEq, Int.reduceNe, Int.reduceLT, Int.reduceLE, gd_true, gd_false, bind_b, q10, eq_self, reduceCtorEq, not_true_eq_false, not_false_eq_true, ne_eq]
    refine ⟨q.1, q.2.1, q.2.2.1, q.2.2.2.1, ?_, q.2.2.2.2.2⟩
    by_cases e : i = p
    · rw [if_pos e, if_pos e, e]
    · rw [if_neg e, if_neg e]; exact q.2.2.2.2.1, c.w, c.l, c.r, c.m, c.x⟩
theorem CC.setLog {C : Cd} {N : Nd} {p k v : Int} (h3 : 0 ≤ k) (h4 : k < 60) (c : CC C N) : CC (uq C 20100 p k (if v < 0 then 0 else 5000 + v)) (up N 13018 (60 * p + k) v) :=
  ⟨c.b, c.i, c.t, c.p, c.w, fun i j i1 i2 j1 j2 => by
    have q := c.l i j i1 i2 j1 j2
    simp only [uq_s, up_s, up_s, true_and, false_and, and_true, and_false, if_true, if_false, ↓reduceIte, ↓Option.bind_some, Int.reduceEq, Int.reduceNe, Int.reduceLT, Int.reduceLE, gd_true, gd_false, bind_b, q10, eq_self, reduceCtorEq, not_true_eq_false, not_false_eq_true, ne_eq]
    by_cases e : i = p ∧ j = k
    · obtain ⟨rfl, rfl⟩ := e
      simp only [up_s, true_and, false_and, and_true, and_false, if_true, if_false, ↓reduceIte, ↓Option.bind_some, Int.reduceEq, Int.reduceNe, Int.reduceLT, Int.reduceLE, gd_true, gd_false, bind_b, q10, eq_self, reduceCtorEq, not_true_eq_false, not_false_eq_true, ne_eq]
    · have e2 : ¬ 60 * i + j = 60 * p + k := by omega
      rw [if_neg e]
      simp only [e2, up_s, true_and, false_and, and_true, and_false, if_true, if_false, ↓reduceIte, ↓Option.bind_some, Int.reduceEq, Int.reduceNe, Int.reduceLT, Int.reduceLE, gd_true, gd_false, bind_b, q10, eq_self, reduceCtorEq, not_true_eq_false, not_false_eq_true, ne_eq]
      exact q, c.r, c.m, c.x⟩
theorem CC.setEnd {C : Cd} {N : Nd} {p r v : Int} (h3 : 0 ≤ r) (h4 : r < 3) (c : CC C N) : CC (uq C 8000 (3 * p + r) 2 v) (up N 13016 (3 * p + r) v) :=
  ⟨c.b, c.i, c.t, c.p, c.w, c.l, fun i j i1 i2 j1 j2 j3 => by
    have q := c.r i j i1 i2 j1 j2 j3
    simp only [uq_s, up_s, up_s, true_and, false_and, and_true, and_false, if_true, if_false, ↓reduceIte, ↓Option.bind_some, Int.reduceEq, Int.reduceNe, Int.reduceLT, Int.reduceLE, gd_true, gd_false, bind_b, q10, eq_self, reduceCtorEq, not_true_eq_false, not_false_eq_true, ne_eq]
    refine ⟨q.1, q.2.1, ?_, q.2.2.2.1, q.2.2.2.2⟩
    split
    · rfl
    · exact q.2.2.1, c.m, c.x⟩
theorem CC.setCaught {C : Cd} {N : Nd} {p r v : Int} (h3 : 0 ≤ r) (h4 : r < 3) (c : CC C N) : CC (uq C 8000 (3 * p + r) 3 v) (up N 13017 (3 * p + r) v) :=
  ⟨c.b, c.i, c.t, c.p, c.w, c.l, fun i j i1 i2 j1 j2 j3 => by
    have q := c.r i j i1 i2 j1 j2 j3
    simp only [uq_s, up_s, up_s, true_and, false_and, and_true, and_false, if_true, if_false, ↓reduceIte, ↓Option.bind_some, Int.reduceEq, Int.reduceNe, Int.reduceLT, Int.reduceLE, gd_true, gd_false, bind_b, q10, eq_self, reduceCtorEq, not_true_eq_false, not_false_eq_true, ne_eq]
    refine ⟨q.1, q.2.1, q.2.2.1, ?_, q.2.2.2.2⟩
    split
    · rfl
    · exact q.2.2.2.1, c.m, c.x⟩
/-- in-sync sets: a bit that is set, or not -/
theorem CC.setSync {C : Cd} {N : Nd} {p r v s : Int} (h3 : 0 ≤ r) (h4 : r < 3) (hs : ∀ j, 0 ≤ j → j < 3 → (bt s j = true ↔ if j = r then v = 1 else bt (N 13014 p) j = true)) (hv : v = 0 ∨ v = 1) (c : CC C N) : CC (uq C 8000 (3 * p + r) 4 v) (up N 13014 p s) :=
  ⟨c.b, c.i, c.t, c.p, c.w, c.l, fun i j i1 i2 j1 j2 j3 => by
    have q := c.r i j i1 i2 j1 j2 j3
    have hj := hs j j1 j2
    simp only [uq_s, up_s, up_s, true_and, false_and, and_true, and_false, if_true, if_false, ↓reduceIte, ↓Option.bind_some, Int.reduceEq, Int.reduceNe, Int.reduceLT, Int.reduceLE, gd_true, gd_false, bind_b, q10, eq_self, reduceCtorEq, not_true_eq_false, not_false_eq_true, ne_eq]
    refine ⟨q.1, q.2.1, q.2.2.1, q.2.2.2.1, ?_⟩
    by_cases e : i = p
    · subst e
      by_cases e2 : j = r
      · subst e2
        rw [if_pos rfl] at hj
        rw [if_pos rfl, if_pos rfl]
        rcases hv with hv | hv
        · rw [if_neg (by rw [hj]; omega)]; exact hv
        · rw [if_pos (by rw [hj]; exact hv)]; exact hv
      · rw [if_neg e2] at hj
        rw [if_neg (by omega), if_pos rfl, q.2.2.2.2]
        by_cases e3 : bt (N 13014 i) j = true
        · rw [if_pos e3, if_pos (hj.mpr e3)]
        · rw [if_neg e3, if_neg (fun x => e3 (hj.mp x))]
    · rw [if_neg (by omega), if_neg e]; exact q.2.2.2.2, c.m, c.x⟩
theorem fin8 {s r : Int} (P : Int → Int → Prop) (h : ∀ a : Fin 8, ∀ b : Fin 3, P (a.val : Int) (b.val : Int)) (h1 : 0 ≤ s) (h2 : s ≤ 7) (h3 : 0 ≤ r) (h4 : r < 3) : P s r := by
  have := h ⟨s.toNat, by omega⟩ ⟨r.toNat, by omega⟩
  rw [show ((⟨s.toNat, by omega⟩ : Fin 8).val : Int) = s from by simp; omega, show ((⟨r.toNat, by omega⟩ : Fin 3).val : Int) = r from by simp; omega] at this
  exact this
def clr (s r : Int) : Int := ian s (ixr (shl 1 r) (-1))
def sbt (s r : Int) : Int := ior s (shl 1 r)
theorem clr_ok {s r : Int} (h1 : 0 ≤ s) (h2 : s ≤ 7) (h3 : 0 ≤ r) (h4 : r < 3) : (0 ≤ clr s r ∧ clr s r ≤ 7) ∧ ∀ j, 0 ≤ j → j < 3 → (bt (clr s r) j = true ↔ if j = r then False else bt s j = true) := by
  have k := fin8 (fun s r => (0 ≤ clr s r ∧ clr s r ≤ 7) ∧ (bt (clr s r) 0 = true ↔ if 0 = r then False else bt s 0 = true) ∧ (bt (clr s r) 1 = true ↔ if 1 = r then False else bt s 1 = true) ∧ (bt (clr s r) 2 = true ↔ if 2 = r then False else bt s 2 = true)) (by decide +kernel) h1 h2 h3 h4
  refine ⟨k.1, fun j j1 j2 => ?_⟩
  have e : j = 0 ∨ j = 1 ∨ j = 2 := by omega
  rcases e with rfl | rfl | rfl
  · exact k.2.1
  · exact k.2.2.1
  · exact k.2.2.2
theorem sbt_ok {s r : Int} (h1 : 0 ≤ s) (h2 : s ≤ 7) (h3 : 0 ≤ r) (h4 : r < 3) : (0 ≤ sbt s r ∧ sbt s r ≤ 7) ∧ ∀ j, 0 ≤ j → j < 3 → (bt (sbt s r) j = true ↔ if j = r then True else bt s j = true) := by
  have k := fin8 (fun s r => (0 ≤ sbt s r ∧ sbt s r ≤ 7) ∧ (bt (sbt s r) 0 = true ↔ if 0 = r then True else bt s 0 = true) ∧ (bt (sbt s r) 1 = true ↔ if 1 = r then True else bt s 1 = true) ∧ (bt (sbt s r) 2 = true ↔ if 2 = r then True else bt s 2 = true)) (by decide +kernel) h1 h2 h3 h4
  refine ⟨k.1, fun j j1 j2 => ?_⟩
  have e : j = 0 ∨ j = 1 ∨ j = 2 := by omega
  rcases e with rfl | rfl | rfl
  · exact k.2.1
  · exact k.2.2.1
  · exact k.2.2.2
theorem CC.clearSync {C : Cd} {N : Nd} {p r : Int} (g : RG N) (h1 : 0 ≤ p) (h2 : p < (N 12000 11)) (h3 : 0 ≤ r) (h4 : r < 3) (c : CC C N) : CC (uq C 8000 (3 * p + r) 4 0) (up N 13014 p (clr (N 13014 p) r)) := by
  have s := (g.p p h1 h2).2.2.1
  refine c.setSync h3 h4 (fun j j1 j2 => ?_) (Or.inl rfl)
  rw [(clr_ok s.1 s.2 h3 h4).2 j j1 j2]
  by_cases e : j = r
  · rw [if_pos e, if_pos e]; simp
  · rw [if_neg e, if_neg e]
theorem CC.addSync {C : Cd} {N : Nd} {p r : Int} (g : RG N) (h1 : 0 ≤ p) (h2 : p < (N 12000 11)) (h3 : 0 ≤ r) (h4 : r < 3) (c : CC C N) : CC (uq C 8000 (3 * p + r) 4 1) (up N 13014 p (sbt (N 13014 p) r)) := by
  have s := (g.p p h1 h2).2.2.1
  refine c.setSync h3 h4 (fun j j1 j2 => ?_) (Or.inr rfl)
  rw [(sbt_ok s.1 s.2 h3 h4).2 j j1 j2]
  by_cases e : j = r
  · rw [if_pos e, if_pos e]; simp
  · rw [if_neg e, if_neg e]
