/-! PURE PART, a10: brokers: fetch, exactly; fail -/
abbrev feC (N : Nd) (b p : Int) : Prop := rpo N p b < 3 ∧ 0 ≤ N 13013 p ∧ ¬ rpo N p b = N 13013 p
theorem feA_at {N : Nd} {b : Int} (h : 0 ≤ (N 12000 11)) (hl : ∀ p, 0 ≤ p → p < (N 12000 11) → N 13013 p < 3) : (∀ a, a ≠ 13016 → a ≠ 13017 → a ≠ 13014 → (feA N b).2 a = N a) ∧ ∀ p, 0 ≤ p →
    (feA N b).2 13014 p = (if p < (N 12000 11) ∧ feC N b p then sbt (N 13014 p) (rpo N p b) else N 13014 p) ∧ ∀ q, 0 ≤ q → q < 3 → (feA N b).2 13016 (3 * p + q) = (if p < (N 12000 11) ∧ feC N b p ∧ q = rpo N p b then eol N p else N 13016 (3 * p + q)) ∧ (feA N b).2 13017 (3 * p + q) = (if p < (N 12000 11) ∧ feC N b p ∧ q = rpo N p b then (N 12000 1) else N 13017 (3 * p + q)) := by
  have k := fo_inv (g := feG b) (i0 := 0) (n := ((N 12000 11)).toNat) (a := ((0 : Int), N)) (fun i s => (∀ a, a ≠ 13016 → a ≠ 13017 → a ≠ 13014 → s.2 a = N a) ∧ ∀ p, 0 ≤ p →
    s.2 13014 p = (if p < i ∧ feC N b p then sbt (N 13014 p) (rpo N p b) else N 13014 p) ∧ ∀ q, 0 ≤ q → q < 3 → s.2 13016 (3 * p + q) = (if p < i ∧ feC N b p ∧ q = rpo N p b then eol N p else N 13016 (3 * p + q)) ∧ s.2 13017 (3 * p + q) = (if p < i ∧ feC N b p ∧ q = rpo N p b then (N 12000 1) else N 13017 (3 * p + q))) ⟨fun _ _ _ _ => rfl, fun p p1 => ⟨by rw [if_neg (by omega)], fun q q1 q2 => ⟨by rw [if_neg (by omega)], by rw [if_neg (by omega)]⟩⟩⟩ (fun i s i1 i2 ⟨h1, h2⟩ => by
    have rp : rpo s.2 i b = rpo N i b := rpo_ar (h1 _ (by decide) (by decide) (by decide)) (h1 _ (by decide) (by decide) (by decide)) (h1 _ (by decide) (by decide) (by decide)) i b
    have ld : s.2 13013 = N 13013 := h1 _ (by decide) (by decide) (by decide)
    have si := (h2 i i1).1
    rw [if_neg (by omega)] at si
    have re : ∀ q, 0 ≤ q → q < 3 → s.2 13016 (3 * i + q) = N 13016 (3 * i + q) := fun q q1 q2 => by
      rw [((h2 i i1).2 q q1 q2).1, if_neg (by omega)]
    have eo : eol s.2 i = eol N i := by
      have lb := @low_b (N 13014 i)
      unfold eol
      rw [ld, si]
      split
      · exact re _ lb.1 lb.2
      · rename_i z
        exact re _ (by omega) (hl i i1 (by omega))
    have ec : (rpo s.2 i b < 3 ∧ 0 ≤ s.2 13013 i ∧ ¬ rpo s.2 i b = s.2 13013 i) ↔ feC N b i := by
      rw [rp, ld]
    have nw : (s.2 12000 1) = (N 12000 1) := by rw [h1 12000 (by decide) (by decide) (by decide)]
    unfold feG
    by_cases c : feC N b i
    · rw [if_pos (ec.mpr c)]
      have rb := rpo_b c.1
      have rb3 := c.1
      have vI : ∀ p, cuN (up s.2 13016 (3 * i + rpo s.2 i b) (eol s.2 i)) i (rpo s.2 i b) 13014 p = if p = i then sbt (N 13014 i) (rpo N i b) else s.2 13014 p := fun p => by
        unfold cuN
        simp only [up_s, up_s, true_and, false_and, and_true, and_false, if_true, if_false, ↓reduceIte, ↓Option.bind_some, Int.reduceEq, Int.reduceNe, Int.reduceLT, Int.reduceLE, gd_true, gd_false, bind_b, q10, eq_self, reduceCtorEq, not_true_eq_false, not_false_eq_true, ne_eq, rp, si]
      have vE : ∀ x, cuN (up s.2 13016 (3 * i + rpo s.2 i b) (eol s.2 i)) i (rpo s.2 i b) 13016 x = if x = 3 * i + rpo N i b then eol N i else s.2 13016 x := fun x => by
        unfold cuN
        simp only [up_s, up_s, true_and, false_and, and_true, and_false, if_true, if_false, ↓reduceIte, ↓Option.bind_some, Int.reduceEq, Int.reduceNe, Int.reduceLT, Int.reduceLE, gd_true, gd_false, bind_b, q10, eq_self, reduceCtorEq, not_true_eq_false, not_false_eq_true, ne_eq, rp, eo]
      have vC : ∀ x, cuN (up s.2 13016 (3 * i + rpo s.2 i b) (eol s.2 i)) i (rpo s.2 i b) 13017 x = if x = 3 * i + rpo N i b then (N 12000 1) else s.2 13017 x := fun x => by
        unfold cuN
        simp only [up_s, up_s, true_and, false_and, and_true, and_false, if_true, if_false, ↓reduceIte, ↓Option.bind_some, Int.reduceEq, Int.reduceNe, Int.reduceLT, Int.reduceLE, gd_true, gd_false, bind_b, q10, eq_self, reduceCtorEq, not_true_eq_false, not_false_eq_true, ne_eq, rp, nw]
      refine ⟨fun a a1 a2 a3 => ?_, fun p p1 => ⟨?_, fun q q1 q2 => ⟨?_, ?_⟩⟩⟩
      · rw [← h1 a a1 a2 a3]
        funext k
        show cuN (up s.2 13016 (3 * i + rpo s.2 i b) (eol s.2 i)) i (rpo s.2 i b) a k = _
        unfold cuN
        rw [up_s, if_neg (fun z => a3 z.1), up_s, if_neg (fun z => a2 z.1), up_s, if_neg (fun z => a1 z.1)]
      · show cuN (up s.2 13016 (3 * i + rpo s.2 i b) (eol s.2 i)) i (rpo s.2 i b) 13014 p = _
        rw [vI]
        by_cases e : p = i
        · rw [if_pos e, if_pos ⟨by omega, by rw [e]; exact c⟩, e]
        · rw [if_neg e, (h2 p p1).1]
          by_cases z : p < i ∧ feC N b p
          · rw [if_pos z, if_pos ⟨by omega, z.2⟩]
          · rw [if_neg z, if_neg (fun q => z ⟨by omega, q.2⟩)]
      · show cuN (up s.2 13016 (3 * i + rpo s.2 i b) (eol s.2 i)) i (rpo s.2 i b) 13016 (3 * p + q) = _
        rw [vE]
        by_cases e : p = i ∧ q = rpo N i b
        · rw [if_pos (by omega), if_pos ⟨by omega, by rw [e.1]; exact c, by rw [e.1]; exact e.2⟩, e.1]
        · rw [if_neg (by omega), ((h2 p p1).2 q q1 q2).1]
          by_cases z : p < i ∧ feC N b p ∧ q = rpo N p b
          · rw [if_pos z, if_pos ⟨by omega, z.2⟩]
          · rw [if_neg z, if_neg (fun y => z ⟨by
              by_cases w : p = i
              · rw [w] at y; exact absurd ⟨w, y.2.2⟩ e
              · omega, y.2⟩)]
      · show cuN (up s.2 13016 (3 * i + rpo s.2 i b) (eol s.2 i)) i (rpo s.2 i b) 13017 (3 * p + q) = _
        rw [vC]
        by_cases e : p = i ∧ q = rpo N i b
        · rw [if_pos (by omega), if_pos ⟨by omega, by rw [e.1]; exact c, by rw [e.1]; exact e.2⟩]
        · rw [if_neg (by omega), ((h2 p p1).2 q q1 q2).2]
          by_cases z : p < i ∧ feC N b p ∧ q = rpo N p b
          · rw [if_pos z, if_pos ⟨by omega, z.2⟩]
          · rw [if_neg z, if_neg (fun y => z ⟨by
              by_cases w : p = i
              · rw [w] at y; exact absurd ⟨w, y.2.2⟩ e
              · omega, y.2⟩)]
    · rw [if_neg (fun z => c (ec.mp z))]
      have nc : ∀ p, p < i + 1 → feC N b p → p < i := fun p z y => by
        by_cases w : p = i
        · rw [w] at y; exact absurd y c
        · omega
      refine ⟨h1, fun p p1 => ⟨?_, fun q q1 q2 => ⟨?_, ?_⟩⟩⟩
      · rw [(h2 p p1).1]
        by_cases z : p < i ∧ feC N b p
        · rw [if_pos z, if_pos ⟨by omega, z.2⟩]
        · rw [if_neg z, if_neg (fun y => z ⟨nc p y.1 y.2, y.2⟩)]
      · rw [((h2 p p1).2 q q1 q2).1]
        by_cases z : p < i ∧ feC N b p ∧ q = rpo N p b
        · rw [if_pos z, if_pos ⟨by omega, z.2⟩]
        · rw [if_neg z, if_neg (fun y => z ⟨nc p y.1 y.2.1, y.2⟩)]
      · rw [((h2 p p1).2 q q1 q2).2]
        by_cases z : p < i ∧ feC N b p ∧ q = rpo N p b
        · rw [if_pos z, if_pos ⟨by omega, z.2⟩]
        · rw [if_neg z, if_neg (fun y => z ⟨nc p y.1 y.2.1, y.2⟩)])
  unfold feA
  rw [show (0 : Int) + ((((N 12000 11)).toNat : Nat) : Int) = (N 12000 11) by omega] at k
  exact k
theorem lead3 {N : Nd} (g : RG N) : ∀ p, 0 ≤ p → p < (N 12000 11) → N 13013 p < 3 := fun p p1 p2 => by
  have a := (g.p p p1 p2)
  have b := (g.t _ a.1.1 a.1.2).2.1
  have := a.2.1
  omega
theorem EBr.fe {N : Nd} {b : Int} (j : JN N) : EBr N (feA (up N 12000 0 0) b).2 := by
  have jz : JN (up N 12000 0 0) := j
  obtain ⟨k1, k2⟩ := feA_at (N := up N 12000 0 0) (b := b) j.g.s.2.1.1 (lead3 jz.g)
  refine EBr.lo (Y := up N 12000 0 0) (jz.feA (b := b)).2 (OK2.ar (k1 13025 (by decide) (by decide) (by decide))) (LO.feA jz) (fun i h0 _ _ _ => by rw [up_s, if_neg (fun z => h0 z.2)]) (fun a h => by funext k; rw [up_s, if_neg (fun z => h z.1)]) (Int.le_refl _) (fun h p p1 p2 hl => ?_)
  have e12 : ∀ i, (feA (up N 12000 0 0) b).2 12000 i = (up N 12000 0 0) 12000 i := fun i => by rw [k1 12000 (by decide) (by decide) (by decide)]
  rw [e12] at p2
  have p2' : p < (N 12000 11) := p2
  rw [k1 13013 (by decide) (by decide) (by decide)] at hl
  have hl' : N 13013 p < 0 := hl
  have si := (k2 p p1).1
  have nc : ¬ feC (up N 12000 0 0) b p := fun z => by
    have : 0 ≤ N 13013 p := z.2.1
    omega
  rw [if_neg (fun z => nc z.2)] at si
  rw [e12, si, brk_ar (k1 13012 (by decide) (by decide) (by decide)) (k1 13007 (by decide) (by decide) (by decide))]
  exact h p p1 p2' hl'
/-- a replica is lost: leaders, in-sync sets, what is PLAIN or COMMITTED -/
theorem faN_at {N : Nd} {p r : Int} (j : JN N) (h1 : 0 ≤ p) (h2 : p < (N 12000 11)) (h3 : 0 ≤ r) (h4 : r < 3) : OK2 N (faN N p r).2 ∧ (∀ q, q ≠ p → (faN N p r).2 13013 q = N 13013 q ∧ (faN N p r).2 13014 q = N 13014 q) ∧ ((faN N p r).2 13013 p < 0 → (N 13013 p < 0 ∧ (faN N p r).2 13014 p = N 13014 p) ∨ low ((faN N p r).2 13014 p) = r) := by
  have s := (j.g.p p h1 h2).2.2.1
  have k := clr_ok s.1 s.2 h3 h4
  unfold faN
  by_cases e0 : r = N 13013 p
  · rw [if_pos e0]
    by_cases e : clr (N 13014 p) r = 0
    · rw [if_pos e]
      have lr : low (N 13014 p) = r := by
        have lw := @low_b (N 13014 p)
        have li := low_in (j.g.p p h1 h2).2.2.2.2.2.2
        by_cases ei : low (N 13014 p) = r
        · exact ei
        · have := (k.2 _ lw.1 lw.2).mpr (by rw [if_neg ei]; exact li)
          rw [e] at this
          have ee : low (N 13014 p) = 0 ∨ low (N 13014 p) = 1 ∨ low (N 13014 p) = 2 := by omega
          rcases ee with ee | ee | ee <;> rw [ee] at this <;> exact absurd this (by decide)
      refine ⟨OK2.ar rfl, fun q hq => ⟨?_, rfl⟩, fun _ => Or.inr lr⟩
      show up N 13013 p (-1) 13013 q = _
      rw [up_s, if_neg (fun z => hq z.2)]
    · rw [if_neg e]
      have g2 := j.g.clear2 h1 h2 h3 h4 e
      have lw := @low_b (clr (N 13014 p) r)
      generalize hX : up (up N 13014 p (clr (N 13014 p) r)) 13013 p (low (clr (N 13014 p) r)) = X at g2
      have x0 : X 12000 = N 12000 := by rw [← hX]; rfl
      have xk : ∀ a, a ≠ 13013 → a ≠ 13014 → X a = N a := fun a n1 n2 => by
        rw [← hX]; funext i; rw [up_s, if_neg (fun z => n1 z.1), up_s, if_neg (fun z => n2 z.1)]
      have xl : ∀ q, X 13013 q = if q = p then low (clr (N 13014 p) r) else N 13013 q := fun q => by rw [← hX]; simp only [up_s, up_s, true_and, false_and, and_true, and_false, if_true, if_false, ↓reduceIte, ↓Option.bind_some, Int.reduceEq, Int.reduceNe, Int.reduceLT, Int.reduceLE, gd_true, gd_false, bind_b, q10, eq_self, reduceCtorEq, not_true_eq_false, not_false_eq_true, ne_eq]
      have xi : ∀ q, X 13014 q = if q = p then clr (N 13014 p) r else N 13014 q := fun q => by rw [← hX]; simp only [up_s, up_s, true_and, false_and, and_true, and_false, if_true, if_false, ↓reduceIte, ↓Option.bind_some, Int.reduceEq, Int.reduceNe, Int.reduceLT, Int.reduceLE, gd_true, gd_false, bind_b, q10, eq_self, reduceCtorEq, not_true_eq_false, not_false_eq_true, ne_eq]
      have eb := eol_b g2.t g2.p g2.e h1 (by rw [x0]; exact h2)
      have sl : SL X := by unfold SL; rw [x0, xk 13024 (by decide) (by decide), xk 13026 (by decide) (by decide), xk 13018 (by decide) (by decide), xk 13021 (by decide) (by decide)]; exact j.sl
      have lm : LM X := j.lm.ar x0 (xk _ (by decide) (by decide)) (xk _ (by decide) (by decide)) (xk _ (by decide) (by decide)) (xk _ (by decide) (by decide))
      have ot : OT X := by unfold OT; rw [x0, xk 13025 (by decide) (by decide), xk 13029 (by decide) (by decide), xk 13033 (by decide) (by decide), xk 13020 (by decide) (by decide)]; exact j.ot
      have xs : XS X := by unfold XS; rw [x0, xk 13025 (by decide) (by decide), xk 13029 (by decide) (by decide), xk 13033 (by decide) (by decide), xk 13020 (by decide) (by decide), xk 14034 (by decide) (by decide)]; exact j.xs
      have mi : ∀ m, 0 ≤ m → m < (X 12000 19) → (X 13025 m = 0 ↔ X 13029 m = -1) := fun m m1 m2 => by
        rw [x0] at m2
        rw [xk 13025 (by decide) (by decide), xk 13029 (by decide) (by decide)]
        exact (j.ms m m1 m2).2.2.1
      obtain ⟨c1, c2, c3, c4⟩ := ct2_spec g2 sl lm ot xs mi h1 (by rw [x0]; exact h2) eb.1 eb.2
      have lwe : ∀ a, a ≠ 13016 → lwN (ct2 X p (eol X p)).2 p (eol X p) a = (ct2 X p (eol X p)).2 a := fun a z => by funext i; unfold lwN; rw [ra_s, if_neg z]
      have vl : ∀ q, lwN (ct2 X p (eol X p)).2 p (eol X p) 13013 q = X 13013 q := fun q => by rw [lwe 13013 (by decide), c1 13013 (by decide)]
      have vi : ∀ q, lwN (ct2 X p (eol X p)).2 p (eol X p) 13014 q = X 13014 q := fun q => by rw [lwe 13014 (by decide), c1 13014 (by decide)]
      refine ⟨fun m m1 m2 ho => ?_, fun q hq => ⟨?_, ?_⟩, fun h => ?_⟩
      · show lwN (ct2 X p (eol X p)).2 p (eol X p) 13025 m = N 13025 m
        rw [lwe 13025 (by decide)]
        have q := (c3 m m1 (by rw [x0]; exact m2)).2.2.1
        rw [xk 13025 (by decide) (by decide)] at q
        omega
      · show lwN (ct2 X p (eol X p)).2 p (eol X p) 13013 q = _
        rw [vl, xl, if_neg hq]
      · show lwN (ct2 X p (eol X p)).2 p (eol X p) 13014 q = _
        rw [vi, xi, if_neg hq]
      · have h' : lwN (ct2 X p (eol X p)).2 p (eol X p) 13013 p < 0 := h
        rw [vl, xl, if_pos rfl] at h'
        omega
  · rw [if_neg e0]
    by_cases e : N 13013 p < 0
    · rw [if_pos e]
      exact ⟨OK2.rf, fun _ _ => ⟨rfl, rfl⟩, fun _ => Or.inl ⟨e, rfl⟩⟩
    · rw [if_neg e]
      refine ⟨OK2.ar rfl, fun q hq => ⟨rfl, ?_⟩, fun h => absurd h e⟩
      show up N 13014 p (clr (N 13014 p) r) 13014 q = _
      rw [up_s, if_neg (fun z => hq z.2)]
theorem faA_at {N : Nd} {b : Int} (j : JN N) : OK2 N (faA N b).2 ∧ ∀ p, 0 ≤ p → p < (N 12000 11) → (faA N b).2 13013 p < 0 → (N 13013 p < 0 ∧ (faA N b).2 13014 p = N 13014 p) ∨ brk N p (low ((faA N b).2 13014 p)) = b := by
  have s2 := j.g.s.2.1
  have k := fo_inv (g := faG b) (i0 := 0) (n := ((N 12000 11)).toNat) (a := ((0 : Int), N)) (fun i s => JN s.2 ∧ LO N s.2 ∧ OK2 N s.2 ∧ (∀ p, i ≤ p → s.2 13013 p = N 13013 p ∧ s.2 13014 p = N 13014 p) ∧ ∀ p, 0 ≤ p → p < i → s.2 13013 p < 0 → (N 13013 p < 0 ∧ s.2 13014 p = N 13014 p) ∨ brk N p (low (s.2 13014 p)) = b) ⟨j, LO.rf, OK2.rf, fun _ _ => ⟨rfl, rfl⟩, fun p p1 p2 => by omega⟩ (fun i s i1 i2 ⟨h1, h2, h3, h4, h5⟩ => by
    have i3 : i < (s.2 12000 11) := by rw [h2.1]; omega
    have em : (s.2 12000 19) = (N 12000 19) := h2.1 19
    unfold faG
    by_cases c : rpo s.2 i b < 3
    · rw [if_pos c]
      have rb := rpo_b c
      obtain ⟨f1, f2, f3⟩ := faN_at h1 i1 i3 rb.1 c
      refine ⟨(h1.faN i1 i3 rb.1 c).1, h2.tr (LO.faN h1 i1 i3 rb.1 c), h3.tr f1 (by omega), fun p p1 => ?_, fun p p1 p2 hl => ?_⟩
      · have q := f2 p (by omega)
        have y := h4 p (by omega)
        exact ⟨q.1.trans y.1, q.2.trans y.2⟩
      · by_cases e : p = i
        · subst e
          have y := h4 p (Int.le_refl _)
          rcases f3 hl with ⟨a1, a2⟩ | a
          · left
            exact ⟨by rw [← y.1]; exact a1, a2.trans y.2⟩
          · right
            have z := rb.2.2
            rw [brk_ar (h2.2.1 13012 (by decide)) (h2.2.1 13007 (by decide))] at z
            show brk N p (low ((faN s.2 p (rpo s.2 p b)).2 13014 p)) = b
            rw [a]
            exact z
        · have q := f2 p e
          have hl' : s.2 13013 p < 0 := by rw [← q.1]; exact hl
          have z := h5 p p1 (by omega) hl'
          show (N 13013 p < 0 ∧ (faN s.2 i (rpo s.2 i b)).2 13014 p = N 13014 p) ∨ brk N p (low ((faN s.2 i (rpo s.2 i b)).2 13014 p)) = b
          rw [q.2]
          exact z
    · rw [if_neg c]
      refine ⟨h1, h2, h3, fun p p1 => h4 p (by omega), fun p p1 p2 hl => ?_⟩
      by_cases e : p = i
      · subst e
        have y := h4 p (Int.le_refl _)
        left
        exact ⟨by rw [← y.1]; exact hl, y.2⟩
      · exact h5 p p1 (by omega) hl)
  unfold faA
  rw [show (0 : Int) + ((((N 12000 11)).toNat : Nat) : Int) = (N 12000 11) by omega] at k
  exact ⟨k.2.2.1, k.2.2.2.2⟩
theorem EBr.fa {N Y : Nd} {b : Int} (j : JN N) (b1 : 0 ≤ b) (b2 : b < 3) (hy : Y = up (up N 12000 0 0) 12000 2 (clr ((N 12000 2)) b)) : EBr N (faA Y b).2 := by
  have s2 := j.g.s.2.1
  have s6 := j.g.s.2.2.2.2.2.1
  have sb := clr_ok s6.1 s6.2 b1 b2
  have jz : JN (up N 12000 0 0) := j
  have jy : JN Y := by rw [hy]; exact jz.upLive sb.1
  have ya : ∀ a, a ≠ 12000 → Y a = N a := fun a ha => by rw [hy]; funext k; rw [up_s, if_neg (fun z => ha z.1), up_s, if_neg (fun z => ha z.1)]
  have yp : (Y 12000 11) = (N 12000 11) := by rw [hy]; rfl
  have ym : (Y 12000 19) = (N 12000 19) := by rw [hy]; rfl
  have yl : (Y 12000 2) = clr ((N 12000 2)) b := by rw [hy]; rfl
  have mo : Mo N (faA Y b).2 := by
    have q := (jy.faA (b := b)).2
    rw [hy] at q ⊢
    exact q
  obtain ⟨k1, k2⟩ := faA_at (b := b) jy
  have lo := LO.faA (b := b) jy
  refine EBr.lo (Y := Y) mo (fun m m1 m2 h => ?_) lo (fun i h0 _ h2 _ => by rw [hy, up_s, if_neg (fun z => h2 z.2), up_s, if_neg (fun z => h0 z.2)]) ya (by rw [hy]; exact Int.le_refl _) (fun h p p1 p2 hl => ?_)
  · have q := k1 m m1 (by rw [ym]; exact m2)
    rw [ya 13025 (by decide)] at q
    exact q h
  · rw [lo.1, yp] at p2
    rw [lo.1, yl, brk_ar (lo.2.1 13012 (by decide)) (lo.2.1 13007 (by decide)), brk_ar (ya 13012 (by decide)) (ya 13007 (by decide))]
    have z := k2 p p1 (by rw [yp]; exact p2) hl
    rw [brk_ar (ya 13012 (by decide)) (ya 13007 (by decide)), ya 13013 (by decide), ya 13014 (by decide)] at z
    generalize (faA Y b).2 13014 p = u at z ⊢
    have bb : 0 ≤ brk N p (low u) ∧ brk N p (low u) < 3 := by
      unfold brk
      omega
    have q := sb.2 _ bb.1 bb.2
    cases y : bt (clr ((N 12000 2)) b) (brk N p (low u)) with
    | false => rfl
    | true =>
      have q2 := q.mp y
      rcases z with ⟨z1, z2⟩ | z
      · rw [z2] at q2
        split at q2
        · exact q2.elim
        · rw [h p p1 p2 z1] at q2
          exact absurd q2 (by decide)
      · rw [if_pos z] at q2
        exact q2.elim
