/-! PURE PART, a24: beats -/
section BEATS2
variable {n : Int} {C : Cd} {N : Nd} {A : Ad}
/-- behind the beats of the members below k -/
def SW (k : Int) (N X : Nd) : Prop := MG 0 N X ∧ (∀ a, a = 13047 ∨ a = 13056 ∨ a = 13044 → X a = N a) ∧ (∀ p, 0 ≤ p → p < 3 → (ow X p = tg N p ∨ ow X p = -1 ∨ (ow X p = ow N p ∧ k ≤ ow N p)) ∧ ((ow N p = tg N p ∨ ow N p = -1) → (ow X p = tg N p ∨ (ow X p = -1 ∧ k ≤ tg N p)))) ∧ (∀ i, 0 ≤ i → i < k → N 13047 (12 * 0 + i) = 1 → X 13048 (12 * 0 + i) = (N 12000 1)) ∧ ((∀ p, 0 ≤ p → p < 3 → ow N p = tg N p ∧ tg N p ≠ -1) → ∀ a, a ≠ 13048 → X a = N a)
theorem SW.nil (hb : ∀ p, 0 ≤ p → p < 3 → -1 ≤ ow N p ∧ -1 ≤ tg N p) : SW 0 N N := ⟨MG.rf, fun _ _ => rfl, fun p p1 p2 => by have := hb p p1 p2; constructor <;> omega, fun i i1 i2 => by omega, fun _ _ _ => rfl⟩
theorem SW.st {k : Int} {X Y : Nd} (k0 : 0 ≤ k) (ht : ∀ p, 0 ≤ p → p < 3 → tg N p ≠ -1) (h : SW k N X) (b : BTR k X Y) : SW (k + 1) N Y := by
  obtain ⟨h1, h2, h3, h4, h5⟩ := h
  obtain ⟨b1, b2, b3, b4, b5⟩ := b
  have et : ∀ p, tg X p = tg N p := fun p => by
    unfold tg
    rw [h2 13056 (by decide)]
  have en : (X 12000 1) = (N 12000 1) := congrFun (h1.n0 (by decide)) 1
  refine ⟨h1.tr b1, fun a ha => (b2 a ha).trans (h2 a ha), fun p p1 p2 => ?_, fun i i1 i2 hi => ?_, fun hs a ha => ?_⟩
  · obtain ⟨c1, c2, c3⟩ := b3 p p1 p2
    obtain ⟨d1, d2⟩ := h3 p p1 p2
    have t0 := ht p p1 p2
    rw [et p] at c1 c2 c3
    generalize ow Y p = y at *
    generalize ow X p = x at *
    generalize ow N p = o at *
    generalize tg N p = t at *
    by_cases e1 : x = k ∧ t ≠ k
    · have := c1 e1
      constructor
      · omega
      · intro q
        have := d2 q
        omega
    · by_cases e2 : t = k ∧ x = -1
      · have := c2 e2
        constructor
        · omega
        · intro q
          omega
      · have := c3 e1 e2
        constructor
        · omega
        · intro q
          have := d2 q
          omega
  · rw [b4, en, h2 13047 (by decide)]
    by_cases e : i = k
    · rw [if_pos ⟨e, by rw [← e]; exact hi⟩]
    · rw [if_neg (fun z => e z.1)]
      exact h4 i i1 (by omega) hi
  · have hx := h5 hs
    rw [b5 (fun p p1 p2 => by
      have := hs p p1 p2
      rw [et p]
      have eo : ow X p = ow N p := by
        unfold ow
        rw [hx 13055 (by decide)]
      rw [eo]
      exact this) a ha]
    exact hx a ha
theorem l_sweep (l : LV n C N A) (ht : ∀ p, 0 ≤ p → p < 3 → tg N p ≠ -1) (hb : ∀ p, 0 ≤ p → p < 3 → -1 ≤ ow N p ∧ -1 ≤ tg N p) : Ok (lp (b_L_beats_9 11000) 13 (0, mk C N A)) (Sum.elim (fun _ => False) (fun M => ∃ C2 X A2, M = mk C2 X A2 ∧ LV (n + 12) C2 X A2 ∧ SW 12 N X)) := by
  refine lp_for (fun k s => ∃ C2 X A2, s = (k, mk C2 X A2) ∧ LV (n + k) C2 X A2 ∧ SW k N X) 0 12 ?_ ?_ (by omega) ⟨C, N, A, rfl, l.ups (by omega), SW.nil hb⟩
  · rintro k _ k1 k2 ⟨C2, X, A2, rfl, l2, s2⟩
    unfold b_L_beats_9
    dsimp only
    rw [if_pos (show k < 12 by omega)]
    refine Ok.bnd (x_beat l2 rfl k1 (by omega)) ?_
    rintro ⟨v, _⟩ ⟨hv, C3, Y, A3, rfl, l3, b3⟩
    dsimp only at hv ⊢
    rw [if_neg (by omega), w_eq (z := k + 1) (by omega) (by omega)]
    exact Ok.ret ⟨C3, Y, A3, rfl, l3.ups (by omega), s2.st k1 ht b3⟩
  · rintro _ ⟨C2, X, A2, rfl, l2, s2⟩
    unfold b_L_beats_9
    dsimp only
    rw [if_neg (by omega)]
    exact Ok.ret ⟨C2, X, A2, rfl, l2.ups (by omega), s2⟩
/-- what the two sweeps leave -/
def BTS (N X : Nd) : Prop := MG 0 N X ∧ (∀ a, a = 13047 ∨ a = 13056 ∨ a = 13044 → X a = N a) ∧ (∀ p, 0 ≤ p → p < 3 → ow X p = tg X p ∧ tg X p ≠ -1) ∧ (∀ i, 0 ≤ i → i < 12 → N 13047 (12 * 0 + i) = 1 → X 13048 (12 * 0 + i) = (N 12000 1)) ∧ ((∀ p, 0 ≤ p → p < 3 → ow N p = tg N p) → ∀ a, a ≠ 13048 → X a = N a)
theorem tg_ok (j : JJ n C N A) (w : WV N) (h : 0 < mcn N 0) : ∀ p, 0 ≤ p → p < 3 → tg N p ≠ -1 ∧ (-1 ≤ ow N p ∧ ow N p < 12) ∧ -1 ≤ tg N p ∧ tg N p < 12 := fun p p1 p2 => by
  have a := (j.gr (Int.le_refl 0) w.1.g).1
  have np := (a.np p p1 (by omega)).1
  have t := a.nu.2.2.2.2 h p p1 (by omega) ((gr3 w j.jn).mpr ⟨p1, p2⟩)
  refine ⟨t, ?_, ?_⟩
  · show -1 ≤ N 13055 (9 * 0 + p) ∧ N 13055 (9 * 0 + p) < 12
    rcases np.1 with z | z <;> omega
  · show -1 ≤ N 13056 (9 * 0 + p) ∧ N 13056 (9 * 0 + p) < 12
    rcases np.2 with z | z <;> omega
theorem l_sweeps (l : LV n C N A) (hm : 0 < mcn N 0) : Ok (lp (b_L_beats_2 11000) 3 (0, mk C N A)) (Sum.elim (fun _ => False) (fun M => ∃ C2 X A2, M = mk C2 X A2 ∧ LV (n + 24) C2 X A2 ∧ BTS N X)) := by
  have tk := tg_ok l.1 l.2.1 hm
  have one : ∀ {m : Int} {C : Cd} {Z : Nd} {A : Ad} {k : Int}, LV m C Z A → 0 < mcn Z 0 → 0 ≤ k → k < 2 → Ok (b_L_beats_2 11000 (k, mk C Z A)) (Sum.elim (fun s => ∃ C2 X A2, s = (k + 1, mk C2 X A2) ∧ LV (m + 12) C2 X A2 ∧ SW 12 Z X) (fun _ => False)) := fun {m C Z A k} l hm k1 k2 => by
    have tk := tg_ok l.1 l.2.1 hm
    unfold b_L_beats_2
    dsimp only
    rw [if_pos (show k < 2 by omega)]
    refine Ok.bnd (l_sweep l (fun p p1 p2 => (tk p p1 p2).1) (fun p p1 p2 => ⟨(tk p p1 p2).2.1.1, (tk p p1 p2).2.2.1⟩)) ?_
    rintro (r | M) h
    · exact h.elim
    · obtain ⟨C2, X, A2, rfl, l2, s2⟩ := h
      show Ok (some (Sum.inl (w (k + 1), mk C2 X A2))) _
      rw [w_eq (z := k + 1) (by omega) (by omega)]
      exact Ok.ret ⟨C2, X, A2, rfl, l2, s2⟩
  have mc : ∀ {X : Nd}, (∀ a, a = 13047 ∨ a = 13056 ∨ a = 13044 → X a = N a) → mcn X 0 = mcn N 0 := fun {X} h => by
    unfold mcn
    rw [h 13047 (by decide)]
  refine lp_for (fun k s => ∃ C2 X A2, s = (k, mk C2 X A2) ∧ LV (n + 12 * k) C2 X A2 ∧ ((k = 0 ∧ X = N) ∨ (k = 1 ∧ SW 12 N X) ∨ (k = 2 ∧ BTS N X))) 0 2 ?_ ?_ (by omega) ⟨C, N, A, rfl, l.ups (by omega), Or.inl ⟨rfl, rfl⟩⟩
  · rintro k _ k1 k2 ⟨C2, X, A2, rfl, l2, s2⟩
    rcases s2 with ⟨rfl, rfl⟩ | ⟨rfl, s2⟩ | ⟨rfl, -⟩
    · refine (one l2 hm (Int.le_refl 0) (by decide)).im ?_
      rintro (s | t) h
      · obtain ⟨C3, Y, A3, rfl, l3, s3⟩ := h
        exact ⟨C3, Y, A3, rfl, l3.ups (by omega), Or.inr (Or.inl ⟨rfl, s3⟩)⟩
      · exact h.elim
    · refine (one l2 (by rw [mc s2.2.1]; exact hm) (by decide) (by decide)).im ?_
      rintro (s | t) h
      · obtain ⟨C3, Y, A3, rfl, l3, s3⟩ := h
        refine ⟨C3, Y, A3, rfl, l3.ups (by omega), Or.inr (Or.inr ⟨rfl, s2.1.tr s3.1, fun a ha => (s3.2.1 a ha).trans (s2.2.1 a ha), fun p p1 p2 => ?_, fun i i1 i2 hi => ?_, fun hs a ha => ?_⟩)⟩
        · have e1 : tg X p = tg N p := by unfold tg; rw [s2.2.1 13056 (by decide)]
          have e2 : tg Y p = tg X p := by unfold tg; rw [s3.2.1 13056 (by decide)]
          obtain ⟨a1, -⟩ := s2.2.2.1 p p1 p2
          obtain ⟨-, a2⟩ := s3.2.2.1 p p1 p2
          have t := tk p p1 p2
          rw [e1] at a2
          rw [e2, e1]
          have q := a2 (by omega)
          omega
        · rw [s3.2.2.2.1 i i1 (by omega) (by rw [s2.2.1 13047 (by decide)]; exact hi)]
          exact congrFun (s2.1.n0 (by decide)) 1
        · have hx := s2.2.2.2.2 (fun p p1 p2 => ⟨hs p p1 p2, (tk p p1 p2).1⟩)
          rw [s3.2.2.2.2 (fun p p1 p2 => by
            have eo : ow X p = ow N p := by unfold ow; rw [hx 13055 (by decide)]
            have et : tg X p = tg N p := by unfold tg; rw [hx 13056 (by decide)]
            rw [eo, et]
            exact ⟨hs p p1 p2, (tk p p1 p2).1⟩) a ha]
          exact hx a ha
      · exact h.elim
    · omega
  · rintro _ ⟨C2, X, A2, rfl, l2, s2⟩
    rcases s2 with ⟨z, -⟩ | ⟨z, -⟩ | ⟨-, s2⟩
    · omega
    · omega
    · unfold b_L_beats_2
      dsimp only
      rw [if_neg (by omega)]
      exact Ok.ret ⟨C2, X, A2, rfl, l2.ups (by omega), s2⟩
theorem owc_t (w : WV N) (j : JN N) (hb : ∀ p, 0 ≤ p → p < 3 → ow N p = tg N p) (o : Int) : owc N 0 o = tcn N 0 o := by
  unfold owc tcn
  refine su_congr fun p p1 p2 => ?_
  by_cases r : gR N 0 p
  · have q := (gr3 w j).mp r
    have e : N 13055 (9 * 0 + p) = N 13056 (9 * 0 + p) := hb p q.1 q.2
    rw [e]
  · rw [if_neg (fun z => r z.1), if_neg (fun z => r z.1)]
theorem l_beats (l : LV n C N A) (hm : 0 < mcn N 0) : Ok (p_L_beats (mk C N A) 11000) (fun r => r.1 = 1 ∧ ∃ C2 X A2, r.2 = mk C2 X A2 ∧ LV (n + 60) C2 X A2 ∧ BTS N X) := by
  unfold p_L_beats
  refine Ok.bnd (l_sweeps l hm) ?_
  rintro (r | M) h
  · exact h.elim
  obtain ⟨C2, X, A2, rfl, l2, bs⟩ := h
  have mcX : mcn X 0 = mcn N 0 := by
    unfold mcn
    rw [bs.2.1 13047 (by decide)]
  have wv := l2.2.1
  have g2 := wv.1.g
  have hb := fun p p1 p2 => (bs.2.2.1 p p1 p2).1
  show Ok ((lp (b_L_beats_49 11000) 13 (9, 0, 0, mk C2 X A2)).bind fun (t4 : Int × Int × Mm) => (q_L_ofGroup t4.2.2 11000 0 2).bind fun r5 => (if r5.1 = 1 then if 1 < (w (t4.2.1 - t4.1)) then some (0) else some (1) else some (0) : Option (Int)).bind fun (s6 : Int) => (lp (b_L_beats_127 11000) 4 (s6, 0, r5.2)).bind fun (t8 : Int × Mm) => gd (t8.1 = 0 ∨ t8.1 = 1) (some (t8.1, t8.2))) _
  refine Ok.bnd (Q := fun t => ∃ a b C3 A3, t = (a, b, mk C3 X A3) ∧ JJ (n + 36) C3 X A3 ∧ (0 ≤ a ∧ a ≤ 9) ∧ (0 ≤ b ∧ b ≤ 9) ∧ b - a ≤ 1) ?_ ?_
  · refine lp_for (fun k s => ∃ a b C3 A3, s = (a, b, k, mk C3 X A3) ∧ JJ (n + 24 + k) C3 X A3 ∧ ((0 ≤ a ∧ a ≤ 9) ∧ (0 ≤ b ∧ b ≤ 9)) ∧ (a = 9 ∨ ∃ i, 0 ≤ i ∧ i < 12 ∧ X 13047 (12 * 0 + i) = 1 ∧ a = owc X 0 i) ∧ (∀ i, 0 ≤ i → i < k → X 13047 (12 * 0 + i) = 1 → a ≤ owc X 0 i) ∧ (b = 0 ∨ ∃ i, 0 ≤ i ∧ i < k ∧ X 13047 (12 * 0 + i) = 1 ∧ b = owc X 0 i)) 0 12 ?_ ?_ (by omega) ⟨9, 0, C2, A2, rfl, l2.1.ups (by omega), ⟨⟨by decide, by decide⟩, by decide, by decide⟩, Or.inl rfl, fun i i1 i2 => by omega, Or.inl rfl⟩
    · rintro k _ k1 k2 ⟨a, b, C3, A3, rfl, j3, ⟨ab, bb⟩, h1, h2, h3⟩
      unfold b_L_beats_49
      dsimp only
      rw [if_pos (show k < 12 by omega), w_eq (z := k + 1) (by omega) (by omega)]
      by_cases mi : X 13047 (12 * 0 + k) = 1
      · refine Ok.bnd (QA.ok (L_mem0 j3 (Int.le_refl 0) g2 k1 (by omega) mi)) ?_
        rintro ⟨_, _⟩ ⟨rfl, C4, A4, rfl, j4⟩
        dsimp only
        have ob := @owc_b X 0 k
        rw [if_neg (by omega)]
        refine Ok.bnd (Q := fun s => (s = owc X 0 k ∧ owc X 0 k < a) ∨ (s = a ∧ a ≤ owc X 0 k)) ?_ ?_
        · by_cases z : owc X 0 k < a
          · rw [if_pos z]; exact Ok.ret (Or.inl ⟨rfl, z⟩)
          · rw [if_neg z]; exact Ok.ret (Or.inr ⟨rfl, by omega⟩)
        · intro s hs
          have sb9 : 0 ≤ s ∧ s ≤ 9 := by
            clear h1 h2 h3
            omega
          have a1 : s = 9 ∨ ∃ i, 0 ≤ i ∧ i < 12 ∧ X 13047 (12 * 0 + i) = 1 ∧ s = owc X 0 i := by
            rcases hs with ⟨z, -⟩ | ⟨z, -⟩
            · exact Or.inr ⟨k, k1, by omega, mi, z⟩
            · rw [z]; exact h1
          have a2 : ∀ i, 0 ≤ i → i < k + 1 → X 13047 (12 * 0 + i) = 1 → s ≤ owc X 0 i := fun i i1 i2 i3 => by
            by_cases e : i = k
            · rw [e]; omega
            · have := h2 i i1 (by omega) i3
              omega
          by_cases z : b < owc X 0 k
          · rw [if_pos z]
            exact Ok.ret ⟨s, _, C4, A4, rfl, j4.ups (by omega), ⟨sb9, ob⟩, a1, a2, Or.inr ⟨k, k1, by omega, mi, rfl⟩⟩
          · rw [if_neg z]
            exact Ok.ret ⟨s, b, C4, A4, rfl, j4.ups (by omega), ⟨sb9, bb⟩, a1, a2, h3.imp id (fun ⟨i, i1, i2, i3⟩ => ⟨i, i1, by omega, i3⟩)⟩
      · obtain ⟨z, z3, q⟩ := L_memN (v := 0) j3 (g := 0) (o := k) (fun y => mi y.2.2)
        refine Ok.bnd (QA.ok q) ?_
        rintro ⟨_, _⟩ ⟨rfl, C4, A4, rfl, j4⟩
        dsimp only
        rw [if_pos (by omega), Option.bind_some, if_neg (by omega)]
        exact Ok.ret ⟨a, b, C4, A4, rfl, j4.ups (by omega), ⟨ab, bb⟩, h1, fun i i1 i2 i3 => by
          by_cases e : i = k
          · rw [e] at i3; exact absurd i3 mi
          · exact h2 i i1 (by omega) i3, h3.imp id (fun ⟨i, i1, i2, i3⟩ => ⟨i, i1, by omega, i3⟩)⟩
    · rintro _ ⟨a, b, C3, A3, rfl, j3, ⟨ab, bb⟩, h1, h2, h3⟩
      unfold b_L_beats_49
      dsimp only
      rw [if_neg (by omega)]
      refine Ok.ret ⟨a, b, C3, A3, rfl, j3.ups (by omega), ab, bb, ?_⟩
      rcases h3 with z | ⟨i, i1, i2, i3, i4⟩
      · omega
      · have hi := h2 i i1 i2 i3
        rcases h1 with z | ⟨k, k1, k2, k3, k4⟩
        · omega
        · have f := (j3.gr (Int.le_refl 0) g2).1.nu.2.2.2.1 i k i1 (by omega) k1 k2 i3 k3
          rw [owc_t wv l2.1.jn hb] at i4 k4
          omega
  · rintro _ ⟨a, b, C3, A3, rfl, j3, ab, bb, hd⟩
    dsimp only
    refine Ok.bnd (QA.ok (L_grp j3 (Int.le_refl 0) g2 (v := 2) (by decide) (by decide))) ?_
    rintro ⟨_, _⟩ ⟨rfl, C4, A4, rfl, j4⟩
    dsimp only
    have at1 : gtv X 0 2 = 1 := by
      show (if 0 < mcn X 0 ∧ atr X 0 then (1 : Int) else 0) = 1
      rw [if_pos ⟨by omega, atr_iff.mpr (fun p p1 p2 r => by
        have q := (gr3 wv l2.1.jn).mp r
        exact hb p q.1 q.2)⟩]
    rw [if_pos at1, w_eq (z := b - a) (by omega) (by omega), if_neg (by omega), Option.bind_some]
    refine Ok.bnd (Q := fun t => ∃ C5 A5, t = (1, mk C5 X A5) ∧ JJ (n + 60) C5 X A5) ?_ ?_
    · refine lp_for (fun p s => ∃ C5 A5, s = (1, p, mk C5 X A5) ∧ JJ (n + 37 + 3 * p) C5 X A5) 0 3 ?_ ?_ (by omega) ⟨C4, A4, rfl, j4.ups (by omega)⟩
      · rintro p _ p1 p2 ⟨C5, A5, rfl, j5⟩
        have r := (gr3 wv l2.1.jn).mpr ⟨p1, (show p < 3 by omega)⟩
        obtain ⟨e1, e2⟩ := bs.2.2.1 p p1 (by omega)
        have tk := tg_ok j5 wv (by omega) p p1 (by omega)
        unfold b_L_beats_127
        dsimp only
        rw [if_pos (show p < 3 by omega), w_eq (z := p + 1) (by omega) (by omega)]
        refine Ok.bnd (QA.ok (L_share01 (w := 0) j5 (Int.le_refl 0) g2 r (Or.inl rfl))) ?_
        rintro ⟨_, _⟩ ⟨rfl, C6, A6, rfl, j6⟩
        dsimp only
        rw [if_pos rfl, if_neg (show ¬ X 13055 (9 * 0 + p) < 0 from fun z => by
          have e1' : X 13055 (9 * 0 + p) = X 13056 (9 * 0 + p) := e1
          have t1 : -1 ≤ X 13056 (9 * 0 + p) := tk.2.2.1
          have t2 : X 13056 (9 * 0 + p) ≠ -1 := e2
          omega)]
        refine Ok.bnd (QA.ok (L_share01 (w := 0) j6 (Int.le_refl 0) g2 r (Or.inl rfl))) ?_
        rintro ⟨_, _⟩ ⟨rfl, C7, A7, rfl, j7⟩
        dsimp only
        refine Ok.bnd (QA.ok (L_share01 (w := 1) j7 (Int.le_refl 0) g2 r (Or.inr rfl))) ?_
        rintro ⟨_, _⟩ ⟨rfl, C8, A8, rfl, j8⟩
        dsimp only
        rw [if_pos rfl, if_neg (show ¬ (1 : Int) = 0 by decide), if_pos (show X 13055 (9 * 0 + p) = X 13056 (9 * 0 + p) from e1), ian11, Option.bind_some]
        exact Ok.ret ⟨C8, A8, rfl, j8.ups (by omega)⟩
      · rintro _ ⟨C5, A5, rfl, j5⟩
        unfold b_L_beats_127
        dsimp only
        rw [if_neg (by omega)]
        exact Ok.ret ⟨C5, A5, rfl, j5.ups (by omega)⟩
    · rintro _ ⟨C5, A5, rfl, j5⟩
      dsimp only
      rw [gd_t (Or.inr rfl)]
      exact Ok.ret ⟨rfl, C5, X, A5, rfl, ⟨j5, l2.2⟩, bs⟩
end BEATS2
