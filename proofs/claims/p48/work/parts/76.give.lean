/-! PURE PART, 76: a member gives up a partition -/
/-- the place k of a hand, as the partition p is given up -/
def gvS (g j p t k : Int) (N : Nd) : Nd := if N 13021 (hf N g j k) = p then (if N 13054 (9 * (12 * g + j) + k) = 1 then irN (ooN N g j k) g (hf N g j k) t (N 13053 (9 * (12 * g + j) + k)) else ooN N g j k) else N
/-- of n places, from the last one down, i -/
def gvA (N : Nd) (g j p t : Int) (i : Nat) : Nd := fo (fun i M => gvS g j p t (hn N g j - 1 - i) M) 0 i N
def gvN (N : Nd) (g j p t : Int) : Nd := up (gvA N g j p t (hn N g j).toNat) 13055 (9 * g + p) (-1)
theorem oo_up {N : Nd} {g j k i q v : Int} : ooI (up N 13055 q v) g j k i = up (ooI N g j k i) 13055 q v := by
  funext b x
  by_cases h : b = 13052 ∨ b = 13053 ∨ b = 13054
  · rw [oo_b h, up_s, up_s, up_s, if_neg (show ¬ (b = 13055 ∧ x + 1 = q) by omega), if_neg (show ¬ (b = 13055 ∧ x = q) by omega), if_neg (show ¬ (b = 13055 ∧ x = q) by omega), oo_b h]
  · rw [up_s]
    unfold ooI
    rw [if_neg h, if_neg h]
    by_cases h2 : b = 13051 ∧ x = 12 * g + j
    · rw [if_pos h2, if_neg (show ¬ (b = 13055 ∧ x = q) by omega), if_pos h2]
      rfl
    · rw [if_neg h2, if_neg h2, up_s]
theorem ir_up {N : Nd} {g m d t q v : Int} : irN (up N 13055 q v) g m d t = up (irN N g m d t) 13055 q v := by
  funext b x
  unfold irN
  simp only [up_s]
  by_cases h : b = 13055
  · subst h
    simp only [up_s, true_and, false_and, and_true, and_false, if_true, if_false, ↓reduceIte, ↓Option.bind_some, Int.reduceEq, Int.reduceNe, Int.reduceLT, Int.reduceLE, gd_true, gd_false, bind_b, q10, eq_self, reduceCtorEq, not_true_eq_false, not_false_eq_true, ne_eq, false_and]
  · rw [if_neg (show ¬ (b = 13055 ∧ x = q) from fun z => h z.1), if_neg (show ¬ (b = 13055 ∧ x = q) from fun z => h z.1)]
theorem gv_up {N : Nd} {g j p t k q v : Int} : gvS g j p t k (up N 13055 q v) = up (gvS g j p t k N) 13055 q v := by
  unfold gvS
  have e1 : hf (up N 13055 q v) g j k = hf N g j k := rfl
  have e2 : ∀ x, (up N 13055 q v) 13021 x = N 13021 x := fun x => rfl
  have e3 : ∀ x, (up N 13055 q v) 13054 x = N 13054 x := fun x => rfl
  have e4 : ∀ x, (up N 13055 q v) 13053 x = N 13053 x := fun x => rfl
  have e5 : ooN (up N 13055 q v) g j k = up (ooN N g j k) 13055 q v := oo_up
  rw [e1, e2, e3, e4, e5]
  split
  · split
    · exact ir_up
    · rfl
  · rfl
section GIVE
variable {C : Cd} {N N0 : Nd} {A : Ad} {g j p t : Int}
/-- the table is one of the group's, but for shares -/
theorem ST.kn {C' : Cd} {N' : Nd} (s : ST g C C' N N') : C' 17000 = C 17000 ∧ C' 24000 = C 24000 ∧ C' 4000 = C 4000 ∧ C' 19000 = C 19000 ∧ C' 9000 = C 9000 ∧ C' 1000 = C 1000 :=
  ⟨s.2.2.1 _ (by decide) (by decide) (by decide) (by decide) (by decide) (by decide) (by decide), s.2.2.1 _ (by decide) (by decide) (by decide) (by decide) (by decide) (by decide) (by decide), s.2.2.1 _ (by decide) (by decide) (by decide) (by decide) (by decide) (by decide) (by decide), s.2.2.1 _ (by decide) (by decide) (by decide) (by decide) (by decide) (by decide) (by decide), s.2.2.1 _ (by decide) (by decide) (by decide) (by decide) (by decide) (by decide) (by decide), s.2.2.1 _ (by decide) (by decide) (by decide) (by decide) (by decide) (by decide) (by decide)⟩
/-- where letters are that are in hands or dead: first delivered -/
def WF (C : Cd) (g : Int) : Prop := ∀ m, 0 ≤ m → m < 150 → (C 2000 (150 * g + m) 1 = 2 ∨ C 2000 (150 * g + m) 1 = 3) → 0 < Fdl C g m
theorem GIn.wf (h : GIn C N g) : WF C g := fun m m1 m2 h2 => (h.2.2.2.2.2 m m1 m2).1 h2
/-- out of the hand; into the row, if it came from it: the class's part of a step -/
theorem c_gvStep {D : Cd} {k : Int} (td : 0 ≤ t ∧ t ≤ 400001000) (jn : JN N) (c : CC C N) (a : GA C N g) (wf : WF C g) (g1 : 0 ≤ g) (g2 : g < 3) (j1 : 0 ≤ j) (j2 : j < 12) (hi : N 13047 (12 * g + j) = 1) (k1 : 0 ≤ k) (k2 : k < hn N g j) (p1 : 0 ≤ p) (p2 : p < 9) (hD : ∀ b, b ≠ 9000 → D b = C b) (s0 : D 9000 (9 * g + p) 0 = 6000 + p) : Ok (b_X0_giveUp_16 (4000 + (12 * g + j)) (9000 + (9 * g + p)) (1000 + g) t (k, mk D N0 A)) (Sum.elim (fun s => ∃ C', s = (k - 1, mk (ovr D C') N0 A) ∧ GA C' (gvS g j p t k N) g ∧ ST g C C' N (gvS g j p t k N) ∧ WF C' g) (fun _ => False)) := by
  have s5 := jn.g.s.2.2.2.2.1
  have s2 := jn.g.s.2.1
  have h9 := a.h9 j1 j2 hi
  have me : D 4000 (12 * g + j) 1 = 3006 + (12 * g + j) := by rw [hD _ (by decide)]; exact ((a.me j j1 j2).2 hi).2.1
  have lh := (a.ha j j1 j2 hi).1
  have lD : LSr D 3006 17106 (12 * g + j) g (hn N g j) (hf N g j) := by
    unfold LSr
    rw [hD _ (by decide), hD _ (by decide)]
    exact lh
  have hget := c_get (N0 := N0) (A := A) (k := k) (LPl.h (g := 12 * g + j) (by omega) (by omega)) lD h9.2.1
  rw [if_pos ⟨k1, k2⟩] at hget
  obtain ⟨⟨b1, b2, b3, b4, b5⟩, ⟨b6, b7, b8, -⟩, -⟩ := (a.ha j j1 j2 hi).2 k k1 k2
  have ll := a.ha.ll a.le jn.g j1 j2 hi k k1 k2
  have un := GHa.kn a jn.g j1 j2 hi k1 k2
  have e0 : D 2000 (150 * g + hf N g j k) 0 = 5000 + hf N g j k := by rw [hD _ (by decide)]; exact ll.2.2
  have e2 : D 5000 (hf N g j k) 2 = 6000 + N 13021 (hf N g j k) := by rw [hD _ (by decide)]; exact (c.m _ b1 b2).2.2.1
  have pb := (jn.g.m _ b1 b2).2.1
  unfold b_X0_giveUp_16
  by_cases z : N 13021 (hf N g j k) = p
  · have rm := c_outHand (N0 := N0) (A := A) (k := k) a g1 g2 j1 j2 hi k1 k2 lD
    obtain ⟨M, r1, D1, rfl, l1, lk⟩ := rm
    have lkC := LK.ovr hD lk
    have lC : LSr (ovr C D1) 3006 17106 (12 * g + j) g (hn N g j - 1) (fun i => if i < k then hf N g j i else hf N g j (i + 1)) := l1.ovr (by decide) (by decide)
    have ga := a.out (m := hf N g j k) (k := k) jn.g g1 g2 j1 j2 hi k1 k2 rfl lC lkC
    have st := ST.out (m := hf N g j k) (k := k) jn.g a g1 j1 j2 hi k1 k2 rfl lkC
    have fd : 0 < Fdl C g (hf N g j k) := wf _ b1 (by omega) (Or.inl b3)
    have wf1 : WF (uq (ovr C D1) 2000 (150 * g + hf N g j k) 1 0) g := fun x x1 x2 hx => by
      have e6 : Fdl (uq (ovr C D1) 2000 (150 * g + hf N g j k) 1 0) g x = Fdl C g x := st.2.2.2.1 _ _ (Or.inr (Or.inr rfl))
      rw [e6]
      refine wf x x1 x2 ?_
      rw [uq_s] at hx
      split at hx
      · omega
      · rw [lkC _ _ _ (by omega) (by omega)] at hx
        exact hx
    have hD1 : ∀ b, b ≠ 9000 → uq D1 2000 (150 * g + hf N g j k) 1 0 b = uq (ovr C D1) 2000 (150 * g + hf N g j k) 1 0 b := fun b hb => by
      funext i z
      rw [uq_s, uq_s, ovr_n hb]
    have f4 : uq D1 2000 (150 * g + hf N g j k) 1 0 2000 (150 * g + hf N g j k) 4 = N 13054 (9 * (12 * g + j) + k) := by
      rw [uq_s, if_neg (by omega), lk _ _ _ (by omega) (by omega), hD _ (by decide)]
      exact b5
    have e9 : D1 9000 = D 9000 := by
      funext i z
      exact lk _ _ _ (by omega) (by omega)
    have em : hf N g j k < 150 := by omega
    have me1 : D1 4000 (12 * g + j) 1 = 3006 + (12 * g + j) := by rw [lk _ _ _ (by omega) (by omega)]; exact me
    by_cases z2 : N 13054 (9 * (12 * g + j) + k) = 1
    · have gv : gvS g j p t k N = irN (ooN N g j k) g (hf N g j k) t (N 13053 (9 * (12 * g + j) + k)) := by unfold gvS; rw [if_pos z, if_pos z2]
      have jn1 : JN (ooN N g j k) := jn.mg st.2.1
      have c1 : CC (uq (ovr C D1) 2000 (150 * g + hf N g j k) 1 0) (ooN N g j k) := c.mg st.1 st.2.1
      have t3 : uq (ovr C D1) 2000 (150 * g + hf N g j k) 1 0 2000 (150 * g + hf N g j k) 3 = N 13053 (9 * (12 * g + j) + k) := by
        rw [uq_s, if_neg (by omega), lkC _ _ _ (by omega) (by omega)]
        exact b4
      have un1 : uq (ovr C D1) 2000 (150 * g + hf N g j k) 1 0 17000 g (hf N g j k) ≠ 0 := by rw [st.kn.1]; exact un
      have pr := c_putInRow (N0 := N0) (A := A) (d := t) (D := uq D1 2000 (150 * g + hf N g j k) 1 0) jn1.g c1 ga g1 g2 b1 em un1 (by rw [uq_s, if_pos ⟨rfl, rfl, rfl⟩]) t3 b7.1 b7.2 td hD1
      obtain ⟨M2, r2, C3, rfl, ga3, lk3⟩ := pr
      have st3 := ST.row (t := N 13053 (9 * (12 * g + j) + k)) (N := ooN N g j k) b1 em (by
        show 0 < Fdl _ g _
        rw [show Fdl (uq (ovr C D1) 2000 (150 * g + hf N g j k) 1 0) g (hf N g j k) = Fdl C g (hf N g j k) from st.2.2.2.1 _ _ (Or.inr (Or.inr rfl))]
        exact fd) lk3
      rw [gv]
      have o9 : ovr (uq D1 2000 (150 * g + hf N g j k) 1 0) C3 = ovr D C3 := by
        funext b
        by_cases e : b = 9000
        · rw [e, ovr_9, ovr_9]
          funext i y
          rw [uq_s, if_neg (by omega), e9]
        · rw [ovr_n e, ovr_n e]
      rw [o9] at r2
      simp (disch := omega) only [aok, up_s, true_and, false_and, and_true, and_false, if_true, if_false, ↓reduceIte, ↓Option.bind_some, Int.reduceEq, Int.reduceNe, Int.reduceLT, Int.reduceLE, gd_true, gd_false, bind_b, q10, eq_self, reduceCtorEq, not_true_eq_false, not_false_eq_true, ne_eq, cr_11000, cr_15000, cr_16000, cr_20000, cr_20001, cr_21000, cr_22000, cr_25000, cr_1000, cr_2000, cr_3000, cr_3003, cr_3006, cr_4000, cr_5000, cr_6000, cr_7000, cr_8000, cr_9000, cr_10000, cr_13500, cr_17000, cr_17100, cr_17103, cr_17106, cr_19000, cr_20100, cr_21100, cr_23000, cr_24000, cw_11000, cw_15000, cw_16000, cw_20000, cw_20001, cw_21000, cw_22000, cw_25000, cw_1000, cw_2000, cw_3000, cw_3003, cw_3006, cw_4000, cw_5000, cw_6000, cw_7000, cw_8000, cw_9000, cw_10000, cw_13500, cw_17000, cw_17100, cw_17103, cw_17106, cw_19000, cw_20100, cw_21100, cw_23000, cw_24000, lc_13500, lc_15000, lc_16000, lc_17000, lc_17100, lc_17103, lc_17106, lc_19000, lc_20000, lc_20001, lc_20100, lc_21000, lc_21100, lc_22000, lc_23000, lc_24000, lc_25000, gd_t, w_eq, me, hget, e0, e2, z, s0, r1, f4, z2, r2, if_neg]
      refine ⟨_, rfl, C3, rfl, ga3, st.tr st3, fun x x1 x2 hx => ?_⟩
      have e6 : Fdl C3 g x = Fdl (uq (ovr C D1) 2000 (150 * g + hf N g j k) 1 0) g x := st3.2.2.2.1 _ _ (Or.inr (Or.inr rfl))
      rw [e6]
      by_cases ex : x = hf N g j k
      · rw [ex]
        rw [show Fdl (uq (ovr C D1) 2000 (150 * g + hf N g j k) 1 0) g (hf N g j k) = Fdl C g (hf N g j k) from st.2.2.2.1 _ _ (Or.inr (Or.inr rfl))]
        exact fd
      · refine wf1 x x1 x2 ?_
        have e7 : C3 2000 (150 * g + x) 1 = uq (ovr C D1) 2000 (150 * g + hf N g j k) 1 0 2000 (150 * g + x) 1 := by
          rw [lk3 _ _ _ (by omega) (by omega)]
          unfold rwC
          rw [uq_s, if_neg (by omega), uq_s, if_neg (by omega)]
        rw [e7] at hx
        exact hx
    · have z3 : N 13054 (9 * (12 * g + j) + k) = 0 := by omega
      have gv : gvS g j p t k N = ooN N g j k := by unfold gvS; rw [if_pos z, if_neg z2]
      rw [gv]
      have o9 : uq D1 2000 (150 * g + hf N g j k) 1 0 = ovr D (uq (ovr C D1) 2000 (150 * g + hf N g j k) 1 0) := by
        funext b
        by_cases e : b = 9000
        · rw [e, ovr_9]
          funext i y
          rw [uq_s, if_neg (by omega), e9]
        · rw [ovr_n e]
          exact hD1 b e
      simp (disch := omega) only [aok, up_s, true_and, false_and, and_true, and_false, if_true, if_false, ↓reduceIte, ↓Option.bind_some, Int.reduceEq, Int.reduceNe, Int.reduceLT, Int.reduceLE, gd_true, gd_false, bind_b, q10, eq_self, reduceCtorEq, not_true_eq_false, not_false_eq_true, ne_eq, cr_11000, cr_15000, cr_16000, cr_20000, cr_20001, cr_21000, cr_22000, cr_25000, cr_1000, cr_2000, cr_3000, cr_3003, cr_3006, cr_4000, cr_5000, cr_6000, cr_7000, cr_8000, cr_9000, cr_10000, cr_13500, cr_17000, cr_17100, cr_17103, cr_17106, cr_19000, cr_20100, cr_21100, cr_23000, cr_24000, cw_11000, cw_15000, cw_16000, cw_20000, cw_20001, cw_21000, cw_22000, cw_25000, cw_1000, cw_2000, cw_3000, cw_3003, cw_3006, cw_4000, cw_5000, cw_6000, cw_7000, cw_8000, cw_9000, cw_10000, cw_13500, cw_17000, cw_17100, cw_17103, cw_17106, cw_19000, cw_20100, cw_21100, cw_23000, cw_24000, lc_13500, lc_15000, lc_16000, lc_17000, lc_17100, lc_17103, lc_17106, lc_19000, lc_20000, lc_20001, lc_20100, lc_21000, lc_21100, lc_22000, lc_23000, lc_24000, lc_25000, gd_t, w_eq, me, hget, e0, e2, z, s0, r1, f4, z3, if_neg]
      exact ⟨_, rfl, uq (ovr C D1) 2000 (150 * g + hf N g j k) 1 0, by rw [← o9]; rfl, ga, st, wf1⟩
  · have gv : gvS g j p t k N = N := by unfold gvS; rw [if_neg z]
    have z' : ¬ 6000 + N 13021 (hf N g j k) = 6000 + p := by omega
    rw [gv]
    have o9 : D = ovr D C := by
      funext b
      by_cases e : b = 9000
      · rw [e, ovr_9]
      · rw [ovr_n e]; exact hD b e
    simp (disch := omega) only [aok, up_s, true_and, false_and, and_true, and_false, if_true, if_false, ↓reduceIte, ↓Option.bind_some, Int.reduceEq, Int.reduceNe, Int.reduceLT, Int.reduceLE, gd_true, gd_false, bind_b, q10, eq_self, reduceCtorEq, not_true_eq_false, not_false_eq_true, ne_eq, cr_11000, cr_15000, cr_16000, cr_20000, cr_20001, cr_21000, cr_22000, cr_25000, cr_1000, cr_2000, cr_3000, cr_3003, cr_3006, cr_4000, cr_5000, cr_6000, cr_7000, cr_8000, cr_9000, cr_10000, cr_13500, cr_17000, cr_17100, cr_17103, cr_17106, cr_19000, cr_20100, cr_21100, cr_23000, cr_24000, cw_11000, cw_15000, cw_16000, cw_20000, cw_20001, cw_21000, cw_22000, cw_25000, cw_1000, cw_2000, cw_3000, cw_3003, cw_3006, cw_4000, cw_5000, cw_6000, cw_7000, cw_8000, cw_9000, cw_10000, cw_13500, cw_17000, cw_17100, cw_17103, cw_17106, cw_19000, cw_20100, cw_21100, cw_23000, cw_24000, lc_13500, lc_15000, lc_16000, lc_17000, lc_17100, lc_17103, lc_17106, lc_19000, lc_20000, lc_20001, lc_20100, lc_21000, lc_21100, lc_22000, lc_23000, lc_24000, lc_25000, gd_t, w_eq, me, hget, e0, e2, z', s0, if_neg]
    exact ⟨_, rfl, C, by rw [← o9]; rfl, a, ST.rf, wf⟩
/-- what holds as places are looked through, from the last down -/
def GvI (C : Cd) (N : Nd) (g j p : Int) (n i : Int) (C' : Cd) (N' : Nd) : Prop := GA C' N' g ∧ ST g C C' N N' ∧ WF C' g ∧ (n - i ≤ hn N' g j ∧ hn N' g j ≤ hn N g j) ∧ ∀ s, n - i ≤ s → s < hn N' g j → N' 13021 (hf N' g j s) ≠ p
theorem gv_hn {k : Int} (g1 : 0 ≤ g) (j1 : 0 ≤ j) (k1 : 0 ≤ k) (k2 : k < hn N g j) (hs : ∀ s, k < s → s < hn N g j → N 13021 (hf N g j s) ≠ p) : (k ≤ hn (gvS g j p t k N) g j ∧ hn (gvS g j p t k N) g j ≤ hn N g j) ∧ ∀ s, k ≤ s → s < hn (gvS g j p t k N) g j → (gvS g j p t k N) 13021 (hf (gvS g j p t k N) g j s) ≠ p := by
  have on := @on_n N g j k j1 g1 j
  rw [if_pos rfl] at on
  have key : (k ≤ hn (ooN N g j k) g j ∧ hn (ooN N g j k) g j ≤ hn N g j) ∧ ∀ s, k ≤ s → s < hn (ooN N g j k) g j → (ooN N g j k) 13021 (hf (ooN N g j k) g j s) ≠ p := by
    rw [on]
    refine ⟨by omega, fun s s1 s2 => ?_⟩
    rw [on_ar (b := 13021) (by decide), show hf (ooN N g j k) g j s = if s < k then hf N g j s else hf N g j (s + 1) from on_b (Or.inl rfl) (by omega) s2, if_neg (by omega)]
    exact hs (s + 1) (by omega) (by omega)
  unfold gvS
  split
  · split
    · exact key
    · exact key
  · rename_i z
    refine ⟨by omega, fun s s1 s2 => ?_⟩
    by_cases e : s = k
    · rw [e]; exact z
    · exact hs s (by omega) s2
theorem gvA_S {i : Nat} : gvA N g j p t (i + 1) = gvS g j p t (hn N g j - 1 - i) (gvA N g j p t i) := by
  unfold gvA
  rw [fo_S, show (0 : Int) + (i : Int) = i by omega]
/-- all places, the class -/
theorem c_gvAll {D : Cd} (td : 0 ≤ t ∧ t ≤ 400001000) (jn : JN N) (c : CC C N) (a : GA C N g) (wf : WF C g) (g1 : 0 ≤ g) (g2 : g < 3) (j1 : 0 ≤ j) (j2 : j < 12) (hi : N 13047 (12 * g + j) = 1) (p1 : 0 ≤ p) (p2 : p < 9) (hD : ∀ b, b ≠ 9000 → D b = C b) (s0 : D 9000 (9 * g + p) 0 = 6000 + p) : Ok (lp (b_X0_giveUp_16 (4000 + (12 * g + j)) (9000 + (9 * g + p)) (1000 + g) t) 1000 (hn N g j - 1, mk D N0 A)) (fun M => ∃ C', M = mk (ovr D C') N0 A ∧ GvI C N g j p (hn N g j) (hn N g j) C' (gvA N g j p t (hn N g j).toNat)) := by
  have h9 := a.h9 j1 j2 hi
  have o9 : D = ovr D C := by
    funext b
    by_cases e : b = 9000
    · rw [e, ovr_9]
    · rw [ovr_n e]; exact hD b e
  refine lp_for (fun i s => ∃ C', s = (hn N g j - 1 - i, mk (ovr D C') N0 A) ∧ GvI C N g j p (hn N g j) i C' (gvA N g j p t i.toNat)) 0 (hn N g j).toNat ?_ ?_ (by omega) ⟨C, by rw [← o9, Int.sub_zero], a, ST.rf, wf, ⟨by show _ ≤ hn N g j; omega, Int.le_refl _⟩, fun s s1 s2 => by have s2' : s < hn N g j := s2; omega⟩
  · rintro i s i1 i2 ⟨C1, rfl, ga, st, wf1, hb, hs⟩
    have ic : (i + 1).toNat = i.toNat + 1 := by omega
    have ik : hn N g j - 1 - ((i.toNat : Nat) : Int) = hn N g j - 1 - i := by omega
    have jn1 : JN (gvA N g j p t i.toNat) := jn.mg st.2.1
    have c1 : CC C1 (gvA N g j p t i.toNat) := c.mg st.1 st.2.1
    have hi1 : (gvA N g j p t i.toNat) 13047 (12 * g + j) = 1 := by rw [st.2.2.2.2.1 13047 (by decide) (by decide) (by decide)]; exact hi
    have r := c_gvStep (N0 := N0) (A := A) (p := p) (t := t) (D := ovr D C1) (k := hn N g j - 1 - i) td jn1 c1 ga wf1 g1 g2 j1 j2 hi1 (by omega) (by omega) p1 p2 (fun b hb' => ovr_n hb') (by rw [ovr_9]; exact s0)
    have hv := gv_hn (N := gvA N g j p t i.toNat) (t := t) (p := p) (k := hn N g j - 1 - i) g1 j1 (by omega) (by omega) (fun s s1 s2 => hs s (by omega) s2)
    refine r.mono ?_
    rintro (s | s) hx
    · obtain ⟨C2, rfl, ga2, st2, wf2⟩ := hx
      refine ⟨C2, ?_, ?_⟩
      · have oo : ovr (ovr D C1) C2 = ovr D C2 := by
          funext b
          by_cases e : b = 9000
          · rw [e, ovr_9, ovr_9, ovr_9]
          · rw [ovr_n e, ovr_n e]
        rw [oo]
        congr 1
        omega
      · rw [ic, gvA_S, ik]
        exact ⟨ga2, st.tr st2, wf2, ⟨by omega, by omega⟩, fun s s1 s2 => hv.2 s (by omega) s2⟩
    · exact hx.elim
  · rintro s ⟨C1, rfl, h⟩
    have e0 : (0 : Int) + ((hn N g j).toNat : Int) = hn N g j := by omega
    rw [e0] at h ⊢
    unfold b_X0_giveUp_16
    simp (disch := omega) only [if_pos]
    exact ⟨_, rfl, C1, rfl, h⟩
/-- all places, the model -/
theorem m_gvAll (td : 0 ≤ t ∧ t ≤ 400001000) (jn : JN N) (c : CC C N) (a : GA C N g) (wf : WF C g) (g1 : 0 ≤ g) (g2 : g < 3) (j1 : 0 ≤ j) (j2 : j < 12) (hi : N 13047 (12 * g + j) = 1) (p1 : 0 ≤ p) (p2 : p < 9) (s0 : C 9000 (9 * g + p) 0 = 6000 + p) (ht : (N 12000 1) = t) (C' : Cd) (A' : Ad) : lp (b_X11_gGivesUp_31 12000 (12 * g + j) p g j) 1000 (hn N g j - 1, mk C' (up N 13055 (9 * g + p) (-1)) A') = some (mk C' (gvN N g j p t) A') := by
  have h9 := a.h9 j1 j2 hi
  have all : ∀ i : Nat, (i : Int) ≤ hn N g j → ∃ C1, GvI C N g j p (hn N g j) i C1 (gvA N g j p t i) := by
    intro i
    induction i with
    | zero => intro _; exact ⟨C, a, ST.rf, wf, ⟨by show _ ≤ hn N g j; omega, Int.le_refl _⟩, fun s s1 s2 => by have s2' : s < hn N g j := s2; omega⟩
    | succ i ih =>
      intro hi2
      obtain ⟨C1, ga, st, wf1, hb, hs⟩ := ih (by omega)
      have jn1 : JN (gvA N g j p t i) := jn.mg st.2.1
      have c1 : CC C1 (gvA N g j p t i) := c.mg st.1 st.2.1
      have hi1 : (gvA N g j p t i) 13047 (12 * g + j) = 1 := by rw [st.2.2.2.2.1 13047 (by decide) (by decide) (by decide)]; exact hi
      obtain ⟨r, -, hr⟩ := c_gvStep (N0 := N) (A := A') (p := p) (t := t) (D := C1) (k := hn N g j - 1 - i) td jn1 c1 ga wf1 g1 g2 j1 j2 hi1 (by omega) (by omega) p1 p2 (fun b hb' => rfl) (by rw [st.kn.2.2.2.2.1]; exact s0)
      have hv := gv_hn (N := gvA N g j p t i) (t := t) (p := p) (k := hn N g j - 1 - i) g1 j1 (by omega) (by omega) (fun s s1 s2 => hs s (by omega) s2)
      rcases r with r | r
      · obtain ⟨C2, -, ga2, st2, wf2⟩ := hr
        rw [gvA_S]
        exact ⟨C2, ga2, st.tr st2, wf2, ⟨by omega, by omega⟩, fun s s1 s2 => hv.2 s (by omega) s2⟩
      · exact hr.elim
  refine lp_seq (fun i : Nat => (hn N g j - 1 - (i : Int), mk C' (up (gvA N g j p t i) 13055 (9 * g + p) (-1)) A')) (hn N g j).toNat (fun i hi2 => ?_) ?_ (by omega) ?_
  · obtain ⟨C1, ga, st, wf1, hb, hs⟩ := all i (by omega)
    have hi1 : (gvA N g j p t i) 13047 (12 * g + j) = 1 := by rw [st.2.2.2.2.1 13047 (by decide) (by decide) (by decide)]; exact hi
    have jn1 : JN (gvA N g j p t i) := jn.mg st.2.1
    have now' : (gvA N g j p t i) 12000 1 = t := by rw [st.2.1.n0 (a := 12000) (by decide)]; exact ht
    have ic : hn N g j - 1 - ((i + 1 : Nat) : Int) = hn N g j - 1 - (i : Int) - 1 := by omega
    rw [gvA_S, ← gv_up, ic]
    generalize hk : hn N g j - 1 - (i : Int) = k
    have k1 : 0 ≤ k := by omega
    have h9' := ga.h9 j1 j2 hi1
    have k2 : k < hn (gvA N g j p t i) g j := by omega
    obtain ⟨⟨b1, b2, -⟩, ⟨-, -, b8, -⟩, -⟩ := (ga.ha j j1 j2 hi1).2 k k1 k2
    have s5 := jn1.g.s.2.2.2.2.1
    generalize gvA N g j p t i = X at *
    have e1 : hf (up X 13055 (9 * g + p) (-1)) g j k = hf X g j k := rfl
    have mo := @m_out C' (up X 13055 (9 * g + p) (-1)) A' g j k g1 g2 j1 j2 k1 k2 h9'.2.1
    have ee : hf X g j k = X 13052 (9 * (12 * g + j) + k) := rfl
    have nk : ¬ k < 0 := by omega
    have mo2 := fun d t' => @m_out C' (irN (up X 13055 (9 * g + p) (-1)) g (hf X g j k) d t') A' g j k g1 g2 j1 j2 k1 k2 h9'.2.1
    have oi : ∀ d t', ooN (irN (up X 13055 (9 * g + p) (-1)) g (hf X g j k) d t') g j k = irN (ooN (up X 13055 (9 * g + p) (-1)) g j k) g (hf X g j k) d t' := fun d t' => by
      funext b x
      show ooI (irN (up X 13055 (9 * g + p) (-1)) g (hf X g j k) d t') g j k (hn X g j - 1 - k) b x = irN (ooI (up X 13055 (9 * g + p) (-1)) g j k (hn X g j - 1 - k)) g (hf X g j k) d t' b x
      unfold irN ooI
      simp only [up_s]
      by_cases h : b = 13052 ∨ b = 13053 ∨ b = 13054
      · have n1 : b ≠ 13061 := by omega
        have n2 : b ≠ 13060 := by omega
        have n3 : b ≠ 13059 := by omega
        simp only [h, n1, n2, n3, false_and, if_true, if_false]
      · by_cases h2 : b = 13051 ∧ x = 12 * g + j
        · have n1 : b ≠ 13061 := by omega
          have n2 : b ≠ 13060 := by omega
          have n3 : b ≠ 13059 := by omega
          simp only [h, h2, n1, n2, n3, false_and, if_true, if_false, up_s, true_and, false_and, and_true, and_false, if_true, if_false, ↓reduceIte, ↓Option.bind_some, Int.reduceEq, Int.reduceNe, Int.reduceLT, Int.reduceLE, gd_true, gd_false, bind_b, q10, eq_self, reduceCtorEq, not_true_eq_false, not_false_eq_true, ne_eq]
        · simp only [h, h2, if_false]
    have mi := fun d t' => @m_intoRow C' (up X 13055 (9 * g + p) (-1)) A' g (hf X g j k) d t' g1 g2 b1 (by omega)
    rw [ee] at b1 b2 mo2 oi mi
    have s0' : X 13052 (9 * (12 * g + j) + k) < 150 := by omega
    unfold b_X11_gGivesUp_31 gvS
    rw [e1, ee]
    show _ = some (Sum.inl (k - 1, mk C' (if X 13021 (X 13052 (9 * (12 * g + j) + k)) = p then (if X 13054 (9 * (12 * g + j) + k) = 1 then irN (ooN (up X 13055 (9 * g + p) (-1)) g j k) g (X 13052 (9 * (12 * g + j) + k)) t (X 13053 (9 * (12 * g + j) + k)) else ooN (up X 13055 (9 * g + p) (-1)) g j k) else up X 13055 (9 * g + p) (-1)) A'))
    by_cases z : X 13021 (X 13052 (9 * (12 * g + j) + k)) = p
    · by_cases z2 : X 13054 (9 * (12 * g + j) + k) = 1
      · rw [if_pos z, if_pos z2]
        simp (disch := omega) only [aok, up_s, true_and, false_and, and_true, and_false, if_true, if_false, ↓reduceIte, ↓Option.bind_some, Int.reduceEq, Int.reduceNe, Int.reduceLT, Int.reduceLE, gd_true, gd_false, bind_b, q10, eq_self, reduceCtorEq, not_true_eq_false, not_false_eq_true, ne_eq, pt_0, pt_1, pt_2, pt_3, pt_4, pt_5, pt_6, pt_7, pt_8, pt_9, pt_10, pt_11, pt_12, pt_13, pt_14, pt_15, pt_16, pt_17, pt_18, pt_19, pt_20, pt_21, pt_22, pt_23, pt_24, pt_25, pt_26, pt_27, pt_28, pt_29, pt_30, pt_31, pt_32, pt_33, pt_34, pt_35, pt_36, pt_37, pt_38, pt_39, pt_40, pt_41, pt_42, pt_43, pt_44, pt_45, pt_46, pt_47, pt_48, pt_49, pt_50, pt_51, pt_52, pt_53, pt_54, pt_55, pt_56, pt_57, pt_58, pt_59, pt_60, pt_61, pt_62, pt_63, pt_64, pt_65, pt_66, pt_67, pa_13005, pw_13005, pa_13006, pw_13006, pa_13007, pw_13007, pa_14008, pw_14008, pa_13009, pw_13009, pa_13010, pw_13010, pa_13012, pw_13012, pa_13013, pw_13013, pa_13014, pw_13014, pa_13015, pw_13015, pa_13016, pw_13016, pa_13017, pw_13017, pa_13018, pw_13018, pa_13020, pw_13020, pa_13021, pw_13021, pa_13022, pw_13022, pa_13023, pw_13023, pa_13024, pw_13024, pa_13025, pw_13025, pa_13026, pw_13026, pa_13027, pw_13027, pa_13028, pw_13028, pa_13029, pw_13029, pa_13031, pw_13031, pa_13032, pw_13032, pa_13033, pw_13033, pa_14034, pw_14034, pa_13035, pw_13035, pa_13036, pw_13036, pa_13037, pw_13037, pa_13038, pw_13038, pa_13039, pw_13039, pa_13042, pw_13042, pa_13043, pw_13043, pa_13044, pw_13044, pa_13045, pw_13045, pa_13046, pw_13046, pa_13047, pw_13047, pa_13048, pw_13048, pa_13049, pw_13049, pa_13050, pw_13050, pa_13051, pw_13051, pa_13052, pw_13052, pa_13053, pw_13053, pa_13054, pw_13054, pa_13055, pw_13055, pa_13056, pw_13056, pa_13057, pw_13057, pa_13058, pw_13058, pa_13059, pw_13059, pa_13060, pw_13060, pa_13061, pw_13061, pa_13062, pw_13062, pa_13063, pw_13063, pa_13064, pw_13064, pa_13065, pw_13065, pa_13066, pw_13066, pa_13067, pw_13067, ps_0, ps_1, ps_2, ps_3, ps_4, ps_11, ps_19, ps_30, ps_40, ps_41, ln_13005, ln_13006, ln_13007, ln_14008, ln_13009, ln_13010, ln_13012, ln_13013, ln_13014, ln_13015, ln_13016, ln_13017, ln_13018, ln_13020, ln_13021, ln_13022, ln_13023, ln_13024, ln_13025, ln_13026, ln_13027, ln_13028, ln_13029, ln_13031, ln_13032, ln_13033, ln_14034, ln_13035, ln_13036, ln_13037, ln_13038, ln_13039, ln_13042, ln_13043, ln_13044, ln_13045, ln_13046, ln_13047, ln_13048, ln_13049, ln_13050, ln_13051, ln_13052, ln_13053, ln_13054, ln_13055, ln_13056, ln_13057, ln_13058, ln_13059, ln_13060, ln_13061, ln_13062, ln_13063, ln_13064, ln_13065, ln_13066, ln_13067, gd_t, w_eq, nk, z, z2, now', mi, mo2, oi]
        rfl
      · rw [if_pos z, if_neg z2]
        simp (disch := omega) only [aok, up_s, true_and, false_and, and_true, and_false, if_true, if_false, ↓reduceIte, ↓Option.bind_some, Int.reduceEq, Int.reduceNe, Int.reduceLT, Int.reduceLE, gd_true, gd_false, bind_b, q10, eq_self, reduceCtorEq, not_true_eq_false, not_false_eq_true, ne_eq, pt_0, pt_1, pt_2, pt_3, pt_4, pt_5, pt_6, pt_7, pt_8, pt_9, pt_10, pt_11, pt_12, pt_13, pt_14, pt_15, pt_16, pt_17, pt_18, pt_19, pt_20, pt_21, pt_22, pt_23, pt_24, pt_25, pt_26, pt_27, pt_28, pt_29, pt_30, pt_31, pt_32, pt_33, pt_34, pt_35, pt_36, pt_37, pt_38, pt_39, pt_40, pt_41, pt_42, pt_43, pt_44, pt_45, pt_46, pt_47, pt_48, pt_49, pt_50, pt_51, pt_52, pt_53, pt_54, pt_55, pt_56, pt_57, pt_58, pt_59, pt_60, pt_61, pt_62, pt_63, pt_64, pt_65, pt_66, pt_67, pa_13005, pw_13005, pa_13006, pw_13006, pa_13007, pw_13007, pa_14008, pw_14008, pa_13009, pw_13009, pa_13010, pw_13010, pa_13012, pw_13012, pa_13013, pw_13013, pa_13014, pw_13014, pa_13015, pw_13015, pa_13016, pw_13016, pa_13017, pw_13017, pa_13018, pw_13018, pa_13020, pw_13020, pa_13021, pw_13021, pa_13022, pw_13022, pa_13023, pw_13023, pa_13024, pw_13024, pa_13025, pw_13025, pa_13026, pw_13026, pa_13027, pw_13027, pa_13028, pw_13028, pa_13029, pw_13029, pa_13031, pw_13031, pa_13032, pw_13032, pa_13033, pw_13033, pa_14034, pw_14034, pa_13035, pw_13035, pa_13036, pw_13036, pa_13037, pw_13037, pa_13038, pw_13038, pa_13039, pw_13039, pa_13042, pw_13042, pa_13043, pw_13043, pa_13044, pw_13044, pa_13045, pw_13045, pa_13046, pw_13046, pa_13047, pw_13047, pa_13048, pw_13048, pa_13049, pw_13049, pa_13050, pw_13050, pa_13051, pw_13051, pa_13052, pw_13052, pa_13053, pw_13053, pa_13054, pw_13054, pa_13055, pw_13055, pa_13056, pw_13056, pa_13057, pw_13057, pa_13058, pw_13058, pa_13059, pw_13059, pa_13060, pw_13060, pa_13061, pw_13061, pa_13062, pw_13062, pa_13063, pw_13063, pa_13064, pw_13064, pa_13065, pw_13065, pa_13066, pw_13066, pa_13067, pw_13067, ps_0, ps_1, ps_2, ps_3, ps_4, ps_11, ps_19, ps_30, ps_40, ps_41, ln_13005, ln_13006, ln_13007, ln_14008, ln_13009, ln_13010, ln_13012, ln_13013, ln_13014, ln_13015, ln_13016, ln_13017, ln_13018, ln_13020, ln_13021, ln_13022, ln_13023, ln_13024, ln_13025, ln_13026, ln_13027, ln_13028, ln_13029, ln_13031, ln_13032, ln_13033, ln_14034, ln_13035, ln_13036, ln_13037, ln_13038, ln_13039, ln_13042, ln_13043, ln_13044, ln_13045, ln_13046, ln_13047, ln_13048, ln_13049, ln_13050, ln_13051, ln_13052, ln_13053, ln_13054, ln_13055, ln_13056, ln_13057, ln_13058, ln_13059, ln_13060, ln_13061, ln_13062, ln_13063, ln_13064, ln_13065, ln_13066, ln_13067, gd_t, w_eq, nk, z, z2, mo]
        rfl
    · rw [if_neg z]
      simp (disch := omega) only [aok, up_s, true_and, false_and, and_true, and_false, if_true, if_false, ↓reduceIte, ↓Option.bind_some, Int.reduceEq, Int.reduceNe, Int.reduceLT, Int.reduceLE, gd_true, gd_false, bind_b, q10, eq_self, reduceCtorEq, not_true_eq_false, not_false_eq_true, ne_eq, pt_0, pt_1, pt_2, pt_3, pt_4, pt_5, pt_6, pt_7, pt_8, pt_9, pt_10, pt_11, pt_12, pt_13, pt_14, pt_15, pt_16, pt_17, pt_18, pt_19, pt_20, pt_21, pt_22, pt_23, pt_24, pt_25, pt_26, pt_27, pt_28, pt_29, pt_30, pt_31, pt_32, pt_33, pt_34, pt_35, pt_36, pt_37, pt_38, pt_39, pt_40, pt_41, pt_42, pt_43, pt_44, pt_45, pt_46, pt_47, pt_48, pt_49, pt_50, pt_51, pt_52, pt_53, pt_54, pt_55, pt_56, pt_57, pt_58, pt_59, pt_60, pt_61, pt_62, pt_63, pt_64, pt_65, pt_66, pt_67, pa_13005, pw_13005, pa_13006, pw_13006, pa_13007, pw_13007, pa_14008, pw_14008, pa_13009, pw_13009, pa_13010, pw_13010, pa_13012, pw_13012, pa_13013, pw_13013, pa_13014, pw_13014, pa_13015, pw_13015, pa_13016, pw_13016, pa_13017, pw_13017, pa_13018, pw_13018, pa_13020, pw_13020, pa_13021, pw_13021, pa_13022, pw_13022, pa_13023, pw_13023, pa_13024, pw_13024, pa_13025, pw_13025, pa_13026, pw_13026, pa_13027, pw_13027, pa_13028, pw_13028, pa_13029, pw_13029, pa_13031, pw_13031, pa_13032, pw_13032, pa_13033, pw_13033, pa_14034, pw_14034, pa_13035, pw_13035, pa_13036, pw_13036, pa_13037, pw_13037, pa_13038, pw_13038, pa_13039, pw_13039, pa_13042, pw_13042, pa_13043, pw_13043, pa_13044, pw_13044, pa_13045, pw_13045, pa_13046, pw_13046, pa_13047, pw_13047, pa_13048, pw_13048, pa_13049, pw_13049, pa_13050, pw_13050, pa_13051, pw_13051, pa_13052, pw_13052, pa_13053, pw_13053, pa_13054, pw_13054, pa_13055, pw_13055, pa_13056, pw_13056, pa_13057, pw_13057, pa_13058, pw_13058, pa_13059, pw_13059, pa_13060, pw_13060, pa_13061, pw_13061, pa_13062, pw_13062, pa_13063, pw_13063, pa_13064, pw_13064, pa_13065, pw_13065, pa_13066, pw_13066, pa_13067, pw_13067, ps_0, ps_1, ps_2, ps_3, ps_4, ps_11, ps_19, ps_30, ps_40, ps_41, ln_13005, ln_13006, ln_13007, ln_14008, ln_13009, ln_13010, ln_13012, ln_13013, ln_13014, ln_13015, ln_13016, ln_13017, ln_13018, ln_13020, ln_13021, ln_13022, ln_13023, ln_13024, ln_13025, ln_13026, ln_13027, ln_13028, ln_13029, ln_13031, ln_13032, ln_13033, ln_14034, ln_13035, ln_13036, ln_13037, ln_13038, ln_13039, ln_13042, ln_13043, ln_13044, ln_13045, ln_13046, ln_13047, ln_13048, ln_13049, ln_13050, ln_13051, ln_13052, ln_13053, ln_13054, ln_13055, ln_13056, ln_13057, ln_13058, ln_13059, ln_13060, ln_13061, ln_13062, ln_13063, ln_13064, ln_13065, ln_13066, ln_13067, gd_t, w_eq, nk, z]
      rfl
  · unfold b_X11_gGivesUp_31
    rw [if_pos (by omega)]
    rfl
  · show _ = (hn N g j - 1 - ((0 : Nat) : Int), mk C' (up (gvA N g j p t 0) 13055 (9 * g + p) (-1)) A')
    rw [show ((0 : Nat) : Int) = 0 from rfl, Int.sub_zero]
    rfl
/-- a partition whose messages are in no hand has no owner from now on -/
theorem GA.free (G : RG N) (a : GA C N g) (g1 : 0 ≤ g) (g2 : g < 3) (j1 : 0 ≤ j) (j2 : j < 12) (ow : own N g j p) (hs : ∀ s, 0 ≤ s → s < hn N g j → N 13021 (hf N g j s) ≠ p) : GA (uq C 9000 (9 * g + p) 1 0) (up N 13055 (9 * g + p) (-1)) g := by
  have s2 := G.s.2.1
  have s5 := G.s.2.2.2.2.1
  have p1 := ow.1.1; have p2 := ow.1.2.1
  have hi : N 13047 (12 * g + j) = 1 := by
    have := (a.np p p1 (by omega)).1.1
    rw [ow.2] at this
    rcases this with z | z
    · omega
    · exact z.2.2.1
  have no : ∀ z s, 0 ≤ z → z < 12 → N 13047 (12 * g + z) = 1 → 0 ≤ s → s < hn N g z → N 13021 (hf N g z s) ≠ p := fun z s z1 z2 z3 s1 s2' e => by
    have o := ((a.ha z z1 z2 z3).2 s s1 s2').2.1.1
    rw [e, ow.2] at o
    subst o
    exact hs s s1 s2' e
  have ov : ∀ q, q ≠ p → (up N 13055 (9 * g + p) (-1)) 13055 (9 * g + q) = N 13055 (9 * g + q) := fun q hq => by rw [up_s, if_neg (by omega)]
  have op : (up N 13055 (9 * g + p) (-1)) 13055 (9 * g + p) = -1 := by rw [up_s, if_pos ⟨rfl, rfl⟩]
  refine ⟨a.o, fun q q1 q2 => ?_, a.me, fun z z1 z2 z3 => ?_, fun m m1 m2 => ?_, a.wa, a.de, a.nm, fun q q1 q2 => ?_, a.nu⟩
  · obtain ⟨x1, x2⟩ := a.sh q q1 q2
    refine ⟨x1, fun r => ?_⟩
    obtain ⟨y0, y1, y2, y3, y4⟩ := x2 r
    by_cases e : q = p
    · subst e
      rw [op]
      refine ⟨?_, ?_, ?_, ?_, ?_⟩
      · rw [uq_s, if_neg (by omega)]; exact y0
      · rw [uq_s, if_pos ⟨rfl, rfl, rfl⟩]; rfl
      · rw [uq_s, if_neg (by omega)]; exact y2
      · rw [uq_s, if_neg (by omega)]; exact y3
      · rw [uq_s, if_neg (by omega)]; exact y4
    · rw [ov q e]
      refine ⟨?_, ?_, ?_, ?_, ?_⟩
      · rw [uq_s, if_neg (by omega)]; exact y0
      · rw [uq_s, if_neg (by omega)]; exact y1
      · rw [uq_s, if_neg (by omega)]; exact y2
      · rw [uq_s, if_neg (by omega)]; exact y3
      · rw [uq_s, if_neg (by omega)]; exact y4
  · obtain ⟨x1, x2⟩ := a.ha z z1 z2 z3
    refine ⟨x1, fun k k1 k2 => ?_⟩
    obtain ⟨y1, ⟨y2, y3⟩, y4⟩ := x2 k k1 k2
    have np := no z k z1 z2 z3 k1 k2
    refine ⟨y1, ⟨?_, y3⟩, y4⟩
    show (up N 13055 (9 * g + p) (-1)) 13055 (9 * g + N 13021 (hf N g z k)) = z
    rw [ov _ np]
    exact y2
  · obtain ⟨x1, x2, x3, x4, x5, x6, x7, x8, x9, x0⟩ := a.le m m1 m2
    refine ⟨x1, x2, x3, x4, x5, x6, x7, fun z => ?_, x9, x0⟩
    obtain ⟨y1, k, k1, k2, k3⟩ := x8 z
    have lt : m < (N 12000 19) := (x2 (fun q => by have := (x3 q).1; have z' : C 2000 (150 * g + m) 1 = 2 := z; omega)).1
    have pb := (G.m m m1 lt).2.1
    have ob := (a.np (N 13021 m) pb.1 (by omega)).1.1.resolve_left y1
    have np : N 13021 m ≠ p := fun e => no _ k ob.1 ob.2.1 ob.2.2.1 k1 k2 (by rw [k3]; exact e)
    show (up N 13055 (9 * g + p) (-1)) 13055 (9 * g + N 13021 m) ≠ -1 ∧ ∃ k, 0 ≤ k ∧ k < hn N g ((up N 13055 (9 * g + p) (-1)) 13055 (9 * g + N 13021 m)) ∧ hf N g ((up N 13055 (9 * g + p) (-1)) 13055 (9 * g + N 13021 m)) k = m
    rw [ov _ np]
    exact ⟨y1, k, k1, k2, k3⟩
  · obtain ⟨⟨x1, x2⟩, x3⟩ := a.np q q1 q2
    refine ⟨⟨?_, x2⟩, x3⟩
    by_cases e : q = p
    · rw [e]; exact Or.inl op
    · rw [ov q e]; exact x1
theorem GIn.free (a : GIn C N g) (p1 : 0 ≤ p) : GIn (uq C 9000 (9 * g + p) 1 0) (up N 13055 (9 * g + p) (-1)) g := by
  obtain ⟨x1, x2, x3, x4, x5, x6⟩ := a
  have ov : ∀ q, (up N 13055 (9 * g + p) (-1)) 13055 (9 * g + q) ≠ -1 → N 13055 (9 * g + q) ≠ -1 := fun q hq => by
    rw [up_s] at hq
    split at hq
    · omega
    · exact hq
  have sq : ∀ q, So (uq C 9000 (9 * g + p) 1 0) g q = So C g q := fun q => by
    show uq C 9000 (9 * g + p) 1 0 9000 (9 * g + q) 5 = _
    rw [uq_s, if_neg (by omega)]
  refine ⟨fun u v u1 u2 v1 v2 hp hc hq h1 h2 => ?_, fun v v1 v2 hc hg h1 h2 => ?_, x3, x4, fun q hq => ?_, fun m m1 m2 => ?_⟩
  · rw [sq] at h1
    exact x1 u v u1 u2 v1 v2 hp hc hq h1 h2
  · rw [sq] at h1
    exact x2 v v1 v2 hc hg h1 (h2.imp id (fun z => ⟨ov _ z.1, z.2⟩))
  · rw [sq]
    exact ⟨(x5 q hq).1, fun z => (x5 q hq).2 (ov q z)⟩
  · rw [sq]
    exact x6 m m1 m2
/-- what to give up keeps -/
def GV (g p : Int) (C C' : Cd) (N N' : Nd) : Prop := ∃ C2 N2, C' = uq C2 9000 (9 * g + p) 1 0 ∧ N' = up N2 13055 (9 * g + p) (-1) ∧ ST g C C2 N N2
theorem c_giveUp (td : 0 ≤ t ∧ t ≤ 400001000) (jn : JN N) (c : CC C N) (gr : GR C N g) (g1 : 0 ≤ g) (g2 : g < 3) (j1 : 0 ≤ j) (j2 : j < 12) (ow : own N g j p) : Ok (p_X0_giveUp (mk C N0 A) (1000 + g) (9000 + (9 * g + p)) (4000 + (12 * g + j)) t) (fun M => ∃ C', M = mk C' N0 A ∧ GR C' (gvN N g j p t) g ∧ GV g p C C' N (gvN N g j p t)) := by
  have a := gr.1
  have s2 := jn.g.s.2.1
  have p1 := ow.1.1; have p2 := ow.1.2.1
  have hi : N 13047 (12 * g + j) = 1 := by
    have := (a.np p p1 (by omega)).1.1
    rw [ow.2] at this
    rcases this with z | z
    · omega
    · exact z.2.2.1
  have h9 := a.h9 j1 j2 hi
  have s0 := ((a.sh p p1 (by omega)).2 ow.1).1
  have me := ((a.me j j1 j2).2 hi).2.1
  have hsz : C 3006 (12 * g + j) 1 = hn N g j := (a.ha j j1 j2 hi).1.2.1
  have ca := c_gvAll (N0 := N0) (A := A) (p := p) (t := t) (D := uq C 9000 (9 * g + p) 1 0) td jn c a gr.2.wf g1 g2 j1 j2 hi p1 (by omega) (fun b hb => by
    funext i z
    rw [uq_s, if_neg (fun q => hb q.1)]) (by rw [uq_s, if_neg (by omega)]; exact s0)
  have wsub : w (hn N g j - 1) = hn N g j - 1 := w_eq (by omega) (by omega)
  have me' : uq C 9000 (9 * g + p) 1 0 4000 (12 * g + j) 1 = 3006 + (12 * g + j) := me
  have hsz' : uq C 9000 (9 * g + p) 1 0 3006 (12 * g + j) 1 = hn N g j := hsz
  unfold p_X0_giveUp
  simp (disch := omega) only [aok, up_s, true_and, false_and, and_true, and_false, if_true, if_false, ↓reduceIte, ↓Option.bind_some, Int.reduceEq, Int.reduceNe, Int.reduceLT, Int.reduceLE, gd_true, gd_false, bind_b, q10, eq_self, reduceCtorEq, not_true_eq_false, not_false_eq_true, ne_eq, cr_11000, cr_15000, cr_16000, cr_20000, cr_20001, cr_21000, cr_22000, cr_25000, cr_1000, cr_2000, cr_3000, cr_3003, cr_3006, cr_4000, cr_5000, cr_6000, cr_7000, cr_8000, cr_9000, cr_10000, cr_13500, cr_17000, cr_17100, cr_17103, cr_17106, cr_19000, cr_20100, cr_21100, cr_23000, cr_24000, cw_11000, cw_15000, cw_16000, cw_20000, cw_20001, cw_21000, cw_22000, cw_25000, cw_1000, cw_2000, cw_3000, cw_3003, cw_3006, cw_4000, cw_5000, cw_6000, cw_7000, cw_8000, cw_9000, cw_10000, cw_13500, cw_17000, cw_17100, cw_17103, cw_17106, cw_19000, cw_20100, cw_21100, cw_23000, cw_24000, lc_13500, lc_15000, lc_16000, lc_17000, lc_17100, lc_17103, lc_17106, lc_19000, lc_20000, lc_20001, lc_20100, lc_21000, lc_21100, lc_22000, lc_23000, lc_24000, lc_25000, gd_t, w_eq, me', hsz', wsub]
  refine Ok.bnd ca ?_
  rintro M ⟨C', rfl, ga, st, wf, hb, hs⟩
  have e9 : ovr (uq C 9000 (9 * g + p) 1 0) C' = uq C' 9000 (9 * g + p) 1 0 := by
    funext b
    by_cases e : b = 9000
    · rw [e, ovr_9]
      funext i z
      rw [uq_s, uq_s, st.kn.2.2.2.2.1]
    · rw [ovr_n e]
      funext i z
      rw [uq_s, if_neg (fun q => e q.1)]
  have ow' : own (gvA N g j p t (hn N g j).toNat) g j p := ⟨(st.2.1.gr g p).mpr ow.1, by rw [st.2.2.2.2.1 13055 (by decide) (by decide) (by decide)]; exact ow.2⟩
  have jn' := jn.mg st.2.1
  rw [e9]
  exact Ok.ret ⟨_, rfl, ⟨ga.free jn'.g g1 g2 j1 j2 ow' (fun s s1 s2 => hs s (by omega) s2), GIn.free (gr.2.st jn.g st (fun m m1 m2 hx => by
    have := wf m m1 m2 hx
    rw [show Fdl C' g m = Fdl C g m from st.2.2.2.1 _ _ (Or.inr (Or.inr rfl))] at this
    exact this)) p1⟩, C', _, rfl, rfl, st⟩
theorem m_gGivesUp (jn : JN N) (c : CC C N) (gr : GR C N g) (g1 : 0 ≤ g) (g2 : g < 3) (j1 : 0 ≤ j) (j2 : j < 12) (ow : own N g j p) (ht : (N 12000 1) = t) (C' : Cd) (A' : Ad) : p_X11_gGivesUp (mk C' N A') 12000 g j p = some (mk C' (gvN N g j p t) A') := by
  have a := gr.1
  have s2 := jn.g.s.2.1
  have p1 := ow.1.1; have p2 := ow.1.2.1
  have hi : N 13047 (12 * g + j) = 1 := by
    have := (a.np p p1 (by omega)).1.1
    rw [ow.2] at this
    rcases this with z | z
    · omega
    · exact z.2.2.1
  have h9 := a.h9 j1 j2 hi
  have s0 := ((a.sh p p1 (by omega)).2 ow.1).1
  have ma := m_gvAll (p := p) (t := t) (by have := jn.g.s.2.2.2.2.2.2.2.1; omega) jn c a gr.2.wf g1 g2 j1 j2 hi p1 (by omega) s0 ht C' A'
  have hh : hn N g j = N 13051 (12 * g + j) := rfl
  rw [hh] at ma h9
  unfold p_X11_gGivesUp
  simp (disch := omega) only [aok, up_s, true_and, false_and, and_true, and_false, if_true, if_false, ↓reduceIte, ↓Option.bind_some, Int.reduceEq, Int.reduceNe, Int.reduceLT, Int.reduceLE, gd_true, gd_false, bind_b, q10, eq_self, reduceCtorEq, not_true_eq_false, not_false_eq_true, ne_eq, pt_0, pt_1, pt_2, pt_3, pt_4, pt_5, pt_6, pt_7, pt_8, pt_9, pt_10, pt_11, pt_12, pt_13, pt_14, pt_15, pt_16, pt_17, pt_18, pt_19, pt_20, pt_21, pt_22, pt_23, pt_24, pt_25, pt_26, pt_27, pt_28, pt_29, pt_30, pt_31, pt_32, pt_33, pt_34, pt_35, pt_36, pt_37, pt_38, pt_39, pt_40, pt_41, pt_42, pt_43, pt_44, pt_45, pt_46, pt_47, pt_48, pt_49, pt_50, pt_51, pt_52, pt_53, pt_54, pt_55, pt_56, pt_57, pt_58, pt_59, pt_60, pt_61, pt_62, pt_63, pt_64, pt_65, pt_66, pt_67, pa_13005, pw_13005, pa_13006, pw_13006, pa_13007, pw_13007, pa_14008, pw_14008, pa_13009, pw_13009, pa_13010, pw_13010, pa_13012, pw_13012, pa_13013, pw_13013, pa_13014, pw_13014, pa_13015, pw_13015, pa_13016, pw_13016, pa_13017, pw_13017, pa_13018, pw_13018, pa_13020, pw_13020, pa_13021, pw_13021, pa_13022, pw_13022, pa_13023, pw_13023, pa_13024, pw_13024, pa_13025, pw_13025, pa_13026, pw_13026, pa_13027, pw_13027, pa_13028, pw_13028, pa_13029, pw_13029, pa_13031, pw_13031, pa_13032, pw_13032, pa_13033, pw_13033, pa_14034, pw_14034, pa_13035, pw_13035, pa_13036, pw_13036, pa_13037, pw_13037, pa_13038, pw_13038, pa_13039, pw_13039, pa_13042, pw_13042, pa_13043, pw_13043, pa_13044, pw_13044, pa_13045, pw_13045, pa_13046, pw_13046, pa_13047, pw_13047, pa_13048, pw_13048, pa_13049, pw_13049, pa_13050, pw_13050, pa_13051, pw_13051, pa_13052, pw_13052, pa_13053, pw_13053, pa_13054, pw_13054, pa_13055, pw_13055, pa_13056, pw_13056, pa_13057, pw_13057, pa_13058, pw_13058, pa_13059, pw_13059, pa_13060, pw_13060, pa_13061, pw_13061, pa_13062, pw_13062, pa_13063, pw_13063, pa_13064, pw_13064, pa_13065, pw_13065, pa_13066, pw_13066, pa_13067, pw_13067, ps_0, ps_1, ps_2, ps_3, ps_4, ps_11, ps_19, ps_30, ps_40, ps_41, ln_13005, ln_13006, ln_13007, ln_14008, ln_13009, ln_13010, ln_13012, ln_13013, ln_13014, ln_13015, ln_13016, ln_13017, ln_13018, ln_13020, ln_13021, ln_13022, ln_13023, ln_13024, ln_13025, ln_13026, ln_13027, ln_13028, ln_13029, ln_13031, ln_13032, ln_13033, ln_14034, ln_13035, ln_13036, ln_13037, ln_13038, ln_13039, ln_13042, ln_13043, ln_13044, ln_13045, ln_13046, ln_13047, ln_13048, ln_13049, ln_13050, ln_13051, ln_13052, ln_13053, ln_13054, ln_13055, ln_13056, ln_13057, ln_13058, ln_13059, ln_13060, ln_13061, ln_13062, ln_13063, ln_13064, ln_13065, ln_13066, ln_13067, gd_t, w_eq, ma]
end GIVE
