/-! PURE PART, 85: retry, the call -/
section FAIL
variable {C : Cd} {N N0 : Nd} {A : Ad} {g j t m q : Int}
theorem uq_cm {X : Cd} {x a v b u : Int} (h : a ≠ b) : uq (uq X 2000 x a v) 2000 x b u = uq (uq X 2000 x b u) 2000 x a v := by
  funext i y z
  simp only [uq_s]
  by_cases e1 : i = 2000 ∧ y = x ∧ z = a
  · have e2 : ¬ (i = 2000 ∧ y = x ∧ z = b) := by omega
    rw [if_neg e2, if_pos e1, if_pos e1]
  · by_cases e2 : i = 2000 ∧ y = x ∧ z = b
    · rw [if_pos e2, if_neg e1, if_pos e2]
    · rw [if_neg e2, if_neg e1, if_neg e1, if_neg e2]
theorem uq_tw {X : Cd} {x a v u : Int} : uq (uq X 2000 x a v) 2000 x a u = uq X 2000 x a u := by
  funext i y z
  simp only [uq_s]
  by_cases e1 : i = 2000 ∧ y = x ∧ z = a
  · rw [if_pos e1, if_pos e1]
  · rw [if_neg e1, if_neg e1, if_neg e1]
theorem dd_n2 (a : GA C N g) (m1 : 0 ≤ m) (m2 : m < 150) (hd : N 13062 (150 * g + m) ≠ 1) : N 13046 g < 150 := by
  have de := a.de
  refine inj_lt (f := fun k => N 13063 (150 * g + k)) de.2.1.1 m1 m2 (fun k k1 k2 => ?_) (fun i k i1 i2 k2 => (de.2.2.1 k (by omega) k2).2 i i1 i2)
  have q := (de.2.2.1 k k1 k2).1
  refine ⟨q.1, q.2.1, fun z => ?_⟩
  have q3 := q.2.2
  have z' : N 13063 (150 * g + k) = m := z
  rw [z'] at q3
  exact hd q3
theorem c_failLetter (jn : JN N) (c : CC C N) (a : GA C N g) (wf : WF C g) (g1 : 0 ≤ g) (g2 : g < 3) (j1 : 0 ≤ j) (j2 : j < 12) (hi : N 13047 (12 * g + j) = 1) (q1 : 0 ≤ q) (q2 : q < hn N g j) (hm : hf N g j q = m) (t1 : 0 ≤ t) (t2 : t ≤ 400000000) : ∃ C' X, FH N X g j (hn N g j) (mdK N g j m q (hn N g j)) ∧ RW N X g j (hn N g j) t (mdB N g j m q (hn N g j)) ∧
    ((N 13053 (9 * (12 * g + j) + q) = 2 ∧ p_X0_failLetter (mk C N0 A) (1000 + g) (4000 + (12 * g + j)) (2000 + (150 * g + m)) t = some (-1, mk C' N0 A) ∧ GA C' (ddN X g m) g ∧ ST g C C' N (ddN X g m) ∧ WF C' g) ∨
    (N 13053 (9 * (12 * g + j) + q) < 2 ∧ p_X0_failLetter (mk C N0 A) (1000 + g) (4000 + (12 * g + j)) (2000 + (150 * g + m)) t = some ((if N 13053 (9 * (12 * g + j) + q) = 0 then t + 2 else t + 4), mk C' N0 A) ∧ GA C' (irN X g m (if N 13053 (9 * (12 * g + j) + q) = 0 then t + 2 else t + 4) (N 13053 (9 * (12 * g + j) + q) + 1)) g ∧ ST g C C' N (irN X g m (if N 13053 (9 * (12 * g + j) + q) = 0 then t + 2 else t + 4) (N 13053 (9 * (12 * g + j) + q) + 1)) ∧ WF C' g)) := by
  have s5 := jn.g.s.2.2.2.2.1
  have h9 := a.h9 j1 j2 hi
  have hmb := (a.ha j j1 j2 hi).2 q q1 q2
  rw [hm] at hmb
  obtain ⟨⟨m1, m2, m3, m4, -⟩, ⟨-, mt, -, -⟩, -⟩ := hmb
  have m150 : m < 150 := by omega
  have un := GHa.kn a jn.g j1 j2 hi q1 q2
  rw [hm] at un
  have me := ((a.me j j1 j2).2 hi).2.1
  have fd : 0 < Fdl C g m := wf m m1 m150 (Or.inl m3)
  obtain ⟨M, r1, C1, N1, rfl, ga, st, wf1, fh, rw'⟩ := c_backAll (N0 := N0) (A := A) (t := t) ⟨t1, by omega⟩ jn c a wf g1 g2 j1 j2 hi q1 q2 hm
  have hi1 : N1 13047 (12 * g + j) = 1 := by rw [st.2.2.2.2.1 13047 (by decide) (by decide) (by decide)]; exact hi
  have jn1 : JN N1 := jn.mg st.2.1
  have c1 : CC C1 N1 := c.mg st.1 st.2.1
  have Kq : bkK N g j m q (q + 1) q = true := by unfold bkK; simp
  have kq : kap (bkK N g j m q (q + 1)) q = q := kap_all q1 (fun s s1 s2 => by unfold bkK; simp; omega)
  have ltn := kap_lt (K := bkK N g j m q (q + 1)) q1 q2 Kq
  have hn1 : q < hn N1 g j := by rw [fh.1]; omega
  have h9' := ga.h9 j1 j2 hi1
  have hfq : hf N1 g j q = m := by
    have := fh.2 13052 (Or.inl rfl) q q1 q2 Kq
    rw [kq] at this
    exact this.trans hm
  have tq : N1 13053 (9 * (12 * g + j) + q) = N 13053 (9 * (12 * g + j) + q) := by
    have := fh.2 13053 (Or.inr (Or.inl rfl)) q q1 q2 Kq
    rw [kq] at this
    exact this
  have me1 : C1 4000 (12 * g + j) 1 = 3006 + (12 * g + j) := by rw [st.kn.2.2.1]; exact me
  obtain ⟨M2, r2, C2, rfl, l2, lk2⟩ := c_outHand (N0 := N0) (A := A) (k := q) ga g1 g2 j1 j2 hi1 q1 hn1 (ga.ha j j1 j2 hi1).1
  rw [hfq] at r2
  have ga2 := ga.out (m := m) (k := q) jn1.g g1 g2 j1 j2 hi1 q1 hn1 hfq l2 lk2
  have st2 := st.tr (ST.out (m := m) (k := q) jn1.g ga g1 j1 j2 hi1 q1 hn1 hfq lk2)
  have jn2 : JN (ooN N1 g j q) := jn.mg st2.2.1
  have c2 : CC (uq C2 2000 (150 * g + m) 1 0) (ooN N1 g j q) := c.mg st2.1 st2.2.1
  have a3 : C2 2000 (150 * g + m) 3 = N 13053 (9 * (12 * g + j) + q) := by
    have y := ((ga.ha j j1 j2 hi1).2 q q1 hn1).1.2.2.2.1
    rw [hfq, tq] at y
    rw [lk2 _ _ _ (by omega) (by omega)]
    exact y
  have ga3 := ga2.att (v := N 13053 (9 * (12 * g + j) + q) + 1) m1 m150 (by rw [uq_s, if_pos ⟨rfl, rfl, rfl⟩])
  rw [uq_cm (by decide)] at ga3
  -- what is left
  have fx : FH N (ooN N1 g j q) g j (hn N g j) (mdK N g j m q (hn N g j)) := by
    have fr := fh.rm g1 j1 q1 q2 Kq
    rw [kq] at fr
    refine fr.cong h9.1 (fun s s1 s2 => ?_)
    unfold bkK mdK
    by_cases e : s = q
    · subst e
      simp
    · rw [decide_eq_false (show ¬ hn N g j ≤ s by omega)]
      by_cases y : s < q
      · simp [y, e]
        omega
      · rw [decide_eq_false (show ¬ s < q + 1 by omega), decide_eq_false (show ¬ s ≤ q by omega), decide_eq_false y]
        simp [e]
  have rx : RW N (ooN N1 g j q) g j (hn N g j) t (mdB N g j m q (hn N g j)) := by
    refine (rw'.out g1 j1 j2 q1 hn1 h9'.2.1).cong (fun s s1 s2 => ?_)
    unfold bkB mdB
    rw [decide_eq_true s2]
    by_cases y : q < s
    · rw [decide_eq_true (show q + 1 ≤ s by omega)]
    · rw [decide_eq_false y]
      simp
  have sA : ST g (uq C2 2000 (150 * g + m) 1 0) (uq (uq C2 2000 (150 * g + m) 3 (N 13053 (9 * (12 * g + j) + q) + 1)) 2000 (150 * g + m) 1 0) (ooN N1 g j q) (ooN N1 g j q) := by
    rw [← uq_cm (by decide)]
    refine ⟨KG.rf.uq (by unfold inG; omega), MG.rf, fun b h1 h2 h3 h4 h5 h6 h7 => ?_, fun i z hz => ?_, fun _ _ _ _ => rfl, fun x x1 x2 => ?_⟩
    · funext i z
      rw [uq_s, if_neg (by omega)]
    · rw [uq_s, if_neg (by omega)]
    · unfold Pd Fdl
      simp only [uq_s, up_s, true_and, false_and, and_true, and_false, if_true, if_false, ↓reduceIte, ↓Option.bind_some, Int.reduceEq, Int.reduceNe, Int.reduceLT, Int.reduceLE, gd_true, gd_false, bind_b, q10, eq_self, reduceCtorEq, not_true_eq_false, not_false_eq_true, ne_eq]
  have stA := st2.tr sA
  have unA : uq (uq C2 2000 (150 * g + m) 3 (N 13053 (9 * (12 * g + j) + q) + 1)) 2000 (150 * g + m) 1 0 17000 g m ≠ 0 := by rw [stA.kn.1]; exact un
  have fdA : 0 < Fdl (uq (uq C2 2000 (150 * g + m) 3 (N 13053 (9 * (12 * g + j) + q) + 1)) 2000 (150 * g + m) 1 0) g m := by
    rw [show Fdl (uq (uq C2 2000 (150 * g + m) 3 (N 13053 (9 * (12 * g + j) + q) + 1)) 2000 (150 * g + m) 1 0) g m = Fdl C g m from stA.2.2.2.1 _ _ (Or.inr (Or.inr rfl))]
    exact fd
  have cA := c.mg stA.1 stA.2.1
  have wfo : ∀ C3 : Cd, (∀ x, 0 ≤ x → x < 150 → Fdl C3 g x = Fdl C g x) → (∀ x, 0 ≤ x → x < 150 → x ≠ m → C3 2000 (150 * g + x) 1 = C1 2000 (150 * g + x) 1) → WF C3 g := fun C3 h1 h2 x x1 x2 hx => by
    rw [h1 x x1 x2]
    by_cases e : x = m
    · rw [e]; exact fd
    · rw [h2 x x1 x2 e] at hx
      have := wf1 x x1 x2 hx
      rw [show Fdl C1 g x = Fdl C g x from st.2.2.2.1 _ _ (Or.inr (Or.inr rfl))] at this
      exact this
  by_cases u2 : N 13053 (9 * (12 * g + j) + q) = 2
  · -- a dead letter
    have ga4 := ga3.dead jn2.g g1 g2 m1 m150 unA (by rw [uq_s, if_pos ⟨rfl, rfl, rfl⟩])
    have dn := dd_n g1 ga3 m1 m150 (by rw [uq_s, if_pos ⟨rfl, rfl, rfl⟩])
    have db := ga3.de.2.1.1
    have st4 := stA.tr (ST.dead (C := uq (uq C2 2000 (150 * g + m) 3 (N 13053 (9 * (12 * g + j) + q) + 1)) 2000 (150 * g + m) 1 0) (N := ooN N1 g j q) g1 m1 m150 ⟨db, dn⟩)
    have ddz : ddC (uq (uq C2 2000 (150 * g + m) 3 (N 13053 (9 * (12 * g + j) + q) + 1)) 2000 (150 * g + m) 1 0) g m (ooN N1 g j q 13046 g) = uq (uq (uq (uq C2 2000 (150 * g + m) 3 (N 13053 (9 * (12 * g + j) + q) + 1)) 2000 (150 * g + m) 1 3) 17103 g (ooN N1 g j q 13046 g) (2000 + (150 * g + m))) 3003 g 1 (ooN N1 g j q 13046 g + 1) := by
      unfold ddC
      rw [uq_tw]
    have ld := ga3.de.1
    have ld2 : LSr (uq (uq C2 2000 (150 * g + m) 3 (N 13053 (9 * (12 * g + j) + q) + 1)) 2000 (150 * g + m) 1 3) 3003 17103 g g (ooN N1 g j q 13046 g) (fun k => ooN N1 g j q 13063 (150 * g + k)) := by
      refine ⟨?_, ?_, fun k k1 k2 => ?_⟩
      · rw [uq_s, if_neg (by omega)]
        have := ld.1
        rw [uq_s, if_neg (by omega)] at this
        exact this
      · rw [uq_s, if_neg (by omega)]
        have := ld.2.1
        rw [uq_s, if_neg (by omega)] at this
        exact this
      · rw [uq_s, if_neg (by omega)]
        have := ld.2.2 k k1 k2
        rw [uq_s, if_neg (by omega)] at this
        exact this
    have al := c_addLast (N0 := N0) (A := A) (v := 2000 + (150 * g + m)) (LPl.d g1 g2) ld2 db dn
    have o4 : uq (uq C2 2000 (150 * g + m) 3 (N 13053 (9 * (12 * g + j) + q) + 1)) 2000 (150 * g + m) 1 3 1000 g 4 = 3003 + g := by
      have := ga3.o.2.2.2.2.1
      rw [uq_s, if_neg (by omega)] at this ⊢
      exact this
    have o4c : C2 1000 g 4 = 3003 + g := o4
    have e3 : N 13053 (9 * (12 * g + j) + q) + 1 = 3 := by omega
    refine ⟨_, ooN N1 g j q, fx, rx, Or.inl ⟨u2, ?_, by rw [ddz] at ga4; exact ga4, by rw [ddz] at st4; exact st4, ?_⟩⟩
    · unfold p_X0_failLetter
      rw [e3] at al o4 ⊢
      have b3 : C2 2000 (150 * g + m) 3 = 2 := by rw [a3]; exact u2
      simp (disch := omega) only [aok, up_s, true_and, false_and, and_true, and_false, if_true, if_false, ↓reduceIte, ↓Option.bind_some, Int.reduceEq, Int.reduceNe, Int.reduceLT, Int.reduceLE, gd_true, gd_false, bind_b, q10, eq_self, reduceCtorEq, not_true_eq_false, not_false_eq_true, ne_eq, cr_11000, cr_15000, cr_16000, cr_20000, cr_20001, cr_21000, cr_22000, cr_25000, cr_1000, cr_2000, cr_3000, cr_3003, cr_3006, cr_4000, cr_5000, cr_6000, cr_7000, cr_8000, cr_9000, cr_10000, cr_13500, cr_17000, cr_17100, cr_17103, cr_17106, cr_19000, cr_20100, cr_21100, cr_23000, cr_24000, cw_11000, cw_15000, cw_16000, cw_20000, cw_20001, cw_21000, cw_22000, cw_25000, cw_1000, cw_2000, cw_3000, cw_3003, cw_3006, cw_4000, cw_5000, cw_6000, cw_7000, cw_8000, cw_9000, cw_10000, cw_13500, cw_17000, cw_17100, cw_17103, cw_17106, cw_19000, cw_20100, cw_21100, cw_23000, cw_24000, lc_13500, lc_15000, lc_16000, lc_17000, lc_17100, lc_17103, lc_17106, lc_19000, lc_20000, lc_20001, lc_20100, lc_21000, lc_21100, lc_22000, lc_23000, lc_24000, lc_25000, gd_t, w_eq, Int.reduceAdd, r1, me1, r2, b3, uq_s, o4c, al]
    · refine wfo _ (fun x x1 x2 => ?_) (fun x x1 x2 hx => ?_)
      · rw [← ddz]
        exact st4.2.2.2.1 _ _ (Or.inr (Or.inr rfl))
      · rw [uq_s, if_neg (by omega), uq_s, if_neg (by omega), uq_s, if_neg (by omega), uq_s, if_neg (by omega), lk2 _ _ _ (by omega) (by omega)]
  · have u1 : N 13053 (9 * (12 * g + j) + q) < 2 := by omega
    generalize hdue : (if N 13053 (9 * (12 * g + j) + q) = 0 then t + 2 else t + 4) = due
    have t3 : uq (uq C2 2000 (150 * g + m) 3 (N 13053 (9 * (12 * g + j) + q) + 1)) 2000 (150 * g + m) 1 0 2000 (150 * g + m) 3 = N 13053 (9 * (12 * g + j) + q) + 1 := by
      rw [uq_s, if_neg (by omega), uq_s, if_pos ⟨rfl, rfl, rfl⟩]
    obtain ⟨M3, r3, C3, rfl, ga4, lk3⟩ := c_putInRow (N0 := N0) (A := A) (d := due) (D := uq (uq C2 2000 (150 * g + m) 3 (N 13053 (9 * (12 * g + j) + q) + 1)) 2000 (150 * g + m) 1 0) jn2.g cA ga3 g1 g2 m1 m150 unA (by rw [uq_s, if_pos ⟨rfl, rfl, rfl⟩]) t3 (by omega) (by omega) (by rw [← hdue]; split <;> omega) (fun _ _ => rfl)
    have o9 : ovr (uq (uq C2 2000 (150 * g + m) 3 (N 13053 (9 * (12 * g + j) + q) + 1)) 2000 (150 * g + m) 1 0) C3 = C3 := ovr_eq (by
      funext i z
      rw [lk3 _ _ _ (by omega) (by omega)]
      unfold rwC
      rw [uq_s, uq_s, uq_s, uq_s, if_neg (by omega), if_neg (by omega), if_neg (by omega), if_neg (by omega), uq_s, if_neg (by omega), uq_s, if_neg (by omega)])
    rw [o9, pir_any g1 g2 m1 m150] at r3
    have st4 := stA.tr (ST.row (t := N 13053 (9 * (12 * g + j) + q) + 1) (N := ooN N1 g j q) m1 m150 fdA lk3)
    have d3 : C3 2000 (150 * g + m) 2 = due := by
      rw [lk3 _ _ _ (by omega) (by omega)]
      unfold rwC
      rw [uq_s, if_pos ⟨rfl, rfl, rfl⟩]
    refine ⟨C3, ooN N1 g j q, fx, rx, Or.inr ⟨u1, ?_, ga4, st4, ?_⟩⟩
    · unfold p_X0_failLetter
      by_cases u0 : N 13053 (9 * (12 * g + j) + q) = 0
      · rw [if_pos u0] at hdue
        subst hdue
        rw [u0] at a3 r3
        have r3' : p_X0_putInRow (mk (uq C2 2000 (150 * g + m) 3 1) N0 A) (1000 + g) (2000 + (150 * g + m)) (t + 2) = some (mk C3 N0 A) := r3
        simp (disch := omega) only [aok, up_s, true_and, false_and, and_true, and_false, if_true, if_false, ↓reduceIte, ↓Option.bind_some, Int.reduceEq, Int.reduceNe, Int.reduceLT, Int.reduceLE, gd_true, gd_false, bind_b, q10, eq_self, reduceCtorEq, not_true_eq_false, not_false_eq_true, ne_eq, cr_11000, cr_15000, cr_16000, cr_20000, cr_20001, cr_21000, cr_22000, cr_25000, cr_1000, cr_2000, cr_3000, cr_3003, cr_3006, cr_4000, cr_5000, cr_6000, cr_7000, cr_8000, cr_9000, cr_10000, cr_13500, cr_17000, cr_17100, cr_17103, cr_17106, cr_19000, cr_20100, cr_21100, cr_23000, cr_24000, cw_11000, cw_15000, cw_16000, cw_20000, cw_20001, cw_21000, cw_22000, cw_25000, cw_1000, cw_2000, cw_3000, cw_3003, cw_3006, cw_4000, cw_5000, cw_6000, cw_7000, cw_8000, cw_9000, cw_10000, cw_13500, cw_17000, cw_17100, cw_17103, cw_17106, cw_19000, cw_20100, cw_21100, cw_23000, cw_24000, lc_13500, lc_15000, lc_16000, lc_17000, lc_17100, lc_17103, lc_17106, lc_19000, lc_20000, lc_20001, lc_20100, lc_21000, lc_21100, lc_22000, lc_23000, lc_24000, lc_25000, gd_t, w_eq, r1, me1, r2, a3, uq_s, r3', d3, Int.zero_add]
      · have u01 : N 13053 (9 * (12 * g + j) + q) = 1 := by omega
        rw [if_neg u0] at hdue
        subst hdue
        rw [u01] at a3 r3
        have r3' : p_X0_putInRow (mk (uq C2 2000 (150 * g + m) 3 2) N0 A) (1000 + g) (2000 + (150 * g + m)) (t + 4) = some (mk C3 N0 A) := r3
        simp (disch := omega) only [aok, up_s, true_and, false_and, and_true, and_false, if_true, if_false, ↓reduceIte, ↓Option.bind_some, Int.reduceEq, Int.reduceNe, Int.reduceLT, Int.reduceLE, gd_true, gd_false, bind_b, q10, eq_self, reduceCtorEq, not_true_eq_false, not_false_eq_true, ne_eq, cr_11000, cr_15000, cr_16000, cr_20000, cr_20001, cr_21000, cr_22000, cr_25000, cr_1000, cr_2000, cr_3000, cr_3003, cr_3006, cr_4000, cr_5000, cr_6000, cr_7000, cr_8000, cr_9000, cr_10000, cr_13500, cr_17000, cr_17100, cr_17103, cr_17106, cr_19000, cr_20100, cr_21100, cr_23000, cr_24000, cw_11000, cw_15000, cw_16000, cw_20000, cw_20001, cw_21000, cw_22000, cw_25000, cw_1000, cw_2000, cw_3000, cw_3003, cw_3006, cw_4000, cw_5000, cw_6000, cw_7000, cw_8000, cw_9000, cw_10000, cw_13500, cw_17000, cw_17100, cw_17103, cw_17106, cw_19000, cw_20100, cw_21100, cw_23000, cw_24000, lc_13500, lc_15000, lc_16000, lc_17000, lc_17100, lc_17103, lc_17106, lc_19000, lc_20000, lc_20001, lc_20100, lc_21000, lc_21100, lc_22000, lc_23000, lc_24000, lc_25000, gd_t, w_eq, r1, me1, r2, a3, uq_s, r3', d3, Int.reduceAdd]
    · refine wfo _ (fun x x1 x2 => st4.2.2.2.1 _ _ (Or.inr (Or.inr rfl))) (fun x x1 x2 hx => ?_)
      rw [lk3 _ _ _ (by omega) (by omega)]
      unfold rwC
      rw [uq_s, if_neg (by omega), uq_s, if_neg (by omega), uq_s, if_neg (by omega), uq_s, if_neg (by omega), lk2 _ _ _ (by omega) (by omega)]
/-- the start of the model's loop -/
theorem m_bkStart {NF : Nd} (g1 : 0 ≤ g) (j1 : 0 ≤ j) (j2 : j < 12) (h9 : hn NF g j ≤ 9) (q1 : 0 ≤ q) (q2 : q < hn NF g j) : FH NF (ooN NF g j q) g j (hn NF g j) (mdK NF g j m q (q + 1)) ∧ RW NF (ooN NF g j q) g j (hn NF g j) t (mdB NF g j m q (q + 1)) := by
  constructor
  · have f0 : FH NF NF g j (hn NF g j) (fun _ => true) := FH.rf (by omega) rfl (fun _ _ _ => rfl)
    have fr := f0.rm g1 j1 q1 q2 rfl
    rw [kap_all q1 (fun _ _ _ => rfl)] at fr
    refine fr.cong (by omega) (fun s s1 s2 => ?_)
    unfold mdK
    by_cases e : s = q
    · simp [e]
    · by_cases y : s < q
      · simp [e, y]
      · rw [decide_eq_true (show q + 1 ≤ s by omega)]
        simp [e]
  · have r0 : RW NF NF g j (hn NF g j) t (mdB NF g j m q (q + 1)) := RW.rf (fun s s1 s2 => by unfold mdB; simp; omega)
    exact r0.out g1 j1 j2 q1 q2 h9
end FAIL
theorem q_retry {n : Int} {C : Cd} {N : Nd} {A : Ad} {g o m : Int} (j : JJ n C N A) : SR n C N A (p_G_retry (mk C N A) 11000 g o m 15000) (fun M => p_X11_retry M 12000 g o m) := by
  have G := j.jn.g
  have s4 := G.s.2.2.2.1
  have s5 := G.s.2.2.2.2.1
  have s8 := G.s.2.2.2.2.2.2.2.1
  have b15 : C 11000 0 15 = (N 12000 1) := j.c.b.2.2.2.2.2.2.2.2.2
  have hm := c_groupOf (N0 := N) (A := A) (t := g) G j.c
  have hi := fun C A => @m_isMember C (up N 12000 0 0) A g o j.z.s
  simp only [up_s, up_s, true_and, false_and, and_true, and_false, if_true, if_false, ↓reduceIte, ↓Option.bind_some, Int.reduceEq, Int.reduceNe, Int.reduceLT, Int.reduceLE, gd_true, gd_false, bind_b, q10, eq_self, reduceCtorEq, not_true_eq_false, not_false_eq_true, ne_eq] at hi
  unfold p_G_retry p_X10_retry
  by_cases h1 : 0 ≤ g ∧ g < (N 12000 41)
  · have g3 : g < 3 := by omega
    have a := (j.gr h1.1 h1.2).1
    have mo := c_memberOf (N0 := N) (A := A) (j := o) a h1.1 g3
    by_cases h0 : (0 ≤ o ∧ o ≤ 11) ∧ N 13047 (12 * g + o) = 1
    · have h01 := h0.1; have h02 := h0.2
      have o2 : o < 12 := by omega
      have h9 := a.h9 h01.1 o2 h02
      have li := c_letterInHand (N0 := N) (A := A) (m := m) G j.c a h1.1 g3 h01.1 o2 h02
      have jz : JJ n C (up N 12000 0 0) A := j.thrown
      have az : GA C (up N 12000 0 0) g := (jz.gr h1.1 h1.2).1
      have pl := @m_place C (up N 12000 0 0) g o m az h1.1 g3 h01.1 o2 h02
      have e1 : hpl (up N 12000 0 0) g o m = hpl N g o m := rfl
      have e2 : hn (up N 12000 0 0) g o = hn N g o := rfl
      rw [e1, e2] at pl
      have hb := @hpl_b N g o m h9.1
      by_cases h2 : hpl N g o m < hn N g o
      · have hy := hpl_y h9.1 h2
        rw [if_pos h2] at li
        simp only [if_pos h2] at pl
        generalize hpl N g o m = q at hb h2 hy pl li
        have hmb := (az.ha o h01.1 o2 h02).2 q hb.1 h2
        have hyz : hf (up N 12000 0 0) g o q = m := hy
        rw [hyz] at hmb
        obtain ⟨⟨m1, m2, w2, -⟩, ⟨-, mt, -, -⟩, -⟩ := hmb
        have m2' : m < (N 12000 19) := m2
        have m150 : m < 150 := by omega
        have mt' : 0 ≤ N 13053 (9 * (12 * g + o) + q) ∧ N 13053 (9 * (12 * g + o) + q) ≤ 2 := mt
        have hd : ∀ s x, 0 ≤ s → s < hn N g o → 0 ≤ x → x < hn N g o → hf N g o s = hf N g o x → s = x := fun s x s1 s2 x1 x2 h => a.hd h01.1 o2 h02 s1 s2 x1 x2 h
        have hbd : ∀ s, 0 ≤ s → s < hn N g o → 0 ≤ hf N g o s ∧ hf N g o s < 150 := fun s s1 s2 => by
          obtain ⟨⟨b1, b2, -⟩, -⟩ := (a.ha o h01.1 o2 h02).2 s s1 s2
          exact ⟨b1, by omega⟩
        have hz9 : ∀ z, 0 ≤ z → z < 12 → N 13047 (12 * g + z) = 1 → hn N g z ≤ 9 := fun z z1 z2 z3 => (a.h9 z1 z2 z3).2.1
        obtain ⟨C', X, fx, rx, cs⟩ := c_failLetter (N0 := N) (A := A) (t := (N 12000 1)) (q := q) (m := m) jz.jn jz.c az (jz.gr h1.1 h1.2).2.wf h1.1 g3 h01.1 o2 h02 hb.1 h2 hy s8.1 s8.2
        have lm := @m_out
        have mo1 := fun C A => @m_out C (up N 12000 0 0) A g o q h1.1 g3 h01.1 o2 hb.1 h2 h9.2.1
        have fin : ∀ (NF NM : Nd) (v : Int), GA C' NM g → ST g C C' (up N 12000 0 0) NM → WF C' g → NM 12000 0 = 0 → p_X0_failLetter (mk C N A) (1000 + g) (4000 + (12 * g + o)) (2000 + (150 * g + m)) ((N 12000 1)) = some (v, mk C' N A) → p_X11_retry (mk (uq C' 15000 0 0 v) N A) 12000 g o m = some (v, mk (uq C' 15000 0 0 v) NM A) → SR n C N A (p_G_retry (mk C N A) 11000 g o m 15000) (fun M => p_X11_retry M 12000 g o m) := fun NF NM v k1 k2 k3 k4 k5 k6 => by
          have jj := jz.st (n' := n + 1) (A' := A) h1.1 h1.2 k1 k2 (fun x x1 x2 hx => by
            have := k3 x x1 x2 hx
            rw [show Fdl C' g x = Fdl C g x from k2.2.2.2.1 _ _ (Or.inr (Or.inr rfl))] at this
            exact this) (by omega) rfl
          refine SR.w (C1 := C') (N1 := NM) v ?_ k6 k4 jj
          unfold p_G_retry p_X10_retry
          simp (disch := omega) only [aok, up_s, true_and, false_and, and_true, and_false, if_true, if_false, ↓reduceIte, ↓Option.bind_some, Int.reduceEq, Int.reduceNe, Int.reduceLT, Int.reduceLE, gd_true, gd_false, bind_b, q10, eq_self, reduceCtorEq, not_true_eq_false, not_false_eq_true, ne_eq, cr_11000, cr_15000, cr_16000, cr_20000, cr_20001, cr_21000, cr_22000, cr_25000, cr_1000, cr_2000, cr_3000, cr_3003, cr_3006, cr_4000, cr_5000, cr_6000, cr_7000, cr_8000, cr_9000, cr_10000, cr_13500, cr_17000, cr_17100, cr_17103, cr_17106, cr_19000, cr_20100, cr_21100, cr_23000, cr_24000, cw_11000, cw_15000, cw_16000, cw_20000, cw_20001, cw_21000, cw_22000, cw_25000, cw_1000, cw_2000, cw_3000, cw_3003, cw_3006, cw_4000, cw_5000, cw_6000, cw_7000, cw_8000, cw_9000, cw_10000, cw_13500, cw_17000, cw_17100, cw_17103, cw_17106, cw_19000, cw_20100, cw_21100, cw_23000, cw_24000, lc_13500, lc_15000, lc_16000, lc_17000, lc_17100, lc_17103, lc_17106, lc_19000, lc_20000, lc_20001, lc_20100, lc_21000, lc_21100, lc_22000, lc_23000, lc_24000, lc_25000, gd_t, w_eq, thT, thU, psT, psU, hnT, thr_mk, ↓Option.bind_some, hm, h1, mo, h01, h02, li, b15, k5]
        have np : ¬ q = -1 := by omega
        rcases cs with ⟨u2, k5, ga, st, wf⟩ | ⟨u1, k5, ga, st, wf⟩
        · have u2' : N 13053 (9 * (12 * g + o) + q) = 2 := u2
          have eh : ∀ b, b ≠ 13062 → b ≠ 13063 → b ≠ 13046 → ddN (up N 12000 0 0) g m b = (up N 12000 0 0) b := fun b b1 b2 b3 => by
            funext i
            unfold ddN
            rw [up_s, if_neg (fun z => b3 z.1), up_s, if_neg (fun z => b2 z.1), up_s, if_neg (fun z => b1 z.1)]
          have ehn : hn (ddN (up N 12000 0 0) g m) g o = hn N g o := by
            show ddN (up N 12000 0 0) g m 13051 _ = _
            rw [eh _ (by decide) (by decide) (by decide)]
            rfl
          have ehf : ∀ s, hf (ddN (up N 12000 0 0) g m) g o s = hf N g o s := fun s => by
            show ddN (up N 12000 0 0) g m 13052 _ = _
            rw [eh _ (by decide) (by decide) (by decide)]
            rfl
          have eR : ∀ s, rowB (ddN (up N 12000 0 0) g m) g o m s = rowB N g o m s := fun s => by
            unfold rowB
            rw [ehf, eh 13021 (by decide) (by decide) (by decide), eh 13022 (by decide) (by decide) (by decide)]
            rfl
          obtain ⟨f1, f2⟩ := m_bkStart (NF := ddN (up N 12000 0 0) g m) (m := m) (t := (N 12000 1)) h1.1 h01.1 o2 (by rw [ehn]; exact h9.2.1) hb.1 (by rw [ehn]; exact h2)
          have lpx := m_bkLoop (NF := ddN (up N 12000 0 0) g m) (N1 := ooN (ddN (up N 12000 0 0) g m) g o q) (t := (N 12000 1)) h1.1 g3 h01.1 o2 (by rw [ehn]; exact h9.2.1) hb.1 (by rw [ehn]; exact h2) m1 m150 (fun s s1 s2 => by rw [ehf]; exact hbd s s1 (by rw [ehn] at s2; exact s2)) (fun s x s1 s2 x1 x2 h => by rw [ehf, ehf] at h; rw [ehn] at s2 x2; exact hd s x s1 s2 x1 x2 h) (by rw [eh _ (by decide) (by decide) (by decide)]; rfl) f1 f2 (uq C' 15000 0 0 (-1)) A
          rw [ehn, oo_dd] at lpx
          obtain ⟨M, l1, NM, rfl, fm, rm⟩ := lpx
          have fm' := fm.cong h9.1 (K' := mdK N g o m q (hn N g o)) (fun s _ _ => by unfold mdK; rw [eR])
          have rm' := rm.cong (B' := mdB N g o m q (hn N g o)) (fun s _ _ => by unfold mdB; rw [eR])
          have he := he_dd (N := up N 12000 0 0) h9.1 h9.2.1 fx rx fm' rm' hz9
          have mg : MG g (up N 12000 0 0) NM := (MG.dd h1.1 m1 m150 ⟨az.de.2.1.1, dd_n2 (m := m) az m1 m150 (fun z => by
            have := ((a.le m m1 m150).2.2.2.2.2.2.1).mpr z
            omega)⟩).tr rm.2.2.2.2
          refine fin (up N 12000 0 0) NM (-1) (ga.he (jz.jn.mg st.2.1).g he) (st.he he mg) wf ?_ k5 ?_
          · rw [rm.2.2.1 12000 (by decide) (by decide), eh _ (by decide) (by decide) (by decide)]
            rfl
          · have l1' : lp (b_X11_retry_161 12000 (12 * g + o) m g o) 1000 (q, mk (uq C' 15000 0 0 (-1)) (up (up (up (ooN (up N 12000 0 0) g o q) 13062 (150 * g + m) 1) 13063 (150 * g + N 13046 g) m) 13046 g (N 13046 g + 1)) A) = some (mk (uq C' 15000 0 0 (-1)) NM A) := by
              have e9 : ooN (up N 12000 0 0) g o q 13046 g = N 13046 g := by rw [on_ar (by decide)]; rfl
              have e8 : ddN (ooN (up N 12000 0 0) g o q) g m = up (up (up (ooN (up N 12000 0 0) g o q) 13062 (150 * g + m) 1) 13063 (150 * g + N 13046 g) m) 13046 g (N 13046 g + 1) := by
                unfold ddN
                rw [e9]
              rw [← e8]
              exact l1
            have e9 : ooN (up N 12000 0 0) g o q 13046 g = N 13046 g := by rw [on_ar (by decide)]; rfl
            have db := a.de.2.1
            have dn : N 13046 g < 150 := dd_n2 (m := m) a m1 m150 (fun z => by
              have := ((a.le m m1 m150).2.2.2.2.2.2.1).mpr z
              omega)
            unfold p_X11_retry
            simp (disch := omega) only [aok, up_s, true_and, false_and, and_true, and_false, if_true, if_false, ↓reduceIte, ↓Option.bind_some, Int.reduceEq, Int.reduceNe, Int.reduceLT, Int.reduceLE, gd_true, gd_false, bind_b, q10, eq_self, reduceCtorEq, not_true_eq_false, not_false_eq_true, ne_eq, pt_0, pt_1, pt_2, pt_3, pt_4, pt_5, pt_6, pt_7, pt_8, pt_9, pt_10, pt_11, pt_12, pt_13, pt_14, pt_15, pt_16, pt_17, pt_18, pt_19, pt_20, pt_21, pt_22, pt_23, pt_24, pt_25, pt_26, pt_27, pt_28, pt_29, pt_30, pt_31, pt_32, pt_33, pt_34, pt_35, pt_36, pt_37, pt_38, pt_39, pt_40, pt_41, pt_42, pt_43, pt_44, pt_45, pt_46, pt_47, pt_48, pt_49, pt_50, pt_51, pt_52, pt_53, pt_54, pt_55, pt_56, pt_57, pt_58, pt_59, pt_60, pt_61, pt_62, pt_63, pt_64, pt_65, pt_66, pt_67, pa_13005, pw_13005, pa_13006, pw_13006, pa_13007, pw_13007, pa_14008, pw_14008, pa_13009, pw_13009, pa_13010, pw_13010, pa_13012, pw_13012, pa_13013, pw_13013, pa_13014, pw_13014, pa_13015, pw_13015, pa_13016, pw_13016, pa_13017, pw_13017, pa_13018, pw_13018, pa_13020, pw_13020, pa_13021, pw_13021, pa_13022, pw_13022, pa_13023, pw_13023, pa_13024, pw_13024, pa_13025, pw_13025, pa_13026, pw_13026, pa_13027, pw_13027, pa_13028, pw_13028, pa_13029, pw_13029, pa_13031, pw_13031, pa_13032, pw_13032, pa_13033, pw_13033, pa_14034, pw_14034, pa_13035, pw_13035, pa_13036, pw_13036, pa_13037, pw_13037, pa_13038, pw_13038, pa_13039, pw_13039, pa_13042, pw_13042, pa_13043, pw_13043, pa_13044, pw_13044, pa_13045, pw_13045, pa_13046, pw_13046, pa_13047, pw_13047, pa_13048, pw_13048, pa_13049, pw_13049, pa_13050, pw_13050, pa_13051, pw_13051, pa_13052, pw_13052, pa_13053, pw_13053, pa_13054, pw_13054, pa_13055, pw_13055, pa_13056, pw_13056, pa_13057, pw_13057, pa_13058, pw_13058, pa_13059, pw_13059, pa_13060, pw_13060, pa_13061, pw_13061, pa_13062, pw_13062, pa_13063, pw_13063, pa_13064, pw_13064, pa_13065, pw_13065, pa_13066, pw_13066, pa_13067, pw_13067, ps_0, ps_1, ps_2, ps_3, ps_4, ps_11, ps_19, ps_30, ps_40, ps_41, ln_13005, ln_13006, ln_13007, ln_14008, ln_13009, ln_13010, ln_13012, ln_13013, ln_13014, ln_13015, ln_13016, ln_13017, ln_13018, ln_13020, ln_13021, ln_13022, ln_13023, ln_13024, ln_13025, ln_13026, ln_13027, ln_13028, ln_13029, ln_13031, ln_13032, ln_13033, ln_14034, ln_13035, ln_13036, ln_13037, ln_13038, ln_13039, ln_13042, ln_13043, ln_13044, ln_13045, ln_13046, ln_13047, ln_13048, ln_13049, ln_13050, ln_13051, ln_13052, ln_13053, ln_13054, ln_13055, ln_13056, ln_13057, ln_13058, ln_13059, ln_13060, ln_13061, ln_13062, ln_13063, ln_13064, ln_13065, ln_13066, ln_13067, gd_t, w_eq, Int.reduceAdd, hi, h1, h01, h02, pl, np, u2', mo1, e9, l1']
        · have u1' : N 13053 (9 * (12 * g + o) + q) < 2 := u1
          have k5' : p_X0_failLetter (mk C N A) (1000 + g) (4000 + (12 * g + o)) (2000 + (150 * g + m)) ((N 12000 1)) = some ((if N 13053 (9 * (12 * g + o) + q) = 0 then (N 12000 1) + 2 else (N 12000 1) + 4), mk C' N A) := k5
          have ga' : GA C' (irN X g m (if N 13053 (9 * (12 * g + o) + q) = 0 then (N 12000 1) + 2 else (N 12000 1) + 4) (N 13053 (9 * (12 * g + o) + q) + 1)) g := ga
          have st' : ST g C C' (up N 12000 0 0) (irN X g m (if N 13053 (9 * (12 * g + o) + q) = 0 then (N 12000 1) + 2 else (N 12000 1) + 4) (N 13053 (9 * (12 * g + o) + q) + 1)) := st
          generalize hdue : (if N 13053 (9 * (12 * g + o) + q) = 0 then (N 12000 1) + 2 else (N 12000 1) + 4) = due at k5' ga' st'
          generalize htr : N 13053 (9 * (12 * g + o) + q) + 1 = tr at ga' st'
          have eh : ∀ b, b ≠ 13059 → b ≠ 13060 → b ≠ 13061 → irN (up N 12000 0 0) g m due tr b = (up N 12000 0 0) b := fun b b1 b2 b3 => ir_ar b1 b2 b3
          have ehn : hn (irN (up N 12000 0 0) g m due tr) g o = hn N g o := by
            show irN (up N 12000 0 0) g m due tr 13051 _ = _
            rw [eh _ (by decide) (by decide) (by decide)]
            rfl
          have ehf : ∀ s, hf (irN (up N 12000 0 0) g m due tr) g o s = hf N g o s := fun s => by
            show irN (up N 12000 0 0) g m due tr 13052 _ = _
            rw [eh _ (by decide) (by decide) (by decide)]
            rfl
          have eR : ∀ s, rowB (irN (up N 12000 0 0) g m due tr) g o m s = rowB N g o m s := fun s => by
            unfold rowB
            rw [ehf, eh 13021 (by decide) (by decide) (by decide), eh 13022 (by decide) (by decide) (by decide)]
            rfl
          obtain ⟨f1, f2⟩ := m_bkStart (NF := irN (up N 12000 0 0) g m due tr) (m := m) (t := (N 12000 1)) h1.1 h01.1 o2 (by rw [ehn]; exact h9.2.1) hb.1 (by rw [ehn]; exact h2)
          have lpx := m_bkLoop (NF := irN (up N 12000 0 0) g m due tr) (N1 := ooN (irN (up N 12000 0 0) g m due tr) g o q) (t := (N 12000 1)) h1.1 g3 h01.1 o2 (by rw [ehn]; exact h9.2.1) hb.1 (by rw [ehn]; exact h2) m1 m150 (fun s s1 s2 => by rw [ehf]; exact hbd s s1 (by rw [ehn] at s2; exact s2)) (fun s x s1 s2 x1 x2 h => by rw [ehf, ehf] at h; rw [ehn] at s2 x2; exact hd s x s1 s2 x1 x2 h) (by rw [eh _ (by decide) (by decide) (by decide)]; rfl) f1 f2 (uq C' 15000 0 0 due) A
          rw [ehn, oo_ir] at lpx
          obtain ⟨M, l1, NM, rfl, fm, rm⟩ := lpx
          have fm' := fm.cong h9.1 (K' := mdK N g o m q (hn N g o)) (fun s _ _ => by unfold mdK; rw [eR])
          have rm' := rm.cong (B' := mdB N g o m q (hn N g o)) (fun s _ _ => by unfold mdB; rw [eR])
          have he := he_ir (N := up N 12000 0 0) h9.1 h9.2.1 fx rx fm' rm' hz9 (fun s s1 s2 hs z => by
            have e := hd s q s1 s2 hb.1 h2 (z.trans hy.symm)
            have hs' : mdB N g o m q (hn N g o) s = true := hs
            unfold mdB at hs'
            simp at hs'
            omega)
          have mg : MG g (up N 12000 0 0) NM := (MG.ir m1 m150).tr rm.2.2.2.2
          refine fin (up N 12000 0 0) NM due (ga'.he (jz.jn.mg st'.2.1).g he) (st'.he he mg) wf ?_ k5' ?_
          · rw [rm.2.2.1 12000 (by decide) (by decide), eh _ (by decide) (by decide) (by decide)]
            rfl
          · have mi := fun C A => @m_intoRow C (ooN (up N 12000 0 0) g o q) A g m due tr h1.1 g3 m1 m150
            unfold p_X11_retry
            by_cases u0 : N 13053 (9 * (12 * g + o) + q) = 0
            · rw [if_pos u0] at hdue
              have htr2 : tr = 1 := by omega
              subst hdue
              subst htr2
              simp (disch := omega) only [aok, up_s, true_and, false_and, and_true, and_false, if_true, if_false, ↓reduceIte, ↓Option.bind_some, Int.reduceEq, Int.reduceNe, Int.reduceLT, Int.reduceLE, gd_true, gd_false, bind_b, q10, eq_self, reduceCtorEq, not_true_eq_false, not_false_eq_true, ne_eq, pt_0, pt_1, pt_2, pt_3, pt_4, pt_5, pt_6, pt_7, pt_8, pt_9, pt_10, pt_11, pt_12, pt_13, pt_14, pt_15, pt_16, pt_17, pt_18, pt_19, pt_20, pt_21, pt_22, pt_23, pt_24, pt_25, pt_26, pt_27, pt_28, pt_29, pt_30, pt_31, pt_32, pt_33, pt_34, pt_35, pt_36, pt_37, pt_38, pt_39, pt_40, pt_41, pt_42, pt_43, pt_44, pt_45, pt_46, pt_47, pt_48, pt_49, pt_50, pt_51, pt_52, pt_53, pt_54, pt_55, pt_56, pt_57, pt_58, pt_59, pt_60, pt_61, pt_62, pt_63, pt_64, pt_65, pt_66, pt_67, pa_13005, pw_13005, pa_13006, pw_13006, pa_13007, pw_13007, pa_14008, pw_14008, pa_13009, pw_13009, pa_13010, pw_13010, pa_13012, pw_13012, pa_13013, pw_13013, pa_13014, pw_13014, pa_13015, pw_13015, pa_13016, pw_13016, pa_13017, pw_13017, pa_13018, pw_13018, pa_13020, pw_13020, pa_13021, pw_13021, pa_13022, pw_13022, pa_13023, pw_13023, pa_13024, pw_13024, pa_13025, pw_13025, pa_13026, pw_13026, pa_13027, pw_13027, pa_13028, pw_13028, pa_13029, pw_13029, pa_13031, pw_13031, pa_13032, pw_13032, pa_13033, pw_13033, pa_14034, pw_14034, pa_13035, pw_13035, pa_13036, pw_13036, pa_13037, pw_13037, pa_13038, pw_13038, pa_13039, pw_13039, pa_13042, pw_13042, pa_13043, pw_13043, pa_13044, pw_13044, pa_13045, pw_13045, pa_13046, pw_13046, pa_13047, pw_13047, pa_13048, pw_13048, pa_13049, pw_13049, pa_13050, pw_13050, pa_13051, pw_13051, pa_13052, pw_13052, pa_13053, pw_13053, pa_13054, pw_13054, pa_13055, pw_13055, pa_13056, pw_13056, pa_13057, pw_13057, pa_13058, pw_13058, pa_13059, pw_13059, pa_13060, pw_13060, pa_13061, pw_13061, pa_13062, pw_13062, pa_13063, pw_13063, pa_13064, pw_13064, pa_13065, pw_13065, pa_13066, pw_13066, pa_13067, pw_13067, ps_0, ps_1, ps_2, ps_3, ps_4, ps_11, ps_19, ps_30, ps_40, ps_41, ln_13005, ln_13006, ln_13007, ln_14008, ln_13009, ln_13010, ln_13012, ln_13013, ln_13014, ln_13015, ln_13016, ln_13017, ln_13018, ln_13020, ln_13021, ln_13022, ln_13023, ln_13024, ln_13025, ln_13026, ln_13027, ln_13028, ln_13029, ln_13031, ln_13032, ln_13033, ln_14034, ln_13035, ln_13036, ln_13037, ln_13038, ln_13039, ln_13042, ln_13043, ln_13044, ln_13045, ln_13046, ln_13047, ln_13048, ln_13049, ln_13050, ln_13051, ln_13052, ln_13053, ln_13054, ln_13055, ln_13056, ln_13057, ln_13058, ln_13059, ln_13060, ln_13061, ln_13062, ln_13063, ln_13064, ln_13065, ln_13066, ln_13067, gd_t, w_eq, hi, h1, h01, h02, pl, np, u0, mo1, Int.zero_add, mi, l1]
            · have u01 : N 13053 (9 * (12 * g + o) + q) = 1 := by omega
              rw [if_neg u0] at hdue
              have htr2 : tr = 2 := by omega
              subst hdue
              subst htr2
              simp (disch := omega) only [aok, up_s, true_and, false_and, and_true, and_false, if_true, if_false, ↓reduceIte, ↓Option.bind_some, Int.reduceEq, Int.reduceNe, Int.reduceLT, Int.reduceLE, gd_true, gd_false, bind_b, q10, eq_self, reduceCtorEq, not_true_eq_false, not_false_eq_true, ne_eq, pt_0, pt_1, pt_2, pt_3, pt_4, pt_5, pt_6, pt_7, pt_8, pt_9, pt_10, pt_11, pt_12, pt_13, pt_14, pt_15, pt_16, pt_17, pt_18, pt_19, pt_20, pt_21, pt_22, pt_23, pt_24, pt_25, pt_26, pt_27, pt_28, pt_29, pt_30, pt_31, pt_32, pt_33, pt_34, pt_35, pt_36, pt_37, pt_38, pt_39, pt_40, pt_41, pt_42, pt_43, pt_44, pt_45, pt_46, pt_47, pt_48, pt_49, pt_50, pt_51, pt_52, pt_53, pt_54, pt_55, pt_56, pt_57, pt_58, pt_59, pt_60, pt_61, pt_62, pt_63, pt_64, pt_65, pt_66, pt_67, pa_13005, pw_13005, pa_13006, pw_13006, pa_13007, pw_13007, pa_14008, pw_14008, pa_13009, pw_13009, pa_13010, pw_13010, pa_13012, pw_13012, pa_13013, pw_13013, pa_13014, pw_13014, pa_13015, pw_13015, pa_13016, pw_13016, pa_13017, pw_13017, pa_13018, pw_13018, pa_13020, pw_13020, pa_13021, pw_13021, pa_13022, pw_13022, pa_13023, pw_13023, pa_13024, pw_13024, pa_13025, pw_13025, pa_13026, pw_13026, pa_13027, pw_13027, pa_13028, pw_13028, pa_13029, pw_13029, pa_13031, pw_13031, pa_13032, pw_13032, pa_13033, pw_13033, pa_14034, pw_14034, pa_13035, pw_13035, pa_13036, pw_13036, pa_13037, pw_13037, pa_13038, pw_13038, pa_13039, pw_13039, pa_13042, pw_13042, pa_13043, pw_13043, pa_13044, pw_13044, pa_13045, pw_13045, pa_13046, pw_13046, pa_13047, pw_13047, pa_13048, pw_13048, pa_13049, pw_13049, pa_13050, pw_13050, pa_13051, pw_13051, pa_13052, pw_13052, pa_13053, pw_13053, pa_13054, pw_13054, pa_13055, pw_13055, pa_13056, pw_13056, pa_13057, pw_13057, pa_13058, pw_13058, pa_13059, pw_13059, pa_13060, pw_13060, pa_13061, pw_13061, pa_13062, pw_13062, pa_13063, pw_13063, pa_13064, pw_13064, pa_13065, pw_13065, pa_13066, pw_13066, pa_13067, pw_13067, ps_0, ps_1, ps_2, ps_3, ps_4, ps_11, ps_19, ps_30, ps_40, ps_41, ln_13005, ln_13006, ln_13007, ln_14008, ln_13009, ln_13010, ln_13012, ln_13013, ln_13014, ln_13015, ln_13016, ln_13017, ln_13018, ln_13020, ln_13021, ln_13022, ln_13023, ln_13024, ln_13025, ln_13026, ln_13027, ln_13028, ln_13029, ln_13031, ln_13032, ln_13033, ln_14034, ln_13035, ln_13036, ln_13037, ln_13038, ln_13039, ln_13042, ln_13043, ln_13044, ln_13045, ln_13046, ln_13047, ln_13048, ln_13049, ln_13050, ln_13051, ln_13052, ln_13053, ln_13054, ln_13055, ln_13056, ln_13057, ln_13058, ln_13059, ln_13060, ln_13061, ln_13062, ln_13063, ln_13064, ln_13065, ln_13066, ln_13067, gd_t, w_eq, hi, h1, h01, h02, pl, np, u01, mo1, Int.reduceAdd, mi, l1]
      · rw [if_neg h2] at li
        refine SR.r j 2 (by omega) ?_ ?_
        · simp (disch := omega) only [aok, up_s, true_and, false_and, and_true, and_false, if_true, if_false, ↓reduceIte, ↓Option.bind_some, Int.reduceEq, Int.reduceNe, Int.reduceLT, Int.reduceLE, gd_true, gd_false, bind_b, q10, eq_self, reduceCtorEq, not_true_eq_false, not_false_eq_true, ne_eq, cr_11000, cr_15000, cr_16000, cr_20000, cr_20001, cr_21000, cr_22000, cr_25000, cr_1000, cr_2000, cr_3000, cr_3003, cr_3006, cr_4000, cr_5000, cr_6000, cr_7000, cr_8000, cr_9000, cr_10000, cr_13500, cr_17000, cr_17100, cr_17103, cr_17106, cr_19000, cr_20100, cr_21100, cr_23000, cr_24000, cw_11000, cw_15000, cw_16000, cw_20000, cw_20001, cw_21000, cw_22000, cw_25000, cw_1000, cw_2000, cw_3000, cw_3003, cw_3006, cw_4000, cw_5000, cw_6000, cw_7000, cw_8000, cw_9000, cw_10000, cw_13500, cw_17000, cw_17100, cw_17103, cw_17106, cw_19000, cw_20100, cw_21100, cw_23000, cw_24000, lc_13500, lc_15000, lc_16000, lc_17000, lc_17100, lc_17103, lc_17106, lc_19000, lc_20000, lc_20001, lc_20100, lc_21000, lc_21100, lc_22000, lc_23000, lc_24000, lc_25000, gd_t, w_eq, thT, thU, psT, psU, hnT, thr_mk, ↓Option.bind_some, hm, h1, mo, h01, h02, li]
        · unfold p_X11_retry
          simp (disch := omega) only [aok, up_s, true_and, false_and, and_true, and_false, if_true, if_false, ↓reduceIte, ↓Option.bind_some, Int.reduceEq, Int.reduceNe, Int.reduceLT, Int.reduceLE, gd_true, gd_false, bind_b, q10, eq_self, reduceCtorEq, not_true_eq_false, not_false_eq_true, ne_eq, pt_0, pt_1, pt_2, pt_3, pt_4, pt_5, pt_6, pt_7, pt_8, pt_9, pt_10, pt_11, pt_12, pt_13, pt_14, pt_15, pt_16, pt_17, pt_18, pt_19, pt_20, pt_21, pt_22, pt_23, pt_24, pt_25, pt_26, pt_27, pt_28, pt_29, pt_30, pt_31, pt_32, pt_33, pt_34, pt_35, pt_36, pt_37, pt_38, pt_39, pt_40, pt_41, pt_42, pt_43, pt_44, pt_45, pt_46, pt_47, pt_48, pt_49, pt_50, pt_51, pt_52, pt_53, pt_54, pt_55, pt_56, pt_57, pt_58, pt_59, pt_60, pt_61, pt_62, pt_63, pt_64, pt_65, pt_66, pt_67, pa_13005, pw_13005, pa_13006, pw_13006, pa_13007, pw_13007, pa_14008, pw_14008, pa_13009, pw_13009, pa_13010, pw_13010, pa_13012, pw_13012, pa_13013, pw_13013, pa_13014, pw_13014, pa_13015, pw_13015, pa_13016, pw_13016, pa_13017, pw_13017, pa_13018, pw_13018, pa_13020, pw_13020, pa_13021, pw_13021, pa_13022, pw_13022, pa_13023, pw_13023, pa_13024, pw_13024, pa_13025, pw_13025, pa_13026, pw_13026, pa_13027, pw_13027, pa_13028, pw_13028, pa_13029, pw_13029, pa_13031, pw_13031, pa_13032, pw_13032, pa_13033, pw_13033, pa_14034, pw_14034, pa_13035, pw_13035, pa_13036, pw_13036, pa_13037, pw_13037, pa_13038, pw_13038, pa_13039, pw_13039, pa_13042, pw_13042, pa_13043, pw_13043, pa_13044, pw_13044, pa_13045, pw_13045, pa_13046, pw_13046, pa_13047, pw_13047, pa_13048, pw_13048, pa_13049, pw_13049, pa_13050, pw_13050, pa_13051, pw_13051, pa_13052, pw_13052, pa_13053, pw_13053, pa_13054, pw_13054, pa_13055, pw_13055, pa_13056, pw_13056, pa_13057, pw_13057, pa_13058, pw_13058, pa_13059, pw_13059, pa_13060, pw_13060, pa_13061, pw_13061, pa_13062, pw_13062, pa_13063, pw_13063, pa_13064, pw_13064, pa_13065, pw_13065, pa_13066, pw_13066, pa_13067, pw_13067, ps_0, ps_1, ps_2, ps_3, ps_4, ps_11, ps_19, ps_30, ps_40, ps_41, ln_13005, ln_13006, ln_13007, ln_14008, ln_13009, ln_13010, ln_13012, ln_13013, ln_13014, ln_13015, ln_13016, ln_13017, ln_13018, ln_13020, ln_13021, ln_13022, ln_13023, ln_13024, ln_13025, ln_13026, ln_13027, ln_13028, ln_13029, ln_13031, ln_13032, ln_13033, ln_14034, ln_13035, ln_13036, ln_13037, ln_13038, ln_13039, ln_13042, ln_13043, ln_13044, ln_13045, ln_13046, ln_13047, ln_13048, ln_13049, ln_13050, ln_13051, ln_13052, ln_13053, ln_13054, ln_13055, ln_13056, ln_13057, ln_13058, ln_13059, ln_13060, ln_13061, ln_13062, ln_13063, ln_13064, ln_13065, ln_13066, ln_13067, gd_t, w_eq, hi, h1, h01, h02, pl, h2, m_refuse]
    · rw [if_neg h0] at mo
      have h0' : ¬ ((0 ≤ g ∧ g < (N 12000 41)) ∧ (0 ≤ o ∧ o ≤ 11) ∧ N 13047 (12 * g + o) = 1) := fun z => h0 z.2
      simp only [if_neg h0'] at hi
      refine SR.r j 1 (by omega) ?_ ?_
      · simp (disch := omega) only [aok, up_s, true_and, false_and, and_true, and_false, if_true, if_false, ↓reduceIte, ↓Option.bind_some, Int.reduceEq, Int.reduceNe, Int.reduceLT, Int.reduceLE, gd_true, gd_false, bind_b, q10, eq_self, reduceCtorEq, not_true_eq_false, not_false_eq_true, ne_eq, cr_11000, cr_15000, cr_16000, cr_20000, cr_20001, cr_21000, cr_22000, cr_25000, cr_1000, cr_2000, cr_3000, cr_3003, cr_3006, cr_4000, cr_5000, cr_6000, cr_7000, cr_8000, cr_9000, cr_10000, cr_13500, cr_17000, cr_17100, cr_17103, cr_17106, cr_19000, cr_20100, cr_21100, cr_23000, cr_24000, cw_11000, cw_15000, cw_16000, cw_20000, cw_20001, cw_21000, cw_22000, cw_25000, cw_1000, cw_2000, cw_3000, cw_3003, cw_3006, cw_4000, cw_5000, cw_6000, cw_7000, cw_8000, cw_9000, cw_10000, cw_13500, cw_17000, cw_17100, cw_17103, cw_17106, cw_19000, cw_20100, cw_21100, cw_23000, cw_24000, lc_13500, lc_15000, lc_16000, lc_17000, lc_17100, lc_17103, lc_17106, lc_19000, lc_20000, lc_20001, lc_20100, lc_21000, lc_21100, lc_22000, lc_23000, lc_24000, lc_25000, gd_t, w_eq, thT, thU, psT, psU, hnT, thr_mk, ↓Option.bind_some, hm, h1, mo]
      · unfold p_X11_retry
        simp (disch := omega) only [aok, up_s, true_and, false_and, and_true, and_false, if_true, if_false, ↓reduceIte, ↓Option.bind_some, Int.reduceEq, Int.reduceNe, Int.reduceLT, Int.reduceLE, gd_true, gd_false, bind_b, q10, eq_self, reduceCtorEq, not_true_eq_false, not_false_eq_true, ne_eq, pt_0, pt_1, pt_2, pt_3, pt_4, pt_5, pt_6, pt_7, pt_8, pt_9, pt_10, pt_11, pt_12, pt_13, pt_14, pt_15, pt_16, pt_17, pt_18, pt_19, pt_20, pt_21, pt_22, pt_23, pt_24, pt_25, pt_26, pt_27, pt_28, pt_29, pt_30, pt_31, pt_32, pt_33, pt_34, pt_35, pt_36, pt_37, pt_38, pt_39, pt_40, pt_41, pt_42, pt_43, pt_44, pt_45, pt_46, pt_47, pt_48, pt_49, pt_50, pt_51, pt_52, pt_53, pt_54, pt_55, pt_56, pt_57, pt_58, pt_59, pt_60, pt_61, pt_62, pt_63, pt_64, pt_65, pt_66, pt_67, pa_13005, pw_13005, pa_13006, pw_13006, pa_13007, pw_13007, pa_14008, pw_14008, pa_13009, pw_13009, pa_13010, pw_13010, pa_13012, pw_13012, pa_13013, pw_13013, pa_13014, pw_13014, pa_13015, pw_13015, pa_13016, pw_13016, pa_13017, pw_13017, pa_13018, pw_13018, pa_13020, pw_13020, pa_13021, pw_13021, pa_13022, pw_13022, pa_13023, pw_13023, pa_13024, pw_13024, pa_13025, pw_13025, pa_13026, pw_13026, pa_13027, pw_13027, pa_13028, pw_13028, pa_13029, pw_13029, pa_13031, pw_13031, pa_13032, pw_13032, pa_13033, pw_13033, pa_14034, pw_14034, pa_13035, pw_13035, pa_13036, pw_13036, pa_13037, pw_13037, pa_13038, pw_13038, pa_13039, pw_13039, pa_13042, pw_13042, pa_13043, pw_13043, pa_13044, pw_13044, pa_13045, pw_13045, pa_13046, pw_13046, pa_13047, pw_13047, pa_13048, pw_13048, pa_13049, pw_13049, pa_13050, pw_13050, pa_13051, pw_13051, pa_13052, pw_13052, pa_13053, pw_13053, pa_13054, pw_13054, pa_13055, pw_13055, pa_13056, pw_13056, pa_13057, pw_13057, pa_13058, pw_13058, pa_13059, pw_13059, pa_13060, pw_13060, pa_13061, pw_13061, pa_13062, pw_13062, pa_13063, pw_13063, pa_13064, pw_13064, pa_13065, pw_13065, pa_13066, pw_13066, pa_13067, pw_13067, ps_0, ps_1, ps_2, ps_3, ps_4, ps_11, ps_19, ps_30, ps_40, ps_41, ln_13005, ln_13006, ln_13007, ln_14008, ln_13009, ln_13010, ln_13012, ln_13013, ln_13014, ln_13015, ln_13016, ln_13017, ln_13018, ln_13020, ln_13021, ln_13022, ln_13023, ln_13024, ln_13025, ln_13026, ln_13027, ln_13028, ln_13029, ln_13031, ln_13032, ln_13033, ln_14034, ln_13035, ln_13036, ln_13037, ln_13038, ln_13039, ln_13042, ln_13043, ln_13044, ln_13045, ln_13046, ln_13047, ln_13048, ln_13049, ln_13050, ln_13051, ln_13052, ln_13053, ln_13054, ln_13055, ln_13056, ln_13057, ln_13058, ln_13059, ln_13060, ln_13061, ln_13062, ln_13063, ln_13064, ln_13065, ln_13066, ln_13067, gd_t, w_eq, hi, m_refuse]
  · have h0' : ¬ ((0 ≤ g ∧ g < (N 12000 41)) ∧ (0 ≤ o ∧ o ≤ 11) ∧ N 13047 (12 * g + o) = 1) := fun z => h1 z.1
    simp only [if_neg h0'] at hi
    refine SR.r j 1 (by omega) ?_ ?_
    · simp (disch := omega) only [aok, up_s, true_and, false_and, and_true, and_false, if_true, if_false, ↓reduceIte, ↓Option.bind_some, Int.reduceEq, Int.reduceNe, Int.reduceLT, Int.reduceLE, gd_true, gd_false, bind_b, q10, eq_self, reduceCtorEq, not_true_eq_false, not_false_eq_true, ne_eq, cr_11000, cr_15000, cr_16000, cr_20000, cr_20001, cr_21000, cr_22000, cr_25000, cr_1000, cr_2000, cr_3000, cr_3003, cr_3006, cr_4000, cr_5000, cr_6000, cr_7000, cr_8000, cr_9000, cr_10000, cr_13500, cr_17000, cr_17100, cr_17103, cr_17106, cr_19000, cr_20100, cr_21100, cr_23000, cr_24000, cw_11000, cw_15000, cw_16000, cw_20000, cw_20001, cw_21000, cw_22000, cw_25000, cw_1000, cw_2000, cw_3000, cw_3003, cw_3006, cw_4000, cw_5000, cw_6000, cw_7000, cw_8000, cw_9000, cw_10000, cw_13500, cw_17000, cw_17100, cw_17103, cw_17106, cw_19000, cw_20100, cw_21100, cw_23000, cw_24000, lc_13500, lc_15000, lc_16000, lc_17000, lc_17100, lc_17103, lc_17106, lc_19000, lc_20000, lc_20001, lc_20100, lc_21000, lc_21100, lc_22000, lc_23000, lc_24000, lc_25000, gd_t, w_eq, thT, thU, psT, psU, hnT, thr_mk, ↓Option.bind_some, hm, h1]
    · unfold p_X11_retry
      simp (disch := omega) only [aok, up_s, true_and, false_and, and_true, and_false, if_true, if_false, ↓reduceIte, ↓Option.bind_some, Int.reduceEq, Int.reduceNe, Int.reduceLT, Int.reduceLE, gd_true, gd_false, bind_b, q10, eq_self, reduceCtorEq, not_true_eq_false, not_false_eq_true, ne_eq, pt_0, pt_1, pt_2, pt_3, pt_4, pt_5, pt_6, pt_7, pt_8, pt_9, pt_10, pt_11, pt_12, pt_13, pt_14, pt_15, pt_16, pt_17, pt_18, pt_19, pt_20, pt_21, pt_22, pt_23, pt_24, pt_25, pt_26, pt_27, pt_28, pt_29, pt_30, pt_31, pt_32, pt_33, pt_34, pt_35, pt_36, pt_37, pt_38, pt_39, pt_40, pt_41, pt_42, pt_43, pt_44, pt_45, pt_46, pt_47, pt_48, pt_49, pt_50, pt_51, pt_52, pt_53, pt_54, pt_55, pt_56, pt_57, pt_58, pt_59, pt_60, pt_61, pt_62, pt_63, pt_64, pt_65, pt_66, pt_67, pa_13005, pw_13005, pa_13006, pw_13006, pa_13007, pw_13007, pa_14008, pw_14008, pa_13009, pw_13009, pa_13010, pw_13010, pa_13012, pw_13012, pa_13013, pw_13013, pa_13014, pw_13014, pa_13015, pw_13015, pa_13016, pw_13016, pa_13017, pw_13017, pa_13018, pw_13018, pa_13020, pw_13020, pa_13021, pw_13021, pa_13022, pw_13022, pa_13023, pw_13023, pa_13024, pw_13024, pa_13025, pw_13025, pa_13026, pw_13026, pa_13027, pw_13027, pa_13028, pw_13028, pa_13029, pw_13029, pa_13031, pw_13031, pa_13032, pw_13032, pa_13033, pw_13033, pa_14034, pw_14034, pa_13035, pw_13035, pa_13036, pw_13036, pa_13037, pw_13037, pa_13038, pw_13038, pa_13039, pw_13039, pa_13042, pw_13042, pa_13043, pw_13043, pa_13044, pw_13044, pa_13045, pw_13045, pa_13046, pw_13046, pa_13047, pw_13047, pa_13048, pw_13048, pa_13049, pw_13049, pa_13050, pw_13050, pa_13051, pw_13051, pa_13052, pw_13052, pa_13053, pw_13053, pa_13054, pw_13054, pa_13055, pw_13055, pa_13056, pw_13056, pa_13057, pw_13057, pa_13058, pw_13058, pa_13059, pw_13059, pa_13060, pw_13060, pa_13061, pw_13061, pa_13062, pw_13062, pa_13063, pw_13063, pa_13064, pw_13064, pa_13065, pw_13065, pa_13066, pw_13066, pa_13067, pw_13067, ps_0, ps_1, ps_2, ps_3, ps_4, ps_11, ps_19, ps_30, ps_40, ps_41, ln_13005, ln_13006, ln_13007, ln_14008, ln_13009, ln_13010, ln_13012, ln_13013, ln_13014, ln_13015, ln_13016, ln_13017, ln_13018, ln_13020, ln_13021, ln_13022, ln_13023, ln_13024, ln_13025, ln_13026, ln_13027, ln_13028, ln_13029, ln_13031, ln_13032, ln_13033, ln_14034, ln_13035, ln_13036, ln_13037, ln_13038, ln_13039, ln_13042, ln_13043, ln_13044, ln_13045, ln_13046, ln_13047, ln_13048, ln_13049, ln_13050, ln_13051, ln_13052, ln_13053, ln_13054, ln_13055, ln_13056, ln_13057, ln_13058, ln_13059, ln_13060, ln_13061, ln_13062, ln_13063, ln_13064, ln_13065, ln_13066, ln_13067, gd_t, w_eq, hi, m_refuse]
