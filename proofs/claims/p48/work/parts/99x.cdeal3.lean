/-! PURE PART, 99x: deal, the class's fill; all of it -/
section DCX
variable {C : Cd} {N N0 : Nd} {A : Ad} {g m : Int} {F c t : Int → Int}
theorem c_first (h : DG C N g) (g1 : 0 ≤ g) (g2 : g < 3) (hx : su c 0 12 < su F 0 12) (hn : ∀ j, 0 ≤ j → j < 12 → N 13047 (12 * g + j) ≠ 1 → ¬ c j < F j) : p_X0_firstBelowFairShare (mk (dcC C N g F c t m) N0 A) (1000 + g) = some (4000 + (12 * g + blw c F)) ∧ N 13047 (12 * g + blw c F) = 1 := by
  have hd := h.dc (F := F) (c := c) (t := t) (m := m)
  have o := hd.1.2.1
  obtain ⟨⟨b1, b2, b3⟩, b4⟩ := blw_p hx
  generalize blw c F = b at b1 b2 b3 b4
  have bi : N 13047 (12 * g + b) = 1 := by
    by_cases e : N 13047 (12 * g + b) = 1
    · exact e
    · exact absurd b3 (hn b b1 b2 e)
  refine ⟨?_, bi⟩
  have l : lp (b_X0_firstBelowFairShare_10 12 (19000 + g) (mk (dcC C N g F c t m) N0 A)) 1000 0 = some (.inl (4000 + (12 * g + b))) := by
    refine lp_seq (fun k : Nat => (k : Int)) b.toNat (fun k hk => ?_) ?_ (by omega) rfl
    · have lt : (k : Int) < 12 := by omega
      have k0 : 0 ≤ (k : Int) := by omega
      have ic : ((k + 1 : Nat) : Int) = (k : Int) + 1 := by omega
      have sh := hd.2.2.1 k k0 lt
      have nl := b4 k k0 (by omega)
      rw [ic]
      unfold b_X0_firstBelowFairShare_10
      by_cases e : N 13047 (12 * g + k) = 1
      · have nz : ¬ 4000 + (12 * g + (k : Int)) = 0 := by omega
        have c5 := dc_c (C := C) (F := F) (c := c) (t := t) (m := m) k0 lt e
        have c6 := dc_F (C := C) (F := F) (c := c) (t := t) (m := m) k0 lt e
        rw [if_pos e] at sh
        simp (disch := omega) only [aok, up_s, true_and, false_and, and_true, and_false, if_true, if_false, ↓reduceIte, ↓Option.bind_some, Int.reduceEq, Int.reduceNe, Int.reduceLT, Int.reduceLE, gd_true, gd_false, bind_b, q10, eq_self, reduceCtorEq, not_true_eq_false, not_false_eq_true, ne_eq, cr_11000, cr_15000, cr_16000, cr_20000, cr_20001, cr_21000, cr_22000, cr_25000, cr_1000, cr_2000, cr_3000, cr_3003, cr_3006, cr_4000, cr_5000, cr_6000, cr_7000, cr_8000, cr_9000, cr_10000, cr_13500, cr_17000, cr_17100, cr_17103, cr_17106, cr_19000, cr_20100, cr_21100, cr_23000, cr_24000, cw_11000, cw_15000, cw_16000, cw_20000, cw_20001, cw_21000, cw_22000, cw_25000, cw_1000, cw_2000, cw_3000, cw_3003, cw_3006, cw_4000, cw_5000, cw_6000, cw_7000, cw_8000, cw_9000, cw_10000, cw_13500, cw_17000, cw_17100, cw_17103, cw_17106, cw_19000, cw_20100, cw_21100, cw_23000, cw_24000, lc_13500, lc_15000, lc_16000, lc_17000, lc_17100, lc_17103, lc_17106, lc_19000, lc_20000, lc_20001, lc_20100, lc_21000, lc_21100, lc_22000, lc_23000, lc_24000, lc_25000, gd_t, w_eq, lt, sh, nz, c5, c6, nl]
      · rw [if_neg e] at sh
        simp (disch := omega) only [aok, up_s, true_and, false_and, and_true, and_false, if_true, if_false, ↓reduceIte, ↓Option.bind_some, Int.reduceEq, Int.reduceNe, Int.reduceLT, Int.reduceLE, gd_true, gd_false, bind_b, q10, eq_self, reduceCtorEq, not_true_eq_false, not_false_eq_true, ne_eq, cr_11000, cr_15000, cr_16000, cr_20000, cr_20001, cr_21000, cr_22000, cr_25000, cr_1000, cr_2000, cr_3000, cr_3003, cr_3006, cr_4000, cr_5000, cr_6000, cr_7000, cr_8000, cr_9000, cr_10000, cr_13500, cr_17000, cr_17100, cr_17103, cr_17106, cr_19000, cr_20100, cr_21100, cr_23000, cr_24000, cw_11000, cw_15000, cw_16000, cw_20000, cw_20001, cw_21000, cw_22000, cw_25000, cw_1000, cw_2000, cw_3000, cw_3003, cw_3006, cw_4000, cw_5000, cw_6000, cw_7000, cw_8000, cw_9000, cw_10000, cw_13500, cw_17000, cw_17100, cw_17103, cw_17106, cw_19000, cw_20100, cw_21100, cw_23000, cw_24000, lc_13500, lc_15000, lc_16000, lc_17000, lc_17100, lc_17103, lc_17106, lc_19000, lc_20000, lc_20001, lc_20100, lc_21000, lc_21100, lc_22000, lc_23000, lc_24000, lc_25000, gd_t, w_eq, lt, sh]
    · have eb : ((b.toNat : Nat) : Int) = b := by omega
      have sh := hd.2.2.1 b b1 b2
      have nz : ¬ 4000 + (12 * g + b) = 0 := by omega
      have c5 := dc_c (C := C) (F := F) (c := c) (t := t) (m := m) b1 b2 bi
      have c6 := dc_F (C := C) (F := F) (c := c) (t := t) (m := m) b1 b2 bi
      rw [if_pos bi] at sh
      rw [eb]
      unfold b_X0_firstBelowFairShare_10
      simp (disch := omega) only [aok, up_s, true_and, false_and, and_true, and_false, if_true, if_false, ↓reduceIte, ↓Option.bind_some, Int.reduceEq, Int.reduceNe, Int.reduceLT, Int.reduceLE, gd_true, gd_false, bind_b, q10, eq_self, reduceCtorEq, not_true_eq_false, not_false_eq_true, ne_eq, cr_11000, cr_15000, cr_16000, cr_20000, cr_20001, cr_21000, cr_22000, cr_25000, cr_1000, cr_2000, cr_3000, cr_3003, cr_3006, cr_4000, cr_5000, cr_6000, cr_7000, cr_8000, cr_9000, cr_10000, cr_13500, cr_17000, cr_17100, cr_17103, cr_17106, cr_19000, cr_20100, cr_21100, cr_23000, cr_24000, cw_11000, cw_15000, cw_16000, cw_20000, cw_20001, cw_21000, cw_22000, cw_25000, cw_1000, cw_2000, cw_3000, cw_3003, cw_3006, cw_4000, cw_5000, cw_6000, cw_7000, cw_8000, cw_9000, cw_10000, cw_13500, cw_17000, cw_17100, cw_17103, cw_17106, cw_19000, cw_20100, cw_21100, cw_23000, cw_24000, lc_13500, lc_15000, lc_16000, lc_17000, lc_17100, lc_17103, lc_17106, lc_19000, lc_20000, lc_20001, lc_20100, lc_21000, lc_21100, lc_22000, lc_23000, lc_24000, lc_25000, gd_t, w_eq, b2, sh, nz, c5, c6, b3]
  unfold p_X0_firstBelowFairShare
  simp (disch := omega) only [aok, up_s, true_and, false_and, and_true, and_false, if_true, if_false, ↓reduceIte, ↓Option.bind_some, Int.reduceEq, Int.reduceNe, Int.reduceLT, Int.reduceLE, gd_true, gd_false, bind_b, q10, eq_self, reduceCtorEq, not_true_eq_false, not_false_eq_true, ne_eq, cr_11000, cr_15000, cr_16000, cr_20000, cr_20001, cr_21000, cr_22000, cr_25000, cr_1000, cr_2000, cr_3000, cr_3003, cr_3006, cr_4000, cr_5000, cr_6000, cr_7000, cr_8000, cr_9000, cr_10000, cr_13500, cr_17000, cr_17100, cr_17103, cr_17106, cr_19000, cr_20100, cr_21100, cr_23000, cr_24000, cw_11000, cw_15000, cw_16000, cw_20000, cw_20001, cw_21000, cw_22000, cw_25000, cw_1000, cw_2000, cw_3000, cw_3003, cw_3006, cw_4000, cw_5000, cw_6000, cw_7000, cw_8000, cw_9000, cw_10000, cw_13500, cw_17000, cw_17100, cw_17103, cw_17106, cw_19000, cw_20100, cw_21100, cw_23000, cw_24000, lc_13500, lc_15000, lc_16000, lc_17000, lc_17100, lc_17103, lc_17106, lc_19000, lc_20000, lc_20001, lc_20100, lc_21000, lc_21100, lc_22000, lc_23000, lc_24000, lc_25000, gd_t, w_eq, o, l, Sum.elim_inl, Sum.elim_inr]
theorem c_fill {s : (Int → Int) × (Int → Int)} {W : Int → Int} (h : DG C N g) (g1 : 0 ≤ g) (g2 : g < 3) (hF : ∀ j, 0 ≤ j → j < 12 → 0 ≤ F j ∧ F j ≤ 9) (hn : ∀ j, 0 ≤ j → j < 12 → N 13047 (12 * g + j) ≠ 1 → F j = 0) (hf : FII (fun p => decide (gR N g p)) F 0 (s, 0)) (hs : su F 0 12 = su (fun p => if decide (gR N g p) = true then 1 else 0) 0 9) : lp (b_X0_dealTargets_27 9 (24000 + g) (1000 + g)) 1000 (0, mk (dcC C N g F s.1 s.2 m) N0 A) = some (mk (dcC C N g F (fo (flS (fun p => decide (gR N g p)) F W) 0 9 (s, 0)).1.1 (fo (flS (fun p => decide (gR N g p)) F W) 0 9 (s, 0)).1.2 m) N0 A) := by
  refine lp_seq (fun k : Nat => ((k : Int), mk (dcC C N g F (fo (flS (fun p => decide (gR N g p)) F W) 0 k (s, 0)).1.1 (fo (flS (fun p => decide (gR N g p)) F W) 0 k (s, 0)).1.2 m) N0 A)) 9 (fun k hk => ?_) ?_ (by omega) rfl
  · have lt : (k : Int) < 9 := by omega
    have k0 : 0 ≤ (k : Int) := by omega
    have ic : ((k + 1 : Nat) : Int) = (k : Int) + 1 := by omega
    have q := (fii_at (W := W) hf hs (n := k) (by omega)).1
    rw [ic, fo_S (n := k), show (0 : Int) + (k : Int) = k by omega]
    generalize fo (flS (fun p => decide (gR N g p)) F W) 0 k (s, 0) = x at q
    have hd := h.dc (F := F) (c := x.1.1) (t := x.1.2) (m := m)
    have sh := hd.2.1 k k0 lt
    by_cases r : gR N g k
    · rw [if_pos r] at sh
      have nz : ¬ 9000 + (9 * g + (k : Int)) = 0 := by omega
      have e1 := dc_t (C := C) (F := F) (c := x.1.1) (t := x.1.2) (m := m) lt r
      by_cases z : x.1.2 k = -1
      · have hx := q.ex hs k0 lt (decide_eq_true r) z
        obtain ⟨⟨b1, b2, b3⟩, -⟩ := blw_p hx
        have cf := c_first (C := C) (N0 := N0) (A := A) (t := x.1.2) (m := m) h g1 g2 hx (fun j j1 j2 j3 => by
          have q1 := (q.1 j j1 j2).1
          have q2 := @ctn_b (fun p => decide (gR N g p)) x.1.2 (9 : Nat) j (by omega)
          rw [hn j j1 j2 j3]
          omega)
        have ef : flS (fun p => decide (gR N g p)) F W k x = ((fu x.1.1 (blw x.1.1 F) (x.1.1 (blw x.1.1 F) + 1), fu x.1.2 k (blw x.1.1 F)), x.2 + if W k = -1 ∨ W k = blw x.1.1 F then 0 else 1) := if_pos ⟨decide_eq_true r, z⟩
        rw [ef]
        generalize blw x.1.1 F = b at b1 b2 b3 cf
        obtain ⟨cf, bi⟩ := cf
        have fb := hF b b1 b2
        have cb := (q.1 b b1 b2).1
        have cb2 := @ctn_b (fun p => decide (gR N g p)) x.1.2 (9 : Nat) b (by omega)
        have e0 : dcC C N g F x.1.1 x.1.2 m 9000 (9 * g + (k : Int)) 2 = 0 := by rw [e1, z]; rfl
        have ob : obj g b = 4000 + (12 * g + b) := if_neg (by omega)
        have w1 : uq (dcC C N g F x.1.1 x.1.2 m) 9000 (9 * g + (k : Int)) 2 (4000 + (12 * g + b)) = dcC C N g F x.1.1 (fu x.1.2 k b) m := by
          rw [← ob]; exact dc_ut lt r
        have e2 := dc_t (C := C) (F := F) (c := x.1.1) (t := fu x.1.2 k b) (m := m) lt r
        have e2' : dcC C N g F x.1.1 (fu x.1.2 k b) m 9000 (9 * g + (k : Int)) 2 = 4000 + (12 * g + b) := by
          rw [e2, show fu x.1.2 k b k = b from if_pos rfl, ob]
        have nz2 : ¬ 4000 + (12 * g + b) = 0 := by omega
        have c5 := dc_c (C := C) (F := F) (c := x.1.1) (t := fu x.1.2 k b) (m := m) b1 b2 bi
        unfold b_X0_dealTargets_27
        simp (disch := omega) only [aok, up_s, true_and, false_and, and_true, and_false, if_true, if_false, ↓reduceIte, ↓Option.bind_some, Int.reduceEq, Int.reduceNe, Int.reduceLT, Int.reduceLE, gd_true, gd_false, bind_b, q10, eq_self, reduceCtorEq, not_true_eq_false, not_false_eq_true, ne_eq, cr_11000, cr_15000, cr_16000, cr_20000, cr_20001, cr_21000, cr_22000, cr_25000, cr_1000, cr_2000, cr_3000, cr_3003, cr_3006, cr_4000, cr_5000, cr_6000, cr_7000, cr_8000, cr_9000, cr_10000, cr_13500, cr_17000, cr_17100, cr_17103, cr_17106, cr_19000, cr_20100, cr_21100, cr_23000, cr_24000, cw_11000, cw_15000, cw_16000, cw_20000, cw_20001, cw_21000, cw_22000, cw_25000, cw_1000, cw_2000, cw_3000, cw_3003, cw_3006, cw_4000, cw_5000, cw_6000, cw_7000, cw_8000, cw_9000, cw_10000, cw_13500, cw_17000, cw_17100, cw_17103, cw_17106, cw_19000, cw_20100, cw_21100, cw_23000, cw_24000, lc_13500, lc_15000, lc_16000, lc_17000, lc_17100, lc_17103, lc_17106, lc_19000, lc_20000, lc_20001, lc_20100, lc_21000, lc_21100, lc_22000, lc_23000, lc_24000, lc_25000, gd_t, w_eq, lt, sh, nz, e0, cf, w1, e2', nz2, c5, dc_uc b1 b2 bi]
      · have ef : flS (fun p => decide (gR N g p)) F W k x = x := if_neg (fun y => z y.2)
        rw [ef]
        have tb := (q.2.1 k k0 lt).resolve_left z
        have ob : obj g (x.1.2 k) = 4000 + (12 * g + x.1.2 k) := if_neg z
        rw [ob] at e1
        have nz2 : ¬ 4000 + (12 * g + x.1.2 k) = 0 := by omega
        unfold b_X0_dealTargets_27
        simp (disch := omega) only [aok, up_s, true_and, false_and, and_true, and_false, if_true, if_false, ↓reduceIte, ↓Option.bind_some, Int.reduceEq, Int.reduceNe, Int.reduceLT, Int.reduceLE, gd_true, gd_false, bind_b, q10, eq_self, reduceCtorEq, not_true_eq_false, not_false_eq_true, ne_eq, cr_11000, cr_15000, cr_16000, cr_20000, cr_20001, cr_21000, cr_22000, cr_25000, cr_1000, cr_2000, cr_3000, cr_3003, cr_3006, cr_4000, cr_5000, cr_6000, cr_7000, cr_8000, cr_9000, cr_10000, cr_13500, cr_17000, cr_17100, cr_17103, cr_17106, cr_19000, cr_20100, cr_21100, cr_23000, cr_24000, cw_11000, cw_15000, cw_16000, cw_20000, cw_20001, cw_21000, cw_22000, cw_25000, cw_1000, cw_2000, cw_3000, cw_3003, cw_3006, cw_4000, cw_5000, cw_6000, cw_7000, cw_8000, cw_9000, cw_10000, cw_13500, cw_17000, cw_17100, cw_17103, cw_17106, cw_19000, cw_20100, cw_21100, cw_23000, cw_24000, lc_13500, lc_15000, lc_16000, lc_17000, lc_17100, lc_17103, lc_17106, lc_19000, lc_20000, lc_20001, lc_20100, lc_21000, lc_21100, lc_22000, lc_23000, lc_24000, lc_25000, gd_t, w_eq, lt, sh, nz, e1, nz2]
    · have ef : flS (fun p => decide (gR N g p)) F W k x = x := if_neg (fun y => r (of_decide_eq_true y.1))
      rw [ef]
      rw [if_neg r] at sh
      unfold b_X0_dealTargets_27
      simp (disch := omega) only [aok, up_s, true_and, false_and, and_true, and_false, if_true, if_false, ↓reduceIte, ↓Option.bind_some, Int.reduceEq, Int.reduceNe, Int.reduceLT, Int.reduceLE, gd_true, gd_false, bind_b, q10, eq_self, reduceCtorEq, not_true_eq_false, not_false_eq_true, ne_eq, cr_11000, cr_15000, cr_16000, cr_20000, cr_20001, cr_21000, cr_22000, cr_25000, cr_1000, cr_2000, cr_3000, cr_3003, cr_3006, cr_4000, cr_5000, cr_6000, cr_7000, cr_8000, cr_9000, cr_10000, cr_13500, cr_17000, cr_17100, cr_17103, cr_17106, cr_19000, cr_20100, cr_21100, cr_23000, cr_24000, cw_11000, cw_15000, cw_16000, cw_20000, cw_20001, cw_21000, cw_22000, cw_25000, cw_1000, cw_2000, cw_3000, cw_3003, cw_3006, cw_4000, cw_5000, cw_6000, cw_7000, cw_8000, cw_9000, cw_10000, cw_13500, cw_17000, cw_17100, cw_17103, cw_17106, cw_19000, cw_20100, cw_21100, cw_23000, cw_24000, lc_13500, lc_15000, lc_16000, lc_17000, lc_17100, lc_17103, lc_17106, lc_19000, lc_20000, lc_20001, lc_20100, lc_21000, lc_21100, lc_22000, lc_23000, lc_24000, lc_25000, gd_t, w_eq, lt, sh]
  · have nl : ¬ ((9 : Nat) : Int) < 9 := by omega
    unfold b_X0_dealTargets_27
    simp (disch := omega) only [aok, up_s, true_and, false_and, and_true, and_false, if_true, if_false, ↓reduceIte, ↓Option.bind_some, Int.reduceEq, Int.reduceNe, Int.reduceLT, Int.reduceLE, gd_true, gd_false, bind_b, q10, eq_self, reduceCtorEq, not_true_eq_false, not_false_eq_true, ne_eq, cr_11000, cr_15000, cr_16000, cr_20000, cr_20001, cr_21000, cr_22000, cr_25000, cr_1000, cr_2000, cr_3000, cr_3003, cr_3006, cr_4000, cr_5000, cr_6000, cr_7000, cr_8000, cr_9000, cr_10000, cr_13500, cr_17000, cr_17100, cr_17103, cr_17106, cr_19000, cr_20100, cr_21100, cr_23000, cr_24000, cw_11000, cw_15000, cw_16000, cw_20000, cw_20001, cw_21000, cw_22000, cw_25000, cw_1000, cw_2000, cw_3000, cw_3003, cw_3006, cw_4000, cw_5000, cw_6000, cw_7000, cw_8000, cw_9000, cw_10000, cw_13500, cw_17000, cw_17100, cw_17103, cw_17106, cw_19000, cw_20100, cw_21100, cw_23000, cw_24000, lc_13500, lc_15000, lc_16000, lc_17000, lc_17100, lc_17103, lc_17106, lc_19000, lc_20000, lc_20001, lc_20100, lc_21000, lc_21100, lc_22000, lc_23000, lc_24000, lc_25000, gd_t, w_eq, nl]
/-- what moved, counted at the fill, is what the drop let go -/
theorem fill_m {R : Int → Bool} {F W t0 : Int → Int} {s : (Int → Int) × (Int → Int)} (hf : FII R F 0 (s, 0)) (hs : su F 0 12 = su (fun p => if R p = true then 1 else 0) 0 9) (hw' : ∀ p, 0 ≤ p → p < 9 → W p = t0 p) (ht : tgOk t0) (hd : ∀ p, 0 ≤ p → p < 9 → s.2 p = -1 → t0 p ≠ -1 → s.1 (t0 p) = F (t0 p)) (hr : ∀ p, 0 ≤ p → p < 9 → t0 p ≠ -1 → R p = true) : (fo (flS R F W) 0 9 (s, 0)).2 = su (fun p => if t0 p ≠ -1 ∧ s.2 p = -1 then 1 else 0) 0 9 := by
  have k := fo_inv (g := flS R F W) (i0 := 0) (n := 9) (a := (s, 0)) (fun i x => FII R F i x ∧ (∀ p, i ≤ p → x.1.2 p = s.2 p) ∧ (∀ j, 0 ≤ j → j < 12 → s.1 j ≤ x.1.1 j) ∧ x.2 = su (fun p => if t0 p ≠ -1 ∧ s.2 p = -1 then 1 else 0) 0 i.toNat) ⟨hf, fun _ _ => rfl, fun _ _ _ => Int.le_refl _, rfl⟩ (fun i x i1 i2 hb => by
    obtain ⟨y1, y2, y3, y4⟩ := hb
    have i9 : i < 9 := by omega
    have e0 := y2 i (Int.le_refl _)
    refine ⟨y1.step hs i1 i9, ?_⟩
    rw [show (i + 1).toNat = i.toNat + 1 by omega, su_S, ← y4, show (0 : Int) + (i.toNat : Int) = i by omega]
    unfold flS
    by_cases z : R i = true ∧ x.1.2 i = -1
    · rw [if_pos z]
      obtain ⟨⟨b1, b2, b3⟩, -⟩ := blw_p (y1.ex hs i1 i9 z.1 z.2)
      generalize blw x.1.1 F = b at b1 b2 b3
      have si : s.2 i = -1 := e0.symm.trans z.2
      refine ⟨fun p hp => ?_, fun j j1 j2 => ?_, ?_⟩
      · show fu x.1.2 i b p = s.2 p
        unfold fu
        rw [if_neg (by omega)]
        exact y2 p (by omega)
      · show s.1 j ≤ fu x.1.1 b (x.1.1 b + 1) j
        have := y3 j j1 j2
        unfold fu
        by_cases e : j = b
        · rw [if_pos e, ← e]; omega
        · rw [if_neg e]; exact this
      · show x.2 + (if W i = -1 ∨ W i = b then 0 else 1) = x.2 + if t0 i ≠ -1 ∧ s.2 i = -1 then 1 else 0
        rw [hw' i i1 i9]
        by_cases y : t0 i = -1
        · rw [if_pos (Or.inl y), if_neg (fun q => q.1 y)]
        · have tb := (ht i i1 i9).resolve_left y
          have q1 := hd i i1 i9 si y
          have q2 := y3 _ tb.1 tb.2
          rw [if_neg (fun q => by
            rcases q with q | q
            · exact y q
            · rw [q] at q1 q2
              omega), if_pos ⟨y, si⟩]
    · rw [if_neg z]
      refine ⟨fun p hp => y2 p (by omega), y3, ?_⟩
      rw [if_neg (fun q => z ⟨hr i i1 i9 q.1, e0.trans q.2⟩), Int.add_zero])
  exact k.2.2.2
/-- the class deals -/
theorem c_deal {K : Int} (h : DG C N g) (g1 : 0 ≤ g) (g2 : g < 3) (hK : 0 < K) (hK2 : K ≤ 12) (hKm : K = mc (shI N g)) (hKc : K = mcn N g) (tk : tgOk t) (ht : ∀ p, p < 9 → gR N g p → C 9000 (9 * g + p) 2 = obj g (t p)) (hm : ∀ p, 0 ≤ p → p < 9 → t p ≠ -1 → gR N g p ∧ N 13047 (12 * g + t p) = 1) (hFs : ∀ j, 0 ≤ j → j < 12 → F j = fair (tct N g t) (shI N g) (nsh N g) j) (hF : ∀ j, 0 ≤ j → j < 12 → 0 ≤ F j ∧ F j ≤ 9) (W : Int → Int) : p_X0_dealTargets (mk C N0 A) (1000 + g) = some (mk (dcC C N g F (fo (flS (fun p => decide (gR N g p)) F W) 0 9 (fo (drS F) 0 9 (fun _ => 0, t), 0)).1.1 (fo (flS (fun p => decide (gR N g p)) F W) 0 9 (fo (drS F) 0 9 (fun _ => 0, t), 0)).1.2 (drK F t 9)) N0 A) := by
  have es : C = dcC C N g (fun j => C 4000 (12 * g + j) 6) (fun j => C 4000 (12 * g + j) 5) t (C 1000 g 7) := (dc_self ht).symm
  have w7 : uq C 1000 g 7 0 = dcC C N g (fun j => C 4000 (12 * g + j) 6) (fun j => C 4000 (12 * g + j) 5) t 0 := by
    have := dc_um (C := C) (N := N) (g := g) (F := fun j => C 4000 (12 * g + j) 6) (c := fun j => C 4000 (12 * g + j) 5) (t := t) (m := C 1000 g 7) (v := 0)
    rw [← es] at this
    exact this
  have mcn' := d_memberCount (N0 := N0) (A := A) (h.dc (F := fun j => C 4000 (12 * g + j) 6) (c := fun j => C 4000 (12 * g + j) 5) (t := t) (m := 0)) g1 g2
  rw [← hKc] at mcn'
  have sf := c_setFair (N0 := N0) (A := A) (F := fun j => C 4000 (12 * g + j) 6) (c := fun j => C 4000 (12 * g + j) 5) (m := 0) h tk hK hK2 hKm g1 g2
  have fe : dcC C N g (fair (tct N g t) (shI N g) (nsh N g)) (tct N g t) t 0 = dcC C N g F (tct N g t) t 0 := dc_cong (fun j j1 j2 _ => (hFs j j1 j2).symm) (fun _ _ _ _ => rfl) (fun _ _ _ _ => rfl)
  rw [fe] at sf
  have z := c_zero (N0 := N0) (A := A) (F := F) (c := tct N g t) (t := t) (m := 0) h g1 g2
  have dr := c_drop (N0 := N0) (A := A) h g1 g2 hF tk hm
  have dd := dri_at (F := F) (t0 := t) (fun j j1 j2 => (hF j j1 j2).1) tk (n := 9) (by omega)
  have hf := dri_fii (R := fun p => decide (gR N g p)) dd (fun p p1 p2 z => decide_eq_true (hm p p1 p2 z).1) tk
  have hs : su F 0 12 = su (fun p => if decide (gR N g p) = true then 1 else 0) 0 9 := by
    have e1 : su F 0 12 = su (fair (tct N g t) (shI N g) (nsh N g)) 0 12 := su_congr fun j j1 j2 => hFs j j1 (by omega)
    rw [e1, fair_sum (by omega)]
    unfold nsh
    exact su_congr fun p _ _ => by
      by_cases r : gR N g p
      · rw [if_pos r, if_pos (decide_eq_true r)]
      · rw [if_neg r, if_neg (fun q => r (of_decide_eq_true q))]
  have fl := c_fill (N0 := N0) (A := A) (m := drK F t 9) (W := W) h g1 g2 hF (fun j j1 j2 j3 => by
    rw [hFs j j1 j2]
    exact if_neg j3) hf hs
  have o1 := (h.dc (F := F) (c := tct N g t) (t := t) (m := 0)).1.2.1
  have o0 := (h.dc (F := F) (c := fun _ => 0) (t := t) (m := 0)).1.1
  have o2 := (h.dc (F := F) (c := (fo (drS F) 0 9 (fun _ => 0, t)).1) (t := (fo (drS F) 0 9 (fun _ => 0, t)).2) (m := drK F t 9)).1.1
  have ds : p_X0_dropSurplus (mk (dcC C N g F (tct N g t) t 0) N0 A) (1000 + g) = some (mk (dcC C N g F (fo (drS F) 0 9 (fun _ => 0, t)).1 (fo (drS F) 0 9 (fun _ => 0, t)).2 (drK F t 9)) N0 A) := by
    unfold p_X0_dropSurplus
    simp (disch := omega) only [aok, up_s, true_and, false_and, and_true, and_false, if_true, if_false, ↓reduceIte, ↓Option.bind_some, Int.reduceEq, Int.reduceNe, Int.reduceLT, Int.reduceLE, gd_true, gd_false, bind_b, q10, eq_self, reduceCtorEq, not_true_eq_false, not_false_eq_true, ne_eq, cr_11000, cr_15000, cr_16000, cr_20000, cr_20001, cr_21000, cr_22000, cr_25000, cr_1000, cr_2000, cr_3000, cr_3003, cr_3006, cr_4000, cr_5000, cr_6000, cr_7000, cr_8000, cr_9000, cr_10000, cr_13500, cr_17000, cr_17100, cr_17103, cr_17106, cr_19000, cr_20100, cr_21100, cr_23000, cr_24000, cw_11000, cw_15000, cw_16000, cw_20000, cw_20001, cw_21000, cw_22000, cw_25000, cw_1000, cw_2000, cw_3000, cw_3003, cw_3006, cw_4000, cw_5000, cw_6000, cw_7000, cw_8000, cw_9000, cw_10000, cw_13500, cw_17000, cw_17100, cw_17103, cw_17106, cw_19000, cw_20100, cw_21100, cw_23000, cw_24000, lc_13500, lc_15000, lc_16000, lc_17000, lc_17100, lc_17103, lc_17106, lc_19000, lc_20000, lc_20001, lc_20100, lc_21000, lc_21100, lc_22000, lc_23000, lc_24000, lc_25000, gd_t, w_eq, o1, z, o0, dr]
  unfold p_X0_dealTargets
  simp (disch := omega) only [aok, up_s, true_and, false_and, and_true, and_false, if_true, if_false, ↓reduceIte, ↓Option.bind_some, Int.reduceEq, Int.reduceNe, Int.reduceLT, Int.reduceLE, gd_true, gd_false, bind_b, q10, eq_self, reduceCtorEq, not_true_eq_false, not_false_eq_true, ne_eq, cr_11000, cr_15000, cr_16000, cr_20000, cr_20001, cr_21000, cr_22000, cr_25000, cr_1000, cr_2000, cr_3000, cr_3003, cr_3006, cr_4000, cr_5000, cr_6000, cr_7000, cr_8000, cr_9000, cr_10000, cr_13500, cr_17000, cr_17100, cr_17103, cr_17106, cr_19000, cr_20100, cr_21100, cr_23000, cr_24000, cw_11000, cw_15000, cw_16000, cw_20000, cw_20001, cw_21000, cw_22000, cw_25000, cw_1000, cw_2000, cw_3000, cw_3003, cw_3006, cw_4000, cw_5000, cw_6000, cw_7000, cw_8000, cw_9000, cw_10000, cw_13500, cw_17000, cw_17100, cw_17103, cw_17106, cw_19000, cw_20100, cw_21100, cw_23000, cw_24000, lc_13500, lc_15000, lc_16000, lc_17000, lc_17100, lc_17103, lc_17106, lc_19000, lc_20000, lc_20001, lc_20100, lc_21000, lc_21100, lc_22000, lc_23000, lc_24000, lc_25000, gd_t, w_eq, w7, mcn', sf, ds, o2, fl]
end DCX
