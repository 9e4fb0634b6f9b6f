/-! PURE PART, 83: a message fails: those behind it go back into their row -/
theorem kap_all {K : Int → Bool} {n : Int} (h0 : 0 ≤ n) (hK : ∀ s, 0 ≤ s → s < n → K s = true) : kap K n = n := by
  have e : ∀ k : Nat, (k : Int) ≤ n → kap K k = k := by
    intro k
    induction k with
    | zero => intro _; rfl
    | succ k ih =>
      intro hk
      have a := kap_S (K := K) (i := (k : Int)) (by omega)
      rw [if_pos (hK k (by omega) (by omega)), ih (by omega)] at a
      rw [show ((k + 1 : Nat) : Int) = (k : Int) + 1 by omega]
      exact a
  have := e n.toNat (by omega)
  rw [show ((n.toNat : Nat) : Int) = n by omega] at this
  exact this
def rowB (N : Nd) (g j m k : Int) : Bool := decide (N 13021 (hf N g j k) = N 13021 m ∧ N 13022 (hf N g j k) = N 13022 m)
/-- the rows, with the messages of B of a hand -/
def RW (N N' : Nd) (g j n t : Int) (B : Int → Bool) : Prop := (∀ s, 0 ≤ s → s < n → B s = true → N' 13059 (150 * g + hf N g j s) = 1 ∧ N' 13060 (150 * g + hf N g j s) = t ∧ N' 13061 (150 * g + hf N g j s) = N 13053 (9 * (12 * g + j) + s)) ∧
  (∀ c, (∀ s, 0 ≤ s → s < n → B s = true → c ≠ 150 * g + hf N g j s) → N' 13059 c = N 13059 c ∧ N' 13060 c = N 13060 c ∧ N' 13061 c = N 13061 c) ∧
  (∀ a, ¬ (13051 ≤ a ∧ a ≤ 13054) → ¬ (13059 ≤ a ∧ a ≤ 13061) → N' a = N a) ∧ (∀ z, 0 ≤ z → z < 12 → z ≠ j → hn N' g z = hn N g z ∧ ∀ b, hb3 b → ∀ k, 0 ≤ k → k < 9 → N' b (9 * (12 * g + z) + k) = N b (9 * (12 * g + z) + k)) ∧ MG g N N'
theorem RW.rf {N : Nd} {g j n t : Int} {B : Int → Bool} (h : ∀ s, 0 ≤ s → s < n → B s = false) : RW N N g j n t B :=
  ⟨fun s s1 s2 z => absurd z (by rw [h s s1 s2]; decide), fun _ _ => ⟨rfl, rfl, rfl⟩, fun _ _ _ => rfl, fun _ _ _ _ => ⟨rfl, fun _ _ _ _ _ => rfl⟩, MG.rf⟩
theorem RW.out {N N' : Nd} {g j n t k : Int} {B : Int → Bool} (h : RW N N' g j n t B) (g1 : 0 ≤ g) (j1 : 0 ≤ j) (j2 : j < 12) (k1 : 0 ≤ k) (k2 : k < hn N' g j) (h9 : hn N' g j ≤ 9) : RW N (ooN N' g j k) g j n t B := by
  obtain ⟨h1, h2, h3, h4, h5⟩ := h
  have an : ∀ b, (b < 13051 ∨ 13054 < b) → ooN N' g j k b = N' b := fun b hb => on_ar hb
  refine ⟨?_, ?_, fun a q1 q2 => (an a (by omega)).trans (h3 a q1 q2), fun z z1 z2 z3 => ?_, h5.tr (MG.out g1 j1 j2 k1 k2 h9)⟩
  · rw [an 13059 (by decide), an 13060 (by decide), an 13061 (by decide)]; exact h1
  · rw [an 13059 (by decide), an 13060 (by decide), an 13061 (by decide)]; exact h2
  · obtain ⟨y1, y2⟩ := h4 z z1 z2 z3
    refine ⟨?_, fun b hb i i1 i2 => ?_⟩
    · rw [on_n j1 g1, if_neg z3]; exact y1
    · rw [on_b2 hb k1 k2 h9 z3 i1 i2]; exact y2 b hb i i1 i2
theorem RW.row {N N' : Nd} {g j n t x : Int} {B : Int → Bool} (h : RW N N' g j n t B) (hx : 0 ≤ hf N g j x ∧ hf N g j x < 150) (x1 : 0 ≤ x) (x2 : x < n) (hd : ∀ s, 0 ≤ s → s < n → hf N g j s = hf N g j x → s = x) : RW N (irN N' g (hf N g j x) t (N 13053 (9 * (12 * g + j) + x))) g j n t (fun s => B s || decide (s = x)) := by
  obtain ⟨h1, h2, h3, h4, h5⟩ := h
  refine ⟨fun s s1 s2 z => ?_, fun c hc => ?_, fun a q1 q2 => (ir_ar (by omega) (by omega) (by omega)).trans (h3 a q1 q2), fun z z1 z2 z3 => ?_, h5.tr (MG.ir hx.1 hx.2)⟩
  · rw [ir_w, ir_d, ir_t]
    by_cases e : s = x
    · subst e
      rw [if_pos rfl, if_pos rfl, if_pos rfl]
      exact ⟨rfl, rfl, rfl⟩
    · have ne : ¬ 150 * g + hf N g j s = 150 * g + hf N g j x := fun q => e (hd s s1 s2 (by omega))
      rw [if_neg ne, if_neg ne, if_neg ne]
      simp only [Bool.or_eq_true, decide_eq_true_eq] at z
      exact h1 s s1 s2 (z.resolve_right e)
  · have ne : ¬ c = 150 * g + hf N g j x := hc x x1 x2 (by simp)
    rw [ir_w, ir_d, ir_t, if_neg ne, if_neg ne, if_neg ne]
    exact h2 c (fun s s1 s2 z => hc s s1 s2 (by simp [z]))
  · obtain ⟨y1, y2⟩ := h4 z z1 z2 z3
    refine ⟨?_, fun b hb i i1 i2 => ?_⟩
    · show irN N' g (hf N g j x) t _ 13051 (12 * g + z) = _
      rw [ir_ar (by decide) (by decide) (by decide)]; exact y1
    · rw [ir_ar (by omega) (by omega) (by omega)]; exact y2 b hb i i1 i2
theorem RW.cong {N N' : Nd} {g j n t : Int} {B B' : Int → Bool} (h : RW N N' g j n t B) (hB : ∀ s, 0 ≤ s → s < n → B s = B' s) : RW N N' g j n t B' :=
  ⟨fun s s1 s2 z => h.1 s s1 s2 (by rw [hB s s1 s2]; exact z), fun c hc => h.2.1 c (fun s s1 s2 z => hc s s1 s2 (by rw [← hB s s1 s2]; exact z)), h.2.2⟩
theorem FH.ir {N N' : Nd} {g j n m d t : Int} {K : Int → Bool} (h : FH N N' g j n K) : FH N (irN N' g m d t) g j n K := by
  refine ⟨?_, fun b hb s s1 s2 s3 => ?_⟩
  · show irN N' g m d t 13051 (12 * g + j) = _
    rw [ir_ar (by decide) (by decide) (by decide)]
    exact h.1
  · rw [ir_ar (by omega) (by omega) (by omega)]
    exact h.2 b hb s s1 s2 s3
theorem FH.dd {N N' : Nd} {g j n m : Int} {K : Int → Bool} (h : FH N N' g j n K) : FH N (ddN N' g m) g j n K := by
  have ar : ∀ b, 13051 ≤ b ∧ b ≤ 13054 → ddN N' g m b = N' b := fun b hb => by
    funext i
    unfold ddN
    rw [up_s, if_neg (by omega), up_s, if_neg (by omega), up_s, if_neg (by omega)]
  refine ⟨?_, fun b hb s s1 s2 s3 => ?_⟩
  · show ddN N' g m 13051 (12 * g + j) = _
    rw [ar _ (by decide)]
    exact h.1
  · rw [ar _ (by omega)]
    exact h.2 b hb s s1 s2 s3
section BACK
variable {C : Cd} {N N0 : Nd} {A : Ad} {g j t m : Int}
/-- out of the hand, into the row: the class -/
theorem c_backRow {k : Int} (td : 0 ≤ t ∧ t ≤ 400001000) (jn : JN N) (c : CC C N) (a : GA C N g) (wf : WF C g) (g1 : 0 ≤ g) (g2 : g < 3) (j1 : 0 ≤ j) (j2 : j < 12) (hi : N 13047 (12 * g + j) = 1) (k1 : 0 ≤ k) (k2 : k < hn N g j) : ∃ C1 C3, p_X2_removeLetter (mk C N0 A) (3006 + (12 * g + j)) (2000 + (150 * g + hf N g j k)) = some (mk C1 N0 A) ∧ p_X0_putInRow (mk C1 N0 A) (1000 + g) (2000 + (150 * g + hf N g j k)) t = some (mk C3 N0 A) ∧ GA C3 (irN (ooN N g j k) g (hf N g j k) t (N 13053 (9 * (12 * g + j) + k))) g ∧ ST g C C3 N (irN (ooN N g j k) g (hf N g j k) t (N 13053 (9 * (12 * g + j) + k))) ∧ WF C3 g := by
  have s5 := jn.g.s.2.2.2.2.1
  have h9 := a.h9 j1 j2 hi
  have lh := (a.ha j j1 j2 hi).1
  obtain ⟨⟨b1, b2, b3, b4, b5⟩, ⟨b6, b7, b8, -⟩, -⟩ := (a.ha j j1 j2 hi).2 k k1 k2
  have un := GHa.kn a jn.g j1 j2 hi k1 k2
  have em : hf N g j k < 150 := by omega
  obtain ⟨M, r1, C1, rfl, l1, lk⟩ := c_outHand (N0 := N0) (A := A) (k := k) a g1 g2 j1 j2 hi k1 k2 lh
  have ga := a.out (m := hf N g j k) (k := k) jn.g g1 g2 j1 j2 hi k1 k2 rfl l1 lk
  have st := ST.out (m := hf N g j k) (k := k) jn.g a g1 j1 j2 hi k1 k2 rfl lk
  have fd : 0 < Fdl C g (hf N g j k) := wf _ b1 em (Or.inl b3)
  have jn1 : JN (ooN N g j k) := jn.mg st.2.1
  have c1 : CC (uq C1 2000 (150 * g + hf N g j k) 1 0) (ooN N g j k) := c.mg st.1 st.2.1
  have t3 : uq C1 2000 (150 * g + hf N g j k) 1 0 2000 (150 * g + hf N g j k) 3 = N 13053 (9 * (12 * g + j) + k) := by
    rw [uq_s, if_neg (by omega), lk _ _ _ (by omega) (by omega)]
    exact b4
  have un1 : uq C1 2000 (150 * g + hf N g j k) 1 0 17000 g (hf N g j k) ≠ 0 := by rw [st.kn.1]; exact un
  obtain ⟨M2, r2, C3, rfl, ga3, lk3⟩ := c_putInRow (N0 := N0) (A := A) (d := t) (D := uq C1 2000 (150 * g + hf N g j k) 1 0) jn1.g c1 ga g1 g2 b1 em un1 (by rw [uq_s, if_pos ⟨rfl, rfl, rfl⟩]) t3 b7.1 b7.2 td (fun _ _ => rfl)
  have fe : Fdl (uq C1 2000 (150 * g + hf N g j k) 1 0) g (hf N g j k) = Fdl C g (hf N g j k) := st.2.2.2.1 _ _ (Or.inr (Or.inr rfl))
  have st3 := ST.row (t := N 13053 (9 * (12 * g + j) + k)) (N := ooN N g j k) b1 em (by rw [fe]; exact fd) lk3
  have o9 : ovr (uq C1 2000 (150 * g + hf N g j k) 1 0) C3 = C3 := ovr_eq (by
    funext i z
    rw [lk3 _ _ _ (by omega) (by omega)]
    unfold rwC
    rw [uq_s, uq_s, uq_s, if_neg (by omega), if_neg (by omega), if_neg (by omega)]
    rw [uq_s, if_neg (by omega)])
  rw [o9, pir_any g1 g2 b1 em] at r2
  refine ⟨C1, C3, r1, r2, ga3, st.tr st3, fun x x1 x2 hx => ?_⟩
  have e6 : Fdl C3 g x = Fdl C g x := (st3.2.2.2.1 _ _ (Or.inr (Or.inr rfl))).trans (st.2.2.2.1 _ _ (Or.inr (Or.inr rfl)))
  rw [e6]
  by_cases ex : x = hf N g j k
  · rw [ex]; exact fd
  · refine wf x x1 x2 ?_
    have e7 : C3 2000 (150 * g + x) 1 = C 2000 (150 * g + x) 1 := by
      rw [lk3 _ _ _ (by omega) (by omega)]
      unfold rwC
      rw [uq_s, if_neg (by omega), uq_s, if_neg (by omega), uq_s, if_neg (by omega), lk _ _ _ (by omega) (by omega)]
    rw [e7] at hx
    exact hx
/-- what is left, all from u on looked at -/
def bkK (N : Nd) (g j m q u s : Int) : Bool := decide (s < u) || !(rowB N g j m s) || decide (s ≤ q)
def bkB (N : Nd) (g j m q u s : Int) : Bool := decide (u ≤ s) && rowB N g j m s && decide (q < s)
def BkI (C : Cd) (N : Nd) (g j m q t u : Int) (C' : Cd) (N' : Nd) : Prop := GA C' N' g ∧ ST g C C' N N' ∧ WF C' g ∧ FH N N' g j (hn N g j) (bkK N g j m q u) ∧ RW N N' g j (hn N g j) t (bkB N g j m q u)
theorem c_backAll {q : Int} (td : 0 ≤ t ∧ t ≤ 400001000) (jn : JN N) (c : CC C N) (a : GA C N g) (wf : WF C g) (g1 : 0 ≤ g) (g2 : g < 3) (j1 : 0 ≤ j) (j2 : j < 12) (hi : N 13047 (12 * g + j) = 1) (q1 : 0 ≤ q) (q2 : q < hn N g j) (hm : hf N g j q = m) : Ok (p_X0_sendBackBehind (mk C N0 A) (1000 + g) (4000 + (12 * g + j)) (2000 + (150 * g + m)) t) (fun M => ∃ C' N', M = mk C' N0 A ∧ BkI C N g j m q t (q + 1) C' N') := by
  have s5 := jn.g.s.2.2.2.2.1
  have h9 := a.h9 j1 j2 hi
  have hmb := (a.ha j j1 j2 hi).2 q q1 q2
  rw [hm] at hmb
  obtain ⟨⟨m1, m2, m3, -⟩, -⟩ := hmb
  have ml := a.ha.ll a.le jn.g j1 j2 hi q q1 q2
  rw [hm] at ml
  have hd : ∀ s x, 0 ≤ s → s < hn N g j → 0 ≤ x → x < hn N g j → hf N g j s = hf N g j x → s = x := fun s x s1 s2 x1 x2 h => a.hd j1 j2 hi s1 s2 x1 x2 h
  have me := ((a.me j j1 j2).2 hi).2.1
  have hsz : C 3006 (12 * g + j) 1 = hn N g j := (a.ha j j1 j2 hi).1.2.1
  have hlp : Ok (lp (b_X0_sendBackBehind_11 (4000 + (12 * g + j)) (2000 + (150 * g + m)) (1000 + g) t) 1000 (hn N g j - 1, mk C N0 A)) (fun r => ∃ C' N', r = .inl (mk C' N0 A) ∧ BkI C N g j m q t (q + 1) C' N') := by
    refine lp_for (fun i s => ∃ C' N', s = (hn N g j - 1 - i, mk C' N0 A) ∧ BkI C N g j m q t (hn N g j - i) C' N') 0 (hn N g j - 1 - q).toNat ?_ ?_ (by omega) ⟨C, N, by rw [Int.sub_zero], a, ST.rf, wf, FH.rf h9.1 rfl (fun s s1 s2 => by unfold bkK; simp; omega), RW.rf (fun s s1 s2 => by unfold bkB; simp; omega)⟩
    · rintro i s i1 i2 ⟨C1, N1, rfl, ga, st, wf1, fh, rw'⟩
      have hi1 : N1 13047 (12 * g + j) = 1 := by rw [st.2.2.2.2.1 13047 (by decide) (by decide) (by decide)]; exact hi
      have jn1 : JN N1 := jn.mg st.2.1
      have c1 : CC C1 N1 := c.mg st.1 st.2.1
      have kq : q < hn N g j - 1 - i := by omega
      generalize hk : hn N g j - 1 - i = k at kq
      have hu : hn N g j - i = k + 1 := by omega
      rw [hu] at fh rw'
      have k1 : 0 ≤ k := by omega
      have k2 : k < hn N g j := by omega
      have Kk : bkK N g j m q (k + 1) k = true := by unfold bkK; simp; omega
      have kk : kap (bkK N g j m q (k + 1)) k = k := kap_all k1 (fun s s1 s2 => by unfold bkK; simp; omega)
      have kq' : kap (bkK N g j m q (k + 1)) q = q := kap_all q1 (fun s s1 s2 => by unfold bkK; simp; omega)
      have ltn := kap_lt (K := bkK N g j m q (k + 1)) k1 k2 Kk
      have h9' := ga.h9 j1 j2 hi1
      have hn1 : k < hn N1 g j := by rw [fh.1]; omega
      have hfk : hf N1 g j k = hf N g j k := by
        have := fh.2 13052 (Or.inl rfl) k k1 k2 Kk
        rw [kk] at this
        exact this
      have tk : N1 13053 (9 * (12 * g + j) + k) = N 13053 (9 * (12 * g + j) + k) := by
        have := fh.2 13053 (Or.inr (Or.inl rfl)) k k1 k2 Kk
        rw [kk] at this
        exact this
      have lD := (ga.ha j j1 j2 hi1).1
      have hget := c_get (N0 := N0) (A := A) (k := k) (LPl.h (g := 12 * g + j) (by omega) (by omega)) lD h9'.2.1
      rw [if_pos ⟨k1, hn1⟩, hfk] at hget
      have me1 : C1 4000 (12 * g + j) 1 = 3006 + (12 * g + j) := by rw [st.kn.2.2.1]; exact me
      obtain ⟨⟨b1, b2, -⟩, -⟩ := (a.ha j j1 j2 hi).2 k k1 k2
      have ll := ga.ha.ll ga.le jn1.g j1 j2 hi1 k k1 hn1
      rw [hfk] at ll
      have sc : N1 12000 = N 12000 := st.2.1.n0 (by decide)
      have e0 : C1 2000 (150 * g + m) 0 = 5000 + m := by rw [st.2.2.2.1 _ _ (Or.inl rfl)]; exact ml.2.2
      have ir := c_isOfRow (N0 := N0) (A := A) (g := g) (a := hf N g j k) (m := m) jn1.g c1 g1 g2 ll.1 ll.2.1 ll.2.2 m1 (by rw [sc]; exact m2)
      rw [st.2.1.n0 (a := 13021) (by decide), st.2.1.n0 (a := 13022) (by decide)] at ir
      have nm' : hf N g j k ≠ m := fun z => by have := hd k q k1 k2 q1 q2 (z.trans hm.symm); omega
      have ne1 : ¬ 2000 + (150 * g + hf N g j k) = 2000 + (150 * g + m) := by omega
      have nk : ¬ k < 0 := by omega
      unfold b_X0_sendBackBehind_11
      by_cases z : N 13021 (hf N g j k) = N 13021 m ∧ N 13022 (hf N g j k) = N 13022 m
      · rw [if_pos z] at ir
        obtain ⟨C2, C3, r1, r2, ga3, st3, wf3⟩ := c_backRow (N0 := N0) (A := A) (t := t) (k := k) td jn1 c1 ga wf1 g1 g2 j1 j2 hi1 k1 hn1
        rw [hfk] at r1 r2 ga3 st3
        rw [tk] at ga3 st3
        simp (disch := omega) only [aok, up_s, true_and, false_and, and_true, and_false, if_true, if_false, ↓reduceIte, ↓Option.bind_some, Int.reduceEq, Int.reduceNe, Int.reduceLT, Int.reduceLE, gd_true, gd_false, bind_b, q10, eq_self, reduceCtorEq, not_true_eq_false, not_false_eq_true, ne_eq, cr_11000, cr_15000, cr_16000, cr_20000, cr_20001, cr_21000, cr_22000, cr_25000, cr_1000, cr_2000, cr_3000, cr_3003, cr_3006, cr_4000, cr_5000, cr_6000, cr_7000, cr_8000, cr_9000, cr_10000, cr_13500, cr_17000, cr_17100, cr_17103, cr_17106, cr_19000, cr_20100, cr_21100, cr_23000, cr_24000, cw_11000, cw_15000, cw_16000, cw_20000, cw_20001, cw_21000, cw_22000, cw_25000, cw_1000, cw_2000, cw_3000, cw_3003, cw_3006, cw_4000, cw_5000, cw_6000, cw_7000, cw_8000, cw_9000, cw_10000, cw_13500, cw_17000, cw_17100, cw_17103, cw_17106, cw_19000, cw_20100, cw_21100, cw_23000, cw_24000, lc_13500, lc_15000, lc_16000, lc_17000, lc_17100, lc_17103, lc_17106, lc_19000, lc_20000, lc_20001, lc_20100, lc_21000, lc_21100, lc_22000, lc_23000, lc_24000, lc_25000, gd_t, w_eq, nk, me1, hget, ne1, e0, ir, r1, r2, if_neg]
        have rb : rowB N g j m k = true := decide_eq_true z
        have fr := fh.rm g1 j1 k1 k2 Kk
        rw [kk] at fr
        have ro := rw'.out g1 j1 j2 k1 hn1 h9'.2.1
        refine ⟨_, rfl, C3, _, ?_, ga3, st.tr st3, wf3, ?_, ?_⟩
        · congr 1
          omega
        · rw [show hn N g j - (i + 1) = k by omega]
          refine (FH.ir fr).cong h9.1 (fun s s1 s2 => ?_)
          unfold bkK
          by_cases e : s = k
          · subst e
            rw [rb]
            simp
            omega
          · have d1 : decide (s < k + 1) = decide (s < k) := by
              by_cases y : s < k
              · rw [decide_eq_true y, decide_eq_true (show s < k + 1 by omega)]
              · rw [decide_eq_false y, decide_eq_false (show ¬ s < k + 1 by omega)]
            rw [d1]
            simp [e]
        · rw [show hn N g j - (i + 1) = k by omega]
          have := ro.row (x := k) ⟨b1, by omega⟩ k1 k2 (fun s s1 s2 h => hd s k s1 s2 k1 k2 h)
          refine this.cong (fun s s1 s2 => ?_)
          unfold bkB
          by_cases e : s = k
          · subst e
            rw [rb]
            simp
            omega
          · have d1 : decide (k + 1 ≤ s) = decide (k ≤ s) := by
              by_cases y : k ≤ s
              · rw [decide_eq_true y, decide_eq_true (show k + 1 ≤ s by omega)]
              · rw [decide_eq_false y, decide_eq_false (show ¬ k + 1 ≤ s by omega)]
            rw [d1]
            simp [e]
      · rw [if_neg z] at ir
        simp (disch := omega) only [aok, up_s, true_and, false_and, and_true, and_false, if_true, if_false, ↓reduceIte, ↓Option.bind_some, Int.reduceEq, Int.reduceNe, Int.reduceLT, Int.reduceLE, gd_true, gd_false, bind_b, q10, eq_self, reduceCtorEq, not_true_eq_false, not_false_eq_true, ne_eq, cr_11000, cr_15000, cr_16000, cr_20000, cr_20001, cr_21000, cr_22000, cr_25000, cr_1000, cr_2000, cr_3000, cr_3003, cr_3006, cr_4000, cr_5000, cr_6000, cr_7000, cr_8000, cr_9000, cr_10000, cr_13500, cr_17000, cr_17100, cr_17103, cr_17106, cr_19000, cr_20100, cr_21100, cr_23000, cr_24000, cw_11000, cw_15000, cw_16000, cw_20000, cw_20001, cw_21000, cw_22000, cw_25000, cw_1000, cw_2000, cw_3000, cw_3003, cw_3006, cw_4000, cw_5000, cw_6000, cw_7000, cw_8000, cw_9000, cw_10000, cw_13500, cw_17000, cw_17100, cw_17103, cw_17106, cw_19000, cw_20100, cw_21100, cw_23000, cw_24000, lc_13500, lc_15000, lc_16000, lc_17000, lc_17100, lc_17103, lc_17106, lc_19000, lc_20000, lc_20001, lc_20100, lc_21000, lc_21100, lc_22000, lc_23000, lc_24000, lc_25000, gd_t, w_eq, nk, me1, hget, ne1, e0, ir, if_neg]
        have rb : rowB N g j m k = false := decide_eq_false z
        refine ⟨_, rfl, C1, N1, ?_, ga, st, wf1, ?_, ?_⟩
        · congr 1
          omega
        · rw [show hn N g j - (i + 1) = k by omega]
          refine fh.cong h9.1 (fun s s1 s2 => ?_)
          unfold bkK
          by_cases e : s = k
          · subst e
            rw [rb]
            simp
          · have d1 : decide (s < k + 1) = decide (s < k) := by
              by_cases y : s < k
              · rw [decide_eq_true y, decide_eq_true (show s < k + 1 by omega)]
              · rw [decide_eq_false y, decide_eq_false (show ¬ s < k + 1 by omega)]
            rw [d1]
        · rw [show hn N g j - (i + 1) = k by omega]
          refine rw'.cong (fun s s1 s2 => ?_)
          unfold bkB
          by_cases e : s = k
          · subst e
            rw [rb]
            simp
          · have d1 : decide (k + 1 ≤ s) = decide (k ≤ s) := by
              by_cases y : k ≤ s
              · rw [decide_eq_true y, decide_eq_true (show k + 1 ≤ s by omega)]
              · rw [decide_eq_false y, decide_eq_false (show ¬ k + 1 ≤ s by omega)]
            rw [d1]
    · rintro s ⟨C1, N1, rfl, ga, st, wf1, fh, rw'⟩
      have e0 : hn N g j - 1 - (0 + ((hn N g j - 1 - q).toNat : Int)) = q := by omega
      have e1 : hn N g j - (0 + ((hn N g j - 1 - q).toNat : Int)) = q + 1 := by omega
      rw [e0]
      rw [e1] at fh rw'
      have hi1 : N1 13047 (12 * g + j) = 1 := by rw [st.2.2.2.2.1 13047 (by decide) (by decide) (by decide)]; exact hi
      have Kq : bkK N g j m q (q + 1) q = true := by unfold bkK; simp
      have kq' : kap (bkK N g j m q (q + 1)) q = q := kap_all q1 (fun s s1 s2 => by unfold bkK; simp; omega)
      have ltn := kap_lt (K := bkK N g j m q (q + 1)) q1 q2 Kq
      have h9' := ga.h9 j1 j2 hi1
      have hn1 : q < hn N1 g j := by rw [fh.1]; omega
      have hfk : hf N1 g j q = m := by
        have := fh.2 13052 (Or.inl rfl) q q1 q2 Kq
        rw [kq'] at this
        exact this.trans hm
      have lD := (ga.ha j j1 j2 hi1).1
      have hget := c_get (N0 := N0) (A := A) (k := q) (LPl.h (g := 12 * g + j) (by omega) (by omega)) lD h9'.2.1
      rw [if_pos ⟨q1, hn1⟩, hfk] at hget
      have me1 : C1 4000 (12 * g + j) 1 = 3006 + (12 * g + j) := by rw [st.kn.2.2.1]; exact me
      have nk : ¬ q < 0 := by omega
      unfold b_X0_sendBackBehind_11
      simp (disch := omega) only [aok, up_s, true_and, false_and, and_true, and_false, if_true, if_false, ↓reduceIte, ↓Option.bind_some, Int.reduceEq, Int.reduceNe, Int.reduceLT, Int.reduceLE, gd_true, gd_false, bind_b, q10, eq_self, reduceCtorEq, not_true_eq_false, not_false_eq_true, ne_eq, cr_11000, cr_15000, cr_16000, cr_20000, cr_20001, cr_21000, cr_22000, cr_25000, cr_1000, cr_2000, cr_3000, cr_3003, cr_3006, cr_4000, cr_5000, cr_6000, cr_7000, cr_8000, cr_9000, cr_10000, cr_13500, cr_17000, cr_17100, cr_17103, cr_17106, cr_19000, cr_20100, cr_21100, cr_23000, cr_24000, cw_11000, cw_15000, cw_16000, cw_20000, cw_20001, cw_21000, cw_22000, cw_25000, cw_1000, cw_2000, cw_3000, cw_3003, cw_3006, cw_4000, cw_5000, cw_6000, cw_7000, cw_8000, cw_9000, cw_10000, cw_13500, cw_17000, cw_17100, cw_17103, cw_17106, cw_19000, cw_20100, cw_21100, cw_23000, cw_24000, lc_13500, lc_15000, lc_16000, lc_17000, lc_17100, lc_17103, lc_17106, lc_19000, lc_20000, lc_20001, lc_20100, lc_21000, lc_21100, lc_22000, lc_23000, lc_24000, lc_25000, gd_t, w_eq, nk, me1, hget]
      exact ⟨_, rfl, C1, N1, rfl, ga, st, wf1, fh, rw'⟩
  obtain ⟨r, r1, C', N', rfl, hb⟩ := hlp
  have wsub : w (hn N g j - 1) = hn N g j - 1 := w_eq (by omega) (by omega)
  unfold p_X0_sendBackBehind
  simp (disch := omega) only [aok, up_s, true_and, false_and, and_true, and_false, if_true, if_false, ↓reduceIte, ↓Option.bind_some, Int.reduceEq, Int.reduceNe, Int.reduceLT, Int.reduceLE, gd_true, gd_false, bind_b, q10, eq_self, reduceCtorEq, not_true_eq_false, not_false_eq_true, ne_eq, cr_11000, cr_15000, cr_16000, cr_20000, cr_20001, cr_21000, cr_22000, cr_25000, cr_1000, cr_2000, cr_3000, cr_3003, cr_3006, cr_4000, cr_5000, cr_6000, cr_7000, cr_8000, cr_9000, cr_10000, cr_13500, cr_17000, cr_17100, cr_17103, cr_17106, cr_19000, cr_20100, cr_21100, cr_23000, cr_24000, cw_11000, cw_15000, cw_16000, cw_20000, cw_20001, cw_21000, cw_22000, cw_25000, cw_1000, cw_2000, cw_3000, cw_3003, cw_3006, cw_4000, cw_5000, cw_6000, cw_7000, cw_8000, cw_9000, cw_10000, cw_13500, cw_17000, cw_17100, cw_17103, cw_17106, cw_19000, cw_20100, cw_21100, cw_23000, cw_24000, lc_13500, lc_15000, lc_16000, lc_17000, lc_17100, lc_17103, lc_17106, lc_19000, lc_20000, lc_20001, lc_20100, lc_21000, lc_21100, lc_22000, lc_23000, lc_24000, lc_25000, gd_t, w_eq, me, hsz, wsub, r1]
  exact ⟨_, rfl, C', N', rfl, hb⟩
end BACK
