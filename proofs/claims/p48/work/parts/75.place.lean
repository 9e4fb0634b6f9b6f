/-! PURE PART, 75: places; commitOffsets -/
def plS (N : Nd) (g j p k a : Int) : Int := if (N 13021 (hf N g j k) = p ∧ N 13054 (9 * (12 * g + j) + k) = 0) ∧ N 13026 (hf N g j k) < a then N 13026 (hf N g j k) else a
def plv (N : Nd) (g j p : Int) : Int := fo (plS N g j p) 0 (hn N g j).toNat (N 13058 (9 * g + p))
abbrev own (N : Nd) (g j p : Int) : Prop := gR N g p ∧ N 13055 (9 * g + p) = j
section PLACE
variable {C : Cd} {N N0 : Nd} {A : Ad} {g j p : Int}
theorem GLe.off {m : Int} (jn : JN N) (le : GLe C N g) (h1 : 0 ≤ m) (h2 : m < 150) (h : C 17000 g m ≠ 0) : 0 ≤ N 13026 m ∧ N 13026 m < 60 ∧ N 13018 (60 * N 13021 m + N 13026 m) = m := by
  obtain ⟨y1, -, y3, -⟩ := (le m h1 h2).2.1 h
  have s := (jn.sl m h1 y1).1 (by rcases y3 with y3 | y3; exact Or.inr y3; exact Or.inl y3.1)
  have := (jn.g.m m h1 y1).2.2.2.2.2.1
  exact ⟨s.1, this.2, s.2⟩
theorem GHa.kn {k : Int} (a : GA C N g) (G : RG N) (j1 : 0 ≤ j) (j2 : j < 12) (hi : N 13047 (12 * g + j) = 1) (k1 : 0 ≤ k) (k2 : k < hn N g j) : C 17000 g (hf N g j k) ≠ 0 := by
  obtain ⟨⟨b1, b2, b3, -⟩, -⟩ := (a.ha j j1 j2 hi).2 k k1 k2
  have s5 := G.s.2.2.2.2.1
  exact (a.le.lt b1 (by omega) (by omega)).2.1
theorem plv_b (jn : JN N) (a : GA C N g) (g1 : 0 ≤ g) (j1 : 0 ≤ j) (j2 : j < 12) (hi : N 13047 (12 * g + j) = 1) (p1 : 0 ≤ p) (p2 : p < 9) : (0 ≤ plv N g j p ∧ plv N g j p ≤ N 13058 (9 * g + p)) ∧ (plv N g j p = N 13058 (9 * g + p) ∨ ∃ k, 0 ≤ k ∧ k < hn N g j ∧ N 13021 (hf N g j k) = p ∧ plv N g j p = N 13026 (hf N g j k)) := by
  have h9 := a.h9 j1 j2 hi
  have rb := (a.np p p1 p2).2.2
  have s5 := jn.g.s.2.2.2.2.1
  unfold plv
  refine fo_inv (g := plS N g j p) (i0 := 0) (n := (hn N g j).toNat) (a := N 13058 (9 * g + p)) (fun _ v => (0 ≤ v ∧ v ≤ N 13058 (9 * g + p)) ∧ (v = N 13058 (9 * g + p) ∨ ∃ k, 0 ≤ k ∧ k < hn N g j ∧ N 13021 (hf N g j k) = p ∧ v = N 13026 (hf N g j k))) ⟨⟨rb.1, Int.le_refl _⟩, Or.inl rfl⟩ (fun i v i1 i2 h => ?_)
  unfold plS
  split
  · rename_i c
    obtain ⟨⟨b1, b2, -⟩, -⟩ := (a.ha j j1 j2 hi).2 i i1 (by omega)
    have o := a.le.off jn b1 (by omega) (GHa.kn a jn.g j1 j2 hi i1 (by omega))
    exact ⟨⟨o.1, by omega⟩, Or.inr ⟨i, i1, by omega, c.1.1, rfl⟩⟩
  · exact h
theorem c_placeIn (G : RG N) (c : CC C N) (a : GA C N g) (g1 : 0 ≤ g) (g2 : g < 3) (j1 : 0 ≤ j) (j2 : j < 12) (hi : N 13047 (12 * g + j) = 1) (r : gR N g p) : p_X3_placeIn (mk C N0 A) (4000 + (12 * g + j)) (9000 + (9 * g + p)) = some (plv N g j p) := by
  have s5 := G.s.2.2.2.2.1
  have s2 := G.s.2.1
  have p1 := r.1; have p2 := r.2.1
  have h9 := a.h9 j1 j2 hi
  have ll := a.ha.ll a.le G j1 j2 hi
  obtain ⟨t0, -, -, -, t4⟩ := (a.sh p p1 (by omega)).2 r
  have me := ((a.me j j1 j2).2 hi).2.1
  have lh := (a.ha j j1 j2 hi).1
  have hget := fun k => c_get (N0 := N0) (A := A) (k := k) (LPl.h (g := 12 * g + j) (by omega) (by omega)) lh h9.2.1
  have hsz : C 3006 (12 * g + j) 1 = hn N g j := lh.2.1
  unfold p_X3_placeIn
  simp (disch := omega) only [aok, up_s, true_and, false_and, and_true, and_false, if_true, if_false, ↓reduceIte, ↓Option.bind_some, Int.reduceEq, Int.reduceNe, Int.reduceLT, Int.reduceLE, gd_true, gd_false, bind_b, q10, eq_self, reduceCtorEq, not_true_eq_false, not_false_eq_true, ne_eq, cr_11000, cr_15000, cr_16000, cr_20000, cr_20001, cr_21000, cr_22000, cr_25000, cr_1000, cr_2000, cr_3000, cr_3003, cr_3006, cr_4000, cr_5000, cr_6000, cr_7000, cr_8000, cr_9000, cr_10000, cr_13500, cr_17000, cr_17100, cr_17103, cr_17106, cr_19000, cr_20100, cr_21100, cr_23000, cr_24000, cw_11000, cw_15000, cw_16000, cw_20000, cw_20001, cw_21000, cw_22000, cw_25000, cw_1000, cw_2000, cw_3000, cw_3003, cw_3006, cw_4000, cw_5000, cw_6000, cw_7000, cw_8000, cw_9000, cw_10000, cw_13500, cw_17000, cw_17100, cw_17103, cw_17106, cw_19000, cw_20100, cw_21100, cw_23000, cw_24000, lc_13500, lc_15000, lc_16000, lc_17000, lc_17100, lc_17103, lc_17106, lc_19000, lc_20000, lc_20001, lc_20100, lc_21000, lc_21100, lc_22000, lc_23000, lc_24000, lc_25000, gd_t, w_eq, t4]
  rw [lp_fo (fun a i => (a, i)) (plS N g j p) 0 (hn N g j).toNat (a := N 13058 (9 * g + p)) (fun _ => True) trivial (fun _ _ _ _ _ => trivial) (t := plv N g j p) (fun i b i1 i2 _ => ?_) (fun _ => ?_) (by omega) rfl]
  · rfl
  · have lt : i < hn N g j := by omega
    have hk : 0 ≤ i ∧ i < hn N g j := ⟨i1, lt⟩
    obtain ⟨x1, x2, x3⟩ := ll i i1 lt
    obtain ⟨-, -, c2, -, -, -, -, -, -, c9, -⟩ := c.m _ x1 x2
    obtain ⟨⟨-, -, -, -, b5⟩, ⟨-, -, b6, -⟩, -⟩ := (a.ha j j1 j2 hi).2 i i1 lt
    unfold b_X3_placeIn_7
    rcases b6 with b6 | b6
    · rw [b6] at b5
      by_cases z : N 13021 (hf N g j i) = p
      · by_cases z2 : N 13026 (hf N g j i) < b
        · have e : plS N g j p i b = N 13026 (hf N g j i) := if_pos ⟨⟨z, b6⟩, z2⟩
          rw [e]
          simp (disch := omega) only [aok, up_s, true_and, false_and, and_true, and_false, if_true, if_false, ↓reduceIte, ↓Option.bind_some, Int.reduceEq, Int.reduceNe, Int.reduceLT, Int.reduceLE, gd_true, gd_false, bind_b, q10, eq_self, reduceCtorEq, not_true_eq_false, not_false_eq_true, ne_eq, cr_11000, cr_15000, cr_16000, cr_20000, cr_20001, cr_21000, cr_22000, cr_25000, cr_1000, cr_2000, cr_3000, cr_3003, cr_3006, cr_4000, cr_5000, cr_6000, cr_7000, cr_8000, cr_9000, cr_10000, cr_13500, cr_17000, cr_17100, cr_17103, cr_17106, cr_19000, cr_20100, cr_21100, cr_23000, cr_24000, cw_11000, cw_15000, cw_16000, cw_20000, cw_20001, cw_21000, cw_22000, cw_25000, cw_1000, cw_2000, cw_3000, cw_3003, cw_3006, cw_4000, cw_5000, cw_6000, cw_7000, cw_8000, cw_9000, cw_10000, cw_13500, cw_17000, cw_17100, cw_17103, cw_17106, cw_19000, cw_20100, cw_21100, cw_23000, cw_24000, lc_13500, lc_15000, lc_16000, lc_17000, lc_17100, lc_17103, lc_17106, lc_19000, lc_20000, lc_20001, lc_20100, lc_21000, lc_21100, lc_22000, lc_23000, lc_24000, lc_25000, gd_t, w_eq, me, hsz, lt, hget, hk, b5, b6, x3, c2, z, t0, c9, p_J9_min_7cf53, z2, if_neg]
        · have e : plS N g j p i b = b := if_neg (fun y => z2 y.2)
          rw [e]
          simp (disch := omega) only [aok, up_s, true_and, false_and, and_true, and_false, if_true, if_false, ↓reduceIte, ↓Option.bind_some, Int.reduceEq, Int.reduceNe, Int.reduceLT, Int.reduceLE, gd_true, gd_false, bind_b, q10, eq_self, reduceCtorEq, not_true_eq_false, not_false_eq_true, ne_eq, cr_11000, cr_15000, cr_16000, cr_20000, cr_20001, cr_21000, cr_22000, cr_25000, cr_1000, cr_2000, cr_3000, cr_3003, cr_3006, cr_4000, cr_5000, cr_6000, cr_7000, cr_8000, cr_9000, cr_10000, cr_13500, cr_17000, cr_17100, cr_17103, cr_17106, cr_19000, cr_20100, cr_21100, cr_23000, cr_24000, cw_11000, cw_15000, cw_16000, cw_20000, cw_20001, cw_21000, cw_22000, cw_25000, cw_1000, cw_2000, cw_3000, cw_3003, cw_3006, cw_4000, cw_5000, cw_6000, cw_7000, cw_8000, cw_9000, cw_10000, cw_13500, cw_17000, cw_17100, cw_17103, cw_17106, cw_19000, cw_20100, cw_21100, cw_23000, cw_24000, lc_13500, lc_15000, lc_16000, lc_17000, lc_17100, lc_17103, lc_17106, lc_19000, lc_20000, lc_20001, lc_20100, lc_21000, lc_21100, lc_22000, lc_23000, lc_24000, lc_25000, gd_t, w_eq, me, hsz, lt, hget, hk, b5, b6, x3, c2, z, t0, c9, p_J9_min_7cf53, z2, if_neg]
      · have e : plS N g j p i b = b := if_neg (fun y => z y.1.1)
        rw [e]
        have z' : ¬ 6000 + N 13021 (hf N g j i) = 6000 + p := by omega
        simp (disch := omega) only [aok, up_s, true_and, false_and, and_true, and_false, if_true, if_false, ↓reduceIte, ↓Option.bind_some, Int.reduceEq, Int.reduceNe, Int.reduceLT, Int.reduceLE, gd_true, gd_false, bind_b, q10, eq_self, reduceCtorEq, not_true_eq_false, not_false_eq_true, ne_eq, cr_11000, cr_15000, cr_16000, cr_20000, cr_20001, cr_21000, cr_22000, cr_25000, cr_1000, cr_2000, cr_3000, cr_3003, cr_3006, cr_4000, cr_5000, cr_6000, cr_7000, cr_8000, cr_9000, cr_10000, cr_13500, cr_17000, cr_17100, cr_17103, cr_17106, cr_19000, cr_20100, cr_21100, cr_23000, cr_24000, cw_11000, cw_15000, cw_16000, cw_20000, cw_20001, cw_21000, cw_22000, cw_25000, cw_1000, cw_2000, cw_3000, cw_3003, cw_3006, cw_4000, cw_5000, cw_6000, cw_7000, cw_8000, cw_9000, cw_10000, cw_13500, cw_17000, cw_17100, cw_17103, cw_17106, cw_19000, cw_20100, cw_21100, cw_23000, cw_24000, lc_13500, lc_15000, lc_16000, lc_17000, lc_17100, lc_17103, lc_17106, lc_19000, lc_20000, lc_20001, lc_20100, lc_21000, lc_21100, lc_22000, lc_23000, lc_24000, lc_25000, gd_t, w_eq, me, hsz, lt, hget, hk, b5, b6, x3, c2, z', t0, if_neg]
    · rw [b6] at b5
      have e : plS N g j p i b = b := if_neg (fun y => by have := y.1.2; omega)
      rw [e]
      simp (disch := omega) only [aok, up_s, true_and, false_and, and_true, and_false, if_true, if_false, ↓reduceIte, ↓Option.bind_some, Int.reduceEq, Int.reduceNe, Int.reduceLT, Int.reduceLE, gd_true, gd_false, bind_b, q10, eq_self, reduceCtorEq, not_true_eq_false, not_false_eq_true, ne_eq, cr_11000, cr_15000, cr_16000, cr_20000, cr_20001, cr_21000, cr_22000, cr_25000, cr_1000, cr_2000, cr_3000, cr_3003, cr_3006, cr_4000, cr_5000, cr_6000, cr_7000, cr_8000, cr_9000, cr_10000, cr_13500, cr_17000, cr_17100, cr_17103, cr_17106, cr_19000, cr_20100, cr_21100, cr_23000, cr_24000, cw_11000, cw_15000, cw_16000, cw_20000, cw_20001, cw_21000, cw_22000, cw_25000, cw_1000, cw_2000, cw_3000, cw_3003, cw_3006, cw_4000, cw_5000, cw_6000, cw_7000, cw_8000, cw_9000, cw_10000, cw_13500, cw_17000, cw_17100, cw_17103, cw_17106, cw_19000, cw_20100, cw_21100, cw_23000, cw_24000, lc_13500, lc_15000, lc_16000, lc_17000, lc_17100, lc_17103, lc_17106, lc_19000, lc_20000, lc_20001, lc_20100, lc_21000, lc_21100, lc_22000, lc_23000, lc_24000, lc_25000, gd_t, w_eq, me, hsz, lt, hget, hk, b5, if_neg]
  · unfold b_X3_placeIn_7
    have nl : ¬ (0 : Int) + ((hn N g j).toNat : Int) < hn N g j := by omega
    simp (disch := omega) only [aok, up_s, true_and, false_and, and_true, and_false, if_true, if_false, ↓reduceIte, ↓Option.bind_some, Int.reduceEq, Int.reduceNe, Int.reduceLT, Int.reduceLE, gd_true, gd_false, bind_b, q10, eq_self, reduceCtorEq, not_true_eq_false, not_false_eq_true, ne_eq, cr_11000, cr_15000, cr_16000, cr_20000, cr_20001, cr_21000, cr_22000, cr_25000, cr_1000, cr_2000, cr_3000, cr_3003, cr_3006, cr_4000, cr_5000, cr_6000, cr_7000, cr_8000, cr_9000, cr_10000, cr_13500, cr_17000, cr_17100, cr_17103, cr_17106, cr_19000, cr_20100, cr_21100, cr_23000, cr_24000, cw_11000, cw_15000, cw_16000, cw_20000, cw_20001, cw_21000, cw_22000, cw_25000, cw_1000, cw_2000, cw_3000, cw_3003, cw_3006, cw_4000, cw_5000, cw_6000, cw_7000, cw_8000, cw_9000, cw_10000, cw_13500, cw_17000, cw_17100, cw_17103, cw_17106, cw_19000, cw_20100, cw_21100, cw_23000, cw_24000, lc_13500, lc_15000, lc_16000, lc_17000, lc_17100, lc_17103, lc_17106, lc_19000, lc_20000, lc_20001, lc_20100, lc_21000, lc_21100, lc_22000, lc_23000, lc_24000, lc_25000, gd_t, w_eq, me, hsz, nl]
    rfl
theorem m_placeOf (jn : JN N) (a : GA C N g) (g1 : 0 ≤ g) (g2 : g < 3) (j1 : 0 ≤ j) (j2 : j < 12) (hi : N 13047 (12 * g + j) = 1) (p1 : 0 ≤ p) (p2 : p < 9) (C' : Cd) (A' : Ad) : p_X11_placeOf (mk C' N A') 12000 g j p = some (plv N g j p) := by
  have s5 := jn.g.s.2.2.2.2.1
  have h9 := a.h9 j1 j2 hi
  have hh : hn N g j = N 13051 (12 * g + j) := rfl
  have rb := (a.np p p1 p2).2.2
  have inv : ∀ k : Nat, (k : Int) ≤ hn N g j → 0 ≤ fo (plS N g j p) 0 k (N 13058 (9 * g + p)) ∧ fo (plS N g j p) 0 k (N 13058 (9 * g + p)) ≤ N 13058 (9 * g + p) := fun k hk =>
    fo_inv (g := plS N g j p) (i0 := 0) (n := k) (a := N 13058 (9 * g + p)) (fun _ v => 0 ≤ v ∧ v ≤ N 13058 (9 * g + p)) ⟨rb.1, Int.le_refl _⟩ (fun i v i1 i2 h => by
      unfold plS
      split
      · obtain ⟨⟨b1, b2, -⟩, -⟩ := (a.ha j j1 j2 hi).2 i i1 (by omega)
        have o := a.le.off jn b1 (by omega) (GHa.kn a jn.g j1 j2 hi i1 (by omega))
        omega
      · exact h)
  have hlp : lp (b_X11_placeOf_14 (mk C' N A') 12000 (12 * g + j) p) 1000 (-1, 0) = some (if plv N g j p = N 13058 (9 * g + p) then -1 else plv N g j p) := by
    refine lp_seq (fun i : Nat => ((if fo (plS N g j p) 0 i (N 13058 (9 * g + p)) = N 13058 (9 * g + p) then -1 else fo (plS N g j p) 0 i (N 13058 (9 * g + p))), (i : Int))) (hn N g j).toNat (fun i hi2 => ?_) ?_ (by omega) ?_
    · have lt : (i : Int) < N 13051 (12 * g + j) := by omega
      have ic : ((i + 1 : Nat) : Int) = (i : Int) + 1 := by omega
      obtain ⟨⟨b1, b2, -⟩, ⟨-, -, b6, b7⟩, -⟩ := (a.ha j j1 j2 hi).2 i (by omega) (by omega)
      have o := a.le.off jn b1 (by omega) (GHa.kn a jn.g j1 j2 hi (k := i) (by omega) (by omega))
      have iv := inv i (by omega)
      rw [fo_S, show (0 : Int) + (i : Int) = i by omega, ic]
      generalize fo (plS N g j p) 0 i (N 13058 (9 * g + p)) = v at iv ⊢
      have ee : hf N g j i = N 13052 (9 * (12 * g + j) + i) := rfl
      unfold b_X11_placeOf_14
      by_cases z : N 13021 (hf N g j i) = p
      · rcases b6 with b6 | b6
        · have ol := b7 b6
          rw [z] at ol
          by_cases c : v = N 13058 (9 * g + p)
          · have e : plS N g j p i v = N 13026 (hf N g j i) := if_pos ⟨⟨z, b6⟩, by omega⟩
            rw [e, if_pos c, if_neg (show ¬ N 13026 (hf N g j i) = N 13058 (9 * g + p) by omega)]
            rw [ee] at z b1 b2 o ⊢
            simp (disch := omega) only [aok, up_s, true_and, false_and, and_true, and_false, if_true, if_false, ↓reduceIte, ↓Option.bind_some, Int.reduceEq, Int.reduceNe, Int.reduceLT, Int.reduceLE, gd_true, gd_false, bind_b, q10, eq_self, reduceCtorEq, not_true_eq_false, not_false_eq_true, ne_eq, pt_0, pt_1, pt_2, pt_3, pt_4, pt_5, pt_6, pt_7, pt_8, pt_9, pt_10, pt_11, pt_12, pt_13, pt_14, pt_15, pt_16, pt_17, pt_18, pt_19, pt_20, pt_21, pt_22, pt_23, pt_24, pt_25, pt_26, pt_27, pt_28, pt_29, pt_30, pt_31, pt_32, pt_33, pt_34, pt_35, pt_36, pt_37, pt_38, pt_39, pt_40, pt_41, pt_42, pt_43, pt_44, pt_45, pt_46, pt_47, pt_48, pt_49, pt_50, pt_51, pt_52, pt_53, pt_54, pt_55, pt_56, pt_57, pt_58, pt_59, pt_60, pt_61, pt_62, pt_63, pt_64, pt_65, pt_66, pt_67, pa_13005, pw_13005, pa_13006, pw_13006, pa_13007, pw_13007, pa_14008, pw_14008, pa_13009, pw_13009, pa_13010, pw_13010, pa_13012, pw_13012, pa_13013, pw_13013, pa_13014, pw_13014, pa_13015, pw_13015, pa_13016, pw_13016, pa_13017, pw_13017, pa_13018, pw_13018, pa_13020, pw_13020, pa_13021, pw_13021, pa_13022, pw_13022, pa_13023, pw_13023, pa_13024, pw_13024, pa_13025, pw_13025, pa_13026, pw_13026, pa_13027, pw_13027, pa_13028, pw_13028, pa_13029, pw_13029, pa_13031, pw_13031, pa_13032, pw_13032, pa_13033, pw_13033, pa_14034, pw_14034, pa_13035, pw_13035, pa_13036, pw_13036, pa_13037, pw_13037, pa_13038, pw_13038, pa_13039, pw_13039, pa_13042, pw_13042, pa_13043, pw_13043, pa_13044, pw_13044, pa_13045, pw_13045, pa_13046, pw_13046, pa_13047, pw_13047, pa_13048, pw_13048, pa_13049, pw_13049, pa_13050, pw_13050, pa_13051, pw_13051, pa_13052, pw_13052, pa_13053, pw_13053, pa_13054, pw_13054, pa_13055, pw_13055, pa_13056, pw_13056, pa_13057, pw_13057, pa_13058, pw_13058, pa_13059, pw_13059, pa_13060, pw_13060, pa_13061, pw_13061, pa_13062, pw_13062, pa_13063, pw_13063, pa_13064, pw_13064, pa_13065, pw_13065, pa_13066, pw_13066, pa_13067, pw_13067, ps_0, ps_1, ps_2, ps_3, ps_4, ps_11, ps_19, ps_30, ps_40, ps_41, ln_13005, ln_13006, ln_13007, ln_14008, ln_13009, ln_13010, ln_13012, ln_13013, ln_13014, ln_13015, ln_13016, ln_13017, ln_13018, ln_13020, ln_13021, ln_13022, ln_13023, ln_13024, ln_13025, ln_13026, ln_13027, ln_13028, ln_13029, ln_13031, ln_13032, ln_13033, ln_14034, ln_13035, ln_13036, ln_13037, ln_13038, ln_13039, ln_13042, ln_13043, ln_13044, ln_13045, ln_13046, ln_13047, ln_13048, ln_13049, ln_13050, ln_13051, ln_13052, ln_13053, ln_13054, ln_13055, ln_13056, ln_13057, ln_13058, ln_13059, ln_13060, ln_13061, ln_13062, ln_13063, ln_13064, ln_13065, ln_13066, ln_13067, gd_t, w_eq, Sum.elim_inl, Sum.elim_inr, lt, z, b6]
          · have v1 : ¬ v = -1 := by omega
            by_cases c2 : N 13026 (hf N g j i) < v
            · have e : plS N g j p i v = N 13026 (hf N g j i) := if_pos ⟨⟨z, b6⟩, c2⟩
              rw [e, if_neg c, if_neg (show ¬ N 13026 (hf N g j i) = N 13058 (9 * g + p) by omega)]
              rw [ee] at z b1 b2 o c2 ⊢
              simp (disch := omega) only [aok, up_s, true_and, false_and, and_true, and_false, if_true, if_false, ↓reduceIte, ↓Option.bind_some, Int.reduceEq, Int.reduceNe, Int.reduceLT, Int.reduceLE, gd_true, gd_false, bind_b, q10, eq_self, reduceCtorEq, not_true_eq_false, not_false_eq_true, ne_eq, pt_0, pt_1, pt_2, pt_3, pt_4, pt_5, pt_6, pt_7, pt_8, pt_9, pt_10, pt_11, pt_12, pt_13, pt_14, pt_15, pt_16, pt_17, pt_18, pt_19, pt_20, pt_21, pt_22, pt_23, pt_24, pt_25, pt_26, pt_27, pt_28, pt_29, pt_30, pt_31, pt_32, pt_33, pt_34, pt_35, pt_36, pt_37, pt_38, pt_39, pt_40, pt_41, pt_42, pt_43, pt_44, pt_45, pt_46, pt_47, pt_48, pt_49, pt_50, pt_51, pt_52, pt_53, pt_54, pt_55, pt_56, pt_57, pt_58, pt_59, pt_60, pt_61, pt_62, pt_63, pt_64, pt_65, pt_66, pt_67, pa_13005, pw_13005, pa_13006, pw_13006, pa_13007, pw_13007, pa_14008, pw_14008, pa_13009, pw_13009, pa_13010, pw_13010, pa_13012, pw_13012, pa_13013, pw_13013, pa_13014, pw_13014, pa_13015, pw_13015, pa_13016, pw_13016, pa_13017, pw_13017, pa_13018, pw_13018, pa_13020, pw_13020, pa_13021, pw_13021, pa_13022, pw_13022, pa_13023, pw_13023, pa_13024, pw_13024, pa_13025, pw_13025, pa_13026, pw_13026, pa_13027, pw_13027, pa_13028, pw_13028, pa_13029, pw_13029, pa_13031, pw_13031, pa_13032, pw_13032, pa_13033, pw_13033, pa_14034, pw_14034, pa_13035, pw_13035, pa_13036, pw_13036, pa_13037, pw_13037, pa_13038, pw_13038, pa_13039, pw_13039, pa_13042, pw_13042, pa_13043, pw_13043, pa_13044, pw_13044, pa_13045, pw_13045, pa_13046, pw_13046, pa_13047, pw_13047, pa_13048, pw_13048, pa_13049, pw_13049, pa_13050, pw_13050, pa_13051, pw_13051, pa_13052, pw_13052, pa_13053, pw_13053, pa_13054, pw_13054, pa_13055, pw_13055, pa_13056, pw_13056, pa_13057, pw_13057, pa_13058, pw_13058, pa_13059, pw_13059, pa_13060, pw_13060, pa_13061, pw_13061, pa_13062, pw_13062, pa_13063, pw_13063, pa_13064, pw_13064, pa_13065, pw_13065, pa_13066, pw_13066, pa_13067, pw_13067, ps_0, ps_1, ps_2, ps_3, ps_4, ps_11, ps_19, ps_30, ps_40, ps_41, ln_13005, ln_13006, ln_13007, ln_14008, ln_13009, ln_13010, ln_13012, ln_13013, ln_13014, ln_13015, ln_13016, ln_13017, ln_13018, ln_13020, ln_13021, ln_13022, ln_13023, ln_13024, ln_13025, ln_13026, ln_13027, ln_13028, ln_13029, ln_13031, ln_13032, ln_13033, ln_14034, ln_13035, ln_13036, ln_13037, ln_13038, ln_13039, ln_13042, ln_13043, ln_13044, ln_13045, ln_13046, ln_13047, ln_13048, ln_13049, ln_13050, ln_13051, ln_13052, ln_13053, ln_13054, ln_13055, ln_13056, ln_13057, ln_13058, ln_13059, ln_13060, ln_13061, ln_13062, ln_13063, ln_13064, ln_13065, ln_13066, ln_13067, gd_t, w_eq, Sum.elim_inl, Sum.elim_inr, lt, z, b6, v1, c2]
            · have e : plS N g j p i v = v := if_neg (fun y => c2 y.2)
              rw [e, if_neg c]
              rw [ee] at z b1 b2 o c2
              simp (disch := omega) only [aok, up_s, true_and, false_and, and_true, and_false, if_true, if_false, ↓reduceIte, ↓Option.bind_some, Int.reduceEq, Int.reduceNe, Int.reduceLT, Int.reduceLE, gd_true, gd_false, bind_b, q10, eq_self, reduceCtorEq, not_true_eq_false, not_false_eq_true, ne_eq, pt_0, pt_1, pt_2, pt_3, pt_4, pt_5, pt_6, pt_7, pt_8, pt_9, pt_10, pt_11, pt_12, pt_13, pt_14, pt_15, pt_16, pt_17, pt_18, pt_19, pt_20, pt_21, pt_22, pt_23, pt_24, pt_25, pt_26, pt_27, pt_28, pt_29, pt_30, pt_31, pt_32, pt_33, pt_34, pt_35, pt_36, pt_37, pt_38, pt_39, pt_40, pt_41, pt_42, pt_43, pt_44, pt_45, pt_46, pt_47, pt_48, pt_49, pt_50, pt_51, pt_52, pt_53, pt_54, pt_55, pt_56, pt_57, pt_58, pt_59, pt_60, pt_61, pt_62, pt_63, pt_64, pt_65, pt_66, pt_67, pa_13005, pw_13005, pa_13006, pw_13006, pa_13007, pw_13007, pa_14008, pw_14008, pa_13009, pw_13009, pa_13010, pw_13010, pa_13012, pw_13012, pa_13013, pw_13013, pa_13014, pw_13014, pa_13015, pw_13015, pa_13016, pw_13016, pa_13017, pw_13017, pa_13018, pw_13018, pa_13020, pw_13020, pa_13021, pw_13021, pa_13022, pw_13022, pa_13023, pw_13023, pa_13024, pw_13024, pa_13025, pw_13025, pa_13026, pw_13026, pa_13027, pw_13027, pa_13028, pw_13028, pa_13029, pw_13029, pa_13031, pw_13031, pa_13032, pw_13032, pa_13033, pw_13033, pa_14034, pw_14034, pa_13035, pw_13035, pa_13036, pw_13036, pa_13037, pw_13037, pa_13038, pw_13038, pa_13039, pw_13039, pa_13042, pw_13042, pa_13043, pw_13043, pa_13044, pw_13044, pa_13045, pw_13045, pa_13046, pw_13046, pa_13047, pw_13047, pa_13048, pw_13048, pa_13049, pw_13049, pa_13050, pw_13050, pa_13051, pw_13051, pa_13052, pw_13052, pa_13053, pw_13053, pa_13054, pw_13054, pa_13055, pw_13055, pa_13056, pw_13056, pa_13057, pw_13057, pa_13058, pw_13058, pa_13059, pw_13059, pa_13060, pw_13060, pa_13061, pw_13061, pa_13062, pw_13062, pa_13063, pw_13063, pa_13064, pw_13064, pa_13065, pw_13065, pa_13066, pw_13066, pa_13067, pw_13067, ps_0, ps_1, ps_2, ps_3, ps_4, ps_11, ps_19, ps_30, ps_40, ps_41, ln_13005, ln_13006, ln_13007, ln_14008, ln_13009, ln_13010, ln_13012, ln_13013, ln_13014, ln_13015, ln_13016, ln_13017, ln_13018, ln_13020, ln_13021, ln_13022, ln_13023, ln_13024, ln_13025, ln_13026, ln_13027, ln_13028, ln_13029, ln_13031, ln_13032, ln_13033, ln_14034, ln_13035, ln_13036, ln_13037, ln_13038, ln_13039, ln_13042, ln_13043, ln_13044, ln_13045, ln_13046, ln_13047, ln_13048, ln_13049, ln_13050, ln_13051, ln_13052, ln_13053, ln_13054, ln_13055, ln_13056, ln_13057, ln_13058, ln_13059, ln_13060, ln_13061, ln_13062, ln_13063, ln_13064, ln_13065, ln_13066, ln_13067, gd_t, w_eq, Sum.elim_inl, Sum.elim_inr, lt, z, b6, v1, c2]
        · have e : plS N g j p i v = v := if_neg (fun y => by have := y.1.2; omega)
          rw [e]
          rw [ee] at z b1 b2
          simp (disch := omega) only [aok, up_s, true_and, false_and, and_true, and_false, if_true, if_false, ↓reduceIte, ↓Option.bind_some, Int.reduceEq, Int.reduceNe, Int.reduceLT, Int.reduceLE, gd_true, gd_false, bind_b, q10, eq_self, reduceCtorEq, not_true_eq_false, not_false_eq_true, ne_eq, pt_0, pt_1, pt_2, pt_3, pt_4, pt_5, pt_6, pt_7, pt_8, pt_9, pt_10, pt_11, pt_12, pt_13, pt_14, pt_15, pt_16, pt_17, pt_18, pt_19, pt_20, pt_21, pt_22, pt_23, pt_24, pt_25, pt_26, pt_27, pt_28, pt_29, pt_30, pt_31, pt_32, pt_33, pt_34, pt_35, pt_36, pt_37, pt_38, pt_39, pt_40, pt_41, pt_42, pt_43, pt_44, pt_45, pt_46, pt_47, pt_48, pt_49, pt_50, pt_51, pt_52, pt_53, pt_54, pt_55, pt_56, pt_57, pt_58, pt_59, pt_60, pt_61, pt_62, pt_63, pt_64, pt_65, pt_66, pt_67, pa_13005, pw_13005, pa_13006, pw_13006, pa_13007, pw_13007, pa_14008, pw_14008, pa_13009, pw_13009, pa_13010, pw_13010, pa_13012, pw_13012, pa_13013, pw_13013, pa_13014, pw_13014, pa_13015, pw_13015, pa_13016, pw_13016, pa_13017, pw_13017, pa_13018, pw_13018, pa_13020, pw_13020, pa_13021, pw_13021, pa_13022, pw_13022, pa_13023, pw_13023, pa_13024, pw_13024, pa_13025, pw_13025, pa_13026, pw_13026, pa_13027, pw_13027, pa_13028, pw_13028, pa_13029, pw_13029, pa_13031, pw_13031, pa_13032, pw_13032, pa_13033, pw_13033, pa_14034, pw_14034, pa_13035, pw_13035, pa_13036, pw_13036, pa_13037, pw_13037, pa_13038, pw_13038, pa_13039, pw_13039, pa_13042, pw_13042, pa_13043, pw_13043, pa_13044, pw_13044, pa_13045, pw_13045, pa_13046, pw_13046, pa_13047, pw_13047, pa_13048, pw_13048, pa_13049, pw_13049, pa_13050, pw_13050, pa_13051, pw_13051, pa_13052, pw_13052, pa_13053, pw_13053, pa_13054, pw_13054, pa_13055, pw_13055, pa_13056, pw_13056, pa_13057, pw_13057, pa_13058, pw_13058, pa_13059, pw_13059, pa_13060, pw_13060, pa_13061, pw_13061, pa_13062, pw_13062, pa_13063, pw_13063, pa_13064, pw_13064, pa_13065, pw_13065, pa_13066, pw_13066, pa_13067, pw_13067, ps_0, ps_1, ps_2, ps_3, ps_4, ps_11, ps_19, ps_30, ps_40, ps_41, ln_13005, ln_13006, ln_13007, ln_14008, ln_13009, ln_13010, ln_13012, ln_13013, ln_13014, ln_13015, ln_13016, ln_13017, ln_13018, ln_13020, ln_13021, ln_13022, ln_13023, ln_13024, ln_13025, ln_13026, ln_13027, ln_13028, ln_13029, ln_13031, ln_13032, ln_13033, ln_14034, ln_13035, ln_13036, ln_13037, ln_13038, ln_13039, ln_13042, ln_13043, ln_13044, ln_13045, ln_13046, ln_13047, ln_13048, ln_13049, ln_13050, ln_13051, ln_13052, ln_13053, ln_13054, ln_13055, ln_13056, ln_13057, ln_13058, ln_13059, ln_13060, ln_13061, ln_13062, ln_13063, ln_13064, ln_13065, ln_13066, ln_13067, gd_t, w_eq, Sum.elim_inl, Sum.elim_inr, lt, z, b6]
      · have e : plS N g j p i v = v := if_neg (fun y => z y.1.1)
        rw [e]
        rw [ee] at z b1 b2
        simp (disch := omega) only [aok, up_s, true_and, false_and, and_true, and_false, if_true, if_false, ↓reduceIte, ↓Option.bind_some, Int.reduceEq, Int.reduceNe, Int.reduceLT, Int.reduceLE, gd_true, gd_false, bind_b, q10, eq_self, reduceCtorEq, not_true_eq_false, not_false_eq_true, ne_eq, pt_0, pt_1, pt_2, pt_3, pt_4, pt_5, pt_6, pt_7, pt_8, pt_9, pt_10, pt_11, pt_12, pt_13, pt_14, pt_15, pt_16, pt_17, pt_18, pt_19, pt_20, pt_21, pt_22, pt_23, pt_24, pt_25, pt_26, pt_27, pt_28, pt_29, pt_30, pt_31, pt_32, pt_33, pt_34, pt_35, pt_36, pt_37, pt_38, pt_39, pt_40, pt_41, pt_42, pt_43, pt_44, pt_45, pt_46, pt_47, pt_48, pt_49, pt_50, pt_51, pt_52, pt_53, pt_54, pt_55, pt_56, pt_57, pt_58, pt_59, pt_60, pt_61, pt_62, pt_63, pt_64, pt_65, pt_66, pt_67, pa_13005, pw_13005, pa_13006, pw_13006, pa_13007, pw_13007, pa_14008, pw_14008, pa_13009, pw_13009, pa_13010, pw_13010, pa_13012, pw_13012, pa_13013, pw_13013, pa_13014, pw_13014, pa_13015, pw_13015, pa_13016, pw_13016, pa_13017, pw_13017, pa_13018, pw_13018, pa_13020, pw_13020, pa_13021, pw_13021, pa_13022, pw_13022, pa_13023, pw_13023, pa_13024, pw_13024, pa_13025, pw_13025, pa_13026, pw_13026, pa_13027, pw_13027, pa_13028, pw_13028, pa_13029, pw_13029, pa_13031, pw_13031, pa_13032, pw_13032, pa_13033, pw_13033, pa_14034, pw_14034, pa_13035, pw_13035, pa_13036, pw_13036, pa_13037, pw_13037, pa_13038, pw_13038, pa_13039, pw_13039, pa_13042, pw_13042, pa_13043, pw_13043, pa_13044, pw_13044, pa_13045, pw_13045, pa_13046, pw_13046, pa_13047, pw_13047, pa_13048, pw_13048, pa_13049, pw_13049, pa_13050, pw_13050, pa_13051, pw_13051, pa_13052, pw_13052, pa_13053, pw_13053, pa_13054, pw_13054, pa_13055, pw_13055, pa_13056, pw_13056, pa_13057, pw_13057, pa_13058, pw_13058, pa_13059, pw_13059, pa_13060, pw_13060, pa_13061, pw_13061, pa_13062, pw_13062, pa_13063, pw_13063, pa_13064, pw_13064, pa_13065, pw_13065, pa_13066, pw_13066, pa_13067, pw_13067, ps_0, ps_1, ps_2, ps_3, ps_4, ps_11, ps_19, ps_30, ps_40, ps_41, ln_13005, ln_13006, ln_13007, ln_14008, ln_13009, ln_13010, ln_13012, ln_13013, ln_13014, ln_13015, ln_13016, ln_13017, ln_13018, ln_13020, ln_13021, ln_13022, ln_13023, ln_13024, ln_13025, ln_13026, ln_13027, ln_13028, ln_13029, ln_13031, ln_13032, ln_13033, ln_14034, ln_13035, ln_13036, ln_13037, ln_13038, ln_13039, ln_13042, ln_13043, ln_13044, ln_13045, ln_13046, ln_13047, ln_13048, ln_13049, ln_13050, ln_13051, ln_13052, ln_13053, ln_13054, ln_13055, ln_13056, ln_13057, ln_13058, ln_13059, ln_13060, ln_13061, ln_13062, ln_13063, ln_13064, ln_13065, ln_13066, ln_13067, gd_t, w_eq, lt, z]
    · have ei : (((hn N g j).toNat : Nat) : Int) = N 13051 (12 * g + j) := by omega
      rw [ei]
      unfold b_X11_placeOf_14
      simp (disch := omega) only [aok, up_s, true_and, false_and, and_true, and_false, if_true, if_false, ↓reduceIte, ↓Option.bind_some, Int.reduceEq, Int.reduceNe, Int.reduceLT, Int.reduceLE, gd_true, gd_false, bind_b, q10, eq_self, reduceCtorEq, not_true_eq_false, not_false_eq_true, ne_eq, pt_0, pt_1, pt_2, pt_3, pt_4, pt_5, pt_6, pt_7, pt_8, pt_9, pt_10, pt_11, pt_12, pt_13, pt_14, pt_15, pt_16, pt_17, pt_18, pt_19, pt_20, pt_21, pt_22, pt_23, pt_24, pt_25, pt_26, pt_27, pt_28, pt_29, pt_30, pt_31, pt_32, pt_33, pt_34, pt_35, pt_36, pt_37, pt_38, pt_39, pt_40, pt_41, pt_42, pt_43, pt_44, pt_45, pt_46, pt_47, pt_48, pt_49, pt_50, pt_51, pt_52, pt_53, pt_54, pt_55, pt_56, pt_57, pt_58, pt_59, pt_60, pt_61, pt_62, pt_63, pt_64, pt_65, pt_66, pt_67, pa_13005, pw_13005, pa_13006, pw_13006, pa_13007, pw_13007, pa_14008, pw_14008, pa_13009, pw_13009, pa_13010, pw_13010, pa_13012, pw_13012, pa_13013, pw_13013, pa_13014, pw_13014, pa_13015, pw_13015, pa_13016, pw_13016, pa_13017, pw_13017, pa_13018, pw_13018, pa_13020, pw_13020, pa_13021, pw_13021, pa_13022, pw_13022, pa_13023, pw_13023, pa_13024, pw_13024, pa_13025, pw_13025, pa_13026, pw_13026, pa_13027, pw_13027, pa_13028, pw_13028, pa_13029, pw_13029, pa_13031, pw_13031, pa_13032, pw_13032, pa_13033, pw_13033, pa_14034, pw_14034, pa_13035, pw_13035, pa_13036, pw_13036, pa_13037, pw_13037, pa_13038, pw_13038, pa_13039, pw_13039, pa_13042, pw_13042, pa_13043, pw_13043, pa_13044, pw_13044, pa_13045, pw_13045, pa_13046, pw_13046, pa_13047, pw_13047, pa_13048, pw_13048, pa_13049, pw_13049, pa_13050, pw_13050, pa_13051, pw_13051, pa_13052, pw_13052, pa_13053, pw_13053, pa_13054, pw_13054, pa_13055, pw_13055, pa_13056, pw_13056, pa_13057, pw_13057, pa_13058, pw_13058, pa_13059, pw_13059, pa_13060, pw_13060, pa_13061, pw_13061, pa_13062, pw_13062, pa_13063, pw_13063, pa_13064, pw_13064, pa_13065, pw_13065, pa_13066, pw_13066, pa_13067, pw_13067, ps_0, ps_1, ps_2, ps_3, ps_4, ps_11, ps_19, ps_30, ps_40, ps_41, ln_13005, ln_13006, ln_13007, ln_14008, ln_13009, ln_13010, ln_13012, ln_13013, ln_13014, ln_13015, ln_13016, ln_13017, ln_13018, ln_13020, ln_13021, ln_13022, ln_13023, ln_13024, ln_13025, ln_13026, ln_13027, ln_13028, ln_13029, ln_13031, ln_13032, ln_13033, ln_14034, ln_13035, ln_13036, ln_13037, ln_13038, ln_13039, ln_13042, ln_13043, ln_13044, ln_13045, ln_13046, ln_13047, ln_13048, ln_13049, ln_13050, ln_13051, ln_13052, ln_13053, ln_13054, ln_13055, ln_13056, ln_13057, ln_13058, ln_13059, ln_13060, ln_13061, ln_13062, ln_13063, ln_13064, ln_13065, ln_13066, ln_13067, gd_t, w_eq, Int.lt_irrefl]
      rfl
    · show _ = ((if N 13058 (9 * g + p) = N 13058 (9 * g + p) then -1 else _), ((0 : Nat) : Int))
      rw [if_pos rfl]
      rfl
  have pb := (plv_b jn a g1 j1 j2 hi p1 p2).1
  unfold p_X11_placeOf
  simp (disch := omega) only [aok, up_s, true_and, false_and, and_true, and_false, if_true, if_false, ↓reduceIte, ↓Option.bind_some, Int.reduceEq, Int.reduceNe, Int.reduceLT, Int.reduceLE, gd_true, gd_false, bind_b, q10, eq_self, reduceCtorEq, not_true_eq_false, not_false_eq_true, ne_eq, pt_0, pt_1, pt_2, pt_3, pt_4, pt_5, pt_6, pt_7, pt_8, pt_9, pt_10, pt_11, pt_12, pt_13, pt_14, pt_15, pt_16, pt_17, pt_18, pt_19, pt_20, pt_21, pt_22, pt_23, pt_24, pt_25, pt_26, pt_27, pt_28, pt_29, pt_30, pt_31, pt_32, pt_33, pt_34, pt_35, pt_36, pt_37, pt_38, pt_39, pt_40, pt_41, pt_42, pt_43, pt_44, pt_45, pt_46, pt_47, pt_48, pt_49, pt_50, pt_51, pt_52, pt_53, pt_54, pt_55, pt_56, pt_57, pt_58, pt_59, pt_60, pt_61, pt_62, pt_63, pt_64, pt_65, pt_66, pt_67, pa_13005, pw_13005, pa_13006, pw_13006, pa_13007, pw_13007, pa_14008, pw_14008, pa_13009, pw_13009, pa_13010, pw_13010, pa_13012, pw_13012, pa_13013, pw_13013, pa_13014, pw_13014, pa_13015, pw_13015, pa_13016, pw_13016, pa_13017, pw_13017, pa_13018, pw_13018, pa_13020, pw_13020, pa_13021, pw_13021, pa_13022, pw_13022, pa_13023, pw_13023, pa_13024, pw_13024, pa_13025, pw_13025, pa_13026, pw_13026, pa_13027, pw_13027, pa_13028, pw_13028, pa_13029, pw_13029, pa_13031, pw_13031, pa_13032, pw_13032, pa_13033, pw_13033, pa_14034, pw_14034, pa_13035, pw_13035, pa_13036, pw_13036, pa_13037, pw_13037, pa_13038, pw_13038, pa_13039, pw_13039, pa_13042, pw_13042, pa_13043, pw_13043, pa_13044, pw_13044, pa_13045, pw_13045, pa_13046, pw_13046, pa_13047, pw_13047, pa_13048, pw_13048, pa_13049, pw_13049, pa_13050, pw_13050, pa_13051, pw_13051, pa_13052, pw_13052, pa_13053, pw_13053, pa_13054, pw_13054, pa_13055, pw_13055, pa_13056, pw_13056, pa_13057, pw_13057, pa_13058, pw_13058, pa_13059, pw_13059, pa_13060, pw_13060, pa_13061, pw_13061, pa_13062, pw_13062, pa_13063, pw_13063, pa_13064, pw_13064, pa_13065, pw_13065, pa_13066, pw_13066, pa_13067, pw_13067, ps_0, ps_1, ps_2, ps_3, ps_4, ps_11, ps_19, ps_30, ps_40, ps_41, ln_13005, ln_13006, ln_13007, ln_14008, ln_13009, ln_13010, ln_13012, ln_13013, ln_13014, ln_13015, ln_13016, ln_13017, ln_13018, ln_13020, ln_13021, ln_13022, ln_13023, ln_13024, ln_13025, ln_13026, ln_13027, ln_13028, ln_13029, ln_13031, ln_13032, ln_13033, ln_14034, ln_13035, ln_13036, ln_13037, ln_13038, ln_13039, ln_13042, ln_13043, ln_13044, ln_13045, ln_13046, ln_13047, ln_13048, ln_13049, ln_13050, ln_13051, ln_13052, ln_13053, ln_13054, ln_13055, ln_13056, ln_13057, ln_13058, ln_13059, ln_13060, ln_13061, ln_13062, ln_13063, ln_13064, ln_13065, ln_13066, ln_13067, gd_t, w_eq, hlp]
  by_cases c : plv N g j p = N 13058 (9 * g + p)
  · rw [if_pos c, if_pos rfl, c]
  · rw [if_neg c, if_neg (by omega)]
end PLACE
/-- places are committed, of the partitions below i -/
def coI (N : Nd) (g j i : Int) : Nd := fun b q => if b = 13057 ∧ 9 * g ≤ q ∧ q < 9 * g + i ∧ own N g j (q - 9 * g) then plv N g j (q - 9 * g) else N b q
def coC (C : Cd) (N : Nd) (g j i : Int) : Cd := fun b x z => if b = 9000 ∧ z = 3 ∧ 9 * g ≤ x ∧ x < 9 * g + i ∧ own N g j (x - 9 * g) then plv N g j (x - 9 * g) else C b x z
section COM
variable {C : Cd} {N N0 : Nd} {A : Ad} {g j i : Int}
theorem co_ar {b : Int} (h : b ≠ 13057) : coI N g j i b = N b := by
  funext q
  unfold coI
  rw [if_neg (fun z => h z.1)]
theorem co_c {p : Int} (p1 : 0 ≤ p) : coI N g j i 13057 (9 * g + p) = if p < i ∧ own N g j p then plv N g j p else N 13057 (9 * g + p) := by
  unfold coI
  have e : 9 * g + p - 9 * g = p := by omega
  rw [e]
  by_cases c : p < i ∧ own N g j p
  · rw [if_pos c, if_pos ⟨rfl, by omega, by omega, c.2⟩]
  · rw [if_neg c, if_neg (fun z => c ⟨by omega, z.2.2.2⟩)]
theorem cc_c {p : Int} (p1 : 0 ≤ p) : coC C N g j i 9000 (9 * g + p) 3 = if p < i ∧ own N g j p then plv N g j p else C 9000 (9 * g + p) 3 := by
  unfold coC
  have e : 9 * g + p - 9 * g = p := by omega
  rw [e]
  by_cases c : p < i ∧ own N g j p
  · rw [if_pos c, if_pos ⟨rfl, rfl, by omega, by omega, c.2⟩]
  · rw [if_neg c, if_neg (fun z => c ⟨by omega, z.2.2.2.2⟩)]
theorem cc_ar {b x z : Int} (h : ¬ (b = 9000 ∧ z = 3)) : coC C N g j i b x z = C b x z := by
  unfold coC
  rw [if_neg (fun q => h ⟨q.1, q.2.1⟩)]
theorem co_0 : coI N g j 0 = N := by
  funext b q
  unfold coI
  rw [if_neg (by omega)]
theorem cc_0 : coC C N g j 0 = C := by
  funext b x z
  unfold coC
  rw [if_neg (by omega)]
theorem co_y (h : own N g j i) : up (coI N g j i) 13057 (9 * g + i) (plv N g j i) = coI N g j (i + 1) := by
  funext b q
  rw [up_s]
  unfold coI
  by_cases e : b = 13057 ∧ q = 9 * g + i
  · rw [if_pos e, if_pos ⟨e.1, by have := h.1.1; omega, by omega, by rw [e.2, show 9 * g + i - 9 * g = i by omega]; exact h⟩, e.2, show 9 * g + i - 9 * g = i by omega]
  · rw [if_neg e]
    by_cases c : b = 13057 ∧ 9 * g ≤ q ∧ q < 9 * g + i ∧ own N g j (q - 9 * g)
    · rw [if_pos c, if_pos ⟨c.1, c.2.1, by omega, c.2.2.2⟩]
    · rw [if_neg c, if_neg (fun z => c ⟨z.1, z.2.1, by omega, z.2.2.2⟩)]
theorem co_n (h : ¬ own N g j i) : coI N g j i = coI N g j (i + 1) := by
  funext b q
  unfold coI
  by_cases c : b = 13057 ∧ 9 * g ≤ q ∧ q < 9 * g + i ∧ own N g j (q - 9 * g)
  · rw [if_pos c, if_pos ⟨c.1, c.2.1, by omega, c.2.2.2⟩]
  · rw [if_neg c, if_neg]
    rintro ⟨z1, z2, z3, z4⟩
    by_cases e : q = 9 * g + i
    · rw [e, show 9 * g + i - 9 * g = i by omega] at z4
      exact h z4
    · exact c ⟨z1, z2, by omega, z4⟩
theorem cc_y (h : own N g j i) : uq (coC C N g j i) 9000 (9 * g + i) 3 (plv N g j i) = coC C N g j (i + 1) := by
  funext b x z
  rw [uq_s]
  unfold coC
  by_cases e : b = 9000 ∧ x = 9 * g + i ∧ z = 3
  · rw [if_pos e, if_pos ⟨e.1, e.2.2, by have := h.1.1; omega, by omega, by rw [e.2.1, show 9 * g + i - 9 * g = i by omega]; exact h⟩, e.2.1, show 9 * g + i - 9 * g = i by omega]
  · rw [if_neg e]
    by_cases c : b = 9000 ∧ z = 3 ∧ 9 * g ≤ x ∧ x < 9 * g + i ∧ own N g j (x - 9 * g)
    · rw [if_pos c, if_pos ⟨c.1, c.2.1, c.2.2.1, by omega, c.2.2.2.2⟩]
    · rw [if_neg c, if_neg (fun y => c ⟨y.1, y.2.1, y.2.2.1, by omega, y.2.2.2.2⟩)]
theorem cc_n (h : ¬ own N g j i) : coC C N g j i = coC C N g j (i + 1) := by
  funext b x z
  unfold coC
  by_cases c : b = 9000 ∧ z = 3 ∧ 9 * g ≤ x ∧ x < 9 * g + i ∧ own N g j (x - 9 * g)
  · rw [if_pos c, if_pos ⟨c.1, c.2.1, c.2.2.1, by omega, c.2.2.2.2⟩]
  · rw [if_neg c, if_neg]
    rintro ⟨z1, z0, z2, z3, z4⟩
    by_cases e : x = 9 * g + i
    · rw [e, show 9 * g + i - 9 * g = i by omega] at z4
      exact h z4
    · exact c ⟨z1, z0, z2, by omega, z4⟩
theorem GA.co (jn : JN N) (a : GA C N g) (g1 : 0 ≤ g) (j1 : 0 ≤ j) (j2 : j < 12) (hi : N 13047 (12 * g + j) = 1) : GA (coC C N g j i) (coI N g j i) g := by
  have e : ∀ b x z, ¬ (b = 9000 ∧ z = 3) → coC C N g j i b x z = C b x z := fun b x z h => cc_ar h
  refine ⟨a.o, fun p p1 p2 => ?_, a.me, a.ha, a.le, a.wa, a.de, a.nm, fun p p1 p2 => ?_, a.nu⟩
  · obtain ⟨x1, x2⟩ := a.sh p p1 p2
    refine ⟨x1, fun r => ?_⟩
    obtain ⟨y0, y1, y2, y3, y4⟩ := x2 r
    refine ⟨y0, y1, y2, ?_, y4⟩
    rw [cc_c p1, co_c p1, y3]
  · obtain ⟨x1, x2, x3⟩ := a.np p p1 p2
    refine ⟨x1, ?_, x3⟩
    rw [co_c p1]
    split
    · have := (plv_b jn a g1 j1 j2 hi p1 p2).1
      have x3' : 0 ≤ N 13058 (9 * g + p) ∧ N 13058 (9 * g + p) ≤ 60 := x3
      omega
    · exact x2
theorem GIn.co (jn : JN N) (a : GR C N g) (g1 : 0 ≤ g) (j1 : 0 ≤ j) (j2 : j < 12) (hi : N 13047 (12 * g + j) = 1) : GIn (coC C N g j i) (coI N g j i) g := by
  have s2 := jn.g.s.2.1
  have s5 := jn.g.s.2.2.2.2.1
  obtain ⟨x1, x2, x3, x4, x5, x6⟩ := a.2
  refine ⟨x1, fun v v1 v2 hc hg h1 h2 => ?_, x3, x4, fun p hg => ?_, x6⟩
  · have hc' : canR N v := hc
    have hg' : gR N g (N 13021 v) := hg
    have h1' : So C g (N 13021 v) ≤ N 13026 v := h1
    have h2' : N 13026 v < coI N g j i 13057 (9 * g + N 13021 v) ∨ (N 13055 (9 * g + N 13021 v) ≠ -1 ∧ N 13026 v < N 13058 (9 * g + N 13021 v)) := h2
    have := hg'.1; have := hg'.2.1
    show Pd C N g v
    refine x2 v v1 v2 hc' hg' h1' ?_
    rcases h2' with h2' | h2'
    · rw [co_c (by omega)] at h2'
      split at h2'
      · rename_i c
        have pb := (plv_b jn a.1 g1 j1 j2 hi (p := N 13021 v) (by omega) (by omega)).1
        exact Or.inr ⟨by have := c.2.2; omega, by omega⟩
      · exact Or.inl h2'
    · exact Or.inr h2'
  · have hg' : gR N g p := hg
    have p1 := hg'.1; have p2 := hg'.2.1
    obtain ⟨y1, y2⟩ := x5 p hg'
    refine ⟨?_, y2⟩
    show So C g p = 0 ∧ So C g p ≤ coI N g j i 13057 (9 * g + p) ∧ (coI N g j i 13057 (9 * g + p) ≤ So C g p ∨ coI N g j i 13057 (9 * g + p) ≤ so N p)
    rw [co_c p1]
    split
    · rename_i c
      obtain ⟨pb, pc⟩ := plv_b jn a.1 g1 j1 j2 hi (p := p) p1 (by omega)
      have y2' := y2 (show N 13055 (9 * g + p) ≠ -1 by have := c.2.2; omega)
      have y2a : So C g p ≤ N 13058 (9 * g + p) := y2'.1
      have y2b : N 13058 (9 * g + p) ≤ So C g p ∨ N 13058 (9 * g + p) ≤ so N p := y2'.2
      refine ⟨y1.1, ?_, by omega⟩
      rcases pc with pc | ⟨k, k1, k2, k3, k4⟩
      · omega
      · obtain ⟨⟨b1, b2, b3, -⟩, -⟩ := (a.1.ha j j1 j2 hi).2 k k1 k2
        have q := x6 _ b1 (by omega)
        have := q.2.2.2 (Or.inl (q.1 (Or.inl b3)))
        rw [k3] at this
        omega
    · exact y1
theorem KG.co (g1 : 0 ≤ g) (hi9 : i ≤ 9) : KG g C (coC C N g j i) := fun b x z h => by
  unfold coC
  unfold inG at h
  rw [if_neg (by omega)]
theorem MG.co (g1 : 0 ≤ g) (hi9 : i ≤ 9) : MG g N (coI N g j i) := fun b x h => by
  unfold coI
  unfold inN at h
  rw [if_neg (by omega)]
theorem JJ.co {n n' : Int} (jj : JJ n C N A) (g1 : 0 ≤ g) (g2 : g < (N 12000 41)) (j1 : 0 ≤ j) (j2 : j < 12) (hi : N 13047 (12 * g + j) = 1) (hn' : n ≤ n') (i9 : i ≤ 9) : JJ n' (coC C N g j i) (coI N g j i) A :=
  jj.grp g1 g2 (KG.co g1 i9) (MG.co g1 i9) ⟨(jj.gr g1 g2).1.co jj.jn g1 j1 j2 hi, GIn.co jj.jn (jj.gr g1 g2) g1 j1 j2 hi⟩ ⟨Int.le_refl _, fun _ p _ => ⟨rfl, Or.inl rfl, fun _ => ⟨rfl, fun _ _ _ _ _ h => h⟩⟩⟩ (jj.ne.grp (MG.co (i := i) g1 i9) rfl rfl rfl) rfl hn' (by
    have := jj.b.2.2.2 g g1 g2
    show C 1000 g 9 ≤ n'
    omega) (jj.fs0 g1 g2 hn' (fun _ _ _ => rfl) rfl)
/-- of how many the committed offset is another one -/
def coK (N : Nd) (g j : Int) (i : Nat) : Int := su (fun p => if own N g j p ∧ N 13057 (9 * g + p) ≠ plv N g j p then 1 else 0) 0 i
theorem coK_b {i : Nat} : 0 ≤ coK N g j i ∧ coK N g j i ≤ i := by
  have := @su_b (fun p => if own N g j p ∧ N 13057 (9 * g + p) ≠ plv N g j p then 1 else 0) 0 i 1 (fun _ _ _ => ite_b)
  unfold coK
  omega
theorem coK_S {i : Nat} : coK N g j (i + 1) = coK N g j i + if own N g j i ∧ N 13057 (9 * g + i) ≠ plv N g j i then 1 else 0 := by
  unfold coK
  rw [su_S, show (0 : Int) + (i : Int) = i by omega]
theorem c_commitAll (jn : JN N) (c : CC C N) (a : GA C N g) (g1 : 0 ≤ g) (g2 : g < 3) (j1 : 0 ≤ j) (j2 : j < 12) (hi : N 13047 (12 * g + j) = 1) : p_X0_commitAll (mk C N0 A) (1000 + g) (4000 + (12 * g + j)) = some (coK N g j 9, mk (coC C N g j 9) N0 A) := by
  have o := a.o.1
  have hlp : lp (b_X0_commitAll_14 9 (24000 + g) (4000 + (12 * g + j))) 1000 (0, 0, mk C N0 A) = some (coK N g j 9, mk (coC C N g j 9) N0 A) := by
    refine lp_seq (fun i : Nat => (coK N g j i, (i : Int), mk (coC C N g j i) N0 A)) 9 (fun i hi2 => ?_) ?_ (by omega) ?_
    · have i9 : (i : Int) < 9 := by omega
      have ic : ((i + 1 : Nat) : Int) = (i : Int) + 1 := by omega
      have kb := @coK_b N g j i
      obtain ⟨sh, sc⟩ := a.sh i (by omega) i9
      have sh' : coC C N g j i 24000 g i = if gR N g i then 9000 + (9 * g + (i : Int)) else 0 := (cc_ar (by omega)).trans sh
      have oe := obj_eq (g := g) (j := j) (a.np.o (p := i) (by omega) i9) g1 j1
      have ks := @coK_S N g j i
      rw [ic]
      unfold b_X0_commitAll_14
      by_cases r : gR N g i
      · have s1 : coC C N g j i 9000 (9 * g + i) 1 = obj g (N 13055 (9 * g + i)) := (cc_ar (by omega)).trans (sc r).2.1
        have s3 : coC C N g j i 9000 (9 * g + i) 3 = N 13057 (9 * g + i) := by
          rw [cc_c (by omega), if_neg (by omega)]
          exact (sc r).2.2.2.1
        rw [if_pos r] at sh'
        by_cases e : N 13055 (9 * g + i) = j
        · have ow : own N g j i := ⟨r, e⟩
          have oe2 := oe.mpr e
          have pl := c_placeIn (N0 := N0) (A := A) (C := coC C N g j i) (N := coI N g j i) (p := i) jn.g (c.mg (KG.co g1 (by omega)) (MG.co (g := g) (j := j) (i := i) g1 (by omega))) (GA.co jn a g1 j1 j2 hi) g1 g2 j1 j2 hi r
          have pl' : p_X3_placeIn (mk (coC C N g j i) N0 A) (4000 + (12 * g + j)) (9000 + (9 * g + (i : Int))) = some (plv N g j i) := pl
          by_cases e2 : plv N g j i = N 13057 (9 * g + i)
          · rw [if_neg (fun z => z.2 e2.symm), Int.add_zero] at ks
            rw [ks, ← cc_y ow]
            have us : uq (coC C N g j i) 9000 (9 * g + i) 3 (plv N g j i) = coC C N g j i := by
              funext b x z
              rw [uq_s]
              split
              · rename_i q
                rw [q.1, q.2.1, q.2.2, s3, e2]
              · rfl
            rw [us]
            simp (disch := omega) only [aok, up_s, true_and, false_and, and_true, and_false, if_true, if_false, ↓reduceIte, ↓Option.bind_some, Int.reduceEq, Int.reduceNe, Int.reduceLT, Int.reduceLE, gd_true, gd_false, bind_b, q10, eq_self, reduceCtorEq, not_true_eq_false, not_false_eq_true, ne_eq, cr_11000, cr_15000, cr_16000, cr_20000, cr_20001, cr_21000, cr_22000, cr_25000, cr_1000, cr_2000, cr_3000, cr_3003, cr_3006, cr_4000, cr_5000, cr_6000, cr_7000, cr_8000, cr_9000, cr_10000, cr_13500, cr_17000, cr_17100, cr_17103, cr_17106, cr_19000, cr_20100, cr_21100, cr_23000, cr_24000, cw_11000, cw_15000, cw_16000, cw_20000, cw_20001, cw_21000, cw_22000, cw_25000, cw_1000, cw_2000, cw_3000, cw_3003, cw_3006, cw_4000, cw_5000, cw_6000, cw_7000, cw_8000, cw_9000, cw_10000, cw_13500, cw_17000, cw_17100, cw_17103, cw_17106, cw_19000, cw_20100, cw_21100, cw_23000, cw_24000, lc_13500, lc_15000, lc_16000, lc_17000, lc_17100, lc_17103, lc_17106, lc_19000, lc_20000, lc_20001, lc_20100, lc_21000, lc_21100, lc_22000, lc_23000, lc_24000, lc_25000, gd_t, w_eq, i9, sh', s1, oe2, pl', s3, e2, if_neg]
          · rw [if_pos ⟨ow, fun z => e2 z.symm⟩] at ks
            rw [ks, ← cc_y ow]
            simp (disch := omega) only [aok, up_s, true_and, false_and, and_true, and_false, if_true, if_false, ↓reduceIte, ↓Option.bind_some, Int.reduceEq, Int.reduceNe, Int.reduceLT, Int.reduceLE, gd_true, gd_false, bind_b, q10, eq_self, reduceCtorEq, not_true_eq_false, not_false_eq_true, ne_eq, cr_11000, cr_15000, cr_16000, cr_20000, cr_20001, cr_21000, cr_22000, cr_25000, cr_1000, cr_2000, cr_3000, cr_3003, cr_3006, cr_4000, cr_5000, cr_6000, cr_7000, cr_8000, cr_9000, cr_10000, cr_13500, cr_17000, cr_17100, cr_17103, cr_17106, cr_19000, cr_20100, cr_21100, cr_23000, cr_24000, cw_11000, cw_15000, cw_16000, cw_20000, cw_20001, cw_21000, cw_22000, cw_25000, cw_1000, cw_2000, cw_3000, cw_3003, cw_3006, cw_4000, cw_5000, cw_6000, cw_7000, cw_8000, cw_9000, cw_10000, cw_13500, cw_17000, cw_17100, cw_17103, cw_17106, cw_19000, cw_20100, cw_21100, cw_23000, cw_24000, lc_13500, lc_15000, lc_16000, lc_17000, lc_17100, lc_17103, lc_17106, lc_19000, lc_20000, lc_20001, lc_20100, lc_21000, lc_21100, lc_22000, lc_23000, lc_24000, lc_25000, gd_t, w_eq, i9, sh', s1, oe2, pl', s3, e2, if_neg]
        · have oe2 : ¬ obj g (N 13055 (9 * g + i)) = 4000 + (12 * g + j) := fun z => e (oe.mp z)
          have ow : ¬ own N g j i := fun z => e z.2
          rw [if_neg (fun z => ow z.1), Int.add_zero] at ks
          rw [ks, ← cc_n ow]
          simp (disch := omega) only [aok, up_s, true_and, false_and, and_true, and_false, if_true, if_false, ↓reduceIte, ↓Option.bind_some, Int.reduceEq, Int.reduceNe, Int.reduceLT, Int.reduceLE, gd_true, gd_false, bind_b, q10, eq_self, reduceCtorEq, not_true_eq_false, not_false_eq_true, ne_eq, cr_11000, cr_15000, cr_16000, cr_20000, cr_20001, cr_21000, cr_22000, cr_25000, cr_1000, cr_2000, cr_3000, cr_3003, cr_3006, cr_4000, cr_5000, cr_6000, cr_7000, cr_8000, cr_9000, cr_10000, cr_13500, cr_17000, cr_17100, cr_17103, cr_17106, cr_19000, cr_20100, cr_21100, cr_23000, cr_24000, cw_11000, cw_15000, cw_16000, cw_20000, cw_20001, cw_21000, cw_22000, cw_25000, cw_1000, cw_2000, cw_3000, cw_3003, cw_3006, cw_4000, cw_5000, cw_6000, cw_7000, cw_8000, cw_9000, cw_10000, cw_13500, cw_17000, cw_17100, cw_17103, cw_17106, cw_19000, cw_20100, cw_21100, cw_23000, cw_24000, lc_13500, lc_15000, lc_16000, lc_17000, lc_17100, lc_17103, lc_17106, lc_19000, lc_20000, lc_20001, lc_20100, lc_21000, lc_21100, lc_22000, lc_23000, lc_24000, lc_25000, gd_t, w_eq, i9, sh', s1, oe2, if_neg]
      · rw [if_neg r] at sh'
        have ow : ¬ own N g j i := fun z => r z.1
        rw [if_neg (fun z => ow z.1), Int.add_zero] at ks
        rw [ks, ← cc_n ow]
        simp (disch := omega) only [aok, up_s, true_and, false_and, and_true, and_false, if_true, if_false, ↓reduceIte, ↓Option.bind_some, Int.reduceEq, Int.reduceNe, Int.reduceLT, Int.reduceLE, gd_true, gd_false, bind_b, q10, eq_self, reduceCtorEq, not_true_eq_false, not_false_eq_true, ne_eq, cr_11000, cr_15000, cr_16000, cr_20000, cr_20001, cr_21000, cr_22000, cr_25000, cr_1000, cr_2000, cr_3000, cr_3003, cr_3006, cr_4000, cr_5000, cr_6000, cr_7000, cr_8000, cr_9000, cr_10000, cr_13500, cr_17000, cr_17100, cr_17103, cr_17106, cr_19000, cr_20100, cr_21100, cr_23000, cr_24000, cw_11000, cw_15000, cw_16000, cw_20000, cw_20001, cw_21000, cw_22000, cw_25000, cw_1000, cw_2000, cw_3000, cw_3003, cw_3006, cw_4000, cw_5000, cw_6000, cw_7000, cw_8000, cw_9000, cw_10000, cw_13500, cw_17000, cw_17100, cw_17103, cw_17106, cw_19000, cw_20100, cw_21100, cw_23000, cw_24000, lc_13500, lc_15000, lc_16000, lc_17000, lc_17100, lc_17103, lc_17106, lc_19000, lc_20000, lc_20001, lc_20100, lc_21000, lc_21100, lc_22000, lc_23000, lc_24000, lc_25000, gd_t, w_eq, i9, sh', if_neg]
    · unfold b_X0_commitAll_14
      rw [if_neg (show ¬ ((9 : Nat) : Int) < 9 by decide)]
      rfl
    · show _ = (coK N g j 0, ((0 : Nat) : Int), mk (coC C N g j ((0 : Nat) : Int)) N0 A)
      rw [show ((0 : Nat) : Int) = 0 from rfl, cc_0]
      rfl
  unfold p_X0_commitAll
  simp (disch := omega) only [aok, up_s, true_and, false_and, and_true, and_false, if_true, if_false, ↓reduceIte, ↓Option.bind_some, Int.reduceEq, Int.reduceNe, Int.reduceLT, Int.reduceLE, gd_true, gd_false, bind_b, q10, eq_self, reduceCtorEq, not_true_eq_false, not_false_eq_true, ne_eq, cr_11000, cr_15000, cr_16000, cr_20000, cr_20001, cr_21000, cr_22000, cr_25000, cr_1000, cr_2000, cr_3000, cr_3003, cr_3006, cr_4000, cr_5000, cr_6000, cr_7000, cr_8000, cr_9000, cr_10000, cr_13500, cr_17000, cr_17100, cr_17103, cr_17106, cr_19000, cr_20100, cr_21100, cr_23000, cr_24000, cw_11000, cw_15000, cw_16000, cw_20000, cw_20001, cw_21000, cw_22000, cw_25000, cw_1000, cw_2000, cw_3000, cw_3003, cw_3006, cw_4000, cw_5000, cw_6000, cw_7000, cw_8000, cw_9000, cw_10000, cw_13500, cw_17000, cw_17100, cw_17103, cw_17106, cw_19000, cw_20100, cw_21100, cw_23000, cw_24000, lc_13500, lc_15000, lc_16000, lc_17000, lc_17100, lc_17103, lc_17106, lc_19000, lc_20000, lc_20001, lc_20100, lc_21000, lc_21100, lc_22000, lc_23000, lc_24000, lc_25000, gd_t, w_eq, o, hlp]
theorem m_coLoop (jn : JN N) (a : GA C N g) (g1 : 0 ≤ g) (g2 : g < 3) (j1 : 0 ≤ j) (j2 : j < 12) (hi : N 13047 (12 * g + j) = 1) (C' : Cd) (A' : Ad) : lp (b_X11_commitOffsets_25 12000 g j) 1000 (0, 0, mk C' N A') = some (coK N g j 9, mk C' (coI N g j 9) A') := by
  refine lp_seq (fun i : Nat => (coK N g j i, (i : Int), mk C' (coI N g j i) A')) 9 (fun i hi2 => ?_) ?_ (by omega) ?_
  · have i9 : (i : Int) < 9 := by omega
    have ic : ((i + 1 : Nat) : Int) = (i : Int) + 1 := by omega
    have kb := @coK_b N g j i
    have ho : p_X11_owns (mk C' (coI N g j i) A') 12000 g j i = some (if own N g j i then 1 else 0) := @m_owns C' (coI N g j i) A' g i j jn.g g1 g2
    have pl : p_X11_placeOf (mk C' (coI N g j i) A') 12000 g j i = some (plv N g j i) := @m_placeOf (coC C N g j i) (coI N g j i) g j i jn (GA.co jn a g1 j1 j2 hi) g1 g2 j1 j2 hi (by omega) i9 C' A'
    have s3 : coI N g j i 13057 (9 * g + i) = N 13057 (9 * g + i) := by rw [co_c (by omega), if_neg (by omega)]
    have ks := @coK_S N g j i
    rw [ic]
    unfold b_X11_commitOffsets_25
    by_cases ow : own N g j i
    · rw [if_pos ow] at ho
      rw [← co_y ow]
      by_cases e2 : N 13057 (9 * g + i) = plv N g j i
      · rw [if_neg (fun z => z.2 e2), Int.add_zero] at ks
        rw [ks]
        simp (disch := omega) only [aok, up_s, true_and, false_and, and_true, and_false, if_true, if_false, ↓reduceIte, ↓Option.bind_some, Int.reduceEq, Int.reduceNe, Int.reduceLT, Int.reduceLE, gd_true, gd_false, bind_b, q10, eq_self, reduceCtorEq, not_true_eq_false, not_false_eq_true, ne_eq, pt_0, pt_1, pt_2, pt_3, pt_4, pt_5, pt_6, pt_7, pt_8, pt_9, pt_10, pt_11, pt_12, pt_13, pt_14, pt_15, pt_16, pt_17, pt_18, pt_19, pt_20, pt_21, pt_22, pt_23, pt_24, pt_25, pt_26, pt_27, pt_28, pt_29, pt_30, pt_31, pt_32, pt_33, pt_34, pt_35, pt_36, pt_37, pt_38, pt_39, pt_40, pt_41, pt_42, pt_43, pt_44, pt_45, pt_46, pt_47, pt_48, pt_49, pt_50, pt_51, pt_52, pt_53, pt_54, pt_55, pt_56, pt_57, pt_58, pt_59, pt_60, pt_61, pt_62, pt_63, pt_64, pt_65, pt_66, pt_67, pa_13005, pw_13005, pa_13006, pw_13006, pa_13007, pw_13007, pa_14008, pw_14008, pa_13009, pw_13009, pa_13010, pw_13010, pa_13012, pw_13012, pa_13013, pw_13013, pa_13014, pw_13014, pa_13015, pw_13015, pa_13016, pw_13016, pa_13017, pw_13017, pa_13018, pw_13018, pa_13020, pw_13020, pa_13021, pw_13021, pa_13022, pw_13022, pa_13023, pw_13023, pa_13024, pw_13024, pa_13025, pw_13025, pa_13026, pw_13026, pa_13027, pw_13027, pa_13028, pw_13028, pa_13029, pw_13029, pa_13031, pw_13031, pa_13032, pw_13032, pa_13033, pw_13033, pa_14034, pw_14034, pa_13035, pw_13035, pa_13036, pw_13036, pa_13037, pw_13037, pa_13038, pw_13038, pa_13039, pw_13039, pa_13042, pw_13042, pa_13043, pw_13043, pa_13044, pw_13044, pa_13045, pw_13045, pa_13046, pw_13046, pa_13047, pw_13047, pa_13048, pw_13048, pa_13049, pw_13049, pa_13050, pw_13050, pa_13051, pw_13051, pa_13052, pw_13052, pa_13053, pw_13053, pa_13054, pw_13054, pa_13055, pw_13055, pa_13056, pw_13056, pa_13057, pw_13057, pa_13058, pw_13058, pa_13059, pw_13059, pa_13060, pw_13060, pa_13061, pw_13061, pa_13062, pw_13062, pa_13063, pw_13063, pa_13064, pw_13064, pa_13065, pw_13065, pa_13066, pw_13066, pa_13067, pw_13067, ps_0, ps_1, ps_2, ps_3, ps_4, ps_11, ps_19, ps_30, ps_40, ps_41, ln_13005, ln_13006, ln_13007, ln_14008, ln_13009, ln_13010, ln_13012, ln_13013, ln_13014, ln_13015, ln_13016, ln_13017, ln_13018, ln_13020, ln_13021, ln_13022, ln_13023, ln_13024, ln_13025, ln_13026, ln_13027, ln_13028, ln_13029, ln_13031, ln_13032, ln_13033, ln_14034, ln_13035, ln_13036, ln_13037, ln_13038, ln_13039, ln_13042, ln_13043, ln_13044, ln_13045, ln_13046, ln_13047, ln_13048, ln_13049, ln_13050, ln_13051, ln_13052, ln_13053, ln_13054, ln_13055, ln_13056, ln_13057, ln_13058, ln_13059, ln_13060, ln_13061, ln_13062, ln_13063, ln_13064, ln_13065, ln_13066, ln_13067, gd_t, w_eq, i9, ho, pl, s3, e2, Int.add_zero]
      · rw [if_pos ⟨ow, e2⟩] at ks
        rw [ks]
        simp (disch := omega) only [aok, up_s, true_and, false_and, and_true, and_false, if_true, if_false, ↓reduceIte, ↓Option.bind_some, Int.reduceEq, Int.reduceNe, Int.reduceLT, Int.reduceLE, gd_true, gd_false, bind_b, q10, eq_self, reduceCtorEq, not_true_eq_false, not_false_eq_true, ne_eq, pt_0, pt_1, pt_2, pt_3, pt_4, pt_5, pt_6, pt_7, pt_8, pt_9, pt_10, pt_11, pt_12, pt_13, pt_14, pt_15, pt_16, pt_17, pt_18, pt_19, pt_20, pt_21, pt_22, pt_23, pt_24, pt_25, pt_26, pt_27, pt_28, pt_29, pt_30, pt_31, pt_32, pt_33, pt_34, pt_35, pt_36, pt_37, pt_38, pt_39, pt_40, pt_41, pt_42, pt_43, pt_44, pt_45, pt_46, pt_47, pt_48, pt_49, pt_50, pt_51, pt_52, pt_53, pt_54, pt_55, pt_56, pt_57, pt_58, pt_59, pt_60, pt_61, pt_62, pt_63, pt_64, pt_65, pt_66, pt_67, pa_13005, pw_13005, pa_13006, pw_13006, pa_13007, pw_13007, pa_14008, pw_14008, pa_13009, pw_13009, pa_13010, pw_13010, pa_13012, pw_13012, pa_13013, pw_13013, pa_13014, pw_13014, pa_13015, pw_13015, pa_13016, pw_13016, pa_13017, pw_13017, pa_13018, pw_13018, pa_13020, pw_13020, pa_13021, pw_13021, pa_13022, pw_13022, pa_13023, pw_13023, pa_13024, pw_13024, pa_13025, pw_13025, pa_13026, pw_13026, pa_13027, pw_13027, pa_13028, pw_13028, pa_13029, pw_13029, pa_13031, pw_13031, pa_13032, pw_13032, pa_13033, pw_13033, pa_14034, pw_14034, pa_13035, pw_13035, pa_13036, pw_13036, pa_13037, pw_13037, pa_13038, pw_13038, pa_13039, pw_13039, pa_13042, pw_13042, pa_13043, pw_13043, pa_13044, pw_13044, pa_13045, pw_13045, pa_13046, pw_13046, pa_13047, pw_13047, pa_13048, pw_13048, pa_13049, pw_13049, pa_13050, pw_13050, pa_13051, pw_13051, pa_13052, pw_13052, pa_13053, pw_13053, pa_13054, pw_13054, pa_13055, pw_13055, pa_13056, pw_13056, pa_13057, pw_13057, pa_13058, pw_13058, pa_13059, pw_13059, pa_13060, pw_13060, pa_13061, pw_13061, pa_13062, pw_13062, pa_13063, pw_13063, pa_13064, pw_13064, pa_13065, pw_13065, pa_13066, pw_13066, pa_13067, pw_13067, ps_0, ps_1, ps_2, ps_3, ps_4, ps_11, ps_19, ps_30, ps_40, ps_41, ln_13005, ln_13006, ln_13007, ln_14008, ln_13009, ln_13010, ln_13012, ln_13013, ln_13014, ln_13015, ln_13016, ln_13017, ln_13018, ln_13020, ln_13021, ln_13022, ln_13023, ln_13024, ln_13025, ln_13026, ln_13027, ln_13028, ln_13029, ln_13031, ln_13032, ln_13033, ln_14034, ln_13035, ln_13036, ln_13037, ln_13038, ln_13039, ln_13042, ln_13043, ln_13044, ln_13045, ln_13046, ln_13047, ln_13048, ln_13049, ln_13050, ln_13051, ln_13052, ln_13053, ln_13054, ln_13055, ln_13056, ln_13057, ln_13058, ln_13059, ln_13060, ln_13061, ln_13062, ln_13063, ln_13064, ln_13065, ln_13066, ln_13067, gd_t, w_eq, i9, ho, pl, s3, e2]
    · rw [if_neg ow] at ho
      rw [if_neg (fun z => ow z.1), Int.add_zero] at ks
      rw [ks, ← co_n ow]
      simp (disch := omega) only [aok, up_s, true_and, false_and, and_true, and_false, if_true, if_false, ↓reduceIte, ↓Option.bind_some, Int.reduceEq, Int.reduceNe, Int.reduceLT, Int.reduceLE, gd_true, gd_false, bind_b, q10, eq_self, reduceCtorEq, not_true_eq_false, not_false_eq_true, ne_eq, pt_0, pt_1, pt_2, pt_3, pt_4, pt_5, pt_6, pt_7, pt_8, pt_9, pt_10, pt_11, pt_12, pt_13, pt_14, pt_15, pt_16, pt_17, pt_18, pt_19, pt_20, pt_21, pt_22, pt_23, pt_24, pt_25, pt_26, pt_27, pt_28, pt_29, pt_30, pt_31, pt_32, pt_33, pt_34, pt_35, pt_36, pt_37, pt_38, pt_39, pt_40, pt_41, pt_42, pt_43, pt_44, pt_45, pt_46, pt_47, pt_48, pt_49, pt_50, pt_51, pt_52, pt_53, pt_54, pt_55, pt_56, pt_57, pt_58, pt_59, pt_60, pt_61, pt_62, pt_63, pt_64, pt_65, pt_66, pt_67, pa_13005, pw_13005, pa_13006, pw_13006, pa_13007, pw_13007, pa_14008, pw_14008, pa_13009, pw_13009, pa_13010, pw_13010, pa_13012, pw_13012, pa_13013, pw_13013, pa_13014, pw_13014, pa_13015, pw_13015, pa_13016, pw_13016, pa_13017, pw_13017, pa_13018, pw_13018, pa_13020, pw_13020, pa_13021, pw_13021, pa_13022, pw_13022, pa_13023, pw_13023, pa_13024, pw_13024, pa_13025, pw_13025, pa_13026, pw_13026, pa_13027, pw_13027, pa_13028, pw_13028, pa_13029, pw_13029, pa_13031, pw_13031, pa_13032, pw_13032, pa_13033, pw_13033, pa_14034, pw_14034, pa_13035, pw_13035, pa_13036, pw_13036, pa_13037, pw_13037, pa_13038, pw_13038, pa_13039, pw_13039, pa_13042, pw_13042, pa_13043, pw_13043, pa_13044, pw_13044, pa_13045, pw_13045, pa_13046, pw_13046, pa_13047, pw_13047, pa_13048, pw_13048, pa_13049, pw_13049, pa_13050, pw_13050, pa_13051, pw_13051, pa_13052, pw_13052, pa_13053, pw_13053, pa_13054, pw_13054, pa_13055, pw_13055, pa_13056, pw_13056, pa_13057, pw_13057, pa_13058, pw_13058, pa_13059, pw_13059, pa_13060, pw_13060, pa_13061, pw_13061, pa_13062, pw_13062, pa_13063, pw_13063, pa_13064, pw_13064, pa_13065, pw_13065, pa_13066, pw_13066, pa_13067, pw_13067, ps_0, ps_1, ps_2, ps_3, ps_4, ps_11, ps_19, ps_30, ps_40, ps_41, ln_13005, ln_13006, ln_13007, ln_14008, ln_13009, ln_13010, ln_13012, ln_13013, ln_13014, ln_13015, ln_13016, ln_13017, ln_13018, ln_13020, ln_13021, ln_13022, ln_13023, ln_13024, ln_13025, ln_13026, ln_13027, ln_13028, ln_13029, ln_13031, ln_13032, ln_13033, ln_14034, ln_13035, ln_13036, ln_13037, ln_13038, ln_13039, ln_13042, ln_13043, ln_13044, ln_13045, ln_13046, ln_13047, ln_13048, ln_13049, ln_13050, ln_13051, ln_13052, ln_13053, ln_13054, ln_13055, ln_13056, ln_13057, ln_13058, ln_13059, ln_13060, ln_13061, ln_13062, ln_13063, ln_13064, ln_13065, ln_13066, ln_13067, gd_t, w_eq, i9, ho]
  · unfold b_X11_commitOffsets_25
    rw [if_neg (show ¬ ((9 : Nat) : Int) < 9 by decide)]
    rfl
  · show _ = (coK N g j 0, ((0 : Nat) : Int), mk C' (coI N g j ((0 : Nat) : Int)) A')
    rw [show ((0 : Nat) : Int) = 0 from rfl, co_0]
    rfl
end COM
theorem q_commitOffsets {n : Int} {C : Cd} {N : Nd} {A : Ad} {g o : Int} (j : JJ n C N A) : SR n C N A (p_G_commitOffsets (mk C N A) 11000 g o 15000) (fun M => p_X11_commitOffsets M 12000 g o) := by
  have G := j.jn.g
  have s4 := G.s.2.2.2.1
  have hm := c_groupOf (N0 := N) (A := A) (t := g) G j.c
  have hi := fun C A => @m_isMember C (up N 12000 0 0) A g o j.z.s
  simp only [up_s, up_s, true_and, false_and, and_true, and_false, if_true, if_false, ↓reduceIte, ↓Option.bind_some, Int.reduceEq, Int.reduceNe, Int.reduceLT, Int.reduceLE, gd_true, gd_false, bind_b, q10, eq_self, reduceCtorEq, not_true_eq_false, not_false_eq_true, ne_eq] at hi
  unfold p_G_commitOffsets p_X10_commitOffsets
  by_cases h1 : 0 ≤ g ∧ g < (N 12000 41)
  · have g3 : g < 3 := by omega
    have a := (j.gr h1.1 h1.2).1
    have mo := c_memberOf (N0 := N) (A := A) (j := o) a h1.1 g3
    by_cases h0 : (0 ≤ o ∧ o ≤ 11) ∧ N 13047 (12 * g + o) = 1
    · have h01 := h0.1; have h02 := h0.2
      have o2 : o < 12 := by omega
      have jz : JJ n C (up N 12000 0 0) A := j.thrown
      have cl := c_commitAll (N0 := N) (A := A) (g := g) (j := o) j.jn j.c a h1.1 g3 h01.1 o2 h02
      have ml := @m_coLoop C (up N 12000 0 0) g o jz.jn (jz.gr h1.1 h1.2).1 h1.1 g3 h01.1 o2 h02
      have jj := jz.co (n' := n + 1) (g := g) (j := o) (i := 9) h1.1 h1.2 h01.1 o2 h02 (by omega) (by omega)
      refine SR.w (C1 := coC C N g o 9) (N1 := coI (up N 12000 0 0) g o 9) (coK N g o 9) ?_ ?_ rfl jj
      · simp (disch := omega) only [aok, up_s, true_and, false_and, and_true, and_false, if_true, if_false, ↓reduceIte, ↓Option.bind_some, Int.reduceEq, Int.reduceNe, Int.reduceLT, Int.reduceLE, gd_true, gd_false, bind_b, q10, eq_self, reduceCtorEq, not_true_eq_false, not_false_eq_true, ne_eq, cr_11000, cr_15000, cr_16000, cr_20000, cr_20001, cr_21000, cr_22000, cr_25000, cr_1000, cr_2000, cr_3000, cr_3003, cr_3006, cr_4000, cr_5000, cr_6000, cr_7000, cr_8000, cr_9000, cr_10000, cr_13500, cr_17000, cr_17100, cr_17103, cr_17106, cr_19000, cr_20100, cr_21100, cr_23000, cr_24000, cw_11000, cw_15000, cw_16000, cw_20000, cw_20001, cw_21000, cw_22000, cw_25000, cw_1000, cw_2000, cw_3000, cw_3003, cw_3006, cw_4000, cw_5000, cw_6000, cw_7000, cw_8000, cw_9000, cw_10000, cw_13500, cw_17000, cw_17100, cw_17103, cw_17106, cw_19000, cw_20100, cw_21100, cw_23000, cw_24000, lc_13500, lc_15000, lc_16000, lc_17000, lc_17100, lc_17103, lc_17106, lc_19000, lc_20000, lc_20001, lc_20100, lc_21000, lc_21100, lc_22000, lc_23000, lc_24000, lc_25000, gd_t, w_eq, thT, thU, psT, psU, hnT, thr_mk, ↓Option.bind_some, hm, h1, mo, h01, h02, cl]
      · unfold p_X11_commitOffsets
        simp (disch := omega) only [aok, up_s, true_and, false_and, and_true, and_false, if_true, if_false, ↓reduceIte, ↓Option.bind_some, Int.reduceEq, Int.reduceNe, Int.reduceLT, Int.reduceLE, gd_true, gd_false, bind_b, q10, eq_self, reduceCtorEq, not_true_eq_false, not_false_eq_true, ne_eq, pt_0, pt_1, pt_2, pt_3, pt_4, pt_5, pt_6, pt_7, pt_8, pt_9, pt_10, pt_11, pt_12, pt_13, pt_14, pt_15, pt_16, pt_17, pt_18, pt_19, pt_20, pt_21, pt_22, pt_23, pt_24, pt_25, pt_26, pt_27, pt_28, pt_29, pt_30, pt_31, pt_32, pt_33, pt_34, pt_35, pt_36, pt_37, pt_38, pt_39, pt_40, pt_41, pt_42, pt_43, pt_44, pt_45, pt_46, pt_47, pt_48, pt_49, pt_50, pt_51, pt_52, pt_53, pt_54, pt_55, pt_56, pt_57, pt_58, pt_59, pt_60, pt_61, pt_62, pt_63, pt_64, pt_65, pt_66, pt_67, pa_13005, pw_13005, pa_13006, pw_13006, pa_13007, pw_13007, pa_14008, pw_14008, pa_13009, pw_13009, pa_13010, pw_13010, pa_13012, pw_13012, pa_13013, pw_13013, pa_13014, pw_13014, pa_13015, pw_13015, pa_13016, pw_13016, pa_13017, pw_13017, pa_13018, pw_13018, pa_13020, pw_13020, pa_13021, pw_13021, pa_13022, pw_13022, pa_13023, pw_13023, pa_13024, pw_13024, pa_13025, pw_13025, pa_13026, pw_13026, pa_13027, pw_13027, pa_13028, pw_13028, pa_13029, pw_13029, pa_13031, pw_13031, pa_13032, pw_13032, pa_13033, pw_13033, pa_14034, pw_14034, pa_13035, pw_13035, pa_13036, pw_13036, pa_13037, pw_13037, pa_13038, pw_13038, pa_13039, pw_13039, pa_13042, pw_13042, pa_13043, pw_13043, pa_13044, pw_13044, pa_13045, pw_13045, pa_13046, pw_13046, pa_13047, pw_13047, pa_13048, pw_13048, pa_13049, pw_13049, pa_13050, pw_13050, pa_13051, pw_13051, pa_13052, pw_13052, pa_13053, pw_13053, pa_13054, pw_13054, pa_13055, pw_13055, pa_13056, pw_13056, pa_13057, pw_13057, pa_13058, pw_13058, pa_13059, pw_13059, pa_13060, pw_13060, pa_13061, pw_13061, pa_13062, pw_13062, pa_13063, pw_13063, pa_13064, pw_13064, pa_13065, pw_13065, pa_13066, pw_13066, pa_13067, pw_13067, ps_0, ps_1, ps_2, ps_3, ps_4, ps_11, ps_19, ps_30, ps_40, ps_41, ln_13005, ln_13006, ln_13007, ln_14008, ln_13009, ln_13010, ln_13012, ln_13013, ln_13014, ln_13015, ln_13016, ln_13017, ln_13018, ln_13020, ln_13021, ln_13022, ln_13023, ln_13024, ln_13025, ln_13026, ln_13027, ln_13028, ln_13029, ln_13031, ln_13032, ln_13033, ln_14034, ln_13035, ln_13036, ln_13037, ln_13038, ln_13039, ln_13042, ln_13043, ln_13044, ln_13045, ln_13046, ln_13047, ln_13048, ln_13049, ln_13050, ln_13051, ln_13052, ln_13053, ln_13054, ln_13055, ln_13056, ln_13057, ln_13058, ln_13059, ln_13060, ln_13061, ln_13062, ln_13063, ln_13064, ln_13065, ln_13066, ln_13067, gd_t, w_eq, hi, h1, h01, h02, ml]
        rfl
    · rw [if_neg h0] at mo
      have h0' : ¬ ((0 ≤ g ∧ g < (N 12000 41)) ∧ (0 ≤ o ∧ o ≤ 11) ∧ N 13047 (12 * g + o) = 1) := fun z => h0 z.2
      simp only [if_neg h0'] at hi
      refine SR.r j 1 (by omega) ?_ ?_
      · simp (disch := omega) only [aok, up_s, true_and, false_and, and_true, and_false, if_true, if_false, ↓reduceIte, ↓Option.bind_some, Int.reduceEq, Int.reduceNe, Int.reduceLT, Int.reduceLE, gd_true, gd_false, bind_b, q10, eq_self, reduceCtorEq, not_true_eq_false, not_false_eq_true, ne_eq, cr_11000, cr_15000, cr_16000, cr_20000, cr_20001, cr_21000, cr_22000, cr_25000, cr_1000, cr_2000, cr_3000, cr_3003, cr_3006, cr_4000, cr_5000, cr_6000, cr_7000, cr_8000, cr_9000, cr_10000, cr_13500, cr_17000, cr_17100, cr_17103, cr_17106, cr_19000, cr_20100, cr_21100, cr_23000, cr_24000, cw_11000, cw_15000, cw_16000, cw_20000, cw_20001, cw_21000, cw_22000, cw_25000, cw_1000, cw_2000, cw_3000, cw_3003, cw_3006, cw_4000, cw_5000, cw_6000, cw_7000, cw_8000, cw_9000, cw_10000, cw_13500, cw_17000, cw_17100, cw_17103, cw_17106, cw_19000, cw_20100, cw_21100, cw_23000, cw_24000, lc_13500, lc_15000, lc_16000, lc_17000, lc_17100, lc_17103, lc_17106, lc_19000, lc_20000, lc_20001, lc_20100, lc_21000, lc_21100, lc_22000, lc_23000, lc_24000, lc_25000, gd_t, w_eq, thT, thU, psT, psU, hnT, thr_mk, ↓Option.bind_some, hm, h1, mo]
      · unfold p_X11_commitOffsets
        simp (disch := omega) only [aok, up_s, true_and, false_and, and_true, and_false, if_true, if_false, ↓reduceIte, ↓Option.bind_some, Int.reduceEq, Int.reduceNe, Int.reduceLT, Int.reduceLE, gd_true, gd_false, bind_b, q10, eq_self, reduceCtorEq, not_true_eq_false, not_false_eq_true, ne_eq, pt_0, pt_1, pt_2, pt_3, pt_4, pt_5, pt_6, pt_7, pt_8, pt_9, pt_10, pt_11, pt_12, pt_13, pt_14, pt_15, pt_16, pt_17, pt_18, pt_19, pt_20, pt_21, pt_22, pt_23, pt_24, pt_25, pt_26, pt_27, pt_28, pt_29, pt_30, pt_31, pt_32, pt_33, pt_34, pt_35, pt_36, pt_37, pt_38, pt_39, pt_40, pt_41, pt_42, pt_43, pt_44, pt_45, pt_46, pt_47, pt_48, pt_49, pt_50, pt_51, pt_52, pt_53, pt_54, pt_55, pt_56, pt_57, pt_58, pt_59, pt_60, pt_61, pt_62, pt_63, pt_64, pt_65, pt_66, pt_67, pa_13005, pw_13005, pa_13006, pw_13006, pa_13007, pw_13007, pa_14008, pw_14008, pa_13009, pw_13009, pa_13010, pw_13010, pa_13012, pw_13012, pa_13013, pw_13013, pa_13014, pw_13014, pa_13015, pw_13015, pa_13016, pw_13016, pa_13017, pw_13017, pa_13018, pw_13018, pa_13020, pw_13020, pa_13021, pw_13021, pa_13022, pw_13022, pa_13023, pw_13023, pa_13024, pw_13024, pa_13025, pw_13025, pa_13026, pw_13026, pa_13027, pw_13027, pa_13028, pw_13028, pa_13029, pw_13029, pa_13031, pw_13031, pa_13032, pw_13032, pa_13033, pw_13033, pa_14034, pw_14034, pa_13035, pw_13035, pa_13036, pw_13036, pa_13037, pw_13037, pa_13038, pw_13038, pa_13039, pw_13039, pa_13042, pw_13042, pa_13043, pw_13043, pa_13044, pw_13044, pa_13045, pw_13045, pa_13046, pw_13046, pa_13047, pw_13047, pa_13048, pw_13048, pa_13049, pw_13049, pa_13050, pw_13050, pa_13051, pw_13051, pa_13052, pw_13052, pa_13053, pw_13053, pa_13054, pw_13054, pa_13055, pw_13055, pa_13056, pw_13056, pa_13057, pw_13057, pa_13058, pw_13058, pa_13059, pw_13059, pa_13060, pw_13060, pa_13061, pw_13061, pa_13062, pw_13062, pa_13063, pw_13063, pa_13064, pw_13064, pa_13065, pw_13065, pa_13066, pw_13066, pa_13067, pw_13067, ps_0, ps_1, ps_2, ps_3, ps_4, ps_11, ps_19, ps_30, ps_40, ps_41, ln_13005, ln_13006, ln_13007, ln_14008, ln_13009, ln_13010, ln_13012, ln_13013, ln_13014, ln_13015, ln_13016, ln_13017, ln_13018, ln_13020, ln_13021, ln_13022, ln_13023, ln_13024, ln_13025, ln_13026, ln_13027, ln_13028, ln_13029, ln_13031, ln_13032, ln_13033, ln_14034, ln_13035, ln_13036, ln_13037, ln_13038, ln_13039, ln_13042, ln_13043, ln_13044, ln_13045, ln_13046, ln_13047, ln_13048, ln_13049, ln_13050, ln_13051, ln_13052, ln_13053, ln_13054, ln_13055, ln_13056, ln_13057, ln_13058, ln_13059, ln_13060, ln_13061, ln_13062, ln_13063, ln_13064, ln_13065, ln_13066, ln_13067, gd_t, w_eq, hi, m_refuse]
  · have h0' : ¬ ((0 ≤ g ∧ g < (N 12000 41)) ∧ (0 ≤ o ∧ o ≤ 11) ∧ N 13047 (12 * g + o) = 1) := fun z => h1 z.1
    simp only [if_neg h0'] at hi
    refine SR.r j 1 (by omega) ?_ ?_
    · simp (disch := omega) only [aok, up_s, true_and, false_and, and_true, and_false, if_true, if_false, ↓reduceIte, ↓Option.bind_some, Int.reduceEq, Int.reduceNe, Int.reduceLT, Int.reduceLE, gd_true, gd_false, bind_b, q10, eq_self, reduceCtorEq, not_true_eq_false, not_false_eq_true, ne_eq, cr_11000, cr_15000, cr_16000, cr_20000, cr_20001, cr_21000, cr_22000, cr_25000, cr_1000, cr_2000, cr_3000, cr_3003, cr_3006, cr_4000, cr_5000, cr_6000, cr_7000, cr_8000, cr_9000, cr_10000, cr_13500, cr_17000, cr_17100, cr_17103, cr_17106, cr_19000, cr_20100, cr_21100, cr_23000, cr_24000, cw_11000, cw_15000, cw_16000, cw_20000, cw_20001, cw_21000, cw_22000, cw_25000, cw_1000, cw_2000, cw_3000, cw_3003, cw_3006, cw_4000, cw_5000, cw_6000, cw_7000, cw_8000, cw_9000, cw_10000, cw_13500, cw_17000, cw_17100, cw_17103, cw_17106, cw_19000, cw_20100, cw_21100, cw_23000, cw_24000, lc_13500, lc_15000, lc_16000, lc_17000, lc_17100, lc_17103, lc_17106, lc_19000, lc_20000, lc_20001, lc_20100, lc_21000, lc_21100, lc_22000, lc_23000, lc_24000, lc_25000, gd_t, w_eq, thT, thU, psT, psU, hnT, thr_mk, ↓Option.bind_some, hm, h1]
    · unfold p_X11_commitOffsets
      simp (disch := omega) only [aok, up_s, true_and, false_and, and_true, and_false, if_true, if_false, ↓reduceIte, ↓Option.bind_some, Int.reduceEq, Int.reduceNe, Int.reduceLT, Int.reduceLE, gd_true, gd_false, bind_b, q10, eq_self, reduceCtorEq, not_true_eq_false, not_false_eq_true, ne_eq, pt_0, pt_1, pt_2, pt_3, pt_4, pt_5, pt_6, pt_7, pt_8, pt_9, pt_10, pt_11, pt_12, pt_13, pt_14, pt_15, pt_16, pt_17, pt_18, pt_19, pt_20, pt_21, pt_22, pt_23, pt_24, pt_25, pt_26, pt_27, pt_28, pt_29, pt_30, pt_31, pt_32, pt_33, pt_34, pt_35, pt_36, pt_37, pt_38, pt_39, pt_40, pt_41, pt_42, pt_43, pt_44, pt_45, pt_46, pt_47, pt_48, pt_49, pt_50, pt_51, pt_52, pt_53, pt_54, pt_55, pt_56, pt_57, pt_58, pt_59, pt_60, pt_61, pt_62, pt_63, pt_64, pt_65, pt_66, pt_67, pa_13005, pw_13005, pa_13006, pw_13006, pa_13007, pw_13007, pa_14008, pw_14008, pa_13009, pw_13009, pa_13010, pw_13010, pa_13012, pw_13012, pa_13013, pw_13013, pa_13014, pw_13014, pa_13015, pw_13015, pa_13016, pw_13016, pa_13017, pw_13017, pa_13018, pw_13018, pa_13020, pw_13020, pa_13021, pw_13021, pa_13022, pw_13022, pa_13023, pw_13023, pa_13024, pw_13024, pa_13025, pw_13025, pa_13026, pw_13026, pa_13027, pw_13027, pa_13028, pw_13028, pa_13029, pw_13029, pa_13031, pw_13031, pa_13032, pw_13032, pa_13033, pw_13033, pa_14034, pw_14034, pa_13035, pw_13035, pa_13036, pw_13036, pa_13037, pw_13037, pa_13038, pw_13038, pa_13039, pw_13039, pa_13042, pw_13042, pa_13043, pw_13043, pa_13044, pw_13044, pa_13045, pw_13045, pa_13046, pw_13046, pa_13047, pw_13047, pa_13048, pw_13048, pa_13049, pw_13049, pa_13050, pw_13050, pa_13051, pw_13051, pa_13052, pw_13052, pa_13053, pw_13053, pa_13054, pw_13054, pa_13055, pw_13055, pa_13056, pw_13056, pa_13057, pw_13057, pa_13058, pw_13058, pa_13059, pw_13059, pa_13060, pw_13060, pa_13061, pw_13061, pa_13062, pw_13062, pa_13063, pw_13063, pa_13064, pw_13064, pa_13065, pw_13065, pa_13066, pw_13066, pa_13067, pw_13067, ps_0, ps_1, ps_2, ps_3, ps_4, ps_11, ps_19, ps_30, ps_40, ps_41, ln_13005, ln_13006, ln_13007, ln_14008, ln_13009, ln_13010, ln_13012, ln_13013, ln_13014, ln_13015, ln_13016, ln_13017, ln_13018, ln_13020, ln_13021, ln_13022, ln_13023, ln_13024, ln_13025, ln_13026, ln_13027, ln_13028, ln_13029, ln_13031, ln_13032, ln_13033, ln_14034, ln_13035, ln_13036, ln_13037, ln_13038, ln_13039, ln_13042, ln_13043, ln_13044, ln_13045, ln_13046, ln_13047, ln_13048, ln_13049, ln_13050, ln_13051, ln_13052, ln_13053, ln_13054, ln_13055, ln_13056, ln_13057, ln_13058, ln_13059, ln_13060, ln_13061, ln_13062, ln_13063, ln_13064, ln_13065, ln_13066, ln_13067, gd_t, w_eq, hi, m_refuse]
