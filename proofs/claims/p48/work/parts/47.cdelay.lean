/-! PURE PART, 47: delayed messages that are due: the class -/
/-- the rest is as it was, but for the list of delayed messages -/
def KD (C C' : Cd) : Prop := ∀ b i j, ccell b j = false → b ≠ 20001 → ¬ (b = 11000 ∧ j = 11) → C' b i j = C b i j
theorem KD.of {C C' : Cd} (h : KP C C') : KD C C' := fun b i j h1 _ _ => h b i j h1
theorem KD.tr {C C1 C2 : Cd} (h : KD C C1) (h2 : KD C1 C2) : KD C C2 := fun b i j a1 a2 a3 => (h2 b i j a1 a2 a3).trans (h b i j a1 a2 a3)
theorem KD.wr {C C' : Cd} {k v : Int} (h : KD C C') : KD C (uq C' 20001 0 k v) := fun b i j a1 a2 a3 => by
  rw [uq_s, if_neg (fun z => a2 z.1)]; exact h b i j a1 a2 a3
theorem KD.ct {C C' : Cd} {v : Int} (h : KD C C') : KD C (uq C' 11000 0 11 v) := fun b i j a1 a2 a3 => by
  rw [uq_s, if_neg (fun z => a3 ⟨z.1, z.2.2⟩)]; exact h b i j a1 a2 a3
theorem CC.wr20001 {C : Cd} {N : Nd} {k v : Int} (c : CC C N) : CC (uq C 20001 0 k v) N := ⟨c.b, c.i, c.t, c.p, c.w, c.l, c.r, c.m, c.x⟩
theorem CC.wrCount {C : Cd} {N : Nd} {v : Int} (c : CC C N) : CC (uq C 11000 0 11 v) N := ⟨c.b, c.i, c.t, c.p, c.w, c.l, c.r, c.m, c.x⟩
theorem c_appendDelayed {C : Cd} {N N0 : Nd} {A : Ad} {l : List Int} (j : JT N) (c : CC C N) (wd : WD N) (h : DLs N l) (hc : DLc C l) : Ok (p_X10_appendDelayed (mk C N0 A) 11000) (fun M => ∃ C', M = mk C' N0 A ∧ CC C' (l.foldl apF N) ∧ KD C C' ∧ DLc C' (l.foldl apS (N, [])).2) := by
  obtain ⟨h1, h2, h3⟩ := h
  obtain ⟨d1, d2, d3⟩ := hc
  unfold p_X10_appendDelayed
  refine Ok.bnd (Q := fun t => ∃ C1 N1 K, t = (((K.length : Nat) : Int), mk C1 N0 A) ∧ (N1, K) = l.foldl apS (N, []) ∧ K.length ≤ l.length ∧ CC C1 N1 ∧ KD C C1 ∧ ∀ i : Nat, ∀ h : i < K.length, C1 20001 0 (i : Int) = 5000 + K[i]) (lp_for (fun i s => ∃ N1 K C1, s = (((K.length : Nat) : Int), i, mk C1 N0 A) ∧ (N1, K) = (l.take i.toNat).foldl apS (N, []) ∧ (K.length : Int) ≤ i ∧ CC C1 N1 ∧ KD C C1 ∧ C1 11000 0 11 = l.length ∧ (∀ k : Nat, ∀ h : k < K.length, C1 20001 0 (k : Int) = 5000 + K[k]) ∧ (∀ k : Nat, ∀ h : k < l.length, i ≤ (k : Int) → C1 20001 0 (k : Int) = 5000 + l[k]) ∧ JT N1 ∧ N1 12000 = N 12000 ∧ N1 13028 = N 13028 ∧ (∀ k : Nat, ∀ h : k < l.length, i ≤ (k : Int) → N1 13024 l[k] = 0)) 0 l.length ?_ ?_ (by omega) ⟨N, [], C, rfl, rfl, by simp, c, KD.of KP.rf, d1, fun k h => absurd h (by simp), fun k h _ => d3 k h, j, rfl, rfl, fun k h _ => (h2 _ (List.getElem_mem h)).2.2⟩) ?_
  · rintro i s i1 i2 ⟨N1, K, C1, rfl, hf, hK, c1, k1, e11, q1, q2, j1, n1, n2, w1⟩
    have hi : i.toNat < l.length := by omega
    have e0 : ((i.toNat : Nat) : Int) = i := by omega
    have ql := q2 i.toNat hi (by omega)
    have wl := w1 i.toNat hi (by omega)
    rw [e0] at ql
    obtain ⟨m1, m2, m3⟩ := h2 _ (List.getElem_mem hi)
    have wm := wd _ m1 m2 m3
    have ft : (l.take (i + 1).toNat).foldl apS (N, []) = apS (N1, K) l[i.toNat] := by
      rw [show (i + 1).toNat = i.toNat + 1 by omega, List.take_succ_eq_append_getElem hi, List.foldl_append, ← hf]
      rfl
    generalize hm : l[i.toNat] = m at ql wl m1 m2 m3 wm ft
    have inj : ∀ k : Nat, ∀ h : k < l.length, i + 1 ≤ (k : Int) → l[k] ≠ m := fun k h hk e => by
      have := List.pairwise_iff_getElem.mp h1 i.toNat k hi h (by omega)
      rw [hm, e] at this
      exact lt2_ir this
    have g1 := j1.1.1
    have m2' : m < N1 12000 19 := by rw [n1]; exact m2
    have s5 := g1.s.2.2.2.2.1
    obtain ⟨a1, a2, -⟩ := g1.m m m1 m2'
    obtain ⟨-, b1, b2, -, -, b5, -⟩ := c1.m m m1 m2'
    have due : N1 13028 m = N 13028 m := by rw [n2]
    have nz : ¬ N 13028 m = 0 := by omega
    have b15 : C1 11000 0 15 = (N1 12000 1) := c1.b.2.2.2.2.2.2.2.2.2
    have ha := c_canAppend (N0 := N0) (A := A) (x := N1 13020 m) g1 c1 a2.1 a2.2
    rw [due] at b5
    unfold b_X10_appendDelayed_4
    by_cases ok : apok N1 m
    · have ok1 : ¬ (N1 12000 1) < N 13028 m := by have := ok.1; rw [due] at this; omega
      have fa : apS (N1, K) m = (apN N1 m, K) := if_pos ok
      rw [if_pos ok.2] at ha
      simp (disch := omega) only [aok, up_s, true_and, false_and, and_true, and_false, if_true, if_false, ↓reduceIte, ↓Option.bind_some, Int.reduceEq, Int.reduceNe, Int.reduceLT, Int.reduceLE, gd_true, gd_false, bind_b, q10, eq_self, reduceCtorEq, not_true_eq_false, not_false_eq_true, ne_eq, cr_11000, cr_15000, cr_16000, cr_20000, cr_20001, cr_21000, cr_22000, cr_25000, cr_1000, cr_2000, cr_3000, cr_3003, cr_3006, cr_4000, cr_5000, cr_6000, cr_7000, cr_8000, cr_9000, cr_10000, cr_13500, cr_17000, cr_17100, cr_17103, cr_17106, cr_19000, cr_20100, cr_21100, cr_23000, cr_24000, cw_11000, cw_15000, cw_16000, cw_20000, cw_20001, cw_21000, cw_22000, cw_25000, cw_1000, cw_2000, cw_3000, cw_3003, cw_3006, cw_4000, cw_5000, cw_6000, cw_7000, cw_8000, cw_9000, cw_10000, cw_13500, cw_17000, cw_17100, cw_17103, cw_17106, cw_19000, cw_20100, cw_21100, cw_23000, cw_24000, lc_13500, lc_15000, lc_16000, lc_17000, lc_17100, lc_17103, lc_17106, lc_19000, lc_20000, lc_20001, lc_20100, lc_21000, lc_21100, lc_22000, lc_23000, lc_24000, lc_25000, gd_t, w_eq, c1.b.1.2.2.2.2.2, e11, ql, b1, b2, b5, b15, nz, ok1, ha, if_pos, if_neg]
      refine Ok.bnd (Q := fun r => ∃ C2, r = .inl (.inl (((K.length : Nat) : Int), i + 1, mk C2 N0 A)) ∧ CC C2 (apN N1 m) ∧ KP C1 C2) (Ok.bnd (c_append g1 c1 m1 m2' rfl rfl ok.2.1.1 ok.2.1.2) ?_) ?_
      · rintro M ⟨C2, rfl, c2, k2⟩
        exact Ok.ret ⟨C2, rfl, c2, k2⟩
      · rintro r ⟨C2, rfl, c2, k2⟩
        refine Ok.ret ⟨apN N1 m, K, C2, rfl, ?_, by omega, c2, k1.tr (KD.of k2), (k2 11000 0 11 (by decide)).trans e11, fun k h => (k2 20001 0 k (by rfl)).trans (q1 k h), fun k h hk => (k2 20001 0 k (by rfl)).trans (q2 k h (by omega)), j1.apN m1 m2' ok.2.1.1 ok.2.1.2 (Or.inl wl), n1, n2, fun k h hk => ?_⟩
        · rw [ft, fa]
        · have := w1 k h (by omega)
          show apN N1 m 13024 l[k] = 0
          unfold apN
          simp only [up_s, up_s, true_and, false_and, and_true, and_false, if_true, if_false, ↓reduceIte, ↓Option.bind_some, Int.reduceEq, Int.reduceNe, Int.reduceLT, Int.reduceLE, gd_true, gd_false, bind_b, q10, eq_self, reduceCtorEq, not_true_eq_false, not_false_eq_true, ne_eq]
          rw [if_neg (inj k h hk)]
          exact this
    · have fa : apS (N1, K) m = (N1, K ++ [m]) := if_neg ok
      have fin : ∀ X, X = some (Sum.inr (i, mk C1 N0 A)) → Ok (Option.bind X (Sum.elim some fun (s14 : Int × Mm) => gd (aok (rd s14.2 11000 5) (((K.length : Nat) : Int))) ((some (wr s14.2 (rd s14.2 11000 5) (((K.length : Nat) : Int)) (5000 + m))).bind fun M40 => some (.inl (((w ((((K.length : Nat) : Int)) + 1)), (w (s14.1 + 1)), M40) : Int × Int × Mm))))) (Sum.elim (fun s' => ∃ N1 K C1, s' = (((K.length : Nat) : Int), i + 1, mk C1 N0 A) ∧ (N1, K) = (l.take (i + 1).toNat).foldl apS (N, []) ∧ (K.length : Int) ≤ i + 1 ∧ CC C1 N1 ∧ KD C C1 ∧ C1 11000 0 11 = l.length ∧ (∀ k : Nat, ∀ h : k < K.length, C1 20001 0 (k : Int) = 5000 + K[k]) ∧ (∀ k : Nat, ∀ h : k < l.length, i + 1 ≤ (k : Int) → C1 20001 0 (k : Int) = 5000 + l[k]) ∧ JT N1 ∧ N1 12000 = N 12000 ∧ N1 13028 = N 13028 ∧ (∀ k : Nat, ∀ h : k < l.length, i + 1 ≤ (k : Int) → N1 13024 l[k] = 0)) (fun t => ∃ C1 N1 K, t = (((K.length : Nat) : Int), mk C1 N0 A) ∧ (N1, K) = l.foldl apS (N, []) ∧ K.length ≤ l.length ∧ CC C1 N1 ∧ KD C C1 ∧ ∀ i : Nat, ∀ h : i < K.length, C1 20001 0 (i : Int) = 5000 + K[i])) := by
        rintro X rfl
        simp (disch := omega) only [aok, up_s, true_and, false_and, and_true, and_false, if_true, if_false, ↓reduceIte, ↓Option.bind_some, Int.reduceEq, Int.reduceNe, Int.reduceLT, Int.reduceLE, gd_true, gd_false, bind_b, q10, eq_self, reduceCtorEq, not_true_eq_false, not_false_eq_true, ne_eq, cr_11000, cr_15000, cr_16000, cr_20000, cr_20001, cr_21000, cr_22000, cr_25000, cr_1000, cr_2000, cr_3000, cr_3003, cr_3006, cr_4000, cr_5000, cr_6000, cr_7000, cr_8000, cr_9000, cr_10000, cr_13500, cr_17000, cr_17100, cr_17103, cr_17106, cr_19000, cr_20100, cr_21100, cr_23000, cr_24000, cw_11000, cw_15000, cw_16000, cw_20000, cw_20001, cw_21000, cw_22000, cw_25000, cw_1000, cw_2000, cw_3000, cw_3003, cw_3006, cw_4000, cw_5000, cw_6000, cw_7000, cw_8000, cw_9000, cw_10000, cw_13500, cw_17000, cw_17100, cw_17103, cw_17106, cw_19000, cw_20100, cw_21100, cw_23000, cw_24000, lc_13500, lc_15000, lc_16000, lc_17000, lc_17100, lc_17103, lc_17106, lc_19000, lc_20000, lc_20001, lc_20100, lc_21000, lc_21100, lc_22000, lc_23000, lc_24000, lc_25000, gd_t, w_eq, c1.b.1.2.2.2.2.2, Sum.elim_inr]
        refine ⟨_, rfl, N1, K ++ [m], uq C1 20001 0 ((K.length : Nat) : Int) (5000 + m), ?_, ?_, ?_, c1.wr20001, k1.wr, ?_, ?_, ?_, j1, n1, n2, fun k h hk => w1 k h (by omega)⟩
        · rw [List.length_append]; rfl
        · rw [ft, fa]
        · rw [List.length_append]; show ((K.length + 1 : Nat) : Int) ≤ _; omega
        · exact e11
        · intro k h
          rw [uq_s]
          by_cases e : (k : Int) = ((K.length : Nat) : Int)
          · have e' : k = K.length := by omega
            subst e'
            rw [if_pos ⟨rfl, rfl, rfl⟩, List.getElem_append_right (Nat.le_refl _)]
            simp
          · rw [List.length_append] at h
            have h' : k < K.length := by simp at h; omega
            rw [if_neg (fun z => e z.2.2), List.getElem_append_left h']
            exact q1 k h'
        · intro k h hk
          rw [uq_s, if_neg (fun z => by have := z.2.2; omega)]
          exact q2 k h (by omega)
      by_cases ok1 : (N1 12000 1) < N 13028 m
      · simp (disch := omega) only [aok, ↓Option.bind_some, cr_11000, cr_15000, cr_16000, cr_20000, cr_20001, cr_21000, cr_22000, cr_25000, cr_1000, cr_2000, cr_3000, cr_3003, cr_3006, cr_4000, cr_5000, cr_6000, cr_7000, cr_8000, cr_9000, cr_10000, cr_13500, cr_17000, cr_17100, cr_17103, cr_17106, cr_19000, cr_20100, cr_21100, cr_23000, cr_24000, lc_20001, gd_t, c1.b.1.2.2.2.2.2, e11, ql, b5, b15, nz, ok1, if_pos, if_neg, if_true, if_false, ↓reduceIte]
        exact fin _ rfl
      · have na : ¬ ((0 ≤ N1 13013 (N1 13021 m) ∧ eol N1 (N1 13021 m) < 60) ∧ cuts N1 (N1 13020 m) (N1 13021 m) = 0) := fun z => ok ⟨by rw [due]; omega, z⟩
        rw [if_neg na] at ha
        simp (disch := omega) only [aok, ↓Option.bind_some, cr_11000, cr_15000, cr_16000, cr_20000, cr_20001, cr_21000, cr_22000, cr_25000, cr_1000, cr_2000, cr_3000, cr_3003, cr_3006, cr_4000, cr_5000, cr_6000, cr_7000, cr_8000, cr_9000, cr_10000, cr_13500, cr_17000, cr_17100, cr_17103, cr_17106, cr_19000, cr_20100, cr_21100, cr_23000, cr_24000, lc_20001, gd_t, c1.b.1.2.2.2.2.2, e11, ql, b1, b2, b5, b15, nz, ok1, ha, if_pos, if_neg, if_true, if_false, ↓reduceIte]
        exact fin _ rfl
  · rintro s ⟨N1, K, C1, rfl, hf, hK, c1, k1, e11, q1, -⟩
    unfold b_X10_appendDelayed_4
    simp (disch := omega) only [aok, up_s, true_and, false_and, and_true, and_false, if_true, if_false, ↓reduceIte, ↓Option.bind_some, Int.reduceEq, Int.reduceNe, Int.reduceLT, Int.reduceLE, gd_true, gd_false, bind_b, q10, eq_self, reduceCtorEq, not_true_eq_false, not_false_eq_true, ne_eq, cr_11000, cr_15000, cr_16000, cr_20000, cr_20001, cr_21000, cr_22000, cr_25000, cr_1000, cr_2000, cr_3000, cr_3003, cr_3006, cr_4000, cr_5000, cr_6000, cr_7000, cr_8000, cr_9000, cr_10000, cr_13500, cr_17000, cr_17100, cr_17103, cr_17106, cr_19000, cr_20100, cr_21100, cr_23000, cr_24000, cw_11000, cw_15000, cw_16000, cw_20000, cw_20001, cw_21000, cw_22000, cw_25000, cw_1000, cw_2000, cw_3000, cw_3003, cw_3006, cw_4000, cw_5000, cw_6000, cw_7000, cw_8000, cw_9000, cw_10000, cw_13500, cw_17000, cw_17100, cw_17103, cw_17106, cw_19000, cw_20100, cw_21100, cw_23000, cw_24000, lc_13500, lc_15000, lc_16000, lc_17000, lc_17100, lc_17103, lc_17106, lc_19000, lc_20000, lc_20001, lc_20100, lc_21000, lc_21100, lc_22000, lc_23000, lc_24000, lc_25000, gd_t, w_eq, e11, if_neg]
    refine ⟨_, rfl, C1, N1, K, rfl, ?_, by omega, c1, k1, q1⟩
    rw [hf, show ((0 : Int) + (l.length : Int)).toNat = l.length by omega, List.take_length]
  · rintro t ⟨C1, N1, K, rfl, hf, hK, c1, k1, q1⟩
    simp (disch := omega) only [aok, up_s, true_and, false_and, and_true, and_false, if_true, if_false, ↓reduceIte, ↓Option.bind_some, Int.reduceEq, Int.reduceNe, Int.reduceLT, Int.reduceLE, gd_true, gd_false, bind_b, q10, eq_self, reduceCtorEq, not_true_eq_false, not_false_eq_true, ne_eq, cr_11000, cr_15000, cr_16000, cr_20000, cr_20001, cr_21000, cr_22000, cr_25000, cr_1000, cr_2000, cr_3000, cr_3003, cr_3006, cr_4000, cr_5000, cr_6000, cr_7000, cr_8000, cr_9000, cr_10000, cr_13500, cr_17000, cr_17100, cr_17103, cr_17106, cr_19000, cr_20100, cr_21100, cr_23000, cr_24000, cw_11000, cw_15000, cw_16000, cw_20000, cw_20001, cw_21000, cw_22000, cw_25000, cw_1000, cw_2000, cw_3000, cw_3003, cw_3006, cw_4000, cw_5000, cw_6000, cw_7000, cw_8000, cw_9000, cw_10000, cw_13500, cw_17000, cw_17100, cw_17103, cw_17106, cw_19000, cw_20100, cw_21100, cw_23000, cw_24000, lc_13500, lc_15000, lc_16000, lc_17000, lc_17100, lc_17103, lc_17106, lc_19000, lc_20000, lc_20001, lc_20100, lc_21000, lc_21100, lc_22000, lc_23000, lc_24000, lc_25000, gd_t, w_eq]
    refine ⟨_, rfl, _, rfl, ?_, k1.ct, ?_, by rw [← hf]; show K.length ≤ 150; omega, ?_⟩
    · have : l.foldl apF N = N1 := by
        rw [← apS_1 (s := (N, [])), ← hf]
      rw [this]
      exact c1.wrCount
    · rw [← hf]; rfl
    · rw [← hf]
      exact fun i h => q1 i h
