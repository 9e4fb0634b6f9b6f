/-! PURE PART, 99v: deal, the class's table by shares, counts, targets and what moved -/
def dcC (C : Cd) (N : Nd) (g : Int) (F c t : Int → Int) (m : Int) : Cd := fun b x z => if b = 9000 ∧ z = 2 ∧ 9 * g ≤ x ∧ x < 9 * g + 9 ∧ gR N g (x - 9 * g) then obj g (t (x - 9 * g)) else if b = 4000 ∧ z = 5 ∧ 12 * g ≤ x ∧ x < 12 * g + 12 ∧ N 13047 x = 1 then c (x - 12 * g) else if b = 4000 ∧ z = 6 ∧ 12 * g ≤ x ∧ x < 12 * g + 12 ∧ N 13047 x = 1 then F (x - 12 * g) else if b = 1000 ∧ x = g ∧ z = 7 then m else C b x z
section DC
variable {C : Cd} {N : Nd} {g m : Int} {F c t : Int → Int}
theorem dc_k {b x z : Int} (h1 : ¬ (b = 9000 ∧ z = 2)) (h2 : ¬ (b = 4000 ∧ (z = 5 ∨ z = 6))) (h3 : ¬ (b = 1000 ∧ z = 7)) : dcC C N g F c t m b x z = C b x z := by
  unfold dcC
  rw [if_neg (fun q => h1 ⟨q.1, q.2.1⟩), if_neg (fun q => h2 ⟨q.1, Or.inl q.2.1⟩), if_neg (fun q => h2 ⟨q.1, Or.inr q.2.1⟩), if_neg (fun q => h3 ⟨q.1, q.2.2⟩)]
theorem dc_t {p : Int} (p2 : p < 9) (r : gR N g p) : dcC C N g F c t m 9000 (9 * g + p) 2 = obj g (t p) := by
  have p1 := r.1
  unfold dcC
  rw [show 9 * g + p - 9 * g = p by omega, if_pos ⟨rfl, rfl, by omega, by omega, r⟩]
theorem dc_c {j : Int} (j1 : 0 ≤ j) (j2 : j < 12) (h : N 13047 (12 * g + j) = 1) : dcC C N g F c t m 4000 (12 * g + j) 5 = c j := by
  unfold dcC
  rw [if_neg (fun q => absurd q.1 (by decide)), if_pos ⟨rfl, rfl, by omega, by omega, h⟩, show 12 * g + j - 12 * g = j by omega]
theorem dc_F {j : Int} (j1 : 0 ≤ j) (j2 : j < 12) (h : N 13047 (12 * g + j) = 1) : dcC C N g F c t m 4000 (12 * g + j) 6 = F j := by
  unfold dcC
  rw [if_neg (fun q => absurd q.1 (by decide)), if_neg (fun q => absurd q.2.1 (by decide)), if_pos ⟨rfl, rfl, by omega, by omega, h⟩, show 12 * g + j - 12 * g = j by omega]
theorem dc_m : dcC C N g F c t m 1000 g 7 = m := by
  unfold dcC
  rw [if_neg (fun q => absurd q.1 (by decide)), if_neg (fun q => absurd q.1 (by decide)), if_neg (fun q => absurd q.1 (by decide)), if_pos ⟨rfl, rfl, rfl⟩]
theorem dc_ut {p v : Int} (p2 : p < 9) (r : gR N g p) : uq (dcC C N g F c t m) 9000 (9 * g + p) 2 (obj g v) = dcC C N g F c (fu t p v) m := by
  have p1 := r.1
  funext b x z
  rw [uq_s]
  unfold dcC fu
  by_cases h : b = 9000 ∧ x = 9 * g + p ∧ z = 2
  · have e : x - 9 * g = p := by omega
    rw [if_pos h, if_pos ⟨h.1, h.2.2, by omega, by omega, by rw [e]; exact r⟩, if_pos e]
  · rw [if_neg h]
    by_cases h2 : b = 9000 ∧ z = 2 ∧ 9 * g ≤ x ∧ x < 9 * g + 9 ∧ gR N g (x - 9 * g)
    · rw [if_pos h2, if_pos h2, if_neg (by omega)]
    · rw [if_neg h2, if_neg h2]
theorem dc_uc {j v : Int} (j1 : 0 ≤ j) (j2 : j < 12) (h : N 13047 (12 * g + j) = 1) : uq (dcC C N g F c t m) 4000 (12 * g + j) 5 v = dcC C N g F (fu c j v) t m := by
  funext b x z
  rw [uq_s]
  unfold dcC fu
  by_cases h1 : b = 4000 ∧ x = 12 * g + j ∧ z = 5
  · have e : x - 12 * g = j := by omega
    rw [if_pos h1, if_neg (fun q => by omega), if_pos ⟨h1.1, h1.2.2, by omega, by omega, by rw [h1.2.1]; exact h⟩, if_pos e]
  · rw [if_neg h1]
    by_cases h2 : b = 9000 ∧ z = 2 ∧ 9 * g ≤ x ∧ x < 9 * g + 9 ∧ gR N g (x - 9 * g)
    · rw [if_pos h2, if_pos h2]
    · rw [if_neg h2, if_neg h2]
      by_cases h3 : b = 4000 ∧ z = 5 ∧ 12 * g ≤ x ∧ x < 12 * g + 12 ∧ N 13047 x = 1
      · rw [if_pos h3, if_pos h3, if_neg (by omega)]
      · rw [if_neg h3, if_neg h3]
theorem dc_uF {j v : Int} (j1 : 0 ≤ j) (j2 : j < 12) (h : N 13047 (12 * g + j) = 1) : uq (dcC C N g F c t m) 4000 (12 * g + j) 6 v = dcC C N g (fu F j v) c t m := by
  funext b x z
  rw [uq_s]
  unfold dcC fu
  by_cases h1 : b = 4000 ∧ x = 12 * g + j ∧ z = 6
  · have e : x - 12 * g = j := by omega
    rw [if_pos h1, if_neg (fun q => by omega), if_neg (fun q => by omega), if_pos ⟨h1.1, h1.2.2, by omega, by omega, by rw [h1.2.1]; exact h⟩, if_pos e]
  · rw [if_neg h1]
    by_cases h2 : b = 9000 ∧ z = 2 ∧ 9 * g ≤ x ∧ x < 9 * g + 9 ∧ gR N g (x - 9 * g)
    · rw [if_pos h2, if_pos h2]
    · rw [if_neg h2, if_neg h2]
      by_cases h3 : b = 4000 ∧ z = 5 ∧ 12 * g ≤ x ∧ x < 12 * g + 12 ∧ N 13047 x = 1
      · rw [if_pos h3, if_pos h3]
      · rw [if_neg h3, if_neg h3]
        by_cases h4 : b = 4000 ∧ z = 6 ∧ 12 * g ≤ x ∧ x < 12 * g + 12 ∧ N 13047 x = 1
        · rw [if_pos h4, if_pos h4, if_neg (by omega)]
        · rw [if_neg h4, if_neg h4]
theorem dc_um {v : Int} : uq (dcC C N g F c t m) 1000 g 7 v = dcC C N g F c t v := by
  funext b x z
  rw [uq_s]
  unfold dcC
  by_cases h1 : b = 1000 ∧ x = g ∧ z = 7
  · rw [if_pos h1, if_neg (fun q => by omega), if_neg (fun q => by omega), if_neg (fun q => by omega), if_pos h1]
  · rw [if_neg h1, if_neg h1, if_neg h1]
theorem dc_self (ht : ∀ p, p < 9 → gR N g p → C 9000 (9 * g + p) 2 = obj g (t p)) : dcC C N g (fun j => C 4000 (12 * g + j) 6) (fun j => C 4000 (12 * g + j) 5) t (C 1000 g 7) = C := by
  funext b x z
  unfold dcC
  by_cases h2 : b = 9000 ∧ z = 2 ∧ 9 * g ≤ x ∧ x < 9 * g + 9 ∧ gR N g (x - 9 * g)
  · rw [if_pos h2, ← ht _ (by omega) h2.2.2.2.2, h2.1, h2.2.1, show 9 * g + (x - 9 * g) = x by omega]
  · rw [if_neg h2]
    by_cases h3 : b = 4000 ∧ z = 5 ∧ 12 * g ≤ x ∧ x < 12 * g + 12 ∧ N 13047 x = 1
    · rw [if_pos h3, h3.1, h3.2.1]
      show C 4000 (12 * g + (x - 12 * g)) 5 = _
      rw [show 12 * g + (x - 12 * g) = x by omega]
    · rw [if_neg h3]
      by_cases h4 : b = 4000 ∧ z = 6 ∧ 12 * g ≤ x ∧ x < 12 * g + 12 ∧ N 13047 x = 1
      · rw [if_pos h4, h4.1, h4.2.1]
        show C 4000 (12 * g + (x - 12 * g)) 6 = _
        rw [show 12 * g + (x - 12 * g) = x by omega]
      · rw [if_neg h4]
        by_cases h5 : b = 1000 ∧ x = g ∧ z = 7
        · rw [if_pos h5, h5.1, h5.2.1, h5.2.2]
        · rw [if_neg h5]
theorem dc_cong {F' c' t' : Int → Int} (h1 : ∀ j, 0 ≤ j → j < 12 → N 13047 (12 * g + j) = 1 → F j = F' j) (h2 : ∀ j, 0 ≤ j → j < 12 → N 13047 (12 * g + j) = 1 → c j = c' j) (h3 : ∀ p, 0 ≤ p → p < 9 → gR N g p → t p = t' p) : dcC C N g F c t m = dcC C N g F' c' t' m := by
  funext b x z
  unfold dcC
  by_cases h : b = 9000 ∧ z = 2 ∧ 9 * g ≤ x ∧ x < 9 * g + 9 ∧ gR N g (x - 9 * g)
  · rw [if_pos h, if_pos h, h3 _ (by omega) (by omega) h.2.2.2.2]
  · rw [if_neg h, if_neg h]
    by_cases h' : b = 4000 ∧ z = 5 ∧ 12 * g ≤ x ∧ x < 12 * g + 12 ∧ N 13047 x = 1
    · rw [if_pos h', if_pos h', h2 _ (by omega) (by omega) (by rw [show 12 * g + (x - 12 * g) = x by omega]; exact h'.2.2.2.2)]
    · rw [if_neg h', if_neg h']
      by_cases h4 : b = 4000 ∧ z = 6 ∧ 12 * g ≤ x ∧ x < 12 * g + 12 ∧ N 13047 x = 1
      · rw [if_pos h4, if_pos h4, h1 _ (by omega) (by omega) (by rw [show 12 * g + (x - 12 * g) = x by omega]; exact h4.2.2.2.2)]
      · rw [if_neg h4, if_neg h4]
/-- what the class's side of dealing needs -/
def DG (C : Cd) (N : Nd) (g : Int) : Prop := (C 1000 g 0 = 24000 + g ∧ C 1000 g 1 = 19000 + g ∧ C 1000 g 8 = nsh N g) ∧ (∀ p, 0 ≤ p → p < 9 → C 24000 g p = if gR N g p then 9000 + (9 * g + p) else 0) ∧ (∀ j, 0 ≤ j → j < 12 → C 19000 g j = if N 13047 (12 * g + j) = 1 then 4000 + (12 * g + j) else 0) ∧ (∀ j, 0 ≤ j → j < 12 → N 13047 (12 * g + j) = 1 → C 4000 (12 * g + j) 0 = j) ∧ ∀ j, 0 ≤ j → j < 12 → N 13047 (12 * g + j) = 0 ∨ N 13047 (12 * g + j) = 1
def tgOk (t : Int → Int) : Prop := ∀ p, 0 ≤ p → p < 9 → t p = -1 ∨ (0 ≤ t p ∧ t p < 12)
theorem DG.dc (h : DG C N g) : DG (dcC C N g F c t m) N g := by
  obtain ⟨⟨a1, a2, a3⟩, b, d, e, f⟩ := h
  refine ⟨⟨?_, ?_, ?_⟩, fun p p1 p2 => ?_, fun j j1 j2 => ?_, fun j j1 j2 j3 => ?_, f⟩
  · rw [dc_k (by decide) (by decide) (by decide)]; exact a1
  · rw [dc_k (by decide) (by decide) (by decide)]; exact a2
  · rw [dc_k (by decide) (by decide) (by decide)]; exact a3
  · rw [dc_k (by omega) (by omega) (by omega)]; exact b p p1 p2
  · rw [dc_k (by omega) (by omega) (by omega)]; exact d j j1 j2
  · rw [dc_k (by omega) (by omega) (by omega)]; exact e j j1 j2 j3
end DC
section DCW
variable {C : Cd} {N N0 : Nd} {A : Ad} {g m : Int} {F c t : Int → Int}
theorem d_memberCount (h : DG C N g) (g1 : 0 ≤ g) (g2 : g < 3) : p_X0_memberCount (mk C N0 A) (1000 + g) = some (mcn N g) := by
  have o := h.1.2.1
  unfold p_X0_memberCount
  simp (disch := omega) only [aok, up_s, true_and, false_and, and_true, and_false, if_true, if_false, ↓reduceIte, ↓Option.bind_some, Int.reduceEq, Int.reduceNe, Int.reduceLT, Int.reduceLE, gd_true, gd_false, bind_b, q10, eq_self, reduceCtorEq, not_true_eq_false, not_false_eq_true, ne_eq, cr_11000, cr_15000, cr_16000, cr_20000, cr_20001, cr_21000, cr_22000, cr_25000, cr_1000, cr_2000, cr_3000, cr_3003, cr_3006, cr_4000, cr_5000, cr_6000, cr_7000, cr_8000, cr_9000, cr_10000, cr_13500, cr_17000, cr_17100, cr_17103, cr_17106, cr_19000, cr_20100, cr_21100, cr_23000, cr_24000, cw_11000, cw_15000, cw_16000, cw_20000, cw_20001, cw_21000, cw_22000, cw_25000, cw_1000, cw_2000, cw_3000, cw_3003, cw_3006, cw_4000, cw_5000, cw_6000, cw_7000, cw_8000, cw_9000, cw_10000, cw_13500, cw_17000, cw_17100, cw_17103, cw_17106, cw_19000, cw_20100, cw_21100, cw_23000, cw_24000, lc_13500, lc_15000, lc_16000, lc_17000, lc_17100, lc_17103, lc_17106, lc_19000, lc_20000, lc_20001, lc_20100, lc_21000, lc_21100, lc_22000, lc_23000, lc_24000, lc_25000, gd_t, w_eq, o]
  rw [lp_su (fun b i => (b, i)) (fun j => N 13047 (12 * g + j)) 0 12 1 (fun i i1 i2 => by have := h.2.2.2.2 i i1 (by omega); omega) (by decide) (fun i x i1 i2 a1 a2 => ?_) (t := mcn N g) ?_ (by omega) rfl]
  · rfl
  · unfold b_X0_memberCount_13
    simp (disch := omega) only [if_neg]
    rfl
  · have sh := h.2.2.1 i i1 (by omega)
    have z := h.2.2.2.2 i i1 (by omega)
    unfold b_X0_memberCount_13
    by_cases e : N 13047 (12 * g + i) = 1
    · rw [if_pos e] at sh
      rw [e] at a2 ⊢
      simp (disch := omega) only [aok, up_s, true_and, false_and, and_true, and_false, if_true, if_false, ↓reduceIte, ↓Option.bind_some, Int.reduceEq, Int.reduceNe, Int.reduceLT, Int.reduceLE, gd_true, gd_false, bind_b, q10, eq_self, reduceCtorEq, not_true_eq_false, not_false_eq_true, ne_eq, cr_11000, cr_15000, cr_16000, cr_20000, cr_20001, cr_21000, cr_22000, cr_25000, cr_1000, cr_2000, cr_3000, cr_3003, cr_3006, cr_4000, cr_5000, cr_6000, cr_7000, cr_8000, cr_9000, cr_10000, cr_13500, cr_17000, cr_17100, cr_17103, cr_17106, cr_19000, cr_20100, cr_21100, cr_23000, cr_24000, cw_11000, cw_15000, cw_16000, cw_20000, cw_20001, cw_21000, cw_22000, cw_25000, cw_1000, cw_2000, cw_3000, cw_3003, cw_3006, cw_4000, cw_5000, cw_6000, cw_7000, cw_8000, cw_9000, cw_10000, cw_13500, cw_17000, cw_17100, cw_17103, cw_17106, cw_19000, cw_20100, cw_21100, cw_23000, cw_24000, lc_13500, lc_15000, lc_16000, lc_17000, lc_17100, lc_17103, lc_17106, lc_19000, lc_20000, lc_20001, lc_20100, lc_21000, lc_21100, lc_22000, lc_23000, lc_24000, lc_25000, gd_t, w_eq, sh, if_pos, if_neg]
    · have e0 : N 13047 (12 * g + i) = 0 := by omega
      rw [if_neg e] at sh
      rw [e0]
      simp (disch := omega) only [aok, up_s, true_and, false_and, and_true, and_false, if_true, if_false, ↓reduceIte, ↓Option.bind_some, Int.reduceEq, Int.reduceNe, Int.reduceLT, Int.reduceLE, gd_true, gd_false, bind_b, q10, eq_self, reduceCtorEq, not_true_eq_false, not_false_eq_true, ne_eq, cr_11000, cr_15000, cr_16000, cr_20000, cr_20001, cr_21000, cr_22000, cr_25000, cr_1000, cr_2000, cr_3000, cr_3003, cr_3006, cr_4000, cr_5000, cr_6000, cr_7000, cr_8000, cr_9000, cr_10000, cr_13500, cr_17000, cr_17100, cr_17103, cr_17106, cr_19000, cr_20100, cr_21100, cr_23000, cr_24000, cw_11000, cw_15000, cw_16000, cw_20000, cw_20001, cw_21000, cw_22000, cw_25000, cw_1000, cw_2000, cw_3000, cw_3003, cw_3006, cw_4000, cw_5000, cw_6000, cw_7000, cw_8000, cw_9000, cw_10000, cw_13500, cw_17000, cw_17100, cw_17103, cw_17106, cw_19000, cw_20100, cw_21100, cw_23000, cw_24000, lc_13500, lc_15000, lc_16000, lc_17000, lc_17100, lc_17103, lc_17106, lc_19000, lc_20000, lc_20001, lc_20100, lc_21000, lc_21100, lc_22000, lc_23000, lc_24000, lc_25000, gd_t, w_eq, sh, if_pos, Int.add_zero]
def tct (N : Nd) (g : Int) (t : Int → Int) (j : Int) : Int := su (fun p => if gR N g p ∧ t p = j then 1 else 0) 0 9
theorem d_targetCount {j : Int} (h : DG C N g) (tk : tgOk t) (g1 : 0 ≤ g) (g2 : g < 3) (j1 : 0 ≤ j) (j2 : j < 12) : p_X0_targetCount (mk (dcC C N g F c t m) N0 A) (1000 + g) (4000 + (12 * g + j)) = some (tct N g t j) := by
  have hd := h.dc (F := F) (c := c) (t := t) (m := m)
  have o := hd.1.1
  unfold p_X0_targetCount tct
  simp (disch := omega) only [aok, up_s, true_and, false_and, and_true, and_false, if_true, if_false, ↓reduceIte, ↓Option.bind_some, Int.reduceEq, Int.reduceNe, Int.reduceLT, Int.reduceLE, gd_true, gd_false, bind_b, q10, eq_self, reduceCtorEq, not_true_eq_false, not_false_eq_true, ne_eq, cr_11000, cr_15000, cr_16000, cr_20000, cr_20001, cr_21000, cr_22000, cr_25000, cr_1000, cr_2000, cr_3000, cr_3003, cr_3006, cr_4000, cr_5000, cr_6000, cr_7000, cr_8000, cr_9000, cr_10000, cr_13500, cr_17000, cr_17100, cr_17103, cr_17106, cr_19000, cr_20100, cr_21100, cr_23000, cr_24000, cw_11000, cw_15000, cw_16000, cw_20000, cw_20001, cw_21000, cw_22000, cw_25000, cw_1000, cw_2000, cw_3000, cw_3003, cw_3006, cw_4000, cw_5000, cw_6000, cw_7000, cw_8000, cw_9000, cw_10000, cw_13500, cw_17000, cw_17100, cw_17103, cw_17106, cw_19000, cw_20100, cw_21100, cw_23000, cw_24000, lc_13500, lc_15000, lc_16000, lc_17000, lc_17100, lc_17103, lc_17106, lc_19000, lc_20000, lc_20001, lc_20100, lc_21000, lc_21100, lc_22000, lc_23000, lc_24000, lc_25000, gd_t, w_eq, o]
  rw [lp_su (fun b i => (b, i)) (fun p => if gR N g p ∧ t p = j then 1 else 0) 0 9 1 (fun _ _ _ => ite_b) (by decide) (fun i x i1 i2 a1 a2 => ?_) (t := su (fun p => if gR N g p ∧ t p = j then 1 else 0) 0 9) ?_ (by omega) rfl]
  · rfl
  · unfold b_X0_targetCount_14
    simp (disch := omega) only [if_neg]
  · have sh := hd.2.1 i i1 (by omega)
    have oe := obj_eq (g := g) (j := j) (tk i i1 (by omega)) g1 j1
    unfold b_X0_targetCount_14
    by_cases r : gR N g i
    · have s1 := dc_t (C := C) (F := F) (c := c) (t := t) (m := m) (show i < 9 by omega) r
      rw [if_pos r] at sh
      by_cases e : t i = j
      · have z : gR N g i ∧ t i = j := ⟨r, e⟩
        have oe2 := oe.mpr e
        rw [if_pos z] at a2
        rw [if_pos z]
        simp (disch := omega) only [aok, up_s, true_and, false_and, and_true, and_false, if_true, if_false, ↓reduceIte, ↓Option.bind_some, Int.reduceEq, Int.reduceNe, Int.reduceLT, Int.reduceLE, gd_true, gd_false, bind_b, q10, eq_self, reduceCtorEq, not_true_eq_false, not_false_eq_true, ne_eq, cr_11000, cr_15000, cr_16000, cr_20000, cr_20001, cr_21000, cr_22000, cr_25000, cr_1000, cr_2000, cr_3000, cr_3003, cr_3006, cr_4000, cr_5000, cr_6000, cr_7000, cr_8000, cr_9000, cr_10000, cr_13500, cr_17000, cr_17100, cr_17103, cr_17106, cr_19000, cr_20100, cr_21100, cr_23000, cr_24000, cw_11000, cw_15000, cw_16000, cw_20000, cw_20001, cw_21000, cw_22000, cw_25000, cw_1000, cw_2000, cw_3000, cw_3003, cw_3006, cw_4000, cw_5000, cw_6000, cw_7000, cw_8000, cw_9000, cw_10000, cw_13500, cw_17000, cw_17100, cw_17103, cw_17106, cw_19000, cw_20100, cw_21100, cw_23000, cw_24000, lc_13500, lc_15000, lc_16000, lc_17000, lc_17100, lc_17103, lc_17106, lc_19000, lc_20000, lc_20001, lc_20100, lc_21000, lc_21100, lc_22000, lc_23000, lc_24000, lc_25000, gd_t, w_eq, sh, s1, oe2, if_pos, if_neg]
      · have oe2 : ¬ obj g (t i) = 4000 + (12 * g + j) := fun z => e (oe.mp z)
        rw [if_neg (show ¬ (gR N g i ∧ t i = j) from fun z => e z.2)]
        simp (disch := omega) only [aok, up_s, true_and, false_and, and_true, and_false, if_true, if_false, ↓reduceIte, ↓Option.bind_some, Int.reduceEq, Int.reduceNe, Int.reduceLT, Int.reduceLE, gd_true, gd_false, bind_b, q10, eq_self, reduceCtorEq, not_true_eq_false, not_false_eq_true, ne_eq, cr_11000, cr_15000, cr_16000, cr_20000, cr_20001, cr_21000, cr_22000, cr_25000, cr_1000, cr_2000, cr_3000, cr_3003, cr_3006, cr_4000, cr_5000, cr_6000, cr_7000, cr_8000, cr_9000, cr_10000, cr_13500, cr_17000, cr_17100, cr_17103, cr_17106, cr_19000, cr_20100, cr_21100, cr_23000, cr_24000, cw_11000, cw_15000, cw_16000, cw_20000, cw_20001, cw_21000, cw_22000, cw_25000, cw_1000, cw_2000, cw_3000, cw_3003, cw_3006, cw_4000, cw_5000, cw_6000, cw_7000, cw_8000, cw_9000, cw_10000, cw_13500, cw_17000, cw_17100, cw_17103, cw_17106, cw_19000, cw_20100, cw_21100, cw_23000, cw_24000, lc_13500, lc_15000, lc_16000, lc_17000, lc_17100, lc_17103, lc_17106, lc_19000, lc_20000, lc_20001, lc_20100, lc_21000, lc_21100, lc_22000, lc_23000, lc_24000, lc_25000, gd_t, w_eq, sh, s1, oe2, if_pos, if_neg, Int.add_zero]
    · rw [if_neg r] at sh
      rw [if_neg (show ¬ (gR N g i ∧ t i = j) from fun z => r z.1)]
      simp (disch := omega) only [aok, up_s, true_and, false_and, and_true, and_false, if_true, if_false, ↓reduceIte, ↓Option.bind_some, Int.reduceEq, Int.reduceNe, Int.reduceLT, Int.reduceLE, gd_true, gd_false, bind_b, q10, eq_self, reduceCtorEq, not_true_eq_false, not_false_eq_true, ne_eq, cr_11000, cr_15000, cr_16000, cr_20000, cr_20001, cr_21000, cr_22000, cr_25000, cr_1000, cr_2000, cr_3000, cr_3003, cr_3006, cr_4000, cr_5000, cr_6000, cr_7000, cr_8000, cr_9000, cr_10000, cr_13500, cr_17000, cr_17100, cr_17103, cr_17106, cr_19000, cr_20100, cr_21100, cr_23000, cr_24000, cw_11000, cw_15000, cw_16000, cw_20000, cw_20001, cw_21000, cw_22000, cw_25000, cw_1000, cw_2000, cw_3000, cw_3003, cw_3006, cw_4000, cw_5000, cw_6000, cw_7000, cw_8000, cw_9000, cw_10000, cw_13500, cw_17000, cw_17100, cw_17103, cw_17106, cw_19000, cw_20100, cw_21100, cw_23000, cw_24000, lc_13500, lc_15000, lc_16000, lc_17000, lc_17100, lc_17103, lc_17106, lc_19000, lc_20000, lc_20001, lc_20100, lc_21000, lc_21100, lc_22000, lc_23000, lc_24000, lc_25000, gd_t, w_eq, sh, if_pos, Int.add_zero]
theorem tct_b {j : Int} : 0 ≤ tct N g t j ∧ tct N g t j ≤ 9 := by
  have := @su_b (fun p => if gR N g p ∧ t p = j then 1 else 0) 0 9 1 (fun _ _ _ => ite_b)
  unfold tct
  omega
theorem d_rank {j : Int} {T : Int → Int} (h : DG C N g) (g1 : 0 ≤ g) (g2 : g < 3) (j1 : 0 ≤ j) (j2 : j < 12) (hj : N 13047 (12 * g + j) = 1) : p_X0_rankOf (mk (dcC C N g F T t m) N0 A) (1000 + g) (4000 + (12 * g + j)) = some (rk T (shI N g) j) := by
  have hd := h.dc (F := F) (c := T) (t := t) (m := m)
  have o := hd.1.2.1
  have cj := dc_c (C := C) (F := F) (c := T) (t := t) (m := m) j1 j2 hj
  have nj := hd.2.2.2.1 j j1 j2 hj
  unfold p_X0_rankOf rk
  simp (disch := omega) only [aok, up_s, true_and, false_and, and_true, and_false, if_true, if_false, ↓reduceIte, ↓Option.bind_some, Int.reduceEq, Int.reduceNe, Int.reduceLT, Int.reduceLE, gd_true, gd_false, bind_b, q10, eq_self, reduceCtorEq, not_true_eq_false, not_false_eq_true, ne_eq, cr_11000, cr_15000, cr_16000, cr_20000, cr_20001, cr_21000, cr_22000, cr_25000, cr_1000, cr_2000, cr_3000, cr_3003, cr_3006, cr_4000, cr_5000, cr_6000, cr_7000, cr_8000, cr_9000, cr_10000, cr_13500, cr_17000, cr_17100, cr_17103, cr_17106, cr_19000, cr_20100, cr_21100, cr_23000, cr_24000, cw_11000, cw_15000, cw_16000, cw_20000, cw_20001, cw_21000, cw_22000, cw_25000, cw_1000, cw_2000, cw_3000, cw_3003, cw_3006, cw_4000, cw_5000, cw_6000, cw_7000, cw_8000, cw_9000, cw_10000, cw_13500, cw_17000, cw_17100, cw_17103, cw_17106, cw_19000, cw_20100, cw_21100, cw_23000, cw_24000, lc_13500, lc_15000, lc_16000, lc_17000, lc_17100, lc_17103, lc_17106, lc_19000, lc_20000, lc_20001, lc_20100, lc_21000, lc_21100, lc_22000, lc_23000, lc_24000, lc_25000, gd_t, w_eq, o]
  rw [lp_su (fun b i => (b, i)) (fun i => if shI N g i = 1 ∧ ah T i j then 1 else 0) 0 12 1 (fun _ _ _ => ite_b) (by decide) (fun i x i1 i2 a1 a2 => ?_) (t := su (fun i => if shI N g i = 1 ∧ ah T i j then 1 else 0) 0 12) ?_ (by omega) rfl]
  · rfl
  · unfold b_X0_rankOf_14
    simp (disch := omega) only [if_neg]
  · have sh := hd.2.2.1 i i1 (by omega)
    have nz : ¬ 4000 + (12 * g + j) = 0 := by omega
    have lt : i < 12 := by omega
    unfold b_X0_rankOf_14
    by_cases e : N 13047 (12 * g + i) = 1
    · have ci := dc_c (C := C) (F := F) (c := T) (t := t) (m := m) i1 (show i < 12 by omega) e
      have ni := hd.2.2.2.1 i i1 (by omega) e
      have nz2 : ¬ 4000 + (12 * g + i) = 0 := by omega
      rw [if_pos e] at sh
      by_cases q : T j < T i
      · have z : shI N g i = 1 ∧ ah T i j := ⟨e, Or.inl q⟩
        rw [if_pos z] at a2
        rw [if_pos z]
        simp (disch := omega) only [aok, up_s, true_and, false_and, and_true, and_false, if_true, if_false, ↓reduceIte, ↓Option.bind_some, Int.reduceEq, Int.reduceNe, Int.reduceLT, Int.reduceLE, gd_true, gd_false, bind_b, q10, eq_self, reduceCtorEq, not_true_eq_false, not_false_eq_true, ne_eq, cr_11000, cr_15000, cr_16000, cr_20000, cr_20001, cr_21000, cr_22000, cr_25000, cr_1000, cr_2000, cr_3000, cr_3003, cr_3006, cr_4000, cr_5000, cr_6000, cr_7000, cr_8000, cr_9000, cr_10000, cr_13500, cr_17000, cr_17100, cr_17103, cr_17106, cr_19000, cr_20100, cr_21100, cr_23000, cr_24000, cw_11000, cw_15000, cw_16000, cw_20000, cw_20001, cw_21000, cw_22000, cw_25000, cw_1000, cw_2000, cw_3000, cw_3003, cw_3006, cw_4000, cw_5000, cw_6000, cw_7000, cw_8000, cw_9000, cw_10000, cw_13500, cw_17000, cw_17100, cw_17103, cw_17106, cw_19000, cw_20100, cw_21100, cw_23000, cw_24000, lc_13500, lc_15000, lc_16000, lc_17000, lc_17100, lc_17103, lc_17106, lc_19000, lc_20000, lc_20001, lc_20100, lc_21000, lc_21100, lc_22000, lc_23000, lc_24000, lc_25000, gd_t, w_eq, lt, sh, cj, ci, q, nz, nz2]
      · by_cases q2 : T i = T j
        · by_cases q3 : i < j
          · have z : shI N g i = 1 ∧ ah T i j := ⟨e, Or.inr ⟨q2, q3⟩⟩
            rw [if_pos z] at a2
            rw [if_pos z]
            simp (disch := omega) only [aok, up_s, true_and, false_and, and_true, and_false, if_true, if_false, ↓reduceIte, ↓Option.bind_some, Int.reduceEq, Int.reduceNe, Int.reduceLT, Int.reduceLE, gd_true, gd_false, bind_b, q10, eq_self, reduceCtorEq, not_true_eq_false, not_false_eq_true, ne_eq, cr_11000, cr_15000, cr_16000, cr_20000, cr_20001, cr_21000, cr_22000, cr_25000, cr_1000, cr_2000, cr_3000, cr_3003, cr_3006, cr_4000, cr_5000, cr_6000, cr_7000, cr_8000, cr_9000, cr_10000, cr_13500, cr_17000, cr_17100, cr_17103, cr_17106, cr_19000, cr_20100, cr_21100, cr_23000, cr_24000, cw_11000, cw_15000, cw_16000, cw_20000, cw_20001, cw_21000, cw_22000, cw_25000, cw_1000, cw_2000, cw_3000, cw_3003, cw_3006, cw_4000, cw_5000, cw_6000, cw_7000, cw_8000, cw_9000, cw_10000, cw_13500, cw_17000, cw_17100, cw_17103, cw_17106, cw_19000, cw_20100, cw_21100, cw_23000, cw_24000, lc_13500, lc_15000, lc_16000, lc_17000, lc_17100, lc_17103, lc_17106, lc_19000, lc_20000, lc_20001, lc_20100, lc_21000, lc_21100, lc_22000, lc_23000, lc_24000, lc_25000, gd_t, w_eq, lt, sh, cj, ci, q, q2, Int.lt_irrefl, nj, ni, q3, nz, nz2]
          · rw [if_neg (show ¬ (shI N g i = 1 ∧ ah T i j) from fun z => by have := z.2; omega)]
            simp (disch := omega) only [aok, up_s, true_and, false_and, and_true, and_false, if_true, if_false, ↓reduceIte, ↓Option.bind_some, Int.reduceEq, Int.reduceNe, Int.reduceLT, Int.reduceLE, gd_true, gd_false, bind_b, q10, eq_self, reduceCtorEq, not_true_eq_false, not_false_eq_true, ne_eq, cr_11000, cr_15000, cr_16000, cr_20000, cr_20001, cr_21000, cr_22000, cr_25000, cr_1000, cr_2000, cr_3000, cr_3003, cr_3006, cr_4000, cr_5000, cr_6000, cr_7000, cr_8000, cr_9000, cr_10000, cr_13500, cr_17000, cr_17100, cr_17103, cr_17106, cr_19000, cr_20100, cr_21100, cr_23000, cr_24000, cw_11000, cw_15000, cw_16000, cw_20000, cw_20001, cw_21000, cw_22000, cw_25000, cw_1000, cw_2000, cw_3000, cw_3003, cw_3006, cw_4000, cw_5000, cw_6000, cw_7000, cw_8000, cw_9000, cw_10000, cw_13500, cw_17000, cw_17100, cw_17103, cw_17106, cw_19000, cw_20100, cw_21100, cw_23000, cw_24000, lc_13500, lc_15000, lc_16000, lc_17000, lc_17100, lc_17103, lc_17106, lc_19000, lc_20000, lc_20001, lc_20100, lc_21000, lc_21100, lc_22000, lc_23000, lc_24000, lc_25000, gd_t, w_eq, lt, sh, cj, ci, q, q2, Int.lt_irrefl, nj, ni, q3, Int.add_zero, nz, nz2]
        · rw [if_neg (show ¬ (shI N g i = 1 ∧ ah T i j) from fun z => by have := z.2; omega)]
          simp (disch := omega) only [aok, up_s, true_and, false_and, and_true, and_false, if_true, if_false, ↓reduceIte, ↓Option.bind_some, Int.reduceEq, Int.reduceNe, Int.reduceLT, Int.reduceLE, gd_true, gd_false, bind_b, q10, eq_self, reduceCtorEq, not_true_eq_false, not_false_eq_true, ne_eq, cr_11000, cr_15000, cr_16000, cr_20000, cr_20001, cr_21000, cr_22000, cr_25000, cr_1000, cr_2000, cr_3000, cr_3003, cr_3006, cr_4000, cr_5000, cr_6000, cr_7000, cr_8000, cr_9000, cr_10000, cr_13500, cr_17000, cr_17100, cr_17103, cr_17106, cr_19000, cr_20100, cr_21100, cr_23000, cr_24000, cw_11000, cw_15000, cw_16000, cw_20000, cw_20001, cw_21000, cw_22000, cw_25000, cw_1000, cw_2000, cw_3000, cw_3003, cw_3006, cw_4000, cw_5000, cw_6000, cw_7000, cw_8000, cw_9000, cw_10000, cw_13500, cw_17000, cw_17100, cw_17103, cw_17106, cw_19000, cw_20100, cw_21100, cw_23000, cw_24000, lc_13500, lc_15000, lc_16000, lc_17000, lc_17100, lc_17103, lc_17106, lc_19000, lc_20000, lc_20001, lc_20100, lc_21000, lc_21100, lc_22000, lc_23000, lc_24000, lc_25000, gd_t, w_eq, lt, sh, cj, ci, q, q2, Int.add_zero, nz, nz2]
    · rw [if_neg e] at sh
      rw [if_neg (show ¬ (shI N g i = 1 ∧ ah T i j) from fun z => e z.1)]
      simp (disch := omega) only [aok, up_s, true_and, false_and, and_true, and_false, if_true, if_false, ↓reduceIte, ↓Option.bind_some, Int.reduceEq, Int.reduceNe, Int.reduceLT, Int.reduceLE, gd_true, gd_false, bind_b, q10, eq_self, reduceCtorEq, not_true_eq_false, not_false_eq_true, ne_eq, cr_11000, cr_15000, cr_16000, cr_20000, cr_20001, cr_21000, cr_22000, cr_25000, cr_1000, cr_2000, cr_3000, cr_3003, cr_3006, cr_4000, cr_5000, cr_6000, cr_7000, cr_8000, cr_9000, cr_10000, cr_13500, cr_17000, cr_17100, cr_17103, cr_17106, cr_19000, cr_20100, cr_21100, cr_23000, cr_24000, cw_11000, cw_15000, cw_16000, cw_20000, cw_20001, cw_21000, cw_22000, cw_25000, cw_1000, cw_2000, cw_3000, cw_3003, cw_3006, cw_4000, cw_5000, cw_6000, cw_7000, cw_8000, cw_9000, cw_10000, cw_13500, cw_17000, cw_17100, cw_17103, cw_17106, cw_19000, cw_20100, cw_21100, cw_23000, cw_24000, lc_13500, lc_15000, lc_16000, lc_17000, lc_17100, lc_17103, lc_17106, lc_19000, lc_20000, lc_20001, lc_20100, lc_21000, lc_21100, lc_22000, lc_23000, lc_24000, lc_25000, gd_t, w_eq, lt, sh, if_pos, Int.add_zero]
end DCW
