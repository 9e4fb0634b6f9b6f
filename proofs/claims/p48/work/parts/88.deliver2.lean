/-! PURE PART, 88: read: a delivery -/
def dlN (N : Nd) (g j m t fr : Int) : Nd := up (up (up (up (up N 13052 (9 * (12 * g + j) + N 13051 (12 * g + j)) m) 13053 (9 * (12 * g + j) + N 13051 (12 * g + j)) t) 13054 (9 * (12 * g + j) + N 13051 (12 * g + j)) fr) 13051 (12 * g + j) (N 13051 (12 * g + j) + 1)) 13064 (150 * g + m) (w (N 13064 (150 * g + m) + 1))
def fcv (C : Cd) (g m : Int) : Int := if C 2000 (150 * g + m) 6 = 0 then C 1000 g 9 + 1 else C 1000 g 9
def fdv (C : Cd) (g m : Int) : Int := if C 2000 (150 * g + m) 6 = 0 then C 1000 g 9 + 1 else C 2000 (150 * g + m) 6
def dlC (C : Cd) (g j m fr n : Int) : Cd := uq (uq (uq (uq (uq (uq (uq C 2000 (150 * g + m) 1 2) 2000 (150 * g + m) 4 fr) 2000 (150 * g + m) 5 (w (C 2000 (150 * g + m) 5 + 1))) 1000 g 9 (fcv C g m)) 2000 (150 * g + m) 6 (fdv C g m)) 17106 (12 * g + j) n (2000 + (150 * g + m))) 3006 (12 * g + j) 1 (n + 1)
theorem uq_id {C : Cd} {b i j v : Int} (h : C b i j = v) : uq C b i j v = C := by
  funext b' i' j'
  rw [uq_s]
  split
  · rename_i z; rw [z.1, z.2.1, z.2.2, h]
  · rfl
section DLV
variable {C : Cd} {N N0 : Nd} {A : Ad} {g j m n t fr : Int}
theorem dl_k {b i z : Int} (h1 : ¬ (b = 2000 ∧ i = 150 * g + m ∧ (z = 1 ∨ z = 4 ∨ z = 5 ∨ z = 6))) (h2 : ¬ (b = 1000 ∧ i = g ∧ z = 9)) (h3 : ¬ (b = 17106 ∧ i = 12 * g + j ∧ z = n)) (h4 : ¬ (b = 3006 ∧ i = 12 * g + j ∧ z = 1)) : dlC C g j m fr n b i z = C b i z := by
  unfold dlC
  rw [uq_s, if_neg h4, uq_s, if_neg h3, uq_s, if_neg (by omega), uq_s, if_neg h2, uq_s, if_neg (by omega), uq_s, if_neg (by omega), uq_s, if_neg (by omega)]
theorem dl_1 : dlC C g j m fr n 2000 (150 * g + m) 1 = 2 := by unfold dlC; simp only [uq_s, up_s, true_and, false_and, and_true, and_false, if_true, if_false, ↓reduceIte, ↓Option.bind_some, Int.reduceEq, Int.reduceNe, Int.reduceLT, Int.reduceLE, gd_true, gd_false, bind_b, q10, eq_self, reduceCtorEq, not_true_eq_false, not_false_eq_true, ne_eq]
theorem dl_4 : dlC C g j m fr n 2000 (150 * g + m) 4 = fr := by unfold dlC; simp only [uq_s, up_s, true_and, false_and, and_true, and_false, if_true, if_false, ↓reduceIte, ↓Option.bind_some, Int.reduceEq, Int.reduceNe, Int.reduceLT, Int.reduceLE, gd_true, gd_false, bind_b, q10, eq_self, reduceCtorEq, not_true_eq_false, not_false_eq_true, ne_eq]
theorem dl_5 : dlC C g j m fr n 2000 (150 * g + m) 5 = w (C 2000 (150 * g + m) 5 + 1) := by unfold dlC; simp only [uq_s, up_s, true_and, false_and, and_true, and_false, if_true, if_false, ↓reduceIte, ↓Option.bind_some, Int.reduceEq, Int.reduceNe, Int.reduceLT, Int.reduceLE, gd_true, gd_false, bind_b, q10, eq_self, reduceCtorEq, not_true_eq_false, not_false_eq_true, ne_eq]
theorem dl_6 : dlC C g j m fr n 2000 (150 * g + m) 6 = fdv C g m := by unfold dlC; simp only [uq_s, up_s, true_and, false_and, and_true, and_false, if_true, if_false, ↓reduceIte, ↓Option.bind_some, Int.reduceEq, Int.reduceNe, Int.reduceLT, Int.reduceLE, gd_true, gd_false, bind_b, q10, eq_self, reduceCtorEq, not_true_eq_false, not_false_eq_true, ne_eq]
theorem dl_9 : dlC C g j m fr n 1000 g 9 = fcv C g m := by unfold dlC; simp only [uq_s, up_s, true_and, false_and, and_true, and_false, if_true, if_false, ↓reduceIte, ↓Option.bind_some, Int.reduceEq, Int.reduceNe, Int.reduceLT, Int.reduceLE, gd_true, gd_false, bind_b, q10, eq_self, reduceCtorEq, not_true_eq_false, not_false_eq_true, ne_eq]
theorem dl_l : dlC C g j m fr n 17106 (12 * g + j) n = 2000 + (150 * g + m) := by unfold dlC; simp only [uq_s, up_s, true_and, false_and, and_true, and_false, if_true, if_false, ↓reduceIte, ↓Option.bind_some, Int.reduceEq, Int.reduceNe, Int.reduceLT, Int.reduceLE, gd_true, gd_false, bind_b, q10, eq_self, reduceCtorEq, not_true_eq_false, not_false_eq_true, ne_eq]
theorem dl_n : dlC C g j m fr n 3006 (12 * g + j) 1 = n + 1 := by unfold dlC; simp only [uq_s, up_s, true_and, false_and, and_true, and_false, if_true, if_false, ↓reduceIte, ↓Option.bind_some, Int.reduceEq, Int.reduceNe, Int.reduceLT, Int.reduceLE, gd_true, gd_false, bind_b, q10, eq_self, reduceCtorEq, not_true_eq_false, not_false_eq_true, ne_eq]
theorem KG.dl (g1 : 0 ≤ g) (j1 : 0 ≤ j) (j2 : j < 12) (m1 : 0 ≤ m) (m2 : m < 150) : KG g C (dlC C g j m fr n) := fun b i z h => by
  unfold inG at h
  exact dl_k (by omega) (by omega) (by omega) (by omega)
theorem MG.dl (j1 : 0 ≤ j) (j2 : j < 12) (m1 : 0 ≤ m) (m2 : m < 150) (h : 0 ≤ N 13051 (12 * g + j) ∧ N 13051 (12 * g + j) < 9) : MG g N (dlN N g j m t fr) :=
  ((((MG.rf.up (by unfold inN; omega)).up (by unfold inN; omega)).up (by unfold inN; omega)).up (by unfold inN; omega)).up (by unfold inN; omega)
theorem dn_ar {b : Int} (h : ¬ (13051 ≤ b ∧ b ≤ 13054)) (h2 : b ≠ 13064) : dlN N g j m t fr b = N b := by
  funext i
  unfold dlN
  rw [up_s, if_neg (by omega), up_s, if_neg (by omega), up_s, if_neg (by omega), up_s, if_neg (by omega), up_s, if_neg (by omega)]
theorem dn_s {x : Int} : dlN N g j m t fr 13064 (150 * g + x) = if x = m then w (N 13064 (150 * g + m) + 1) else N 13064 (150 * g + x) := by
  unfold dlN
  simp only [up_s, up_s, true_and, false_and, and_true, and_false, if_true, if_false, ↓reduceIte, ↓Option.bind_some, Int.reduceEq, Int.reduceNe, Int.reduceLT, Int.reduceLE, gd_true, gd_false, bind_b, q10, eq_self, reduceCtorEq, not_true_eq_false, not_false_eq_true, ne_eq]
  by_cases e : x = m
  · rw [if_pos e, if_pos (by omega)]
  · rw [if_neg e, if_neg (by omega)]
theorem dn_n {z : Int} : hn (dlN N g j m t fr) g z = if z = j then hn N g j + 1 else hn N g z := by
  show dlN N g j m t fr 13051 (12 * g + z) = _
  unfold dlN
  simp only [up_s, up_s, true_and, false_and, and_true, and_false, if_true, if_false, ↓reduceIte, ↓Option.bind_some, Int.reduceEq, Int.reduceNe, Int.reduceLT, Int.reduceLE, gd_true, gd_false, bind_b, q10, eq_self, reduceCtorEq, not_true_eq_false, not_false_eq_true, ne_eq]
  by_cases e : z = j
  · rw [if_pos e, if_pos (by omega)]
  · rw [if_neg e, if_neg (by omega)]
theorem dn_h {z i : Int} (h : 0 ≤ hn N g j ∧ hn N g j < 9) (i1 : 0 ≤ i) (i2 : i < 9) : hf (dlN N g j m t fr) g z i = (if z = j ∧ i = hn N g j then m else hf N g z i) ∧ dlN N g j m t fr 13053 (9 * (12 * g + z) + i) = (if z = j ∧ i = hn N g j then t else N 13053 (9 * (12 * g + z) + i)) ∧ dlN N g j m t fr 13054 (9 * (12 * g + z) + i) = (if z = j ∧ i = hn N g j then fr else N 13054 (9 * (12 * g + z) + i)) := by
  have hh : hn N g j = N 13051 (12 * g + j) := rfl
  show dlN N g j m t fr 13052 (9 * (12 * g + z) + i) = _ ∧ _
  unfold dlN
  simp only [up_s, up_s, true_and, false_and, and_true, and_false, if_true, if_false, ↓reduceIte, ↓Option.bind_some, Int.reduceEq, Int.reduceNe, Int.reduceLT, Int.reduceLE, gd_true, gd_false, bind_b, q10, eq_self, reduceCtorEq, not_true_eq_false, not_false_eq_true, ne_eq]
  by_cases e : z = j ∧ i = hn N g j
  · rw [if_pos e, if_pos e, if_pos e, if_pos (by omega)]
    exact ⟨rfl, if_pos (by omega), if_pos (by omega)⟩
  · rw [if_neg e, if_neg e, if_neg e, if_neg (by omega)]
    exact ⟨rfl, if_neg (by omega), if_neg (by omega)⟩
theorem m_gDelivers {C' : Cd} {A' : Ad} (g1 : 0 ≤ g) (g2 : g < 3) (j1 : 0 ≤ j) (j2 : j < 12) (m1 : 0 ≤ m) (m2 : m < 150) (h : 0 ≤ N 13051 (12 * g + j) ∧ N 13051 (12 * g + j) < 9) : p_X11_gDelivers (mk C' N A') 12000 g j m t fr = some (mk C' (dlN N g j m t fr) A') := by
  unfold p_X11_gDelivers dlN
  simp (disch := omega) only [aok, up_s, true_and, false_and, and_true, and_false, if_true, if_false, ↓reduceIte, ↓Option.bind_some, Int.reduceEq, Int.reduceNe, Int.reduceLT, Int.reduceLE, gd_true, gd_false, bind_b, q10, eq_self, reduceCtorEq, not_true_eq_false, not_false_eq_true, ne_eq, pt_0, pt_1, pt_2, pt_3, pt_4, pt_5, pt_6, pt_7, pt_8, pt_9, pt_10, pt_11, pt_12, pt_13, pt_14, pt_15, pt_16, pt_17, pt_18, pt_19, pt_20, pt_21, pt_22, pt_23, pt_24, pt_25, pt_26, pt_27, pt_28, pt_29, pt_30, pt_31, pt_32, pt_33, pt_34, pt_35, pt_36, pt_37, pt_38, pt_39, pt_40, pt_41, pt_42, pt_43, pt_44, pt_45, pt_46, pt_47, pt_48, pt_49, pt_50, pt_51, pt_52, pt_53, pt_54, pt_55, pt_56, pt_57, pt_58, pt_59, pt_60, pt_61, pt_62, pt_63, pt_64, pt_65, pt_66, pt_67, pa_13005, pw_13005, pa_13006, pw_13006, pa_13007, pw_13007, pa_14008, pw_14008, pa_13009, pw_13009, pa_13010, pw_13010, pa_13012, pw_13012, pa_13013, pw_13013, pa_13014, pw_13014, pa_13015, pw_13015, pa_13016, pw_13016, pa_13017, pw_13017, pa_13018, pw_13018, pa_13020, pw_13020, pa_13021, pw_13021, pa_13022, pw_13022, pa_13023, pw_13023, pa_13024, pw_13024, pa_13025, pw_13025, pa_13026, pw_13026, pa_13027, pw_13027, pa_13028, pw_13028, pa_13029, pw_13029, pa_13031, pw_13031, pa_13032, pw_13032, pa_13033, pw_13033, pa_14034, pw_14034, pa_13035, pw_13035, pa_13036, pw_13036, pa_13037, pw_13037, pa_13038, pw_13038, pa_13039, pw_13039, pa_13042, pw_13042, pa_13043, pw_13043, pa_13044, pw_13044, pa_13045, pw_13045, pa_13046, pw_13046, pa_13047, pw_13047, pa_13048, pw_13048, pa_13049, pw_13049, pa_13050, pw_13050, pa_13051, pw_13051, pa_13052, pw_13052, pa_13053, pw_13053, pa_13054, pw_13054, pa_13055, pw_13055, pa_13056, pw_13056, pa_13057, pw_13057, pa_13058, pw_13058, pa_13059, pw_13059, pa_13060, pw_13060, pa_13061, pw_13061, pa_13062, pw_13062, pa_13063, pw_13063, pa_13064, pw_13064, pa_13065, pw_13065, pa_13066, pw_13066, pa_13067, pw_13067, ps_0, ps_1, ps_2, ps_3, ps_4, ps_11, ps_19, ps_30, ps_40, ps_41, ln_13005, ln_13006, ln_13007, ln_14008, ln_13009, ln_13010, ln_13012, ln_13013, ln_13014, ln_13015, ln_13016, ln_13017, ln_13018, ln_13020, ln_13021, ln_13022, ln_13023, ln_13024, ln_13025, ln_13026, ln_13027, ln_13028, ln_13029, ln_13031, ln_13032, ln_13033, ln_14034, ln_13035, ln_13036, ln_13037, ln_13038, ln_13039, ln_13042, ln_13043, ln_13044, ln_13045, ln_13046, ln_13047, ln_13048, ln_13049, ln_13050, ln_13051, ln_13052, ln_13053, ln_13054, ln_13055, ln_13056, ln_13057, ln_13058, ln_13059, ln_13060, ln_13061, ln_13062, ln_13063, ln_13064, ln_13065, ln_13066, ln_13067, gd_t, w_eq]
theorem c_deliver {f : Int → Int} (g1 : 0 ≤ g) (g2 : g < 3) (j1 : 0 ≤ j) (j2 : j < 12) (m1 : 0 ≤ m) (m2 : m < 150) (hm : C 4000 (12 * g + j) 1 = 3006 + (12 * g + j)) (l : LSr C 3006 17106 (12 * g + j) g n f) (n0 : 0 ≤ n) (n9 : n < 9) (hf0 : fr = 0 ∨ fr = 1) (h9 : 0 ≤ C 1000 g 9 ∧ C 1000 g 9 < 20000000) : p_X0_deliver (mk C N0 A) (1000 + g) (4000 + (12 * g + j)) (2000 + (150 * g + m)) fr = some (2000 + (150 * g + m), mk (dlC C g j m fr n) N0 A) := by
  have l3 : LSr (uq (uq (uq C 2000 (150 * g + m) 1 2) 2000 (150 * g + m) 4 fr) 2000 (150 * g + m) 5 (w (C 2000 (150 * g + m) 5 + 1))) 3006 17106 (12 * g + j) g n f := ((l.uq (by decide) (by decide)).uq (by decide) (by decide)).uq (by decide) (by decide)
  unfold p_X0_deliver dlC fcv fdv
  by_cases z : C 2000 (150 * g + m) 6 = 0
  · have l5 := (l3.uq (b := 1000) (x := g) (y := 9) (v := C 1000 g 9 + 1) (by decide) (by decide)).uq (b := 2000) (x := 150 * g + m) (y := 6) (v := C 1000 g 9 + 1) (by decide) (by decide)
    have al := c_addLast (N0 := N0) (A := A) (v := 2000 + (150 * g + m)) (LPl.h (by omega) (by omega)) l5 n0 n9
    simp only [if_pos z]
    simp (disch := omega) only [aok, up_s, true_and, false_and, and_true, and_false, if_true, if_false, ↓reduceIte, ↓Option.bind_some, Int.reduceEq, Int.reduceNe, Int.reduceLT, Int.reduceLE, gd_true, gd_false, bind_b, q10, eq_self, reduceCtorEq, not_true_eq_false, not_false_eq_true, ne_eq, cr_11000, cr_15000, cr_16000, cr_20000, cr_20001, cr_21000, cr_22000, cr_25000, cr_1000, cr_2000, cr_3000, cr_3003, cr_3006, cr_4000, cr_5000, cr_6000, cr_7000, cr_8000, cr_9000, cr_10000, cr_13500, cr_17000, cr_17100, cr_17103, cr_17106, cr_19000, cr_20100, cr_21100, cr_23000, cr_24000, cw_11000, cw_15000, cw_16000, cw_20000, cw_20001, cw_21000, cw_22000, cw_25000, cw_1000, cw_2000, cw_3000, cw_3003, cw_3006, cw_4000, cw_5000, cw_6000, cw_7000, cw_8000, cw_9000, cw_10000, cw_13500, cw_17000, cw_17100, cw_17103, cw_17106, cw_19000, cw_20100, cw_21100, cw_23000, cw_24000, lc_13500, lc_15000, lc_16000, lc_17000, lc_17100, lc_17103, lc_17106, lc_19000, lc_20000, lc_20001, lc_20100, lc_21000, lc_21100, lc_22000, lc_23000, lc_24000, lc_25000, gd_t, w_eq, hf0, uq_s, z, hm, al, if_neg]
  · have al := c_addLast (N0 := N0) (A := A) (v := 2000 + (150 * g + m)) (LPl.h (by omega) (by omega)) l3 n0 n9
    simp only [if_neg z]
    rw [uq_id (C := uq (uq (uq C 2000 (150 * g + m) 1 2) 2000 (150 * g + m) 4 fr) 2000 (150 * g + m) 5 (w (C 2000 (150 * g + m) 5 + 1))) (b := 1000) (by simp only [uq_s, up_s, true_and, false_and, and_true, and_false, if_true, if_false, ↓reduceIte, ↓Option.bind_some, Int.reduceEq, Int.reduceNe, Int.reduceLT, Int.reduceLE, gd_true, gd_false, bind_b, q10, eq_self, reduceCtorEq, not_true_eq_false, not_false_eq_true, ne_eq]), uq_id (C := uq (uq (uq C 2000 (150 * g + m) 1 2) 2000 (150 * g + m) 4 fr) 2000 (150 * g + m) 5 (w (C 2000 (150 * g + m) 5 + 1))) (b := 2000) (by simp only [uq_s, up_s, true_and, false_and, and_true, and_false, if_true, if_false, ↓reduceIte, ↓Option.bind_some, Int.reduceEq, Int.reduceNe, Int.reduceLT, Int.reduceLE, gd_true, gd_false, bind_b, q10, eq_self, reduceCtorEq, not_true_eq_false, not_false_eq_true, ne_eq])]
    simp (disch := omega) only [aok, up_s, true_and, false_and, and_true, and_false, if_true, if_false, ↓reduceIte, ↓Option.bind_some, Int.reduceEq, Int.reduceNe, Int.reduceLT, Int.reduceLE, gd_true, gd_false, bind_b, q10, eq_self, reduceCtorEq, not_true_eq_false, not_false_eq_true, ne_eq, cr_11000, cr_15000, cr_16000, cr_20000, cr_20001, cr_21000, cr_22000, cr_25000, cr_1000, cr_2000, cr_3000, cr_3003, cr_3006, cr_4000, cr_5000, cr_6000, cr_7000, cr_8000, cr_9000, cr_10000, cr_13500, cr_17000, cr_17100, cr_17103, cr_17106, cr_19000, cr_20100, cr_21100, cr_23000, cr_24000, cw_11000, cw_15000, cw_16000, cw_20000, cw_20001, cw_21000, cw_22000, cw_25000, cw_1000, cw_2000, cw_3000, cw_3003, cw_3006, cw_4000, cw_5000, cw_6000, cw_7000, cw_8000, cw_9000, cw_10000, cw_13500, cw_17000, cw_17100, cw_17103, cw_17106, cw_19000, cw_20100, cw_21100, cw_23000, cw_24000, lc_13500, lc_15000, lc_16000, lc_17000, lc_17100, lc_17103, lc_17106, lc_19000, lc_20000, lc_20001, lc_20100, lc_21000, lc_21100, lc_22000, lc_23000, lc_24000, lc_25000, gd_t, w_eq, hf0, uq_s, z, hm, al, if_neg]
/-- a message comes into a hand -/
theorem GA.dlv (G : RG N) (a : GA C N g) (g1 : 0 ≤ g) (g2 : g < 3) (j1 : 0 ≤ j) (j2 : j < 12) (hi : N 13047 (12 * g + j) = 1) (hc : hn N g j < N 13049 (12 * g + j)) (m1 : 0 ≤ m) (m2 : m < (N 12000 19)) (un : C 17000 g m ≠ 0) (w0 : C 2000 (150 * g + m) 1 = 0) (ow : N 13055 (9 * g + N 13021 m) = j) (ht : C 2000 (150 * g + m) 3 = t) (t1 : 0 ≤ t ∧ t ≤ 2) (hf0 : fr = 0 ∨ fr = 1) (ro : fr = 0 → N 13026 m < N 13058 (9 * g + N 13021 m)) (hn0 : n = hn N g j) : GA (dlC C g j m fr n) (dlN N g j m t fr) g := by
  have s5 := G.s.2.2.2.2.1
  have h9 := a.h9 j1 j2 hi
  have nmj := (a.nm j j1 j2).2.2 hi
  have h9' : 0 ≤ hn N g j ∧ hn N g j < 9 := by omega
  have e : ∀ b i z, ¬ (b = 2000 ∧ i = 150 * g + m ∧ (z = 1 ∨ z = 4 ∨ z = 5 ∨ z = 6)) → ¬ (b = 1000 ∧ i = g ∧ z = 9) → ¬ (b = 17106 ∧ i = 12 * g + j ∧ z = n) → ¬ (b = 3006 ∧ i = 12 * g + j ∧ z = 1) → dlC C g j m fr n b i z = C b i z := fun b i z z1 z2 z3 z4 => dl_k z1 z2 z3 z4
  have an : ∀ b, (¬ (13051 ≤ b ∧ b ≤ 13054)) → b ≠ 13064 → dlN N g j m t fr b = N b := fun b hb hb2 => dn_ar hb hb2
  have nn : ∀ z, hn (dlN N g j m t fr) g z = if z = j then hn N g j + 1 else hn N g z := fun z => dn_n
  have nh := fun z i i1 i2 => dn_h (N := N) (g := g) (j := j) (m := m) (t := t) (fr := fr) (z := z) (i := i) h9' i1 i2
  have ns : ∀ x, dlN N g j m t fr 13064 (150 * g + x) = if x = m then w (N 13064 (150 * g + m) + 1) else N 13064 (150 * g + x) := fun x => dn_s
  have d1 : dlC C g j m fr n 2000 (150 * g + m) 1 = 2 := dl_1
  have d4 : dlC C g j m fr n 2000 (150 * g + m) 4 = fr := dl_4
  have d5 : dlC C g j m fr n 2000 (150 * g + m) 5 = w (C 2000 (150 * g + m) 5 + 1) := dl_5
  have dl : dlC C g j m fr n 17106 (12 * g + j) n = 2000 + (150 * g + m) := dl_l
  have dn : dlC C g j m fr n 3006 (12 * g + j) 1 = n + 1 := dl_n
  have hr : ∀ p, gR (dlN N g j m t fr) g p ↔ gR N g p := fun p => Iff.rfl
  generalize dlC C g j m fr n = C' at e d1 d4 d5 dl dn ⊢
  generalize hN : dlN N g j m t fr = N' at an nn nh ns hr ⊢
  have nw : ∀ z i, 0 ≤ z → z < 12 → N 13047 (12 * g + z) = 1 → 0 ≤ i → i < hn N g z → hf N g z i ≠ m := fun z i z1 z2 z3 i1 i2 hz => by
    have := ((a.ha z z1 z2 z3).2 i i1 i2).1.2.2.1
    rw [hz] at this
    omega
  refine ⟨?_, fun p p1 p2 => ?_, fun z z1 z2 => ?_, fun z z1 z2 z3 => ?_, fun x x1 x2 => ?_, ?_, ?_, fun z z1 z2 => ?_, fun p p1 p2 => ?_, ?_⟩
  · have o := a.o
    unfold GO at o ⊢
    rw [e _ _ _ (by omega) (by omega) (by omega) (by omega), e _ _ _ (by omega) (by omega) (by omega) (by omega), e _ _ _ (by omega) (by omega) (by omega) (by omega), e _ _ _ (by omega) (by omega) (by omega) (by omega), e _ _ _ (by omega) (by omega) (by omega) (by omega), e _ _ _ (by omega) (by omega) (by omega) (by omega), e _ _ _ (by omega) (by omega) (by omega) (by omega), e _ _ _ (by omega) (by omega) (by omega) (by omega), e _ _ _ (by omega) (by omega) (by omega) (by omega), an _ (by decide) (by decide), an _ (by decide) (by decide), an _ (by decide) (by decide)]
    simp only [hr]
    exact o
  · have x := a.sh p p1 p2
    have e9 : ∀ y, C' 9000 (9 * g + p) y = C 9000 (9 * g + p) y := fun y => e _ _ _ (by omega) (by omega) (by omega) (by omega)
    rw [e _ _ _ (by omega) (by omega) (by omega) (by omega), e9, e9, e9, e9, e9, an 13055 (by decide) (by decide), an 13056 (by decide) (by decide), an 13057 (by decide) (by decide), an 13058 (by decide) (by decide)]
    simp only [hr]
    exact x
  · have x := a.me z z1 z2
    have e9 : ∀ y, C' 4000 (12 * g + z) y = C 4000 (12 * g + z) y := fun y => e _ _ _ (by omega) (by omega) (by omega) (by omega)
    rw [e _ _ _ (by omega) (by omega) (by omega) (by omega), e9, e9, e9, e9, e9, an _ (by decide) (by decide), an _ (by decide) (by decide), an _ (by decide) (by decide), an _ (by decide) (by decide)]
    exact x
  · rw [an _ (by decide) (by decide)] at z3
    have hz9 := a.h9 z1 z2 z3
    obtain ⟨y1, y2⟩ := a.ha z z1 z2 z3
    rw [an 13021 (by decide) (by decide), an 13026 (by decide) (by decide), an 13055 (by decide) (by decide), an 13058 (by decide) (by decide), an 12000 (by decide) (by decide)]
    have old : ∀ k, 0 ≤ k → k < hn N g z → ((0 ≤ hf N g z k ∧ hf N g z k < (N 12000 19) ∧ C' 2000 (150 * g + hf N g z k) 1 = 2 ∧ C' 2000 (150 * g + hf N g z k) 3 = N 13053 (9 * (12 * g + z) + k) ∧ C' 2000 (150 * g + hf N g z k) 4 = N 13054 (9 * (12 * g + z) + k))) := fun k k1 k2 => by
      obtain ⟨⟨q1, q2, q3, q4, q5⟩, -⟩ := y2 k k1 k2
      have nm' := nw z k z1 z2 z3 k1 k2
      rw [e _ _ _ (by omega) (by omega) (by omega) (by omega), e _ _ _ (by omega) (by omega) (by omega) (by omega), e _ _ _ (by omega) (by omega) (by omega) (by omega)]
      exact ⟨q1, q2, q3, q4, q5⟩
    by_cases ez : z = j
    · subst ez
      rw [nn, if_pos rfl]
      refine ⟨⟨?_, ?_, fun k k1 k2 => ?_⟩, fun k k1 k2 => ?_⟩
      · rw [e _ _ _ (by omega) (by omega) (by omega) (by omega)]; exact y1.1
      · rw [dn, hn0]
      · rw [(nh z k k1 (by omega)).1]
        by_cases ek : k = hn N g z
        · rw [if_pos ⟨rfl, ek⟩, ek, ← hn0]; exact dl
        · rw [if_neg (fun q => ek q.2), e _ _ _ (by omega) (by omega) (by omega) (by omega)]; exact y1.2.2 k k1 (by omega)
      · obtain ⟨h1, h2, h3⟩ := nh z k k1 (by omega)
        by_cases ek : k = hn N g z
        · rw [if_pos ⟨rfl, ek⟩] at h1 h2 h3
          rw [h1, h2, h3]
          refine ⟨⟨m1, m2, d1, ?_, d4⟩, ⟨ow, t1, hf0, ro⟩, fun i i1 i2 => ?_⟩
          · rw [e _ _ _ (by omega) (by omega) (by omega) (by omega)]; exact ht
          · rw [(nh z i i1 (by omega)).1, if_neg (by omega)]
            exact nw z i z1 z2 z3 i1 (by omega)
        · rw [if_neg (fun q => ek q.2)] at h1 h2 h3
          rw [h1, h2, h3]
          refine ⟨old k k1 (by omega), (y2 k k1 (by omega)).2.1, fun i i1 i2 => ?_⟩
          rw [(nh z i i1 (by omega)).1, if_neg (by omega)]
          exact (y2 k k1 (by omega)).2.2 i i1 i2
    · rw [nn, if_neg ez]
      have ehf : ∀ i, 0 ≤ i → i < hn N g z → hf N' g z i = hf N g z i ∧ N' 13053 (9 * (12 * g + z) + i) = N 13053 (9 * (12 * g + z) + i) ∧ N' 13054 (9 * (12 * g + z) + i) = N 13054 (9 * (12 * g + z) + i) := fun i i1 i2 => by
        obtain ⟨h1, h2, h3⟩ := nh z i i1 (by omega)
        rw [h1, h2, h3, if_neg (fun q => ez q.1), if_neg (fun q => ez q.1), if_neg (fun q => ez q.1)]
        exact ⟨rfl, rfl, rfl⟩
      refine ⟨⟨?_, ?_, fun i i1 i2 => ?_⟩, fun i i1 i2 => ?_⟩
      · rw [e _ _ _ (by omega) (by omega) (by omega) (by omega)]; exact y1.1
      · rw [e _ _ _ (by omega) (by omega) (by omega) (by omega)]; exact y1.2.1
      · rw [(ehf i i1 i2).1, e _ _ _ (by omega) (by omega) (by omega) (by omega)]; exact y1.2.2 i i1 i2
      · obtain ⟨h1, h2, h3⟩ := ehf i i1 i2
        rw [h1, h2, h3]
        refine ⟨old i i1 i2, (y2 i i1 i2).2.1, fun k k1 k2 => ?_⟩
        rw [(ehf k k1 (by omega)).1]
        exact (y2 i i1 i2).2.2 k k1 k2
  · obtain ⟨x1', x2', x3', x4', x5', x6', x7', x8', x9', x0'⟩ := a.le x x1 x2
    rw [an 12000 (by decide) (by decide), an 13021 (by decide) (by decide), an 13024 (by decide) (by decide), an 13055 (by decide) (by decide), an 13059 (by decide) (by decide), an 13062 (by decide) (by decide), an 13060 (by decide) (by decide), an 13061 (by decide) (by decide), e 17000 _ _ (by omega) (by omega) (by omega) (by omega), e 2000 _ 0 (by omega) (by omega) (by omega) (by omega), e 2000 _ 2 (by omega) (by omega) (by omega) (by omega), e 2000 _ 3 (by omega) (by omega) (by omega) (by omega), ns]
    have x2'' : C 17000 g x ≠ 0 → x < (N 12000 19) ∧ C 2000 (150 * g + x) 0 = 5000 + x ∧ (N 13024 x = 3 ∨ canR N' x) ∧ gR N' g (N 13021 x) := fun q => by
      obtain ⟨y1, y2, y3, y4⟩ := x2' q
      exact ⟨y1, y2, by rw [← hN]; exact y3, (hr _).mpr y4⟩
    by_cases ex : x = m
    · subst ex
      have nw1 : ¬ N 13059 (150 * g + x) = 1 := fun q => by have := x6'.mpr q; omega
      have nd1 : ¬ N 13062 (150 * g + x) = 1 := fun q => by have := x7'.mpr q; omega
      rw [d1, d5, if_pos rfl, x4' un]
      refine ⟨x1', x2'', fun q => absurd q un, fun _ => rfl, x5', ⟨fun q => by omega, fun q => absurd q nw1⟩, ⟨fun q => by omega, fun q => absurd q nd1⟩, fun _ => ?_, by omega, x0'⟩
      rw [ow, nn, if_pos rfl]
      refine ⟨by omega, hn N g j, h9.1, by omega, ?_⟩
      rw [(nh j (hn N g j) h9.1 (by omega)).1, if_pos ⟨rfl, rfl⟩]
    · rw [e _ _ 1 (by omega) (by omega) (by omega) (by omega), e _ _ 5 (by omega) (by omega) (by omega) (by omega), e _ _ 6 (by omega) (by omega) (by omega) (by omega), if_neg ex]
      refine ⟨x1', x2'', x3', x4', x5', x6', x7', fun q => ?_, x9', x0'⟩
      obtain ⟨y1, k, k1, k2, k3⟩ := x8' q
      have lt := (a.le.lt x1 x2 (by omega)).2.2.1
      have gp := (G.m x x1 lt).2.1
      have s2 := G.s.2.1
      have ob := (a.np _ gp.1 (by omega)).1.1.resolve_left y1
      have l9 := a.h9 ob.1 ob.2.1 ob.2.2.1
      refine ⟨y1, k, k1, ?_, ?_⟩
      · rw [nn]
        split
        · rename_i q9; rw [q9] at k2; omega
        · exact k2
      · rw [(nh _ k k1 (by omega)).1, if_neg (fun q9 => by rw [q9.1] at k2; omega)]
        exact k3
  · obtain ⟨n', f, ⟨w1, w2, w3⟩, w4⟩ := a.wa
    refine ⟨n', f, ⟨?_, ?_, fun i i1 i2 => ?_⟩, ?_⟩
    · rw [e _ _ _ (by omega) (by omega) (by omega) (by omega)]; exact w1
    · rw [e _ _ _ (by omega) (by omega) (by omega) (by omega)]; exact w2
    · rw [e _ _ _ (by omega) (by omega) (by omega) (by omega)]; exact w3 i i1 i2
    · unfold lw
      rw [an 13059 (by decide) (by decide), an 13060 (by decide) (by decide)]
      exact w4
  · obtain ⟨⟨w1, w2, w3⟩, w4⟩ := a.de
    unfold GDe
    rw [an 13046 (by decide) (by decide), an 13063 (by decide) (by decide), an 13062 (by decide) (by decide)]
    refine ⟨⟨?_, ?_, fun i i1 i2 => ?_⟩, w4⟩
    · rw [e _ _ _ (by omega) (by omega) (by omega) (by omega)]; exact w1
    · rw [e _ _ _ (by omega) (by omega) (by omega) (by omega)]; exact w2
    · rw [e _ _ _ (by omega) (by omega) (by omega) (by omega)]; exact w3 i i1 i2
  · obtain ⟨y1, y2, y3⟩ := a.nm z z1 z2
    rw [an 13047 (by decide) (by decide), an 13044 (by decide) (by decide), an 13049 (by decide) (by decide), an 13050 (by decide) (by decide), an 13048 (by decide) (by decide), an 12000 (by decide) (by decide), nn]
    by_cases ez : z = j
    · subst ez
      rw [if_pos rfl]
      refine ⟨y1, fun q => ?_, fun q => ⟨(y3 q).1, by omega, (y3 q).2.2⟩⟩
      have := (y2 q).1
      omega
    · rw [if_neg ez]
      exact ⟨y1, y2, y3⟩
  · rw [an 13055 (by decide) (by decide), an 13056 (by decide) (by decide), an 13047 (by decide) (by decide), an 13057 (by decide) (by decide), an 13058 (by decide) (by decide)]
    simp only [hr]
    exact a.np p p1 p2
  · obtain ⟨y1, y2, y3, y4⟩ := a.nu
    have tc : ∀ i, tcn N' g i = tcn N g i := fun i => tcn_eq hr (fun p => by rw [an 13056 (by decide) (by decide)])
    have mc : mcn N' g = mcn N g := by unfold mcn; rw [an 13047 (by decide) (by decide)]
    unfold GNu
    rw [mc, an 13042 (by decide) (by decide), an 13044 (by decide) (by decide), an 13043 (by decide) (by decide), an 13047 (by decide) (by decide), an 12000 (by decide) (by decide), an 13056 (by decide) (by decide)]
    simp only [tc, hr]
    exact ⟨y1, y2, y3, y4⟩
/-- the latest partition -/
theorem GA.lat {p : Int} (a : GA C N g) (g1 : 0 ≤ g) (j1 : 0 ≤ j) (j2 : j < 12) (hp : 0 ≤ p ∧ p < 9) : GA (uq C 4000 (12 * g + j) 4 p) (up N 13050 (12 * g + j) p) g := by
  refine ⟨a.o, a.sh, fun z z1 z2 => ?_, a.ha, a.le, a.wa, a.de, fun z z1 z2 => ?_, a.np, a.nu⟩
  · obtain ⟨x, x2⟩ := a.me z z1 z2
    refine ⟨x, fun q => ?_⟩
    obtain ⟨y0, y1, y2, y3, y4⟩ := x2 q
    refine ⟨?_, ?_, ?_, ?_, ?_⟩
    · rw [uq_s, if_neg (by omega)]; exact y0
    · rw [uq_s, if_neg (by omega)]; exact y1
    · rw [uq_s, if_neg (by omega)]; exact y2
    · rw [uq_s, if_neg (by omega)]; exact y3
    · rw [uq_s, up_s]
      by_cases e : z = j
      · rw [if_pos (by omega), if_pos (by omega)]
      · rw [if_neg (by omega), if_neg (by omega)]; exact y4
  · obtain ⟨x1, x2, x3⟩ := a.nm z z1 z2
    refine ⟨x1, x2, fun q => ⟨(x3 q).1, (x3 q).2.1, ?_, (x3 q).2.2.2⟩⟩
    rw [up_s]
    by_cases e : z = j
    · rw [if_pos (by omega)]; omega
    · rw [if_neg (by omega)]; exact (x3 q).2.2.1
/-- no attempts -/
theorem GA.at0 (a : GA C N g) (g1 : 0 ≤ g) (m1 : 0 ≤ m) (m2 : m < 150) (w0 : C 2000 (150 * g + m) 1 = 0) : GA (uq C 2000 (150 * g + m) 3 0) N g := by
  refine ⟨a.o, a.sh, a.me, fun z z1 z2 z3 => ?_, fun x x1 x2 => ?_, a.wa, a.de, a.nm, a.np, a.nu⟩
  · obtain ⟨y1, y2⟩ := a.ha z z1 z2 z3
    refine ⟨y1, fun i i1 i2 => ?_⟩
    obtain ⟨⟨b1, b2, b3, b4, b5⟩, r6⟩ := y2 i i1 i2
    have nm' : hf N g z i ≠ m := fun y => by rw [y] at b3; omega
    refine ⟨⟨b1, b2, ?_, ?_, ?_⟩, r6⟩
    · rw [uq_s, if_neg (by omega)]; exact b3
    · rw [uq_s, if_neg (by omega)]; exact b4
    · rw [uq_s, if_neg (by omega)]; exact b5
  · obtain ⟨x1', x2', x3', x4', x5', x6', x7', x8', x9', x0'⟩ := a.le x x1 x2
    have e : ∀ z, z ≠ 3 → uq C 2000 (150 * g + m) 3 0 2000 (150 * g + x) z = C 2000 (150 * g + x) z := fun z h => by rw [uq_s, if_neg (fun q => h q.2.2)]
    have e7 : uq C 2000 (150 * g + m) 3 0 17000 g x = C 17000 g x := by rw [uq_s, if_neg (by omega)]
    rw [e7, e 0 (by decide), e 1 (by decide), e 2 (by decide), e 5 (by decide), e 6 (by decide)]
    refine ⟨x1', x2', x3', x4', x5', x6', x7', x8', x9', fun q => ?_⟩
    have ex : x ≠ m := fun ex => by have := x6'.mpr q; rw [ex] at this; omega
    rw [uq_s, if_neg (by omega)]
    exact x0' q
end DLV
