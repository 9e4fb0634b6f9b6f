/-! PURE PART, 68: topic -/
theorem parts_le {N : Nd} (g : RG N) : (N 12000 11) ≤ 3 * (N 12000 4) := by
  have s1 := g.s.1
  have s2 := g.s.2.1
  by_cases h : (N 12000 11) ≤ 3 * (N 12000 4)
  · exact h
  · exfalso
    have f : ∀ p, 0 ≤ p → p < (N 12000 11) → ∀ t, N 13012 p = t → (0 ≤ t ∧ t < (N 12000 4)) ∧ N 13007 t ≤ p ∧ p < N 13007 t + 3 := fun p p1 p2 t ht => by
      obtain ⟨a1, -, -, -, a5, -⟩ := g.p p p1 p2
      rw [ht] at a1 a5
      have b := (g.t t a1.1 a1.2).1
      omega
    have f0 := f 0 (by omega) (by omega)
    by_cases t0 : (N 12000 4) = 0
    · have := f0 _ rfl; omega
    · have f3 := f 3 (by omega) (by omega)
      by_cases t1 : (N 12000 4) = 1
      · have a := f0 _ rfl
        have b := f3 _ rfl
        have e1 : N 13012 0 = 0 := by omega
        have e2 : N 13012 3 = 0 := by omega
        have a' := f0 0 e1
        have b' := f3 0 e2
        omega
      · have f6 := f 6 (by omega) (by omega)
        have a := f0 _ rfl
        have b := f3 _ rfl
        have c := f6 _ rfl
        have e1 : N 13012 0 = 0 ∨ N 13012 0 = 1 := by omega
        have e2 : N 13012 3 = 0 ∨ N 13012 3 = 1 := by omega
        have e3 : N 13012 6 = 0 ∨ N 13012 6 = 1 := by omega
        rcases e1 with e1 | e1 <;> rcases e2 with e2 | e2 <;> rcases e3 with e3 | e3 <;> (have a' := f0 _ e1; have b' := f3 _ e2; have c' := f6 _ e3; omega)
/-- the first i partitions of a new topic -/
def tpI (N : Nd) (t P r i : Int) : Nd := fun b k =>
  if b = 13012 then (if P ≤ k ∧ k < P + i then t else N b k)
  else if b = 13013 then (if P ≤ k ∧ k < P + i then 0 else N b k)
  else if b = 13014 then (if P ≤ k ∧ k < P + i then shl 1 r - 1 else N b k)
  else if b = 13017 then (if 3 * P ≤ k ∧ k < 3 * (P + i) then (N 12000 1) else N b k)
  else if b = 13018 then (if 60 * P ≤ k ∧ k < 60 * (P + i) then -1 else N b k)
  else if b = 12000 ∧ k = 11 then P + i else N b k
def tp0 (N : Nd) (t P a r c : Int) : Nd := up (up (up (up (up (up N 13005 t a) 13006 t r) 13007 t P) 14008 t c) 13009 t 999) 13010 t 60
section TPI
variable {N : Nd} {t P r i k : Int}
theorem ti_t : tpI N t P r i 13012 k = if P ≤ k ∧ k < P + i then t else N 13012 k := by unfold tpI; simp only [up_s, true_and, false_and, and_true, and_false, if_true, if_false, ↓reduceIte, ↓Option.bind_some, Int.reduceEq, Int.reduceNe, Int.reduceLT, Int.reduceLE, gd_true, gd_false, bind_b, q10, eq_self, reduceCtorEq, not_true_eq_false, not_false_eq_true, ne_eq]
theorem ti_l : tpI N t P r i 13013 k = if P ≤ k ∧ k < P + i then 0 else N 13013 k := by unfold tpI; simp only [up_s, true_and, false_and, and_true, and_false, if_true, if_false, ↓reduceIte, ↓Option.bind_some, Int.reduceEq, Int.reduceNe, Int.reduceLT, Int.reduceLE, gd_true, gd_false, bind_b, q10, eq_self, reduceCtorEq, not_true_eq_false, not_false_eq_true, ne_eq]
theorem ti_s : tpI N t P r i 13014 k = if P ≤ k ∧ k < P + i then shl 1 r - 1 else N 13014 k := by unfold tpI; simp only [up_s, true_and, false_and, and_true, and_false, if_true, if_false, ↓reduceIte, ↓Option.bind_some, Int.reduceEq, Int.reduceNe, Int.reduceLT, Int.reduceLE, gd_true, gd_false, bind_b, q10, eq_self, reduceCtorEq, not_true_eq_false, not_false_eq_true, ne_eq]
theorem ti_c : tpI N t P r i 13017 k = if 3 * P ≤ k ∧ k < 3 * (P + i) then (N 12000 1) else N 13017 k := by unfold tpI; simp only [up_s, true_and, false_and, and_true, and_false, if_true, if_false, ↓reduceIte, ↓Option.bind_some, Int.reduceEq, Int.reduceNe, Int.reduceLT, Int.reduceLE, gd_true, gd_false, bind_b, q10, eq_self, reduceCtorEq, not_true_eq_false, not_false_eq_true, ne_eq]
theorem ti_g : tpI N t P r i 13018 k = if 60 * P ≤ k ∧ k < 60 * (P + i) then -1 else N 13018 k := by unfold tpI; simp only [up_s, true_and, false_and, and_true, and_false, if_true, if_false, ↓reduceIte, ↓Option.bind_some, Int.reduceEq, Int.reduceNe, Int.reduceLT, Int.reduceLE, gd_true, gd_false, bind_b, q10, eq_self, reduceCtorEq, not_true_eq_false, not_false_eq_true, ne_eq]
theorem ti_k : tpI N t P r i 12000 k = if k = 11 then P + i else N 12000 k := by unfold tpI; simp only [up_s, true_and, false_and, and_true, and_false, if_true, if_false, ↓reduceIte, ↓Option.bind_some, Int.reduceEq, Int.reduceNe, Int.reduceLT, Int.reduceLE, gd_true, gd_false, bind_b, q10, eq_self, reduceCtorEq, not_true_eq_false, not_false_eq_true, ne_eq]
theorem ti_ar {b : Int} (h0 : b ≠ 12000) (h1 : b ≠ 13012) (h2 : b ≠ 13013) (h3 : b ≠ 13014) (h4 : b ≠ 13017) (h5 : b ≠ 13018) : tpI N t P r i b = N b := by
  funext k
  unfold tpI
  rw [if_neg h1, if_neg h2, if_neg h3, if_neg h4, if_neg h5, if_neg (fun z => h0 z.1)]
theorem ti_0 (h : (N 12000 11) = P) : tpI N t P r 0 = N := by
  funext b k
  unfold tpI
  repeat' split
  all_goals first
    | omega
    | rfl
    | (rename_i e; rw [e.1, e.2, h]; omega)
end TPI
/-- model: three rows of a partition -/
theorem m_rcLoop {C : Cd} {N : Nd} {A : Ad} {p : Int} (p1 : 0 ≤ p) (p2 : p < 9) : lp (b_X11_topic_165 12000 p) 1000 (0, mk C N A) = some (mk C (ra N 13017 (fun k => if 3 * p ≤ k ∧ k < 3 * p + 3 then (N 12000 1) else N 13017 k)) A) := by
  refine lp_seq (fun k : Nat => ((k : Int), mk C (ra N 13017 (fun q => if 3 * p ≤ q ∧ q < 3 * p + k then (N 12000 1) else N 13017 q)) A)) 3 (fun k hk => ?_) ?_ (by omega) ?_
  · have e : w (w (3 * p) + (k : Int)) = 3 * p + k := by rw [w_eq (z := 3 * p) (by omega) (by omega), w_eq (by omega) (by omega)]
    have k3 : (k : Int) < 3 := by omega
    have ic : ((k + 1 : Nat) : Int) = (k : Int) + 1 := by omega
    have nw' : ra N 13017 (fun q => if 3 * p ≤ q ∧ q < 3 * p + (k : Int) then (N 12000 1) else N 13017 q) 12000 1 = (N 12000 1) := rfl
    unfold b_X11_topic_165
    simp (disch := omega) only [aok, up_s, true_and, false_and, and_true, and_false, if_true, if_false, ↓reduceIte, ↓Option.bind_some, Int.reduceEq, Int.reduceNe, Int.reduceLT, Int.reduceLE, gd_true, gd_false, bind_b, q10, eq_self, reduceCtorEq, not_true_eq_false, not_false_eq_true, ne_eq, pt_0, pt_1, pt_2, pt_3, pt_4, pt_5, pt_6, pt_7, pt_8, pt_9, pt_10, pt_11, pt_12, pt_13, pt_14, pt_15, pt_16, pt_17, pt_18, pt_19, pt_20, pt_21, pt_22, pt_23, pt_24, pt_25, pt_26, pt_27, pt_28, pt_29, pt_30, pt_31, pt_32, pt_33, pt_34, pt_35, pt_36, pt_37, pt_38, pt_39, pt_40, pt_41, pt_42, pt_43, pt_44, pt_45, pt_46, pt_47, pt_48, pt_49, pt_50, pt_51, pt_52, pt_53, pt_54, pt_55, pt_56, pt_57, pt_58, pt_59, pt_60, pt_61, pt_62, pt_63, pt_64, pt_65, pt_66, pt_67, pa_13005, pw_13005, pa_13006, pw_13006, pa_13007, pw_13007, pa_14008, pw_14008, pa_13009, pw_13009, pa_13010, pw_13010, pa_13012, pw_13012, pa_13013, pw_13013, pa_13014, pw_13014, pa_13015, pw_13015, pa_13016, pw_13016, pa_13017, pw_13017, pa_13018, pw_13018, pa_13020, pw_13020, pa_13021, pw_13021, pa_13022, pw_13022, pa_13023, pw_13023, pa_13024, pw_13024, pa_13025, pw_13025, pa_13026, pw_13026, pa_13027, pw_13027, pa_13028, pw_13028, pa_13029, pw_13029, pa_13031, pw_13031, pa_13032, pw_13032, pa_13033, pw_13033, pa_14034, pw_14034, pa_13035, pw_13035, pa_13036, pw_13036, pa_13037, pw_13037, pa_13038, pw_13038, pa_13039, pw_13039, pa_13042, pw_13042, pa_13043, pw_13043, pa_13044, pw_13044, pa_13045, pw_13045, pa_13046, pw_13046, pa_13047, pw_13047, pa_13048, pw_13048, pa_13049, pw_13049, pa_13050, pw_13050, pa_13051, pw_13051, pa_13052, pw_13052, pa_13053, pw_13053, pa_13054, pw_13054, pa_13055, pw_13055, pa_13056, pw_13056, pa_13057, pw_13057, pa_13058, pw_13058, pa_13059, pw_13059, pa_13060, pw_13060, pa_13061, pw_13061, pa_13062, pw_13062, pa_13063, pw_13063, pa_13064, pw_13064, pa_13065, pw_13065, pa_13066, pw_13066, pa_13067, pw_13067, ps_0, ps_1, ps_2, ps_3, ps_4, ps_11, ps_19, ps_30, ps_40, ps_41, ln_13005, ln_13006, ln_13007, ln_14008, ln_13009, ln_13010, ln_13012, ln_13013, ln_13014, ln_13015, ln_13016, ln_13017, ln_13018, ln_13020, ln_13021, ln_13022, ln_13023, ln_13024, ln_13025, ln_13026, ln_13027, ln_13028, ln_13029, ln_13031, ln_13032, ln_13033, ln_14034, ln_13035, ln_13036, ln_13037, ln_13038, ln_13039, ln_13042, ln_13043, ln_13044, ln_13045, ln_13046, ln_13047, ln_13048, ln_13049, ln_13050, ln_13051, ln_13052, ln_13053, ln_13054, ln_13055, ln_13056, ln_13057, ln_13058, ln_13059, ln_13060, ln_13061, ln_13062, ln_13063, ln_13064, ln_13065, ln_13066, ln_13067, gd_t, w_eq, k3, e, nw']
    rw [up_ra2, ic]
    congr 5
    funext q
    by_cases z : q = 3 * p + k
    · rw [if_pos z, if_pos (by omega)]
    · rw [if_neg z]
      by_cases z2 : 3 * p ≤ q ∧ q < 3 * p + k
      · rw [if_pos z2, if_pos (by omega)]
      · rw [if_neg z2, if_neg (by omega)]
  · unfold b_X11_topic_165
    rw [if_neg (show ¬ ((3 : Nat) : Int) < 3 by decide)]
    rfl
  · show (0, mk C N A) = (((0 : Nat) : Int), mk C (ra N 13017 (fun q => if 3 * p ≤ q ∧ q < 3 * p + ((0 : Nat) : Int) then (N 12000 1) else N 13017 q)) A)
    congr 2
    funext b q
    rw [ra_s]
    by_cases z : b = 13017
    · rw [if_pos z, if_neg (by omega), z]
    · rw [if_neg z]
theorem m_lgLoop {C : Cd} {N : Nd} {A : Ad} {p : Int} (p1 : 0 ≤ p) (p2 : p < 9) : lp (b_X11_topic_196 12000 p) 1000 (0, mk C N A) = some (mk C (ra N 13018 (fun k => if 60 * p ≤ k ∧ k < 60 * p + 60 then -1 else N 13018 k)) A) := by
  refine lp_seq (fun k : Nat => ((k : Int), mk C (ra N 13018 (fun q => if 60 * p ≤ q ∧ q < 60 * p + k then -1 else N 13018 q)) A)) 60 (fun k hk => ?_) ?_ (by omega) ?_
  · have e : w (w (60 * p) + (k : Int)) = 60 * p + k := by rw [w_eq (z := 60 * p) (by omega) (by omega), w_eq (by omega) (by omega)]
    have k3 : (k : Int) < 60 := by omega
    have ic : ((k + 1 : Nat) : Int) = (k : Int) + 1 := by omega
    unfold b_X11_topic_196
    simp (disch := omega) only [aok, up_s, true_and, false_and, and_true, and_false, if_true, if_false, ↓reduceIte, ↓Option.bind_some, Int.reduceEq, Int.reduceNe, Int.reduceLT, Int.reduceLE, gd_true, gd_false, bind_b, q10, eq_self, reduceCtorEq, not_true_eq_false, not_false_eq_true, ne_eq, pt_0, pt_1, pt_2, pt_3, pt_4, pt_5, pt_6, pt_7, pt_8, pt_9, pt_10, pt_11, pt_12, pt_13, pt_14, pt_15, pt_16, pt_17, pt_18, pt_19, pt_20, pt_21, pt_22, pt_23, pt_24, pt_25, pt_26, pt_27, pt_28, pt_29, pt_30, pt_31, pt_32, pt_33, pt_34, pt_35, pt_36, pt_37, pt_38, pt_39, pt_40, pt_41, pt_42, pt_43, pt_44, pt_45, pt_46, pt_47, pt_48, pt_49, pt_50, pt_51, pt_52, pt_53, pt_54, pt_55, pt_56, pt_57, pt_58, pt_59, pt_60, pt_61, pt_62, pt_63, pt_64, pt_65, pt_66, pt_67, pa_13005, pw_13005, pa_13006, pw_13006, pa_13007, pw_13007, pa_14008, pw_14008, pa_13009, pw_13009, pa_13010, pw_13010, pa_13012, pw_13012, pa_13013, pw_13013, pa_13014, pw_13014, pa_13015, pw_13015, pa_13016, pw_13016, pa_13017, pw_13017, pa_13018, pw_13018, pa_13020, pw_13020, pa_13021, pw_13021, pa_13022, pw_13022, pa_13023, pw_13023, pa_13024, pw_13024, pa_13025, pw_13025, pa_13026, pw_13026, pa_13027, pw_13027, pa_13028, pw_13028, pa_13029, pw_13029, pa_13031, pw_13031, pa_13032, pw_13032, pa_13033, pw_13033, pa_14034, pw_14034, pa_13035, pw_13035, pa_13036, pw_13036, pa_13037, pw_13037, pa_13038, pw_13038, pa_13039, pw_13039, pa_13042, pw_13042, pa_13043, pw_13043, pa_13044, pw_13044, pa_13045, pw_13045, pa_13046, pw_13046, pa_13047, pw_13047, pa_13048, pw_13048, pa_13049, pw_13049, pa_13050, pw_13050, pa_13051, pw_13051, pa_13052, pw_13052, pa_13053, pw_13053, pa_13054, pw_13054, pa_13055, pw_13055, pa_13056, pw_13056, pa_13057, pw_13057, pa_13058, pw_13058, pa_13059, pw_13059, pa_13060, pw_13060, pa_13061, pw_13061, pa_13062, pw_13062, pa_13063, pw_13063, pa_13064, pw_13064, pa_13065, pw_13065, pa_13066, pw_13066, pa_13067, pw_13067, ps_0, ps_1, ps_2, ps_3, ps_4, ps_11, ps_19, ps_30, ps_40, ps_41, ln_13005, ln_13006, ln_13007, ln_14008, ln_13009, ln_13010, ln_13012, ln_13013, ln_13014, ln_13015, ln_13016, ln_13017, ln_13018, ln_13020, ln_13021, ln_13022, ln_13023, ln_13024, ln_13025, ln_13026, ln_13027, ln_13028, ln_13029, ln_13031, ln_13032, ln_13033, ln_14034, ln_13035, ln_13036, ln_13037, ln_13038, ln_13039, ln_13042, ln_13043, ln_13044, ln_13045, ln_13046, ln_13047, ln_13048, ln_13049, ln_13050, ln_13051, ln_13052, ln_13053, ln_13054, ln_13055, ln_13056, ln_13057, ln_13058, ln_13059, ln_13060, ln_13061, ln_13062, ln_13063, ln_13064, ln_13065, ln_13066, ln_13067, gd_t, w_eq, k3, e]
    rw [up_ra2, ic]
    congr 5
    funext q
    by_cases z : q = 60 * p + k
    · rw [if_pos z, if_pos (by omega)]
    · rw [if_neg z]
      by_cases z2 : 60 * p ≤ q ∧ q < 60 * p + k
      · rw [if_pos z2, if_pos (by omega)]
      · rw [if_neg z2, if_neg (by omega)]
  · unfold b_X11_topic_196
    rw [if_neg (show ¬ ((60 : Nat) : Int) < 60 by decide)]
    rfl
  · show (0, mk C N A) = (((0 : Nat) : Int), mk C (ra N 13018 (fun q => if 60 * p ≤ q ∧ q < 60 * p + ((0 : Nat) : Int) then -1 else N 13018 q)) A)
    congr 2
    funext b q
    rw [ra_s]
    by_cases z : b = 13018
    · rw [if_pos z, if_neg (by omega), z]
    · rw [if_neg z]
theorem ti_S {N : Nd} {t P r i : Int} (i0 : 0 ≤ i) : up (ra (ra (up (up (up (tpI N t P r i) 13012 (P + i) t) 13013 (P + i) 0) 13014 (P + i) (shl 1 r - 1)) 13017 (fun k => if 3 * (P + i) ≤ k ∧ k < 3 * (P + i) + 3 then (N 12000 1) else tpI N t P r i 13017 k)) 13018 (fun k => if 60 * (P + i) ≤ k ∧ k < 60 * (P + i) + 60 then -1 else tpI N t P r i 13018 k)) 12000 11 (P + i + 1) = tpI N t P r (i + 1) := by
  funext b k
  rw [up_s, ra_s, ra_s, up_s, up_s, up_s]
  by_cases e1 : b = 13012
  · subst e1
    simp only [up_s, true_and, false_and, and_true, and_false, if_true, if_false, ↓reduceIte, ↓Option.bind_some, Int.reduceEq, Int.reduceNe, Int.reduceLT, Int.reduceLE, gd_true, gd_false, bind_b, q10, eq_self, reduceCtorEq, not_true_eq_false, not_false_eq_true, ne_eq, ti_t]
    by_cases z : k = P + i
    · rw [if_pos z, if_pos (by omega)]
    · rw [if_neg z]
      by_cases z2 : P ≤ k ∧ k < P + i
      · rw [if_pos z2, if_pos (by omega)]
      · rw [if_neg z2, if_neg (by omega)]
  · by_cases e2 : b = 13013
    · subst e2
      simp only [up_s, true_and, false_and, and_true, and_false, if_true, if_false, ↓reduceIte, ↓Option.bind_some, Int.reduceEq, Int.reduceNe, Int.reduceLT, Int.reduceLE, gd_true, gd_false, bind_b, q10, eq_self, reduceCtorEq, not_true_eq_false, not_false_eq_true, ne_eq, ti_l]
      by_cases z : k = P + i
      · rw [if_pos z, if_pos (by omega)]
      · rw [if_neg z]
        by_cases z2 : P ≤ k ∧ k < P + i
        · rw [if_pos z2, if_pos (by omega)]
        · rw [if_neg z2, if_neg (by omega)]
    · by_cases e3 : b = 13014
      · subst e3
        simp only [up_s, true_and, false_and, and_true, and_false, if_true, if_false, ↓reduceIte, ↓Option.bind_some, Int.reduceEq, Int.reduceNe, Int.reduceLT, Int.reduceLE, gd_true, gd_false, bind_b, q10, eq_self, reduceCtorEq, not_true_eq_false, not_false_eq_true, ne_eq, ti_s]
        by_cases z : k = P + i
        · rw [if_pos z, if_pos (by omega)]
        · rw [if_neg z]
          by_cases z2 : P ≤ k ∧ k < P + i
          · rw [if_pos z2, if_pos (by omega)]
          · rw [if_neg z2, if_neg (by omega)]
      · by_cases e4 : b = 13017
        · subst e4
          simp only [up_s, true_and, false_and, and_true, and_false, if_true, if_false, ↓reduceIte, ↓Option.bind_some, Int.reduceEq, Int.reduceNe, Int.reduceLT, Int.reduceLE, gd_true, gd_false, bind_b, q10, eq_self, reduceCtorEq, not_true_eq_false, not_false_eq_true, ne_eq, ti_c]
          by_cases z : 3 * (P + i) ≤ k ∧ k < 3 * (P + i) + 3
          · rw [if_pos z, if_pos (by omega)]
          · rw [if_neg z]
            by_cases z2 : 3 * P ≤ k ∧ k < 3 * (P + i)
            · rw [if_pos z2, if_pos (by omega)]
            · rw [if_neg z2, if_neg (by omega)]
        · by_cases e5 : b = 13018
          · subst e5
            simp only [up_s, true_and, false_and, and_true, and_false, if_true, if_false, ↓reduceIte, ↓Option.bind_some, Int.reduceEq, Int.reduceNe, Int.reduceLT, Int.reduceLE, gd_true, gd_false, bind_b, q10, eq_self, reduceCtorEq, not_true_eq_false, not_false_eq_true, ne_eq, ti_g]
            by_cases z : 60 * (P + i) ≤ k ∧ k < 60 * (P + i) + 60
            · rw [if_pos z, if_pos (by omega)]
            · rw [if_neg z]
              by_cases z2 : 60 * P ≤ k ∧ k < 60 * (P + i)
              · rw [if_pos z2, if_pos (by omega)]
              · rw [if_neg z2, if_neg (by omega)]
          · by_cases e6 : b = 12000
            · subst e6
              simp only [up_s, true_and, false_and, and_true, and_false, if_true, if_false, ↓reduceIte, ↓Option.bind_some, Int.reduceEq, Int.reduceNe, Int.reduceLT, Int.reduceLE, gd_true, gd_false, bind_b, q10, eq_self, reduceCtorEq, not_true_eq_false, not_false_eq_true, ne_eq, ti_k]
              by_cases z : k = 11
              · rw [if_pos z, if_pos z]; omega
              · rw [if_neg z, if_neg z, if_neg z]
            · rw [if_neg (fun z => e6 z.1), if_neg e5, if_neg e4, if_neg (fun z => e3 z.1), if_neg (fun z => e2 z.1), if_neg (fun z => e1 z.1), ti_ar e6 e1 e2 e3 e4 e5, ti_ar e6 e1 e2 e3 e4 e5]
theorem shl1 {r : Int} (h1 : 1 ≤ r) (h2 : r ≤ 3) : (1 ≤ shl 1 r - 1 ∧ shl 1 r - 1 ≤ 7) ∧ ∀ j, 0 ≤ j → j < 3 → (bt (shl 1 r - 1) j = true ↔ j < r) := by
  have e : r = 1 ∨ r = 2 ∨ r = 3 := by omega
  have k : ∀ a : Fin 3, (1 ≤ shl 1 ((a.val : Int) + 1) - 1 ∧ shl 1 ((a.val : Int) + 1) - 1 ≤ 7) ∧ (bt (shl 1 ((a.val : Int) + 1) - 1) 0 = true ↔ 0 < (a.val : Int) + 1) ∧ (bt (shl 1 ((a.val : Int) + 1) - 1) 1 = true ↔ 1 < (a.val : Int) + 1) ∧ (bt (shl 1 ((a.val : Int) + 1) - 1) 2 = true ↔ 2 < (a.val : Int) + 1) := by decide +kernel
  have kk : (1 ≤ shl 1 r - 1 ∧ shl 1 r - 1 ≤ 7) ∧ (bt (shl 1 r - 1) 0 = true ↔ 0 < r) ∧ (bt (shl 1 r - 1) 1 = true ↔ 1 < r) ∧ (bt (shl 1 r - 1) 2 = true ↔ 2 < r) := by
    rcases e with rfl | rfl | rfl
    · exact k 0
    · exact k 1
    · exact k 2
  refine ⟨kk.1, fun j j1 j2 => ?_⟩
  have e : j = 0 ∨ j = 1 ∨ j = 2 := by omega
  rcases e with rfl | rfl | rfl
  · exact kk.2.1
  · exact kk.2.2.1
  · exact kk.2.2.2
theorem m_tpLoop {C : Cd} {N : Nd} {A : Ad} {t P a r : Int} (hP : (N 12000 11) = P) (P0 : 0 ≤ P) (a1 : 1 ≤ a) (a3 : a ≤ 3) (P9 : P + a ≤ 9) (r1 : 1 ≤ r) (r2 : r ≤ 3) : lp (b_X11_topic_121 a 12000 t r) 1000 (0, mk C N A) = some (mk C (tpI N t P r a) A) := by
  refine lp_seq (fun k : Nat => ((k : Int), mk C (tpI N t P r k) A)) a.toNat (fun k hk => ?_) ?_ (by omega) ?_
  · have ka : (k : Int) < a := by omega
    have ic : ((k + 1 : Nat) : Int) = (k : Int) + 1 := by omega
    have e11 : tpI N t P r k 12000 11 = P + k := by rw [ti_k, if_pos rfl]
    have e1 : tpI N t P r k 12000 1 = (N 12000 1) := by rw [ti_k, if_neg (by decide)]
    have sh := (shl1 r1 r2).1
    have ws : w (shl 1 r - 1) = shl 1 r - 1 := w_eq (by omega) (by omega)
    have wp : w (P + k + 1) = P + k + 1 := w_eq (by omega) (by omega)
    have l1 := fun M => @m_rcLoop C M A (P + k) (by omega) (by omega)
    have l2 := fun M => @m_lgLoop C M A (P + k) (by omega) (by omega)
    have en : ∀ M : Nd, ∀ F G : Int → Int, ra (ra M 13017 F) 13018 G 12000 11 = M 12000 11 := fun M F G => rfl
    rw [ic, ← ti_S (by omega)]
    unfold b_X11_topic_121
    simp (disch := omega) only [aok, up_s, true_and, false_and, and_true, and_false, if_true, if_false, ↓reduceIte, ↓Option.bind_some, Int.reduceEq, Int.reduceNe, Int.reduceLT, Int.reduceLE, gd_true, gd_false, bind_b, q10, eq_self, reduceCtorEq, not_true_eq_false, not_false_eq_true, ne_eq, pt_0, pt_1, pt_2, pt_3, pt_4, pt_5, pt_6, pt_7, pt_8, pt_9, pt_10, pt_11, pt_12, pt_13, pt_14, pt_15, pt_16, pt_17, pt_18, pt_19, pt_20, pt_21, pt_22, pt_23, pt_24, pt_25, pt_26, pt_27, pt_28, pt_29, pt_30, pt_31, pt_32, pt_33, pt_34, pt_35, pt_36, pt_37, pt_38, pt_39, pt_40, pt_41, pt_42, pt_43, pt_44, pt_45, pt_46, pt_47, pt_48, pt_49, pt_50, pt_51, pt_52, pt_53, pt_54, pt_55, pt_56, pt_57, pt_58, pt_59, pt_60, pt_61, pt_62, pt_63, pt_64, pt_65, pt_66, pt_67, pa_13005, pw_13005, pa_13006, pw_13006, pa_13007, pw_13007, pa_14008, pw_14008, pa_13009, pw_13009, pa_13010, pw_13010, pa_13012, pw_13012, pa_13013, pw_13013, pa_13014, pw_13014, pa_13015, pw_13015, pa_13016, pw_13016, pa_13017, pw_13017, pa_13018, pw_13018, pa_13020, pw_13020, pa_13021, pw_13021, pa_13022, pw_13022, pa_13023, pw_13023, pa_13024, pw_13024, pa_13025, pw_13025, pa_13026, pw_13026, pa_13027, pw_13027, pa_13028, pw_13028, pa_13029, pw_13029, pa_13031, pw_13031, pa_13032, pw_13032, pa_13033, pw_13033, pa_14034, pw_14034, pa_13035, pw_13035, pa_13036, pw_13036, pa_13037, pw_13037, pa_13038, pw_13038, pa_13039, pw_13039, pa_13042, pw_13042, pa_13043, pw_13043, pa_13044, pw_13044, pa_13045, pw_13045, pa_13046, pw_13046, pa_13047, pw_13047, pa_13048, pw_13048, pa_13049, pw_13049, pa_13050, pw_13050, pa_13051, pw_13051, pa_13052, pw_13052, pa_13053, pw_13053, pa_13054, pw_13054, pa_13055, pw_13055, pa_13056, pw_13056, pa_13057, pw_13057, pa_13058, pw_13058, pa_13059, pw_13059, pa_13060, pw_13060, pa_13061, pw_13061, pa_13062, pw_13062, pa_13063, pw_13063, pa_13064, pw_13064, pa_13065, pw_13065, pa_13066, pw_13066, pa_13067, pw_13067, ps_0, ps_1, ps_2, ps_3, ps_4, ps_11, ps_19, ps_30, ps_40, ps_41, ln_13005, ln_13006, ln_13007, ln_14008, ln_13009, ln_13010, ln_13012, ln_13013, ln_13014, ln_13015, ln_13016, ln_13017, ln_13018, ln_13020, ln_13021, ln_13022, ln_13023, ln_13024, ln_13025, ln_13026, ln_13027, ln_13028, ln_13029, ln_13031, ln_13032, ln_13033, ln_14034, ln_13035, ln_13036, ln_13037, ln_13038, ln_13039, ln_13042, ln_13043, ln_13044, ln_13045, ln_13046, ln_13047, ln_13048, ln_13049, ln_13050, ln_13051, ln_13052, ln_13053, ln_13054, ln_13055, ln_13056, ln_13057, ln_13058, ln_13059, ln_13060, ln_13061, ln_13062, ln_13063, ln_13064, ln_13065, ln_13066, ln_13067, gd_t, w_eq, ka, e11, ws, l1, l2, en, wp, e1]
    rfl
  · have na : ¬ ((a.toNat : Nat) : Int) < a := by omega
    have ea : ((a.toNat : Nat) : Int) = a := by omega
    unfold b_X11_topic_121
    simp only [na, if_false]
    rw [ea]
  · show (0, mk C N A) = (((0 : Nat) : Int), mk C (tpI N t P r ((0 : Nat) : Int)) A)
    rw [show ((0 : Nat) : Int) = 0 from rfl, ti_0 hP]
/-- a partition is made: the class's side -/
theorem c_partInit {C : Cd} {N0 : Nd} {A : Ad} {p t k nw' r : Int} (p1 : 0 ≤ p) (p2 : p < 9) (t1 : 0 ≤ t) (t2 : t < 3) (k1 : 0 ≤ k) (k2 : k < 3) (r1 : 1 ≤ r) (r2 : r ≤ 3) (hT2 : C 10000 t 2 = r) (hT0 : C 10000 t 0 = t) (hA : A.1 (23000 + p) = 0 ∧ A.1 (20100 + p) = 0 ∧ ∀ q, 0 ≤ q → q < 3 → A.1 (8000 + (3 * p + q)) = 0) :
    ∃ C' A', p_X5_init (mk C N0 A) (6000 + p) p (10000 + t) k nw' = some (mk C' N0 A') ∧ (C' 6000 p 0 = p ∧ C' 6000 p 1 = 10000 + t ∧ C' 6000 p 2 = 23000 + p ∧ C' 6000 p 3 = 20100 + p ∧ C' 6000 p 4 = 8000 + 3 * p ∧ C' 6000 p 5 = 0) ∧ (∀ i, C' 20100 p i = 0) ∧ (∀ q, 0 ≤ q → q < 3 → C' 23000 p q = if q < r then 8000 + (3 * p + q) else 0) ∧
      (∀ q, 0 ≤ q → q < r → C' 8000 (3 * p + q) 0 = q ∧ C' 8000 (3 * p + q) 1 = (t + k + q) % 3 ∧ C' 8000 (3 * p + q) 2 = 0 ∧ C' 8000 (3 * p + q) 3 = nw' ∧ C' 8000 (3 * p + q) 4 = 1) ∧
      (∀ b i j, ¬ (b = 6000 ∧ i = p) → ¬ (b = 23000 ∧ i = p) → ¬ (b = 20100 ∧ i = p) → ¬ (b = 8000 ∧ 3 * p ≤ i ∧ i < 3 * p + 3) → C' b i j = C b i j) ∧ (∀ a, a ≠ 23000 + p → a ≠ 20100 + p → ¬ (8000 + 3 * p ≤ a ∧ a < 8000 + 3 * p + 3) → A'.1 a = A.1 a) := by
  obtain ⟨A1, A2, A3⟩ := hA
  have e1 : 23000 + (6000 + p - 6000) = 23000 + p := by omega
  have e2 : 20100 + (6000 + p - 6000) = 20100 + p := by omega
  have a2 : (alA A (23000 + p) 3).1 (20100 + p) = 0 := by rw [ad_al (by omega)]; exact A2
  let C0 : Cd := uq (uq (uq (uq (zq (uq (zq C 23000 p) 6000 p 2 (23000 + p)) 20100 p) 6000 p 3 (20100 + p)) 6000 p 5 0) 6000 p 0 p) 6000 p 1 (10000 + t)
  have c6 : ∀ i, C0 6000 p i = if i = 1 then 10000 + t else if i = 0 then p else if i = 5 then 0 else if i = 3 then 20100 + p else if i = 2 then 23000 + p else C 6000 p i := fun i => by
    show uq (uq (uq (uq (zq (uq (zq C 23000 p) 6000 p 2 (23000 + p)) 20100 p) 6000 p 3 (20100 + p)) 6000 p 5 0) 6000 p 0 p) 6000 p 1 (10000 + t) 6000 p i = _
    simp only [uq_s, zq_s, up_s, true_and, false_and, and_true, and_false, if_true, if_false, ↓reduceIte, ↓Option.bind_some, Int.reduceEq, Int.reduceNe, Int.reduceLT, Int.reduceLE, gd_true, gd_false, bind_b, q10, eq_self, reduceCtorEq, not_true_eq_false, not_false_eq_true, ne_eq]
  have c23 : ∀ i, C0 23000 p i = 0 := fun i => by
    show uq (uq (uq (uq (zq (uq (zq C 23000 p) 6000 p 2 (23000 + p)) 20100 p) 6000 p 3 (20100 + p)) 6000 p 5 0) 6000 p 0 p) 6000 p 1 (10000 + t) 23000 p i = _
    simp only [uq_s, zq_s, up_s, true_and, false_and, and_true, and_false, if_true, if_false, ↓reduceIte, ↓Option.bind_some, Int.reduceEq, Int.reduceNe, Int.reduceLT, Int.reduceLE, gd_true, gd_false, bind_b, q10, eq_self, reduceCtorEq, not_true_eq_false, not_false_eq_true, ne_eq]
  have c20 : ∀ i, C0 20100 p i = 0 := fun i => by
    show uq (uq (uq (uq (zq (uq (zq C 23000 p) 6000 p 2 (23000 + p)) 20100 p) 6000 p 3 (20100 + p)) 6000 p 5 0) 6000 p 0 p) 6000 p 1 (10000 + t) 20100 p i = _
    simp only [uq_s, zq_s, up_s, true_and, false_and, and_true, and_false, if_true, if_false, ↓reduceIte, ↓Option.bind_some, Int.reduceEq, Int.reduceNe, Int.reduceLT, Int.reduceLE, gd_true, gd_false, bind_b, q10, eq_self, reduceCtorEq, not_true_eq_false, not_false_eq_true, ne_eq]
  have cf : ∀ b i j, ¬ (b = 6000 ∧ i = p) → ¬ (b = 23000 ∧ i = p) → ¬ (b = 20100 ∧ i = p) → C0 b i j = C b i j := fun b i j h1 h2 h3 => by
    show uq (uq (uq (uq (zq (uq (zq C 23000 p) 6000 p 2 (23000 + p)) 20100 p) 6000 p 3 (20100 + p)) 6000 p 5 0) 6000 p 0 p) 6000 p 1 (10000 + t) b i j = _
    rw [uq_s, if_neg (by omega), uq_s, if_neg (by omega), uq_s, if_neg (by omega), uq_s, if_neg (by omega), zq_s, if_neg (by omega), uq_s, if_neg (by omega), zq_s, if_neg (by omega)]
  unfold p_X5_init
  simp (disch := first | omega | assumption) only [aok, up_s, true_and, false_and, and_true, and_false, if_true, if_false, ↓reduceIte, ↓Option.bind_some, Int.reduceEq, Int.reduceNe, Int.reduceLT, Int.reduceLE, gd_true, gd_false, bind_b, q10, eq_self, reduceCtorEq, not_true_eq_false, not_false_eq_true, ne_eq, cr_11000, cr_15000, cr_16000, cr_20000, cr_20001, cr_21000, cr_22000, cr_25000, cr_1000, cr_2000, cr_3000, cr_3003, cr_3006, cr_4000, cr_5000, cr_6000, cr_7000, cr_8000, cr_9000, cr_10000, cr_13500, cr_17000, cr_17100, cr_17103, cr_17106, cr_19000, cr_20100, cr_21100, cr_23000, cr_24000, cw_11000, cw_15000, cw_16000, cw_20000, cw_20001, cw_21000, cw_22000, cw_25000, cw_1000, cw_2000, cw_3000, cw_3003, cw_3006, cw_4000, cw_5000, cw_6000, cw_7000, cw_8000, cw_9000, cw_10000, cw_13500, cw_17000, cw_17100, cw_17103, cw_17106, cw_19000, cw_20100, cw_21100, cw_23000, cw_24000, lc_13500, lc_15000, lc_16000, lc_17000, lc_17100, lc_17103, lc_17106, lc_19000, lc_20000, lc_20001, lc_20100, lc_21000, lc_21100, lc_22000, lc_23000, lc_24000, lc_25000, gd_t, w_eq, e1, e2, al_23000, al_20100, a2, A1]
  show ∃ C' A', (lp (b_X5_init_39 (10000 + t) (6000 + p) k nw') 1000 (0, mk C0 N0 (alA (alA A (23000 + p) 3) (20100 + p) 60))).bind _ = _ ∧ _
  have hl : Ok (lp (b_X5_init_39 (10000 + t) (6000 + p) k nw') 1000 (0, mk C0 N0 (alA (alA A (23000 + p) 3) (20100 + p) 60))) (fun M => ∃ C1 A1, M = mk C1 N0 A1 ∧ (∀ q, 0 ≤ q → q < 3 → C1 23000 p q = if q < r then 8000 + (3 * p + q) else 0) ∧ (∀ q, 0 ≤ q → q < r → C1 8000 (3 * p + q) 0 = q ∧ C1 8000 (3 * p + q) 1 = (t + k + q) % 3 ∧ C1 8000 (3 * p + q) 2 = 0 ∧ C1 8000 (3 * p + q) 3 = nw' ∧ C1 8000 (3 * p + q) 4 = 1) ∧ (∀ b i j, ¬ (b = 23000 ∧ i = p) → ¬ (b = 8000 ∧ 3 * p ≤ i ∧ i < 3 * p + 3) → C1 b i j = C0 b i j) ∧ (∀ a, ¬ (8000 + 3 * p ≤ a ∧ a < 8000 + 3 * p + 3) → A1.1 a = (alA (alA A (23000 + p) 3) (20100 + p) 60).1 a)) := by
    refine lp_for (fun i s => ∃ C1 A1, s = (i, mk C1 N0 A1) ∧ (∀ q, 0 ≤ q → q < 3 → C1 23000 p q = if q < i then 8000 + (3 * p + q) else 0) ∧ (∀ q, 0 ≤ q → q < i → C1 8000 (3 * p + q) 0 = q ∧ C1 8000 (3 * p + q) 1 = (t + k + q) % 3 ∧ C1 8000 (3 * p + q) 2 = 0 ∧ C1 8000 (3 * p + q) 3 = nw' ∧ C1 8000 (3 * p + q) 4 = 1) ∧ (∀ b i j, ¬ (b = 23000 ∧ i = p) → ¬ (b = 8000 ∧ 3 * p ≤ i ∧ i < 3 * p + 3) → C1 b i j = C0 b i j) ∧ (∀ a, ¬ (8000 + 3 * p ≤ a ∧ a < 8000 + 3 * p + i) → A1.1 a = (alA (alA A (23000 + p) 3) (20100 + p) 60).1 a)) 0 r.toNat ?_ ?_ (by omega) ⟨C0, _, rfl, fun q q1 q2 => by rw [c23, if_neg (by omega)], fun q q1 q2 => by omega, fun _ _ _ _ _ => rfl, fun _ _ => rfl⟩
    · rintro i s i1 i2 ⟨C1, A1', rfl, h1, h2, h3, h4⟩
      have ad : A1'.1 (8000 + (3 * p + i)) = 0 := by
        rw [h4 _ (by omega), ad_al (by omega), ad_al (by omega)]
        exact A3 i i1 (by omega)
      have T2 : C1 10000 t 2 = r := by rw [h3 _ _ _ (by omega) (by omega), cf _ _ _ (by omega) (by omega) (by omega)]; exact hT2
      have T0 : C1 10000 t 0 = t := by rw [h3 _ _ _ (by omega) (by omega), cf _ _ _ (by omega) (by omega) (by omega)]; exact hT0
      have z0 : zq C1 8000 (3 * p + i) 10000 t 0 = t := by rw [zq_s, if_neg (by omega)]; exact T0
      have P2 : C1 6000 p 2 = 23000 + p := by rw [h3 _ _ _ (by omega) (by omega), c6]; rfl
      have e3 : 8000 + (3 * (6000 + p - 6000) + i) = 8000 + (3 * p + i) := by omega
      have ir : i < r := by omega
      have i3 : i < 3 := by omega
      have wt : w (t + k) = t + k := w_eq (by omega) (by omega)
      have wt2 : w (t + k + i) = t + k + i := w_eq (by omega) (by omega)
      have im : irm (t + k + i) 3 = (t + k + i) % 3 := irm_nn (by omega) (by omega) (by omega) (by omega)
      unfold b_X5_init_39 p_X7_init
      simp (disch := first | omega | assumption) only [aok, up_s, true_and, false_and, and_true, and_false, if_true, if_false, ↓reduceIte, ↓Option.bind_some, Int.reduceEq, Int.reduceNe, Int.reduceLT, Int.reduceLE, gd_true, gd_false, bind_b, q10, eq_self, reduceCtorEq, not_true_eq_false, not_false_eq_true, ne_eq, cr_11000, cr_15000, cr_16000, cr_20000, cr_20001, cr_21000, cr_22000, cr_25000, cr_1000, cr_2000, cr_3000, cr_3003, cr_3006, cr_4000, cr_5000, cr_6000, cr_7000, cr_8000, cr_9000, cr_10000, cr_13500, cr_17000, cr_17100, cr_17103, cr_17106, cr_19000, cr_20100, cr_21100, cr_23000, cr_24000, cw_11000, cw_15000, cw_16000, cw_20000, cw_20001, cw_21000, cw_22000, cw_25000, cw_1000, cw_2000, cw_3000, cw_3003, cw_3006, cw_4000, cw_5000, cw_6000, cw_7000, cw_8000, cw_9000, cw_10000, cw_13500, cw_17000, cw_17100, cw_17103, cw_17106, cw_19000, cw_20100, cw_21100, cw_23000, cw_24000, lc_13500, lc_15000, lc_16000, lc_17000, lc_17100, lc_17103, lc_17106, lc_19000, lc_20000, lc_20001, lc_20100, lc_21000, lc_21100, lc_22000, lc_23000, lc_24000, lc_25000, gd_t, w_eq, T2, ir, i3, e3, al_8000, z0, wt, wt2, im, P2]
      refine ⟨_, rfl, _, _, rfl, fun q q1 q2 => ?_, fun q q1 q2 => ?_, fun b i' j hb1 hb2 => ?_, fun a ha => ?_⟩
      · simp only [uq_s, zq_s, up_s, true_and, false_and, and_true, and_false, if_true, if_false, ↓reduceIte, ↓Option.bind_some, Int.reduceEq, Int.reduceNe, Int.reduceLT, Int.reduceLE, gd_true, gd_false, bind_b, q10, eq_self, reduceCtorEq, not_true_eq_false, not_false_eq_true, ne_eq]
        by_cases e : q = i
        · rw [if_pos e, if_pos (by omega), e]
        · rw [if_neg e, h1 q q1 q2]
          by_cases e' : q < i
          · rw [if_pos e', if_pos (by omega)]
          · rw [if_neg e', if_neg (by omega)]
      · by_cases e : q = i
        · subst e
          simp only [uq_s, zq_s, up_s, true_and, false_and, and_true, and_false, if_true, if_false, ↓reduceIte, ↓Option.bind_some, Int.reduceEq, Int.reduceNe, Int.reduceLT, Int.reduceLE, gd_true, gd_false, bind_b, q10, eq_self, reduceCtorEq, not_true_eq_false, not_false_eq_true, ne_eq, and_self]
        · have ne : ¬ 3 * p + q = 3 * p + i := by omega
          simp only [uq_s, zq_s, up_s, true_and, false_and, and_true, and_false, if_true, if_false, ↓reduceIte, ↓Option.bind_some, Int.reduceEq, Int.reduceNe, Int.reduceLT, Int.reduceLE, gd_true, gd_false, bind_b, q10, eq_self, reduceCtorEq, not_true_eq_false, not_false_eq_true, ne_eq, ne]
          exact h2 q q1 (by omega)
      · rw [uq_s, if_neg (by omega), uq_s, if_neg (by omega), uq_s, if_neg (by omega), uq_s, if_neg (by omega), uq_s, if_neg (by omega), uq_s, if_neg (by omega), zq_s, if_neg (by omega)]
        exact h3 b i' j hb1 hb2
      · rw [ad_al (by omega)]
        exact h4 a (by omega)
    · rintro s ⟨C1, A1', rfl, h1, h2, h3, h4⟩
      have er : (0 : Int) + (r.toNat : Int) = r := by omega
      rw [er] at h1 h2 h4 ⊢
      have T2 : C1 10000 t 2 = r := by rw [h3 _ _ _ (by omega) (by omega), cf _ _ _ (by omega) (by omega) (by omega)]; exact hT2
      unfold b_X5_init_39
      simp (disch := omega) only [aok, up_s, true_and, false_and, and_true, and_false, if_true, if_false, ↓reduceIte, ↓Option.bind_some, Int.reduceEq, Int.reduceNe, Int.reduceLT, Int.reduceLE, gd_true, gd_false, bind_b, q10, eq_self, reduceCtorEq, not_true_eq_false, not_false_eq_true, ne_eq, cr_11000, cr_15000, cr_16000, cr_20000, cr_20001, cr_21000, cr_22000, cr_25000, cr_1000, cr_2000, cr_3000, cr_3003, cr_3006, cr_4000, cr_5000, cr_6000, cr_7000, cr_8000, cr_9000, cr_10000, cr_13500, cr_17000, cr_17100, cr_17103, cr_17106, cr_19000, cr_20100, cr_21100, cr_23000, cr_24000, cw_11000, cw_15000, cw_16000, cw_20000, cw_20001, cw_21000, cw_22000, cw_25000, cw_1000, cw_2000, cw_3000, cw_3003, cw_3006, cw_4000, cw_5000, cw_6000, cw_7000, cw_8000, cw_9000, cw_10000, cw_13500, cw_17000, cw_17100, cw_17103, cw_17106, cw_19000, cw_20100, cw_21100, cw_23000, cw_24000, lc_13500, lc_15000, lc_16000, lc_17000, lc_17100, lc_17103, lc_17106, lc_19000, lc_20000, lc_20001, lc_20100, lc_21000, lc_21100, lc_22000, lc_23000, lc_24000, lc_25000, gd_t, w_eq, T2, Int.lt_irrefl]
      exact ⟨_, rfl, C1, A1', rfl, h1, h2, h3, fun a ha => h4 a (by omega)⟩
  obtain ⟨M, l1, C1, A1', rfl, h1, h2, h3, h4⟩ := hl
  have P2 : C1 6000 p 2 = 23000 + p := by rw [h3 _ _ _ (by omega) (by omega), c6]; rfl
  have W0 : C1 23000 p 0 = 8000 + 3 * p := by rw [h1 0 (by omega) (by omega), if_pos (by omega)]; omega
  have c6' : ∀ i, C1 6000 p i = C0 6000 p i := fun i => h3 _ _ _ (by omega) (by omega)
  refine ⟨uq C1 6000 p 4 (8000 + 3 * p), A1', ?_, ?_, fun i => ?_, fun q q1 q2 => ?_, fun q q1 q2 => ?_, fun b i j b1 b2 b3 b4 => ?_, fun a ha1 ha2 ha3 => ?_⟩
  · rw [l1]
    simp (disch := omega) only [aok, up_s, true_and, false_and, and_true, and_false, if_true, if_false, ↓reduceIte, ↓Option.bind_some, Int.reduceEq, Int.reduceNe, Int.reduceLT, Int.reduceLE, gd_true, gd_false, bind_b, q10, eq_self, reduceCtorEq, not_true_eq_false, not_false_eq_true, ne_eq, cr_11000, cr_15000, cr_16000, cr_20000, cr_20001, cr_21000, cr_22000, cr_25000, cr_1000, cr_2000, cr_3000, cr_3003, cr_3006, cr_4000, cr_5000, cr_6000, cr_7000, cr_8000, cr_9000, cr_10000, cr_13500, cr_17000, cr_17100, cr_17103, cr_17106, cr_19000, cr_20100, cr_21100, cr_23000, cr_24000, cw_11000, cw_15000, cw_16000, cw_20000, cw_20001, cw_21000, cw_22000, cw_25000, cw_1000, cw_2000, cw_3000, cw_3003, cw_3006, cw_4000, cw_5000, cw_6000, cw_7000, cw_8000, cw_9000, cw_10000, cw_13500, cw_17000, cw_17100, cw_17103, cw_17106, cw_19000, cw_20100, cw_21100, cw_23000, cw_24000, lc_13500, lc_15000, lc_16000, lc_17000, lc_17100, lc_17103, lc_17106, lc_19000, lc_20000, lc_20001, lc_20100, lc_21000, lc_21100, lc_22000, lc_23000, lc_24000, lc_25000, gd_t, w_eq, P2, W0]
  · simp only [uq_s, c6', c6, up_s, true_and, false_and, and_true, and_false, if_true, if_false, ↓reduceIte, ↓Option.bind_some, Int.reduceEq, Int.reduceNe, Int.reduceLT, Int.reduceLE, gd_true, gd_false, bind_b, q10, eq_self, reduceCtorEq, not_true_eq_false, not_false_eq_true, ne_eq, and_self]
  · rw [uq_s, if_neg (by omega), h3 _ _ _ (by omega) (by omega)]
    exact c20 i
  · rw [uq_s, if_neg (by omega)]
    exact h1 q q1 q2
  · simp only [uq_s, up_s, true_and, false_and, and_true, and_false, if_true, if_false, ↓reduceIte, ↓Option.bind_some, Int.reduceEq, Int.reduceNe, Int.reduceLT, Int.reduceLE, gd_true, gd_false, bind_b, q10, eq_self, reduceCtorEq, not_true_eq_false, not_false_eq_true, ne_eq]
    exact h2 q q1 q2
  · rw [uq_s, if_neg (by omega), h3 b i j (by omega) (by omega)]
    exact cf b i j b1 b2 b3
  · rw [h4 a ha3, ad_al ha2, ad_al ha1]
