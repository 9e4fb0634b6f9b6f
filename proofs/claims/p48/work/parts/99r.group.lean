/-! PURE PART, 99r: group: bits, the model, the class's walk -/
theorem bits8 {a t : Int} (a1 : 0 ≤ a) (a2 : a < 8) (t1 : 0 ≤ t) (t2 : t < 3) : ian a (shl 1 t) = 0 ↔ ¬ bt a t = true := by
  have k : ∀ (x : Fin 8) (y : Fin 3), ian (x.val : Int) (shl 1 (y.val : Int)) = 0 ↔ ¬ bt (x.val : Int) (y.val : Int) = true := by decide +kernel
  obtain ⟨x, rfl⟩ : ∃ x : Fin 8, a = (x.val : Int) := ⟨⟨a.toNat, by omega⟩, by show a = ((a.toNat : Nat) : Int); omega⟩
  obtain ⟨y, rfl⟩ : ∃ y : Fin 3, t = (y.val : Int) := ⟨⟨t.toNat, by omega⟩, by show t = ((t.toNat : Nat) : Int); omega⟩
  exact k x y
theorem bitsT {a T : Int} (T1 : 0 ≤ T) (T2 : T ≤ 3) (a1 : 0 < a) (a2 : a < shl 1 T) : a < 8 ∧ ∀ t, 0 ≤ t → t < 3 → bt a t = true → t < T := by
  have k : ∀ (z : Fin 4), shl 1 (z.val : Int) ≤ 8 ∧ ∀ (x : Fin 8), (x.val : Int) < shl 1 (z.val : Int) → ∀ (y : Fin 3), bt (x.val : Int) (y.val : Int) = true → (y.val : Int) < (z.val : Int) := by decide +kernel
  obtain ⟨z, rfl⟩ : ∃ z : Fin 4, T = (z.val : Int) := ⟨⟨T.toNat, by omega⟩, by show T = ((T.toNat : Nat) : Int); omega⟩
  obtain ⟨k1, k2⟩ := k z
  have a8 : a < 8 := by omega
  refine ⟨a8, fun t t1 t2 h => ?_⟩
  obtain ⟨x, rfl⟩ : ∃ x : Fin 8, a = (x.val : Int) := ⟨⟨a.toNat, by omega⟩, by show a = ((a.toNat : Nat) : Int); omega⟩
  obtain ⟨y, rfl⟩ : ∃ y : Fin 3, t = (y.val : Int) := ⟨⟨t.toNat, by omega⟩, by show t = ((t.toNat : Nat) : Int); omega⟩
  exact k2 x a2 y h
def gpI (N : Nd) (n i : Int) : Nd := ra (ra N 13055 (fun k => if 9 * n ≤ k ∧ k < 9 * n + i then -1 else N 13055 k)) 13056 (fun k => if 9 * n ≤ k ∧ k < 9 * n + i then -1 else N 13056 k)
theorem gpI_0 {N : Nd} {n : Int} : gpI N n 0 = N := by
  funext a k
  unfold gpI
  rw [ra_s, ra_s]
  by_cases h : a = 13056
  · rw [if_pos h, if_neg (by omega), h]
  · rw [if_neg h]
    by_cases h2 : a = 13055
    · rw [if_pos h2, if_neg (by omega), h2]
    · rw [if_neg h2]
theorem gpI_S {N : Nd} {n i : Int} (h : 0 ≤ i) : up (up (gpI N n i) 13055 (9 * n + i) (-1)) 13056 (9 * n + i) (-1) = gpI N n (i + 1) := by
  funext a k
  unfold gpI
  rw [up_s, up_s, ra_s, ra_s, ra_s, ra_s]
  by_cases e : a = 13056
  · subst e
    simp only [up_s, true_and, false_and, and_true, and_false, if_true, if_false, ↓reduceIte, ↓Option.bind_some, Int.reduceEq, Int.reduceNe, Int.reduceLT, Int.reduceLE, gd_true, gd_false, bind_b, q10, eq_self, reduceCtorEq, not_true_eq_false, not_false_eq_true, ne_eq]
    by_cases e2 : k = 9 * n + i
    · rw [if_pos e2, if_pos (by omega)]
    · rw [if_neg e2]
      by_cases e3 : 9 * n ≤ k ∧ k < 9 * n + i
      · rw [if_pos e3, if_pos (by omega)]
      · rw [if_neg e3, if_neg (by omega)]
  · rw [if_neg (fun z => e z.1), if_neg e, if_neg e]
    by_cases f : a = 13055
    · subst f
      simp only [up_s, true_and, false_and, and_true, and_false, if_true, if_false, ↓reduceIte, ↓Option.bind_some, Int.reduceEq, Int.reduceNe, Int.reduceLT, Int.reduceLE, gd_true, gd_false, bind_b, q10, eq_self, reduceCtorEq, not_true_eq_false, not_false_eq_true, ne_eq]
      by_cases e2 : k = 9 * n + i
      · rw [if_pos e2, if_pos (by omega)]
      · rw [if_neg e2]
        by_cases e3 : 9 * n ≤ k ∧ k < 9 * n + i
        · rw [if_pos e3, if_pos (by omega)]
        · rw [if_neg e3, if_neg (by omega)]
    · rw [if_neg (fun z => f z.1), if_neg f, if_neg f]
theorem gpI_k {N : Nd} {n i a : Int} (h1 : a ≠ 13055) (h2 : a ≠ 13056) : gpI N n i a = N a := by
  funext k
  unfold gpI
  rw [ra_s, ra_s, if_neg h2, if_neg h1]
theorem m_gpLoop {C : Cd} {N : Nd} {A : Ad} {n : Int} (hn : (N 12000 41) = n) (n1 : 0 ≤ n) (n2 : n < 3) : lp (b_X11_group_51 12000) 1000 (0, mk C N A) = some (mk C (gpI N n 9) A) := by
  refine lp_seq (fun k : Nat => ((k : Int), mk C (gpI N n k) A)) 9 (fun k hk => ?_) ?_ (by omega) (by rw [show ((0 : Nat) : Int) = 0 from rfl, gpI_0])
  · have lt : (k : Int) < 9 := by omega
    have ic : ((k + 1 : Nat) : Int) = (k : Int) + 1 := by omega
    have e41 : gpI N n k 12000 41 = n := by rw [gpI_k (by decide) (by decide)]; exact hn
    rw [ic, ← gpI_S (by omega)]
    unfold b_X11_group_51
    simp (disch := omega) only [aok, up_s, true_and, false_and, and_true, and_false, if_true, if_false, ↓reduceIte, ↓Option.bind_some, Int.reduceEq, Int.reduceNe, Int.reduceLT, Int.reduceLE, gd_true, gd_false, bind_b, q10, eq_self, reduceCtorEq, not_true_eq_false, not_false_eq_true, ne_eq, pt_0, pt_1, pt_2, pt_3, pt_4, pt_5, pt_6, pt_7, pt_8, pt_9, pt_10, pt_11, pt_12, pt_13, pt_14, pt_15, pt_16, pt_17, pt_18, pt_19, pt_20, pt_21, pt_22, pt_23, pt_24, pt_25, pt_26, pt_27, pt_28, pt_29, pt_30, pt_31, pt_32, pt_33, pt_34, pt_35, pt_36, pt_37, pt_38, pt_39, pt_40, pt_41, pt_42, pt_43, pt_44, pt_45, pt_46, pt_47, pt_48, pt_49, pt_50, pt_51, pt_52, pt_53, pt_54, pt_55, pt_56, pt_57, pt_58, pt_59, pt_60, pt_61, pt_62, pt_63, pt_64, pt_65, pt_66, pt_67, pa_13005, pw_13005, pa_13006, pw_13006, pa_13007, pw_13007, pa_14008, pw_14008, pa_13009, pw_13009, pa_13010, pw_13010, pa_13012, pw_13012, pa_13013, pw_13013, pa_13014, pw_13014, pa_13015, pw_13015, pa_13016, pw_13016, pa_13017, pw_13017, pa_13018, pw_13018, pa_13020, pw_13020, pa_13021, pw_13021, pa_13022, pw_13022, pa_13023, pw_13023, pa_13024, pw_13024, pa_13025, pw_13025, pa_13026, pw_13026, pa_13027, pw_13027, pa_13028, pw_13028, pa_13029, pw_13029, pa_13031, pw_13031, pa_13032, pw_13032, pa_13033, pw_13033, pa_14034, pw_14034, pa_13035, pw_13035, pa_13036, pw_13036, pa_13037, pw_13037, pa_13038, pw_13038, pa_13039, pw_13039, pa_13042, pw_13042, pa_13043, pw_13043, pa_13044, pw_13044, pa_13045, pw_13045, pa_13046, pw_13046, pa_13047, pw_13047, pa_13048, pw_13048, pa_13049, pw_13049, pa_13050, pw_13050, pa_13051, pw_13051, pa_13052, pw_13052, pa_13053, pw_13053, pa_13054, pw_13054, pa_13055, pw_13055, pa_13056, pw_13056, pa_13057, pw_13057, pa_13058, pw_13058, pa_13059, pw_13059, pa_13060, pw_13060, pa_13061, pw_13061, pa_13062, pw_13062, pa_13063, pw_13063, pa_13064, pw_13064, pa_13065, pw_13065, pa_13066, pw_13066, pa_13067, pw_13067, ps_0, ps_1, ps_2, ps_3, ps_4, ps_11, ps_19, ps_30, ps_40, ps_41, ln_13005, ln_13006, ln_13007, ln_14008, ln_13009, ln_13010, ln_13012, ln_13013, ln_13014, ln_13015, ln_13016, ln_13017, ln_13018, ln_13020, ln_13021, ln_13022, ln_13023, ln_13024, ln_13025, ln_13026, ln_13027, ln_13028, ln_13029, ln_13031, ln_13032, ln_13033, ln_14034, ln_13035, ln_13036, ln_13037, ln_13038, ln_13039, ln_13042, ln_13043, ln_13044, ln_13045, ln_13046, ln_13047, ln_13048, ln_13049, ln_13050, ln_13051, ln_13052, ln_13053, ln_13054, ln_13055, ln_13056, ln_13057, ln_13058, ln_13059, ln_13060, ln_13061, ln_13062, ln_13063, ln_13064, ln_13065, ln_13066, ln_13067, gd_t, w_eq, lt, e41]
  · unfold b_X11_group_51
    have nl : ¬ ((9 : Nat) : Int) < 9 := by omega
    simp (disch := omega) only [aok, up_s, true_and, false_and, and_true, and_false, if_true, if_false, ↓reduceIte, ↓Option.bind_some, Int.reduceEq, Int.reduceNe, Int.reduceLT, Int.reduceLE, gd_true, gd_false, bind_b, q10, eq_self, reduceCtorEq, not_true_eq_false, not_false_eq_true, ne_eq, pt_0, pt_1, pt_2, pt_3, pt_4, pt_5, pt_6, pt_7, pt_8, pt_9, pt_10, pt_11, pt_12, pt_13, pt_14, pt_15, pt_16, pt_17, pt_18, pt_19, pt_20, pt_21, pt_22, pt_23, pt_24, pt_25, pt_26, pt_27, pt_28, pt_29, pt_30, pt_31, pt_32, pt_33, pt_34, pt_35, pt_36, pt_37, pt_38, pt_39, pt_40, pt_41, pt_42, pt_43, pt_44, pt_45, pt_46, pt_47, pt_48, pt_49, pt_50, pt_51, pt_52, pt_53, pt_54, pt_55, pt_56, pt_57, pt_58, pt_59, pt_60, pt_61, pt_62, pt_63, pt_64, pt_65, pt_66, pt_67, pa_13005, pw_13005, pa_13006, pw_13006, pa_13007, pw_13007, pa_14008, pw_14008, pa_13009, pw_13009, pa_13010, pw_13010, pa_13012, pw_13012, pa_13013, pw_13013, pa_13014, pw_13014, pa_13015, pw_13015, pa_13016, pw_13016, pa_13017, pw_13017, pa_13018, pw_13018, pa_13020, pw_13020, pa_13021, pw_13021, pa_13022, pw_13022, pa_13023, pw_13023, pa_13024, pw_13024, pa_13025, pw_13025, pa_13026, pw_13026, pa_13027, pw_13027, pa_13028, pw_13028, pa_13029, pw_13029, pa_13031, pw_13031, pa_13032, pw_13032, pa_13033, pw_13033, pa_14034, pw_14034, pa_13035, pw_13035, pa_13036, pw_13036, pa_13037, pw_13037, pa_13038, pw_13038, pa_13039, pw_13039, pa_13042, pw_13042, pa_13043, pw_13043, pa_13044, pw_13044, pa_13045, pw_13045, pa_13046, pw_13046, pa_13047, pw_13047, pa_13048, pw_13048, pa_13049, pw_13049, pa_13050, pw_13050, pa_13051, pw_13051, pa_13052, pw_13052, pa_13053, pw_13053, pa_13054, pw_13054, pa_13055, pw_13055, pa_13056, pw_13056, pa_13057, pw_13057, pa_13058, pw_13058, pa_13059, pw_13059, pa_13060, pw_13060, pa_13061, pw_13061, pa_13062, pw_13062, pa_13063, pw_13063, pa_13064, pw_13064, pa_13065, pw_13065, pa_13066, pw_13066, pa_13067, pw_13067, ps_0, ps_1, ps_2, ps_3, ps_4, ps_11, ps_19, ps_30, ps_40, ps_41, ln_13005, ln_13006, ln_13007, ln_14008, ln_13009, ln_13010, ln_13012, ln_13013, ln_13014, ln_13015, ln_13016, ln_13017, ln_13018, ln_13020, ln_13021, ln_13022, ln_13023, ln_13024, ln_13025, ln_13026, ln_13027, ln_13028, ln_13029, ln_13031, ln_13032, ln_13033, ln_14034, ln_13035, ln_13036, ln_13037, ln_13038, ln_13039, ln_13042, ln_13043, ln_13044, ln_13045, ln_13046, ln_13047, ln_13048, ln_13049, ln_13050, ln_13051, ln_13052, ln_13053, ln_13054, ln_13055, ln_13056, ln_13057, ln_13058, ln_13059, ln_13060, ln_13061, ln_13062, ln_13063, ln_13064, ln_13065, ln_13066, ln_13067, gd_t, w_eq, nl]
    rfl
def giC (C : Cd) (n : Int) : Cd := uq (uq (uq (uq (uq (uq (uq (zq (uq (zq (uq (uq (zq (uq (zq (uq (zq (uq (zq (uq (zq (zq C 1000 n) 24000 n) 1000 n 0 (24000 + n)) 19000 n) 1000 n 1 (19000 + n)) 17000 n) 1000 n 2 (17000 + n)) 3000 n) 3000 n 1 0) 17100 n) 3000 n 0 (17100 + n)) 1000 n 3 (3000 + n)) 3003 n) 3003 n 1 0) 17103 n) 3003 n 0 (17103 + n)) 1000 n 4 (3003 + n)) 1000 n 5 0) 1000 n 6 0) 1000 n 7 0) 1000 n 8 0) 1000 n 9 0
def giA (A : Ad) (n : Int) : Ad := alA (alA (alA (alA (alA (alA (alA (alA A (1000 + n) 10) (24000 + n) 9) (19000 + n) 12) (17000 + n) 150) (3000 + n) 2) (17100 + n) 150) (3003 + n) 2) (17103 + n) 150
theorem gi_k {C : Cd} {n b i j : Int} (h : ¬ (i = n ∧ (b = 1000 ∨ b = 24000 ∨ b = 19000 ∨ b = 17000 ∨ b = 3000 ∨ b = 3003 ∨ b = 17100 ∨ b = 17103))) : giC C n b i j = C b i j := by
  unfold giC
  repeat first
    | rw [uq_s, if_neg (by omega)]
    | rw [zq_s, if_neg (by omega)]
theorem giA_k {A : Ad} {n x : Int} (h : x ≠ 1000 + n ∧ x ≠ 24000 + n ∧ x ≠ 19000 + n ∧ x ≠ 17000 + n ∧ x ≠ 3000 + n ∧ x ≠ 17100 + n ∧ x ≠ 3003 + n ∧ x ≠ 17103 + n) : (giA A n).1 x = A.1 x := by
  unfold giA
  obtain ⟨h1, h2, h3, h4, h5, h6, h7, h8⟩ := h
  rw [ad_al h8, ad_al h7, ad_al h6, ad_al h5, ad_al h4, ad_al h3, ad_al h2, ad_al h1]
theorem c_ginit {C : Cd} {N0 : Nd} {A : Ad} {n : Int} (n1 : 0 ≤ n) (n2 : n < 3) (h2 : A.1 (24000 + n) = 0) (h3 : A.1 (19000 + n) = 0) (h4 : A.1 (17000 + n) = 0) (h5 : A.1 (3000 + n) = 0) (h6 : A.1 (3003 + n) = 0) (h7 : A.1 (17100 + n) = 0) (h8 : A.1 (17103 + n) = 0) : p_X0_init (mk (zq C 1000 n) N0 (alA A (1000 + n) 10)) (1000 + n) = some (mk (giC C n) N0 (giA A n)) := by
  have e1 : 1000 + n - 1000 = n := by omega
  have e2 : 17100 + (3000 + n - 3000) = 17100 + n := by omega
  have e3 : 17100 + (3003 + n - 3000) = 17103 + n := by omega
  have b1 : (alA A (1000 + n) 10).1 (24000 + n) = 0 := by rw [ad_al (by omega)]; exact h2
  have b2 : (alA (alA A (1000 + n) 10) (24000 + n) 9).1 (19000 + n) = 0 := by rw [ad_al (by omega), ad_al (by omega)]; exact h3
  have b3 : (alA (alA (alA A (1000 + n) 10) (24000 + n) 9) (19000 + n) 12).1 (17000 + n) = 0 := by rw [ad_al (by omega), ad_al (by omega), ad_al (by omega)]; exact h4
  have b4 : (alA (alA (alA (alA A (1000 + n) 10) (24000 + n) 9) (19000 + n) 12) (17000 + n) 150).1 (3000 + n) = 0 := by rw [ad_al (by omega), ad_al (by omega), ad_al (by omega), ad_al (by omega)]; exact h5
  have b5 : (alA (alA (alA (alA (alA A (1000 + n) 10) (24000 + n) 9) (19000 + n) 12) (17000 + n) 150) (3000 + n) 2).1 (17100 + n) = 0 := by rw [ad_al (by omega), ad_al (by omega), ad_al (by omega), ad_al (by omega), ad_al (by omega)]; exact h7
  have b6 : (alA (alA (alA (alA (alA (alA A (1000 + n) 10) (24000 + n) 9) (19000 + n) 12) (17000 + n) 150) (3000 + n) 2) (17100 + n) 150).1 (3003 + n) = 0 := by rw [ad_al (by omega), ad_al (by omega), ad_al (by omega), ad_al (by omega), ad_al (by omega), ad_al (by omega)]; exact h6
  have b7 : (alA (alA (alA (alA (alA (alA (alA A (1000 + n) 10) (24000 + n) 9) (19000 + n) 12) (17000 + n) 150) (3000 + n) 2) (17100 + n) 150) (3003 + n) 2).1 (17103 + n) = 0 := by rw [ad_al (by omega), ad_al (by omega), ad_al (by omega), ad_al (by omega), ad_al (by omega), ad_al (by omega), ad_al (by omega)]; exact h8
  have i1 : ∀ (D : Cd) (B : Ad), B.1 (17100 + n) = 0 → p_X2_init (mk D N0 B) (3000 + n) 150 = some (mk (uq (zq (uq D 3000 n 1 0) 17100 n) 3000 n 0 (17100 + n)) N0 (alA B (17100 + n) 150)) := fun D B hB => by
    unfold p_X2_init
    simp (disch := first | omega | assumption) only [aok, up_s, true_and, false_and, and_true, and_false, if_true, if_false, ↓reduceIte, ↓Option.bind_some, Int.reduceEq, Int.reduceNe, Int.reduceLT, Int.reduceLE, gd_true, gd_false, bind_b, q10, eq_self, reduceCtorEq, not_true_eq_false, not_false_eq_true, ne_eq, cr_11000, cr_15000, cr_16000, cr_20000, cr_20001, cr_21000, cr_22000, cr_25000, cr_1000, cr_2000, cr_3000, cr_3003, cr_3006, cr_4000, cr_5000, cr_6000, cr_7000, cr_8000, cr_9000, cr_10000, cr_13500, cr_17000, cr_17100, cr_17103, cr_17106, cr_19000, cr_20100, cr_21100, cr_23000, cr_24000, cw_11000, cw_15000, cw_16000, cw_20000, cw_20001, cw_21000, cw_22000, cw_25000, cw_1000, cw_2000, cw_3000, cw_3003, cw_3006, cw_4000, cw_5000, cw_6000, cw_7000, cw_8000, cw_9000, cw_10000, cw_13500, cw_17000, cw_17100, cw_17103, cw_17106, cw_19000, cw_20100, cw_21100, cw_23000, cw_24000, lc_13500, lc_15000, lc_16000, lc_17000, lc_17100, lc_17103, lc_17106, lc_19000, lc_20000, lc_20001, lc_20100, lc_21000, lc_21100, lc_22000, lc_23000, lc_24000, lc_25000, gd_t, w_eq, e2, al_17100]
  have i2 : ∀ (D : Cd) (B : Ad), B.1 (17103 + n) = 0 → p_X2_init (mk D N0 B) (3003 + n) 150 = some (mk (uq (zq (uq D 3003 n 1 0) 17103 n) 3003 n 0 (17103 + n)) N0 (alA B (17103 + n) 150)) := fun D B hB => by
    unfold p_X2_init
    simp (disch := first | omega | assumption) only [aok, up_s, true_and, false_and, and_true, and_false, if_true, if_false, ↓reduceIte, ↓Option.bind_some, Int.reduceEq, Int.reduceNe, Int.reduceLT, Int.reduceLE, gd_true, gd_false, bind_b, q10, eq_self, reduceCtorEq, not_true_eq_false, not_false_eq_true, ne_eq, cr_11000, cr_15000, cr_16000, cr_20000, cr_20001, cr_21000, cr_22000, cr_25000, cr_1000, cr_2000, cr_3000, cr_3003, cr_3006, cr_4000, cr_5000, cr_6000, cr_7000, cr_8000, cr_9000, cr_10000, cr_13500, cr_17000, cr_17100, cr_17103, cr_17106, cr_19000, cr_20100, cr_21100, cr_23000, cr_24000, cw_11000, cw_15000, cw_16000, cw_20000, cw_20001, cw_21000, cw_22000, cw_25000, cw_1000, cw_2000, cw_3000, cw_3003, cw_3006, cw_4000, cw_5000, cw_6000, cw_7000, cw_8000, cw_9000, cw_10000, cw_13500, cw_17000, cw_17100, cw_17103, cw_17106, cw_19000, cw_20100, cw_21100, cw_23000, cw_24000, lc_13500, lc_15000, lc_16000, lc_17000, lc_17100, lc_17103, lc_17106, lc_19000, lc_20000, lc_20001, lc_20100, lc_21000, lc_21100, lc_22000, lc_23000, lc_24000, lc_25000, gd_t, w_eq, e3, al_17103]
  unfold p_X0_init
  simp (disch := first | omega | assumption) only [aok, up_s, true_and, false_and, and_true, and_false, if_true, if_false, ↓reduceIte, ↓Option.bind_some, Int.reduceEq, Int.reduceNe, Int.reduceLT, Int.reduceLE, gd_true, gd_false, bind_b, q10, eq_self, reduceCtorEq, not_true_eq_false, not_false_eq_true, ne_eq, cr_11000, cr_15000, cr_16000, cr_20000, cr_20001, cr_21000, cr_22000, cr_25000, cr_1000, cr_2000, cr_3000, cr_3003, cr_3006, cr_4000, cr_5000, cr_6000, cr_7000, cr_8000, cr_9000, cr_10000, cr_13500, cr_17000, cr_17100, cr_17103, cr_17106, cr_19000, cr_20100, cr_21100, cr_23000, cr_24000, cw_11000, cw_15000, cw_16000, cw_20000, cw_20001, cw_21000, cw_22000, cw_25000, cw_1000, cw_2000, cw_3000, cw_3003, cw_3006, cw_4000, cw_5000, cw_6000, cw_7000, cw_8000, cw_9000, cw_10000, cw_13500, cw_17000, cw_17100, cw_17103, cw_17106, cw_19000, cw_20100, cw_21100, cw_23000, cw_24000, lc_13500, lc_15000, lc_16000, lc_17000, lc_17100, lc_17103, lc_17106, lc_19000, lc_20000, lc_20001, lc_20100, lc_21000, lc_21100, lc_22000, lc_23000, lc_24000, lc_25000, gd_t, w_eq, e1, al_24000, al_19000, al_17000, al_3000, al_3003, i1, i2]
  rfl
/-- a share of group n is made -/
def shX (C : Cd) (n p : Int) : Cd := uq (uq (uq (uq (uq (uq (uq (uq (zq C 9000 (9 * n + p)) 9000 (9 * n + p) 1 0) 9000 (9 * n + p) 2 0) 9000 (9 * n + p) 3 0) 9000 (9 * n + p) 4 0) 9000 (9 * n + p) 5 0) 9000 (9 * n + p) 0 (6000 + p)) 24000 n p (9000 + (9 * n + p))) 1000 n 8 (C 1000 n 8 + 1)
theorem c_addShare {C : Cd} {N0 : Nd} {A : Ad} {n p : Int} (n1 : 0 ≤ n) (n2 : n < 3) (p1 : 0 ≤ p) (p2 : p < 9) (h0 : C 6000 p 0 = p) (h1 : C 1000 n 0 = 24000 + n) (h2 : 0 ≤ C 1000 n 8 ∧ C 1000 n 8 ≤ 9) (hA : A.1 (9000 + (9 * n + p)) = 0) : p_X0_addShare (mk C N0 A) (1000 + n) (6000 + p) = some (mk (shX C n p) N0 (alA A (9000 + (9 * n + p)) 6)) := by
  have e1 : 1000 + n - 1000 = n := by omega
  have nl : ¬ p < 0 := by omega
  have i1 : ∀ (D : Cd) (B : Ad), p_X8_init (mk D N0 B) (9000 + (9 * n + p)) (6000 + p) = some (mk (uq (uq (uq (uq (uq (uq D 9000 (9 * n + p) 1 0) 9000 (9 * n + p) 2 0) 9000 (9 * n + p) 3 0) 9000 (9 * n + p) 4 0) 9000 (9 * n + p) 5 0) 9000 (9 * n + p) 0 (6000 + p)) N0 B) := fun D B => by
    unfold p_X8_init
    simp (disch := omega) only [aok, up_s, true_and, false_and, and_true, and_false, if_true, if_false, ↓reduceIte, ↓Option.bind_some, Int.reduceEq, Int.reduceNe, Int.reduceLT, Int.reduceLE, gd_true, gd_false, bind_b, q10, eq_self, reduceCtorEq, not_true_eq_false, not_false_eq_true, ne_eq, cr_11000, cr_15000, cr_16000, cr_20000, cr_20001, cr_21000, cr_22000, cr_25000, cr_1000, cr_2000, cr_3000, cr_3003, cr_3006, cr_4000, cr_5000, cr_6000, cr_7000, cr_8000, cr_9000, cr_10000, cr_13500, cr_17000, cr_17100, cr_17103, cr_17106, cr_19000, cr_20100, cr_21100, cr_23000, cr_24000, cw_11000, cw_15000, cw_16000, cw_20000, cw_20001, cw_21000, cw_22000, cw_25000, cw_1000, cw_2000, cw_3000, cw_3003, cw_3006, cw_4000, cw_5000, cw_6000, cw_7000, cw_8000, cw_9000, cw_10000, cw_13500, cw_17000, cw_17100, cw_17103, cw_17106, cw_19000, cw_20100, cw_21100, cw_23000, cw_24000, lc_13500, lc_15000, lc_16000, lc_17000, lc_17100, lc_17103, lc_17106, lc_19000, lc_20000, lc_20001, lc_20100, lc_21000, lc_21100, lc_22000, lc_23000, lc_24000, lc_25000, gd_t, w_eq]
  have k8 : uq (uq (uq (uq (uq (uq (uq (zq C 9000 (9 * n + p)) 9000 (9 * n + p) 1 0) 9000 (9 * n + p) 2 0) 9000 (9 * n + p) 3 0) 9000 (9 * n + p) 4 0) 9000 (9 * n + p) 5 0) 9000 (9 * n + p) 0 (6000 + p)) 24000 n p (9000 + (9 * n + p)) 1000 n 8 = C 1000 n 8 := by
    repeat first
      | rw [uq_s, if_neg (by omega)]
      | rw [zq_s, if_neg (by omega)]
  have r1 : rd (mk C N0 A) (6000 + p) 0 = p := by rw [cr_6000 p1 p2]; exact h0
  have r2 : rd (mk C N0 A) (1000 + n) 0 = 24000 + n := by rw [cr_1000 n1 n2]; exact h1
  have al := @al_9000 C N0 A (9 * n + p) 6 (by omega) (by omega) hA
  have z6 : (6000 : Int) + p ≠ 0 := by omega
  have z24 : (24000 : Int) + n ≠ 0 := by omega
  have lc := lc_24000 n1 n2
  have ak : aok (24000 + n) p := by
    unfold aok
    rw [lc]
    omega
  have ws : w (C 1000 n 8 + 1) = C 1000 n 8 + 1 := w_eq (by omega) (by omega)
  unfold p_X0_addShare
  rw [r1, r2, e1, gd_t z6, if_neg nl, gd_t z24, if_pos (show p < ln (24000 + n) by rw [lc]; exact p2), al, Option.bind_some, i1, Option.bind_some, gd_t ak, Option.bind_some, cw_24000 n1 n2, Option.bind_some, cr_1000 n1 n2, k8, ws, cw_1000 n1 n2]
  rfl
