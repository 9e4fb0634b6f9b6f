/-! PURE PART, 31: what the model's questions answer (topics, partitions, messages) -/
def bt (s k : Int) : Bool := decide (ian (shr s k) 1 = 1)
theorem lcp_n {x y : Int} : (lcp x y < 0) = (x < y) := by
  unfold lcp
  apply propext
  by_cases h : x < y
  · rw [if_pos h]; simp [h]
  · rw [if_neg h]
    by_cases h2 : x = y
    · rw [if_pos h2]; simp [h]
    · rw [if_neg h2]; simp [h]
theorem lcp_p {x y : Int} : (0 < lcp x y) = (y < x) := by
  unfold lcp
  apply propext
  by_cases h : x < y
  · rw [if_pos h]; constructor <;> intro h3 <;> omega
  · rw [if_neg h]
    by_cases h2 : x = y
    · rw [if_pos h2]; constructor <;> intro h3 <;> omega
    · rw [if_neg h2]; constructor <;> intro h3 <;> omega
theorem lcp_z {x y : Int} : (lcp x y = 0) = (x = y) := by
  unfold lcp
  apply propext
  by_cases h : x < y
  · rw [if_pos h]; constructor <;> intro h3 <;> omega
  · rw [if_neg h]
    by_cases h2 : x = y
    · rw [if_pos h2]; simp [h2]
    · rw [if_neg h2]; simp [h2]
theorem m_in {M : Mm} {v lo hi : Int} : p_X11_in M v lo hi = some (if lo ≤ v ∧ v ≤ hi then 1 else 0) := by
  unfold p_X11_in
  simp only [lcp_n, lcp_p]
  by_cases h : v < lo
  · rw [if_pos h, if_neg (by omega)]
  · rw [if_neg h]
    by_cases h2 : hi < v
    · rw [if_pos h2, if_neg (by omega)]
    · rw [if_neg h2, if_pos (by omega)]
theorem m_has {M : Mm} {s k : Int} : p_X11_has M s k = some (if bt s k then 1 else 0) := by
  unfold p_X11_has bt
  by_cases h : ian (shr s k) 1 = 1
  · rw [if_pos h, if_pos (decide_eq_true h)]
  · rw [if_neg h, if_neg (by rw [decide_eq_false h]; decide)]
/-- ranges of the table -/
def RS (N : Nd) : Prop := (0 ≤ (N 12000 4) ∧ (N 12000 4) ≤ 3) ∧ (0 ≤ (N 12000 11) ∧ (N 12000 11) ≤ 9) ∧ (0 ≤ (N 12000 30) ∧ (N 12000 30) ≤ 4) ∧ (0 ≤ (N 12000 41) ∧ (N 12000 41) ≤ 3) ∧ (0 ≤ (N 12000 19) ∧ (N 12000 19) ≤ 150) ∧ (0 ≤ (N 12000 2) ∧ (N 12000 2) ≤ 7) ∧ (0 ≤ (N 12000 3) ∧ (N 12000 3) ≤ 9) ∧ (0 ≤ (N 12000 1) ∧ (N 12000 1) ≤ 400000000) ∧ (0 ≤ (N 12000 40) ∧ (N 12000 40) ≤ 400000000)
def RT (N : Nd) : Prop := ∀ t, 0 ≤ t → t < (N 12000 4) → (1 ≤ N 13005 t ∧ N 13005 t ≤ 3) ∧ (1 ≤ N 13006 t ∧ N 13006 t ≤ 3) ∧ (0 ≤ N 13007 t ∧ N 13007 t + N 13005 t ≤ (N 12000 11)) ∧ (0 ≤ N 14008 t ∧ N 14008 t ≤ 1) ∧ (0 ≤ N 13009 t ∧ N 13009 t ≤ 999) ∧ (1 ≤ N 13010 t ∧ N 13010 t ≤ 60)
def RP (N : Nd) : Prop := ∀ p, 0 ≤ p → p < (N 12000 11) → (0 ≤ N 13012 p ∧ N 13012 p < (N 12000 4)) ∧ (-1 ≤ N 13013 p ∧ N 13013 p < N 13006 (N 13012 p)) ∧ (0 ≤ N 13014 p ∧ N 13014 p ≤ 7) ∧ (0 ≤ N 13015 p ∧ N 13015 p ≤ 60) ∧ (N 13007 (N 13012 p) ≤ p ∧ p < N 13007 (N 13012 p) + N 13005 (N 13012 p)) ∧ (∀ r, 0 ≤ r → r < 3 → bt (N 13014 p) r → r < N 13006 (N 13012 p)) ∧ (bt (N 13014 p) 0 ∨ bt (N 13014 p) 1 ∨ bt (N 13014 p) 2)
def RE (N : Nd) : Prop := ∀ p r, 0 ≤ p → p < (N 12000 11) → 0 ≤ r → r < 3 → (0 ≤ N 13016 (3 * p + r) ∧ N 13016 (3 * p + r) ≤ 60) ∧ (0 ≤ N 13017 (3 * p + r) ∧ N 13017 (3 * p + r) ≤ (N 12000 1))
def RLg (N : Nd) : Prop := ∀ p k, 0 ≤ p → p < (N 12000 11) → 0 ≤ k → k < 60 → -1 ≤ N 13018 (60 * p + k) ∧ N 13018 (60 * p + k) < (N 12000 19)
def RM (N : Nd) : Prop := ∀ m, 0 ≤ m → m < (N 12000 19) → (0 ≤ N 13020 m ∧ N 13020 m < (N 12000 30)) ∧ (0 ≤ N 13021 m ∧ N 13021 m < (N 12000 11)) ∧ (-1 ≤ N 13023 m ∧ N 13023 m ≤ 999) ∧ (0 ≤ N 13024 m ∧ N 13024 m ≤ 3) ∧ (0 ≤ N 13025 m ∧ N 13025 m ≤ 3) ∧ (-1 ≤ N 13026 m ∧ N 13026 m < 60) ∧ (-1 ≤ N 13027 m ∧ N 13027 m ≤ (N 12000 1)) ∧ (-1 ≤ N 13029 m ∧ N 13029 m < (N 12000 40))
def RX (N : Nd) : Prop := ∀ x, 0 ≤ x → x < (N 12000 30) → (0 ≤ N 13031 x ∧ N 13031 x ≤ 20) ∧ (0 ≤ N 13032 x ∧ N 13032 x ≤ 150) ∧ (-1 ≤ N 13033 x ∧ N 13033 x < (N 12000 40)) ∧ (0 ≤ N 14034 x ∧ N 14034 x ≤ 1)
theorem m_isTopic {C : Cd} {N : Nd} {A : Ad} {t : Int} (h : RS N) : p_X11_isTopic (mk C N A) 12000 t = some (if 0 ≤ t ∧ t < (N 12000 4) then 1 else 0) := by
  have h1 := h.1
  unfold p_X11_isTopic
  rw [pt_4, m_in, w_eq (by omega) (by omega), Option.bind_some, gd_t (by split <;> simp)]
  congr 2
  simp only [eq_iff_iff]
  omega
theorem m_isPartition {C : Cd} {N : Nd} {A : Ad} {t : Int} (h : RS N) : p_X11_isPartition (mk C N A) 12000 t = some (if 0 ≤ t ∧ t < (N 12000 11) then 1 else 0) := by
  have h1 := h.2.1
  unfold p_X11_isPartition
  rw [pt_11, m_in, w_eq (by omega) (by omega), Option.bind_some, gd_t (by split <;> simp)]
  congr 2
  simp only [eq_iff_iff]
  omega
theorem m_isProducer {C : Cd} {N : Nd} {A : Ad} {t : Int} (h : RS N) : p_X11_isProducer (mk C N A) 12000 t = some (if 0 ≤ t ∧ t < (N 12000 30) then 1 else 0) := by
  have h1 := h.2.2.1
  unfold p_X11_isProducer
  rw [pt_30, m_in, w_eq (by omega) (by omega), Option.bind_some, gd_t (by split <;> simp)]
  congr 2
  simp only [eq_iff_iff]
  omega
theorem idv_nn {x y : Int} (h1 : 0 ≤ x) (h2 : x < 2147483648) (h3 : 0 < y) (h4 : y < 2147483648) : idv x y = x / y := by
  unfold idv
  have e1 : (Int32.ofInt x).toInt = x := w_eq (by omega) h2
  have e2 : (Int32.ofInt y).toInt = y := w_eq (by omega) h4
  rw [Int32.toInt_div, e1, e2, Int.tdiv_eq_ediv_of_nonneg h1]
  have h5 : x / y ≤ x := Int.ediv_le_self y h1
  have h6 : 0 ≤ x / y := Int.ediv_nonneg h1 (by omega)
  rw [Int.bmod_eq_of_le (by omega) (by omega)]
theorem irm_nn {x y : Int} (h1 : 0 ≤ x) (h2 : x < 2147483648) (h3 : 0 < y) (h4 : y < 2147483648) : irm x y = x % y := by
  have h5 : x / y ≤ x := Int.ediv_le_self y h1
  have h6 : 0 ≤ x / y := Int.ediv_nonneg h1 (by omega)
  have hq : Int32.ofInt x / Int32.ofInt y = Int32.ofInt (x / y) := Int32.toInt_inj.mp ((idv_nn h1 h2 h3 h4).trans (w_eq (z := x / y) (by omega) (by omega)).symm)
  have h7 := Int.emod_add_mul_ediv x y
  have h8 := Int.emod_nonneg x (show y ≠ 0 by omega)
  have h9 := Int.emod_lt_of_pos x h3
  have e : x - x / y * y = x % y := by
    have := Int.mul_comm (x / y) y
    omega
  unfold irm
  rw [hq, ← w_mul, ← w_sub]
  have g1 : w (x / y * y) = x / y * y := w_eq (by have := Int.mul_nonneg h6 (show 0 ≤ y by omega); omega) (by omega)
  have g2 : w (x - x / y * y) = x % y := by rw [e]; exact w_eq (by omega) (by omega)
  show w (w (x - w (x / y * y))) = x % y
  rw [g1, g2]; exact w_eq (by omega) (by omega)
/-- on which broker a replica is -/
def brk (N : Nd) (p r : Int) : Int := (N 13012 p + p - N 13007 (N 13012 p) + r) % 3
theorem m_brokerOf {C : Cd} {N : Nd} {A : Ad} {p r : Int} (h : RS N) (hT : RT N) (hP : RP N) (h1 : 0 ≤ p) (h2 : p < (N 12000 11)) (h3 : 0 ≤ r) (h4 : r < 3) : p_X11_brokerOf (mk C N A) 12000 p r = some (brk N p r) := by
  obtain ⟨a1, -, -, -, a5, -⟩ := hP p h1 h2
  obtain ⟨-, -, b3, -⟩ := hT _ a1.1 a1.2
  have s1 := h.1; have s2 := h.2.1
  unfold p_X11_brokerOf brk
  simp (disch := omega) only [aok, up_s, true_and, false_and, and_true, and_false, if_true, if_false, ↓reduceIte, ↓Option.bind_some, Int.reduceEq, Int.reduceNe, Int.reduceLT, Int.reduceLE, gd_true, gd_false, bind_b, q10, eq_self, reduceCtorEq, not_true_eq_false, not_false_eq_true, ne_eq, pt_12, pt_7, pa_13012, pa_13007, ln_13012, ln_13007, gd_t, w_eq, irm_nn]
theorem m_hasLeader {C : Cd} {N : Nd} {A : Ad} {p : Int} (h : RS N) (h1 : 0 ≤ p) (h2 : p < (N 12000 11)) : p_X11_hasLeader (mk C N A) 12000 p = some (if 0 ≤ N 13013 p then 1 else 0) := by
  have s2 := h.2.1
  unfold p_X11_hasLeader
  simp (disch := omega) only [aok, up_s, true_and, false_and, and_true, and_false, if_true, if_false, ↓reduceIte, ↓Option.bind_some, Int.reduceEq, Int.reduceNe, Int.reduceLT, Int.reduceLE, gd_true, gd_false, bind_b, q10, eq_self, reduceCtorEq, not_true_eq_false, not_false_eq_true, ne_eq, pt_13, pa_13013, ln_13013, gd_t]
  by_cases e : N 13013 p < 0
  · rw [if_pos e, if_neg (by omega)]
  · rw [if_neg e, if_pos (by omega)]
def low (s : Int) : Int := if bt s 0 then 0 else if bt s 1 then 1 else 2
theorem low_b {s : Int} : 0 ≤ low s ∧ low s < 3 := by
  unfold low
  split
  · omega
  · split <;> omega
theorem m_lowest {M : Mm} {s : Int} (h : bt s 0 ∨ bt s 1 ∨ bt s 2) : p_X11_lowest M s = some (low s) := by
  have st : ∀ k, b_X11_lowest_2 M s k = if bt s k then some (.inr k) else some (.inl (w (k + 1))) := by
    intro k
    unfold b_X11_lowest_2
    simp only [m_has, up_s, true_and, false_and, and_true, and_false, if_true, if_false, ↓reduceIte, ↓Option.bind_some, Int.reduceEq, Int.reduceNe, Int.reduceLT, Int.reduceLE, gd_true, gd_false, bind_b, q10, eq_self, reduceCtorEq, not_true_eq_false, not_false_eq_true, ne_eq]
  unfold p_X11_lowest low
  have w1 : w (0 + 1) = 1 := by decide
  have w2 : w (1 + 1) = 2 := by decide
  by_cases h0 : bt s 0
  · rw [lp_end (t := 0) (by rw [st, if_pos h0]), if_pos h0]; rfl
  · rw [if_neg h0, lp_next (s' := 1) (by rw [st, if_neg h0, w1])]
    by_cases h1 : bt s 1
    · rw [lp_end (t := 1) (by rw [st, if_pos h1]), if_pos h1]; rfl
    · rw [if_neg h1, lp_next (s' := 2) (by rw [st, if_neg h1, w2]), lp_end (t := 2) (by rw [st, if_pos (by rcases h with h | h | h; exact absurd h h0; exact absurd h h1; exact h)])]; rfl
def eol (N : Nd) (p : Int) : Int := if N 13013 p < 0 then N 13016 (3 * p + low (N 13014 p)) else N 13016 (3 * p + N 13013 p)
theorem RP.lead {N : Nd} (hT : RT N) (hP : RP N) {p : Int} (h1 : 0 ≤ p) (h2 : p < (N 12000 11)) : -1 ≤ N 13013 p ∧ N 13013 p < 3 := by
  obtain ⟨a1, a2, -⟩ := hP p h1 h2
  obtain ⟨-, b2, -⟩ := hT _ a1.1 a1.2
  omega
theorem eol_b {N : Nd} (hT : RT N) (hP : RP N) (hE : RE N) {p : Int} (h1 : 0 ≤ p) (h2 : p < (N 12000 11)) : 0 ≤ eol N p ∧ eol N p ≤ 60 := by
  have b := RP.lead hT hP h1 h2
  unfold eol
  by_cases h : N 13013 p < 0
  · rw [if_pos h]
    exact (hE p _ h1 h2 low_b.1 low_b.2).1
  · rw [if_neg h]
    exact (hE p _ h1 h2 (by omega) (by omega)).1
theorem m_endOfLog {C : Cd} {N : Nd} {A : Ad} {p : Int} (h : RS N) (hT : RT N) (hP : RP N) (h1 : 0 ≤ p) (h2 : p < (N 12000 11)) : p_X11_endOfLog (mk C N A) 12000 p = some (eol N p) := by
  have s2 := h.2.1
  have b := RP.lead hT hP h1 h2
  have lb := @low_b (N 13014 p)
  obtain ⟨-, -, -, -, -, -, a7⟩ := hP p h1 h2
  unfold p_X11_endOfLog eol
  rw [m_hasLeader h h1 h2]
  by_cases e : N 13013 p < 0
  · rw [if_pos e, if_neg (by omega)]
    simp (disch := first | omega | exact a7) only [aok, up_s, true_and, false_and, and_true, and_false, if_true, if_false, ↓reduceIte, ↓Option.bind_some, Int.reduceEq, Int.reduceNe, Int.reduceLT, Int.reduceLE, gd_true, gd_false, bind_b, q10, eq_self, reduceCtorEq, not_true_eq_false, not_false_eq_true, ne_eq, pt_0, pt_1, pt_2, pt_3, pt_4, pt_5, pt_6, pt_7, pt_8, pt_9, pt_10, pt_11, pt_12, pt_13, pt_14, pt_15, pt_16, pt_17, pt_18, pt_19, pt_20, pt_21, pt_22, pt_23, pt_24, pt_25, pt_26, pt_27, pt_28, pt_29, pt_30, pt_31, pt_32, pt_33, pt_34, pt_35, pt_36, pt_37, pt_38, pt_39, pt_40, pt_41, pt_42, pt_43, pt_44, pt_45, pt_46, pt_47, pt_48, pt_49, pt_50, pt_51, pt_52, pt_53, pt_54, pt_55, pt_56, pt_57, pt_58, pt_59, pt_60, pt_61, pt_62, pt_63, pt_64, pt_65, pt_66, pt_67, pa_13005, pw_13005, pa_13006, pw_13006, pa_13007, pw_13007, pa_14008, pw_14008, pa_13009, pw_13009, pa_13010, pw_13010, pa_13012, pw_13012, pa_13013, pw_13013, pa_13014, pw_13014, pa_13015, pw_13015, pa_13016, pw_13016, pa_13017, pw_13017, pa_13018, pw_13018, pa_13020, pw_13020, pa_13021, pw_13021, pa_13022, pw_13022, pa_13023, pw_13023, pa_13024, pw_13024, pa_13025, pw_13025, pa_13026, pw_13026, pa_13027, pw_13027, pa_13028, pw_13028, pa_13029, pw_13029, pa_13031, pw_13031, pa_13032, pw_13032, pa_13033, pw_13033, pa_14034, pw_14034, pa_13035, pw_13035, pa_13036, pw_13036, pa_13037, pw_13037, pa_13038, pw_13038, pa_13039, pw_13039, pa_13042, pw_13042, pa_13043, pw_13043, pa_13044, pw_13044, pa_13045, pw_13045, pa_13046, pw_13046, pa_13047, pw_13047, pa_13048, pw_13048, pa_13049, pw_13049, pa_13050, pw_13050, pa_13051, pw_13051, pa_13052, pw_13052, pa_13053, pw_13053, pa_13054, pw_13054, pa_13055, pw_13055, pa_13056, pw_13056, pa_13057, pw_13057, pa_13058, pw_13058, pa_13059, pw_13059, pa_13060, pw_13060, pa_13061, pw_13061, pa_13062, pw_13062, pa_13063, pw_13063, pa_13064, pw_13064, pa_13065, pw_13065, pa_13066, pw_13066, pa_13067, pw_13067, ps_0, ps_1, ps_2, ps_3, ps_4, ps_11, ps_19, ps_30, ps_40, ps_41, ln_13005, ln_13006, ln_13007, ln_14008, ln_13009, ln_13010, ln_13012, ln_13013, ln_13014, ln_13015, ln_13016, ln_13017, ln_13018, ln_13020, ln_13021, ln_13022, ln_13023, ln_13024, ln_13025, ln_13026, ln_13027, ln_13028, ln_13029, ln_13031, ln_13032, ln_13033, ln_14034, ln_13035, ln_13036, ln_13037, ln_13038, ln_13039, ln_13042, ln_13043, ln_13044, ln_13045, ln_13046, ln_13047, ln_13048, ln_13049, ln_13050, ln_13051, ln_13052, ln_13053, ln_13054, ln_13055, ln_13056, ln_13057, ln_13058, ln_13059, ln_13060, ln_13061, ln_13062, ln_13063, ln_13064, ln_13065, ln_13066, ln_13067, gd_t, w_eq, m_lowest]
  · rw [if_neg e, if_pos (by omega)]
    simp (disch := omega) only [aok, up_s, true_and, false_and, and_true, and_false, if_true, if_false, ↓reduceIte, ↓Option.bind_some, Int.reduceEq, Int.reduceNe, Int.reduceLT, Int.reduceLE, gd_true, gd_false, bind_b, q10, eq_self, reduceCtorEq, not_true_eq_false, not_false_eq_true, ne_eq, pt_0, pt_1, pt_2, pt_3, pt_4, pt_5, pt_6, pt_7, pt_8, pt_9, pt_10, pt_11, pt_12, pt_13, pt_14, pt_15, pt_16, pt_17, pt_18, pt_19, pt_20, pt_21, pt_22, pt_23, pt_24, pt_25, pt_26, pt_27, pt_28, pt_29, pt_30, pt_31, pt_32, pt_33, pt_34, pt_35, pt_36, pt_37, pt_38, pt_39, pt_40, pt_41, pt_42, pt_43, pt_44, pt_45, pt_46, pt_47, pt_48, pt_49, pt_50, pt_51, pt_52, pt_53, pt_54, pt_55, pt_56, pt_57, pt_58, pt_59, pt_60, pt_61, pt_62, pt_63, pt_64, pt_65, pt_66, pt_67, pa_13005, pw_13005, pa_13006, pw_13006, pa_13007, pw_13007, pa_14008, pw_14008, pa_13009, pw_13009, pa_13010, pw_13010, pa_13012, pw_13012, pa_13013, pw_13013, pa_13014, pw_13014, pa_13015, pw_13015, pa_13016, pw_13016, pa_13017, pw_13017, pa_13018, pw_13018, pa_13020, pw_13020, pa_13021, pw_13021, pa_13022, pw_13022, pa_13023, pw_13023, pa_13024, pw_13024, pa_13025, pw_13025, pa_13026, pw_13026, pa_13027, pw_13027, pa_13028, pw_13028, pa_13029, pw_13029, pa_13031, pw_13031, pa_13032, pw_13032, pa_13033, pw_13033, pa_14034, pw_14034, pa_13035, pw_13035, pa_13036, pw_13036, pa_13037, pw_13037, pa_13038, pw_13038, pa_13039, pw_13039, pa_13042, pw_13042, pa_13043, pw_13043, pa_13044, pw_13044, pa_13045, pw_13045, pa_13046, pw_13046, pa_13047, pw_13047, pa_13048, pw_13048, pa_13049, pw_13049, pa_13050, pw_13050, pa_13051, pw_13051, pa_13052, pw_13052, pa_13053, pw_13053, pa_13054, pw_13054, pa_13055, pw_13055, pa_13056, pw_13056, pa_13057, pw_13057, pa_13058, pw_13058, pa_13059, pw_13059, pa_13060, pw_13060, pa_13061, pw_13061, pa_13062, pw_13062, pa_13063, pw_13063, pa_13064, pw_13064, pa_13065, pw_13065, pa_13066, pw_13066, pa_13067, pw_13067, ps_0, ps_1, ps_2, ps_3, ps_4, ps_11, ps_19, ps_30, ps_40, ps_41, ln_13005, ln_13006, ln_13007, ln_14008, ln_13009, ln_13010, ln_13012, ln_13013, ln_13014, ln_13015, ln_13016, ln_13017, ln_13018, ln_13020, ln_13021, ln_13022, ln_13023, ln_13024, ln_13025, ln_13026, ln_13027, ln_13028, ln_13029, ln_13031, ln_13032, ln_13033, ln_14034, ln_13035, ln_13036, ln_13037, ln_13038, ln_13039, ln_13042, ln_13043, ln_13044, ln_13045, ln_13046, ln_13047, ln_13048, ln_13049, ln_13050, ln_13051, ln_13052, ln_13053, ln_13054, ln_13055, ln_13056, ln_13057, ln_13058, ln_13059, ln_13060, ln_13061, ln_13062, ln_13063, ln_13064, ln_13065, ln_13066, ln_13067, gd_t, w_eq]
def hwS (N : Nd) (p r a : Int) : Int := if bt (N 13014 p) r then (if N 13016 (3 * p + r) < a then N 13016 (3 * p + r) else a) else a
def hw (N : Nd) (p : Int) : Int := fo (hwS N p) 0 3 60
theorem hw_b {N : Nd} (hE : RE N) {p : Int} (h1 : 0 ≤ p) (h2 : p < (N 12000 11)) : 0 ≤ hw N p ∧ hw N p ≤ 60 :=
  fo_inv (fun _ b => 0 ≤ b ∧ b ≤ 60) (by omega) fun i b i1 i2 hb => by
    have := (hE p i h1 h2 i1 (by omega)).1
    unfold hwS
    split
    · split <;> omega
    · exact hb
theorem m_highWatermark {C : Cd} {N : Nd} {A : Ad} {p : Int} (h : RS N) (h1 : 0 ≤ p) (h2 : p < (N 12000 11)) : p_X11_highWatermark (mk C N A) 12000 p = some (hw N p) := by
  have s2 := h.2.1
  unfold p_X11_highWatermark hw
  rw [lp_fo (fun b i => (b, i)) (hwS N p) 0 3 (a := 60) (fun _ => True) trivial (fun _ _ _ _ _ => trivial) (fun i b i1 i2 _ => ?_) (t := fo (hwS N p) 0 3 60) (fun _ => ?_) (by omega) rfl]
  · rfl
  · unfold b_X11_highWatermark_5 hwS
    simp (disch := omega) only [aok, up_s, true_and, false_and, and_true, and_false, if_true, if_false, ↓reduceIte, ↓Option.bind_some, Int.reduceEq, Int.reduceNe, Int.reduceLT, Int.reduceLE, gd_true, gd_false, bind_b, q10, eq_self, reduceCtorEq, not_true_eq_false, not_false_eq_true, ne_eq, pt_0, pt_1, pt_2, pt_3, pt_4, pt_5, pt_6, pt_7, pt_8, pt_9, pt_10, pt_11, pt_12, pt_13, pt_14, pt_15, pt_16, pt_17, pt_18, pt_19, pt_20, pt_21, pt_22, pt_23, pt_24, pt_25, pt_26, pt_27, pt_28, pt_29, pt_30, pt_31, pt_32, pt_33, pt_34, pt_35, pt_36, pt_37, pt_38, pt_39, pt_40, pt_41, pt_42, pt_43, pt_44, pt_45, pt_46, pt_47, pt_48, pt_49, pt_50, pt_51, pt_52, pt_53, pt_54, pt_55, pt_56, pt_57, pt_58, pt_59, pt_60, pt_61, pt_62, pt_63, pt_64, pt_65, pt_66, pt_67, pa_13005, pw_13005, pa_13006, pw_13006, pa_13007, pw_13007, pa_14008, pw_14008, pa_13009, pw_13009, pa_13010, pw_13010, pa_13012, pw_13012, pa_13013, pw_13013, pa_13014, pw_13014, pa_13015, pw_13015, pa_13016, pw_13016, pa_13017, pw_13017, pa_13018, pw_13018, pa_13020, pw_13020, pa_13021, pw_13021, pa_13022, pw_13022, pa_13023, pw_13023, pa_13024, pw_13024, pa_13025, pw_13025, pa_13026, pw_13026, pa_13027, pw_13027, pa_13028, pw_13028, pa_13029, pw_13029, pa_13031, pw_13031, pa_13032, pw_13032, pa_13033, pw_13033, pa_14034, pw_14034, pa_13035, pw_13035, pa_13036, pw_13036, pa_13037, pw_13037, pa_13038, pw_13038, pa_13039, pw_13039, pa_13042, pw_13042, pa_13043, pw_13043, pa_13044, pw_13044, pa_13045, pw_13045, pa_13046, pw_13046, pa_13047, pw_13047, pa_13048, pw_13048, pa_13049, pw_13049, pa_13050, pw_13050, pa_13051, pw_13051, pa_13052, pw_13052, pa_13053, pw_13053, pa_13054, pw_13054, pa_13055, pw_13055, pa_13056, pw_13056, pa_13057, pw_13057, pa_13058, pw_13058, pa_13059, pw_13059, pa_13060, pw_13060, pa_13061, pw_13061, pa_13062, pw_13062, pa_13063, pw_13063, pa_13064, pw_13064, pa_13065, pw_13065, pa_13066, pw_13066, pa_13067, pw_13067, ps_0, ps_1, ps_2, ps_3, ps_4, ps_11, ps_19, ps_30, ps_40, ps_41, ln_13005, ln_13006, ln_13007, ln_14008, ln_13009, ln_13010, ln_13012, ln_13013, ln_13014, ln_13015, ln_13016, ln_13017, ln_13018, ln_13020, ln_13021, ln_13022, ln_13023, ln_13024, ln_13025, ln_13026, ln_13027, ln_13028, ln_13029, ln_13031, ln_13032, ln_13033, ln_14034, ln_13035, ln_13036, ln_13037, ln_13038, ln_13039, ln_13042, ln_13043, ln_13044, ln_13045, ln_13046, ln_13047, ln_13048, ln_13049, ln_13050, ln_13051, ln_13052, ln_13053, ln_13054, ln_13055, ln_13056, ln_13057, ln_13058, ln_13059, ln_13060, ln_13061, ln_13062, ln_13063, ln_13064, ln_13065, ln_13066, ln_13067, gd_t, w_eq, m_has, if_pos]
    by_cases e : bt (N 13014 p) i
    · rw [if_pos e, if_pos e]
      split <;> rfl
    · rw [if_neg e, if_neg e]
  · unfold b_X11_highWatermark_5
    simp (disch := omega) only [aok, up_s, true_and, false_and, and_true, and_false, if_true, if_false, ↓reduceIte, ↓Option.bind_some, Int.reduceEq, Int.reduceNe, Int.reduceLT, Int.reduceLE, gd_true, gd_false, bind_b, q10, eq_self, reduceCtorEq, not_true_eq_false, not_false_eq_true, ne_eq, pt_0, pt_1, pt_2, pt_3, pt_4, pt_5, pt_6, pt_7, pt_8, pt_9, pt_10, pt_11, pt_12, pt_13, pt_14, pt_15, pt_16, pt_17, pt_18, pt_19, pt_20, pt_21, pt_22, pt_23, pt_24, pt_25, pt_26, pt_27, pt_28, pt_29, pt_30, pt_31, pt_32, pt_33, pt_34, pt_35, pt_36, pt_37, pt_38, pt_39, pt_40, pt_41, pt_42, pt_43, pt_44, pt_45, pt_46, pt_47, pt_48, pt_49, pt_50, pt_51, pt_52, pt_53, pt_54, pt_55, pt_56, pt_57, pt_58, pt_59, pt_60, pt_61, pt_62, pt_63, pt_64, pt_65, pt_66, pt_67, pa_13005, pw_13005, pa_13006, pw_13006, pa_13007, pw_13007, pa_14008, pw_14008, pa_13009, pw_13009, pa_13010, pw_13010, pa_13012, pw_13012, pa_13013, pw_13013, pa_13014, pw_13014, pa_13015, pw_13015, pa_13016, pw_13016, pa_13017, pw_13017, pa_13018, pw_13018, pa_13020, pw_13020, pa_13021, pw_13021, pa_13022, pw_13022, pa_13023, pw_13023, pa_13024, pw_13024, pa_13025, pw_13025, pa_13026, pw_13026, pa_13027, pw_13027, pa_13028, pw_13028, pa_13029, pw_13029, pa_13031, pw_13031, pa_13032, pw_13032, pa_13033, pw_13033, pa_14034, pw_14034, pa_13035, pw_13035, pa_13036, pw_13036, pa_13037, pw_13037, pa_13038, pw_13038, pa_13039, pw_13039, pa_13042, pw_13042, pa_13043, pw_13043, pa_13044, pw_13044, pa_13045, pw_13045, pa_13046, pw_13046, pa_13047, pw_13047, pa_13048, pw_13048, pa_13049, pw_13049, pa_13050, pw_13050, pa_13051, pw_13051, pa_13052, pw_13052, pa_13053, pw_13053, pa_13054, pw_13054, pa_13055, pw_13055, pa_13056, pw_13056, pa_13057, pw_13057, pa_13058, pw_13058, pa_13059, pw_13059, pa_13060, pw_13060, pa_13061, pw_13061, pa_13062, pw_13062, pa_13063, pw_13063, pa_13064, pw_13064, pa_13065, pw_13065, pa_13066, pw_13066, pa_13067, pw_13067, ps_0, ps_1, ps_2, ps_3, ps_4, ps_11, ps_19, ps_30, ps_40, ps_41, ln_13005, ln_13006, ln_13007, ln_14008, ln_13009, ln_13010, ln_13012, ln_13013, ln_13014, ln_13015, ln_13016, ln_13017, ln_13018, ln_13020, ln_13021, ln_13022, ln_13023, ln_13024, ln_13025, ln_13026, ln_13027, ln_13028, ln_13029, ln_13031, ln_13032, ln_13033, ln_14034, ln_13035, ln_13036, ln_13037, ln_13038, ln_13039, ln_13042, ln_13043, ln_13044, ln_13045, ln_13046, ln_13047, ln_13048, ln_13049, ln_13050, ln_13051, ln_13052, ln_13053, ln_13054, ln_13055, ln_13056, ln_13057, ln_13058, ln_13059, ln_13060, ln_13061, ln_13062, ln_13063, ln_13064, ln_13065, ln_13066, ln_13067, gd_t, w_eq, if_neg]
def opn (N : Nd) (p k : Int) : Bool := decide (0 ≤ N 13018 (60 * p + k) ∧ N 13025 (N 13018 (60 * p + k)) = 1)
def so (N : Nd) (p : Int) : Int := ff (opn N p) (hw N p).toNat 0
theorem so_b {N : Nd} (hE : RE N) {p : Int} (h1 : 0 ≤ p) (h2 : p < (N 12000 11)) : 0 ≤ so N p ∧ so N p ≤ hw N p := by
  have a := hw_b hE h1 h2
  have b := @ff_b (opn N p) (hw N p).toNat 0
  unfold so
  omega
theorem m_stableOffset {C : Cd} {N : Nd} {A : Ad} {p : Int} (h : RS N) (hE : RE N) (hL : RLg N) (h1 : 0 ≤ p) (h2 : p < (N 12000 11)) : p_X11_stableOffset (mk C N A) 12000 p = some (so N p) := by
  have s2 := h.2.1
  have s5 := h.2.2.2.2.1
  have hb := hw_b hE h1 h2
  have fb := @ff_b (opn N p) (hw N p).toNat 0
  unfold p_X11_stableOffset
  rw [m_highWatermark h h1 h2, Option.bind_some]
  have st : ∀ k, 0 ≤ k → k < hw N p → b_X11_stableOffset_8 (hw N p) (mk C N A) 12000 p k = if opn N p k = true then some (.inr (.inl k)) else some (.inl (k + 1)) := by
    intro k k1 k2
    have := hL p k h1 h2 k1 (by omega)
    unfold b_X11_stableOffset_8 opn
    simp (disch := omega) only [aok, up_s, true_and, false_and, and_true, and_false, if_true, if_false, ↓reduceIte, ↓Option.bind_some, Int.reduceEq, Int.reduceNe, Int.reduceLT, Int.reduceLE, gd_true, gd_false, bind_b, q10, eq_self, reduceCtorEq, not_true_eq_false, not_false_eq_true, ne_eq, pt_0, pt_1, pt_2, pt_3, pt_4, pt_5, pt_6, pt_7, pt_8, pt_9, pt_10, pt_11, pt_12, pt_13, pt_14, pt_15, pt_16, pt_17, pt_18, pt_19, pt_20, pt_21, pt_22, pt_23, pt_24, pt_25, pt_26, pt_27, pt_28, pt_29, pt_30, pt_31, pt_32, pt_33, pt_34, pt_35, pt_36, pt_37, pt_38, pt_39, pt_40, pt_41, pt_42, pt_43, pt_44, pt_45, pt_46, pt_47, pt_48, pt_49, pt_50, pt_51, pt_52, pt_53, pt_54, pt_55, pt_56, pt_57, pt_58, pt_59, pt_60, pt_61, pt_62, pt_63, pt_64, pt_65, pt_66, pt_67, pa_13005, pw_13005, pa_13006, pw_13006, pa_13007, pw_13007, pa_14008, pw_14008, pa_13009, pw_13009, pa_13010, pw_13010, pa_13012, pw_13012, pa_13013, pw_13013, pa_13014, pw_13014, pa_13015, pw_13015, pa_13016, pw_13016, pa_13017, pw_13017, pa_13018, pw_13018, pa_13020, pw_13020, pa_13021, pw_13021, pa_13022, pw_13022, pa_13023, pw_13023, pa_13024, pw_13024, pa_13025, pw_13025, pa_13026, pw_13026, pa_13027, pw_13027, pa_13028, pw_13028, pa_13029, pw_13029, pa_13031, pw_13031, pa_13032, pw_13032, pa_13033, pw_13033, pa_14034, pw_14034, pa_13035, pw_13035, pa_13036, pw_13036, pa_13037, pw_13037, pa_13038, pw_13038, pa_13039, pw_13039, pa_13042, pw_13042, pa_13043, pw_13043, pa_13044, pw_13044, pa_13045, pw_13045, pa_13046, pw_13046, pa_13047, pw_13047, pa_13048, pw_13048, pa_13049, pw_13049, pa_13050, pw_13050, pa_13051, pw_13051, pa_13052, pw_13052, pa_13053, pw_13053, pa_13054, pw_13054, pa_13055, pw_13055, pa_13056, pw_13056, pa_13057, pw_13057, pa_13058, pw_13058, pa_13059, pw_13059, pa_13060, pw_13060, pa_13061, pw_13061, pa_13062, pw_13062, pa_13063, pw_13063, pa_13064, pw_13064, pa_13065, pw_13065, pa_13066, pw_13066, pa_13067, pw_13067, ps_0, ps_1, ps_2, ps_3, ps_4, ps_11, ps_19, ps_30, ps_40, ps_41, ln_13005, ln_13006, ln_13007, ln_14008, ln_13009, ln_13010, ln_13012, ln_13013, ln_13014, ln_13015, ln_13016, ln_13017, ln_13018, ln_13020, ln_13021, ln_13022, ln_13023, ln_13024, ln_13025, ln_13026, ln_13027, ln_13028, ln_13029, ln_13031, ln_13032, ln_13033, ln_14034, ln_13035, ln_13036, ln_13037, ln_13038, ln_13039, ln_13042, ln_13043, ln_13044, ln_13045, ln_13046, ln_13047, ln_13048, ln_13049, ln_13050, ln_13051, ln_13052, ln_13053, ln_13054, ln_13055, ln_13056, ln_13057, ln_13058, ln_13059, ln_13060, ln_13061, ln_13062, ln_13063, ln_13064, ln_13065, ln_13066, ln_13067, gd_t, w_eq, if_pos, decide_eq_true_eq]
    by_cases e : N 13018 (60 * p + k) < 0
    · rw [if_pos e, if_neg (by omega)]
    · rw [if_neg e]
      by_cases e2 : N 13025 (N 13018 (60 * p + k)) = 1
      · rw [if_pos e2, if_pos (by omega)]
      · rw [if_neg e2, if_neg (by omega)]
  rw [lp_ff (fun i => i) (opn N p) (hw N p).toNat 0 (t := if so N p < hw N p then .inl (so N p) else .inr ()) (fun i i1 i2 hi => ?_) (fun g1 g2 => ?_) (fun g1 => ?_) (by omega) rfl]
  · by_cases e : so N p < hw N p
    · rw [if_pos e]; rfl
    · rw [if_neg e]
      show some (hw N p) = some (so N p)
      unfold so at e ⊢
      congr 1; omega
  · show b_X11_stableOffset_8 _ _ _ _ i = _
    rw [st i i1 (by omega), hi]; rfl
  · show b_X11_stableOffset_8 _ _ _ _ (so N p) = _
    rw [st _ (by unfold so; omega) (by unfold so; omega), if_pos (show opn N p (so N p) = true from g2), if_pos (by unfold so; omega)]
  · show b_X11_stableOffset_8 _ _ _ _ (0 + ((hw N p).toNat : Int)) = _
    unfold b_X11_stableOffset_8
    rw [if_neg (by omega), if_neg (by unfold so; omega)]
abbrev canR (N : Nd) (m : Int) : Prop := N 13024 m = 1 ∧ N 13026 m < so N (N 13021 m) ∧ (N 13025 m = 0 ∨ N 13025 m = 2)
theorem m_canRead {C : Cd} {N : Nd} {A : Ad} {m : Int} (h : RS N) (hE : RE N) (hL : RLg N) (hM : RM N) (h1 : 0 ≤ m) (h2 : m < (N 12000 19)) : p_X11_canRead (mk C N A) 12000 m = some (if canR N m then 1 else 0) := by
  have s5 := h.2.2.2.2.1
  obtain ⟨-, a2, -⟩ := hM m h1 h2
  unfold p_X11_canRead
  simp (disch := omega) only [aok, up_s, true_and, false_and, and_true, and_false, if_true, if_false, ↓reduceIte, ↓Option.bind_some, Int.reduceEq, Int.reduceNe, Int.reduceLT, Int.reduceLE, gd_true, gd_false, bind_b, q10, eq_self, reduceCtorEq, not_true_eq_false, not_false_eq_true, ne_eq, pt_0, pt_1, pt_2, pt_3, pt_4, pt_5, pt_6, pt_7, pt_8, pt_9, pt_10, pt_11, pt_12, pt_13, pt_14, pt_15, pt_16, pt_17, pt_18, pt_19, pt_20, pt_21, pt_22, pt_23, pt_24, pt_25, pt_26, pt_27, pt_28, pt_29, pt_30, pt_31, pt_32, pt_33, pt_34, pt_35, pt_36, pt_37, pt_38, pt_39, pt_40, pt_41, pt_42, pt_43, pt_44, pt_45, pt_46, pt_47, pt_48, pt_49, pt_50, pt_51, pt_52, pt_53, pt_54, pt_55, pt_56, pt_57, pt_58, pt_59, pt_60, pt_61, pt_62, pt_63, pt_64, pt_65, pt_66, pt_67, pa_13005, pw_13005, pa_13006, pw_13006, pa_13007, pw_13007, pa_14008, pw_14008, pa_13009, pw_13009, pa_13010, pw_13010, pa_13012, pw_13012, pa_13013, pw_13013, pa_13014, pw_13014, pa_13015, pw_13015, pa_13016, pw_13016, pa_13017, pw_13017, pa_13018, pw_13018, pa_13020, pw_13020, pa_13021, pw_13021, pa_13022, pw_13022, pa_13023, pw_13023, pa_13024, pw_13024, pa_13025, pw_13025, pa_13026, pw_13026, pa_13027, pw_13027, pa_13028, pw_13028, pa_13029, pw_13029, pa_13031, pw_13031, pa_13032, pw_13032, pa_13033, pw_13033, pa_14034, pw_14034, pa_13035, pw_13035, pa_13036, pw_13036, pa_13037, pw_13037, pa_13038, pw_13038, pa_13039, pw_13039, pa_13042, pw_13042, pa_13043, pw_13043, pa_13044, pw_13044, pa_13045, pw_13045, pa_13046, pw_13046, pa_13047, pw_13047, pa_13048, pw_13048, pa_13049, pw_13049, pa_13050, pw_13050, pa_13051, pw_13051, pa_13052, pw_13052, pa_13053, pw_13053, pa_13054, pw_13054, pa_13055, pw_13055, pa_13056, pw_13056, pa_13057, pw_13057, pa_13058, pw_13058, pa_13059, pw_13059, pa_13060, pw_13060, pa_13061, pw_13061, pa_13062, pw_13062, pa_13063, pw_13063, pa_13064, pw_13064, pa_13065, pw_13065, pa_13066, pw_13066, pa_13067, pw_13067, ps_0, ps_1, ps_2, ps_3, ps_4, ps_11, ps_19, ps_30, ps_40, ps_41, ln_13005, ln_13006, ln_13007, ln_14008, ln_13009, ln_13010, ln_13012, ln_13013, ln_13014, ln_13015, ln_13016, ln_13017, ln_13018, ln_13020, ln_13021, ln_13022, ln_13023, ln_13024, ln_13025, ln_13026, ln_13027, ln_13028, ln_13029, ln_13031, ln_13032, ln_13033, ln_14034, ln_13035, ln_13036, ln_13037, ln_13038, ln_13039, ln_13042, ln_13043, ln_13044, ln_13045, ln_13046, ln_13047, ln_13048, ln_13049, ln_13050, ln_13051, ln_13052, ln_13053, ln_13054, ln_13055, ln_13056, ln_13057, ln_13058, ln_13059, ln_13060, ln_13061, ln_13062, ln_13063, ln_13064, ln_13065, ln_13066, ln_13067, gd_t, w_eq, m_stableOffset h hE hL a2.1 a2.2]
  by_cases e1 : N 13024 m = 1
  · rw [if_pos e1]
    by_cases e2 : N 13026 m < so N (N 13021 m)
    · rw [if_pos e2]
      by_cases e3 : N 13025 m = 0
      · rw [if_pos e3, if_pos ⟨e1, e2, Or.inl e3⟩]
      · rw [if_neg e3]
        by_cases e4 : N 13025 m = 2
        · rw [if_pos e4, if_pos ⟨e1, e2, Or.inr e4⟩]
        · rw [if_neg e4, if_neg (fun q => by rcases q.2.2 with q | q; exact e3 q; exact e4 q)]
    · rw [if_neg e2, if_neg (fun q => e2 q.2.1)]
  · rw [if_neg e1, if_neg (fun q => e1 q.1)]
abbrev stA (N : Nd) (p k : Int) : Prop := 0 ≤ N 13018 (60 * p + k) ∧ N 13024 (N 13018 (60 * p + k)) = 1
theorem m_isStoredAt {C : Cd} {N : Nd} {A : Ad} {p k : Int} (h : RS N) (hL : RLg N) (h1 : 0 ≤ p) (h2 : p < (N 12000 11)) (h3 : 0 ≤ k) (h4 : k < 60) : p_X11_isStoredAt (mk C N A) 12000 p k = some (if stA N p k then 1 else 0) := by
  have s2 := h.2.1
  have s5 := h.2.2.2.2.1
  have := hL p k h1 h2 h3 h4
  unfold p_X11_isStoredAt
  simp (disch := omega) only [aok, up_s, true_and, false_and, and_true, and_false, if_true, if_false, ↓reduceIte, ↓Option.bind_some, Int.reduceEq, Int.reduceNe, Int.reduceLT, Int.reduceLE, gd_true, gd_false, bind_b, q10, eq_self, reduceCtorEq, not_true_eq_false, not_false_eq_true, ne_eq, pt_0, pt_1, pt_2, pt_3, pt_4, pt_5, pt_6, pt_7, pt_8, pt_9, pt_10, pt_11, pt_12, pt_13, pt_14, pt_15, pt_16, pt_17, pt_18, pt_19, pt_20, pt_21, pt_22, pt_23, pt_24, pt_25, pt_26, pt_27, pt_28, pt_29, pt_30, pt_31, pt_32, pt_33, pt_34, pt_35, pt_36, pt_37, pt_38, pt_39, pt_40, pt_41, pt_42, pt_43, pt_44, pt_45, pt_46, pt_47, pt_48, pt_49, pt_50, pt_51, pt_52, pt_53, pt_54, pt_55, pt_56, pt_57, pt_58, pt_59, pt_60, pt_61, pt_62, pt_63, pt_64, pt_65, pt_66, pt_67, pa_13005, pw_13005, pa_13006, pw_13006, pa_13007, pw_13007, pa_14008, pw_14008, pa_13009, pw_13009, pa_13010, pw_13010, pa_13012, pw_13012, pa_13013, pw_13013, pa_13014, pw_13014, pa_13015, pw_13015, pa_13016, pw_13016, pa_13017, pw_13017, pa_13018, pw_13018, pa_13020, pw_13020, pa_13021, pw_13021, pa_13022, pw_13022, pa_13023, pw_13023, pa_13024, pw_13024, pa_13025, pw_13025, pa_13026, pw_13026, pa_13027, pw_13027, pa_13028, pw_13028, pa_13029, pw_13029, pa_13031, pw_13031, pa_13032, pw_13032, pa_13033, pw_13033, pa_14034, pw_14034, pa_13035, pw_13035, pa_13036, pw_13036, pa_13037, pw_13037, pa_13038, pw_13038, pa_13039, pw_13039, pa_13042, pw_13042, pa_13043, pw_13043, pa_13044, pw_13044, pa_13045, pw_13045, pa_13046, pw_13046, pa_13047, pw_13047, pa_13048, pw_13048, pa_13049, pw_13049, pa_13050, pw_13050, pa_13051, pw_13051, pa_13052, pw_13052, pa_13053, pw_13053, pa_13054, pw_13054, pa_13055, pw_13055, pa_13056, pw_13056, pa_13057, pw_13057, pa_13058, pw_13058, pa_13059, pw_13059, pa_13060, pw_13060, pa_13061, pw_13061, pa_13062, pw_13062, pa_13063, pw_13063, pa_13064, pw_13064, pa_13065, pw_13065, pa_13066, pw_13066, pa_13067, pw_13067, ps_0, ps_1, ps_2, ps_3, ps_4, ps_11, ps_19, ps_30, ps_40, ps_41, ln_13005, ln_13006, ln_13007, ln_14008, ln_13009, ln_13010, ln_13012, ln_13013, ln_13014, ln_13015, ln_13016, ln_13017, ln_13018, ln_13020, ln_13021, ln_13022, ln_13023, ln_13024, ln_13025, ln_13026, ln_13027, ln_13028, ln_13029, ln_13031, ln_13032, ln_13033, ln_14034, ln_13035, ln_13036, ln_13037, ln_13038, ln_13039, ln_13042, ln_13043, ln_13044, ln_13045, ln_13046, ln_13047, ln_13048, ln_13049, ln_13050, ln_13051, ln_13052, ln_13053, ln_13054, ln_13055, ln_13056, ln_13057, ln_13058, ln_13059, ln_13060, ln_13061, ln_13062, ln_13063, ln_13064, ln_13065, ln_13066, ln_13067, gd_t, w_eq]
  by_cases e : N 13018 (60 * p + k) < 0
  · rw [if_pos e, if_neg (by omega)]
  · rw [if_neg e]
    by_cases e2 : N 13024 (N 13018 (60 * p + k)) = 1
    · rw [if_pos e2, if_pos (by omega)]
    · rw [if_neg e2, if_neg (by omega)]
def sti (N : Nd) (p : Int) : Int := su (fun k => if stA N p k then 1 else 0) 0 60
theorem ite_b {P : Prop} {_d : Decidable P} : 0 ≤ (if P then (1 : Int) else 0) ∧ (if P then (1 : Int) else 0) ≤ 1 := by split <;> omega
theorem m_storedIn {C : Cd} {N : Nd} {A : Ad} {p : Int} (h : RS N) (hL : RLg N) (h1 : 0 ≤ p) (h2 : p < (N 12000 11)) : p_X11_storedIn (mk C N A) 12000 p = some (sti N p) := by
  unfold p_X11_storedIn
  rw [lp_su (fun b i => (b, i)) (fun k => if stA N p k then 1 else 0) 0 60 1 (fun i _ _ => ite_b) (by decide) (fun i a i1 i2 a1 a2 => ?_) (t := sti N p) ?_ (by omega) rfl]
  · rfl
  · unfold b_X11_storedIn_4
    simp (disch := omega) only [aok, up_s, true_and, false_and, and_true, and_false, if_true, if_false, ↓reduceIte, ↓Option.bind_some, Int.reduceEq, Int.reduceNe, Int.reduceLT, Int.reduceLE, gd_true, gd_false, bind_b, q10, eq_self, reduceCtorEq, not_true_eq_false, not_false_eq_true, ne_eq, pt_0, pt_1, pt_2, pt_3, pt_4, pt_5, pt_6, pt_7, pt_8, pt_9, pt_10, pt_11, pt_12, pt_13, pt_14, pt_15, pt_16, pt_17, pt_18, pt_19, pt_20, pt_21, pt_22, pt_23, pt_24, pt_25, pt_26, pt_27, pt_28, pt_29, pt_30, pt_31, pt_32, pt_33, pt_34, pt_35, pt_36, pt_37, pt_38, pt_39, pt_40, pt_41, pt_42, pt_43, pt_44, pt_45, pt_46, pt_47, pt_48, pt_49, pt_50, pt_51, pt_52, pt_53, pt_54, pt_55, pt_56, pt_57, pt_58, pt_59, pt_60, pt_61, pt_62, pt_63, pt_64, pt_65, pt_66, pt_67, pa_13005, pw_13005, pa_13006, pw_13006, pa_13007, pw_13007, pa_14008, pw_14008, pa_13009, pw_13009, pa_13010, pw_13010, pa_13012, pw_13012, pa_13013, pw_13013, pa_13014, pw_13014, pa_13015, pw_13015, pa_13016, pw_13016, pa_13017, pw_13017, pa_13018, pw_13018, pa_13020, pw_13020, pa_13021, pw_13021, pa_13022, pw_13022, pa_13023, pw_13023, pa_13024, pw_13024, pa_13025, pw_13025, pa_13026, pw_13026, pa_13027, pw_13027, pa_13028, pw_13028, pa_13029, pw_13029, pa_13031, pw_13031, pa_13032, pw_13032, pa_13033, pw_13033, pa_14034, pw_14034, pa_13035, pw_13035, pa_13036, pw_13036, pa_13037, pw_13037, pa_13038, pw_13038, pa_13039, pw_13039, pa_13042, pw_13042, pa_13043, pw_13043, pa_13044, pw_13044, pa_13045, pw_13045, pa_13046, pw_13046, pa_13047, pw_13047, pa_13048, pw_13048, pa_13049, pw_13049, pa_13050, pw_13050, pa_13051, pw_13051, pa_13052, pw_13052, pa_13053, pw_13053, pa_13054, pw_13054, pa_13055, pw_13055, pa_13056, pw_13056, pa_13057, pw_13057, pa_13058, pw_13058, pa_13059, pw_13059, pa_13060, pw_13060, pa_13061, pw_13061, pa_13062, pw_13062, pa_13063, pw_13063, pa_13064, pw_13064, pa_13065, pw_13065, pa_13066, pw_13066, pa_13067, pw_13067, ps_0, ps_1, ps_2, ps_3, ps_4, ps_11, ps_19, ps_30, ps_40, ps_41, ln_13005, ln_13006, ln_13007, ln_14008, ln_13009, ln_13010, ln_13012, ln_13013, ln_13014, ln_13015, ln_13016, ln_13017, ln_13018, ln_13020, ln_13021, ln_13022, ln_13023, ln_13024, ln_13025, ln_13026, ln_13027, ln_13028, ln_13029, ln_13031, ln_13032, ln_13033, ln_14034, ln_13035, ln_13036, ln_13037, ln_13038, ln_13039, ln_13042, ln_13043, ln_13044, ln_13045, ln_13046, ln_13047, ln_13048, ln_13049, ln_13050, ln_13051, ln_13052, ln_13053, ln_13054, ln_13055, ln_13056, ln_13057, ln_13058, ln_13059, ln_13060, ln_13061, ln_13062, ln_13063, ln_13064, ln_13065, ln_13066, ln_13067, gd_t, w_eq, if_neg]
    rfl
  · unfold b_X11_storedIn_4
    simp (disch := omega) only [aok, up_s, true_and, false_and, and_true, and_false, if_true, if_false, ↓reduceIte, ↓Option.bind_some, Int.reduceEq, Int.reduceNe, Int.reduceLT, Int.reduceLE, gd_true, gd_false, bind_b, q10, eq_self, reduceCtorEq, not_true_eq_false, not_false_eq_true, ne_eq, pt_0, pt_1, pt_2, pt_3, pt_4, pt_5, pt_6, pt_7, pt_8, pt_9, pt_10, pt_11, pt_12, pt_13, pt_14, pt_15, pt_16, pt_17, pt_18, pt_19, pt_20, pt_21, pt_22, pt_23, pt_24, pt_25, pt_26, pt_27, pt_28, pt_29, pt_30, pt_31, pt_32, pt_33, pt_34, pt_35, pt_36, pt_37, pt_38, pt_39, pt_40, pt_41, pt_42, pt_43, pt_44, pt_45, pt_46, pt_47, pt_48, pt_49, pt_50, pt_51, pt_52, pt_53, pt_54, pt_55, pt_56, pt_57, pt_58, pt_59, pt_60, pt_61, pt_62, pt_63, pt_64, pt_65, pt_66, pt_67, pa_13005, pw_13005, pa_13006, pw_13006, pa_13007, pw_13007, pa_14008, pw_14008, pa_13009, pw_13009, pa_13010, pw_13010, pa_13012, pw_13012, pa_13013, pw_13013, pa_13014, pw_13014, pa_13015, pw_13015, pa_13016, pw_13016, pa_13017, pw_13017, pa_13018, pw_13018, pa_13020, pw_13020, pa_13021, pw_13021, pa_13022, pw_13022, pa_13023, pw_13023, pa_13024, pw_13024, pa_13025, pw_13025, pa_13026, pw_13026, pa_13027, pw_13027, pa_13028, pw_13028, pa_13029, pw_13029, pa_13031, pw_13031, pa_13032, pw_13032, pa_13033, pw_13033, pa_14034, pw_14034, pa_13035, pw_13035, pa_13036, pw_13036, pa_13037, pw_13037, pa_13038, pw_13038, pa_13039, pw_13039, pa_13042, pw_13042, pa_13043, pw_13043, pa_13044, pw_13044, pa_13045, pw_13045, pa_13046, pw_13046, pa_13047, pw_13047, pa_13048, pw_13048, pa_13049, pw_13049, pa_13050, pw_13050, pa_13051, pw_13051, pa_13052, pw_13052, pa_13053, pw_13053, pa_13054, pw_13054, pa_13055, pw_13055, pa_13056, pw_13056, pa_13057, pw_13057, pa_13058, pw_13058, pa_13059, pw_13059, pa_13060, pw_13060, pa_13061, pw_13061, pa_13062, pw_13062, pa_13063, pw_13063, pa_13064, pw_13064, pa_13065, pw_13065, pa_13066, pw_13066, pa_13067, pw_13067, ps_0, ps_1, ps_2, ps_3, ps_4, ps_11, ps_19, ps_30, ps_40, ps_41, ln_13005, ln_13006, ln_13007, ln_14008, ln_13009, ln_13010, ln_13012, ln_13013, ln_13014, ln_13015, ln_13016, ln_13017, ln_13018, ln_13020, ln_13021, ln_13022, ln_13023, ln_13024, ln_13025, ln_13026, ln_13027, ln_13028, ln_13029, ln_13031, ln_13032, ln_13033, ln_14034, ln_13035, ln_13036, ln_13037, ln_13038, ln_13039, ln_13042, ln_13043, ln_13044, ln_13045, ln_13046, ln_13047, ln_13048, ln_13049, ln_13050, ln_13051, ln_13052, ln_13053, ln_13054, ln_13055, ln_13056, ln_13057, ln_13058, ln_13059, ln_13060, ln_13061, ln_13062, ln_13063, ln_13064, ln_13065, ln_13066, ln_13067, gd_t, w_eq, if_pos, m_isStoredAt h hL h1 h2]
    by_cases e : stA N p i
    · rw [if_pos e] at a2 ⊢
      rw [if_pos e]
    · rw [if_neg e] at a2 ⊢
      rw [if_neg e]
abbrev pcut (N : Nd) (x p m : Int) : Prop := N 13024 m = 2 ∧ N 13025 m = 0 ∧ N 13020 m = x ∧ N 13021 m = p
def cuts (N : Nd) (x p : Int) : Int := su (fun m => if pcut N x p m then 1 else 0) 0 ((N 12000 19)).toNat
theorem m_cutOf {C : Cd} {N : Nd} {A : Ad} {x p : Int} (h : RS N) : p_X11_cutOf (mk C N A) 12000 x p = some (cuts N x p) := by
  have s5 := h.2.2.2.2.1
  unfold p_X11_cutOf
  rw [lp_su (fun b i => (b, i)) (fun m => if pcut N x p m then 1 else 0) 0 ((N 12000 19)).toNat 1 (fun i _ _ => ite_b) (by omega) (fun i a i1 i2 a1 a2 => ?_) (t := cuts N x p) ?_ (by omega) rfl]
  · rfl
  · unfold b_X11_cutOf_5
    simp (disch := omega) only [aok, up_s, true_and, false_and, and_true, and_false, if_true, if_false, ↓reduceIte, ↓Option.bind_some, Int.reduceEq, Int.reduceNe, Int.reduceLT, Int.reduceLE, gd_true, gd_false, bind_b, q10, eq_self, reduceCtorEq, not_true_eq_false, not_false_eq_true, ne_eq, pt_0, pt_1, pt_2, pt_3, pt_4, pt_5, pt_6, pt_7, pt_8, pt_9, pt_10, pt_11, pt_12, pt_13, pt_14, pt_15, pt_16, pt_17, pt_18, pt_19, pt_20, pt_21, pt_22, pt_23, pt_24, pt_25, pt_26, pt_27, pt_28, pt_29, pt_30, pt_31, pt_32, pt_33, pt_34, pt_35, pt_36, pt_37, pt_38, pt_39, pt_40, pt_41, pt_42, pt_43, pt_44, pt_45, pt_46, pt_47, pt_48, pt_49, pt_50, pt_51, pt_52, pt_53, pt_54, pt_55, pt_56, pt_57, pt_58, pt_59, pt_60, pt_61, pt_62, pt_63, pt_64, pt_65, pt_66, pt_67, pa_13005, pw_13005, pa_13006, pw_13006, pa_13007, pw_13007, pa_14008, pw_14008, pa_13009, pw_13009, pa_13010, pw_13010, pa_13012, pw_13012, pa_13013, pw_13013, pa_13014, pw_13014, pa_13015, pw_13015, pa_13016, pw_13016, pa_13017, pw_13017, pa_13018, pw_13018, pa_13020, pw_13020, pa_13021, pw_13021, pa_13022, pw_13022, pa_13023, pw_13023, pa_13024, pw_13024, pa_13025, pw_13025, pa_13026, pw_13026, pa_13027, pw_13027, pa_13028, pw_13028, pa_13029, pw_13029, pa_13031, pw_13031, pa_13032, pw_13032, pa_13033, pw_13033, pa_14034, pw_14034, pa_13035, pw_13035, pa_13036, pw_13036, pa_13037, pw_13037, pa_13038, pw_13038, pa_13039, pw_13039, pa_13042, pw_13042, pa_13043, pw_13043, pa_13044, pw_13044, pa_13045, pw_13045, pa_13046, pw_13046, pa_13047, pw_13047, pa_13048, pw_13048, pa_13049, pw_13049, pa_13050, pw_13050, pa_13051, pw_13051, pa_13052, pw_13052, pa_13053, pw_13053, pa_13054, pw_13054, pa_13055, pw_13055, pa_13056, pw_13056, pa_13057, pw_13057, pa_13058, pw_13058, pa_13059, pw_13059, pa_13060, pw_13060, pa_13061, pw_13061, pa_13062, pw_13062, pa_13063, pw_13063, pa_13064, pw_13064, pa_13065, pw_13065, pa_13066, pw_13066, pa_13067, pw_13067, ps_0, ps_1, ps_2, ps_3, ps_4, ps_11, ps_19, ps_30, ps_40, ps_41, ln_13005, ln_13006, ln_13007, ln_14008, ln_13009, ln_13010, ln_13012, ln_13013, ln_13014, ln_13015, ln_13016, ln_13017, ln_13018, ln_13020, ln_13021, ln_13022, ln_13023, ln_13024, ln_13025, ln_13026, ln_13027, ln_13028, ln_13029, ln_13031, ln_13032, ln_13033, ln_14034, ln_13035, ln_13036, ln_13037, ln_13038, ln_13039, ln_13042, ln_13043, ln_13044, ln_13045, ln_13046, ln_13047, ln_13048, ln_13049, ln_13050, ln_13051, ln_13052, ln_13053, ln_13054, ln_13055, ln_13056, ln_13057, ln_13058, ln_13059, ln_13060, ln_13061, ln_13062, ln_13063, ln_13064, ln_13065, ln_13066, ln_13067, gd_t, w_eq, if_neg]
    rfl
  · unfold b_X11_cutOf_5
    simp (disch := omega) only [aok, up_s, true_and, false_and, and_true, and_false, if_true, if_false, ↓reduceIte, ↓Option.bind_some, Int.reduceEq, Int.reduceNe, Int.reduceLT, Int.reduceLE, gd_true, gd_false, bind_b, q10, eq_self, reduceCtorEq, not_true_eq_false, not_false_eq_true, ne_eq, pt_0, pt_1, pt_2, pt_3, pt_4, pt_5, pt_6, pt_7, pt_8, pt_9, pt_10, pt_11, pt_12, pt_13, pt_14, pt_15, pt_16, pt_17, pt_18, pt_19, pt_20, pt_21, pt_22, pt_23, pt_24, pt_25, pt_26, pt_27, pt_28, pt_29, pt_30, pt_31, pt_32, pt_33, pt_34, pt_35, pt_36, pt_37, pt_38, pt_39, pt_40, pt_41, pt_42, pt_43, pt_44, pt_45, pt_46, pt_47, pt_48, pt_49, pt_50, pt_51, pt_52, pt_53, pt_54, pt_55, pt_56, pt_57, pt_58, pt_59, pt_60, pt_61, pt_62, pt_63, pt_64, pt_65, pt_66, pt_67, pa_13005, pw_13005, pa_13006, pw_13006, pa_13007, pw_13007, pa_14008, pw_14008, pa_13009, pw_13009, pa_13010, pw_13010, pa_13012, pw_13012, pa_13013, pw_13013, pa_13014, pw_13014, pa_13015, pw_13015, pa_13016, pw_13016, pa_13017, pw_13017, pa_13018, pw_13018, pa_13020, pw_13020, pa_13021, pw_13021, pa_13022, pw_13022, pa_13023, pw_13023, pa_13024, pw_13024, pa_13025, pw_13025, pa_13026, pw_13026, pa_13027, pw_13027, pa_13028, pw_13028, pa_13029, pw_13029, pa_13031, pw_13031, pa_13032, pw_13032, pa_13033, pw_13033, pa_14034, pw_14034, pa_13035, pw_13035, pa_13036, pw_13036, pa_13037, pw_13037, pa_13038, pw_13038, pa_13039, pw_13039, pa_13042, pw_13042, pa_13043, pw_13043, pa_13044, pw_13044, pa_13045, pw_13045, pa_13046, pw_13046, pa_13047, pw_13047, pa_13048, pw_13048, pa_13049, pw_13049, pa_13050, pw_13050, pa_13051, pw_13051, pa_13052, pw_13052, pa_13053, pw_13053, pa_13054, pw_13054, pa_13055, pw_13055, pa_13056, pw_13056, pa_13057, pw_13057, pa_13058, pw_13058, pa_13059, pw_13059, pa_13060, pw_13060, pa_13061, pw_13061, pa_13062, pw_13062, pa_13063, pw_13063, pa_13064, pw_13064, pa_13065, pw_13065, pa_13066, pw_13066, pa_13067, pw_13067, ps_0, ps_1, ps_2, ps_3, ps_4, ps_11, ps_19, ps_30, ps_40, ps_41, ln_13005, ln_13006, ln_13007, ln_14008, ln_13009, ln_13010, ln_13012, ln_13013, ln_13014, ln_13015, ln_13016, ln_13017, ln_13018, ln_13020, ln_13021, ln_13022, ln_13023, ln_13024, ln_13025, ln_13026, ln_13027, ln_13028, ln_13029, ln_13031, ln_13032, ln_13033, ln_14034, ln_13035, ln_13036, ln_13037, ln_13038, ln_13039, ln_13042, ln_13043, ln_13044, ln_13045, ln_13046, ln_13047, ln_13048, ln_13049, ln_13050, ln_13051, ln_13052, ln_13053, ln_13054, ln_13055, ln_13056, ln_13057, ln_13058, ln_13059, ln_13060, ln_13061, ln_13062, ln_13063, ln_13064, ln_13065, ln_13066, ln_13067, gd_t, w_eq, if_pos]
    by_cases e1 : N 13024 i = 2
    · rw [if_pos e1]
      by_cases e2 : N 13025 i = 0
      · rw [if_pos e2]
        by_cases e3 : N 13020 i = x
        · rw [if_pos e3]
          by_cases e4 : N 13021 i = p
          · have ee : pcut N x p i := ⟨e1, e2, e3, e4⟩
            rw [if_pos ee] at a2 ⊢
            rw [if_pos e4]
          · rw [if_neg e4, if_neg (fun q => e4 q.2.2.2)]
        · rw [if_neg e3, if_neg (fun q => e3 q.2.2.1)]
      · rw [if_neg e2, if_neg (fun q => e2 q.2.1)]
    · rw [if_neg e1, if_neg (fun q => e1 q.1)]
theorem m_hasRoom {C : Cd} {N : Nd} {A : Ad} {p : Int} (h : RS N) (hT : RT N) (hP : RP N) (h1 : 0 ≤ p) (h2 : p < (N 12000 11)) : p_X11_hasRoom (mk C N A) 12000 p = some (if 0 ≤ N 13013 p ∧ eol N p < 60 then 1 else 0) := by
  unfold p_X11_hasRoom
  rw [m_hasLeader h h1 h2, Option.bind_some, q10]
  by_cases e : 0 ≤ N 13013 p
  · rw [if_pos e, m_endOfLog h hT hP h1 h2, Option.bind_some]
    by_cases e2 : eol N p < 60
    · rw [if_pos e2, if_pos ⟨e, e2⟩]
    · rw [if_neg e2, if_neg (fun q => e2 q.2)]
  · rw [if_neg e, if_neg (fun q => e q.1)]
def RG (N : Nd) : Prop := RS N ∧ RT N ∧ RP N ∧ RE N ∧ RLg N ∧ RM N ∧ RX N
section
variable {N : Nd}
theorem RG.s (g : RG N) : RS N := g.1
theorem RG.t (g : RG N) : RT N := g.2.1
theorem RG.p (g : RG N) : RP N := g.2.2.1
theorem RG.e (g : RG N) : RE N := g.2.2.2.1
theorem RG.l (g : RG N) : RLg N := g.2.2.2.2.1
theorem RG.m (g : RG N) : RM N := g.2.2.2.2.2.1
theorem RG.x (g : RG N) : RX N := g.2.2.2.2.2.2
theorem RG.rep (g : RG N) {p : Int} (h1 : 0 ≤ p) (h2 : p < (N 12000 11)) : 1 ≤ N 13006 (N 13012 p) ∧ N 13006 (N 13012 p) ≤ 3 := by
  obtain ⟨a1, -⟩ := g.p p h1 h2
  exact (g.t _ a1.1 a1.2).2.1
end
