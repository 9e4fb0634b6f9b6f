/-! PURE PART, 72: a message leaves a hand -/
theorem su_c1 : ∀ {n : Nat} {i0 : Int}, su (fun _ => 1) i0 n = n
  | 0, _ => rfl
  | n + 1, i0 => by
    rw [su_S, @su_c1 n i0]
    omega
theorem inj_lt {n m : Int} {f : Int → Int} (h0 : 0 ≤ n) (m1 : 0 ≤ m) (m2 : m < 150) (hb : ∀ k, 0 ≤ k → k < n → 0 ≤ f k ∧ f k < 150 ∧ f k ≠ m) (hd : ∀ i k, 0 ≤ i → i < k → k < n → f i ≠ f k) : n < 150 := by
  let T : Int → Int := fun x => su (fun k => if f k = x then 1 else 0) 0 n.toNat
  have e1 : n = su T 0 150 := by
    have : su (fun _ => (1 : Int)) 0 n.toNat = n := by rw [su_c1]; omega
    rw [← this]
    have e2 : su (fun _ => (1 : Int)) 0 n.toNat = su (fun k => su (fun x => if f k = x then 1 else 0) 0 150) 0 n.toNat := su_congr fun k k1 k2 => by
      have b := hb k k1 (by omega)
      rw [su_one (f k) b.1 (by omega) (fun i _ _ ni => if_neg (fun q => ni q.symm)), if_pos rfl]
    rw [e2]
    exact su_swap
  have tb : ∀ x, 0 ≤ T x ∧ T x ≤ 1 := fun x => by
    by_cases z : ∃ k, 0 ≤ k ∧ k < n ∧ f k = x
    · obtain ⟨k, k1, k2, k3⟩ := z
      have : T x = 1 := by
        show su (fun k => if f k = x then 1 else 0) 0 n.toNat = 1
        rw [su_one k k1 (by omega) (fun i i1 i2 ni => if_neg (fun q => ?_)), if_pos k3]
        by_cases y : i < k
        · exact hd i k i1 y k2 (q.trans k3.symm)
        · exact hd k i k1 (by omega) (by omega) (k3.trans q.symm)
      omega
    · have : T x = 0 := su_zero fun k k1 k2 => if_neg (fun q => z ⟨k, k1, by omega, q⟩)
      omega
  have t0 : T m = 0 := su_zero fun k k1 k2 => if_neg (hb k k1 (by omega)).2.2
  have e3 : (150 : Nat) = m.toNat + (1 + (149 - m).toNat) := by omega
  rw [e3, su_add, su_add] at e1
  have b1 := @su_b T 0 m.toNat 1 (fun i _ _ => tb i)
  have b2 := @su_b T (0 + (m.toNat : Int) + ((1 : Nat) : Int)) (149 - m).toNat 1 (fun i _ _ => tb i)
  have e4 : su T (0 + (m.toNat : Int)) 1 = 0 := by
    rw [su_S, su_0, show 0 + (m.toNat : Int) + ((0 : Nat) : Int) = m by omega, t0]
    rfl
  omega
/-- a hand without the place k, i of its rows moved -/
def ooI (N : Nd) (g j k i : Int) : Nd := fun b q =>
  if b = 13052 ∨ b = 13053 ∨ b = 13054 then (if 9 * (12 * g + j) + k ≤ q ∧ q < 9 * (12 * g + j) + k + i then N b (q + 1) else N b q)
  else if b = 13051 ∧ q = 12 * g + j then N 13051 (12 * g + j) - 1 else N b q
section OO
variable {N : Nd} {g j k i q b : Int}
theorem oo_b (hb : b = 13052 ∨ b = 13053 ∨ b = 13054) : ooI N g j k i b q = if 9 * (12 * g + j) + k ≤ q ∧ q < 9 * (12 * g + j) + k + i then N b (q + 1) else N b q := by unfold ooI; rw [if_pos hb]
theorem oo_m : ooI N g j k i 13051 q = if q = 12 * g + j then N 13051 (12 * g + j) - 1 else N 13051 q := by unfold ooI; simp only [up_s, true_and, false_and, and_true, and_false, if_true, if_false, ↓reduceIte, ↓Option.bind_some, Int.reduceEq, Int.reduceNe, Int.reduceLT, Int.reduceLE, gd_true, gd_false, bind_b, q10, eq_self, reduceCtorEq, not_true_eq_false, not_false_eq_true, ne_eq, or_self]
theorem oo_ar (hb : b < 13051 ∨ 13054 < b) : ooI N g j k i b = N b := by
  funext q
  unfold ooI
  rw [if_neg (by omega), if_neg (by omega)]
theorem oo_0 : ooI N g j k 0 = up N 13051 (12 * g + j) (N 13051 (12 * g + j) - 1) := by
  funext b q
  unfold ooI
  rw [up_s]
  by_cases h : b = 13052 ∨ b = 13053 ∨ b = 13054
  · rw [if_pos h, if_neg (by omega), if_neg (by omega)]
  · rw [if_neg h]
theorem oo_S {Q : Int} (i0 : 0 ≤ i) (hQ : Q = 9 * (12 * g + j) + k + i) : up (up (up (ooI N g j k i) 13052 Q (ooI N g j k i 13052 (Q + 1))) 13053 Q (ooI N g j k i 13053 (Q + 1))) 13054 Q (ooI N g j k i 13054 (Q + 1)) = ooI N g j k (i + 1) := by
  funext b x
  rw [up_s, up_s, up_s]
  by_cases h : b = 13052 ∨ b = 13053 ∨ b = 13054
  · rw [oo_b h, oo_b h]
    have key : (if x = Q then N b (Q + 1) else if 9 * (12 * g + j) + k ≤ x ∧ x < 9 * (12 * g + j) + k + i then N b (x + 1) else N b x) = if 9 * (12 * g + j) + k ≤ x ∧ x < 9 * (12 * g + j) + k + (i + 1) then N b (x + 1) else N b x := by
      by_cases e : x = Q
      · rw [if_pos e, if_pos (by omega), e]
      · rw [if_neg e]
        by_cases e2 : 9 * (12 * g + j) + k ≤ x ∧ x < 9 * (12 * g + j) + k + i
        · rw [if_pos e2, if_pos (by omega)]
        · rw [if_neg e2, if_neg (by omega)]
    rw [← key]
    rcases h with h | h | h
    · subst h
      rw [if_neg (show ¬ ((13052 : Int) = 13054 ∧ x = Q) by omega), if_neg (show ¬ ((13052 : Int) = 13053 ∧ x = Q) by omega), oo_b (Or.inl rfl), if_neg (show ¬ (9 * (12 * g + j) + k ≤ Q + 1 ∧ Q + 1 < 9 * (12 * g + j) + k + i) by omega)]
      by_cases e : x = Q
      · rw [if_pos ⟨rfl, e⟩, if_pos e]
      · rw [if_neg (fun z => e z.2), if_neg e]
    · subst h
      rw [if_neg (by omega), if_neg (show ¬ ((13053 : Int) = 13052 ∧ x = Q) by omega), oo_b (Or.inr (Or.inl rfl)), if_neg (show ¬ (9 * (12 * g + j) + k ≤ Q + 1 ∧ Q + 1 < 9 * (12 * g + j) + k + i) by omega)]
      by_cases e : x = Q
      · rw [if_pos ⟨rfl, e⟩, if_pos e]
      · rw [if_neg (fun z => e z.2), if_neg e]
    · subst h
      rw [if_neg (show ¬ ((13054 : Int) = 13053 ∧ x = Q) by omega), if_neg (show ¬ ((13054 : Int) = 13052 ∧ x = Q) by omega), oo_b (Or.inr (Or.inr rfl)), if_neg (show ¬ (9 * (12 * g + j) + k ≤ Q + 1 ∧ Q + 1 < 9 * (12 * g + j) + k + i) by omega)]
      by_cases e : x = Q
      · rw [if_pos ⟨rfl, e⟩, if_pos e]
      · rw [if_neg (fun z => e z.2), if_neg e]
  · rw [if_neg (by omega), if_neg (by omega), if_neg (by omega)]
    unfold ooI
    rw [if_neg h, if_neg h]
end OO
def ooN (N : Nd) (g j k : Int) : Nd := ooI N g j k (hn N g j - 1 - k)
theorem m_out {C : Cd} {N : Nd} {A : Ad} {g j k : Int} (g1 : 0 ≤ g) (g2 : g < 3) (j1 : 0 ≤ j) (j2 : j < 12) (k1 : 0 ≤ k) (k2 : k < hn N g j) (h9 : hn N g j ≤ 9) : p_X11_gOutOfHand (mk C N A) 12000 g j k = some (mk C (ooN N g j k) A) := by
  have hh : hn N g j = N 13051 (12 * g + j) := rfl
  have hlp : lp (b_X11_gOutOfHand_22 12000 (12 * g + j)) 1000 (k, mk C (up N 13051 (12 * g + j) (N 13051 (12 * g + j) - 1)) A) = some (mk C (ooN N g j k) A) := by
    refine lp_seq (fun i : Nat => (k + (i : Int), mk C (ooI N g j k i) A)) (hn N g j - 1 - k).toNat (fun i hi => ?_) ?_ (by omega) ?_
    · have lt : k + (i : Int) < N 13051 (12 * g + j) - 1 := by omega
      have em : ooI N g j k i 13051 (12 * g + j) = N 13051 (12 * g + j) - 1 := by rw [oo_m, if_pos rfl]
      have ic : ((i + 1 : Nat) : Int) = (i : Int) + 1 := by omega
      unfold b_X11_gOutOfHand_22
      simp (disch := omega) only [aok, up_s, true_and, false_and, and_true, and_false, if_true, if_false, ↓reduceIte, ↓Option.bind_some, Int.reduceEq, Int.reduceNe, Int.reduceLT, Int.reduceLE, gd_true, gd_false, bind_b, q10, eq_self, reduceCtorEq, not_true_eq_false, not_false_eq_true, ne_eq, pt_0, pt_1, pt_2, pt_3, pt_4, pt_5, pt_6, pt_7, pt_8, pt_9, pt_10, pt_11, pt_12, pt_13, pt_14, pt_15, pt_16, pt_17, pt_18, pt_19, pt_20, pt_21, pt_22, pt_23, pt_24, pt_25, pt_26, pt_27, pt_28, pt_29, pt_30, pt_31, pt_32, pt_33, pt_34, pt_35, pt_36, pt_37, pt_38, pt_39, pt_40, pt_41, pt_42, pt_43, pt_44, pt_45, pt_46, pt_47, pt_48, pt_49, pt_50, pt_51, pt_52, pt_53, pt_54, pt_55, pt_56, pt_57, pt_58, pt_59, pt_60, pt_61, pt_62, pt_63, pt_64, pt_65, pt_66, pt_67, pa_13005, pw_13005, pa_13006, pw_13006, pa_13007, pw_13007, pa_14008, pw_14008, pa_13009, pw_13009, pa_13010, pw_13010, pa_13012, pw_13012, pa_13013, pw_13013, pa_13014, pw_13014, pa_13015, pw_13015, pa_13016, pw_13016, pa_13017, pw_13017, pa_13018, pw_13018, pa_13020, pw_13020, pa_13021, pw_13021, pa_13022, pw_13022, pa_13023, pw_13023, pa_13024, pw_13024, pa_13025, pw_13025, pa_13026, pw_13026, pa_13027, pw_13027, pa_13028, pw_13028, pa_13029, pw_13029, pa_13031, pw_13031, pa_13032, pw_13032, pa_13033, pw_13033, pa_14034, pw_14034, pa_13035, pw_13035, pa_13036, pw_13036, pa_13037, pw_13037, pa_13038, pw_13038, pa_13039, pw_13039, pa_13042, pw_13042, pa_13043, pw_13043, pa_13044, pw_13044, pa_13045, pw_13045, pa_13046, pw_13046, pa_13047, pw_13047, pa_13048, pw_13048, pa_13049, pw_13049, pa_13050, pw_13050, pa_13051, pw_13051, pa_13052, pw_13052, pa_13053, pw_13053, pa_13054, pw_13054, pa_13055, pw_13055, pa_13056, pw_13056, pa_13057, pw_13057, pa_13058, pw_13058, pa_13059, pw_13059, pa_13060, pw_13060, pa_13061, pw_13061, pa_13062, pw_13062, pa_13063, pw_13063, pa_13064, pw_13064, pa_13065, pw_13065, pa_13066, pw_13066, pa_13067, pw_13067, ps_0, ps_1, ps_2, ps_3, ps_4, ps_11, ps_19, ps_30, ps_40, ps_41, ln_13005, ln_13006, ln_13007, ln_14008, ln_13009, ln_13010, ln_13012, ln_13013, ln_13014, ln_13015, ln_13016, ln_13017, ln_13018, ln_13020, ln_13021, ln_13022, ln_13023, ln_13024, ln_13025, ln_13026, ln_13027, ln_13028, ln_13029, ln_13031, ln_13032, ln_13033, ln_14034, ln_13035, ln_13036, ln_13037, ln_13038, ln_13039, ln_13042, ln_13043, ln_13044, ln_13045, ln_13046, ln_13047, ln_13048, ln_13049, ln_13050, ln_13051, ln_13052, ln_13053, ln_13054, ln_13055, ln_13056, ln_13057, ln_13058, ln_13059, ln_13060, ln_13061, ln_13062, ln_13063, ln_13064, ln_13065, ln_13066, ln_13067, gd_t, w_eq, em, lt]
      rw [oo_S (by omega) (by omega), ic]
      congr 3
      omega
    · have ei : (((hn N g j - 1 - k).toNat : Nat) : Int) = hn N g j - 1 - k := by omega
      have em : ooI N g j k (hn N g j - 1 - k) 13051 (12 * g + j) = N 13051 (12 * g + j) - 1 := by rw [oo_m, if_pos rfl]
      have nl : ¬ k + (hn N g j - 1 - k) < N 13051 (12 * g + j) - 1 := by omega
      rw [ei]
      unfold b_X11_gOutOfHand_22
      simp (disch := omega) only [aok, up_s, true_and, false_and, and_true, and_false, if_true, if_false, ↓reduceIte, ↓Option.bind_some, Int.reduceEq, Int.reduceNe, Int.reduceLT, Int.reduceLE, gd_true, gd_false, bind_b, q10, eq_self, reduceCtorEq, not_true_eq_false, not_false_eq_true, ne_eq, pt_0, pt_1, pt_2, pt_3, pt_4, pt_5, pt_6, pt_7, pt_8, pt_9, pt_10, pt_11, pt_12, pt_13, pt_14, pt_15, pt_16, pt_17, pt_18, pt_19, pt_20, pt_21, pt_22, pt_23, pt_24, pt_25, pt_26, pt_27, pt_28, pt_29, pt_30, pt_31, pt_32, pt_33, pt_34, pt_35, pt_36, pt_37, pt_38, pt_39, pt_40, pt_41, pt_42, pt_43, pt_44, pt_45, pt_46, pt_47, pt_48, pt_49, pt_50, pt_51, pt_52, pt_53, pt_54, pt_55, pt_56, pt_57, pt_58, pt_59, pt_60, pt_61, pt_62, pt_63, pt_64, pt_65, pt_66, pt_67, pa_13005, pw_13005, pa_13006, pw_13006, pa_13007, pw_13007, pa_14008, pw_14008, pa_13009, pw_13009, pa_13010, pw_13010, pa_13012, pw_13012, pa_13013, pw_13013, pa_13014, pw_13014, pa_13015, pw_13015, pa_13016, pw_13016, pa_13017, pw_13017, pa_13018, pw_13018, pa_13020, pw_13020, pa_13021, pw_13021, pa_13022, pw_13022, pa_13023, pw_13023, pa_13024, pw_13024, pa_13025, pw_13025, pa_13026, pw_13026, pa_13027, pw_13027, pa_13028, pw_13028, pa_13029, pw_13029, pa_13031, pw_13031, pa_13032, pw_13032, pa_13033, pw_13033, pa_14034, pw_14034, pa_13035, pw_13035, pa_13036, pw_13036, pa_13037, pw_13037, pa_13038, pw_13038, pa_13039, pw_13039, pa_13042, pw_13042, pa_13043, pw_13043, pa_13044, pw_13044, pa_13045, pw_13045, pa_13046, pw_13046, pa_13047, pw_13047, pa_13048, pw_13048, pa_13049, pw_13049, pa_13050, pw_13050, pa_13051, pw_13051, pa_13052, pw_13052, pa_13053, pw_13053, pa_13054, pw_13054, pa_13055, pw_13055, pa_13056, pw_13056, pa_13057, pw_13057, pa_13058, pw_13058, pa_13059, pw_13059, pa_13060, pw_13060, pa_13061, pw_13061, pa_13062, pw_13062, pa_13063, pw_13063, pa_13064, pw_13064, pa_13065, pw_13065, pa_13066, pw_13066, pa_13067, pw_13067, ps_0, ps_1, ps_2, ps_3, ps_4, ps_11, ps_19, ps_30, ps_40, ps_41, ln_13005, ln_13006, ln_13007, ln_14008, ln_13009, ln_13010, ln_13012, ln_13013, ln_13014, ln_13015, ln_13016, ln_13017, ln_13018, ln_13020, ln_13021, ln_13022, ln_13023, ln_13024, ln_13025, ln_13026, ln_13027, ln_13028, ln_13029, ln_13031, ln_13032, ln_13033, ln_14034, ln_13035, ln_13036, ln_13037, ln_13038, ln_13039, ln_13042, ln_13043, ln_13044, ln_13045, ln_13046, ln_13047, ln_13048, ln_13049, ln_13050, ln_13051, ln_13052, ln_13053, ln_13054, ln_13055, ln_13056, ln_13057, ln_13058, ln_13059, ln_13060, ln_13061, ln_13062, ln_13063, ln_13064, ln_13065, ln_13066, ln_13067, gd_t, w_eq, em, nl]
      rfl
    · show _ = (k + ((0 : Nat) : Int), mk C (ooI N g j k ((0 : Nat) : Int)) A)
      rw [show ((0 : Nat) : Int) = 0 from rfl, oo_0, Int.add_zero]
  unfold p_X11_gOutOfHand
  simp (disch := omega) only [aok, up_s, true_and, false_and, and_true, and_false, if_true, if_false, ↓reduceIte, ↓Option.bind_some, Int.reduceEq, Int.reduceNe, Int.reduceLT, Int.reduceLE, gd_true, gd_false, bind_b, q10, eq_self, reduceCtorEq, not_true_eq_false, not_false_eq_true, ne_eq, pt_0, pt_1, pt_2, pt_3, pt_4, pt_5, pt_6, pt_7, pt_8, pt_9, pt_10, pt_11, pt_12, pt_13, pt_14, pt_15, pt_16, pt_17, pt_18, pt_19, pt_20, pt_21, pt_22, pt_23, pt_24, pt_25, pt_26, pt_27, pt_28, pt_29, pt_30, pt_31, pt_32, pt_33, pt_34, pt_35, pt_36, pt_37, pt_38, pt_39, pt_40, pt_41, pt_42, pt_43, pt_44, pt_45, pt_46, pt_47, pt_48, pt_49, pt_50, pt_51, pt_52, pt_53, pt_54, pt_55, pt_56, pt_57, pt_58, pt_59, pt_60, pt_61, pt_62, pt_63, pt_64, pt_65, pt_66, pt_67, pa_13005, pw_13005, pa_13006, pw_13006, pa_13007, pw_13007, pa_14008, pw_14008, pa_13009, pw_13009, pa_13010, pw_13010, pa_13012, pw_13012, pa_13013, pw_13013, pa_13014, pw_13014, pa_13015, pw_13015, pa_13016, pw_13016, pa_13017, pw_13017, pa_13018, pw_13018, pa_13020, pw_13020, pa_13021, pw_13021, pa_13022, pw_13022, pa_13023, pw_13023, pa_13024, pw_13024, pa_13025, pw_13025, pa_13026, pw_13026, pa_13027, pw_13027, pa_13028, pw_13028, pa_13029, pw_13029, pa_13031, pw_13031, pa_13032, pw_13032, pa_13033, pw_13033, pa_14034, pw_14034, pa_13035, pw_13035, pa_13036, pw_13036, pa_13037, pw_13037, pa_13038, pw_13038, pa_13039, pw_13039, pa_13042, pw_13042, pa_13043, pw_13043, pa_13044, pw_13044, pa_13045, pw_13045, pa_13046, pw_13046, pa_13047, pw_13047, pa_13048, pw_13048, pa_13049, pw_13049, pa_13050, pw_13050, pa_13051, pw_13051, pa_13052, pw_13052, pa_13053, pw_13053, pa_13054, pw_13054, pa_13055, pw_13055, pa_13056, pw_13056, pa_13057, pw_13057, pa_13058, pw_13058, pa_13059, pw_13059, pa_13060, pw_13060, pa_13061, pw_13061, pa_13062, pw_13062, pa_13063, pw_13063, pa_13064, pw_13064, pa_13065, pw_13065, pa_13066, pw_13066, pa_13067, pw_13067, ps_0, ps_1, ps_2, ps_3, ps_4, ps_11, ps_19, ps_30, ps_40, ps_41, ln_13005, ln_13006, ln_13007, ln_14008, ln_13009, ln_13010, ln_13012, ln_13013, ln_13014, ln_13015, ln_13016, ln_13017, ln_13018, ln_13020, ln_13021, ln_13022, ln_13023, ln_13024, ln_13025, ln_13026, ln_13027, ln_13028, ln_13029, ln_13031, ln_13032, ln_13033, ln_14034, ln_13035, ln_13036, ln_13037, ln_13038, ln_13039, ln_13042, ln_13043, ln_13044, ln_13045, ln_13046, ln_13047, ln_13048, ln_13049, ln_13050, ln_13051, ln_13052, ln_13053, ln_13054, ln_13055, ln_13056, ln_13057, ln_13058, ln_13059, ln_13060, ln_13061, ln_13062, ln_13063, ln_13064, ln_13065, ln_13066, ln_13067, gd_t, w_eq, hlp]
section OUT
variable {C : Cd} {N : Nd} {g j k : Int}
theorem on_n (j1 : 0 ≤ j) (g1 : 0 ≤ g) {i : Int} : hn (ooN N g j k) g i = if i = j then hn N g j - 1 else hn N g i := by
  show ooN N g j k 13051 (12 * g + i) = _
  unfold ooN
  rw [oo_m]
  by_cases e : i = j
  · rw [if_pos e, if_pos (by omega)]
  · rw [if_neg e, if_neg (by omega)]
theorem on_b {b i : Int} (hb : b = 13052 ∨ b = 13053 ∨ b = 13054) (i1 : 0 ≤ i) (i2 : i < hn N g j - 1) : ooN N g j k b (9 * (12 * g + j) + i) = if i < k then N b (9 * (12 * g + j) + i) else N b (9 * (12 * g + j) + (i + 1)) := by
  unfold ooN
  rw [oo_b hb]
  by_cases e : i < k
  · rw [if_pos e, if_neg (by omega)]
  · rw [if_neg e, if_pos (by omega), Int.add_assoc]
theorem on_b2 {b i z : Int} (hb : b = 13052 ∨ b = 13053 ∨ b = 13054) (k1 : 0 ≤ k) (k2 : k < hn N g j) (h9 : hn N g j ≤ 9) (z1 : z ≠ j) (i1 : 0 ≤ i) (i2 : i < 9) : ooN N g j k b (9 * (12 * g + z) + i) = N b (9 * (12 * g + z) + i) := by
  unfold ooN
  rw [oo_b hb, if_neg]
  by_cases e : z < j
  · omega
  · omega
theorem on_ar {b : Int} (hb : b < 13051 ∨ 13054 < b) : ooN N g j k b = N b := oo_ar hb
theorem MG.out (g1 : 0 ≤ g) (j1 : 0 ≤ j) (j2 : j < 12) (k1 : 0 ≤ k) (k2 : k < hn N g j) (h9 : hn N g j ≤ 9) : MG g N (ooN N g j k) := fun a i x => by
  unfold ooN ooI
  unfold inN at x
  by_cases h : a = 13052 ∨ a = 13053 ∨ a = 13054
  · rw [if_pos h, if_neg (by omega)]
  · rw [if_neg h, if_neg (by omega)]
/-- a message that leaves a hand is away -/
theorem GA.out {C1 : Cd} {m : Int} (G : RG N) (a : GA C N g) (g1 : 0 ≤ g) (g2 : g < 3) (j1 : 0 ≤ j) (j2 : j < 12) (hi : N 13047 (12 * g + j) = 1) (k1 : 0 ≤ k) (k2 : k < hn N g j) (hm : hf N g j k = m) (l : LSr C1 3006 17106 (12 * g + j) g (hn N g j - 1) (fun i => if i < k then hf N g j i else hf N g j (i + 1))) (lk : LK 3006 17106 (12 * g + j) C C1) : GA (uq C1 2000 (150 * g + m) 1 0) (ooN N g j k) g := by
  have s5 := G.s.2.2.2.2.1
  have nmj := (a.nm j j1 j2).2.2 hi
  have h9 : hn N g j ≤ 9 := by omega
  obtain ⟨-, hh⟩ := a.ha j j1 j2 hi
  obtain ⟨⟨b1, b2, b3, b4, b5⟩, b6, b7⟩ := hh k k1 k2
  rw [hm] at b1 b2 b3 b4 b5 b6
  have e : ∀ b i z, ¬ (b = 17106 ∧ i = 12 * g + j) → ¬ (b = 3006 ∧ i = 12 * g + j ∧ z = 1) → ¬ (b = 2000 ∧ i = 150 * g + m ∧ z = 1) → uq C1 2000 (150 * g + m) 1 0 b i z = C b i z := fun b i z z1 z2 z3 => by
    rw [uq_s, if_neg z3]; exact lk b i z z1 z2
  have e0 : uq C1 2000 (150 * g + m) 1 0 2000 (150 * g + m) 1 = 0 := by rw [uq_s, if_pos ⟨rfl, rfl, rfl⟩]
  generalize hC : uq C1 2000 (150 * g + m) 1 0 = C' at e e0 ⊢
  have l' : LSr C' 3006 17106 (12 * g + j) g (hn N g j - 1) (fun i => if i < k then hf N g j i else hf N g j (i + 1)) := by
    rw [← hC]
    refine ⟨?_, ?_, fun i i1 i2 => ?_⟩
    · rw [uq_s, if_neg (by omega)]; exact l.1
    · rw [uq_s, if_neg (by omega)]; exact l.2.1
    · rw [uq_s, if_neg (by omega)]; exact l.2.2 i i1 i2
  have an : ∀ b, (b < 13051 ∨ 13054 < b) → ooN N g j k b = N b := fun b hb => on_ar hb
  have hr : ∀ p, gR (ooN N g j k) g p ↔ gR N g p := fun p => Iff.rfl
  have mg : MG g N (ooN N g j k) := MG.out g1 j1 j2 k1 k2 h9
  have cf : ∀ x, (C' x = C x → True) := fun _ _ => trivial
  have dis : ∀ z i, 0 ≤ z → z < 12 → N 13047 (12 * g + z) = 1 → 0 ≤ i → i < hn N g z → hf N g z i = m → z = j ∧ i = k := fun z i z1 z2 z3 i1 i2 hz => by
    obtain ⟨-, q6, q7⟩ := (a.ha z z1 z2 z3).2 i i1 i2
    rw [hz] at q6 q7
    have : z = j := q6.1.symm.trans b6.1
    subst this
    refine ⟨rfl, ?_⟩
    by_cases x : i < k
    · exact absurd hz (by have := b7 i i1 x; rw [hm] at this; exact this)
    · by_cases y : k < i
      · exact absurd hm (q7 k k1 y)
      · omega
  refine ⟨?_, fun p p1 p2 => ?_, fun z z1 z2 => ?_, fun z z1 z2 z3 => ?_, fun x x1 x2 => ?_, ?_, ?_, fun z z1 z2 => ?_, fun p p1 p2 => ?_, ?_⟩
  · have o := a.o
    unfold GO at o ⊢
    rw [e _ _ _ (by omega) (by omega) (by omega), e _ _ _ (by omega) (by omega) (by omega), e _ _ _ (by omega) (by omega) (by omega), e _ _ _ (by omega) (by omega) (by omega), e _ _ _ (by omega) (by omega) (by omega), e _ _ _ (by omega) (by omega) (by omega), e _ _ _ (by omega) (by omega) (by omega), e _ _ _ (by omega) (by omega) (by omega), e _ _ _ (by omega) (by omega) (by omega), an _ (by decide), an _ (by decide), an _ (by decide)]
    exact o
  · have x := a.sh p p1 p2
    have e9 : ∀ z, C' 9000 (9 * g + p) z = C 9000 (9 * g + p) z := fun z => e _ _ _ (by omega) (by omega) (by omega)
    rw [e _ _ _ (by omega) (by omega) (by omega), e9, e9, e9, e9, e9, an 13055 (by decide), an 13056 (by decide), an 13057 (by decide), an 13058 (by decide)]
    exact x
  · have x := a.me z z1 z2
    have e9 : ∀ y, C' 4000 (12 * g + z) y = C 4000 (12 * g + z) y := fun y => e _ _ _ (by omega) (by omega) (by omega)
    rw [e _ _ _ (by omega) (by omega) (by omega), e9, e9, e9, e9, e9, an _ (by decide), an _ (by decide), an _ (by decide), an _ (by decide)]
    exact x
  · have z3' : N 13047 (12 * g + z) = 1 := z3
    obtain ⟨y1, y2⟩ := a.ha z z1 z2 z3'
    by_cases ez : z = j
    · subst ez
      rw [on_n z1 g1, if_pos rfl]
      have ehf : ∀ i, 0 ≤ i → i < hn N g z - 1 → hf (ooN N g z k) g z i = if i < k then hf N g z i else hf N g z (i + 1) := fun i i1 i2 => on_b (Or.inl rfl) i1 i2
      refine ⟨⟨l'.1, l'.2.1, fun i i1 i2 => by rw [ehf i i1 i2]; exact l'.2.2 i i1 i2⟩, fun i i1 i2 => ?_⟩
      rw [ehf i i1 i2, on_b (b := 13053) (Or.inr (Or.inl rfl)) i1 i2, on_b (b := 13054) (Or.inr (Or.inr rfl)) i1 i2, an 13021 (by decide), an 13026 (by decide), an 13055 (by decide), an 13058 (by decide), an 12000 (by decide)]
      have old : ∀ s, 0 ≤ s → s < hn N g z → s ≠ k → (0 ≤ hf N g z s ∧ hf N g z s < (N 12000 19) ∧ C' 2000 (150 * g + hf N g z s) 1 = 2 ∧ C' 2000 (150 * g + hf N g z s) 3 = N 13053 (9 * (12 * g + z) + s) ∧ C' 2000 (150 * g + hf N g z s) 4 = N 13054 (9 * (12 * g + z) + s)) := fun s s1 s2 s3 => by
        obtain ⟨⟨q1, q2, q3, q4, q5⟩, -, -⟩ := y2 s s1 s2
        have nm' : hf N g z s ≠ m := fun q => s3 (dis z s z1 z2 z3' s1 s2 q).2
        rw [e _ _ _ (by omega) (by omega) (by omega), e _ _ _ (by omega) (by omega) (by omega), e _ _ _ (by omega) (by omega) (by omega)]
        exact ⟨q1, q2, q3, q4, q5⟩
      have dd : ∀ s t, 0 ≤ s → s < hn N g z → 0 ≤ t → t < hn N g z → s ≠ t → hf N g z s ≠ hf N g z t := fun s t s1 s2 t1 t2 st => by
        by_cases x : s < t
        · exact (y2 t t1 t2).2.2 s s1 x
        · exact fun q => (y2 s s1 s2).2.2 t t1 (by omega) q.symm
      by_cases c : i < k
      · simp only [if_pos c]
        refine ⟨old i i1 (by omega) (by omega), (y2 i i1 (by omega)).2.1, fun s s1 s2 => ?_⟩
        rw [ehf s s1 (by omega), if_pos (by omega)]
        exact dd s i s1 (by omega) i1 (by omega) (by omega)
      · simp only [if_neg c]
        refine ⟨old (i + 1) (by omega) (by omega) (by omega), (y2 (i + 1) (by omega) (by omega)).2.1, fun s s1 s2 => ?_⟩
        rw [ehf s s1 (by omega)]
        by_cases c2 : s < k
        · rw [if_pos c2]; exact dd s (i + 1) s1 (by omega) (by omega) (by omega) (by omega)
        · rw [if_neg c2]; exact dd (s + 1) (i + 1) (by omega) (by omega) (by omega) (by omega) (by omega)
    · rw [on_n j1 g1, if_neg ez]
      have n9 : hn N g z ≤ 9 := by have := (a.nm z z1 z2).2.2 z3'; omega
      have ehf : ∀ i, 0 ≤ i → i < hn N g z → hf (ooN N g j k) g z i = hf N g z i := fun i i1 i2 => on_b2 (Or.inl rfl) k1 k2 h9 ez i1 (by omega)
      refine ⟨⟨?_, ?_, fun i i1 i2 => ?_⟩, fun i i1 i2 => ?_⟩
      · rw [e _ _ _ (by omega) (by omega) (by omega)]; exact y1.1
      · rw [e _ _ _ (by omega) (by omega) (by omega)]; exact y1.2.1
      · rw [ehf i i1 i2, e _ _ _ (by omega) (by omega) (by omega)]; exact y1.2.2 i i1 i2
      · obtain ⟨q, q6, q7⟩ := y2 i i1 i2
        have nm' : hf N g z i ≠ m := fun y => ez (dis z i z1 z2 z3' i1 i2 y).1
        rw [ehf i i1 i2, on_b2 (b := 13053) (Or.inr (Or.inl rfl)) k1 k2 h9 ez i1 (by omega), on_b2 (b := 13054) (Or.inr (Or.inr rfl)) k1 k2 h9 ez i1 (by omega), an 13021 (by decide), an 13026 (by decide), an 13055 (by decide), an 13058 (by decide), an 12000 (by decide), e _ _ _ (by omega) (by omega) (by omega), e _ _ _ (by omega) (by omega) (by omega), e _ _ _ (by omega) (by omega) (by omega)]
        exact ⟨q, q6, fun s s1 s2 => by rw [ehf s s1 (by omega)]; exact q7 s s1 s2⟩
  · obtain ⟨x1', x2', x3', x4', x5', x6', x7', x8', x9', x0'⟩ := a.le x x1 x2
    have e17 : C' 17000 g x = C 17000 g x := e _ _ _ (by omega) (by omega) (by omega)
    have ee : ∀ z, z ≠ 1 → C' 2000 (150 * g + x) z = C 2000 (150 * g + x) z := fun z hz => e _ _ _ (by omega) (by omega) (by omega)
    rw [e17, ee 0 (by decide), ee 2 (by decide), ee 3 (by decide), ee 5 (by decide), ee 6 (by decide), an 12000 (by decide), an 13024 (by decide), an 13021 (by decide), an 13064 (by decide), an 13059 (by decide), an 13062 (by decide), an 13060 (by decide), an 13061 (by decide), an 13055 (by decide)]
    by_cases ex : x = m
    · subst ex
      rw [e0]
      exact ⟨x1', x2', fun z => ⟨rfl, (x3' z).2⟩, x4', x5', ⟨fun z => absurd z (by decide), fun z => absurd (x6'.mpr z) (by omega)⟩, ⟨fun z => absurd z (by decide), fun z => absurd (x7'.mpr z) (by omega)⟩, fun z => absurd z (by decide), by decide, x0'⟩
    · have e1 : C' 2000 (150 * g + x) 1 = C 2000 (150 * g + x) 1 := e _ _ _ (by omega) (by omega) (by omega)
      rw [e1]
      refine ⟨x1', x2', x3', x4', x5', x6', x7', fun z => ?_, x9', x0'⟩
      obtain ⟨y1, s, s1, s2, s3⟩ := x8' z
      refine ⟨y1, ?_⟩
      have lt : x < (N 12000 19) := by
        by_cases q : C 17000 g x = 0
        · have := (x3' q).1; omega
        · exact (x2' q).1
      have pb := (G.m x x1 lt).2.1
      have s2b := G.s.2.1
      have ob := (a.np (N 13021 x) pb.1 (by omega)).1.1.resolve_left y1
      rw [on_n j1 g1]
      by_cases eo : N 13055 (9 * g + N 13021 x) = j
      · rw [eo] at s2 s3 ⊢
        rw [if_pos rfl]
        have sk : s ≠ k := fun q => ex (by rw [← s3, q]; exact hm)
        by_cases c : s < k
        · refine ⟨s, s1, by omega, ?_⟩
          rw [show hf (ooN N g j k) g j s = if s < k then hf N g j s else hf N g j (s + 1) from on_b (Or.inl rfl) s1 (by omega), if_pos c]
          exact s3
        · refine ⟨s - 1, by omega, by omega, ?_⟩
          rw [show hf (ooN N g j k) g j (s - 1) = if s - 1 < k then hf N g j (s - 1) else hf N g j (s - 1 + 1) from on_b (Or.inl rfl) (by omega) (by omega), if_neg (by omega), show s - 1 + 1 = s by omega]
          exact s3
      · rw [if_neg eo]
        have n9 : hn N g (N 13055 (9 * g + N 13021 x)) ≤ 9 := by have := (a.nm _ ob.1 ob.2.1).2.2 ob.2.2.1; omega
        exact ⟨s, s1, s2, (on_b2 (Or.inl rfl) k1 k2 h9 eo s1 (by omega) : hf (ooN N g j k) g _ s = hf N g _ s).trans s3⟩
  · obtain ⟨n, f, ⟨w1, w2, w3⟩, w4⟩ := a.wa
    refine ⟨n, f, ⟨?_, ?_, fun i i1 i2 => ?_⟩, ?_⟩
    · rw [e _ _ _ (by omega) (by omega) (by omega)]; exact w1
    · rw [e _ _ _ (by omega) (by omega) (by omega)]; exact w2
    · rw [e _ _ _ (by omega) (by omega) (by omega)]; exact w3 i i1 i2
    · unfold lw; rw [an 13059 (by decide), an 13060 (by decide)]; exact w4
  · have w := a.de
    obtain ⟨⟨w1, w2, w3⟩, w4⟩ := w
    unfold GDe
    rw [an 13046 (by decide), an 13063 (by decide), an 13062 (by decide)]
    refine ⟨⟨?_, ?_, fun i i1 i2 => ?_⟩, w4⟩
    · rw [e _ _ _ (by omega) (by omega) (by omega)]; exact w1
    · rw [e _ _ _ (by omega) (by omega) (by omega)]; exact w2
    · rw [e _ _ _ (by omega) (by omega) (by omega)]; exact w3 i i1 i2
  · have x := a.nm z z1 z2
    rw [an 13047 (by decide), an 13044 (by decide), an 13049 (by decide), an 13050 (by decide), an 13048 (by decide), an 12000 (by decide), on_n j1 g1]
    by_cases ez : z = j
    · subst ez
      rw [if_pos rfl]
      exact ⟨x.1, fun q => by have := (x.2.1 q).1; omega, fun q => by have := x.2.2 q; omega⟩
    · rw [if_neg ez]; exact x
  · exact a.np p p1 p2
  · exact a.nu
theorem ST.out {C1 : Cd} {m : Int} (G : RG N) (a : GA C N g) (g1 : 0 ≤ g) (j1 : 0 ≤ j) (j2 : j < 12) (hi : N 13047 (12 * g + j) = 1) (k1 : 0 ≤ k) (k2 : k < hn N g j) (hm : hf N g j k = m) (lk : LK 3006 17106 (12 * g + j) C C1) : ST g C (uq C1 2000 (150 * g + m) 1 0) N (ooN N g j k) := by
  have s5 := G.s.2.2.2.2.1
  have nmj := (a.nm j j1 j2).2.2 hi
  have h9 : hn N g j ≤ 9 := by omega
  obtain ⟨⟨b1, b2, -⟩, -⟩ := (a.ha j j1 j2 hi).2 k k1 k2
  rw [hm] at b1 b2
  refine ⟨(KG.rf.lk lk (by unfold inG; omega) (by unfold inG; omega)).uq (by unfold inG; omega), MG.out g1 j1 j2 k1 k2 h9, fun b h1 h2 h3 h4 h5 h6 h7 => ?_, fun i z hz => ?_, fun b h1 _ _ => on_ar (by omega), fun x x1 x2 => ?_⟩
  · funext i z
    rw [uq_s, if_neg (by omega)]
    exact lk _ _ _ (by omega) (by omega)
  · rw [uq_s, if_neg (by omega)]
    exact lk _ _ _ (by omega) (by omega)
  · unfold Pd Fdl
    rw [uq_s, if_neg (by omega), lk _ _ _ (by omega) (by omega), on_ar (b := 13059) (by decide)]
end OUT
