/-! PURE PART, 97: seek: what the model forgets -/
def swI (N : Nd) (g p i : Int) : Nd := fun b q => if b = 13059 ∧ 150 * g ≤ q ∧ q < 150 * g + i ∧ N 13021 (q - 150 * g) = p then 0 else N b q
def fdS (g p : Int) : Int → Int × Nd → Int × Nd := fun i s => if s.2 13021 (s.2 13063 (150 * g + i)) = p then (s.1, up s.2 13062 (150 * g + s.2 13063 (150 * g + i)) 0) else (s.1 + 1, up s.2 13063 (150 * g + s.1) (s.2 13063 (150 * g + i)))
def fdN (N : Nd) (g p : Int) : Nd := up (fo (fdS g p) 0 (N 13046 g).toNat (0, N)).2 13046 g (fo (fdS g p) 0 (N 13046 g).toNat (0, N)).1
def fdK (N : Nd) (g p : Int) : Int → Bool := fun k => !decide (N 13021 (N 13063 (150 * g + k)) = p)
section SW
variable {N : Nd} {g p i : Int}
theorem sw_ar {b : Int} (h : b ≠ 13059) : swI N g p i b = N b := by
  funext q
  unfold swI
  rw [if_neg (fun z => h z.1)]
theorem sw_w {x : Int} (x1 : 0 ≤ x) : swI N g p i 13059 (150 * g + x) = if x < i ∧ N 13021 x = p then 0 else N 13059 (150 * g + x) := by
  unfold swI
  rw [show 150 * g + x - 150 * g = x by omega]
  by_cases e : x < i ∧ N 13021 x = p
  · rw [if_pos e, if_pos ⟨rfl, by omega, by omega, e.2⟩]
  · rw [if_neg e, if_neg (fun z => e ⟨by omega, z.2.2.2⟩)]
theorem sw_o {q : Int} (h : q < 150 * g ∨ 150 * g + i ≤ q) : swI N g p i 13059 q = N 13059 q := by
  unfold swI
  rw [if_neg (by omega)]
theorem sw_0 : swI N g p 0 = N := by
  funext b q
  unfold swI
  rw [if_neg (by omega)]
theorem sw_y (i0 : 0 ≤ i) (h : N 13021 i = p) : up (swI N g p i) 13059 (150 * g + i) 0 = swI N g p (i + 1) := by
  funext b q
  rw [up_s]
  unfold swI
  by_cases e : b = 13059 ∧ q = 150 * g + i
  · rw [if_pos e, if_pos ⟨e.1, by omega, by omega, by rw [e.2, show 150 * g + i - 150 * g = i by omega]; exact h⟩]
  · rw [if_neg e]
    by_cases c : b = 13059 ∧ 150 * g ≤ q ∧ q < 150 * g + i ∧ N 13021 (q - 150 * g) = p
    · rw [if_pos c, if_pos ⟨c.1, c.2.1, by omega, c.2.2.2⟩]
    · rw [if_neg c, if_neg (fun z => c ⟨z.1, z.2.1, by have := z.1; omega, z.2.2.2⟩)]
theorem sw_n (h : ¬ N 13021 i = p) : swI N g p i = swI N g p (i + 1) := by
  funext b q
  unfold swI
  by_cases c : b = 13059 ∧ 150 * g ≤ q ∧ q < 150 * g + i ∧ N 13021 (q - 150 * g) = p
  · rw [if_pos c, if_pos ⟨c.1, c.2.1, by omega, c.2.2.2⟩]
  · rw [if_neg c, if_neg (fun z => c ⟨z.1, z.2.1, by
      by_cases e : q = 150 * g + i
      · exact absurd z.2.2.2 (by rw [e, show 150 * g + i - 150 * g = i by omega]; exact h)
      · omega, z.2.2.2⟩)]
theorem m_swLoop (G : RG N) (g1 : 0 ≤ g) (g2 : g < 3) (C' : Cd) (A' : Ad) : lp (b_X11_seek_91 12000 p g) 1000 (0, mk C' N A') = some (mk C' (swI N g p ((N 12000 19))) A') := by
  have s5 := G.s.2.2.2.2.1
  refine lp_seq (fun k : Nat => ((k : Int), mk C' (swI N g p k) A')) ((N 12000 19)).toNat (fun k hk => ?_) ?_ (by omega) (by rw [show ((0 : Nat) : Int) = 0 from rfl, sw_0])
  · have e1 : swI N g p k 12000 = N 12000 := sw_ar (by decide)
    have e2 : swI N g p k 13021 = N 13021 := sw_ar (by decide)
    have lt : (k : Int) < (N 12000 19) := by omega
    have ic : ((k + 1 : Nat) : Int) = (k : Int) + 1 := by omega
    rw [ic]
    unfold b_X11_seek_91
    by_cases z : N 13021 k = p
    · simp (disch := omega) only [aok, up_s, true_and, false_and, and_true, and_false, if_true, if_false, ↓reduceIte, ↓Option.bind_some, Int.reduceEq, Int.reduceNe, Int.reduceLT, Int.reduceLE, gd_true, gd_false, bind_b, q10, eq_self, reduceCtorEq, not_true_eq_false, not_false_eq_true, ne_eq, pt_0, pt_1, pt_2, pt_3, pt_4, pt_5, pt_6, pt_7, pt_8, pt_9, pt_10, pt_11, pt_12, pt_13, pt_14, pt_15, pt_16, pt_17, pt_18, pt_19, pt_20, pt_21, pt_22, pt_23, pt_24, pt_25, pt_26, pt_27, pt_28, pt_29, pt_30, pt_31, pt_32, pt_33, pt_34, pt_35, pt_36, pt_37, pt_38, pt_39, pt_40, pt_41, pt_42, pt_43, pt_44, pt_45, pt_46, pt_47, pt_48, pt_49, pt_50, pt_51, pt_52, pt_53, pt_54, pt_55, pt_56, pt_57, pt_58, pt_59, pt_60, pt_61, pt_62, pt_63, pt_64, pt_65, pt_66, pt_67, pa_13005, pw_13005, pa_13006, pw_13006, pa_13007, pw_13007, pa_14008, pw_14008, pa_13009, pw_13009, pa_13010, pw_13010, pa_13012, pw_13012, pa_13013, pw_13013, pa_13014, pw_13014, pa_13015, pw_13015, pa_13016, pw_13016, pa_13017, pw_13017, pa_13018, pw_13018, pa_13020, pw_13020, pa_13021, pw_13021, pa_13022, pw_13022, pa_13023, pw_13023, pa_13024, pw_13024, pa_13025, pw_13025, pa_13026, pw_13026, pa_13027, pw_13027, pa_13028, pw_13028, pa_13029, pw_13029, pa_13031, pw_13031, pa_13032, pw_13032, pa_13033, pw_13033, pa_14034, pw_14034, pa_13035, pw_13035, pa_13036, pw_13036, pa_13037, pw_13037, pa_13038, pw_13038, pa_13039, pw_13039, pa_13042, pw_13042, pa_13043, pw_13043, pa_13044, pw_13044, pa_13045, pw_13045, pa_13046, pw_13046, pa_13047, pw_13047, pa_13048, pw_13048, pa_13049, pw_13049, pa_13050, pw_13050, pa_13051, pw_13051, pa_13052, pw_13052, pa_13053, pw_13053, pa_13054, pw_13054, pa_13055, pw_13055, pa_13056, pw_13056, pa_13057, pw_13057, pa_13058, pw_13058, pa_13059, pw_13059, pa_13060, pw_13060, pa_13061, pw_13061, pa_13062, pw_13062, pa_13063, pw_13063, pa_13064, pw_13064, pa_13065, pw_13065, pa_13066, pw_13066, pa_13067, pw_13067, ps_0, ps_1, ps_2, ps_3, ps_4, ps_11, ps_19, ps_30, ps_40, ps_41, ln_13005, ln_13006, ln_13007, ln_14008, ln_13009, ln_13010, ln_13012, ln_13013, ln_13014, ln_13015, ln_13016, ln_13017, ln_13018, ln_13020, ln_13021, ln_13022, ln_13023, ln_13024, ln_13025, ln_13026, ln_13027, ln_13028, ln_13029, ln_13031, ln_13032, ln_13033, ln_14034, ln_13035, ln_13036, ln_13037, ln_13038, ln_13039, ln_13042, ln_13043, ln_13044, ln_13045, ln_13046, ln_13047, ln_13048, ln_13049, ln_13050, ln_13051, ln_13052, ln_13053, ln_13054, ln_13055, ln_13056, ln_13057, ln_13058, ln_13059, ln_13060, ln_13061, ln_13062, ln_13063, ln_13064, ln_13065, ln_13066, ln_13067, gd_t, w_eq, e1, e2, lt, z]
      rw [sw_y (by omega) z]
    · simp (disch := omega) only [aok, up_s, true_and, false_and, and_true, and_false, if_true, if_false, ↓reduceIte, ↓Option.bind_some, Int.reduceEq, Int.reduceNe, Int.reduceLT, Int.reduceLE, gd_true, gd_false, bind_b, q10, eq_self, reduceCtorEq, not_true_eq_false, not_false_eq_true, ne_eq, pt_0, pt_1, pt_2, pt_3, pt_4, pt_5, pt_6, pt_7, pt_8, pt_9, pt_10, pt_11, pt_12, pt_13, pt_14, pt_15, pt_16, pt_17, pt_18, pt_19, pt_20, pt_21, pt_22, pt_23, pt_24, pt_25, pt_26, pt_27, pt_28, pt_29, pt_30, pt_31, pt_32, pt_33, pt_34, pt_35, pt_36, pt_37, pt_38, pt_39, pt_40, pt_41, pt_42, pt_43, pt_44, pt_45, pt_46, pt_47, pt_48, pt_49, pt_50, pt_51, pt_52, pt_53, pt_54, pt_55, pt_56, pt_57, pt_58, pt_59, pt_60, pt_61, pt_62, pt_63, pt_64, pt_65, pt_66, pt_67, pa_13005, pw_13005, pa_13006, pw_13006, pa_13007, pw_13007, pa_14008, pw_14008, pa_13009, pw_13009, pa_13010, pw_13010, pa_13012, pw_13012, pa_13013, pw_13013, pa_13014, pw_13014, pa_13015, pw_13015, pa_13016, pw_13016, pa_13017, pw_13017, pa_13018, pw_13018, pa_13020, pw_13020, pa_13021, pw_13021, pa_13022, pw_13022, pa_13023, pw_13023, pa_13024, pw_13024, pa_13025, pw_13025, pa_13026, pw_13026, pa_13027, pw_13027, pa_13028, pw_13028, pa_13029, pw_13029, pa_13031, pw_13031, pa_13032, pw_13032, pa_13033, pw_13033, pa_14034, pw_14034, pa_13035, pw_13035, pa_13036, pw_13036, pa_13037, pw_13037, pa_13038, pw_13038, pa_13039, pw_13039, pa_13042, pw_13042, pa_13043, pw_13043, pa_13044, pw_13044, pa_13045, pw_13045, pa_13046, pw_13046, pa_13047, pw_13047, pa_13048, pw_13048, pa_13049, pw_13049, pa_13050, pw_13050, pa_13051, pw_13051, pa_13052, pw_13052, pa_13053, pw_13053, pa_13054, pw_13054, pa_13055, pw_13055, pa_13056, pw_13056, pa_13057, pw_13057, pa_13058, pw_13058, pa_13059, pw_13059, pa_13060, pw_13060, pa_13061, pw_13061, pa_13062, pw_13062, pa_13063, pw_13063, pa_13064, pw_13064, pa_13065, pw_13065, pa_13066, pw_13066, pa_13067, pw_13067, ps_0, ps_1, ps_2, ps_3, ps_4, ps_11, ps_19, ps_30, ps_40, ps_41, ln_13005, ln_13006, ln_13007, ln_14008, ln_13009, ln_13010, ln_13012, ln_13013, ln_13014, ln_13015, ln_13016, ln_13017, ln_13018, ln_13020, ln_13021, ln_13022, ln_13023, ln_13024, ln_13025, ln_13026, ln_13027, ln_13028, ln_13029, ln_13031, ln_13032, ln_13033, ln_14034, ln_13035, ln_13036, ln_13037, ln_13038, ln_13039, ln_13042, ln_13043, ln_13044, ln_13045, ln_13046, ln_13047, ln_13048, ln_13049, ln_13050, ln_13051, ln_13052, ln_13053, ln_13054, ln_13055, ln_13056, ln_13057, ln_13058, ln_13059, ln_13060, ln_13061, ln_13062, ln_13063, ln_13064, ln_13065, ln_13066, ln_13067, gd_t, w_eq, e1, e2, lt, z]
      rw [sw_n z]
  · have e0 : ((((N 12000 19)).toNat : Nat) : Int) = (N 12000 19) := by omega
    have e1 : swI N g p ((N 12000 19)) 12000 = N 12000 := sw_ar (by decide)
    rw [e0]
    unfold b_X11_seek_91
    simp (disch := omega) only [aok, up_s, true_and, false_and, and_true, and_false, if_true, if_false, ↓reduceIte, ↓Option.bind_some, Int.reduceEq, Int.reduceNe, Int.reduceLT, Int.reduceLE, gd_true, gd_false, bind_b, q10, eq_self, reduceCtorEq, not_true_eq_false, not_false_eq_true, ne_eq, pt_0, pt_1, pt_2, pt_3, pt_4, pt_5, pt_6, pt_7, pt_8, pt_9, pt_10, pt_11, pt_12, pt_13, pt_14, pt_15, pt_16, pt_17, pt_18, pt_19, pt_20, pt_21, pt_22, pt_23, pt_24, pt_25, pt_26, pt_27, pt_28, pt_29, pt_30, pt_31, pt_32, pt_33, pt_34, pt_35, pt_36, pt_37, pt_38, pt_39, pt_40, pt_41, pt_42, pt_43, pt_44, pt_45, pt_46, pt_47, pt_48, pt_49, pt_50, pt_51, pt_52, pt_53, pt_54, pt_55, pt_56, pt_57, pt_58, pt_59, pt_60, pt_61, pt_62, pt_63, pt_64, pt_65, pt_66, pt_67, pa_13005, pw_13005, pa_13006, pw_13006, pa_13007, pw_13007, pa_14008, pw_14008, pa_13009, pw_13009, pa_13010, pw_13010, pa_13012, pw_13012, pa_13013, pw_13013, pa_13014, pw_13014, pa_13015, pw_13015, pa_13016, pw_13016, pa_13017, pw_13017, pa_13018, pw_13018, pa_13020, pw_13020, pa_13021, pw_13021, pa_13022, pw_13022, pa_13023, pw_13023, pa_13024, pw_13024, pa_13025, pw_13025, pa_13026, pw_13026, pa_13027, pw_13027, pa_13028, pw_13028, pa_13029, pw_13029, pa_13031, pw_13031, pa_13032, pw_13032, pa_13033, pw_13033, pa_14034, pw_14034, pa_13035, pw_13035, pa_13036, pw_13036, pa_13037, pw_13037, pa_13038, pw_13038, pa_13039, pw_13039, pa_13042, pw_13042, pa_13043, pw_13043, pa_13044, pw_13044, pa_13045, pw_13045, pa_13046, pw_13046, pa_13047, pw_13047, pa_13048, pw_13048, pa_13049, pw_13049, pa_13050, pw_13050, pa_13051, pw_13051, pa_13052, pw_13052, pa_13053, pw_13053, pa_13054, pw_13054, pa_13055, pw_13055, pa_13056, pw_13056, pa_13057, pw_13057, pa_13058, pw_13058, pa_13059, pw_13059, pa_13060, pw_13060, pa_13061, pw_13061, pa_13062, pw_13062, pa_13063, pw_13063, pa_13064, pw_13064, pa_13065, pw_13065, pa_13066, pw_13066, pa_13067, pw_13067, ps_0, ps_1, ps_2, ps_3, ps_4, ps_11, ps_19, ps_30, ps_40, ps_41, ln_13005, ln_13006, ln_13007, ln_14008, ln_13009, ln_13010, ln_13012, ln_13013, ln_13014, ln_13015, ln_13016, ln_13017, ln_13018, ln_13020, ln_13021, ln_13022, ln_13023, ln_13024, ln_13025, ln_13026, ln_13027, ln_13028, ln_13029, ln_13031, ln_13032, ln_13033, ln_14034, ln_13035, ln_13036, ln_13037, ln_13038, ln_13039, ln_13042, ln_13043, ln_13044, ln_13045, ln_13046, ln_13047, ln_13048, ln_13049, ln_13050, ln_13051, ln_13052, ln_13053, ln_13054, ln_13055, ln_13056, ln_13057, ln_13058, ln_13059, ln_13060, ln_13061, ln_13062, ln_13063, ln_13064, ln_13065, ln_13066, ln_13067, gd_t, w_eq, e1, Int.lt_irrefl]
/-- after i of the dead -/
def FDP (N : Nd) (g p i : Int) (s : Int × Nd) : Prop := s.1 = cn (fdK N g p) i ∧ (∀ b, b ≠ 13062 → b ≠ 13063 → s.2 b = N b) ∧ (∀ q, q < 150 * g ∨ 150 * g + 150 ≤ q → s.2 13063 q = N 13063 q ∧ s.2 13062 q = N 13062 q) ∧ (∀ k, 0 ≤ k → k < i → fdK N g p k = true → s.2 13063 (150 * g + cn (fdK N g p) k) = N 13063 (150 * g + k)) ∧ (∀ k, i ≤ k → k < N 13046 g → s.2 13063 (150 * g + k) = N 13063 (150 * g + k)) ∧ (∀ k, 0 ≤ k → k < i → fdK N g p k = false → s.2 13062 (150 * g + N 13063 (150 * g + k)) = 0) ∧ ∀ y, (∀ k, 0 ≤ k → k < i → fdK N g p k = false → N 13063 (150 * g + k) ≠ y) → s.2 13062 (150 * g + y) = N 13062 (150 * g + y)
theorem FDP.step {s : Int × Nd} (h : FDP N g p i s) (hd : ∀ k, 0 ≤ k → k < N 13046 g → 0 ≤ N 13063 (150 * g + k) ∧ N 13063 (150 * g + k) < 150) (hm : N 13046 g ≤ 150) (i0 : 0 ≤ i) (i1 : i < N 13046 g) : FDP N g p (i + 1) (fdS g p i s) := by
  obtain ⟨h1, h2, h3, h4, h5, h6, h7⟩ := h
  have di := h5 i (Int.le_refl i) i1
  have pe : s.2 13021 = N 13021 := h2 _ (by decide) (by decide)
  have hb := hd i i0 i1
  have cb := @cn_b (fdK N g p) i i0
  unfold fdS
  rw [di, pe]
  by_cases z : N 13021 (N 13063 (150 * g + i)) = p
  · have kf : fdK N g p i = false := by unfold fdK; simp [z]
    rw [if_pos z]
    refine ⟨?_, fun b b1 b2 => ?_, fun q hq => ⟨?_, ?_⟩, fun k k1 k2 k3 => ?_, fun k k1 k2 => ?_, fun k k1 k2 k3 => ?_, fun y hy => ?_⟩
    · rw [cn_S i0, kf, h1]
      simp
    · funext q
      show up s.2 13062 (150 * g + N 13063 (150 * g + i)) 0 b q = _
      rw [up_s, if_neg (fun q => b1 q.1), h2 b b1 b2]
    · show up s.2 13062 (150 * g + N 13063 (150 * g + i)) 0 13063 q = _
      rw [up_s, if_neg (by omega)]; exact (h3 q hq).1
    · show up s.2 13062 (150 * g + N 13063 (150 * g + i)) 0 13062 q = _
      rw [up_s, if_neg (by omega)]; exact (h3 q hq).2
    · show up s.2 13062 (150 * g + N 13063 (150 * g + i)) 0 13063 _ = _
      have ne : k ≠ i := fun e => by rw [e, kf] at k3; exact absurd k3 (by decide)
      rw [up_s, if_neg (by omega)]; exact h4 k k1 (by omega) k3
    · show up s.2 13062 (150 * g + N 13063 (150 * g + i)) 0 13063 _ = _
      rw [up_s, if_neg (by omega)]; exact h5 k (by omega) k2
    · show up s.2 13062 (150 * g + N 13063 (150 * g + i)) 0 13062 _ = _
      rw [up_s]
      split
      · rfl
      · rename_i c
        have ne : k ≠ i := fun e => c ⟨rfl, by rw [e]⟩
        exact h6 k k1 (by omega) k3
    · show up s.2 13062 (150 * g + N 13063 (150 * g + i)) 0 13062 _ = _
      have ne := hy i i0 (by omega) kf
      rw [up_s, if_neg (by omega)]
      exact h7 y (fun k k1 k2 k3 => hy k k1 (by omega) k3)
  · have kt : fdK N g p i = true := by unfold fdK; simp [z]
    rw [if_neg z]
    refine ⟨?_, fun b b1 b2 => ?_, fun q hq => ⟨?_, ?_⟩, fun k k1 k2 k3 => ?_, fun k k1 k2 => ?_, fun k k1 k2 k3 => ?_, fun y hy => ?_⟩
    · rw [cn_S i0, if_pos kt, h1]
    · funext q
      show up s.2 13063 (150 * g + s.1) (N 13063 (150 * g + i)) b q = _
      rw [up_s, if_neg (fun q => b2 q.1), h2 b b1 b2]
    · show up s.2 13063 (150 * g + s.1) (N 13063 (150 * g + i)) 13063 q = _
      rw [up_s, if_neg (by omega)]; exact (h3 q hq).1
    · show up s.2 13063 (150 * g + s.1) (N 13063 (150 * g + i)) 13062 q = _
      rw [up_s, if_neg (by omega)]; exact (h3 q hq).2
    · show up s.2 13063 (150 * g + s.1) (N 13063 (150 * g + i)) 13063 _ = _
      rw [up_s]
      by_cases e : k = i
      · rw [e, if_pos ⟨rfl, by rw [h1]⟩]
      · have := cn_lt k1 (show k < i by omega) k3
        rw [if_neg (by omega)]
        exact h4 k k1 (by omega) k3
    · show up s.2 13063 (150 * g + s.1) (N 13063 (150 * g + i)) 13063 _ = _
      rw [up_s, if_neg (by omega)]; exact h5 k (by omega) k2
    · show up s.2 13063 (150 * g + s.1) (N 13063 (150 * g + i)) 13062 _ = _
      have ne : k ≠ i := fun e => by rw [e, kt] at k3; exact absurd k3 (by decide)
      rw [up_s, if_neg (by omega)]
      exact h6 k k1 (by omega) k3
    · show up s.2 13063 (150 * g + s.1) (N 13063 (150 * g + i)) 13062 _ = _
      rw [up_s, if_neg (by omega)]
      exact h7 y (fun k k1 k2 k3 => hy k k1 (by omega) k3)
theorem FDP.upto (hd : ∀ k, 0 ≤ k → k < N 13046 g → 0 ≤ N 13063 (150 * g + k) ∧ N 13063 (150 * g + k) < 150) (hm : N 13046 g ≤ 150) {n : Nat} (hn : (n : Int) ≤ N 13046 g) : FDP N g p n (fo (fdS g p) 0 n (0, N)) := by
  have := fo_inv (g := fdS g p) (i0 := 0) (n := n) (a := (0, N)) (fun i s => FDP N g p i s) ⟨rfl, fun _ _ _ => rfl, fun _ _ => ⟨rfl, rfl⟩, fun k k1 k2 => by omega, fun _ _ _ => rfl, fun k k1 k2 => by omega, fun _ _ => rfl⟩ (fun i b i1 i2 h => h.step hd hm i1 (by omega))
  rw [show (0 : Int) + (n : Int) = n by omega] at this
  exact this
theorem m_gForgetsDead (hd : ∀ k, 0 ≤ k → k < N 13046 g → 0 ≤ N 13063 (150 * g + k) ∧ N 13063 (150 * g + k) < 150) (h0 : 0 ≤ N 13046 g) (hm : N 13046 g ≤ 150) (g1 : 0 ≤ g) (g2 : g < 3) (C' : Cd) (A' : Ad) : p_X11_gForgetsDead (mk C' N A') 12000 g p = some (mk C' (fdN N g p) A') := by
  have hl : lp (b_X11_gForgetsDead_5 12000 g p) 1000 (0, 0, mk C' N A') = some ((fo (fdS g p) 0 (N 13046 g).toNat (0, N)).1, mk C' (fo (fdS g p) 0 (N 13046 g).toNat (0, N)).2 A') := by
    refine lp_seq (fun k : Nat => ((fo (fdS g p) 0 k (0, N)).1, (k : Int), mk C' (fo (fdS g p) 0 k (0, N)).2 A')) (N 13046 g).toNat (fun k hk => ?_) ?_ (by omega) rfl
    · obtain ⟨h1, h2, h3, h4, h5, h6, h7⟩ := FDP.upto (p := p) hd hm (n := k) (by omega)
      have e1 := h2 13046 (by decide) (by decide)
      have e2 := h2 13021 (by decide) (by decide)
      have e3 := h5 k (Int.le_refl _) (by omega)
      have cb := @cn_b (fdK N g p) k (by omega)
      have db := hd k (by omega) (by omega)
      have lt : (k : Int) < N 13046 g := by omega
      rw [fo_S, show (0 : Int) + (k : Int) = k by omega]
      generalize fo (fdS g p) 0 k (0, N) = s at *
      unfold fdS
      rw [e3, e2]
      have ic : ((k + 1 : Nat) : Int) = (k : Int) + 1 := by omega
      rw [ic]
      unfold b_X11_gForgetsDead_5
      by_cases z : N 13021 (N 13063 (150 * g + k)) = p
      · rw [if_pos z]
        simp (disch := omega) only [aok, up_s, true_and, false_and, and_true, and_false, if_true, if_false, ↓reduceIte, ↓Option.bind_some, Int.reduceEq, Int.reduceNe, Int.reduceLT, Int.reduceLE, gd_true, gd_false, bind_b, q10, eq_self, reduceCtorEq, not_true_eq_false, not_false_eq_true, ne_eq, pt_0, pt_1, pt_2, pt_3, pt_4, pt_5, pt_6, pt_7, pt_8, pt_9, pt_10, pt_11, pt_12, pt_13, pt_14, pt_15, pt_16, pt_17, pt_18, pt_19, pt_20, pt_21, pt_22, pt_23, pt_24, pt_25, pt_26, pt_27, pt_28, pt_29, pt_30, pt_31, pt_32, pt_33, pt_34, pt_35, pt_36, pt_37, pt_38, pt_39, pt_40, pt_41, pt_42, pt_43, pt_44, pt_45, pt_46, pt_47, pt_48, pt_49, pt_50, pt_51, pt_52, pt_53, pt_54, pt_55, pt_56, pt_57, pt_58, pt_59, pt_60, pt_61, pt_62, pt_63, pt_64, pt_65, pt_66, pt_67, pa_13005, pw_13005, pa_13006, pw_13006, pa_13007, pw_13007, pa_14008, pw_14008, pa_13009, pw_13009, pa_13010, pw_13010, pa_13012, pw_13012, pa_13013, pw_13013, pa_13014, pw_13014, pa_13015, pw_13015, pa_13016, pw_13016, pa_13017, pw_13017, pa_13018, pw_13018, pa_13020, pw_13020, pa_13021, pw_13021, pa_13022, pw_13022, pa_13023, pw_13023, pa_13024, pw_13024, pa_13025, pw_13025, pa_13026, pw_13026, pa_13027, pw_13027, pa_13028, pw_13028, pa_13029, pw_13029, pa_13031, pw_13031, pa_13032, pw_13032, pa_13033, pw_13033, pa_14034, pw_14034, pa_13035, pw_13035, pa_13036, pw_13036, pa_13037, pw_13037, pa_13038, pw_13038, pa_13039, pw_13039, pa_13042, pw_13042, pa_13043, pw_13043, pa_13044, pw_13044, pa_13045, pw_13045, pa_13046, pw_13046, pa_13047, pw_13047, pa_13048, pw_13048, pa_13049, pw_13049, pa_13050, pw_13050, pa_13051, pw_13051, pa_13052, pw_13052, pa_13053, pw_13053, pa_13054, pw_13054, pa_13055, pw_13055, pa_13056, pw_13056, pa_13057, pw_13057, pa_13058, pw_13058, pa_13059, pw_13059, pa_13060, pw_13060, pa_13061, pw_13061, pa_13062, pw_13062, pa_13063, pw_13063, pa_13064, pw_13064, pa_13065, pw_13065, pa_13066, pw_13066, pa_13067, pw_13067, ps_0, ps_1, ps_2, ps_3, ps_4, ps_11, ps_19, ps_30, ps_40, ps_41, ln_13005, ln_13006, ln_13007, ln_14008, ln_13009, ln_13010, ln_13012, ln_13013, ln_13014, ln_13015, ln_13016, ln_13017, ln_13018, ln_13020, ln_13021, ln_13022, ln_13023, ln_13024, ln_13025, ln_13026, ln_13027, ln_13028, ln_13029, ln_13031, ln_13032, ln_13033, ln_14034, ln_13035, ln_13036, ln_13037, ln_13038, ln_13039, ln_13042, ln_13043, ln_13044, ln_13045, ln_13046, ln_13047, ln_13048, ln_13049, ln_13050, ln_13051, ln_13052, ln_13053, ln_13054, ln_13055, ln_13056, ln_13057, ln_13058, ln_13059, ln_13060, ln_13061, ln_13062, ln_13063, ln_13064, ln_13065, ln_13066, ln_13067, gd_t, w_eq, e1, e2, e3, lt, z]
      · rw [if_neg z]
        simp (disch := omega) only [aok, up_s, true_and, false_and, and_true, and_false, if_true, if_false, ↓reduceIte, ↓Option.bind_some, Int.reduceEq, Int.reduceNe, Int.reduceLT, Int.reduceLE, gd_true, gd_false, bind_b, q10, eq_self, reduceCtorEq, not_true_eq_false, not_false_eq_true, ne_eq, pt_0, pt_1, pt_2, pt_3, pt_4, pt_5, pt_6, pt_7, pt_8, pt_9, pt_10, pt_11, pt_12, pt_13, pt_14, pt_15, pt_16, pt_17, pt_18, pt_19, pt_20, pt_21, pt_22, pt_23, pt_24, pt_25, pt_26, pt_27, pt_28, pt_29, pt_30, pt_31, pt_32, pt_33, pt_34, pt_35, pt_36, pt_37, pt_38, pt_39, pt_40, pt_41, pt_42, pt_43, pt_44, pt_45, pt_46, pt_47, pt_48, pt_49, pt_50, pt_51, pt_52, pt_53, pt_54, pt_55, pt_56, pt_57, pt_58, pt_59, pt_60, pt_61, pt_62, pt_63, pt_64, pt_65, pt_66, pt_67, pa_13005, pw_13005, pa_13006, pw_13006, pa_13007, pw_13007, pa_14008, pw_14008, pa_13009, pw_13009, pa_13010, pw_13010, pa_13012, pw_13012, pa_13013, pw_13013, pa_13014, pw_13014, pa_13015, pw_13015, pa_13016, pw_13016, pa_13017, pw_13017, pa_13018, pw_13018, pa_13020, pw_13020, pa_13021, pw_13021, pa_13022, pw_13022, pa_13023, pw_13023, pa_13024, pw_13024, pa_13025, pw_13025, pa_13026, pw_13026, pa_13027, pw_13027, pa_13028, pw_13028, pa_13029, pw_13029, pa_13031, pw_13031, pa_13032, pw_13032, pa_13033, pw_13033, pa_14034, pw_14034, pa_13035, pw_13035, pa_13036, pw_13036, pa_13037, pw_13037, pa_13038, pw_13038, pa_13039, pw_13039, pa_13042, pw_13042, pa_13043, pw_13043, pa_13044, pw_13044, pa_13045, pw_13045, pa_13046, pw_13046, pa_13047, pw_13047, pa_13048, pw_13048, pa_13049, pw_13049, pa_13050, pw_13050, pa_13051, pw_13051, pa_13052, pw_13052, pa_13053, pw_13053, pa_13054, pw_13054, pa_13055, pw_13055, pa_13056, pw_13056, pa_13057, pw_13057, pa_13058, pw_13058, pa_13059, pw_13059, pa_13060, pw_13060, pa_13061, pw_13061, pa_13062, pw_13062, pa_13063, pw_13063, pa_13064, pw_13064, pa_13065, pw_13065, pa_13066, pw_13066, pa_13067, pw_13067, ps_0, ps_1, ps_2, ps_3, ps_4, ps_11, ps_19, ps_30, ps_40, ps_41, ln_13005, ln_13006, ln_13007, ln_14008, ln_13009, ln_13010, ln_13012, ln_13013, ln_13014, ln_13015, ln_13016, ln_13017, ln_13018, ln_13020, ln_13021, ln_13022, ln_13023, ln_13024, ln_13025, ln_13026, ln_13027, ln_13028, ln_13029, ln_13031, ln_13032, ln_13033, ln_14034, ln_13035, ln_13036, ln_13037, ln_13038, ln_13039, ln_13042, ln_13043, ln_13044, ln_13045, ln_13046, ln_13047, ln_13048, ln_13049, ln_13050, ln_13051, ln_13052, ln_13053, ln_13054, ln_13055, ln_13056, ln_13057, ln_13058, ln_13059, ln_13060, ln_13061, ln_13062, ln_13063, ln_13064, ln_13065, ln_13066, ln_13067, gd_t, w_eq, e1, e2, e3, lt, z]
    · obtain ⟨h1, h2, -⟩ := FDP.upto (p := p) hd hm (n := (N 13046 g).toNat) (by omega)
      have e1 := h2 13046 (by decide) (by decide)
      generalize fo (fdS g p) 0 (N 13046 g).toNat (0, N) = s at *
      have e0 : (((N 13046 g).toNat : Nat) : Int) = N 13046 g := by omega
      rw [e0]
      unfold b_X11_gForgetsDead_5
      simp (disch := omega) only [aok, up_s, true_and, false_and, and_true, and_false, if_true, if_false, ↓reduceIte, ↓Option.bind_some, Int.reduceEq, Int.reduceNe, Int.reduceLT, Int.reduceLE, gd_true, gd_false, bind_b, q10, eq_self, reduceCtorEq, not_true_eq_false, not_false_eq_true, ne_eq, pt_0, pt_1, pt_2, pt_3, pt_4, pt_5, pt_6, pt_7, pt_8, pt_9, pt_10, pt_11, pt_12, pt_13, pt_14, pt_15, pt_16, pt_17, pt_18, pt_19, pt_20, pt_21, pt_22, pt_23, pt_24, pt_25, pt_26, pt_27, pt_28, pt_29, pt_30, pt_31, pt_32, pt_33, pt_34, pt_35, pt_36, pt_37, pt_38, pt_39, pt_40, pt_41, pt_42, pt_43, pt_44, pt_45, pt_46, pt_47, pt_48, pt_49, pt_50, pt_51, pt_52, pt_53, pt_54, pt_55, pt_56, pt_57, pt_58, pt_59, pt_60, pt_61, pt_62, pt_63, pt_64, pt_65, pt_66, pt_67, pa_13005, pw_13005, pa_13006, pw_13006, pa_13007, pw_13007, pa_14008, pw_14008, pa_13009, pw_13009, pa_13010, pw_13010, pa_13012, pw_13012, pa_13013, pw_13013, pa_13014, pw_13014, pa_13015, pw_13015, pa_13016, pw_13016, pa_13017, pw_13017, pa_13018, pw_13018, pa_13020, pw_13020, pa_13021, pw_13021, pa_13022, pw_13022, pa_13023, pw_13023, pa_13024, pw_13024, pa_13025, pw_13025, pa_13026, pw_13026, pa_13027, pw_13027, pa_13028, pw_13028, pa_13029, pw_13029, pa_13031, pw_13031, pa_13032, pw_13032, pa_13033, pw_13033, pa_14034, pw_14034, pa_13035, pw_13035, pa_13036, pw_13036, pa_13037, pw_13037, pa_13038, pw_13038, pa_13039, pw_13039, pa_13042, pw_13042, pa_13043, pw_13043, pa_13044, pw_13044, pa_13045, pw_13045, pa_13046, pw_13046, pa_13047, pw_13047, pa_13048, pw_13048, pa_13049, pw_13049, pa_13050, pw_13050, pa_13051, pw_13051, pa_13052, pw_13052, pa_13053, pw_13053, pa_13054, pw_13054, pa_13055, pw_13055, pa_13056, pw_13056, pa_13057, pw_13057, pa_13058, pw_13058, pa_13059, pw_13059, pa_13060, pw_13060, pa_13061, pw_13061, pa_13062, pw_13062, pa_13063, pw_13063, pa_13064, pw_13064, pa_13065, pw_13065, pa_13066, pw_13066, pa_13067, pw_13067, ps_0, ps_1, ps_2, ps_3, ps_4, ps_11, ps_19, ps_30, ps_40, ps_41, ln_13005, ln_13006, ln_13007, ln_14008, ln_13009, ln_13010, ln_13012, ln_13013, ln_13014, ln_13015, ln_13016, ln_13017, ln_13018, ln_13020, ln_13021, ln_13022, ln_13023, ln_13024, ln_13025, ln_13026, ln_13027, ln_13028, ln_13029, ln_13031, ln_13032, ln_13033, ln_14034, ln_13035, ln_13036, ln_13037, ln_13038, ln_13039, ln_13042, ln_13043, ln_13044, ln_13045, ln_13046, ln_13047, ln_13048, ln_13049, ln_13050, ln_13051, ln_13052, ln_13053, ln_13054, ln_13055, ln_13056, ln_13057, ln_13058, ln_13059, ln_13060, ln_13061, ln_13062, ln_13063, ln_13064, ln_13065, ln_13066, ln_13067, gd_t, w_eq, e1, Int.lt_irrefl]
  unfold p_X11_gForgetsDead fdN
  rw [hl]
  simp (disch := omega) only [aok, up_s, true_and, false_and, and_true, and_false, if_true, if_false, ↓reduceIte, ↓Option.bind_some, Int.reduceEq, Int.reduceNe, Int.reduceLT, Int.reduceLE, gd_true, gd_false, bind_b, q10, eq_self, reduceCtorEq, not_true_eq_false, not_false_eq_true, ne_eq, pt_0, pt_1, pt_2, pt_3, pt_4, pt_5, pt_6, pt_7, pt_8, pt_9, pt_10, pt_11, pt_12, pt_13, pt_14, pt_15, pt_16, pt_17, pt_18, pt_19, pt_20, pt_21, pt_22, pt_23, pt_24, pt_25, pt_26, pt_27, pt_28, pt_29, pt_30, pt_31, pt_32, pt_33, pt_34, pt_35, pt_36, pt_37, pt_38, pt_39, pt_40, pt_41, pt_42, pt_43, pt_44, pt_45, pt_46, pt_47, pt_48, pt_49, pt_50, pt_51, pt_52, pt_53, pt_54, pt_55, pt_56, pt_57, pt_58, pt_59, pt_60, pt_61, pt_62, pt_63, pt_64, pt_65, pt_66, pt_67, pa_13005, pw_13005, pa_13006, pw_13006, pa_13007, pw_13007, pa_14008, pw_14008, pa_13009, pw_13009, pa_13010, pw_13010, pa_13012, pw_13012, pa_13013, pw_13013, pa_13014, pw_13014, pa_13015, pw_13015, pa_13016, pw_13016, pa_13017, pw_13017, pa_13018, pw_13018, pa_13020, pw_13020, pa_13021, pw_13021, pa_13022, pw_13022, pa_13023, pw_13023, pa_13024, pw_13024, pa_13025, pw_13025, pa_13026, pw_13026, pa_13027, pw_13027, pa_13028, pw_13028, pa_13029, pw_13029, pa_13031, pw_13031, pa_13032, pw_13032, pa_13033, pw_13033, pa_14034, pw_14034, pa_13035, pw_13035, pa_13036, pw_13036, pa_13037, pw_13037, pa_13038, pw_13038, pa_13039, pw_13039, pa_13042, pw_13042, pa_13043, pw_13043, pa_13044, pw_13044, pa_13045, pw_13045, pa_13046, pw_13046, pa_13047, pw_13047, pa_13048, pw_13048, pa_13049, pw_13049, pa_13050, pw_13050, pa_13051, pw_13051, pa_13052, pw_13052, pa_13053, pw_13053, pa_13054, pw_13054, pa_13055, pw_13055, pa_13056, pw_13056, pa_13057, pw_13057, pa_13058, pw_13058, pa_13059, pw_13059, pa_13060, pw_13060, pa_13061, pw_13061, pa_13062, pw_13062, pa_13063, pw_13063, pa_13064, pw_13064, pa_13065, pw_13065, pa_13066, pw_13066, pa_13067, pw_13067, ps_0, ps_1, ps_2, ps_3, ps_4, ps_11, ps_19, ps_30, ps_40, ps_41, ln_13005, ln_13006, ln_13007, ln_14008, ln_13009, ln_13010, ln_13012, ln_13013, ln_13014, ln_13015, ln_13016, ln_13017, ln_13018, ln_13020, ln_13021, ln_13022, ln_13023, ln_13024, ln_13025, ln_13026, ln_13027, ln_13028, ln_13029, ln_13031, ln_13032, ln_13033, ln_14034, ln_13035, ln_13036, ln_13037, ln_13038, ln_13039, ln_13042, ln_13043, ln_13044, ln_13045, ln_13046, ln_13047, ln_13048, ln_13049, ln_13050, ln_13051, ln_13052, ln_13053, ln_13054, ln_13055, ln_13056, ln_13057, ln_13058, ln_13059, ln_13060, ln_13061, ln_13062, ln_13063, ln_13064, ln_13065, ln_13066, ln_13067, gd_t, w_eq]
end SW
