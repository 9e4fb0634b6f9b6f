/-! PURE PART, 99p: deal: the fill, the model's loop -/
section FL3
variable {N : Nd} {g : Int}
theorem fii_at {R : Int → Bool} {F W : Int → Int} {s : (Int → Int) × (Int → Int)} (h : FII R F 0 (s, 0)) (hs : su F 0 12 = su (fun p => if R p = true then 1 else 0) 0 9) {n : Nat} (hn : n ≤ 9) : FII R F n (fo (flS R F W) 0 n (s, 0)) ∧ 0 ≤ (fo (flS R F W) 0 n (s, 0)).2 ∧ (fo (flS R F W) 0 n (s, 0)).2 ≤ n := by
  have := fo_inv (g := flS R F W) (i0 := 0) (n := n) (a := (s, 0)) (fun i x => FII R F i x ∧ 0 ≤ x.2 ∧ x.2 ≤ i) ⟨h, by show (0 : Int) ≤ 0; omega, by show (0 : Int) ≤ 0; omega⟩ (fun i b i1 i2 hb => by
    refine ⟨hb.1.step hs i1 (by omega), ?_⟩
    unfold flS
    by_cases z : R i = true ∧ b.1.2 i = -1
    · rw [if_pos z]
      show 0 ≤ b.2 + (if W i = -1 ∨ W i = blw b.1.1 F then 0 else 1) ∧ b.2 + (if W i = -1 ∨ W i = blw b.1.1 F then 0 else 1) ≤ i + 1
      split <;> omega
    · rw [if_neg z]
      omega)
  rw [show (0 : Int) + (n : Int) = n by omega] at this
  exact this
theorem m_fill {s : (Int → Int) × (Int → Int)} (jn : JN N) (g1 : 0 ≤ g) (g2 : g < 3) (hF : ∀ j, 0 ≤ j → j < 12 → 0 ≤ N 13066 j ∧ N 13066 j ≤ 9) (h : FII (fun p => decide (gR N g p)) (N 13066) 0 (s, 0)) (hs : su (N 13066) 0 12 = su (fun p => if decide (gR N g p) = true then 1 else 0) 0 9) (C : Cd) (A : Ad) : lp (b_X11_gDeals_212 12000 g) 1000 (0, mk C (dqN N g s.1 s.2 0) A) = some (mk C (dqN N g (fo (flS (fun p => decide (gR N g p)) (N 13066) (N 13067)) 0 9 (s, 0)).1.1 (fo (flS (fun p => decide (gR N g p)) (N 13066) (N 13067)) 0 9 (s, 0)).1.2 (fo (flS (fun p => decide (gR N g p)) (N 13066) (N 13067)) 0 9 (s, 0)).2) A) := by
  refine lp_seq (fun k : Nat => ((k : Int), mk C (dqN N g (fo (flS (fun p => decide (gR N g p)) (N 13066) (N 13067)) 0 k (s, 0)).1.1 (fo (flS (fun p => decide (gR N g p)) (N 13066) (N 13067)) 0 k (s, 0)).1.2 (fo (flS (fun p => decide (gR N g p)) (N 13066) (N 13067)) 0 k (s, 0)).2) A)) 9 (fun k hk => ?_) ?_ (by omega) rfl
  · have ic : ((k + 1 : Nat) : Int) = (k : Int) + 1 := by omega
    have q := fii_at (W := N 13067) h hs (n := k) (by omega)
    rw [ic, fo_S, show (0 : Int) + (k : Int) = k by omega]
    exact m_fillS jn g1 g2 (by omega) (by omega) hF ⟨q.2.1, by omega⟩ q.1 hs C A
  · have nl : ¬ ((9 : Nat) : Int) < 9 := by omega
    unfold b_X11_gDeals_212
    simp (disch := omega) only [aok, up_s, true_and, false_and, and_true, and_false, if_true, if_false, ↓reduceIte, ↓Option.bind_some, Int.reduceEq, Int.reduceNe, Int.reduceLT, Int.reduceLE, gd_true, gd_false, bind_b, q10, eq_self, reduceCtorEq, not_true_eq_false, not_false_eq_true, ne_eq, pt_0, pt_1, pt_2, pt_3, pt_4, pt_5, pt_6, pt_7, pt_8, pt_9, pt_10, pt_11, pt_12, pt_13, pt_14, pt_15, pt_16, pt_17, pt_18, pt_19, pt_20, pt_21, pt_22, pt_23, pt_24, pt_25, pt_26, pt_27, pt_28, pt_29, pt_30, pt_31, pt_32, pt_33, pt_34, pt_35, pt_36, pt_37, pt_38, pt_39, pt_40, pt_41, pt_42, pt_43, pt_44, pt_45, pt_46, pt_47, pt_48, pt_49, pt_50, pt_51, pt_52, pt_53, pt_54, pt_55, pt_56, pt_57, pt_58, pt_59, pt_60, pt_61, pt_62, pt_63, pt_64, pt_65, pt_66, pt_67, pa_13005, pw_13005, pa_13006, pw_13006, pa_13007, pw_13007, pa_14008, pw_14008, pa_13009, pw_13009, pa_13010, pw_13010, pa_13012, pw_13012, pa_13013, pw_13013, pa_13014, pw_13014, pa_13015, pw_13015, pa_13016, pw_13016, pa_13017, pw_13017, pa_13018, pw_13018, pa_13020, pw_13020, pa_13021, pw_13021, pa_13022, pw_13022, pa_13023, pw_13023, pa_13024, pw_13024, pa_13025, pw_13025, pa_13026, pw_13026, pa_13027, pw_13027, pa_13028, pw_13028, pa_13029, pw_13029, pa_13031, pw_13031, pa_13032, pw_13032, pa_13033, pw_13033, pa_14034, pw_14034, pa_13035, pw_13035, pa_13036, pw_13036, pa_13037, pw_13037, pa_13038, pw_13038, pa_13039, pw_13039, pa_13042, pw_13042, pa_13043, pw_13043, pa_13044, pw_13044, pa_13045, pw_13045, pa_13046, pw_13046, pa_13047, pw_13047, pa_13048, pw_13048, pa_13049, pw_13049, pa_13050, pw_13050, pa_13051, pw_13051, pa_13052, pw_13052, pa_13053, pw_13053, pa_13054, pw_13054, pa_13055, pw_13055, pa_13056, pw_13056, pa_13057, pw_13057, pa_13058, pw_13058, pa_13059, pw_13059, pa_13060, pw_13060, pa_13061, pw_13061, pa_13062, pw_13062, pa_13063, pw_13063, pa_13064, pw_13064, pa_13065, pw_13065, pa_13066, pw_13066, pa_13067, pw_13067, ps_0, ps_1, ps_2, ps_3, ps_4, ps_11, ps_19, ps_30, ps_40, ps_41, ln_13005, ln_13006, ln_13007, ln_14008, ln_13009, ln_13010, ln_13012, ln_13013, ln_13014, ln_13015, ln_13016, ln_13017, ln_13018, ln_13020, ln_13021, ln_13022, ln_13023, ln_13024, ln_13025, ln_13026, ln_13027, ln_13028, ln_13029, ln_13031, ln_13032, ln_13033, ln_14034, ln_13035, ln_13036, ln_13037, ln_13038, ln_13039, ln_13042, ln_13043, ln_13044, ln_13045, ln_13046, ln_13047, ln_13048, ln_13049, ln_13050, ln_13051, ln_13052, ln_13053, ln_13054, ln_13055, ln_13056, ln_13057, ln_13058, ln_13059, ln_13060, ln_13061, ln_13062, ln_13063, ln_13064, ln_13065, ln_13066, ln_13067, gd_t, w_eq, nl]
end FL3
