/-! PURE PART, 84: retry -/
def mdK (N : Nd) (g j m q u s : Int) : Bool := decide (s ≠ q) && (decide (u ≤ s) || !(rowB N g j m s) || decide (s < q))
def mdB (N : Nd) (g j m q u s : Int) : Bool := decide (s < u) && rowB N g j m s && decide (q < s)
theorem oo_ir {N : Nd} {g j k m d t : Int} : ooN (irN N g m d t) g j k = irN (ooN N g j k) g m d t := by
  have e : hn (irN N g m d t) g j = hn N g j := by
    show irN N g m d t 13051 (12 * g + j) = _
    rw [ir_ar (by decide) (by decide) (by decide)]
  unfold ooN
  rw [e]
  funext b x
  by_cases h : b = 13052 ∨ b = 13053 ∨ b = 13054
  · rw [oo_b h, ir_ar (b := b) (by omega) (by omega) (by omega), ir_ar (b := b) (by omega) (by omega) (by omega), oo_b h]
  · by_cases h2 : b = 13051
    · subst h2
      rw [oo_m, ir_ar (b := 13051) (by decide) (by decide) (by decide), ir_ar (b := 13051) (by decide) (by decide) (by decide), oo_m]
    · rw [oo_ar (b := b) (by omega)]
      unfold irN
      rw [up_s, up_s, up_s, up_s, up_s, up_s, oo_ar (b := b) (by omega)]
theorem oo_dd {N : Nd} {g j k m : Int} : ooN (ddN N g m) g j k = ddN (ooN N g j k) g m := by
  have ar : ∀ X : Nd, ∀ b, 13051 ≤ b ∧ b ≤ 13054 → ddN X g m b = X b := fun X b hb => by
    funext i
    unfold ddN
    rw [up_s, if_neg (by omega), up_s, if_neg (by omega), up_s, if_neg (by omega)]
  have e : hn (ddN N g m) g j = hn N g j := by
    show ddN N g m 13051 (12 * g + j) = _
    rw [ar _ _ (by decide)]
  have e2 : ooN N g j k 13046 g = N 13046 g := by rw [on_ar (by decide)]
  unfold ooN at e2 ⊢
  rw [e]
  funext b x
  by_cases h : b = 13052 ∨ b = 13053 ∨ b = 13054
  · rw [oo_b h, ar _ b (by omega), ar _ b (by omega), oo_b h]
  · by_cases h2 : b = 13051
    · subst h2
      rw [oo_m, ar _ _ (by decide), ar _ _ (by decide), oo_m]
    · rw [oo_ar (b := b) (by omega)]
      unfold ddN
      rw [e2, up_s, up_s, up_s, up_s, up_s, up_s, oo_ar (b := b) (by omega)]
section RTY
variable {C : Cd} {N N0 : Nd} {A : Ad} {g j t m q : Int}
theorem m_bkLoop {NF N1 : Nd} (g1 : 0 ≤ g) (g2 : g < 3) (j1 : 0 ≤ j) (j2 : j < 12) (h9 : hn NF g j ≤ 9) (q1 : 0 ≤ q) (q2 : q < hn NF g j) (m1 : 0 ≤ m) (m2 : m < 150) (hb : ∀ s, 0 ≤ s → s < hn NF g j → 0 ≤ hf NF g j s ∧ hf NF g j s < 150) (hd : ∀ s x, 0 ≤ s → s < hn NF g j → 0 ≤ x → x < hn NF g j → hf NF g j s = hf NF g j x → s = x) (ht : (NF 12000 1) = t) (fh : FH NF N1 g j (hn NF g j) (mdK NF g j m q (q + 1))) (rw' : RW NF N1 g j (hn NF g j) t (mdB NF g j m q (q + 1))) (C' : Cd) (A' : Ad) : Ok (lp (b_X11_retry_161 12000 (12 * g + j) m g j) 1000 (q, mk C' N1 A')) (fun M => ∃ N', M = mk C' N' A' ∧ FH NF N' g j (hn NF g j) (mdK NF g j m q (hn NF g j)) ∧ RW NF N' g j (hn NF g j) t (mdB NF g j m q (hn NF g j))) := by
  generalize hN : hn NF g j = n at *
  have kq : kap (mdK NF g j m q (q + 1)) (q + 1) = q := by
    have a := kap_S (K := mdK NF g j m q (q + 1)) q1
    rw [if_neg (by unfold mdK; simp), kap_all q1 (fun s s1 s2 => by unfold mdK; simp; omega), Int.add_zero] at a
    exact a
  refine lp_for (fun i s => ∃ N', s = (kap (mdK NF g j m q (q + 1 + i)) (q + 1 + i), mk C' N' A') ∧ FH NF N' g j n (mdK NF g j m q (q + 1 + i)) ∧ RW NF N' g j n t (mdB NF g j m q (q + 1 + i))) 0 (n - 1 - q).toNat ?_ ?_ (by omega) ⟨N1, by rw [Int.add_zero, kq], by rw [Int.add_zero]; exact fh, by rw [Int.add_zero]; exact rw'⟩
  · rintro i s i1 i2 ⟨N', rfl, fh1, rw1⟩
    generalize hu : q + 1 + i = u at *
    have hu2 : q + 1 + (i + 1) = u + 1 := by omega
    have u1 : 0 ≤ u := by omega
    have u2 : u < n := by omega
    rw [hu2]
    have Ku : mdK NF g j m q u u = true := by unfold mdK; simp; omega
    have ltn := kap_lt (K := mdK NF g j m q u) u1 u2 Ku
    have kb := @kap_b (mdK NF g j m q u) u
    have kbn := @kap_b (mdK NF g j m q u) n
    have hp : hn N' g j = kap (mdK NF g j m q u) n := fh1.1
    have hp' : N' 13051 (12 * g + j) = kap (mdK NF g j m q u) n := hp
    have hfu : N' 13052 (9 * (12 * g + j) + kap (mdK NF g j m q u) u) = hf NF g j u := fh1.2 13052 (Or.inl rfl) u u1 u2 Ku
    have htu : N' 13053 (9 * (12 * g + j) + kap (mdK NF g j m q u) u) = NF 13053 (9 * (12 * g + j) + u) := fh1.2 13053 (Or.inr (Or.inl rfl)) u u1 u2 Ku
    have bu := hb u u1 u2
    have eP : N' 13021 = NF 13021 := rw1.2.2.1 _ (by decide) (by decide)
    have eK : N' 13022 = NF 13022 := rw1.2.2.1 _ (by decide) (by decide)
    have eN : N' 12000 1 = t := by rw [rw1.2.2.1 12000 (by decide) (by decide)]; exact ht
    have low : ∀ s, 0 ≤ s → s < u → mdK NF g j m q u s = mdK NF g j m q (u + 1) s := fun s s1 s2 => by
      unfold mdK
      rw [decide_eq_false (show ¬ u ≤ s by omega), decide_eq_false (show ¬ u + 1 ≤ s by omega)]
    have kl : kap (mdK NF g j m q (u + 1)) u = kap (mdK NF g j m q u) u := by
      have := @kap_cong (mdK NF g j m q (u + 1)) (mdK NF g j m q u) u.toNat (fun s s1 s2 => (low s s1 (by omega)).symm)
      rw [show ((u.toNat : Nat) : Int) = u by omega] at this
      exact this
    have kS := kap_S (K := mdK NF g j m q (u + 1)) u1
    rw [kl] at kS
    have hi9 : ∀ s, s ≠ u → mdK NF g j m q u s = mdK NF g j m q (u + 1) s := fun s hs => by
      unfold mdK
      have d1 : decide (u + 1 ≤ s) = decide (u ≤ s) := by
        by_cases y : u ≤ s
        · rw [decide_eq_true y, decide_eq_true (show u + 1 ≤ s by omega)]
        · rw [decide_eq_false y, decide_eq_false (show ¬ u + 1 ≤ s by omega)]
      rw [d1]
    have hiB : ∀ s, s ≠ u → mdB NF g j m q u s = mdB NF g j m q (u + 1) s := fun s hs => by
      unfold mdB
      have d1 : decide (s < u + 1) = decide (s < u) := by
        by_cases y : s < u
        · rw [decide_eq_true y, decide_eq_true (show s < u + 1 by omega)]
        · rw [decide_eq_false y, decide_eq_false (show ¬ s < u + 1 by omega)]
      rw [d1]
    unfold b_X11_retry_161 p_X11_areOfOneRow
    by_cases z1 : NF 13021 (hf NF g j u) = NF 13021 m
    · by_cases z2 : NF 13022 (hf NF g j u) = NF 13022 m
      · have rb : rowB NF g j m u = true := decide_eq_true ⟨z1, z2⟩
        have Ku' : ¬ mdK NF g j m q (u + 1) u = true := by unfold mdK; rw [rb]; simp; omega
        rw [if_neg Ku', Int.add_zero] at kS
        have mo := @m_out C' (irN N' g (hf NF g j u) t (NF 13053 (9 * (12 * g + j) + u))) A' g j (kap (mdK NF g j m q u) u) g1 g2 j1 j2 kb.1 (by
          show _ < irN N' g (hf NF g j u) t _ 13051 (12 * g + j)
          rw [ir_ar (by decide) (by decide) (by decide), hp']; exact ltn) (by
          show irN N' g (hf NF g j u) t _ 13051 (12 * g + j) ≤ 9
          rw [ir_ar (by decide) (by decide) (by decide), hp']; omega)
        have mi := @m_intoRow C' N' A' g (hf NF g j u) t (NF 13053 (9 * (12 * g + j) + u)) g1 g2 bu.1 bu.2
        rw [oo_ir] at mo
        have fr := fh1.rm g1 j1 u1 u2 Ku
        have ro := rw1.out g1 j1 j2 kb.1 (by rw [hp]; exact ltn) (by rw [hp]; omega)
        simp (disch := omega) only [aok, up_s, true_and, false_and, and_true, and_false, if_true, if_false, ↓reduceIte, ↓Option.bind_some, Int.reduceEq, Int.reduceNe, Int.reduceLT, Int.reduceLE, gd_true, gd_false, bind_b, q10, eq_self, reduceCtorEq, not_true_eq_false, not_false_eq_true, ne_eq, pt_0, pt_1, pt_2, pt_3, pt_4, pt_5, pt_6, pt_7, pt_8, pt_9, pt_10, pt_11, pt_12, pt_13, pt_14, pt_15, pt_16, pt_17, pt_18, pt_19, pt_20, pt_21, pt_22, pt_23, pt_24, pt_25, pt_26, pt_27, pt_28, pt_29, pt_30, pt_31, pt_32, pt_33, pt_34, pt_35, pt_36, pt_37, pt_38, pt_39, pt_40, pt_41, pt_42, pt_43, pt_44, pt_45, pt_46, pt_47, pt_48, pt_49, pt_50, pt_51, pt_52, pt_53, pt_54, pt_55, pt_56, pt_57, pt_58, pt_59, pt_60, pt_61, pt_62, pt_63, pt_64, pt_65, pt_66, pt_67, pa_13005, pw_13005, pa_13006, pw_13006, pa_13007, pw_13007, pa_14008, pw_14008, pa_13009, pw_13009, pa_13010, pw_13010, pa_13012, pw_13012, pa_13013, pw_13013, pa_13014, pw_13014, pa_13015, pw_13015, pa_13016, pw_13016, pa_13017, pw_13017, pa_13018, pw_13018, pa_13020, pw_13020, pa_13021, pw_13021, pa_13022, pw_13022, pa_13023, pw_13023, pa_13024, pw_13024, pa_13025, pw_13025, pa_13026, pw_13026, pa_13027, pw_13027, pa_13028, pw_13028, pa_13029, pw_13029, pa_13031, pw_13031, pa_13032, pw_13032, pa_13033, pw_13033, pa_14034, pw_14034, pa_13035, pw_13035, pa_13036, pw_13036, pa_13037, pw_13037, pa_13038, pw_13038, pa_13039, pw_13039, pa_13042, pw_13042, pa_13043, pw_13043, pa_13044, pw_13044, pa_13045, pw_13045, pa_13046, pw_13046, pa_13047, pw_13047, pa_13048, pw_13048, pa_13049, pw_13049, pa_13050, pw_13050, pa_13051, pw_13051, pa_13052, pw_13052, pa_13053, pw_13053, pa_13054, pw_13054, pa_13055, pw_13055, pa_13056, pw_13056, pa_13057, pw_13057, pa_13058, pw_13058, pa_13059, pw_13059, pa_13060, pw_13060, pa_13061, pw_13061, pa_13062, pw_13062, pa_13063, pw_13063, pa_13064, pw_13064, pa_13065, pw_13065, pa_13066, pw_13066, pa_13067, pw_13067, ps_0, ps_1, ps_2, ps_3, ps_4, ps_11, ps_19, ps_30, ps_40, ps_41, ln_13005, ln_13006, ln_13007, ln_14008, ln_13009, ln_13010, ln_13012, ln_13013, ln_13014, ln_13015, ln_13016, ln_13017, ln_13018, ln_13020, ln_13021, ln_13022, ln_13023, ln_13024, ln_13025, ln_13026, ln_13027, ln_13028, ln_13029, ln_13031, ln_13032, ln_13033, ln_14034, ln_13035, ln_13036, ln_13037, ln_13038, ln_13039, ln_13042, ln_13043, ln_13044, ln_13045, ln_13046, ln_13047, ln_13048, ln_13049, ln_13050, ln_13051, ln_13052, ln_13053, ln_13054, ln_13055, ln_13056, ln_13057, ln_13058, ln_13059, ln_13060, ln_13061, ln_13062, ln_13063, ln_13064, ln_13065, ln_13066, ln_13067, gd_t, w_eq, hp', ltn, hfu, htu, eP, eK, z1, z2, eN, mi, mo]
        refine ⟨_, rfl, _, by rw [kS], (FH.ir fr).cong (by omega) (fun s s1 s2 => ?_), (ro.row (x := u) bu u1 u2 (fun s s1 s2 h => hd s u s1 s2 u1 u2 h)).cong (fun s s1 s2 => ?_)⟩
        · by_cases e : s = u
          · rw [e]
            simp only [Bool.not_eq_true] at Ku'
            rw [Ku']
            simp
          · rw [hi9 s e]
            simp [e]
        · by_cases e : s = u
          · rw [e]
            unfold mdB
            rw [rb]
            simp
            omega
          · rw [hiB s e]
            simp [e]
      · have rb : rowB NF g j m u = false := decide_eq_false (fun y => z2 y.2)
        have Ku' : mdK NF g j m q (u + 1) u = true := by unfold mdK; rw [rb]; simp; omega
        rw [if_pos Ku'] at kS
        simp (disch := omega) only [aok, up_s, true_and, false_and, and_true, and_false, if_true, if_false, ↓reduceIte, ↓Option.bind_some, Int.reduceEq, Int.reduceNe, Int.reduceLT, Int.reduceLE, gd_true, gd_false, bind_b, q10, eq_self, reduceCtorEq, not_true_eq_false, not_false_eq_true, ne_eq, pt_0, pt_1, pt_2, pt_3, pt_4, pt_5, pt_6, pt_7, pt_8, pt_9, pt_10, pt_11, pt_12, pt_13, pt_14, pt_15, pt_16, pt_17, pt_18, pt_19, pt_20, pt_21, pt_22, pt_23, pt_24, pt_25, pt_26, pt_27, pt_28, pt_29, pt_30, pt_31, pt_32, pt_33, pt_34, pt_35, pt_36, pt_37, pt_38, pt_39, pt_40, pt_41, pt_42, pt_43, pt_44, pt_45, pt_46, pt_47, pt_48, pt_49, pt_50, pt_51, pt_52, pt_53, pt_54, pt_55, pt_56, pt_57, pt_58, pt_59, pt_60, pt_61, pt_62, pt_63, pt_64, pt_65, pt_66, pt_67, pa_13005, pw_13005, pa_13006, pw_13006, pa_13007, pw_13007, pa_14008, pw_14008, pa_13009, pw_13009, pa_13010, pw_13010, pa_13012, pw_13012, pa_13013, pw_13013, pa_13014, pw_13014, pa_13015, pw_13015, pa_13016, pw_13016, pa_13017, pw_13017, pa_13018, pw_13018, pa_13020, pw_13020, pa_13021, pw_13021, pa_13022, pw_13022, pa_13023, pw_13023, pa_13024, pw_13024, pa_13025, pw_13025, pa_13026, pw_13026, pa_13027, pw_13027, pa_13028, pw_13028, pa_13029, pw_13029, pa_13031, pw_13031, pa_13032, pw_13032, pa_13033, pw_13033, pa_14034, pw_14034, pa_13035, pw_13035, pa_13036, pw_13036, pa_13037, pw_13037, pa_13038, pw_13038, pa_13039, pw_13039, pa_13042, pw_13042, pa_13043, pw_13043, pa_13044, pw_13044, pa_13045, pw_13045, pa_13046, pw_13046, pa_13047, pw_13047, pa_13048, pw_13048, pa_13049, pw_13049, pa_13050, pw_13050, pa_13051, pw_13051, pa_13052, pw_13052, pa_13053, pw_13053, pa_13054, pw_13054, pa_13055, pw_13055, pa_13056, pw_13056, pa_13057, pw_13057, pa_13058, pw_13058, pa_13059, pw_13059, pa_13060, pw_13060, pa_13061, pw_13061, pa_13062, pw_13062, pa_13063, pw_13063, pa_13064, pw_13064, pa_13065, pw_13065, pa_13066, pw_13066, pa_13067, pw_13067, ps_0, ps_1, ps_2, ps_3, ps_4, ps_11, ps_19, ps_30, ps_40, ps_41, ln_13005, ln_13006, ln_13007, ln_14008, ln_13009, ln_13010, ln_13012, ln_13013, ln_13014, ln_13015, ln_13016, ln_13017, ln_13018, ln_13020, ln_13021, ln_13022, ln_13023, ln_13024, ln_13025, ln_13026, ln_13027, ln_13028, ln_13029, ln_13031, ln_13032, ln_13033, ln_14034, ln_13035, ln_13036, ln_13037, ln_13038, ln_13039, ln_13042, ln_13043, ln_13044, ln_13045, ln_13046, ln_13047, ln_13048, ln_13049, ln_13050, ln_13051, ln_13052, ln_13053, ln_13054, ln_13055, ln_13056, ln_13057, ln_13058, ln_13059, ln_13060, ln_13061, ln_13062, ln_13063, ln_13064, ln_13065, ln_13066, ln_13067, gd_t, w_eq, hp', ltn, hfu, htu, eP, eK, z1, z2]
        refine ⟨_, rfl, N', by rw [kS], fh1.cong (by omega) (fun s s1 s2 => ?_), rw1.cong (fun s s1 s2 => ?_)⟩
        · by_cases e : s = u
          · rw [e, Ku, Ku']
          · exact hi9 s e
        · by_cases e : s = u
          · rw [e]
            unfold mdB
            rw [rb]
            simp
          · exact hiB s e
    · have rb : rowB NF g j m u = false := decide_eq_false (fun y => z1 y.1)
      have Ku' : mdK NF g j m q (u + 1) u = true := by unfold mdK; rw [rb]; simp; omega
      rw [if_pos Ku'] at kS
      simp (disch := omega) only [aok, up_s, true_and, false_and, and_true, and_false, if_true, if_false, ↓reduceIte, ↓Option.bind_some, Int.reduceEq, Int.reduceNe, Int.reduceLT, Int.reduceLE, gd_true, gd_false, bind_b, q10, eq_self, reduceCtorEq, not_true_eq_false, not_false_eq_true, ne_eq, pt_0, pt_1, pt_2, pt_3, pt_4, pt_5, pt_6, pt_7, pt_8, pt_9, pt_10, pt_11, pt_12, pt_13, pt_14, pt_15, pt_16, pt_17, pt_18, pt_19, pt_20, pt_21, pt_22, pt_23, pt_24, pt_25, pt_26, pt_27, pt_28, pt_29, pt_30, pt_31, pt_32, pt_33, pt_34, pt_35, pt_36, pt_37, pt_38, pt_39, pt_40, pt_41, pt_42, pt_43, pt_44, pt_45, pt_46, pt_47, pt_48, pt_49, pt_50, pt_51, pt_52, pt_53, pt_54, pt_55, pt_56, pt_57, pt_58, pt_59, pt_60, pt_61, pt_62, pt_63, pt_64, pt_65, pt_66, pt_67, pa_13005, pw_13005, pa_13006, pw_13006, pa_13007, pw_13007, pa_14008, pw_14008, pa_13009, pw_13009, pa_13010, pw_13010, pa_13012, pw_13012, pa_13013, pw_13013, pa_13014, pw_13014, pa_13015, pw_13015, pa_13016, pw_13016, pa_13017, pw_13017, pa_13018, pw_13018, pa_13020, pw_13020, pa_13021, pw_13021, pa_13022, pw_13022, pa_13023, pw_13023, pa_13024, pw_13024, pa_13025, pw_13025, pa_13026, pw_13026, pa_13027, pw_13027, pa_13028, pw_13028, pa_13029, pw_13029, pa_13031, pw_13031, pa_13032, pw_13032, pa_13033, pw_13033, pa_14034, pw_14034, pa_13035, pw_13035, pa_13036, pw_13036, pa_13037, pw_13037, pa_13038, pw_13038, pa_13039, pw_13039, pa_13042, pw_13042, pa_13043, pw_13043, pa_13044, pw_13044, pa_13045, pw_13045, pa_13046, pw_13046, pa_13047, pw_13047, pa_13048, pw_13048, pa_13049, pw_13049, pa_13050, pw_13050, pa_13051, pw_13051, pa_13052, pw_13052, pa_13053, pw_13053, pa_13054, pw_13054, pa_13055, pw_13055, pa_13056, pw_13056, pa_13057, pw_13057, pa_13058, pw_13058, pa_13059, pw_13059, pa_13060, pw_13060, pa_13061, pw_13061, pa_13062, pw_13062, pa_13063, pw_13063, pa_13064, pw_13064, pa_13065, pw_13065, pa_13066, pw_13066, pa_13067, pw_13067, ps_0, ps_1, ps_2, ps_3, ps_4, ps_11, ps_19, ps_30, ps_40, ps_41, ln_13005, ln_13006, ln_13007, ln_14008, ln_13009, ln_13010, ln_13012, ln_13013, ln_13014, ln_13015, ln_13016, ln_13017, ln_13018, ln_13020, ln_13021, ln_13022, ln_13023, ln_13024, ln_13025, ln_13026, ln_13027, ln_13028, ln_13029, ln_13031, ln_13032, ln_13033, ln_14034, ln_13035, ln_13036, ln_13037, ln_13038, ln_13039, ln_13042, ln_13043, ln_13044, ln_13045, ln_13046, ln_13047, ln_13048, ln_13049, ln_13050, ln_13051, ln_13052, ln_13053, ln_13054, ln_13055, ln_13056, ln_13057, ln_13058, ln_13059, ln_13060, ln_13061, ln_13062, ln_13063, ln_13064, ln_13065, ln_13066, ln_13067, gd_t, w_eq, hp', ltn, hfu, htu, eP, eK, z1]
      refine ⟨_, rfl, N', by rw [kS], fh1.cong (by omega) (fun s s1 s2 => ?_), rw1.cong (fun s s1 s2 => ?_)⟩
      · by_cases e : s = u
        · rw [e, Ku, Ku']
        · exact hi9 s e
      · by_cases e : s = u
        · rw [e]
          unfold mdB
          rw [rb]
          simp
        · exact hiB s e
  · rintro s ⟨N', rfl, fh1, rw1⟩
    have e : q + 1 + (0 + ((n - 1 - q).toNat : Int)) = n := by omega
    rw [e] at fh1 rw1 ⊢
    have hp' : N' 13051 (12 * g + j) = kap (mdK NF g j m q n) n := fh1.1
    unfold b_X11_retry_161
    simp (disch := omega) only [aok, up_s, true_and, false_and, and_true, and_false, if_true, if_false, ↓reduceIte, ↓Option.bind_some, Int.reduceEq, Int.reduceNe, Int.reduceLT, Int.reduceLE, gd_true, gd_false, bind_b, q10, eq_self, reduceCtorEq, not_true_eq_false, not_false_eq_true, ne_eq, pt_0, pt_1, pt_2, pt_3, pt_4, pt_5, pt_6, pt_7, pt_8, pt_9, pt_10, pt_11, pt_12, pt_13, pt_14, pt_15, pt_16, pt_17, pt_18, pt_19, pt_20, pt_21, pt_22, pt_23, pt_24, pt_25, pt_26, pt_27, pt_28, pt_29, pt_30, pt_31, pt_32, pt_33, pt_34, pt_35, pt_36, pt_37, pt_38, pt_39, pt_40, pt_41, pt_42, pt_43, pt_44, pt_45, pt_46, pt_47, pt_48, pt_49, pt_50, pt_51, pt_52, pt_53, pt_54, pt_55, pt_56, pt_57, pt_58, pt_59, pt_60, pt_61, pt_62, pt_63, pt_64, pt_65, pt_66, pt_67, pa_13005, pw_13005, pa_13006, pw_13006, pa_13007, pw_13007, pa_14008, pw_14008, pa_13009, pw_13009, pa_13010, pw_13010, pa_13012, pw_13012, pa_13013, pw_13013, pa_13014, pw_13014, pa_13015, pw_13015, pa_13016, pw_13016, pa_13017, pw_13017, pa_13018, pw_13018, pa_13020, pw_13020, pa_13021, pw_13021, pa_13022, pw_13022, pa_13023, pw_13023, pa_13024, pw_13024, pa_13025, pw_13025, pa_13026, pw_13026, pa_13027, pw_13027, pa_13028, pw_13028, pa_13029, pw_13029, pa_13031, pw_13031, pa_13032, pw_13032, pa_13033, pw_13033, pa_14034, pw_14034, pa_13035, pw_13035, pa_13036, pw_13036, pa_13037, pw_13037, pa_13038, pw_13038, pa_13039, pw_13039, pa_13042, pw_13042, pa_13043, pw_13043, pa_13044, pw_13044, pa_13045, pw_13045, pa_13046, pw_13046, pa_13047, pw_13047, pa_13048, pw_13048, pa_13049, pw_13049, pa_13050, pw_13050, pa_13051, pw_13051, pa_13052, pw_13052, pa_13053, pw_13053, pa_13054, pw_13054, pa_13055, pw_13055, pa_13056, pw_13056, pa_13057, pw_13057, pa_13058, pw_13058, pa_13059, pw_13059, pa_13060, pw_13060, pa_13061, pw_13061, pa_13062, pw_13062, pa_13063, pw_13063, pa_13064, pw_13064, pa_13065, pw_13065, pa_13066, pw_13066, pa_13067, pw_13067, ps_0, ps_1, ps_2, ps_3, ps_4, ps_11, ps_19, ps_30, ps_40, ps_41, ln_13005, ln_13006, ln_13007, ln_14008, ln_13009, ln_13010, ln_13012, ln_13013, ln_13014, ln_13015, ln_13016, ln_13017, ln_13018, ln_13020, ln_13021, ln_13022, ln_13023, ln_13024, ln_13025, ln_13026, ln_13027, ln_13028, ln_13029, ln_13031, ln_13032, ln_13033, ln_14034, ln_13035, ln_13036, ln_13037, ln_13038, ln_13039, ln_13042, ln_13043, ln_13044, ln_13045, ln_13046, ln_13047, ln_13048, ln_13049, ln_13050, ln_13051, ln_13052, ln_13053, ln_13054, ln_13055, ln_13056, ln_13057, ln_13058, ln_13059, ln_13060, ln_13061, ln_13062, ln_13063, ln_13064, ln_13065, ln_13066, ln_13067, gd_t, w_eq, hp', Int.lt_irrefl]
    exact ⟨_, rfl, N', rfl, fh1, rw1⟩
/-- both orders leave the same behind, but for what lies behind hands -/
theorem he_ir {X NM : Nd} {n d u : Int} {K B : Int → Bool} (h0 : 0 ≤ n) (n9 : n ≤ 9) (fx : FH N X g j n K) (rx : RW N X g j n t B) (fm : FH (irN N g m d u) NM g j n K) (rm : RW (irN N g m d u) NM g j n t B) (h9 : ∀ z, 0 ≤ z → z < 12 → N 13047 (12 * g + z) = 1 → hn N g z ≤ 9) (nm' : ∀ s, 0 ≤ s → s < n → B s = true → hf N g j s ≠ m) : HE (irN X g m d u) NM g := by
  have eH : ∀ b, 13051 ≤ b → b ≤ 13054 → ∀ Y : Nd, irN Y g m d u b = Y b := fun b b1 b2 Y => ir_ar (by omega) (by omega) (by omega)
  have ehf : ∀ s, hf (irN N g m d u) g j s = hf N g j s := fun s => by
    show irN N g m d u 13052 _ = _
    rw [eH _ (by decide) (by decide)]
  refine ⟨fun a ha => ?_, fun z z1 z2 => ⟨?_, fun hi b hb k k1 k2 => ?_⟩⟩
  · by_cases c : 13059 ≤ a ∧ a ≤ 13061
    · funext i
      by_cases q : ∃ s, 0 ≤ s ∧ s < n ∧ B s = true ∧ i = 150 * g + hf N g j s
      · obtain ⟨s, s1, s2, s3, rfl⟩ := q
        obtain ⟨y1, y2, y3⟩ := rm.1 s s1 s2 s3
        obtain ⟨w1, w2, w3⟩ := rx.1 s s1 s2 s3
        rw [ehf] at y1 y2 y3
        rw [eH _ (by decide) (by decide)] at y3
        have ne := nm' s s1 s2 s3
        have e : a = 13059 ∨ a = 13060 ∨ a = 13061 := by omega
        rcases e with e | e | e
        · subst e
          rw [y1, ir_w, if_neg (by omega), w1]
        · subst e
          rw [y2, ir_d, if_neg (by omega), w2]
        · subst e
          rw [y3, ir_t, if_neg (by omega), w3]
      · have q' : ∀ s, 0 ≤ s → s < n → B s = true → i ≠ 150 * g + hf N g j s := fun s s1 s2 s3 z => q ⟨s, s1, s2, s3, z⟩
        obtain ⟨y1, y2, y3⟩ := rm.2.1 i (fun s s1 s2 s3 => by rw [ehf]; exact q' s s1 s2 s3)
        obtain ⟨w1, w2, w3⟩ := rx.2.1 i q'
        have e : a = 13059 ∨ a = 13060 ∨ a = 13061 := by omega
        rcases e with e | e | e
        · subst e
          rw [y1, ir_w, ir_w, w1]
        · subst e
          rw [y2, ir_d, ir_d, w2]
        · subst e
          rw [y3, ir_t, ir_t, w3]
    · rw [rm.2.2.1 a (by omega) c, ir_ar (by omega) (by omega) (by omega), ir_ar (by omega) (by omega) (by omega), rx.2.2.1 a (by omega) c]
  · show NM 13051 (12 * g + z) = irN X g m d u 13051 (12 * g + z)
    rw [eH _ (by decide) (by decide)]
    by_cases e : z = j
    · rw [e]
      exact fm.1.trans fx.1.symm
    · have y := (rm.2.2.2.1 z z1 z2 e).1
      have y2 := (rx.2.2.2.1 z z1 z2 e).1
      have y3 : hn (irN N g m d u) g z = hn N g z := by
        show irN N g m d u 13051 _ = _
        rw [eH _ (by decide) (by decide)]
      exact (y.trans y3).trans y2.symm
  · rw [eH b (by omega) (by omega)]
    have ehn : hn (irN X g m d u) g z = hn X g z := by
      show irN X g m d u 13051 _ = _
      rw [eH _ (by decide) (by decide)]
    rw [ehn] at k2
    by_cases e : z = j
    · subst e
      obtain ⟨s, s1, s2, s3, s4, s5⟩ := fm.at h0 k1 (by rw [fm.1, ← fx.1]; exact k2)
      rw [s5 b hb, eH b (by omega) (by omega), ← s4]
      exact (fx.2 b hb s s1 s2 s3).symm
    · have hi' : N 13047 (12 * g + z) = 1 := by
        rw [ir_ar (by decide) (by decide) (by decide), rx.2.2.1 13047 (by decide) (by decide)] at hi
        exact hi
      have y0 := (rx.2.2.2.1 z z1 z2 e).1
      have b9 := h9 z z1 z2 hi'
      have y := (rm.2.2.2.1 z z1 z2 e).2 b hb k k1 (by omega)
      rw [y, eH b (by omega) (by omega)]
      exact ((rx.2.2.2.1 z z1 z2 e).2 b hb k k1 (by omega)).symm
theorem he_dd {X NM : Nd} {n : Int} {K B : Int → Bool} (h0 : 0 ≤ n) (n9 : n ≤ 9) (fx : FH N X g j n K) (rx : RW N X g j n t B) (fm : FH (ddN N g m) NM g j n K) (rm : RW (ddN N g m) NM g j n t B) (h9 : ∀ z, 0 ≤ z → z < 12 → N 13047 (12 * g + z) = 1 → hn N g z ≤ 9) : HE (ddN X g m) NM g := by
  have ar : ∀ Y : Nd, ∀ b, b ≠ 13062 → b ≠ 13063 → b ≠ 13046 → ddN Y g m b = Y b := fun Y b h1 h2 h3 => by
    funext i
    unfold ddN
    rw [up_s, if_neg (fun z => h3 z.1), up_s, if_neg (fun z => h2 z.1), up_s, if_neg (fun z => h1 z.1)]
  have eH : ∀ b, 13051 ≤ b → b ≤ 13054 → ∀ Y : Nd, ddN Y g m b = Y b := fun b b1 b2 Y => ar Y b (by omega) (by omega) (by omega)
  have ehf : ∀ s, hf (ddN N g m) g j s = hf N g j s := fun s => by
    show ddN N g m 13052 _ = _
    rw [eH _ (by decide) (by decide)]
  refine ⟨fun a ha => ?_, fun z z1 z2 => ⟨?_, fun hi b hb k k1 k2 => ?_⟩⟩
  · by_cases c : 13059 ≤ a ∧ a ≤ 13061
    · funext i
      rw [ar X a (by omega) (by omega) (by omega)]
      by_cases q : ∃ s, 0 ≤ s ∧ s < n ∧ B s = true ∧ i = 150 * g + hf N g j s
      · obtain ⟨s, s1, s2, s3, rfl⟩ := q
        obtain ⟨y1, y2, y3⟩ := rm.1 s s1 s2 s3
        obtain ⟨w1, w2, w3⟩ := rx.1 s s1 s2 s3
        rw [ehf] at y1 y2 y3
        rw [eH _ (by decide) (by decide)] at y3
        have e : a = 13059 ∨ a = 13060 ∨ a = 13061 := by omega
        rcases e with e | e | e
        · subst e
          rw [y1, w1]
        · subst e
          rw [y2, w2]
        · subst e
          rw [y3, w3]
      · have q' : ∀ s, 0 ≤ s → s < n → B s = true → i ≠ 150 * g + hf N g j s := fun s s1 s2 s3 z => q ⟨s, s1, s2, s3, z⟩
        obtain ⟨y1, y2, y3⟩ := rm.2.1 i (fun s s1 s2 s3 => by rw [ehf]; exact q' s s1 s2 s3)
        obtain ⟨w1, w2, w3⟩ := rx.2.1 i q'
        rw [ar N _ (by decide) (by decide) (by decide)] at y1 y2 y3
        have e : a = 13059 ∨ a = 13060 ∨ a = 13061 := by omega
        rcases e with e | e | e
        · subst e
          rw [y1, w1]
        · subst e
          rw [y2, w2]
        · subst e
          rw [y3, w3]
    · rw [rm.2.2.1 a (by omega) c]
      have em := rx.2.2.1 13046 (by decide) (by decide)
      funext i
      unfold ddN
      rw [em]
      rw [up_s, up_s, up_s, up_s, up_s, up_s, rx.2.2.1 a (by omega) c]
  · show NM 13051 (12 * g + z) = ddN X g m 13051 (12 * g + z)
    rw [eH _ (by decide) (by decide)]
    by_cases e : z = j
    · rw [e]
      exact fm.1.trans fx.1.symm
    · have y := (rm.2.2.2.1 z z1 z2 e).1
      have y2 := (rx.2.2.2.1 z z1 z2 e).1
      have y3 : hn (ddN N g m) g z = hn N g z := by
        show ddN N g m 13051 _ = _
        rw [eH _ (by decide) (by decide)]
      exact (y.trans y3).trans y2.symm
  · rw [eH b (by omega) (by omega)]
    have ehn : hn (ddN X g m) g z = hn X g z := by
      show ddN X g m 13051 _ = _
      rw [eH _ (by decide) (by decide)]
    rw [ehn] at k2
    by_cases e : z = j
    · subst e
      obtain ⟨s, s1, s2, s3, s4, s5⟩ := fm.at h0 k1 (by rw [fm.1, ← fx.1]; exact k2)
      rw [s5 b hb, eH b (by omega) (by omega), ← s4]
      exact (fx.2 b hb s s1 s2 s3).symm
    · have hi' : N 13047 (12 * g + z) = 1 := by
        rw [ar X _ (by decide) (by decide) (by decide), rx.2.2.1 13047 (by decide) (by decide)] at hi
        exact hi
      have y0 := (rx.2.2.2.1 z z1 z2 e).1
      have b9 := h9 z z1 z2 hi'
      have y := (rm.2.2.2.1 z z1 z2 e).2 b hb k k1 (by omega)
      rw [y, eH b (by omega) (by omega)]
      exact ((rx.2.2.2.1 z z1 z2 e).2 b hb k k1 (by omega)).symm
theorem ST.he {C' : Cd} {N' NM : Nd} (s : ST g C C' N N') (h : HE N' NM g) (mg : MG g N NM) : ST g C C' N NM := by
  obtain ⟨s1, s2, s3, s4, s5, s6⟩ := s
  refine ⟨s1, mg, s3, s4, fun a h1 h2 h3 => (h.1 a (by omega)).trans (s5 a h1 h2 h3), fun x x1 x2 => ?_⟩
  have e : NM 13059 = N' 13059 := h.1 _ (by decide)
  rw [s6 x x1 x2]
  unfold Pd
  rw [e]
end RTY
