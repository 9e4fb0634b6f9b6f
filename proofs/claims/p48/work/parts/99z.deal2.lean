/-! PURE PART, 99z: deal, both sides -/
def dlM (N : Nd) (g : Int) : Nd := up (wsI N g 9) 13045 g 0
def dlS (N : Nd) (g : Int) : Nd := shN (tgN (dlM N g) g) g
theorem fair_T {T T' I : Int → Int} {R j : Int} (h : ∀ i, 0 ≤ i → i < 12 → T i = T' i) (j1 : 0 ≤ j) (j2 : j < 12) : fair T I R j = fair T' I R j := by
  have e : rk T I j = rk T' I j := su_congr fun i i1 i2 => by
    have q : ah T i j ↔ ah T' i j := by
      show (T j < T i ∨ (T i = T j ∧ i < j)) ↔ (T' j < T' i ∨ (T' i = T' j ∧ i < j))
      rw [h i i1 (by omega), h j j1 j2]
    by_cases z : I i = 1 ∧ ah T i j
    · rw [if_pos z, if_pos ⟨z.1, q.mp z.2⟩]
    · rw [if_neg z, if_neg (fun y => z ⟨y.1, q.mpr y.2⟩)]
  unfold fair
  rw [e]
theorem fair_b {T I : Int → Int} {R j : Int} (hK : 0 < mc I) (hR : 0 ≤ R ∧ R ≤ 9) (j1 : 0 ≤ j) (j2 : j < 12) : 0 ≤ fair T I R j ∧ fair T I R j ≤ 9 := by
  have mb := Int.emod_nonneg R (show mc I ≠ 0 by omega)
  have d := Int.mul_ediv_add_emod R (mc I)
  have q0 : 0 ≤ R / mc I := Int.ediv_nonneg hR.1 (by omega)
  have q1 : 1 * (R / mc I) ≤ mc I * (R / mc I) := Int.mul_le_mul_of_nonneg_right (by omega) q0
  unfold fair
  by_cases y : I j = 1
  · rw [if_pos y]
    have := (rk_b (T := T) j1 j2 y).1
    by_cases z : rk T I j < R % mc I
    · rw [if_pos z]; omega
    · rw [if_neg z]; omega
  · rw [if_neg y]; omega
theorem fair_f {T I : Int → Int} {R i j : Int} (hi : I i = 1) (hj : I j = 1) : fair T I R i ≤ fair T I R j + 1 := by
  unfold fair
  rw [if_pos hi, if_pos hj]
  split <;> split <;> omega
theorem fill_np {R : Int → Bool} {F W I : Int → Int} {s : (Int → Int) × (Int → Int)} (hf : FII R F 0 (s, 0)) (hs : su F 0 12 = su (fun p => if R p = true then 1 else 0) 0 9) (hI : ∀ j, 0 ≤ j → j < 12 → 0 < F j → I j = 1) (h0 : ∀ p, 0 ≤ p → p < 9 → s.2 p = -1 ∨ (R p = true ∧ I (s.2 p) = 1)) : ∀ p, 0 ≤ p → p < 9 → (fo (flS R F W) 0 9 (s, 0)).1.2 p = -1 ∨ (R p = true ∧ I ((fo (flS R F W) 0 9 (s, 0)).1.2 p) = 1) := by
  have k := fo_inv (g := flS R F W) (i0 := 0) (n := 9) (a := (s, 0)) (fun i x => FII R F i x ∧ ∀ p, 0 ≤ p → p < 9 → x.1.2 p = -1 ∨ (R p = true ∧ I (x.1.2 p) = 1)) ⟨hf, h0⟩ (fun i x i1 i2 hb => by
    obtain ⟨y1, y2⟩ := hb
    have i9 : i < 9 := by omega
    refine ⟨y1.step hs i1 i9, fun p p1 p2 => ?_⟩
    unfold flS
    by_cases z : R i = true ∧ x.1.2 i = -1
    · rw [if_pos z]
      obtain ⟨⟨b1, b2, b3⟩, -⟩ := blw_p (y1.ex hs i1 i9 z.1 z.2)
      generalize blw x.1.1 F = b at b1 b2 b3
      have q1 := (y1.1 b b1 b2).1
      have q2 := @ctn_b R x.1.2 (9 : Nat) b (by omega)
      show fu x.1.2 i b p = -1 ∨ (R p = true ∧ I (fu x.1.2 i b p) = 1)
      unfold fu
      by_cases e : p = i
      · rw [if_pos e, e]
        exact Or.inr ⟨z.1, hI b b1 b2 (by omega)⟩
      · rw [if_neg e]
        exact y2 p p1 p2
    · rw [if_neg z]
      exact y2 p p1 p2)
  exact k.2
section DEAL2
variable {C : Cd} {N1 : Nd} {g : Int}
theorem dc_kk {N : Nd} {F c t : Int → Int} {m b x z : Int} (h : ¬ dCell g b x z) : dcC C N g F c t m b x z = C b x z := by
  unfold dCell at h
  unfold dcC
  rw [if_neg (fun q => h (Or.inl ⟨q.1, q.2.1, q.2.2.1, q.2.2.2.1⟩)), if_neg (fun q => h (Or.inr (Or.inl ⟨q.1, Or.inl q.2.1, q.2.2.1, q.2.2.2.1⟩))), if_neg (fun q => h (Or.inr (Or.inl ⟨q.1, Or.inr q.2.1, q.2.2.1, q.2.2.2.1⟩))), if_neg (fun q => h (Or.inr (Or.inr q)))]
theorem GAw.dg {N : Nd} (a : GAw C N1 g) (kn : MG g N1 N) (hI : N 13047 = N1 13047) : DG C N g := by
  obtain ⟨⟨o0, o1, o2, o3, o4, o5, o6, o8⟩, sh, me, ha, le, wa, de, nm, no, nt, nh, ng⟩ := a
  have hr := fun p => kn.gr g p
  unfold DG nsh
  simp only [hr]
  rw [hI]
  exact ⟨⟨o0, o1, o8⟩, fun p p1 p2 => (sh p p1 p2).1, fun j j1 j2 => (me j j1 j2).1, fun j j1 j2 j3 => ((me j j1 j2).2 j3).1, fun j j1 j2 => (nm j j1 j2).1⟩
theorem dlM_ar {b : Int} (h1 : b ≠ 13056) (h2 : b ≠ 13045) (h3 : b < 13065 ∨ 13067 < b) : dlM N1 g b = N1 b := by
  funext q
  unfold dlM
  rw [up_s, if_neg (fun z => h2 z.1), ws_ar h1 (by omega)]
theorem dlS_ar {b : Int} (h1 : b ≠ 13056) (h2 : b ≠ 13045) (h3 : b < 13065 ∨ 13067 < b) : dlS N1 g b = N1 b := by
  funext q
  unfold dlS shN tgN
  rw [ra_s, if_neg (by omega), ra_s, if_neg (by omega), dlM_ar h1 h2 h3]
theorem dlM_mg (g1 : 0 ≤ g) : MG g N1 (dlM N1 g) := fun b q h => by
  unfold inN at h
  unfold dlM wsI
  rw [up_s, if_neg (fun z => h (by omega)), if_neg (fun z => h (by omega)), if_neg (fun z => h (by omega))]
theorem dlS_mg (g1 : 0 ≤ g) : MG g N1 (dlS N1 g) := fun b q h => by
  have h' := h
  unfold inN at h'
  unfold dlS shN tgN
  rw [ra_s, if_neg (by omega), ra_s, if_neg (by omega)]
  exact dlM_mg g1 b q h
theorem deal (jn : JN N1) (a : GAw C N1 g) (g1 : 0 ≤ g) (g2 : g < 3) (hT : ∀ p, p < 9 → gR N1 g p → C 9000 (9 * g + p) 2 = obj g (was N1 g p)) (hN : ∀ p, 0 ≤ p → p < 9 → N1 13056 (9 * g + p) = -1 ∨ (0 ≤ N1 13056 (9 * g + p) ∧ N1 13056 (9 * g + p) < 12 ∧ gR N1 g p)) : ∃ C2 N2, (∀ N0 A, p_X0_dealTargets (mk C N0 A) (1000 + g) = some (mk C2 N0 A)) ∧ (∀ C' A', p_X11_gDeals (mk C' N1 A') 12000 g = some (mk C' N2 A')) ∧ GA C2 N2 g ∧ (∀ b x z, ¬ dCell g b x z → C2 b x z = C b x z) ∧ MG g N1 N2 ∧ ∀ b, b ≠ 13056 → b ≠ 13045 → (b < 13065 ∨ 13067 < b) → N2 b = N1 b := by
  have nm := a.2.2.2.2.2.2.2.1
  have ht : ∀ p, 0 ≤ p → p < 9 → N1 13056 (9 * g + p) = -1 ∨ (0 ≤ N1 13056 (9 * g + p) ∧ N1 13056 (9 * g + p) < 12) := fun p p1 p2 => (hN p p1 p2).imp id (fun z => ⟨z.1, z.2.1⟩)
  have wb := fun (p : Int) (p1 : 0 ≤ p) (p2 : p < 9) => was_b ht p1 p2
  have tk : tgOk (was N1 g) := fun p p1 p2 => (wb p p1 p2).imp id (fun z => ⟨z.1, z.2.1⟩)
  have wr' : ∀ p, 0 ≤ p → p < 9 → was N1 g p ≠ -1 → gR N1 g p ∧ N1 13047 (12 * g + was N1 g p) = 1 := fun p p1 p2 z => by
    refine ⟨?_, ((wb p p1 p2).resolve_left z).2.2⟩
    rcases hN p p1 p2 with y | y
    · exact absurd (by unfold was; rw [if_pos y]) z
    · exact y.2.2
  have mmc : mc (shI N1 g) = mcn N1 g := mc_mcn (fun j j1 j2 => (nm j j1 j2).1)
  have kb : 0 ≤ mcn N1 g ∧ mcn N1 g ≤ 12 := by
    have := @su_b (fun j => N1 13047 (12 * g + j)) 0 12 1 (fun i i1 i2 => by have := (nm i i1 (by omega)).1; omega)
    unfold mcn
    omega
  have h1 := fun C' A' => @m_gMembers C' N1 A' g nm g1 g2
  have h2 := fun C' A' => m_was g1 g2 ht C' A'
  have km := dlM_mg (N1 := N1) g1
  have dM : ∀ p, 0 ≤ p → p < 9 → dlM N1 g 13056 (9 * g + p) = was N1 g p := fun p p1 p2 => by
    unfold dlM
    rw [up_s, if_neg (by omega), ws_t p1, if_pos p2]
  have mI : dlM N1 g 13047 = N1 13047 := dlM_ar (by decide) (by decide) (by decide)
  by_cases K0 : mcn N1 g = 0
  · have n0 : ∀ j, 0 ≤ j → j < 12 → N1 13047 (12 * g + j) ≠ 1 := fun j j1 j2 e => by
      have := rk_b (T := fun _ => 0) (I := shI N1 g) j1 j2 e
      omega
    have w0 : ∀ p, 0 ≤ p → p < 9 → was N1 g p = -1 := fun p p1 p2 => by
      rcases wb p p1 p2 with z | z
      · exact z
      · exact absurd z.2.2 (n0 _ z.1 z.2.1)
    have h := a.dg (N := N1) MG.rf rfl
    have dd := dri_at (F := fun _ => 0) (t0 := was N1 g) (fun j j1 j2 => Int.le_refl _) tk (n := 9) (by omega)
    have s0 : ∀ p, 0 ≤ p → p < 9 → (fo (drS (fun _ => 0)) 0 9 (fun _ => 0, was N1 g)).2 p = -1 := fun p p1 p2 => by
      rcases dd.2.2 p p1 p2 with z | z
      · rw [z]; exact w0 p p1 p2
      · exact z.1
    have dk : drK (fun _ => 0) (was N1 g) 9 = 0 := su_zero fun p p1 p2 => if_neg (fun z => z.1 (w0 p p1 (by omega)))
    have cd : ∀ (N0 : Nd) (A : Ad), p_X0_dealTargets (mk C N0 A) (1000 + g) = some (mk (dcC C N1 g (fun _ => 0) (fo (drS (fun _ => 0)) 0 9 (fun _ => 0, was N1 g)).1 (fo (drS (fun _ => 0)) 0 9 (fun _ => 0, was N1 g)).2 0) N0 A) := fun N0 A => by
      have es : C = dcC C N1 g (fun j => C 4000 (12 * g + j) 6) (fun j => C 4000 (12 * g + j) 5) (was N1 g) (C 1000 g 7) := (dc_self hT).symm
      have w7 : uq C 1000 g 7 0 = dcC C N1 g (fun j => C 4000 (12 * g + j) 6) (fun j => C 4000 (12 * g + j) 5) (was N1 g) 0 := by
        have := dc_um (C := C) (N := N1) (g := g) (F := fun j => C 4000 (12 * g + j) 6) (c := fun j => C 4000 (12 * g + j) 5) (t := was N1 g) (m := C 1000 g 7) (v := 0)
        rw [← es] at this
        exact this
      have fe : dcC C N1 g (fun j => C 4000 (12 * g + j) 6) (fun j => C 4000 (12 * g + j) 5) (was N1 g) 0 = dcC C N1 g (fun _ => 0) (fun _ => 0) (was N1 g) 0 := dc_cong (fun j j1 j2 j3 => absurd j3 (n0 j j1 j2)) (fun j j1 j2 j3 => absurd j3 (n0 j j1 j2)) (fun _ _ _ _ => rfl)
      rw [fe] at w7
      have mcn' := d_memberCount (N0 := N0) (A := A) (h.dc (F := fun _ => 0) (c := fun _ => 0) (t := was N1 g) (m := 0)) g1 g2
      rw [K0] at mcn'
      have z := c_zero (N0 := N0) (A := A) (F := fun _ => 0) (c := fun _ => 0) (t := was N1 g) (m := 0) h g1 g2
      have dr := c_drop (N0 := N0) (A := A) (F := fun _ => 0) h g1 g2 (fun _ _ _ => ⟨by decide, by decide⟩) tk wr'
      rw [dk] at dr
      have fl := c_fill0 (N0 := N0) (A := A) (m := 0) (F := fun _ => 0) (c := (fo (drS (fun _ => 0)) 0 9 (fun _ => 0, was N1 g)).1) h g1 g2 n0 s0
      have o1 := (h.dc (F := fun _ => 0) (c := fun _ => 0) (t := was N1 g) (m := 0)).1.2.1
      have o0 := (h.dc (F := fun _ => 0) (c := fun _ => 0) (t := was N1 g) (m := 0)).1.1
      have o2 := (h.dc (F := fun _ => 0) (c := (fo (drS (fun _ => 0)) 0 9 (fun _ => 0, was N1 g)).1) (t := (fo (drS (fun _ => 0)) 0 9 (fun _ => 0, was N1 g)).2) (m := 0)).1.1
      have ds : p_X0_dropSurplus (mk (dcC C N1 g (fun _ => 0) (fun _ => 0) (was N1 g) 0) N0 A) (1000 + g) = some (mk (dcC C N1 g (fun _ => 0) (fo (drS (fun _ => 0)) 0 9 (fun _ => 0, was N1 g)).1 (fo (drS (fun _ => 0)) 0 9 (fun _ => 0, was N1 g)).2 0) N0 A) := by
        unfold p_X0_dropSurplus
        simp (disch := omega) only [aok, up_s, true_and, false_and, and_true, and_false, if_true, if_false, ↓reduceIte, ↓Option.bind_some, Int.reduceEq, Int.reduceNe, Int.reduceLT, Int.reduceLE, gd_true, gd_false, bind_b, q10, eq_self, reduceCtorEq, not_true_eq_false, not_false_eq_true, ne_eq, cr_11000, cr_15000, cr_16000, cr_20000, cr_20001, cr_21000, cr_22000, cr_25000, cr_1000, cr_2000, cr_3000, cr_3003, cr_3006, cr_4000, cr_5000, cr_6000, cr_7000, cr_8000, cr_9000, cr_10000, cr_13500, cr_17000, cr_17100, cr_17103, cr_17106, cr_19000, cr_20100, cr_21100, cr_23000, cr_24000, cw_11000, cw_15000, cw_16000, cw_20000, cw_20001, cw_21000, cw_22000, cw_25000, cw_1000, cw_2000, cw_3000, cw_3003, cw_3006, cw_4000, cw_5000, cw_6000, cw_7000, cw_8000, cw_9000, cw_10000, cw_13500, cw_17000, cw_17100, cw_17103, cw_17106, cw_19000, cw_20100, cw_21100, cw_23000, cw_24000, lc_13500, lc_15000, lc_16000, lc_17000, lc_17100, lc_17103, lc_17106, lc_19000, lc_20000, lc_20001, lc_20100, lc_21000, lc_21100, lc_22000, lc_23000, lc_24000, lc_25000, gd_t, w_eq, o1, z, o0, dr]
      have sf : p_X0_setFairShares (mk (dcC C N1 g (fun _ => 0) (fun _ => 0) (was N1 g) 0) N0 A) (1000 + g) 0 = some (mk (dcC C N1 g (fun _ => 0) (fun _ => 0) (was N1 g) 0) N0 A) := by
        unfold p_X0_setFairShares
        simp only [aok, up_s, true_and, false_and, and_true, and_false, if_true, if_false, ↓reduceIte, ↓Option.bind_some, Int.reduceEq, Int.reduceNe, Int.reduceLT, Int.reduceLE, gd_true, gd_false, bind_b, q10, eq_self, reduceCtorEq, not_true_eq_false, not_false_eq_true, ne_eq, cr_11000, cr_15000, cr_16000, cr_20000, cr_20001, cr_21000, cr_22000, cr_25000, cr_1000, cr_2000, cr_3000, cr_3003, cr_3006, cr_4000, cr_5000, cr_6000, cr_7000, cr_8000, cr_9000, cr_10000, cr_13500, cr_17000, cr_17100, cr_17103, cr_17106, cr_19000, cr_20100, cr_21100, cr_23000, cr_24000, cw_11000, cw_15000, cw_16000, cw_20000, cw_20001, cw_21000, cw_22000, cw_25000, cw_1000, cw_2000, cw_3000, cw_3003, cw_3006, cw_4000, cw_5000, cw_6000, cw_7000, cw_8000, cw_9000, cw_10000, cw_13500, cw_17000, cw_17100, cw_17103, cw_17106, cw_19000, cw_20100, cw_21100, cw_23000, cw_24000, lc_13500, lc_15000, lc_16000, lc_17000, lc_17100, lc_17103, lc_17106, lc_19000, lc_20000, lc_20001, lc_20100, lc_21000, lc_21100, lc_22000, lc_23000, lc_24000, lc_25000, gd_t, w_eq, Int.lt_irrefl]
      unfold p_X0_dealTargets
      simp (disch := omega) only [aok, up_s, true_and, false_and, and_true, and_false, if_true, if_false, ↓reduceIte, ↓Option.bind_some, Int.reduceEq, Int.reduceNe, Int.reduceLT, Int.reduceLE, gd_true, gd_false, bind_b, q10, eq_self, reduceCtorEq, not_true_eq_false, not_false_eq_true, ne_eq, cr_11000, cr_15000, cr_16000, cr_20000, cr_20001, cr_21000, cr_22000, cr_25000, cr_1000, cr_2000, cr_3000, cr_3003, cr_3006, cr_4000, cr_5000, cr_6000, cr_7000, cr_8000, cr_9000, cr_10000, cr_13500, cr_17000, cr_17100, cr_17103, cr_17106, cr_19000, cr_20100, cr_21100, cr_23000, cr_24000, cw_11000, cw_15000, cw_16000, cw_20000, cw_20001, cw_21000, cw_22000, cw_25000, cw_1000, cw_2000, cw_3000, cw_3003, cw_3006, cw_4000, cw_5000, cw_6000, cw_7000, cw_8000, cw_9000, cw_10000, cw_13500, cw_17000, cw_17100, cw_17103, cw_17106, cw_19000, cw_20100, cw_21100, cw_23000, cw_24000, lc_13500, lc_15000, lc_16000, lc_17000, lc_17100, lc_17103, lc_17106, lc_19000, lc_20000, lc_20001, lc_20100, lc_21000, lc_21100, lc_22000, lc_23000, lc_24000, lc_25000, gd_t, w_eq, w7, mcn', sf, ds, o2, fl]
    have md : ∀ (C' : Cd) (A' : Ad), p_X11_gDeals (mk C' N1 A') 12000 g = some (mk C' (dlM N1 g) A') := fun C' A' => by
      unfold p_X11_gDeals
      simp (disch := omega) only [aok, up_s, true_and, false_and, and_true, and_false, if_true, if_false, ↓reduceIte, ↓Option.bind_some, Int.reduceEq, Int.reduceNe, Int.reduceLT, Int.reduceLE, gd_true, gd_false, bind_b, q10, eq_self, reduceCtorEq, not_true_eq_false, not_false_eq_true, ne_eq, pt_0, pt_1, pt_2, pt_3, pt_4, pt_5, pt_6, pt_7, pt_8, pt_9, pt_10, pt_11, pt_12, pt_13, pt_14, pt_15, pt_16, pt_17, pt_18, pt_19, pt_20, pt_21, pt_22, pt_23, pt_24, pt_25, pt_26, pt_27, pt_28, pt_29, pt_30, pt_31, pt_32, pt_33, pt_34, pt_35, pt_36, pt_37, pt_38, pt_39, pt_40, pt_41, pt_42, pt_43, pt_44, pt_45, pt_46, pt_47, pt_48, pt_49, pt_50, pt_51, pt_52, pt_53, pt_54, pt_55, pt_56, pt_57, pt_58, pt_59, pt_60, pt_61, pt_62, pt_63, pt_64, pt_65, pt_66, pt_67, pa_13005, pw_13005, pa_13006, pw_13006, pa_13007, pw_13007, pa_14008, pw_14008, pa_13009, pw_13009, pa_13010, pw_13010, pa_13012, pw_13012, pa_13013, pw_13013, pa_13014, pw_13014, pa_13015, pw_13015, pa_13016, pw_13016, pa_13017, pw_13017, pa_13018, pw_13018, pa_13020, pw_13020, pa_13021, pw_13021, pa_13022, pw_13022, pa_13023, pw_13023, pa_13024, pw_13024, pa_13025, pw_13025, pa_13026, pw_13026, pa_13027, pw_13027, pa_13028, pw_13028, pa_13029, pw_13029, pa_13031, pw_13031, pa_13032, pw_13032, pa_13033, pw_13033, pa_14034, pw_14034, pa_13035, pw_13035, pa_13036, pw_13036, pa_13037, pw_13037, pa_13038, pw_13038, pa_13039, pw_13039, pa_13042, pw_13042, pa_13043, pw_13043, pa_13044, pw_13044, pa_13045, pw_13045, pa_13046, pw_13046, pa_13047, pw_13047, pa_13048, pw_13048, pa_13049, pw_13049, pa_13050, pw_13050, pa_13051, pw_13051, pa_13052, pw_13052, pa_13053, pw_13053, pa_13054, pw_13054, pa_13055, pw_13055, pa_13056, pw_13056, pa_13057, pw_13057, pa_13058, pw_13058, pa_13059, pw_13059, pa_13060, pw_13060, pa_13061, pw_13061, pa_13062, pw_13062, pa_13063, pw_13063, pa_13064, pw_13064, pa_13065, pw_13065, pa_13066, pw_13066, pa_13067, pw_13067, ps_0, ps_1, ps_2, ps_3, ps_4, ps_11, ps_19, ps_30, ps_40, ps_41, ln_13005, ln_13006, ln_13007, ln_14008, ln_13009, ln_13010, ln_13012, ln_13013, ln_13014, ln_13015, ln_13016, ln_13017, ln_13018, ln_13020, ln_13021, ln_13022, ln_13023, ln_13024, ln_13025, ln_13026, ln_13027, ln_13028, ln_13029, ln_13031, ln_13032, ln_13033, ln_14034, ln_13035, ln_13036, ln_13037, ln_13038, ln_13039, ln_13042, ln_13043, ln_13044, ln_13045, ln_13046, ln_13047, ln_13048, ln_13049, ln_13050, ln_13051, ln_13052, ln_13053, ln_13054, ln_13055, ln_13056, ln_13057, ln_13058, ln_13059, ln_13060, ln_13061, ln_13062, ln_13063, ln_13064, ln_13065, ln_13066, ln_13067, gd_t, w_eq, h1, h2, K0]
      rfl
    have kk : ∀ b x z, ¬ dCell g b x z → dcC C N1 g (fun _ => 0) (fo (drS (fun _ => 0)) 0 9 (fun _ => 0, was N1 g)).1 (fo (drS (fun _ => 0)) 0 9 (fun _ => 0, was N1 g)).2 0 b x z = C b x z := fun b x z q => dc_kk q
    refine ⟨_, _, cd, md, ?_, kk, km, fun b q1 q2 q3 => dlM_ar q1 q2 q3⟩
    refine GA.dealt a kk km (fun b q1 q2 q3 => dlM_ar q1 q2 q3) ?_ (fun p p2 r => ?_) (fun p p1 p2 => Or.inl ?_) (fun i j i1 i2 j1 j2 z1 z2 => absurd z1 (n0 i i1 i2)) (fun z => absurd z (by omega))
    · rw [dc_m]
      unfold dlM
      rw [up_s, if_pos ⟨rfl, rfl⟩]
    · rw [dc_t p2 r, s0 p r.1 p2, dM p r.1 p2, w0 p r.1 p2]
    · rw [dM p p1 p2]
      exact w0 p p1 p2
  · have Kp : 0 < mcn N1 g := by omega
    have ks := dlS_mg (N1 := N1) g1
    have sI : dlS N1 g 13047 = N1 13047 := dlS_ar (by decide) (by decide) (by decide)
    have hr := fun p => ks.gr g p
    have h := a.dg ks sI
    have jm := jn.mg km
    have npM : GNp (dlM N1 g) g := fun p p1 p2 => by
      have x := a.2.2.2.2.2.2.2.2.1 p p1 p2
      rw [dM p p1 p2, mI, dlM_ar (b := 13055) (by decide) (by decide) (by decide), dlM_ar (b := 13057) (by decide) (by decide) (by decide), dlM_ar (b := 13058) (by decide) (by decide) (by decide)]
      simp only [km.gr]
      refine ⟨⟨x.1, ?_⟩, x.2⟩
      by_cases z : was N1 g p = -1
      · exact Or.inl z
      · have y := wr' p p1 p2 z
        have tb := (tk p p1 p2).resolve_left z
        exact Or.inr ⟨tb.1, tb.2, y.2, y.1⟩
    have eI : shI (tgN (dlM N1 g) g) g = shI N1 g := by
      funext j
      show dlM N1 g 13047 (12 * g + j) = N1 13047 (12 * g + j)
      rw [mI]
    have eI3 : shI (dlS N1 g) g = shI N1 g := by
      funext j
      show dlS N1 g 13047 (12 * g + j) = N1 13047 (12 * g + j)
      rw [sI]
    have h3 : ∀ C' A', p_X11_gCountsTargets (mk C' (up (wsI N1 g 9) 13045 g 0) A') 12000 g = some (mk C' (tgN (dlM N1 g) g) A') := fun C' A' => m_tg (N := dlM N1 g) jm.g npM g1 g2 C' A'
    have h4 : ∀ C' A', p_X11_gShares (mk C' (tgN (dlM N1 g) g) A') 12000 g (mcn N1 g) = some (mk C' (dlS N1 g) A') := fun C' A' => m_gShares (N := tgN (dlM N1 g) g) jm.g Kp kb.2 g1 g2 (by rw [eI, mmc]) C' A'
    have sT : ∀ p, 0 ≤ p → p < 9 → dlS N1 g 13056 (9 * g + p) = was N1 g p := fun p p1 p2 => dM p p1 p2
    have sM : dlS N1 g 13045 g = 0 := by
      show dlM N1 g 13045 g = 0
      unfold dlM
      rw [up_s, if_pos ⟨rfl, rfl⟩]
    have sW : ∀ p, 0 ≤ p → p < 9 → dlS N1 g 13067 p = was N1 g p := fun p p1 p2 => by
      show dlM N1 g 13067 p = _
      unfold dlM
      rw [up_s, if_neg (by omega), ws_w p1, if_pos p2]
    have eS : dlS N1 g = dqN (dlS N1 g) g (dlS N1 g 13065) (was N1 g) 0 := by
      have e := @dq_self (dlS N1 g) g
      rw [sM] at e
      rw [dq_cong (c' := dlS N1 g 13065) (t' := was N1 g) (fun _ _ _ => rfl) (fun p p1 p2 => sT p p1 p2)] at e
      exact e.symm
    have h5 : ∀ C' A', lp (b_X11_gDeals_109 12000) 1000 (0, mk C' (dlS N1 g) A') = some (mk C' (dqN (dlS N1 g) g (fun _ => 0) (was N1 g) 0) A') := fun C' A' => by
      have := m_zero (N := dlS N1 g) (g := g) (m := 0) (c := dlS N1 g 13065) (t := was N1 g) C' A'
      rw [← eS] at this
      exact this
    have ct : ∀ i, 0 ≤ i → i < 12 → shT (tgN (dlM N1 g) g) i = tct (dlS N1 g) g (was N1 g) i := fun i i1 i2 => by
      have e : shT (tgN (dlM N1 g) g) i = tcn (dlM N1 g) g i := by
        show tgN (dlM N1 g) g 13065 i = _
        unfold tgN tgF
        rw [ra_s, if_pos rfl, if_pos ⟨i1, i2⟩]
      rw [e]
      unfold tcn tct
      refine su_congr fun p p1 p2 => ?_
      rw [dM p p1 (by omega)]
      simp only [km.gr, hr]
    have en : nsh (dlS N1 g) g = nsh (tgN (dlM N1 g) g) g := rfl
    have hFs : ∀ j, 0 ≤ j → j < 12 → (dlS N1 g) 13066 j = fair (tct (dlS N1 g) g (was N1 g)) (shI (dlS N1 g) g) (nsh (dlS N1 g) g) j := fun j j1 j2 => by
      have e : (dlS N1 g) 13066 j = fair (shT (tgN (dlM N1 g) g)) (shI (tgN (dlM N1 g) g) g) (nsh (tgN (dlM N1 g) g) g) j := by
        rw [← shF_fair j1 j2]
        show shN (tgN (dlM N1 g) g) g 13066 j = _
        unfold shN
        rw [ra_s, if_pos rfl]
      rw [e, fair_T ct j1 j2, eI, eI3, en]
    have mm3 : mc (shI (dlS N1 g) g) = mcn N1 g := by rw [eI3, mmc]
    have hF : ∀ j, 0 ≤ j → j < 12 → 0 ≤ (dlS N1 g) 13066 j ∧ (dlS N1 g) 13066 j ≤ 9 := fun j j1 j2 => by
      rw [hFs j j1 j2]
      exact fair_b (by omega) nsh_b j1 j2
    have wr3 : ∀ p, 0 ≤ p → p < 9 → was N1 g p ≠ -1 → gR (dlS N1 g) g p ∧ (dlS N1 g) 13047 (12 * g + was N1 g p) = 1 := fun p p1 p2 z => by
      rw [sI]
      exact ⟨(hr p).mpr (wr' p p1 p2 z).1, (wr' p p1 p2 z).2⟩
    have cd := fun N0 A => c_deal (C := C) (N := dlS N1 g) (N0 := N0) (A := A) (K := mcn N1 g) (t := was N1 g) (F := dlS N1 g 13066) h g1 g2 Kp kb.2 mm3.symm (by
      unfold mcn
      rw [sI]) tk (fun p p2 r => hT p p2 ((hr p).mp r)) wr3 hFs hF (dlS N1 g 13067)
    have h6 := fun C' A' => m_drop (N := dlS N1 g) (g := g) (m := 0) (t0 := was N1 g) g1 g2 hF tk C' A'
    have dd := dri_at (F := dlS N1 g 13066) (t0 := was N1 g) (fun j j1 j2 => (hF j j1 j2).1) tk (n := 9) (by omega)
    have hf' := dri_fii (R := fun p => decide (gR (dlS N1 g) g p)) dd (fun p p1 p2 z => decide_eq_true (wr3 p p1 p2 z).1) tk
    have hs : su (dlS N1 g 13066) 0 12 = su (fun p => if decide (gR (dlS N1 g) g p) = true then 1 else 0) 0 9 := by
      have e1 : su (dlS N1 g 13066) 0 12 = su (fair (tct (dlS N1 g) g (was N1 g)) (shI (dlS N1 g) g) (nsh (dlS N1 g) g)) 0 12 := su_congr fun j j1 j2 => hFs j j1 (by omega)
      rw [e1, fair_sum (by omega)]
      unfold nsh
      exact su_congr fun p _ _ => by
        by_cases r : gR (dlS N1 g) g p
        · rw [if_pos r, if_pos (decide_eq_true r)]
        · rw [if_neg r, if_neg (fun q => r (of_decide_eq_true q))]
    have h7 := fun C' A' => m_fill (N := dlS N1 g) (g := g) (s := fo (drS (dlS N1 g 13066)) 0 9 (fun _ => 0, was N1 g)) (jn.mg ks) g1 g2 hF hf' hs C' A'
    have fm := fill_m (W := dlS N1 g 13067) (t0 := was N1 g) hf' hs (fun p p1 p2 => sW p p1 p2) tk (fun p p1 p2 z y => by
      rcases dd.2.2 p p1 p2 with q | q
      · exact absurd (q.symm.trans z) y
      · exact q.2.2) (fun p p1 p2 z => decide_eq_true (wr3 p p1 p2 z).1)
    have fn := fill_np (W := dlS N1 g 13067) (I := shI N1 g) hf' hs (fun j j1 j2 hj => by
      rw [hFs j j1 j2] at hj
      unfold fair at hj
      rw [eI3] at hj
      by_cases y : shI N1 g j = 1
      · exact y
      · rw [if_neg y] at hj
        omega) (fun p p1 p2 => by
      rcases dd.2.2 p p1 p2 with q | q
      · by_cases z : was N1 g p = -1
        · rw [q]; exact Or.inl z
        · rw [q]
          exact Or.inr ⟨decide_eq_true (wr3 p p1 p2 z).1, (wr' p p1 p2 z).2⟩
      · exact Or.inl q.1)
    have fd := FII.done (fii_at (W := dlS N1 g 13067) hf' hs (n := 9) (by omega)).1 hs
    have f2 := (fii_at (W := dlS N1 g 13067) hf' hs (n := 9) (by omega)).1.2.1
    have f3 := (fii_at (W := dlS N1 g 13067) hf' hs (n := 9) (by omega)).1.2.2
    have md : ∀ (C' : Cd) (A' : Ad), p_X11_gDeals (mk C' N1 A') 12000 g = some (mk C' (dqN (dlS N1 g) g (fo (flS (fun p => decide (gR (dlS N1 g) g p)) (dlS N1 g 13066) (dlS N1 g 13067)) 0 9 (fo (drS (dlS N1 g 13066)) 0 9 (fun _ => 0, was N1 g), 0)).1.1 (fo (flS (fun p => decide (gR (dlS N1 g) g p)) (dlS N1 g 13066) (dlS N1 g 13067)) 0 9 (fo (drS (dlS N1 g 13066)) 0 9 (fun _ => 0, was N1 g), 0)).1.2 (fo (flS (fun p => decide (gR (dlS N1 g) g p)) (dlS N1 g 13066) (dlS N1 g 13067)) 0 9 (fo (drS (dlS N1 g 13066)) 0 9 (fun _ => 0, was N1 g), 0)).2) A') := fun C' A' => by
      unfold p_X11_gDeals
      simp (disch := omega) only [aok, up_s, true_and, false_and, and_true, and_false, if_true, if_false, ↓reduceIte, ↓Option.bind_some, Int.reduceEq, Int.reduceNe, Int.reduceLT, Int.reduceLE, gd_true, gd_false, bind_b, q10, eq_self, reduceCtorEq, not_true_eq_false, not_false_eq_true, ne_eq, pt_0, pt_1, pt_2, pt_3, pt_4, pt_5, pt_6, pt_7, pt_8, pt_9, pt_10, pt_11, pt_12, pt_13, pt_14, pt_15, pt_16, pt_17, pt_18, pt_19, pt_20, pt_21, pt_22, pt_23, pt_24, pt_25, pt_26, pt_27, pt_28, pt_29, pt_30, pt_31, pt_32, pt_33, pt_34, pt_35, pt_36, pt_37, pt_38, pt_39, pt_40, pt_41, pt_42, pt_43, pt_44, pt_45, pt_46, pt_47, pt_48, pt_49, pt_50, pt_51, pt_52, pt_53, pt_54, pt_55, pt_56, pt_57, pt_58, pt_59, pt_60, pt_61, pt_62, pt_63, pt_64, pt_65, pt_66, pt_67, pa_13005, pw_13005, pa_13006, pw_13006, pa_13007, pw_13007, pa_14008, pw_14008, pa_13009, pw_13009, pa_13010, pw_13010, pa_13012, pw_13012, pa_13013, pw_13013, pa_13014, pw_13014, pa_13015, pw_13015, pa_13016, pw_13016, pa_13017, pw_13017, pa_13018, pw_13018, pa_13020, pw_13020, pa_13021, pw_13021, pa_13022, pw_13022, pa_13023, pw_13023, pa_13024, pw_13024, pa_13025, pw_13025, pa_13026, pw_13026, pa_13027, pw_13027, pa_13028, pw_13028, pa_13029, pw_13029, pa_13031, pw_13031, pa_13032, pw_13032, pa_13033, pw_13033, pa_14034, pw_14034, pa_13035, pw_13035, pa_13036, pw_13036, pa_13037, pw_13037, pa_13038, pw_13038, pa_13039, pw_13039, pa_13042, pw_13042, pa_13043, pw_13043, pa_13044, pw_13044, pa_13045, pw_13045, pa_13046, pw_13046, pa_13047, pw_13047, pa_13048, pw_13048, pa_13049, pw_13049, pa_13050, pw_13050, pa_13051, pw_13051, pa_13052, pw_13052, pa_13053, pw_13053, pa_13054, pw_13054, pa_13055, pw_13055, pa_13056, pw_13056, pa_13057, pw_13057, pa_13058, pw_13058, pa_13059, pw_13059, pa_13060, pw_13060, pa_13061, pw_13061, pa_13062, pw_13062, pa_13063, pw_13063, pa_13064, pw_13064, pa_13065, pw_13065, pa_13066, pw_13066, pa_13067, pw_13067, ps_0, ps_1, ps_2, ps_3, ps_4, ps_11, ps_19, ps_30, ps_40, ps_41, ln_13005, ln_13006, ln_13007, ln_14008, ln_13009, ln_13010, ln_13012, ln_13013, ln_13014, ln_13015, ln_13016, ln_13017, ln_13018, ln_13020, ln_13021, ln_13022, ln_13023, ln_13024, ln_13025, ln_13026, ln_13027, ln_13028, ln_13029, ln_13031, ln_13032, ln_13033, ln_14034, ln_13035, ln_13036, ln_13037, ln_13038, ln_13039, ln_13042, ln_13043, ln_13044, ln_13045, ln_13046, ln_13047, ln_13048, ln_13049, ln_13050, ln_13051, ln_13052, ln_13053, ln_13054, ln_13055, ln_13056, ln_13057, ln_13058, ln_13059, ln_13060, ln_13061, ln_13062, ln_13063, ln_13064, ln_13065, ln_13066, ln_13067, gd_t, w_eq, h1, h2, K0, h3, h4, h5, h6, h7]
    have dke : drK (dlS N1 g 13066) (was N1 g) 9 = (fo (flS (fun p => decide (gR (dlS N1 g) g p)) (dlS N1 g 13066) (dlS N1 g 13067)) 0 9 (fo (drS (dlS N1 g 13066)) 0 9 (fun _ => 0, was N1 g), 0)).2 := fm.symm
    rw [dke] at cd
    generalize fo (flS (fun p => decide (gR (dlS N1 g) g p)) (dlS N1 g 13066) (dlS N1 g 13067)) 0 9 (fo (drS (dlS N1 g 13066)) 0 9 (fun _ => 0, was N1 g), 0) = x at cd md fn fd f2 f3
    have kn : MG g N1 (dqN (dlS N1 g) g x.1.1 x.1.2 x.2) := ks.tr MG.dq
    have ka : ∀ b, b ≠ 13056 → b ≠ 13045 → (b < 13065 ∨ 13067 < b) → dqN (dlS N1 g) g x.1.1 x.1.2 x.2 b = N1 b := fun b q1 q2 q3 => by
      rw [dq_ar q1 (by omega) q2, dlS_ar q1 q2 q3]
    have kk : ∀ b y z, ¬ dCell g b y z → dcC C (dlS N1 g) g (dlS N1 g 13066) x.1.1 x.1.2 x.2 b y z = C b y z := fun b y z q => dc_kk q
    refine ⟨_, _, cd, md, ?_, kk, kn, ka⟩
    refine GA.dealt a kk kn ka ?_ (fun p p2 r => ?_) (fun p p1 p2 => ?_) (fun i j i1 i2 j1 j2 z1 z2 => ?_) (fun _ p p1 p2 r => by rw [dq_t p1 p2]; exact f3 p p1 (by omega) (decide_eq_true ((hr p).mpr r)))
    · rw [dc_m, dq_m]
    · rw [dc_t p2 ((hr p).mpr r), dq_t r.1 p2]
    · rw [dq_t p1 p2]
      rcases fn p p1 p2 with z | z
      · exact Or.inl z
      · rcases f2 p p1 p2 with y | y
        · exact Or.inl y
        · exact Or.inr ⟨y.1, y.2, z.2, (hr p).mp (of_decide_eq_true z.1)⟩
    · have tc : ∀ j, 0 ≤ j → j < 12 → tcn (dqN (dlS N1 g) g x.1.1 x.1.2 x.2) g j = fair (tct (dlS N1 g) g (was N1 g)) (shI N1 g) (nsh (dlS N1 g) g) j := fun j j1 j2 => by
        have e := fd j j1 j2
        rw [hFs j j1 j2, eI3] at e
        rw [← e]
        unfold tcn ctn
        refine su_congr fun p p1 p2 => ?_
        rw [dq_t p1 (by omega)]
        have r2 : gR (dqN (dlS N1 g) g x.1.1 x.1.2 x.2) g p ↔ decide (gR (dlS N1 g) g p) = true := by
          rw [decide_eq_true_iff]
          exact (kn.gr g p).trans (hr p).symm
        by_cases z : gR (dqN (dlS N1 g) g x.1.1 x.1.2 x.2) g p ∧ x.1.2 p = j
        · rw [if_pos z, if_pos ⟨r2.mp z.1, z.2⟩]
        · rw [if_neg z, if_neg (fun q => z ⟨r2.mpr q.1, q.2⟩)]
      rw [tc i i1 i2, tc j j1 j2]
      exact fair_f z1 z2
end DEAL2
