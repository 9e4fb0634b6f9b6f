/-! PURE PART, 99w: deal, the class's fair shares and the drop -/
section DCF
variable {C : Cd} {N N0 : Nd} {A : Ad} {g m : Int} {F c t : Int → Int}
theorem c_fair1 (h : DG C N g) (tk : tgOk t) (g1 : 0 ≤ g) (g2 : g < 3) : lp (b_X0_setFairShares_16 12 (19000 + g) (1000 + g)) 1000 (0, mk (dcC C N g F c t m) N0 A) = some (mk (dcC C N g F (tct N g t) t m) N0 A) := by
  refine lp_seq (fun k : Nat => ((k : Int), mk (dcC C N g F (fun j => if j < (k : Int) then tct N g t j else c j) t m) N0 A)) 12 (fun k hk => ?_) ?_ (by omega) ?_
  · have lt : (k : Int) < 12 := by omega
    have k0 : 0 ≤ (k : Int) := by omega
    have ic : ((k + 1 : Nat) : Int) = (k : Int) + 1 := by omega
    have hd := h.dc (F := F) (c := (fun j => if j < (k : Int) then tct N g t j else c j)) (t := t) (m := m)
    have sh := hd.2.2.1 k k0 lt
    have tc := d_targetCount (N0 := N0) (A := A) (F := F) (c := (fun j => if j < (k : Int) then tct N g t j else c j)) (m := m) h tk g1 g2 k0 lt
    rw [ic]
    unfold b_X0_setFairShares_16
    by_cases e : N 13047 (12 * g + k) = 1
    · rw [if_pos e] at sh
      have nz : ¬ 4000 + (12 * g + (k : Int)) = 0 := by omega
      have ee : fu (fun j => if j < (k : Int) then tct N g t j else c j) k (tct N g t k) = fun j => if j < (k : Int) + 1 then tct N g t j else c j := by
        funext j
        unfold fu
        by_cases z : j = (k : Int)
        · rw [if_pos z, if_pos (show j < (k : Int) + 1 by omega), z]
        · rw [if_neg z]
          by_cases y : j < (k : Int)
          · exact (if_pos y).trans (if_pos (show j < (k : Int) + 1 by omega)).symm
          · exact (if_neg y).trans (if_neg (show ¬ j < (k : Int) + 1 by omega)).symm
      simp (disch := omega) only [aok, up_s, true_and, false_and, and_true, and_false, if_true, if_false, ↓reduceIte, ↓Option.bind_some, Int.reduceEq, Int.reduceNe, Int.reduceLT, Int.reduceLE, gd_true, gd_false, bind_b, q10, eq_self, reduceCtorEq, not_true_eq_false, not_false_eq_true, ne_eq, cr_11000, cr_15000, cr_16000, cr_20000, cr_20001, cr_21000, cr_22000, cr_25000, cr_1000, cr_2000, cr_3000, cr_3003, cr_3006, cr_4000, cr_5000, cr_6000, cr_7000, cr_8000, cr_9000, cr_10000, cr_13500, cr_17000, cr_17100, cr_17103, cr_17106, cr_19000, cr_20100, cr_21100, cr_23000, cr_24000, cw_11000, cw_15000, cw_16000, cw_20000, cw_20001, cw_21000, cw_22000, cw_25000, cw_1000, cw_2000, cw_3000, cw_3003, cw_3006, cw_4000, cw_5000, cw_6000, cw_7000, cw_8000, cw_9000, cw_10000, cw_13500, cw_17000, cw_17100, cw_17103, cw_17106, cw_19000, cw_20100, cw_21100, cw_23000, cw_24000, lc_13500, lc_15000, lc_16000, lc_17000, lc_17100, lc_17103, lc_17106, lc_19000, lc_20000, lc_20001, lc_20100, lc_21000, lc_21100, lc_22000, lc_23000, lc_24000, lc_25000, gd_t, w_eq, lt, sh, nz, tc]
      rw [dc_uc k0 lt e, ee]
    · rw [if_neg e] at sh
      have ee : dcC C N g F (fun j => if j < (k : Int) then tct N g t j else c j) t m = dcC C N g F (fun j => if j < (k : Int) + 1 then tct N g t j else c j) t m := dc_cong (fun _ _ _ _ => rfl) (fun j j1 j2 j3 => by
        have ne : j ≠ (k : Int) := fun q => e (by rw [← q]; exact j3)
        by_cases y : j < (k : Int)
        · exact (if_pos y).trans (if_pos (show j < (k : Int) + 1 by omega)).symm
        · exact (if_neg y).trans (if_neg (show ¬ j < (k : Int) + 1 by omega)).symm) (fun _ _ _ _ => rfl)
      simp (disch := omega) only [aok, up_s, true_and, false_and, and_true, and_false, if_true, if_false, ↓reduceIte, ↓Option.bind_some, Int.reduceEq, Int.reduceNe, Int.reduceLT, Int.reduceLE, gd_true, gd_false, bind_b, q10, eq_self, reduceCtorEq, not_true_eq_false, not_false_eq_true, ne_eq, cr_11000, cr_15000, cr_16000, cr_20000, cr_20001, cr_21000, cr_22000, cr_25000, cr_1000, cr_2000, cr_3000, cr_3003, cr_3006, cr_4000, cr_5000, cr_6000, cr_7000, cr_8000, cr_9000, cr_10000, cr_13500, cr_17000, cr_17100, cr_17103, cr_17106, cr_19000, cr_20100, cr_21100, cr_23000, cr_24000, cw_11000, cw_15000, cw_16000, cw_20000, cw_20001, cw_21000, cw_22000, cw_25000, cw_1000, cw_2000, cw_3000, cw_3003, cw_3006, cw_4000, cw_5000, cw_6000, cw_7000, cw_8000, cw_9000, cw_10000, cw_13500, cw_17000, cw_17100, cw_17103, cw_17106, cw_19000, cw_20100, cw_21100, cw_23000, cw_24000, lc_13500, lc_15000, lc_16000, lc_17000, lc_17100, lc_17103, lc_17106, lc_19000, lc_20000, lc_20001, lc_20100, lc_21000, lc_21100, lc_22000, lc_23000, lc_24000, lc_25000, gd_t, w_eq, lt, sh]
      rw [ee]
  · have nl : ¬ ((12 : Nat) : Int) < 12 := by omega
    have ee : dcC C N g F (fun j => if j < ((12 : Nat) : Int) then tct N g t j else c j) t m = dcC C N g F (tct N g t) t m := dc_cong (fun _ _ _ _ => rfl) (fun j j1 j2 _ => if_pos (by omega)) (fun _ _ _ _ => rfl)
    rw [ee]
    unfold b_X0_setFairShares_16
    simp (disch := omega) only [aok, up_s, true_and, false_and, and_true, and_false, if_true, if_false, ↓reduceIte, ↓Option.bind_some, Int.reduceEq, Int.reduceNe, Int.reduceLT, Int.reduceLE, gd_true, gd_false, bind_b, q10, eq_self, reduceCtorEq, not_true_eq_false, not_false_eq_true, ne_eq, cr_11000, cr_15000, cr_16000, cr_20000, cr_20001, cr_21000, cr_22000, cr_25000, cr_1000, cr_2000, cr_3000, cr_3003, cr_3006, cr_4000, cr_5000, cr_6000, cr_7000, cr_8000, cr_9000, cr_10000, cr_13500, cr_17000, cr_17100, cr_17103, cr_17106, cr_19000, cr_20100, cr_21100, cr_23000, cr_24000, cw_11000, cw_15000, cw_16000, cw_20000, cw_20001, cw_21000, cw_22000, cw_25000, cw_1000, cw_2000, cw_3000, cw_3003, cw_3006, cw_4000, cw_5000, cw_6000, cw_7000, cw_8000, cw_9000, cw_10000, cw_13500, cw_17000, cw_17100, cw_17103, cw_17106, cw_19000, cw_20100, cw_21100, cw_23000, cw_24000, lc_13500, lc_15000, lc_16000, lc_17000, lc_17100, lc_17103, lc_17106, lc_19000, lc_20000, lc_20001, lc_20100, lc_21000, lc_21100, lc_22000, lc_23000, lc_24000, lc_25000, gd_t, w_eq, nl]
  · have ee : dcC C N g F (fun j => if j < ((0 : Nat) : Int) then tct N g t j else c j) t m = dcC C N g F c t m := dc_cong (fun _ _ _ _ => rfl) (fun j j1 j2 _ => if_neg (by omega)) (fun _ _ _ _ => rfl)
    show _ = (((0 : Nat) : Int), mk (dcC C N g F (fun j => if j < ((0 : Nat) : Int) then tct N g t j else c j) t m) N0 A)
    rw [ee]
    rfl
theorem c_fair2 {K : Int} {T : Int → Int} (h : DG C N g) (hK : 0 < K) (hK2 : K ≤ 12) (hKm : K = mc (shI N g)) (g1 : 0 ≤ g) (g2 : g < 3) : lp (b_X0_setFairShares_69 12 (19000 + g) K (1000 + g) (irm (nsh N g) K)) 1000 (0, mk (dcC C N g F T t m) N0 A) = some (mk (dcC C N g (fair T (shI N g) (nsh N g)) T t m) N0 A) := by
  have nb := @nsh_b N g
  have ei : idv (nsh N g) K = nsh N g / K := idv_nn nb.1 (by omega) hK (by omega)
  have em : irm (nsh N g) K = nsh N g % K := irm_nn nb.1 (by omega) hK (by omega)
  have db : 0 ≤ nsh N g / K ∧ nsh N g / K ≤ nsh N g := ⟨Int.ediv_nonneg nb.1 (by omega), Int.ediv_le_self K nb.1⟩
  have K0 : ¬ K = 0 := by omega
  refine lp_seq (fun k : Nat => ((k : Int), mk (dcC C N g (fun j => if j < (k : Int) then fair T (shI N g) (nsh N g) j else F j) T t m) N0 A)) 12 (fun k hk => ?_) ?_ (by omega) ?_
  · have lt : (k : Int) < 12 := by omega
    have k0 : 0 ≤ (k : Int) := by omega
    have ic : ((k + 1 : Nat) : Int) = (k : Int) + 1 := by omega
    have hd := h.dc (F := (fun j => if j < (k : Int) then fair T (shI N g) (nsh N g) j else F j)) (c := T) (t := t) (m := m)
    have sh := hd.2.2.1 k k0 lt
    have h8 := hd.1.2.2
    rw [ic]
    unfold b_X0_setFairShares_69
    by_cases e : N 13047 (12 * g + k) = 1
    · rw [if_pos e] at sh
      have rkk := d_rank (N0 := N0) (A := A) (F := (fun j => if j < (k : Int) then fair T (shI N g) (nsh N g) j else F j)) (t := t) (m := m) (T := T) h g1 g2 k0 lt e
      have nz : ¬ 4000 + (12 * g + (k : Int)) = 0 := by omega
      have ff : ∀ v, v = fair T (shI N g) (nsh N g) k → fu (fun j => if j < (k : Int) then fair T (shI N g) (nsh N g) j else F j) k v = fun j => if j < (k : Int) + 1 then fair T (shI N g) (nsh N g) j else F j := fun v hv => by
        funext j
        unfold fu
        by_cases z : j = (k : Int)
        · rw [if_pos z, if_pos (show j < (k : Int) + 1 by omega), z, hv]
        · rw [if_neg z]
          by_cases y : j < (k : Int)
          · exact (if_pos y).trans (if_pos (show j < (k : Int) + 1 by omega)).symm
          · exact (if_neg y).trans (if_neg (show ¬ j < (k : Int) + 1 by omega)).symm
      have e' : shI N g k = 1 := e
      by_cases q : rk T (shI N g) k < nsh N g % K
      · have fv : nsh N g / K + 1 = fair T (shI N g) (nsh N g) k := by
          unfold fair
          rw [if_pos e', ← hKm, if_pos q]
        simp (disch := omega) only [aok, up_s, true_and, false_and, and_true, and_false, if_true, if_false, ↓reduceIte, ↓Option.bind_some, Int.reduceEq, Int.reduceNe, Int.reduceLT, Int.reduceLE, gd_true, gd_false, bind_b, q10, eq_self, reduceCtorEq, not_true_eq_false, not_false_eq_true, ne_eq, cr_11000, cr_15000, cr_16000, cr_20000, cr_20001, cr_21000, cr_22000, cr_25000, cr_1000, cr_2000, cr_3000, cr_3003, cr_3006, cr_4000, cr_5000, cr_6000, cr_7000, cr_8000, cr_9000, cr_10000, cr_13500, cr_17000, cr_17100, cr_17103, cr_17106, cr_19000, cr_20100, cr_21100, cr_23000, cr_24000, cw_11000, cw_15000, cw_16000, cw_20000, cw_20001, cw_21000, cw_22000, cw_25000, cw_1000, cw_2000, cw_3000, cw_3003, cw_3006, cw_4000, cw_5000, cw_6000, cw_7000, cw_8000, cw_9000, cw_10000, cw_13500, cw_17000, cw_17100, cw_17103, cw_17106, cw_19000, cw_20100, cw_21100, cw_23000, cw_24000, lc_13500, lc_15000, lc_16000, lc_17000, lc_17100, lc_17103, lc_17106, lc_19000, lc_20000, lc_20001, lc_20100, lc_21000, lc_21100, lc_22000, lc_23000, lc_24000, lc_25000, gd_t, w_eq, lt, sh, nz, K0, rkk, em, q, h8, ei]
        rw [dc_uF k0 lt e, ff _ fv]
      · have fv : nsh N g / K + 0 = fair T (shI N g) (nsh N g) k := by
          unfold fair
          rw [if_pos e', ← hKm, if_neg q]
        simp (disch := omega) only [aok, up_s, true_and, false_and, and_true, and_false, if_true, if_false, ↓reduceIte, ↓Option.bind_some, Int.reduceEq, Int.reduceNe, Int.reduceLT, Int.reduceLE, gd_true, gd_false, bind_b, q10, eq_self, reduceCtorEq, not_true_eq_false, not_false_eq_true, ne_eq, cr_11000, cr_15000, cr_16000, cr_20000, cr_20001, cr_21000, cr_22000, cr_25000, cr_1000, cr_2000, cr_3000, cr_3003, cr_3006, cr_4000, cr_5000, cr_6000, cr_7000, cr_8000, cr_9000, cr_10000, cr_13500, cr_17000, cr_17100, cr_17103, cr_17106, cr_19000, cr_20100, cr_21100, cr_23000, cr_24000, cw_11000, cw_15000, cw_16000, cw_20000, cw_20001, cw_21000, cw_22000, cw_25000, cw_1000, cw_2000, cw_3000, cw_3003, cw_3006, cw_4000, cw_5000, cw_6000, cw_7000, cw_8000, cw_9000, cw_10000, cw_13500, cw_17000, cw_17100, cw_17103, cw_17106, cw_19000, cw_20100, cw_21100, cw_23000, cw_24000, lc_13500, lc_15000, lc_16000, lc_17000, lc_17100, lc_17103, lc_17106, lc_19000, lc_20000, lc_20001, lc_20100, lc_21000, lc_21100, lc_22000, lc_23000, lc_24000, lc_25000, gd_t, w_eq, lt, sh, nz, K0, rkk, em, q, h8, ei]
        rw [dc_uF k0 lt e, ff _ fv]
    · rw [if_neg e] at sh
      have ee : dcC C N g (fun j => if j < (k : Int) then fair T (shI N g) (nsh N g) j else F j) T t m = dcC C N g (fun j => if j < (k : Int) + 1 then fair T (shI N g) (nsh N g) j else F j) T t m := dc_cong (fun j j1 j2 j3 => by
        have ne : j ≠ (k : Int) := fun q => e (by rw [← q]; exact j3)
        by_cases y : j < (k : Int)
        · exact (if_pos y).trans (if_pos (show j < (k : Int) + 1 by omega)).symm
        · exact (if_neg y).trans (if_neg (show ¬ j < (k : Int) + 1 by omega)).symm) (fun _ _ _ _ => rfl) (fun _ _ _ _ => rfl)
      simp (disch := omega) only [aok, up_s, true_and, false_and, and_true, and_false, if_true, if_false, ↓reduceIte, ↓Option.bind_some, Int.reduceEq, Int.reduceNe, Int.reduceLT, Int.reduceLE, gd_true, gd_false, bind_b, q10, eq_self, reduceCtorEq, not_true_eq_false, not_false_eq_true, ne_eq, cr_11000, cr_15000, cr_16000, cr_20000, cr_20001, cr_21000, cr_22000, cr_25000, cr_1000, cr_2000, cr_3000, cr_3003, cr_3006, cr_4000, cr_5000, cr_6000, cr_7000, cr_8000, cr_9000, cr_10000, cr_13500, cr_17000, cr_17100, cr_17103, cr_17106, cr_19000, cr_20100, cr_21100, cr_23000, cr_24000, cw_11000, cw_15000, cw_16000, cw_20000, cw_20001, cw_21000, cw_22000, cw_25000, cw_1000, cw_2000, cw_3000, cw_3003, cw_3006, cw_4000, cw_5000, cw_6000, cw_7000, cw_8000, cw_9000, cw_10000, cw_13500, cw_17000, cw_17100, cw_17103, cw_17106, cw_19000, cw_20100, cw_21100, cw_23000, cw_24000, lc_13500, lc_15000, lc_16000, lc_17000, lc_17100, lc_17103, lc_17106, lc_19000, lc_20000, lc_20001, lc_20100, lc_21000, lc_21100, lc_22000, lc_23000, lc_24000, lc_25000, gd_t, w_eq, lt, sh]
      rw [ee]
  · have nl : ¬ ((12 : Nat) : Int) < 12 := by omega
    have ee : dcC C N g (fun j => if j < ((12 : Nat) : Int) then fair T (shI N g) (nsh N g) j else F j) T t m = dcC C N g (fair T (shI N g) (nsh N g)) T t m := dc_cong (fun j j1 j2 _ => if_pos (by omega)) (fun _ _ _ _ => rfl) (fun _ _ _ _ => rfl)
    rw [ee]
    unfold b_X0_setFairShares_69
    simp (disch := omega) only [aok, up_s, true_and, false_and, and_true, and_false, if_true, if_false, ↓reduceIte, ↓Option.bind_some, Int.reduceEq, Int.reduceNe, Int.reduceLT, Int.reduceLE, gd_true, gd_false, bind_b, q10, eq_self, reduceCtorEq, not_true_eq_false, not_false_eq_true, ne_eq, cr_11000, cr_15000, cr_16000, cr_20000, cr_20001, cr_21000, cr_22000, cr_25000, cr_1000, cr_2000, cr_3000, cr_3003, cr_3006, cr_4000, cr_5000, cr_6000, cr_7000, cr_8000, cr_9000, cr_10000, cr_13500, cr_17000, cr_17100, cr_17103, cr_17106, cr_19000, cr_20100, cr_21100, cr_23000, cr_24000, cw_11000, cw_15000, cw_16000, cw_20000, cw_20001, cw_21000, cw_22000, cw_25000, cw_1000, cw_2000, cw_3000, cw_3003, cw_3006, cw_4000, cw_5000, cw_6000, cw_7000, cw_8000, cw_9000, cw_10000, cw_13500, cw_17000, cw_17100, cw_17103, cw_17106, cw_19000, cw_20100, cw_21100, cw_23000, cw_24000, lc_13500, lc_15000, lc_16000, lc_17000, lc_17100, lc_17103, lc_17106, lc_19000, lc_20000, lc_20001, lc_20100, lc_21000, lc_21100, lc_22000, lc_23000, lc_24000, lc_25000, gd_t, w_eq, nl]
  · have ee : dcC C N g (fun j => if j < ((0 : Nat) : Int) then fair T (shI N g) (nsh N g) j else F j) T t m = dcC C N g F T t m := dc_cong (fun j j1 j2 _ => if_neg (by omega)) (fun _ _ _ _ => rfl) (fun _ _ _ _ => rfl)
    show _ = (((0 : Nat) : Int), mk (dcC C N g (fun j => if j < ((0 : Nat) : Int) then fair T (shI N g) (nsh N g) j else F j) T t m) N0 A)
    rw [ee]
    rfl
theorem c_setFair {K : Int} (h : DG C N g) (tk : tgOk t) (hK : 0 < K) (hK2 : K ≤ 12) (hKm : K = mc (shI N g)) (g1 : 0 ≤ g) (g2 : g < 3) : p_X0_setFairShares (mk (dcC C N g F c t m) N0 A) (1000 + g) K = some (mk (dcC C N g (fair (tct N g t) (shI N g) (nsh N g)) (tct N g t) t m) N0 A) := by
  have o := (h.dc (F := F) (c := c) (t := t) (m := m)).1.2.1
  have o2 := (h.dc (F := F) (c := tct N g t) (t := t) (m := m)).1.2
  have o21 := o2.1
  have o22 := o2.2
  have l1 := c_fair1 (N0 := N0) (A := A) (F := F) (c := c) (m := m) h tk g1 g2
  have l2 := c_fair2 (N0 := N0) (A := A) (F := F) (t := t) (m := m) (T := tct N g t) h hK hK2 hKm g1 g2
  have K0 : ¬ K = 0 := by omega
  unfold p_X0_setFairShares
  simp (disch := omega) only [aok, up_s, true_and, false_and, and_true, and_false, if_true, if_false, ↓reduceIte, ↓Option.bind_some, Int.reduceEq, Int.reduceNe, Int.reduceLT, Int.reduceLE, gd_true, gd_false, bind_b, q10, eq_self, reduceCtorEq, not_true_eq_false, not_false_eq_true, ne_eq, cr_11000, cr_15000, cr_16000, cr_20000, cr_20001, cr_21000, cr_22000, cr_25000, cr_1000, cr_2000, cr_3000, cr_3003, cr_3006, cr_4000, cr_5000, cr_6000, cr_7000, cr_8000, cr_9000, cr_10000, cr_13500, cr_17000, cr_17100, cr_17103, cr_17106, cr_19000, cr_20100, cr_21100, cr_23000, cr_24000, cw_11000, cw_15000, cw_16000, cw_20000, cw_20001, cw_21000, cw_22000, cw_25000, cw_1000, cw_2000, cw_3000, cw_3003, cw_3006, cw_4000, cw_5000, cw_6000, cw_7000, cw_8000, cw_9000, cw_10000, cw_13500, cw_17000, cw_17100, cw_17103, cw_17106, cw_19000, cw_20100, cw_21100, cw_23000, cw_24000, lc_13500, lc_15000, lc_16000, lc_17000, lc_17100, lc_17103, lc_17106, lc_19000, lc_20000, lc_20001, lc_20100, lc_21000, lc_21100, lc_22000, lc_23000, lc_24000, lc_25000, gd_t, w_eq, hK, o, l1, K0, o21, o22, l2]
theorem c_zero (h : DG C N g) (g1 : 0 ≤ g) (g2 : g < 3) : lp (b_X0_dropSurplus_10 12 (19000 + g)) 1000 (0, mk (dcC C N g F c t m) N0 A) = some (mk (dcC C N g F (fun _ => 0) t m) N0 A) := by
  refine lp_seq (fun k : Nat => ((k : Int), mk (dcC C N g F (fun j => if j < (k : Int) then 0 else c j) t m) N0 A)) 12 (fun k hk => ?_) ?_ (by omega) ?_
  · have lt : (k : Int) < 12 := by omega
    have k0 : 0 ≤ (k : Int) := by omega
    have ic : ((k + 1 : Nat) : Int) = (k : Int) + 1 := by omega
    have hd := h.dc (F := F) (c := (fun j => if j < (k : Int) then 0 else c j)) (t := t) (m := m)
    have sh := hd.2.2.1 k k0 lt
    rw [ic]
    unfold b_X0_dropSurplus_10
    by_cases e : N 13047 (12 * g + k) = 1
    · rw [if_pos e] at sh
      have nz : ¬ 4000 + (12 * g + (k : Int)) = 0 := by omega
      have ee : fu (fun j => if j < (k : Int) then 0 else c j) k 0 = fun j => if j < (k : Int) + 1 then 0 else c j := by
        funext j
        unfold fu
        by_cases z : j = (k : Int)
        · rw [if_pos z, if_pos (show j < (k : Int) + 1 by omega)]
        · rw [if_neg z]
          by_cases y : j < (k : Int)
          · exact (if_pos y).trans (if_pos (show j < (k : Int) + 1 by omega)).symm
          · exact (if_neg y).trans (if_neg (show ¬ j < (k : Int) + 1 by omega)).symm
      simp (disch := omega) only [aok, up_s, true_and, false_and, and_true, and_false, if_true, if_false, ↓reduceIte, ↓Option.bind_some, Int.reduceEq, Int.reduceNe, Int.reduceLT, Int.reduceLE, gd_true, gd_false, bind_b, q10, eq_self, reduceCtorEq, not_true_eq_false, not_false_eq_true, ne_eq, cr_11000, cr_15000, cr_16000, cr_20000, cr_20001, cr_21000, cr_22000, cr_25000, cr_1000, cr_2000, cr_3000, cr_3003, cr_3006, cr_4000, cr_5000, cr_6000, cr_7000, cr_8000, cr_9000, cr_10000, cr_13500, cr_17000, cr_17100, cr_17103, cr_17106, cr_19000, cr_20100, cr_21100, cr_23000, cr_24000, cw_11000, cw_15000, cw_16000, cw_20000, cw_20001, cw_21000, cw_22000, cw_25000, cw_1000, cw_2000, cw_3000, cw_3003, cw_3006, cw_4000, cw_5000, cw_6000, cw_7000, cw_8000, cw_9000, cw_10000, cw_13500, cw_17000, cw_17100, cw_17103, cw_17106, cw_19000, cw_20100, cw_21100, cw_23000, cw_24000, lc_13500, lc_15000, lc_16000, lc_17000, lc_17100, lc_17103, lc_17106, lc_19000, lc_20000, lc_20001, lc_20100, lc_21000, lc_21100, lc_22000, lc_23000, lc_24000, lc_25000, gd_t, w_eq, lt, sh, nz]
      rw [dc_uc k0 lt e, ee]
    · rw [if_neg e] at sh
      have ee : dcC C N g F (fun j => if j < (k : Int) then 0 else c j) t m = dcC C N g F (fun j => if j < (k : Int) + 1 then 0 else c j) t m := dc_cong (fun _ _ _ _ => rfl) (fun j j1 j2 j3 => by
        have ne : j ≠ (k : Int) := fun q => e (by rw [← q]; exact j3)
        by_cases y : j < (k : Int)
        · exact (if_pos y).trans (if_pos (show j < (k : Int) + 1 by omega)).symm
        · exact (if_neg y).trans (if_neg (show ¬ j < (k : Int) + 1 by omega)).symm) (fun _ _ _ _ => rfl)
      simp (disch := omega) only [aok, up_s, true_and, false_and, and_true, and_false, if_true, if_false, ↓reduceIte, ↓Option.bind_some, Int.reduceEq, Int.reduceNe, Int.reduceLT, Int.reduceLE, gd_true, gd_false, bind_b, q10, eq_self, reduceCtorEq, not_true_eq_false, not_false_eq_true, ne_eq, cr_11000, cr_15000, cr_16000, cr_20000, cr_20001, cr_21000, cr_22000, cr_25000, cr_1000, cr_2000, cr_3000, cr_3003, cr_3006, cr_4000, cr_5000, cr_6000, cr_7000, cr_8000, cr_9000, cr_10000, cr_13500, cr_17000, cr_17100, cr_17103, cr_17106, cr_19000, cr_20100, cr_21100, cr_23000, cr_24000, cw_11000, cw_15000, cw_16000, cw_20000, cw_20001, cw_21000, cw_22000, cw_25000, cw_1000, cw_2000, cw_3000, cw_3003, cw_3006, cw_4000, cw_5000, cw_6000, cw_7000, cw_8000, cw_9000, cw_10000, cw_13500, cw_17000, cw_17100, cw_17103, cw_17106, cw_19000, cw_20100, cw_21100, cw_23000, cw_24000, lc_13500, lc_15000, lc_16000, lc_17000, lc_17100, lc_17103, lc_17106, lc_19000, lc_20000, lc_20001, lc_20100, lc_21000, lc_21100, lc_22000, lc_23000, lc_24000, lc_25000, gd_t, w_eq, lt, sh]
      rw [ee]
  · have nl : ¬ ((12 : Nat) : Int) < 12 := by omega
    have ee : dcC C N g F (fun j => if j < ((12 : Nat) : Int) then 0 else c j) t m = dcC C N g F (fun _ => 0) t m := dc_cong (fun _ _ _ _ => rfl) (fun j j1 j2 _ => if_pos (by omega)) (fun _ _ _ _ => rfl)
    rw [ee]
    unfold b_X0_dropSurplus_10
    simp (disch := omega) only [aok, up_s, true_and, false_and, and_true, and_false, if_true, if_false, ↓reduceIte, ↓Option.bind_some, Int.reduceEq, Int.reduceNe, Int.reduceLT, Int.reduceLE, gd_true, gd_false, bind_b, q10, eq_self, reduceCtorEq, not_true_eq_false, not_false_eq_true, ne_eq, cr_11000, cr_15000, cr_16000, cr_20000, cr_20001, cr_21000, cr_22000, cr_25000, cr_1000, cr_2000, cr_3000, cr_3003, cr_3006, cr_4000, cr_5000, cr_6000, cr_7000, cr_8000, cr_9000, cr_10000, cr_13500, cr_17000, cr_17100, cr_17103, cr_17106, cr_19000, cr_20100, cr_21100, cr_23000, cr_24000, cw_11000, cw_15000, cw_16000, cw_20000, cw_20001, cw_21000, cw_22000, cw_25000, cw_1000, cw_2000, cw_3000, cw_3003, cw_3006, cw_4000, cw_5000, cw_6000, cw_7000, cw_8000, cw_9000, cw_10000, cw_13500, cw_17000, cw_17100, cw_17103, cw_17106, cw_19000, cw_20100, cw_21100, cw_23000, cw_24000, lc_13500, lc_15000, lc_16000, lc_17000, lc_17100, lc_17103, lc_17106, lc_19000, lc_20000, lc_20001, lc_20100, lc_21000, lc_21100, lc_22000, lc_23000, lc_24000, lc_25000, gd_t, w_eq, nl]
  · have ee : dcC C N g F (fun j => if j < ((0 : Nat) : Int) then 0 else c j) t m = dcC C N g F c t m := dc_cong (fun _ _ _ _ => rfl) (fun j j1 j2 _ => if_neg (by omega)) (fun _ _ _ _ => rfl)
    show _ = (((0 : Nat) : Int), mk (dcC C N g F (fun j => if j < ((0 : Nat) : Int) then 0 else c j) t m) N0 A)
    rw [ee]
    rfl
/-- what the drop has let go so far -/
def drK (F t0 : Int → Int) (n : Nat) : Int := su (fun p => if t0 p ≠ -1 ∧ (fo (drS F) 0 9 (fun _ => 0, t0)).2 p = -1 then 1 else 0) 0 n
theorem dr_keep {F t0 : Int → Int} {p : Int} {n : Nat} (hp : p < n) : ∀ k : Nat, (fo (drS F) 0 (n + k) (fun _ => 0, t0)).2 p = (fo (drS F) 0 n (fun _ => 0, t0)).2 p
  | 0 => rfl
  | k + 1 => by
    rw [← dr_keep hp k, ← Nat.add_assoc, fo_S]
    generalize fo (drS F) 0 (n + k) (fun _ => 0, t0) = s
    unfold drS
    by_cases z : s.2 (0 + ((n + k : Nat) : Int)) = -1
    · rw [if_pos z]
    · rw [if_neg z]
      by_cases y : s.1 (s.2 (0 + ((n + k : Nat) : Int))) = F (s.2 (0 + ((n + k : Nat) : Int)))
      · rw [if_pos y]
        show fu s.2 (0 + ((n + k : Nat) : Int)) (-1) p = s.2 p
        exact if_neg (by omega)
      · rw [if_neg y]
theorem c_drop {t0 : Int → Int} (h : DG C N g) (g1 : 0 ≤ g) (g2 : g < 3) (hF : ∀ j, 0 ≤ j → j < 12 → 0 ≤ F j ∧ F j ≤ 9) (ht : tgOk t0) (hm : ∀ p, 0 ≤ p → p < 9 → t0 p ≠ -1 → gR N g p ∧ N 13047 (12 * g + t0 p) = 1) : lp (b_X0_dropSurplus_47 9 (24000 + g) (1000 + g)) 1000 (0, mk (dcC C N g F (fun _ => 0) t0 0) N0 A) = some (mk (dcC C N g F (fo (drS F) 0 9 (fun _ => 0, t0)).1 (fo (drS F) 0 9 (fun _ => 0, t0)).2 (drK F t0 9)) N0 A) := by
  refine lp_seq (fun k : Nat => ((k : Int), mk (dcC C N g F (fo (drS F) 0 k (fun _ => 0, t0)).1 (fo (drS F) 0 k (fun _ => 0, t0)).2 (drK F t0 k)) N0 A)) 9 (fun k hk => ?_) ?_ (by omega) rfl
  · have lt : (k : Int) < 9 := by omega
    have k0 : 0 ≤ (k : Int) := by omega
    have ic : ((k + 1 : Nat) : Int) = (k : Int) + 1 := by omega
    obtain ⟨h1, h2, -⟩ := dri_at (F := F) (t0 := t0) (fun j j1 j2 => (hF j j1 j2).1) ht (n := k) (by omega)
    have e0 := h2 k (Int.le_refl _)
    have tk := ht k k0 lt
    have kp := dr_keep (F := F) (t0 := t0) (p := (k : Int)) (n := k + 1) (by omega) (9 - (k + 1))
    rw [show k + 1 + (9 - (k + 1)) = 9 by omega, fo_S (g := drS F) (n := k), show (0 : Int) + (k : Int) = k by omega] at kp
    have dS : drK F t0 (k + 1) = drK F t0 k + if t0 k ≠ -1 ∧ (fo (drS F) 0 9 (fun _ => 0, t0)).2 k = -1 then 1 else 0 := by
      unfold drK
      rw [su_S, show (0 : Int) + (k : Int) = k by omega]
    have dB : 0 ≤ drK F t0 k ∧ drK F t0 k ≤ k := by
      have := @su_b (fun p => if t0 p ≠ -1 ∧ (fo (drS F) 0 9 (fun _ => 0, t0)).2 p = -1 then 1 else 0) 0 k 1 (fun _ _ _ => by split <;> omega)
      unfold drK
      omega
    rw [ic, fo_S (g := drS F) (n := k), show (0 : Int) + (k : Int) = k by omega, dS, kp]
    generalize drK F t0 k = mm at dB
    generalize fo (drS F) 0 k (fun _ => 0, t0) = s at *
    have hd := h.dc (F := F) (c := s.1) (t := s.2) (m := mm)
    have sh := hd.2.1 k k0 lt
    unfold drS
    rw [e0]
    unfold b_X0_dropSurplus_47
    by_cases z : t0 k = -1
    · rw [if_pos z, if_neg (show ¬ (t0 k ≠ -1 ∧ s.2 k = -1) from fun q => q.1 z), Int.add_zero]
      by_cases r : gR N g k
      · rw [if_pos r] at sh
        have nz : ¬ 9000 + (9 * g + (k : Int)) = 0 := by omega
        have e1 := dc_t (C := C) (F := F) (c := s.1) (t := s.2) (m := mm) lt r
        rw [e0, z] at e1
        have e1' : dcC C N g F s.1 s.2 mm 9000 (9 * g + (k : Int)) 2 = 0 := e1
        simp (disch := omega) only [aok, up_s, true_and, false_and, and_true, and_false, if_true, if_false, ↓reduceIte, ↓Option.bind_some, Int.reduceEq, Int.reduceNe, Int.reduceLT, Int.reduceLE, gd_true, gd_false, bind_b, q10, eq_self, reduceCtorEq, not_true_eq_false, not_false_eq_true, ne_eq, cr_11000, cr_15000, cr_16000, cr_20000, cr_20001, cr_21000, cr_22000, cr_25000, cr_1000, cr_2000, cr_3000, cr_3003, cr_3006, cr_4000, cr_5000, cr_6000, cr_7000, cr_8000, cr_9000, cr_10000, cr_13500, cr_17000, cr_17100, cr_17103, cr_17106, cr_19000, cr_20100, cr_21100, cr_23000, cr_24000, cw_11000, cw_15000, cw_16000, cw_20000, cw_20001, cw_21000, cw_22000, cw_25000, cw_1000, cw_2000, cw_3000, cw_3003, cw_3006, cw_4000, cw_5000, cw_6000, cw_7000, cw_8000, cw_9000, cw_10000, cw_13500, cw_17000, cw_17100, cw_17103, cw_17106, cw_19000, cw_20100, cw_21100, cw_23000, cw_24000, lc_13500, lc_15000, lc_16000, lc_17000, lc_17100, lc_17103, lc_17106, lc_19000, lc_20000, lc_20001, lc_20100, lc_21000, lc_21100, lc_22000, lc_23000, lc_24000, lc_25000, gd_t, w_eq, lt, sh, nz, e1']
      · rw [if_neg r] at sh
        simp (disch := omega) only [aok, up_s, true_and, false_and, and_true, and_false, if_true, if_false, ↓reduceIte, ↓Option.bind_some, Int.reduceEq, Int.reduceNe, Int.reduceLT, Int.reduceLE, gd_true, gd_false, bind_b, q10, eq_self, reduceCtorEq, not_true_eq_false, not_false_eq_true, ne_eq, cr_11000, cr_15000, cr_16000, cr_20000, cr_20001, cr_21000, cr_22000, cr_25000, cr_1000, cr_2000, cr_3000, cr_3003, cr_3006, cr_4000, cr_5000, cr_6000, cr_7000, cr_8000, cr_9000, cr_10000, cr_13500, cr_17000, cr_17100, cr_17103, cr_17106, cr_19000, cr_20100, cr_21100, cr_23000, cr_24000, cw_11000, cw_15000, cw_16000, cw_20000, cw_20001, cw_21000, cw_22000, cw_25000, cw_1000, cw_2000, cw_3000, cw_3003, cw_3006, cw_4000, cw_5000, cw_6000, cw_7000, cw_8000, cw_9000, cw_10000, cw_13500, cw_17000, cw_17100, cw_17103, cw_17106, cw_19000, cw_20100, cw_21100, cw_23000, cw_24000, lc_13500, lc_15000, lc_16000, lc_17000, lc_17100, lc_17103, lc_17106, lc_19000, lc_20000, lc_20001, lc_20100, lc_21000, lc_21100, lc_22000, lc_23000, lc_24000, lc_25000, gd_t, w_eq, lt, sh]
    · have tb := tk.resolve_left z
      obtain ⟨r, hi⟩ := hm k k0 lt z
      have hb := h1 (t0 k) tb.1 tb.2
      have hf := hF (t0 k) tb.1 tb.2
      have cb := @ctn_b (fun _ => true) s.2 k (t0 k) k0
      have nz : ¬ 9000 + (9 * g + (k : Int)) = 0 := by omega
      have e1 := dc_t (C := C) (F := F) (c := s.1) (t := s.2) (m := mm) lt r
      have oe : obj g (t0 k) = 4000 + (12 * g + t0 k) := if_neg z
      rw [e0, oe] at e1
      have nz2 : ¬ 4000 + (12 * g + t0 k) = 0 := by omega
      have c5 := dc_c (C := C) (F := F) (c := s.1) (t := s.2) (m := mm) tb.1 tb.2 hi
      have c6 := dc_F (C := C) (F := F) (c := s.1) (t := s.2) (m := mm) tb.1 tb.2 hi
      rw [if_pos r] at sh
      rw [if_neg z]
      by_cases y : s.1 (t0 k) = F (t0 k)
      · have nl : ¬ s.1 (t0 k) < F (t0 k) := by omega
        have sf : (if s.1 (t0 k) = F (t0 k) then ((s.1, fu s.2 k (-1)) : (Int → Int) × (Int → Int)) else (fu s.1 (t0 k) (s.1 (t0 k) + 1), s.2)) = (s.1, fu s.2 k (-1)) := if_pos y
        rw [sf]
        have m1 : (if t0 k ≠ -1 ∧ ((s.1, fu s.2 k (-1)) : (Int → Int) × (Int → Int)).2 k = -1 then (1 : Int) else 0) = 1 := if_pos ⟨z, if_pos rfl⟩
        rw [m1]
        have o0 : (0 : Int) = obj g (-1) := rfl
        have w1 : uq (dcC C N g F s.1 s.2 mm) 9000 (9 * g + (k : Int)) 2 0 = dcC C N g F s.1 (fu s.2 k (-1)) mm := by
          rw [show uq (dcC C N g F s.1 s.2 mm) 9000 (9 * g + (k : Int)) 2 0 = uq (dcC C N g F s.1 s.2 mm) 9000 (9 * g + (k : Int)) 2 (obj g (-1)) from rfl]
          exact dc_ut lt r
        have m7 : dcC C N g F s.1 (fu s.2 k (-1)) mm 1000 g 7 = mm := dc_m
        simp (disch := omega) only [aok, up_s, true_and, false_and, and_true, and_false, if_true, if_false, ↓reduceIte, ↓Option.bind_some, Int.reduceEq, Int.reduceNe, Int.reduceLT, Int.reduceLE, gd_true, gd_false, bind_b, q10, eq_self, reduceCtorEq, not_true_eq_false, not_false_eq_true, ne_eq, cr_11000, cr_15000, cr_16000, cr_20000, cr_20001, cr_21000, cr_22000, cr_25000, cr_1000, cr_2000, cr_3000, cr_3003, cr_3006, cr_4000, cr_5000, cr_6000, cr_7000, cr_8000, cr_9000, cr_10000, cr_13500, cr_17000, cr_17100, cr_17103, cr_17106, cr_19000, cr_20100, cr_21100, cr_23000, cr_24000, cw_11000, cw_15000, cw_16000, cw_20000, cw_20001, cw_21000, cw_22000, cw_25000, cw_1000, cw_2000, cw_3000, cw_3003, cw_3006, cw_4000, cw_5000, cw_6000, cw_7000, cw_8000, cw_9000, cw_10000, cw_13500, cw_17000, cw_17100, cw_17103, cw_17106, cw_19000, cw_20100, cw_21100, cw_23000, cw_24000, lc_13500, lc_15000, lc_16000, lc_17000, lc_17100, lc_17103, lc_17106, lc_19000, lc_20000, lc_20001, lc_20100, lc_21000, lc_21100, lc_22000, lc_23000, lc_24000, lc_25000, gd_t, w_eq, lt, sh, nz, e1, nz2, c5, c6, nl, w1, m7, dc_um]
      · have nl : s.1 (t0 k) < F (t0 k) := by omega
        have sf : (if s.1 (t0 k) = F (t0 k) then ((s.1, fu s.2 k (-1)) : (Int → Int) × (Int → Int)) else (fu s.1 (t0 k) (s.1 (t0 k) + 1), s.2)) = (fu s.1 (t0 k) (s.1 (t0 k) + 1), s.2) := if_neg y
        rw [sf]
        have m1 : (if t0 k ≠ -1 ∧ ((fu s.1 (t0 k) (s.1 (t0 k) + 1), s.2) : (Int → Int) × (Int → Int)).2 k = -1 then (1 : Int) else 0) = 0 := if_neg (fun q => z (e0.symm.trans q.2))
        rw [m1, Int.add_zero]
        simp (disch := omega) only [aok, up_s, true_and, false_and, and_true, and_false, if_true, if_false, ↓reduceIte, ↓Option.bind_some, Int.reduceEq, Int.reduceNe, Int.reduceLT, Int.reduceLE, gd_true, gd_false, bind_b, q10, eq_self, reduceCtorEq, not_true_eq_false, not_false_eq_true, ne_eq, cr_11000, cr_15000, cr_16000, cr_20000, cr_20001, cr_21000, cr_22000, cr_25000, cr_1000, cr_2000, cr_3000, cr_3003, cr_3006, cr_4000, cr_5000, cr_6000, cr_7000, cr_8000, cr_9000, cr_10000, cr_13500, cr_17000, cr_17100, cr_17103, cr_17106, cr_19000, cr_20100, cr_21100, cr_23000, cr_24000, cw_11000, cw_15000, cw_16000, cw_20000, cw_20001, cw_21000, cw_22000, cw_25000, cw_1000, cw_2000, cw_3000, cw_3003, cw_3006, cw_4000, cw_5000, cw_6000, cw_7000, cw_8000, cw_9000, cw_10000, cw_13500, cw_17000, cw_17100, cw_17103, cw_17106, cw_19000, cw_20100, cw_21100, cw_23000, cw_24000, lc_13500, lc_15000, lc_16000, lc_17000, lc_17100, lc_17103, lc_17106, lc_19000, lc_20000, lc_20001, lc_20100, lc_21000, lc_21100, lc_22000, lc_23000, lc_24000, lc_25000, gd_t, w_eq, lt, sh, nz, e1, nz2, c5, c6, nl, dc_uc tb.1 tb.2 hi]
  · have nl : ¬ ((9 : Nat) : Int) < 9 := by omega
    unfold b_X0_dropSurplus_47
    simp (disch := omega) only [aok, up_s, true_and, false_and, and_true, and_false, if_true, if_false, ↓reduceIte, ↓Option.bind_some, Int.reduceEq, Int.reduceNe, Int.reduceLT, Int.reduceLE, gd_true, gd_false, bind_b, q10, eq_self, reduceCtorEq, not_true_eq_false, not_false_eq_true, ne_eq, cr_11000, cr_15000, cr_16000, cr_20000, cr_20001, cr_21000, cr_22000, cr_25000, cr_1000, cr_2000, cr_3000, cr_3003, cr_3006, cr_4000, cr_5000, cr_6000, cr_7000, cr_8000, cr_9000, cr_10000, cr_13500, cr_17000, cr_17100, cr_17103, cr_17106, cr_19000, cr_20100, cr_21100, cr_23000, cr_24000, cw_11000, cw_15000, cw_16000, cw_20000, cw_20001, cw_21000, cw_22000, cw_25000, cw_1000, cw_2000, cw_3000, cw_3003, cw_3006, cw_4000, cw_5000, cw_6000, cw_7000, cw_8000, cw_9000, cw_10000, cw_13500, cw_17000, cw_17100, cw_17103, cw_17106, cw_19000, cw_20100, cw_21100, cw_23000, cw_24000, lc_13500, lc_15000, lc_16000, lc_17000, lc_17100, lc_17103, lc_17106, lc_19000, lc_20000, lc_20001, lc_20100, lc_21000, lc_21100, lc_22000, lc_23000, lc_24000, lc_25000, gd_t, w_eq, nl]
end DCF
