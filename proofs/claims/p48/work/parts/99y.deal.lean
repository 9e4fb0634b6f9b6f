/-! PURE PART, 99y: deal: what holds of a group before and behind it -/
def GAw (C : Cd) (N : Nd) (g : Int) : Prop := (C 1000 g 0 = 24000 + g ∧ C 1000 g 1 = 19000 + g ∧ C 1000 g 2 = 17000 + g ∧ C 1000 g 3 = 3000 + g ∧ C 1000 g 4 = 3003 + g ∧ C 1000 g 5 = N 13044 g ∧ C 1000 g 6 = N 13043 g ∧ C 1000 g 8 = nsh N g) ∧ (∀ p, 0 ≤ p → p < 9 → C 24000 g p = (if gR N g p then 9000 + (9 * g + p) else 0) ∧ (gR N g p → C 9000 (9 * g + p) 0 = 6000 + p ∧ C 9000 (9 * g + p) 1 = obj g (N 13055 (9 * g + p)) ∧ C 9000 (9 * g + p) 3 = N 13057 (9 * g + p) ∧ C 9000 (9 * g + p) 4 = N 13058 (9 * g + p))) ∧ GMe C N g ∧ GHa C N g ∧ GLe C N g ∧ GWa C N g ∧ GDe C N g ∧ GNm N g ∧ (∀ p, 0 ≤ p → p < 9 → (N 13055 (9 * g + p) = -1 ∨ (0 ≤ N 13055 (9 * g + p) ∧ N 13055 (9 * g + p) < 12 ∧ N 13047 (12 * g + N 13055 (9 * g + p)) = 1 ∧ gR N g p)) ∧ (0 ≤ N 13057 (9 * g + p) ∧ N 13057 (9 * g + p) ≤ 60) ∧ (0 ≤ N 13058 (9 * g + p) ∧ N 13058 (9 * g + p) ≤ 60)) ∧ (0 ≤ N 13042 g ∧ N 13042 g ≤ 7 ∧ ∀ t, 0 ≤ t → t < 3 → bt (N 13042 g) t = true → t < (N 12000 4)) ∧ (0 ≤ N 13044 g ∧ N 13044 g ≤ 12) ∧ N 13043 g = 2 * N 13044 g - mcn N g
/-- the class's cells that dealing writes -/
def dCell (g b x z : Int) : Prop := (b = 9000 ∧ z = 2 ∧ 9 * g ≤ x ∧ x < 9 * g + 9) ∨ (b = 4000 ∧ (z = 5 ∨ z = 6) ∧ 12 * g ≤ x ∧ x < 12 * g + 12) ∨ (b = 1000 ∧ x = g ∧ z = 7)
section DEAL
variable {C C2 : Cd} {N1 N2 : Nd} {g : Int}
theorem GA.dealt (a : GAw C N1 g) (kc : ∀ b x z, ¬ dCell g b x z → C2 b x z = C b x z) (kn : MG g N1 N2) (ka : ∀ b, b ≠ 13056 → b ≠ 13045 → (b < 13065 ∨ 13067 < b) → N2 b = N1 b) (h7 : C2 1000 g 7 = N2 13045 g) (ht : ∀ p, p < 9 → gR N1 g p → C2 9000 (9 * g + p) 2 = obj g (N2 13056 (9 * g + p))) (np : ∀ p, 0 ≤ p → p < 9 → N2 13056 (9 * g + p) = -1 ∨ (0 ≤ N2 13056 (9 * g + p) ∧ N2 13056 (9 * g + p) < 12 ∧ N1 13047 (12 * g + N2 13056 (9 * g + p)) = 1 ∧ gR N1 g p)) (hf' : ∀ i j, 0 ≤ i → i < 12 → 0 ≤ j → j < 12 → N1 13047 (12 * g + i) = 1 → N1 13047 (12 * g + j) = 1 → tcn N2 g i ≤ tcn N2 g j + 1) (hg : 0 < mcn N1 g → ∀ p, 0 ≤ p → p < 9 → gR N1 g p → N2 13056 (9 * g + p) ≠ -1) : GA C2 N2 g := by
  obtain ⟨⟨o0, o1, o2, o3, o4, o5, o6, o8⟩, sh, me, ha, le, wa, de, nm, no, nt, nh, ng⟩ := a
  have hr := fun p => kn.gr g p
  have hc := fun m => kn.can (m := m)
  have k1 : ∀ z, z ≠ 7 → C2 1000 g z = C 1000 g z := fun z hz => kc _ _ _ (by unfold dCell; omega)
  have kb : ∀ b, b ≠ 9000 → b ≠ 4000 → b ≠ 1000 → C2 b = C b := fun b h1 h2 h3 => by
    funext x z
    exact kc b x z (by unfold dCell; omega)
  have k9 : ∀ x z, z ≠ 2 → C2 9000 x z = C 9000 x z := fun x z hz => kc _ _ _ (by unfold dCell; omega)
  have k4 : ∀ x z, z < 5 → C2 4000 x z = C 4000 x z := fun x z hz => kc _ _ _ (by unfold dCell; omega)
  have n12 := ka 12000 (by decide) (by decide) (by decide)
  have mP := ka 13021 (by decide) (by decide) (by decide)
  have mO := ka 13026 (by decide) (by decide) (by decide)
  have mS := ka 13024 (by decide) (by decide) (by decide)
  have nT := ka 13042 (by decide) (by decide) (by decide)
  have nG := ka 13043 (by decide) (by decide) (by decide)
  have nH := ka 13044 (by decide) (by decide) (by decide)
  have nDM := ka 13046 (by decide) (by decide) (by decide)
  have nI := ka 13047 (by decide) (by decide) (by decide)
  have nB := ka 13048 (by decide) (by decide) (by decide)
  have nC := ka 13049 (by decide) (by decide) (by decide)
  have nL := ka 13050 (by decide) (by decide) (by decide)
  have nHM := ka 13051 (by decide) (by decide) (by decide)
  have nHa := ka 13052 (by decide) (by decide) (by decide)
  have nHT := ka 13053 (by decide) (by decide) (by decide)
  have nHF := ka 13054 (by decide) (by decide) (by decide)
  have nO := ka 13055 (by decide) (by decide) (by decide)
  have nCo := ka 13057 (by decide) (by decide) (by decide)
  have nR := ka 13058 (by decide) (by decide) (by decide)
  have nW := ka 13059 (by decide) (by decide) (by decide)
  have nD := ka 13060 (by decide) (by decide) (by decide)
  have nTr := ka 13061 (by decide) (by decide) (by decide)
  have nID := ka 13062 (by decide) (by decide) (by decide)
  have nDe := ka 13063 (by decide) (by decide) (by decide)
  have nS := ka 13064 (by decide) (by decide) (by decide)
  refine ⟨⟨?_, ?_, ?_, ?_, ?_, ?_, ?_, h7, ?_⟩, fun p p1 p2 => ?_, fun j j1 j2 => ?_, ?_, ?_, ?_, ?_, ?_, fun p p1 p2 => ?_, ⟨?_, ?_, ?_, ?_⟩⟩
  · rw [k1 _ (by decide)]; exact o0
  · rw [k1 _ (by decide)]; exact o1
  · rw [k1 _ (by decide)]; exact o2
  · rw [k1 _ (by decide)]; exact o3
  · rw [k1 _ (by decide)]; exact o4
  · rw [k1 _ (by decide), nH]; exact o5
  · rw [k1 _ (by decide), nG]; exact o6
  · rw [k1 _ (by decide)]
    simp only [hr]
    exact o8
  · obtain ⟨x1, x2⟩ := sh p p1 p2
    simp only [hr]
    rw [kb 24000 (by decide) (by decide) (by decide), nO, nCo, nR]
    refine ⟨x1, fun r => ?_⟩
    obtain ⟨y0, y1, y3, y4⟩ := x2 r
    exact ⟨(k9 _ _ (by decide)).trans y0, (k9 _ _ (by decide)).trans y1, ht p p2 r, (k9 _ _ (by decide)).trans y3, (k9 _ _ (by decide)).trans y4⟩
  · obtain ⟨x1, x2⟩ := me j j1 j2
    rw [kb 19000 (by decide) (by decide) (by decide), nI, nB, nC, nL, k4 _ _ (by decide), k4 _ _ (by decide), k4 _ _ (by decide), k4 _ _ (by decide), k4 _ _ (by decide)]
    exact ⟨x1, x2⟩
  · unfold GHa hn hf LSr
    rw [kb 3006 (by decide) (by decide) (by decide), kb 17106 (by decide) (by decide) (by decide), kb 2000 (by decide) (by decide) (by decide), nI, nHM, nHa, nHT, nHF, nO, nR, n12, mP, mO]
    exact ha
  · unfold GLe hn hf
    simp only [hr, hc]
    rw [kb 17000 (by decide) (by decide) (by decide), kb 2000 (by decide) (by decide) (by decide), n12, mP, mS, nHM, nHa, nO, nW, nD, nTr, nID, nS]
    exact le
  · unfold GWa GW1 LSr lw
    rw [kb 3000 (by decide) (by decide) (by decide), kb 17100 (by decide) (by decide) (by decide), nW, nD]
    exact wa
  · unfold GDe LSr
    rw [kb 3003 (by decide) (by decide) (by decide), kb 17103 (by decide) (by decide) (by decide), nDM, nDe, nID]
    exact de
  · unfold GNm hn
    rw [nI, nH, nHM, nC, nL, nB, n12]
    exact nm
  · obtain ⟨x1, x2, x3⟩ := no p p1 p2
    simp only [hr]
    rw [nI, nO, nCo, nR]
    exact ⟨⟨x1, np p p1 p2⟩, x2, x3⟩
  · rw [nT, n12]; exact nt
  · rw [nH]; exact nh
  · unfold mcn
    rw [nG, nH, nI]
    exact ng
  · refine ⟨by rw [nI]; exact hf', ?_⟩
    unfold mcn
    rw [nI]
    simp only [hr]
    exact hg
theorem GIn.dealt (a : GIn C N1 g) (kc : ∀ b x z, ¬ dCell g b x z → C2 b x z = C b x z) (kn : MG g N1 N2) (ka : ∀ b, b ≠ 13056 → b ≠ 13045 → (b < 13065 ∨ 13067 < b) → N2 b = N1 b) : GIn C2 N2 g := by
  have hr := fun p => kn.gr g p
  have hc := fun m => kn.can (m := m)
  have hs := fun q => kn.so q
  have e2 : C2 2000 = C 2000 := by
    funext x z
    exact kc _ x z (by unfold dCell; omega)
  have e5 : ∀ x, C2 9000 x 5 = C 9000 x 5 := fun x => kc _ _ _ (by unfold dCell; omega)
  have e9 : C2 1000 g 9 = C 1000 g 9 := kc _ _ _ (by unfold dCell; omega)
  have n12 := ka 12000 (by decide) (by decide) (by decide)
  have mP := ka 13021 (by decide) (by decide) (by decide)
  have mO := ka 13026 (by decide) (by decide) (by decide)
  have mK := ka 13022 (by decide) (by decide) (by decide)
  have nO := ka 13055 (by decide) (by decide) (by decide)
  have nCo := ka 13057 (by decide) (by decide) (by decide)
  have nR := ka 13058 (by decide) (by decide) (by decide)
  have nW := ka 13059 (by decide) (by decide) (by decide)
  unfold GIn Pd Fdl So
  simp only [hr, hc, hs, e5]
  rw [e2, e9, n12, mP, mO, mK, nO, nCo, nR, nW]
  exact a
theorem c_fill0 {N : Nd} {N0 : Nd} {A : Ad} {m : Int} {F c t : Int → Int} (h : DG C N g) (g1 : 0 ≤ g) (g2 : g < 3) (h0 : ∀ j, 0 ≤ j → j < 12 → N 13047 (12 * g + j) ≠ 1) (ht : ∀ p, 0 ≤ p → p < 9 → t p = -1) : lp (b_X0_dealTargets_27 9 (24000 + g) (1000 + g)) 1000 (0, mk (dcC C N g F c t m) N0 A) = some (mk (dcC C N g F c t m) N0 A) := by
  have hd := h.dc (F := F) (c := c) (t := t) (m := m)
  have o := hd.1.2.1
  have fb : p_X0_firstBelowFairShare (mk (dcC C N g F c t m) N0 A) (1000 + g) = some 0 := by
    have l : lp (b_X0_firstBelowFairShare_10 12 (19000 + g) (mk (dcC C N g F c t m) N0 A)) 1000 0 = some (.inr ()) := by
      refine lp_seq (fun k : Nat => (k : Int)) 12 (fun k hk => ?_) ?_ (by omega) rfl
      · have lt : (k : Int) < 12 := by omega
        have k0 : 0 ≤ (k : Int) := by omega
        have ic : ((k + 1 : Nat) : Int) = (k : Int) + 1 := by omega
        have sh := hd.2.2.1 k k0 lt
        rw [if_neg (h0 k k0 lt)] at sh
        rw [ic]
        unfold b_X0_firstBelowFairShare_10
        simp (disch := omega) only [aok, up_s, true_and, false_and, and_true, and_false, if_true, if_false, ↓reduceIte, ↓Option.bind_some, Int.reduceEq, Int.reduceNe, Int.reduceLT, Int.reduceLE, gd_true, gd_false, bind_b, q10, eq_self, reduceCtorEq, not_true_eq_false, not_false_eq_true, ne_eq, cr_11000, cr_15000, cr_16000, cr_20000, cr_20001, cr_21000, cr_22000, cr_25000, cr_1000, cr_2000, cr_3000, cr_3003, cr_3006, cr_4000, cr_5000, cr_6000, cr_7000, cr_8000, cr_9000, cr_10000, cr_13500, cr_17000, cr_17100, cr_17103, cr_17106, cr_19000, cr_20100, cr_21100, cr_23000, cr_24000, cw_11000, cw_15000, cw_16000, cw_20000, cw_20001, cw_21000, cw_22000, cw_25000, cw_1000, cw_2000, cw_3000, cw_3003, cw_3006, cw_4000, cw_5000, cw_6000, cw_7000, cw_8000, cw_9000, cw_10000, cw_13500, cw_17000, cw_17100, cw_17103, cw_17106, cw_19000, cw_20100, cw_21100, cw_23000, cw_24000, lc_13500, lc_15000, lc_16000, lc_17000, lc_17100, lc_17103, lc_17106, lc_19000, lc_20000, lc_20001, lc_20100, lc_21000, lc_21100, lc_22000, lc_23000, lc_24000, lc_25000, gd_t, w_eq, lt, sh]
      · have nl : ¬ ((12 : Nat) : Int) < 12 := by omega
        unfold b_X0_firstBelowFairShare_10
        simp (disch := omega) only [aok, up_s, true_and, false_and, and_true, and_false, if_true, if_false, ↓reduceIte, ↓Option.bind_some, Int.reduceEq, Int.reduceNe, Int.reduceLT, Int.reduceLE, gd_true, gd_false, bind_b, q10, eq_self, reduceCtorEq, not_true_eq_false, not_false_eq_true, ne_eq, cr_11000, cr_15000, cr_16000, cr_20000, cr_20001, cr_21000, cr_22000, cr_25000, cr_1000, cr_2000, cr_3000, cr_3003, cr_3006, cr_4000, cr_5000, cr_6000, cr_7000, cr_8000, cr_9000, cr_10000, cr_13500, cr_17000, cr_17100, cr_17103, cr_17106, cr_19000, cr_20100, cr_21100, cr_23000, cr_24000, cw_11000, cw_15000, cw_16000, cw_20000, cw_20001, cw_21000, cw_22000, cw_25000, cw_1000, cw_2000, cw_3000, cw_3003, cw_3006, cw_4000, cw_5000, cw_6000, cw_7000, cw_8000, cw_9000, cw_10000, cw_13500, cw_17000, cw_17100, cw_17103, cw_17106, cw_19000, cw_20100, cw_21100, cw_23000, cw_24000, lc_13500, lc_15000, lc_16000, lc_17000, lc_17100, lc_17103, lc_17106, lc_19000, lc_20000, lc_20001, lc_20100, lc_21000, lc_21100, lc_22000, lc_23000, lc_24000, lc_25000, gd_t, w_eq, nl]
    unfold p_X0_firstBelowFairShare
    simp (disch := omega) only [aok, up_s, true_and, false_and, and_true, and_false, if_true, if_false, ↓reduceIte, ↓Option.bind_some, Int.reduceEq, Int.reduceNe, Int.reduceLT, Int.reduceLE, gd_true, gd_false, bind_b, q10, eq_self, reduceCtorEq, not_true_eq_false, not_false_eq_true, ne_eq, cr_11000, cr_15000, cr_16000, cr_20000, cr_20001, cr_21000, cr_22000, cr_25000, cr_1000, cr_2000, cr_3000, cr_3003, cr_3006, cr_4000, cr_5000, cr_6000, cr_7000, cr_8000, cr_9000, cr_10000, cr_13500, cr_17000, cr_17100, cr_17103, cr_17106, cr_19000, cr_20100, cr_21100, cr_23000, cr_24000, cw_11000, cw_15000, cw_16000, cw_20000, cw_20001, cw_21000, cw_22000, cw_25000, cw_1000, cw_2000, cw_3000, cw_3003, cw_3006, cw_4000, cw_5000, cw_6000, cw_7000, cw_8000, cw_9000, cw_10000, cw_13500, cw_17000, cw_17100, cw_17103, cw_17106, cw_19000, cw_20100, cw_21100, cw_23000, cw_24000, lc_13500, lc_15000, lc_16000, lc_17000, lc_17100, lc_17103, lc_17106, lc_19000, lc_20000, lc_20001, lc_20100, lc_21000, lc_21100, lc_22000, lc_23000, lc_24000, lc_25000, gd_t, w_eq, o, l, Sum.elim_inl, Sum.elim_inr]
  refine lp_seq (fun k : Nat => ((k : Int), mk (dcC C N g F c t m) N0 A)) 9 (fun k hk => ?_) ?_ (by omega) rfl
  · have lt : (k : Int) < 9 := by omega
    have k0 : 0 ≤ (k : Int) := by omega
    have ic : ((k + 1 : Nat) : Int) = (k : Int) + 1 := by omega
    have sh := hd.2.1 k k0 lt
    rw [ic]
    unfold b_X0_dealTargets_27
    by_cases r : gR N g k
    · rw [if_pos r] at sh
      have nz : ¬ 9000 + (9 * g + (k : Int)) = 0 := by omega
      have e1 := dc_t (C := C) (F := F) (c := c) (t := t) (m := m) lt r
      rw [ht k k0 lt] at e1
      have e1' : dcC C N g F c t m 9000 (9 * g + (k : Int)) 2 = 0 := e1
      have w1 : uq (dcC C N g F c t m) 9000 (9 * g + (k : Int)) 2 0 = dcC C N g F c t m := by
        funext b x z
        rw [uq_s]
        by_cases e : b = 9000 ∧ x = 9 * g + (k : Int) ∧ z = 2
        · rw [if_pos e, e.1, e.2.1, e.2.2, e1']
        · rw [if_neg e]
      simp (disch := omega) only [aok, up_s, true_and, false_and, and_true, and_false, if_true, if_false, ↓reduceIte, ↓Option.bind_some, Int.reduceEq, Int.reduceNe, Int.reduceLT, Int.reduceLE, gd_true, gd_false, bind_b, q10, eq_self, reduceCtorEq, not_true_eq_false, not_false_eq_true, ne_eq, cr_11000, cr_15000, cr_16000, cr_20000, cr_20001, cr_21000, cr_22000, cr_25000, cr_1000, cr_2000, cr_3000, cr_3003, cr_3006, cr_4000, cr_5000, cr_6000, cr_7000, cr_8000, cr_9000, cr_10000, cr_13500, cr_17000, cr_17100, cr_17103, cr_17106, cr_19000, cr_20100, cr_21100, cr_23000, cr_24000, cw_11000, cw_15000, cw_16000, cw_20000, cw_20001, cw_21000, cw_22000, cw_25000, cw_1000, cw_2000, cw_3000, cw_3003, cw_3006, cw_4000, cw_5000, cw_6000, cw_7000, cw_8000, cw_9000, cw_10000, cw_13500, cw_17000, cw_17100, cw_17103, cw_17106, cw_19000, cw_20100, cw_21100, cw_23000, cw_24000, lc_13500, lc_15000, lc_16000, lc_17000, lc_17100, lc_17103, lc_17106, lc_19000, lc_20000, lc_20001, lc_20100, lc_21000, lc_21100, lc_22000, lc_23000, lc_24000, lc_25000, gd_t, w_eq, lt, sh, nz, e1', fb, w1]
    · rw [if_neg r] at sh
      simp (disch := omega) only [aok, up_s, true_and, false_and, and_true, and_false, if_true, if_false, ↓reduceIte, ↓Option.bind_some, Int.reduceEq, Int.reduceNe, Int.reduceLT, Int.reduceLE, gd_true, gd_false, bind_b, q10, eq_self, reduceCtorEq, not_true_eq_false, not_false_eq_true, ne_eq, cr_11000, cr_15000, cr_16000, cr_20000, cr_20001, cr_21000, cr_22000, cr_25000, cr_1000, cr_2000, cr_3000, cr_3003, cr_3006, cr_4000, cr_5000, cr_6000, cr_7000, cr_8000, cr_9000, cr_10000, cr_13500, cr_17000, cr_17100, cr_17103, cr_17106, cr_19000, cr_20100, cr_21100, cr_23000, cr_24000, cw_11000, cw_15000, cw_16000, cw_20000, cw_20001, cw_21000, cw_22000, cw_25000, cw_1000, cw_2000, cw_3000, cw_3003, cw_3006, cw_4000, cw_5000, cw_6000, cw_7000, cw_8000, cw_9000, cw_10000, cw_13500, cw_17000, cw_17100, cw_17103, cw_17106, cw_19000, cw_20100, cw_21100, cw_23000, cw_24000, lc_13500, lc_15000, lc_16000, lc_17000, lc_17100, lc_17103, lc_17106, lc_19000, lc_20000, lc_20001, lc_20100, lc_21000, lc_21100, lc_22000, lc_23000, lc_24000, lc_25000, gd_t, w_eq, lt, sh]
  · have nl : ¬ ((9 : Nat) : Int) < 9 := by omega
    unfold b_X0_dealTargets_27
    simp (disch := omega) only [aok, up_s, true_and, false_and, and_true, and_false, if_true, if_false, ↓reduceIte, ↓Option.bind_some, Int.reduceEq, Int.reduceNe, Int.reduceLT, Int.reduceLE, gd_true, gd_false, bind_b, q10, eq_self, reduceCtorEq, not_true_eq_false, not_false_eq_true, ne_eq, cr_11000, cr_15000, cr_16000, cr_20000, cr_20001, cr_21000, cr_22000, cr_25000, cr_1000, cr_2000, cr_3000, cr_3003, cr_3006, cr_4000, cr_5000, cr_6000, cr_7000, cr_8000, cr_9000, cr_10000, cr_13500, cr_17000, cr_17100, cr_17103, cr_17106, cr_19000, cr_20100, cr_21100, cr_23000, cr_24000, cw_11000, cw_15000, cw_16000, cw_20000, cw_20001, cw_21000, cw_22000, cw_25000, cw_1000, cw_2000, cw_3000, cw_3003, cw_3006, cw_4000, cw_5000, cw_6000, cw_7000, cw_8000, cw_9000, cw_10000, cw_13500, cw_17000, cw_17100, cw_17103, cw_17106, cw_19000, cw_20100, cw_21100, cw_23000, cw_24000, lc_13500, lc_15000, lc_16000, lc_17000, lc_17100, lc_17103, lc_17106, lc_19000, lc_20000, lc_20001, lc_20100, lc_21000, lc_21100, lc_22000, lc_23000, lc_24000, lc_25000, gd_t, w_eq, nl]
end DEAL
