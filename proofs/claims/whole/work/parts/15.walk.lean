def p_X1_init (M : Mm) (a0 a1 : Int) : Option Mm := (some (wr M a0 1 0)).bind fun M1 => (some (wr M1 a0 2 0)).bind fun M2 => (some (wr M2 a0 3 0)).bind fun M3 => (some (wr M3 a0 4 0)).bind fun M4 => (some (wr M4 a0 5 0)).bind fun M5 => (some (wr M5 a0 6 0)).bind fun M6 => (some (wr M6 a0 0 a1)).bind fun M7 => some (M7)
set_option maxRecDepth 100000 in
set_option maxHeartbeats 4000000 in
theorem xe_X1_init {D : Dt} {M : Mm} {a0 a1 : Int} (h0 : a0 ≠ 0) : XE D 0 mu_X1_init EV 0 [(0, (5, a0)), (1, (8, a1))] [] M (p_X1_init M a0 a1) := by
  unfold p_X1_init
  refine XE.go (st_aload_n (j := 0) (i := 0) (pc' := 1) (by decide +kernel) rfl rfl (by decide) rfl) ?_
  refine XE.go (st_oinit (pc' := 4) (by decide +kernel) rfl oi_RX1_3 (by decide) (by decide) (by decide) h0) ?_
  refine XE.go (st_aload_n (j := 0) (i := 0) (pc' := 5) (by decide +kernel) rfl rfl (by decide) rfl) ?_
  refine XE.go (st_iconst (n := 0) (pc' := 6) (by decide +kernel) (w_eq (by decide) (by decide)) rfl) ?_
  refine XE.goM (st_put (pc' := 9) (by decide +kernel) rfl cls_1 fld_RX1_9 rfl rfl (fun h => absurd h (by decide)) (fun h => nomatch h) h0) (fun M1 => ?_)
  refine XE.go (st_aload_n (j := 0) (i := 0) (pc' := 10) (by decide +kernel) rfl rfl (by decide) rfl) ?_
  refine XE.go (st_iconst (n := 0) (pc' := 11) (by decide +kernel) (w_eq (by decide) (by decide)) rfl) ?_
  refine XE.goM (st_put (pc' := 14) (by decide +kernel) rfl cls_1 fld_RX1_15 rfl rfl (fun h => absurd h (by decide)) (fun h => nomatch h) h0) (fun M2 => ?_)
  refine XE.go (st_aload_n (j := 0) (i := 0) (pc' := 15) (by decide +kernel) rfl rfl (by decide) rfl) ?_
  refine XE.go (st_iconst (n := 0) (pc' := 16) (by decide +kernel) (w_eq (by decide) (by decide)) rfl) ?_
  refine XE.goM (st_put (pc' := 19) (by decide +kernel) rfl cls_1 fld_RX1_18 rfl rfl (fun h => absurd h (by decide)) (fun h => nomatch h) h0) (fun M3 => ?_)
  refine XE.go (st_aload_n (j := 0) (i := 0) (pc' := 20) (by decide +kernel) rfl rfl (by decide) rfl) ?_
  refine XE.go (st_iconst (n := 0) (pc' := 21) (by decide +kernel) (w_eq (by decide) (by decide)) rfl) ?_
  refine XE.goM (st_put (pc' := 24) (by decide +kernel) rfl cls_1 fld_RX1_21 rfl rfl (fun _ => by decide) (fun h => nomatch h) h0) (fun M4 => ?_)
  refine XE.go (st_aload_n (j := 0) (i := 0) (pc' := 25) (by decide +kernel) rfl rfl (by decide) rfl) ?_
  refine XE.go (st_iconst (n := 0) (pc' := 26) (by decide +kernel) (w_eq (by decide) (by decide)) rfl) ?_
  refine XE.goM (st_put (pc' := 29) (by decide +kernel) rfl cls_1 fld_RX1_25 rfl rfl (fun h => absurd h (by decide)) (fun h => nomatch h) h0) (fun M5 => ?_)
  refine XE.go (st_aload_n (j := 0) (i := 0) (pc' := 30) (by decide +kernel) rfl rfl (by decide) rfl) ?_
  refine XE.go (st_iconst (n := 0) (pc' := 31) (by decide +kernel) (w_eq (by decide) (by decide)) rfl) ?_
  refine XE.goM (st_put (pc' := 34) (by decide +kernel) rfl cls_1 fld_RX1_28 rfl rfl (fun h => absurd h (by decide)) (fun h => nomatch h) h0) (fun M6 => ?_)
  refine XE.go (st_aload_n (j := 0) (i := 0) (pc' := 35) (by decide +kernel) rfl rfl (by decide) rfl) ?_
  refine XE.go (st_aload_n (j := 1) (i := 1) (pc' := 36) (by decide +kernel) rfl rfl (by decide) rfl) ?_
  refine XE.goM (st_put (pc' := 39) (by decide +kernel) rfl cls_1 fld_RX1_31 rfl rfl (fun h => absurd h (by decide)) (fun _ => ⟨rfl, rfl⟩) h0) (fun M7 => ?_)
  exact XE.rt rfl (X_vret (by decide +kernel) rfl)
theorem ct_X1_init {D : Dt} {M : Mm} {a0 a1 : Int} (h0 : a0 ≠ 0) (r : Mm) (hr : p_X1_init M a0 a1 = some r) : CT D 0 mu_X1_init [(5, a0), (8, a1)] M (.inl none) r := CT.of (by decide +kernel) rfl (Nat.le_of_ble_eq_true rfl) (xe_X1_init h0 r hr)
def p_X0_letterOf (M : Mm) (a0 a1 : Int) : Option (Int × Mm) := (p_X0_knownLetter M a0 a1).bind fun r1 => if r1 = 0 then (alo M 2 (2000 + (150 * (a0 - 1000) + (rd M a1 0))) 7).bind fun M4 => (p_X1_init M4 (2000 + (150 * (a0 - 1000) + (rd M a1 0))) a1).bind fun M6 => (some ((2000 + (150 * (a0 - 1000) + (rd M a1 0))))).bind fun v7 => gd (a1 ≠ 0) (if (rd M6 a1 0) < 0 then some (v7, M6) else gd ((rd M6 a0 2) ≠ 0) (if (rd M6 a1 0) < (ln (rd M6 a0 2)) then gd (aok (rd M6 a0 2) (rd M6 a1 0)) ((some (wr M6 (rd M6 a0 2) (rd M6 a1 0) v7)).bind fun M16 => some (v7, M16)) else some (v7, M6))) else some (r1, M)
set_option maxRecDepth 100000 in
set_option maxHeartbeats 4000000 in
theorem xe_X0_letterOf {D : Dt} {M : Mm} {a0 a1 : Int} (h0 : a0 ≠ 0) : XE D 0 mu_X0_letterOf (EW 5) 0 [(0, (4, a0)), (1, (8, a1))] [] M (p_X0_letterOf M a0 a1) := by
  unfold p_X0_letterOf
  refine XE.go (st_aload_n (j := 0) (i := 0) (pc' := 1) (by decide +kernel) rfl rfl (by decide) rfl) ?_
  refine XE.go (st_aload_n (j := 1) (i := 1) (pc' := 2) (by decide +kernel) rfl rfl (by decide) rfl) ?_
  refine XE.cP (pc' := 5) (st := []) (fun r hr => ct_X0_knownLetter h0 r hr) (fun r hr => run_V (st := []) (by decide +kernel) co_X0_letterOf_68 (ct_X0_knownLetter h0 r hr) rfl h0 rfl rfl (Nat.le_of_ble_eq_true rfl)) rfl rfl (fun r1 => ?_)
  refine XE.go (st_astore_n (j := 2) (i := 2) (pc' := 6) (by decide +kernel) rfl (by decide) rfl (by decide) rfl rfl) ?_
  refine XE.go (st_aload_n (j := 2) (i := 2) (pc' := 7) (by decide +kernel) rfl rfl (by decide) rfl) ?_
  refine XE.ite (fun h2 => ?_) (fun h3 => ?_)
  · refine XE.go (st_ifnull_t (off := 5) (pc' := 12) (by decide +kernel) (by decide) h2 (by decide)) ?_
    refine XE.alo_ (fun q1 q2 => st_new (pc' := 15) (by decide +kernel) rfl cls_1 nw_RX0_23 rfl rfl q1 q2) (by decide) (fun M4 h5 => ?_)
    refine XE.go (st_dup (pc' := 16) (by decide +kernel) rfl rfl) ?_
    refine XE.go (st_aload_n (j := 1) (i := 1) (pc' := 17) (by decide +kernel) rfl rfl (by decide) rfl) ?_
    refine XE.cV (pc' := 20) (st := [(5, (2000 + (150 * (a0 - 1000) + (rd M a1 0))))]) (fun r hr => ct_X1_init h5 r hr) (fun r hr => run_I (st := [(5, (2000 + (150 * (a0 - 1000) + (rd M a1 0))))]) (by decide +kernel) co_X0_letterOf_72 (ct_X1_init h5 r hr) (by decide) h5 rfl rfl (Nat.le_of_ble_eq_true rfl)) rfl rfl (fun M6 => ?_)
    refine XE.gen (fun v7 e8 => ?_)
    refine XE.go (st_astore_n (j := 3) (i := 3) (pc' := 21) (by decide +kernel) rfl (by decide) rfl (by decide) rfl rfl) ?_
    refine XE.go (st_aload_n (j := 1) (i := 1) (pc' := 22) (by decide +kernel) rfl rfl (by decide) rfl) ?_
    refine XE.gd_ (fun g9 => ?_)
    refine XE.go (st_get (pc' := 25) (by decide +kernel) rfl cls_4 fld_RX0_65 rfl rfl g9) ?_
    refine XE.ite (fun h10 => ?_) (fun h11 => ?_)
    · refine XE.go (st_if_lt_t (off := 25) (pc' := 50) (by decide +kernel) (by decide) h10) ?_
      refine XE.go (st_aload_n (j := 3) (i := 3) (pc' := 51) (by decide +kernel) rfl rfl (by decide) rfl) ?_
      exact XE.rt rfl (X_aret (by decide +kernel) rfl (Or.inl ⟨_, rfl⟩) (by decide))
    · refine XE.go (st_if_lt_f (off := 25) (pc' := 28) (by decide +kernel) 50 (by decide) rfl h11) ?_
      refine XE.go (st_aload_n (j := 1) (i := 1) (pc' := 29) (by decide +kernel) rfl rfl (by decide) rfl) ?_
      refine XE.go (st_get (pc' := 32) (by decide +kernel) rfl cls_4 fld_RX0_65 rfl rfl g9) ?_
      refine XE.go (st_aload_n (j := 0) (i := 0) (pc' := 33) (by decide +kernel) rfl rfl (by decide) rfl) ?_
      refine XE.go (st_get (pc' := 36) (by decide +kernel) rfl cls_0 fld_RX0_25 rfl rfl h0) ?_
      refine XE.gd_ (fun g12 => ?_)
      refine XE.go (st_alen (k := 17) (pc' := 37) (by decide +kernel) rfl ak_17 rfl (by decide) g12) ?_
      refine XE.ite (fun h13 => ?_) (fun h14 => ?_)
      · refine XE.go (st_icmp_ge_f (off := 13) (pc' := 40) (by decide +kernel) 50 (by decide) rfl (Int.not_le.mpr h13)) ?_
        refine XE.go (st_aload_n (j := 0) (i := 0) (pc' := 41) (by decide +kernel) rfl rfl (by decide) rfl) ?_
        refine XE.go (st_get (pc' := 44) (by decide +kernel) rfl cls_0 fld_RX0_25 rfl rfl h0) ?_
        refine XE.go (st_aload_n (j := 1) (i := 1) (pc' := 45) (by decide +kernel) rfl rfl (by decide) rfl) ?_
        refine XE.go (st_get (pc' := 48) (by decide +kernel) rfl cls_4 fld_RX0_65 rfl rfl g9) ?_
        refine XE.go (st_aload_n (j := 3) (i := 3) (pc' := 49) (by decide +kernel) rfl rfl (by decide) rfl) ?_
        refine XE.gd_ (fun g15 => ?_)
        refine XE.goM (st_aast (pc' := 50) (by decide +kernel) rfl ak_17 cls_1 rfl rfl rfl g15.1 g15.2.1 g15.2.2) (fun M16 => ?_)
        refine XE.go (st_aload_n (j := 3) (i := 3) (pc' := 51) (by decide +kernel) rfl rfl (by decide) rfl) ?_
        exact XE.rt rfl (X_aret (by decide +kernel) rfl (Or.inl ⟨_, rfl⟩) (by decide))
      · refine XE.go (st_icmp_ge_t (off := 13) (pc' := 50) (by decide +kernel) (by decide) (Int.not_lt.mp h14)) ?_
        refine XE.go (st_aload_n (j := 3) (i := 3) (pc' := 51) (by decide +kernel) rfl rfl (by decide) rfl) ?_
        exact XE.rt rfl (X_aret (by decide +kernel) rfl (Or.inl ⟨_, rfl⟩) (by decide))
  · refine XE.go (st_ifnull_f (off := 5) (pc' := 10) (by decide +kernel) (by decide) h3 rfl) ?_
    refine XE.go (st_aload_n (j := 2) (i := 2) (pc' := 11) (by decide +kernel) rfl rfl (by decide) rfl) ?_
    exact XE.rt rfl (X_aret (by decide +kernel) rfl (Or.inl ⟨_, rfl⟩) (by decide))
theorem ct_X0_letterOf {D : Dt} {M : Mm} {a0 a1 : Int} (h0 : a0 ≠ 0) (r : (Int × Mm)) (hr : p_X0_letterOf M a0 a1 = some r) : CT D 0 mu_X0_letterOf [(4, a0), (8, a1)] M (.inl (some (5, r.1))) r.2 := CT.of (by decide +kernel) rfl (Nat.le_of_ble_eq_true rfl) (xe_X0_letterOf h0 r hr)
def b_X0_nextOfLog_14 (r3 : Int) (a1 : Int) (a0 : Int) (a2 : Int) (s6 : Int × Mm) : Option ((Int × Mm) ⊕ ((Int × Mm) ⊕ (Mm))) := if s6.1 < r3 then gd ((rd s6.2 a1 0) ≠ 0) ((p_X5_readableAt s6.2 (rd s6.2 a1 0) s6.1 r3).bind fun r36 => if r36 = 0 then some (.inl ((w (s6.1 + 1)), s6.2)) else (some (wr s6.2 a1 4 (w (s6.1 + 1)))).bind fun M39 => (p_X0_letterOf M39 a0 r36).bind fun r40 => gd (r40.1 ≠ 0) (if (rd r40.2 r40.1 1) = 0 then (some (wr r40.2 r40.1 3 0)).bind fun M44 => gd ((rd M44 a0 3) ≠ 0) ((p_X2_hasNoneOfRow M44 (rd M44 a0 3) r36 60).bind fun r46 => if r46 = 0 then (p_X0_putInRow M44 a0 r40.1 a2).bind fun M49 => some (.inl ((w (s6.1 + 1)), M49)) else some (.inr (.inl (r40.1, M44)))) else some (.inl ((w (s6.1 + 1)), r40.2)))) else some (.inr (.inr s6.2))
def p_X0_nextOfLog (M : Mm) (a0 a1 a2 : Int) : Option (Int × Mm) := gd (a1 ≠ 0) (gd ((rd M a1 0) ≠ 0) ((p_X5_stableOffset M (rd M a1 0)).bind fun r3 => (some ((rd M a1 4))).bind fun v4 => (lp (b_X0_nextOfLog_14 r3 a1 a0 a2) 1000 (v4, M)).bind (Sum.elim some fun (t7 : Mm) => some (0, t7))))
set_option maxRecDepth 100000 in
set_option maxHeartbeats 4000000 in
theorem xe_X0_nextOfLog {D : Dt} {M : Mm} {a0 a1 a2 : Int} (h0 : a0 ≠ 0) : XE D 0 mu_X0_nextOfLog (EW 5) 0 [(0, (4, a0)), (1, (12, a1)), (2, (0, a2))] [] M (p_X0_nextOfLog M a0 a1 a2) := by
  unfold p_X0_nextOfLog
  refine XE.go (st_aload_n (j := 1) (i := 1) (pc' := 1) (by decide +kernel) rfl rfl (by decide) rfl) ?_
  refine XE.gd_ (fun g1 => ?_)
  refine XE.go (st_get (pc' := 4) (by decide +kernel) rfl cls_8 fld_RX0_130 rfl rfl g1) ?_
  refine XE.gd_ (fun g2 => ?_)
  refine XE.cP (pc' := 7) (st := []) (fun r hr => ct_X5_stableOffset g2 r hr) (fun r hr => run_V (st := []) (by decide +kernel) co_X0_nextOfLog_215 (ct_X5_stableOffset g2 r hr) rfl g2 rfl rfl (Nat.le_of_ble_eq_true rfl)) rfl rfl (fun r3 => ?_)
  refine XE.go (st_istore_n (j := 3) (i := 3) (pc' := 8) (by decide +kernel) rfl rfl (by decide) rfl rfl) ?_
  refine XE.go (st_aload_n (j := 1) (i := 1) (pc' := 9) (by decide +kernel) rfl rfl (by decide) rfl) ?_
  refine XE.go (st_get (pc' := 12) (by decide +kernel) rfl cls_8 fld_RX0_143 rfl rfl g1) ?_
  refine XE.gen (fun v4 e5 => ?_)
  refine XE.go (st_istore (j := 4) (pc' := 14) (by decide +kernel)  rfl (by decide) rfl rfl) ?_
  refine XE.pick [2, 3, 4, 1, 0] (L' := [(0, (4, a0)), (1, (12, a1)), (2, (0, a2)), (3, (0, r3)), (4, (0, v4))]) rfl ?_
  refine XE.loopX (n := 1000) (s0 := (v4, M)) (pcL := 14) (pcE := 97) (LL := fun (s6 : Int × Mm) => [(0, (4, a0)), (1, (12, a1)), (2, (0, a2)), (3, (0, r3)), (4, (0, s6.1))]) (sL := fun _ => []) (ML := fun (s6 : Int × Mm) => s6.2) (LE := fun (t7 : Mm) => []) (sE := fun _ => []) (ME := fun (t7 : Mm) => t7) (fun kk32 hx31 hc29 he30 s6 => ?_) (fun t7 => ?_)
  · unfold b_X0_nextOfLog_14
    refine XE.go (st_iload (j := 4) (pc' := 16) (by decide +kernel) rfl rfl) ?_
    refine XE.go (st_iload_n (j := 3) (i := 3) (pc' := 17) (by decide +kernel) rfl rfl rfl) ?_
    refine XE.bite (fun h33 => ?_) (fun h34 => ?_)
    · refine XE.go (st_icmp_ge_f (off := 80) (pc' := 20) (by decide +kernel) 97 (by decide) rfl (Int.not_le.mpr h33)) ?_
      refine XE.go (st_aload_n (j := 1) (i := 1) (pc' := 21) (by decide +kernel) rfl rfl (by decide) rfl) ?_
      refine XE.go (st_get (pc' := 24) (by decide +kernel) rfl cls_8 fld_RX0_130 rfl rfl g1) ?_
      refine XE.go (st_iload (j := 4) (pc' := 26) (by decide +kernel) rfl rfl) ?_
      refine XE.go (st_iload_n (j := 3) (i := 3) (pc' := 27) (by decide +kernel) rfl rfl rfl) ?_
      refine XE.gdb (fun g35 => ?_)
      refine XE.asc ?_
      refine XE.cP (pc' := 30) (st := []) (fun r hr => ct_X5_readableAt g35 r hr) (fun r hr => run_V (st := []) (by decide +kernel) co_X0_nextOfLog_218 (ct_X5_readableAt g35 r hr) rfl g35 rfl rfl (Nat.le_of_ble_eq_true rfl)) rfl rfl (fun r36 => ?_)
      refine XE.go (st_astore (j := 5) (pc' := 32) (by decide +kernel)  (by decide) rfl (by decide) rfl rfl) ?_
      refine XE.go (st_aload (j := 5) (pc' := 34) (by decide +kernel) rfl (by decide) rfl) ?_
      refine XE.bite (fun h37 => ?_) (fun h38 => ?_)
      · refine XE.go (st_ifnull_t (off := 57) (pc' := 91) (by decide +kernel) (by decide) h37 (by decide)) ?_
        refine XE.go (st_iinc (j := 4) (n := 1) (pc' := 94) (by decide +kernel) rfl rfl (by decide) rfl rfl) ?_
        refine XE.go (st_goto (off := (-80)) (pc' := 14) (by decide +kernel) (by decide)) ?_
        exact XE.pick [2, 3, 4, 5, 0] rfl (hc29 ((w (s6.1 + 1)), s6.2))
      · refine XE.go (st_ifnull_f (off := 57) (pc' := 37) (by decide +kernel) (by decide) h38 rfl) ?_
        refine XE.go (st_aload_n (j := 1) (i := 1) (pc' := 38) (by decide +kernel) rfl rfl (by decide) rfl) ?_
        refine XE.go (st_iload (j := 4) (pc' := 40) (by decide +kernel) rfl rfl) ?_
        refine XE.go (st_iconst (n := 1) (pc' := 41) (by decide +kernel) (w_eq (by decide) (by decide)) rfl) ?_
        refine XE.go (st_iadd (pc' := 42) (by decide +kernel) rfl) ?_
        refine XE.asc ?_
        refine XE.goM (st_put (pc' := 45) (by decide +kernel) rfl cls_8 fld_RX0_143 rfl rfl (fun h => absurd h (by decide)) (fun h => nomatch h) g1) (fun M39 => ?_)
        refine XE.go (st_aload_n (j := 0) (i := 0) (pc' := 46) (by decide +kernel) rfl rfl (by decide) rfl) ?_
        refine XE.go (st_aload (j := 5) (pc' := 48) (by decide +kernel) rfl (by decide) rfl) ?_
        refine XE.asc ?_
        refine XE.cW (pc' := 51) (st := []) (fun r hr => ct_X0_letterOf h0 r hr) (fun r hr => run_V (st := []) (by decide +kernel) co_X0_nextOfLog_222 (ct_X0_letterOf h0 r hr) rfl h0 rfl rfl (Nat.le_of_ble_eq_true rfl)) rfl rfl (fun r40 => ?_)
        refine XE.go (st_astore (j := 6) (pc' := 53) (by decide +kernel)  (by decide) rfl (by decide) rfl rfl) ?_
        refine XE.go (st_aload (j := 6) (pc' := 55) (by decide +kernel) rfl (by decide) rfl) ?_
        refine XE.gdb (fun g41 => ?_)
        refine XE.go (st_get (pc' := 58) (by decide +kernel) rfl cls_1 fld_RX0_165 rfl rfl g41) ?_
        refine XE.bite (fun h42 => ?_) (fun h43 => ?_)
        · refine XE.go (st_if_ne_f (off := 33) (pc' := 61) (by decide +kernel) 91 (by decide) rfl (not_not_intro h42)) ?_
          refine XE.go (st_aload (j := 6) (pc' := 63) (by decide +kernel) rfl (by decide) rfl) ?_
          refine XE.go (st_iconst (n := 0) (pc' := 64) (by decide +kernel) (w_eq (by decide) (by decide)) rfl) ?_
          refine XE.asc ?_
          refine XE.goM (st_put (pc' := 67) (by decide +kernel) rfl cls_1 fld_RX0_225 rfl rfl (fun h => absurd h (by decide)) (fun h => nomatch h) g41) (fun M44 => ?_)
          refine XE.go (st_aload_n (j := 0) (i := 0) (pc' := 68) (by decide +kernel) rfl rfl (by decide) rfl) ?_
          refine XE.go (st_get (pc' := 71) (by decide +kernel) rfl cls_0 fld_RX0_34 rfl rfl h0) ?_
          refine XE.go (st_aload (j := 5) (pc' := 73) (by decide +kernel) rfl (by decide) rfl) ?_
          refine XE.go (st_bipush (n := 60) (pc' := 75) (by decide +kernel) (by decide) (w_eq (by decide) (by decide)) rfl) ?_
          refine XE.gdb (fun g45 => ?_)
          refine XE.asc ?_
          refine XE.cP (pc' := 78) (st := []) (fun r hr => ct_X2_hasNoneOfRow g45 r hr) (fun r hr => run_V (st := []) (by decide +kernel) co_X0_nextOfLog_211 (ct_X2_hasNoneOfRow g45 r hr) rfl g45 rfl rfl (Nat.le_of_ble_eq_true rfl)) rfl rfl (fun r46 => ?_)
          refine XE.bite (fun h47 => ?_) (fun h48 => ?_)
          · refine XE.go (st_if_eq_t (off := 6) (pc' := 84) (by decide +kernel) (by decide) h47) ?_
            refine XE.go (st_aload_n (j := 0) (i := 0) (pc' := 85) (by decide +kernel) rfl rfl (by decide) rfl) ?_
            refine XE.go (st_aload (j := 6) (pc' := 87) (by decide +kernel) rfl (by decide) rfl) ?_
            refine XE.go (st_iload_n (j := 2) (i := 2) (pc' := 88) (by decide +kernel) rfl rfl rfl) ?_
            refine XE.asc ?_
            refine XE.cV (pc' := 91) (st := []) (fun r hr => ct_X0_putInRow h0 r hr) (fun r hr => run_V (st := []) (by decide +kernel) co_X0_nextOfLog_172 (ct_X0_putInRow h0 r hr) rfl h0 rfl rfl (Nat.le_of_ble_eq_true rfl)) rfl rfl (fun M49 => ?_)
            refine XE.go (st_iinc (j := 4) (n := 1) (pc' := 94) (by decide +kernel) rfl rfl (by decide) rfl rfl) ?_
            refine XE.go (st_goto (off := (-80)) (pc' := 14) (by decide +kernel) (by decide)) ?_
            exact XE.pick [3, 4, 5, 6, 0] rfl (hc29 ((w (s6.1 + 1)), M49))
          · refine XE.go (st_if_eq_f (off := 6) (pc' := 81) (by decide +kernel) 84 (by decide) rfl h48) ?_
            refine XE.go (st_aload (j := 6) (pc' := 83) (by decide +kernel) rfl (by decide) rfl) ?_
            refine XE.cast (hx31 _) ?_
            exact XE.rt rfl (X_aret (by decide +kernel) rfl (Or.inl ⟨_, rfl⟩) (by decide))
        · refine XE.go (st_if_ne_t (off := 33) (pc' := 91) (by decide +kernel) (by decide) h43) ?_
          refine XE.go (st_iinc (j := 4) (n := 1) (pc' := 94) (by decide +kernel) rfl rfl (by decide) rfl rfl) ?_
          refine XE.go (st_goto (off := (-80)) (pc' := 14) (by decide +kernel) (by decide)) ?_
          exact XE.pick [3, 4, 5, 6, 0] rfl (hc29 ((w (s6.1 + 1)), r40.2))
    · refine XE.go (st_icmp_ge_t (off := 80) (pc' := 97) (by decide +kernel) (by decide) (Int.not_lt.mp h34)) ?_
      exact XE.pick [] rfl (he30 s6.2)
  · refine XE.go (st_null (t := 5) (pc' := 98) (by decide +kernel) (by decide) rfl) ?_
    exact XE.rt rfl (X_aret (by decide +kernel) rfl (Or.inl ⟨_, rfl⟩) (by decide))
theorem ct_X0_nextOfLog {D : Dt} {M : Mm} {a0 a1 a2 : Int} (h0 : a0 ≠ 0) (r : (Int × Mm)) (hr : p_X0_nextOfLog M a0 a1 a2 = some r) : CT D 0 mu_X0_nextOfLog [(4, a0), (12, a1), (0, a2)] M (.inl (some (5, r.1))) r.2 := CT.of (by decide +kernel) rfl (Nat.le_of_ble_eq_true rfl) (xe_X0_nextOfLog h0 r hr)
def b_X0_deliverNext_46 (a0 : Int) (a1 : Int) (a2 : Int) (s8 : Int × Mm) : Option ((Int × Mm) ⊕ ((Int × Mm) ⊕ (Mm))) := gd ((rd s8.2 a0 0) ≠ 0) (if (ln (rd s8.2 a0 0)) < s8.1 then some (.inr (.inr s8.2)) else gd ((ln (rd s8.2 a0 0)) ≠ 0) ((p_X0_shareAt s8.2 a0 (irm (w ((rd s8.2 a1 4) + s8.1)) (ln (rd s8.2 a0 0)))).bind fun r40 => if r40 = 0 then some (.inl ((w (s8.1 + 1)), s8.2)) else if (rd s8.2 r40 1) = a1 then gd ((rd s8.2 r40 0) ≠ 0) (if (rd s8.2 (rd s8.2 r40 0) 4) = 0 then some (.inl ((w (s8.1 + 1)), s8.2)) else (p_X0_nextOfLog s8.2 a0 r40 a2).bind fun r48 => if r48.1 = 0 then some (.inl ((w (s8.1 + 1)), r48.2)) else gd ((rd r48.2 r40 0) ≠ 0) ((some (wr r48.2 a1 4 (rd r48.2 (rd r48.2 r40 0) 0))).bind fun M52 => (p_X0_deliver M52 a0 a1 r48.1 0).bind fun r53 => some (.inr (.inl (r53.1, r53.2))))) else some (.inl ((w (s8.1 + 1)), s8.2))))
def p_X0_deliverNext (M : Mm) (a0 a1 a2 : Int) : Option (Int × Mm) := gd (a1 ≠ 0) (gd ((rd M a1 1) ≠ 0) (if (rd M (rd M a1 1) 1) < (rd M a1 3) then (p_X0_firstDue M a0 a1 a2).bind fun r5 => if r5 = 0 then (lp (b_X0_deliverNext_46 a0 a1 a2) 1000 (1, M)).bind (Sum.elim some fun (t9 : Mm) => some (0, t9)) else gd ((rd M a0 3) ≠ 0) ((p_X2_removeLetter M (rd M a0 3) r5).bind fun M55 => (p_X0_deliver M55 a0 a1 r5 1).bind fun r56 => some (r56.1, r56.2)) else some (0, M)))
set_option maxRecDepth 100000 in
set_option maxHeartbeats 4000000 in
theorem xe_X0_deliverNext {D : Dt} {M : Mm} {a0 a1 a2 : Int} (h0 : a0 ≠ 0) : XE D 0 mu_X0_deliverNext (EW 5) 0 [(0, (4, a0)), (1, (7, a1)), (2, (0, a2))] [] M (p_X0_deliverNext M a0 a1 a2) := by
  unfold p_X0_deliverNext
  refine XE.go (st_aload_n (j := 1) (i := 1) (pc' := 1) (by decide +kernel) rfl rfl (by decide) rfl) ?_
  refine XE.gd_ (fun g1 => ?_)
  refine XE.go (st_get (pc' := 4) (by decide +kernel) rfl cls_3 fld_RX0_146 rfl rfl g1) ?_
  refine XE.gd_ (fun g2 => ?_)
  refine XE.go (st_get (pc' := 7) (by decide +kernel) rfl cls_2 fld_RX0_149 rfl rfl g2) ?_
  refine XE.go (st_aload_n (j := 1) (i := 1) (pc' := 8) (by decide +kernel) rfl rfl (by decide) rfl) ?_
  refine XE.go (st_get (pc' := 11) (by decide +kernel) rfl cls_3 fld_RX0_182 rfl rfl g1) ?_
  refine XE.ite (fun h3 => ?_) (fun h4 => ?_)
  · refine XE.go (st_icmp_lt_t (off := 5) (pc' := 16) (by decide +kernel) (by decide) h3) ?_
    refine XE.go (st_aload_n (j := 0) (i := 0) (pc' := 17) (by decide +kernel) rfl rfl (by decide) rfl) ?_
    refine XE.go (st_aload_n (j := 1) (i := 1) (pc' := 18) (by decide +kernel) rfl rfl (by decide) rfl) ?_
    refine XE.go (st_iload_n (j := 2) (i := 2) (pc' := 19) (by decide +kernel) rfl rfl rfl) ?_
    refine XE.cP (pc' := 22) (st := []) (fun r hr => ct_X0_firstDue h0 r hr) (fun r hr => run_V (st := []) (by decide +kernel) co_X0_deliverNext_185 (ct_X0_firstDue h0 r hr) rfl h0 rfl rfl (Nat.le_of_ble_eq_true rfl)) rfl rfl (fun r5 => ?_)
    refine XE.go (st_astore_n (j := 3) (i := 3) (pc' := 23) (by decide +kernel) rfl (by decide) rfl (by decide) rfl rfl) ?_
    refine XE.go (st_aload_n (j := 3) (i := 3) (pc' := 24) (by decide +kernel) rfl rfl (by decide) rfl) ?_
    refine XE.ite (fun h6 => ?_) (fun h7 => ?_)
    · refine XE.go (st_ifnull_t (off := 19) (pc' := 43) (by decide +kernel) (by decide) h6 (by decide)) ?_
      refine XE.go (st_iconst (n := 1) (pc' := 44) (by decide +kernel) (w_eq (by decide) (by decide)) rfl) ?_
      refine XE.go (st_istore (j := 4) (pc' := 46) (by decide +kernel)  rfl (by decide) rfl rfl) ?_
      refine XE.pick [2, 3, 4, 0] (L' := [(0, (4, a0)), (1, (7, a1)), (2, (0, a2)), (4, (0, 1))]) rfl ?_
      refine XE.loopX (n := 1000) (s0 := (1, M)) (pcL := 46) (pcE := 141) (LL := fun (s8 : Int × Mm) => [(0, (4, a0)), (1, (7, a1)), (2, (0, a2)), (4, (0, s8.1))]) (sL := fun _ => []) (ML := fun (s8 : Int × Mm) => s8.2) (LE := fun (t9 : Mm) => []) (sE := fun _ => []) (ME := fun (t9 : Mm) => t9) (fun kk35 hx34 hc32 he33 s8 => ?_) (fun t9 => ?_)
      · unfold b_X0_deliverNext_46
        refine XE.go (st_iload (j := 4) (pc' := 48) (by decide +kernel) rfl rfl) ?_
        refine XE.go (st_aload_n (j := 0) (i := 0) (pc' := 49) (by decide +kernel) rfl rfl (by decide) rfl) ?_
        refine XE.go (st_get (pc' := 52) (by decide +kernel) rfl cls_0 fld_RX0_11 rfl rfl h0) ?_
        refine XE.gdb (fun g36 => ?_)
        refine XE.go (st_alen (k := 24) (pc' := 53) (by decide +kernel) rfl ak_24 rfl (by decide) g36) ?_
        refine XE.bite (fun h37 => ?_) (fun h38 => ?_)
        · refine XE.go (st_icmp_gt_t (off := 88) (pc' := 141) (by decide +kernel) (by decide) h37) ?_
          exact XE.pick [] rfl (he33 s8.2)
        · refine XE.go (st_icmp_gt_f (off := 88) (pc' := 56) (by decide +kernel) 141 (by decide) rfl h38) ?_
          refine XE.go (st_aload_n (j := 0) (i := 0) (pc' := 57) (by decide +kernel) rfl rfl (by decide) rfl) ?_
          refine XE.go (st_aload_n (j := 1) (i := 1) (pc' := 58) (by decide +kernel) rfl rfl (by decide) rfl) ?_
          refine XE.go (st_get (pc' := 61) (by decide +kernel) rfl cls_3 fld_RX0_193 rfl rfl g1) ?_
          refine XE.go (st_iload (j := 4) (pc' := 63) (by decide +kernel) rfl rfl) ?_
          refine XE.go (st_iadd (pc' := 64) (by decide +kernel) rfl) ?_
          refine XE.go (st_aload_n (j := 0) (i := 0) (pc' := 65) (by decide +kernel) rfl rfl (by decide) rfl) ?_
          refine XE.go (st_get (pc' := 68) (by decide +kernel) rfl cls_0 fld_RX0_11 rfl rfl h0) ?_
          refine XE.go (st_alen (k := 24) (pc' := 69) (by decide +kernel) rfl ak_24 rfl (by decide) g36) ?_
          refine XE.gdb (fun g39 => ?_)
          refine XE.go (st_irem (pc' := 70) (by decide +kernel) g39 rfl) ?_
          refine XE.asc ?_
          refine XE.cP (pc' := 73) (st := []) (fun r hr => ct_X0_shareAt h0 r hr) (fun r hr => run_V (st := []) (by decide +kernel) co_X0_deliverNext_196 (ct_X0_shareAt h0 r hr) rfl h0 rfl rfl (Nat.le_of_ble_eq_true rfl)) rfl rfl (fun r40 => ?_)
          refine XE.go (st_astore (j := 5) (pc' := 75) (by decide +kernel)  (by decide) rfl (by decide) rfl rfl) ?_
          refine XE.go (st_aload (j := 5) (pc' := 77) (by decide +kernel) rfl (by decide) rfl) ?_
          refine XE.bite (fun h41 => ?_) (fun h42 => ?_)
          · refine XE.go (st_ifnull_t (off := 58) (pc' := 135) (by decide +kernel) (by decide) h41 (by decide)) ?_
            refine XE.go (st_iinc (j := 4) (n := 1) (pc' := 138) (by decide +kernel) rfl rfl (by decide) rfl rfl) ?_
            refine XE.go (st_goto (off := (-92)) (pc' := 46) (by decide +kernel) (by decide)) ?_
            exact XE.pick [2, 3, 4, 0] rfl (hc32 ((w (s8.1 + 1)), s8.2))
          · refine XE.go (st_ifnull_f (off := 58) (pc' := 80) (by decide +kernel) (by decide) h42 rfl) ?_
            refine XE.go (st_aload (j := 5) (pc' := 82) (by decide +kernel) rfl (by decide) rfl) ?_
            refine XE.go (st_get (pc' := 85) (by decide +kernel) rfl cls_8 fld_RX0_76 rfl rfl h42) ?_
            refine XE.go (st_aload_n (j := 1) (i := 1) (pc' := 86) (by decide +kernel) rfl rfl (by decide) rfl) ?_
            refine XE.bite (fun h43 => ?_) (fun h44 => ?_)
            · refine XE.go (st_acmp_ne_f (off := 49) (pc' := 89) (by decide +kernel) 135 (by decide) (by decide) (by decide) h43 rfl) ?_
              refine XE.go (st_aload (j := 5) (pc' := 91) (by decide +kernel) rfl (by decide) rfl) ?_
              refine XE.go (st_get (pc' := 94) (by decide +kernel) rfl cls_8 fld_RX0_130 rfl rfl h42) ?_
              refine XE.gdb (fun g45 => ?_)
              refine XE.go (st_get (pc' := 97) (by decide +kernel) rfl cls_5 fld_RX0_200 rfl rfl g45) ?_
              refine XE.bite (fun h46 => ?_) (fun h47 => ?_)
              · refine XE.go (st_ifnull_t (off := 38) (pc' := 135) (by decide +kernel) (by decide) h46 (by decide)) ?_
                refine XE.go (st_iinc (j := 4) (n := 1) (pc' := 138) (by decide +kernel) rfl rfl (by decide) rfl rfl) ?_
                refine XE.go (st_goto (off := (-92)) (pc' := 46) (by decide +kernel) (by decide)) ?_
                exact XE.pick [2, 3, 4, 0] rfl (hc32 ((w (s8.1 + 1)), s8.2))
              · refine XE.go (st_ifnull_f (off := 38) (pc' := 100) (by decide +kernel) (by decide) h47 rfl) ?_
                refine XE.go (st_aload_n (j := 0) (i := 0) (pc' := 101) (by decide +kernel) rfl rfl (by decide) rfl) ?_
                refine XE.go (st_aload (j := 5) (pc' := 103) (by decide +kernel) rfl (by decide) rfl) ?_
                refine XE.go (st_iload_n (j := 2) (i := 2) (pc' := 104) (by decide +kernel) rfl rfl rfl) ?_
                refine XE.asc ?_
                refine XE.cW (pc' := 107) (st := []) (fun r hr => ct_X0_nextOfLog h0 r hr) (fun r hr => run_V (st := []) (by decide +kernel) co_X0_deliverNext_204 (ct_X0_nextOfLog h0 r hr) rfl h0 rfl rfl (Nat.le_of_ble_eq_true rfl)) rfl rfl (fun r48 => ?_)
                refine XE.go (st_astore (j := 6) (pc' := 109) (by decide +kernel)  (by decide) rfl (by decide) rfl rfl) ?_
                refine XE.go (st_aload (j := 6) (pc' := 111) (by decide +kernel) rfl (by decide) rfl) ?_
                refine XE.bite (fun h49 => ?_) (fun h50 => ?_)
                · refine XE.go (st_ifnull_t (off := 24) (pc' := 135) (by decide +kernel) (by decide) h49 (by decide)) ?_
                  refine XE.go (st_iinc (j := 4) (n := 1) (pc' := 138) (by decide +kernel) rfl rfl (by decide) rfl rfl) ?_
                  refine XE.go (st_goto (off := (-92)) (pc' := 46) (by decide +kernel) (by decide)) ?_
                  exact XE.pick [3, 4, 5, 0] rfl (hc32 ((w (s8.1 + 1)), r48.2))
                · refine XE.go (st_ifnull_f (off := 24) (pc' := 114) (by decide +kernel) (by decide) h50 rfl) ?_
                  refine XE.go (st_aload_n (j := 1) (i := 1) (pc' := 115) (by decide +kernel) rfl rfl (by decide) rfl) ?_
                  refine XE.go (st_aload (j := 5) (pc' := 117) (by decide +kernel) rfl (by decide) rfl) ?_
                  refine XE.go (st_get (pc' := 120) (by decide +kernel) rfl cls_8 fld_RX0_130 rfl rfl h42) ?_
                  refine XE.gdb (fun g51 => ?_)
                  refine XE.go (st_get (pc' := 123) (by decide +kernel) rfl cls_5 fld_RX0_57 rfl rfl g51) ?_
                  refine XE.asc ?_
                  refine XE.goM (st_put (pc' := 126) (by decide +kernel) rfl cls_3 fld_RX0_193 rfl rfl (fun h => absurd h (by decide)) (fun h => nomatch h) g1) (fun M52 => ?_)
                  refine XE.go (st_aload_n (j := 0) (i := 0) (pc' := 127) (by decide +kernel) rfl rfl (by decide) rfl) ?_
                  refine XE.go (st_aload_n (j := 1) (i := 1) (pc' := 128) (by decide +kernel) rfl rfl (by decide) rfl) ?_
                  refine XE.go (st_aload (j := 6) (pc' := 130) (by decide +kernel) rfl (by decide) rfl) ?_
                  refine XE.go (st_iconst (n := 0) (pc' := 131) (by decide +kernel) (w_eq (by decide) (by decide)) rfl) ?_
                  refine XE.asc ?_
                  refine XE.cW (pc' := 134) (st := []) (fun r hr => ct_X0_deliver h0 r hr) (fun r hr => run_V (st := []) (by decide +kernel) co_X0_deliverNext_189 (ct_X0_deliver h0 r hr) rfl h0 rfl rfl (Nat.le_of_ble_eq_true rfl)) rfl rfl (fun r53 => ?_)
                  refine XE.cast (hx34 _) ?_
                  exact XE.rt rfl (X_aret (by decide +kernel) rfl (Or.inl ⟨_, rfl⟩) (by decide))
            · refine XE.go (st_acmp_ne_t (off := 49) (pc' := 135) (by decide +kernel) (by decide) (by decide) h44 (by decide)) ?_
              refine XE.go (st_iinc (j := 4) (n := 1) (pc' := 138) (by decide +kernel) rfl rfl (by decide) rfl rfl) ?_
              refine XE.go (st_goto (off := (-92)) (pc' := 46) (by decide +kernel) (by decide)) ?_
              exact XE.pick [2, 3, 4, 0] rfl (hc32 ((w (s8.1 + 1)), s8.2))
      · refine XE.go (st_null (t := 5) (pc' := 142) (by decide +kernel) (by decide) rfl) ?_
        exact XE.rt rfl (X_aret (by decide +kernel) rfl (Or.inl ⟨_, rfl⟩) (by decide))
    · refine XE.go (st_ifnull_f (off := 19) (pc' := 27) (by decide +kernel) (by decide) h7 rfl) ?_
      refine XE.go (st_aload_n (j := 0) (i := 0) (pc' := 28) (by decide +kernel) rfl rfl (by decide) rfl) ?_
      refine XE.go (st_get (pc' := 31) (by decide +kernel) rfl cls_0 fld_RX0_34 rfl rfl h0) ?_
      refine XE.go (st_aload_n (j := 3) (i := 3) (pc' := 32) (by decide +kernel) rfl rfl (by decide) rfl) ?_
      refine XE.gd_ (fun g54 => ?_)
      refine XE.cV (pc' := 35) (st := []) (fun r hr => ct_X2_removeLetter g54 r hr) (fun r hr => run_V (st := []) (by decide +kernel) co_X0_deliverNext_161 (ct_X2_removeLetter g54 r hr) rfl g54 rfl rfl (Nat.le_of_ble_eq_true rfl)) rfl rfl (fun M55 => ?_)
      refine XE.go (st_aload_n (j := 0) (i := 0) (pc' := 36) (by decide +kernel) rfl rfl (by decide) rfl) ?_
      refine XE.go (st_aload_n (j := 1) (i := 1) (pc' := 37) (by decide +kernel) rfl rfl (by decide) rfl) ?_
      refine XE.go (st_aload_n (j := 3) (i := 3) (pc' := 38) (by decide +kernel) rfl rfl (by decide) rfl) ?_
      refine XE.go (st_iconst (n := 1) (pc' := 39) (by decide +kernel) (w_eq (by decide) (by decide)) rfl) ?_
      refine XE.cW (pc' := 42) (st := []) (fun r hr => ct_X0_deliver h0 r hr) (fun r hr => run_V (st := []) (by decide +kernel) co_X0_deliverNext_189 (ct_X0_deliver h0 r hr) rfl h0 rfl rfl (Nat.le_of_ble_eq_true rfl)) rfl rfl (fun r56 => ?_)
      exact XE.rt rfl (X_aret (by decide +kernel) rfl (Or.inl ⟨_, rfl⟩) (by decide))
  · refine XE.go (st_icmp_lt_f (off := 5) (pc' := 14) (by decide +kernel) 16 (by decide) rfl h4) ?_
    refine XE.go (st_null (t := 5) (pc' := 15) (by decide +kernel) (by decide) rfl) ?_
    exact XE.rt rfl (X_aret (by decide +kernel) rfl (Or.inl ⟨_, rfl⟩) (by decide))
theorem ct_X0_deliverNext {D : Dt} {M : Mm} {a0 a1 a2 : Int} (h0 : a0 ≠ 0) (r : (Int × Mm)) (hr : p_X0_deliverNext M a0 a1 a2 = some r) : CT D 0 mu_X0_deliverNext [(4, a0), (7, a1), (0, a2)] M (.inl (some (5, r.1))) r.2 := CT.of (by decide +kernel) rfl (Nat.le_of_ble_eq_true rfl) (xe_X0_deliverNext h0 r hr)
def p_X10_read (M : Mm) (a0 a1 a2 : Int) : Option (Int × Int × Mm) := (p_X10_groupOf M a0 a1).bind (thT psT fun v1 M2 => (p_X10_memberOf M2 v1 a2).bind (thT psT fun v3 M4 => gd (v1 ≠ 0) ((p_X0_deliverNext M4 v1 v3 (rd M4 a0 15)).bind fun r6 => if r6.1 = 0 then some (0, (-1), r6.2) else gd ((rd r6.2 r6.1 0) ≠ 0) (some (0, (rd r6.2 (rd r6.2 r6.1 0) 0), r6.2)))))
set_option maxRecDepth 100000 in
set_option maxHeartbeats 4000000 in
theorem xe_X10_read {D : Dt} {M : Mm} {a0 a1 a2 : Int} (h0 : a0 ≠ 0) : XE D 0 mu_X10_read (ET 0) 0 [(0, (14, a0)), (1, (0, a1)), (2, (0, a2))] [] M (p_X10_read M a0 a1 a2) := by
  unfold p_X10_read
  refine XE.go (st_aload_n (j := 0) (i := 0) (pc' := 1) (by decide +kernel) rfl rfl (by decide) rfl) ?_
  refine XE.go (st_iload_n (j := 1) (i := 1) (pc' := 2) (by decide +kernel) rfl rfl rfl) ?_
  refine XE.cTg (pc' := 5) (st := []) hfT (fun r hr => ct_X10_groupOf h0 r hr) (fun r hr => run_V (st := []) (by decide +kernel) co_X10_read_334 (ct_X10_groupOf h0 r hr) rfl h0 rfl rfl (Nat.le_of_ble_eq_true rfl)) rfl rfl rfl (fun v1 M2 => ?_)
  refine XE.go (st_astore_n (j := 3) (i := 3) (pc' := 6) (by decide +kernel) rfl (by decide) rfl (by decide) rfl rfl) ?_
  refine XE.go (st_aload_n (j := 3) (i := 3) (pc' := 7) (by decide +kernel) rfl rfl (by decide) rfl) ?_
  refine XE.go (st_aload_n (j := 3) (i := 3) (pc' := 8) (by decide +kernel) rfl rfl (by decide) rfl) ?_
  refine XE.go (st_iload_n (j := 2) (i := 2) (pc' := 9) (by decide +kernel) rfl rfl rfl) ?_
  refine XE.cTg (pc' := 12) (st := [(4, v1)]) hfT (fun r hr => ct_X10_memberOf r hr) (fun r hr => run_S (st := [(4, v1)]) (by decide +kernel) co_X10_read_338 (ct_X10_memberOf r hr) rfl rfl (Nat.le_of_ble_eq_true rfl)) rfl rfl rfl (fun v3 M4 => ?_)
  refine XE.go (st_aload_n (j := 0) (i := 0) (pc' := 13) (by decide +kernel) rfl rfl (by decide) rfl) ?_
  refine XE.go (st_get (pc' := 16) (by decide +kernel) rfl cls_10 fld_RX10_70 rfl rfl h0) ?_
  refine XE.gd_ (fun g5 => ?_)
  refine XE.cW (pc' := 19) (st := []) (fun r hr => ct_X0_deliverNext g5 r hr) (fun r hr => run_V (st := []) (by decide +kernel) co_X10_read_420 (ct_X0_deliverNext g5 r hr) rfl g5 rfl rfl (Nat.le_of_ble_eq_true rfl)) rfl rfl (fun r6 => ?_)
  refine XE.go (st_astore (j := 4) (pc' := 21) (by decide +kernel)  (by decide) rfl (by decide) rfl rfl) ?_
  refine XE.go (st_aload (j := 4) (pc' := 23) (by decide +kernel) rfl (by decide) rfl) ?_
  refine XE.ite (fun h7 => ?_) (fun h8 => ?_)
  · refine XE.go (st_ifnonnull_f (off := 7) (pc' := 26) (by decide +kernel) (by decide) h7 rfl) ?_
    refine XE.go (st_iconst (n := (-1)) (pc' := 27) (by decide +kernel) (w_eq (by decide) (by decide)) rfl) ?_
    refine XE.go (st_goto (off := 11) (pc' := 38) (by decide +kernel) (by decide)) ?_
    exact XE.rt rfl (X_iret (by decide +kernel) rfl)
  · refine XE.go (st_ifnonnull_t (off := 7) (pc' := 30) (by decide +kernel) (by decide) h8 (by decide)) ?_
    refine XE.go (st_aload (j := 4) (pc' := 32) (by decide +kernel) rfl (by decide) rfl) ?_
    refine XE.go (st_get (pc' := 35) (by decide +kernel) rfl cls_1 fld_RX10_424 rfl rfl h8) ?_
    refine XE.gd_ (fun g9 => ?_)
    refine XE.go (st_get (pc' := 38) (by decide +kernel) rfl cls_4 fld_RX10_323 rfl rfl g9) ?_
    exact XE.rt rfl (X_iret (by decide +kernel) rfl)
theorem ct_X10_read {D : Dt} {M : Mm} {a0 a1 a2 : Int} (h0 : a0 ≠ 0) (r : (Int × Int × Mm)) (hr : p_X10_read M a0 a1 a2 = some r) : CT D 0 mu_X10_read [(14, a0), (0, a1), (0, a2)] M (ET 0 r).1 (ET 0 r).2 := CT.of (by decide +kernel) rfl (Nat.le_of_ble_eq_true rfl) (xe_X10_read h0 r hr)
def b_X2_ofMessage_2 (M : Mm) (a0 : Int) (a1 : Int) (s1 : Int) : Option ((Int) ⊕ ((Int) ⊕ (Unit))) := if s1 < (rd M a0 1) then (p_X2_get M a0 s1).bind fun r21 => if r21 = 0 then some (.inl (w (s1 + 1))) else gd ((rd M r21 0) ≠ 0) (if (rd M (rd M r21 0) 0) = a1 then some (.inr (.inl (r21))) else some (.inl (w (s1 + 1)))) else some (.inr (.inr ()))
def p_X2_ofMessage (M : Mm) (a0 a1 : Int) : Option Int := (lp (b_X2_ofMessage_2 M a0 a1) 1000 0).bind (Sum.elim some fun (t2 : Unit) => some (0))
set_option maxRecDepth 100000 in
set_option maxHeartbeats 4000000 in
theorem xe_X2_ofMessage {D : Dt} {M : Mm} {a0 a1 : Int} (h0 : a0 ≠ 0) : XE D 0 mu_X2_ofMessage (EP 5 M) 0 [(0, (6, a0)), (1, (0, a1))] [] M (p_X2_ofMessage M a0 a1) := by
  unfold p_X2_ofMessage
  refine XE.go (st_iconst (n := 0) (pc' := 1) (by decide +kernel) (w_eq (by decide) (by decide)) rfl) ?_
  refine XE.go (st_istore_n (j := 2) (i := 2) (pc' := 2) (by decide +kernel) rfl rfl (by decide) rfl rfl) ?_
  refine XE.pick [1, 2, 0] (L' := [(0, (6, a0)), (1, (0, a1)), (2, (0, 0))]) rfl ?_
  refine XE.loopX (n := 1000) (s0 := 0) (pcL := 2) (pcE := 39) (LL := fun (s1 : Int) => [(0, (6, a0)), (1, (0, a1)), (2, (0, s1))]) (sL := fun _ => []) (ML := fun (s1 : Int) => M) (LE := fun (t2 : Unit) => []) (sE := fun _ => []) (ME := fun (t2 : Unit) => M) (fun kk18 hx17 hc15 he16 s1 => ?_) (fun t2 => ?_)
  · unfold b_X2_ofMessage_2
    refine XE.go (st_iload_n (j := 2) (i := 2) (pc' := 3) (by decide +kernel) rfl rfl rfl) ?_
    refine XE.go (st_aload_n (j := 0) (i := 0) (pc' := 4) (by decide +kernel) rfl rfl (by decide) rfl) ?_
    refine XE.go (st_get (pc' := 7) (by decide +kernel) rfl cls_2 fld_RX2_7 rfl rfl h0) ?_
    refine XE.bite (fun h19 => ?_) (fun h20 => ?_)
    · refine XE.go (st_icmp_ge_f (off := 32) (pc' := 10) (by decide +kernel) 39 (by decide) rfl (Int.not_le.mpr h19)) ?_
      refine XE.go (st_aload_n (j := 0) (i := 0) (pc' := 11) (by decide +kernel) rfl rfl (by decide) rfl) ?_
      refine XE.go (st_iload_n (j := 2) (i := 2) (pc' := 12) (by decide +kernel) rfl rfl rfl) ?_
      refine XE.asc ?_
      refine XE.cP (pc' := 15) (st := []) (fun r hr => ct_X2_get h0 r hr) (fun r hr => run_V (st := []) (by decide +kernel) co_X2_ofMessage_19 (ct_X2_get h0 r hr) rfl h0 rfl rfl (Nat.le_of_ble_eq_true rfl)) rfl rfl (fun r21 => ?_)
      refine XE.go (st_astore_n (j := 3) (i := 3) (pc' := 16) (by decide +kernel) rfl (by decide) rfl (by decide) rfl rfl) ?_
      refine XE.go (st_aload_n (j := 3) (i := 3) (pc' := 17) (by decide +kernel) rfl rfl (by decide) rfl) ?_
      refine XE.bite (fun h22 => ?_) (fun h23 => ?_)
      · refine XE.go (st_ifnull_t (off := 16) (pc' := 33) (by decide +kernel) (by decide) h22 (by decide)) ?_
        refine XE.go (st_iinc (j := 2) (n := 1) (pc' := 36) (by decide +kernel) rfl rfl (by decide) rfl rfl) ?_
        refine XE.go (st_goto (off := (-34)) (pc' := 2) (by decide +kernel) (by decide)) ?_
        exact XE.pick [2, 3, 0] rfl (hc15 (w (s1 + 1)))
      · refine XE.go (st_ifnull_f (off := 16) (pc' := 20) (by decide +kernel) (by decide) h23 rfl) ?_
        refine XE.go (st_aload_n (j := 3) (i := 3) (pc' := 21) (by decide +kernel) rfl rfl (by decide) rfl) ?_
        refine XE.go (st_get (pc' := 24) (by decide +kernel) rfl cls_1 fld_RX2_23 rfl rfl h23) ?_
        refine XE.gdb (fun g24 => ?_)
        refine XE.go (st_get (pc' := 27) (by decide +kernel) rfl cls_4 fld_RX2_27 rfl rfl g24) ?_
        refine XE.go (st_iload_n (j := 1) (i := 1) (pc' := 28) (by decide +kernel) rfl rfl rfl) ?_
        refine XE.bite (fun h25 => ?_) (fun h26 => ?_)
        · refine XE.go (st_icmp_ne_f (off := 5) (pc' := 31) (by decide +kernel) 33 (by decide) rfl (not_not_intro h25)) ?_
          refine XE.go (st_aload_n (j := 3) (i := 3) (pc' := 32) (by decide +kernel) rfl rfl (by decide) rfl) ?_
          refine XE.cast (hx17 _) ?_
          exact XE.rt rfl (X_aret (by decide +kernel) rfl (Or.inl ⟨_, rfl⟩) (by decide))
        · refine XE.go (st_icmp_ne_t (off := 5) (pc' := 33) (by decide +kernel) (by decide) h26) ?_
          refine XE.go (st_iinc (j := 2) (n := 1) (pc' := 36) (by decide +kernel) rfl rfl (by decide) rfl rfl) ?_
          refine XE.go (st_goto (off := (-34)) (pc' := 2) (by decide +kernel) (by decide)) ?_
          exact XE.pick [2, 3, 0] rfl (hc15 (w (s1 + 1)))
    · refine XE.go (st_icmp_ge_t (off := 32) (pc' := 39) (by decide +kernel) (by decide) (Int.not_lt.mp h20)) ?_
      exact XE.pick [] rfl (he16 ())
  · refine XE.go (st_null (t := 5) (pc' := 40) (by decide +kernel) (by decide) rfl) ?_
    exact XE.rt rfl (X_aret (by decide +kernel) rfl (Or.inl ⟨_, rfl⟩) (by decide))
theorem ct_X2_ofMessage {D : Dt} {M : Mm} {a0 a1 : Int} (h0 : a0 ≠ 0) (r : Int) (hr : p_X2_ofMessage M a0 a1 = some r) : CT D 0 mu_X2_ofMessage [(6, a0), (0, a1)] M (.inl (some (5, r))) M := CT.of (by decide +kernel) rfl (Nat.le_of_ble_eq_true rfl) (xe_X2_ofMessage h0 r hr)
def p_X10_letterInHand (M : Mm) (a0 a1 : Int) : Option (Int × Int × Mm) := gd (a0 ≠ 0) (gd ((rd M a0 1) ≠ 0) ((p_X2_ofMessage M (rd M a0 1) a1).bind fun r3 => if r3 = 0 then psT 3 0 (thr M) else some (0, r3, M)))
set_option maxRecDepth 100000 in
set_option maxHeartbeats 4000000 in
theorem xe_X10_letterInHand {D : Dt} {M : Mm} {a0 a1 : Int} : XE D 0 mu_X10_letterInHand (ET 5) 0 [(0, (7, a0)), (1, (0, a1))] [] M (p_X10_letterInHand M a0 a1) := by
  unfold p_X10_letterInHand
  refine XE.go (st_aload_n (j := 0) (i := 0) (pc' := 1) (by decide +kernel) rfl rfl (by decide) rfl) ?_
  refine XE.gd_ (fun g1 => ?_)
  refine XE.go (st_get (pc' := 4) (by decide +kernel) rfl cls_3 fld_RX10_408 rfl rfl g1) ?_
  refine XE.go (st_iload_n (j := 1) (i := 1) (pc' := 5) (by decide +kernel) rfl rfl rfl) ?_
  refine XE.gd_ (fun g2 => ?_)
  refine XE.cP (pc' := 8) (st := []) (fun r hr => ct_X2_ofMessage g2 r hr) (fun r hr => run_V (st := []) (by decide +kernel) co_X10_letterInHand_657 (ct_X2_ofMessage g2 r hr) rfl g2 rfl rfl (Nat.le_of_ble_eq_true rfl)) rfl rfl (fun r3 => ?_)
  refine XE.go (st_astore_n (j := 2) (i := 2) (pc' := 9) (by decide +kernel) rfl (by decide) rfl (by decide) rfl rfl) ?_
  refine XE.go (st_aload_n (j := 2) (i := 2) (pc' := 10) (by decide +kernel) rfl rfl (by decide) rfl) ?_
  refine XE.ite (fun h4 => ?_) (fun h5 => ?_)
  · refine XE.go (st_ifnonnull_f (off := 14) (pc' := 13) (by decide +kernel) (by decide) h4 rfl) ?_
    exact XE.thrTW (by decide +kernel) (by decide +kernel) (by decide +kernel) (by decide +kernel) (by decide +kernel) thr_RX10_660 rfl (by decide) (by decide) (by decide)
  · refine XE.go (st_ifnonnull_t (off := 14) (pc' := 24) (by decide +kernel) (by decide) h5 (by decide)) ?_
    refine XE.go (st_aload_n (j := 2) (i := 2) (pc' := 25) (by decide +kernel) rfl rfl (by decide) rfl) ?_
    exact XE.rt rfl (X_aret (by decide +kernel) rfl (Or.inl ⟨_, rfl⟩) (by decide))
theorem ct_X10_letterInHand {D : Dt} {M : Mm} {a0 a1 : Int} (r : (Int × Int × Mm)) (hr : p_X10_letterInHand M a0 a1 = some r) : CT D 0 mu_X10_letterInHand [(7, a0), (0, a1)] M (ET 5 r).1 (ET 5 r).2 := CT.of (by decide +kernel) rfl (Nat.le_of_ble_eq_true rfl) (xe_X10_letterInHand r hr)
def p_X10_done (M : Mm) (a0 a1 a2 a3 : Int) : Option (Int × Int × Mm) := (p_X10_groupOf M a0 a1).bind (thT psT fun v1 M2 => (p_X10_memberOf M2 v1 a2).bind (thT psT fun v3 M4 => (p_X10_letterInHand M4 v3 a3).bind (thT psT fun v5 M6 => gd (v5 ≠ 0) ((some (wr M6 v5 1 0)).bind fun M8 => gd (v3 ≠ 0) (gd ((rd M8 v3 1) ≠ 0) ((p_X2_removeLetter M8 (rd M8 v3 1) v5).bind fun M11 => gd ((rd M11 v3 1) ≠ 0) (some (0, (rd M11 (rd M11 v3 1) 1), M11))))))))
set_option maxRecDepth 100000 in
set_option maxHeartbeats 4000000 in
theorem xe_X10_done {D : Dt} {M : Mm} {a0 a1 a2 a3 : Int} (h0 : a0 ≠ 0) : XE D 0 mu_X10_done (ET 0) 0 [(0, (14, a0)), (1, (0, a1)), (2, (0, a2)), (3, (0, a3))] [] M (p_X10_done M a0 a1 a2 a3) := by
  unfold p_X10_done
  refine XE.go (st_aload_n (j := 0) (i := 0) (pc' := 1) (by decide +kernel) rfl rfl (by decide) rfl) ?_
  refine XE.go (st_iload_n (j := 1) (i := 1) (pc' := 2) (by decide +kernel) rfl rfl rfl) ?_
  refine XE.cTg (pc' := 5) (st := []) hfT (fun r hr => ct_X10_groupOf h0 r hr) (fun r hr => run_V (st := []) (by decide +kernel) co_X10_done_334 (ct_X10_groupOf h0 r hr) rfl h0 rfl rfl (Nat.le_of_ble_eq_true rfl)) rfl rfl rfl (fun v1 M2 => ?_)
  refine XE.go (st_iload_n (j := 2) (i := 2) (pc' := 6) (by decide +kernel) rfl rfl rfl) ?_
  refine XE.cTg (pc' := 9) (st := []) hfT (fun r hr => ct_X10_memberOf r hr) (fun r hr => run_S (st := []) (by decide +kernel) co_X10_done_338 (ct_X10_memberOf r hr) rfl rfl (Nat.le_of_ble_eq_true rfl)) rfl rfl rfl (fun v3 M4 => ?_)
  refine XE.go (st_astore (j := 4) (pc' := 11) (by decide +kernel)  (by decide) rfl (by decide) rfl rfl) ?_
  refine XE.go (st_aload (j := 4) (pc' := 13) (by decide +kernel) rfl (by decide) rfl) ?_
  refine XE.go (st_iload_n (j := 3) (i := 3) (pc' := 14) (by decide +kernel) rfl rfl rfl) ?_
  refine XE.cTg (pc' := 17) (st := []) hfT (fun r hr => ct_X10_letterInHand r hr) (fun r hr => run_S (st := []) (by decide +kernel) co_X10_done_430 (ct_X10_letterInHand r hr) rfl rfl (Nat.le_of_ble_eq_true rfl)) rfl rfl rfl (fun v5 M6 => ?_)
  refine XE.go (st_astore (j := 5) (pc' := 19) (by decide +kernel)  (by decide) rfl (by decide) rfl rfl) ?_
  refine XE.go (st_aload (j := 5) (pc' := 21) (by decide +kernel) rfl (by decide) rfl) ?_
  refine XE.go (st_iconst (n := 0) (pc' := 22) (by decide +kernel) (w_eq (by decide) (by decide)) rfl) ?_
  refine XE.gd_ (fun g7 => ?_)
  refine XE.goM (st_put (pc' := 25) (by decide +kernel) rfl cls_1 fld_RX10_433 rfl rfl (fun h => absurd h (by decide)) (fun h => nomatch h) g7) (fun M8 => ?_)
  refine XE.go (st_aload (j := 4) (pc' := 27) (by decide +kernel) rfl (by decide) rfl) ?_
  refine XE.gd_ (fun g9 => ?_)
  refine XE.go (st_get (pc' := 30) (by decide +kernel) rfl cls_3 fld_RX10_408 rfl rfl g9) ?_
  refine XE.go (st_aload (j := 5) (pc' := 32) (by decide +kernel) rfl (by decide) rfl) ?_
  refine XE.gd_ (fun g10 => ?_)
  refine XE.cV (pc' := 35) (st := []) (fun r hr => ct_X2_removeLetter g10 r hr) (fun r hr => run_V (st := []) (by decide +kernel) co_X10_done_436 (ct_X2_removeLetter g10 r hr) rfl g10 rfl rfl (Nat.le_of_ble_eq_true rfl)) rfl rfl (fun M11 => ?_)
  refine XE.go (st_aload (j := 4) (pc' := 37) (by decide +kernel) rfl (by decide) rfl) ?_
  refine XE.go (st_get (pc' := 40) (by decide +kernel) rfl cls_3 fld_RX10_408 rfl rfl g9) ?_
  refine XE.gd_ (fun g12 => ?_)
  refine XE.go (st_get (pc' := 43) (by decide +kernel) rfl cls_2 fld_RX10_412 rfl rfl g12) ?_
  exact XE.rt rfl (X_iret (by decide +kernel) rfl)
theorem ct_X10_done {D : Dt} {M : Mm} {a0 a1 a2 a3 : Int} (h0 : a0 ≠ 0) (r : (Int × Int × Mm)) (hr : p_X10_done M a0 a1 a2 a3 = some r) : CT D 0 mu_X10_done [(14, a0), (0, a1), (0, a2), (0, a3)] M (ET 0 r).1 (ET 0 r).2 := CT.of (by decide +kernel) rfl (Nat.le_of_ble_eq_true rfl) (xe_X10_done h0 r hr)
def b_X0_sendBackBehind_11 (a1 : Int) (a2 : Int) (a0 : Int) (a3 : Int) (s5 : Int × Mm) : Option ((Int × Mm) ⊕ ((Mm) ⊕ (Mm))) := if s5.1 < 0 then some (.inr (.inr s5.2)) else gd ((rd s5.2 a1 1) ≠ 0) ((p_X2_get s5.2 (rd s5.2 a1 1) s5.1).bind fun r32 => if r32 = a2 then some (.inr (.inl (s5.2))) else if r32 = 0 then some (.inl ((w (s5.1 + (-1))), s5.2)) else gd (a2 ≠ 0) ((p_X1_isOfRow s5.2 r32 (rd s5.2 a2 0)).bind fun r38 => if r38 = 0 then some (.inl ((w (s5.1 + (-1))), s5.2)) else (p_X2_removeLetter s5.2 (rd s5.2 a1 1) r32).bind fun M41 => (p_X0_putInRow M41 a0 r32 a3).bind fun M42 => some (.inl ((w (s5.1 + (-1))), M42))))
def p_X0_sendBackBehind (M : Mm) (a0 a1 a2 a3 : Int) : Option Mm := gd (a1 ≠ 0) (gd ((rd M a1 1) ≠ 0) ((some ((w ((rd M (rd M a1 1) 1) - 1)))).bind fun v3 => (lp (b_X0_sendBackBehind_11 a1 a2 a0 a3) 1000 (v3, M)).bind (Sum.elim some fun (t6 : Mm) => some (t6))))
set_option maxRecDepth 100000 in
set_option maxHeartbeats 4000000 in
theorem xe_X0_sendBackBehind {D : Dt} {M : Mm} {a0 a1 a2 a3 : Int} (h0 : a0 ≠ 0) : XE D 0 mu_X0_sendBackBehind EV 0 [(0, (4, a0)), (1, (7, a1)), (2, (5, a2)), (3, (0, a3))] [] M (p_X0_sendBackBehind M a0 a1 a2 a3) := by
  unfold p_X0_sendBackBehind
  refine XE.go (st_aload_n (j := 1) (i := 1) (pc' := 1) (by decide +kernel) rfl rfl (by decide) rfl) ?_
  refine XE.gd_ (fun g1 => ?_)
  refine XE.go (st_get (pc' := 4) (by decide +kernel) rfl cls_3 fld_RX0_146 rfl rfl g1) ?_
  refine XE.gd_ (fun g2 => ?_)
  refine XE.go (st_get (pc' := 7) (by decide +kernel) rfl cls_2 fld_RX0_149 rfl rfl g2) ?_
  refine XE.go (st_iconst (n := 1) (pc' := 8) (by decide +kernel) (w_eq (by decide) (by decide)) rfl) ?_
  refine XE.go (st_isub (pc' := 9) (by decide +kernel) rfl) ?_
  refine XE.gen (fun v3 e4 => ?_)
  refine XE.go (st_istore (j := 4) (pc' := 11) (by decide +kernel)  rfl (by decide) rfl rfl) ?_
  refine XE.pick [1, 2, 3, 4, 0] (L' := [(0, (4, a0)), (1, (7, a1)), (2, (5, a2)), (3, (0, a3)), (4, (0, v3))]) rfl ?_
  refine XE.loopX (n := 1000) (s0 := (v3, M)) (pcL := 11) (pcE := 73) (LL := fun (s5 : Int × Mm) => [(0, (4, a0)), (1, (7, a1)), (2, (5, a2)), (3, (0, a3)), (4, (0, s5.1))]) (sL := fun _ => []) (ML := fun (s5 : Int × Mm) => s5.2) (LE := fun (t6 : Mm) => []) (sE := fun _ => []) (ME := fun (t6 : Mm) => t6) (fun kk28 hx27 hc25 he26 s5 => ?_) (fun t6 => ?_)
  · unfold b_X0_sendBackBehind_11
    refine XE.go (st_iload (j := 4) (pc' := 13) (by decide +kernel) rfl rfl) ?_
    refine XE.bite (fun h29 => ?_) (fun h30 => ?_)
    · refine XE.go (st_if_lt_t (off := 60) (pc' := 73) (by decide +kernel) (by decide) h29) ?_
      exact XE.pick [] rfl (he26 s5.2)
    · refine XE.go (st_if_lt_f (off := 60) (pc' := 16) (by decide +kernel) 73 (by decide) rfl h30) ?_
      refine XE.go (st_aload_n (j := 1) (i := 1) (pc' := 17) (by decide +kernel) rfl rfl (by decide) rfl) ?_
      refine XE.go (st_get (pc' := 20) (by decide +kernel) rfl cls_3 fld_RX0_146 rfl rfl g1) ?_
      refine XE.go (st_iload (j := 4) (pc' := 22) (by decide +kernel) rfl rfl) ?_
      refine XE.gdb (fun g31 => ?_)
      refine XE.asc ?_
      refine XE.cP (pc' := 25) (st := []) (fun r hr => ct_X2_get g31 r hr) (fun r hr => run_V (st := []) (by decide +kernel) co_X0_sendBackBehind_152 (ct_X2_get g31 r hr) rfl g31 rfl rfl (Nat.le_of_ble_eq_true rfl)) rfl rfl (fun r32 => ?_)
      refine XE.go (st_astore (j := 5) (pc' := 27) (by decide +kernel)  (by decide) rfl (by decide) rfl rfl) ?_
      refine XE.go (st_aload (j := 5) (pc' := 29) (by decide +kernel) rfl (by decide) rfl) ?_
      refine XE.go (st_aload_n (j := 2) (i := 2) (pc' := 30) (by decide +kernel) rfl rfl (by decide) rfl) ?_
      refine XE.bite (fun h33 => ?_) (fun h34 => ?_)
      · refine XE.go (st_acmp_ne_f (off := 4) (pc' := 33) (by decide +kernel) 34 (by decide) (by decide) (by decide) h33 rfl) ?_
        refine XE.cast (hx27 _) ?_
        exact XE.rt rfl (X_vret (by decide +kernel) rfl)
      · refine XE.go (st_acmp_ne_t (off := 4) (pc' := 34) (by decide +kernel) (by decide) (by decide) h34 (by decide)) ?_
        refine XE.go (st_aload (j := 5) (pc' := 36) (by decide +kernel) rfl (by decide) rfl) ?_
        refine XE.bite (fun h35 => ?_) (fun h36 => ?_)
        · refine XE.go (st_ifnull_t (off := 31) (pc' := 67) (by decide +kernel) (by decide) h35 (by decide)) ?_
          refine XE.go (st_iinc (j := 4) (n := (-1)) (pc' := 70) (by decide +kernel) rfl rfl (by decide) rfl rfl) ?_
          refine XE.go (st_goto (off := (-59)) (pc' := 11) (by decide +kernel) (by decide)) ?_
          exact XE.pick [2, 3, 4, 5, 0] rfl (hc25 ((w (s5.1 + (-1))), s5.2))
        · refine XE.go (st_ifnull_f (off := 31) (pc' := 39) (by decide +kernel) (by decide) h36 rfl) ?_
          refine XE.go (st_aload (j := 5) (pc' := 41) (by decide +kernel) rfl (by decide) rfl) ?_
          refine XE.go (st_aload_n (j := 2) (i := 2) (pc' := 42) (by decide +kernel) rfl rfl (by decide) rfl) ?_
          refine XE.gdb (fun g37 => ?_)
          refine XE.go (st_get (pc' := 45) (by decide +kernel) rfl cls_1 fld_RX0_156 rfl rfl g37) ?_
          refine XE.asc ?_
          refine XE.cP (pc' := 48) (st := []) (fun r hr => ct_X1_isOfRow h36 r hr) (fun r hr => run_V (st := []) (by decide +kernel) co_X0_sendBackBehind_241 (ct_X1_isOfRow h36 r hr) rfl h36 rfl rfl (Nat.le_of_ble_eq_true rfl)) rfl rfl (fun r38 => ?_)
          refine XE.bite (fun h39 => ?_) (fun h40 => ?_)
          · refine XE.go (st_if_eq_t (off := 19) (pc' := 67) (by decide +kernel) (by decide) h39) ?_
            refine XE.go (st_iinc (j := 4) (n := (-1)) (pc' := 70) (by decide +kernel) rfl rfl (by decide) rfl rfl) ?_
            refine XE.go (st_goto (off := (-59)) (pc' := 11) (by decide +kernel) (by decide)) ?_
            exact XE.pick [2, 3, 4, 5, 0] rfl (hc25 ((w (s5.1 + (-1))), s5.2))
          · refine XE.go (st_if_eq_f (off := 19) (pc' := 51) (by decide +kernel) 67 (by decide) rfl h40) ?_
            refine XE.go (st_aload_n (j := 1) (i := 1) (pc' := 52) (by decide +kernel) rfl rfl (by decide) rfl) ?_
            refine XE.go (st_get (pc' := 55) (by decide +kernel) rfl cls_3 fld_RX0_146 rfl rfl g1) ?_
            refine XE.go (st_aload (j := 5) (pc' := 57) (by decide +kernel) rfl (by decide) rfl) ?_
            refine XE.asc ?_
            refine XE.cV (pc' := 60) (st := []) (fun r hr => ct_X2_removeLetter g31 r hr) (fun r hr => run_V (st := []) (by decide +kernel) co_X0_sendBackBehind_161 (ct_X2_removeLetter g31 r hr) rfl g31 rfl rfl (Nat.le_of_ble_eq_true rfl)) rfl rfl (fun M41 => ?_)
            refine XE.go (st_aload_n (j := 0) (i := 0) (pc' := 61) (by decide +kernel) rfl rfl (by decide) rfl) ?_
            refine XE.go (st_aload (j := 5) (pc' := 63) (by decide +kernel) rfl (by decide) rfl) ?_
            refine XE.go (st_iload_n (j := 3) (i := 3) (pc' := 64) (by decide +kernel) rfl rfl rfl) ?_
            refine XE.asc ?_
            refine XE.cV (pc' := 67) (st := []) (fun r hr => ct_X0_putInRow h0 r hr) (fun r hr => run_V (st := []) (by decide +kernel) co_X0_sendBackBehind_172 (ct_X0_putInRow h0 r hr) rfl h0 rfl rfl (Nat.le_of_ble_eq_true rfl)) rfl rfl (fun M42 => ?_)
            refine XE.go (st_iinc (j := 4) (n := (-1)) (pc' := 70) (by decide +kernel) rfl rfl (by decide) rfl rfl) ?_
            refine XE.go (st_goto (off := (-59)) (pc' := 11) (by decide +kernel) (by decide)) ?_
            exact XE.pick [2, 3, 4, 5, 0] rfl (hc25 ((w (s5.1 + (-1))), M42))
  · exact XE.rt rfl (X_vret (by decide +kernel) rfl)
theorem ct_X0_sendBackBehind {D : Dt} {M : Mm} {a0 a1 a2 a3 : Int} (h0 : a0 ≠ 0) (r : Mm) (hr : p_X0_sendBackBehind M a0 a1 a2 a3 = some r) : CT D 0 mu_X0_sendBackBehind [(4, a0), (7, a1), (5, a2), (0, a3)] M (.inl none) r := CT.of (by decide +kernel) rfl (Nat.le_of_ble_eq_true rfl) (xe_X0_sendBackBehind h0 r hr)
def p_X0_failLetter (M : Mm) (a0 a1 a2 a3 : Int) : Option (Int × Mm) := (p_X0_sendBackBehind M a0 a1 a2 a3).bind fun M1 => gd (a1 ≠ 0) (gd ((rd M1 a1 1) ≠ 0) ((p_X2_removeLetter M1 (rd M1 a1 1) a2).bind fun M4 => gd (a2 ≠ 0) ((some (wr M4 a2 3 (w ((rd M4 a2 3) + 1)))).bind fun M6 => if (rd M6 a2 3) < 3 then if (rd M6 a2 3) = 1 then (p_X0_putInRow M6 a0 a2 (w (a3 + 2))).bind fun M11 => some ((rd M11 a2 2), M11) else (p_X0_putInRow M6 a0 a2 (w (a3 + 4))).bind fun M12 => some ((rd M12 a2 2), M12) else (some (wr M6 a2 1 3)).bind fun M13 => gd ((rd M13 a0 4) ≠ 0) ((p_X2_addLast M13 (rd M13 a0 4) a2).bind fun M15 => some ((-1), M15)))))
set_option maxRecDepth 100000 in
set_option maxHeartbeats 4000000 in
theorem xe_X0_failLetter {D : Dt} {M : Mm} {a0 a1 a2 a3 : Int} (h0 : a0 ≠ 0) : XE D 0 mu_X0_failLetter (EW 0) 0 [(0, (4, a0)), (1, (7, a1)), (2, (5, a2)), (3, (0, a3))] [] M (p_X0_failLetter M a0 a1 a2 a3) := by
  unfold p_X0_failLetter
  refine XE.go (st_aload_n (j := 0) (i := 0) (pc' := 1) (by decide +kernel) rfl rfl (by decide) rfl) ?_
  refine XE.go (st_aload_n (j := 1) (i := 1) (pc' := 2) (by decide +kernel) rfl rfl (by decide) rfl) ?_
  refine XE.go (st_aload_n (j := 2) (i := 2) (pc' := 3) (by decide +kernel) rfl rfl (by decide) rfl) ?_
  refine XE.go (st_iload_n (j := 3) (i := 3) (pc' := 4) (by decide +kernel) rfl rfl rfl) ?_
  refine XE.cV (pc' := 7) (st := []) (fun r hr => ct_X0_sendBackBehind h0 r hr) (fun r hr => run_V (st := []) (by decide +kernel) co_X0_failLetter_237 (ct_X0_sendBackBehind h0 r hr) rfl h0 rfl rfl (Nat.le_of_ble_eq_true rfl)) rfl rfl (fun M1 => ?_)
  refine XE.go (st_aload_n (j := 1) (i := 1) (pc' := 8) (by decide +kernel) rfl rfl (by decide) rfl) ?_
  refine XE.gd_ (fun g2 => ?_)
  refine XE.go (st_get (pc' := 11) (by decide +kernel) rfl cls_3 fld_RX0_146 rfl rfl g2) ?_
  refine XE.go (st_aload_n (j := 2) (i := 2) (pc' := 12) (by decide +kernel) rfl rfl (by decide) rfl) ?_
  refine XE.gd_ (fun g3 => ?_)
  refine XE.cV (pc' := 15) (st := []) (fun r hr => ct_X2_removeLetter g3 r hr) (fun r hr => run_V (st := []) (by decide +kernel) co_X0_failLetter_161 (ct_X2_removeLetter g3 r hr) rfl g3 rfl rfl (Nat.le_of_ble_eq_true rfl)) rfl rfl (fun M4 => ?_)
  refine XE.go (st_aload_n (j := 2) (i := 2) (pc' := 16) (by decide +kernel) rfl rfl (by decide) rfl) ?_
  refine XE.go (st_dup (pc' := 17) (by decide +kernel) rfl rfl) ?_
  refine XE.gd_ (fun g5 => ?_)
  refine XE.go (st_get (pc' := 20) (by decide +kernel) rfl cls_1 fld_RX0_225 rfl rfl g5) ?_
  refine XE.go (st_iconst (n := 1) (pc' := 21) (by decide +kernel) (w_eq (by decide) (by decide)) rfl) ?_
  refine XE.go (st_iadd (pc' := 22) (by decide +kernel) rfl) ?_
  refine XE.goM (st_put (pc' := 25) (by decide +kernel) rfl cls_1 fld_RX0_225 rfl rfl (fun h => absurd h (by decide)) (fun h => nomatch h) g5) (fun M6 => ?_)
  refine XE.go (st_aload_n (j := 2) (i := 2) (pc' := 26) (by decide +kernel) rfl rfl (by decide) rfl) ?_
  refine XE.go (st_get (pc' := 29) (by decide +kernel) rfl cls_1 fld_RX0_225 rfl rfl g5) ?_
  refine XE.go (st_iconst (n := 3) (pc' := 30) (by decide +kernel) (w_eq (by decide) (by decide)) rfl) ?_
  refine XE.ite (fun h7 => ?_) (fun h8 => ?_)
  · refine XE.go (st_icmp_lt_t (off := 18) (pc' := 48) (by decide +kernel) (by decide) h7) ?_
    refine XE.go (st_aload_n (j := 0) (i := 0) (pc' := 49) (by decide +kernel) rfl rfl (by decide) rfl) ?_
    refine XE.go (st_aload_n (j := 2) (i := 2) (pc' := 50) (by decide +kernel) rfl rfl (by decide) rfl) ?_
    refine XE.go (st_iload_n (j := 3) (i := 3) (pc' := 51) (by decide +kernel) rfl rfl rfl) ?_
    refine XE.go (st_aload_n (j := 2) (i := 2) (pc' := 52) (by decide +kernel) rfl rfl (by decide) rfl) ?_
    refine XE.go (st_get (pc' := 55) (by decide +kernel) rfl cls_1 fld_RX0_225 rfl rfl g5) ?_
    refine XE.go (st_iconst (n := 1) (pc' := 56) (by decide +kernel) (w_eq (by decide) (by decide)) rfl) ?_
    refine XE.ite (fun h9 => ?_) (fun h10 => ?_)
    · refine XE.go (st_icmp_ne_f (off := 7) (pc' := 59) (by decide +kernel) 63 (by decide) rfl (not_not_intro h9)) ?_
      refine XE.go (st_iconst (n := 2) (pc' := 60) (by decide +kernel) (w_eq (by decide) (by decide)) rfl) ?_
      refine XE.go (st_goto (off := 4) (pc' := 64) (by decide +kernel) (by decide)) ?_
      refine XE.go (st_iadd (pc' := 65) (by decide +kernel) rfl) ?_
      refine XE.cV (pc' := 68) (st := []) (fun r hr => ct_X0_putInRow h0 r hr) (fun r hr => run_V (st := []) (by decide +kernel) co_X0_failLetter_172 (ct_X0_putInRow h0 r hr) rfl h0 rfl rfl (Nat.le_of_ble_eq_true rfl)) rfl rfl (fun M11 => ?_)
      refine XE.go (st_aload_n (j := 2) (i := 2) (pc' := 69) (by decide +kernel) rfl rfl (by decide) rfl) ?_
      refine XE.go (st_get (pc' := 72) (by decide +kernel) rfl cls_1 fld_RX0_176 rfl rfl g5) ?_
      exact XE.rt rfl (X_iret (by decide +kernel) rfl)
    · refine XE.go (st_icmp_ne_t (off := 7) (pc' := 63) (by decide +kernel) (by decide) h10) ?_
      refine XE.go (st_iconst (n := 4) (pc' := 64) (by decide +kernel) (w_eq (by decide) (by decide)) rfl) ?_
      refine XE.go (st_iadd (pc' := 65) (by decide +kernel) rfl) ?_
      refine XE.cV (pc' := 68) (st := []) (fun r hr => ct_X0_putInRow h0 r hr) (fun r hr => run_V (st := []) (by decide +kernel) co_X0_failLetter_172 (ct_X0_putInRow h0 r hr) rfl h0 rfl rfl (Nat.le_of_ble_eq_true rfl)) rfl rfl (fun M12 => ?_)
      refine XE.go (st_aload_n (j := 2) (i := 2) (pc' := 69) (by decide +kernel) rfl rfl (by decide) rfl) ?_
      refine XE.go (st_get (pc' := 72) (by decide +kernel) rfl cls_1 fld_RX0_176 rfl rfl g5) ?_
      exact XE.rt rfl (X_iret (by decide +kernel) rfl)
  · refine XE.go (st_icmp_lt_f (off := 18) (pc' := 33) (by decide +kernel) 48 (by decide) rfl h8) ?_
    refine XE.go (st_aload_n (j := 2) (i := 2) (pc' := 34) (by decide +kernel) rfl rfl (by decide) rfl) ?_
    refine XE.go (st_iconst (n := 3) (pc' := 35) (by decide +kernel) (w_eq (by decide) (by decide)) rfl) ?_
    refine XE.goM (st_put (pc' := 38) (by decide +kernel) rfl cls_1 fld_RX0_165 rfl rfl (fun h => absurd h (by decide)) (fun h => nomatch h) g5) (fun M13 => ?_)
    refine XE.go (st_aload_n (j := 0) (i := 0) (pc' := 39) (by decide +kernel) rfl rfl (by decide) rfl) ?_
    refine XE.go (st_get (pc' := 42) (by decide +kernel) rfl cls_0 fld_RX0_38 rfl rfl h0) ?_
    refine XE.go (st_aload_n (j := 2) (i := 2) (pc' := 43) (by decide +kernel) rfl rfl (by decide) rfl) ?_
    refine XE.gd_ (fun g14 => ?_)
    refine XE.cV (pc' := 46) (st := []) (fun r hr => ct_X2_addLast g14 r hr) (fun r hr => run_V (st := []) (by decide +kernel) co_X0_failLetter_234 (ct_X2_addLast g14 r hr) rfl g14 rfl rfl (Nat.le_of_ble_eq_true rfl)) rfl rfl (fun M15 => ?_)
    refine XE.go (st_iconst (n := (-1)) (pc' := 47) (by decide +kernel) (w_eq (by decide) (by decide)) rfl) ?_
    exact XE.rt rfl (X_iret (by decide +kernel) rfl)
theorem ct_X0_failLetter {D : Dt} {M : Mm} {a0 a1 a2 a3 : Int} (h0 : a0 ≠ 0) (r : (Int × Mm)) (hr : p_X0_failLetter M a0 a1 a2 a3 = some r) : CT D 0 mu_X0_failLetter [(4, a0), (7, a1), (5, a2), (0, a3)] M (.inl (some (0, r.1))) r.2 := CT.of (by decide +kernel) rfl (Nat.le_of_ble_eq_true rfl) (xe_X0_failLetter h0 r hr)
def p_X10_retry (M : Mm) (a0 a1 a2 a3 : Int) : Option (Int × Int × Mm) := (p_X10_groupOf M a0 a1).bind (thT psT fun v1 M2 => (p_X10_memberOf M2 v1 a2).bind (thT psT fun v3 M4 => (p_X10_letterInHand M4 v3 a3).bind (thT psT fun v5 M6 => gd (v1 ≠ 0) ((p_X0_failLetter M6 v1 v3 v5 (rd M6 a0 15)).bind fun r8 => some (0, r8.1, r8.2)))))
set_option maxRecDepth 100000 in
set_option maxHeartbeats 4000000 in
theorem xe_X10_retry {D : Dt} {M : Mm} {a0 a1 a2 a3 : Int} (h0 : a0 ≠ 0) : XE D 0 mu_X10_retry (ET 0) 0 [(0, (14, a0)), (1, (0, a1)), (2, (0, a2)), (3, (0, a3))] [] M (p_X10_retry M a0 a1 a2 a3) := by
  unfold p_X10_retry
  refine XE.go (st_aload_n (j := 0) (i := 0) (pc' := 1) (by decide +kernel) rfl rfl (by decide) rfl) ?_
  refine XE.go (st_iload_n (j := 1) (i := 1) (pc' := 2) (by decide +kernel) rfl rfl rfl) ?_
  refine XE.cTg (pc' := 5) (st := []) hfT (fun r hr => ct_X10_groupOf h0 r hr) (fun r hr => run_V (st := []) (by decide +kernel) co_X10_retry_334 (ct_X10_groupOf h0 r hr) rfl h0 rfl rfl (Nat.le_of_ble_eq_true rfl)) rfl rfl rfl (fun v1 M2 => ?_)
  refine XE.go (st_astore (j := 4) (pc' := 7) (by decide +kernel)  (by decide) rfl (by decide) rfl rfl) ?_
  refine XE.go (st_aload (j := 4) (pc' := 9) (by decide +kernel) rfl (by decide) rfl) ?_
  refine XE.go (st_iload_n (j := 2) (i := 2) (pc' := 10) (by decide +kernel) rfl rfl rfl) ?_
  refine XE.cTg (pc' := 13) (st := []) hfT (fun r hr => ct_X10_memberOf r hr) (fun r hr => run_S (st := []) (by decide +kernel) co_X10_retry_338 (ct_X10_memberOf r hr) rfl rfl (Nat.le_of_ble_eq_true rfl)) rfl rfl rfl (fun v3 M4 => ?_)
  refine XE.go (st_astore (j := 5) (pc' := 15) (by decide +kernel)  (by decide) rfl (by decide) rfl rfl) ?_
  refine XE.go (st_aload (j := 4) (pc' := 17) (by decide +kernel) rfl (by decide) rfl) ?_
  refine XE.go (st_aload (j := 5) (pc' := 19) (by decide +kernel) rfl (by decide) rfl) ?_
  refine XE.go (st_aload (j := 5) (pc' := 21) (by decide +kernel) rfl (by decide) rfl) ?_
  refine XE.go (st_iload_n (j := 3) (i := 3) (pc' := 22) (by decide +kernel) rfl rfl rfl) ?_
  refine XE.cTg (pc' := 25) (st := [(7, v3), (4, v1)]) hfT (fun r hr => ct_X10_letterInHand r hr) (fun r hr => run_S (st := [(7, v3), (4, v1)]) (by decide +kernel) co_X10_retry_430 (ct_X10_letterInHand r hr) rfl rfl (Nat.le_of_ble_eq_true rfl)) rfl rfl rfl (fun v5 M6 => ?_)
  refine XE.go (st_aload_n (j := 0) (i := 0) (pc' := 26) (by decide +kernel) rfl rfl (by decide) rfl) ?_
  refine XE.go (st_get (pc' := 29) (by decide +kernel) rfl cls_10 fld_RX10_70 rfl rfl h0) ?_
  refine XE.gd_ (fun g7 => ?_)
  refine XE.cW (pc' := 32) (st := []) (fun r hr => ct_X0_failLetter g7 r hr) (fun r hr => run_V (st := []) (by decide +kernel) co_X10_retry_440 (ct_X0_failLetter g7 r hr) rfl g7 rfl rfl (Nat.le_of_ble_eq_true rfl)) rfl rfl (fun r8 => ?_)
  exact XE.rt rfl (X_iret (by decide +kernel) rfl)
theorem ct_X10_retry {D : Dt} {M : Mm} {a0 a1 a2 a3 : Int} (h0 : a0 ≠ 0) (r : (Int × Int × Mm)) (hr : p_X10_retry M a0 a1 a2 a3 = some r) : CT D 0 mu_X10_retry [(14, a0), (0, a1), (0, a2), (0, a3)] M (ET 0 r).1 (ET 0 r).2 := CT.of (by decide +kernel) rfl (Nat.le_of_ble_eq_true rfl) (xe_X10_retry h0 r hr)
def b_X0_commitAll_14 (v4 : Int) (v1 : Int) (a1 : Int) (s6 : Int × Int × Mm) : Option ((Int × Int × Mm) ⊕ (Int × Mm)) := if s6.2.1 < v4 then gd (aok v1 s6.2.1) ((some ((rd s6.2.2 v1 s6.2.1))).bind fun v15 => if v15 = 0 then some (.inl (s6.1, (w (s6.2.1 + 1)), s6.2.2)) else if (rd s6.2.2 v15 1) = a1 then gd (a1 ≠ 0) ((p_X3_placeIn s6.2.2 a1 v15).bind fun r22 => if r22 = (rd s6.2.2 v15 3) then some (.inl (s6.1, (w (s6.2.1 + 1)), s6.2.2)) else (some (wr s6.2.2 v15 3 r22)).bind fun M25 => some (.inl ((w (s6.1 + 1)), (w (s6.2.1 + 1)), M25))) else some (.inl (s6.1, (w (s6.2.1 + 1)), s6.2.2))) else some (.inr (s6.1, s6.2.2))
def p_X0_commitAll (M : Mm) (a0 a1 : Int) : Option (Int × Mm) := (some ((rd M a0 0))).bind fun v1 => gd (v1 ≠ 0) ((some ((ln v1))).bind fun v4 => (lp (b_X0_commitAll_14 v4 v1 a1) 1000 (0, 0, M)).bind fun (t7 : Int × Mm) => some (t7.1, t7.2))
set_option maxRecDepth 100000 in
set_option maxHeartbeats 4000000 in
theorem xe_X0_commitAll {D : Dt} {M : Mm} {a0 a1 : Int} (h0 : a0 ≠ 0) : XE D 0 mu_X0_commitAll (EW 0) 0 [(0, (4, a0)), (1, (7, a1))] [] M (p_X0_commitAll M a0 a1) := by
  unfold p_X0_commitAll
  refine XE.go (st_iconst (n := 0) (pc' := 1) (by decide +kernel) (w_eq (by decide) (by decide)) rfl) ?_
  refine XE.go (st_istore_n (j := 2) (i := 2) (pc' := 2) (by decide +kernel) rfl rfl (by decide) rfl rfl) ?_
  refine XE.go (st_aload_n (j := 0) (i := 0) (pc' := 3) (by decide +kernel) rfl rfl (by decide) rfl) ?_
  refine XE.go (st_get (pc' := 6) (by decide +kernel) rfl cls_0 fld_RX0_11 rfl rfl h0) ?_
  refine XE.gen (fun v1 e2 => ?_)
  refine XE.go (st_astore_n (j := 3) (i := 3) (pc' := 7) (by decide +kernel) rfl (by decide) rfl (by decide) rfl rfl) ?_
  refine XE.go (st_aload_n (j := 3) (i := 3) (pc' := 8) (by decide +kernel) rfl rfl (by decide) rfl) ?_
  refine XE.gd_ (fun g3 => ?_)
  refine XE.go (st_alen (k := 24) (pc' := 9) (by decide +kernel) rfl ak_24 rfl (by decide) g3) ?_
  refine XE.gen (fun v4 e5 => ?_)
  refine XE.go (st_istore (j := 4) (pc' := 11) (by decide +kernel)  rfl (by decide) rfl rfl) ?_
  refine XE.go (st_iconst (n := 0) (pc' := 12) (by decide +kernel) (w_eq (by decide) (by decide)) rfl) ?_
  refine XE.go (st_istore (j := 5) (pc' := 14) (by decide +kernel)  rfl (by decide) rfl rfl) ?_
  refine XE.pick [5, 3, 2, 1, 0] (L' := [(1, (7, a1)), (2, (0, 0)), (3, (27, v1)), (4, (0, v4)), (5, (0, 0))]) rfl ?_
  refine XE.loopJ (n := 1000) (s0 := (0, 0, M)) (pcL := 14) (pcE := 75) (LL := fun (s6 : Int × Int × Mm) => [(1, (7, a1)), (2, (0, s6.1)), (3, (27, v1)), (4, (0, v4)), (5, (0, s6.2.1))]) (sL := fun _ => []) (ML := fun (s6 : Int × Int × Mm) => s6.2.2) (LE := fun (t7 : Int × Mm) => [(2, (0, t7.1))]) (sE := fun _ => []) (ME := fun (t7 : Int × Mm) => t7.2) (fun kk11 hc8 he9 s6 => ?_) (fun t7 => ?_)
  · unfold b_X0_commitAll_14
    refine XE.go (st_iload (j := 5) (pc' := 16) (by decide +kernel) rfl rfl) ?_
    refine XE.go (st_iload (j := 4) (pc' := 18) (by decide +kernel) rfl rfl) ?_
    refine XE.bite (fun h12 => ?_) (fun h13 => ?_)
    · refine XE.go (st_icmp_ge_f (off := 57) (pc' := 21) (by decide +kernel) 75 (by decide) rfl (Int.not_le.mpr h12)) ?_
      refine XE.go (st_aload_n (j := 3) (i := 3) (pc' := 22) (by decide +kernel) rfl rfl (by decide) rfl) ?_
      refine XE.go (st_iload (j := 5) (pc' := 24) (by decide +kernel) rfl rfl) ?_
      refine XE.gdb (fun g14 => ?_)
      refine XE.go (st_ald (k := 24) (tp := 12) (pc' := 25) (by decide +kernel) rfl ak_24 rfl (by decide) rfl (Or.inr (Or.inr (Or.inr ⟨rfl, rfl⟩))) g14.1 g14.2.1 g14.2.2) ?_
      refine XE.asc ?_
      refine XE.gen (fun v15 e16 => ?_)
      refine XE.go (st_astore (j := 6) (pc' := 27) (by decide +kernel)  (by decide) rfl (by decide) rfl rfl) ?_
      refine XE.go (st_aload (j := 6) (pc' := 29) (by decide +kernel) rfl (by decide) rfl) ?_
      refine XE.bite (fun h17 => ?_) (fun h18 => ?_)
      · refine XE.go (st_ifnull_t (off := 40) (pc' := 69) (by decide +kernel) (by decide) h17 (by decide)) ?_
        refine XE.go (st_iinc (j := 5) (n := 1) (pc' := 72) (by decide +kernel) rfl rfl (by decide) rfl rfl) ?_
        refine XE.go (st_goto (off := (-58)) (pc' := 14) (by decide +kernel) (by decide)) ?_
        exact XE.pick [2, 3, 4, 5, 0] rfl (hc8 (s6.1, (w (s6.2.1 + 1)), s6.2.2))
      · refine XE.go (st_ifnull_f (off := 40) (pc' := 32) (by decide +kernel) (by decide) h18 rfl) ?_
        refine XE.go (st_aload (j := 6) (pc' := 34) (by decide +kernel) rfl (by decide) rfl) ?_
        refine XE.go (st_get (pc' := 37) (by decide +kernel) rfl cls_8 fld_RX0_76 rfl rfl h18) ?_
        refine XE.go (st_aload_n (j := 1) (i := 1) (pc' := 38) (by decide +kernel) rfl rfl (by decide) rfl) ?_
        refine XE.bite (fun h19 => ?_) (fun h20 => ?_)
        · refine XE.go (st_acmp_ne_f (off := 31) (pc' := 41) (by decide +kernel) 69 (by decide) (by decide) (by decide) h19 rfl) ?_
          refine XE.go (st_aload_n (j := 1) (i := 1) (pc' := 42) (by decide +kernel) rfl rfl (by decide) rfl) ?_
          refine XE.go (st_aload (j := 6) (pc' := 44) (by decide +kernel) rfl (by decide) rfl) ?_
          refine XE.gdb (fun g21 => ?_)
          refine XE.asc ?_
          refine XE.cP (pc' := 47) (st := []) (fun r hr => ct_X3_placeIn g21 r hr) (fun r hr => run_V (st := []) (by decide +kernel) co_X0_commitAll_245 (ct_X3_placeIn g21 r hr) rfl g21 rfl rfl (Nat.le_of_ble_eq_true rfl)) rfl rfl (fun r22 => ?_)
          refine XE.go (st_istore (j := 7) (pc' := 49) (by decide +kernel)  rfl (by decide) rfl rfl) ?_
          refine XE.go (st_iload (j := 7) (pc' := 51) (by decide +kernel) rfl rfl) ?_
          refine XE.go (st_aload (j := 6) (pc' := 53) (by decide +kernel) rfl (by decide) rfl) ?_
          refine XE.go (st_get (pc' := 56) (by decide +kernel) rfl cls_8 fld_RX0_127 rfl rfl h18) ?_
          refine XE.bite (fun h23 => ?_) (fun h24 => ?_)
          · refine XE.go (st_icmp_eq_t (off := 13) (pc' := 69) (by decide +kernel) (by decide) h23) ?_
            refine XE.go (st_iinc (j := 5) (n := 1) (pc' := 72) (by decide +kernel) rfl rfl (by decide) rfl rfl) ?_
            refine XE.go (st_goto (off := (-58)) (pc' := 14) (by decide +kernel) (by decide)) ?_
            exact XE.pick [3, 4, 5, 6, 0] rfl (hc8 (s6.1, (w (s6.2.1 + 1)), s6.2.2))
          · refine XE.go (st_icmp_eq_f (off := 13) (pc' := 59) (by decide +kernel) 69 (by decide) rfl h24) ?_
            refine XE.go (st_aload (j := 6) (pc' := 61) (by decide +kernel) rfl (by decide) rfl) ?_
            refine XE.go (st_iload (j := 7) (pc' := 63) (by decide +kernel) rfl rfl) ?_
            refine XE.asc ?_
            refine XE.goM (st_put (pc' := 66) (by decide +kernel) rfl cls_8 fld_RX0_127 rfl rfl (fun h => absurd h (by decide)) (fun h => nomatch h) h18) (fun M25 => ?_)
            refine XE.go (st_iinc (j := 2) (n := 1) (pc' := 69) (by decide +kernel) rfl rfl (by decide) rfl rfl) ?_
            refine XE.go (st_iinc (j := 5) (n := 1) (pc' := 72) (by decide +kernel) rfl rfl (by decide) rfl rfl) ?_
            refine XE.go (st_goto (off := (-58)) (pc' := 14) (by decide +kernel) (by decide)) ?_
            exact XE.pick [4, 1, 5, 6, 0] rfl (hc8 ((w (s6.1 + 1)), (w (s6.2.1 + 1)), M25))
        · refine XE.go (st_acmp_ne_t (off := 31) (pc' := 69) (by decide +kernel) (by decide) (by decide) h20 (by decide)) ?_
          refine XE.go (st_iinc (j := 5) (n := 1) (pc' := 72) (by decide +kernel) rfl rfl (by decide) rfl rfl) ?_
          refine XE.go (st_goto (off := (-58)) (pc' := 14) (by decide +kernel) (by decide)) ?_
          exact XE.pick [2, 3, 4, 5, 0] rfl (hc8 (s6.1, (w (s6.2.1 + 1)), s6.2.2))
    · refine XE.go (st_icmp_ge_t (off := 57) (pc' := 75) (by decide +kernel) (by decide) (Int.not_lt.mp h13)) ?_
      exact XE.pick [1] rfl (he9 (s6.1, s6.2.2))
  · refine XE.go (st_iload_n (j := 2) (i := 2) (pc' := 76) (by decide +kernel) rfl rfl rfl) ?_
    exact XE.rt rfl (X_iret (by decide +kernel) rfl)
theorem ct_X0_commitAll {D : Dt} {M : Mm} {a0 a1 : Int} (h0 : a0 ≠ 0) (r : (Int × Mm)) (hr : p_X0_commitAll M a0 a1 = some r) : CT D 0 mu_X0_commitAll [(4, a0), (7, a1)] M (.inl (some (0, r.1))) r.2 := CT.of (by decide +kernel) rfl (Nat.le_of_ble_eq_true rfl) (xe_X0_commitAll h0 r hr)
def p_X10_commitOffsets (M : Mm) (a0 a1 a2 : Int) : Option (Int × Int × Mm) := (p_X10_groupOf M a0 a1).bind (thT psT fun v1 M2 => (p_X10_memberOf M2 v1 a2).bind (thT psT fun v3 M4 => gd (v1 ≠ 0) ((p_X0_commitAll M4 v1 v3).bind fun r6 => some (0, r6.1, r6.2))))
set_option maxRecDepth 100000 in
set_option maxHeartbeats 4000000 in
theorem xe_X10_commitOffsets {D : Dt} {M : Mm} {a0 a1 a2 : Int} (h0 : a0 ≠ 0) : XE D 0 mu_X10_commitOffsets (ET 0) 0 [(0, (14, a0)), (1, (0, a1)), (2, (0, a2))] [] M (p_X10_commitOffsets M a0 a1 a2) := by
  unfold p_X10_commitOffsets
  refine XE.go (st_aload_n (j := 0) (i := 0) (pc' := 1) (by decide +kernel) rfl rfl (by decide) rfl) ?_
  refine XE.go (st_iload_n (j := 1) (i := 1) (pc' := 2) (by decide +kernel) rfl rfl rfl) ?_
  refine XE.cTg (pc' := 5) (st := []) hfT (fun r hr => ct_X10_groupOf h0 r hr) (fun r hr => run_V (st := []) (by decide +kernel) co_X10_commitOffsets_334 (ct_X10_groupOf h0 r hr) rfl h0 rfl rfl (Nat.le_of_ble_eq_true rfl)) rfl rfl rfl (fun v1 M2 => ?_)
  refine XE.go (st_astore_n (j := 3) (i := 3) (pc' := 6) (by decide +kernel) rfl (by decide) rfl (by decide) rfl rfl) ?_
  refine XE.go (st_aload_n (j := 3) (i := 3) (pc' := 7) (by decide +kernel) rfl rfl (by decide) rfl) ?_
  refine XE.go (st_aload_n (j := 3) (i := 3) (pc' := 8) (by decide +kernel) rfl rfl (by decide) rfl) ?_
  refine XE.go (st_iload_n (j := 2) (i := 2) (pc' := 9) (by decide +kernel) rfl rfl rfl) ?_
  refine XE.cTg (pc' := 12) (st := [(4, v1)]) hfT (fun r hr => ct_X10_memberOf r hr) (fun r hr => run_S (st := [(4, v1)]) (by decide +kernel) co_X10_commitOffsets_338 (ct_X10_memberOf r hr) rfl rfl (Nat.le_of_ble_eq_true rfl)) rfl rfl rfl (fun v3 M4 => ?_)
  refine XE.gd_ (fun g5 => ?_)
  refine XE.cW (pc' := 15) (st := []) (fun r hr => ct_X0_commitAll g5 r hr) (fun r hr => run_V (st := []) (by decide +kernel) co_X10_commitOffsets_444 (ct_X0_commitAll g5 r hr) rfl g5 rfl rfl (Nat.le_of_ble_eq_true rfl)) rfl rfl (fun r6 => ?_)
  exact XE.rt rfl (X_iret (by decide +kernel) rfl)
theorem ct_X10_commitOffsets {D : Dt} {M : Mm} {a0 a1 a2 : Int} (h0 : a0 ≠ 0) (r : (Int × Int × Mm)) (hr : p_X10_commitOffsets M a0 a1 a2 = some r) : CT D 0 mu_X10_commitOffsets [(14, a0), (0, a1), (0, a2)] M (ET 0 r).1 (ET 0 r).2 := CT.of (by decide +kernel) rfl (Nat.le_of_ble_eq_true rfl) (xe_X10_commitOffsets h0 r hr)
def p_X10_shareOf (M : Mm) (a0 a1 : Int) : Option (Int × Int × Mm) := gd (a0 ≠ 0) ((p_X0_shareAt M a0 a1).bind fun r2 => if r2 = 0 then psT 1 0 (thr M) else some (0, r2, M))
set_option maxRecDepth 100000 in
set_option maxHeartbeats 4000000 in
theorem xe_X10_shareOf {D : Dt} {M : Mm} {a0 a1 : Int} : XE D 0 mu_X10_shareOf (ET 12) 0 [(0, (4, a0)), (1, (0, a1))] [] M (p_X10_shareOf M a0 a1) := by
  unfold p_X10_shareOf
  refine XE.go (st_aload_n (j := 0) (i := 0) (pc' := 1) (by decide +kernel) rfl rfl (by decide) rfl) ?_
  refine XE.go (st_iload_n (j := 1) (i := 1) (pc' := 2) (by decide +kernel) rfl rfl rfl) ?_
  refine XE.gd_ (fun g1 => ?_)
  refine XE.cP (pc' := 5) (st := []) (fun r hr => ct_X0_shareAt g1 r hr) (fun r hr => run_V (st := []) (by decide +kernel) co_X10_shareOf_645 (ct_X0_shareAt g1 r hr) rfl g1 rfl rfl (Nat.le_of_ble_eq_true rfl)) rfl rfl (fun r2 => ?_)
  refine XE.go (st_astore_n (j := 2) (i := 2) (pc' := 6) (by decide +kernel) rfl (by decide) rfl (by decide) rfl rfl) ?_
  refine XE.go (st_aload_n (j := 2) (i := 2) (pc' := 7) (by decide +kernel) rfl rfl (by decide) rfl) ?_
  refine XE.ite (fun h3 => ?_) (fun h4 => ?_)
  · refine XE.go (st_ifnonnull_f (off := 14) (pc' := 10) (by decide +kernel) (by decide) h3 rfl) ?_
    exact XE.thrTW (by decide +kernel) (by decide +kernel) (by decide +kernel) (by decide +kernel) (by decide +kernel) thr_RX10_649 rfl (by decide) (by decide) (by decide)
  · refine XE.go (st_ifnonnull_t (off := 14) (pc' := 21) (by decide +kernel) (by decide) h4 (by decide)) ?_
    refine XE.go (st_aload_n (j := 2) (i := 2) (pc' := 22) (by decide +kernel) rfl rfl (by decide) rfl) ?_
    exact XE.rt rfl (X_aret (by decide +kernel) rfl (Or.inl ⟨_, rfl⟩) (by decide))
theorem ct_X10_shareOf {D : Dt} {M : Mm} {a0 a1 : Int} (r : (Int × Int × Mm)) (hr : p_X10_shareOf M a0 a1 = some r) : CT D 0 mu_X10_shareOf [(4, a0), (0, a1)] M (ET 12 r).1 (ET 12 r).2 := CT.of (by decide +kernel) rfl (Nat.le_of_ble_eq_true rfl) (xe_X10_shareOf r hr)
def b_X0_forget_11 (v4 : Int) (v1 : Int) (a1 : Int) (a0 : Int) (s6 : Int × Mm) : Option ((Int × Mm) ⊕ (Mm)) := if s6.1 < v4 then gd (aok v1 s6.1) ((some ((rd s6.2 v1 s6.1))).bind fun v15 => if v15 = 0 then some (.inl ((w (s6.1 + 1)), s6.2)) else gd ((rd s6.2 v15 0) ≠ 0) (if (rd s6.2 (rd s6.2 v15 0) 2) = a1 then gd ((rd s6.2 a0 3) ≠ 0) ((p_X2_removeLetter s6.2 (rd s6.2 a0 3) v15).bind fun M23 => gd ((rd M23 a0 4) ≠ 0) ((p_X2_removeLetter M23 (rd M23 a0 4) v15).bind fun M25 => (some (wr M25 v15 1 0)).bind fun M26 => (some (wr M26 v15 6 0)).bind fun M27 => some (.inl ((w (s6.1 + 1)), M27)))) else some (.inl ((w (s6.1 + 1)), s6.2)))) else some (.inr s6.2)
def p_X0_forget (M : Mm) (a0 a1 : Int) : Option Mm := (some ((rd M a0 2))).bind fun v1 => gd (v1 ≠ 0) ((some ((ln v1))).bind fun v4 => (lp (b_X0_forget_11 v4 v1 a1 a0) 1000 (0, M)).bind fun (t7 : Mm) => some (t7))
set_option maxRecDepth 100000 in
set_option maxHeartbeats 4000000 in
theorem xe_X0_forget {D : Dt} {M : Mm} {a0 a1 : Int} (h0 : a0 ≠ 0) : XE D 0 mu_X0_forget EV 0 [(0, (4, a0)), (1, (9, a1))] [] M (p_X0_forget M a0 a1) := by
  unfold p_X0_forget
  refine XE.go (st_aload_n (j := 0) (i := 0) (pc' := 1) (by decide +kernel) rfl rfl (by decide) rfl) ?_
  refine XE.go (st_get (pc' := 4) (by decide +kernel) rfl cls_0 fld_RX0_25 rfl rfl h0) ?_
  refine XE.gen (fun v1 e2 => ?_)
  refine XE.go (st_astore_n (j := 2) (i := 2) (pc' := 5) (by decide +kernel) rfl (by decide) rfl (by decide) rfl rfl) ?_
  refine XE.go (st_aload_n (j := 2) (i := 2) (pc' := 6) (by decide +kernel) rfl rfl (by decide) rfl) ?_
  refine XE.gd_ (fun g3 => ?_)
  refine XE.go (st_alen (k := 17) (pc' := 7) (by decide +kernel) rfl ak_17 rfl (by decide) g3) ?_
  refine XE.gen (fun v4 e5 => ?_)
  refine XE.go (st_istore_n (j := 3) (i := 3) (pc' := 8) (by decide +kernel) rfl rfl (by decide) rfl rfl) ?_
  refine XE.go (st_iconst (n := 0) (pc' := 9) (by decide +kernel) (w_eq (by decide) (by decide)) rfl) ?_
  refine XE.go (st_istore (j := 4) (pc' := 11) (by decide +kernel)  rfl (by decide) rfl rfl) ?_
  refine XE.pick [3, 4, 2, 1, 0] (L' := [(0, (4, a0)), (1, (9, a1)), (2, (20, v1)), (3, (0, v4)), (4, (0, 0))]) rfl ?_
  refine XE.loopJ (n := 1000) (s0 := (0, M)) (pcL := 11) (pcE := 76) (LL := fun (s6 : Int × Mm) => [(0, (4, a0)), (1, (9, a1)), (2, (20, v1)), (3, (0, v4)), (4, (0, s6.1))]) (sL := fun _ => []) (ML := fun (s6 : Int × Mm) => s6.2) (LE := fun (t7 : Mm) => []) (sE := fun _ => []) (ME := fun (t7 : Mm) => t7) (fun kk11 hc8 he9 s6 => ?_) (fun t7 => ?_)
  · unfold b_X0_forget_11
    refine XE.go (st_iload (j := 4) (pc' := 13) (by decide +kernel) rfl rfl) ?_
    refine XE.go (st_iload_n (j := 3) (i := 3) (pc' := 14) (by decide +kernel) rfl rfl rfl) ?_
    refine XE.bite (fun h12 => ?_) (fun h13 => ?_)
    · refine XE.go (st_icmp_ge_f (off := 62) (pc' := 17) (by decide +kernel) 76 (by decide) rfl (Int.not_le.mpr h12)) ?_
      refine XE.go (st_aload_n (j := 2) (i := 2) (pc' := 18) (by decide +kernel) rfl rfl (by decide) rfl) ?_
      refine XE.go (st_iload (j := 4) (pc' := 20) (by decide +kernel) rfl rfl) ?_
      refine XE.gdb (fun g14 => ?_)
      refine XE.go (st_ald (k := 17) (tp := 5) (pc' := 21) (by decide +kernel) rfl ak_17 rfl (by decide) rfl (Or.inr (Or.inr (Or.inr ⟨rfl, rfl⟩))) g14.1 g14.2.1 g14.2.2) ?_
      refine XE.asc ?_
      refine XE.gen (fun v15 e16 => ?_)
      refine XE.go (st_astore (j := 5) (pc' := 23) (by decide +kernel)  (by decide) rfl (by decide) rfl rfl) ?_
      refine XE.go (st_aload (j := 5) (pc' := 25) (by decide +kernel) rfl (by decide) rfl) ?_
      refine XE.bite (fun h17 => ?_) (fun h18 => ?_)
      · refine XE.go (st_ifnull_t (off := 45) (pc' := 70) (by decide +kernel) (by decide) h17 (by decide)) ?_
        refine XE.go (st_iinc (j := 4) (n := 1) (pc' := 73) (by decide +kernel) rfl rfl (by decide) rfl rfl) ?_
        refine XE.go (st_goto (off := (-62)) (pc' := 11) (by decide +kernel) (by decide)) ?_
        exact XE.pick [2, 3, 4, 5, 0] rfl (hc8 ((w (s6.1 + 1)), s6.2))
      · refine XE.go (st_ifnull_f (off := 45) (pc' := 28) (by decide +kernel) (by decide) h18 rfl) ?_
        refine XE.go (st_aload (j := 5) (pc' := 30) (by decide +kernel) rfl (by decide) rfl) ?_
        refine XE.go (st_get (pc' := 33) (by decide +kernel) rfl cls_1 fld_RX0_156 rfl rfl h18) ?_
        refine XE.gdb (fun g19 => ?_)
        refine XE.go (st_get (pc' := 36) (by decide +kernel) rfl cls_4 fld_RX0_160 rfl rfl g19) ?_
        refine XE.go (st_aload_n (j := 1) (i := 1) (pc' := 37) (by decide +kernel) rfl rfl (by decide) rfl) ?_
        refine XE.bite (fun h20 => ?_) (fun h21 => ?_)
        · refine XE.go (st_acmp_ne_f (off := 33) (pc' := 40) (by decide +kernel) 70 (by decide) (by decide) (by decide) h20 rfl) ?_
          refine XE.go (st_aload_n (j := 0) (i := 0) (pc' := 41) (by decide +kernel) rfl rfl (by decide) rfl) ?_
          refine XE.go (st_get (pc' := 44) (by decide +kernel) rfl cls_0 fld_RX0_34 rfl rfl h0) ?_
          refine XE.go (st_aload (j := 5) (pc' := 46) (by decide +kernel) rfl (by decide) rfl) ?_
          refine XE.gdb (fun g22 => ?_)
          refine XE.asc ?_
          refine XE.cV (pc' := 49) (st := []) (fun r hr => ct_X2_removeLetter g22 r hr) (fun r hr => run_V (st := []) (by decide +kernel) co_X0_forget_161 (ct_X2_removeLetter g22 r hr) rfl g22 rfl rfl (Nat.le_of_ble_eq_true rfl)) rfl rfl (fun M23 => ?_)
          refine XE.go (st_aload_n (j := 0) (i := 0) (pc' := 50) (by decide +kernel) rfl rfl (by decide) rfl) ?_
          refine XE.go (st_get (pc' := 53) (by decide +kernel) rfl cls_0 fld_RX0_38 rfl rfl h0) ?_
          refine XE.go (st_aload (j := 5) (pc' := 55) (by decide +kernel) rfl (by decide) rfl) ?_
          refine XE.gdb (fun g24 => ?_)
          refine XE.asc ?_
          refine XE.cV (pc' := 58) (st := []) (fun r hr => ct_X2_removeLetter g24 r hr) (fun r hr => run_V (st := []) (by decide +kernel) co_X0_forget_161 (ct_X2_removeLetter g24 r hr) rfl g24 rfl rfl (Nat.le_of_ble_eq_true rfl)) rfl rfl (fun M25 => ?_)
          refine XE.go (st_aload (j := 5) (pc' := 60) (by decide +kernel) rfl (by decide) rfl) ?_
          refine XE.go (st_iconst (n := 0) (pc' := 61) (by decide +kernel) (w_eq (by decide) (by decide)) rfl) ?_
          refine XE.asc ?_
          refine XE.goM (st_put (pc' := 64) (by decide +kernel) rfl cls_1 fld_RX0_165 rfl rfl (fun h => absurd h (by decide)) (fun h => nomatch h) h18) (fun M26 => ?_)
          refine XE.go (st_aload (j := 5) (pc' := 66) (by decide +kernel) rfl (by decide) rfl) ?_
          refine XE.go (st_iconst (n := 0) (pc' := 67) (by decide +kernel) (w_eq (by decide) (by decide)) rfl) ?_
          refine XE.asc ?_
          refine XE.goM (st_put (pc' := 70) (by decide +kernel) rfl cls_1 fld_RX0_231 rfl rfl (fun h => absurd h (by decide)) (fun h => nomatch h) h18) (fun M27 => ?_)
          refine XE.go (st_iinc (j := 4) (n := 1) (pc' := 73) (by decide +kernel) rfl rfl (by decide) rfl rfl) ?_
          refine XE.go (st_goto (off := (-62)) (pc' := 11) (by decide +kernel) (by decide)) ?_
          exact XE.pick [2, 3, 4, 5, 0] rfl (hc8 ((w (s6.1 + 1)), M27))
        · refine XE.go (st_acmp_ne_t (off := 33) (pc' := 70) (by decide +kernel) (by decide) (by decide) h21 (by decide)) ?_
          refine XE.go (st_iinc (j := 4) (n := 1) (pc' := 73) (by decide +kernel) rfl rfl (by decide) rfl rfl) ?_
          refine XE.go (st_goto (off := (-62)) (pc' := 11) (by decide +kernel) (by decide)) ?_
          exact XE.pick [2, 3, 4, 5, 0] rfl (hc8 ((w (s6.1 + 1)), s6.2))
    · refine XE.go (st_icmp_ge_t (off := 62) (pc' := 76) (by decide +kernel) (by decide) (Int.not_lt.mp h13)) ?_
      exact XE.pick [] rfl (he9 s6.2)
  · exact XE.rt rfl (X_vret (by decide +kernel) rfl)
theorem ct_X0_forget {D : Dt} {M : Mm} {a0 a1 : Int} (h0 : a0 ≠ 0) (r : Mm) (hr : p_X0_forget M a0 a1 = some r) : CT D 0 mu_X0_forget [(4, a0), (9, a1)] M (.inl none) r := CT.of (by decide +kernel) rfl (Nat.le_of_ble_eq_true rfl) (xe_X0_forget h0 r hr)
def p_X10_seek (M : Mm) (a0 a1 a2 a3 : Int) : Option (Int × Int × Mm) := (p_X10_groupOf M a0 a1).bind (thT psT fun v1 M2 => (p_X10_shareOf M2 v1 a2).bind (thT psT fun v3 M4 => (p_X10_requireWithin M4 a3 0 60).bind (thU psT fun M5 => gd (v3 ≠ 0) (if (rd M5 v3 1) = 0 then (some ((rd M5 v3 3))).bind fun v9 => (some (wr M5 v3 3 a3)).bind fun M11 => (some (wr M11 v3 5 a3)).bind fun M12 => gd (v1 ≠ 0) ((p_X0_forget M12 v1 (rd M12 v3 0)).bind fun M14 => some (0, v9, M14)) else psT 3 0 (thr M5)))))
set_option maxRecDepth 100000 in
set_option maxHeartbeats 4000000 in
theorem xe_X10_seek {D : Dt} {M : Mm} {a0 a1 a2 a3 : Int} (h0 : a0 ≠ 0) : XE D 0 mu_X10_seek (ET 0) 0 [(0, (14, a0)), (1, (0, a1)), (2, (0, a2)), (3, (0, a3))] [] M (p_X10_seek M a0 a1 a2 a3) := by
  unfold p_X10_seek
  refine XE.go (st_aload_n (j := 0) (i := 0) (pc' := 1) (by decide +kernel) rfl rfl (by decide) rfl) ?_
  refine XE.go (st_iload_n (j := 1) (i := 1) (pc' := 2) (by decide +kernel) rfl rfl rfl) ?_
  refine XE.cTg (pc' := 5) (st := []) hfT (fun r hr => ct_X10_groupOf h0 r hr) (fun r hr => run_V (st := []) (by decide +kernel) co_X10_seek_334 (ct_X10_groupOf h0 r hr) rfl h0 rfl rfl (Nat.le_of_ble_eq_true rfl)) rfl rfl rfl (fun v1 M2 => ?_)
  refine XE.go (st_astore (j := 4) (pc' := 7) (by decide +kernel)  (by decide) rfl (by decide) rfl rfl) ?_
  refine XE.go (st_aload (j := 4) (pc' := 9) (by decide +kernel) rfl (by decide) rfl) ?_
  refine XE.go (st_iload_n (j := 2) (i := 2) (pc' := 10) (by decide +kernel) rfl rfl rfl) ?_
  refine XE.cTg (pc' := 13) (st := []) hfT (fun r hr => ct_X10_shareOf r hr) (fun r hr => run_S (st := []) (by decide +kernel) co_X10_seek_447 (ct_X10_shareOf r hr) rfl rfl (Nat.le_of_ble_eq_true rfl)) rfl rfl rfl (fun v3 M4 => ?_)
  refine XE.go (st_astore (j := 5) (pc' := 15) (by decide +kernel)  (by decide) rfl (by decide) rfl rfl) ?_
  refine XE.go (st_iload_n (j := 3) (i := 3) (pc' := 16) (by decide +kernel) rfl rfl rfl) ?_
  refine XE.go (st_iconst (n := 0) (pc' := 17) (by decide +kernel) (w_eq (by decide) (by decide)) rfl) ?_
  refine XE.go (st_bipush (n := 60) (pc' := 19) (by decide +kernel) (by decide) (w_eq (by decide) (by decide)) rfl) ?_
  refine XE.cUg (pc' := 22) (st := []) hfT (fun r hr => ct_X10_requireWithin r hr) (fun r hr => run_S (st := []) (by decide +kernel) co_X10_seek_73 (ct_X10_requireWithin r hr) rfl rfl (Nat.le_of_ble_eq_true rfl)) rfl rfl rfl (fun M5 => ?_)
  refine XE.go (st_aload (j := 5) (pc' := 24) (by decide +kernel) rfl (by decide) rfl) ?_
  refine XE.gd_ (fun g6 => ?_)
  refine XE.go (st_get (pc' := 27) (by decide +kernel) rfl cls_8 fld_RX10_451 rfl rfl g6) ?_
  refine XE.ite (fun h7 => ?_) (fun h8 => ?_)
  · refine XE.go (st_ifnull_t (off := 14) (pc' := 41) (by decide +kernel) (by decide) h7 (by decide)) ?_
    refine XE.go (st_aload (j := 5) (pc' := 43) (by decide +kernel) rfl (by decide) rfl) ?_
    refine XE.go (st_get (pc' := 46) (by decide +kernel) rfl cls_8 fld_RX10_459 rfl rfl g6) ?_
    refine XE.gen (fun v9 e10 => ?_)
    refine XE.go (st_istore (j := 6) (pc' := 48) (by decide +kernel)  rfl (by decide) rfl rfl) ?_
    refine XE.go (st_aload (j := 5) (pc' := 50) (by decide +kernel) rfl (by decide) rfl) ?_
    refine XE.go (st_iload_n (j := 3) (i := 3) (pc' := 51) (by decide +kernel) rfl rfl rfl) ?_
    refine XE.goM (st_put (pc' := 54) (by decide +kernel) rfl cls_8 fld_RX10_459 rfl rfl (fun h => absurd h (by decide)) (fun h => nomatch h) g6) (fun M11 => ?_)
    refine XE.go (st_aload (j := 5) (pc' := 56) (by decide +kernel) rfl (by decide) rfl) ?_
    refine XE.go (st_iload_n (j := 3) (i := 3) (pc' := 57) (by decide +kernel) rfl rfl rfl) ?_
    refine XE.goM (st_put (pc' := 60) (by decide +kernel) rfl cls_8 fld_RX10_462 rfl rfl (fun h => absurd h (by decide)) (fun h => nomatch h) g6) (fun M12 => ?_)
    refine XE.go (st_aload (j := 4) (pc' := 62) (by decide +kernel) rfl (by decide) rfl) ?_
    refine XE.go (st_aload (j := 5) (pc' := 64) (by decide +kernel) rfl (by decide) rfl) ?_
    refine XE.go (st_get (pc' := 67) (by decide +kernel) rfl cls_8 fld_RX10_465 rfl rfl g6) ?_
    refine XE.gd_ (fun g13 => ?_)
    refine XE.cV (pc' := 70) (st := []) (fun r hr => ct_X0_forget g13 r hr) (fun r hr => run_V (st := []) (by decide +kernel) co_X10_seek_466 (ct_X0_forget g13 r hr) rfl g13 rfl rfl (Nat.le_of_ble_eq_true rfl)) rfl rfl (fun M14 => ?_)
    refine XE.go (st_iload (j := 6) (pc' := 72) (by decide +kernel) rfl rfl) ?_
    exact XE.rt rfl (X_iret (by decide +kernel) rfl)
  · refine XE.go (st_ifnull_f (off := 14) (pc' := 30) (by decide +kernel) (by decide) h8 rfl) ?_
    exact XE.thrTW (by decide +kernel) (by decide +kernel) (by decide +kernel) (by decide +kernel) (by decide +kernel) thr_RX10_457 rfl (by decide) (by decide) (by decide)
theorem ct_X10_seek {D : Dt} {M : Mm} {a0 a1 a2 a3 : Int} (h0 : a0 ≠ 0) (r : (Int × Int × Mm)) (hr : p_X10_seek M a0 a1 a2 a3 = some r) : CT D 0 mu_X10_seek [(14, a0), (0, a1), (0, a2), (0, a3)] M (ET 0 r).1 (ET 0 r).2 := CT.of (by decide +kernel) rfl (Nat.le_of_ble_eq_true rfl) (xe_X10_seek h0 r hr)
def p_X10_messageOf (M : Mm) (a0 a1 : Int) : Option (Int × Int × Mm) := (if a1 < 0 then some (0) else gd ((rd M a0 4) ≠ 0) (if a1 < (ln (rd M a0 4)) then gd (aok (rd M a0 4) a1) (some ((rd M (rd M a0 4) a1))) else some (0)) : Option (Int)).bind fun (s1 : Int) => if s1 = 0 then psT 1 0 (thr M) else some (0, s1, M)
set_option maxRecDepth 100000 in
set_option maxHeartbeats 4000000 in
theorem xe_X10_messageOf {D : Dt} {M : Mm} {a0 a1 : Int} (h0 : a0 ≠ 0) : XE D 0 mu_X10_messageOf (ET 8) 0 [(0, (14, a0)), (1, (0, a1))] [] M (p_X10_messageOf M a0 a1) := by
  unfold p_X10_messageOf
  refine XE.go (st_iload_n (j := 1) (i := 1) (pc' := 1) (by decide +kernel) rfl rfl rfl) ?_
  refine XE.join (pcJ := 23) (LJ := fun (s1 : Int) => []) (sJ := fun (s1 : Int) => [(8, s1)]) (MJ := fun (s1 : Int) => M) (fun kk4 hk2 => ?_) (fun s1 => ?_)
  · refine XE.bite (fun h5 => ?_) (fun h6 => ?_)
    · refine XE.go (st_if_lt_t (off := 21) (pc' := 22) (by decide +kernel) (by decide) h5) ?_
      refine XE.go (st_null (t := 8) (pc' := 23) (by decide +kernel) (by decide) rfl) ?_
      exact XE.pick [] rfl (hk2 0)
    · refine XE.go (st_if_lt_f (off := 21) (pc' := 4) (by decide +kernel) 22 (by decide) rfl h6) ?_
      refine XE.go (st_iload_n (j := 1) (i := 1) (pc' := 5) (by decide +kernel) rfl rfl rfl) ?_
      refine XE.go (st_aload_n (j := 0) (i := 0) (pc' := 6) (by decide +kernel) rfl rfl (by decide) rfl) ?_
      refine XE.go (st_get (pc' := 9) (by decide +kernel) rfl cls_10 fld_RX10_35 rfl rfl h0) ?_
      refine XE.gdb (fun g7 => ?_)
      refine XE.go (st_alen (k := 20) (pc' := 10) (by decide +kernel) rfl ak_20 rfl (by decide) g7) ?_
      refine XE.bite (fun h8 => ?_) (fun h9 => ?_)
      · refine XE.go (st_icmp_ge_f (off := 12) (pc' := 13) (by decide +kernel) 22 (by decide) rfl (Int.not_le.mpr h8)) ?_
        refine XE.go (st_aload_n (j := 0) (i := 0) (pc' := 14) (by decide +kernel) rfl rfl (by decide) rfl) ?_
        refine XE.go (st_get (pc' := 17) (by decide +kernel) rfl cls_10 fld_RX10_35 rfl rfl h0) ?_
        refine XE.go (st_iload_n (j := 1) (i := 1) (pc' := 18) (by decide +kernel) rfl rfl rfl) ?_
        refine XE.gdb (fun g10 => ?_)
        refine XE.go (st_ald (k := 20) (tp := 8) (pc' := 19) (by decide +kernel) rfl ak_20 rfl (by decide) rfl (Or.inr (Or.inr (Or.inr ⟨rfl, rfl⟩))) g10.1 g10.2.1 g10.2.2) ?_
        refine XE.go (st_goto (off := 4) (pc' := 23) (by decide +kernel) (by decide)) ?_
        exact XE.pick [] rfl (hk2 (rd M (rd M a0 4) a1))
      · refine XE.go (st_icmp_ge_t (off := 12) (pc' := 22) (by decide +kernel) (by decide) (Int.not_lt.mp h9)) ?_
        refine XE.go (st_null (t := 8) (pc' := 23) (by decide +kernel) (by decide) rfl) ?_
        exact XE.pick [] rfl (hk2 0)
  · refine XE.go (st_astore_n (j := 2) (i := 2) (pc' := 24) (by decide +kernel) rfl (by decide) rfl (by decide) rfl rfl) ?_
    refine XE.go (st_aload_n (j := 2) (i := 2) (pc' := 25) (by decide +kernel) rfl rfl (by decide) rfl) ?_
    refine XE.ite (fun h11 => ?_) (fun h12 => ?_)
    · refine XE.go (st_ifnonnull_f (off := 14) (pc' := 28) (by decide +kernel) (by decide) h11 rfl) ?_
      exact XE.thrTW (by decide +kernel) (by decide +kernel) (by decide +kernel) (by decide +kernel) (by decide +kernel) thr_RX10_635 rfl (by decide) (by decide) (by decide)
    · refine XE.go (st_ifnonnull_t (off := 14) (pc' := 39) (by decide +kernel) (by decide) h12 (by decide)) ?_
      refine XE.go (st_aload_n (j := 2) (i := 2) (pc' := 40) (by decide +kernel) rfl rfl (by decide) rfl) ?_
      exact XE.rt rfl (X_aret (by decide +kernel) rfl (Or.inl ⟨_, rfl⟩) (by decide))
theorem ct_X10_messageOf {D : Dt} {M : Mm} {a0 a1 : Int} (h0 : a0 ≠ 0) (r : (Int × Int × Mm)) (hr : p_X10_messageOf M a0 a1 = some r) : CT D 0 mu_X10_messageOf [(14, a0), (0, a1)] M (ET 8 r).1 (ET 8 r).2 := CT.of (by decide +kernel) rfl (Nat.le_of_ble_eq_true rfl) (xe_X10_messageOf h0 r hr)
def p_X4_canBeRead (M : Mm) (a0 : Int) : Option Int := if (rd M a0 7) = 1 then (p_X4_isPlainOrCommitted M a0).bind fun r3 => if r3 = 0 then some (0) else gd ((rd M a0 2) ≠ 0) ((p_X5_stableOffset M (rd M a0 2)).bind fun r7 => if (rd M a0 9) < r7 then some (1) else some (0)) else some (0)
set_option maxRecDepth 100000 in
set_option maxHeartbeats 4000000 in
theorem xe_X4_canBeRead {D : Dt} {M : Mm} {a0 : Int} (h0 : a0 ≠ 0) : XE D 0 mu_X4_canBeRead (EP 0 M) 0 [(0, (8, a0))] [] M (p_X4_canBeRead M a0) := by
  unfold p_X4_canBeRead
  refine XE.go (st_aload_n (j := 0) (i := 0) (pc' := 1) (by decide +kernel) rfl rfl (by decide) rfl) ?_
  refine XE.go (st_get (pc' := 4) (by decide +kernel) rfl cls_4 fld_RX4_9 rfl rfl h0) ?_
  refine XE.go (st_iconst (n := 1) (pc' := 5) (by decide +kernel) (w_eq (by decide) (by decide)) rfl) ?_
  refine XE.ite (fun h1 => ?_) (fun h2 => ?_)
  · refine XE.go (st_icmp_ne_f (off := 28) (pc' := 8) (by decide +kernel) 33 (by decide) rfl (not_not_intro h1)) ?_
    refine XE.go (st_aload_n (j := 0) (i := 0) (pc' := 9) (by decide +kernel) rfl rfl (by decide) rfl) ?_
    refine XE.cP (pc' := 12) (st := []) (fun r hr => ct_X4_isPlainOrCommitted h0 r hr) (fun r hr => run_V (st := []) (by decide +kernel) co_X4_canBeRead_47 (ct_X4_isPlainOrCommitted h0 r hr) rfl h0 rfl rfl (Nat.le_of_ble_eq_true rfl)) rfl rfl (fun r3 => ?_)
    refine XE.ite (fun h4 => ?_) (fun h5 => ?_)
    · refine XE.go (st_if_eq_t (off := 21) (pc' := 33) (by decide +kernel) (by decide) h4) ?_
      refine XE.go (st_iconst (n := 0) (pc' := 34) (by decide +kernel) (w_eq (by decide) (by decide)) rfl) ?_
      exact XE.rt rfl (X_zret (by decide +kernel) rfl (by decide))
    · refine XE.go (st_if_eq_f (off := 21) (pc' := 15) (by decide +kernel) 33 (by decide) rfl h5) ?_
      refine XE.go (st_aload_n (j := 0) (i := 0) (pc' := 16) (by decide +kernel) rfl rfl (by decide) rfl) ?_
      refine XE.go (st_get (pc' := 19) (by decide +kernel) rfl cls_4 fld_RX4_15 rfl rfl h0) ?_
      refine XE.go (st_aload_n (j := 0) (i := 0) (pc' := 20) (by decide +kernel) rfl rfl (by decide) rfl) ?_
      refine XE.go (st_get (pc' := 23) (by decide +kernel) rfl cls_4 fld_RX4_28 rfl rfl h0) ?_
      refine XE.gd_ (fun g6 => ?_)
      refine XE.cP (pc' := 26) (st := [(0, (rd M a0 9))]) (fun r hr => ct_X5_stableOffset g6 r hr) (fun r hr => run_V (st := [(0, (rd M a0 9))]) (by decide +kernel) co_X4_canBeRead_51 (ct_X5_stableOffset g6 r hr) rfl g6 rfl rfl (Nat.le_of_ble_eq_true rfl)) rfl rfl (fun r7 => ?_)
      refine XE.ite (fun h8 => ?_) (fun h9 => ?_)
      · refine XE.go (st_icmp_ge_f (off := 7) (pc' := 29) (by decide +kernel) 33 (by decide) rfl (Int.not_le.mpr h8)) ?_
        refine XE.go (st_iconst (n := 1) (pc' := 30) (by decide +kernel) (w_eq (by decide) (by decide)) rfl) ?_
        refine XE.go (st_goto (off := 4) (pc' := 34) (by decide +kernel) (by decide)) ?_
        exact XE.rt rfl (X_zret (by decide +kernel) rfl (by decide))
      · refine XE.go (st_icmp_ge_t (off := 7) (pc' := 33) (by decide +kernel) (by decide) (Int.not_lt.mp h9)) ?_
        refine XE.go (st_iconst (n := 0) (pc' := 34) (by decide +kernel) (w_eq (by decide) (by decide)) rfl) ?_
        exact XE.rt rfl (X_zret (by decide +kernel) rfl (by decide))
  · refine XE.go (st_icmp_ne_t (off := 28) (pc' := 33) (by decide +kernel) (by decide) h2) ?_
    refine XE.go (st_iconst (n := 0) (pc' := 34) (by decide +kernel) (w_eq (by decide) (by decide)) rfl) ?_
    exact XE.rt rfl (X_zret (by decide +kernel) rfl (by decide))
theorem ct_X4_canBeRead {D : Dt} {M : Mm} {a0 : Int} (h0 : a0 ≠ 0) (r : Int) (hr : p_X4_canBeRead M a0 = some r) : CT D 0 mu_X4_canBeRead [(8, a0)] M (.inl (some (0, r))) M := CT.of (by decide +kernel) rfl (Nat.le_of_ble_eq_true rfl) (xe_X4_canBeRead h0 r hr)
def p_X10_tellMessage (M : Mm) (a0 a1 : Int) : Option Int := if a1 = 0 then gd (a0 ≠ 0) (some ((rd M a0 7))) else if a1 = 1 then gd (a0 ≠ 0) (some ((rd M a0 8))) else if a1 = 2 then gd (a0 ≠ 0) (gd ((rd M a0 1) ≠ 0) (some ((rd M (rd M a0 1) 0)))) else if a1 = 3 then gd (a0 ≠ 0) (gd ((rd M a0 2) ≠ 0) (some ((rd M (rd M a0 2) 0)))) else if a1 = 4 then gd (a0 ≠ 0) (some ((rd M a0 9))) else if a1 = 5 then gd (a0 ≠ 0) (some ((rd M a0 3))) else if a1 = 6 then gd (a0 ≠ 0) (some ((rd M a0 4))) else if a1 = 7 then gd (a0 ≠ 0) (some ((rd M a0 10))) else gd (a0 ≠ 0) ((p_X4_canBeRead M a0).bind fun r28 => if r28 = 0 then some (0) else some (1))
set_option maxRecDepth 100000 in
set_option maxHeartbeats 4000000 in
theorem xe_X10_tellMessage {D : Dt} {M : Mm} {a0 a1 : Int} : XE D 0 mu_X10_tellMessage (EP 0 M) 0 [(0, (8, a0)), (1, (0, a1))] [] M (p_X10_tellMessage M a0 a1) := by
  unfold p_X10_tellMessage
  refine XE.go (st_iload_n (j := 1) (i := 1) (pc' := 1) (by decide +kernel) rfl rfl rfl) ?_
  refine XE.ite (fun h1 => ?_) (fun h2 => ?_)
  · refine XE.go (st_tab_in (dflt := 93) (lo := 0) (hi := 7) (offs := #[47, 52, 57, 65, 73, 78, 83, 88]) (len := 47) (off := 47) (pc' := 48) (by decide +kernel) 0 h1 (by decide) (by decide) (by decide) (by decide)) ?_
    refine XE.go (st_aload_n (j := 0) (i := 0) (pc' := 49) (by decide +kernel) rfl rfl (by decide) rfl) ?_
    refine XE.gd_ (fun g3 => ?_)
    refine XE.go (st_get (pc' := 52) (by decide +kernel) rfl cls_4 fld_RX10_138 rfl rfl g3) ?_
    exact XE.rt rfl (X_iret (by decide +kernel) rfl)
  refine XE.ite (fun h4 => ?_) (fun h5 => ?_)
  · refine XE.go (st_tab_in (dflt := 93) (lo := 0) (hi := 7) (offs := #[47, 52, 57, 65, 73, 78, 83, 88]) (len := 47) (off := 52) (pc' := 53) (by decide +kernel) 1 h4 (by decide) (by decide) (by decide) (by decide)) ?_
    refine XE.go (st_aload_n (j := 0) (i := 0) (pc' := 54) (by decide +kernel) rfl rfl (by decide) rfl) ?_
    refine XE.gd_ (fun g6 => ?_)
    refine XE.go (st_get (pc' := 57) (by decide +kernel) rfl cls_4 fld_RX10_141 rfl rfl g6) ?_
    exact XE.rt rfl (X_iret (by decide +kernel) rfl)
  refine XE.ite (fun h7 => ?_) (fun h8 => ?_)
  · refine XE.go (st_tab_in (dflt := 93) (lo := 0) (hi := 7) (offs := #[47, 52, 57, 65, 73, 78, 83, 88]) (len := 47) (off := 57) (pc' := 58) (by decide +kernel) 2 h7 (by decide) (by decide) (by decide) (by decide)) ?_
    refine XE.go (st_aload_n (j := 0) (i := 0) (pc' := 59) (by decide +kernel) rfl rfl (by decide) rfl) ?_
    refine XE.gd_ (fun g9 => ?_)
    refine XE.go (st_get (pc' := 62) (by decide +kernel) rfl cls_4 fld_RX10_208 rfl rfl g9) ?_
    refine XE.gd_ (fun g10 => ?_)
    refine XE.go (st_get (pc' := 65) (by decide +kernel) rfl cls_6 fld_RX10_476 rfl rfl g10) ?_
    exact XE.rt rfl (X_iret (by decide +kernel) rfl)
  refine XE.ite (fun h11 => ?_) (fun h12 => ?_)
  · refine XE.go (st_tab_in (dflt := 93) (lo := 0) (hi := 7) (offs := #[47, 52, 57, 65, 73, 78, 83, 88]) (len := 47) (off := 65) (pc' := 66) (by decide +kernel) 3 h11 (by decide) (by decide) (by decide) (by decide)) ?_
    refine XE.go (st_aload_n (j := 0) (i := 0) (pc' := 67) (by decide +kernel) rfl rfl (by decide) rfl) ?_
    refine XE.gd_ (fun g13 => ?_)
    refine XE.go (st_get (pc' := 70) (by decide +kernel) rfl cls_4 fld_RX10_144 rfl rfl g13) ?_
    refine XE.gd_ (fun g14 => ?_)
    refine XE.go (st_get (pc' := 73) (by decide +kernel) rfl cls_5 fld_RX10_477 rfl rfl g14) ?_
    exact XE.rt rfl (X_iret (by decide +kernel) rfl)
  refine XE.ite (fun h15 => ?_) (fun h16 => ?_)
  · refine XE.go (st_tab_in (dflt := 93) (lo := 0) (hi := 7) (offs := #[47, 52, 57, 65, 73, 78, 83, 88]) (len := 47) (off := 73) (pc' := 74) (by decide +kernel) 4 h15 (by decide) (by decide) (by decide) (by decide)) ?_
    refine XE.go (st_aload_n (j := 0) (i := 0) (pc' := 75) (by decide +kernel) rfl rfl (by decide) rfl) ?_
    refine XE.gd_ (fun g17 => ?_)
    refine XE.go (st_get (pc' := 78) (by decide +kernel) rfl cls_4 fld_RX10_205 rfl rfl g17) ?_
    exact XE.rt rfl (X_iret (by decide +kernel) rfl)
  refine XE.ite (fun h18 => ?_) (fun h19 => ?_)
  · refine XE.go (st_tab_in (dflt := 93) (lo := 0) (hi := 7) (offs := #[47, 52, 57, 65, 73, 78, 83, 88]) (len := 47) (off := 78) (pc' := 79) (by decide +kernel) 5 h18 (by decide) (by decide) (by decide) (by decide)) ?_
    refine XE.go (st_aload_n (j := 0) (i := 0) (pc' := 80) (by decide +kernel) rfl rfl (by decide) rfl) ?_
    refine XE.gd_ (fun g20 => ?_)
    refine XE.go (st_get (pc' := 83) (by decide +kernel) rfl cls_4 fld_RX10_148 rfl rfl g20) ?_
    exact XE.rt rfl (X_iret (by decide +kernel) rfl)
  refine XE.ite (fun h21 => ?_) (fun h22 => ?_)
  · refine XE.go (st_tab_in (dflt := 93) (lo := 0) (hi := 7) (offs := #[47, 52, 57, 65, 73, 78, 83, 88]) (len := 47) (off := 83) (pc' := 84) (by decide +kernel) 6 h21 (by decide) (by decide) (by decide) (by decide)) ?_
    refine XE.go (st_aload_n (j := 0) (i := 0) (pc' := 85) (by decide +kernel) rfl rfl (by decide) rfl) ?_
    refine XE.gd_ (fun g23 => ?_)
    refine XE.go (st_get (pc' := 88) (by decide +kernel) rfl cls_4 fld_RX10_155 rfl rfl g23) ?_
    exact XE.rt rfl (X_iret (by decide +kernel) rfl)
  refine XE.ite (fun h24 => ?_) (fun h25 => ?_)
  · refine XE.go (st_tab_in (dflt := 93) (lo := 0) (hi := 7) (offs := #[47, 52, 57, 65, 73, 78, 83, 88]) (len := 47) (off := 88) (pc' := 89) (by decide +kernel) 7 h24 (by decide) (by decide) (by decide) (by decide)) ?_
    refine XE.go (st_aload_n (j := 0) (i := 0) (pc' := 90) (by decide +kernel) rfl rfl (by decide) rfl) ?_
    refine XE.gd_ (fun g26 => ?_)
    refine XE.go (st_get (pc' := 93) (by decide +kernel) rfl cls_4 fld_RX10_158 rfl rfl g26) ?_
    exact XE.rt rfl (X_iret (by decide +kernel) rfl)
  refine XE.go (st_tab_out (dflt := 93) (lo := 0) (hi := 7) (offs := #[47, 52, 57, 65, 73, 78, 83, 88]) (len := 47) (pc' := 94) (by decide +kernel) (by omega) (by decide)) ?_
  refine XE.go (st_aload_n (j := 0) (i := 0) (pc' := 95) (by decide +kernel) rfl rfl (by decide) rfl) ?_
  refine XE.gd_ (fun g27 => ?_)
  refine XE.cP (pc' := 98) (st := []) (fun r hr => ct_X4_canBeRead g27 r hr) (fun r hr => run_V (st := []) (by decide +kernel) co_X10_tellMessage_478 (ct_X4_canBeRead g27 r hr) rfl g27 rfl rfl (Nat.le_of_ble_eq_true rfl)) rfl rfl (fun r28 => ?_)
  refine XE.ite (fun h29 => ?_) (fun h30 => ?_)
  · refine XE.go (st_if_eq_t (off := 7) (pc' := 105) (by decide +kernel) (by decide) h29) ?_
    refine XE.go (st_iconst (n := 0) (pc' := 106) (by decide +kernel) (w_eq (by decide) (by decide)) rfl) ?_
    exact XE.rt rfl (X_iret (by decide +kernel) rfl)
  · refine XE.go (st_if_eq_f (off := 7) (pc' := 101) (by decide +kernel) 105 (by decide) rfl h30) ?_
    refine XE.go (st_iconst (n := 1) (pc' := 102) (by decide +kernel) (w_eq (by decide) (by decide)) rfl) ?_
    refine XE.go (st_goto (off := 4) (pc' := 106) (by decide +kernel) (by decide)) ?_
    exact XE.rt rfl (X_iret (by decide +kernel) rfl)
theorem ct_X10_tellMessage {D : Dt} {M : Mm} {a0 a1 : Int} (r : Int) (hr : p_X10_tellMessage M a0 a1 = some r) : CT D 0 mu_X10_tellMessage [(8, a0), (0, a1)] M (.inl (some (0, r))) M := CT.of (by decide +kernel) rfl (Nat.le_of_ble_eq_true rfl) (xe_X10_tellMessage r hr)
def p_X10_message (M : Mm) (a0 a1 a2 : Int) : Option (Int × Int × Mm) := (p_X10_messageOf M a0 a1).bind (thT psT fun v1 M2 => (p_X10_requireWithin M2 a2 0 8).bind (thU psT fun M3 => (p_X10_tellMessage M3 v1 a2).bind fun r4 => some (0, r4, M3)))
set_option maxRecDepth 100000 in
set_option maxHeartbeats 4000000 in
theorem xe_X10_message {D : Dt} {M : Mm} {a0 a1 a2 : Int} (h0 : a0 ≠ 0) : XE D 0 mu_X10_message (ET 0) 0 [(0, (14, a0)), (1, (0, a1)), (2, (0, a2))] [] M (p_X10_message M a0 a1 a2) := by
  unfold p_X10_message
  refine XE.go (st_aload_n (j := 0) (i := 0) (pc' := 1) (by decide +kernel) rfl rfl (by decide) rfl) ?_
  refine XE.go (st_iload_n (j := 1) (i := 1) (pc' := 2) (by decide +kernel) rfl rfl rfl) ?_
  refine XE.cTg (pc' := 5) (st := []) hfT (fun r hr => ct_X10_messageOf h0 r hr) (fun r hr => run_V (st := []) (by decide +kernel) co_X10_message_469 (ct_X10_messageOf h0 r hr) rfl h0 rfl rfl (Nat.le_of_ble_eq_true rfl)) rfl rfl rfl (fun v1 M2 => ?_)
  refine XE.go (st_astore_n (j := 3) (i := 3) (pc' := 6) (by decide +kernel) rfl (by decide) rfl (by decide) rfl rfl) ?_
  refine XE.go (st_iload_n (j := 2) (i := 2) (pc' := 7) (by decide +kernel) rfl rfl rfl) ?_
  refine XE.go (st_iconst (n := 0) (pc' := 8) (by decide +kernel) (w_eq (by decide) (by decide)) rfl) ?_
  refine XE.go (st_bipush (n := 8) (pc' := 10) (by decide +kernel) (by decide) (w_eq (by decide) (by decide)) rfl) ?_
  refine XE.cUg (pc' := 13) (st := []) hfT (fun r hr => ct_X10_requireWithin r hr) (fun r hr => run_S (st := []) (by decide +kernel) co_X10_message_73 (ct_X10_requireWithin r hr) rfl rfl (Nat.le_of_ble_eq_true rfl)) rfl rfl rfl (fun M3 => ?_)
  refine XE.go (st_aload_n (j := 3) (i := 3) (pc' := 14) (by decide +kernel) rfl rfl (by decide) rfl) ?_
  refine XE.go (st_iload_n (j := 2) (i := 2) (pc' := 15) (by decide +kernel) rfl rfl rfl) ?_
  refine XE.cP (pc' := 18) (st := []) (fun r hr => ct_X10_tellMessage r hr) (fun r hr => run_S (st := []) (by decide +kernel) co_X10_message_472 (ct_X10_tellMessage r hr) rfl rfl (Nat.le_of_ble_eq_true rfl)) rfl rfl (fun r4 => ?_)
  exact XE.rt rfl (X_iret (by decide +kernel) rfl)
theorem ct_X10_message {D : Dt} {M : Mm} {a0 a1 a2 : Int} (h0 : a0 ≠ 0) (r : (Int × Int × Mm)) (hr : p_X10_message M a0 a1 a2 = some r) : CT D 0 mu_X10_message [(14, a0), (0, a1), (0, a2)] M (ET 0 r).1 (ET 0 r).2 := CT.of (by decide +kernel) rfl (Nat.le_of_ble_eq_true rfl) (xe_X10_message h0 r hr)
def p_X10_at (M : Mm) (a0 a1 a2 : Int) : Option (Int × Int × Mm) := (p_X10_partitionOf M a0 a1).bind (thT psT fun v1 M2 => if a2 < 0 then psT 1 0 (thr M2) else gd (v1 ≠ 0) ((p_X5_storedAt M2 v1 a2).bind fun r6 => if r6 = 0 then some (0, (-1), M2) else some (0, (rd M2 r6 0), M2)))
set_option maxRecDepth 100000 in
set_option maxHeartbeats 4000000 in
theorem xe_X10_at {D : Dt} {M : Mm} {a0 a1 a2 : Int} (h0 : a0 ≠ 0) : XE D 0 mu_X10_at (ET 0) 0 [(0, (14, a0)), (1, (0, a1)), (2, (0, a2))] [] M (p_X10_at M a0 a1 a2) := by
  unfold p_X10_at
  refine XE.go (st_aload_n (j := 0) (i := 0) (pc' := 1) (by decide +kernel) rfl rfl (by decide) rfl) ?_
  refine XE.go (st_iload_n (j := 1) (i := 1) (pc' := 2) (by decide +kernel) rfl rfl rfl) ?_
  refine XE.cTg (pc' := 5) (st := []) hfT (fun r hr => ct_X10_partitionOf h0 r hr) (fun r hr => run_V (st := []) (by decide +kernel) co_X10_at_116 (ct_X10_partitionOf h0 r hr) rfl h0 rfl rfl (Nat.le_of_ble_eq_true rfl)) rfl rfl rfl (fun v1 M2 => ?_)
  refine XE.go (st_astore_n (j := 3) (i := 3) (pc' := 6) (by decide +kernel) rfl (by decide) rfl (by decide) rfl rfl) ?_
  refine XE.go (st_iload_n (j := 2) (i := 2) (pc' := 7) (by decide +kernel) rfl rfl rfl) ?_
  refine XE.ite (fun h3 => ?_) (fun h4 => ?_)
  · refine XE.go (st_if_ge_f (off := 14) (pc' := 10) (by decide +kernel) 21 (by decide) rfl (Int.not_le.mpr h3)) ?_
    exact XE.thrTW (by decide +kernel) (by decide +kernel) (by decide +kernel) (by decide +kernel) (by decide +kernel) thr_RX10_483 rfl (by decide) (by decide) (by decide)
  · refine XE.go (st_if_ge_t (off := 14) (pc' := 21) (by decide +kernel) (by decide) (Int.not_lt.mp h4)) ?_
    refine XE.go (st_aload_n (j := 3) (i := 3) (pc' := 22) (by decide +kernel) rfl rfl (by decide) rfl) ?_
    refine XE.go (st_iload_n (j := 2) (i := 2) (pc' := 23) (by decide +kernel) rfl rfl rfl) ?_
    refine XE.gd_ (fun g5 => ?_)
    refine XE.cP (pc' := 26) (st := []) (fun r hr => ct_X5_storedAt g5 r hr) (fun r hr => run_V (st := []) (by decide +kernel) co_X10_at_130 (ct_X5_storedAt g5 r hr) rfl g5 rfl rfl (Nat.le_of_ble_eq_true rfl)) rfl rfl (fun r6 => ?_)
    refine XE.go (st_astore (j := 4) (pc' := 28) (by decide +kernel)  (by decide) rfl (by decide) rfl rfl) ?_
    refine XE.go (st_aload (j := 4) (pc' := 30) (by decide +kernel) rfl (by decide) rfl) ?_
    refine XE.ite (fun h7 => ?_) (fun h8 => ?_)
    · refine XE.go (st_ifnonnull_f (off := 7) (pc' := 33) (by decide +kernel) (by decide) h7 rfl) ?_
      refine XE.go (st_iconst (n := (-1)) (pc' := 34) (by decide +kernel) (w_eq (by decide) (by decide)) rfl) ?_
      refine XE.go (st_goto (off := 8) (pc' := 42) (by decide +kernel) (by decide)) ?_
      exact XE.rt rfl (X_iret (by decide +kernel) rfl)
    · refine XE.go (st_ifnonnull_t (off := 7) (pc' := 37) (by decide +kernel) (by decide) h8 (by decide)) ?_
      refine XE.go (st_aload (j := 4) (pc' := 39) (by decide +kernel) rfl (by decide) rfl) ?_
      refine XE.go (st_get (pc' := 42) (by decide +kernel) rfl cls_4 fld_RX10_323 rfl rfl h8) ?_
      exact XE.rt rfl (X_iret (by decide +kernel) rfl)
theorem ct_X10_at {D : Dt} {M : Mm} {a0 a1 a2 : Int} (h0 : a0 ≠ 0) (r : (Int × Int × Mm)) (hr : p_X10_at M a0 a1 a2 = some r) : CT D 0 mu_X10_at [(14, a0), (0, a1), (0, a2)] M (ET 0 r).1 (ET 0 r).2 := CT.of (by decide +kernel) rfl (Nat.le_of_ble_eq_true rfl) (xe_X10_at h0 r hr)
def b_X5_inSyncBits_13 (v4 : Int) (v1 : Int) (M : Mm) (s6 : Int × Int) : Option ((Int × Int) ⊕ (Int)) := if s6.2 < v4 then gd (aok v1 s6.2) ((some ((rd M v1 s6.2))).bind fun v15 => if v15 = 0 then some (.inl (s6.1, (w (s6.2 + 1)))) else if (rd M v15 4) = 0 then some (.inl (s6.1, (w (s6.2 + 1)))) else (some ((ior s6.1 (shl 1 (rd M v15 0))))).bind fun v21 => some (.inl (v21, (w (s6.2 + 1))))) else some (.inr s6.1)
def p_X5_inSyncBits (M : Mm) (a0 : Int) : Option Int := (some ((rd M a0 2))).bind fun v1 => gd (v1 ≠ 0) ((some ((ln v1))).bind fun v4 => (lp (b_X5_inSyncBits_13 v4 v1 M) 1000 (0, 0)).bind fun (t7 : Int) => some (t7))
set_option maxRecDepth 100000 in
set_option maxHeartbeats 4000000 in
theorem xe_X5_inSyncBits {D : Dt} {M : Mm} {a0 : Int} (h0 : a0 ≠ 0) : XE D 0 mu_X5_inSyncBits (EP 0 M) 0 [(0, (9, a0))] [] M (p_X5_inSyncBits M a0) := by
  unfold p_X5_inSyncBits
  refine XE.go (st_iconst (n := 0) (pc' := 1) (by decide +kernel) (w_eq (by decide) (by decide)) rfl) ?_
  refine XE.go (st_istore_n (j := 1) (i := 1) (pc' := 2) (by decide +kernel) rfl rfl (by decide) rfl rfl) ?_
  refine XE.go (st_aload_n (j := 0) (i := 0) (pc' := 3) (by decide +kernel) rfl rfl (by decide) rfl) ?_
  refine XE.go (st_get (pc' := 6) (by decide +kernel) rfl cls_5 fld_RX5_11 rfl rfl h0) ?_
  refine XE.gen (fun v1 e2 => ?_)
  refine XE.go (st_astore_n (j := 2) (i := 2) (pc' := 7) (by decide +kernel) rfl (by decide) rfl (by decide) rfl rfl) ?_
  refine XE.go (st_aload_n (j := 2) (i := 2) (pc' := 8) (by decide +kernel) rfl rfl (by decide) rfl) ?_
  refine XE.gd_ (fun g3 => ?_)
  refine XE.go (st_alen (k := 23) (pc' := 9) (by decide +kernel) rfl ak_23 rfl (by decide) g3) ?_
  refine XE.gen (fun v4 e5 => ?_)
  refine XE.go (st_istore_n (j := 3) (i := 3) (pc' := 10) (by decide +kernel) rfl rfl (by decide) rfl rfl) ?_
  refine XE.go (st_iconst (n := 0) (pc' := 11) (by decide +kernel) (w_eq (by decide) (by decide)) rfl) ?_
  refine XE.go (st_istore (j := 4) (pc' := 13) (by decide +kernel)  rfl (by decide) rfl rfl) ?_
  refine XE.pick [3, 2, 1, 0] (L' := [(1, (0, 0)), (2, (26, v1)), (3, (0, v4)), (4, (0, 0))]) rfl ?_
  refine XE.loopJ (n := 1000) (s0 := (0, 0)) (pcL := 13) (pcE := 54) (LL := fun (s6 : Int × Int) => [(1, (0, s6.1)), (2, (26, v1)), (3, (0, v4)), (4, (0, s6.2))]) (sL := fun _ => []) (ML := fun (s6 : Int × Int) => M) (LE := fun (t7 : Int) => [(1, (0, t7))]) (sE := fun _ => []) (ME := fun (t7 : Int) => M) (fun kk11 hc8 he9 s6 => ?_) (fun t7 => ?_)
  · unfold b_X5_inSyncBits_13
    refine XE.go (st_iload (j := 4) (pc' := 15) (by decide +kernel) rfl rfl) ?_
    refine XE.go (st_iload_n (j := 3) (i := 3) (pc' := 16) (by decide +kernel) rfl rfl rfl) ?_
    refine XE.bite (fun h12 => ?_) (fun h13 => ?_)
    · refine XE.go (st_icmp_ge_f (off := 38) (pc' := 19) (by decide +kernel) 54 (by decide) rfl (Int.not_le.mpr h12)) ?_
      refine XE.go (st_aload_n (j := 2) (i := 2) (pc' := 20) (by decide +kernel) rfl rfl (by decide) rfl) ?_
      refine XE.go (st_iload (j := 4) (pc' := 22) (by decide +kernel) rfl rfl) ?_
      refine XE.gdb (fun g14 => ?_)
      refine XE.go (st_ald (k := 23) (tp := 11) (pc' := 23) (by decide +kernel) rfl ak_23 rfl (by decide) rfl (Or.inr (Or.inr (Or.inr ⟨rfl, rfl⟩))) g14.1 g14.2.1 g14.2.2) ?_
      refine XE.asc ?_
      refine XE.gen (fun v15 e16 => ?_)
      refine XE.go (st_astore (j := 5) (pc' := 25) (by decide +kernel)  (by decide) rfl (by decide) rfl rfl) ?_
      refine XE.go (st_aload (j := 5) (pc' := 27) (by decide +kernel) rfl (by decide) rfl) ?_
      refine XE.bite (fun h17 => ?_) (fun h18 => ?_)
      · refine XE.go (st_ifnull_t (off := 21) (pc' := 48) (by decide +kernel) (by decide) h17 (by decide)) ?_
        refine XE.go (st_iinc (j := 4) (n := 1) (pc' := 51) (by decide +kernel) rfl rfl (by decide) rfl rfl) ?_
        refine XE.go (st_goto (off := (-38)) (pc' := 13) (by decide +kernel) (by decide)) ?_
        exact XE.pick [2, 3, 4, 0] rfl (hc8 (s6.1, (w (s6.2 + 1))))
      · refine XE.go (st_ifnull_f (off := 21) (pc' := 30) (by decide +kernel) (by decide) h18 rfl) ?_
        refine XE.go (st_aload (j := 5) (pc' := 32) (by decide +kernel) rfl (by decide) rfl) ?_
        refine XE.go (st_get (pc' := 35) (by decide +kernel) rfl cls_7 fld_RX5_49 rfl rfl h18) ?_
        refine XE.bite (fun h19 => ?_) (fun h20 => ?_)
        · refine XE.go (st_if_eq_t (off := 13) (pc' := 48) (by decide +kernel) (by decide) h19) ?_
          refine XE.go (st_iinc (j := 4) (n := 1) (pc' := 51) (by decide +kernel) rfl rfl (by decide) rfl rfl) ?_
          refine XE.go (st_goto (off := (-38)) (pc' := 13) (by decide +kernel) (by decide)) ?_
          exact XE.pick [2, 3, 4, 0] rfl (hc8 (s6.1, (w (s6.2 + 1))))
        · refine XE.go (st_if_eq_f (off := 13) (pc' := 38) (by decide +kernel) 48 (by decide) rfl h20) ?_
          refine XE.go (st_iload_n (j := 1) (i := 1) (pc' := 39) (by decide +kernel) rfl rfl rfl) ?_
          refine XE.go (st_iconst (n := 1) (pc' := 40) (by decide +kernel) (w_eq (by decide) (by decide)) rfl) ?_
          refine XE.go (st_aload (j := 5) (pc' := 42) (by decide +kernel) rfl (by decide) rfl) ?_
          refine XE.go (st_get (pc' := 45) (by decide +kernel) rfl cls_7 fld_RX5_56 rfl rfl h18) ?_
          refine XE.go (st_ishl (pc' := 46) (by decide +kernel) rfl) ?_
          refine XE.go (st_ior (pc' := 47) (by decide +kernel) rfl) ?_
          refine XE.asc ?_
          refine XE.gen (fun v21 e22 => ?_)
          refine XE.go (st_istore_n (j := 1) (i := 1) (pc' := 48) (by decide +kernel) rfl rfl (by decide) rfl rfl) ?_
          refine XE.go (st_iinc (j := 4) (n := 1) (pc' := 51) (by decide +kernel) rfl rfl (by decide) rfl rfl) ?_
          refine XE.go (st_goto (off := (-38)) (pc' := 13) (by decide +kernel) (by decide)) ?_
          exact XE.pick [1, 3, 4, 0] rfl (hc8 (v21, (w (s6.2 + 1))))
    · refine XE.go (st_icmp_ge_t (off := 38) (pc' := 54) (by decide +kernel) (by decide) (Int.not_lt.mp h13)) ?_
      exact XE.pick [0] rfl (he9 s6.1)
  · refine XE.go (st_iload_n (j := 1) (i := 1) (pc' := 55) (by decide +kernel) rfl rfl rfl) ?_
    exact XE.rt rfl (X_iret (by decide +kernel) rfl)
theorem ct_X5_inSyncBits {D : Dt} {M : Mm} {a0 : Int} (h0 : a0 ≠ 0) (r : Int) (hr : p_X5_inSyncBits M a0 = some r) : CT D 0 mu_X5_inSyncBits [(9, a0)] M (.inl (some (0, r))) M := CT.of (by decide +kernel) rfl (Nat.le_of_ble_eq_true rfl) (xe_X5_inSyncBits h0 r hr)
def p_X10_tellPartition (M : Mm) (a0 a1 : Int) : Option Int := if a1 = 0 then gd (a0 ≠ 0) (gd ((rd M a0 1) ≠ 0) (some ((rd M (rd M a0 1) 0)))) else if a1 = 1 then gd (a0 ≠ 0) (if (rd M a0 4) = 0 then some ((-1)) else some ((rd M (rd M a0 4) 0))) else if a1 = 2 then gd (a0 ≠ 0) ((p_X5_inSyncBits M a0).bind fun r13 => some (r13)) else if a1 = 3 then gd (a0 ≠ 0) ((p_X5_highWatermark M a0).bind fun r17 => some (r17)) else if a1 = 4 then gd (a0 ≠ 0) ((p_X5_stableOffset M a0).bind fun r21 => some (r21)) else if a1 = 5 then gd (a0 ≠ 0) (some ((rd M a0 5))) else if a1 = 6 then gd (a0 ≠ 0) ((p_X5_logEnd M a0).bind fun r28 => some (r28)) else gd (a0 ≠ 0) ((p_X5_storedCount M a0).bind fun r30 => some (r30))
set_option maxRecDepth 100000 in
set_option maxHeartbeats 4000000 in
theorem xe_X10_tellPartition {D : Dt} {M : Mm} {a0 a1 : Int} : XE D 0 mu_X10_tellPartition (EP 0 M) 0 [(0, (9, a0)), (1, (0, a1))] [] M (p_X10_tellPartition M a0 a1) := by
  unfold p_X10_tellPartition
  refine XE.go (st_iload_n (j := 1) (i := 1) (pc' := 1) (by decide +kernel) rfl rfl rfl) ?_
  refine XE.ite (fun h1 => ?_) (fun h2 => ?_)
  · refine XE.go (st_tab_in (dflt := 95) (lo := 0) (hi := 6) (offs := #[43, 51, 70, 75, 80, 85, 90]) (len := 43) (off := 43) (pc' := 44) (by decide +kernel) 0 h1 (by decide) (by decide) (by decide) (by decide)) ?_
    refine XE.go (st_aload_n (j := 0) (i := 0) (pc' := 45) (by decide +kernel) rfl rfl (by decide) rfl) ?_
    refine XE.gd_ (fun g3 => ?_)
    refine XE.go (st_get (pc' := 48) (by decide +kernel) rfl cls_5 fld_RX10_120 rfl rfl g3) ?_
    refine XE.gd_ (fun g4 => ?_)
    refine XE.go (st_get (pc' := 51) (by decide +kernel) rfl cls_9 fld_RX10_91 rfl rfl g4) ?_
    exact XE.rt rfl (X_iret (by decide +kernel) rfl)
  refine XE.ite (fun h5 => ?_) (fun h6 => ?_)
  · refine XE.go (st_tab_in (dflt := 95) (lo := 0) (hi := 6) (offs := #[43, 51, 70, 75, 80, 85, 90]) (len := 43) (off := 51) (pc' := 52) (by decide +kernel) 1 h5 (by decide) (by decide) (by decide) (by decide)) ?_
    refine XE.go (st_aload_n (j := 0) (i := 0) (pc' := 53) (by decide +kernel) rfl rfl (by decide) rfl) ?_
    refine XE.gd_ (fun g7 => ?_)
    refine XE.go (st_get (pc' := 56) (by decide +kernel) rfl cls_5 fld_RX10_179 rfl rfl g7) ?_
    refine XE.ite (fun h8 => ?_) (fun h9 => ?_)
    · refine XE.go (st_ifnonnull_f (off := 7) (pc' := 59) (by decide +kernel) (by decide) h8 rfl) ?_
      refine XE.go (st_iconst (n := (-1)) (pc' := 60) (by decide +kernel) (w_eq (by decide) (by decide)) rfl) ?_
      refine XE.go (st_goto (off := 10) (pc' := 70) (by decide +kernel) (by decide)) ?_
      exact XE.rt rfl (X_iret (by decide +kernel) rfl)
    · refine XE.go (st_ifnonnull_t (off := 7) (pc' := 63) (by decide +kernel) (by decide) h9 (by decide)) ?_
      refine XE.go (st_aload_n (j := 0) (i := 0) (pc' := 64) (by decide +kernel) rfl rfl (by decide) rfl) ?_
      refine XE.go (st_get (pc' := 67) (by decide +kernel) rfl cls_5 fld_RX10_179 rfl rfl g7) ?_
      refine XE.go (st_get (pc' := 70) (by decide +kernel) rfl cls_7 fld_RX10_489 rfl rfl h9) ?_
      exact XE.rt rfl (X_iret (by decide +kernel) rfl)
  refine XE.ite (fun h10 => ?_) (fun h11 => ?_)
  · refine XE.go (st_tab_in (dflt := 95) (lo := 0) (hi := 6) (offs := #[43, 51, 70, 75, 80, 85, 90]) (len := 43) (off := 70) (pc' := 71) (by decide +kernel) 2 h10 (by decide) (by decide) (by decide) (by decide)) ?_
    refine XE.go (st_aload_n (j := 0) (i := 0) (pc' := 72) (by decide +kernel) rfl rfl (by decide) rfl) ?_
    refine XE.gd_ (fun g12 => ?_)
    refine XE.cP (pc' := 75) (st := []) (fun r hr => ct_X5_inSyncBits g12 r hr) (fun r hr => run_V (st := []) (by decide +kernel) co_X10_tellPartition_490 (ct_X5_inSyncBits g12 r hr) rfl g12 rfl rfl (Nat.le_of_ble_eq_true rfl)) rfl rfl (fun r13 => ?_)
    exact XE.rt rfl (X_iret (by decide +kernel) rfl)
  refine XE.ite (fun h14 => ?_) (fun h15 => ?_)
  · refine XE.go (st_tab_in (dflt := 95) (lo := 0) (hi := 6) (offs := #[43, 51, 70, 75, 80, 85, 90]) (len := 43) (off := 75) (pc' := 76) (by decide +kernel) 3 h14 (by decide) (by decide) (by decide) (by decide)) ?_
    refine XE.go (st_aload_n (j := 0) (i := 0) (pc' := 77) (by decide +kernel) rfl rfl (by decide) rfl) ?_
    refine XE.gd_ (fun g16 => ?_)
    refine XE.cP (pc' := 80) (st := []) (fun r hr => ct_X5_highWatermark g16 r hr) (fun r hr => run_V (st := []) (by decide +kernel) co_X10_tellPartition_363 (ct_X5_highWatermark g16 r hr) rfl g16 rfl rfl (Nat.le_of_ble_eq_true rfl)) rfl rfl (fun r17 => ?_)
    exact XE.rt rfl (X_iret (by decide +kernel) rfl)
  refine XE.ite (fun h18 => ?_) (fun h19 => ?_)
  · refine XE.go (st_tab_in (dflt := 95) (lo := 0) (hi := 6) (offs := #[43, 51, 70, 75, 80, 85, 90]) (len := 43) (off := 80) (pc' := 81) (by decide +kernel) 4 h18 (by decide) (by decide) (by decide) (by decide)) ?_
    refine XE.go (st_aload_n (j := 0) (i := 0) (pc' := 82) (by decide +kernel) rfl rfl (by decide) rfl) ?_
    refine XE.gd_ (fun g20 => ?_)
    refine XE.cP (pc' := 85) (st := []) (fun r hr => ct_X5_stableOffset g20 r hr) (fun r hr => run_V (st := []) (by decide +kernel) co_X10_tellPartition_126 (ct_X5_stableOffset g20 r hr) rfl g20 rfl rfl (Nat.le_of_ble_eq_true rfl)) rfl rfl (fun r21 => ?_)
    exact XE.rt rfl (X_iret (by decide +kernel) rfl)
  refine XE.ite (fun h22 => ?_) (fun h23 => ?_)
  · refine XE.go (st_tab_in (dflt := 95) (lo := 0) (hi := 6) (offs := #[43, 51, 70, 75, 80, 85, 90]) (len := 43) (off := 85) (pc' := 86) (by decide +kernel) 5 h22 (by decide) (by decide) (by decide) (by decide)) ?_
    refine XE.go (st_aload_n (j := 0) (i := 0) (pc' := 87) (by decide +kernel) rfl rfl (by decide) rfl) ?_
    refine XE.gd_ (fun g24 => ?_)
    refine XE.go (st_get (pc' := 90) (by decide +kernel) rfl cls_5 fld_RX10_282 rfl rfl g24) ?_
    exact XE.rt rfl (X_iret (by decide +kernel) rfl)
  refine XE.ite (fun h25 => ?_) (fun h26 => ?_)
  · refine XE.go (st_tab_in (dflt := 95) (lo := 0) (hi := 6) (offs := #[43, 51, 70, 75, 80, 85, 90]) (len := 43) (off := 90) (pc' := 91) (by decide +kernel) 6 h25 (by decide) (by decide) (by decide) (by decide)) ?_
    refine XE.go (st_aload_n (j := 0) (i := 0) (pc' := 92) (by decide +kernel) rfl rfl (by decide) rfl) ?_
    refine XE.gd_ (fun g27 => ?_)
    refine XE.cP (pc' := 95) (st := []) (fun r hr => ct_X5_logEnd g27 r hr) (fun r hr => run_V (st := []) (by decide +kernel) co_X10_tellPartition_493 (ct_X5_logEnd g27 r hr) rfl g27 rfl rfl (Nat.le_of_ble_eq_true rfl)) rfl rfl (fun r28 => ?_)
    exact XE.rt rfl (X_iret (by decide +kernel) rfl)
  refine XE.go (st_tab_out (dflt := 95) (lo := 0) (hi := 6) (offs := #[43, 51, 70, 75, 80, 85, 90]) (len := 43) (pc' := 96) (by decide +kernel) (by omega) (by decide)) ?_
  refine XE.go (st_aload_n (j := 0) (i := 0) (pc' := 97) (by decide +kernel) rfl rfl (by decide) rfl) ?_
  refine XE.gd_ (fun g29 => ?_)
  refine XE.cP (pc' := 100) (st := []) (fun r hr => ct_X5_storedCount g29 r hr) (fun r hr => run_V (st := []) (by decide +kernel) co_X10_tellPartition_279 (ct_X5_storedCount g29 r hr) rfl g29 rfl rfl (Nat.le_of_ble_eq_true rfl)) rfl rfl (fun r30 => ?_)
  exact XE.rt rfl (X_iret (by decide +kernel) rfl)
theorem ct_X10_tellPartition {D : Dt} {M : Mm} {a0 a1 : Int} (r : Int) (hr : p_X10_tellPartition M a0 a1 = some r) : CT D 0 mu_X10_tellPartition [(9, a0), (0, a1)] M (.inl (some (0, r))) M := CT.of (by decide +kernel) rfl (Nat.le_of_ble_eq_true rfl) (xe_X10_tellPartition r hr)
def p_X10_partition (M : Mm) (a0 a1 a2 : Int) : Option (Int × Int × Mm) := (p_X10_partitionOf M a0 a1).bind (thT psT fun v1 M2 => (p_X10_requireWithin M2 a2 0 7).bind (thU psT fun M3 => (p_X10_tellPartition M3 v1 a2).bind fun r4 => some (0, r4, M3)))
set_option maxRecDepth 100000 in
set_option maxHeartbeats 4000000 in
theorem xe_X10_partition {D : Dt} {M : Mm} {a0 a1 a2 : Int} (h0 : a0 ≠ 0) : XE D 0 mu_X10_partition (ET 0) 0 [(0, (14, a0)), (1, (0, a1)), (2, (0, a2))] [] M (p_X10_partition M a0 a1 a2) := by
  unfold p_X10_partition
  refine XE.go (st_aload_n (j := 0) (i := 0) (pc' := 1) (by decide +kernel) rfl rfl (by decide) rfl) ?_
  refine XE.go (st_iload_n (j := 1) (i := 1) (pc' := 2) (by decide +kernel) rfl rfl rfl) ?_
  refine XE.cTg (pc' := 5) (st := []) hfT (fun r hr => ct_X10_partitionOf h0 r hr) (fun r hr => run_V (st := []) (by decide +kernel) co_X10_partition_116 (ct_X10_partitionOf h0 r hr) rfl h0 rfl rfl (Nat.le_of_ble_eq_true rfl)) rfl rfl rfl (fun v1 M2 => ?_)
  refine XE.go (st_astore_n (j := 3) (i := 3) (pc' := 6) (by decide +kernel) rfl (by decide) rfl (by decide) rfl rfl) ?_
  refine XE.go (st_iload_n (j := 2) (i := 2) (pc' := 7) (by decide +kernel) rfl rfl rfl) ?_
  refine XE.go (st_iconst (n := 0) (pc' := 8) (by decide +kernel) (w_eq (by decide) (by decide)) rfl) ?_
  refine XE.go (st_bipush (n := 7) (pc' := 10) (by decide +kernel) (by decide) (w_eq (by decide) (by decide)) rfl) ?_
  refine XE.cUg (pc' := 13) (st := []) hfT (fun r hr => ct_X10_requireWithin r hr) (fun r hr => run_S (st := []) (by decide +kernel) co_X10_partition_73 (ct_X10_requireWithin r hr) rfl rfl (Nat.le_of_ble_eq_true rfl)) rfl rfl rfl (fun M3 => ?_)
  refine XE.go (st_aload_n (j := 3) (i := 3) (pc' := 14) (by decide +kernel) rfl rfl (by decide) rfl) ?_
  refine XE.go (st_iload_n (j := 2) (i := 2) (pc' := 15) (by decide +kernel) rfl rfl rfl) ?_
  refine XE.cP (pc' := 18) (st := []) (fun r hr => ct_X10_tellPartition r hr) (fun r hr => run_S (st := []) (by decide +kernel) co_X10_partition_486 (ct_X10_tellPartition r hr) rfl rfl (Nat.le_of_ble_eq_true rfl)) rfl rfl (fun r4 => ?_)
  exact XE.rt rfl (X_iret (by decide +kernel) rfl)
theorem ct_X10_partition {D : Dt} {M : Mm} {a0 a1 a2 : Int} (h0 : a0 ≠ 0) (r : (Int × Int × Mm)) (hr : p_X10_partition M a0 a1 a2 = some r) : CT D 0 mu_X10_partition [(14, a0), (0, a1), (0, a2)] M (ET 0 r).1 (ET 0 r).2 := CT.of (by decide +kernel) rfl (Nat.le_of_ble_eq_true rfl) (xe_X10_partition h0 r hr)
def p_X10_replicaOf (M : Mm) (a0 a1 : Int) : Option (Int × Int × Mm) := gd (a0 ≠ 0) ((some ((rd M a0 2))).bind fun v2 => (if a1 < 0 then some (0) else gd (v2 ≠ 0) (if a1 < (ln v2) then gd (aok v2 a1) (some ((rd M v2 a1))) else some (0)) : Option (Int)).bind fun (s4 : Int) => if s4 = 0 then psT 1 0 (thr M) else some (0, s4, M))
set_option maxRecDepth 100000 in
set_option maxHeartbeats 4000000 in
theorem xe_X10_replicaOf {D : Dt} {M : Mm} {a0 a1 : Int} : XE D 0 mu_X10_replicaOf (ET 11) 0 [(0, (9, a0)), (1, (0, a1))] [] M (p_X10_replicaOf M a0 a1) := by
  unfold p_X10_replicaOf
  refine XE.go (st_aload_n (j := 0) (i := 0) (pc' := 1) (by decide +kernel) rfl rfl (by decide) rfl) ?_
  refine XE.gd_ (fun g1 => ?_)
  refine XE.go (st_get (pc' := 4) (by decide +kernel) rfl cls_5 fld_RX10_260 rfl rfl g1) ?_
  refine XE.gen (fun v2 e3 => ?_)
  refine XE.go (st_astore_n (j := 2) (i := 2) (pc' := 5) (by decide +kernel) rfl (by decide) rfl (by decide) rfl rfl) ?_
  refine XE.go (st_iload_n (j := 1) (i := 1) (pc' := 6) (by decide +kernel) rfl rfl rfl) ?_
  refine XE.join (pcJ := 22) (LJ := fun (s4 : Int) => []) (sJ := fun (s4 : Int) => [(11, s4)]) (MJ := fun (s4 : Int) => M) (fun kk7 hk5 => ?_) (fun s4 => ?_)
  · refine XE.bite (fun h8 => ?_) (fun h9 => ?_)
    · refine XE.go (st_if_lt_t (off := 15) (pc' := 21) (by decide +kernel) (by decide) h8) ?_
      refine XE.go (st_null (t := 11) (pc' := 22) (by decide +kernel) (by decide) rfl) ?_
      exact XE.pick [] rfl (hk5 0)
    · refine XE.go (st_if_lt_f (off := 15) (pc' := 9) (by decide +kernel) 21 (by decide) rfl h9) ?_
      refine XE.go (st_iload_n (j := 1) (i := 1) (pc' := 10) (by decide +kernel) rfl rfl rfl) ?_
      refine XE.go (st_aload_n (j := 2) (i := 2) (pc' := 11) (by decide +kernel) rfl rfl (by decide) rfl) ?_
      refine XE.gdb (fun g10 => ?_)
      refine XE.go (st_alen (k := 23) (pc' := 12) (by decide +kernel) rfl ak_23 rfl (by decide) g10) ?_
      refine XE.bite (fun h11 => ?_) (fun h12 => ?_)
      · refine XE.go (st_icmp_ge_f (off := 9) (pc' := 15) (by decide +kernel) 21 (by decide) rfl (Int.not_le.mpr h11)) ?_
        refine XE.go (st_aload_n (j := 2) (i := 2) (pc' := 16) (by decide +kernel) rfl rfl (by decide) rfl) ?_
        refine XE.go (st_iload_n (j := 1) (i := 1) (pc' := 17) (by decide +kernel) rfl rfl rfl) ?_
        refine XE.gdb (fun g13 => ?_)
        refine XE.go (st_ald (k := 23) (tp := 11) (pc' := 18) (by decide +kernel) rfl ak_23 rfl (by decide) rfl (Or.inr (Or.inr (Or.inr ⟨rfl, rfl⟩))) g13.1 g13.2.1 g13.2.2) ?_
        refine XE.go (st_goto (off := 4) (pc' := 22) (by decide +kernel) (by decide)) ?_
        exact XE.pick [] rfl (hk5 (rd M v2 a1))
      · refine XE.go (st_icmp_ge_t (off := 9) (pc' := 21) (by decide +kernel) (by decide) (Int.not_lt.mp h12)) ?_
        refine XE.go (st_null (t := 11) (pc' := 22) (by decide +kernel) (by decide) rfl) ?_
        exact XE.pick [] rfl (hk5 0)
  · refine XE.go (st_astore_n (j := 3) (i := 3) (pc' := 23) (by decide +kernel) rfl (by decide) rfl (by decide) rfl rfl) ?_
    refine XE.go (st_aload_n (j := 3) (i := 3) (pc' := 24) (by decide +kernel) rfl rfl (by decide) rfl) ?_
    refine XE.ite (fun h14 => ?_) (fun h15 => ?_)
    · refine XE.go (st_ifnonnull_f (off := 14) (pc' := 27) (by decide +kernel) (by decide) h14 rfl) ?_
      exact XE.thrTW (by decide +kernel) (by decide +kernel) (by decide +kernel) (by decide +kernel) (by decide +kernel) thr_RX10_631 rfl (by decide) (by decide) (by decide)
    · refine XE.go (st_ifnonnull_t (off := 14) (pc' := 38) (by decide +kernel) (by decide) h15 (by decide)) ?_
      refine XE.go (st_aload_n (j := 3) (i := 3) (pc' := 39) (by decide +kernel) rfl rfl (by decide) rfl) ?_
      exact XE.rt rfl (X_aret (by decide +kernel) rfl (Or.inl ⟨_, rfl⟩) (by decide))
theorem ct_X10_replicaOf {D : Dt} {M : Mm} {a0 a1 : Int} (r : (Int × Int × Mm)) (hr : p_X10_replicaOf M a0 a1 = some r) : CT D 0 mu_X10_replicaOf [(9, a0), (0, a1)] M (ET 11 r).1 (ET 11 r).2 := CT.of (by decide +kernel) rfl (Nat.le_of_ble_eq_true rfl) (xe_X10_replicaOf r hr)
def p_X10_replica (M : Mm) (a0 a1 a2 a3 : Int) : Option (Int × Int × Mm) := (p_X10_partitionOf M a0 a1).bind (thT psT fun v1 M2 => (p_X10_replicaOf M2 v1 a2).bind (thT psT fun v3 M4 => (p_X10_requireWithin M4 a3 0 2).bind (thU psT fun M5 => if a3 = 0 then gd (v3 ≠ 0) (some (0, (rd M5 v3 1), M5)) else if a3 = 1 then gd (v3 ≠ 0) (some (0, (rd M5 v3 2), M5)) else gd (v3 ≠ 0) (some (0, (rd M5 v3 3), M5)))))
set_option maxRecDepth 100000 in
set_option maxHeartbeats 4000000 in
theorem xe_X10_replica {D : Dt} {M : Mm} {a0 a1 a2 a3 : Int} (h0 : a0 ≠ 0) : XE D 0 mu_X10_replica (ET 0) 0 [(0, (14, a0)), (1, (0, a1)), (2, (0, a2)), (3, (0, a3))] [] M (p_X10_replica M a0 a1 a2 a3) := by
  unfold p_X10_replica
  refine XE.go (st_aload_n (j := 0) (i := 0) (pc' := 1) (by decide +kernel) rfl rfl (by decide) rfl) ?_
  refine XE.go (st_iload_n (j := 1) (i := 1) (pc' := 2) (by decide +kernel) rfl rfl rfl) ?_
  refine XE.cTg (pc' := 5) (st := []) hfT (fun r hr => ct_X10_partitionOf h0 r hr) (fun r hr => run_V (st := []) (by decide +kernel) co_X10_replica_116 (ct_X10_partitionOf h0 r hr) rfl h0 rfl rfl (Nat.le_of_ble_eq_true rfl)) rfl rfl rfl (fun v1 M2 => ?_)
  refine XE.go (st_iload_n (j := 2) (i := 2) (pc' := 6) (by decide +kernel) rfl rfl rfl) ?_
  refine XE.cTg (pc' := 9) (st := []) hfT (fun r hr => ct_X10_replicaOf r hr) (fun r hr => run_S (st := []) (by decide +kernel) co_X10_replica_496 (ct_X10_replicaOf r hr) rfl rfl (Nat.le_of_ble_eq_true rfl)) rfl rfl rfl (fun v3 M4 => ?_)
  refine XE.go (st_astore (j := 4) (pc' := 11) (by decide +kernel)  (by decide) rfl (by decide) rfl rfl) ?_
  refine XE.go (st_iload_n (j := 3) (i := 3) (pc' := 12) (by decide +kernel) rfl rfl rfl) ?_
  refine XE.go (st_iconst (n := 0) (pc' := 13) (by decide +kernel) (w_eq (by decide) (by decide)) rfl) ?_
  refine XE.go (st_iconst (n := 2) (pc' := 14) (by decide +kernel) (w_eq (by decide) (by decide)) rfl) ?_
  refine XE.cUg (pc' := 17) (st := []) hfT (fun r hr => ct_X10_requireWithin r hr) (fun r hr => run_S (st := []) (by decide +kernel) co_X10_replica_73 (ct_X10_requireWithin r hr) rfl rfl (Nat.le_of_ble_eq_true rfl)) rfl rfl rfl (fun M5 => ?_)
  refine XE.go (st_iload_n (j := 3) (i := 3) (pc' := 18) (by decide +kernel) rfl rfl rfl) ?_
  refine XE.ite (fun h6 => ?_) (fun h7 => ?_)
  · refine XE.go (st_lk (dflt := 38) (ps := #[(0, 26), (1, 32)]) (len := 26) (off := 26) (pc' := 44) (by decide +kernel) (by decide) (by rw [h6]; decide) (by decide)) ?_
    refine XE.go (st_aload (j := 4) (pc' := 46) (by decide +kernel) rfl (by decide) rfl) ?_
    refine XE.gd_ (fun g8 => ?_)
    refine XE.go (st_get (pc' := 49) (by decide +kernel) rfl cls_7 fld_RX10_276 rfl rfl g8) ?_
    exact XE.rt rfl (X_iret (by decide +kernel) rfl)
  refine XE.ite (fun h9 => ?_) (fun h10 => ?_)
  · refine XE.go (st_lk (dflt := 38) (ps := #[(0, 26), (1, 32)]) (len := 26) (off := 32) (pc' := 50) (by decide +kernel) (by decide) (by rw [h9]; decide) (by decide)) ?_
    refine XE.go (st_aload (j := 4) (pc' := 52) (by decide +kernel) rfl (by decide) rfl) ?_
    refine XE.gd_ (fun g11 => ?_)
    refine XE.go (st_get (pc' := 55) (by decide +kernel) rfl cls_7 fld_RX10_192 rfl rfl g11) ?_
    exact XE.rt rfl (X_iret (by decide +kernel) rfl)
  refine XE.go (st_lk (dflt := 38) (ps := #[(0, 26), (1, 32)]) (len := 26) (off := 38) (pc' := 56) (by decide +kernel) (by decide) (by simp [Op.lookupswitch.offset, eq_comm, h7, h10]) (by decide)) ?_
  refine XE.go (st_aload (j := 4) (pc' := 58) (by decide +kernel) rfl (by decide) rfl) ?_
  refine XE.gd_ (fun g12 => ?_)
  refine XE.go (st_get (pc' := 61) (by decide +kernel) rfl cls_7 fld_RX10_273 rfl rfl g12) ?_
  exact XE.rt rfl (X_iret (by decide +kernel) rfl)
theorem ct_X10_replica {D : Dt} {M : Mm} {a0 a1 a2 a3 : Int} (h0 : a0 ≠ 0) (r : (Int × Int × Mm)) (hr : p_X10_replica M a0 a1 a2 a3 = some r) : CT D 0 mu_X10_replica [(14, a0), (0, a1), (0, a2), (0, a3)] M (ET 0 r).1 (ET 0 r).2 := CT.of (by decide +kernel) rfl (Nat.le_of_ble_eq_true rfl) (xe_X10_replica h0 r hr)
def b_X10_offsetAt_15 (r4 : Int) (M2 : Mm) (v1 : Int) (a2 : Int) (s5 : Int) : Option ((Int) ⊕ ((Int × Int × Mm) ⊕ (Unit))) := if s5 < r4 then (p_X5_storedAt M2 v1 s5).bind fun r24 => if r24 = 0 then some (.inl (w (s5 + 1))) else if (rd M2 r24 10) < a2 then some (.inl (w (s5 + 1))) else some (.inr (.inl (0, s5, M2))) else some (.inr (.inr ()))
def p_X10_offsetAt (M : Mm) (a0 a1 a2 : Int) : Option (Int × Int × Mm) := (p_X10_partitionOf M a0 a1).bind (thT psT fun v1 M2 => gd (v1 ≠ 0) ((p_X5_logEnd M2 v1).bind fun r4 => (lp (b_X10_offsetAt_15 r4 M2 v1 a2) 1000 0).bind (Sum.elim some fun (t6 : Unit) => some (0, r4, M2))))
set_option maxRecDepth 100000 in
set_option maxHeartbeats 4000000 in
theorem xe_X10_offsetAt {D : Dt} {M : Mm} {a0 a1 a2 : Int} (h0 : a0 ≠ 0) : XE D 0 mu_X10_offsetAt (ET 0) 0 [(0, (14, a0)), (1, (0, a1)), (2, (0, a2))] [] M (p_X10_offsetAt M a0 a1 a2) := by
  unfold p_X10_offsetAt
  refine XE.go (st_aload_n (j := 0) (i := 0) (pc' := 1) (by decide +kernel) rfl rfl (by decide) rfl) ?_
  refine XE.go (st_iload_n (j := 1) (i := 1) (pc' := 2) (by decide +kernel) rfl rfl rfl) ?_
  refine XE.cTg (pc' := 5) (st := []) hfT (fun r hr => ct_X10_partitionOf h0 r hr) (fun r hr => run_V (st := []) (by decide +kernel) co_X10_offsetAt_116 (ct_X10_partitionOf h0 r hr) rfl h0 rfl rfl (Nat.le_of_ble_eq_true rfl)) rfl rfl rfl (fun v1 M2 => ?_)
  refine XE.go (st_astore_n (j := 3) (i := 3) (pc' := 6) (by decide +kernel) rfl (by decide) rfl (by decide) rfl rfl) ?_
  refine XE.go (st_aload_n (j := 3) (i := 3) (pc' := 7) (by decide +kernel) rfl rfl (by decide) rfl) ?_
  refine XE.gd_ (fun g3 => ?_)
  refine XE.cP (pc' := 10) (st := []) (fun r hr => ct_X5_logEnd g3 r hr) (fun r hr => run_V (st := []) (by decide +kernel) co_X10_offsetAt_493 (ct_X5_logEnd g3 r hr) rfl g3 rfl rfl (Nat.le_of_ble_eq_true rfl)) rfl rfl (fun r4 => ?_)
  refine XE.go (st_istore (j := 4) (pc' := 12) (by decide +kernel)  rfl (by decide) rfl rfl) ?_
  refine XE.go (st_iconst (n := 0) (pc' := 13) (by decide +kernel) (w_eq (by decide) (by decide)) rfl) ?_
  refine XE.go (st_istore (j := 5) (pc' := 15) (by decide +kernel)  rfl (by decide) rfl rfl) ?_
  refine XE.pick [5, 2, 1, 0] (L' := [(2, (0, a2)), (3, (9, v1)), (4, (0, r4)), (5, (0, 0))]) rfl ?_
  refine XE.loopX (n := 1000) (s0 := 0) (pcL := 15) (pcE := 53) (LL := fun (s5 : Int) => [(2, (0, a2)), (3, (9, v1)), (4, (0, r4)), (5, (0, s5))]) (sL := fun _ => []) (ML := fun (s5 : Int) => M2) (LE := fun (t6 : Unit) => [(4, (0, r4))]) (sE := fun _ => []) (ME := fun (t6 : Unit) => M2) (fun kk21 hx20 hc18 he19 s5 => ?_) (fun t6 => ?_)
  · unfold b_X10_offsetAt_15
    refine XE.go (st_iload (j := 5) (pc' := 17) (by decide +kernel) rfl rfl) ?_
    refine XE.go (st_iload (j := 4) (pc' := 19) (by decide +kernel) rfl rfl) ?_
    refine XE.bite (fun h22 => ?_) (fun h23 => ?_)
    · refine XE.go (st_icmp_ge_f (off := 34) (pc' := 22) (by decide +kernel) 53 (by decide) rfl (Int.not_le.mpr h22)) ?_
      refine XE.go (st_aload_n (j := 3) (i := 3) (pc' := 23) (by decide +kernel) rfl rfl (by decide) rfl) ?_
      refine XE.go (st_iload (j := 5) (pc' := 25) (by decide +kernel) rfl rfl) ?_
      refine XE.asc ?_
      refine XE.cP (pc' := 28) (st := []) (fun r hr => ct_X5_storedAt g3 r hr) (fun r hr => run_V (st := []) (by decide +kernel) co_X10_offsetAt_130 (ct_X5_storedAt g3 r hr) rfl g3 rfl rfl (Nat.le_of_ble_eq_true rfl)) rfl rfl (fun r24 => ?_)
      refine XE.go (st_astore (j := 6) (pc' := 30) (by decide +kernel)  (by decide) rfl (by decide) rfl rfl) ?_
      refine XE.go (st_aload (j := 6) (pc' := 32) (by decide +kernel) rfl (by decide) rfl) ?_
      refine XE.bite (fun h25 => ?_) (fun h26 => ?_)
      · refine XE.go (st_ifnull_t (off := 15) (pc' := 47) (by decide +kernel) (by decide) h25 (by decide)) ?_
        refine XE.go (st_iinc (j := 5) (n := 1) (pc' := 50) (by decide +kernel) rfl rfl (by decide) rfl rfl) ?_
        refine XE.go (st_goto (off := (-35)) (pc' := 15) (by decide +kernel) (by decide)) ?_
        exact XE.pick [2, 3, 4, 0] rfl (hc18 (w (s5 + 1)))
      · refine XE.go (st_ifnull_f (off := 15) (pc' := 35) (by decide +kernel) (by decide) h26 rfl) ?_
        refine XE.go (st_aload (j := 6) (pc' := 37) (by decide +kernel) rfl (by decide) rfl) ?_
        refine XE.go (st_get (pc' := 40) (by decide +kernel) rfl cls_4 fld_RX10_158 rfl rfl h26) ?_
        refine XE.go (st_iload_n (j := 2) (i := 2) (pc' := 41) (by decide +kernel) rfl rfl rfl) ?_
        refine XE.bite (fun h27 => ?_) (fun h28 => ?_)
        · refine XE.go (st_icmp_lt_t (off := 6) (pc' := 47) (by decide +kernel) (by decide) h27) ?_
          refine XE.go (st_iinc (j := 5) (n := 1) (pc' := 50) (by decide +kernel) rfl rfl (by decide) rfl rfl) ?_
          refine XE.go (st_goto (off := (-35)) (pc' := 15) (by decide +kernel) (by decide)) ?_
          exact XE.pick [2, 3, 4, 0] rfl (hc18 (w (s5 + 1)))
        · refine XE.go (st_icmp_lt_f (off := 6) (pc' := 44) (by decide +kernel) 47 (by decide) rfl h28) ?_
          refine XE.go (st_iload (j := 5) (pc' := 46) (by decide +kernel) rfl rfl) ?_
          refine XE.cast (hx20 _) ?_
          exact XE.rt rfl (X_iret (by decide +kernel) rfl)
    · refine XE.go (st_icmp_ge_t (off := 34) (pc' := 53) (by decide +kernel) (by decide) (Int.not_lt.mp h23)) ?_
      exact XE.pick [2] rfl (he19 ())
  · refine XE.go (st_iload (j := 4) (pc' := 55) (by decide +kernel) rfl rfl) ?_
    exact XE.rt rfl (X_iret (by decide +kernel) rfl)
theorem ct_X10_offsetAt {D : Dt} {M : Mm} {a0 a1 a2 : Int} (h0 : a0 ≠ 0) (r : (Int × Int × Mm)) (hr : p_X10_offsetAt M a0 a1 a2 = some r) : CT D 0 mu_X10_offsetAt [(14, a0), (0, a1), (0, a2)] M (ET 0 r).1 (ET 0 r).2 := CT.of (by decide +kernel) rfl (Nat.le_of_ble_eq_true rfl) (xe_X10_offsetAt h0 r hr)
def p_X10_value (M : Mm) (a0 a1 a2 : Int) : Option (Int × Int × Mm) := (p_X10_topicOf M a0 a1).bind (thT psT fun v1 M2 => gd (v1 ≠ 0) ((p_X9_partitionFor M2 v1 a2).bind fun r4 => (if r4 = 0 then some (0) else (p_X5_stableOffset M2 r4).bind fun r11 => (p_X5_lastReadable M2 r4 a2 r11).bind fun r12 => some (r12) : Option (Int)).bind fun (s5 : Int) => if s5 = 0 then some (0, (-1), M2) else some (0, (rd M2 s5 4), M2)))
set_option maxRecDepth 100000 in
set_option maxHeartbeats 4000000 in
theorem xe_X10_value {D : Dt} {M : Mm} {a0 a1 a2 : Int} (h0 : a0 ≠ 0) : XE D 0 mu_X10_value (ET 0) 0 [(0, (14, a0)), (1, (0, a1)), (2, (0, a2))] [] M (p_X10_value M a0 a1 a2) := by
  unfold p_X10_value
  refine XE.go (st_aload_n (j := 0) (i := 0) (pc' := 1) (by decide +kernel) rfl rfl (by decide) rfl) ?_
  refine XE.go (st_iload_n (j := 1) (i := 1) (pc' := 2) (by decide +kernel) rfl rfl rfl) ?_
  refine XE.cTg (pc' := 5) (st := []) hfT (fun r hr => ct_X10_topicOf h0 r hr) (fun r hr => run_V (st := []) (by decide +kernel) co_X10_value_100 (ct_X10_topicOf h0 r hr) rfl h0 rfl rfl (Nat.le_of_ble_eq_true rfl)) rfl rfl rfl (fun v1 M2 => ?_)
  refine XE.go (st_iload_n (j := 2) (i := 2) (pc' := 6) (by decide +kernel) rfl rfl rfl) ?_
  refine XE.gd_ (fun g3 => ?_)
  refine XE.cP (pc' := 9) (st := []) (fun r hr => ct_X9_partitionFor g3 r hr) (fun r hr => run_V (st := []) (by decide +kernel) co_X10_value_296 (ct_X9_partitionFor g3 r hr) rfl g3 rfl rfl (Nat.le_of_ble_eq_true rfl)) rfl rfl (fun r4 => ?_)
  refine XE.go (st_astore_n (j := 3) (i := 3) (pc' := 10) (by decide +kernel) rfl (by decide) rfl (by decide) rfl rfl) ?_
  refine XE.go (st_aload_n (j := 3) (i := 3) (pc' := 11) (by decide +kernel) rfl rfl (by decide) rfl) ?_
  refine XE.join (pcJ := 27) (LJ := fun (s5 : Int) => []) (sJ := fun (s5 : Int) => [(8, s5)]) (MJ := fun (s5 : Int) => M2) (fun kk8 hk6 => ?_) (fun s5 => ?_)
  · refine XE.bite (fun h9 => ?_) (fun h10 => ?_)
    · refine XE.go (st_ifnonnull_f (off := 7) (pc' := 14) (by decide +kernel) (by decide) h9 rfl) ?_
      refine XE.go (st_null (t := 8) (pc' := 15) (by decide +kernel) (by decide) rfl) ?_
      refine XE.go (st_goto (off := 12) (pc' := 27) (by decide +kernel) (by decide)) ?_
      exact XE.pick [] rfl (hk6 0)
    · refine XE.go (st_ifnonnull_t (off := 7) (pc' := 18) (by decide +kernel) (by decide) h10 (by decide)) ?_
      refine XE.go (st_aload_n (j := 3) (i := 3) (pc' := 19) (by decide +kernel) rfl rfl (by decide) rfl) ?_
      refine XE.go (st_iload_n (j := 2) (i := 2) (pc' := 20) (by decide +kernel) rfl rfl rfl) ?_
      refine XE.go (st_aload_n (j := 3) (i := 3) (pc' := 21) (by decide +kernel) rfl rfl (by decide) rfl) ?_
      refine XE.asc ?_
      refine XE.cP (pc' := 24) (st := [(0, a2), (9, r4)]) (fun r hr => ct_X5_stableOffset h10 r hr) (fun r hr => run_V (st := [(0, a2), (9, r4)]) (by decide +kernel) co_X10_value_126 (ct_X5_stableOffset h10 r hr) rfl h10 rfl rfl (Nat.le_of_ble_eq_true rfl)) rfl rfl (fun r11 => ?_)
      refine XE.asc ?_
      refine XE.cP (pc' := 27) (st := []) (fun r hr => ct_X5_lastReadable h10 r hr) (fun r hr => run_V (st := []) (by decide +kernel) co_X10_value_151 (ct_X5_lastReadable h10 r hr) rfl h10 rfl rfl (Nat.le_of_ble_eq_true rfl)) rfl rfl (fun r12 => ?_)
      exact XE.pick [] rfl (hk6 r12)
  · refine XE.go (st_astore (j := 4) (pc' := 29) (by decide +kernel)  (by decide) rfl (by decide) rfl rfl) ?_
    refine XE.go (st_aload (j := 4) (pc' := 31) (by decide +kernel) rfl (by decide) rfl) ?_
    refine XE.ite (fun h13 => ?_) (fun h14 => ?_)
    · refine XE.go (st_ifnonnull_f (off := 7) (pc' := 34) (by decide +kernel) (by decide) h13 rfl) ?_
      refine XE.go (st_iconst (n := (-1)) (pc' := 35) (by decide +kernel) (w_eq (by decide) (by decide)) rfl) ?_
      refine XE.go (st_goto (off := 8) (pc' := 43) (by decide +kernel) (by decide)) ?_
      exact XE.rt rfl (X_iret (by decide +kernel) rfl)
    · refine XE.go (st_ifnonnull_t (off := 7) (pc' := 38) (by decide +kernel) (by decide) h14 (by decide)) ?_
      refine XE.go (st_aload (j := 4) (pc' := 40) (by decide +kernel) rfl (by decide) rfl) ?_
      refine XE.go (st_get (pc' := 43) (by decide +kernel) rfl cls_4 fld_RX10_155 rfl rfl h14) ?_
      exact XE.rt rfl (X_iret (by decide +kernel) rfl)
theorem ct_X10_value {D : Dt} {M : Mm} {a0 a1 a2 : Int} (h0 : a0 ≠ 0) (r : (Int × Int × Mm)) (hr : p_X10_value M a0 a1 a2 = some r) : CT D 0 mu_X10_value [(14, a0), (0, a1), (0, a2)] M (ET 0 r).1 (ET 0 r).2 := CT.of (by decide +kernel) rfl (Nat.le_of_ble_eq_true rfl) (xe_X10_value h0 r hr)
def b_X10_sum_31 (r7 : Int) (M2 : Mm) (r4 : Int) (a2 : Int) (a3 : Int) (a4 : Int) (s8 : Int × Int) : Option ((Int × Int) ⊕ (Int)) := if s8.2 < r7 then (p_X5_readableAt M2 r4 s8.2 r7).bind fun r16 => if r16 = 0 then some (.inl (s8.1, (w (s8.2 + 1)))) else if (rd M2 r16 3) = a2 then if (rd M2 r16 4) = (-1) then some (.inl (s8.1, (w (s8.2 + 1)))) else if (rd M2 r16 10) < a3 then some (.inl (s8.1, (w (s8.2 + 1)))) else if a4 < (rd M2 r16 10) then some (.inl (s8.1, (w (s8.2 + 1)))) else (some ((w (s8.1 + (rd M2 r16 4))))).bind fun v27 => some (.inl (v27, (w (s8.2 + 1)))) else some (.inl (s8.1, (w (s8.2 + 1)))) else some (.inr s8.1)
def p_X10_sum (M : Mm) (a0 a1 a2 a3 a4 : Int) : Option (Int × Int × Mm) := (p_X10_topicOf M a0 a1).bind (thT psT fun v1 M2 => gd (v1 ≠ 0) ((p_X9_partitionFor M2 v1 a2).bind fun r4 => if r4 = 0 then some (0, 0, M2) else (p_X5_stableOffset M2 r4).bind fun r7 => (lp (b_X10_sum_31 r7 M2 r4 a2 a3 a4) 1000 (0, 0)).bind fun (t9 : Int) => some (0, t9, M2)))
set_option maxRecDepth 100000 in
set_option maxHeartbeats 4000000 in
theorem xe_X10_sum {D : Dt} {M : Mm} {a0 a1 a2 a3 a4 : Int} (h0 : a0 ≠ 0) : XE D 0 mu_X10_sum (ET 0) 0 [(0, (14, a0)), (1, (0, a1)), (2, (0, a2)), (3, (0, a3)), (4, (0, a4))] [] M (p_X10_sum M a0 a1 a2 a3 a4) := by
  unfold p_X10_sum
  refine XE.go (st_aload_n (j := 0) (i := 0) (pc' := 1) (by decide +kernel) rfl rfl (by decide) rfl) ?_
  refine XE.go (st_iload_n (j := 1) (i := 1) (pc' := 2) (by decide +kernel) rfl rfl rfl) ?_
  refine XE.cTg (pc' := 5) (st := []) hfT (fun r hr => ct_X10_topicOf h0 r hr) (fun r hr => run_V (st := []) (by decide +kernel) co_X10_sum_100 (ct_X10_topicOf h0 r hr) rfl h0 rfl rfl (Nat.le_of_ble_eq_true rfl)) rfl rfl rfl (fun v1 M2 => ?_)
  refine XE.go (st_iload_n (j := 2) (i := 2) (pc' := 6) (by decide +kernel) rfl rfl rfl) ?_
  refine XE.gd_ (fun g3 => ?_)
  refine XE.cP (pc' := 9) (st := []) (fun r hr => ct_X9_partitionFor g3 r hr) (fun r hr => run_V (st := []) (by decide +kernel) co_X10_sum_296 (ct_X9_partitionFor g3 r hr) rfl g3 rfl rfl (Nat.le_of_ble_eq_true rfl)) rfl rfl (fun r4 => ?_)
  refine XE.go (st_astore (j := 5) (pc' := 11) (by decide +kernel)  (by decide) rfl (by decide) rfl rfl) ?_
  refine XE.go (st_aload (j := 5) (pc' := 13) (by decide +kernel) rfl (by decide) rfl) ?_
  refine XE.ite (fun h5 => ?_) (fun h6 => ?_)
  · refine XE.go (st_ifnonnull_f (off := 5) (pc' := 16) (by decide +kernel) (by decide) h5 rfl) ?_
    refine XE.go (st_iconst (n := 0) (pc' := 17) (by decide +kernel) (w_eq (by decide) (by decide)) rfl) ?_
    exact XE.rt rfl (X_iret (by decide +kernel) rfl)
  · refine XE.go (st_ifnonnull_t (off := 5) (pc' := 18) (by decide +kernel) (by decide) h6 (by decide)) ?_
    refine XE.go (st_aload (j := 5) (pc' := 20) (by decide +kernel) rfl (by decide) rfl) ?_
    refine XE.cP (pc' := 23) (st := []) (fun r hr => ct_X5_stableOffset h6 r hr) (fun r hr => run_V (st := []) (by decide +kernel) co_X10_sum_126 (ct_X5_stableOffset h6 r hr) rfl h6 rfl rfl (Nat.le_of_ble_eq_true rfl)) rfl rfl (fun r7 => ?_)
    refine XE.go (st_istore (j := 6) (pc' := 25) (by decide +kernel)  rfl (by decide) rfl rfl) ?_
    refine XE.go (st_iconst (n := 0) (pc' := 26) (by decide +kernel) (w_eq (by decide) (by decide)) rfl) ?_
    refine XE.go (st_istore (j := 7) (pc' := 28) (by decide +kernel)  rfl (by decide) rfl rfl) ?_
    refine XE.go (st_iconst (n := 0) (pc' := 29) (by decide +kernel) (w_eq (by decide) (by decide)) rfl) ?_
    refine XE.go (st_istore (j := 8) (pc' := 31) (by decide +kernel)  rfl (by decide) rfl rfl) ?_
    refine XE.pick [6, 7, 8, 3, 2, 1, 0] (L' := [(2, (0, a2)), (3, (0, a3)), (4, (0, a4)), (5, (9, r4)), (6, (0, r7)), (7, (0, 0)), (8, (0, 0))]) rfl ?_
    refine XE.loopJ (n := 1000) (s0 := (0, 0)) (pcL := 31) (pcE := 107) (LL := fun (s8 : Int × Int) => [(2, (0, a2)), (3, (0, a3)), (4, (0, a4)), (5, (9, r4)), (6, (0, r7)), (7, (0, s8.1)), (8, (0, s8.2))]) (sL := fun _ => []) (ML := fun (s8 : Int × Int) => M2) (LE := fun (t9 : Int) => [(7, (0, t9))]) (sE := fun _ => []) (ME := fun (t9 : Int) => M2) (fun kk13 hc10 he11 s8 => ?_) (fun t9 => ?_)
    · unfold b_X10_sum_31
      refine XE.go (st_iload (j := 8) (pc' := 33) (by decide +kernel) rfl rfl) ?_
      refine XE.go (st_iload (j := 6) (pc' := 35) (by decide +kernel) rfl rfl) ?_
      refine XE.bite (fun h14 => ?_) (fun h15 => ?_)
      · refine XE.go (st_icmp_ge_f (off := 72) (pc' := 38) (by decide +kernel) 107 (by decide) rfl (Int.not_le.mpr h14)) ?_
        refine XE.go (st_aload (j := 5) (pc' := 40) (by decide +kernel) rfl (by decide) rfl) ?_
        refine XE.go (st_iload (j := 8) (pc' := 42) (by decide +kernel) rfl rfl) ?_
        refine XE.go (st_iload (j := 6) (pc' := 44) (by decide +kernel) rfl rfl) ?_
        refine XE.asc ?_
        refine XE.cP (pc' := 47) (st := []) (fun r hr => ct_X5_readableAt h6 r hr) (fun r hr => run_V (st := []) (by decide +kernel) co_X10_sum_500 (ct_X5_readableAt h6 r hr) rfl h6 rfl rfl (Nat.le_of_ble_eq_true rfl)) rfl rfl (fun r16 => ?_)
        refine XE.go (st_astore (j := 9) (pc' := 49) (by decide +kernel)  (by decide) rfl (by decide) rfl rfl) ?_
        refine XE.go (st_aload (j := 9) (pc' := 51) (by decide +kernel) rfl (by decide) rfl) ?_
        refine XE.bite (fun h17 => ?_) (fun h18 => ?_)
        · refine XE.go (st_ifnull_t (off := 50) (pc' := 101) (by decide +kernel) (by decide) h17 (by decide)) ?_
          refine XE.go (st_iinc (j := 8) (n := 1) (pc' := 104) (by decide +kernel) rfl rfl (by decide) rfl rfl) ?_
          refine XE.go (st_goto (off := (-73)) (pc' := 31) (by decide +kernel) (by decide)) ?_
          exact XE.pick [2, 3, 4, 5, 6, 7, 0] rfl (hc10 (s8.1, (w (s8.2 + 1))))
        · refine XE.go (st_ifnull_f (off := 50) (pc' := 54) (by decide +kernel) (by decide) h18 rfl) ?_
          refine XE.go (st_aload (j := 9) (pc' := 56) (by decide +kernel) rfl (by decide) rfl) ?_
          refine XE.go (st_get (pc' := 59) (by decide +kernel) rfl cls_4 fld_RX10_148 rfl rfl h18) ?_
          refine XE.go (st_iload_n (j := 2) (i := 2) (pc' := 60) (by decide +kernel) rfl rfl rfl) ?_
          refine XE.bite (fun h19 => ?_) (fun h20 => ?_)
          · refine XE.go (st_icmp_ne_f (off := 41) (pc' := 63) (by decide +kernel) 101 (by decide) rfl (not_not_intro h19)) ?_
            refine XE.go (st_aload (j := 9) (pc' := 65) (by decide +kernel) rfl (by decide) rfl) ?_
            refine XE.go (st_get (pc' := 68) (by decide +kernel) rfl cls_4 fld_RX10_155 rfl rfl h18) ?_
            refine XE.go (st_iconst (n := (-1)) (pc' := 69) (by decide +kernel) (w_eq (by decide) (by decide)) rfl) ?_
            refine XE.bite (fun h21 => ?_) (fun h22 => ?_)
            · refine XE.go (st_icmp_eq_t (off := 32) (pc' := 101) (by decide +kernel) (by decide) h21) ?_
              refine XE.go (st_iinc (j := 8) (n := 1) (pc' := 104) (by decide +kernel) rfl rfl (by decide) rfl rfl) ?_
              refine XE.go (st_goto (off := (-73)) (pc' := 31) (by decide +kernel) (by decide)) ?_
              exact XE.pick [2, 3, 4, 5, 6, 7, 0] rfl (hc10 (s8.1, (w (s8.2 + 1))))
            · refine XE.go (st_icmp_eq_f (off := 32) (pc' := 72) (by decide +kernel) 101 (by decide) rfl h22) ?_
              refine XE.go (st_aload (j := 9) (pc' := 74) (by decide +kernel) rfl (by decide) rfl) ?_
              refine XE.go (st_get (pc' := 77) (by decide +kernel) rfl cls_4 fld_RX10_158 rfl rfl h18) ?_
              refine XE.go (st_iload_n (j := 3) (i := 3) (pc' := 78) (by decide +kernel) rfl rfl rfl) ?_
              refine XE.bite (fun h23 => ?_) (fun h24 => ?_)
              · refine XE.go (st_icmp_lt_t (off := 23) (pc' := 101) (by decide +kernel) (by decide) h23) ?_
                refine XE.go (st_iinc (j := 8) (n := 1) (pc' := 104) (by decide +kernel) rfl rfl (by decide) rfl rfl) ?_
                refine XE.go (st_goto (off := (-73)) (pc' := 31) (by decide +kernel) (by decide)) ?_
                exact XE.pick [2, 3, 4, 5, 6, 7, 0] rfl (hc10 (s8.1, (w (s8.2 + 1))))
              · refine XE.go (st_icmp_lt_f (off := 23) (pc' := 81) (by decide +kernel) 101 (by decide) rfl h24) ?_
                refine XE.go (st_aload (j := 9) (pc' := 83) (by decide +kernel) rfl (by decide) rfl) ?_
                refine XE.go (st_get (pc' := 86) (by decide +kernel) rfl cls_4 fld_RX10_158 rfl rfl h18) ?_
                refine XE.go (st_iload (j := 4) (pc' := 88) (by decide +kernel) rfl rfl) ?_
                refine XE.bite (fun h25 => ?_) (fun h26 => ?_)
                · refine XE.go (st_icmp_gt_t (off := 13) (pc' := 101) (by decide +kernel) (by decide) h25) ?_
                  refine XE.go (st_iinc (j := 8) (n := 1) (pc' := 104) (by decide +kernel) rfl rfl (by decide) rfl rfl) ?_
                  refine XE.go (st_goto (off := (-73)) (pc' := 31) (by decide +kernel) (by decide)) ?_
                  exact XE.pick [2, 3, 4, 5, 6, 7, 0] rfl (hc10 (s8.1, (w (s8.2 + 1))))
                · refine XE.go (st_icmp_gt_f (off := 13) (pc' := 91) (by decide +kernel) 101 (by decide) rfl h26) ?_
                  refine XE.go (st_iload (j := 7) (pc' := 93) (by decide +kernel) rfl rfl) ?_
                  refine XE.go (st_aload (j := 9) (pc' := 95) (by decide +kernel) rfl (by decide) rfl) ?_
                  refine XE.go (st_get (pc' := 98) (by decide +kernel) rfl cls_4 fld_RX10_155 rfl rfl h18) ?_
                  refine XE.go (st_iadd (pc' := 99) (by decide +kernel) rfl) ?_
                  refine XE.asc ?_
                  refine XE.gen (fun v27 e28 => ?_)
                  refine XE.go (st_istore (j := 7) (pc' := 101) (by decide +kernel)  rfl (by decide) rfl rfl) ?_
                  refine XE.go (st_iinc (j := 8) (n := 1) (pc' := 104) (by decide +kernel) rfl rfl (by decide) rfl rfl) ?_
                  refine XE.go (st_goto (off := (-73)) (pc' := 31) (by decide +kernel) (by decide)) ?_
                  exact XE.pick [3, 4, 5, 6, 7, 1, 0] rfl (hc10 (v27, (w (s8.2 + 1))))
          · refine XE.go (st_icmp_ne_t (off := 41) (pc' := 101) (by decide +kernel) (by decide) h20) ?_
            refine XE.go (st_iinc (j := 8) (n := 1) (pc' := 104) (by decide +kernel) rfl rfl (by decide) rfl rfl) ?_
            refine XE.go (st_goto (off := (-73)) (pc' := 31) (by decide +kernel) (by decide)) ?_
            exact XE.pick [2, 3, 4, 5, 6, 7, 0] rfl (hc10 (s8.1, (w (s8.2 + 1))))
      · refine XE.go (st_icmp_ge_t (off := 72) (pc' := 107) (by decide +kernel) (by decide) (Int.not_lt.mp h15)) ?_
        exact XE.pick [5] rfl (he11 s8.1)
    · refine XE.go (st_iload (j := 7) (pc' := 109) (by decide +kernel) rfl rfl) ?_
      exact XE.rt rfl (X_iret (by decide +kernel) rfl)
theorem ct_X10_sum {D : Dt} {M : Mm} {a0 a1 a2 a3 a4 : Int} (h0 : a0 ≠ 0) (r : (Int × Int × Mm)) (hr : p_X10_sum M a0 a1 a2 a3 a4 = some r) : CT D 0 mu_X10_sum [(14, a0), (0, a1), (0, a2), (0, a3), (0, a4)] M (ET 0 r).1 (ET 0 r).2 := CT.of (by decide +kernel) rfl (Nat.le_of_ble_eq_true rfl) (xe_X10_sum h0 r hr)
def p_X1_waitsOrIsDead (M : Mm) (a0 : Int) : Option Int := if (rd M a0 1) = 1 then some (1) else if (rd M a0 1) = 3 then some (1) else some (0)
set_option maxRecDepth 100000 in
set_option maxHeartbeats 4000000 in
theorem xe_X1_waitsOrIsDead {D : Dt} {M : Mm} {a0 : Int} (h0 : a0 ≠ 0) : XE D 0 mu_X1_waitsOrIsDead (EP 0 M) 0 [(0, (5, a0))] [] M (p_X1_waitsOrIsDead M a0) := by
  unfold p_X1_waitsOrIsDead
  refine XE.go (st_aload_n (j := 0) (i := 0) (pc' := 1) (by decide +kernel) rfl rfl (by decide) rfl) ?_
  refine XE.go (st_get (pc' := 4) (by decide +kernel) rfl cls_1 fld_RX1_9 rfl rfl h0) ?_
  refine XE.go (st_iconst (n := 1) (pc' := 5) (by decide +kernel) (w_eq (by decide) (by decide)) rfl) ?_
  refine XE.ite (fun h1 => ?_) (fun h2 => ?_)
  · refine XE.go (st_icmp_eq_t (off := 11) (pc' := 16) (by decide +kernel) (by decide) h1) ?_
    refine XE.go (st_iconst (n := 1) (pc' := 17) (by decide +kernel) (w_eq (by decide) (by decide)) rfl) ?_
    refine XE.go (st_goto (off := 4) (pc' := 21) (by decide +kernel) (by decide)) ?_
    exact XE.rt rfl (X_zret (by decide +kernel) rfl (by decide))
  · refine XE.go (st_icmp_eq_f (off := 11) (pc' := 8) (by decide +kernel) 16 (by decide) rfl h2) ?_
    refine XE.go (st_aload_n (j := 0) (i := 0) (pc' := 9) (by decide +kernel) rfl rfl (by decide) rfl) ?_
    refine XE.go (st_get (pc' := 12) (by decide +kernel) rfl cls_1 fld_RX1_9 rfl rfl h0) ?_
    refine XE.go (st_iconst (n := 3) (pc' := 13) (by decide +kernel) (w_eq (by decide) (by decide)) rfl) ?_
    refine XE.ite (fun h3 => ?_) (fun h4 => ?_)
    · refine XE.go (st_icmp_ne_f (off := 7) (pc' := 16) (by decide +kernel) 20 (by decide) rfl (not_not_intro h3)) ?_
      refine XE.go (st_iconst (n := 1) (pc' := 17) (by decide +kernel) (w_eq (by decide) (by decide)) rfl) ?_
      refine XE.go (st_goto (off := 4) (pc' := 21) (by decide +kernel) (by decide)) ?_
      exact XE.rt rfl (X_zret (by decide +kernel) rfl (by decide))
    · refine XE.go (st_icmp_ne_t (off := 7) (pc' := 20) (by decide +kernel) (by decide) h4) ?_
      refine XE.go (st_iconst (n := 0) (pc' := 21) (by decide +kernel) (w_eq (by decide) (by decide)) rfl) ?_
      exact XE.rt rfl (X_zret (by decide +kernel) rfl (by decide))
theorem ct_X1_waitsOrIsDead {D : Dt} {M : Mm} {a0 : Int} (h0 : a0 ≠ 0) (r : Int) (hr : p_X1_waitsOrIsDead M a0 = some r) : CT D 0 mu_X1_waitsOrIsDead [(5, a0)] M (.inl (some (0, r))) M := CT.of (by decide +kernel) rfl (Nat.le_of_ble_eq_true rfl) (xe_X1_waitsOrIsDead h0 r hr)
def b_X0_lag_16 (r3 : Int) (M : Mm) (a1 : Int) (a0 : Int) (s6 : Int × Int) : Option ((Int × Int) ⊕ (Int)) := if s6.2 < r3 then (p_X5_readableAt M (rd M a1 0) s6.2 r3).bind fun r14 => (if r14 = 0 then some (0) else (p_X0_knownLetter M a0 r14).bind fun r21 => some (r21) : Option (Int)).bind fun (s15 : Int) => if r14 = 0 then some (.inl (s6.1, (w (s6.2 + 1)))) else if s15 = 0 then some (.inl ((w (s6.1 + 1)), (w (s6.2 + 1)))) else (p_X1_waitsOrIsDead M s15).bind fun r26 => if r26 = 0 then some (.inl ((w (s6.1 + 1)), (w (s6.2 + 1)))) else some (.inl (s6.1, (w (s6.2 + 1)))) else some (.inr s6.1)
def p_X0_lag (M : Mm) (a0 a1 : Int) : Option Int := gd (a1 ≠ 0) (gd ((rd M a1 0) ≠ 0) ((p_X5_stableOffset M (rd M a1 0)).bind fun r3 => (some ((rd M a1 3))).bind fun v4 => (lp (b_X0_lag_16 r3 M a1 a0) 1000 (0, v4)).bind fun (t7 : Int) => some (t7)))
set_option maxRecDepth 100000 in
set_option maxHeartbeats 4000000 in
theorem xe_X0_lag {D : Dt} {M : Mm} {a0 a1 : Int} (h0 : a0 ≠ 0) : XE D 0 mu_X0_lag (EP 0 M) 0 [(0, (4, a0)), (1, (12, a1))] [] M (p_X0_lag M a0 a1) := by
  unfold p_X0_lag
  refine XE.go (st_aload_n (j := 1) (i := 1) (pc' := 1) (by decide +kernel) rfl rfl (by decide) rfl) ?_
  refine XE.gd_ (fun g1 => ?_)
  refine XE.go (st_get (pc' := 4) (by decide +kernel) rfl cls_8 fld_RX0_130 rfl rfl g1) ?_
  refine XE.gd_ (fun g2 => ?_)
  refine XE.cP (pc' := 7) (st := []) (fun r hr => ct_X5_stableOffset g2 r hr) (fun r hr => run_V (st := []) (by decide +kernel) co_X0_lag_215 (ct_X5_stableOffset g2 r hr) rfl g2 rfl rfl (Nat.le_of_ble_eq_true rfl)) rfl rfl (fun r3 => ?_)
  refine XE.go (st_istore_n (j := 2) (i := 2) (pc' := 8) (by decide +kernel) rfl rfl (by decide) rfl rfl) ?_
  refine XE.go (st_iconst (n := 0) (pc' := 9) (by decide +kernel) (w_eq (by decide) (by decide)) rfl) ?_
  refine XE.go (st_istore_n (j := 3) (i := 3) (pc' := 10) (by decide +kernel) rfl rfl (by decide) rfl rfl) ?_
  refine XE.go (st_aload_n (j := 1) (i := 1) (pc' := 11) (by decide +kernel) rfl rfl (by decide) rfl) ?_
  refine XE.go (st_get (pc' := 14) (by decide +kernel) rfl cls_8 fld_RX0_127 rfl rfl g1) ?_
  refine XE.gen (fun v4 e5 => ?_)
  refine XE.go (st_istore (j := 4) (pc' := 16) (by decide +kernel)  rfl (by decide) rfl rfl) ?_
  refine XE.pick [3, 4, 2, 1, 0] (L' := [(0, (4, a0)), (1, (12, a1)), (2, (0, r3)), (3, (0, 0)), (4, (0, v4))]) rfl ?_
  refine XE.loopJ (n := 1000) (s0 := (0, v4)) (pcL := 16) (pcE := 78) (LL := fun (s6 : Int × Int) => [(0, (4, a0)), (1, (12, a1)), (2, (0, r3)), (3, (0, s6.1)), (4, (0, s6.2))]) (sL := fun _ => []) (ML := fun (s6 : Int × Int) => M) (LE := fun (t7 : Int) => [(3, (0, t7))]) (sE := fun _ => []) (ME := fun (t7 : Int) => M) (fun kk11 hc8 he9 s6 => ?_) (fun t7 => ?_)
  · unfold b_X0_lag_16
    refine XE.go (st_iload (j := 4) (pc' := 18) (by decide +kernel) rfl rfl) ?_
    refine XE.go (st_iload_n (j := 2) (i := 2) (pc' := 19) (by decide +kernel) rfl rfl rfl) ?_
    refine XE.bite (fun h12 => ?_) (fun h13 => ?_)
    · refine XE.go (st_icmp_ge_f (off := 59) (pc' := 22) (by decide +kernel) 78 (by decide) rfl (Int.not_le.mpr h12)) ?_
      refine XE.go (st_aload_n (j := 1) (i := 1) (pc' := 23) (by decide +kernel) rfl rfl (by decide) rfl) ?_
      refine XE.go (st_get (pc' := 26) (by decide +kernel) rfl cls_8 fld_RX0_130 rfl rfl g1) ?_
      refine XE.go (st_iload (j := 4) (pc' := 28) (by decide +kernel) rfl rfl) ?_
      refine XE.go (st_iload_n (j := 2) (i := 2) (pc' := 29) (by decide +kernel) rfl rfl rfl) ?_
      refine XE.asc ?_
      refine XE.cP (pc' := 32) (st := []) (fun r hr => ct_X5_readableAt g2 r hr) (fun r hr => run_V (st := []) (by decide +kernel) co_X0_lag_218 (ct_X5_readableAt g2 r hr) rfl g2 rfl rfl (Nat.le_of_ble_eq_true rfl)) rfl rfl (fun r14 => ?_)
      refine XE.go (st_astore (j := 5) (pc' := 34) (by decide +kernel)  (by decide) rfl (by decide) rfl rfl) ?_
      refine XE.go (st_aload (j := 5) (pc' := 36) (by decide +kernel) rfl (by decide) rfl) ?_
      refine XE.asc ?_
      refine XE.join (pcJ := 49) (LJ := fun (s15 : Int) => [(0, (4, a0)), (1, (12, a1)), (2, (0, r3)), (3, (0, s6.1)), (4, (0, s6.2)), (5, (8, r14))]) (sJ := fun (s15 : Int) => [(5, s15)]) (MJ := fun (s15 : Int) => M) (fun kk18 hk16 => ?_) (fun s15 => ?_)
      · refine XE.bite (fun h19 => ?_) (fun h20 => ?_)
        · refine XE.go (st_ifnonnull_f (off := 7) (pc' := 39) (by decide +kernel) (by decide) h19 rfl) ?_
          refine XE.go (st_null (t := 5) (pc' := 40) (by decide +kernel) (by decide) rfl) ?_
          refine XE.go (st_goto (off := 9) (pc' := 49) (by decide +kernel) (by decide)) ?_
          exact XE.pick [1, 2, 3, 4, 5, 0] rfl (hk16 0)
        · refine XE.go (st_ifnonnull_t (off := 7) (pc' := 43) (by decide +kernel) (by decide) h20 (by decide)) ?_
          refine XE.go (st_aload_n (j := 0) (i := 0) (pc' := 44) (by decide +kernel) rfl rfl (by decide) rfl) ?_
          refine XE.go (st_aload (j := 5) (pc' := 46) (by decide +kernel) rfl (by decide) rfl) ?_
          refine XE.asc ?_
          refine XE.cP (pc' := 49) (st := []) (fun r hr => ct_X0_knownLetter h0 r hr) (fun r hr => run_V (st := []) (by decide +kernel) co_X0_lag_68 (ct_X0_knownLetter h0 r hr) rfl h0 rfl rfl (Nat.le_of_ble_eq_true rfl)) rfl rfl (fun r21 => ?_)
          exact XE.pick [1, 2, 3, 4, 5, 0] rfl (hk16 r21)
      · refine XE.go (st_astore (j := 6) (pc' := 51) (by decide +kernel)  (by decide) rfl (by decide) rfl rfl) ?_
        refine XE.go (st_aload (j := 5) (pc' := 53) (by decide +kernel) rfl (by decide) rfl) ?_
        refine XE.bite (fun h22 => ?_) (fun h23 => ?_)
        · refine XE.go (st_ifnull_t (off := 19) (pc' := 72) (by decide +kernel) (by decide) h22 (by decide)) ?_
          refine XE.go (st_iinc (j := 4) (n := 1) (pc' := 75) (by decide +kernel) rfl rfl (by decide) rfl rfl) ?_
          refine XE.go (st_goto (off := (-59)) (pc' := 16) (by decide +kernel) (by decide)) ?_
          exact XE.pick [2, 3, 4, 5, 0] rfl (hc8 (s6.1, (w (s6.2 + 1))))
        · refine XE.go (st_ifnull_f (off := 19) (pc' := 56) (by decide +kernel) (by decide) h23 rfl) ?_
          refine XE.go (st_aload (j := 6) (pc' := 58) (by decide +kernel) rfl (by decide) rfl) ?_
          refine XE.bite (fun h24 => ?_) (fun h25 => ?_)
          · refine XE.go (st_ifnull_t (off := 11) (pc' := 69) (by decide +kernel) (by decide) h24 (by decide)) ?_
            refine XE.go (st_iinc (j := 3) (n := 1) (pc' := 72) (by decide +kernel) rfl rfl (by decide) rfl rfl) ?_
            refine XE.go (st_iinc (j := 4) (n := 1) (pc' := 75) (by decide +kernel) rfl rfl (by decide) rfl rfl) ?_
            refine XE.go (st_goto (off := (-59)) (pc' := 16) (by decide +kernel) (by decide)) ?_
            exact XE.pick [3, 4, 5, 1, 0] rfl (hc8 ((w (s6.1 + 1)), (w (s6.2 + 1))))
          · refine XE.go (st_ifnull_f (off := 11) (pc' := 61) (by decide +kernel) (by decide) h25 rfl) ?_
            refine XE.go (st_aload (j := 6) (pc' := 63) (by decide +kernel) rfl (by decide) rfl) ?_
            refine XE.asc ?_
            refine XE.cP (pc' := 66) (st := []) (fun r hr => ct_X1_waitsOrIsDead h25 r hr) (fun r hr => run_V (st := []) (by decide +kernel) co_X0_lag_249 (ct_X1_waitsOrIsDead h25 r hr) rfl h25 rfl rfl (Nat.le_of_ble_eq_true rfl)) rfl rfl (fun r26 => ?_)
            refine XE.bite (fun h27 => ?_) (fun h28 => ?_)
            · refine XE.go (st_if_ne_f (off := 6) (pc' := 69) (by decide +kernel) 72 (by decide) rfl (not_not_intro h27)) ?_
              refine XE.go (st_iinc (j := 3) (n := 1) (pc' := 72) (by decide +kernel) rfl rfl (by decide) rfl rfl) ?_
              refine XE.go (st_iinc (j := 4) (n := 1) (pc' := 75) (by decide +kernel) rfl rfl (by decide) rfl rfl) ?_
              refine XE.go (st_goto (off := (-59)) (pc' := 16) (by decide +kernel) (by decide)) ?_
              exact XE.pick [3, 4, 5, 1, 0] rfl (hc8 ((w (s6.1 + 1)), (w (s6.2 + 1))))
            · refine XE.go (st_if_ne_t (off := 6) (pc' := 72) (by decide +kernel) (by decide) h28) ?_
              refine XE.go (st_iinc (j := 4) (n := 1) (pc' := 75) (by decide +kernel) rfl rfl (by decide) rfl rfl) ?_
              refine XE.go (st_goto (off := (-59)) (pc' := 16) (by decide +kernel) (by decide)) ?_
              exact XE.pick [2, 3, 4, 5, 0] rfl (hc8 (s6.1, (w (s6.2 + 1))))
    · refine XE.go (st_icmp_ge_t (off := 59) (pc' := 78) (by decide +kernel) (by decide) (Int.not_lt.mp h13)) ?_
      exact XE.pick [3] rfl (he9 s6.1)
  · refine XE.go (st_iload_n (j := 3) (i := 3) (pc' := 79) (by decide +kernel) rfl rfl rfl) ?_
    exact XE.rt rfl (X_iret (by decide +kernel) rfl)
theorem ct_X0_lag {D : Dt} {M : Mm} {a0 a1 : Int} (h0 : a0 ≠ 0) (r : Int) (hr : p_X0_lag M a0 a1 = some r) : CT D 0 mu_X0_lag [(4, a0), (12, a1)] M (.inl (some (0, r))) M := CT.of (by decide +kernel) rfl (Nat.le_of_ble_eq_true rfl) (xe_X0_lag h0 r hr)
def b_X2_countOf_4 (M : Mm) (a0 : Int) (a1 : Int) (s1 : Int × Int) : Option ((Int × Int) ⊕ (Int)) := if s1.2 < (rd M a0 1) then (p_X2_get M a0 s1.2).bind fun r9 => if r9 = 0 then some (.inl (s1.1, (w (s1.2 + 1)))) else gd ((rd M r9 0) ≠ 0) (if (rd M (rd M r9 0) 2) = a1 then some (.inl ((w (s1.1 + 1)), (w (s1.2 + 1)))) else some (.inl (s1.1, (w (s1.2 + 1))))) else some (.inr s1.1)
def p_X2_countOf (M : Mm) (a0 a1 : Int) : Option Int := (lp (b_X2_countOf_4 M a0 a1) 1000 (0, 0)).bind fun (t2 : Int) => some (t2)
set_option maxRecDepth 100000 in
set_option maxHeartbeats 4000000 in
theorem xe_X2_countOf {D : Dt} {M : Mm} {a0 a1 : Int} (h0 : a0 ≠ 0) : XE D 0 mu_X2_countOf (EP 0 M) 0 [(0, (6, a0)), (1, (9, a1))] [] M (p_X2_countOf M a0 a1) := by
  unfold p_X2_countOf
  refine XE.go (st_iconst (n := 0) (pc' := 1) (by decide +kernel) (w_eq (by decide) (by decide)) rfl) ?_
  refine XE.go (st_istore_n (j := 2) (i := 2) (pc' := 2) (by decide +kernel) rfl rfl (by decide) rfl rfl) ?_
  refine XE.go (st_iconst (n := 0) (pc' := 3) (by decide +kernel) (w_eq (by decide) (by decide)) rfl) ?_
  refine XE.go (st_istore_n (j := 3) (i := 3) (pc' := 4) (by decide +kernel) rfl rfl (by decide) rfl rfl) ?_
  refine XE.pick [2, 3, 1, 0] (L' := [(0, (6, a0)), (1, (9, a1)), (2, (0, 0)), (3, (0, 0))]) rfl ?_
  refine XE.loopJ (n := 1000) (s0 := (0, 0)) (pcL := 4) (pcE := 45) (LL := fun (s1 : Int × Int) => [(0, (6, a0)), (1, (9, a1)), (2, (0, s1.1)), (3, (0, s1.2))]) (sL := fun _ => []) (ML := fun (s1 : Int × Int) => M) (LE := fun (t2 : Int) => [(2, (0, t2))]) (sE := fun _ => []) (ME := fun (t2 : Int) => M) (fun kk6 hc3 he4 s1 => ?_) (fun t2 => ?_)
  · unfold b_X2_countOf_4
    refine XE.go (st_iload_n (j := 3) (i := 3) (pc' := 5) (by decide +kernel) rfl rfl rfl) ?_
    refine XE.go (st_aload_n (j := 0) (i := 0) (pc' := 6) (by decide +kernel) rfl rfl (by decide) rfl) ?_
    refine XE.go (st_get (pc' := 9) (by decide +kernel) rfl cls_2 fld_RX2_7 rfl rfl h0) ?_
    refine XE.bite (fun h7 => ?_) (fun h8 => ?_)
    · refine XE.go (st_icmp_ge_f (off := 36) (pc' := 12) (by decide +kernel) 45 (by decide) rfl (Int.not_le.mpr h7)) ?_
      refine XE.go (st_aload_n (j := 0) (i := 0) (pc' := 13) (by decide +kernel) rfl rfl (by decide) rfl) ?_
      refine XE.go (st_iload_n (j := 3) (i := 3) (pc' := 14) (by decide +kernel) rfl rfl rfl) ?_
      refine XE.asc ?_
      refine XE.cP (pc' := 17) (st := []) (fun r hr => ct_X2_get h0 r hr) (fun r hr => run_V (st := []) (by decide +kernel) co_X2_countOf_19 (ct_X2_get h0 r hr) rfl h0 rfl rfl (Nat.le_of_ble_eq_true rfl)) rfl rfl (fun r9 => ?_)
      refine XE.go (st_astore (j := 4) (pc' := 19) (by decide +kernel)  (by decide) rfl (by decide) rfl rfl) ?_
      refine XE.go (st_aload (j := 4) (pc' := 21) (by decide +kernel) rfl (by decide) rfl) ?_
      refine XE.bite (fun h10 => ?_) (fun h11 => ?_)
      · refine XE.go (st_ifnull_t (off := 18) (pc' := 39) (by decide +kernel) (by decide) h10 (by decide)) ?_
        refine XE.go (st_iinc (j := 3) (n := 1) (pc' := 42) (by decide +kernel) rfl rfl (by decide) rfl rfl) ?_
        refine XE.go (st_goto (off := (-38)) (pc' := 4) (by decide +kernel) (by decide)) ?_
        exact XE.pick [2, 3, 4, 0] rfl (hc3 (s1.1, (w (s1.2 + 1))))
      · refine XE.go (st_ifnull_f (off := 18) (pc' := 24) (by decide +kernel) (by decide) h11 rfl) ?_
        refine XE.go (st_aload (j := 4) (pc' := 26) (by decide +kernel) rfl (by decide) rfl) ?_
        refine XE.go (st_get (pc' := 29) (by decide +kernel) rfl cls_1 fld_RX2_23 rfl rfl h11) ?_
        refine XE.gdb (fun g12 => ?_)
        refine XE.go (st_get (pc' := 32) (by decide +kernel) rfl cls_4 fld_RX2_36 rfl rfl g12) ?_
        refine XE.go (st_aload_n (j := 1) (i := 1) (pc' := 33) (by decide +kernel) rfl rfl (by decide) rfl) ?_
        refine XE.bite (fun h13 => ?_) (fun h14 => ?_)
        · refine XE.go (st_acmp_ne_f (off := 6) (pc' := 36) (by decide +kernel) 39 (by decide) (by decide) (by decide) h13 rfl) ?_
          refine XE.go (st_iinc (j := 2) (n := 1) (pc' := 39) (by decide +kernel) rfl rfl (by decide) rfl rfl) ?_
          refine XE.go (st_iinc (j := 3) (n := 1) (pc' := 42) (by decide +kernel) rfl rfl (by decide) rfl rfl) ?_
          refine XE.go (st_goto (off := (-38)) (pc' := 4) (by decide +kernel) (by decide)) ?_
          exact XE.pick [3, 4, 1, 0] rfl (hc3 ((w (s1.1 + 1)), (w (s1.2 + 1))))
        · refine XE.go (st_acmp_ne_t (off := 6) (pc' := 39) (by decide +kernel) (by decide) (by decide) h14 (by decide)) ?_
          refine XE.go (st_iinc (j := 3) (n := 1) (pc' := 42) (by decide +kernel) rfl rfl (by decide) rfl rfl) ?_
          refine XE.go (st_goto (off := (-38)) (pc' := 4) (by decide +kernel) (by decide)) ?_
          exact XE.pick [2, 3, 4, 0] rfl (hc3 (s1.1, (w (s1.2 + 1))))
    · refine XE.go (st_icmp_ge_t (off := 36) (pc' := 45) (by decide +kernel) (by decide) (Int.not_lt.mp h8)) ?_
      exact XE.pick [2] rfl (he4 s1.1)
  · refine XE.go (st_iload_n (j := 2) (i := 2) (pc' := 46) (by decide +kernel) rfl rfl rfl) ?_
    exact XE.rt rfl (X_iret (by decide +kernel) rfl)
theorem ct_X2_countOf {D : Dt} {M : Mm} {a0 a1 : Int} (h0 : a0 ≠ 0) (r : Int) (hr : p_X2_countOf M a0 a1 = some r) : CT D 0 mu_X2_countOf [(6, a0), (9, a1)] M (.inl (some (0, r))) M := CT.of (by decide +kernel) rfl (Nat.le_of_ble_eq_true rfl) (xe_X2_countOf h0 r hr)
def p_X10_tellShare (M : Mm) (a0 a1 a2 : Int) : Option Int := if a2 = 0 then gd (a1 ≠ 0) (if (rd M a1 1) = 0 then some ((-1)) else some ((rd M (rd M a1 1) 0))) else if a2 = 1 then gd (a1 ≠ 0) (if (rd M a1 2) = 0 then some ((-1)) else some ((rd M (rd M a1 2) 0))) else if a2 = 2 then gd (a1 ≠ 0) (some ((rd M a1 3))) else if a2 = 3 then gd (a1 ≠ 0) (if (rd M a1 1) = 0 then some ((-1)) else some ((rd M a1 4))) else if a2 = 4 then gd (a0 ≠ 0) ((p_X0_lag M a0 a1).bind fun r22 => some (r22)) else if a2 = 5 then gd (a0 ≠ 0) (gd (a1 ≠ 0) (gd ((rd M a0 3) ≠ 0) ((p_X2_countOf M (rd M a0 3) (rd M a1 0)).bind fun r28 => some (r28)))) else gd (a0 ≠ 0) (gd (a1 ≠ 0) (gd ((rd M a0 4) ≠ 0) ((p_X2_countOf M (rd M a0 4) (rd M a1 0)).bind fun r32 => some (r32))))
set_option maxRecDepth 100000 in
set_option maxHeartbeats 4000000 in
theorem xe_X10_tellShare {D : Dt} {M : Mm} {a0 a1 a2 : Int} : XE D 0 mu_X10_tellShare (EP 0 M) 0 [(0, (4, a0)), (1, (12, a1)), (2, (0, a2))] [] M (p_X10_tellShare M a0 a1 a2) := by
  unfold p_X10_tellShare
  refine XE.go (st_iload_n (j := 2) (i := 2) (pc' := 1) (by decide +kernel) rfl rfl rfl) ?_
  refine XE.ite (fun h1 => ?_) (fun h2 => ?_)
  · refine XE.go (st_tab_in (dflt := 116) (lo := 0) (hi := 5) (offs := #[39, 58, 77, 82, 98, 104]) (len := 39) (off := 39) (pc' := 40) (by decide +kernel) 0 h1 (by decide) (by decide) (by decide) (by decide)) ?_
    refine XE.go (st_aload_n (j := 1) (i := 1) (pc' := 41) (by decide +kernel) rfl rfl (by decide) rfl) ?_
    refine XE.gd_ (fun g3 => ?_)
    refine XE.go (st_get (pc' := 44) (by decide +kernel) rfl cls_8 fld_RX10_451 rfl rfl g3) ?_
    refine XE.ite (fun h4 => ?_) (fun h5 => ?_)
    · refine XE.go (st_ifnonnull_f (off := 7) (pc' := 47) (by decide +kernel) (by decide) h4 rfl) ?_
      refine XE.go (st_iconst (n := (-1)) (pc' := 48) (by decide +kernel) (w_eq (by decide) (by decide)) rfl) ?_
      refine XE.go (st_goto (off := 10) (pc' := 58) (by decide +kernel) (by decide)) ?_
      exact XE.rt rfl (X_iret (by decide +kernel) rfl)
    · refine XE.go (st_ifnonnull_t (off := 7) (pc' := 51) (by decide +kernel) (by decide) h5 (by decide)) ?_
      refine XE.go (st_aload_n (j := 1) (i := 1) (pc' := 52) (by decide +kernel) rfl rfl (by decide) rfl) ?_
      refine XE.go (st_get (pc' := 55) (by decide +kernel) rfl cls_8 fld_RX10_451 rfl rfl g3) ?_
      refine XE.go (st_get (pc' := 58) (by decide +kernel) rfl cls_3 fld_RX10_507 rfl rfl h5) ?_
      exact XE.rt rfl (X_iret (by decide +kernel) rfl)
  refine XE.ite (fun h6 => ?_) (fun h7 => ?_)
  · refine XE.go (st_tab_in (dflt := 116) (lo := 0) (hi := 5) (offs := #[39, 58, 77, 82, 98, 104]) (len := 39) (off := 58) (pc' := 59) (by decide +kernel) 1 h6 (by decide) (by decide) (by decide) (by decide)) ?_
    refine XE.go (st_aload_n (j := 1) (i := 1) (pc' := 60) (by decide +kernel) rfl rfl (by decide) rfl) ?_
    refine XE.gd_ (fun g8 => ?_)
    refine XE.go (st_get (pc' := 63) (by decide +kernel) rfl cls_8 fld_RX10_508 rfl rfl g8) ?_
    refine XE.ite (fun h9 => ?_) (fun h10 => ?_)
    · refine XE.go (st_ifnonnull_f (off := 7) (pc' := 66) (by decide +kernel) (by decide) h9 rfl) ?_
      refine XE.go (st_iconst (n := (-1)) (pc' := 67) (by decide +kernel) (w_eq (by decide) (by decide)) rfl) ?_
      refine XE.go (st_goto (off := 10) (pc' := 77) (by decide +kernel) (by decide)) ?_
      exact XE.rt rfl (X_iret (by decide +kernel) rfl)
    · refine XE.go (st_ifnonnull_t (off := 7) (pc' := 70) (by decide +kernel) (by decide) h10 (by decide)) ?_
      refine XE.go (st_aload_n (j := 1) (i := 1) (pc' := 71) (by decide +kernel) rfl rfl (by decide) rfl) ?_
      refine XE.go (st_get (pc' := 74) (by decide +kernel) rfl cls_8 fld_RX10_508 rfl rfl g8) ?_
      refine XE.go (st_get (pc' := 77) (by decide +kernel) rfl cls_3 fld_RX10_507 rfl rfl h10) ?_
      exact XE.rt rfl (X_iret (by decide +kernel) rfl)
  refine XE.ite (fun h11 => ?_) (fun h12 => ?_)
  · refine XE.go (st_tab_in (dflt := 116) (lo := 0) (hi := 5) (offs := #[39, 58, 77, 82, 98, 104]) (len := 39) (off := 77) (pc' := 78) (by decide +kernel) 2 h11 (by decide) (by decide) (by decide) (by decide)) ?_
    refine XE.go (st_aload_n (j := 1) (i := 1) (pc' := 79) (by decide +kernel) rfl rfl (by decide) rfl) ?_
    refine XE.gd_ (fun g13 => ?_)
    refine XE.go (st_get (pc' := 82) (by decide +kernel) rfl cls_8 fld_RX10_459 rfl rfl g13) ?_
    exact XE.rt rfl (X_iret (by decide +kernel) rfl)
  refine XE.ite (fun h14 => ?_) (fun h15 => ?_)
  · refine XE.go (st_tab_in (dflt := 116) (lo := 0) (hi := 5) (offs := #[39, 58, 77, 82, 98, 104]) (len := 39) (off := 82) (pc' := 83) (by decide +kernel) 3 h14 (by decide) (by decide) (by decide) (by decide)) ?_
    refine XE.go (st_aload_n (j := 1) (i := 1) (pc' := 84) (by decide +kernel) rfl rfl (by decide) rfl) ?_
    refine XE.gd_ (fun g16 => ?_)
    refine XE.go (st_get (pc' := 87) (by decide +kernel) rfl cls_8 fld_RX10_451 rfl rfl g16) ?_
    refine XE.ite (fun h17 => ?_) (fun h18 => ?_)
    · refine XE.go (st_ifnonnull_f (off := 7) (pc' := 90) (by decide +kernel) (by decide) h17 rfl) ?_
      refine XE.go (st_iconst (n := (-1)) (pc' := 91) (by decide +kernel) (w_eq (by decide) (by decide)) rfl) ?_
      refine XE.go (st_goto (off := 7) (pc' := 98) (by decide +kernel) (by decide)) ?_
      exact XE.rt rfl (X_iret (by decide +kernel) rfl)
    · refine XE.go (st_ifnonnull_t (off := 7) (pc' := 94) (by decide +kernel) (by decide) h18 (by decide)) ?_
      refine XE.go (st_aload_n (j := 1) (i := 1) (pc' := 95) (by decide +kernel) rfl rfl (by decide) rfl) ?_
      refine XE.go (st_get (pc' := 98) (by decide +kernel) rfl cls_8 fld_RX10_511 rfl rfl g16) ?_
      exact XE.rt rfl (X_iret (by decide +kernel) rfl)
  refine XE.ite (fun h19 => ?_) (fun h20 => ?_)
  · refine XE.go (st_tab_in (dflt := 116) (lo := 0) (hi := 5) (offs := #[39, 58, 77, 82, 98, 104]) (len := 39) (off := 98) (pc' := 99) (by decide +kernel) 4 h19 (by decide) (by decide) (by decide) (by decide)) ?_
    refine XE.go (st_aload_n (j := 0) (i := 0) (pc' := 100) (by decide +kernel) rfl rfl (by decide) rfl) ?_
    refine XE.go (st_aload_n (j := 1) (i := 1) (pc' := 101) (by decide +kernel) rfl rfl (by decide) rfl) ?_
    refine XE.gd_ (fun g21 => ?_)
    refine XE.cP (pc' := 104) (st := []) (fun r hr => ct_X0_lag g21 r hr) (fun r hr => run_V (st := []) (by decide +kernel) co_X10_tellShare_514 (ct_X0_lag g21 r hr) rfl g21 rfl rfl (Nat.le_of_ble_eq_true rfl)) rfl rfl (fun r22 => ?_)
    exact XE.rt rfl (X_iret (by decide +kernel) rfl)
  refine XE.ite (fun h23 => ?_) (fun h24 => ?_)
  · refine XE.go (st_tab_in (dflt := 116) (lo := 0) (hi := 5) (offs := #[39, 58, 77, 82, 98, 104]) (len := 39) (off := 104) (pc' := 105) (by decide +kernel) 5 h23 (by decide) (by decide) (by decide) (by decide)) ?_
    refine XE.go (st_aload_n (j := 0) (i := 0) (pc' := 106) (by decide +kernel) rfl rfl (by decide) rfl) ?_
    refine XE.gd_ (fun g25 => ?_)
    refine XE.go (st_get (pc' := 109) (by decide +kernel) rfl cls_0 fld_RX10_518 rfl rfl g25) ?_
    refine XE.go (st_aload_n (j := 1) (i := 1) (pc' := 110) (by decide +kernel) rfl rfl (by decide) rfl) ?_
    refine XE.gd_ (fun g26 => ?_)
    refine XE.go (st_get (pc' := 113) (by decide +kernel) rfl cls_8 fld_RX10_465 rfl rfl g26) ?_
    refine XE.gd_ (fun g27 => ?_)
    refine XE.cP (pc' := 116) (st := []) (fun r hr => ct_X2_countOf g27 r hr) (fun r hr => run_V (st := []) (by decide +kernel) co_X10_tellShare_521 (ct_X2_countOf g27 r hr) rfl g27 rfl rfl (Nat.le_of_ble_eq_true rfl)) rfl rfl (fun r28 => ?_)
    exact XE.rt rfl (X_iret (by decide +kernel) rfl)
  refine XE.go (st_tab_out (dflt := 116) (lo := 0) (hi := 5) (offs := #[39, 58, 77, 82, 98, 104]) (len := 39) (pc' := 117) (by decide +kernel) (by omega) (by decide)) ?_
  refine XE.go (st_aload_n (j := 0) (i := 0) (pc' := 118) (by decide +kernel) rfl rfl (by decide) rfl) ?_
  refine XE.gd_ (fun g29 => ?_)
  refine XE.go (st_get (pc' := 121) (by decide +kernel) rfl cls_0 fld_RX10_525 rfl rfl g29) ?_
  refine XE.go (st_aload_n (j := 1) (i := 1) (pc' := 122) (by decide +kernel) rfl rfl (by decide) rfl) ?_
  refine XE.gd_ (fun g30 => ?_)
  refine XE.go (st_get (pc' := 125) (by decide +kernel) rfl cls_8 fld_RX10_465 rfl rfl g30) ?_
  refine XE.gd_ (fun g31 => ?_)
  refine XE.cP (pc' := 128) (st := []) (fun r hr => ct_X2_countOf g31 r hr) (fun r hr => run_V (st := []) (by decide +kernel) co_X10_tellShare_521 (ct_X2_countOf g31 r hr) rfl g31 rfl rfl (Nat.le_of_ble_eq_true rfl)) rfl rfl (fun r32 => ?_)
  exact XE.rt rfl (X_iret (by decide +kernel) rfl)
theorem ct_X10_tellShare {D : Dt} {M : Mm} {a0 a1 a2 : Int} (r : Int) (hr : p_X10_tellShare M a0 a1 a2 = some r) : CT D 0 mu_X10_tellShare [(4, a0), (12, a1), (0, a2)] M (.inl (some (0, r))) M := CT.of (by decide +kernel) rfl (Nat.le_of_ble_eq_true rfl) (xe_X10_tellShare r hr)
def p_X10_share (M : Mm) (a0 a1 a2 a3 : Int) : Option (Int × Int × Mm) := (p_X10_groupOf M a0 a1).bind (thT psT fun v1 M2 => (p_X10_shareOf M2 v1 a2).bind (thT psT fun v3 M4 => (p_X10_requireWithin M4 a3 0 6).bind (thU psT fun M5 => (p_X10_tellShare M5 v1 v3 a3).bind fun r6 => some (0, r6, M5))))
set_option maxRecDepth 100000 in
set_option maxHeartbeats 4000000 in
theorem xe_X10_share {D : Dt} {M : Mm} {a0 a1 a2 a3 : Int} (h0 : a0 ≠ 0) : XE D 0 mu_X10_share (ET 0) 0 [(0, (14, a0)), (1, (0, a1)), (2, (0, a2)), (3, (0, a3))] [] M (p_X10_share M a0 a1 a2 a3) := by
  unfold p_X10_share
  refine XE.go (st_aload_n (j := 0) (i := 0) (pc' := 1) (by decide +kernel) rfl rfl (by decide) rfl) ?_
  refine XE.go (st_iload_n (j := 1) (i := 1) (pc' := 2) (by decide +kernel) rfl rfl rfl) ?_
  refine XE.cTg (pc' := 5) (st := []) hfT (fun r hr => ct_X10_groupOf h0 r hr) (fun r hr => run_V (st := []) (by decide +kernel) co_X10_share_334 (ct_X10_groupOf h0 r hr) rfl h0 rfl rfl (Nat.le_of_ble_eq_true rfl)) rfl rfl rfl (fun v1 M2 => ?_)
  refine XE.go (st_astore (j := 4) (pc' := 7) (by decide +kernel)  (by decide) rfl (by decide) rfl rfl) ?_
  refine XE.go (st_aload (j := 4) (pc' := 9) (by decide +kernel) rfl (by decide) rfl) ?_
  refine XE.go (st_iload_n (j := 2) (i := 2) (pc' := 10) (by decide +kernel) rfl rfl rfl) ?_
  refine XE.cTg (pc' := 13) (st := []) hfT (fun r hr => ct_X10_shareOf r hr) (fun r hr => run_S (st := []) (by decide +kernel) co_X10_share_447 (ct_X10_shareOf r hr) rfl rfl (Nat.le_of_ble_eq_true rfl)) rfl rfl rfl (fun v3 M4 => ?_)
  refine XE.go (st_astore (j := 5) (pc' := 15) (by decide +kernel)  (by decide) rfl (by decide) rfl rfl) ?_
  refine XE.go (st_iload_n (j := 3) (i := 3) (pc' := 16) (by decide +kernel) rfl rfl rfl) ?_
  refine XE.go (st_iconst (n := 0) (pc' := 17) (by decide +kernel) (w_eq (by decide) (by decide)) rfl) ?_
  refine XE.go (st_bipush (n := 6) (pc' := 19) (by decide +kernel) (by decide) (w_eq (by decide) (by decide)) rfl) ?_
  refine XE.cUg (pc' := 22) (st := []) hfT (fun r hr => ct_X10_requireWithin r hr) (fun r hr => run_S (st := []) (by decide +kernel) co_X10_share_73 (ct_X10_requireWithin r hr) rfl rfl (Nat.le_of_ble_eq_true rfl)) rfl rfl rfl (fun M5 => ?_)
  refine XE.go (st_aload (j := 4) (pc' := 24) (by decide +kernel) rfl (by decide) rfl) ?_
  refine XE.go (st_aload (j := 5) (pc' := 26) (by decide +kernel) rfl (by decide) rfl) ?_
  refine XE.go (st_iload_n (j := 3) (i := 3) (pc' := 27) (by decide +kernel) rfl rfl rfl) ?_
  refine XE.cP (pc' := 30) (st := []) (fun r hr => ct_X10_tellShare r hr) (fun r hr => run_S (st := []) (by decide +kernel) co_X10_share_503 (ct_X10_tellShare r hr) rfl rfl (Nat.le_of_ble_eq_true rfl)) rfl rfl (fun r6 => ?_)
  exact XE.rt rfl (X_iret (by decide +kernel) rfl)
theorem ct_X10_share {D : Dt} {M : Mm} {a0 a1 a2 a3 : Int} (h0 : a0 ≠ 0) (r : (Int × Int × Mm)) (hr : p_X10_share M a0 a1 a2 a3 = some r) : CT D 0 mu_X10_share [(14, a0), (0, a1), (0, a2), (0, a3)] M (ET 0 r).1 (ET 0 r).2 := CT.of (by decide +kernel) rfl (Nat.le_of_ble_eq_true rfl) (xe_X10_share h0 r hr)
def p_X10_member (M : Mm) (a0 a1 a2 a3 : Int) : Option (Int × Int × Mm) := (p_X10_groupOf M a0 a1).bind (thT psT fun v1 M2 => (p_X10_memberOf M2 v1 a2).bind (thT psT fun v3 M4 => (p_X10_requireWithin M4 a3 0 4).bind (thU psT fun M5 => if a3 = 0 then gd (v1 ≠ 0) ((p_X0_ownedCount M5 v1 v3).bind fun r9 => some (0, r9, M5)) else if a3 = 1 then gd (v1 ≠ 0) ((p_X0_targetCount M5 v1 v3).bind fun r13 => some (0, r13, M5)) else if a3 = 2 then gd (v3 ≠ 0) (some (0, (rd M5 v3 3), M5)) else if a3 = 3 then gd (v3 ≠ 0) (gd ((rd M5 v3 1) ≠ 0) (some (0, (rd M5 (rd M5 v3 1) 1), M5))) else gd (v3 ≠ 0) (some (0, (rd M5 v3 2), M5)))))
set_option maxRecDepth 100000 in
set_option maxHeartbeats 4000000 in
theorem xe_X10_member {D : Dt} {M : Mm} {a0 a1 a2 a3 : Int} (h0 : a0 ≠ 0) : XE D 0 mu_X10_member (ET 0) 0 [(0, (14, a0)), (1, (0, a1)), (2, (0, a2)), (3, (0, a3))] [] M (p_X10_member M a0 a1 a2 a3) := by
  unfold p_X10_member
  refine XE.go (st_aload_n (j := 0) (i := 0) (pc' := 1) (by decide +kernel) rfl rfl (by decide) rfl) ?_
  refine XE.go (st_iload_n (j := 1) (i := 1) (pc' := 2) (by decide +kernel) rfl rfl rfl) ?_
  refine XE.cTg (pc' := 5) (st := []) hfT (fun r hr => ct_X10_groupOf h0 r hr) (fun r hr => run_V (st := []) (by decide +kernel) co_X10_member_334 (ct_X10_groupOf h0 r hr) rfl h0 rfl rfl (Nat.le_of_ble_eq_true rfl)) rfl rfl rfl (fun v1 M2 => ?_)
  refine XE.go (st_astore (j := 4) (pc' := 7) (by decide +kernel)  (by decide) rfl (by decide) rfl rfl) ?_
  refine XE.go (st_aload (j := 4) (pc' := 9) (by decide +kernel) rfl (by decide) rfl) ?_
  refine XE.go (st_iload_n (j := 2) (i := 2) (pc' := 10) (by decide +kernel) rfl rfl rfl) ?_
  refine XE.cTg (pc' := 13) (st := []) hfT (fun r hr => ct_X10_memberOf r hr) (fun r hr => run_S (st := []) (by decide +kernel) co_X10_member_338 (ct_X10_memberOf r hr) rfl rfl (Nat.le_of_ble_eq_true rfl)) rfl rfl rfl (fun v3 M4 => ?_)
  refine XE.go (st_astore (j := 5) (pc' := 15) (by decide +kernel)  (by decide) rfl (by decide) rfl rfl) ?_
  refine XE.go (st_iload_n (j := 3) (i := 3) (pc' := 16) (by decide +kernel) rfl rfl rfl) ?_
  refine XE.go (st_iconst (n := 0) (pc' := 17) (by decide +kernel) (w_eq (by decide) (by decide)) rfl) ?_
  refine XE.go (st_iconst (n := 4) (pc' := 18) (by decide +kernel) (w_eq (by decide) (by decide)) rfl) ?_
  refine XE.cUg (pc' := 21) (st := []) hfT (fun r hr => ct_X10_requireWithin r hr) (fun r hr => run_S (st := []) (by decide +kernel) co_X10_member_73 (ct_X10_requireWithin r hr) rfl rfl (Nat.le_of_ble_eq_true rfl)) rfl rfl rfl (fun M5 => ?_)
  refine XE.go (st_iload_n (j := 3) (i := 3) (pc' := 22) (by decide +kernel) rfl rfl rfl) ?_
  refine XE.ite (fun h6 => ?_) (fun h7 => ?_)
  · refine XE.go (st_tab_in (dflt := 61) (lo := 0) (hi := 3) (offs := #[30, 38, 46, 52]) (len := 30) (off := 30) (pc' := 52) (by decide +kernel) 0 h6 (by decide) (by decide) (by decide) (by decide)) ?_
    refine XE.go (st_aload (j := 4) (pc' := 54) (by decide +kernel) rfl (by decide) rfl) ?_
    refine XE.go (st_aload (j := 5) (pc' := 56) (by decide +kernel) rfl (by decide) rfl) ?_
    refine XE.gd_ (fun g8 => ?_)
    refine XE.cP (pc' := 59) (st := []) (fun r hr => ct_X0_ownedCount g8 r hr) (fun r hr => run_V (st := []) (by decide +kernel) co_X10_member_404 (ct_X0_ownedCount g8 r hr) rfl g8 rfl rfl (Nat.le_of_ble_eq_true rfl)) rfl rfl (fun r9 => ?_)
    exact XE.rt rfl (X_iret (by decide +kernel) rfl)
  refine XE.ite (fun h10 => ?_) (fun h11 => ?_)
  · refine XE.go (st_tab_in (dflt := 61) (lo := 0) (hi := 3) (offs := #[30, 38, 46, 52]) (len := 30) (off := 38) (pc' := 60) (by decide +kernel) 1 h10 (by decide) (by decide) (by decide) (by decide)) ?_
    refine XE.go (st_aload (j := 4) (pc' := 62) (by decide +kernel) rfl (by decide) rfl) ?_
    refine XE.go (st_aload (j := 5) (pc' := 64) (by decide +kernel) rfl (by decide) rfl) ?_
    refine XE.gd_ (fun g12 => ?_)
    refine XE.cP (pc' := 67) (st := []) (fun r hr => ct_X0_targetCount g12 r hr) (fun r hr => run_V (st := []) (by decide +kernel) co_X10_member_528 (ct_X0_targetCount g12 r hr) rfl g12 rfl rfl (Nat.le_of_ble_eq_true rfl)) rfl rfl (fun r13 => ?_)
    exact XE.rt rfl (X_iret (by decide +kernel) rfl)
  refine XE.ite (fun h14 => ?_) (fun h15 => ?_)
  · refine XE.go (st_tab_in (dflt := 61) (lo := 0) (hi := 3) (offs := #[30, 38, 46, 52]) (len := 30) (off := 46) (pc' := 68) (by decide +kernel) 2 h14 (by decide) (by decide) (by decide) (by decide)) ?_
    refine XE.go (st_aload (j := 5) (pc' := 70) (by decide +kernel) rfl (by decide) rfl) ?_
    refine XE.gd_ (fun g16 => ?_)
    refine XE.go (st_get (pc' := 73) (by decide +kernel) rfl cls_3 fld_RX10_417 rfl rfl g16) ?_
    exact XE.rt rfl (X_iret (by decide +kernel) rfl)
  refine XE.ite (fun h17 => ?_) (fun h18 => ?_)
  · refine XE.go (st_tab_in (dflt := 61) (lo := 0) (hi := 3) (offs := #[30, 38, 46, 52]) (len := 30) (off := 52) (pc' := 74) (by decide +kernel) 3 h17 (by decide) (by decide) (by decide) (by decide)) ?_
    refine XE.go (st_aload (j := 5) (pc' := 76) (by decide +kernel) rfl (by decide) rfl) ?_
    refine XE.gd_ (fun g19 => ?_)
    refine XE.go (st_get (pc' := 79) (by decide +kernel) rfl cls_3 fld_RX10_408 rfl rfl g19) ?_
    refine XE.gd_ (fun g20 => ?_)
    refine XE.go (st_get (pc' := 82) (by decide +kernel) rfl cls_2 fld_RX10_412 rfl rfl g20) ?_
    exact XE.rt rfl (X_iret (by decide +kernel) rfl)
  refine XE.go (st_tab_out (dflt := 61) (lo := 0) (hi := 3) (offs := #[30, 38, 46, 52]) (len := 30) (pc' := 83) (by decide +kernel) (by omega) (by decide)) ?_
  refine XE.go (st_aload (j := 5) (pc' := 85) (by decide +kernel) rfl (by decide) rfl) ?_
  refine XE.gd_ (fun g21 => ?_)
  refine XE.go (st_get (pc' := 88) (by decide +kernel) rfl cls_3 fld_RX10_395 rfl rfl g21) ?_
  exact XE.rt rfl (X_iret (by decide +kernel) rfl)
theorem ct_X10_member {D : Dt} {M : Mm} {a0 a1 a2 a3 : Int} (h0 : a0 ≠ 0) (r : (Int × Int × Mm)) (hr : p_X10_member M a0 a1 a2 a3 = some r) : CT D 0 mu_X10_member [(14, a0), (0, a1), (0, a2), (0, a3)] M (ET 0 r).1 (ET 0 r).2 := CT.of (by decide +kernel) rfl (Nat.le_of_ble_eq_true rfl) (xe_X10_member h0 r hr)
def p_X10_letterAt (M : Mm) (a0 a1 : Int) : Option (Int × Int × Mm) := gd (a0 ≠ 0) ((p_X2_get M a0 a1).bind fun r2 => if r2 = 0 then psT 1 0 (thr M) else some (0, r2, M))
set_option maxRecDepth 100000 in
set_option maxHeartbeats 4000000 in
theorem xe_X10_letterAt {D : Dt} {M : Mm} {a0 a1 : Int} : XE D 0 mu_X10_letterAt (ET 5) 0 [(0, (6, a0)), (1, (0, a1))] [] M (p_X10_letterAt M a0 a1) := by
  unfold p_X10_letterAt
  refine XE.go (st_aload_n (j := 0) (i := 0) (pc' := 1) (by decide +kernel) rfl rfl (by decide) rfl) ?_
  refine XE.go (st_iload_n (j := 1) (i := 1) (pc' := 2) (by decide +kernel) rfl rfl rfl) ?_
  refine XE.gd_ (fun g1 => ?_)
  refine XE.cP (pc' := 5) (st := []) (fun r hr => ct_X2_get g1 r hr) (fun r hr => run_V (st := []) (by decide +kernel) co_X10_letterAt_651 (ct_X2_get g1 r hr) rfl g1 rfl rfl (Nat.le_of_ble_eq_true rfl)) rfl rfl (fun r2 => ?_)
  refine XE.go (st_astore_n (j := 2) (i := 2) (pc' := 6) (by decide +kernel) rfl (by decide) rfl (by decide) rfl rfl) ?_
  refine XE.go (st_aload_n (j := 2) (i := 2) (pc' := 7) (by decide +kernel) rfl rfl (by decide) rfl) ?_
  refine XE.ite (fun h3 => ?_) (fun h4 => ?_)
  · refine XE.go (st_ifnonnull_f (off := 14) (pc' := 10) (by decide +kernel) (by decide) h3 rfl) ?_
    exact XE.thrTW (by decide +kernel) (by decide +kernel) (by decide +kernel) (by decide +kernel) (by decide +kernel) thr_RX10_655 rfl (by decide) (by decide) (by decide)
  · refine XE.go (st_ifnonnull_t (off := 14) (pc' := 21) (by decide +kernel) (by decide) h4 (by decide)) ?_
    refine XE.go (st_aload_n (j := 2) (i := 2) (pc' := 22) (by decide +kernel) rfl rfl (by decide) rfl) ?_
    exact XE.rt rfl (X_aret (by decide +kernel) rfl (Or.inl ⟨_, rfl⟩) (by decide))
theorem ct_X10_letterAt {D : Dt} {M : Mm} {a0 a1 : Int} (r : (Int × Int × Mm)) (hr : p_X10_letterAt M a0 a1 = some r) : CT D 0 mu_X10_letterAt [(6, a0), (0, a1)] M (ET 5 r).1 (ET 5 r).2 := CT.of (by decide +kernel) rfl (Nat.le_of_ble_eq_true rfl) (xe_X10_letterAt r hr)
def p_X10_hand (M : Mm) (a0 a1 a2 a3 a4 : Int) : Option (Int × Int × Mm) := (p_X10_groupOf M a0 a1).bind (thT psT fun v1 M2 => (p_X10_memberOf M2 v1 a2).bind (thT psT fun v3 M4 => gd (v3 ≠ 0) ((p_X10_letterAt M4 (rd M4 v3 1) a3).bind (thT psT fun v6 M7 => (p_X10_requireWithin M7 a4 0 2).bind (thU psT fun M8 => if a4 = 0 then gd (v6 ≠ 0) (gd ((rd M8 v6 0) ≠ 0) (some (0, (rd M8 (rd M8 v6 0) 0), M8))) else if a4 = 1 then gd (v6 ≠ 0) (some (0, (rd M8 v6 3), M8)) else gd (v6 ≠ 0) (if (rd M8 v6 4) = 0 then some (0, 0, M8) else some (0, 1, M8)))))))
set_option maxRecDepth 100000 in
set_option maxHeartbeats 4000000 in
theorem xe_X10_hand {D : Dt} {M : Mm} {a0 a1 a2 a3 a4 : Int} (h0 : a0 ≠ 0) : XE D 0 mu_X10_hand (ET 0) 0 [(0, (14, a0)), (1, (0, a1)), (2, (0, a2)), (3, (0, a3)), (4, (0, a4))] [] M (p_X10_hand M a0 a1 a2 a3 a4) := by
  unfold p_X10_hand
  refine XE.go (st_aload_n (j := 0) (i := 0) (pc' := 1) (by decide +kernel) rfl rfl (by decide) rfl) ?_
  refine XE.go (st_iload_n (j := 1) (i := 1) (pc' := 2) (by decide +kernel) rfl rfl rfl) ?_
  refine XE.cTg (pc' := 5) (st := []) hfT (fun r hr => ct_X10_groupOf h0 r hr) (fun r hr => run_V (st := []) (by decide +kernel) co_X10_hand_334 (ct_X10_groupOf h0 r hr) rfl h0 rfl rfl (Nat.le_of_ble_eq_true rfl)) rfl rfl rfl (fun v1 M2 => ?_)
  refine XE.go (st_iload_n (j := 2) (i := 2) (pc' := 6) (by decide +kernel) rfl rfl rfl) ?_
  refine XE.cTg (pc' := 9) (st := []) hfT (fun r hr => ct_X10_memberOf r hr) (fun r hr => run_S (st := []) (by decide +kernel) co_X10_hand_338 (ct_X10_memberOf r hr) rfl rfl (Nat.le_of_ble_eq_true rfl)) rfl rfl rfl (fun v3 M4 => ?_)
  refine XE.gd_ (fun g5 => ?_)
  refine XE.go (st_get (pc' := 12) (by decide +kernel) rfl cls_3 fld_RX10_408 rfl rfl g5) ?_
  refine XE.go (st_iload_n (j := 3) (i := 3) (pc' := 13) (by decide +kernel) rfl rfl rfl) ?_
  refine XE.cTg (pc' := 16) (st := []) hfT (fun r hr => ct_X10_letterAt r hr) (fun r hr => run_S (st := []) (by decide +kernel) co_X10_hand_531 (ct_X10_letterAt r hr) rfl rfl (Nat.le_of_ble_eq_true rfl)) rfl rfl rfl (fun v6 M7 => ?_)
  refine XE.go (st_astore (j := 5) (pc' := 18) (by decide +kernel)  (by decide) rfl (by decide) rfl rfl) ?_
  refine XE.go (st_iload (j := 4) (pc' := 20) (by decide +kernel) rfl rfl) ?_
  refine XE.go (st_iconst (n := 0) (pc' := 21) (by decide +kernel) (w_eq (by decide) (by decide)) rfl) ?_
  refine XE.go (st_iconst (n := 2) (pc' := 22) (by decide +kernel) (w_eq (by decide) (by decide)) rfl) ?_
  refine XE.cUg (pc' := 25) (st := []) hfT (fun r hr => ct_X10_requireWithin r hr) (fun r hr => run_S (st := []) (by decide +kernel) co_X10_hand_73 (ct_X10_requireWithin r hr) rfl rfl (Nat.le_of_ble_eq_true rfl)) rfl rfl rfl (fun M8 => ?_)
  refine XE.go (st_iload (j := 4) (pc' := 27) (by decide +kernel) rfl rfl) ?_
  refine XE.ite (fun h9 => ?_) (fun h10 => ?_)
  · refine XE.go (st_lk (dflt := 40) (ps := #[(0, 25), (1, 34)]) (len := 25) (off := 25) (pc' := 52) (by decide +kernel) (by decide) (by rw [h9]; decide) (by decide)) ?_
    refine XE.go (st_aload (j := 5) (pc' := 54) (by decide +kernel) rfl (by decide) rfl) ?_
    refine XE.gd_ (fun g11 => ?_)
    refine XE.go (st_get (pc' := 57) (by decide +kernel) rfl cls_1 fld_RX10_424 rfl rfl g11) ?_
    refine XE.gd_ (fun g12 => ?_)
    refine XE.go (st_get (pc' := 60) (by decide +kernel) rfl cls_4 fld_RX10_323 rfl rfl g12) ?_
    exact XE.rt rfl (X_iret (by decide +kernel) rfl)
  refine XE.ite (fun h13 => ?_) (fun h14 => ?_)
  · refine XE.go (st_lk (dflt := 40) (ps := #[(0, 25), (1, 34)]) (len := 25) (off := 34) (pc' := 61) (by decide +kernel) (by decide) (by rw [h13]; decide) (by decide)) ?_
    refine XE.go (st_aload (j := 5) (pc' := 63) (by decide +kernel) rfl (by decide) rfl) ?_
    refine XE.gd_ (fun g15 => ?_)
    refine XE.go (st_get (pc' := 66) (by decide +kernel) rfl cls_1 fld_RX10_535 rfl rfl g15) ?_
    exact XE.rt rfl (X_iret (by decide +kernel) rfl)
  refine XE.go (st_lk (dflt := 40) (ps := #[(0, 25), (1, 34)]) (len := 25) (off := 40) (pc' := 67) (by decide +kernel) (by decide) (by simp [Op.lookupswitch.offset, eq_comm, h10, h14]) (by decide)) ?_
  refine XE.go (st_aload (j := 5) (pc' := 69) (by decide +kernel) rfl (by decide) rfl) ?_
  refine XE.gd_ (fun g16 => ?_)
  refine XE.go (st_get (pc' := 72) (by decide +kernel) rfl cls_1 fld_RX10_538 rfl rfl g16) ?_
  refine XE.ite (fun h17 => ?_) (fun h18 => ?_)
  · refine XE.go (st_if_eq_t (off := 7) (pc' := 79) (by decide +kernel) (by decide) h17) ?_
    refine XE.go (st_iconst (n := 0) (pc' := 80) (by decide +kernel) (w_eq (by decide) (by decide)) rfl) ?_
    exact XE.rt rfl (X_iret (by decide +kernel) rfl)
  · refine XE.go (st_if_eq_f (off := 7) (pc' := 75) (by decide +kernel) 79 (by decide) rfl h18) ?_
    refine XE.go (st_iconst (n := 1) (pc' := 76) (by decide +kernel) (w_eq (by decide) (by decide)) rfl) ?_
    refine XE.go (st_goto (off := 4) (pc' := 80) (by decide +kernel) (by decide)) ?_
    exact XE.rt rfl (X_iret (by decide +kernel) rfl)
theorem ct_X10_hand {D : Dt} {M : Mm} {a0 a1 a2 a3 a4 : Int} (h0 : a0 ≠ 0) (r : (Int × Int × Mm)) (hr : p_X10_hand M a0 a1 a2 a3 a4 = some r) : CT D 0 mu_X10_hand [(14, a0), (0, a1), (0, a2), (0, a3), (0, a4)] M (ET 0 r).1 (ET 0 r).2 := CT.of (by decide +kernel) rfl (Nat.le_of_ble_eq_true rfl) (xe_X10_hand h0 r hr)
def p_X10_waits (M : Mm) (a0 a1 a2 a3 : Int) : Option (Int × Int × Mm) := (p_X10_groupOf M a0 a1).bind (thT psT fun v1 M2 => gd (v1 ≠ 0) ((p_X10_letterAt M2 (rd M2 v1 3) a2).bind (thT psT fun v4 M5 => (p_X10_requireWithin M5 a3 0 2).bind (thU psT fun M6 => if a3 = 0 then gd (v4 ≠ 0) (gd ((rd M6 v4 0) ≠ 0) (some (0, (rd M6 (rd M6 v4 0) 0), M6))) else if a3 = 1 then gd (v4 ≠ 0) (some (0, (rd M6 v4 2), M6)) else gd (v4 ≠ 0) (some (0, (rd M6 v4 3), M6))))))
set_option maxRecDepth 100000 in
set_option maxHeartbeats 4000000 in
theorem xe_X10_waits {D : Dt} {M : Mm} {a0 a1 a2 a3 : Int} (h0 : a0 ≠ 0) : XE D 0 mu_X10_waits (ET 0) 0 [(0, (14, a0)), (1, (0, a1)), (2, (0, a2)), (3, (0, a3))] [] M (p_X10_waits M a0 a1 a2 a3) := by
  unfold p_X10_waits
  refine XE.go (st_aload_n (j := 0) (i := 0) (pc' := 1) (by decide +kernel) rfl rfl (by decide) rfl) ?_
  refine XE.go (st_iload_n (j := 1) (i := 1) (pc' := 2) (by decide +kernel) rfl rfl rfl) ?_
  refine XE.cTg (pc' := 5) (st := []) hfT (fun r hr => ct_X10_groupOf h0 r hr) (fun r hr => run_V (st := []) (by decide +kernel) co_X10_waits_334 (ct_X10_groupOf h0 r hr) rfl h0 rfl rfl (Nat.le_of_ble_eq_true rfl)) rfl rfl rfl (fun v1 M2 => ?_)
  refine XE.gd_ (fun g3 => ?_)
  refine XE.go (st_get (pc' := 8) (by decide +kernel) rfl cls_0 fld_RX10_518 rfl rfl g3) ?_
  refine XE.go (st_iload_n (j := 2) (i := 2) (pc' := 9) (by decide +kernel) rfl rfl rfl) ?_
  refine XE.cTg (pc' := 12) (st := []) hfT (fun r hr => ct_X10_letterAt r hr) (fun r hr => run_S (st := []) (by decide +kernel) co_X10_waits_531 (ct_X10_letterAt r hr) rfl rfl (Nat.le_of_ble_eq_true rfl)) rfl rfl rfl (fun v4 M5 => ?_)
  refine XE.go (st_astore (j := 4) (pc' := 14) (by decide +kernel)  (by decide) rfl (by decide) rfl rfl) ?_
  refine XE.go (st_iload_n (j := 3) (i := 3) (pc' := 15) (by decide +kernel) rfl rfl rfl) ?_
  refine XE.go (st_iconst (n := 0) (pc' := 16) (by decide +kernel) (w_eq (by decide) (by decide)) rfl) ?_
  refine XE.go (st_iconst (n := 2) (pc' := 17) (by decide +kernel) (w_eq (by decide) (by decide)) rfl) ?_
  refine XE.cUg (pc' := 20) (st := []) hfT (fun r hr => ct_X10_requireWithin r hr) (fun r hr => run_S (st := []) (by decide +kernel) co_X10_waits_73 (ct_X10_requireWithin r hr) rfl rfl (Nat.le_of_ble_eq_true rfl)) rfl rfl rfl (fun M6 => ?_)
  refine XE.go (st_iload_n (j := 3) (i := 3) (pc' := 21) (by decide +kernel) rfl rfl rfl) ?_
  refine XE.ite (fun h7 => ?_) (fun h8 => ?_)
  · refine XE.go (st_lk (dflt := 42) (ps := #[(0, 27), (1, 36)]) (len := 27) (off := 27) (pc' := 48) (by decide +kernel) (by decide) (by rw [h7]; decide) (by decide)) ?_
    refine XE.go (st_aload (j := 4) (pc' := 50) (by decide +kernel) rfl (by decide) rfl) ?_
    refine XE.gd_ (fun g9 => ?_)
    refine XE.go (st_get (pc' := 53) (by decide +kernel) rfl cls_1 fld_RX10_424 rfl rfl g9) ?_
    refine XE.gd_ (fun g10 => ?_)
    refine XE.go (st_get (pc' := 56) (by decide +kernel) rfl cls_4 fld_RX10_323 rfl rfl g10) ?_
    exact XE.rt rfl (X_iret (by decide +kernel) rfl)
  refine XE.ite (fun h11 => ?_) (fun h12 => ?_)
  · refine XE.go (st_lk (dflt := 42) (ps := #[(0, 27), (1, 36)]) (len := 27) (off := 36) (pc' := 57) (by decide +kernel) (by decide) (by rw [h11]; decide) (by decide)) ?_
    refine XE.go (st_aload (j := 4) (pc' := 59) (by decide +kernel) rfl (by decide) rfl) ?_
    refine XE.gd_ (fun g13 => ?_)
    refine XE.go (st_get (pc' := 62) (by decide +kernel) rfl cls_1 fld_RX10_541 rfl rfl g13) ?_
    exact XE.rt rfl (X_iret (by decide +kernel) rfl)
  refine XE.go (st_lk (dflt := 42) (ps := #[(0, 27), (1, 36)]) (len := 27) (off := 42) (pc' := 63) (by decide +kernel) (by decide) (by simp [Op.lookupswitch.offset, eq_comm, h8, h12]) (by decide)) ?_
  refine XE.go (st_aload (j := 4) (pc' := 65) (by decide +kernel) rfl (by decide) rfl) ?_
  refine XE.gd_ (fun g14 => ?_)
  refine XE.go (st_get (pc' := 68) (by decide +kernel) rfl cls_1 fld_RX10_535 rfl rfl g14) ?_
  exact XE.rt rfl (X_iret (by decide +kernel) rfl)
theorem ct_X10_waits {D : Dt} {M : Mm} {a0 a1 a2 a3 : Int} (h0 : a0 ≠ 0) (r : (Int × Int × Mm)) (hr : p_X10_waits M a0 a1 a2 a3 = some r) : CT D 0 mu_X10_waits [(14, a0), (0, a1), (0, a2), (0, a3)] M (ET 0 r).1 (ET 0 r).2 := CT.of (by decide +kernel) rfl (Nat.le_of_ble_eq_true rfl) (xe_X10_waits h0 r hr)
def p_X10_dead (M : Mm) (a0 a1 a2 : Int) : Option (Int × Int × Mm) := (p_X10_groupOf M a0 a1).bind (thT psT fun v1 M2 => gd (v1 ≠ 0) ((p_X10_letterAt M2 (rd M2 v1 4) a2).bind (thT psT fun v4 M5 => gd (v4 ≠ 0) (gd ((rd M5 v4 0) ≠ 0) (some (0, (rd M5 (rd M5 v4 0) 0), M5))))))
set_option maxRecDepth 100000 in
set_option maxHeartbeats 4000000 in
theorem xe_X10_dead {D : Dt} {M : Mm} {a0 a1 a2 : Int} (h0 : a0 ≠ 0) : XE D 0 mu_X10_dead (ET 0) 0 [(0, (14, a0)), (1, (0, a1)), (2, (0, a2))] [] M (p_X10_dead M a0 a1 a2) := by
  unfold p_X10_dead
  refine XE.go (st_aload_n (j := 0) (i := 0) (pc' := 1) (by decide +kernel) rfl rfl (by decide) rfl) ?_
  refine XE.go (st_iload_n (j := 1) (i := 1) (pc' := 2) (by decide +kernel) rfl rfl rfl) ?_
  refine XE.cTg (pc' := 5) (st := []) hfT (fun r hr => ct_X10_groupOf h0 r hr) (fun r hr => run_V (st := []) (by decide +kernel) co_X10_dead_334 (ct_X10_groupOf h0 r hr) rfl h0 rfl rfl (Nat.le_of_ble_eq_true rfl)) rfl rfl rfl (fun v1 M2 => ?_)
  refine XE.gd_ (fun g3 => ?_)
  refine XE.go (st_get (pc' := 8) (by decide +kernel) rfl cls_0 fld_RX10_525 rfl rfl g3) ?_
  refine XE.go (st_iload_n (j := 2) (i := 2) (pc' := 9) (by decide +kernel) rfl rfl rfl) ?_
  refine XE.cTg (pc' := 12) (st := []) hfT (fun r hr => ct_X10_letterAt r hr) (fun r hr => run_S (st := []) (by decide +kernel) co_X10_dead_531 (ct_X10_letterAt r hr) rfl rfl (Nat.le_of_ble_eq_true rfl)) rfl rfl rfl (fun v4 M5 => ?_)
  refine XE.gd_ (fun g6 => ?_)
  refine XE.go (st_get (pc' := 15) (by decide +kernel) rfl cls_1 fld_RX10_424 rfl rfl g6) ?_
  refine XE.gd_ (fun g7 => ?_)
  refine XE.go (st_get (pc' := 18) (by decide +kernel) rfl cls_4 fld_RX10_323 rfl rfl g7) ?_
  exact XE.rt rfl (X_iret (by decide +kernel) rfl)
theorem ct_X10_dead {D : Dt} {M : Mm} {a0 a1 a2 : Int} (h0 : a0 ≠ 0) (r : (Int × Int × Mm)) (hr : p_X10_dead M a0 a1 a2 = some r) : CT D 0 mu_X10_dead [(14, a0), (0, a1), (0, a2)] M (ET 0 r).1 (ET 0 r).2 := CT.of (by decide +kernel) rfl (Nat.le_of_ble_eq_true rfl) (xe_X10_dead h0 r hr)
def p_X10_seen (M : Mm) (a0 a1 a2 : Int) : Option (Int × Int × Mm) := (p_X10_groupOf M a0 a1).bind (thT psT fun v1 M2 => (p_X10_messageOf M2 a0 a2).bind (thT psT fun v3 M4 => gd (v1 ≠ 0) ((p_X0_knownLetter M4 v1 v3).bind fun r6 => if r6 = 0 then some (0, 0, M4) else some (0, (rd M4 r6 5), M4))))
set_option maxRecDepth 100000 in
set_option maxHeartbeats 4000000 in
theorem xe_X10_seen {D : Dt} {M : Mm} {a0 a1 a2 : Int} (h0 : a0 ≠ 0) : XE D 0 mu_X10_seen (ET 0) 0 [(0, (14, a0)), (1, (0, a1)), (2, (0, a2))] [] M (p_X10_seen M a0 a1 a2) := by
  unfold p_X10_seen
  refine XE.go (st_aload_n (j := 0) (i := 0) (pc' := 1) (by decide +kernel) rfl rfl (by decide) rfl) ?_
  refine XE.go (st_iload_n (j := 1) (i := 1) (pc' := 2) (by decide +kernel) rfl rfl rfl) ?_
  refine XE.cTg (pc' := 5) (st := []) hfT (fun r hr => ct_X10_groupOf h0 r hr) (fun r hr => run_V (st := []) (by decide +kernel) co_X10_seen_334 (ct_X10_groupOf h0 r hr) rfl h0 rfl rfl (Nat.le_of_ble_eq_true rfl)) rfl rfl rfl (fun v1 M2 => ?_)
  refine XE.go (st_astore_n (j := 3) (i := 3) (pc' := 6) (by decide +kernel) rfl (by decide) rfl (by decide) rfl rfl) ?_
  refine XE.go (st_aload_n (j := 3) (i := 3) (pc' := 7) (by decide +kernel) rfl rfl (by decide) rfl) ?_
  refine XE.go (st_aload_n (j := 0) (i := 0) (pc' := 8) (by decide +kernel) rfl rfl (by decide) rfl) ?_
  refine XE.go (st_iload_n (j := 2) (i := 2) (pc' := 9) (by decide +kernel) rfl rfl rfl) ?_
  refine XE.cTg (pc' := 12) (st := [(4, v1)]) hfT (fun r hr => ct_X10_messageOf h0 r hr) (fun r hr => run_V (st := [(4, v1)]) (by decide +kernel) co_X10_seen_469 (ct_X10_messageOf h0 r hr) rfl h0 rfl rfl (Nat.le_of_ble_eq_true rfl)) rfl rfl rfl (fun v3 M4 => ?_)
  refine XE.gd_ (fun g5 => ?_)
  refine XE.cP (pc' := 15) (st := []) (fun r hr => ct_X0_knownLetter g5 r hr) (fun r hr => run_V (st := []) (by decide +kernel) co_X10_seen_542 (ct_X0_knownLetter g5 r hr) rfl g5 rfl rfl (Nat.le_of_ble_eq_true rfl)) rfl rfl (fun r6 => ?_)
  refine XE.go (st_astore (j := 4) (pc' := 17) (by decide +kernel)  (by decide) rfl (by decide) rfl rfl) ?_
  refine XE.go (st_aload (j := 4) (pc' := 19) (by decide +kernel) rfl (by decide) rfl) ?_
  refine XE.ite (fun h7 => ?_) (fun h8 => ?_)
  · refine XE.go (st_ifnonnull_f (off := 7) (pc' := 22) (by decide +kernel) (by decide) h7 rfl) ?_
    refine XE.go (st_iconst (n := 0) (pc' := 23) (by decide +kernel) (w_eq (by decide) (by decide)) rfl) ?_
    refine XE.go (st_goto (off := 8) (pc' := 31) (by decide +kernel) (by decide)) ?_
    exact XE.rt rfl (X_iret (by decide +kernel) rfl)
  · refine XE.go (st_ifnonnull_t (off := 7) (pc' := 26) (by decide +kernel) (by decide) h8 (by decide)) ?_
    refine XE.go (st_aload (j := 4) (pc' := 28) (by decide +kernel) rfl (by decide) rfl) ?_
    refine XE.go (st_get (pc' := 31) (by decide +kernel) rfl cls_1 fld_RX10_546 rfl rfl h8) ?_
    exact XE.rt rfl (X_iret (by decide +kernel) rfl)
theorem ct_X10_seen {D : Dt} {M : Mm} {a0 a1 a2 : Int} (h0 : a0 ≠ 0) (r : (Int × Int × Mm)) (hr : p_X10_seen M a0 a1 a2 = some r) : CT D 0 mu_X10_seen [(14, a0), (0, a1), (0, a2)] M (ET 0 r).1 (ET 0 r).2 := CT.of (by decide +kernel) rfl (Nat.le_of_ble_eq_true rfl) (xe_X10_seen h0 r hr)
def b_X10_openTransactions_13 (v4 : Int) (v1 : Int) (M : Mm) (s6 : Int × Int) : Option ((Int × Int) ⊕ (Int)) := if s6.2 < v4 then gd (aok v1 s6.2) ((some ((rd M v1 s6.2))).bind fun v15 => if v15 = 0 then some (.inl (s6.1, (w (s6.2 + 1)))) else if (rd M v15 3) = (-1) then some (.inl (s6.1, (w (s6.2 + 1)))) else some (.inl ((w (s6.1 + 1)), (w (s6.2 + 1))))) else some (.inr s6.1)
def p_X10_openTransactions (M : Mm) (a0 : Int) : Option Int := (some ((rd M a0 2))).bind fun v1 => gd (v1 ≠ 0) ((some ((ln v1))).bind fun v4 => (lp (b_X10_openTransactions_13 v4 v1 M) 1000 (0, 0)).bind fun (t7 : Int) => some (t7))
set_option maxRecDepth 100000 in
set_option maxHeartbeats 4000000 in
theorem xe_X10_openTransactions {D : Dt} {M : Mm} {a0 : Int} (h0 : a0 ≠ 0) : XE D 0 mu_X10_openTransactions (EP 0 M) 0 [(0, (14, a0))] [] M (p_X10_openTransactions M a0) := by
  unfold p_X10_openTransactions
  refine XE.go (st_iconst (n := 0) (pc' := 1) (by decide +kernel) (w_eq (by decide) (by decide)) rfl) ?_
  refine XE.go (st_istore_n (j := 1) (i := 1) (pc' := 2) (by decide +kernel) rfl rfl (by decide) rfl rfl) ?_
  refine XE.go (st_aload_n (j := 0) (i := 0) (pc' := 3) (by decide +kernel) rfl rfl (by decide) rfl) ?_
  refine XE.go (st_get (pc' := 6) (by decide +kernel) rfl cls_10 fld_RX10_23 rfl rfl h0) ?_
  refine XE.gen (fun v1 e2 => ?_)
  refine XE.go (st_astore_n (j := 2) (i := 2) (pc' := 7) (by decide +kernel) rfl (by decide) rfl (by decide) rfl rfl) ?_
  refine XE.go (st_aload_n (j := 2) (i := 2) (pc' := 8) (by decide +kernel) rfl rfl (by decide) rfl) ?_
  refine XE.gd_ (fun g3 => ?_)
  refine XE.go (st_alen (k := 22) (pc' := 9) (by decide +kernel) rfl ak_22 rfl (by decide) g3) ?_
  refine XE.gen (fun v4 e5 => ?_)
  refine XE.go (st_istore_n (j := 3) (i := 3) (pc' := 10) (by decide +kernel) rfl rfl (by decide) rfl rfl) ?_
  refine XE.go (st_iconst (n := 0) (pc' := 11) (by decide +kernel) (w_eq (by decide) (by decide)) rfl) ?_
  refine XE.go (st_istore (j := 4) (pc' := 13) (by decide +kernel)  rfl (by decide) rfl rfl) ?_
  refine XE.pick [3, 2, 1, 0] (L' := [(1, (0, 0)), (2, (25, v1)), (3, (0, v4)), (4, (0, 0))]) rfl ?_
  refine XE.loopJ (n := 1000) (s0 := (0, 0)) (pcL := 13) (pcE := 48) (LL := fun (s6 : Int × Int) => [(1, (0, s6.1)), (2, (25, v1)), (3, (0, v4)), (4, (0, s6.2))]) (sL := fun _ => []) (ML := fun (s6 : Int × Int) => M) (LE := fun (t7 : Int) => [(1, (0, t7))]) (sE := fun _ => []) (ME := fun (t7 : Int) => M) (fun kk11 hc8 he9 s6 => ?_) (fun t7 => ?_)
  · unfold b_X10_openTransactions_13
    refine XE.go (st_iload (j := 4) (pc' := 15) (by decide +kernel) rfl rfl) ?_
    refine XE.go (st_iload_n (j := 3) (i := 3) (pc' := 16) (by decide +kernel) rfl rfl rfl) ?_
    refine XE.bite (fun h12 => ?_) (fun h13 => ?_)
    · refine XE.go (st_icmp_ge_f (off := 32) (pc' := 19) (by decide +kernel) 48 (by decide) rfl (Int.not_le.mpr h12)) ?_
      refine XE.go (st_aload_n (j := 2) (i := 2) (pc' := 20) (by decide +kernel) rfl rfl (by decide) rfl) ?_
      refine XE.go (st_iload (j := 4) (pc' := 22) (by decide +kernel) rfl rfl) ?_
      refine XE.gdb (fun g14 => ?_)
      refine XE.go (st_ald (k := 22) (tp := 10) (pc' := 23) (by decide +kernel) rfl ak_22 rfl (by decide) rfl (Or.inr (Or.inr (Or.inr ⟨rfl, rfl⟩))) g14.1 g14.2.1 g14.2.2) ?_
      refine XE.asc ?_
      refine XE.gen (fun v15 e16 => ?_)
      refine XE.go (st_astore (j := 5) (pc' := 25) (by decide +kernel)  (by decide) rfl (by decide) rfl rfl) ?_
      refine XE.go (st_aload (j := 5) (pc' := 27) (by decide +kernel) rfl (by decide) rfl) ?_
      refine XE.bite (fun h17 => ?_) (fun h18 => ?_)
      · refine XE.go (st_ifnull_t (off := 15) (pc' := 42) (by decide +kernel) (by decide) h17 (by decide)) ?_
        refine XE.go (st_iinc (j := 4) (n := 1) (pc' := 45) (by decide +kernel) rfl rfl (by decide) rfl rfl) ?_
        refine XE.go (st_goto (off := (-32)) (pc' := 13) (by decide +kernel) (by decide)) ?_
        exact XE.pick [2, 3, 4, 0] rfl (hc8 (s6.1, (w (s6.2 + 1))))
      · refine XE.go (st_ifnull_f (off := 15) (pc' := 30) (by decide +kernel) (by decide) h18 rfl) ?_
        refine XE.go (st_aload (j := 5) (pc' := 32) (by decide +kernel) rfl (by decide) rfl) ?_
        refine XE.go (st_get (pc' := 35) (by decide +kernel) rfl cls_6 fld_RX10_315 rfl rfl h18) ?_
        refine XE.go (st_iconst (n := (-1)) (pc' := 36) (by decide +kernel) (w_eq (by decide) (by decide)) rfl) ?_
        refine XE.bite (fun h19 => ?_) (fun h20 => ?_)
        · refine XE.go (st_icmp_eq_t (off := 6) (pc' := 42) (by decide +kernel) (by decide) h19) ?_
          refine XE.go (st_iinc (j := 4) (n := 1) (pc' := 45) (by decide +kernel) rfl rfl (by decide) rfl rfl) ?_
          refine XE.go (st_goto (off := (-32)) (pc' := 13) (by decide +kernel) (by decide)) ?_
          exact XE.pick [2, 3, 4, 0] rfl (hc8 (s6.1, (w (s6.2 + 1))))
        · refine XE.go (st_icmp_eq_f (off := 6) (pc' := 39) (by decide +kernel) 42 (by decide) rfl h20) ?_
          refine XE.go (st_iinc (j := 1) (n := 1) (pc' := 42) (by decide +kernel) rfl rfl (by decide) rfl rfl) ?_
          refine XE.go (st_iinc (j := 4) (n := 1) (pc' := 45) (by decide +kernel) rfl rfl (by decide) rfl rfl) ?_
          refine XE.go (st_goto (off := (-32)) (pc' := 13) (by decide +kernel) (by decide)) ?_
          exact XE.pick [1, 3, 4, 0] rfl (hc8 ((w (s6.1 + 1)), (w (s6.2 + 1))))
    · refine XE.go (st_icmp_ge_t (off := 32) (pc' := 48) (by decide +kernel) (by decide) (Int.not_lt.mp h13)) ?_
      exact XE.pick [0] rfl (he9 s6.1)
  · refine XE.go (st_iload_n (j := 1) (i := 1) (pc' := 49) (by decide +kernel) rfl rfl rfl) ?_
    exact XE.rt rfl (X_iret (by decide +kernel) rfl)
theorem ct_X10_openTransactions {D : Dt} {M : Mm} {a0 : Int} (h0 : a0 ≠ 0) (r : Int) (hr : p_X10_openTransactions M a0 = some r) : CT D 0 mu_X10_openTransactions [(14, a0)] M (.inl (some (0, r))) M := CT.of (by decide +kernel) rfl (Nat.le_of_ble_eq_true rfl) (xe_X10_openTransactions h0 r hr)
def b_X10_messagesIn_14 (v4 : Int) (v1 : Int) (M : Mm) (a1 : Int) (s6 : Int × Int) : Option ((Int × Int) ⊕ (Int)) := if s6.2 < v4 then gd (aok v1 s6.2) ((some ((rd M v1 s6.2))).bind fun v15 => if v15 = 0 then some (.inl (s6.1, (w (s6.2 + 1)))) else if (rd M v15 7) = a1 then some (.inl ((w (s6.1 + 1)), (w (s6.2 + 1)))) else some (.inl (s6.1, (w (s6.2 + 1))))) else some (.inr s6.1)
def p_X10_messagesIn (M : Mm) (a0 a1 : Int) : Option Int := (some ((rd M a0 4))).bind fun v1 => gd (v1 ≠ 0) ((some ((ln v1))).bind fun v4 => (lp (b_X10_messagesIn_14 v4 v1 M a1) 1000 (0, 0)).bind fun (t7 : Int) => some (t7))
set_option maxRecDepth 100000 in
set_option maxHeartbeats 4000000 in
theorem xe_X10_messagesIn {D : Dt} {M : Mm} {a0 a1 : Int} (h0 : a0 ≠ 0) : XE D 0 mu_X10_messagesIn (EP 0 M) 0 [(0, (14, a0)), (1, (0, a1))] [] M (p_X10_messagesIn M a0 a1) := by
  unfold p_X10_messagesIn
  refine XE.go (st_iconst (n := 0) (pc' := 1) (by decide +kernel) (w_eq (by decide) (by decide)) rfl) ?_
  refine XE.go (st_istore_n (j := 2) (i := 2) (pc' := 2) (by decide +kernel) rfl rfl (by decide) rfl rfl) ?_
  refine XE.go (st_aload_n (j := 0) (i := 0) (pc' := 3) (by decide +kernel) rfl rfl (by decide) rfl) ?_
  refine XE.go (st_get (pc' := 6) (by decide +kernel) rfl cls_10 fld_RX10_35 rfl rfl h0) ?_
  refine XE.gen (fun v1 e2 => ?_)
  refine XE.go (st_astore_n (j := 3) (i := 3) (pc' := 7) (by decide +kernel) rfl (by decide) rfl (by decide) rfl rfl) ?_
  refine XE.go (st_aload_n (j := 3) (i := 3) (pc' := 8) (by decide +kernel) rfl rfl (by decide) rfl) ?_
  refine XE.gd_ (fun g3 => ?_)
  refine XE.go (st_alen (k := 20) (pc' := 9) (by decide +kernel) rfl ak_20 rfl (by decide) g3) ?_
  refine XE.gen (fun v4 e5 => ?_)
  refine XE.go (st_istore (j := 4) (pc' := 11) (by decide +kernel)  rfl (by decide) rfl rfl) ?_
  refine XE.go (st_iconst (n := 0) (pc' := 12) (by decide +kernel) (w_eq (by decide) (by decide)) rfl) ?_
  refine XE.go (st_istore (j := 5) (pc' := 14) (by decide +kernel)  rfl (by decide) rfl rfl) ?_
  refine XE.pick [5, 3, 2, 1, 0] (L' := [(1, (0, a1)), (2, (0, 0)), (3, (23, v1)), (4, (0, v4)), (5, (0, 0))]) rfl ?_
  refine XE.loopJ (n := 1000) (s0 := (0, 0)) (pcL := 14) (pcE := 50) (LL := fun (s6 : Int × Int) => [(1, (0, a1)), (2, (0, s6.1)), (3, (23, v1)), (4, (0, v4)), (5, (0, s6.2))]) (sL := fun _ => []) (ML := fun (s6 : Int × Int) => M) (LE := fun (t7 : Int) => [(2, (0, t7))]) (sE := fun _ => []) (ME := fun (t7 : Int) => M) (fun kk11 hc8 he9 s6 => ?_) (fun t7 => ?_)
  · unfold b_X10_messagesIn_14
    refine XE.go (st_iload (j := 5) (pc' := 16) (by decide +kernel) rfl rfl) ?_
    refine XE.go (st_iload (j := 4) (pc' := 18) (by decide +kernel) rfl rfl) ?_
    refine XE.bite (fun h12 => ?_) (fun h13 => ?_)
    · refine XE.go (st_icmp_ge_f (off := 32) (pc' := 21) (by decide +kernel) 50 (by decide) rfl (Int.not_le.mpr h12)) ?_
      refine XE.go (st_aload_n (j := 3) (i := 3) (pc' := 22) (by decide +kernel) rfl rfl (by decide) rfl) ?_
      refine XE.go (st_iload (j := 5) (pc' := 24) (by decide +kernel) rfl rfl) ?_
      refine XE.gdb (fun g14 => ?_)
      refine XE.go (st_ald (k := 20) (tp := 8) (pc' := 25) (by decide +kernel) rfl ak_20 rfl (by decide) rfl (Or.inr (Or.inr (Or.inr ⟨rfl, rfl⟩))) g14.1 g14.2.1 g14.2.2) ?_
      refine XE.asc ?_
      refine XE.gen (fun v15 e16 => ?_)
      refine XE.go (st_astore (j := 6) (pc' := 27) (by decide +kernel)  (by decide) rfl (by decide) rfl rfl) ?_
      refine XE.go (st_aload (j := 6) (pc' := 29) (by decide +kernel) rfl (by decide) rfl) ?_
      refine XE.bite (fun h17 => ?_) (fun h18 => ?_)
      · refine XE.go (st_ifnull_t (off := 15) (pc' := 44) (by decide +kernel) (by decide) h17 (by decide)) ?_
        refine XE.go (st_iinc (j := 5) (n := 1) (pc' := 47) (by decide +kernel) rfl rfl (by decide) rfl rfl) ?_
        refine XE.go (st_goto (off := (-33)) (pc' := 14) (by decide +kernel) (by decide)) ?_
        exact XE.pick [2, 3, 4, 5, 0] rfl (hc8 (s6.1, (w (s6.2 + 1))))
      · refine XE.go (st_ifnull_f (off := 15) (pc' := 32) (by decide +kernel) (by decide) h18 rfl) ?_
        refine XE.go (st_aload (j := 6) (pc' := 34) (by decide +kernel) rfl (by decide) rfl) ?_
        refine XE.go (st_get (pc' := 37) (by decide +kernel) rfl cls_4 fld_RX10_138 rfl rfl h18) ?_
        refine XE.go (st_iload_n (j := 1) (i := 1) (pc' := 38) (by decide +kernel) rfl rfl rfl) ?_
        refine XE.bite (fun h19 => ?_) (fun h20 => ?_)
        · refine XE.go (st_icmp_ne_f (off := 6) (pc' := 41) (by decide +kernel) 44 (by decide) rfl (not_not_intro h19)) ?_
          refine XE.go (st_iinc (j := 2) (n := 1) (pc' := 44) (by decide +kernel) rfl rfl (by decide) rfl rfl) ?_
          refine XE.go (st_iinc (j := 5) (n := 1) (pc' := 47) (by decide +kernel) rfl rfl (by decide) rfl rfl) ?_
          refine XE.go (st_goto (off := (-33)) (pc' := 14) (by decide +kernel) (by decide)) ?_
          exact XE.pick [3, 1, 4, 5, 0] rfl (hc8 ((w (s6.1 + 1)), (w (s6.2 + 1))))
        · refine XE.go (st_icmp_ne_t (off := 6) (pc' := 44) (by decide +kernel) (by decide) h20) ?_
          refine XE.go (st_iinc (j := 5) (n := 1) (pc' := 47) (by decide +kernel) rfl rfl (by decide) rfl rfl) ?_
          refine XE.go (st_goto (off := (-33)) (pc' := 14) (by decide +kernel) (by decide)) ?_
          exact XE.pick [2, 3, 4, 5, 0] rfl (hc8 (s6.1, (w (s6.2 + 1))))
    · refine XE.go (st_icmp_ge_t (off := 32) (pc' := 50) (by decide +kernel) (by decide) (Int.not_lt.mp h13)) ?_
      exact XE.pick [1] rfl (he9 s6.1)
  · refine XE.go (st_iload_n (j := 2) (i := 2) (pc' := 51) (by decide +kernel) rfl rfl rfl) ?_
    exact XE.rt rfl (X_iret (by decide +kernel) rfl)
theorem ct_X10_messagesIn {D : Dt} {M : Mm} {a0 a1 : Int} (h0 : a0 ≠ 0) (r : Int) (hr : p_X10_messagesIn M a0 a1 = some r) : CT D 0 mu_X10_messagesIn [(14, a0), (0, a1)] M (.inl (some (0, r))) M := CT.of (by decide +kernel) rfl (Nat.le_of_ble_eq_true rfl) (xe_X10_messagesIn h0 r hr)
def p_X10_count (M : Mm) (a0 a1 : Int) : Option (Int × Int × Mm) := (p_X10_requireWithin M a1 0 9).bind (thU psT fun M1 => if a1 = 0 then some (0, (rd M1 a0 6), M1) else if a1 = 1 then some (0, (rd M1 a0 7), M1) else if a1 = 2 then some (0, (rd M1 a0 8), M1) else if a1 = 3 then some (0, (rd M1 a0 9), M1) else if a1 = 4 then some (0, (rd M1 a0 10), M1) else if a1 = 5 then some (0, (rd M1 a0 15), M1) else if a1 = 6 then some (0, (rd M1 a0 13), M1) else if a1 = 7 then (p_X10_openTransactions M1 a0).bind fun r18 => some (0, r18, M1) else if a1 = 8 then (p_X10_messagesIn M1 a0 2).bind fun r21 => some (0, r21, M1) else (p_X10_messagesIn M1 a0 0).bind fun r22 => some (0, r22, M1))
set_option maxRecDepth 100000 in
set_option maxHeartbeats 4000000 in
theorem xe_X10_count {D : Dt} {M : Mm} {a0 a1 : Int} (h0 : a0 ≠ 0) : XE D 0 mu_X10_count (ET 0) 0 [(0, (14, a0)), (1, (0, a1))] [] M (p_X10_count M a0 a1) := by
  unfold p_X10_count
  refine XE.go (st_iload_n (j := 1) (i := 1) (pc' := 1) (by decide +kernel) rfl rfl rfl) ?_
  refine XE.go (st_iconst (n := 0) (pc' := 2) (by decide +kernel) (w_eq (by decide) (by decide)) rfl) ?_
  refine XE.go (st_bipush (n := 9) (pc' := 4) (by decide +kernel) (by decide) (w_eq (by decide) (by decide)) rfl) ?_
  refine XE.cUg (pc' := 7) (st := []) hfT (fun r hr => ct_X10_requireWithin r hr) (fun r hr => run_S (st := []) (by decide +kernel) co_X10_count_73 (ct_X10_requireWithin r hr) rfl rfl (Nat.le_of_ble_eq_true rfl)) rfl rfl rfl (fun M1 => ?_)
  refine XE.go (st_iload_n (j := 1) (i := 1) (pc' := 8) (by decide +kernel) rfl rfl rfl) ?_
  refine XE.ite (fun h2 => ?_) (fun h3 => ?_)
  · refine XE.go (st_tab_in (dflt := 98) (lo := 0) (hi := 8) (offs := #[52, 57, 62, 67, 72, 77, 82, 87, 92]) (len := 52) (off := 52) (pc' := 60) (by decide +kernel) 0 h2 (by decide) (by decide) (by decide) (by decide)) ?_
    refine XE.go (st_aload_n (j := 0) (i := 0) (pc' := 61) (by decide +kernel) rfl rfl (by decide) rfl) ?_
    refine XE.go (st_get (pc' := 64) (by decide +kernel) rfl cls_10 fld_RX10_42 rfl rfl h0) ?_
    exact XE.rt rfl (X_iret (by decide +kernel) rfl)
  refine XE.ite (fun h4 => ?_) (fun h5 => ?_)
  · refine XE.go (st_tab_in (dflt := 98) (lo := 0) (hi := 8) (offs := #[52, 57, 62, 67, 72, 77, 82, 87, 92]) (len := 52) (off := 57) (pc' := 65) (by decide +kernel) 1 h4 (by decide) (by decide) (by decide) (by decide)) ?_
    refine XE.go (st_aload_n (j := 0) (i := 0) (pc' := 66) (by decide +kernel) rfl rfl (by decide) rfl) ?_
    refine XE.go (st_get (pc' := 69) (by decide +kernel) rfl cls_10 fld_RX10_46 rfl rfl h0) ?_
    exact XE.rt rfl (X_iret (by decide +kernel) rfl)
  refine XE.ite (fun h6 => ?_) (fun h7 => ?_)
  · refine XE.go (st_tab_in (dflt := 98) (lo := 0) (hi := 8) (offs := #[52, 57, 62, 67, 72, 77, 82, 87, 92]) (len := 52) (off := 62) (pc' := 70) (by decide +kernel) 2 h6 (by decide) (by decide) (by decide) (by decide)) ?_
    refine XE.go (st_aload_n (j := 0) (i := 0) (pc' := 71) (by decide +kernel) rfl rfl (by decide) rfl) ?_
    refine XE.go (st_get (pc' := 74) (by decide +kernel) rfl cls_10 fld_RX10_49 rfl rfl h0) ?_
    exact XE.rt rfl (X_iret (by decide +kernel) rfl)
  refine XE.ite (fun h8 => ?_) (fun h9 => ?_)
  · refine XE.go (st_tab_in (dflt := 98) (lo := 0) (hi := 8) (offs := #[52, 57, 62, 67, 72, 77, 82, 87, 92]) (len := 52) (off := 67) (pc' := 75) (by decide +kernel) 3 h8 (by decide) (by decide) (by decide) (by decide)) ?_
    refine XE.go (st_aload_n (j := 0) (i := 0) (pc' := 76) (by decide +kernel) rfl rfl (by decide) rfl) ?_
    refine XE.go (st_get (pc' := 79) (by decide +kernel) rfl cls_10 fld_RX10_52 rfl rfl h0) ?_
    exact XE.rt rfl (X_iret (by decide +kernel) rfl)
  refine XE.ite (fun h10 => ?_) (fun h11 => ?_)
  · refine XE.go (st_tab_in (dflt := 98) (lo := 0) (hi := 8) (offs := #[52, 57, 62, 67, 72, 77, 82, 87, 92]) (len := 52) (off := 72) (pc' := 80) (by decide +kernel) 4 h10 (by decide) (by decide) (by decide) (by decide)) ?_
    refine XE.go (st_aload_n (j := 0) (i := 0) (pc' := 81) (by decide +kernel) rfl rfl (by decide) rfl) ?_
    refine XE.go (st_get (pc' := 84) (by decide +kernel) rfl cls_10 fld_RX10_55 rfl rfl h0) ?_
    exact XE.rt rfl (X_iret (by decide +kernel) rfl)
  refine XE.ite (fun h12 => ?_) (fun h13 => ?_)
  · refine XE.go (st_tab_in (dflt := 98) (lo := 0) (hi := 8) (offs := #[52, 57, 62, 67, 72, 77, 82, 87, 92]) (len := 52) (off := 77) (pc' := 85) (by decide +kernel) 5 h12 (by decide) (by decide) (by decide) (by decide)) ?_
    refine XE.go (st_aload_n (j := 0) (i := 0) (pc' := 86) (by decide +kernel) rfl rfl (by decide) rfl) ?_
    refine XE.go (st_get (pc' := 89) (by decide +kernel) rfl cls_10 fld_RX10_70 rfl rfl h0) ?_
    exact XE.rt rfl (X_iret (by decide +kernel) rfl)
  refine XE.ite (fun h14 => ?_) (fun h15 => ?_)
  · refine XE.go (st_tab_in (dflt := 98) (lo := 0) (hi := 8) (offs := #[52, 57, 62, 67, 72, 77, 82, 87, 92]) (len := 52) (off := 82) (pc' := 90) (by decide +kernel) 6 h14 (by decide) (by decide) (by decide) (by decide)) ?_
    refine XE.go (st_aload_n (j := 0) (i := 0) (pc' := 91) (by decide +kernel) rfl rfl (by decide) rfl) ?_
    refine XE.go (st_get (pc' := 94) (by decide +kernel) rfl cls_10 fld_RX10_64 rfl rfl h0) ?_
    exact XE.rt rfl (X_iret (by decide +kernel) rfl)
  refine XE.ite (fun h16 => ?_) (fun h17 => ?_)
  · refine XE.go (st_tab_in (dflt := 98) (lo := 0) (hi := 8) (offs := #[52, 57, 62, 67, 72, 77, 82, 87, 92]) (len := 52) (off := 87) (pc' := 95) (by decide +kernel) 7 h16 (by decide) (by decide) (by decide) (by decide)) ?_
    refine XE.go (st_aload_n (j := 0) (i := 0) (pc' := 96) (by decide +kernel) rfl rfl (by decide) rfl) ?_
    refine XE.cP (pc' := 99) (st := []) (fun r hr => ct_X10_openTransactions h0 r hr) (fun r hr => run_V (st := []) (by decide +kernel) co_X10_count_549 (ct_X10_openTransactions h0 r hr) rfl h0 rfl rfl (Nat.le_of_ble_eq_true rfl)) rfl rfl (fun r18 => ?_)
    exact XE.rt rfl (X_iret (by decide +kernel) rfl)
  refine XE.ite (fun h19 => ?_) (fun h20 => ?_)
  · refine XE.go (st_tab_in (dflt := 98) (lo := 0) (hi := 8) (offs := #[52, 57, 62, 67, 72, 77, 82, 87, 92]) (len := 52) (off := 92) (pc' := 100) (by decide +kernel) 8 h19 (by decide) (by decide) (by decide) (by decide)) ?_
    refine XE.go (st_aload_n (j := 0) (i := 0) (pc' := 101) (by decide +kernel) rfl rfl (by decide) rfl) ?_
    refine XE.go (st_iconst (n := 2) (pc' := 102) (by decide +kernel) (w_eq (by decide) (by decide)) rfl) ?_
    refine XE.cP (pc' := 105) (st := []) (fun r hr => ct_X10_messagesIn h0 r hr) (fun r hr => run_V (st := []) (by decide +kernel) co_X10_count_552 (ct_X10_messagesIn h0 r hr) rfl h0 rfl rfl (Nat.le_of_ble_eq_true rfl)) rfl rfl (fun r21 => ?_)
    exact XE.rt rfl (X_iret (by decide +kernel) rfl)
  refine XE.go (st_tab_out (dflt := 98) (lo := 0) (hi := 8) (offs := #[52, 57, 62, 67, 72, 77, 82, 87, 92]) (len := 52) (pc' := 106) (by decide +kernel) (by omega) (by decide)) ?_
  refine XE.go (st_aload_n (j := 0) (i := 0) (pc' := 107) (by decide +kernel) rfl rfl (by decide) rfl) ?_
  refine XE.go (st_iconst (n := 0) (pc' := 108) (by decide +kernel) (w_eq (by decide) (by decide)) rfl) ?_
  refine XE.cP (pc' := 111) (st := []) (fun r hr => ct_X10_messagesIn h0 r hr) (fun r hr => run_V (st := []) (by decide +kernel) co_X10_count_552 (ct_X10_messagesIn h0 r hr) rfl h0 rfl rfl (Nat.le_of_ble_eq_true rfl)) rfl rfl (fun r22 => ?_)
  exact XE.rt rfl (X_iret (by decide +kernel) rfl)
theorem ct_X10_count {D : Dt} {M : Mm} {a0 a1 : Int} (h0 : a0 ≠ 0) (r : (Int × Int × Mm)) (hr : p_X10_count M a0 a1 = some r) : CT D 0 mu_X10_count [(14, a0), (0, a1)] M (ET 0 r).1 (ET 0 r).2 := CT.of (by decide +kernel) rfl (Nat.le_of_ble_eq_true rfl) (xe_X10_count h0 r hr)
def b_X0_memberBits_13 (v4 : Int) (v1 : Int) (M : Mm) (s6 : Int × Int) : Option ((Int × Int) ⊕ (Int)) := if s6.2 < v4 then gd (aok v1 s6.2) ((some ((rd M v1 s6.2))).bind fun v15 => if v15 = 0 then some (.inl (s6.1, (w (s6.2 + 1)))) else (some ((ior s6.1 (shl 1 (rd M v15 0))))).bind fun v19 => some (.inl (v19, (w (s6.2 + 1))))) else some (.inr s6.1)
def p_X0_memberBits (M : Mm) (a0 : Int) : Option Int := (some ((rd M a0 1))).bind fun v1 => gd (v1 ≠ 0) ((some ((ln v1))).bind fun v4 => (lp (b_X0_memberBits_13 v4 v1 M) 1000 (0, 0)).bind fun (t7 : Int) => some (t7))
set_option maxRecDepth 100000 in
set_option maxHeartbeats 4000000 in
theorem xe_X0_memberBits {D : Dt} {M : Mm} {a0 : Int} (h0 : a0 ≠ 0) : XE D 0 mu_X0_memberBits (EP 0 M) 0 [(0, (4, a0))] [] M (p_X0_memberBits M a0) := by
  unfold p_X0_memberBits
  refine XE.go (st_iconst (n := 0) (pc' := 1) (by decide +kernel) (w_eq (by decide) (by decide)) rfl) ?_
  refine XE.go (st_istore_n (j := 1) (i := 1) (pc' := 2) (by decide +kernel) rfl rfl (by decide) rfl rfl) ?_
  refine XE.go (st_aload_n (j := 0) (i := 0) (pc' := 3) (by decide +kernel) rfl rfl (by decide) rfl) ?_
  refine XE.go (st_get (pc' := 6) (by decide +kernel) rfl cls_0 fld_RX0_19 rfl rfl h0) ?_
  refine XE.gen (fun v1 e2 => ?_)
  refine XE.go (st_astore_n (j := 2) (i := 2) (pc' := 7) (by decide +kernel) rfl (by decide) rfl (by decide) rfl rfl) ?_
  refine XE.go (st_aload_n (j := 2) (i := 2) (pc' := 8) (by decide +kernel) rfl rfl (by decide) rfl) ?_
  refine XE.gd_ (fun g3 => ?_)
  refine XE.go (st_alen (k := 19) (pc' := 9) (by decide +kernel) rfl ak_19 rfl (by decide) g3) ?_
  refine XE.gen (fun v4 e5 => ?_)
  refine XE.go (st_istore_n (j := 3) (i := 3) (pc' := 10) (by decide +kernel) rfl rfl (by decide) rfl rfl) ?_
  refine XE.go (st_iconst (n := 0) (pc' := 11) (by decide +kernel) (w_eq (by decide) (by decide)) rfl) ?_
  refine XE.go (st_istore (j := 4) (pc' := 13) (by decide +kernel)  rfl (by decide) rfl rfl) ?_
  refine XE.pick [3, 2, 1, 0] (L' := [(1, (0, 0)), (2, (22, v1)), (3, (0, v4)), (4, (0, 0))]) rfl ?_
  refine XE.loopJ (n := 1000) (s0 := (0, 0)) (pcL := 13) (pcE := 46) (LL := fun (s6 : Int × Int) => [(1, (0, s6.1)), (2, (22, v1)), (3, (0, v4)), (4, (0, s6.2))]) (sL := fun _ => []) (ML := fun (s6 : Int × Int) => M) (LE := fun (t7 : Int) => [(1, (0, t7))]) (sE := fun _ => []) (ME := fun (t7 : Int) => M) (fun kk11 hc8 he9 s6 => ?_) (fun t7 => ?_)
  · unfold b_X0_memberBits_13
    refine XE.go (st_iload (j := 4) (pc' := 15) (by decide +kernel) rfl rfl) ?_
    refine XE.go (st_iload_n (j := 3) (i := 3) (pc' := 16) (by decide +kernel) rfl rfl rfl) ?_
    refine XE.bite (fun h12 => ?_) (fun h13 => ?_)
    · refine XE.go (st_icmp_ge_f (off := 30) (pc' := 19) (by decide +kernel) 46 (by decide) rfl (Int.not_le.mpr h12)) ?_
      refine XE.go (st_aload_n (j := 2) (i := 2) (pc' := 20) (by decide +kernel) rfl rfl (by decide) rfl) ?_
      refine XE.go (st_iload (j := 4) (pc' := 22) (by decide +kernel) rfl rfl) ?_
      refine XE.gdb (fun g14 => ?_)
      refine XE.go (st_ald (k := 19) (tp := 7) (pc' := 23) (by decide +kernel) rfl ak_19 rfl (by decide) rfl (Or.inr (Or.inr (Or.inr ⟨rfl, rfl⟩))) g14.1 g14.2.1 g14.2.2) ?_
      refine XE.asc ?_
      refine XE.gen (fun v15 e16 => ?_)
      refine XE.go (st_astore (j := 5) (pc' := 25) (by decide +kernel)  (by decide) rfl (by decide) rfl rfl) ?_
      refine XE.go (st_aload (j := 5) (pc' := 27) (by decide +kernel) rfl (by decide) rfl) ?_
      refine XE.bite (fun h17 => ?_) (fun h18 => ?_)
      · refine XE.go (st_ifnull_t (off := 13) (pc' := 40) (by decide +kernel) (by decide) h17 (by decide)) ?_
        refine XE.go (st_iinc (j := 4) (n := 1) (pc' := 43) (by decide +kernel) rfl rfl (by decide) rfl rfl) ?_
        refine XE.go (st_goto (off := (-30)) (pc' := 13) (by decide +kernel) (by decide)) ?_
        exact XE.pick [2, 3, 4, 0] rfl (hc8 (s6.1, (w (s6.2 + 1))))
      · refine XE.go (st_ifnull_f (off := 13) (pc' := 30) (by decide +kernel) (by decide) h18 rfl) ?_
        refine XE.go (st_iload_n (j := 1) (i := 1) (pc' := 31) (by decide +kernel) rfl rfl rfl) ?_
        refine XE.go (st_iconst (n := 1) (pc' := 32) (by decide +kernel) (w_eq (by decide) (by decide)) rfl) ?_
        refine XE.go (st_aload (j := 5) (pc' := 34) (by decide +kernel) rfl (by decide) rfl) ?_
        refine XE.go (st_get (pc' := 37) (by decide +kernel) rfl cls_3 fld_RX0_75 rfl rfl h18) ?_
        refine XE.go (st_ishl (pc' := 38) (by decide +kernel) rfl) ?_
        refine XE.go (st_ior (pc' := 39) (by decide +kernel) rfl) ?_
        refine XE.asc ?_
        refine XE.gen (fun v19 e20 => ?_)
        refine XE.go (st_istore_n (j := 1) (i := 1) (pc' := 40) (by decide +kernel) rfl rfl (by decide) rfl rfl) ?_
        refine XE.go (st_iinc (j := 4) (n := 1) (pc' := 43) (by decide +kernel) rfl rfl (by decide) rfl rfl) ?_
        refine XE.go (st_goto (off := (-30)) (pc' := 13) (by decide +kernel) (by decide)) ?_
        exact XE.pick [1, 3, 4, 0] rfl (hc8 (v19, (w (s6.2 + 1))))
    · refine XE.go (st_icmp_ge_t (off := 30) (pc' := 46) (by decide +kernel) (by decide) (Int.not_lt.mp h13)) ?_
      exact XE.pick [0] rfl (he9 s6.1)
  · refine XE.go (st_iload_n (j := 1) (i := 1) (pc' := 47) (by decide +kernel) rfl rfl rfl) ?_
    exact XE.rt rfl (X_iret (by decide +kernel) rfl)
theorem ct_X0_memberBits {D : Dt} {M : Mm} {a0 : Int} (h0 : a0 ≠ 0) (r : Int) (hr : p_X0_memberBits M a0 = some r) : CT D 0 mu_X0_memberBits [(4, a0)] M (.inl (some (0, r))) M := CT.of (by decide +kernel) rfl (Nat.le_of_ble_eq_true rfl) (xe_X0_memberBits h0 r hr)
def b_X0_isAtRest_10 (v4 : Int) (v1 : Int) (M : Mm) (s6 : Int) : Option ((Int) ⊕ ((Int) ⊕ (Unit))) := if s6 < v4 then gd (aok v1 s6) ((some ((rd M v1 s6))).bind fun v28 => if v28 = 0 then some (.inl (w (s6 + 1))) else if (rd M v28 1) = (rd M v28 2) then some (.inl (w (s6 + 1))) else some (.inr (.inl (0)))) else some (.inr (.inr ()))
def p_X0_isAtRest (M : Mm) (a0 : Int) : Option Int := (some ((rd M a0 0))).bind fun v1 => gd (v1 ≠ 0) ((some ((ln v1))).bind fun v4 => (lp (b_X0_isAtRest_10 v4 v1 M) 1000 0).bind (Sum.elim some fun (t7 : Unit) => (p_X0_memberCount M a0).bind fun r34 => if 0 < r34 then some (1) else some (0)))
set_option maxRecDepth 100000 in
set_option maxHeartbeats 4000000 in
theorem xe_X0_isAtRest {D : Dt} {M : Mm} {a0 : Int} (h0 : a0 ≠ 0) : XE D 0 mu_X0_isAtRest (EP 0 M) 0 [(0, (4, a0))] [] M (p_X0_isAtRest M a0) := by
  unfold p_X0_isAtRest
  refine XE.go (st_aload_n (j := 0) (i := 0) (pc' := 1) (by decide +kernel) rfl rfl (by decide) rfl) ?_
  refine XE.go (st_get (pc' := 4) (by decide +kernel) rfl cls_0 fld_RX0_11 rfl rfl h0) ?_
  refine XE.gen (fun v1 e2 => ?_)
  refine XE.go (st_astore_n (j := 1) (i := 1) (pc' := 5) (by decide +kernel) rfl (by decide) rfl (by decide) rfl rfl) ?_
  refine XE.go (st_aload_n (j := 1) (i := 1) (pc' := 6) (by decide +kernel) rfl rfl (by decide) rfl) ?_
  refine XE.gd_ (fun g3 => ?_)
  refine XE.go (st_alen (k := 24) (pc' := 7) (by decide +kernel) rfl ak_24 rfl (by decide) g3) ?_
  refine XE.gen (fun v4 e5 => ?_)
  refine XE.go (st_istore_n (j := 2) (i := 2) (pc' := 8) (by decide +kernel) rfl rfl (by decide) rfl rfl) ?_
  refine XE.go (st_iconst (n := 0) (pc' := 9) (by decide +kernel) (w_eq (by decide) (by decide)) rfl) ?_
  refine XE.go (st_istore_n (j := 3) (i := 3) (pc' := 10) (by decide +kernel) rfl rfl (by decide) rfl rfl) ?_
  refine XE.pick [3, 2, 1, 0] (L' := [(0, (4, a0)), (1, (27, v1)), (2, (0, v4)), (3, (0, 0))]) rfl ?_
  refine XE.loopX (n := 1000) (s0 := 0) (pcL := 10) (pcE := 46) (LL := fun (s6 : Int) => [(0, (4, a0)), (1, (27, v1)), (2, (0, v4)), (3, (0, s6))]) (sL := fun _ => []) (ML := fun (s6 : Int) => M) (LE := fun (t7 : Unit) => [(0, (4, a0))]) (sE := fun _ => []) (ME := fun (t7 : Unit) => M) (fun kk24 hx23 hc21 he22 s6 => ?_) (fun t7 => ?_)
  · unfold b_X0_isAtRest_10
    refine XE.go (st_iload_n (j := 3) (i := 3) (pc' := 11) (by decide +kernel) rfl rfl rfl) ?_
    refine XE.go (st_iload_n (j := 2) (i := 2) (pc' := 12) (by decide +kernel) rfl rfl rfl) ?_
    refine XE.bite (fun h25 => ?_) (fun h26 => ?_)
    · refine XE.go (st_icmp_ge_f (off := 34) (pc' := 15) (by decide +kernel) 46 (by decide) rfl (Int.not_le.mpr h25)) ?_
      refine XE.go (st_aload_n (j := 1) (i := 1) (pc' := 16) (by decide +kernel) rfl rfl (by decide) rfl) ?_
      refine XE.go (st_iload_n (j := 3) (i := 3) (pc' := 17) (by decide +kernel) rfl rfl rfl) ?_
      refine XE.gdb (fun g27 => ?_)
      refine XE.go (st_ald (k := 24) (tp := 12) (pc' := 18) (by decide +kernel) rfl ak_24 rfl (by decide) rfl (Or.inr (Or.inr (Or.inr ⟨rfl, rfl⟩))) g27.1 g27.2.1 g27.2.2) ?_
      refine XE.asc ?_
      refine XE.gen (fun v28 e29 => ?_)
      refine XE.go (st_astore (j := 4) (pc' := 20) (by decide +kernel)  (by decide) rfl (by decide) rfl rfl) ?_
      refine XE.go (st_aload (j := 4) (pc' := 22) (by decide +kernel) rfl (by decide) rfl) ?_
      refine XE.bite (fun h30 => ?_) (fun h31 => ?_)
      · refine XE.go (st_ifnull_t (off := 18) (pc' := 40) (by decide +kernel) (by decide) h30 (by decide)) ?_
        refine XE.go (st_iinc (j := 3) (n := 1) (pc' := 43) (by decide +kernel) rfl rfl (by decide) rfl rfl) ?_
        refine XE.go (st_goto (off := (-33)) (pc' := 10) (by decide +kernel) (by decide)) ?_
        exact XE.pick [2, 3, 4, 0] rfl (hc21 (w (s6 + 1)))
      · refine XE.go (st_ifnull_f (off := 18) (pc' := 25) (by decide +kernel) (by decide) h31 rfl) ?_
        refine XE.go (st_aload (j := 4) (pc' := 27) (by decide +kernel) rfl (by decide) rfl) ?_
        refine XE.go (st_get (pc' := 30) (by decide +kernel) rfl cls_8 fld_RX0_76 rfl rfl h31) ?_
        refine XE.go (st_aload (j := 4) (pc' := 32) (by decide +kernel) rfl (by decide) rfl) ?_
        refine XE.go (st_get (pc' := 35) (by decide +kernel) rfl cls_8 fld_RX0_80 rfl rfl h31) ?_
        refine XE.bite (fun h32 => ?_) (fun h33 => ?_)
        · refine XE.go (st_acmp_eq_t (off := 5) (pc' := 40) (by decide +kernel) (by decide) (by decide) h32 (by decide)) ?_
          refine XE.go (st_iinc (j := 3) (n := 1) (pc' := 43) (by decide +kernel) rfl rfl (by decide) rfl rfl) ?_
          refine XE.go (st_goto (off := (-33)) (pc' := 10) (by decide +kernel) (by decide)) ?_
          exact XE.pick [2, 3, 4, 0] rfl (hc21 (w (s6 + 1)))
        · refine XE.go (st_acmp_eq_f (off := 5) (pc' := 38) (by decide +kernel) 40 (by decide) (by decide) (by decide) h33 rfl) ?_
          refine XE.go (st_iconst (n := 0) (pc' := 39) (by decide +kernel) (w_eq (by decide) (by decide)) rfl) ?_
          refine XE.cast (hx23 _) ?_
          exact XE.rt rfl (X_zret (by decide +kernel) rfl (by decide))
    · refine XE.go (st_icmp_ge_t (off := 34) (pc' := 46) (by decide +kernel) (by decide) (Int.not_lt.mp h26)) ?_
      exact XE.pick [0] rfl (he22 ())
  · refine XE.go (st_aload_n (j := 0) (i := 0) (pc' := 47) (by decide +kernel) rfl rfl (by decide) rfl) ?_
    refine XE.cP (pc' := 50) (st := []) (fun r hr => ct_X0_memberCount h0 r hr) (fun r hr => run_V (st := []) (by decide +kernel) co_X0_isAtRest_83 (ct_X0_memberCount h0 r hr) rfl h0 rfl rfl (Nat.le_of_ble_eq_true rfl)) rfl rfl (fun r34 => ?_)
    refine XE.ite (fun h35 => ?_) (fun h36 => ?_)
    · refine XE.go (st_if_le_f (off := 7) (pc' := 53) (by decide +kernel) 57 (by decide) rfl (Int.not_le.mpr h35)) ?_
      refine XE.go (st_iconst (n := 1) (pc' := 54) (by decide +kernel) (w_eq (by decide) (by decide)) rfl) ?_
      refine XE.go (st_goto (off := 4) (pc' := 58) (by decide +kernel) (by decide)) ?_
      exact XE.rt rfl (X_zret (by decide +kernel) rfl (by decide))
    · refine XE.go (st_if_le_t (off := 7) (pc' := 57) (by decide +kernel) (by decide) (Int.not_lt.mp h36)) ?_
      refine XE.go (st_iconst (n := 0) (pc' := 58) (by decide +kernel) (w_eq (by decide) (by decide)) rfl) ?_
      exact XE.rt rfl (X_zret (by decide +kernel) rfl (by decide))
theorem ct_X0_isAtRest {D : Dt} {M : Mm} {a0 : Int} (h0 : a0 ≠ 0) (r : Int) (hr : p_X0_isAtRest M a0 = some r) : CT D 0 mu_X0_isAtRest [(4, a0)] M (.inl (some (0, r))) M := CT.of (by decide +kernel) rfl (Nat.le_of_ble_eq_true rfl) (xe_X0_isAtRest h0 r hr)
def p_X10_tellGroup (M : Mm) (a0 a1 : Int) : Option Int := if a1 = 0 then gd (a0 ≠ 0) (some ((rd M a0 6))) else if a1 = 1 then gd (a0 ≠ 0) ((p_X0_memberBits M a0).bind fun r7 => some (r7)) else if a1 = 2 then gd (a0 ≠ 0) ((p_X0_isAtRest M a0).bind fun r11 => if r11 = 0 then some (0) else some (1)) else if a1 = 3 then gd (a0 ≠ 0) (gd ((rd M a0 3) ≠ 0) (some ((rd M (rd M a0 3) 1)))) else if a1 = 4 then gd (a0 ≠ 0) (gd ((rd M a0 4) ≠ 0) (some ((rd M (rd M a0 4) 1)))) else gd (a0 ≠ 0) (some ((rd M a0 7)))
set_option maxRecDepth 100000 in
set_option maxHeartbeats 4000000 in
theorem xe_X10_tellGroup {D : Dt} {M : Mm} {a0 a1 : Int} : XE D 0 mu_X10_tellGroup (EP 0 M) 0 [(0, (4, a0)), (1, (0, a1))] [] M (p_X10_tellGroup M a0 a1) := by
  unfold p_X10_tellGroup
  refine XE.go (st_iload_n (j := 1) (i := 1) (pc' := 1) (by decide +kernel) rfl rfl rfl) ?_
  refine XE.ite (fun h1 => ?_) (fun h2 => ?_)
  · refine XE.go (st_tab_in (dflt := 74) (lo := 0) (hi := 4) (offs := #[35, 40, 45, 58, 66]) (len := 35) (off := 35) (pc' := 36) (by decide +kernel) 0 h1 (by decide) (by decide) (by decide) (by decide)) ?_
    refine XE.go (st_aload_n (j := 0) (i := 0) (pc' := 37) (by decide +kernel) rfl rfl (by decide) rfl) ?_
    refine XE.gd_ (fun g3 => ?_)
    refine XE.go (st_get (pc' := 40) (by decide +kernel) rfl cls_0 fld_RX10_559 rfl rfl g3) ?_
    exact XE.rt rfl (X_iret (by decide +kernel) rfl)
  refine XE.ite (fun h4 => ?_) (fun h5 => ?_)
  · refine XE.go (st_tab_in (dflt := 74) (lo := 0) (hi := 4) (offs := #[35, 40, 45, 58, 66]) (len := 35) (off := 40) (pc' := 41) (by decide +kernel) 1 h4 (by decide) (by decide) (by decide) (by decide)) ?_
    refine XE.go (st_aload_n (j := 0) (i := 0) (pc' := 42) (by decide +kernel) rfl rfl (by decide) rfl) ?_
    refine XE.gd_ (fun g6 => ?_)
    refine XE.cP (pc' := 45) (st := []) (fun r hr => ct_X0_memberBits g6 r hr) (fun r hr => run_V (st := []) (by decide +kernel) co_X10_tellGroup_562 (ct_X0_memberBits g6 r hr) rfl g6 rfl rfl (Nat.le_of_ble_eq_true rfl)) rfl rfl (fun r7 => ?_)
    exact XE.rt rfl (X_iret (by decide +kernel) rfl)
  refine XE.ite (fun h8 => ?_) (fun h9 => ?_)
  · refine XE.go (st_tab_in (dflt := 74) (lo := 0) (hi := 4) (offs := #[35, 40, 45, 58, 66]) (len := 35) (off := 45) (pc' := 46) (by decide +kernel) 2 h8 (by decide) (by decide) (by decide) (by decide)) ?_
    refine XE.go (st_aload_n (j := 0) (i := 0) (pc' := 47) (by decide +kernel) rfl rfl (by decide) rfl) ?_
    refine XE.gd_ (fun g10 => ?_)
    refine XE.cP (pc' := 50) (st := []) (fun r hr => ct_X0_isAtRest g10 r hr) (fun r hr => run_V (st := []) (by decide +kernel) co_X10_tellGroup_565 (ct_X0_isAtRest g10 r hr) rfl g10 rfl rfl (Nat.le_of_ble_eq_true rfl)) rfl rfl (fun r11 => ?_)
    refine XE.ite (fun h12 => ?_) (fun h13 => ?_)
    · refine XE.go (st_if_eq_t (off := 7) (pc' := 57) (by decide +kernel) (by decide) h12) ?_
      refine XE.go (st_iconst (n := 0) (pc' := 58) (by decide +kernel) (w_eq (by decide) (by decide)) rfl) ?_
      exact XE.rt rfl (X_iret (by decide +kernel) rfl)
    · refine XE.go (st_if_eq_f (off := 7) (pc' := 53) (by decide +kernel) 57 (by decide) rfl h13) ?_
      refine XE.go (st_iconst (n := 1) (pc' := 54) (by decide +kernel) (w_eq (by decide) (by decide)) rfl) ?_
      refine XE.go (st_goto (off := 4) (pc' := 58) (by decide +kernel) (by decide)) ?_
      exact XE.rt rfl (X_iret (by decide +kernel) rfl)
  refine XE.ite (fun h14 => ?_) (fun h15 => ?_)
  · refine XE.go (st_tab_in (dflt := 74) (lo := 0) (hi := 4) (offs := #[35, 40, 45, 58, 66]) (len := 35) (off := 58) (pc' := 59) (by decide +kernel) 3 h14 (by decide) (by decide) (by decide) (by decide)) ?_
    refine XE.go (st_aload_n (j := 0) (i := 0) (pc' := 60) (by decide +kernel) rfl rfl (by decide) rfl) ?_
    refine XE.gd_ (fun g16 => ?_)
    refine XE.go (st_get (pc' := 63) (by decide +kernel) rfl cls_0 fld_RX10_518 rfl rfl g16) ?_
    refine XE.gd_ (fun g17 => ?_)
    refine XE.go (st_get (pc' := 66) (by decide +kernel) rfl cls_2 fld_RX10_412 rfl rfl g17) ?_
    exact XE.rt rfl (X_iret (by decide +kernel) rfl)
  refine XE.ite (fun h18 => ?_) (fun h19 => ?_)
  · refine XE.go (st_tab_in (dflt := 74) (lo := 0) (hi := 4) (offs := #[35, 40, 45, 58, 66]) (len := 35) (off := 66) (pc' := 67) (by decide +kernel) 4 h18 (by decide) (by decide) (by decide) (by decide)) ?_
    refine XE.go (st_aload_n (j := 0) (i := 0) (pc' := 68) (by decide +kernel) rfl rfl (by decide) rfl) ?_
    refine XE.gd_ (fun g20 => ?_)
    refine XE.go (st_get (pc' := 71) (by decide +kernel) rfl cls_0 fld_RX10_525 rfl rfl g20) ?_
    refine XE.gd_ (fun g21 => ?_)
    refine XE.go (st_get (pc' := 74) (by decide +kernel) rfl cls_2 fld_RX10_412 rfl rfl g21) ?_
    exact XE.rt rfl (X_iret (by decide +kernel) rfl)
  refine XE.go (st_tab_out (dflt := 74) (lo := 0) (hi := 4) (offs := #[35, 40, 45, 58, 66]) (len := 35) (pc' := 75) (by decide +kernel) (by omega) (by decide)) ?_
  refine XE.go (st_aload_n (j := 0) (i := 0) (pc' := 76) (by decide +kernel) rfl rfl (by decide) rfl) ?_
  refine XE.gd_ (fun g22 => ?_)
  refine XE.go (st_get (pc' := 79) (by decide +kernel) rfl cls_0 fld_RX10_568 rfl rfl g22) ?_
  exact XE.rt rfl (X_iret (by decide +kernel) rfl)
theorem ct_X10_tellGroup {D : Dt} {M : Mm} {a0 a1 : Int} (r : Int) (hr : p_X10_tellGroup M a0 a1 = some r) : CT D 0 mu_X10_tellGroup [(4, a0), (0, a1)] M (.inl (some (0, r))) M := CT.of (by decide +kernel) rfl (Nat.le_of_ble_eq_true rfl) (xe_X10_tellGroup r hr)
def p_X10_ofGroup (M : Mm) (a0 a1 a2 : Int) : Option (Int × Int × Mm) := (p_X10_groupOf M a0 a1).bind (thT psT fun v1 M2 => (p_X10_requireWithin M2 a2 0 5).bind (thU psT fun M3 => (p_X10_tellGroup M3 v1 a2).bind fun r4 => some (0, r4, M3)))
set_option maxRecDepth 100000 in
set_option maxHeartbeats 4000000 in
theorem xe_X10_ofGroup {D : Dt} {M : Mm} {a0 a1 a2 : Int} (h0 : a0 ≠ 0) : XE D 0 mu_X10_ofGroup (ET 0) 0 [(0, (14, a0)), (1, (0, a1)), (2, (0, a2))] [] M (p_X10_ofGroup M a0 a1 a2) := by
  unfold p_X10_ofGroup
  refine XE.go (st_aload_n (j := 0) (i := 0) (pc' := 1) (by decide +kernel) rfl rfl (by decide) rfl) ?_
  refine XE.go (st_iload_n (j := 1) (i := 1) (pc' := 2) (by decide +kernel) rfl rfl rfl) ?_
  refine XE.cTg (pc' := 5) (st := []) hfT (fun r hr => ct_X10_groupOf h0 r hr) (fun r hr => run_V (st := []) (by decide +kernel) co_X10_ofGroup_334 (ct_X10_groupOf h0 r hr) rfl h0 rfl rfl (Nat.le_of_ble_eq_true rfl)) rfl rfl rfl (fun v1 M2 => ?_)
  refine XE.go (st_astore_n (j := 3) (i := 3) (pc' := 6) (by decide +kernel) rfl (by decide) rfl (by decide) rfl rfl) ?_
  refine XE.go (st_iload_n (j := 2) (i := 2) (pc' := 7) (by decide +kernel) rfl rfl rfl) ?_
  refine XE.go (st_iconst (n := 0) (pc' := 8) (by decide +kernel) (w_eq (by decide) (by decide)) rfl) ?_
  refine XE.go (st_iconst (n := 5) (pc' := 9) (by decide +kernel) (w_eq (by decide) (by decide)) rfl) ?_
  refine XE.cUg (pc' := 12) (st := []) hfT (fun r hr => ct_X10_requireWithin r hr) (fun r hr => run_S (st := []) (by decide +kernel) co_X10_ofGroup_73 (ct_X10_requireWithin r hr) rfl rfl (Nat.le_of_ble_eq_true rfl)) rfl rfl rfl (fun M3 => ?_)
  refine XE.go (st_aload_n (j := 3) (i := 3) (pc' := 13) (by decide +kernel) rfl rfl (by decide) rfl) ?_
  refine XE.go (st_iload_n (j := 2) (i := 2) (pc' := 14) (by decide +kernel) rfl rfl rfl) ?_
  refine XE.cP (pc' := 17) (st := []) (fun r hr => ct_X10_tellGroup r hr) (fun r hr => run_S (st := []) (by decide +kernel) co_X10_ofGroup_555 (ct_X10_tellGroup r hr) rfl rfl (Nat.le_of_ble_eq_true rfl)) rfl rfl (fun r4 => ?_)
  exact XE.rt rfl (X_iret (by decide +kernel) rfl)
theorem ct_X10_ofGroup {D : Dt} {M : Mm} {a0 a1 a2 : Int} (h0 : a0 ≠ 0) (r : (Int × Int × Mm)) (hr : p_X10_ofGroup M a0 a1 a2 = some r) : CT D 0 mu_X10_ofGroup [(14, a0), (0, a1), (0, a2)] M (ET 0 r).1 (ET 0 r).2 := CT.of (by decide +kernel) rfl (Nat.le_of_ble_eq_true rfl) (xe_X10_ofGroup h0 r hr)
def p_X4_standsAtItsOffset (M : Mm) (a0 : Int) : Option Int := gd ((rd M a0 2) ≠ 0) ((p_X5_logEnd M (rd M a0 2)).bind fun r2 => if (rd M a0 9) < r2 then (p_X5_storedAt M (rd M a0 2) (rd M a0 9)).bind fun r5 => if r5 = a0 then some (1) else some (0) else some (0))
set_option maxRecDepth 100000 in
set_option maxHeartbeats 4000000 in
theorem xe_X4_standsAtItsOffset {D : Dt} {M : Mm} {a0 : Int} (h0 : a0 ≠ 0) : XE D 0 mu_X4_standsAtItsOffset (EP 0 M) 0 [(0, (8, a0))] [] M (p_X4_standsAtItsOffset M a0) := by
  unfold p_X4_standsAtItsOffset
  refine XE.go (st_aload_n (j := 0) (i := 0) (pc' := 1) (by decide +kernel) rfl rfl (by decide) rfl) ?_
  refine XE.go (st_get (pc' := 4) (by decide +kernel) rfl cls_4 fld_RX4_15 rfl rfl h0) ?_
  refine XE.go (st_aload_n (j := 0) (i := 0) (pc' := 5) (by decide +kernel) rfl rfl (by decide) rfl) ?_
  refine XE.go (st_get (pc' := 8) (by decide +kernel) rfl cls_4 fld_RX4_28 rfl rfl h0) ?_
  refine XE.gd_ (fun g1 => ?_)
  refine XE.cP (pc' := 11) (st := [(0, (rd M a0 9))]) (fun r hr => ct_X5_logEnd g1 r hr) (fun r hr => run_V (st := [(0, (rd M a0 9))]) (by decide +kernel) co_X4_standsAtItsOffset_57 (ct_X5_logEnd g1 r hr) rfl g1 rfl rfl (Nat.le_of_ble_eq_true rfl)) rfl rfl (fun r2 => ?_)
  refine XE.ite (fun h3 => ?_) (fun h4 => ?_)
  · refine XE.go (st_icmp_ge_f (off := 22) (pc' := 14) (by decide +kernel) 33 (by decide) rfl (Int.not_le.mpr h3)) ?_
    refine XE.go (st_aload_n (j := 0) (i := 0) (pc' := 15) (by decide +kernel) rfl rfl (by decide) rfl) ?_
    refine XE.go (st_get (pc' := 18) (by decide +kernel) rfl cls_4 fld_RX4_28 rfl rfl h0) ?_
    refine XE.go (st_aload_n (j := 0) (i := 0) (pc' := 19) (by decide +kernel) rfl rfl (by decide) rfl) ?_
    refine XE.go (st_get (pc' := 22) (by decide +kernel) rfl cls_4 fld_RX4_15 rfl rfl h0) ?_
    refine XE.cP (pc' := 25) (st := []) (fun r hr => ct_X5_storedAt g1 r hr) (fun r hr => run_V (st := []) (by decide +kernel) co_X4_standsAtItsOffset_60 (ct_X5_storedAt g1 r hr) rfl g1 rfl rfl (Nat.le_of_ble_eq_true rfl)) rfl rfl (fun r5 => ?_)
    refine XE.go (st_aload_n (j := 0) (i := 0) (pc' := 26) (by decide +kernel) rfl rfl (by decide) rfl) ?_
    refine XE.ite (fun h6 => ?_) (fun h7 => ?_)
    · refine XE.go (st_acmp_ne_f (off := 7) (pc' := 29) (by decide +kernel) 33 (by decide) (by decide) (by decide) h6 rfl) ?_
      refine XE.go (st_iconst (n := 1) (pc' := 30) (by decide +kernel) (w_eq (by decide) (by decide)) rfl) ?_
      refine XE.go (st_goto (off := 4) (pc' := 34) (by decide +kernel) (by decide)) ?_
      exact XE.rt rfl (X_zret (by decide +kernel) rfl (by decide))
    · refine XE.go (st_acmp_ne_t (off := 7) (pc' := 33) (by decide +kernel) (by decide) (by decide) h7 (by decide)) ?_
      refine XE.go (st_iconst (n := 0) (pc' := 34) (by decide +kernel) (w_eq (by decide) (by decide)) rfl) ?_
      exact XE.rt rfl (X_zret (by decide +kernel) rfl (by decide))
  · refine XE.go (st_icmp_ge_t (off := 22) (pc' := 33) (by decide +kernel) (by decide) (Int.not_lt.mp h4)) ?_
    refine XE.go (st_iconst (n := 0) (pc' := 34) (by decide +kernel) (w_eq (by decide) (by decide)) rfl) ?_
    exact XE.rt rfl (X_zret (by decide +kernel) rfl (by decide))
theorem ct_X4_standsAtItsOffset {D : Dt} {M : Mm} {a0 : Int} (h0 : a0 ≠ 0) (r : Int) (hr : p_X4_standsAtItsOffset M a0 = some r) : CT D 0 mu_X4_standsAtItsOffset [(8, a0)] M (.inl (some (0, r))) M := CT.of (by decide +kernel) rfl (Nat.le_of_ble_eq_true rfl) (xe_X4_standsAtItsOffset h0 r hr)
def b_X5_endsHold_22 (v6 : Int) (v3 : Int) (M : Mm) (r1 : Int) (r2 : Int) (s8 : Int) : Option ((Int) ⊕ ((Int) ⊕ (Unit))) := if s8 < v6 then gd (aok v3 s8) ((some ((rd M v3 s8))).bind fun v34 => if v34 = 0 then some (.inl (w (s8 + 1))) else if r1 < (rd M v34 2) then some (.inr (.inl (0))) else if (rd M v34 4) = 0 then some (.inl (w (s8 + 1))) else if (rd M v34 2) < r2 then some (.inr (.inl (0))) else some (.inl (w (s8 + 1)))) else some (.inr (.inr ()))
def p_X5_endsHold (M : Mm) (a0 : Int) : Option Int := (p_X5_logEnd M a0).bind fun r1 => (p_X5_highWatermark M a0).bind fun r2 => (some ((rd M a0 2))).bind fun v3 => gd (v3 ≠ 0) ((some ((ln v3))).bind fun v6 => (lp (b_X5_endsHold_22 v6 v3 M r1 r2) 1000 0).bind (Sum.elim some fun (t9 : Unit) => some (1)))
set_option maxRecDepth 100000 in
set_option maxHeartbeats 4000000 in
theorem xe_X5_endsHold {D : Dt} {M : Mm} {a0 : Int} (h0 : a0 ≠ 0) : XE D 0 mu_X5_endsHold (EP 0 M) 0 [(0, (9, a0))] [] M (p_X5_endsHold M a0) := by
  unfold p_X5_endsHold
  refine XE.go (st_aload_n (j := 0) (i := 0) (pc' := 1) (by decide +kernel) rfl rfl (by decide) rfl) ?_
  refine XE.cP (pc' := 4) (st := []) (fun r hr => ct_X5_logEnd h0 r hr) (fun r hr => run_V (st := []) (by decide +kernel) co_X5_endsHold_95 (ct_X5_logEnd h0 r hr) rfl h0 rfl rfl (Nat.le_of_ble_eq_true rfl)) rfl rfl (fun r1 => ?_)
  refine XE.go (st_istore_n (j := 1) (i := 1) (pc' := 5) (by decide +kernel) rfl rfl (by decide) rfl rfl) ?_
  refine XE.go (st_aload_n (j := 0) (i := 0) (pc' := 6) (by decide +kernel) rfl rfl (by decide) rfl) ?_
  refine XE.cP (pc' := 9) (st := []) (fun r hr => ct_X5_highWatermark h0 r hr) (fun r hr => run_V (st := []) (by decide +kernel) co_X5_endsHold_67 (ct_X5_highWatermark h0 r hr) rfl h0 rfl rfl (Nat.le_of_ble_eq_true rfl)) rfl rfl (fun r2 => ?_)
  refine XE.go (st_istore_n (j := 2) (i := 2) (pc' := 10) (by decide +kernel) rfl rfl (by decide) rfl rfl) ?_
  refine XE.go (st_aload_n (j := 0) (i := 0) (pc' := 11) (by decide +kernel) rfl rfl (by decide) rfl) ?_
  refine XE.go (st_get (pc' := 14) (by decide +kernel) rfl cls_5 fld_RX5_11 rfl rfl h0) ?_
  refine XE.gen (fun v3 e4 => ?_)
  refine XE.go (st_astore_n (j := 3) (i := 3) (pc' := 15) (by decide +kernel) rfl (by decide) rfl (by decide) rfl rfl) ?_
  refine XE.go (st_aload_n (j := 3) (i := 3) (pc' := 16) (by decide +kernel) rfl rfl (by decide) rfl) ?_
  refine XE.gd_ (fun g5 => ?_)
  refine XE.go (st_alen (k := 23) (pc' := 17) (by decide +kernel) rfl ak_23 rfl (by decide) g5) ?_
  refine XE.gen (fun v6 e7 => ?_)
  refine XE.go (st_istore (j := 4) (pc' := 19) (by decide +kernel)  rfl (by decide) rfl rfl) ?_
  refine XE.go (st_iconst (n := 0) (pc' := 20) (by decide +kernel) (w_eq (by decide) (by decide)) rfl) ?_
  refine XE.go (st_istore (j := 5) (pc' := 22) (by decide +kernel)  rfl (by decide) rfl rfl) ?_
  refine XE.pick [4, 3, 2, 1, 0] (L' := [(1, (0, r1)), (2, (0, r2)), (3, (26, v3)), (4, (0, v6)), (5, (0, 0))]) rfl ?_
  refine XE.loopX (n := 1000) (s0 := 0) (pcL := 22) (pcE := 74) (LL := fun (s8 : Int) => [(1, (0, r1)), (2, (0, r2)), (3, (26, v3)), (4, (0, v6)), (5, (0, s8))]) (sL := fun _ => []) (ML := fun (s8 : Int) => M) (LE := fun (t9 : Unit) => []) (sE := fun _ => []) (ME := fun (t9 : Unit) => M) (fun kk30 hx29 hc27 he28 s8 => ?_) (fun t9 => ?_)
  · unfold b_X5_endsHold_22
    refine XE.go (st_iload (j := 5) (pc' := 24) (by decide +kernel) rfl rfl) ?_
    refine XE.go (st_iload (j := 4) (pc' := 26) (by decide +kernel) rfl rfl) ?_
    refine XE.bite (fun h31 => ?_) (fun h32 => ?_)
    · refine XE.go (st_icmp_ge_f (off := 48) (pc' := 29) (by decide +kernel) 74 (by decide) rfl (Int.not_le.mpr h31)) ?_
      refine XE.go (st_aload_n (j := 3) (i := 3) (pc' := 30) (by decide +kernel) rfl rfl (by decide) rfl) ?_
      refine XE.go (st_iload (j := 5) (pc' := 32) (by decide +kernel) rfl rfl) ?_
      refine XE.gdb (fun g33 => ?_)
      refine XE.go (st_ald (k := 23) (tp := 11) (pc' := 33) (by decide +kernel) rfl ak_23 rfl (by decide) rfl (Or.inr (Or.inr (Or.inr ⟨rfl, rfl⟩))) g33.1 g33.2.1 g33.2.2) ?_
      refine XE.asc ?_
      refine XE.gen (fun v34 e35 => ?_)
      refine XE.go (st_astore (j := 6) (pc' := 35) (by decide +kernel)  (by decide) rfl (by decide) rfl rfl) ?_
      refine XE.go (st_aload (j := 6) (pc' := 37) (by decide +kernel) rfl (by decide) rfl) ?_
      refine XE.bite (fun h36 => ?_) (fun h37 => ?_)
      · refine XE.go (st_ifnull_t (off := 31) (pc' := 68) (by decide +kernel) (by decide) h36 (by decide)) ?_
        refine XE.go (st_iinc (j := 5) (n := 1) (pc' := 71) (by decide +kernel) rfl rfl (by decide) rfl rfl) ?_
        refine XE.go (st_goto (off := (-49)) (pc' := 22) (by decide +kernel) (by decide)) ?_
        exact XE.pick [2, 3, 4, 5, 0] rfl (hc27 (w (s8 + 1)))
      · refine XE.go (st_ifnull_f (off := 31) (pc' := 40) (by decide +kernel) (by decide) h37 rfl) ?_
        refine XE.go (st_aload (j := 6) (pc' := 42) (by decide +kernel) rfl (by decide) rfl) ?_
        refine XE.go (st_get (pc' := 45) (by decide +kernel) rfl cls_7 fld_RX5_53 rfl rfl h37) ?_
        refine XE.go (st_iload_n (j := 1) (i := 1) (pc' := 46) (by decide +kernel) rfl rfl rfl) ?_
        refine XE.bite (fun h38 => ?_) (fun h39 => ?_)
        · refine XE.go (st_icmp_gt_t (off := 20) (pc' := 66) (by decide +kernel) (by decide) h38) ?_
          refine XE.go (st_iconst (n := 0) (pc' := 67) (by decide +kernel) (w_eq (by decide) (by decide)) rfl) ?_
          refine XE.cast (hx29 _) ?_
          exact XE.rt rfl (X_zret (by decide +kernel) rfl (by decide))
        · refine XE.go (st_icmp_gt_f (off := 20) (pc' := 49) (by decide +kernel) 66 (by decide) rfl h39) ?_
          refine XE.go (st_aload (j := 6) (pc' := 51) (by decide +kernel) rfl (by decide) rfl) ?_
          refine XE.go (st_get (pc' := 54) (by decide +kernel) rfl cls_7 fld_RX5_49 rfl rfl h37) ?_
          refine XE.bite (fun h40 => ?_) (fun h41 => ?_)
          · refine XE.go (st_if_eq_t (off := 14) (pc' := 68) (by decide +kernel) (by decide) h40) ?_
            refine XE.go (st_iinc (j := 5) (n := 1) (pc' := 71) (by decide +kernel) rfl rfl (by decide) rfl rfl) ?_
            refine XE.go (st_goto (off := (-49)) (pc' := 22) (by decide +kernel) (by decide)) ?_
            exact XE.pick [2, 3, 4, 5, 0] rfl (hc27 (w (s8 + 1)))
          · refine XE.go (st_if_eq_f (off := 14) (pc' := 57) (by decide +kernel) 68 (by decide) rfl h41) ?_
            refine XE.go (st_iload_n (j := 2) (i := 2) (pc' := 58) (by decide +kernel) rfl rfl rfl) ?_
            refine XE.go (st_aload (j := 6) (pc' := 60) (by decide +kernel) rfl (by decide) rfl) ?_
            refine XE.go (st_get (pc' := 63) (by decide +kernel) rfl cls_7 fld_RX5_53 rfl rfl h37) ?_
            refine XE.bite (fun h42 => ?_) (fun h43 => ?_)
            · refine XE.go (st_icmp_le_f (off := 5) (pc' := 66) (by decide +kernel) 68 (by decide) rfl (Int.not_le.mpr h42)) ?_
              refine XE.go (st_iconst (n := 0) (pc' := 67) (by decide +kernel) (w_eq (by decide) (by decide)) rfl) ?_
              refine XE.cast (hx29 _) ?_
              exact XE.rt rfl (X_zret (by decide +kernel) rfl (by decide))
            · refine XE.go (st_icmp_le_t (off := 5) (pc' := 68) (by decide +kernel) (by decide) (Int.not_lt.mp h43)) ?_
              refine XE.go (st_iinc (j := 5) (n := 1) (pc' := 71) (by decide +kernel) rfl rfl (by decide) rfl rfl) ?_
              refine XE.go (st_goto (off := (-49)) (pc' := 22) (by decide +kernel) (by decide)) ?_
              exact XE.pick [2, 3, 4, 5, 0] rfl (hc27 (w (s8 + 1)))
    · refine XE.go (st_icmp_ge_t (off := 48) (pc' := 74) (by decide +kernel) (by decide) (Int.not_lt.mp h32)) ?_
      exact XE.pick [] rfl (he28 ())
  · refine XE.go (st_iconst (n := 1) (pc' := 75) (by decide +kernel) (w_eq (by decide) (by decide)) rfl) ?_
    exact XE.rt rfl (X_zret (by decide +kernel) rfl (by decide))
theorem ct_X5_endsHold {D : Dt} {M : Mm} {a0 : Int} (h0 : a0 ≠ 0) (r : Int) (hr : p_X5_endsHold M a0 = some r) : CT D 0 mu_X5_endsHold [(9, a0)] M (.inl (some (0, r))) M := CT.of (by decide +kernel) rfl (Nat.le_of_ble_eq_true rfl) (xe_X5_endsHold h0 r hr)
def b_X5_ticksHold_4 (M : Mm) (a0 : Int) (s1 : Int × Int) : Option ((Int × Int) ⊕ ((Int) ⊕ (Unit))) := gd ((rd M a0 3) ≠ 0) (if s1.2 < (ln (rd M a0 3)) then (p_X5_storedAt M a0 s1.2).bind fun r24 => if r24 = 0 then some (.inl (s1.1, (w (s1.2 + 1)))) else if (rd M r24 10) < s1.1 then some (.inr (.inl (0))) else (some ((rd M r24 10))).bind fun v29 => some (.inl (v29, (w (s1.2 + 1)))) else some (.inr (.inr ())))
def p_X5_ticksHold (M : Mm) (a0 : Int) : Option Int := (lp (b_X5_ticksHold_4 M a0) 1000 (0, 0)).bind (Sum.elim some fun (t2 : Unit) => some (1))
set_option maxRecDepth 100000 in
set_option maxHeartbeats 4000000 in
theorem xe_X5_ticksHold {D : Dt} {M : Mm} {a0 : Int} (h0 : a0 ≠ 0) : XE D 0 mu_X5_ticksHold (EP 0 M) 0 [(0, (9, a0))] [] M (p_X5_ticksHold M a0) := by
  unfold p_X5_ticksHold
  refine XE.go (st_iconst (n := 0) (pc' := 1) (by decide +kernel) (w_eq (by decide) (by decide)) rfl) ?_
  refine XE.go (st_istore_n (j := 1) (i := 1) (pc' := 2) (by decide +kernel) rfl rfl (by decide) rfl rfl) ?_
  refine XE.go (st_iconst (n := 0) (pc' := 3) (by decide +kernel) (w_eq (by decide) (by decide)) rfl) ?_
  refine XE.go (st_istore_n (j := 2) (i := 2) (pc' := 4) (by decide +kernel) rfl rfl (by decide) rfl rfl) ?_
  refine XE.pick [2, 1, 0] (L' := [(0, (9, a0)), (1, (0, 0)), (2, (0, 0))]) rfl ?_
  refine XE.loopX (n := 1000) (s0 := (0, 0)) (pcL := 4) (pcE := 44) (LL := fun (s1 : Int × Int) => [(0, (9, a0)), (1, (0, s1.1)), (2, (0, s1.2))]) (sL := fun _ => []) (ML := fun (s1 : Int × Int) => M) (LE := fun (t2 : Unit) => []) (sE := fun _ => []) (ME := fun (t2 : Unit) => M) (fun kk20 hx19 hc17 he18 s1 => ?_) (fun t2 => ?_)
  · unfold b_X5_ticksHold_4
    refine XE.go (st_iload_n (j := 2) (i := 2) (pc' := 5) (by decide +kernel) rfl rfl rfl) ?_
    refine XE.go (st_aload_n (j := 0) (i := 0) (pc' := 6) (by decide +kernel) rfl rfl (by decide) rfl) ?_
    refine XE.go (st_get (pc' := 9) (by decide +kernel) rfl cls_5 fld_RX5_19 rfl rfl h0) ?_
    refine XE.gdb (fun g21 => ?_)
    refine XE.go (st_alen (k := 20) (pc' := 10) (by decide +kernel) rfl ak_20 rfl (by decide) g21) ?_
    refine XE.bite (fun h22 => ?_) (fun h23 => ?_)
    · refine XE.go (st_icmp_ge_f (off := 34) (pc' := 13) (by decide +kernel) 44 (by decide) rfl (Int.not_le.mpr h22)) ?_
      refine XE.go (st_aload_n (j := 0) (i := 0) (pc' := 14) (by decide +kernel) rfl rfl (by decide) rfl) ?_
      refine XE.go (st_iload_n (j := 2) (i := 2) (pc' := 15) (by decide +kernel) rfl rfl rfl) ?_
      refine XE.asc ?_
      refine XE.cP (pc' := 18) (st := []) (fun r hr => ct_X5_storedAt h0 r hr) (fun r hr => run_V (st := []) (by decide +kernel) co_X5_ticksHold_81 (ct_X5_storedAt h0 r hr) rfl h0 rfl rfl (Nat.le_of_ble_eq_true rfl)) rfl rfl (fun r24 => ?_)
      refine XE.go (st_astore_n (j := 3) (i := 3) (pc' := 19) (by decide +kernel) rfl (by decide) rfl (by decide) rfl rfl) ?_
      refine XE.go (st_aload_n (j := 3) (i := 3) (pc' := 20) (by decide +kernel) rfl rfl (by decide) rfl) ?_
      refine XE.bite (fun h25 => ?_) (fun h26 => ?_)
      · refine XE.go (st_ifnull_t (off := 18) (pc' := 38) (by decide +kernel) (by decide) h25 (by decide)) ?_
        refine XE.go (st_iinc (j := 2) (n := 1) (pc' := 41) (by decide +kernel) rfl rfl (by decide) rfl rfl) ?_
        refine XE.go (st_goto (off := (-37)) (pc' := 4) (by decide +kernel) (by decide)) ?_
        exact XE.pick [2, 3, 0] rfl (hc17 (s1.1, (w (s1.2 + 1))))
      · refine XE.go (st_ifnull_f (off := 18) (pc' := 23) (by decide +kernel) (by decide) h26 rfl) ?_
        refine XE.go (st_aload_n (j := 3) (i := 3) (pc' := 24) (by decide +kernel) rfl rfl (by decide) rfl) ?_
        refine XE.go (st_get (pc' := 27) (by decide +kernel) rfl cls_4 fld_RX5_101 rfl rfl h26) ?_
        refine XE.go (st_iload_n (j := 1) (i := 1) (pc' := 28) (by decide +kernel) rfl rfl rfl) ?_
        refine XE.bite (fun h27 => ?_) (fun h28 => ?_)
        · refine XE.go (st_icmp_ge_f (off := 5) (pc' := 31) (by decide +kernel) 33 (by decide) rfl (Int.not_le.mpr h27)) ?_
          refine XE.go (st_iconst (n := 0) (pc' := 32) (by decide +kernel) (w_eq (by decide) (by decide)) rfl) ?_
          refine XE.cast (hx19 _) ?_
          exact XE.rt rfl (X_zret (by decide +kernel) rfl (by decide))
        · refine XE.go (st_icmp_ge_t (off := 5) (pc' := 33) (by decide +kernel) (by decide) (Int.not_lt.mp h28)) ?_
          refine XE.go (st_aload_n (j := 3) (i := 3) (pc' := 34) (by decide +kernel) rfl rfl (by decide) rfl) ?_
          refine XE.go (st_get (pc' := 37) (by decide +kernel) rfl cls_4 fld_RX5_101 rfl rfl h26) ?_
          refine XE.asc ?_
          refine XE.gen (fun v29 e30 => ?_)
          refine XE.go (st_istore_n (j := 1) (i := 1) (pc' := 38) (by decide +kernel) rfl rfl (by decide) rfl rfl) ?_
          refine XE.go (st_iinc (j := 2) (n := 1) (pc' := 41) (by decide +kernel) rfl rfl (by decide) rfl rfl) ?_
          refine XE.go (st_goto (off := (-37)) (pc' := 4) (by decide +kernel) (by decide)) ?_
          exact XE.pick [3, 1, 0] rfl (hc17 (v29, (w (s1.2 + 1))))
    · refine XE.go (st_icmp_ge_t (off := 34) (pc' := 44) (by decide +kernel) (by decide) (Int.not_lt.mp h23)) ?_
      exact XE.pick [] rfl (he18 ())
  · refine XE.go (st_iconst (n := 1) (pc' := 45) (by decide +kernel) (w_eq (by decide) (by decide)) rfl) ?_
    exact XE.rt rfl (X_zret (by decide +kernel) rfl (by decide))
theorem ct_X5_ticksHold {D : Dt} {M : Mm} {a0 : Int} (h0 : a0 ≠ 0) (r : Int) (hr : p_X5_ticksHold M a0 = some r) : CT D 0 mu_X5_ticksHold [(9, a0)] M (.inl (some (0, r))) M := CT.of (by decide +kernel) rfl (Nat.le_of_ble_eq_true rfl) (xe_X5_ticksHold h0 r hr)
def b_X10_logsHold_60 (v43 : Int) (v40 : Int) (M : Mm) (s45 : Int) : Option ((Int) ⊕ ((Int) ⊕ (Unit))) := if s45 < v43 then gd (aok v40 s45) ((some ((rd M v40 s45))).bind fun v71 => if v71 = 0 then some (.inl (w (s45 + 1))) else (p_X5_endsHold M v71).bind fun r75 => if r75 = 0 then some (.inr (.inl (0))) else (p_X5_ticksHold M v71).bind fun r78 => if r78 = 0 then some (.inr (.inl (0))) else some (.inl (w (s45 + 1)))) else some (.inr (.inr ()))
def b_X10_logsHold_10 (v4 : Int) (v1 : Int) (M : Mm) (s6 : Int) : Option ((Int) ⊕ ((Int) ⊕ (Unit))) := if s6 < v4 then gd (aok v1 s6) ((some ((rd M v1 s6))).bind fun v31 => if v31 = 0 then some (.inl (w (s6 + 1))) else if (rd M v31 7) = 1 then (p_X4_standsAtItsOffset M v31).bind fun r37 => if r37 = 0 then some (.inr (.inl (0))) else some (.inl (w (s6 + 1))) else some (.inl (w (s6 + 1)))) else some (.inr (.inr ()))
def p_X10_logsHold (M : Mm) (a0 : Int) : Option Int := (some ((rd M a0 4))).bind fun v1 => gd (v1 ≠ 0) ((some ((ln v1))).bind fun v4 => (lp (b_X10_logsHold_10 v4 v1 M) 1000 0).bind (Sum.elim some fun (t7 : Unit) => (some ((rd M a0 1))).bind fun v40 => gd (v40 ≠ 0) ((some ((ln v40))).bind fun v43 => (lp (b_X10_logsHold_60 v43 v40 M) 1000 0).bind (Sum.elim some fun (t46 : Unit) => some (1)))))
set_option maxRecDepth 100000 in
set_option maxHeartbeats 4000000 in
theorem xe_X10_logsHold {D : Dt} {M : Mm} {a0 : Int} (h0 : a0 ≠ 0) : XE D 0 mu_X10_logsHold (EP 0 M) 0 [(0, (14, a0))] [] M (p_X10_logsHold M a0) := by
  unfold p_X10_logsHold
  refine XE.go (st_aload_n (j := 0) (i := 0) (pc' := 1) (by decide +kernel) rfl rfl (by decide) rfl) ?_
  refine XE.go (st_get (pc' := 4) (by decide +kernel) rfl cls_10 fld_RX10_35 rfl rfl h0) ?_
  refine XE.gen (fun v1 e2 => ?_)
  refine XE.go (st_astore_n (j := 1) (i := 1) (pc' := 5) (by decide +kernel) rfl (by decide) rfl (by decide) rfl rfl) ?_
  refine XE.go (st_aload_n (j := 1) (i := 1) (pc' := 6) (by decide +kernel) rfl rfl (by decide) rfl) ?_
  refine XE.gd_ (fun g3 => ?_)
  refine XE.go (st_alen (k := 20) (pc' := 7) (by decide +kernel) rfl ak_20 rfl (by decide) g3) ?_
  refine XE.gen (fun v4 e5 => ?_)
  refine XE.go (st_istore_n (j := 2) (i := 2) (pc' := 8) (by decide +kernel) rfl rfl (by decide) rfl rfl) ?_
  refine XE.go (st_iconst (n := 0) (pc' := 9) (by decide +kernel) (w_eq (by decide) (by decide)) rfl) ?_
  refine XE.go (st_istore_n (j := 3) (i := 3) (pc' := 10) (by decide +kernel) rfl rfl (by decide) rfl rfl) ?_
  refine XE.pick [3, 2, 1, 0] (L' := [(0, (14, a0)), (1, (23, v1)), (2, (0, v4)), (3, (0, 0))]) rfl ?_
  refine XE.loopX (n := 1000) (s0 := 0) (pcL := 10) (pcE := 50) (LL := fun (s6 : Int) => [(0, (14, a0)), (1, (23, v1)), (2, (0, v4)), (3, (0, s6))]) (sL := fun _ => []) (ML := fun (s6 : Int) => M) (LE := fun (t7 : Unit) => [(0, (14, a0))]) (sE := fun _ => []) (ME := fun (t7 : Unit) => M) (fun kk27 hx26 hc24 he25 s6 => ?_) (fun t7 => ?_)
  · unfold b_X10_logsHold_10
    refine XE.go (st_iload_n (j := 3) (i := 3) (pc' := 11) (by decide +kernel) rfl rfl rfl) ?_
    refine XE.go (st_iload_n (j := 2) (i := 2) (pc' := 12) (by decide +kernel) rfl rfl rfl) ?_
    refine XE.bite (fun h28 => ?_) (fun h29 => ?_)
    · refine XE.go (st_icmp_ge_f (off := 38) (pc' := 15) (by decide +kernel) 50 (by decide) rfl (Int.not_le.mpr h28)) ?_
      refine XE.go (st_aload_n (j := 1) (i := 1) (pc' := 16) (by decide +kernel) rfl rfl (by decide) rfl) ?_
      refine XE.go (st_iload_n (j := 3) (i := 3) (pc' := 17) (by decide +kernel) rfl rfl rfl) ?_
      refine XE.gdb (fun g30 => ?_)
      refine XE.go (st_ald (k := 20) (tp := 8) (pc' := 18) (by decide +kernel) rfl ak_20 rfl (by decide) rfl (Or.inr (Or.inr (Or.inr ⟨rfl, rfl⟩))) g30.1 g30.2.1 g30.2.2) ?_
      refine XE.asc ?_
      refine XE.gen (fun v31 e32 => ?_)
      refine XE.go (st_astore (j := 4) (pc' := 20) (by decide +kernel)  (by decide) rfl (by decide) rfl rfl) ?_
      refine XE.go (st_aload (j := 4) (pc' := 22) (by decide +kernel) rfl (by decide) rfl) ?_
      refine XE.bite (fun h33 => ?_) (fun h34 => ?_)
      · refine XE.go (st_ifnull_t (off := 22) (pc' := 44) (by decide +kernel) (by decide) h33 (by decide)) ?_
        refine XE.go (st_iinc (j := 3) (n := 1) (pc' := 47) (by decide +kernel) rfl rfl (by decide) rfl rfl) ?_
        refine XE.go (st_goto (off := (-37)) (pc' := 10) (by decide +kernel) (by decide)) ?_
        exact XE.pick [2, 3, 4, 0] rfl (hc24 (w (s6 + 1)))
      · refine XE.go (st_ifnull_f (off := 22) (pc' := 25) (by decide +kernel) (by decide) h34 rfl) ?_
        refine XE.go (st_aload (j := 4) (pc' := 27) (by decide +kernel) rfl (by decide) rfl) ?_
        refine XE.go (st_get (pc' := 30) (by decide +kernel) rfl cls_4 fld_RX10_138 rfl rfl h34) ?_
        refine XE.go (st_iconst (n := 1) (pc' := 31) (by decide +kernel) (w_eq (by decide) (by decide)) rfl) ?_
        refine XE.bite (fun h35 => ?_) (fun h36 => ?_)
        · refine XE.go (st_icmp_ne_f (off := 13) (pc' := 34) (by decide +kernel) 44 (by decide) rfl (not_not_intro h35)) ?_
          refine XE.go (st_aload (j := 4) (pc' := 36) (by decide +kernel) rfl (by decide) rfl) ?_
          refine XE.asc ?_
          refine XE.cP (pc' := 39) (st := []) (fun r hr => ct_X4_standsAtItsOffset h34 r hr) (fun r hr => run_V (st := []) (by decide +kernel) co_X10_logsHold_589 (ct_X4_standsAtItsOffset h34 r hr) rfl h34 rfl rfl (Nat.le_of_ble_eq_true rfl)) rfl rfl (fun r37 => ?_)
          refine XE.bite (fun h38 => ?_) (fun h39 => ?_)
          · refine XE.go (st_if_ne_f (off := 5) (pc' := 42) (by decide +kernel) 44 (by decide) rfl (not_not_intro h38)) ?_
            refine XE.go (st_iconst (n := 0) (pc' := 43) (by decide +kernel) (w_eq (by decide) (by decide)) rfl) ?_
            refine XE.cast (hx26 _) ?_
            exact XE.rt rfl (X_zret (by decide +kernel) rfl (by decide))
          · refine XE.go (st_if_ne_t (off := 5) (pc' := 44) (by decide +kernel) (by decide) h39) ?_
            refine XE.go (st_iinc (j := 3) (n := 1) (pc' := 47) (by decide +kernel) rfl rfl (by decide) rfl rfl) ?_
            refine XE.go (st_goto (off := (-37)) (pc' := 10) (by decide +kernel) (by decide)) ?_
            exact XE.pick [2, 3, 4, 0] rfl (hc24 (w (s6 + 1)))
        · refine XE.go (st_icmp_ne_t (off := 13) (pc' := 44) (by decide +kernel) (by decide) h36) ?_
          refine XE.go (st_iinc (j := 3) (n := 1) (pc' := 47) (by decide +kernel) rfl rfl (by decide) rfl rfl) ?_
          refine XE.go (st_goto (off := (-37)) (pc' := 10) (by decide +kernel) (by decide)) ?_
          exact XE.pick [2, 3, 4, 0] rfl (hc24 (w (s6 + 1)))
    · refine XE.go (st_icmp_ge_t (off := 38) (pc' := 50) (by decide +kernel) (by decide) (Int.not_lt.mp h29)) ?_
      exact XE.pick [0] rfl (he25 ())
  · refine XE.go (st_aload_n (j := 0) (i := 0) (pc' := 51) (by decide +kernel) rfl rfl (by decide) rfl) ?_
    refine XE.go (st_get (pc' := 54) (by decide +kernel) rfl cls_10 fld_RX10_17 rfl rfl h0) ?_
    refine XE.gen (fun v40 e41 => ?_)
    refine XE.go (st_astore_n (j := 1) (i := 1) (pc' := 55) (by decide +kernel) rfl (by decide) rfl (by decide) rfl rfl) ?_
    refine XE.go (st_aload_n (j := 1) (i := 1) (pc' := 56) (by decide +kernel) rfl rfl (by decide) rfl) ?_
    refine XE.gd_ (fun g42 => ?_)
    refine XE.go (st_alen (k := 21) (pc' := 57) (by decide +kernel) rfl ak_21 rfl (by decide) g42) ?_
    refine XE.gen (fun v43 e44 => ?_)
    refine XE.go (st_istore_n (j := 2) (i := 2) (pc' := 58) (by decide +kernel) rfl rfl (by decide) rfl rfl) ?_
    refine XE.go (st_iconst (n := 0) (pc' := 59) (by decide +kernel) (w_eq (by decide) (by decide)) rfl) ?_
    refine XE.go (st_istore_n (j := 3) (i := 3) (pc' := 60) (by decide +kernel) rfl rfl (by decide) rfl rfl) ?_
    refine XE.pick [2, 1, 0] (L' := [(1, (24, v40)), (2, (0, v43)), (3, (0, 0))]) rfl ?_
    refine XE.loopX (n := 1000) (s0 := 0) (pcL := 60) (pcE := 99) (LL := fun (s45 : Int) => [(1, (24, v40)), (2, (0, v43)), (3, (0, s45))]) (sL := fun _ => []) (ML := fun (s45 : Int) => M) (LE := fun (t46 : Unit) => []) (sE := fun _ => []) (ME := fun (t46 : Unit) => M) (fun kk67 hx66 hc64 he65 s45 => ?_) (fun t46 => ?_)
    · unfold b_X10_logsHold_60
      refine XE.go (st_iload_n (j := 3) (i := 3) (pc' := 61) (by decide +kernel) rfl rfl rfl) ?_
      refine XE.go (st_iload_n (j := 2) (i := 2) (pc' := 62) (by decide +kernel) rfl rfl rfl) ?_
      refine XE.bite (fun h68 => ?_) (fun h69 => ?_)
      · refine XE.go (st_icmp_ge_f (off := 37) (pc' := 65) (by decide +kernel) 99 (by decide) rfl (Int.not_le.mpr h68)) ?_
        refine XE.go (st_aload_n (j := 1) (i := 1) (pc' := 66) (by decide +kernel) rfl rfl (by decide) rfl) ?_
        refine XE.go (st_iload_n (j := 3) (i := 3) (pc' := 67) (by decide +kernel) rfl rfl rfl) ?_
        refine XE.gdb (fun g70 => ?_)
        refine XE.go (st_ald (k := 21) (tp := 9) (pc' := 68) (by decide +kernel) rfl ak_21 rfl (by decide) rfl (Or.inr (Or.inr (Or.inr ⟨rfl, rfl⟩))) g70.1 g70.2.1 g70.2.2) ?_
        refine XE.asc ?_
        refine XE.gen (fun v71 e72 => ?_)
        refine XE.go (st_astore (j := 4) (pc' := 70) (by decide +kernel)  (by decide) rfl (by decide) rfl rfl) ?_
        refine XE.go (st_aload (j := 4) (pc' := 72) (by decide +kernel) rfl (by decide) rfl) ?_
        refine XE.bite (fun h73 => ?_) (fun h74 => ?_)
        · refine XE.go (st_ifnull_t (off := 21) (pc' := 93) (by decide +kernel) (by decide) h73 (by decide)) ?_
          refine XE.go (st_iinc (j := 3) (n := 1) (pc' := 96) (by decide +kernel) rfl rfl (by decide) rfl rfl) ?_
          refine XE.go (st_goto (off := (-36)) (pc' := 60) (by decide +kernel) (by decide)) ?_
          exact XE.pick [2, 3, 0] rfl (hc64 (w (s45 + 1)))
        · refine XE.go (st_ifnull_f (off := 21) (pc' := 75) (by decide +kernel) (by decide) h74 rfl) ?_
          refine XE.go (st_aload (j := 4) (pc' := 77) (by decide +kernel) rfl (by decide) rfl) ?_
          refine XE.asc ?_
          refine XE.cP (pc' := 80) (st := []) (fun r hr => ct_X5_endsHold h74 r hr) (fun r hr => run_V (st := []) (by decide +kernel) co_X10_logsHold_592 (ct_X5_endsHold h74 r hr) rfl h74 rfl rfl (Nat.le_of_ble_eq_true rfl)) rfl rfl (fun r75 => ?_)
          refine XE.bite (fun h76 => ?_) (fun h77 => ?_)
          · refine XE.go (st_if_eq_t (off := 11) (pc' := 91) (by decide +kernel) (by decide) h76) ?_
            refine XE.go (st_iconst (n := 0) (pc' := 92) (by decide +kernel) (w_eq (by decide) (by decide)) rfl) ?_
            refine XE.cast (hx66 _) ?_
            exact XE.rt rfl (X_zret (by decide +kernel) rfl (by decide))
          · refine XE.go (st_if_eq_f (off := 11) (pc' := 83) (by decide +kernel) 91 (by decide) rfl h77) ?_
            refine XE.go (st_aload (j := 4) (pc' := 85) (by decide +kernel) rfl (by decide) rfl) ?_
            refine XE.asc ?_
            refine XE.cP (pc' := 88) (st := []) (fun r hr => ct_X5_ticksHold h74 r hr) (fun r hr => run_V (st := []) (by decide +kernel) co_X10_logsHold_595 (ct_X5_ticksHold h74 r hr) rfl h74 rfl rfl (Nat.le_of_ble_eq_true rfl)) rfl rfl (fun r78 => ?_)
            refine XE.bite (fun h79 => ?_) (fun h80 => ?_)
            · refine XE.go (st_if_ne_f (off := 5) (pc' := 91) (by decide +kernel) 93 (by decide) rfl (not_not_intro h79)) ?_
              refine XE.go (st_iconst (n := 0) (pc' := 92) (by decide +kernel) (w_eq (by decide) (by decide)) rfl) ?_
              refine XE.cast (hx66 _) ?_
              exact XE.rt rfl (X_zret (by decide +kernel) rfl (by decide))
            · refine XE.go (st_if_ne_t (off := 5) (pc' := 93) (by decide +kernel) (by decide) h80) ?_
              refine XE.go (st_iinc (j := 3) (n := 1) (pc' := 96) (by decide +kernel) rfl rfl (by decide) rfl rfl) ?_
              refine XE.go (st_goto (off := (-36)) (pc' := 60) (by decide +kernel) (by decide)) ?_
              exact XE.pick [2, 3, 0] rfl (hc64 (w (s45 + 1)))
      · refine XE.go (st_icmp_ge_t (off := 37) (pc' := 99) (by decide +kernel) (by decide) (Int.not_lt.mp h69)) ?_
        exact XE.pick [] rfl (he65 ())
    · refine XE.go (st_iconst (n := 1) (pc' := 100) (by decide +kernel) (w_eq (by decide) (by decide)) rfl) ?_
      exact XE.rt rfl (X_zret (by decide +kernel) rfl (by decide))
theorem ct_X10_logsHold {D : Dt} {M : Mm} {a0 : Int} (h0 : a0 ≠ 0) (r : Int) (hr : p_X10_logsHold M a0 = some r) : CT D 0 mu_X10_logsHold [(14, a0)] M (.inl (some (0, r))) M := CT.of (by decide +kernel) rfl (Nat.le_of_ble_eq_true rfl) (xe_X10_logsHold h0 r hr)
def p_X4_isDelayed (M : Mm) (a0 : Int) : Option Int := if (rd M a0 5) = (-1) then some (0) else some (1)
set_option maxRecDepth 100000 in
set_option maxHeartbeats 4000000 in
theorem xe_X4_isDelayed {D : Dt} {M : Mm} {a0 : Int} (h0 : a0 ≠ 0) : XE D 0 mu_X4_isDelayed (EP 0 M) 0 [(0, (8, a0))] [] M (p_X4_isDelayed M a0) := by
  unfold p_X4_isDelayed
  refine XE.go (st_aload_n (j := 0) (i := 0) (pc' := 1) (by decide +kernel) rfl rfl (by decide) rfl) ?_
  refine XE.go (st_get (pc' := 4) (by decide +kernel) rfl cls_4 fld_RX4_38 rfl rfl h0) ?_
  refine XE.go (st_iconst (n := (-1)) (pc' := 5) (by decide +kernel) (w_eq (by decide) (by decide)) rfl) ?_
  refine XE.ite (fun h1 => ?_) (fun h2 => ?_)
  · refine XE.go (st_icmp_eq_t (off := 7) (pc' := 12) (by decide +kernel) (by decide) h1) ?_
    refine XE.go (st_iconst (n := 0) (pc' := 13) (by decide +kernel) (w_eq (by decide) (by decide)) rfl) ?_
    exact XE.rt rfl (X_zret (by decide +kernel) rfl (by decide))
  · refine XE.go (st_icmp_eq_f (off := 7) (pc' := 8) (by decide +kernel) 12 (by decide) rfl h2) ?_
    refine XE.go (st_iconst (n := 1) (pc' := 9) (by decide +kernel) (w_eq (by decide) (by decide)) rfl) ?_
    refine XE.go (st_goto (off := 4) (pc' := 13) (by decide +kernel) (by decide)) ?_
    exact XE.rt rfl (X_zret (by decide +kernel) rfl (by decide))
theorem ct_X4_isDelayed {D : Dt} {M : Mm} {a0 : Int} (h0 : a0 ≠ 0) (r : Int) (hr : p_X4_isDelayed M a0 = some r) : CT D 0 mu_X4_isDelayed [(8, a0)] M (.inl (some (0, r))) M := CT.of (by decide +kernel) rfl (Nat.le_of_ble_eq_true rfl) (xe_X4_isDelayed h0 r hr)
def b_X5_numbersRise_14 (v4 : Int) (v1 : Int) (M : Mm) (a1 : Int) (s6 : Int × Int) : Option ((Int × Int) ⊕ ((Int) ⊕ (Unit))) := if s6.2 < v4 then gd (aok v1 s6.2) ((some ((rd M v1 s6.2))).bind fun v38 => if v38 = 0 then some (.inl (s6.1, (w (s6.2 + 1)))) else if (rd M v38 1) = a1 then (p_X4_isDelayed M v38).bind fun r44 => if r44 = 0 then (p_X4_isPlainOrCommitted M v38).bind fun r47 => if r47 = 0 then some (.inl (s6.1, (w (s6.2 + 1)))) else if s6.1 < (rd M v38 0) then (some ((rd M v38 0))).bind fun v52 => some (.inl (v52, (w (s6.2 + 1)))) else some (.inr (.inl (0))) else some (.inl (s6.1, (w (s6.2 + 1)))) else some (.inl (s6.1, (w (s6.2 + 1))))) else some (.inr (.inr ()))
def p_X5_numbersRise (M : Mm) (a0 a1 : Int) : Option Int := (some ((rd M a0 3))).bind fun v1 => gd (v1 ≠ 0) ((some ((ln v1))).bind fun v4 => (lp (b_X5_numbersRise_14 v4 v1 M a1) 1000 ((-1), 0)).bind (Sum.elim some fun (t7 : Unit) => some (1)))
set_option maxRecDepth 100000 in
set_option maxHeartbeats 4000000 in
theorem xe_X5_numbersRise {D : Dt} {M : Mm} {a0 a1 : Int} (h0 : a0 ≠ 0) : XE D 0 mu_X5_numbersRise (EP 0 M) 0 [(0, (9, a0)), (1, (10, a1))] [] M (p_X5_numbersRise M a0 a1) := by
  unfold p_X5_numbersRise
  refine XE.go (st_iconst (n := (-1)) (pc' := 1) (by decide +kernel) (w_eq (by decide) (by decide)) rfl) ?_
  refine XE.go (st_istore_n (j := 2) (i := 2) (pc' := 2) (by decide +kernel) rfl rfl (by decide) rfl rfl) ?_
  refine XE.go (st_aload_n (j := 0) (i := 0) (pc' := 3) (by decide +kernel) rfl rfl (by decide) rfl) ?_
  refine XE.go (st_get (pc' := 6) (by decide +kernel) rfl cls_5 fld_RX5_19 rfl rfl h0) ?_
  refine XE.gen (fun v1 e2 => ?_)
  refine XE.go (st_astore_n (j := 3) (i := 3) (pc' := 7) (by decide +kernel) rfl (by decide) rfl (by decide) rfl rfl) ?_
  refine XE.go (st_aload_n (j := 3) (i := 3) (pc' := 8) (by decide +kernel) rfl rfl (by decide) rfl) ?_
  refine XE.gd_ (fun g3 => ?_)
  refine XE.go (st_alen (k := 20) (pc' := 9) (by decide +kernel) rfl ak_20 rfl (by decide) g3) ?_
  refine XE.gen (fun v4 e5 => ?_)
  refine XE.go (st_istore (j := 4) (pc' := 11) (by decide +kernel)  rfl (by decide) rfl rfl) ?_
  refine XE.go (st_iconst (n := 0) (pc' := 12) (by decide +kernel) (w_eq (by decide) (by decide)) rfl) ?_
  refine XE.go (st_istore (j := 5) (pc' := 14) (by decide +kernel)  rfl (by decide) rfl rfl) ?_
  refine XE.pick [5, 3, 2, 1, 0] (L' := [(1, (10, a1)), (2, (0, (-1))), (3, (23, v1)), (4, (0, v4)), (5, (0, 0))]) rfl ?_
  refine XE.loopX (n := 1000) (s0 := ((-1), 0)) (pcL := 14) (pcE := 80) (LL := fun (s6 : Int × Int) => [(1, (10, a1)), (2, (0, s6.1)), (3, (23, v1)), (4, (0, v4)), (5, (0, s6.2))]) (sL := fun _ => []) (ML := fun (s6 : Int × Int) => M) (LE := fun (t7 : Unit) => []) (sE := fun _ => []) (ME := fun (t7 : Unit) => M) (fun kk34 hx33 hc31 he32 s6 => ?_) (fun t7 => ?_)
  · unfold b_X5_numbersRise_14
    refine XE.go (st_iload (j := 5) (pc' := 16) (by decide +kernel) rfl rfl) ?_
    refine XE.go (st_iload (j := 4) (pc' := 18) (by decide +kernel) rfl rfl) ?_
    refine XE.bite (fun h35 => ?_) (fun h36 => ?_)
    · refine XE.go (st_icmp_ge_f (off := 62) (pc' := 21) (by decide +kernel) 80 (by decide) rfl (Int.not_le.mpr h35)) ?_
      refine XE.go (st_aload_n (j := 3) (i := 3) (pc' := 22) (by decide +kernel) rfl rfl (by decide) rfl) ?_
      refine XE.go (st_iload (j := 5) (pc' := 24) (by decide +kernel) rfl rfl) ?_
      refine XE.gdb (fun g37 => ?_)
      refine XE.go (st_ald (k := 20) (tp := 8) (pc' := 25) (by decide +kernel) rfl ak_20 rfl (by decide) rfl (Or.inr (Or.inr (Or.inr ⟨rfl, rfl⟩))) g37.1 g37.2.1 g37.2.2) ?_
      refine XE.asc ?_
      refine XE.gen (fun v38 e39 => ?_)
      refine XE.go (st_astore (j := 6) (pc' := 27) (by decide +kernel)  (by decide) rfl (by decide) rfl rfl) ?_
      refine XE.go (st_aload (j := 6) (pc' := 29) (by decide +kernel) rfl (by decide) rfl) ?_
      refine XE.bite (fun h40 => ?_) (fun h41 => ?_)
      · refine XE.go (st_ifnull_t (off := 45) (pc' := 74) (by decide +kernel) (by decide) h40 (by decide)) ?_
        refine XE.go (st_iinc (j := 5) (n := 1) (pc' := 77) (by decide +kernel) rfl rfl (by decide) rfl rfl) ?_
        refine XE.go (st_goto (off := (-63)) (pc' := 14) (by decide +kernel) (by decide)) ?_
        exact XE.pick [2, 3, 4, 5, 0] rfl (hc31 (s6.1, (w (s6.2 + 1))))
      · refine XE.go (st_ifnull_f (off := 45) (pc' := 32) (by decide +kernel) (by decide) h41 rfl) ?_
        refine XE.go (st_aload (j := 6) (pc' := 34) (by decide +kernel) rfl (by decide) rfl) ?_
        refine XE.go (st_get (pc' := 37) (by decide +kernel) rfl cls_4 fld_RX5_104 rfl rfl h41) ?_
        refine XE.go (st_aload_n (j := 1) (i := 1) (pc' := 38) (by decide +kernel) rfl rfl (by decide) rfl) ?_
        refine XE.bite (fun h42 => ?_) (fun h43 => ?_)
        · refine XE.go (st_acmp_ne_f (off := 36) (pc' := 41) (by decide +kernel) 74 (by decide) (by decide) (by decide) h42 rfl) ?_
          refine XE.go (st_aload (j := 6) (pc' := 43) (by decide +kernel) rfl (by decide) rfl) ?_
          refine XE.asc ?_
          refine XE.cP (pc' := 46) (st := []) (fun r hr => ct_X4_isDelayed h41 r hr) (fun r hr => run_V (st := []) (by decide +kernel) co_X5_numbersRise_108 (ct_X4_isDelayed h41 r hr) rfl h41 rfl rfl (Nat.le_of_ble_eq_true rfl)) rfl rfl (fun r44 => ?_)
          refine XE.bite (fun h45 => ?_) (fun h46 => ?_)
          · refine XE.go (st_if_ne_f (off := 28) (pc' := 49) (by decide +kernel) 74 (by decide) rfl (not_not_intro h45)) ?_
            refine XE.go (st_aload (j := 6) (pc' := 51) (by decide +kernel) rfl (by decide) rfl) ?_
            refine XE.asc ?_
            refine XE.cP (pc' := 54) (st := []) (fun r hr => ct_X4_isPlainOrCommitted h41 r hr) (fun r hr => run_V (st := []) (by decide +kernel) co_X5_numbersRise_84 (ct_X4_isPlainOrCommitted h41 r hr) rfl h41 rfl rfl (Nat.le_of_ble_eq_true rfl)) rfl rfl (fun r47 => ?_)
            refine XE.bite (fun h48 => ?_) (fun h49 => ?_)
            · refine XE.go (st_if_eq_t (off := 20) (pc' := 74) (by decide +kernel) (by decide) h48) ?_
              refine XE.go (st_iinc (j := 5) (n := 1) (pc' := 77) (by decide +kernel) rfl rfl (by decide) rfl rfl) ?_
              refine XE.go (st_goto (off := (-63)) (pc' := 14) (by decide +kernel) (by decide)) ?_
              exact XE.pick [2, 3, 4, 5, 0] rfl (hc31 (s6.1, (w (s6.2 + 1))))
            · refine XE.go (st_if_eq_f (off := 20) (pc' := 57) (by decide +kernel) 74 (by decide) rfl h49) ?_
              refine XE.go (st_aload (j := 6) (pc' := 59) (by decide +kernel) rfl (by decide) rfl) ?_
              refine XE.go (st_get (pc' := 62) (by decide +kernel) rfl cls_4 fld_RX5_111 rfl rfl h41) ?_
              refine XE.go (st_iload_n (j := 2) (i := 2) (pc' := 63) (by decide +kernel) rfl rfl rfl) ?_
              refine XE.bite (fun h50 => ?_) (fun h51 => ?_)
              · refine XE.go (st_icmp_gt_t (off := 5) (pc' := 68) (by decide +kernel) (by decide) h50) ?_
                refine XE.go (st_aload (j := 6) (pc' := 70) (by decide +kernel) rfl (by decide) rfl) ?_
                refine XE.go (st_get (pc' := 73) (by decide +kernel) rfl cls_4 fld_RX5_111 rfl rfl h41) ?_
                refine XE.asc ?_
                refine XE.gen (fun v52 e53 => ?_)
                refine XE.go (st_istore_n (j := 2) (i := 2) (pc' := 74) (by decide +kernel) rfl rfl (by decide) rfl rfl) ?_
                refine XE.go (st_iinc (j := 5) (n := 1) (pc' := 77) (by decide +kernel) rfl rfl (by decide) rfl rfl) ?_
                refine XE.go (st_goto (off := (-63)) (pc' := 14) (by decide +kernel) (by decide)) ?_
                exact XE.pick [3, 1, 4, 5, 0] rfl (hc31 (v52, (w (s6.2 + 1))))
              · refine XE.go (st_icmp_gt_f (off := 5) (pc' := 66) (by decide +kernel) 68 (by decide) rfl h51) ?_
                refine XE.go (st_iconst (n := 0) (pc' := 67) (by decide +kernel) (w_eq (by decide) (by decide)) rfl) ?_
                refine XE.cast (hx33 _) ?_
                exact XE.rt rfl (X_zret (by decide +kernel) rfl (by decide))
          · refine XE.go (st_if_ne_t (off := 28) (pc' := 74) (by decide +kernel) (by decide) h46) ?_
            refine XE.go (st_iinc (j := 5) (n := 1) (pc' := 77) (by decide +kernel) rfl rfl (by decide) rfl rfl) ?_
            refine XE.go (st_goto (off := (-63)) (pc' := 14) (by decide +kernel) (by decide)) ?_
            exact XE.pick [2, 3, 4, 5, 0] rfl (hc31 (s6.1, (w (s6.2 + 1))))
        · refine XE.go (st_acmp_ne_t (off := 36) (pc' := 74) (by decide +kernel) (by decide) (by decide) h43 (by decide)) ?_
          refine XE.go (st_iinc (j := 5) (n := 1) (pc' := 77) (by decide +kernel) rfl rfl (by decide) rfl rfl) ?_
          refine XE.go (st_goto (off := (-63)) (pc' := 14) (by decide +kernel) (by decide)) ?_
          exact XE.pick [2, 3, 4, 5, 0] rfl (hc31 (s6.1, (w (s6.2 + 1))))
    · refine XE.go (st_icmp_ge_t (off := 62) (pc' := 80) (by decide +kernel) (by decide) (Int.not_lt.mp h36)) ?_
      exact XE.pick [] rfl (he32 ())
  · refine XE.go (st_iconst (n := 1) (pc' := 81) (by decide +kernel) (w_eq (by decide) (by decide)) rfl) ?_
    exact XE.rt rfl (X_zret (by decide +kernel) rfl (by decide))
theorem ct_X5_numbersRise {D : Dt} {M : Mm} {a0 a1 : Int} (h0 : a0 ≠ 0) (r : Int) (hr : p_X5_numbersRise M a0 a1 = some r) : CT D 0 mu_X5_numbersRise [(9, a0), (10, a1)] M (.inl (some (0, r))) M := CT.of (by decide +kernel) rfl (Nat.le_of_ble_eq_true rfl) (xe_X5_numbersRise h0 r hr)
def b_X10_producersHold_34 (v68 : Int) (v65 : Int) (M : Mm) (v63 : Int) (s70 : Int) : Option ((Int) ⊕ (((Int) ⊕ ((Int) ⊕ (Unit))) ⊕ (Unit))) := if s70 < v68 then gd (aok v65 s70) ((some ((rd M v65 s70))).bind fun v95 => if v63 = 0 then some (.inl (w (s70 + 1))) else if v95 = 0 then some (.inl (w (s70 + 1))) else (p_X5_numbersRise M v95 v63).bind fun r101 => if r101 = 0 then some (.inr (.inl (.inr (.inl (0))))) else some (.inl (w (s70 + 1)))) else some (.inr (.inr ()))
def b_X10_producersHold_10 (v4 : Int) (v1 : Int) (M : Mm) (a0 : Int) (s6 : Int) : Option ((Int) ⊕ ((Int) ⊕ (Unit))) := if s6 < v4 then gd (aok v1 s6) ((some ((rd M v1 s6))).bind fun v63 => (some ((rd M a0 1))).bind fun v65 => gd (v65 ≠ 0) ((some ((ln v65))).bind fun v68 => (lp (b_X10_producersHold_34 v68 v65 M v63) 1000 0).bind (Sum.elim some fun (t71 : Unit) => some (.inl (w (s6 + 1)))))) else some (.inr (.inr ()))
def p_X10_producersHold (M : Mm) (a0 : Int) : Option Int := (some ((rd M a0 2))).bind fun v1 => gd (v1 ≠ 0) ((some ((ln v1))).bind fun v4 => (lp (b_X10_producersHold_10 v4 v1 M a0) 1000 0).bind (Sum.elim some fun (t7 : Unit) => some (1)))
set_option maxRecDepth 100000 in
set_option maxHeartbeats 4000000 in
theorem xe_X10_producersHold {D : Dt} {M : Mm} {a0 : Int} (h0 : a0 ≠ 0) : XE D 0 mu_X10_producersHold (EP 0 M) 0 [(0, (14, a0))] [] M (p_X10_producersHold M a0) := by
  unfold p_X10_producersHold
  refine XE.go (st_aload_n (j := 0) (i := 0) (pc' := 1) (by decide +kernel) rfl rfl (by decide) rfl) ?_
  refine XE.go (st_get (pc' := 4) (by decide +kernel) rfl cls_10 fld_RX10_23 rfl rfl h0) ?_
  refine XE.gen (fun v1 e2 => ?_)
  refine XE.go (st_astore_n (j := 1) (i := 1) (pc' := 5) (by decide +kernel) rfl (by decide) rfl (by decide) rfl rfl) ?_
  refine XE.go (st_aload_n (j := 1) (i := 1) (pc' := 6) (by decide +kernel) rfl rfl (by decide) rfl) ?_
  refine XE.gd_ (fun g3 => ?_)
  refine XE.go (st_alen (k := 22) (pc' := 7) (by decide +kernel) rfl ak_22 rfl (by decide) g3) ?_
  refine XE.gen (fun v4 e5 => ?_)
  refine XE.go (st_istore_n (j := 2) (i := 2) (pc' := 8) (by decide +kernel) rfl rfl (by decide) rfl rfl) ?_
  refine XE.go (st_iconst (n := 0) (pc' := 9) (by decide +kernel) (w_eq (by decide) (by decide)) rfl) ?_
  refine XE.go (st_istore_n (j := 3) (i := 3) (pc' := 10) (by decide +kernel) rfl rfl (by decide) rfl rfl) ?_
  refine XE.pick [3, 2, 1, 0] (L' := [(0, (14, a0)), (1, (25, v1)), (2, (0, v4)), (3, (0, 0))]) rfl ?_
  refine XE.loopX (n := 1000) (s0 := 0) (pcL := 10) (pcE := 82) (LL := fun (s6 : Int) => [(0, (14, a0)), (1, (25, v1)), (2, (0, v4)), (3, (0, s6))]) (sL := fun _ => []) (ML := fun (s6 : Int) => M) (LE := fun (t7 : Unit) => []) (sE := fun _ => []) (ME := fun (t7 : Unit) => M) (fun kk59 hx58 hc56 he57 s6 => ?_) (fun t7 => ?_)
  · unfold b_X10_producersHold_10
    refine XE.go (st_iload_n (j := 3) (i := 3) (pc' := 11) (by decide +kernel) rfl rfl rfl) ?_
    refine XE.go (st_iload_n (j := 2) (i := 2) (pc' := 12) (by decide +kernel) rfl rfl rfl) ?_
    refine XE.bite (fun h60 => ?_) (fun h61 => ?_)
    · refine XE.go (st_icmp_ge_f (off := 70) (pc' := 15) (by decide +kernel) 82 (by decide) rfl (Int.not_le.mpr h60)) ?_
      refine XE.go (st_aload_n (j := 1) (i := 1) (pc' := 16) (by decide +kernel) rfl rfl (by decide) rfl) ?_
      refine XE.go (st_iload_n (j := 3) (i := 3) (pc' := 17) (by decide +kernel) rfl rfl rfl) ?_
      refine XE.gdb (fun g62 => ?_)
      refine XE.go (st_ald (k := 22) (tp := 10) (pc' := 18) (by decide +kernel) rfl ak_22 rfl (by decide) rfl (Or.inr (Or.inr (Or.inr ⟨rfl, rfl⟩))) g62.1 g62.2.1 g62.2.2) ?_
      refine XE.asc ?_
      refine XE.gen (fun v63 e64 => ?_)
      refine XE.go (st_astore (j := 4) (pc' := 20) (by decide +kernel)  (by decide) rfl (by decide) rfl rfl) ?_
      refine XE.go (st_aload_n (j := 0) (i := 0) (pc' := 21) (by decide +kernel) rfl rfl (by decide) rfl) ?_
      refine XE.go (st_get (pc' := 24) (by decide +kernel) rfl cls_10 fld_RX10_17 rfl rfl h0) ?_
      refine XE.asc ?_
      refine XE.gen (fun v65 e66 => ?_)
      refine XE.go (st_astore (j := 5) (pc' := 26) (by decide +kernel)  (by decide) rfl (by decide) rfl rfl) ?_
      refine XE.go (st_aload (j := 5) (pc' := 28) (by decide +kernel) rfl (by decide) rfl) ?_
      refine XE.gdb (fun g67 => ?_)
      refine XE.go (st_alen (k := 21) (pc' := 29) (by decide +kernel) rfl ak_21 rfl (by decide) g67) ?_
      refine XE.asc ?_
      refine XE.gen (fun v68 e69 => ?_)
      refine XE.go (st_istore (j := 6) (pc' := 31) (by decide +kernel)  rfl (by decide) rfl rfl) ?_
      refine XE.go (st_iconst (n := 0) (pc' := 32) (by decide +kernel) (w_eq (by decide) (by decide)) rfl) ?_
      refine XE.go (st_istore (j := 7) (pc' := 34) (by decide +kernel)  rfl (by decide) rfl rfl) ?_
      refine XE.pick [4, 5, 6, 7, 3, 2, 1, 0] (L' := [(0, (14, a0)), (1, (25, v1)), (2, (0, v4)), (3, (0, s6)), (4, (10, v63)), (5, (24, v65)), (6, (0, v68)), (7, (0, 0))]) rfl ?_
      refine XE.ascX ?_
      refine XE.loopX (n := 1000) (s0 := 0) (pcL := 34) (pcE := 76) (LL := fun (s70 : Int) => [(0, (14, a0)), (1, (25, v1)), (2, (0, v4)), (3, (0, s6)), (4, (10, v63)), (5, (24, v65)), (6, (0, v68)), (7, (0, s70))]) (sL := fun _ => []) (ML := fun (s70 : Int) => M) (LE := fun (t71 : Unit) => [(0, (14, a0)), (1, (25, v1)), (2, (0, v4)), (3, (0, s6))]) (sE := fun _ => []) (ME := fun (t71 : Unit) => M) (fun kk91 hx90 hc88 he89 s70 => ?_) (fun t71 => ?_)
      · unfold b_X10_producersHold_34
        refine XE.go (st_iload (j := 7) (pc' := 36) (by decide +kernel) rfl rfl) ?_
        refine XE.go (st_iload (j := 6) (pc' := 38) (by decide +kernel) rfl rfl) ?_
        refine XE.bite (fun h92 => ?_) (fun h93 => ?_)
        · refine XE.go (st_icmp_ge_f (off := 38) (pc' := 41) (by decide +kernel) 76 (by decide) rfl (Int.not_le.mpr h92)) ?_
          refine XE.go (st_aload (j := 5) (pc' := 43) (by decide +kernel) rfl (by decide) rfl) ?_
          refine XE.go (st_iload (j := 7) (pc' := 45) (by decide +kernel) rfl rfl) ?_
          refine XE.gdb (fun g94 => ?_)
          refine XE.go (st_ald (k := 21) (tp := 9) (pc' := 46) (by decide +kernel) rfl ak_21 rfl (by decide) rfl (Or.inr (Or.inr (Or.inr ⟨rfl, rfl⟩))) g94.1 g94.2.1 g94.2.2) ?_
          refine XE.asc ?_
          refine XE.gen (fun v95 e96 => ?_)
          refine XE.go (st_astore (j := 8) (pc' := 48) (by decide +kernel)  (by decide) rfl (by decide) rfl rfl) ?_
          refine XE.go (st_aload (j := 4) (pc' := 50) (by decide +kernel) rfl (by decide) rfl) ?_
          refine XE.bite (fun h97 => ?_) (fun h98 => ?_)
          · refine XE.go (st_ifnull_t (off := 20) (pc' := 70) (by decide +kernel) (by decide) h97 (by decide)) ?_
            refine XE.go (st_iinc (j := 7) (n := 1) (pc' := 73) (by decide +kernel) rfl rfl (by decide) rfl rfl) ?_
            refine XE.go (st_goto (off := (-39)) (pc' := 34) (by decide +kernel) (by decide)) ?_
            exact XE.pick [2, 3, 4, 5, 6, 7, 8, 0] rfl (hc88 (w (s70 + 1)))
          · refine XE.go (st_ifnull_f (off := 20) (pc' := 53) (by decide +kernel) (by decide) h98 rfl) ?_
            refine XE.go (st_aload (j := 8) (pc' := 55) (by decide +kernel) rfl (by decide) rfl) ?_
            refine XE.bite (fun h99 => ?_) (fun h100 => ?_)
            · refine XE.go (st_ifnull_t (off := 15) (pc' := 70) (by decide +kernel) (by decide) h99 (by decide)) ?_
              refine XE.go (st_iinc (j := 7) (n := 1) (pc' := 73) (by decide +kernel) rfl rfl (by decide) rfl rfl) ?_
              refine XE.go (st_goto (off := (-39)) (pc' := 34) (by decide +kernel) (by decide)) ?_
              exact XE.pick [2, 3, 4, 5, 6, 7, 8, 0] rfl (hc88 (w (s70 + 1)))
            · refine XE.go (st_ifnull_f (off := 15) (pc' := 58) (by decide +kernel) (by decide) h100 rfl) ?_
              refine XE.go (st_aload (j := 8) (pc' := 60) (by decide +kernel) rfl (by decide) rfl) ?_
              refine XE.go (st_aload (j := 4) (pc' := 62) (by decide +kernel) rfl (by decide) rfl) ?_
              refine XE.asc ?_
              refine XE.cP (pc' := 65) (st := []) (fun r hr => ct_X5_numbersRise h100 r hr) (fun r hr => run_V (st := []) (by decide +kernel) co_X10_producersHold_598 (ct_X5_numbersRise h100 r hr) rfl h100 rfl rfl (Nat.le_of_ble_eq_true rfl)) rfl rfl (fun r101 => ?_)
              refine XE.bite (fun h102 => ?_) (fun h103 => ?_)
              · refine XE.go (st_if_ne_f (off := 5) (pc' := 68) (by decide +kernel) 70 (by decide) rfl (not_not_intro h102)) ?_
                refine XE.go (st_iconst (n := 0) (pc' := 69) (by decide +kernel) (w_eq (by decide) (by decide)) rfl) ?_
                refine XE.cast (hx90 _) ?_
                refine XE.cast (hx58 _) ?_
                exact XE.rt rfl (X_zret (by decide +kernel) rfl (by decide))
              · refine XE.go (st_if_ne_t (off := 5) (pc' := 70) (by decide +kernel) (by decide) h103) ?_
                refine XE.go (st_iinc (j := 7) (n := 1) (pc' := 73) (by decide +kernel) rfl rfl (by decide) rfl rfl) ?_
                refine XE.go (st_goto (off := (-39)) (pc' := 34) (by decide +kernel) (by decide)) ?_
                exact XE.pick [2, 3, 4, 5, 6, 7, 8, 0] rfl (hc88 (w (s70 + 1)))
        · refine XE.go (st_icmp_ge_t (off := 38) (pc' := 76) (by decide +kernel) (by decide) (Int.not_lt.mp h93)) ?_
          exact XE.pick [0, 1, 2, 3] rfl (he89 ())
      · refine XE.go (st_iinc (j := 3) (n := 1) (pc' := 79) (by decide +kernel) rfl rfl (by decide) rfl rfl) ?_
        refine XE.go (st_goto (off := (-69)) (pc' := 10) (by decide +kernel) (by decide)) ?_
        exact XE.pick [1, 2, 3, 0] rfl (hc56 (w (s6 + 1)))
    · refine XE.go (st_icmp_ge_t (off := 70) (pc' := 82) (by decide +kernel) (by decide) (Int.not_lt.mp h61)) ?_
      exact XE.pick [] rfl (he57 ())
  · refine XE.go (st_iconst (n := 1) (pc' := 83) (by decide +kernel) (w_eq (by decide) (by decide)) rfl) ?_
    exact XE.rt rfl (X_zret (by decide +kernel) rfl (by decide))
theorem ct_X10_producersHold {D : Dt} {M : Mm} {a0 : Int} (h0 : a0 ≠ 0) (r : Int) (hr : p_X10_producersHold M a0 = some r) : CT D 0 mu_X10_producersHold [(14, a0)] M (.inl (some (0, r))) M := CT.of (by decide +kernel) rfl (Nat.le_of_ble_eq_true rfl) (xe_X10_producersHold h0 r hr)
def b_X10_wasDelivered_11 (v4 : Int) (v1 : Int) (M : Mm) (a1 : Int) (s6 : Int) : Option ((Int) ⊕ ((Int) ⊕ (Unit))) := if s6 < v4 then gd (aok v1 s6) ((some ((rd M v1 s6))).bind fun v35 => (if v35 = 0 then some (0) else (p_X0_knownLetter M v35 a1).bind fun r43 => some (r43) : Option (Int)).bind fun (s37 : Int) => if s37 = 0 then some (.inl (w (s6 + 1))) else if 0 < (rd M s37 5) then some (.inr (.inl (1))) else some (.inl (w (s6 + 1)))) else some (.inr (.inr ()))
def p_X10_wasDelivered (M : Mm) (a0 a1 : Int) : Option Int := (some ((rd M a0 3))).bind fun v1 => gd (v1 ≠ 0) ((some ((ln v1))).bind fun v4 => (lp (b_X10_wasDelivered_11 v4 v1 M a1) 1000 0).bind (Sum.elim some fun (t7 : Unit) => some (0)))
set_option maxRecDepth 100000 in
set_option maxHeartbeats 4000000 in
theorem xe_X10_wasDelivered {D : Dt} {M : Mm} {a0 a1 : Int} (h0 : a0 ≠ 0) : XE D 0 mu_X10_wasDelivered (EP 0 M) 0 [(0, (14, a0)), (1, (8, a1))] [] M (p_X10_wasDelivered M a0 a1) := by
  unfold p_X10_wasDelivered
  refine XE.go (st_aload_n (j := 0) (i := 0) (pc' := 1) (by decide +kernel) rfl rfl (by decide) rfl) ?_
  refine XE.go (st_get (pc' := 4) (by decide +kernel) rfl cls_10 fld_RX10_29 rfl rfl h0) ?_
  refine XE.gen (fun v1 e2 => ?_)
  refine XE.go (st_astore_n (j := 2) (i := 2) (pc' := 5) (by decide +kernel) rfl (by decide) rfl (by decide) rfl rfl) ?_
  refine XE.go (st_aload_n (j := 2) (i := 2) (pc' := 6) (by decide +kernel) rfl rfl (by decide) rfl) ?_
  refine XE.gd_ (fun g3 => ?_)
  refine XE.go (st_alen (k := 16) (pc' := 7) (by decide +kernel) rfl ak_16 rfl (by decide) g3) ?_
  refine XE.gen (fun v4 e5 => ?_)
  refine XE.go (st_istore_n (j := 3) (i := 3) (pc' := 8) (by decide +kernel) rfl rfl (by decide) rfl rfl) ?_
  refine XE.go (st_iconst (n := 0) (pc' := 9) (by decide +kernel) (w_eq (by decide) (by decide)) rfl) ?_
  refine XE.go (st_istore (j := 4) (pc' := 11) (by decide +kernel)  rfl (by decide) rfl rfl) ?_
  refine XE.pick [4, 2, 1, 0] (L' := [(1, (8, a1)), (2, (19, v1)), (3, (0, v4)), (4, (0, 0))]) rfl ?_
  refine XE.loopX (n := 1000) (s0 := 0) (pcL := 11) (pcE := 61) (LL := fun (s6 : Int) => [(1, (8, a1)), (2, (19, v1)), (3, (0, v4)), (4, (0, s6))]) (sL := fun _ => []) (ML := fun (s6 : Int) => M) (LE := fun (t7 : Unit) => []) (sE := fun _ => []) (ME := fun (t7 : Unit) => M) (fun kk31 hx30 hc28 he29 s6 => ?_) (fun t7 => ?_)
  · unfold b_X10_wasDelivered_11
    refine XE.go (st_iload (j := 4) (pc' := 13) (by decide +kernel) rfl rfl) ?_
    refine XE.go (st_iload_n (j := 3) (i := 3) (pc' := 14) (by decide +kernel) rfl rfl rfl) ?_
    refine XE.bite (fun h32 => ?_) (fun h33 => ?_)
    · refine XE.go (st_icmp_ge_f (off := 47) (pc' := 17) (by decide +kernel) 61 (by decide) rfl (Int.not_le.mpr h32)) ?_
      refine XE.go (st_aload_n (j := 2) (i := 2) (pc' := 18) (by decide +kernel) rfl rfl (by decide) rfl) ?_
      refine XE.go (st_iload (j := 4) (pc' := 20) (by decide +kernel) rfl rfl) ?_
      refine XE.gdb (fun g34 => ?_)
      refine XE.go (st_ald (k := 16) (tp := 4) (pc' := 21) (by decide +kernel) rfl ak_16 rfl (by decide) rfl (Or.inr (Or.inr (Or.inr ⟨rfl, rfl⟩))) g34.1 g34.2.1 g34.2.2) ?_
      refine XE.asc ?_
      refine XE.gen (fun v35 e36 => ?_)
      refine XE.go (st_astore (j := 5) (pc' := 23) (by decide +kernel)  (by decide) rfl (by decide) rfl rfl) ?_
      refine XE.go (st_aload (j := 5) (pc' := 25) (by decide +kernel) rfl (by decide) rfl) ?_
      refine XE.asc ?_
      refine XE.join (pcJ := 38) (LJ := fun (s37 : Int) => [(1, (8, a1)), (2, (19, v1)), (3, (0, v4)), (4, (0, s6))]) (sJ := fun (s37 : Int) => [(5, s37)]) (MJ := fun (s37 : Int) => M) (fun kk40 hk38 => ?_) (fun s37 => ?_)
      · refine XE.bite (fun h41 => ?_) (fun h42 => ?_)
        · refine XE.go (st_ifnonnull_f (off := 7) (pc' := 28) (by decide +kernel) (by decide) h41 rfl) ?_
          refine XE.go (st_null (t := 5) (pc' := 29) (by decide +kernel) (by decide) rfl) ?_
          refine XE.go (st_goto (off := 9) (pc' := 38) (by decide +kernel) (by decide)) ?_
          exact XE.pick [1, 2, 3, 4] rfl (hk38 0)
        · refine XE.go (st_ifnonnull_t (off := 7) (pc' := 32) (by decide +kernel) (by decide) h42 (by decide)) ?_
          refine XE.go (st_aload (j := 5) (pc' := 34) (by decide +kernel) rfl (by decide) rfl) ?_
          refine XE.go (st_aload_n (j := 1) (i := 1) (pc' := 35) (by decide +kernel) rfl rfl (by decide) rfl) ?_
          refine XE.asc ?_
          refine XE.cP (pc' := 38) (st := []) (fun r hr => ct_X0_knownLetter h42 r hr) (fun r hr => run_V (st := []) (by decide +kernel) co_X10_wasDelivered_542 (ct_X0_knownLetter h42 r hr) rfl h42 rfl rfl (Nat.le_of_ble_eq_true rfl)) rfl rfl (fun r43 => ?_)
          exact XE.pick [1, 2, 3, 4] rfl (hk38 r43)
      · refine XE.go (st_astore (j := 6) (pc' := 40) (by decide +kernel)  (by decide) rfl (by decide) rfl rfl) ?_
        refine XE.go (st_aload (j := 6) (pc' := 42) (by decide +kernel) rfl (by decide) rfl) ?_
        refine XE.bite (fun h44 => ?_) (fun h45 => ?_)
        · refine XE.go (st_ifnull_t (off := 13) (pc' := 55) (by decide +kernel) (by decide) h44 (by decide)) ?_
          refine XE.go (st_iinc (j := 4) (n := 1) (pc' := 58) (by decide +kernel) rfl rfl (by decide) rfl rfl) ?_
          refine XE.go (st_goto (off := (-47)) (pc' := 11) (by decide +kernel) (by decide)) ?_
          exact XE.pick [2, 3, 4, 0] rfl (hc28 (w (s6 + 1)))
        · refine XE.go (st_ifnull_f (off := 13) (pc' := 45) (by decide +kernel) (by decide) h45 rfl) ?_
          refine XE.go (st_aload (j := 6) (pc' := 47) (by decide +kernel) rfl (by decide) rfl) ?_
          refine XE.go (st_get (pc' := 50) (by decide +kernel) rfl cls_1 fld_RX10_546 rfl rfl h45) ?_
          refine XE.bite (fun h46 => ?_) (fun h47 => ?_)
          · refine XE.go (st_if_le_f (off := 5) (pc' := 53) (by decide +kernel) 55 (by decide) rfl (Int.not_le.mpr h46)) ?_
            refine XE.go (st_iconst (n := 1) (pc' := 54) (by decide +kernel) (w_eq (by decide) (by decide)) rfl) ?_
            refine XE.cast (hx30 _) ?_
            exact XE.rt rfl (X_zret (by decide +kernel) rfl (by decide))
          · refine XE.go (st_if_le_t (off := 5) (pc' := 55) (by decide +kernel) (by decide) (Int.not_lt.mp h47)) ?_
            refine XE.go (st_iinc (j := 4) (n := 1) (pc' := 58) (by decide +kernel) rfl rfl (by decide) rfl rfl) ?_
            refine XE.go (st_goto (off := (-47)) (pc' := 11) (by decide +kernel) (by decide)) ?_
            exact XE.pick [2, 3, 4, 0] rfl (hc28 (w (s6 + 1)))
    · refine XE.go (st_icmp_ge_t (off := 47) (pc' := 61) (by decide +kernel) (by decide) (Int.not_lt.mp h33)) ?_
      exact XE.pick [] rfl (he29 ())
  · refine XE.go (st_iconst (n := 0) (pc' := 62) (by decide +kernel) (w_eq (by decide) (by decide)) rfl) ?_
    exact XE.rt rfl (X_zret (by decide +kernel) rfl (by decide))
theorem ct_X10_wasDelivered {D : Dt} {M : Mm} {a0 a1 : Int} (h0 : a0 ≠ 0) (r : Int) (hr : p_X10_wasDelivered M a0 a1 = some r) : CT D 0 mu_X10_wasDelivered [(14, a0), (8, a1)] M (.inl (some (0, r))) M := CT.of (by decide +kernel) rfl (Nat.le_of_ble_eq_true rfl) (xe_X10_wasDelivered h0 r hr)
def p_X10_transactionHolds (M : Mm) (a0 a1 : Int) : Option Int := gd (a1 ≠ 0) ((if (rd M a1 7) = 2 then if (rd M a1 8) = 2 then some (.inl (0)) else some (.inr ()) else some (.inr ()) : Option ((Int) ⊕ (Unit))).bind (Sum.elim some fun (s2 : Unit) => if (rd M a1 7) = 3 then some (1) else (p_X10_wasDelivered M a0 a1).bind fun r19 => if r19 = 0 then some (1) else (p_X4_canBeRead M a1).bind fun r22 => if r22 = 0 then some (0) else some (1)))
set_option maxRecDepth 100000 in
set_option maxHeartbeats 4000000 in
theorem xe_X10_transactionHolds {D : Dt} {M : Mm} {a0 a1 : Int} (h0 : a0 ≠ 0) : XE D 0 mu_X10_transactionHolds (EP 0 M) 0 [(0, (14, a0)), (1, (8, a1))] [] M (p_X10_transactionHolds M a0 a1) := by
  unfold p_X10_transactionHolds
  refine XE.go (st_aload_n (j := 1) (i := 1) (pc' := 1) (by decide +kernel) rfl rfl (by decide) rfl) ?_
  refine XE.gd_ (fun g1 => ?_)
  refine XE.go (st_get (pc' := 4) (by decide +kernel) rfl cls_4 fld_RX10_138 rfl rfl g1) ?_
  refine XE.go (st_iconst (n := 2) (pc' := 5) (by decide +kernel) (w_eq (by decide) (by decide)) rfl) ?_
  refine XE.joinX (pcJ := 18) (LJ := fun (s2 : Unit) => [(0, (14, a0)), (1, (8, a1))]) (sJ := fun (s2 : Unit) => []) (MJ := fun (s2 : Unit) => M) (fun kk12 hx11 hk10 => ?_) (fun s2 => ?_)
  · refine XE.bite (fun h13 => ?_) (fun h14 => ?_)
    · refine XE.go (st_icmp_ne_f (off := 13) (pc' := 8) (by decide +kernel) 18 (by decide) rfl (not_not_intro h13)) ?_
      refine XE.go (st_aload_n (j := 1) (i := 1) (pc' := 9) (by decide +kernel) rfl rfl (by decide) rfl) ?_
      refine XE.go (st_get (pc' := 12) (by decide +kernel) rfl cls_4 fld_RX10_141 rfl rfl g1) ?_
      refine XE.go (st_iconst (n := 2) (pc' := 13) (by decide +kernel) (w_eq (by decide) (by decide)) rfl) ?_
      refine XE.bite (fun h15 => ?_) (fun h16 => ?_)
      · refine XE.go (st_icmp_ne_f (off := 5) (pc' := 16) (by decide +kernel) 18 (by decide) rfl (not_not_intro h15)) ?_
        refine XE.go (st_iconst (n := 0) (pc' := 17) (by decide +kernel) (w_eq (by decide) (by decide)) rfl) ?_
        refine XE.cast (hx11 _) ?_
        exact XE.rt rfl (X_zret (by decide +kernel) rfl (by decide))
      · refine XE.go (st_icmp_ne_t (off := 5) (pc' := 18) (by decide +kernel) (by decide) h16) ?_
        exact hk10 ()
    · refine XE.go (st_icmp_ne_t (off := 13) (pc' := 18) (by decide +kernel) (by decide) h14) ?_
      exact hk10 ()
  · refine XE.go (st_aload_n (j := 1) (i := 1) (pc' := 19) (by decide +kernel) rfl rfl (by decide) rfl) ?_
    refine XE.go (st_get (pc' := 22) (by decide +kernel) rfl cls_4 fld_RX10_138 rfl rfl g1) ?_
    refine XE.go (st_iconst (n := 3) (pc' := 23) (by decide +kernel) (w_eq (by decide) (by decide)) rfl) ?_
    refine XE.ite (fun h17 => ?_) (fun h18 => ?_)
    · refine XE.go (st_icmp_eq_t (off := 18) (pc' := 41) (by decide +kernel) (by decide) h17) ?_
      refine XE.go (st_iconst (n := 1) (pc' := 42) (by decide +kernel) (w_eq (by decide) (by decide)) rfl) ?_
      refine XE.go (st_goto (off := 4) (pc' := 46) (by decide +kernel) (by decide)) ?_
      exact XE.rt rfl (X_zret (by decide +kernel) rfl (by decide))
    · refine XE.go (st_icmp_eq_f (off := 18) (pc' := 26) (by decide +kernel) 41 (by decide) rfl h18) ?_
      refine XE.go (st_aload_n (j := 0) (i := 0) (pc' := 27) (by decide +kernel) rfl rfl (by decide) rfl) ?_
      refine XE.go (st_aload_n (j := 1) (i := 1) (pc' := 28) (by decide +kernel) rfl rfl (by decide) rfl) ?_
      refine XE.cP (pc' := 31) (st := []) (fun r hr => ct_X10_wasDelivered h0 r hr) (fun r hr => run_V (st := []) (by decide +kernel) co_X10_transactionHolds_606 (ct_X10_wasDelivered h0 r hr) rfl h0 rfl rfl (Nat.le_of_ble_eq_true rfl)) rfl rfl (fun r19 => ?_)
      refine XE.ite (fun h20 => ?_) (fun h21 => ?_)
      · refine XE.go (st_if_eq_t (off := 10) (pc' := 41) (by decide +kernel) (by decide) h20) ?_
        refine XE.go (st_iconst (n := 1) (pc' := 42) (by decide +kernel) (w_eq (by decide) (by decide)) rfl) ?_
        refine XE.go (st_goto (off := 4) (pc' := 46) (by decide +kernel) (by decide)) ?_
        exact XE.rt rfl (X_zret (by decide +kernel) rfl (by decide))
      · refine XE.go (st_if_eq_f (off := 10) (pc' := 34) (by decide +kernel) 41 (by decide) rfl h21) ?_
        refine XE.go (st_aload_n (j := 1) (i := 1) (pc' := 35) (by decide +kernel) rfl rfl (by decide) rfl) ?_
        refine XE.cP (pc' := 38) (st := []) (fun r hr => ct_X4_canBeRead g1 r hr) (fun r hr => run_V (st := []) (by decide +kernel) co_X10_transactionHolds_478 (ct_X4_canBeRead g1 r hr) rfl g1 rfl rfl (Nat.le_of_ble_eq_true rfl)) rfl rfl (fun r22 => ?_)
        refine XE.ite (fun h23 => ?_) (fun h24 => ?_)
        · refine XE.go (st_if_eq_t (off := 7) (pc' := 45) (by decide +kernel) (by decide) h23) ?_
          refine XE.go (st_iconst (n := 0) (pc' := 46) (by decide +kernel) (w_eq (by decide) (by decide)) rfl) ?_
          exact XE.rt rfl (X_zret (by decide +kernel) rfl (by decide))
        · refine XE.go (st_if_eq_f (off := 7) (pc' := 41) (by decide +kernel) 45 (by decide) rfl h24) ?_
          refine XE.go (st_iconst (n := 1) (pc' := 42) (by decide +kernel) (w_eq (by decide) (by decide)) rfl) ?_
          refine XE.go (st_goto (off := 4) (pc' := 46) (by decide +kernel) (by decide)) ?_
          exact XE.rt rfl (X_zret (by decide +kernel) rfl (by decide))
theorem ct_X10_transactionHolds {D : Dt} {M : Mm} {a0 a1 : Int} (h0 : a0 ≠ 0) (r : Int) (hr : p_X10_transactionHolds M a0 a1 = some r) : CT D 0 mu_X10_transactionHolds [(14, a0), (8, a1)] M (.inl (some (0, r))) M := CT.of (by decide +kernel) rfl (Nat.le_of_ble_eq_true rfl) (xe_X10_transactionHolds h0 r hr)
def b_X10_transactionsHold_10 (v4 : Int) (v1 : Int) (M : Mm) (a0 : Int) (s6 : Int) : Option ((Int) ⊕ ((Int) ⊕ (Unit))) := if s6 < v4 then gd (aok v1 s6) ((some ((rd M v1 s6))).bind fun v29 => if v29 = 0 then some (.inl (w (s6 + 1))) else (p_X10_transactionHolds M a0 v29).bind fun r33 => if r33 = 0 then some (.inr (.inl (0))) else some (.inl (w (s6 + 1)))) else some (.inr (.inr ()))
def p_X10_transactionsHold (M : Mm) (a0 : Int) : Option Int := (some ((rd M a0 4))).bind fun v1 => gd (v1 ≠ 0) ((some ((ln v1))).bind fun v4 => (lp (b_X10_transactionsHold_10 v4 v1 M a0) 1000 0).bind (Sum.elim some fun (t7 : Unit) => some (1)))
set_option maxRecDepth 100000 in
set_option maxHeartbeats 4000000 in
theorem xe_X10_transactionsHold {D : Dt} {M : Mm} {a0 : Int} (h0 : a0 ≠ 0) : XE D 0 mu_X10_transactionsHold (EP 0 M) 0 [(0, (14, a0))] [] M (p_X10_transactionsHold M a0) := by
  unfold p_X10_transactionsHold
  refine XE.go (st_aload_n (j := 0) (i := 0) (pc' := 1) (by decide +kernel) rfl rfl (by decide) rfl) ?_
  refine XE.go (st_get (pc' := 4) (by decide +kernel) rfl cls_10 fld_RX10_35 rfl rfl h0) ?_
  refine XE.gen (fun v1 e2 => ?_)
  refine XE.go (st_astore_n (j := 1) (i := 1) (pc' := 5) (by decide +kernel) rfl (by decide) rfl (by decide) rfl rfl) ?_
  refine XE.go (st_aload_n (j := 1) (i := 1) (pc' := 6) (by decide +kernel) rfl rfl (by decide) rfl) ?_
  refine XE.gd_ (fun g3 => ?_)
  refine XE.go (st_alen (k := 20) (pc' := 7) (by decide +kernel) rfl ak_20 rfl (by decide) g3) ?_
  refine XE.gen (fun v4 e5 => ?_)
  refine XE.go (st_istore_n (j := 2) (i := 2) (pc' := 8) (by decide +kernel) rfl rfl (by decide) rfl rfl) ?_
  refine XE.go (st_iconst (n := 0) (pc' := 9) (by decide +kernel) (w_eq (by decide) (by decide)) rfl) ?_
  refine XE.go (st_istore_n (j := 3) (i := 3) (pc' := 10) (by decide +kernel) rfl rfl (by decide) rfl rfl) ?_
  refine XE.pick [3, 2, 1, 0] (L' := [(0, (14, a0)), (1, (23, v1)), (2, (0, v4)), (3, (0, 0))]) rfl ?_
  refine XE.loopX (n := 1000) (s0 := 0) (pcL := 10) (pcE := 42) (LL := fun (s6 : Int) => [(0, (14, a0)), (1, (23, v1)), (2, (0, v4)), (3, (0, s6))]) (sL := fun _ => []) (ML := fun (s6 : Int) => M) (LE := fun (t7 : Unit) => []) (sE := fun _ => []) (ME := fun (t7 : Unit) => M) (fun kk25 hx24 hc22 he23 s6 => ?_) (fun t7 => ?_)
  · unfold b_X10_transactionsHold_10
    refine XE.go (st_iload_n (j := 3) (i := 3) (pc' := 11) (by decide +kernel) rfl rfl rfl) ?_
    refine XE.go (st_iload_n (j := 2) (i := 2) (pc' := 12) (by decide +kernel) rfl rfl rfl) ?_
    refine XE.bite (fun h26 => ?_) (fun h27 => ?_)
    · refine XE.go (st_icmp_ge_f (off := 30) (pc' := 15) (by decide +kernel) 42 (by decide) rfl (Int.not_le.mpr h26)) ?_
      refine XE.go (st_aload_n (j := 1) (i := 1) (pc' := 16) (by decide +kernel) rfl rfl (by decide) rfl) ?_
      refine XE.go (st_iload_n (j := 3) (i := 3) (pc' := 17) (by decide +kernel) rfl rfl rfl) ?_
      refine XE.gdb (fun g28 => ?_)
      refine XE.go (st_ald (k := 20) (tp := 8) (pc' := 18) (by decide +kernel) rfl ak_20 rfl (by decide) rfl (Or.inr (Or.inr (Or.inr ⟨rfl, rfl⟩))) g28.1 g28.2.1 g28.2.2) ?_
      refine XE.asc ?_
      refine XE.gen (fun v29 e30 => ?_)
      refine XE.go (st_astore (j := 4) (pc' := 20) (by decide +kernel)  (by decide) rfl (by decide) rfl rfl) ?_
      refine XE.go (st_aload (j := 4) (pc' := 22) (by decide +kernel) rfl (by decide) rfl) ?_
      refine XE.bite (fun h31 => ?_) (fun h32 => ?_)
      · refine XE.go (st_ifnull_t (off := 14) (pc' := 36) (by decide +kernel) (by decide) h31 (by decide)) ?_
        refine XE.go (st_iinc (j := 3) (n := 1) (pc' := 39) (by decide +kernel) rfl rfl (by decide) rfl rfl) ?_
        refine XE.go (st_goto (off := (-29)) (pc' := 10) (by decide +kernel) (by decide)) ?_
        exact XE.pick [2, 3, 4, 0] rfl (hc22 (w (s6 + 1)))
      · refine XE.go (st_ifnull_f (off := 14) (pc' := 25) (by decide +kernel) (by decide) h32 rfl) ?_
        refine XE.go (st_aload_n (j := 0) (i := 0) (pc' := 26) (by decide +kernel) rfl rfl (by decide) rfl) ?_
        refine XE.go (st_aload (j := 4) (pc' := 28) (by decide +kernel) rfl (by decide) rfl) ?_
        refine XE.asc ?_
        refine XE.cP (pc' := 31) (st := []) (fun r hr => ct_X10_transactionHolds h0 r hr) (fun r hr => run_V (st := []) (by decide +kernel) co_X10_transactionsHold_602 (ct_X10_transactionHolds h0 r hr) rfl h0 rfl rfl (Nat.le_of_ble_eq_true rfl)) rfl rfl (fun r33 => ?_)
        refine XE.bite (fun h34 => ?_) (fun h35 => ?_)
        · refine XE.go (st_if_ne_f (off := 5) (pc' := 34) (by decide +kernel) 36 (by decide) rfl (not_not_intro h34)) ?_
          refine XE.go (st_iconst (n := 0) (pc' := 35) (by decide +kernel) (w_eq (by decide) (by decide)) rfl) ?_
          refine XE.cast (hx24 _) ?_
          exact XE.rt rfl (X_zret (by decide +kernel) rfl (by decide))
        · refine XE.go (st_if_ne_t (off := 5) (pc' := 36) (by decide +kernel) (by decide) h35) ?_
          refine XE.go (st_iinc (j := 3) (n := 1) (pc' := 39) (by decide +kernel) rfl rfl (by decide) rfl rfl) ?_
          refine XE.go (st_goto (off := (-29)) (pc' := 10) (by decide +kernel) (by decide)) ?_
          exact XE.pick [2, 3, 4, 0] rfl (hc22 (w (s6 + 1)))
    · refine XE.go (st_icmp_ge_t (off := 30) (pc' := 42) (by decide +kernel) (by decide) (Int.not_lt.mp h27)) ?_
      exact XE.pick [] rfl (he23 ())
  · refine XE.go (st_iconst (n := 1) (pc' := 43) (by decide +kernel) (w_eq (by decide) (by decide)) rfl) ?_
    exact XE.rt rfl (X_zret (by decide +kernel) rfl (by decide))
theorem ct_X10_transactionsHold {D : Dt} {M : Mm} {a0 : Int} (h0 : a0 ≠ 0) (r : Int) (hr : p_X10_transactionsHold M a0 = some r) : CT D 0 mu_X10_transactionsHold [(14, a0)] M (.inl (some (0, r))) M := CT.of (by decide +kernel) rfl (Nat.le_of_ble_eq_true rfl) (xe_X10_transactionsHold h0 r hr)
def b_X0_orderHolds_47 (v84 : Int) (v81 : Int) (M : Mm) (v75 : Int) (s86 : Int) : Option ((Int) ⊕ (((Int) ⊕ ((Int) ⊕ (Unit))) ⊕ (Unit))) := if s86 < v84 then gd (aok v81 s86) ((some ((rd M v81 s86))).bind fun v115 => if v115 = 0 then some (.inl (w (s86 + 1))) else if (rd M v75 6) < (rd M v115 6) then (p_X1_isOfRow M v115 (rd M v75 0)).bind fun r121 => if r121 = 0 then some (.inl (w (s86 + 1))) else gd ((rd M v115 0) ≠ 0) (gd ((rd M v75 0) ≠ 0) (if (rd M (rd M v75 0) 9) < (rd M (rd M v115 0) 9) then some (.inl (w (s86 + 1))) else some (.inr (.inl (.inr (.inl (0))))))) else some (.inl (w (s86 + 1)))) else some (.inr (.inr ()))
def b_X0_orderHolds_10 (v4 : Int) (v1 : Int) (M : Mm) (a0 : Int) (s6 : Int) : Option ((Int) ⊕ ((Int) ⊕ (Unit))) := if s6 < v4 then gd (aok v1 s6) ((some ((rd M v1 s6))).bind fun v75 => if v75 = 0 then some (.inl (w (s6 + 1))) else if 0 < (rd M v75 6) then (some ((rd M a0 2))).bind fun v81 => gd (v81 ≠ 0) ((some ((ln v81))).bind fun v84 => (lp (b_X0_orderHolds_47 v84 v81 M v75) 1000 0).bind (Sum.elim some fun (t87 : Unit) => some (.inl (w (s6 + 1))))) else some (.inl (w (s6 + 1)))) else some (.inr (.inr ()))
def p_X0_orderHolds (M : Mm) (a0 : Int) : Option Int := (some ((rd M a0 2))).bind fun v1 => gd (v1 ≠ 0) ((some ((ln v1))).bind fun v4 => (lp (b_X0_orderHolds_10 v4 v1 M a0) 1000 0).bind (Sum.elim some fun (t7 : Unit) => some (1)))
set_option maxRecDepth 100000 in
set_option maxHeartbeats 4000000 in
theorem xe_X0_orderHolds {D : Dt} {M : Mm} {a0 : Int} (h0 : a0 ≠ 0) : XE D 0 mu_X0_orderHolds (EP 0 M) 0 [(0, (4, a0))] [] M (p_X0_orderHolds M a0) := by
  unfold p_X0_orderHolds
  refine XE.go (st_aload_n (j := 0) (i := 0) (pc' := 1) (by decide +kernel) rfl rfl (by decide) rfl) ?_
  refine XE.go (st_get (pc' := 4) (by decide +kernel) rfl cls_0 fld_RX0_25 rfl rfl h0) ?_
  refine XE.gen (fun v1 e2 => ?_)
  refine XE.go (st_astore_n (j := 1) (i := 1) (pc' := 5) (by decide +kernel) rfl (by decide) rfl (by decide) rfl rfl) ?_
  refine XE.go (st_aload_n (j := 1) (i := 1) (pc' := 6) (by decide +kernel) rfl rfl (by decide) rfl) ?_
  refine XE.gd_ (fun g3 => ?_)
  refine XE.go (st_alen (k := 17) (pc' := 7) (by decide +kernel) rfl ak_17 rfl (by decide) g3) ?_
  refine XE.gen (fun v4 e5 => ?_)
  refine XE.go (st_istore_n (j := 2) (i := 2) (pc' := 8) (by decide +kernel) rfl rfl (by decide) rfl rfl) ?_
  refine XE.go (st_iconst (n := 0) (pc' := 9) (by decide +kernel) (w_eq (by decide) (by decide)) rfl) ?_
  refine XE.go (st_istore_n (j := 3) (i := 3) (pc' := 10) (by decide +kernel) rfl rfl (by decide) rfl rfl) ?_
  refine XE.pick [3, 2, 1, 0] (L' := [(0, (4, a0)), (1, (20, v1)), (2, (0, v4)), (3, (0, 0))]) rfl ?_
  refine XE.loopX (n := 1000) (s0 := 0) (pcL := 10) (pcE := 125) (LL := fun (s6 : Int) => [(0, (4, a0)), (1, (20, v1)), (2, (0, v4)), (3, (0, s6))]) (sL := fun _ => []) (ML := fun (s6 : Int) => M) (LE := fun (t7 : Unit) => []) (sE := fun _ => []) (ME := fun (t7 : Unit) => M) (fun kk71 hx70 hc68 he69 s6 => ?_) (fun t7 => ?_)
  · unfold b_X0_orderHolds_10
    refine XE.go (st_iload_n (j := 3) (i := 3) (pc' := 11) (by decide +kernel) rfl rfl rfl) ?_
    refine XE.go (st_iload_n (j := 2) (i := 2) (pc' := 12) (by decide +kernel) rfl rfl rfl) ?_
    refine XE.bite (fun h72 => ?_) (fun h73 => ?_)
    · refine XE.go (st_icmp_ge_f (off := 113) (pc' := 15) (by decide +kernel) 125 (by decide) rfl (Int.not_le.mpr h72)) ?_
      refine XE.go (st_aload_n (j := 1) (i := 1) (pc' := 16) (by decide +kernel) rfl rfl (by decide) rfl) ?_
      refine XE.go (st_iload_n (j := 3) (i := 3) (pc' := 17) (by decide +kernel) rfl rfl rfl) ?_
      refine XE.gdb (fun g74 => ?_)
      refine XE.go (st_ald (k := 17) (tp := 5) (pc' := 18) (by decide +kernel) rfl ak_17 rfl (by decide) rfl (Or.inr (Or.inr (Or.inr ⟨rfl, rfl⟩))) g74.1 g74.2.1 g74.2.2) ?_
      refine XE.asc ?_
      refine XE.gen (fun v75 e76 => ?_)
      refine XE.go (st_astore (j := 4) (pc' := 20) (by decide +kernel)  (by decide) rfl (by decide) rfl rfl) ?_
      refine XE.go (st_aload (j := 4) (pc' := 22) (by decide +kernel) rfl (by decide) rfl) ?_
      refine XE.bite (fun h77 => ?_) (fun h78 => ?_)
      · refine XE.go (st_ifnull_t (off := 97) (pc' := 119) (by decide +kernel) (by decide) h77 (by decide)) ?_
        refine XE.go (st_iinc (j := 3) (n := 1) (pc' := 122) (by decide +kernel) rfl rfl (by decide) rfl rfl) ?_
        refine XE.go (st_goto (off := (-112)) (pc' := 10) (by decide +kernel) (by decide)) ?_
        exact XE.pick [2, 3, 4, 0] rfl (hc68 (w (s6 + 1)))
      · refine XE.go (st_ifnull_f (off := 97) (pc' := 25) (by decide +kernel) (by decide) h78 rfl) ?_
        refine XE.go (st_aload (j := 4) (pc' := 27) (by decide +kernel) rfl (by decide) rfl) ?_
        refine XE.go (st_get (pc' := 30) (by decide +kernel) rfl cls_1 fld_RX0_231 rfl rfl h78) ?_
        refine XE.bite (fun h79 => ?_) (fun h80 => ?_)
        · refine XE.go (st_if_le_f (off := 89) (pc' := 33) (by decide +kernel) 119 (by decide) rfl (Int.not_le.mpr h79)) ?_
          refine XE.go (st_aload_n (j := 0) (i := 0) (pc' := 34) (by decide +kernel) rfl rfl (by decide) rfl) ?_
          refine XE.go (st_get (pc' := 37) (by decide +kernel) rfl cls_0 fld_RX0_25 rfl rfl h0) ?_
          refine XE.asc ?_
          refine XE.gen (fun v81 e82 => ?_)
          refine XE.go (st_astore (j := 5) (pc' := 39) (by decide +kernel)  (by decide) rfl (by decide) rfl rfl) ?_
          refine XE.go (st_aload (j := 5) (pc' := 41) (by decide +kernel) rfl (by decide) rfl) ?_
          refine XE.gdb (fun g83 => ?_)
          refine XE.go (st_alen (k := 17) (pc' := 42) (by decide +kernel) rfl ak_17 rfl (by decide) g83) ?_
          refine XE.asc ?_
          refine XE.gen (fun v84 e85 => ?_)
          refine XE.go (st_istore (j := 6) (pc' := 44) (by decide +kernel)  rfl (by decide) rfl rfl) ?_
          refine XE.go (st_iconst (n := 0) (pc' := 45) (by decide +kernel) (w_eq (by decide) (by decide)) rfl) ?_
          refine XE.go (st_istore (j := 7) (pc' := 47) (by decide +kernel)  rfl (by decide) rfl rfl) ?_
          refine XE.pick [4, 5, 6, 7, 3, 2, 1, 0] (L' := [(0, (4, a0)), (1, (20, v1)), (2, (0, v4)), (3, (0, s6)), (4, (5, v75)), (5, (20, v81)), (6, (0, v84)), (7, (0, 0))]) rfl ?_
          refine XE.ascX ?_
          refine XE.loopX (n := 1000) (s0 := 0) (pcL := 47) (pcE := 119) (LL := fun (s86 : Int) => [(0, (4, a0)), (1, (20, v1)), (2, (0, v4)), (3, (0, s6)), (4, (5, v75)), (5, (20, v81)), (6, (0, v84)), (7, (0, s86))]) (sL := fun _ => []) (ML := fun (s86 : Int) => M) (LE := fun (t87 : Unit) => [(0, (4, a0)), (1, (20, v1)), (2, (0, v4)), (3, (0, s6))]) (sE := fun _ => []) (ME := fun (t87 : Unit) => M) (fun kk111 hx110 hc108 he109 s86 => ?_) (fun t87 => ?_)
          · unfold b_X0_orderHolds_47
            refine XE.go (st_iload (j := 7) (pc' := 49) (by decide +kernel) rfl rfl) ?_
            refine XE.go (st_iload (j := 6) (pc' := 51) (by decide +kernel) rfl rfl) ?_
            refine XE.bite (fun h112 => ?_) (fun h113 => ?_)
            · refine XE.go (st_icmp_ge_f (off := 68) (pc' := 54) (by decide +kernel) 119 (by decide) rfl (Int.not_le.mpr h112)) ?_
              refine XE.go (st_aload (j := 5) (pc' := 56) (by decide +kernel) rfl (by decide) rfl) ?_
              refine XE.go (st_iload (j := 7) (pc' := 58) (by decide +kernel) rfl rfl) ?_
              refine XE.gdb (fun g114 => ?_)
              refine XE.go (st_ald (k := 17) (tp := 5) (pc' := 59) (by decide +kernel) rfl ak_17 rfl (by decide) rfl (Or.inr (Or.inr (Or.inr ⟨rfl, rfl⟩))) g114.1 g114.2.1 g114.2.2) ?_
              refine XE.asc ?_
              refine XE.gen (fun v115 e116 => ?_)
              refine XE.go (st_astore (j := 8) (pc' := 61) (by decide +kernel)  (by decide) rfl (by decide) rfl rfl) ?_
              refine XE.go (st_aload (j := 8) (pc' := 63) (by decide +kernel) rfl (by decide) rfl) ?_
              refine XE.bite (fun h117 => ?_) (fun h118 => ?_)
              · refine XE.go (st_ifnull_t (off := 50) (pc' := 113) (by decide +kernel) (by decide) h117 (by decide)) ?_
                refine XE.go (st_iinc (j := 7) (n := 1) (pc' := 116) (by decide +kernel) rfl rfl (by decide) rfl rfl) ?_
                refine XE.go (st_goto (off := (-69)) (pc' := 47) (by decide +kernel) (by decide)) ?_
                exact XE.pick [2, 3, 4, 5, 6, 7, 8, 0] rfl (hc108 (w (s86 + 1)))
              · refine XE.go (st_ifnull_f (off := 50) (pc' := 66) (by decide +kernel) (by decide) h118 rfl) ?_
                refine XE.go (st_aload (j := 8) (pc' := 68) (by decide +kernel) rfl (by decide) rfl) ?_
                refine XE.go (st_get (pc' := 71) (by decide +kernel) rfl cls_1 fld_RX0_231 rfl rfl h118) ?_
                refine XE.go (st_aload (j := 4) (pc' := 73) (by decide +kernel) rfl (by decide) rfl) ?_
                refine XE.go (st_get (pc' := 76) (by decide +kernel) rfl cls_1 fld_RX0_231 rfl rfl h78) ?_
                refine XE.bite (fun h119 => ?_) (fun h120 => ?_)
                · refine XE.go (st_icmp_le_f (off := 37) (pc' := 79) (by decide +kernel) 113 (by decide) rfl (Int.not_le.mpr h119)) ?_
                  refine XE.go (st_aload (j := 8) (pc' := 81) (by decide +kernel) rfl (by decide) rfl) ?_
                  refine XE.go (st_aload (j := 4) (pc' := 83) (by decide +kernel) rfl (by decide) rfl) ?_
                  refine XE.go (st_get (pc' := 86) (by decide +kernel) rfl cls_1 fld_RX0_156 rfl rfl h78) ?_
                  refine XE.asc ?_
                  refine XE.cP (pc' := 89) (st := []) (fun r hr => ct_X1_isOfRow h118 r hr) (fun r hr => run_V (st := []) (by decide +kernel) co_X0_orderHolds_241 (ct_X1_isOfRow h118 r hr) rfl h118 rfl rfl (Nat.le_of_ble_eq_true rfl)) rfl rfl (fun r121 => ?_)
                  refine XE.bite (fun h122 => ?_) (fun h123 => ?_)
                  · refine XE.go (st_if_eq_t (off := 24) (pc' := 113) (by decide +kernel) (by decide) h122) ?_
                    refine XE.go (st_iinc (j := 7) (n := 1) (pc' := 116) (by decide +kernel) rfl rfl (by decide) rfl rfl) ?_
                    refine XE.go (st_goto (off := (-69)) (pc' := 47) (by decide +kernel) (by decide)) ?_
                    exact XE.pick [2, 3, 4, 5, 6, 7, 8, 0] rfl (hc108 (w (s86 + 1)))
                  · refine XE.go (st_if_eq_f (off := 24) (pc' := 92) (by decide +kernel) 113 (by decide) rfl h123) ?_
                    refine XE.go (st_aload (j := 8) (pc' := 94) (by decide +kernel) rfl (by decide) rfl) ?_
                    refine XE.go (st_get (pc' := 97) (by decide +kernel) rfl cls_1 fld_RX0_156 rfl rfl h118) ?_
                    refine XE.gdb (fun g124 => ?_)
                    refine XE.go (st_get (pc' := 100) (by decide +kernel) rfl cls_4 fld_RX0_208 rfl rfl g124) ?_
                    refine XE.go (st_aload (j := 4) (pc' := 102) (by decide +kernel) rfl (by decide) rfl) ?_
                    refine XE.go (st_get (pc' := 105) (by decide +kernel) rfl cls_1 fld_RX0_156 rfl rfl h78) ?_
                    refine XE.gdb (fun g125 => ?_)
                    refine XE.go (st_get (pc' := 108) (by decide +kernel) rfl cls_4 fld_RX0_208 rfl rfl g125) ?_
                    refine XE.bite (fun h126 => ?_) (fun h127 => ?_)
                    · refine XE.go (st_icmp_gt_t (off := 5) (pc' := 113) (by decide +kernel) (by decide) h126) ?_
                      refine XE.go (st_iinc (j := 7) (n := 1) (pc' := 116) (by decide +kernel) rfl rfl (by decide) rfl rfl) ?_
                      refine XE.go (st_goto (off := (-69)) (pc' := 47) (by decide +kernel) (by decide)) ?_
                      exact XE.pick [2, 3, 4, 5, 6, 7, 8, 0] rfl (hc108 (w (s86 + 1)))
                    · refine XE.go (st_icmp_gt_f (off := 5) (pc' := 111) (by decide +kernel) 113 (by decide) rfl h127) ?_
                      refine XE.go (st_iconst (n := 0) (pc' := 112) (by decide +kernel) (w_eq (by decide) (by decide)) rfl) ?_
                      refine XE.cast (hx110 _) ?_
                      refine XE.cast (hx70 _) ?_
                      exact XE.rt rfl (X_zret (by decide +kernel) rfl (by decide))
                · refine XE.go (st_icmp_le_t (off := 37) (pc' := 113) (by decide +kernel) (by decide) (Int.not_lt.mp h120)) ?_
                  refine XE.go (st_iinc (j := 7) (n := 1) (pc' := 116) (by decide +kernel) rfl rfl (by decide) rfl rfl) ?_
                  refine XE.go (st_goto (off := (-69)) (pc' := 47) (by decide +kernel) (by decide)) ?_
                  exact XE.pick [2, 3, 4, 5, 6, 7, 8, 0] rfl (hc108 (w (s86 + 1)))
            · refine XE.go (st_icmp_ge_t (off := 68) (pc' := 119) (by decide +kernel) (by decide) (Int.not_lt.mp h113)) ?_
              exact XE.pick [0, 1, 2, 3] rfl (he109 ())
          · refine XE.go (st_iinc (j := 3) (n := 1) (pc' := 122) (by decide +kernel) rfl rfl (by decide) rfl rfl) ?_
            refine XE.go (st_goto (off := (-112)) (pc' := 10) (by decide +kernel) (by decide)) ?_
            exact XE.pick [1, 2, 3, 0] rfl (hc68 (w (s6 + 1)))
        · refine XE.go (st_if_le_t (off := 89) (pc' := 119) (by decide +kernel) (by decide) (Int.not_lt.mp h80)) ?_
          refine XE.go (st_iinc (j := 3) (n := 1) (pc' := 122) (by decide +kernel) rfl rfl (by decide) rfl rfl) ?_
          refine XE.go (st_goto (off := (-112)) (pc' := 10) (by decide +kernel) (by decide)) ?_
          exact XE.pick [2, 3, 4, 0] rfl (hc68 (w (s6 + 1)))
    · refine XE.go (st_icmp_ge_t (off := 113) (pc' := 125) (by decide +kernel) (by decide) (Int.not_lt.mp h73)) ?_
      exact XE.pick [] rfl (he69 ())
  · refine XE.go (st_iconst (n := 1) (pc' := 126) (by decide +kernel) (w_eq (by decide) (by decide)) rfl) ?_
    exact XE.rt rfl (X_zret (by decide +kernel) rfl (by decide))
theorem ct_X0_orderHolds {D : Dt} {M : Mm} {a0 : Int} (h0 : a0 ≠ 0) (r : Int) (hr : p_X0_orderHolds M a0 = some r) : CT D 0 mu_X0_orderHolds [(4, a0)] M (.inl (some (0, r))) M := CT.of (by decide +kernel) rfl (Nat.le_of_ble_eq_true rfl) (xe_X0_orderHolds h0 r hr)
def b_X10_orderHolds_10 (v4 : Int) (v1 : Int) (M : Mm) (s6 : Int) : Option ((Int) ⊕ ((Int) ⊕ (Unit))) := if s6 < v4 then gd (aok v1 s6) ((some ((rd M v1 s6))).bind fun v29 => if v29 = 0 then some (.inl (w (s6 + 1))) else (p_X0_orderHolds M v29).bind fun r33 => if r33 = 0 then some (.inr (.inl (0))) else some (.inl (w (s6 + 1)))) else some (.inr (.inr ()))
def p_X10_orderHolds (M : Mm) (a0 : Int) : Option Int := (some ((rd M a0 3))).bind fun v1 => gd (v1 ≠ 0) ((some ((ln v1))).bind fun v4 => (lp (b_X10_orderHolds_10 v4 v1 M) 1000 0).bind (Sum.elim some fun (t7 : Unit) => some (1)))
set_option maxRecDepth 100000 in
set_option maxHeartbeats 4000000 in
theorem xe_X10_orderHolds {D : Dt} {M : Mm} {a0 : Int} (h0 : a0 ≠ 0) : XE D 0 mu_X10_orderHolds (EP 0 M) 0 [(0, (14, a0))] [] M (p_X10_orderHolds M a0) := by
  unfold p_X10_orderHolds
  refine XE.go (st_aload_n (j := 0) (i := 0) (pc' := 1) (by decide +kernel) rfl rfl (by decide) rfl) ?_
  refine XE.go (st_get (pc' := 4) (by decide +kernel) rfl cls_10 fld_RX10_29 rfl rfl h0) ?_
  refine XE.gen (fun v1 e2 => ?_)
  refine XE.go (st_astore_n (j := 1) (i := 1) (pc' := 5) (by decide +kernel) rfl (by decide) rfl (by decide) rfl rfl) ?_
  refine XE.go (st_aload_n (j := 1) (i := 1) (pc' := 6) (by decide +kernel) rfl rfl (by decide) rfl) ?_
  refine XE.gd_ (fun g3 => ?_)
  refine XE.go (st_alen (k := 16) (pc' := 7) (by decide +kernel) rfl ak_16 rfl (by decide) g3) ?_
  refine XE.gen (fun v4 e5 => ?_)
  refine XE.go (st_istore_n (j := 2) (i := 2) (pc' := 8) (by decide +kernel) rfl rfl (by decide) rfl rfl) ?_
  refine XE.go (st_iconst (n := 0) (pc' := 9) (by decide +kernel) (w_eq (by decide) (by decide)) rfl) ?_
  refine XE.go (st_istore_n (j := 3) (i := 3) (pc' := 10) (by decide +kernel) rfl rfl (by decide) rfl rfl) ?_
  refine XE.pick [2, 1, 0] (L' := [(1, (19, v1)), (2, (0, v4)), (3, (0, 0))]) rfl ?_
  refine XE.loopX (n := 1000) (s0 := 0) (pcL := 10) (pcE := 41) (LL := fun (s6 : Int) => [(1, (19, v1)), (2, (0, v4)), (3, (0, s6))]) (sL := fun _ => []) (ML := fun (s6 : Int) => M) (LE := fun (t7 : Unit) => []) (sE := fun _ => []) (ME := fun (t7 : Unit) => M) (fun kk25 hx24 hc22 he23 s6 => ?_) (fun t7 => ?_)
  · unfold b_X10_orderHolds_10
    refine XE.go (st_iload_n (j := 3) (i := 3) (pc' := 11) (by decide +kernel) rfl rfl rfl) ?_
    refine XE.go (st_iload_n (j := 2) (i := 2) (pc' := 12) (by decide +kernel) rfl rfl rfl) ?_
    refine XE.bite (fun h26 => ?_) (fun h27 => ?_)
    · refine XE.go (st_icmp_ge_f (off := 29) (pc' := 15) (by decide +kernel) 41 (by decide) rfl (Int.not_le.mpr h26)) ?_
      refine XE.go (st_aload_n (j := 1) (i := 1) (pc' := 16) (by decide +kernel) rfl rfl (by decide) rfl) ?_
      refine XE.go (st_iload_n (j := 3) (i := 3) (pc' := 17) (by decide +kernel) rfl rfl rfl) ?_
      refine XE.gdb (fun g28 => ?_)
      refine XE.go (st_ald (k := 16) (tp := 4) (pc' := 18) (by decide +kernel) rfl ak_16 rfl (by decide) rfl (Or.inr (Or.inr (Or.inr ⟨rfl, rfl⟩))) g28.1 g28.2.1 g28.2.2) ?_
      refine XE.asc ?_
      refine XE.gen (fun v29 e30 => ?_)
      refine XE.go (st_astore (j := 4) (pc' := 20) (by decide +kernel)  (by decide) rfl (by decide) rfl rfl) ?_
      refine XE.go (st_aload (j := 4) (pc' := 22) (by decide +kernel) rfl (by decide) rfl) ?_
      refine XE.bite (fun h31 => ?_) (fun h32 => ?_)
      · refine XE.go (st_ifnull_t (off := 13) (pc' := 35) (by decide +kernel) (by decide) h31 (by decide)) ?_
        refine XE.go (st_iinc (j := 3) (n := 1) (pc' := 38) (by decide +kernel) rfl rfl (by decide) rfl rfl) ?_
        refine XE.go (st_goto (off := (-28)) (pc' := 10) (by decide +kernel) (by decide)) ?_
        exact XE.pick [2, 3, 0] rfl (hc22 (w (s6 + 1)))
      · refine XE.go (st_ifnull_f (off := 13) (pc' := 25) (by decide +kernel) (by decide) h32 rfl) ?_
        refine XE.go (st_aload (j := 4) (pc' := 27) (by decide +kernel) rfl (by decide) rfl) ?_
        refine XE.asc ?_
        refine XE.cP (pc' := 30) (st := []) (fun r hr => ct_X0_orderHolds h32 r hr) (fun r hr => run_V (st := []) (by decide +kernel) co_X10_orderHolds_609 (ct_X0_orderHolds h32 r hr) rfl h32 rfl rfl (Nat.le_of_ble_eq_true rfl)) rfl rfl (fun r33 => ?_)
        refine XE.bite (fun h34 => ?_) (fun h35 => ?_)
        · refine XE.go (st_if_ne_f (off := 5) (pc' := 33) (by decide +kernel) 35 (by decide) rfl (not_not_intro h34)) ?_
          refine XE.go (st_iconst (n := 0) (pc' := 34) (by decide +kernel) (w_eq (by decide) (by decide)) rfl) ?_
          refine XE.cast (hx24 _) ?_
          exact XE.rt rfl (X_zret (by decide +kernel) rfl (by decide))
        · refine XE.go (st_if_ne_t (off := 5) (pc' := 35) (by decide +kernel) (by decide) h35) ?_
          refine XE.go (st_iinc (j := 3) (n := 1) (pc' := 38) (by decide +kernel) rfl rfl (by decide) rfl rfl) ?_
          refine XE.go (st_goto (off := (-28)) (pc' := 10) (by decide +kernel) (by decide)) ?_
          exact XE.pick [2, 3, 0] rfl (hc22 (w (s6 + 1)))
    · refine XE.go (st_icmp_ge_t (off := 29) (pc' := 41) (by decide +kernel) (by decide) (Int.not_lt.mp h27)) ?_
      exact XE.pick [] rfl (he23 ())
  · refine XE.go (st_iconst (n := 1) (pc' := 42) (by decide +kernel) (w_eq (by decide) (by decide)) rfl) ?_
    exact XE.rt rfl (X_zret (by decide +kernel) rfl (by decide))
theorem ct_X10_orderHolds {D : Dt} {M : Mm} {a0 : Int} (h0 : a0 ≠ 0) (r : Int) (hr : p_X10_orderHolds M a0 = some r) : CT D 0 mu_X10_orderHolds [(14, a0)] M (.inl (some (0, r))) M := CT.of (by decide +kernel) rfl (Nat.le_of_ble_eq_true rfl) (xe_X10_orderHolds h0 r hr)
def b_X0_readOffsetsHold_13 (M : Mm) (a1 : Int) (r3 : Int) (a0 : Int) (s6 : Int) : Option ((Int) ⊕ ((Int) ⊕ (Unit))) := if s6 < (rd M a1 3) then (p_X5_readableAt M (rd M a1 0) s6 r3).bind fun r43 => (if r43 = 0 then some (0) else (p_X0_knownLetter M a0 r43).bind fun r50 => some (r50) : Option (Int)).bind fun (s44 : Int) => (if s44 = 0 then some (0) else if 0 < (rd M s44 6) then some (1) else (p_X1_waitsOrIsDead M s44).bind fun r59 => if r59 = 0 then some (0) else some (1) : Option (Int)).bind fun (s51 : Int) => if r43 = 0 then some (.inl (w (s6 + 1))) else if s51 = 0 then some (.inr (.inl (0))) else some (.inl (w (s6 + 1))) else some (.inr (.inr ()))
def p_X0_readOffsetsHold (M : Mm) (a0 a1 : Int) : Option Int := gd (a1 ≠ 0) (gd ((rd M a1 0) ≠ 0) ((p_X5_stableOffset M (rd M a1 0)).bind fun r3 => (some ((rd M a1 5))).bind fun v4 => (lp (b_X0_readOffsetsHold_13 M a1 r3 a0) 1000 v4).bind (Sum.elim some fun (t7 : Unit) => some (1))))
set_option maxRecDepth 100000 in
set_option maxHeartbeats 4000000 in
theorem xe_X0_readOffsetsHold {D : Dt} {M : Mm} {a0 a1 : Int} (h0 : a0 ≠ 0) : XE D 0 mu_X0_readOffsetsHold (EP 0 M) 0 [(0, (4, a0)), (1, (12, a1))] [] M (p_X0_readOffsetsHold M a0 a1) := by
  unfold p_X0_readOffsetsHold
  refine XE.go (st_aload_n (j := 1) (i := 1) (pc' := 1) (by decide +kernel) rfl rfl (by decide) rfl) ?_
  refine XE.gd_ (fun g1 => ?_)
  refine XE.go (st_get (pc' := 4) (by decide +kernel) rfl cls_8 fld_RX0_130 rfl rfl g1) ?_
  refine XE.gd_ (fun g2 => ?_)
  refine XE.cP (pc' := 7) (st := []) (fun r hr => ct_X5_stableOffset g2 r hr) (fun r hr => run_V (st := []) (by decide +kernel) co_X0_readOffsetsHold_215 (ct_X5_stableOffset g2 r hr) rfl g2 rfl rfl (Nat.le_of_ble_eq_true rfl)) rfl rfl (fun r3 => ?_)
  refine XE.go (st_istore_n (j := 2) (i := 2) (pc' := 8) (by decide +kernel) rfl rfl (by decide) rfl rfl) ?_
  refine XE.go (st_aload_n (j := 1) (i := 1) (pc' := 9) (by decide +kernel) rfl rfl (by decide) rfl) ?_
  refine XE.go (st_get (pc' := 12) (by decide +kernel) rfl cls_8 fld_RX0_257 rfl rfl g1) ?_
  refine XE.gen (fun v4 e5 => ?_)
  refine XE.go (st_istore_n (j := 3) (i := 3) (pc' := 13) (by decide +kernel) rfl rfl (by decide) rfl rfl) ?_
  refine XE.pick [2, 3, 1, 0] (L' := [(0, (4, a0)), (1, (12, a1)), (2, (0, r3)), (3, (0, v4))]) rfl ?_
  refine XE.loopX (n := 1000) (s0 := v4) (pcL := 13) (pcE := 95) (LL := fun (s6 : Int) => [(0, (4, a0)), (1, (12, a1)), (2, (0, r3)), (3, (0, s6))]) (sL := fun _ => []) (ML := fun (s6 : Int) => M) (LE := fun (t7 : Unit) => []) (sE := fun _ => []) (ME := fun (t7 : Unit) => M) (fun kk40 hx39 hc37 he38 s6 => ?_) (fun t7 => ?_)
  · unfold b_X0_readOffsetsHold_13
    refine XE.go (st_iload_n (j := 3) (i := 3) (pc' := 14) (by decide +kernel) rfl rfl rfl) ?_
    refine XE.go (st_aload_n (j := 1) (i := 1) (pc' := 15) (by decide +kernel) rfl rfl (by decide) rfl) ?_
    refine XE.go (st_get (pc' := 18) (by decide +kernel) rfl cls_8 fld_RX0_127 rfl rfl g1) ?_
    refine XE.bite (fun h41 => ?_) (fun h42 => ?_)
    · refine XE.go (st_icmp_ge_f (off := 77) (pc' := 21) (by decide +kernel) 95 (by decide) rfl (Int.not_le.mpr h41)) ?_
      refine XE.go (st_aload_n (j := 1) (i := 1) (pc' := 22) (by decide +kernel) rfl rfl (by decide) rfl) ?_
      refine XE.go (st_get (pc' := 25) (by decide +kernel) rfl cls_8 fld_RX0_130 rfl rfl g1) ?_
      refine XE.go (st_iload_n (j := 3) (i := 3) (pc' := 26) (by decide +kernel) rfl rfl rfl) ?_
      refine XE.go (st_iload_n (j := 2) (i := 2) (pc' := 27) (by decide +kernel) rfl rfl rfl) ?_
      refine XE.asc ?_
      refine XE.cP (pc' := 30) (st := []) (fun r hr => ct_X5_readableAt g2 r hr) (fun r hr => run_V (st := []) (by decide +kernel) co_X0_readOffsetsHold_218 (ct_X5_readableAt g2 r hr) rfl g2 rfl rfl (Nat.le_of_ble_eq_true rfl)) rfl rfl (fun r43 => ?_)
      refine XE.go (st_astore (j := 4) (pc' := 32) (by decide +kernel)  (by decide) rfl (by decide) rfl rfl) ?_
      refine XE.go (st_aload (j := 4) (pc' := 34) (by decide +kernel) rfl (by decide) rfl) ?_
      refine XE.asc ?_
      refine XE.join (pcJ := 47) (LJ := fun (s44 : Int) => [(0, (4, a0)), (1, (12, a1)), (2, (0, r3)), (3, (0, s6)), (4, (8, r43))]) (sJ := fun (s44 : Int) => [(5, s44)]) (MJ := fun (s44 : Int) => M) (fun kk47 hk45 => ?_) (fun s44 => ?_)
      · refine XE.bite (fun h48 => ?_) (fun h49 => ?_)
        · refine XE.go (st_ifnonnull_f (off := 7) (pc' := 37) (by decide +kernel) (by decide) h48 rfl) ?_
          refine XE.go (st_null (t := 5) (pc' := 38) (by decide +kernel) (by decide) rfl) ?_
          refine XE.go (st_goto (off := 9) (pc' := 47) (by decide +kernel) (by decide)) ?_
          exact XE.pick [1, 2, 3, 4, 0] rfl (hk45 0)
        · refine XE.go (st_ifnonnull_t (off := 7) (pc' := 41) (by decide +kernel) (by decide) h49 (by decide)) ?_
          refine XE.go (st_aload_n (j := 0) (i := 0) (pc' := 42) (by decide +kernel) rfl rfl (by decide) rfl) ?_
          refine XE.go (st_aload (j := 4) (pc' := 44) (by decide +kernel) rfl (by decide) rfl) ?_
          refine XE.asc ?_
          refine XE.cP (pc' := 47) (st := []) (fun r hr => ct_X0_knownLetter h0 r hr) (fun r hr => run_V (st := []) (by decide +kernel) co_X0_readOffsetsHold_68 (ct_X0_knownLetter h0 r hr) rfl h0 rfl rfl (Nat.le_of_ble_eq_true rfl)) rfl rfl (fun r50 => ?_)
          exact XE.pick [1, 2, 3, 4, 0] rfl (hk45 r50)
      · refine XE.go (st_astore (j := 5) (pc' := 49) (by decide +kernel)  (by decide) rfl (by decide) rfl rfl) ?_
        refine XE.go (st_aload (j := 5) (pc' := 51) (by decide +kernel) rfl (by decide) rfl) ?_
        refine XE.asc ?_
        refine XE.join (pcJ := 75) (LJ := fun (s51 : Int) => [(0, (4, a0)), (1, (12, a1)), (2, (0, r3)), (3, (0, s6)), (4, (8, r43))]) (sJ := fun (s51 : Int) => [(0, s51)]) (MJ := fun (s51 : Int) => M) (fun kk54 hk52 => ?_) (fun s51 => ?_)
        · refine XE.bite (fun h55 => ?_) (fun h56 => ?_)
          · refine XE.go (st_ifnull_t (off := 23) (pc' := 74) (by decide +kernel) (by decide) h55 (by decide)) ?_
            refine XE.go (st_iconst (n := 0) (pc' := 75) (by decide +kernel) (w_eq (by decide) (by decide)) rfl) ?_
            exact XE.pick [1, 2, 3, 4, 5] rfl (hk52 0)
          · refine XE.go (st_ifnull_f (off := 23) (pc' := 54) (by decide +kernel) (by decide) h56 rfl) ?_
            refine XE.go (st_aload (j := 5) (pc' := 56) (by decide +kernel) rfl (by decide) rfl) ?_
            refine XE.go (st_get (pc' := 59) (by decide +kernel) rfl cls_1 fld_RX0_231 rfl rfl h56) ?_
            refine XE.bite (fun h57 => ?_) (fun h58 => ?_)
            · refine XE.go (st_if_gt_t (off := 11) (pc' := 70) (by decide +kernel) (by decide) h57) ?_
              refine XE.go (st_iconst (n := 1) (pc' := 71) (by decide +kernel) (w_eq (by decide) (by decide)) rfl) ?_
              refine XE.go (st_goto (off := 4) (pc' := 75) (by decide +kernel) (by decide)) ?_
              exact XE.pick [1, 2, 3, 4, 5] rfl (hk52 1)
            · refine XE.go (st_if_gt_f (off := 11) (pc' := 62) (by decide +kernel) 70 (by decide) rfl h58) ?_
              refine XE.go (st_aload (j := 5) (pc' := 64) (by decide +kernel) rfl (by decide) rfl) ?_
              refine XE.asc ?_
              refine XE.cP (pc' := 67) (st := []) (fun r hr => ct_X1_waitsOrIsDead h56 r hr) (fun r hr => run_V (st := []) (by decide +kernel) co_X0_readOffsetsHold_249 (ct_X1_waitsOrIsDead h56 r hr) rfl h56 rfl rfl (Nat.le_of_ble_eq_true rfl)) rfl rfl (fun r59 => ?_)
              refine XE.bite (fun h60 => ?_) (fun h61 => ?_)
              · refine XE.go (st_if_eq_t (off := 7) (pc' := 74) (by decide +kernel) (by decide) h60) ?_
                refine XE.go (st_iconst (n := 0) (pc' := 75) (by decide +kernel) (w_eq (by decide) (by decide)) rfl) ?_
                exact XE.pick [1, 2, 3, 4, 5] rfl (hk52 0)
              · refine XE.go (st_if_eq_f (off := 7) (pc' := 70) (by decide +kernel) 74 (by decide) rfl h61) ?_
                refine XE.go (st_iconst (n := 1) (pc' := 71) (by decide +kernel) (w_eq (by decide) (by decide)) rfl) ?_
                refine XE.go (st_goto (off := 4) (pc' := 75) (by decide +kernel) (by decide)) ?_
                exact XE.pick [1, 2, 3, 4, 5] rfl (hk52 1)
        · refine XE.go (st_istore (j := 6) (pc' := 77) (by decide +kernel)  rfl (by decide) rfl rfl) ?_
          refine XE.go (st_aload (j := 4) (pc' := 79) (by decide +kernel) rfl (by decide) rfl) ?_
          refine XE.bite (fun h62 => ?_) (fun h63 => ?_)
          · refine XE.go (st_ifnull_t (off := 10) (pc' := 89) (by decide +kernel) (by decide) h62 (by decide)) ?_
            refine XE.go (st_iinc (j := 3) (n := 1) (pc' := 92) (by decide +kernel) rfl rfl (by decide) rfl rfl) ?_
            refine XE.go (st_goto (off := (-79)) (pc' := 13) (by decide +kernel) (by decide)) ?_
            exact XE.pick [2, 3, 4, 0] rfl (hc37 (w (s6 + 1)))
          · refine XE.go (st_ifnull_f (off := 10) (pc' := 82) (by decide +kernel) (by decide) h63 rfl) ?_
            refine XE.go (st_iload (j := 6) (pc' := 84) (by decide +kernel) rfl rfl) ?_
            refine XE.bite (fun h64 => ?_) (fun h65 => ?_)
            · refine XE.go (st_if_ne_f (off := 5) (pc' := 87) (by decide +kernel) 89 (by decide) rfl (not_not_intro h64)) ?_
              refine XE.go (st_iconst (n := 0) (pc' := 88) (by decide +kernel) (w_eq (by decide) (by decide)) rfl) ?_
              refine XE.cast (hx39 _) ?_
              exact XE.rt rfl (X_zret (by decide +kernel) rfl (by decide))
            · refine XE.go (st_if_ne_t (off := 5) (pc' := 89) (by decide +kernel) (by decide) h65) ?_
              refine XE.go (st_iinc (j := 3) (n := 1) (pc' := 92) (by decide +kernel) rfl rfl (by decide) rfl rfl) ?_
              refine XE.go (st_goto (off := (-79)) (pc' := 13) (by decide +kernel) (by decide)) ?_
              exact XE.pick [2, 3, 4, 0] rfl (hc37 (w (s6 + 1)))
    · refine XE.go (st_icmp_ge_t (off := 77) (pc' := 95) (by decide +kernel) (by decide) (Int.not_lt.mp h42)) ?_
      exact XE.pick [] rfl (he38 ())
  · refine XE.go (st_iconst (n := 1) (pc' := 96) (by decide +kernel) (w_eq (by decide) (by decide)) rfl) ?_
    exact XE.rt rfl (X_zret (by decide +kernel) rfl (by decide))
theorem ct_X0_readOffsetsHold {D : Dt} {M : Mm} {a0 a1 : Int} (h0 : a0 ≠ 0) (r : Int) (hr : p_X0_readOffsetsHold M a0 a1 = some r) : CT D 0 mu_X0_readOffsetsHold [(4, a0), (12, a1)] M (.inl (some (0, r))) M := CT.of (by decide +kernel) rfl (Nat.le_of_ble_eq_true rfl) (xe_X0_readOffsetsHold h0 r hr)
def b_X0_offsetsHold_10 (v4 : Int) (v1 : Int) (M : Mm) (a0 : Int) (s6 : Int) : Option ((Int) ⊕ ((Int) ⊕ (Unit))) := if s6 < v4 then gd (aok v1 s6) ((some ((rd M v1 s6))).bind fun v29 => if v29 = 0 then some (.inl (w (s6 + 1))) else (p_X0_readOffsetsHold M a0 v29).bind fun r33 => if r33 = 0 then some (.inr (.inl (0))) else some (.inl (w (s6 + 1)))) else some (.inr (.inr ()))
def p_X0_offsetsHold (M : Mm) (a0 : Int) : Option Int := (some ((rd M a0 0))).bind fun v1 => gd (v1 ≠ 0) ((some ((ln v1))).bind fun v4 => (lp (b_X0_offsetsHold_10 v4 v1 M a0) 1000 0).bind (Sum.elim some fun (t7 : Unit) => some (1)))
set_option maxRecDepth 100000 in
set_option maxHeartbeats 4000000 in
theorem xe_X0_offsetsHold {D : Dt} {M : Mm} {a0 : Int} (h0 : a0 ≠ 0) : XE D 0 mu_X0_offsetsHold (EP 0 M) 0 [(0, (4, a0))] [] M (p_X0_offsetsHold M a0) := by
  unfold p_X0_offsetsHold
  refine XE.go (st_aload_n (j := 0) (i := 0) (pc' := 1) (by decide +kernel) rfl rfl (by decide) rfl) ?_
  refine XE.go (st_get (pc' := 4) (by decide +kernel) rfl cls_0 fld_RX0_11 rfl rfl h0) ?_
  refine XE.gen (fun v1 e2 => ?_)
  refine XE.go (st_astore_n (j := 1) (i := 1) (pc' := 5) (by decide +kernel) rfl (by decide) rfl (by decide) rfl rfl) ?_
  refine XE.go (st_aload_n (j := 1) (i := 1) (pc' := 6) (by decide +kernel) rfl rfl (by decide) rfl) ?_
  refine XE.gd_ (fun g3 => ?_)
  refine XE.go (st_alen (k := 24) (pc' := 7) (by decide +kernel) rfl ak_24 rfl (by decide) g3) ?_
  refine XE.gen (fun v4 e5 => ?_)
  refine XE.go (st_istore_n (j := 2) (i := 2) (pc' := 8) (by decide +kernel) rfl rfl (by decide) rfl rfl) ?_
  refine XE.go (st_iconst (n := 0) (pc' := 9) (by decide +kernel) (w_eq (by decide) (by decide)) rfl) ?_
  refine XE.go (st_istore_n (j := 3) (i := 3) (pc' := 10) (by decide +kernel) rfl rfl (by decide) rfl rfl) ?_
  refine XE.pick [3, 2, 1, 0] (L' := [(0, (4, a0)), (1, (27, v1)), (2, (0, v4)), (3, (0, 0))]) rfl ?_
  refine XE.loopX (n := 1000) (s0 := 0) (pcL := 10) (pcE := 42) (LL := fun (s6 : Int) => [(0, (4, a0)), (1, (27, v1)), (2, (0, v4)), (3, (0, s6))]) (sL := fun _ => []) (ML := fun (s6 : Int) => M) (LE := fun (t7 : Unit) => []) (sE := fun _ => []) (ME := fun (t7 : Unit) => M) (fun kk25 hx24 hc22 he23 s6 => ?_) (fun t7 => ?_)
  · unfold b_X0_offsetsHold_10
    refine XE.go (st_iload_n (j := 3) (i := 3) (pc' := 11) (by decide +kernel) rfl rfl rfl) ?_
    refine XE.go (st_iload_n (j := 2) (i := 2) (pc' := 12) (by decide +kernel) rfl rfl rfl) ?_
    refine XE.bite (fun h26 => ?_) (fun h27 => ?_)
    · refine XE.go (st_icmp_ge_f (off := 30) (pc' := 15) (by decide +kernel) 42 (by decide) rfl (Int.not_le.mpr h26)) ?_
      refine XE.go (st_aload_n (j := 1) (i := 1) (pc' := 16) (by decide +kernel) rfl rfl (by decide) rfl) ?_
      refine XE.go (st_iload_n (j := 3) (i := 3) (pc' := 17) (by decide +kernel) rfl rfl rfl) ?_
      refine XE.gdb (fun g28 => ?_)
      refine XE.go (st_ald (k := 24) (tp := 12) (pc' := 18) (by decide +kernel) rfl ak_24 rfl (by decide) rfl (Or.inr (Or.inr (Or.inr ⟨rfl, rfl⟩))) g28.1 g28.2.1 g28.2.2) ?_
      refine XE.asc ?_
      refine XE.gen (fun v29 e30 => ?_)
      refine XE.go (st_astore (j := 4) (pc' := 20) (by decide +kernel)  (by decide) rfl (by decide) rfl rfl) ?_
      refine XE.go (st_aload (j := 4) (pc' := 22) (by decide +kernel) rfl (by decide) rfl) ?_
      refine XE.bite (fun h31 => ?_) (fun h32 => ?_)
      · refine XE.go (st_ifnull_t (off := 14) (pc' := 36) (by decide +kernel) (by decide) h31 (by decide)) ?_
        refine XE.go (st_iinc (j := 3) (n := 1) (pc' := 39) (by decide +kernel) rfl rfl (by decide) rfl rfl) ?_
        refine XE.go (st_goto (off := (-29)) (pc' := 10) (by decide +kernel) (by decide)) ?_
        exact XE.pick [2, 3, 4, 0] rfl (hc22 (w (s6 + 1)))
      · refine XE.go (st_ifnull_f (off := 14) (pc' := 25) (by decide +kernel) (by decide) h32 rfl) ?_
        refine XE.go (st_aload_n (j := 0) (i := 0) (pc' := 26) (by decide +kernel) rfl rfl (by decide) rfl) ?_
        refine XE.go (st_aload (j := 4) (pc' := 28) (by decide +kernel) rfl (by decide) rfl) ?_
        refine XE.asc ?_
        refine XE.cP (pc' := 31) (st := []) (fun r hr => ct_X0_readOffsetsHold h0 r hr) (fun r hr => run_V (st := []) (by decide +kernel) co_X0_offsetsHold_253 (ct_X0_readOffsetsHold h0 r hr) rfl h0 rfl rfl (Nat.le_of_ble_eq_true rfl)) rfl rfl (fun r33 => ?_)
        refine XE.bite (fun h34 => ?_) (fun h35 => ?_)
        · refine XE.go (st_if_ne_f (off := 5) (pc' := 34) (by decide +kernel) 36 (by decide) rfl (not_not_intro h34)) ?_
          refine XE.go (st_iconst (n := 0) (pc' := 35) (by decide +kernel) (w_eq (by decide) (by decide)) rfl) ?_
          refine XE.cast (hx24 _) ?_
          exact XE.rt rfl (X_zret (by decide +kernel) rfl (by decide))
        · refine XE.go (st_if_ne_t (off := 5) (pc' := 36) (by decide +kernel) (by decide) h35) ?_
          refine XE.go (st_iinc (j := 3) (n := 1) (pc' := 39) (by decide +kernel) rfl rfl (by decide) rfl rfl) ?_
          refine XE.go (st_goto (off := (-29)) (pc' := 10) (by decide +kernel) (by decide)) ?_
          exact XE.pick [2, 3, 4, 0] rfl (hc22 (w (s6 + 1)))
    · refine XE.go (st_icmp_ge_t (off := 30) (pc' := 42) (by decide +kernel) (by decide) (Int.not_lt.mp h27)) ?_
      exact XE.pick [] rfl (he23 ())
  · refine XE.go (st_iconst (n := 1) (pc' := 43) (by decide +kernel) (w_eq (by decide) (by decide)) rfl) ?_
    exact XE.rt rfl (X_zret (by decide +kernel) rfl (by decide))
theorem ct_X0_offsetsHold {D : Dt} {M : Mm} {a0 : Int} (h0 : a0 ≠ 0) (r : Int) (hr : p_X0_offsetsHold M a0 = some r) : CT D 0 mu_X0_offsetsHold [(4, a0)] M (.inl (some (0, r))) M := CT.of (by decide +kernel) rfl (Nat.le_of_ble_eq_true rfl) (xe_X0_offsetsHold h0 r hr)
def b_X10_offsetsHold_10 (v4 : Int) (v1 : Int) (M : Mm) (s6 : Int) : Option ((Int) ⊕ ((Int) ⊕ (Unit))) := if s6 < v4 then gd (aok v1 s6) ((some ((rd M v1 s6))).bind fun v29 => if v29 = 0 then some (.inl (w (s6 + 1))) else (p_X0_offsetsHold M v29).bind fun r33 => if r33 = 0 then some (.inr (.inl (0))) else some (.inl (w (s6 + 1)))) else some (.inr (.inr ()))
def p_X10_offsetsHold (M : Mm) (a0 : Int) : Option Int := (some ((rd M a0 3))).bind fun v1 => gd (v1 ≠ 0) ((some ((ln v1))).bind fun v4 => (lp (b_X10_offsetsHold_10 v4 v1 M) 1000 0).bind (Sum.elim some fun (t7 : Unit) => some (1)))
set_option maxRecDepth 100000 in
set_option maxHeartbeats 4000000 in
theorem xe_X10_offsetsHold {D : Dt} {M : Mm} {a0 : Int} (h0 : a0 ≠ 0) : XE D 0 mu_X10_offsetsHold (EP 0 M) 0 [(0, (14, a0))] [] M (p_X10_offsetsHold M a0) := by
  unfold p_X10_offsetsHold
  refine XE.go (st_aload_n (j := 0) (i := 0) (pc' := 1) (by decide +kernel) rfl rfl (by decide) rfl) ?_
  refine XE.go (st_get (pc' := 4) (by decide +kernel) rfl cls_10 fld_RX10_29 rfl rfl h0) ?_
  refine XE.gen (fun v1 e2 => ?_)
  refine XE.go (st_astore_n (j := 1) (i := 1) (pc' := 5) (by decide +kernel) rfl (by decide) rfl (by decide) rfl rfl) ?_
  refine XE.go (st_aload_n (j := 1) (i := 1) (pc' := 6) (by decide +kernel) rfl rfl (by decide) rfl) ?_
  refine XE.gd_ (fun g3 => ?_)
  refine XE.go (st_alen (k := 16) (pc' := 7) (by decide +kernel) rfl ak_16 rfl (by decide) g3) ?_
  refine XE.gen (fun v4 e5 => ?_)
  refine XE.go (st_istore_n (j := 2) (i := 2) (pc' := 8) (by decide +kernel) rfl rfl (by decide) rfl rfl) ?_
  refine XE.go (st_iconst (n := 0) (pc' := 9) (by decide +kernel) (w_eq (by decide) (by decide)) rfl) ?_
  refine XE.go (st_istore_n (j := 3) (i := 3) (pc' := 10) (by decide +kernel) rfl rfl (by decide) rfl rfl) ?_
  refine XE.pick [2, 1, 0] (L' := [(1, (19, v1)), (2, (0, v4)), (3, (0, 0))]) rfl ?_
  refine XE.loopX (n := 1000) (s0 := 0) (pcL := 10) (pcE := 41) (LL := fun (s6 : Int) => [(1, (19, v1)), (2, (0, v4)), (3, (0, s6))]) (sL := fun _ => []) (ML := fun (s6 : Int) => M) (LE := fun (t7 : Unit) => []) (sE := fun _ => []) (ME := fun (t7 : Unit) => M) (fun kk25 hx24 hc22 he23 s6 => ?_) (fun t7 => ?_)
  · unfold b_X10_offsetsHold_10
    refine XE.go (st_iload_n (j := 3) (i := 3) (pc' := 11) (by decide +kernel) rfl rfl rfl) ?_
    refine XE.go (st_iload_n (j := 2) (i := 2) (pc' := 12) (by decide +kernel) rfl rfl rfl) ?_
    refine XE.bite (fun h26 => ?_) (fun h27 => ?_)
    · refine XE.go (st_icmp_ge_f (off := 29) (pc' := 15) (by decide +kernel) 41 (by decide) rfl (Int.not_le.mpr h26)) ?_
      refine XE.go (st_aload_n (j := 1) (i := 1) (pc' := 16) (by decide +kernel) rfl rfl (by decide) rfl) ?_
      refine XE.go (st_iload_n (j := 3) (i := 3) (pc' := 17) (by decide +kernel) rfl rfl rfl) ?_
      refine XE.gdb (fun g28 => ?_)
      refine XE.go (st_ald (k := 16) (tp := 4) (pc' := 18) (by decide +kernel) rfl ak_16 rfl (by decide) rfl (Or.inr (Or.inr (Or.inr ⟨rfl, rfl⟩))) g28.1 g28.2.1 g28.2.2) ?_
      refine XE.asc ?_
      refine XE.gen (fun v29 e30 => ?_)
      refine XE.go (st_astore (j := 4) (pc' := 20) (by decide +kernel)  (by decide) rfl (by decide) rfl rfl) ?_
      refine XE.go (st_aload (j := 4) (pc' := 22) (by decide +kernel) rfl (by decide) rfl) ?_
      refine XE.bite (fun h31 => ?_) (fun h32 => ?_)
      · refine XE.go (st_ifnull_t (off := 13) (pc' := 35) (by decide +kernel) (by decide) h31 (by decide)) ?_
        refine XE.go (st_iinc (j := 3) (n := 1) (pc' := 38) (by decide +kernel) rfl rfl (by decide) rfl rfl) ?_
        refine XE.go (st_goto (off := (-28)) (pc' := 10) (by decide +kernel) (by decide)) ?_
        exact XE.pick [2, 3, 0] rfl (hc22 (w (s6 + 1)))
      · refine XE.go (st_ifnull_f (off := 13) (pc' := 25) (by decide +kernel) (by decide) h32 rfl) ?_
        refine XE.go (st_aload (j := 4) (pc' := 27) (by decide +kernel) rfl (by decide) rfl) ?_
        refine XE.asc ?_
        refine XE.cP (pc' := 30) (st := []) (fun r hr => ct_X0_offsetsHold h32 r hr) (fun r hr => run_V (st := []) (by decide +kernel) co_X10_offsetsHold_610 (ct_X0_offsetsHold h32 r hr) rfl h32 rfl rfl (Nat.le_of_ble_eq_true rfl)) rfl rfl (fun r33 => ?_)
        refine XE.bite (fun h34 => ?_) (fun h35 => ?_)
        · refine XE.go (st_if_ne_f (off := 5) (pc' := 33) (by decide +kernel) 35 (by decide) rfl (not_not_intro h34)) ?_
          refine XE.go (st_iconst (n := 0) (pc' := 34) (by decide +kernel) (w_eq (by decide) (by decide)) rfl) ?_
          refine XE.cast (hx24 _) ?_
          exact XE.rt rfl (X_zret (by decide +kernel) rfl (by decide))
        · refine XE.go (st_if_ne_t (off := 5) (pc' := 35) (by decide +kernel) (by decide) h35) ?_
          refine XE.go (st_iinc (j := 3) (n := 1) (pc' := 38) (by decide +kernel) rfl rfl (by decide) rfl rfl) ?_
          refine XE.go (st_goto (off := (-28)) (pc' := 10) (by decide +kernel) (by decide)) ?_
          exact XE.pick [2, 3, 0] rfl (hc22 (w (s6 + 1)))
    · refine XE.go (st_icmp_ge_t (off := 29) (pc' := 41) (by decide +kernel) (by decide) (Int.not_lt.mp h27)) ?_
      exact XE.pick [] rfl (he23 ())
  · refine XE.go (st_iconst (n := 1) (pc' := 42) (by decide +kernel) (w_eq (by decide) (by decide)) rfl) ?_
    exact XE.rt rfl (X_zret (by decide +kernel) rfl (by decide))
theorem ct_X10_offsetsHold {D : Dt} {M : Mm} {a0 : Int} (h0 : a0 ≠ 0) (r : Int) (hr : p_X10_offsetsHold M a0 = some r) : CT D 0 mu_X10_offsetsHold [(14, a0)] M (.inl (some (0, r))) M := CT.of (by decide +kernel) rfl (Nat.le_of_ble_eq_true rfl) (xe_X10_offsetsHold h0 r hr)
def b_X0_isNoneOrMember_17 (v6 : Int) (v3 : Int) (M : Mm) (a1 : Int) (s8 : Int) : Option ((Int) ⊕ ((Int) ⊕ (Unit))) := if s8 < v6 then gd (aok v3 s8) ((some ((rd M v3 s8))).bind fun v28 => if v28 = a1 then some (.inr (.inl (1))) else some (.inl (w (s8 + 1)))) else some (.inr (.inr ()))
def p_X0_isNoneOrMember (M : Mm) (a0 a1 : Int) : Option Int := if a1 = 0 then some (1) else (some ((rd M a0 1))).bind fun v3 => gd (v3 ≠ 0) ((some ((ln v3))).bind fun v6 => (lp (b_X0_isNoneOrMember_17 v6 v3 M a1) 1000 0).bind (Sum.elim some fun (t9 : Unit) => some (0)))
set_option maxRecDepth 100000 in
set_option maxHeartbeats 4000000 in
theorem xe_X0_isNoneOrMember {D : Dt} {M : Mm} {a0 a1 : Int} (h0 : a0 ≠ 0) : XE D 0 mu_X0_isNoneOrMember (EP 0 M) 0 [(0, (4, a0)), (1, (7, a1))] [] M (p_X0_isNoneOrMember M a0 a1) := by
  unfold p_X0_isNoneOrMember
  refine XE.go (st_aload_n (j := 1) (i := 1) (pc' := 1) (by decide +kernel) rfl rfl (by decide) rfl) ?_
  refine XE.ite (fun h1 => ?_) (fun h2 => ?_)
  · refine XE.go (st_ifnonnull_f (off := 5) (pc' := 4) (by decide +kernel) (by decide) h1 rfl) ?_
    refine XE.go (st_iconst (n := 1) (pc' := 5) (by decide +kernel) (w_eq (by decide) (by decide)) rfl) ?_
    exact XE.rt rfl (X_zret (by decide +kernel) rfl (by decide))
  · refine XE.go (st_ifnonnull_t (off := 5) (pc' := 6) (by decide +kernel) (by decide) h2 (by decide)) ?_
    refine XE.go (st_aload_n (j := 0) (i := 0) (pc' := 7) (by decide +kernel) rfl rfl (by decide) rfl) ?_
    refine XE.go (st_get (pc' := 10) (by decide +kernel) rfl cls_0 fld_RX0_19 rfl rfl h0) ?_
    refine XE.gen (fun v3 e4 => ?_)
    refine XE.go (st_astore_n (j := 2) (i := 2) (pc' := 11) (by decide +kernel) rfl (by decide) rfl (by decide) rfl rfl) ?_
    refine XE.go (st_aload_n (j := 2) (i := 2) (pc' := 12) (by decide +kernel) rfl rfl (by decide) rfl) ?_
    refine XE.gd_ (fun g5 => ?_)
    refine XE.go (st_alen (k := 19) (pc' := 13) (by decide +kernel) rfl ak_19 rfl (by decide) g5) ?_
    refine XE.gen (fun v6 e7 => ?_)
    refine XE.go (st_istore_n (j := 3) (i := 3) (pc' := 14) (by decide +kernel) rfl rfl (by decide) rfl rfl) ?_
    refine XE.go (st_iconst (n := 0) (pc' := 15) (by decide +kernel) (w_eq (by decide) (by decide)) rfl) ?_
    refine XE.go (st_istore (j := 4) (pc' := 17) (by decide +kernel)  rfl (by decide) rfl rfl) ?_
    refine XE.pick [4, 2, 1, 0] (L' := [(1, (7, a1)), (2, (22, v3)), (3, (0, v6)), (4, (0, 0))]) rfl ?_
    refine XE.loopX (n := 1000) (s0 := 0) (pcL := 17) (pcE := 43) (LL := fun (s8 : Int) => [(1, (7, a1)), (2, (22, v3)), (3, (0, v6)), (4, (0, s8))]) (sL := fun _ => []) (ML := fun (s8 : Int) => M) (LE := fun (t9 : Unit) => []) (sE := fun _ => []) (ME := fun (t9 : Unit) => M) (fun kk24 hx23 hc21 he22 s8 => ?_) (fun t9 => ?_)
    · unfold b_X0_isNoneOrMember_17
      refine XE.go (st_iload (j := 4) (pc' := 19) (by decide +kernel) rfl rfl) ?_
      refine XE.go (st_iload_n (j := 3) (i := 3) (pc' := 20) (by decide +kernel) rfl rfl rfl) ?_
      refine XE.bite (fun h25 => ?_) (fun h26 => ?_)
      · refine XE.go (st_icmp_ge_f (off := 23) (pc' := 23) (by decide +kernel) 43 (by decide) rfl (Int.not_le.mpr h25)) ?_
        refine XE.go (st_aload_n (j := 2) (i := 2) (pc' := 24) (by decide +kernel) rfl rfl (by decide) rfl) ?_
        refine XE.go (st_iload (j := 4) (pc' := 26) (by decide +kernel) rfl rfl) ?_
        refine XE.gdb (fun g27 => ?_)
        refine XE.go (st_ald (k := 19) (tp := 7) (pc' := 27) (by decide +kernel) rfl ak_19 rfl (by decide) rfl (Or.inr (Or.inr (Or.inr ⟨rfl, rfl⟩))) g27.1 g27.2.1 g27.2.2) ?_
        refine XE.asc ?_
        refine XE.gen (fun v28 e29 => ?_)
        refine XE.go (st_astore (j := 5) (pc' := 29) (by decide +kernel)  (by decide) rfl (by decide) rfl rfl) ?_
        refine XE.go (st_aload (j := 5) (pc' := 31) (by decide +kernel) rfl (by decide) rfl) ?_
        refine XE.go (st_aload_n (j := 1) (i := 1) (pc' := 32) (by decide +kernel) rfl rfl (by decide) rfl) ?_
        refine XE.bite (fun h30 => ?_) (fun h31 => ?_)
        · refine XE.go (st_acmp_ne_f (off := 5) (pc' := 35) (by decide +kernel) 37 (by decide) (by decide) (by decide) h30 rfl) ?_
          refine XE.go (st_iconst (n := 1) (pc' := 36) (by decide +kernel) (w_eq (by decide) (by decide)) rfl) ?_
          refine XE.cast (hx23 _) ?_
          exact XE.rt rfl (X_zret (by decide +kernel) rfl (by decide))
        · refine XE.go (st_acmp_ne_t (off := 5) (pc' := 37) (by decide +kernel) (by decide) (by decide) h31 (by decide)) ?_
          refine XE.go (st_iinc (j := 4) (n := 1) (pc' := 40) (by decide +kernel) rfl rfl (by decide) rfl rfl) ?_
          refine XE.go (st_goto (off := (-23)) (pc' := 17) (by decide +kernel) (by decide)) ?_
          exact XE.pick [2, 3, 4, 0] rfl (hc21 (w (s8 + 1)))
      · refine XE.go (st_icmp_ge_t (off := 23) (pc' := 43) (by decide +kernel) (by decide) (Int.not_lt.mp h26)) ?_
        exact XE.pick [] rfl (he22 ())
    · refine XE.go (st_iconst (n := 0) (pc' := 44) (by decide +kernel) (w_eq (by decide) (by decide)) rfl) ?_
      exact XE.rt rfl (X_zret (by decide +kernel) rfl (by decide))
theorem ct_X0_isNoneOrMember {D : Dt} {M : Mm} {a0 a1 : Int} (h0 : a0 ≠ 0) (r : Int) (hr : p_X0_isNoneOrMember M a0 a1 = some r) : CT D 0 mu_X0_isNoneOrMember [(4, a0), (7, a1)] M (.inl (some (0, r))) M := CT.of (by decide +kernel) rfl (Nat.le_of_ble_eq_true rfl) (xe_X0_isNoneOrMember h0 r hr)
def b_X0_sharesHold_75 (v26 : Int) (v23 : Int) (M : Mm) (a0 : Int) (s28 : Int) : Option ((Int) ⊕ ((Int) ⊕ (Unit))) := if s28 < v26 then gd (aok v23 s28) ((some ((rd M v23 s28))).bind fun v54 => if v54 = 0 then some (.inl (w (s28 + 1))) else (p_X0_isNoneOrMember M a0 (rd M v54 1)).bind fun r58 => if r58 = 0 then some (.inr (.inl (0))) else (p_X0_isNoneOrMember M a0 (rd M v54 2)).bind fun r61 => if r61 = 0 then some (.inr (.inl (0))) else some (.inl (w (s28 + 1)))) else some (.inr (.inr ()))
def b_X0_sharesHold_17 (v4 : Int) (v1 : Int) (M : Mm) (a0 : Int) (s6 : Int × Int × Int) : Option ((Int × Int × Int) ⊕ (Int × Int)) := if s6.2.2 < v4 then gd (aok v1 s6.2.2) ((some ((rd M v1 s6.2.2))).bind fun v15 => if v15 = 0 then some (.inl (s6.1, s6.2.1, (w (s6.2.2 + 1)))) else (p_X0_targetCount M a0 v15).bind fun r19 => (p_J9_min_7cf53 M s6.1 r19).bind fun r20 => (p_X0_targetCount M a0 v15).bind fun r21 => (p_J9_max_7cf53 M s6.2.1 r21).bind fun r22 => some (.inl (r20, r22, (w (s6.2.2 + 1))))) else some (.inr (s6.1, s6.2.1))
def p_X0_sharesHold (M : Mm) (a0 : Int) : Option Int := (some ((rd M a0 1))).bind fun v1 => gd (v1 ≠ 0) ((some ((ln v1))).bind fun v4 => (lp (b_X0_sharesHold_17 v4 v1 M a0) 1000 (9, 0, 0)).bind fun (t7 : Int × Int) => (some ((rd M a0 0))).bind fun v23 => gd (v23 ≠ 0) ((some ((ln v23))).bind fun v26 => (lp (b_X0_sharesHold_75 v26 v23 M a0) 1000 0).bind (Sum.elim some fun (t29 : Unit) => if 1 < (w (t7.2 - t7.1)) then some (0) else some (1))))
set_option maxRecDepth 100000 in
set_option maxHeartbeats 4000000 in
theorem xe_X0_sharesHold {D : Dt} {M : Mm} {a0 : Int} (h0 : a0 ≠ 0) : XE D 0 mu_X0_sharesHold (EP 0 M) 0 [(0, (4, a0))] [] M (p_X0_sharesHold M a0) := by
  unfold p_X0_sharesHold
  refine XE.go (st_bipush (n := 9) (pc' := 2) (by decide +kernel) (by decide) (w_eq (by decide) (by decide)) rfl) ?_
  refine XE.go (st_istore_n (j := 1) (i := 1) (pc' := 3) (by decide +kernel) rfl rfl (by decide) rfl rfl) ?_
  refine XE.go (st_iconst (n := 0) (pc' := 4) (by decide +kernel) (w_eq (by decide) (by decide)) rfl) ?_
  refine XE.go (st_istore_n (j := 2) (i := 2) (pc' := 5) (by decide +kernel) rfl rfl (by decide) rfl rfl) ?_
  refine XE.go (st_aload_n (j := 0) (i := 0) (pc' := 6) (by decide +kernel) rfl rfl (by decide) rfl) ?_
  refine XE.go (st_get (pc' := 9) (by decide +kernel) rfl cls_0 fld_RX0_19 rfl rfl h0) ?_
  refine XE.gen (fun v1 e2 => ?_)
  refine XE.go (st_astore_n (j := 3) (i := 3) (pc' := 10) (by decide +kernel) rfl (by decide) rfl (by decide) rfl rfl) ?_
  refine XE.go (st_aload_n (j := 3) (i := 3) (pc' := 11) (by decide +kernel) rfl rfl (by decide) rfl) ?_
  refine XE.gd_ (fun g3 => ?_)
  refine XE.go (st_alen (k := 19) (pc' := 12) (by decide +kernel) rfl ak_19 rfl (by decide) g3) ?_
  refine XE.gen (fun v4 e5 => ?_)
  refine XE.go (st_istore (j := 4) (pc' := 14) (by decide +kernel)  rfl (by decide) rfl rfl) ?_
  refine XE.go (st_iconst (n := 0) (pc' := 15) (by decide +kernel) (w_eq (by decide) (by decide)) rfl) ?_
  refine XE.go (st_istore (j := 5) (pc' := 17) (by decide +kernel)  rfl (by decide) rfl rfl) ?_
  refine XE.pick [5, 4, 3, 2, 1, 0] (L' := [(0, (4, a0)), (1, (0, 9)), (2, (0, 0)), (3, (22, v1)), (4, (0, v4)), (5, (0, 0))]) rfl ?_
  refine XE.loopJ (n := 1000) (s0 := (9, 0, 0)) (pcL := 17) (pcE := 63) (LL := fun (s6 : Int × Int × Int) => [(0, (4, a0)), (1, (0, s6.1)), (2, (0, s6.2.1)), (3, (22, v1)), (4, (0, v4)), (5, (0, s6.2.2))]) (sL := fun _ => []) (ML := fun (s6 : Int × Int × Int) => M) (LE := fun (t7 : Int × Int) => [(0, (4, a0)), (1, (0, t7.1)), (2, (0, t7.2))]) (sE := fun _ => []) (ME := fun (t7 : Int × Int) => M) (fun kk11 hc8 he9 s6 => ?_) (fun t7 => ?_)
  · unfold b_X0_sharesHold_17
    refine XE.go (st_iload (j := 5) (pc' := 19) (by decide +kernel) rfl rfl) ?_
    refine XE.go (st_iload (j := 4) (pc' := 21) (by decide +kernel) rfl rfl) ?_
    refine XE.bite (fun h12 => ?_) (fun h13 => ?_)
    · refine XE.go (st_icmp_ge_f (off := 42) (pc' := 24) (by decide +kernel) 63 (by decide) rfl (Int.not_le.mpr h12)) ?_
      refine XE.go (st_aload_n (j := 3) (i := 3) (pc' := 25) (by decide +kernel) rfl rfl (by decide) rfl) ?_
      refine XE.go (st_iload (j := 5) (pc' := 27) (by decide +kernel) rfl rfl) ?_
      refine XE.gdb (fun g14 => ?_)
      refine XE.go (st_ald (k := 19) (tp := 7) (pc' := 28) (by decide +kernel) rfl ak_19 rfl (by decide) rfl (Or.inr (Or.inr (Or.inr ⟨rfl, rfl⟩))) g14.1 g14.2.1 g14.2.2) ?_
      refine XE.asc ?_
      refine XE.gen (fun v15 e16 => ?_)
      refine XE.go (st_astore (j := 6) (pc' := 30) (by decide +kernel)  (by decide) rfl (by decide) rfl rfl) ?_
      refine XE.go (st_aload (j := 6) (pc' := 32) (by decide +kernel) rfl (by decide) rfl) ?_
      refine XE.bite (fun h17 => ?_) (fun h18 => ?_)
      · refine XE.go (st_ifnull_t (off := 25) (pc' := 57) (by decide +kernel) (by decide) h17 (by decide)) ?_
        refine XE.go (st_iinc (j := 5) (n := 1) (pc' := 60) (by decide +kernel) rfl rfl (by decide) rfl rfl) ?_
        refine XE.go (st_goto (off := (-43)) (pc' := 17) (by decide +kernel) (by decide)) ?_
        exact XE.pick [2, 3, 4, 5, 6, 0] rfl (hc8 (s6.1, s6.2.1, (w (s6.2.2 + 1))))
      · refine XE.go (st_ifnull_f (off := 25) (pc' := 35) (by decide +kernel) (by decide) h18 rfl) ?_
        refine XE.go (st_iload_n (j := 1) (i := 1) (pc' := 36) (by decide +kernel) rfl rfl rfl) ?_
        refine XE.go (st_aload_n (j := 0) (i := 0) (pc' := 37) (by decide +kernel) rfl rfl (by decide) rfl) ?_
        refine XE.go (st_aload (j := 6) (pc' := 39) (by decide +kernel) rfl (by decide) rfl) ?_
        refine XE.asc ?_
        refine XE.cP (pc' := 42) (st := [(0, s6.1)]) (fun r hr => ct_X0_targetCount h0 r hr) (fun r hr => run_V (st := [(0, s6.1)]) (by decide +kernel) co_X0_sharesHold_117 (ct_X0_targetCount h0 r hr) rfl h0 rfl rfl (Nat.le_of_ble_eq_true rfl)) rfl rfl (fun r19 => ?_)
        refine XE.asc ?_
        refine XE.cP (pc' := 45) (st := []) (fun r hr => ct_J9_min_7cf53 r hr) (fun r hr => run_S (st := []) (by decide +kernel) co_X0_sharesHold_260 (ct_J9_min_7cf53 r hr) rfl rfl (Nat.le_of_ble_eq_true rfl)) rfl rfl (fun r20 => ?_)
        refine XE.go (st_istore_n (j := 1) (i := 1) (pc' := 46) (by decide +kernel) rfl rfl (by decide) rfl rfl) ?_
        refine XE.go (st_iload_n (j := 2) (i := 2) (pc' := 47) (by decide +kernel) rfl rfl rfl) ?_
        refine XE.go (st_aload_n (j := 0) (i := 0) (pc' := 48) (by decide +kernel) rfl rfl (by decide) rfl) ?_
        refine XE.go (st_aload (j := 6) (pc' := 50) (by decide +kernel) rfl (by decide) rfl) ?_
        refine XE.asc ?_
        refine XE.cP (pc' := 53) (st := [(0, s6.2.1)]) (fun r hr => ct_X0_targetCount h0 r hr) (fun r hr => run_V (st := [(0, s6.2.1)]) (by decide +kernel) co_X0_sharesHold_117 (ct_X0_targetCount h0 r hr) rfl h0 rfl rfl (Nat.le_of_ble_eq_true rfl)) rfl rfl (fun r21 => ?_)
        refine XE.asc ?_
        refine XE.cP (pc' := 56) (st := []) (fun r hr => ct_J9_max_7cf53 r hr) (fun r hr => run_S (st := []) (by decide +kernel) co_X0_sharesHold_137 (ct_J9_max_7cf53 r hr) rfl rfl (Nat.le_of_ble_eq_true rfl)) rfl rfl (fun r22 => ?_)
        refine XE.go (st_istore_n (j := 2) (i := 2) (pc' := 57) (by decide +kernel) rfl rfl (by decide) rfl rfl) ?_
        refine XE.go (st_iinc (j := 5) (n := 1) (pc' := 60) (by decide +kernel) rfl rfl (by decide) rfl rfl) ?_
        refine XE.go (st_goto (off := (-43)) (pc' := 17) (by decide +kernel) (by decide)) ?_
        exact XE.pick [4, 2, 1, 5, 6, 0] rfl (hc8 (r20, r22, (w (s6.2.2 + 1))))
    · refine XE.go (st_icmp_ge_t (off := 42) (pc' := 63) (by decide +kernel) (by decide) (Int.not_lt.mp h13)) ?_
      exact XE.pick [0, 1, 2] rfl (he9 (s6.1, s6.2.1))
  · refine XE.go (st_aload_n (j := 0) (i := 0) (pc' := 64) (by decide +kernel) rfl rfl (by decide) rfl) ?_
    refine XE.go (st_get (pc' := 67) (by decide +kernel) rfl cls_0 fld_RX0_11 rfl rfl h0) ?_
    refine XE.gen (fun v23 e24 => ?_)
    refine XE.go (st_astore_n (j := 3) (i := 3) (pc' := 68) (by decide +kernel) rfl (by decide) rfl (by decide) rfl rfl) ?_
    refine XE.go (st_aload_n (j := 3) (i := 3) (pc' := 69) (by decide +kernel) rfl rfl (by decide) rfl) ?_
    refine XE.gd_ (fun g25 => ?_)
    refine XE.go (st_alen (k := 24) (pc' := 70) (by decide +kernel) rfl ak_24 rfl (by decide) g25) ?_
    refine XE.gen (fun v26 e27 => ?_)
    refine XE.go (st_istore (j := 4) (pc' := 72) (by decide +kernel)  rfl (by decide) rfl rfl) ?_
    refine XE.go (st_iconst (n := 0) (pc' := 73) (by decide +kernel) (w_eq (by decide) (by decide)) rfl) ?_
    refine XE.go (st_istore (j := 5) (pc' := 75) (by decide +kernel)  rfl (by decide) rfl rfl) ?_
    refine XE.pick [3, 4, 5, 2, 1, 0] (L' := [(0, (4, a0)), (1, (0, t7.1)), (2, (0, t7.2)), (3, (27, v23)), (4, (0, v26)), (5, (0, 0))]) rfl ?_
    refine XE.loopX (n := 1000) (s0 := 0) (pcL := 75) (pcE := 125) (LL := fun (s28 : Int) => [(0, (4, a0)), (1, (0, t7.1)), (2, (0, t7.2)), (3, (27, v23)), (4, (0, v26)), (5, (0, s28))]) (sL := fun _ => []) (ML := fun (s28 : Int) => M) (LE := fun (t29 : Unit) => [(1, (0, t7.1)), (2, (0, t7.2))]) (sE := fun _ => []) (ME := fun (t29 : Unit) => M) (fun kk50 hx49 hc47 he48 s28 => ?_) (fun t29 => ?_)
    · unfold b_X0_sharesHold_75
      refine XE.go (st_iload (j := 5) (pc' := 77) (by decide +kernel) rfl rfl) ?_
      refine XE.go (st_iload (j := 4) (pc' := 79) (by decide +kernel) rfl rfl) ?_
      refine XE.bite (fun h51 => ?_) (fun h52 => ?_)
      · refine XE.go (st_icmp_ge_f (off := 46) (pc' := 82) (by decide +kernel) 125 (by decide) rfl (Int.not_le.mpr h51)) ?_
        refine XE.go (st_aload_n (j := 3) (i := 3) (pc' := 83) (by decide +kernel) rfl rfl (by decide) rfl) ?_
        refine XE.go (st_iload (j := 5) (pc' := 85) (by decide +kernel) rfl rfl) ?_
        refine XE.gdb (fun g53 => ?_)
        refine XE.go (st_ald (k := 24) (tp := 12) (pc' := 86) (by decide +kernel) rfl ak_24 rfl (by decide) rfl (Or.inr (Or.inr (Or.inr ⟨rfl, rfl⟩))) g53.1 g53.2.1 g53.2.2) ?_
        refine XE.asc ?_
        refine XE.gen (fun v54 e55 => ?_)
        refine XE.go (st_astore (j := 6) (pc' := 88) (by decide +kernel)  (by decide) rfl (by decide) rfl rfl) ?_
        refine XE.go (st_aload (j := 6) (pc' := 90) (by decide +kernel) rfl (by decide) rfl) ?_
        refine XE.bite (fun h56 => ?_) (fun h57 => ?_)
        · refine XE.go (st_ifnull_t (off := 29) (pc' := 119) (by decide +kernel) (by decide) h56 (by decide)) ?_
          refine XE.go (st_iinc (j := 5) (n := 1) (pc' := 122) (by decide +kernel) rfl rfl (by decide) rfl rfl) ?_
          refine XE.go (st_goto (off := (-47)) (pc' := 75) (by decide +kernel) (by decide)) ?_
          exact XE.pick [2, 3, 4, 5, 6, 0] rfl (hc47 (w (s28 + 1)))
        · refine XE.go (st_ifnull_f (off := 29) (pc' := 93) (by decide +kernel) (by decide) h57 rfl) ?_
          refine XE.go (st_aload_n (j := 0) (i := 0) (pc' := 94) (by decide +kernel) rfl rfl (by decide) rfl) ?_
          refine XE.go (st_aload (j := 6) (pc' := 96) (by decide +kernel) rfl (by decide) rfl) ?_
          refine XE.go (st_get (pc' := 99) (by decide +kernel) rfl cls_8 fld_RX0_76 rfl rfl h57) ?_
          refine XE.asc ?_
          refine XE.cP (pc' := 102) (st := []) (fun r hr => ct_X0_isNoneOrMember h0 r hr) (fun r hr => run_V (st := []) (by decide +kernel) co_X0_sharesHold_263 (ct_X0_isNoneOrMember h0 r hr) rfl h0 rfl rfl (Nat.le_of_ble_eq_true rfl)) rfl rfl (fun r58 => ?_)
          refine XE.bite (fun h59 => ?_) (fun h60 => ?_)
          · refine XE.go (st_if_eq_t (off := 15) (pc' := 117) (by decide +kernel) (by decide) h59) ?_
            refine XE.go (st_iconst (n := 0) (pc' := 118) (by decide +kernel) (w_eq (by decide) (by decide)) rfl) ?_
            refine XE.cast (hx49 _) ?_
            exact XE.rt rfl (X_zret (by decide +kernel) rfl (by decide))
          · refine XE.go (st_if_eq_f (off := 15) (pc' := 105) (by decide +kernel) 117 (by decide) rfl h60) ?_
            refine XE.go (st_aload_n (j := 0) (i := 0) (pc' := 106) (by decide +kernel) rfl rfl (by decide) rfl) ?_
            refine XE.go (st_aload (j := 6) (pc' := 108) (by decide +kernel) rfl (by decide) rfl) ?_
            refine XE.go (st_get (pc' := 111) (by decide +kernel) rfl cls_8 fld_RX0_80 rfl rfl h57) ?_
            refine XE.asc ?_
            refine XE.cP (pc' := 114) (st := []) (fun r hr => ct_X0_isNoneOrMember h0 r hr) (fun r hr => run_V (st := []) (by decide +kernel) co_X0_sharesHold_263 (ct_X0_isNoneOrMember h0 r hr) rfl h0 rfl rfl (Nat.le_of_ble_eq_true rfl)) rfl rfl (fun r61 => ?_)
            refine XE.bite (fun h62 => ?_) (fun h63 => ?_)
            · refine XE.go (st_if_ne_f (off := 5) (pc' := 117) (by decide +kernel) 119 (by decide) rfl (not_not_intro h62)) ?_
              refine XE.go (st_iconst (n := 0) (pc' := 118) (by decide +kernel) (w_eq (by decide) (by decide)) rfl) ?_
              refine XE.cast (hx49 _) ?_
              exact XE.rt rfl (X_zret (by decide +kernel) rfl (by decide))
            · refine XE.go (st_if_ne_t (off := 5) (pc' := 119) (by decide +kernel) (by decide) h63) ?_
              refine XE.go (st_iinc (j := 5) (n := 1) (pc' := 122) (by decide +kernel) rfl rfl (by decide) rfl rfl) ?_
              refine XE.go (st_goto (off := (-47)) (pc' := 75) (by decide +kernel) (by decide)) ?_
              exact XE.pick [2, 3, 4, 5, 6, 0] rfl (hc47 (w (s28 + 1)))
      · refine XE.go (st_icmp_ge_t (off := 46) (pc' := 125) (by decide +kernel) (by decide) (Int.not_lt.mp h52)) ?_
        exact XE.pick [1, 2] rfl (he48 ())
    · refine XE.go (st_iload_n (j := 2) (i := 2) (pc' := 126) (by decide +kernel) rfl rfl rfl) ?_
      refine XE.go (st_iload_n (j := 1) (i := 1) (pc' := 127) (by decide +kernel) rfl rfl rfl) ?_
      refine XE.go (st_isub (pc' := 128) (by decide +kernel) rfl) ?_
      refine XE.go (st_iconst (n := 1) (pc' := 129) (by decide +kernel) (w_eq (by decide) (by decide)) rfl) ?_
      refine XE.ite (fun h64 => ?_) (fun h65 => ?_)
      · refine XE.go (st_icmp_gt_t (off := 7) (pc' := 136) (by decide +kernel) (by decide) h64) ?_
        refine XE.go (st_iconst (n := 0) (pc' := 137) (by decide +kernel) (w_eq (by decide) (by decide)) rfl) ?_
        exact XE.rt rfl (X_zret (by decide +kernel) rfl (by decide))
      · refine XE.go (st_icmp_gt_f (off := 7) (pc' := 132) (by decide +kernel) 136 (by decide) rfl h65) ?_
        refine XE.go (st_iconst (n := 1) (pc' := 133) (by decide +kernel) (w_eq (by decide) (by decide)) rfl) ?_
        refine XE.go (st_goto (off := 4) (pc' := 137) (by decide +kernel) (by decide)) ?_
        exact XE.rt rfl (X_zret (by decide +kernel) rfl (by decide))
theorem ct_X0_sharesHold {D : Dt} {M : Mm} {a0 : Int} (h0 : a0 ≠ 0) (r : Int) (hr : p_X0_sharesHold M a0 = some r) : CT D 0 mu_X0_sharesHold [(4, a0)] M (.inl (some (0, r))) M := CT.of (by decide +kernel) rfl (Nat.le_of_ble_eq_true rfl) (xe_X0_sharesHold h0 r hr)
def b_X0_handHolds_2 (a1 : Int) (M : Mm) (a0 : Int) (s1 : Int) : Option ((Int) ⊕ ((Int) ⊕ (Unit))) := gd (a1 ≠ 0) (gd ((rd M a1 1) ≠ 0) (if s1 < (rd M (rd M a1 1) 1) then (p_X2_get M (rd M a1 1) s1).bind fun r33 => (if r33 = 0 then some (0) else gd ((rd M r33 0) ≠ 0) (gd ((rd M (rd M r33 0) 2) ≠ 0) ((p_X0_shareAt M a0 (rd M (rd M (rd M r33 0) 2) 0)).bind fun r42 => some (r42))) : Option (Int)).bind fun (s34 : Int) => if s34 = 0 then some (.inr (.inl (0))) else if (rd M s34 1) = a1 then some (.inl (w (s1 + 1))) else some (.inr (.inl (0))) else some (.inr (.inr ()))))
def p_X0_handHolds (M : Mm) (a0 a1 : Int) : Option Int := (lp (b_X0_handHolds_2 a1 M a0) 1000 0).bind (Sum.elim some fun (t2 : Unit) => gd (a1 ≠ 0) (gd ((rd M a1 1) ≠ 0) (if (rd M a1 3) < (rd M (rd M a1 1) 1) then some (0) else some (1))))
set_option maxRecDepth 100000 in
set_option maxHeartbeats 4000000 in
theorem xe_X0_handHolds {D : Dt} {M : Mm} {a0 a1 : Int} (h0 : a0 ≠ 0) : XE D 0 mu_X0_handHolds (EP 0 M) 0 [(0, (4, a0)), (1, (7, a1))] [] M (p_X0_handHolds M a0 a1) := by
  unfold p_X0_handHolds
  refine XE.go (st_iconst (n := 0) (pc' := 1) (by decide +kernel) (w_eq (by decide) (by decide)) rfl) ?_
  refine XE.go (st_istore_n (j := 2) (i := 2) (pc' := 2) (by decide +kernel) rfl rfl (by decide) rfl rfl) ?_
  refine XE.pick [1, 2, 0] (L' := [(0, (4, a0)), (1, (7, a1)), (2, (0, 0))]) rfl ?_
  refine XE.loopX (n := 1000) (s0 := 0) (pcL := 2) (pcE := 68) (LL := fun (s1 : Int) => [(0, (4, a0)), (1, (7, a1)), (2, (0, s1))]) (sL := fun _ => []) (ML := fun (s1 : Int) => M) (LE := fun (t2 : Unit) => [(1, (7, a1))]) (sE := fun _ => []) (ME := fun (t2 : Unit) => M) (fun kk28 hx27 hc25 he26 s1 => ?_) (fun t2 => ?_)
  · unfold b_X0_handHolds_2
    refine XE.go (st_iload_n (j := 2) (i := 2) (pc' := 3) (by decide +kernel) rfl rfl rfl) ?_
    refine XE.go (st_aload_n (j := 1) (i := 1) (pc' := 4) (by decide +kernel) rfl rfl (by decide) rfl) ?_
    refine XE.gdb (fun g29 => ?_)
    refine XE.go (st_get (pc' := 7) (by decide +kernel) rfl cls_3 fld_RX0_146 rfl rfl g29) ?_
    refine XE.gdb (fun g30 => ?_)
    refine XE.go (st_get (pc' := 10) (by decide +kernel) rfl cls_2 fld_RX0_149 rfl rfl g30) ?_
    refine XE.bite (fun h31 => ?_) (fun h32 => ?_)
    · refine XE.go (st_icmp_ge_f (off := 58) (pc' := 13) (by decide +kernel) 68 (by decide) rfl (Int.not_le.mpr h31)) ?_
      refine XE.go (st_aload_n (j := 1) (i := 1) (pc' := 14) (by decide +kernel) rfl rfl (by decide) rfl) ?_
      refine XE.go (st_get (pc' := 17) (by decide +kernel) rfl cls_3 fld_RX0_146 rfl rfl g29) ?_
      refine XE.go (st_iload_n (j := 2) (i := 2) (pc' := 18) (by decide +kernel) rfl rfl rfl) ?_
      refine XE.asc ?_
      refine XE.cP (pc' := 21) (st := []) (fun r hr => ct_X2_get g30 r hr) (fun r hr => run_V (st := []) (by decide +kernel) co_X0_handHolds_152 (ct_X2_get g30 r hr) rfl g30 rfl rfl (Nat.le_of_ble_eq_true rfl)) rfl rfl (fun r33 => ?_)
      refine XE.go (st_astore_n (j := 3) (i := 3) (pc' := 22) (by decide +kernel) rfl (by decide) rfl (by decide) rfl rfl) ?_
      refine XE.go (st_aload_n (j := 3) (i := 3) (pc' := 23) (by decide +kernel) rfl rfl (by decide) rfl) ?_
      refine XE.asc ?_
      refine XE.join (pcJ := 44) (LJ := fun (s34 : Int) => [(0, (4, a0)), (1, (7, a1)), (2, (0, s1))]) (sJ := fun (s34 : Int) => [(12, s34)]) (MJ := fun (s34 : Int) => M) (fun kk37 hk35 => ?_) (fun s34 => ?_)
      · refine XE.bite (fun h38 => ?_) (fun h39 => ?_)
        · refine XE.go (st_ifnonnull_f (off := 7) (pc' := 26) (by decide +kernel) (by decide) h38 rfl) ?_
          refine XE.go (st_null (t := 12) (pc' := 27) (by decide +kernel) (by decide) rfl) ?_
          refine XE.go (st_goto (off := 17) (pc' := 44) (by decide +kernel) (by decide)) ?_
          exact XE.pick [1, 2, 3] rfl (hk35 0)
        · refine XE.go (st_ifnonnull_t (off := 7) (pc' := 30) (by decide +kernel) (by decide) h39 (by decide)) ?_
          refine XE.go (st_aload_n (j := 0) (i := 0) (pc' := 31) (by decide +kernel) rfl rfl (by decide) rfl) ?_
          refine XE.go (st_aload_n (j := 3) (i := 3) (pc' := 32) (by decide +kernel) rfl rfl (by decide) rfl) ?_
          refine XE.go (st_get (pc' := 35) (by decide +kernel) rfl cls_1 fld_RX0_156 rfl rfl h39) ?_
          refine XE.gdb (fun g40 => ?_)
          refine XE.go (st_get (pc' := 38) (by decide +kernel) rfl cls_4 fld_RX0_160 rfl rfl g40) ?_
          refine XE.gdb (fun g41 => ?_)
          refine XE.go (st_get (pc' := 41) (by decide +kernel) rfl cls_5 fld_RX0_57 rfl rfl g41) ?_
          refine XE.asc ?_
          refine XE.cP (pc' := 44) (st := []) (fun r hr => ct_X0_shareAt h0 r hr) (fun r hr => run_V (st := []) (by decide +kernel) co_X0_handHolds_196 (ct_X0_shareAt h0 r hr) rfl h0 rfl rfl (Nat.le_of_ble_eq_true rfl)) rfl rfl (fun r42 => ?_)
          exact XE.pick [1, 2, 3] rfl (hk35 r42)
      · refine XE.go (st_astore (j := 4) (pc' := 46) (by decide +kernel)  (by decide) rfl (by decide) rfl rfl) ?_
        refine XE.go (st_aload (j := 4) (pc' := 48) (by decide +kernel) rfl (by decide) rfl) ?_
        refine XE.bite (fun h43 => ?_) (fun h44 => ?_)
        · refine XE.go (st_ifnull_t (off := 12) (pc' := 60) (by decide +kernel) (by decide) h43 (by decide)) ?_
          refine XE.go (st_iconst (n := 0) (pc' := 61) (by decide +kernel) (w_eq (by decide) (by decide)) rfl) ?_
          refine XE.cast (hx27 _) ?_
          exact XE.rt rfl (X_zret (by decide +kernel) rfl (by decide))
        · refine XE.go (st_ifnull_f (off := 12) (pc' := 51) (by decide +kernel) (by decide) h44 rfl) ?_
          refine XE.go (st_aload (j := 4) (pc' := 53) (by decide +kernel) rfl (by decide) rfl) ?_
          refine XE.go (st_get (pc' := 56) (by decide +kernel) rfl cls_8 fld_RX0_76 rfl rfl h44) ?_
          refine XE.go (st_aload_n (j := 1) (i := 1) (pc' := 57) (by decide +kernel) rfl rfl (by decide) rfl) ?_
          refine XE.bite (fun h45 => ?_) (fun h46 => ?_)
          · refine XE.go (st_acmp_eq_t (off := 5) (pc' := 62) (by decide +kernel) (by decide) (by decide) h45 (by decide)) ?_
            refine XE.go (st_iinc (j := 2) (n := 1) (pc' := 65) (by decide +kernel) rfl rfl (by decide) rfl rfl) ?_
            refine XE.go (st_goto (off := (-63)) (pc' := 2) (by decide +kernel) (by decide)) ?_
            exact XE.pick [2, 3, 0] rfl (hc25 (w (s1 + 1)))
          · refine XE.go (st_acmp_eq_f (off := 5) (pc' := 60) (by decide +kernel) 62 (by decide) (by decide) (by decide) h46 rfl) ?_
            refine XE.go (st_iconst (n := 0) (pc' := 61) (by decide +kernel) (w_eq (by decide) (by decide)) rfl) ?_
            refine XE.cast (hx27 _) ?_
            exact XE.rt rfl (X_zret (by decide +kernel) rfl (by decide))
    · refine XE.go (st_icmp_ge_t (off := 58) (pc' := 68) (by decide +kernel) (by decide) (Int.not_lt.mp h32)) ?_
      exact XE.pick [1] rfl (he26 ())
  · refine XE.go (st_aload_n (j := 1) (i := 1) (pc' := 69) (by decide +kernel) rfl rfl (by decide) rfl) ?_
    refine XE.gd_ (fun g47 => ?_)
    refine XE.go (st_get (pc' := 72) (by decide +kernel) rfl cls_3 fld_RX0_146 rfl rfl g47) ?_
    refine XE.gd_ (fun g48 => ?_)
    refine XE.go (st_get (pc' := 75) (by decide +kernel) rfl cls_2 fld_RX0_149 rfl rfl g48) ?_
    refine XE.go (st_aload_n (j := 1) (i := 1) (pc' := 76) (by decide +kernel) rfl rfl (by decide) rfl) ?_
    refine XE.go (st_get (pc' := 79) (by decide +kernel) rfl cls_3 fld_RX0_182 rfl rfl g47) ?_
    refine XE.ite (fun h49 => ?_) (fun h50 => ?_)
    · refine XE.go (st_icmp_gt_t (off := 7) (pc' := 86) (by decide +kernel) (by decide) h49) ?_
      refine XE.go (st_iconst (n := 0) (pc' := 87) (by decide +kernel) (w_eq (by decide) (by decide)) rfl) ?_
      exact XE.rt rfl (X_zret (by decide +kernel) rfl (by decide))
    · refine XE.go (st_icmp_gt_f (off := 7) (pc' := 82) (by decide +kernel) 86 (by decide) rfl h50) ?_
      refine XE.go (st_iconst (n := 1) (pc' := 83) (by decide +kernel) (w_eq (by decide) (by decide)) rfl) ?_
      refine XE.go (st_goto (off := 4) (pc' := 87) (by decide +kernel) (by decide)) ?_
      exact XE.rt rfl (X_zret (by decide +kernel) rfl (by decide))
theorem ct_X0_handHolds {D : Dt} {M : Mm} {a0 a1 : Int} (h0 : a0 ≠ 0) (r : Int) (hr : p_X0_handHolds M a0 a1 = some r) : CT D 0 mu_X0_handHolds [(4, a0), (7, a1)] M (.inl (some (0, r))) M := CT.of (by decide +kernel) rfl (Nat.le_of_ble_eq_true rfl) (xe_X0_handHolds h0 r hr)
def b_X0_handsHold_10 (v4 : Int) (v1 : Int) (M : Mm) (a0 : Int) (s6 : Int) : Option ((Int) ⊕ ((Int) ⊕ (Unit))) := if s6 < v4 then gd (aok v1 s6) ((some ((rd M v1 s6))).bind fun v29 => if v29 = 0 then some (.inl (w (s6 + 1))) else (p_X0_handHolds M a0 v29).bind fun r33 => if r33 = 0 then some (.inr (.inl (0))) else some (.inl (w (s6 + 1)))) else some (.inr (.inr ()))
def p_X0_handsHold (M : Mm) (a0 : Int) : Option Int := (some ((rd M a0 1))).bind fun v1 => gd (v1 ≠ 0) ((some ((ln v1))).bind fun v4 => (lp (b_X0_handsHold_10 v4 v1 M a0) 1000 0).bind (Sum.elim some fun (t7 : Unit) => some (1)))
set_option maxRecDepth 100000 in
set_option maxHeartbeats 4000000 in
theorem xe_X0_handsHold {D : Dt} {M : Mm} {a0 : Int} (h0 : a0 ≠ 0) : XE D 0 mu_X0_handsHold (EP 0 M) 0 [(0, (4, a0))] [] M (p_X0_handsHold M a0) := by
  unfold p_X0_handsHold
  refine XE.go (st_aload_n (j := 0) (i := 0) (pc' := 1) (by decide +kernel) rfl rfl (by decide) rfl) ?_
  refine XE.go (st_get (pc' := 4) (by decide +kernel) rfl cls_0 fld_RX0_19 rfl rfl h0) ?_
  refine XE.gen (fun v1 e2 => ?_)
  refine XE.go (st_astore_n (j := 1) (i := 1) (pc' := 5) (by decide +kernel) rfl (by decide) rfl (by decide) rfl rfl) ?_
  refine XE.go (st_aload_n (j := 1) (i := 1) (pc' := 6) (by decide +kernel) rfl rfl (by decide) rfl) ?_
  refine XE.gd_ (fun g3 => ?_)
  refine XE.go (st_alen (k := 19) (pc' := 7) (by decide +kernel) rfl ak_19 rfl (by decide) g3) ?_
  refine XE.gen (fun v4 e5 => ?_)
  refine XE.go (st_istore_n (j := 2) (i := 2) (pc' := 8) (by decide +kernel) rfl rfl (by decide) rfl rfl) ?_
  refine XE.go (st_iconst (n := 0) (pc' := 9) (by decide +kernel) (w_eq (by decide) (by decide)) rfl) ?_
  refine XE.go (st_istore_n (j := 3) (i := 3) (pc' := 10) (by decide +kernel) rfl rfl (by decide) rfl rfl) ?_
  refine XE.pick [3, 2, 1, 0] (L' := [(0, (4, a0)), (1, (22, v1)), (2, (0, v4)), (3, (0, 0))]) rfl ?_
  refine XE.loopX (n := 1000) (s0 := 0) (pcL := 10) (pcE := 42) (LL := fun (s6 : Int) => [(0, (4, a0)), (1, (22, v1)), (2, (0, v4)), (3, (0, s6))]) (sL := fun _ => []) (ML := fun (s6 : Int) => M) (LE := fun (t7 : Unit) => []) (sE := fun _ => []) (ME := fun (t7 : Unit) => M) (fun kk25 hx24 hc22 he23 s6 => ?_) (fun t7 => ?_)
  · unfold b_X0_handsHold_10
    refine XE.go (st_iload_n (j := 3) (i := 3) (pc' := 11) (by decide +kernel) rfl rfl rfl) ?_
    refine XE.go (st_iload_n (j := 2) (i := 2) (pc' := 12) (by decide +kernel) rfl rfl rfl) ?_
    refine XE.bite (fun h26 => ?_) (fun h27 => ?_)
    · refine XE.go (st_icmp_ge_f (off := 30) (pc' := 15) (by decide +kernel) 42 (by decide) rfl (Int.not_le.mpr h26)) ?_
      refine XE.go (st_aload_n (j := 1) (i := 1) (pc' := 16) (by decide +kernel) rfl rfl (by decide) rfl) ?_
      refine XE.go (st_iload_n (j := 3) (i := 3) (pc' := 17) (by decide +kernel) rfl rfl rfl) ?_
      refine XE.gdb (fun g28 => ?_)
      refine XE.go (st_ald (k := 19) (tp := 7) (pc' := 18) (by decide +kernel) rfl ak_19 rfl (by decide) rfl (Or.inr (Or.inr (Or.inr ⟨rfl, rfl⟩))) g28.1 g28.2.1 g28.2.2) ?_
      refine XE.asc ?_
      refine XE.gen (fun v29 e30 => ?_)
      refine XE.go (st_astore (j := 4) (pc' := 20) (by decide +kernel)  (by decide) rfl (by decide) rfl rfl) ?_
      refine XE.go (st_aload (j := 4) (pc' := 22) (by decide +kernel) rfl (by decide) rfl) ?_
      refine XE.bite (fun h31 => ?_) (fun h32 => ?_)
      · refine XE.go (st_ifnull_t (off := 14) (pc' := 36) (by decide +kernel) (by decide) h31 (by decide)) ?_
        refine XE.go (st_iinc (j := 3) (n := 1) (pc' := 39) (by decide +kernel) rfl rfl (by decide) rfl rfl) ?_
        refine XE.go (st_goto (off := (-29)) (pc' := 10) (by decide +kernel) (by decide)) ?_
        exact XE.pick [2, 3, 4, 0] rfl (hc22 (w (s6 + 1)))
      · refine XE.go (st_ifnull_f (off := 14) (pc' := 25) (by decide +kernel) (by decide) h32 rfl) ?_
        refine XE.go (st_aload_n (j := 0) (i := 0) (pc' := 26) (by decide +kernel) rfl rfl (by decide) rfl) ?_
        refine XE.go (st_aload (j := 4) (pc' := 28) (by decide +kernel) rfl (by decide) rfl) ?_
        refine XE.asc ?_
        refine XE.cP (pc' := 31) (st := []) (fun r hr => ct_X0_handHolds h0 r hr) (fun r hr => run_V (st := []) (by decide +kernel) co_X0_handsHold_267 (ct_X0_handHolds h0 r hr) rfl h0 rfl rfl (Nat.le_of_ble_eq_true rfl)) rfl rfl (fun r33 => ?_)
        refine XE.bite (fun h34 => ?_) (fun h35 => ?_)
        · refine XE.go (st_if_ne_f (off := 5) (pc' := 34) (by decide +kernel) 36 (by decide) rfl (not_not_intro h34)) ?_
          refine XE.go (st_iconst (n := 0) (pc' := 35) (by decide +kernel) (w_eq (by decide) (by decide)) rfl) ?_
          refine XE.cast (hx24 _) ?_
          exact XE.rt rfl (X_zret (by decide +kernel) rfl (by decide))
        · refine XE.go (st_if_ne_t (off := 5) (pc' := 36) (by decide +kernel) (by decide) h35) ?_
          refine XE.go (st_iinc (j := 3) (n := 1) (pc' := 39) (by decide +kernel) rfl rfl (by decide) rfl rfl) ?_
          refine XE.go (st_goto (off := (-29)) (pc' := 10) (by decide +kernel) (by decide)) ?_
          exact XE.pick [2, 3, 4, 0] rfl (hc22 (w (s6 + 1)))
    · refine XE.go (st_icmp_ge_t (off := 30) (pc' := 42) (by decide +kernel) (by decide) (Int.not_lt.mp h27)) ?_
      exact XE.pick [] rfl (he23 ())
  · refine XE.go (st_iconst (n := 1) (pc' := 43) (by decide +kernel) (w_eq (by decide) (by decide)) rfl) ?_
    exact XE.rt rfl (X_zret (by decide +kernel) rfl (by decide))
theorem ct_X0_handsHold {D : Dt} {M : Mm} {a0 : Int} (h0 : a0 ≠ 0) (r : Int) (hr : p_X0_handsHold M a0 = some r) : CT D 0 mu_X0_handsHold [(4, a0)] M (.inl (some (0, r))) M := CT.of (by decide +kernel) rfl (Nat.le_of_ble_eq_true rfl) (xe_X0_handsHold h0 r hr)
def b_X10_sharesHold_10 (v4 : Int) (v1 : Int) (M : Mm) (s6 : Int) : Option ((Int) ⊕ ((Int) ⊕ (Unit))) := if s6 < v4 then gd (aok v1 s6) ((some ((rd M v1 s6))).bind fun v32 => if v32 = 0 then some (.inl (w (s6 + 1))) else (p_X0_sharesHold M v32).bind fun r36 => if r36 = 0 then some (.inr (.inl (0))) else (p_X0_handsHold M v32).bind fun r39 => if r39 = 0 then some (.inr (.inl (0))) else some (.inl (w (s6 + 1)))) else some (.inr (.inr ()))
def p_X10_sharesHold (M : Mm) (a0 : Int) : Option Int := (some ((rd M a0 3))).bind fun v1 => gd (v1 ≠ 0) ((some ((ln v1))).bind fun v4 => (lp (b_X10_sharesHold_10 v4 v1 M) 1000 0).bind (Sum.elim some fun (t7 : Unit) => some (1)))
set_option maxRecDepth 100000 in
set_option maxHeartbeats 4000000 in
theorem xe_X10_sharesHold {D : Dt} {M : Mm} {a0 : Int} (h0 : a0 ≠ 0) : XE D 0 mu_X10_sharesHold (EP 0 M) 0 [(0, (14, a0))] [] M (p_X10_sharesHold M a0) := by
  unfold p_X10_sharesHold
  refine XE.go (st_aload_n (j := 0) (i := 0) (pc' := 1) (by decide +kernel) rfl rfl (by decide) rfl) ?_
  refine XE.go (st_get (pc' := 4) (by decide +kernel) rfl cls_10 fld_RX10_29 rfl rfl h0) ?_
  refine XE.gen (fun v1 e2 => ?_)
  refine XE.go (st_astore_n (j := 1) (i := 1) (pc' := 5) (by decide +kernel) rfl (by decide) rfl (by decide) rfl rfl) ?_
  refine XE.go (st_aload_n (j := 1) (i := 1) (pc' := 6) (by decide +kernel) rfl rfl (by decide) rfl) ?_
  refine XE.gd_ (fun g3 => ?_)
  refine XE.go (st_alen (k := 16) (pc' := 7) (by decide +kernel) rfl ak_16 rfl (by decide) g3) ?_
  refine XE.gen (fun v4 e5 => ?_)
  refine XE.go (st_istore_n (j := 2) (i := 2) (pc' := 8) (by decide +kernel) rfl rfl (by decide) rfl rfl) ?_
  refine XE.go (st_iconst (n := 0) (pc' := 9) (by decide +kernel) (w_eq (by decide) (by decide)) rfl) ?_
  refine XE.go (st_istore_n (j := 3) (i := 3) (pc' := 10) (by decide +kernel) rfl rfl (by decide) rfl rfl) ?_
  refine XE.pick [2, 1, 0] (L' := [(1, (19, v1)), (2, (0, v4)), (3, (0, 0))]) rfl ?_
  refine XE.loopX (n := 1000) (s0 := 0) (pcL := 10) (pcE := 49) (LL := fun (s6 : Int) => [(1, (19, v1)), (2, (0, v4)), (3, (0, s6))]) (sL := fun _ => []) (ML := fun (s6 : Int) => M) (LE := fun (t7 : Unit) => []) (sE := fun _ => []) (ME := fun (t7 : Unit) => M) (fun kk28 hx27 hc25 he26 s6 => ?_) (fun t7 => ?_)
  · unfold b_X10_sharesHold_10
    refine XE.go (st_iload_n (j := 3) (i := 3) (pc' := 11) (by decide +kernel) rfl rfl rfl) ?_
    refine XE.go (st_iload_n (j := 2) (i := 2) (pc' := 12) (by decide +kernel) rfl rfl rfl) ?_
    refine XE.bite (fun h29 => ?_) (fun h30 => ?_)
    · refine XE.go (st_icmp_ge_f (off := 37) (pc' := 15) (by decide +kernel) 49 (by decide) rfl (Int.not_le.mpr h29)) ?_
      refine XE.go (st_aload_n (j := 1) (i := 1) (pc' := 16) (by decide +kernel) rfl rfl (by decide) rfl) ?_
      refine XE.go (st_iload_n (j := 3) (i := 3) (pc' := 17) (by decide +kernel) rfl rfl rfl) ?_
      refine XE.gdb (fun g31 => ?_)
      refine XE.go (st_ald (k := 16) (tp := 4) (pc' := 18) (by decide +kernel) rfl ak_16 rfl (by decide) rfl (Or.inr (Or.inr (Or.inr ⟨rfl, rfl⟩))) g31.1 g31.2.1 g31.2.2) ?_
      refine XE.asc ?_
      refine XE.gen (fun v32 e33 => ?_)
      refine XE.go (st_astore (j := 4) (pc' := 20) (by decide +kernel)  (by decide) rfl (by decide) rfl rfl) ?_
      refine XE.go (st_aload (j := 4) (pc' := 22) (by decide +kernel) rfl (by decide) rfl) ?_
      refine XE.bite (fun h34 => ?_) (fun h35 => ?_)
      · refine XE.go (st_ifnull_t (off := 21) (pc' := 43) (by decide +kernel) (by decide) h34 (by decide)) ?_
        refine XE.go (st_iinc (j := 3) (n := 1) (pc' := 46) (by decide +kernel) rfl rfl (by decide) rfl rfl) ?_
        refine XE.go (st_goto (off := (-36)) (pc' := 10) (by decide +kernel) (by decide)) ?_
        exact XE.pick [2, 3, 0] rfl (hc25 (w (s6 + 1)))
      · refine XE.go (st_ifnull_f (off := 21) (pc' := 25) (by decide +kernel) (by decide) h35 rfl) ?_
        refine XE.go (st_aload (j := 4) (pc' := 27) (by decide +kernel) rfl (by decide) rfl) ?_
        refine XE.asc ?_
        refine XE.cP (pc' := 30) (st := []) (fun r hr => ct_X0_sharesHold h35 r hr) (fun r hr => run_V (st := []) (by decide +kernel) co_X10_sharesHold_611 (ct_X0_sharesHold h35 r hr) rfl h35 rfl rfl (Nat.le_of_ble_eq_true rfl)) rfl rfl (fun r36 => ?_)
        refine XE.bite (fun h37 => ?_) (fun h38 => ?_)
        · refine XE.go (st_if_eq_t (off := 11) (pc' := 41) (by decide +kernel) (by decide) h37) ?_
          refine XE.go (st_iconst (n := 0) (pc' := 42) (by decide +kernel) (w_eq (by decide) (by decide)) rfl) ?_
          refine XE.cast (hx27 _) ?_
          exact XE.rt rfl (X_zret (by decide +kernel) rfl (by decide))
        · refine XE.go (st_if_eq_f (off := 11) (pc' := 33) (by decide +kernel) 41 (by decide) rfl h38) ?_
          refine XE.go (st_aload (j := 4) (pc' := 35) (by decide +kernel) rfl (by decide) rfl) ?_
          refine XE.asc ?_
          refine XE.cP (pc' := 38) (st := []) (fun r hr => ct_X0_handsHold h35 r hr) (fun r hr => run_V (st := []) (by decide +kernel) co_X10_sharesHold_612 (ct_X0_handsHold h35 r hr) rfl h35 rfl rfl (Nat.le_of_ble_eq_true rfl)) rfl rfl (fun r39 => ?_)
          refine XE.bite (fun h40 => ?_) (fun h41 => ?_)
          · refine XE.go (st_if_ne_f (off := 5) (pc' := 41) (by decide +kernel) 43 (by decide) rfl (not_not_intro h40)) ?_
            refine XE.go (st_iconst (n := 0) (pc' := 42) (by decide +kernel) (w_eq (by decide) (by decide)) rfl) ?_
            refine XE.cast (hx27 _) ?_
            exact XE.rt rfl (X_zret (by decide +kernel) rfl (by decide))
          · refine XE.go (st_if_ne_t (off := 5) (pc' := 43) (by decide +kernel) (by decide) h41) ?_
            refine XE.go (st_iinc (j := 3) (n := 1) (pc' := 46) (by decide +kernel) rfl rfl (by decide) rfl rfl) ?_
            refine XE.go (st_goto (off := (-36)) (pc' := 10) (by decide +kernel) (by decide)) ?_
            exact XE.pick [2, 3, 0] rfl (hc25 (w (s6 + 1)))
    · refine XE.go (st_icmp_ge_t (off := 37) (pc' := 49) (by decide +kernel) (by decide) (Int.not_lt.mp h30)) ?_
      exact XE.pick [] rfl (he26 ())
  · refine XE.go (st_iconst (n := 1) (pc' := 50) (by decide +kernel) (w_eq (by decide) (by decide)) rfl) ?_
    exact XE.rt rfl (X_zret (by decide +kernel) rfl (by decide))
theorem ct_X10_sharesHold {D : Dt} {M : Mm} {a0 : Int} (h0 : a0 ≠ 0) (r : Int) (hr : p_X10_sharesHold M a0 = some r) : CT D 0 mu_X10_sharesHold [(14, a0)] M (.inl (some (0, r))) M := CT.of (by decide +kernel) rfl (Nat.le_of_ble_eq_true rfl) (xe_X10_sharesHold h0 r hr)
def p_X10_audit (M : Mm) (a0 a1 : Int) : Option (Int × Int × Mm) := (p_X10_requireWithin M a1 0 6).bind (thU psT fun M1 => if a1 = 0 then (p_X10_logsHold M1 a0).bind fun r4 => gd (r4 = 0 ∨ r4 = 1) (some (0, r4, M1)) else if a1 = 1 then (p_X10_producersHold M1 a0).bind fun r8 => gd (r8 = 0 ∨ r8 = 1) (some (0, r8, M1)) else if a1 = 2 then (p_X10_transactionsHold M1 a0).bind fun r12 => gd (r12 = 0 ∨ r12 = 1) (some (0, r12, M1)) else if a1 = 3 then (p_X10_orderHolds M1 a0).bind fun r16 => gd (r16 = 0 ∨ r16 = 1) (some (0, r16, M1)) else if a1 = 4 then (p_X10_offsetsHold M1 a0).bind fun r20 => gd (r20 = 0 ∨ r20 = 1) (some (0, r20, M1)) else if a1 = 5 then (p_X10_sharesHold M1 a0).bind fun r24 => gd (r24 = 0 ∨ r24 = 1) (some (0, r24, M1)) else (p_X10_logsHold M1 a0).bind fun r26 => if r26 = 0 then some (0, 0, M1) else (p_X10_producersHold M1 a0).bind fun r29 => if r29 = 0 then some (0, 0, M1) else (p_X10_transactionsHold M1 a0).bind fun r32 => if r32 = 0 then some (0, 0, M1) else (p_X10_orderHolds M1 a0).bind fun r35 => if r35 = 0 then some (0, 0, M1) else (p_X10_offsetsHold M1 a0).bind fun r38 => if r38 = 0 then some (0, 0, M1) else (p_X10_sharesHold M1 a0).bind fun r41 => if r41 = 0 then some (0, 0, M1) else some (0, 1, M1))
set_option maxRecDepth 100000 in
set_option maxHeartbeats 4000000 in
theorem xe_X10_audit {D : Dt} {M : Mm} {a0 a1 : Int} (h0 : a0 ≠ 0) : XE D 0 mu_X10_audit (ET 0) 0 [(0, (14, a0)), (1, (0, a1))] [] M (p_X10_audit M a0 a1) := by
  unfold p_X10_audit
  refine XE.go (st_iload_n (j := 1) (i := 1) (pc' := 1) (by decide +kernel) rfl rfl rfl) ?_
  refine XE.go (st_iconst (n := 0) (pc' := 2) (by decide +kernel) (w_eq (by decide) (by decide)) rfl) ?_
  refine XE.go (st_bipush (n := 6) (pc' := 4) (by decide +kernel) (by decide) (w_eq (by decide) (by decide)) rfl) ?_
  refine XE.cUg (pc' := 7) (st := []) hfT (fun r hr => ct_X10_requireWithin r hr) (fun r hr => run_S (st := []) (by decide +kernel) co_X10_audit_73 (ct_X10_requireWithin r hr) rfl rfl (Nat.le_of_ble_eq_true rfl)) rfl rfl rfl (fun M1 => ?_)
  refine XE.go (st_iload_n (j := 1) (i := 1) (pc' := 8) (by decide +kernel) rfl rfl rfl) ?_
  refine XE.ite (fun h2 => ?_) (fun h3 => ?_)
  · refine XE.go (st_tab_in (dflt := 70) (lo := 0) (hi := 5) (offs := #[40, 45, 50, 55, 60, 65]) (len := 40) (off := 40) (pc' := 48) (by decide +kernel) 0 h2 (by decide) (by decide) (by decide) (by decide)) ?_
    refine XE.go (st_aload_n (j := 0) (i := 0) (pc' := 49) (by decide +kernel) rfl rfl (by decide) rfl) ?_
    refine XE.cP (pc' := 52) (st := []) (fun r hr => ct_X10_logsHold h0 r hr) (fun r hr => run_V (st := []) (by decide +kernel) co_X10_audit_571 (ct_X10_logsHold h0 r hr) rfl h0 rfl rfl (Nat.le_of_ble_eq_true rfl)) rfl rfl (fun r4 => ?_)
    refine XE.gd_ (fun g5 => ?_)
    exact XE.rt rfl (X_zret (by decide +kernel) rfl g5)
  refine XE.ite (fun h6 => ?_) (fun h7 => ?_)
  · refine XE.go (st_tab_in (dflt := 70) (lo := 0) (hi := 5) (offs := #[40, 45, 50, 55, 60, 65]) (len := 40) (off := 45) (pc' := 53) (by decide +kernel) 1 h6 (by decide) (by decide) (by decide) (by decide)) ?_
    refine XE.go (st_aload_n (j := 0) (i := 0) (pc' := 54) (by decide +kernel) rfl rfl (by decide) rfl) ?_
    refine XE.cP (pc' := 57) (st := []) (fun r hr => ct_X10_producersHold h0 r hr) (fun r hr => run_V (st := []) (by decide +kernel) co_X10_audit_574 (ct_X10_producersHold h0 r hr) rfl h0 rfl rfl (Nat.le_of_ble_eq_true rfl)) rfl rfl (fun r8 => ?_)
    refine XE.gd_ (fun g9 => ?_)
    exact XE.rt rfl (X_zret (by decide +kernel) rfl g9)
  refine XE.ite (fun h10 => ?_) (fun h11 => ?_)
  · refine XE.go (st_tab_in (dflt := 70) (lo := 0) (hi := 5) (offs := #[40, 45, 50, 55, 60, 65]) (len := 40) (off := 50) (pc' := 58) (by decide +kernel) 2 h10 (by decide) (by decide) (by decide) (by decide)) ?_
    refine XE.go (st_aload_n (j := 0) (i := 0) (pc' := 59) (by decide +kernel) rfl rfl (by decide) rfl) ?_
    refine XE.cP (pc' := 62) (st := []) (fun r hr => ct_X10_transactionsHold h0 r hr) (fun r hr => run_V (st := []) (by decide +kernel) co_X10_audit_577 (ct_X10_transactionsHold h0 r hr) rfl h0 rfl rfl (Nat.le_of_ble_eq_true rfl)) rfl rfl (fun r12 => ?_)
    refine XE.gd_ (fun g13 => ?_)
    exact XE.rt rfl (X_zret (by decide +kernel) rfl g13)
  refine XE.ite (fun h14 => ?_) (fun h15 => ?_)
  · refine XE.go (st_tab_in (dflt := 70) (lo := 0) (hi := 5) (offs := #[40, 45, 50, 55, 60, 65]) (len := 40) (off := 55) (pc' := 63) (by decide +kernel) 3 h14 (by decide) (by decide) (by decide) (by decide)) ?_
    refine XE.go (st_aload_n (j := 0) (i := 0) (pc' := 64) (by decide +kernel) rfl rfl (by decide) rfl) ?_
    refine XE.cP (pc' := 67) (st := []) (fun r hr => ct_X10_orderHolds h0 r hr) (fun r hr => run_V (st := []) (by decide +kernel) co_X10_audit_580 (ct_X10_orderHolds h0 r hr) rfl h0 rfl rfl (Nat.le_of_ble_eq_true rfl)) rfl rfl (fun r16 => ?_)
    refine XE.gd_ (fun g17 => ?_)
    exact XE.rt rfl (X_zret (by decide +kernel) rfl g17)
  refine XE.ite (fun h18 => ?_) (fun h19 => ?_)
  · refine XE.go (st_tab_in (dflt := 70) (lo := 0) (hi := 5) (offs := #[40, 45, 50, 55, 60, 65]) (len := 40) (off := 60) (pc' := 68) (by decide +kernel) 4 h18 (by decide) (by decide) (by decide) (by decide)) ?_
    refine XE.go (st_aload_n (j := 0) (i := 0) (pc' := 69) (by decide +kernel) rfl rfl (by decide) rfl) ?_
    refine XE.cP (pc' := 72) (st := []) (fun r hr => ct_X10_offsetsHold h0 r hr) (fun r hr => run_V (st := []) (by decide +kernel) co_X10_audit_583 (ct_X10_offsetsHold h0 r hr) rfl h0 rfl rfl (Nat.le_of_ble_eq_true rfl)) rfl rfl (fun r20 => ?_)
    refine XE.gd_ (fun g21 => ?_)
    exact XE.rt rfl (X_zret (by decide +kernel) rfl g21)
  refine XE.ite (fun h22 => ?_) (fun h23 => ?_)
  · refine XE.go (st_tab_in (dflt := 70) (lo := 0) (hi := 5) (offs := #[40, 45, 50, 55, 60, 65]) (len := 40) (off := 65) (pc' := 73) (by decide +kernel) 5 h22 (by decide) (by decide) (by decide) (by decide)) ?_
    refine XE.go (st_aload_n (j := 0) (i := 0) (pc' := 74) (by decide +kernel) rfl rfl (by decide) rfl) ?_
    refine XE.cP (pc' := 77) (st := []) (fun r hr => ct_X10_sharesHold h0 r hr) (fun r hr => run_V (st := []) (by decide +kernel) co_X10_audit_586 (ct_X10_sharesHold h0 r hr) rfl h0 rfl rfl (Nat.le_of_ble_eq_true rfl)) rfl rfl (fun r24 => ?_)
    refine XE.gd_ (fun g25 => ?_)
    exact XE.rt rfl (X_zret (by decide +kernel) rfl g25)
  refine XE.go (st_tab_out (dflt := 70) (lo := 0) (hi := 5) (offs := #[40, 45, 50, 55, 60, 65]) (len := 40) (pc' := 78) (by decide +kernel) (by omega) (by decide)) ?_
  refine XE.go (st_aload_n (j := 0) (i := 0) (pc' := 79) (by decide +kernel) rfl rfl (by decide) rfl) ?_
  refine XE.cP (pc' := 82) (st := []) (fun r hr => ct_X10_logsHold h0 r hr) (fun r hr => run_V (st := []) (by decide +kernel) co_X10_audit_571 (ct_X10_logsHold h0 r hr) rfl h0 rfl rfl (Nat.le_of_ble_eq_true rfl)) rfl rfl (fun r26 => ?_)
  refine XE.ite (fun h27 => ?_) (fun h28 => ?_)
  · refine XE.go (st_if_eq_t (off := 42) (pc' := 124) (by decide +kernel) (by decide) h27) ?_
    refine XE.go (st_iconst (n := 0) (pc' := 125) (by decide +kernel) (w_eq (by decide) (by decide)) rfl) ?_
    exact XE.rt rfl (X_zret (by decide +kernel) rfl (by decide))
  · refine XE.go (st_if_eq_f (off := 42) (pc' := 85) (by decide +kernel) 124 (by decide) rfl h28) ?_
    refine XE.go (st_aload_n (j := 0) (i := 0) (pc' := 86) (by decide +kernel) rfl rfl (by decide) rfl) ?_
    refine XE.cP (pc' := 89) (st := []) (fun r hr => ct_X10_producersHold h0 r hr) (fun r hr => run_V (st := []) (by decide +kernel) co_X10_audit_574 (ct_X10_producersHold h0 r hr) rfl h0 rfl rfl (Nat.le_of_ble_eq_true rfl)) rfl rfl (fun r29 => ?_)
    refine XE.ite (fun h30 => ?_) (fun h31 => ?_)
    · refine XE.go (st_if_eq_t (off := 35) (pc' := 124) (by decide +kernel) (by decide) h30) ?_
      refine XE.go (st_iconst (n := 0) (pc' := 125) (by decide +kernel) (w_eq (by decide) (by decide)) rfl) ?_
      exact XE.rt rfl (X_zret (by decide +kernel) rfl (by decide))
    · refine XE.go (st_if_eq_f (off := 35) (pc' := 92) (by decide +kernel) 124 (by decide) rfl h31) ?_
      refine XE.go (st_aload_n (j := 0) (i := 0) (pc' := 93) (by decide +kernel) rfl rfl (by decide) rfl) ?_
      refine XE.cP (pc' := 96) (st := []) (fun r hr => ct_X10_transactionsHold h0 r hr) (fun r hr => run_V (st := []) (by decide +kernel) co_X10_audit_577 (ct_X10_transactionsHold h0 r hr) rfl h0 rfl rfl (Nat.le_of_ble_eq_true rfl)) rfl rfl (fun r32 => ?_)
      refine XE.ite (fun h33 => ?_) (fun h34 => ?_)
      · refine XE.go (st_if_eq_t (off := 28) (pc' := 124) (by decide +kernel) (by decide) h33) ?_
        refine XE.go (st_iconst (n := 0) (pc' := 125) (by decide +kernel) (w_eq (by decide) (by decide)) rfl) ?_
        exact XE.rt rfl (X_zret (by decide +kernel) rfl (by decide))
      · refine XE.go (st_if_eq_f (off := 28) (pc' := 99) (by decide +kernel) 124 (by decide) rfl h34) ?_
        refine XE.go (st_aload_n (j := 0) (i := 0) (pc' := 100) (by decide +kernel) rfl rfl (by decide) rfl) ?_
        refine XE.cP (pc' := 103) (st := []) (fun r hr => ct_X10_orderHolds h0 r hr) (fun r hr => run_V (st := []) (by decide +kernel) co_X10_audit_580 (ct_X10_orderHolds h0 r hr) rfl h0 rfl rfl (Nat.le_of_ble_eq_true rfl)) rfl rfl (fun r35 => ?_)
        refine XE.ite (fun h36 => ?_) (fun h37 => ?_)
        · refine XE.go (st_if_eq_t (off := 21) (pc' := 124) (by decide +kernel) (by decide) h36) ?_
          refine XE.go (st_iconst (n := 0) (pc' := 125) (by decide +kernel) (w_eq (by decide) (by decide)) rfl) ?_
          exact XE.rt rfl (X_zret (by decide +kernel) rfl (by decide))
        · refine XE.go (st_if_eq_f (off := 21) (pc' := 106) (by decide +kernel) 124 (by decide) rfl h37) ?_
          refine XE.go (st_aload_n (j := 0) (i := 0) (pc' := 107) (by decide +kernel) rfl rfl (by decide) rfl) ?_
          refine XE.cP (pc' := 110) (st := []) (fun r hr => ct_X10_offsetsHold h0 r hr) (fun r hr => run_V (st := []) (by decide +kernel) co_X10_audit_583 (ct_X10_offsetsHold h0 r hr) rfl h0 rfl rfl (Nat.le_of_ble_eq_true rfl)) rfl rfl (fun r38 => ?_)
          refine XE.ite (fun h39 => ?_) (fun h40 => ?_)
          · refine XE.go (st_if_eq_t (off := 14) (pc' := 124) (by decide +kernel) (by decide) h39) ?_
            refine XE.go (st_iconst (n := 0) (pc' := 125) (by decide +kernel) (w_eq (by decide) (by decide)) rfl) ?_
            exact XE.rt rfl (X_zret (by decide +kernel) rfl (by decide))
          · refine XE.go (st_if_eq_f (off := 14) (pc' := 113) (by decide +kernel) 124 (by decide) rfl h40) ?_
            refine XE.go (st_aload_n (j := 0) (i := 0) (pc' := 114) (by decide +kernel) rfl rfl (by decide) rfl) ?_
            refine XE.cP (pc' := 117) (st := []) (fun r hr => ct_X10_sharesHold h0 r hr) (fun r hr => run_V (st := []) (by decide +kernel) co_X10_audit_586 (ct_X10_sharesHold h0 r hr) rfl h0 rfl rfl (Nat.le_of_ble_eq_true rfl)) rfl rfl (fun r41 => ?_)
            refine XE.ite (fun h42 => ?_) (fun h43 => ?_)
            · refine XE.go (st_if_eq_t (off := 7) (pc' := 124) (by decide +kernel) (by decide) h42) ?_
              refine XE.go (st_iconst (n := 0) (pc' := 125) (by decide +kernel) (w_eq (by decide) (by decide)) rfl) ?_
              exact XE.rt rfl (X_zret (by decide +kernel) rfl (by decide))
            · refine XE.go (st_if_eq_f (off := 7) (pc' := 120) (by decide +kernel) 124 (by decide) rfl h43) ?_
              refine XE.go (st_iconst (n := 1) (pc' := 121) (by decide +kernel) (w_eq (by decide) (by decide)) rfl) ?_
              refine XE.go (st_goto (off := 4) (pc' := 125) (by decide +kernel) (by decide)) ?_
              exact XE.rt rfl (X_zret (by decide +kernel) rfl (by decide))
theorem ct_X10_audit {D : Dt} {M : Mm} {a0 a1 : Int} (h0 : a0 ≠ 0) (r : (Int × Int × Mm)) (hr : p_X10_audit M a0 a1 = some r) : CT D 0 mu_X10_audit [(14, a0), (0, a1)] M (ET 0 r).1 (ET 0 r).2 := CT.of (by decide +kernel) rfl (Nat.le_of_ble_eq_true rfl) (xe_X10_audit h0 r hr)
def b_X10_takeInGroup_74 (v28 : Int) (M : Mm) (a1 : Int) (s30 : Int × Int) : Option ((Int × Int) ⊕ (Int)) := if 4 < s30.2 then some (.inr s30.1) else if v28 = 0 then some (.inr s30.1) else (p_X10_tellShare M a1 v28 s30.2).bind fun r40 => (some ((w ((w (31 * s30.1)) + r40)))).bind fun v41 => some (.inl (v41, (w (s30.2 + 1))))
def b_X10_takeInGroup_58 (v17 : Int) (v14 : Int) (M : Mm) (a1 : Int) (s19 : Int × Int) : Option ((Int × Int) ⊕ (Int)) := if s19.2 < v17 then gd (aok v14 s19.2) ((some ((rd M v14 s19.2))).bind fun v28 => (lp (b_X10_takeInGroup_74 v28 M a1) 1000 (s19.1, 0)).bind fun (t31 : Int) => some (.inl (t31, (w (s19.2 + 1))))) else some (.inr s19.1)
def p_X10_takeInGroup (M : Mm) (a0 a1 : Int) : Option Int := (p_X10_tellGroup M a1 0).bind fun r1 => (some ((w ((w (31 * a0)) + r1)))).bind fun v2 => (p_X10_tellGroup M a1 1).bind fun r4 => (some ((w ((w (31 * v2)) + r4)))).bind fun v5 => (p_X10_tellGroup M a1 3).bind fun r7 => (some ((w ((w (31 * v5)) + r7)))).bind fun v8 => (p_X10_tellGroup M a1 4).bind fun r10 => (some ((w ((w (31 * v8)) + r10)))).bind fun v11 => gd (a1 ≠ 0) ((some ((rd M a1 0))).bind fun v14 => gd (v14 ≠ 0) ((some ((ln v14))).bind fun v17 => (lp (b_X10_takeInGroup_58 v17 v14 M a1) 1000 (v11, 0)).bind fun (t20 : Int) => some (t20)))
set_option maxRecDepth 100000 in
set_option maxHeartbeats 4000000 in
theorem xe_X10_takeInGroup {D : Dt} {M : Mm} {a0 a1 : Int} : XE D 0 mu_X10_takeInGroup (EP 0 M) 0 [(0, (0, a0)), (1, (4, a1))] [] M (p_X10_takeInGroup M a0 a1) := by
  unfold p_X10_takeInGroup
  refine XE.go (st_iload_n (j := 0) (i := 0) (pc' := 1) (by decide +kernel) rfl rfl rfl) ?_
  refine XE.go (st_istore_n (j := 2) (i := 2) (pc' := 2) (by decide +kernel) rfl rfl (by decide) rfl rfl) ?_
  refine XE.go (st_bipush (n := 31) (pc' := 4) (by decide +kernel) (by decide) (w_eq (by decide) (by decide)) rfl) ?_
  refine XE.go (st_iload_n (j := 2) (i := 2) (pc' := 5) (by decide +kernel) rfl rfl rfl) ?_
  refine XE.go (st_imul (pc' := 6) (by decide +kernel) rfl) ?_
  refine XE.go (st_aload_n (j := 1) (i := 1) (pc' := 7) (by decide +kernel) rfl rfl (by decide) rfl) ?_
  refine XE.go (st_iconst (n := 0) (pc' := 8) (by decide +kernel) (w_eq (by decide) (by decide)) rfl) ?_
  refine XE.cP (pc' := 11) (st := [(0, (w (31 * a0)))]) (fun r hr => ct_X10_tellGroup r hr) (fun r hr => run_S (st := [(0, (w (31 * a0)))]) (by decide +kernel) co_X10_takeInGroup_555 (ct_X10_tellGroup r hr) rfl rfl (Nat.le_of_ble_eq_true rfl)) rfl rfl (fun r1 => ?_)
  refine XE.go (st_iadd (pc' := 12) (by decide +kernel) rfl) ?_
  refine XE.gen (fun v2 e3 => ?_)
  refine XE.go (st_istore_n (j := 2) (i := 2) (pc' := 13) (by decide +kernel) rfl rfl (by decide) rfl rfl) ?_
  refine XE.go (st_bipush (n := 31) (pc' := 15) (by decide +kernel) (by decide) (w_eq (by decide) (by decide)) rfl) ?_
  refine XE.go (st_iload_n (j := 2) (i := 2) (pc' := 16) (by decide +kernel) rfl rfl rfl) ?_
  refine XE.go (st_imul (pc' := 17) (by decide +kernel) rfl) ?_
  refine XE.go (st_aload_n (j := 1) (i := 1) (pc' := 18) (by decide +kernel) rfl rfl (by decide) rfl) ?_
  refine XE.go (st_iconst (n := 1) (pc' := 19) (by decide +kernel) (w_eq (by decide) (by decide)) rfl) ?_
  refine XE.cP (pc' := 22) (st := [(0, (w (31 * v2)))]) (fun r hr => ct_X10_tellGroup r hr) (fun r hr => run_S (st := [(0, (w (31 * v2)))]) (by decide +kernel) co_X10_takeInGroup_555 (ct_X10_tellGroup r hr) rfl rfl (Nat.le_of_ble_eq_true rfl)) rfl rfl (fun r4 => ?_)
  refine XE.go (st_iadd (pc' := 23) (by decide +kernel) rfl) ?_
  refine XE.gen (fun v5 e6 => ?_)
  refine XE.go (st_istore_n (j := 2) (i := 2) (pc' := 24) (by decide +kernel) rfl rfl (by decide) rfl rfl) ?_
  refine XE.go (st_bipush (n := 31) (pc' := 26) (by decide +kernel) (by decide) (w_eq (by decide) (by decide)) rfl) ?_
  refine XE.go (st_iload_n (j := 2) (i := 2) (pc' := 27) (by decide +kernel) rfl rfl rfl) ?_
  refine XE.go (st_imul (pc' := 28) (by decide +kernel) rfl) ?_
  refine XE.go (st_aload_n (j := 1) (i := 1) (pc' := 29) (by decide +kernel) rfl rfl (by decide) rfl) ?_
  refine XE.go (st_iconst (n := 3) (pc' := 30) (by decide +kernel) (w_eq (by decide) (by decide)) rfl) ?_
  refine XE.cP (pc' := 33) (st := [(0, (w (31 * v5)))]) (fun r hr => ct_X10_tellGroup r hr) (fun r hr => run_S (st := [(0, (w (31 * v5)))]) (by decide +kernel) co_X10_takeInGroup_555 (ct_X10_tellGroup r hr) rfl rfl (Nat.le_of_ble_eq_true rfl)) rfl rfl (fun r7 => ?_)
  refine XE.go (st_iadd (pc' := 34) (by decide +kernel) rfl) ?_
  refine XE.gen (fun v8 e9 => ?_)
  refine XE.go (st_istore_n (j := 2) (i := 2) (pc' := 35) (by decide +kernel) rfl rfl (by decide) rfl rfl) ?_
  refine XE.go (st_bipush (n := 31) (pc' := 37) (by decide +kernel) (by decide) (w_eq (by decide) (by decide)) rfl) ?_
  refine XE.go (st_iload_n (j := 2) (i := 2) (pc' := 38) (by decide +kernel) rfl rfl rfl) ?_
  refine XE.go (st_imul (pc' := 39) (by decide +kernel) rfl) ?_
  refine XE.go (st_aload_n (j := 1) (i := 1) (pc' := 40) (by decide +kernel) rfl rfl (by decide) rfl) ?_
  refine XE.go (st_iconst (n := 4) (pc' := 41) (by decide +kernel) (w_eq (by decide) (by decide)) rfl) ?_
  refine XE.cP (pc' := 44) (st := [(0, (w (31 * v8)))]) (fun r hr => ct_X10_tellGroup r hr) (fun r hr => run_S (st := [(0, (w (31 * v8)))]) (by decide +kernel) co_X10_takeInGroup_555 (ct_X10_tellGroup r hr) rfl rfl (Nat.le_of_ble_eq_true rfl)) rfl rfl (fun r10 => ?_)
  refine XE.go (st_iadd (pc' := 45) (by decide +kernel) rfl) ?_
  refine XE.gen (fun v11 e12 => ?_)
  refine XE.go (st_istore_n (j := 2) (i := 2) (pc' := 46) (by decide +kernel) rfl rfl (by decide) rfl rfl) ?_
  refine XE.go (st_aload_n (j := 1) (i := 1) (pc' := 47) (by decide +kernel) rfl rfl (by decide) rfl) ?_
  refine XE.gd_ (fun g13 => ?_)
  refine XE.go (st_get (pc' := 50) (by decide +kernel) rfl cls_0 fld_RX10_619 rfl rfl g13) ?_
  refine XE.gen (fun v14 e15 => ?_)
  refine XE.go (st_astore_n (j := 3) (i := 3) (pc' := 51) (by decide +kernel) rfl (by decide) rfl (by decide) rfl rfl) ?_
  refine XE.go (st_aload_n (j := 3) (i := 3) (pc' := 52) (by decide +kernel) rfl rfl (by decide) rfl) ?_
  refine XE.gd_ (fun g16 => ?_)
  refine XE.go (st_alen (k := 24) (pc' := 53) (by decide +kernel) rfl ak_24 rfl (by decide) g16) ?_
  refine XE.gen (fun v17 e18 => ?_)
  refine XE.go (st_istore (j := 4) (pc' := 55) (by decide +kernel)  rfl (by decide) rfl rfl) ?_
  refine XE.go (st_iconst (n := 0) (pc' := 56) (by decide +kernel) (w_eq (by decide) (by decide)) rfl) ?_
  refine XE.go (st_istore (j := 5) (pc' := 58) (by decide +kernel)  rfl (by decide) rfl rfl) ?_
  refine XE.pick [5, 3, 2, 1, 0] (L' := [(1, (4, a1)), (2, (0, v11)), (3, (27, v14)), (4, (0, v17)), (5, (0, 0))]) rfl ?_
  refine XE.loopJ (n := 1000) (s0 := (v11, 0)) (pcL := 58) (pcE := 111) (LL := fun (s19 : Int × Int) => [(1, (4, a1)), (2, (0, s19.1)), (3, (27, v14)), (4, (0, v17)), (5, (0, s19.2))]) (sL := fun _ => []) (ML := fun (s19 : Int × Int) => M) (LE := fun (t20 : Int) => [(2, (0, t20))]) (sE := fun _ => []) (ME := fun (t20 : Int) => M) (fun kk24 hc21 he22 s19 => ?_) (fun t20 => ?_)
  · unfold b_X10_takeInGroup_58
    refine XE.go (st_iload (j := 5) (pc' := 60) (by decide +kernel) rfl rfl) ?_
    refine XE.go (st_iload (j := 4) (pc' := 62) (by decide +kernel) rfl rfl) ?_
    refine XE.bite (fun h25 => ?_) (fun h26 => ?_)
    · refine XE.go (st_icmp_ge_f (off := 49) (pc' := 65) (by decide +kernel) 111 (by decide) rfl (Int.not_le.mpr h25)) ?_
      refine XE.go (st_aload_n (j := 3) (i := 3) (pc' := 66) (by decide +kernel) rfl rfl (by decide) rfl) ?_
      refine XE.go (st_iload (j := 5) (pc' := 68) (by decide +kernel) rfl rfl) ?_
      refine XE.gdb (fun g27 => ?_)
      refine XE.go (st_ald (k := 24) (tp := 12) (pc' := 69) (by decide +kernel) rfl ak_24 rfl (by decide) rfl (Or.inr (Or.inr (Or.inr ⟨rfl, rfl⟩))) g27.1 g27.2.1 g27.2.2) ?_
      refine XE.asc ?_
      refine XE.gen (fun v28 e29 => ?_)
      refine XE.go (st_astore (j := 6) (pc' := 71) (by decide +kernel)  (by decide) rfl (by decide) rfl rfl) ?_
      refine XE.go (st_iconst (n := 0) (pc' := 72) (by decide +kernel) (w_eq (by decide) (by decide)) rfl) ?_
      refine XE.go (st_istore (j := 7) (pc' := 74) (by decide +kernel)  rfl (by decide) rfl rfl) ?_
      refine XE.pick [2, 3, 4, 5, 6, 1, 0] (L' := [(1, (4, a1)), (2, (0, s19.1)), (3, (27, v14)), (4, (0, v17)), (5, (0, s19.2)), (6, (12, v28)), (7, (0, 0))]) rfl ?_
      refine XE.asc ?_
      refine XE.loopJ (n := 1000) (s0 := (s19.1, 0)) (pcL := 74) (pcE := 105) (LL := fun (s30 : Int × Int) => [(1, (4, a1)), (2, (0, s30.1)), (3, (27, v14)), (4, (0, v17)), (5, (0, s19.2)), (6, (12, v28)), (7, (0, s30.2))]) (sL := fun _ => []) (ML := fun (s30 : Int × Int) => M) (LE := fun (t31 : Int) => [(1, (4, a1)), (2, (0, t31)), (3, (27, v14)), (4, (0, v17)), (5, (0, s19.2))]) (sE := fun _ => []) (ME := fun (t31 : Int) => M) (fun kk35 hc32 he33 s30 => ?_) (fun t31 => ?_)
      · unfold b_X10_takeInGroup_74
        refine XE.go (st_iload (j := 7) (pc' := 76) (by decide +kernel) rfl rfl) ?_
        refine XE.go (st_iconst (n := 4) (pc' := 77) (by decide +kernel) (w_eq (by decide) (by decide)) rfl) ?_
        refine XE.bite (fun h36 => ?_) (fun h37 => ?_)
        · refine XE.go (st_icmp_gt_t (off := 28) (pc' := 105) (by decide +kernel) (by decide) h36) ?_
          exact XE.pick [0, 1, 2, 3, 4] rfl (he33 s30.1)
        · refine XE.go (st_icmp_gt_f (off := 28) (pc' := 80) (by decide +kernel) 105 (by decide) rfl h37) ?_
          refine XE.go (st_aload (j := 6) (pc' := 82) (by decide +kernel) rfl (by decide) rfl) ?_
          refine XE.bite (fun h38 => ?_) (fun h39 => ?_)
          · refine XE.go (st_ifnull_t (off := 23) (pc' := 105) (by decide +kernel) (by decide) h38 (by decide)) ?_
            exact XE.pick [0, 1, 2, 3, 4] rfl (he33 s30.1)
          · refine XE.go (st_ifnull_f (off := 23) (pc' := 85) (by decide +kernel) (by decide) h39 rfl) ?_
            refine XE.go (st_bipush (n := 31) (pc' := 87) (by decide +kernel) (by decide) (w_eq (by decide) (by decide)) rfl) ?_
            refine XE.go (st_iload_n (j := 2) (i := 2) (pc' := 88) (by decide +kernel) rfl rfl rfl) ?_
            refine XE.go (st_imul (pc' := 89) (by decide +kernel) rfl) ?_
            refine XE.go (st_aload_n (j := 1) (i := 1) (pc' := 90) (by decide +kernel) rfl rfl (by decide) rfl) ?_
            refine XE.go (st_aload (j := 6) (pc' := 92) (by decide +kernel) rfl (by decide) rfl) ?_
            refine XE.go (st_iload (j := 7) (pc' := 94) (by decide +kernel) rfl rfl) ?_
            refine XE.asc ?_
            refine XE.cP (pc' := 97) (st := [(0, (w (31 * s30.1)))]) (fun r hr => ct_X10_tellShare r hr) (fun r hr => run_S (st := [(0, (w (31 * s30.1)))]) (by decide +kernel) co_X10_takeInGroup_503 (ct_X10_tellShare r hr) rfl rfl (Nat.le_of_ble_eq_true rfl)) rfl rfl (fun r40 => ?_)
            refine XE.go (st_iadd (pc' := 98) (by decide +kernel) rfl) ?_
            refine XE.asc ?_
            refine XE.gen (fun v41 e42 => ?_)
            refine XE.go (st_istore_n (j := 2) (i := 2) (pc' := 99) (by decide +kernel) rfl rfl (by decide) rfl rfl) ?_
            refine XE.go (st_iinc (j := 7) (n := 1) (pc' := 102) (by decide +kernel) rfl rfl (by decide) rfl rfl) ?_
            refine XE.go (st_goto (off := (-28)) (pc' := 74) (by decide +kernel) (by decide)) ?_
            exact XE.pick [2, 1, 3, 4, 5, 6, 0] rfl (hc32 (v41, (w (s30.2 + 1))))
      · refine XE.go (st_iinc (j := 5) (n := 1) (pc' := 108) (by decide +kernel) rfl rfl (by decide) rfl rfl) ?_
        refine XE.go (st_goto (off := (-50)) (pc' := 58) (by decide +kernel) (by decide)) ?_
        exact XE.pick [1, 2, 3, 4, 0] rfl (hc21 (t31, (w (s19.2 + 1))))
    · refine XE.go (st_icmp_ge_t (off := 49) (pc' := 111) (by decide +kernel) (by decide) (Int.not_lt.mp h26)) ?_
      exact XE.pick [1] rfl (he22 s19.1)
  · refine XE.go (st_iload_n (j := 2) (i := 2) (pc' := 112) (by decide +kernel) rfl rfl rfl) ?_
    exact XE.rt rfl (X_iret (by decide +kernel) rfl)
theorem ct_X10_takeInGroup {D : Dt} {M : Mm} {a0 a1 : Int} (r : Int) (hr : p_X10_takeInGroup M a0 a1 = some r) : CT D 0 mu_X10_takeInGroup [(0, a0), (4, a1)] M (.inl (some (0, r))) M := CT.of (by decide +kernel) rfl (Nat.le_of_ble_eq_true rfl) (xe_X10_takeInGroup r hr)
def b_X10_digest_112 (v45 : Int) (M : Mm) (s47 : Int × Int) : Option ((Int × Int) ⊕ (Int)) := if 7 < s47.2 then some (.inr s47.1) else if v45 = 0 then some (.inr s47.1) else (p_X10_tellPartition M v45 s47.2).bind fun r57 => (some ((w ((w (31 * s47.1)) + r57)))).bind fun v58 => some (.inl (v58, (w (s47.2 + 1))))
def b_X10_digest_160 (v63 : Int) (v60 : Int) (M : Mm) (s65 : Int × Int) : Option ((Int × Int) ⊕ (Int)) := if s65.2 < v63 then gd (aok v60 s65.2) ((some ((rd M v60 s65.2))).bind fun v74 => if v74 = 0 then some (.inl (s65.1, (w (s65.2 + 1)))) else (p_X10_takeInGroup M s65.1 v74).bind fun r78 => some (.inl (r78, (w (s65.2 + 1))))) else some (.inr s65.1)
def b_X10_digest_97 (v34 : Int) (v31 : Int) (M : Mm) (s36 : Int × Int) : Option ((Int × Int) ⊕ (Int)) := if s36.2 < v34 then gd (aok v31 s36.2) ((some ((rd M v31 s36.2))).bind fun v45 => (lp (b_X10_digest_112 v45 M) 1000 (s36.1, 1)).bind fun (t48 : Int) => some (.inl (t48, (w (s36.2 + 1))))) else some (.inr s36.1)
def b_X10_digest_14 (v4 : Int) (v1 : Int) (M : Mm) (s6 : Int × Int) : Option ((Int × Int) ⊕ (Int)) := if s6.2 < v4 then gd (aok v1 s6.2) ((some ((rd M v1 s6.2))).bind fun v15 => if v15 = 0 then some (.inl (s6.1, (w (s6.2 + 1)))) else (p_X10_tellMessage M v15 0).bind fun r19 => (some ((w ((w (31 * s6.1)) + r19)))).bind fun v20 => (p_X10_tellMessage M v15 1).bind fun r22 => (some ((w ((w (31 * v20)) + r22)))).bind fun v23 => (p_X10_tellMessage M v15 4).bind fun r25 => (some ((w ((w (31 * v23)) + r25)))).bind fun v26 => (p_X10_tellMessage M v15 7).bind fun r28 => (some ((w ((w (31 * v26)) + r28)))).bind fun v29 => some (.inl (v29, (w (s6.2 + 1))))) else some (.inr s6.1)
def p_X10_digest (M : Mm) (a0 : Int) : Option Int := (some ((rd M a0 4))).bind fun v1 => gd (v1 ≠ 0) ((some ((ln v1))).bind fun v4 => (lp (b_X10_digest_14 v4 v1 M) 1000 (17, 0)).bind fun (t7 : Int) => (some ((rd M a0 1))).bind fun v31 => gd (v31 ≠ 0) ((some ((ln v31))).bind fun v34 => (lp (b_X10_digest_97 v34 v31 M) 1000 (t7, 0)).bind fun (t37 : Int) => (some ((rd M a0 3))).bind fun v60 => gd (v60 ≠ 0) ((some ((ln v60))).bind fun v63 => (lp (b_X10_digest_160 v63 v60 M) 1000 (t37, 0)).bind fun (t66 : Int) => some (t66))))
set_option maxRecDepth 100000 in
set_option maxHeartbeats 4000000 in
theorem xe_X10_digest {D : Dt} {M : Mm} {a0 : Int} (h0 : a0 ≠ 0) : XE D 0 mu_X10_digest (EP 0 M) 0 [(0, (14, a0))] [] M (p_X10_digest M a0) := by
  unfold p_X10_digest
  refine XE.go (st_bipush (n := 17) (pc' := 2) (by decide +kernel) (by decide) (w_eq (by decide) (by decide)) rfl) ?_
  refine XE.go (st_istore_n (j := 1) (i := 1) (pc' := 3) (by decide +kernel) rfl rfl (by decide) rfl rfl) ?_
  refine XE.go (st_aload_n (j := 0) (i := 0) (pc' := 4) (by decide +kernel) rfl rfl (by decide) rfl) ?_
  refine XE.go (st_get (pc' := 7) (by decide +kernel) rfl cls_10 fld_RX10_35 rfl rfl h0) ?_
  refine XE.gen (fun v1 e2 => ?_)
  refine XE.go (st_astore_n (j := 2) (i := 2) (pc' := 8) (by decide +kernel) rfl (by decide) rfl (by decide) rfl rfl) ?_
  refine XE.go (st_aload_n (j := 2) (i := 2) (pc' := 9) (by decide +kernel) rfl rfl (by decide) rfl) ?_
  refine XE.gd_ (fun g3 => ?_)
  refine XE.go (st_alen (k := 20) (pc' := 10) (by decide +kernel) rfl ak_20 rfl (by decide) g3) ?_
  refine XE.gen (fun v4 e5 => ?_)
  refine XE.go (st_istore_n (j := 3) (i := 3) (pc' := 11) (by decide +kernel) rfl rfl (by decide) rfl rfl) ?_
  refine XE.go (st_iconst (n := 0) (pc' := 12) (by decide +kernel) (w_eq (by decide) (by decide)) rfl) ?_
  refine XE.go (st_istore (j := 4) (pc' := 14) (by decide +kernel)  rfl (by decide) rfl rfl) ?_
  refine XE.pick [4, 3, 2, 1, 0] (L' := [(0, (14, a0)), (1, (0, 17)), (2, (23, v1)), (3, (0, v4)), (4, (0, 0))]) rfl ?_
  refine XE.loopJ (n := 1000) (s0 := (17, 0)) (pcL := 14) (pcE := 86) (LL := fun (s6 : Int × Int) => [(0, (14, a0)), (1, (0, s6.1)), (2, (23, v1)), (3, (0, v4)), (4, (0, s6.2))]) (sL := fun _ => []) (ML := fun (s6 : Int × Int) => M) (LE := fun (t7 : Int) => [(0, (14, a0)), (1, (0, t7))]) (sE := fun _ => []) (ME := fun (t7 : Int) => M) (fun kk11 hc8 he9 s6 => ?_) (fun t7 => ?_)
  · unfold b_X10_digest_14
    refine XE.go (st_iload (j := 4) (pc' := 16) (by decide +kernel) rfl rfl) ?_
    refine XE.go (st_iload_n (j := 3) (i := 3) (pc' := 17) (by decide +kernel) rfl rfl rfl) ?_
    refine XE.bite (fun h12 => ?_) (fun h13 => ?_)
    · refine XE.go (st_icmp_ge_f (off := 69) (pc' := 20) (by decide +kernel) 86 (by decide) rfl (Int.not_le.mpr h12)) ?_
      refine XE.go (st_aload_n (j := 2) (i := 2) (pc' := 21) (by decide +kernel) rfl rfl (by decide) rfl) ?_
      refine XE.go (st_iload (j := 4) (pc' := 23) (by decide +kernel) rfl rfl) ?_
      refine XE.gdb (fun g14 => ?_)
      refine XE.go (st_ald (k := 20) (tp := 8) (pc' := 24) (by decide +kernel) rfl ak_20 rfl (by decide) rfl (Or.inr (Or.inr (Or.inr ⟨rfl, rfl⟩))) g14.1 g14.2.1 g14.2.2) ?_
      refine XE.asc ?_
      refine XE.gen (fun v15 e16 => ?_)
      refine XE.go (st_astore (j := 5) (pc' := 26) (by decide +kernel)  (by decide) rfl (by decide) rfl rfl) ?_
      refine XE.go (st_aload (j := 5) (pc' := 28) (by decide +kernel) rfl (by decide) rfl) ?_
      refine XE.bite (fun h17 => ?_) (fun h18 => ?_)
      · refine XE.go (st_ifnull_t (off := 52) (pc' := 80) (by decide +kernel) (by decide) h17 (by decide)) ?_
        refine XE.go (st_iinc (j := 4) (n := 1) (pc' := 83) (by decide +kernel) rfl rfl (by decide) rfl rfl) ?_
        refine XE.go (st_goto (off := (-69)) (pc' := 14) (by decide +kernel) (by decide)) ?_
        exact XE.pick [2, 3, 4, 5, 0] rfl (hc8 (s6.1, (w (s6.2 + 1))))
      · refine XE.go (st_ifnull_f (off := 52) (pc' := 31) (by decide +kernel) (by decide) h18 rfl) ?_
        refine XE.go (st_bipush (n := 31) (pc' := 33) (by decide +kernel) (by decide) (w_eq (by decide) (by decide)) rfl) ?_
        refine XE.go (st_iload_n (j := 1) (i := 1) (pc' := 34) (by decide +kernel) rfl rfl rfl) ?_
        refine XE.go (st_imul (pc' := 35) (by decide +kernel) rfl) ?_
        refine XE.go (st_aload (j := 5) (pc' := 37) (by decide +kernel) rfl (by decide) rfl) ?_
        refine XE.go (st_iconst (n := 0) (pc' := 38) (by decide +kernel) (w_eq (by decide) (by decide)) rfl) ?_
        refine XE.asc ?_
        refine XE.cP (pc' := 41) (st := [(0, (w (31 * s6.1)))]) (fun r hr => ct_X10_tellMessage r hr) (fun r hr => run_S (st := [(0, (w (31 * s6.1)))]) (by decide +kernel) co_X10_digest_472 (ct_X10_tellMessage r hr) rfl rfl (Nat.le_of_ble_eq_true rfl)) rfl rfl (fun r19 => ?_)
        refine XE.go (st_iadd (pc' := 42) (by decide +kernel) rfl) ?_
        refine XE.asc ?_
        refine XE.gen (fun v20 e21 => ?_)
        refine XE.go (st_istore_n (j := 1) (i := 1) (pc' := 43) (by decide +kernel) rfl rfl (by decide) rfl rfl) ?_
        refine XE.go (st_bipush (n := 31) (pc' := 45) (by decide +kernel) (by decide) (w_eq (by decide) (by decide)) rfl) ?_
        refine XE.go (st_iload_n (j := 1) (i := 1) (pc' := 46) (by decide +kernel) rfl rfl rfl) ?_
        refine XE.go (st_imul (pc' := 47) (by decide +kernel) rfl) ?_
        refine XE.go (st_aload (j := 5) (pc' := 49) (by decide +kernel) rfl (by decide) rfl) ?_
        refine XE.go (st_iconst (n := 1) (pc' := 50) (by decide +kernel) (w_eq (by decide) (by decide)) rfl) ?_
        refine XE.asc ?_
        refine XE.cP (pc' := 53) (st := [(0, (w (31 * v20)))]) (fun r hr => ct_X10_tellMessage r hr) (fun r hr => run_S (st := [(0, (w (31 * v20)))]) (by decide +kernel) co_X10_digest_472 (ct_X10_tellMessage r hr) rfl rfl (Nat.le_of_ble_eq_true rfl)) rfl rfl (fun r22 => ?_)
        refine XE.go (st_iadd (pc' := 54) (by decide +kernel) rfl) ?_
        refine XE.asc ?_
        refine XE.gen (fun v23 e24 => ?_)
        refine XE.go (st_istore_n (j := 1) (i := 1) (pc' := 55) (by decide +kernel) rfl rfl (by decide) rfl rfl) ?_
        refine XE.go (st_bipush (n := 31) (pc' := 57) (by decide +kernel) (by decide) (w_eq (by decide) (by decide)) rfl) ?_
        refine XE.go (st_iload_n (j := 1) (i := 1) (pc' := 58) (by decide +kernel) rfl rfl rfl) ?_
        refine XE.go (st_imul (pc' := 59) (by decide +kernel) rfl) ?_
        refine XE.go (st_aload (j := 5) (pc' := 61) (by decide +kernel) rfl (by decide) rfl) ?_
        refine XE.go (st_iconst (n := 4) (pc' := 62) (by decide +kernel) (w_eq (by decide) (by decide)) rfl) ?_
        refine XE.asc ?_
        refine XE.cP (pc' := 65) (st := [(0, (w (31 * v23)))]) (fun r hr => ct_X10_tellMessage r hr) (fun r hr => run_S (st := [(0, (w (31 * v23)))]) (by decide +kernel) co_X10_digest_472 (ct_X10_tellMessage r hr) rfl rfl (Nat.le_of_ble_eq_true rfl)) rfl rfl (fun r25 => ?_)
        refine XE.go (st_iadd (pc' := 66) (by decide +kernel) rfl) ?_
        refine XE.asc ?_
        refine XE.gen (fun v26 e27 => ?_)
        refine XE.go (st_istore_n (j := 1) (i := 1) (pc' := 67) (by decide +kernel) rfl rfl (by decide) rfl rfl) ?_
        refine XE.go (st_bipush (n := 31) (pc' := 69) (by decide +kernel) (by decide) (w_eq (by decide) (by decide)) rfl) ?_
        refine XE.go (st_iload_n (j := 1) (i := 1) (pc' := 70) (by decide +kernel) rfl rfl rfl) ?_
        refine XE.go (st_imul (pc' := 71) (by decide +kernel) rfl) ?_
        refine XE.go (st_aload (j := 5) (pc' := 73) (by decide +kernel) rfl (by decide) rfl) ?_
        refine XE.go (st_bipush (n := 7) (pc' := 75) (by decide +kernel) (by decide) (w_eq (by decide) (by decide)) rfl) ?_
        refine XE.asc ?_
        refine XE.cP (pc' := 78) (st := [(0, (w (31 * v26)))]) (fun r hr => ct_X10_tellMessage r hr) (fun r hr => run_S (st := [(0, (w (31 * v26)))]) (by decide +kernel) co_X10_digest_472 (ct_X10_tellMessage r hr) rfl rfl (Nat.le_of_ble_eq_true rfl)) rfl rfl (fun r28 => ?_)
        refine XE.go (st_iadd (pc' := 79) (by decide +kernel) rfl) ?_
        refine XE.asc ?_
        refine XE.gen (fun v29 e30 => ?_)
        refine XE.go (st_istore_n (j := 1) (i := 1) (pc' := 80) (by decide +kernel) rfl rfl (by decide) rfl rfl) ?_
        refine XE.go (st_iinc (j := 4) (n := 1) (pc' := 83) (by decide +kernel) rfl rfl (by decide) rfl rfl) ?_
        refine XE.go (st_goto (off := (-69)) (pc' := 14) (by decide +kernel) (by decide)) ?_
        exact XE.pick [3, 1, 4, 5, 0] rfl (hc8 (v29, (w (s6.2 + 1))))
    · refine XE.go (st_icmp_ge_t (off := 69) (pc' := 86) (by decide +kernel) (by decide) (Int.not_lt.mp h13)) ?_
      exact XE.pick [0, 1] rfl (he9 s6.1)
  · refine XE.go (st_aload_n (j := 0) (i := 0) (pc' := 87) (by decide +kernel) rfl rfl (by decide) rfl) ?_
    refine XE.go (st_get (pc' := 90) (by decide +kernel) rfl cls_10 fld_RX10_17 rfl rfl h0) ?_
    refine XE.gen (fun v31 e32 => ?_)
    refine XE.go (st_astore_n (j := 2) (i := 2) (pc' := 91) (by decide +kernel) rfl (by decide) rfl (by decide) rfl rfl) ?_
    refine XE.go (st_aload_n (j := 2) (i := 2) (pc' := 92) (by decide +kernel) rfl rfl (by decide) rfl) ?_
    refine XE.gd_ (fun g33 => ?_)
    refine XE.go (st_alen (k := 21) (pc' := 93) (by decide +kernel) rfl ak_21 rfl (by decide) g33) ?_
    refine XE.gen (fun v34 e35 => ?_)
    refine XE.go (st_istore_n (j := 3) (i := 3) (pc' := 94) (by decide +kernel) rfl rfl (by decide) rfl rfl) ?_
    refine XE.go (st_iconst (n := 0) (pc' := 95) (by decide +kernel) (w_eq (by decide) (by decide)) rfl) ?_
    refine XE.go (st_istore (j := 4) (pc' := 97) (by decide +kernel)  rfl (by decide) rfl rfl) ?_
    refine XE.pick [3, 4, 2, 1, 0] (L' := [(0, (14, a0)), (1, (0, t7)), (2, (24, v31)), (3, (0, v34)), (4, (0, 0))]) rfl ?_
    refine XE.loopJ (n := 1000) (s0 := (t7, 0)) (pcL := 97) (pcE := 149) (LL := fun (s36 : Int × Int) => [(0, (14, a0)), (1, (0, s36.1)), (2, (24, v31)), (3, (0, v34)), (4, (0, s36.2))]) (sL := fun _ => []) (ML := fun (s36 : Int × Int) => M) (LE := fun (t37 : Int) => [(0, (14, a0)), (1, (0, t37))]) (sE := fun _ => []) (ME := fun (t37 : Int) => M) (fun kk41 hc38 he39 s36 => ?_) (fun t37 => ?_)
    · unfold b_X10_digest_97
      refine XE.go (st_iload (j := 4) (pc' := 99) (by decide +kernel) rfl rfl) ?_
      refine XE.go (st_iload_n (j := 3) (i := 3) (pc' := 100) (by decide +kernel) rfl rfl rfl) ?_
      refine XE.bite (fun h42 => ?_) (fun h43 => ?_)
      · refine XE.go (st_icmp_ge_f (off := 49) (pc' := 103) (by decide +kernel) 149 (by decide) rfl (Int.not_le.mpr h42)) ?_
        refine XE.go (st_aload_n (j := 2) (i := 2) (pc' := 104) (by decide +kernel) rfl rfl (by decide) rfl) ?_
        refine XE.go (st_iload (j := 4) (pc' := 106) (by decide +kernel) rfl rfl) ?_
        refine XE.gdb (fun g44 => ?_)
        refine XE.go (st_ald (k := 21) (tp := 9) (pc' := 107) (by decide +kernel) rfl ak_21 rfl (by decide) rfl (Or.inr (Or.inr (Or.inr ⟨rfl, rfl⟩))) g44.1 g44.2.1 g44.2.2) ?_
        refine XE.asc ?_
        refine XE.gen (fun v45 e46 => ?_)
        refine XE.go (st_astore (j := 5) (pc' := 109) (by decide +kernel)  (by decide) rfl (by decide) rfl rfl) ?_
        refine XE.go (st_iconst (n := 1) (pc' := 110) (by decide +kernel) (w_eq (by decide) (by decide)) rfl) ?_
        refine XE.go (st_istore (j := 6) (pc' := 112) (by decide +kernel)  rfl (by decide) rfl rfl) ?_
        refine XE.pick [2, 3, 4, 5, 6, 1, 0] (L' := [(0, (14, a0)), (1, (0, s36.1)), (2, (24, v31)), (3, (0, v34)), (4, (0, s36.2)), (5, (9, v45)), (6, (0, 1))]) rfl ?_
        refine XE.asc ?_
        refine XE.loopJ (n := 1000) (s0 := (s36.1, 1)) (pcL := 112) (pcE := 143) (LL := fun (s47 : Int × Int) => [(0, (14, a0)), (1, (0, s47.1)), (2, (24, v31)), (3, (0, v34)), (4, (0, s36.2)), (5, (9, v45)), (6, (0, s47.2))]) (sL := fun _ => []) (ML := fun (s47 : Int × Int) => M) (LE := fun (t48 : Int) => [(0, (14, a0)), (1, (0, t48)), (2, (24, v31)), (3, (0, v34)), (4, (0, s36.2))]) (sE := fun _ => []) (ME := fun (t48 : Int) => M) (fun kk52 hc49 he50 s47 => ?_) (fun t48 => ?_)
        · unfold b_X10_digest_112
          refine XE.go (st_iload (j := 6) (pc' := 114) (by decide +kernel) rfl rfl) ?_
          refine XE.go (st_bipush (n := 7) (pc' := 116) (by decide +kernel) (by decide) (w_eq (by decide) (by decide)) rfl) ?_
          refine XE.bite (fun h53 => ?_) (fun h54 => ?_)
          · refine XE.go (st_icmp_gt_t (off := 27) (pc' := 143) (by decide +kernel) (by decide) h53) ?_
            exact XE.pick [0, 1, 2, 3, 4] rfl (he50 s47.1)
          · refine XE.go (st_icmp_gt_f (off := 27) (pc' := 119) (by decide +kernel) 143 (by decide) rfl h54) ?_
            refine XE.go (st_aload (j := 5) (pc' := 121) (by decide +kernel) rfl (by decide) rfl) ?_
            refine XE.bite (fun h55 => ?_) (fun h56 => ?_)
            · refine XE.go (st_ifnull_t (off := 22) (pc' := 143) (by decide +kernel) (by decide) h55 (by decide)) ?_
              exact XE.pick [0, 1, 2, 3, 4] rfl (he50 s47.1)
            · refine XE.go (st_ifnull_f (off := 22) (pc' := 124) (by decide +kernel) (by decide) h56 rfl) ?_
              refine XE.go (st_bipush (n := 31) (pc' := 126) (by decide +kernel) (by decide) (w_eq (by decide) (by decide)) rfl) ?_
              refine XE.go (st_iload_n (j := 1) (i := 1) (pc' := 127) (by decide +kernel) rfl rfl rfl) ?_
              refine XE.go (st_imul (pc' := 128) (by decide +kernel) rfl) ?_
              refine XE.go (st_aload (j := 5) (pc' := 130) (by decide +kernel) rfl (by decide) rfl) ?_
              refine XE.go (st_iload (j := 6) (pc' := 132) (by decide +kernel) rfl rfl) ?_
              refine XE.asc ?_
              refine XE.cP (pc' := 135) (st := [(0, (w (31 * s47.1)))]) (fun r hr => ct_X10_tellPartition r hr) (fun r hr => run_S (st := [(0, (w (31 * s47.1)))]) (by decide +kernel) co_X10_digest_486 (ct_X10_tellPartition r hr) rfl rfl (Nat.le_of_ble_eq_true rfl)) rfl rfl (fun r57 => ?_)
              refine XE.go (st_iadd (pc' := 136) (by decide +kernel) rfl) ?_
              refine XE.asc ?_
              refine XE.gen (fun v58 e59 => ?_)
              refine XE.go (st_istore_n (j := 1) (i := 1) (pc' := 137) (by decide +kernel) rfl rfl (by decide) rfl rfl) ?_
              refine XE.go (st_iinc (j := 6) (n := 1) (pc' := 140) (by decide +kernel) rfl rfl (by decide) rfl rfl) ?_
              refine XE.go (st_goto (off := (-28)) (pc' := 112) (by decide +kernel) (by decide)) ?_
              exact XE.pick [2, 1, 3, 4, 5, 6, 0] rfl (hc49 (v58, (w (s47.2 + 1))))
        · refine XE.go (st_iinc (j := 4) (n := 1) (pc' := 146) (by decide +kernel) rfl rfl (by decide) rfl rfl) ?_
          refine XE.go (st_goto (off := (-49)) (pc' := 97) (by decide +kernel) (by decide)) ?_
          exact XE.pick [1, 2, 3, 4, 0] rfl (hc38 (t48, (w (s36.2 + 1))))
      · refine XE.go (st_icmp_ge_t (off := 49) (pc' := 149) (by decide +kernel) (by decide) (Int.not_lt.mp h43)) ?_
        exact XE.pick [0, 1] rfl (he39 s36.1)
    · refine XE.go (st_aload_n (j := 0) (i := 0) (pc' := 150) (by decide +kernel) rfl rfl (by decide) rfl) ?_
      refine XE.go (st_get (pc' := 153) (by decide +kernel) rfl cls_10 fld_RX10_29 rfl rfl h0) ?_
      refine XE.gen (fun v60 e61 => ?_)
      refine XE.go (st_astore_n (j := 2) (i := 2) (pc' := 154) (by decide +kernel) rfl (by decide) rfl (by decide) rfl rfl) ?_
      refine XE.go (st_aload_n (j := 2) (i := 2) (pc' := 155) (by decide +kernel) rfl rfl (by decide) rfl) ?_
      refine XE.gd_ (fun g62 => ?_)
      refine XE.go (st_alen (k := 16) (pc' := 156) (by decide +kernel) rfl ak_16 rfl (by decide) g62) ?_
      refine XE.gen (fun v63 e64 => ?_)
      refine XE.go (st_istore_n (j := 3) (i := 3) (pc' := 157) (by decide +kernel) rfl rfl (by decide) rfl rfl) ?_
      refine XE.go (st_iconst (n := 0) (pc' := 158) (by decide +kernel) (w_eq (by decide) (by decide)) rfl) ?_
      refine XE.go (st_istore (j := 4) (pc' := 160) (by decide +kernel)  rfl (by decide) rfl rfl) ?_
      refine XE.pick [4, 2, 1, 0] (L' := [(1, (0, t37)), (2, (19, v60)), (3, (0, v63)), (4, (0, 0))]) rfl ?_
      refine XE.loopJ (n := 1000) (s0 := (t37, 0)) (pcL := 160) (pcE := 190) (LL := fun (s65 : Int × Int) => [(1, (0, s65.1)), (2, (19, v60)), (3, (0, v63)), (4, (0, s65.2))]) (sL := fun _ => []) (ML := fun (s65 : Int × Int) => M) (LE := fun (t66 : Int) => [(1, (0, t66))]) (sE := fun _ => []) (ME := fun (t66 : Int) => M) (fun kk70 hc67 he68 s65 => ?_) (fun t66 => ?_)
      · unfold b_X10_digest_160
        refine XE.go (st_iload (j := 4) (pc' := 162) (by decide +kernel) rfl rfl) ?_
        refine XE.go (st_iload_n (j := 3) (i := 3) (pc' := 163) (by decide +kernel) rfl rfl rfl) ?_
        refine XE.bite (fun h71 => ?_) (fun h72 => ?_)
        · refine XE.go (st_icmp_ge_f (off := 27) (pc' := 166) (by decide +kernel) 190 (by decide) rfl (Int.not_le.mpr h71)) ?_
          refine XE.go (st_aload_n (j := 2) (i := 2) (pc' := 167) (by decide +kernel) rfl rfl (by decide) rfl) ?_
          refine XE.go (st_iload (j := 4) (pc' := 169) (by decide +kernel) rfl rfl) ?_
          refine XE.gdb (fun g73 => ?_)
          refine XE.go (st_ald (k := 16) (tp := 4) (pc' := 170) (by decide +kernel) rfl ak_16 rfl (by decide) rfl (Or.inr (Or.inr (Or.inr ⟨rfl, rfl⟩))) g73.1 g73.2.1 g73.2.2) ?_
          refine XE.asc ?_
          refine XE.gen (fun v74 e75 => ?_)
          refine XE.go (st_astore (j := 5) (pc' := 172) (by decide +kernel)  (by decide) rfl (by decide) rfl rfl) ?_
          refine XE.go (st_aload (j := 5) (pc' := 174) (by decide +kernel) rfl (by decide) rfl) ?_
          refine XE.bite (fun h76 => ?_) (fun h77 => ?_)
          · refine XE.go (st_ifnull_t (off := 10) (pc' := 184) (by decide +kernel) (by decide) h76 (by decide)) ?_
            refine XE.go (st_iinc (j := 4) (n := 1) (pc' := 187) (by decide +kernel) rfl rfl (by decide) rfl rfl) ?_
            refine XE.go (st_goto (off := (-27)) (pc' := 160) (by decide +kernel) (by decide)) ?_
            exact XE.pick [2, 3, 4, 0] rfl (hc67 (s65.1, (w (s65.2 + 1))))
          · refine XE.go (st_ifnull_f (off := 10) (pc' := 177) (by decide +kernel) (by decide) h77 rfl) ?_
            refine XE.go (st_iload_n (j := 1) (i := 1) (pc' := 178) (by decide +kernel) rfl rfl rfl) ?_
            refine XE.go (st_aload (j := 5) (pc' := 180) (by decide +kernel) rfl (by decide) rfl) ?_
            refine XE.asc ?_
            refine XE.cP (pc' := 183) (st := []) (fun r hr => ct_X10_takeInGroup r hr) (fun r hr => run_S (st := []) (by decide +kernel) co_X10_digest_615 (ct_X10_takeInGroup r hr) rfl rfl (Nat.le_of_ble_eq_true rfl)) rfl rfl (fun r78 => ?_)
            refine XE.go (st_istore_n (j := 1) (i := 1) (pc' := 184) (by decide +kernel) rfl rfl (by decide) rfl rfl) ?_
            refine XE.go (st_iinc (j := 4) (n := 1) (pc' := 187) (by decide +kernel) rfl rfl (by decide) rfl rfl) ?_
            refine XE.go (st_goto (off := (-27)) (pc' := 160) (by decide +kernel) (by decide)) ?_
            exact XE.pick [1, 3, 4, 0] rfl (hc67 (r78, (w (s65.2 + 1))))
        · refine XE.go (st_icmp_ge_t (off := 27) (pc' := 190) (by decide +kernel) (by decide) (Int.not_lt.mp h72)) ?_
          exact XE.pick [0] rfl (he68 s65.1)
      · refine XE.go (st_iload_n (j := 1) (i := 1) (pc' := 191) (by decide +kernel) rfl rfl rfl) ?_
        exact XE.rt rfl (X_iret (by decide +kernel) rfl)
theorem ct_X10_digest {D : Dt} {M : Mm} {a0 : Int} (h0 : a0 ≠ 0) (r : Int) (hr : p_X10_digest M a0 = some r) : CT D 0 mu_X10_digest [(14, a0)] M (.inl (some (0, r))) M := CT.of (by decide +kernel) rfl (Nat.le_of_ble_eq_true rfl) (xe_X10_digest h0 r hr)
def p_X11_init (M : Mm) (a0 : Int) : Option Mm := (some (wr M a0 2 7)).bind fun M1 => (some (wr M1 a0 3 2)).bind fun M2 => (ala M2 13 13005 3).bind fun M3 => (some (wr M3 a0 5 13005)).bind fun M5 => (ala M5 13 13006 3).bind fun M6 => (some (wr M6 a0 6 13006)).bind fun M8 => (ala M8 13 13007 3).bind fun M9 => (some (wr M9 a0 7 13007)).bind fun M11 => (ala M11 14 14008 3).bind fun M12 => (some (wr M12 a0 8 14008)).bind fun M14 => (ala M14 13 13009 3).bind fun M15 => (some (wr M15 a0 9 13009)).bind fun M17 => (ala M17 13 13010 3).bind fun M18 => (some (wr M18 a0 10 13010)).bind fun M20 => (ala M20 13 13012 9).bind fun M21 => (some (wr M21 a0 12 13012)).bind fun M23 => (ala M23 13 13013 9).bind fun M24 => (some (wr M24 a0 13 13013)).bind fun M26 => (ala M26 13 13014 9).bind fun M27 => (some (wr M27 a0 14 13014)).bind fun M29 => (ala M29 13 13015 9).bind fun M30 => (some (wr M30 a0 15 13015)).bind fun M32 => (ala M32 13 13016 27).bind fun M33 => (some (wr M33 a0 16 13016)).bind fun M35 => (ala M35 13 13017 27).bind fun M36 => (some (wr M36 a0 17 13017)).bind fun M38 => (ala M38 13 13018 540).bind fun M39 => (some (wr M39 a0 18 13018)).bind fun M41 => (ala M41 13 13020 150).bind fun M42 => (some (wr M42 a0 20 13020)).bind fun M44 => (ala M44 13 13021 150).bind fun M45 => (some (wr M45 a0 21 13021)).bind fun M47 => (ala M47 13 13022 150).bind fun M48 => (some (wr M48 a0 22 13022)).bind fun M50 => (ala M50 13 13023 150).bind fun M51 => (some (wr M51 a0 23 13023)).bind fun M53 => (ala M53 13 13024 150).bind fun M54 => (some (wr M54 a0 24 13024)).bind fun M56 => (ala M56 13 13025 150).bind fun M57 => (some (wr M57 a0 25 13025)).bind fun M59 => (ala M59 13 13026 150).bind fun M60 => (some (wr M60 a0 26 13026)).bind fun M62 => (ala M62 13 13027 150).bind fun M63 => (some (wr M63 a0 27 13027)).bind fun M65 => (ala M65 13 13028 150).bind fun M66 => (some (wr M66 a0 28 13028)).bind fun M68 => (ala M68 13 13029 150).bind fun M69 => (some (wr M69 a0 29 13029)).bind fun M71 => (ala M71 13 13031 4).bind fun M72 => (some (wr M72 a0 31 13031)).bind fun M74 => (ala M74 13 13032 4).bind fun M75 => (some (wr M75 a0 32 13032)).bind fun M77 => (ala M77 13 13033 4).bind fun M78 => (some (wr M78 a0 33 13033)).bind fun M80 => (ala M80 14 14034 4).bind fun M81 => (some (wr M81 a0 34 14034)).bind fun M83 => (ala M83 13 13035 4).bind fun M84 => (some (wr M84 a0 35 13035)).bind fun M86 => (ala M86 13 13036 4).bind fun M87 => (some (wr M87 a0 36 13036)).bind fun M89 => (ala M89 13 13037 4).bind fun M90 => (some (wr M90 a0 37 13037)).bind fun M92 => (ala M92 13 13038 4).bind fun M93 => (some (wr M93 a0 38 13038)).bind fun M95 => (ala M95 13 13039 36).bind fun M96 => (some (wr M96 a0 39 13039)).bind fun M98 => (ala M98 13 13042 3).bind fun M99 => (some (wr M99 a0 42 13042)).bind fun M101 => (ala M101 13 13043 3).bind fun M102 => (some (wr M102 a0 43 13043)).bind fun M104 => (ala M104 13 13044 3).bind fun M105 => (some (wr M105 a0 44 13044)).bind fun M107 => (ala M107 13 13045 3).bind fun M108 => (some (wr M108 a0 45 13045)).bind fun M110 => (ala M110 13 13046 3).bind fun M111 => (some (wr M111 a0 46 13046)).bind fun M113 => (ala M113 13 13047 36).bind fun M114 => (some (wr M114 a0 47 13047)).bind fun M116 => (ala M116 13 13048 36).bind fun M117 => (some (wr M117 a0 48 13048)).bind fun M119 => (ala M119 13 13049 36).bind fun M120 => (some (wr M120 a0 49 13049)).bind fun M122 => (ala M122 13 13050 36).bind fun M123 => (some (wr M123 a0 50 13050)).bind fun M125 => (ala M125 13 13051 36).bind fun M126 => (some (wr M126 a0 51 13051)).bind fun M128 => (ala M128 13 13052 324).bind fun M129 => (some (wr M129 a0 52 13052)).bind fun M131 => (ala M131 13 13053 324).bind fun M132 => (some (wr M132 a0 53 13053)).bind fun M134 => (ala M134 13 13054 324).bind fun M135 => (some (wr M135 a0 54 13054)).bind fun M137 => (ala M137 13 13055 27).bind fun M138 => (some (wr M138 a0 55 13055)).bind fun M140 => (ala M140 13 13056 27).bind fun M141 => (some (wr M141 a0 56 13056)).bind fun M143 => (ala M143 13 13057 27).bind fun M144 => (some (wr M144 a0 57 13057)).bind fun M146 => (ala M146 13 13058 27).bind fun M147 => (some (wr M147 a0 58 13058)).bind fun M149 => (ala M149 13 13059 450).bind fun M150 => (some (wr M150 a0 59 13059)).bind fun M152 => (ala M152 13 13060 450).bind fun M153 => (some (wr M153 a0 60 13060)).bind fun M155 => (ala M155 13 13061 450).bind fun M156 => (some (wr M156 a0 61 13061)).bind fun M158 => (ala M158 13 13062 450).bind fun M159 => (some (wr M159 a0 62 13062)).bind fun M161 => (ala M161 13 13063 450).bind fun M162 => (some (wr M162 a0 63 13063)).bind fun M164 => (ala M164 13 13064 450).bind fun M165 => (some (wr M165 a0 64 13064)).bind fun M167 => (ala M167 13 13065 12).bind fun M168 => (some (wr M168 a0 65 13065)).bind fun M170 => (ala M170 13 13066 12).bind fun M171 => (some (wr M171 a0 66 13066)).bind fun M173 => (ala M173 13 13067 9).bind fun M174 => (some (wr M174 a0 67 13067)).bind fun M176 => some (M176)
set_option maxRecDepth 100000 in
set_option maxHeartbeats 4000000 in
theorem xe_X11_init {D : Dt} {M : Mm} {a0 : Int} (h0 : a0 ≠ 0) : XE D 0 mu_X11_init EV 0 [(0, (15, a0))] [] M (p_X11_init M a0) := by
  unfold p_X11_init
  refine XE.go (st_aload_n (j := 0) (i := 0) (pc' := 1) (by decide +kernel) rfl rfl (by decide) rfl) ?_
  refine XE.go (st_oinit (pc' := 4) (by decide +kernel) rfl oi_RX11_1 (by decide) (by decide) (by decide) h0) ?_
  refine XE.go (st_aload_n (j := 0) (i := 0) (pc' := 5) (by decide +kernel) rfl rfl (by decide) rfl) ?_
  refine XE.go (st_bipush (n := 7) (pc' := 7) (by decide +kernel) (by decide) (w_eq (by decide) (by decide)) rfl) ?_
  refine XE.goM (st_put (pc' := 10) (by decide +kernel) rfl cls_11 fld_RX11_7 rfl rfl (fun h => absurd h (by decide)) (fun h => nomatch h) h0) (fun M1 => ?_)
  refine XE.go (st_aload_n (j := 0) (i := 0) (pc' := 11) (by decide +kernel) rfl rfl (by decide) rfl) ?_
  refine XE.go (st_iconst (n := 2) (pc' := 12) (by decide +kernel) (w_eq (by decide) (by decide)) rfl) ?_
  refine XE.goM (st_put (pc' := 15) (by decide +kernel) rfl cls_11 fld_RX11_13 rfl rfl (fun h => absurd h (by decide)) (fun h => nomatch h) h0) (fun M2 => ?_)
  refine XE.go (st_aload_n (j := 0) (i := 0) (pc' := 16) (by decide +kernel) rfl rfl (by decide) rfl) ?_
  refine XE.go (st_iconst (n := 3) (pc' := 17) (by decide +kernel) (w_eq (by decide) (by decide)) rfl) ?_
  refine XE.ala_ (fun q1 q2 q3 => st_newa (atype := .int) (pc' := 19) (by decide +kernel) rfl ak_13 rfl (bg_3 177 rfl rfl) (by simp) rfl q1 q2 q3 rfl) (by decide) (fun M3 h4 => ?_)
  refine XE.goM (st_put (pc' := 22) (by decide +kernel) rfl cls_11 fld_RX11_16 rfl rfl (fun h => absurd h (by decide)) (fun _ => ⟨rfl, rfl⟩) h0) (fun M5 => ?_)
  refine XE.go (st_aload_n (j := 0) (i := 0) (pc' := 23) (by decide +kernel) rfl rfl (by decide) rfl) ?_
  refine XE.go (st_iconst (n := 3) (pc' := 24) (by decide +kernel) (w_eq (by decide) (by decide)) rfl) ?_
  refine XE.ala_ (fun q1 q2 q3 => st_newa (atype := .int) (pc' := 26) (by decide +kernel) rfl ak_13 rfl (bg_3 177 rfl rfl) (by simp) rfl q1 q2 q3 rfl) (by decide) (fun M6 h7 => ?_)
  refine XE.goM (st_put (pc' := 29) (by decide +kernel) rfl cls_11 fld_RX11_20 rfl rfl (fun h => absurd h (by decide)) (fun _ => ⟨rfl, rfl⟩) h0) (fun M8 => ?_)
  refine XE.go (st_aload_n (j := 0) (i := 0) (pc' := 30) (by decide +kernel) rfl rfl (by decide) rfl) ?_
  refine XE.go (st_iconst (n := 3) (pc' := 31) (by decide +kernel) (w_eq (by decide) (by decide)) rfl) ?_
  refine XE.ala_ (fun q1 q2 q3 => st_newa (atype := .int) (pc' := 33) (by decide +kernel) rfl ak_13 rfl (bg_3 177 rfl rfl) (by simp) rfl q1 q2 q3 rfl) (by decide) (fun M9 h10 => ?_)
  refine XE.goM (st_put (pc' := 36) (by decide +kernel) rfl cls_11 fld_RX11_23 rfl rfl (fun h => absurd h (by decide)) (fun _ => ⟨rfl, rfl⟩) h0) (fun M11 => ?_)
  refine XE.go (st_aload_n (j := 0) (i := 0) (pc' := 37) (by decide +kernel) rfl rfl (by decide) rfl) ?_
  refine XE.go (st_iconst (n := 3) (pc' := 38) (by decide +kernel) (w_eq (by decide) (by decide)) rfl) ?_
  refine XE.ala_ (fun q1 q2 q3 => st_newa (atype := .boolean) (pc' := 40) (by decide +kernel) rfl ak_14 rfl (bg_7 206 rfl rfl) (by simp) rfl q1 q2 q3 rfl) (by decide) (fun M12 h13 => ?_)
  refine XE.goM (st_put (pc' := 43) (by decide +kernel) rfl cls_11 fld_RX11_26 rfl rfl (fun h => absurd h (by decide)) (fun _ => ⟨rfl, rfl⟩) h0) (fun M14 => ?_)
  refine XE.go (st_aload_n (j := 0) (i := 0) (pc' := 44) (by decide +kernel) rfl rfl (by decide) rfl) ?_
  refine XE.go (st_iconst (n := 3) (pc' := 45) (by decide +kernel) (w_eq (by decide) (by decide)) rfl) ?_
  refine XE.ala_ (fun q1 q2 q3 => st_newa (atype := .int) (pc' := 47) (by decide +kernel) rfl ak_13 rfl (bg_3 177 rfl rfl) (by simp) rfl q1 q2 q3 rfl) (by decide) (fun M15 h16 => ?_)
  refine XE.goM (st_put (pc' := 50) (by decide +kernel) rfl cls_11 fld_RX11_30 rfl rfl (fun h => absurd h (by decide)) (fun _ => ⟨rfl, rfl⟩) h0) (fun M17 => ?_)
  refine XE.go (st_aload_n (j := 0) (i := 0) (pc' := 51) (by decide +kernel) rfl rfl (by decide) rfl) ?_
  refine XE.go (st_iconst (n := 3) (pc' := 52) (by decide +kernel) (w_eq (by decide) (by decide)) rfl) ?_
  refine XE.ala_ (fun q1 q2 q3 => st_newa (atype := .int) (pc' := 54) (by decide +kernel) rfl ak_13 rfl (bg_3 177 rfl rfl) (by simp) rfl q1 q2 q3 rfl) (by decide) (fun M18 h19 => ?_)
  refine XE.goM (st_put (pc' := 57) (by decide +kernel) rfl cls_11 fld_RX11_33 rfl rfl (fun h => absurd h (by decide)) (fun _ => ⟨rfl, rfl⟩) h0) (fun M20 => ?_)
  refine XE.go (st_aload_n (j := 0) (i := 0) (pc' := 58) (by decide +kernel) rfl rfl (by decide) rfl) ?_
  refine XE.go (st_bipush (n := 9) (pc' := 60) (by decide +kernel) (by decide) (w_eq (by decide) (by decide)) rfl) ?_
  refine XE.ala_ (fun q1 q2 q3 => st_newa (atype := .int) (pc' := 62) (by decide +kernel) rfl ak_13 rfl (bg_3 177 rfl rfl) (by simp) rfl q1 q2 q3 rfl) (by decide) (fun M21 h22 => ?_)
  refine XE.goM (st_put (pc' := 65) (by decide +kernel) rfl cls_11 fld_RX11_36 rfl rfl (fun h => absurd h (by decide)) (fun _ => ⟨rfl, rfl⟩) h0) (fun M23 => ?_)
  refine XE.go (st_aload_n (j := 0) (i := 0) (pc' := 66) (by decide +kernel) rfl rfl (by decide) rfl) ?_
  refine XE.go (st_bipush (n := 9) (pc' := 68) (by decide +kernel) (by decide) (w_eq (by decide) (by decide)) rfl) ?_
  refine XE.ala_ (fun q1 q2 q3 => st_newa (atype := .int) (pc' := 70) (by decide +kernel) rfl ak_13 rfl (bg_3 177 rfl rfl) (by simp) rfl q1 q2 q3 rfl) (by decide) (fun M24 h25 => ?_)
  refine XE.goM (st_put (pc' := 73) (by decide +kernel) rfl cls_11 fld_RX11_39 rfl rfl (fun h => absurd h (by decide)) (fun _ => ⟨rfl, rfl⟩) h0) (fun M26 => ?_)
  refine XE.go (st_aload_n (j := 0) (i := 0) (pc' := 74) (by decide +kernel) rfl rfl (by decide) rfl) ?_
  refine XE.go (st_bipush (n := 9) (pc' := 76) (by decide +kernel) (by decide) (w_eq (by decide) (by decide)) rfl) ?_
  refine XE.ala_ (fun q1 q2 q3 => st_newa (atype := .int) (pc' := 78) (by decide +kernel) rfl ak_13 rfl (bg_3 177 rfl rfl) (by simp) rfl q1 q2 q3 rfl) (by decide) (fun M27 h28 => ?_)
  refine XE.goM (st_put (pc' := 81) (by decide +kernel) rfl cls_11 fld_RX11_42 rfl rfl (fun h => absurd h (by decide)) (fun _ => ⟨rfl, rfl⟩) h0) (fun M29 => ?_)
  refine XE.go (st_aload_n (j := 0) (i := 0) (pc' := 82) (by decide +kernel) rfl rfl (by decide) rfl) ?_
  refine XE.go (st_bipush (n := 9) (pc' := 84) (by decide +kernel) (by decide) (w_eq (by decide) (by decide)) rfl) ?_
  refine XE.ala_ (fun q1 q2 q3 => st_newa (atype := .int) (pc' := 86) (by decide +kernel) rfl ak_13 rfl (bg_3 177 rfl rfl) (by simp) rfl q1 q2 q3 rfl) (by decide) (fun M30 h31 => ?_)
  refine XE.goM (st_put (pc' := 89) (by decide +kernel) rfl cls_11 fld_RX11_45 rfl rfl (fun h => absurd h (by decide)) (fun _ => ⟨rfl, rfl⟩) h0) (fun M32 => ?_)
  refine XE.go (st_aload_n (j := 0) (i := 0) (pc' := 90) (by decide +kernel) rfl rfl (by decide) rfl) ?_
  refine XE.go (st_bipush (n := 27) (pc' := 92) (by decide +kernel) (by decide) (w_eq (by decide) (by decide)) rfl) ?_
  refine XE.ala_ (fun q1 q2 q3 => st_newa (atype := .int) (pc' := 94) (by decide +kernel) rfl ak_13 rfl (bg_3 177 rfl rfl) (by simp) rfl q1 q2 q3 rfl) (by decide) (fun M33 h34 => ?_)
  refine XE.goM (st_put (pc' := 97) (by decide +kernel) rfl cls_11 fld_RX11_48 rfl rfl (fun h => absurd h (by decide)) (fun _ => ⟨rfl, rfl⟩) h0) (fun M35 => ?_)
  refine XE.go (st_aload_n (j := 0) (i := 0) (pc' := 98) (by decide +kernel) rfl rfl (by decide) rfl) ?_
  refine XE.go (st_bipush (n := 27) (pc' := 100) (by decide +kernel) (by decide) (w_eq (by decide) (by decide)) rfl) ?_
  refine XE.ala_ (fun q1 q2 q3 => st_newa (atype := .int) (pc' := 102) (by decide +kernel) rfl ak_13 rfl (bg_3 177 rfl rfl) (by simp) rfl q1 q2 q3 rfl) (by decide) (fun M36 h37 => ?_)
  refine XE.goM (st_put (pc' := 105) (by decide +kernel) rfl cls_11 fld_RX11_51 rfl rfl (fun h => absurd h (by decide)) (fun _ => ⟨rfl, rfl⟩) h0) (fun M38 => ?_)
  refine XE.go (st_aload_n (j := 0) (i := 0) (pc' := 106) (by decide +kernel) rfl rfl (by decide) rfl) ?_
  refine XE.go (st_sipush (n := 540) (pc' := 109) (by decide +kernel) (by decide) (w_eq (by decide) (by decide)) rfl) ?_
  refine XE.ala_ (fun q1 q2 q3 => st_newa (atype := .int) (pc' := 111) (by decide +kernel) rfl ak_13 rfl (bg_3 177 rfl rfl) (by simp) rfl q1 q2 q3 rfl) (by decide) (fun M39 h40 => ?_)
  refine XE.goM (st_put (pc' := 114) (by decide +kernel) rfl cls_11 fld_RX11_54 rfl rfl (fun h => absurd h (by decide)) (fun _ => ⟨rfl, rfl⟩) h0) (fun M41 => ?_)
  refine XE.go (st_aload_n (j := 0) (i := 0) (pc' := 115) (by decide +kernel) rfl rfl (by decide) rfl) ?_
  refine XE.go (st_sipush (n := 150) (pc' := 118) (by decide +kernel) (by decide) (w_eq (by decide) (by decide)) rfl) ?_
  refine XE.ala_ (fun q1 q2 q3 => st_newa (atype := .int) (pc' := 120) (by decide +kernel) rfl ak_13 rfl (bg_3 177 rfl rfl) (by simp) rfl q1 q2 q3 rfl) (by decide) (fun M42 h43 => ?_)
  refine XE.goM (st_put (pc' := 123) (by decide +kernel) rfl cls_11 fld_RX11_57 rfl rfl (fun h => absurd h (by decide)) (fun _ => ⟨rfl, rfl⟩) h0) (fun M44 => ?_)
  refine XE.go (st_aload_n (j := 0) (i := 0) (pc' := 124) (by decide +kernel) rfl rfl (by decide) rfl) ?_
  refine XE.go (st_sipush (n := 150) (pc' := 127) (by decide +kernel) (by decide) (w_eq (by decide) (by decide)) rfl) ?_
  refine XE.ala_ (fun q1 q2 q3 => st_newa (atype := .int) (pc' := 129) (by decide +kernel) rfl ak_13 rfl (bg_3 177 rfl rfl) (by simp) rfl q1 q2 q3 rfl) (by decide) (fun M45 h46 => ?_)
  refine XE.goM (st_put (pc' := 132) (by decide +kernel) rfl cls_11 fld_RX11_60 rfl rfl (fun h => absurd h (by decide)) (fun _ => ⟨rfl, rfl⟩) h0) (fun M47 => ?_)
  refine XE.go (st_aload_n (j := 0) (i := 0) (pc' := 133) (by decide +kernel) rfl rfl (by decide) rfl) ?_
  refine XE.go (st_sipush (n := 150) (pc' := 136) (by decide +kernel) (by decide) (w_eq (by decide) (by decide)) rfl) ?_
  refine XE.ala_ (fun q1 q2 q3 => st_newa (atype := .int) (pc' := 138) (by decide +kernel) rfl ak_13 rfl (bg_3 177 rfl rfl) (by simp) rfl q1 q2 q3 rfl) (by decide) (fun M48 h49 => ?_)
  refine XE.goM (st_put (pc' := 141) (by decide +kernel) rfl cls_11 fld_RX11_63 rfl rfl (fun h => absurd h (by decide)) (fun _ => ⟨rfl, rfl⟩) h0) (fun M50 => ?_)
  refine XE.go (st_aload_n (j := 0) (i := 0) (pc' := 142) (by decide +kernel) rfl rfl (by decide) rfl) ?_
  refine XE.go (st_sipush (n := 150) (pc' := 145) (by decide +kernel) (by decide) (w_eq (by decide) (by decide)) rfl) ?_
  refine XE.ala_ (fun q1 q2 q3 => st_newa (atype := .int) (pc' := 147) (by decide +kernel) rfl ak_13 rfl (bg_3 177 rfl rfl) (by simp) rfl q1 q2 q3 rfl) (by decide) (fun M51 h52 => ?_)
  refine XE.goM (st_put (pc' := 150) (by decide +kernel) rfl cls_11 fld_RX11_66 rfl rfl (fun h => absurd h (by decide)) (fun _ => ⟨rfl, rfl⟩) h0) (fun M53 => ?_)
  refine XE.go (st_aload_n (j := 0) (i := 0) (pc' := 151) (by decide +kernel) rfl rfl (by decide) rfl) ?_
  refine XE.go (st_sipush (n := 150) (pc' := 154) (by decide +kernel) (by decide) (w_eq (by decide) (by decide)) rfl) ?_
  refine XE.ala_ (fun q1 q2 q3 => st_newa (atype := .int) (pc' := 156) (by decide +kernel) rfl ak_13 rfl (bg_3 177 rfl rfl) (by simp) rfl q1 q2 q3 rfl) (by decide) (fun M54 h55 => ?_)
  refine XE.goM (st_put (pc' := 159) (by decide +kernel) rfl cls_11 fld_RX11_69 rfl rfl (fun h => absurd h (by decide)) (fun _ => ⟨rfl, rfl⟩) h0) (fun M56 => ?_)
  refine XE.go (st_aload_n (j := 0) (i := 0) (pc' := 160) (by decide +kernel) rfl rfl (by decide) rfl) ?_
  refine XE.go (st_sipush (n := 150) (pc' := 163) (by decide +kernel) (by decide) (w_eq (by decide) (by decide)) rfl) ?_
  refine XE.ala_ (fun q1 q2 q3 => st_newa (atype := .int) (pc' := 165) (by decide +kernel) rfl ak_13 rfl (bg_3 177 rfl rfl) (by simp) rfl q1 q2 q3 rfl) (by decide) (fun M57 h58 => ?_)
  refine XE.goM (st_put (pc' := 168) (by decide +kernel) rfl cls_11 fld_RX11_72 rfl rfl (fun h => absurd h (by decide)) (fun _ => ⟨rfl, rfl⟩) h0) (fun M59 => ?_)
  refine XE.go (st_aload_n (j := 0) (i := 0) (pc' := 169) (by decide +kernel) rfl rfl (by decide) rfl) ?_
  refine XE.go (st_sipush (n := 150) (pc' := 172) (by decide +kernel) (by decide) (w_eq (by decide) (by decide)) rfl) ?_
  refine XE.ala_ (fun q1 q2 q3 => st_newa (atype := .int) (pc' := 174) (by decide +kernel) rfl ak_13 rfl (bg_3 177 rfl rfl) (by simp) rfl q1 q2 q3 rfl) (by decide) (fun M60 h61 => ?_)
  refine XE.goM (st_put (pc' := 177) (by decide +kernel) rfl cls_11 fld_RX11_75 rfl rfl (fun h => absurd h (by decide)) (fun _ => ⟨rfl, rfl⟩) h0) (fun M62 => ?_)
  refine XE.go (st_aload_n (j := 0) (i := 0) (pc' := 178) (by decide +kernel) rfl rfl (by decide) rfl) ?_
  refine XE.go (st_sipush (n := 150) (pc' := 181) (by decide +kernel) (by decide) (w_eq (by decide) (by decide)) rfl) ?_
  refine XE.ala_ (fun q1 q2 q3 => st_newa (atype := .int) (pc' := 183) (by decide +kernel) rfl ak_13 rfl (bg_3 177 rfl rfl) (by simp) rfl q1 q2 q3 rfl) (by decide) (fun M63 h64 => ?_)
  refine XE.goM (st_put (pc' := 186) (by decide +kernel) rfl cls_11 fld_RX11_78 rfl rfl (fun h => absurd h (by decide)) (fun _ => ⟨rfl, rfl⟩) h0) (fun M65 => ?_)
  refine XE.go (st_aload_n (j := 0) (i := 0) (pc' := 187) (by decide +kernel) rfl rfl (by decide) rfl) ?_
  refine XE.go (st_sipush (n := 150) (pc' := 190) (by decide +kernel) (by decide) (w_eq (by decide) (by decide)) rfl) ?_
  refine XE.ala_ (fun q1 q2 q3 => st_newa (atype := .int) (pc' := 192) (by decide +kernel) rfl ak_13 rfl (bg_3 177 rfl rfl) (by simp) rfl q1 q2 q3 rfl) (by decide) (fun M66 h67 => ?_)
  refine XE.goM (st_put (pc' := 195) (by decide +kernel) rfl cls_11 fld_RX11_81 rfl rfl (fun h => absurd h (by decide)) (fun _ => ⟨rfl, rfl⟩) h0) (fun M68 => ?_)
  refine XE.go (st_aload_n (j := 0) (i := 0) (pc' := 196) (by decide +kernel) rfl rfl (by decide) rfl) ?_
  refine XE.go (st_sipush (n := 150) (pc' := 199) (by decide +kernel) (by decide) (w_eq (by decide) (by decide)) rfl) ?_
  refine XE.ala_ (fun q1 q2 q3 => st_newa (atype := .int) (pc' := 201) (by decide +kernel) rfl ak_13 rfl (bg_3 177 rfl rfl) (by simp) rfl q1 q2 q3 rfl) (by decide) (fun M69 h70 => ?_)
  refine XE.goM (st_put (pc' := 204) (by decide +kernel) rfl cls_11 fld_RX11_84 rfl rfl (fun h => absurd h (by decide)) (fun _ => ⟨rfl, rfl⟩) h0) (fun M71 => ?_)
  refine XE.go (st_aload_n (j := 0) (i := 0) (pc' := 205) (by decide +kernel) rfl rfl (by decide) rfl) ?_
  refine XE.go (st_iconst (n := 4) (pc' := 206) (by decide +kernel) (w_eq (by decide) (by decide)) rfl) ?_
  refine XE.ala_ (fun q1 q2 q3 => st_newa (atype := .int) (pc' := 208) (by decide +kernel) rfl ak_13 rfl (bg_3 177 rfl rfl) (by simp) rfl q1 q2 q3 rfl) (by decide) (fun M72 h73 => ?_)
  refine XE.goM (st_put (pc' := 211) (by decide +kernel) rfl cls_11 fld_RX11_87 rfl rfl (fun h => absurd h (by decide)) (fun _ => ⟨rfl, rfl⟩) h0) (fun M74 => ?_)
  refine XE.go (st_aload_n (j := 0) (i := 0) (pc' := 212) (by decide +kernel) rfl rfl (by decide) rfl) ?_
  refine XE.go (st_iconst (n := 4) (pc' := 213) (by decide +kernel) (w_eq (by decide) (by decide)) rfl) ?_
  refine XE.ala_ (fun q1 q2 q3 => st_newa (atype := .int) (pc' := 215) (by decide +kernel) rfl ak_13 rfl (bg_3 177 rfl rfl) (by simp) rfl q1 q2 q3 rfl) (by decide) (fun M75 h76 => ?_)
  refine XE.goM (st_put (pc' := 218) (by decide +kernel) rfl cls_11 fld_RX11_90 rfl rfl (fun h => absurd h (by decide)) (fun _ => ⟨rfl, rfl⟩) h0) (fun M77 => ?_)
  refine XE.go (st_aload_n (j := 0) (i := 0) (pc' := 219) (by decide +kernel) rfl rfl (by decide) rfl) ?_
  refine XE.go (st_iconst (n := 4) (pc' := 220) (by decide +kernel) (w_eq (by decide) (by decide)) rfl) ?_
  refine XE.ala_ (fun q1 q2 q3 => st_newa (atype := .int) (pc' := 222) (by decide +kernel) rfl ak_13 rfl (bg_3 177 rfl rfl) (by simp) rfl q1 q2 q3 rfl) (by decide) (fun M78 h79 => ?_)
  refine XE.goM (st_put (pc' := 225) (by decide +kernel) rfl cls_11 fld_RX11_93 rfl rfl (fun h => absurd h (by decide)) (fun _ => ⟨rfl, rfl⟩) h0) (fun M80 => ?_)
  refine XE.go (st_aload_n (j := 0) (i := 0) (pc' := 226) (by decide +kernel) rfl rfl (by decide) rfl) ?_
  refine XE.go (st_iconst (n := 4) (pc' := 227) (by decide +kernel) (w_eq (by decide) (by decide)) rfl) ?_
  refine XE.ala_ (fun q1 q2 q3 => st_newa (atype := .boolean) (pc' := 229) (by decide +kernel) rfl ak_14 rfl (bg_7 206 rfl rfl) (by simp) rfl q1 q2 q3 rfl) (by decide) (fun M81 h82 => ?_)
  refine XE.goM (st_put (pc' := 232) (by decide +kernel) rfl cls_11 fld_RX11_96 rfl rfl (fun h => absurd h (by decide)) (fun _ => ⟨rfl, rfl⟩) h0) (fun M83 => ?_)
  refine XE.go (st_aload_n (j := 0) (i := 0) (pc' := 233) (by decide +kernel) rfl rfl (by decide) rfl) ?_
  refine XE.go (st_iconst (n := 4) (pc' := 234) (by decide +kernel) (w_eq (by decide) (by decide)) rfl) ?_
  refine XE.ala_ (fun q1 q2 q3 => st_newa (atype := .int) (pc' := 236) (by decide +kernel) rfl ak_13 rfl (bg_3 177 rfl rfl) (by simp) rfl q1 q2 q3 rfl) (by decide) (fun M84 h85 => ?_)
  refine XE.goM (st_put (pc' := 239) (by decide +kernel) rfl cls_11 fld_RX11_99 rfl rfl (fun h => absurd h (by decide)) (fun _ => ⟨rfl, rfl⟩) h0) (fun M86 => ?_)
  refine XE.go (st_aload_n (j := 0) (i := 0) (pc' := 240) (by decide +kernel) rfl rfl (by decide) rfl) ?_
  refine XE.go (st_iconst (n := 4) (pc' := 241) (by decide +kernel) (w_eq (by decide) (by decide)) rfl) ?_
  refine XE.ala_ (fun q1 q2 q3 => st_newa (atype := .int) (pc' := 243) (by decide +kernel) rfl ak_13 rfl (bg_3 177 rfl rfl) (by simp) rfl q1 q2 q3 rfl) (by decide) (fun M87 h88 => ?_)
  refine XE.goM (st_put (pc' := 246) (by decide +kernel) rfl cls_11 fld_RX11_102 rfl rfl (fun h => absurd h (by decide)) (fun _ => ⟨rfl, rfl⟩) h0) (fun M89 => ?_)
  refine XE.go (st_aload_n (j := 0) (i := 0) (pc' := 247) (by decide +kernel) rfl rfl (by decide) rfl) ?_
  refine XE.go (st_iconst (n := 4) (pc' := 248) (by decide +kernel) (w_eq (by decide) (by decide)) rfl) ?_
  refine XE.ala_ (fun q1 q2 q3 => st_newa (atype := .int) (pc' := 250) (by decide +kernel) rfl ak_13 rfl (bg_3 177 rfl rfl) (by simp) rfl q1 q2 q3 rfl) (by decide) (fun M90 h91 => ?_)
  refine XE.goM (st_put (pc' := 253) (by decide +kernel) rfl cls_11 fld_RX11_105 rfl rfl (fun h => absurd h (by decide)) (fun _ => ⟨rfl, rfl⟩) h0) (fun M92 => ?_)
  refine XE.go (st_aload_n (j := 0) (i := 0) (pc' := 254) (by decide +kernel) rfl rfl (by decide) rfl) ?_
  refine XE.go (st_iconst (n := 4) (pc' := 255) (by decide +kernel) (w_eq (by decide) (by decide)) rfl) ?_
  refine XE.ala_ (fun q1 q2 q3 => st_newa (atype := .int) (pc' := 257) (by decide +kernel) rfl ak_13 rfl (bg_3 177 rfl rfl) (by simp) rfl q1 q2 q3 rfl) (by decide) (fun M93 h94 => ?_)
  refine XE.goM (st_put (pc' := 260) (by decide +kernel) rfl cls_11 fld_RX11_108 rfl rfl (fun h => absurd h (by decide)) (fun _ => ⟨rfl, rfl⟩) h0) (fun M95 => ?_)
  refine XE.go (st_aload_n (j := 0) (i := 0) (pc' := 261) (by decide +kernel) rfl rfl (by decide) rfl) ?_
  refine XE.go (st_bipush (n := 36) (pc' := 263) (by decide +kernel) (by decide) (w_eq (by decide) (by decide)) rfl) ?_
  refine XE.ala_ (fun q1 q2 q3 => st_newa (atype := .int) (pc' := 265) (by decide +kernel) rfl ak_13 rfl (bg_3 177 rfl rfl) (by simp) rfl q1 q2 q3 rfl) (by decide) (fun M96 h97 => ?_)
  refine XE.goM (st_put (pc' := 268) (by decide +kernel) rfl cls_11 fld_RX11_111 rfl rfl (fun h => absurd h (by decide)) (fun _ => ⟨rfl, rfl⟩) h0) (fun M98 => ?_)
  refine XE.go (st_aload_n (j := 0) (i := 0) (pc' := 269) (by decide +kernel) rfl rfl (by decide) rfl) ?_
  refine XE.go (st_iconst (n := 3) (pc' := 270) (by decide +kernel) (w_eq (by decide) (by decide)) rfl) ?_
  refine XE.ala_ (fun q1 q2 q3 => st_newa (atype := .int) (pc' := 272) (by decide +kernel) rfl ak_13 rfl (bg_3 177 rfl rfl) (by simp) rfl q1 q2 q3 rfl) (by decide) (fun M99 h100 => ?_)
  refine XE.goM (st_put (pc' := 275) (by decide +kernel) rfl cls_11 fld_RX11_114 rfl rfl (fun h => absurd h (by decide)) (fun _ => ⟨rfl, rfl⟩) h0) (fun M101 => ?_)
  refine XE.go (st_aload_n (j := 0) (i := 0) (pc' := 276) (by decide +kernel) rfl rfl (by decide) rfl) ?_
  refine XE.go (st_iconst (n := 3) (pc' := 277) (by decide +kernel) (w_eq (by decide) (by decide)) rfl) ?_
  refine XE.ala_ (fun q1 q2 q3 => st_newa (atype := .int) (pc' := 279) (by decide +kernel) rfl ak_13 rfl (bg_3 177 rfl rfl) (by simp) rfl q1 q2 q3 rfl) (by decide) (fun M102 h103 => ?_)
  refine XE.goM (st_put (pc' := 282) (by decide +kernel) rfl cls_11 fld_RX11_117 rfl rfl (fun h => absurd h (by decide)) (fun _ => ⟨rfl, rfl⟩) h0) (fun M104 => ?_)
  refine XE.go (st_aload_n (j := 0) (i := 0) (pc' := 283) (by decide +kernel) rfl rfl (by decide) rfl) ?_
  refine XE.go (st_iconst (n := 3) (pc' := 284) (by decide +kernel) (w_eq (by decide) (by decide)) rfl) ?_
  refine XE.ala_ (fun q1 q2 q3 => st_newa (atype := .int) (pc' := 286) (by decide +kernel) rfl ak_13 rfl (bg_3 177 rfl rfl) (by simp) rfl q1 q2 q3 rfl) (by decide) (fun M105 h106 => ?_)
  refine XE.goM (st_put (pc' := 289) (by decide +kernel) rfl cls_11 fld_RX11_120 rfl rfl (fun h => absurd h (by decide)) (fun _ => ⟨rfl, rfl⟩) h0) (fun M107 => ?_)
  refine XE.go (st_aload_n (j := 0) (i := 0) (pc' := 290) (by decide +kernel) rfl rfl (by decide) rfl) ?_
  refine XE.go (st_iconst (n := 3) (pc' := 291) (by decide +kernel) (w_eq (by decide) (by decide)) rfl) ?_
  refine XE.ala_ (fun q1 q2 q3 => st_newa (atype := .int) (pc' := 293) (by decide +kernel) rfl ak_13 rfl (bg_3 177 rfl rfl) (by simp) rfl q1 q2 q3 rfl) (by decide) (fun M108 h109 => ?_)
  refine XE.goM (st_put (pc' := 296) (by decide +kernel) rfl cls_11 fld_RX11_123 rfl rfl (fun h => absurd h (by decide)) (fun _ => ⟨rfl, rfl⟩) h0) (fun M110 => ?_)
  refine XE.go (st_aload_n (j := 0) (i := 0) (pc' := 297) (by decide +kernel) rfl rfl (by decide) rfl) ?_
  refine XE.go (st_iconst (n := 3) (pc' := 298) (by decide +kernel) (w_eq (by decide) (by decide)) rfl) ?_
  refine XE.ala_ (fun q1 q2 q3 => st_newa (atype := .int) (pc' := 300) (by decide +kernel) rfl ak_13 rfl (bg_3 177 rfl rfl) (by simp) rfl q1 q2 q3 rfl) (by decide) (fun M111 h112 => ?_)
  refine XE.goM (st_put (pc' := 303) (by decide +kernel) rfl cls_11 fld_RX11_126 rfl rfl (fun h => absurd h (by decide)) (fun _ => ⟨rfl, rfl⟩) h0) (fun M113 => ?_)
  refine XE.go (st_aload_n (j := 0) (i := 0) (pc' := 304) (by decide +kernel) rfl rfl (by decide) rfl) ?_
  refine XE.go (st_bipush (n := 36) (pc' := 306) (by decide +kernel) (by decide) (w_eq (by decide) (by decide)) rfl) ?_
  refine XE.ala_ (fun q1 q2 q3 => st_newa (atype := .int) (pc' := 308) (by decide +kernel) rfl ak_13 rfl (bg_3 177 rfl rfl) (by simp) rfl q1 q2 q3 rfl) (by decide) (fun M114 h115 => ?_)
  refine XE.goM (st_put (pc' := 311) (by decide +kernel) rfl cls_11 fld_RX11_129 rfl rfl (fun h => absurd h (by decide)) (fun _ => ⟨rfl, rfl⟩) h0) (fun M116 => ?_)
  refine XE.go (st_aload_n (j := 0) (i := 0) (pc' := 312) (by decide +kernel) rfl rfl (by decide) rfl) ?_
  refine XE.go (st_bipush (n := 36) (pc' := 314) (by decide +kernel) (by decide) (w_eq (by decide) (by decide)) rfl) ?_
  refine XE.ala_ (fun q1 q2 q3 => st_newa (atype := .int) (pc' := 316) (by decide +kernel) rfl ak_13 rfl (bg_3 177 rfl rfl) (by simp) rfl q1 q2 q3 rfl) (by decide) (fun M117 h118 => ?_)
  refine XE.goM (st_put (pc' := 319) (by decide +kernel) rfl cls_11 fld_RX11_132 rfl rfl (fun h => absurd h (by decide)) (fun _ => ⟨rfl, rfl⟩) h0) (fun M119 => ?_)
  refine XE.go (st_aload_n (j := 0) (i := 0) (pc' := 320) (by decide +kernel) rfl rfl (by decide) rfl) ?_
  refine XE.go (st_bipush (n := 36) (pc' := 322) (by decide +kernel) (by decide) (w_eq (by decide) (by decide)) rfl) ?_
  refine XE.ala_ (fun q1 q2 q3 => st_newa (atype := .int) (pc' := 324) (by decide +kernel) rfl ak_13 rfl (bg_3 177 rfl rfl) (by simp) rfl q1 q2 q3 rfl) (by decide) (fun M120 h121 => ?_)
  refine XE.goM (st_put (pc' := 327) (by decide +kernel) rfl cls_11 fld_RX11_135 rfl rfl (fun h => absurd h (by decide)) (fun _ => ⟨rfl, rfl⟩) h0) (fun M122 => ?_)
  refine XE.go (st_aload_n (j := 0) (i := 0) (pc' := 328) (by decide +kernel) rfl rfl (by decide) rfl) ?_
  refine XE.go (st_bipush (n := 36) (pc' := 330) (by decide +kernel) (by decide) (w_eq (by decide) (by decide)) rfl) ?_
  refine XE.ala_ (fun q1 q2 q3 => st_newa (atype := .int) (pc' := 332) (by decide +kernel) rfl ak_13 rfl (bg_3 177 rfl rfl) (by simp) rfl q1 q2 q3 rfl) (by decide) (fun M123 h124 => ?_)
  refine XE.goM (st_put (pc' := 335) (by decide +kernel) rfl cls_11 fld_RX11_138 rfl rfl (fun h => absurd h (by decide)) (fun _ => ⟨rfl, rfl⟩) h0) (fun M125 => ?_)
  refine XE.go (st_aload_n (j := 0) (i := 0) (pc' := 336) (by decide +kernel) rfl rfl (by decide) rfl) ?_
  refine XE.go (st_bipush (n := 36) (pc' := 338) (by decide +kernel) (by decide) (w_eq (by decide) (by decide)) rfl) ?_
  refine XE.ala_ (fun q1 q2 q3 => st_newa (atype := .int) (pc' := 340) (by decide +kernel) rfl ak_13 rfl (bg_3 177 rfl rfl) (by simp) rfl q1 q2 q3 rfl) (by decide) (fun M126 h127 => ?_)
  refine XE.goM (st_put (pc' := 343) (by decide +kernel) rfl cls_11 fld_RX11_141 rfl rfl (fun h => absurd h (by decide)) (fun _ => ⟨rfl, rfl⟩) h0) (fun M128 => ?_)
  refine XE.go (st_aload_n (j := 0) (i := 0) (pc' := 344) (by decide +kernel) rfl rfl (by decide) rfl) ?_
  refine XE.go (st_sipush (n := 324) (pc' := 347) (by decide +kernel) (by decide) (w_eq (by decide) (by decide)) rfl) ?_
  refine XE.ala_ (fun q1 q2 q3 => st_newa (atype := .int) (pc' := 349) (by decide +kernel) rfl ak_13 rfl (bg_3 177 rfl rfl) (by simp) rfl q1 q2 q3 rfl) (by decide) (fun M129 h130 => ?_)
  refine XE.goM (st_put (pc' := 352) (by decide +kernel) rfl cls_11 fld_RX11_144 rfl rfl (fun h => absurd h (by decide)) (fun _ => ⟨rfl, rfl⟩) h0) (fun M131 => ?_)
  refine XE.go (st_aload_n (j := 0) (i := 0) (pc' := 353) (by decide +kernel) rfl rfl (by decide) rfl) ?_
  refine XE.go (st_sipush (n := 324) (pc' := 356) (by decide +kernel) (by decide) (w_eq (by decide) (by decide)) rfl) ?_
  refine XE.ala_ (fun q1 q2 q3 => st_newa (atype := .int) (pc' := 358) (by decide +kernel) rfl ak_13 rfl (bg_3 177 rfl rfl) (by simp) rfl q1 q2 q3 rfl) (by decide) (fun M132 h133 => ?_)
  refine XE.goM (st_put (pc' := 361) (by decide +kernel) rfl cls_11 fld_RX11_147 rfl rfl (fun h => absurd h (by decide)) (fun _ => ⟨rfl, rfl⟩) h0) (fun M134 => ?_)
  refine XE.go (st_aload_n (j := 0) (i := 0) (pc' := 362) (by decide +kernel) rfl rfl (by decide) rfl) ?_
  refine XE.go (st_sipush (n := 324) (pc' := 365) (by decide +kernel) (by decide) (w_eq (by decide) (by decide)) rfl) ?_
  refine XE.ala_ (fun q1 q2 q3 => st_newa (atype := .int) (pc' := 367) (by decide +kernel) rfl ak_13 rfl (bg_3 177 rfl rfl) (by simp) rfl q1 q2 q3 rfl) (by decide) (fun M135 h136 => ?_)
  refine XE.goM (st_put (pc' := 370) (by decide +kernel) rfl cls_11 fld_RX11_150 rfl rfl (fun h => absurd h (by decide)) (fun _ => ⟨rfl, rfl⟩) h0) (fun M137 => ?_)
  refine XE.go (st_aload_n (j := 0) (i := 0) (pc' := 371) (by decide +kernel) rfl rfl (by decide) rfl) ?_
  refine XE.go (st_bipush (n := 27) (pc' := 373) (by decide +kernel) (by decide) (w_eq (by decide) (by decide)) rfl) ?_
  refine XE.ala_ (fun q1 q2 q3 => st_newa (atype := .int) (pc' := 375) (by decide +kernel) rfl ak_13 rfl (bg_3 177 rfl rfl) (by simp) rfl q1 q2 q3 rfl) (by decide) (fun M138 h139 => ?_)
  refine XE.goM (st_put (pc' := 378) (by decide +kernel) rfl cls_11 fld_RX11_153 rfl rfl (fun h => absurd h (by decide)) (fun _ => ⟨rfl, rfl⟩) h0) (fun M140 => ?_)
  refine XE.go (st_aload_n (j := 0) (i := 0) (pc' := 379) (by decide +kernel) rfl rfl (by decide) rfl) ?_
  refine XE.go (st_bipush (n := 27) (pc' := 381) (by decide +kernel) (by decide) (w_eq (by decide) (by decide)) rfl) ?_
  refine XE.ala_ (fun q1 q2 q3 => st_newa (atype := .int) (pc' := 383) (by decide +kernel) rfl ak_13 rfl (bg_3 177 rfl rfl) (by simp) rfl q1 q2 q3 rfl) (by decide) (fun M141 h142 => ?_)
  refine XE.goM (st_put (pc' := 386) (by decide +kernel) rfl cls_11 fld_RX11_156 rfl rfl (fun h => absurd h (by decide)) (fun _ => ⟨rfl, rfl⟩) h0) (fun M143 => ?_)
  refine XE.go (st_aload_n (j := 0) (i := 0) (pc' := 387) (by decide +kernel) rfl rfl (by decide) rfl) ?_
  refine XE.go (st_bipush (n := 27) (pc' := 389) (by decide +kernel) (by decide) (w_eq (by decide) (by decide)) rfl) ?_
  refine XE.ala_ (fun q1 q2 q3 => st_newa (atype := .int) (pc' := 391) (by decide +kernel) rfl ak_13 rfl (bg_3 177 rfl rfl) (by simp) rfl q1 q2 q3 rfl) (by decide) (fun M144 h145 => ?_)
  refine XE.goM (st_put (pc' := 394) (by decide +kernel) rfl cls_11 fld_RX11_159 rfl rfl (fun h => absurd h (by decide)) (fun _ => ⟨rfl, rfl⟩) h0) (fun M146 => ?_)
  refine XE.go (st_aload_n (j := 0) (i := 0) (pc' := 395) (by decide +kernel) rfl rfl (by decide) rfl) ?_
  refine XE.go (st_bipush (n := 27) (pc' := 397) (by decide +kernel) (by decide) (w_eq (by decide) (by decide)) rfl) ?_
  refine XE.ala_ (fun q1 q2 q3 => st_newa (atype := .int) (pc' := 399) (by decide +kernel) rfl ak_13 rfl (bg_3 177 rfl rfl) (by simp) rfl q1 q2 q3 rfl) (by decide) (fun M147 h148 => ?_)
  refine XE.goM (st_put (pc' := 402) (by decide +kernel) rfl cls_11 fld_RX11_162 rfl rfl (fun h => absurd h (by decide)) (fun _ => ⟨rfl, rfl⟩) h0) (fun M149 => ?_)
  refine XE.go (st_aload_n (j := 0) (i := 0) (pc' := 403) (by decide +kernel) rfl rfl (by decide) rfl) ?_
  refine XE.go (st_sipush (n := 450) (pc' := 406) (by decide +kernel) (by decide) (w_eq (by decide) (by decide)) rfl) ?_
  refine XE.ala_ (fun q1 q2 q3 => st_newa (atype := .int) (pc' := 408) (by decide +kernel) rfl ak_13 rfl (bg_3 177 rfl rfl) (by simp) rfl q1 q2 q3 rfl) (by decide) (fun M150 h151 => ?_)
  refine XE.goM (st_put (pc' := 411) (by decide +kernel) rfl cls_11 fld_RX11_165 rfl rfl (fun h => absurd h (by decide)) (fun _ => ⟨rfl, rfl⟩) h0) (fun M152 => ?_)
  refine XE.go (st_aload_n (j := 0) (i := 0) (pc' := 412) (by decide +kernel) rfl rfl (by decide) rfl) ?_
  refine XE.go (st_sipush (n := 450) (pc' := 415) (by decide +kernel) (by decide) (w_eq (by decide) (by decide)) rfl) ?_
  refine XE.ala_ (fun q1 q2 q3 => st_newa (atype := .int) (pc' := 417) (by decide +kernel) rfl ak_13 rfl (bg_3 177 rfl rfl) (by simp) rfl q1 q2 q3 rfl) (by decide) (fun M153 h154 => ?_)
  refine XE.goM (st_put (pc' := 420) (by decide +kernel) rfl cls_11 fld_RX11_168 rfl rfl (fun h => absurd h (by decide)) (fun _ => ⟨rfl, rfl⟩) h0) (fun M155 => ?_)
  refine XE.go (st_aload_n (j := 0) (i := 0) (pc' := 421) (by decide +kernel) rfl rfl (by decide) rfl) ?_
  refine XE.go (st_sipush (n := 450) (pc' := 424) (by decide +kernel) (by decide) (w_eq (by decide) (by decide)) rfl) ?_
  refine XE.ala_ (fun q1 q2 q3 => st_newa (atype := .int) (pc' := 426) (by decide +kernel) rfl ak_13 rfl (bg_3 177 rfl rfl) (by simp) rfl q1 q2 q3 rfl) (by decide) (fun M156 h157 => ?_)
  refine XE.goM (st_put (pc' := 429) (by decide +kernel) rfl cls_11 fld_RX11_171 rfl rfl (fun h => absurd h (by decide)) (fun _ => ⟨rfl, rfl⟩) h0) (fun M158 => ?_)
  refine XE.go (st_aload_n (j := 0) (i := 0) (pc' := 430) (by decide +kernel) rfl rfl (by decide) rfl) ?_
  refine XE.go (st_sipush (n := 450) (pc' := 433) (by decide +kernel) (by decide) (w_eq (by decide) (by decide)) rfl) ?_
  refine XE.ala_ (fun q1 q2 q3 => st_newa (atype := .int) (pc' := 435) (by decide +kernel) rfl ak_13 rfl (bg_3 177 rfl rfl) (by simp) rfl q1 q2 q3 rfl) (by decide) (fun M159 h160 => ?_)
  refine XE.goM (st_put (pc' := 438) (by decide +kernel) rfl cls_11 fld_RX11_174 rfl rfl (fun h => absurd h (by decide)) (fun _ => ⟨rfl, rfl⟩) h0) (fun M161 => ?_)
  refine XE.go (st_aload_n (j := 0) (i := 0) (pc' := 439) (by decide +kernel) rfl rfl (by decide) rfl) ?_
  refine XE.go (st_sipush (n := 450) (pc' := 442) (by decide +kernel) (by decide) (w_eq (by decide) (by decide)) rfl) ?_
  refine XE.ala_ (fun q1 q2 q3 => st_newa (atype := .int) (pc' := 444) (by decide +kernel) rfl ak_13 rfl (bg_3 177 rfl rfl) (by simp) rfl q1 q2 q3 rfl) (by decide) (fun M162 h163 => ?_)
  refine XE.goM (st_put (pc' := 447) (by decide +kernel) rfl cls_11 fld_RX11_177 rfl rfl (fun h => absurd h (by decide)) (fun _ => ⟨rfl, rfl⟩) h0) (fun M164 => ?_)
  refine XE.go (st_aload_n (j := 0) (i := 0) (pc' := 448) (by decide +kernel) rfl rfl (by decide) rfl) ?_
  refine XE.go (st_sipush (n := 450) (pc' := 451) (by decide +kernel) (by decide) (w_eq (by decide) (by decide)) rfl) ?_
  refine XE.ala_ (fun q1 q2 q3 => st_newa (atype := .int) (pc' := 453) (by decide +kernel) rfl ak_13 rfl (bg_3 177 rfl rfl) (by simp) rfl q1 q2 q3 rfl) (by decide) (fun M165 h166 => ?_)
  refine XE.goM (st_put (pc' := 456) (by decide +kernel) rfl cls_11 fld_RX11_180 rfl rfl (fun h => absurd h (by decide)) (fun _ => ⟨rfl, rfl⟩) h0) (fun M167 => ?_)
  refine XE.go (st_aload_n (j := 0) (i := 0) (pc' := 457) (by decide +kernel) rfl rfl (by decide) rfl) ?_
  refine XE.go (st_bipush (n := 12) (pc' := 459) (by decide +kernel) (by decide) (w_eq (by decide) (by decide)) rfl) ?_
  refine XE.ala_ (fun q1 q2 q3 => st_newa (atype := .int) (pc' := 461) (by decide +kernel) rfl ak_13 rfl (bg_3 177 rfl rfl) (by simp) rfl q1 q2 q3 rfl) (by decide) (fun M168 h169 => ?_)
  refine XE.goM (st_put (pc' := 464) (by decide +kernel) rfl cls_11 fld_RX11_183 rfl rfl (fun h => absurd h (by decide)) (fun _ => ⟨rfl, rfl⟩) h0) (fun M170 => ?_)
  refine XE.go (st_aload_n (j := 0) (i := 0) (pc' := 465) (by decide +kernel) rfl rfl (by decide) rfl) ?_
  refine XE.go (st_bipush (n := 12) (pc' := 467) (by decide +kernel) (by decide) (w_eq (by decide) (by decide)) rfl) ?_
  refine XE.ala_ (fun q1 q2 q3 => st_newa (atype := .int) (pc' := 469) (by decide +kernel) rfl ak_13 rfl (bg_3 177 rfl rfl) (by simp) rfl q1 q2 q3 rfl) (by decide) (fun M171 h172 => ?_)
  refine XE.goM (st_put (pc' := 472) (by decide +kernel) rfl cls_11 fld_RX11_186 rfl rfl (fun h => absurd h (by decide)) (fun _ => ⟨rfl, rfl⟩) h0) (fun M173 => ?_)
  refine XE.go (st_aload_n (j := 0) (i := 0) (pc' := 473) (by decide +kernel) rfl rfl (by decide) rfl) ?_
  refine XE.go (st_bipush (n := 9) (pc' := 475) (by decide +kernel) (by decide) (w_eq (by decide) (by decide)) rfl) ?_
  refine XE.ala_ (fun q1 q2 q3 => st_newa (atype := .int) (pc' := 477) (by decide +kernel) rfl ak_13 rfl (bg_3 177 rfl rfl) (by simp) rfl q1 q2 q3 rfl) (by decide) (fun M174 h175 => ?_)
  refine XE.goM (st_put (pc' := 480) (by decide +kernel) rfl cls_11 fld_RX11_189 rfl rfl (fun h => absurd h (by decide)) (fun _ => ⟨rfl, rfl⟩) h0) (fun M176 => ?_)
  exact XE.rt rfl (X_vret (by decide +kernel) rfl)
theorem ct_X11_init {D : Dt} {M : Mm} {a0 : Int} (h0 : a0 ≠ 0) (r : Mm) (hr : p_X11_init M a0 = some r) : CT D 0 mu_X11_init [(15, a0)] M (.inl none) r := CT.of (by decide +kernel) rfl (Nat.le_of_ble_eq_true rfl) (xe_X11_init h0 r hr)
def p_X11_refuse (M : Mm) (a0 a1 : Int) : Option (Int × Mm) := (some (wr M a0 0 a1)).bind fun M1 => some (0, M1)
set_option maxRecDepth 100000 in
set_option maxHeartbeats 4000000 in
theorem xe_X11_refuse {D : Dt} {M : Mm} {a0 a1 : Int} (h0 : a0 ≠ 0) : XE D 0 mu_X11_refuse (EW 0) 0 [(0, (15, a0)), (1, (0, a1))] [] M (p_X11_refuse M a0 a1) := by
  unfold p_X11_refuse
  refine XE.go (st_aload_n (j := 0) (i := 0) (pc' := 1) (by decide +kernel) rfl rfl (by decide) rfl) ?_
  refine XE.go (st_iload_n (j := 1) (i := 1) (pc' := 2) (by decide +kernel) rfl rfl rfl) ?_
  refine XE.goM (st_put (pc' := 5) (by decide +kernel) rfl cls_11 fld_RX11_192 rfl rfl (fun h => absurd h (by decide)) (fun h => nomatch h) h0) (fun M1 => ?_)
  refine XE.go (st_iconst (n := 0) (pc' := 6) (by decide +kernel) (w_eq (by decide) (by decide)) rfl) ?_
  exact XE.rt rfl (X_iret (by decide +kernel) rfl)
theorem ct_X11_refuse {D : Dt} {M : Mm} {a0 a1 : Int} (h0 : a0 ≠ 0) (r : (Int × Mm)) (hr : p_X11_refuse M a0 a1 = some r) : CT D 0 mu_X11_refuse [(15, a0), (0, a1)] M (.inl (some (0, r.1))) r.2 := CT.of (by decide +kernel) rfl (Nat.le_of_ble_eq_true rfl) (xe_X11_refuse h0 r hr)
def p_X11_refuseIt (M : Mm) (a0 a1 : Int) : Option (Int × Mm) := (some (wr M a0 0 a1)).bind fun M1 => some (0, M1)
set_option maxRecDepth 100000 in
set_option maxHeartbeats 4000000 in
theorem xe_X11_refuseIt {D : Dt} {M : Mm} {a0 a1 : Int} (h0 : a0 ≠ 0) : XE D 0 mu_X11_refuseIt (EW 0) 0 [(0, (15, a0)), (1, (0, a1))] [] M (p_X11_refuseIt M a0 a1) := by
  unfold p_X11_refuseIt
  refine XE.go (st_aload_n (j := 0) (i := 0) (pc' := 1) (by decide +kernel) rfl rfl (by decide) rfl) ?_
  refine XE.go (st_iload_n (j := 1) (i := 1) (pc' := 2) (by decide +kernel) rfl rfl rfl) ?_
  refine XE.goM (st_put (pc' := 5) (by decide +kernel) rfl cls_11 fld_RX11_192 rfl rfl (fun h => absurd h (by decide)) (fun h => nomatch h) h0) (fun M1 => ?_)
  refine XE.go (st_iconst (n := 0) (pc' := 6) (by decide +kernel) (w_eq (by decide) (by decide)) rfl) ?_
  exact XE.rt rfl (X_zret (by decide +kernel) rfl (by decide))
theorem ct_X11_refuseIt {D : Dt} {M : Mm} {a0 a1 : Int} (h0 : a0 ≠ 0) (r : (Int × Mm)) (hr : p_X11_refuseIt M a0 a1 = some r) : CT D 0 mu_X11_refuseIt [(15, a0), (0, a1)] M (.inl (some (0, r.1))) r.2 := CT.of (by decide +kernel) rfl (Nat.le_of_ble_eq_true rfl) (xe_X11_refuseIt h0 r hr)
def p_X11_thrown (M : Mm) (a0 : Int) : Option Int := some ((rd M a0 0))
set_option maxRecDepth 100000 in
set_option maxHeartbeats 4000000 in
theorem xe_X11_thrown {D : Dt} {M : Mm} {a0 : Int} (h0 : a0 ≠ 0) : XE D 0 mu_X11_thrown (EP 0 M) 0 [(0, (15, a0))] [] M (p_X11_thrown M a0) := by
  unfold p_X11_thrown
  refine XE.go (st_aload_n (j := 0) (i := 0) (pc' := 1) (by decide +kernel) rfl rfl (by decide) rfl) ?_
  refine XE.go (st_get (pc' := 4) (by decide +kernel) rfl cls_11 fld_RX11_192 rfl rfl h0) ?_
  exact XE.rt rfl (X_iret (by decide +kernel) rfl)
theorem ct_X11_thrown {D : Dt} {M : Mm} {a0 : Int} (h0 : a0 ≠ 0) (r : Int) (hr : p_X11_thrown M a0 = some r) : CT D 0 mu_X11_thrown [(15, a0)] M (.inl (some (0, r))) M := CT.of (by decide +kernel) rfl (Nat.le_of_ble_eq_true rfl) (xe_X11_thrown h0 r hr)
def p_X11_in (M : Mm) (a0 a1 a2 : Int) : Option Int := if (lcp a0 a1) < 0 then some (0) else if 0 < (lcp a0 a2) then some (0) else some (1)
set_option maxRecDepth 100000 in
set_option maxHeartbeats 4000000 in
theorem xe_X11_in {D : Dt} {M : Mm} {a0 a1 a2 : Int} : XE D 0 mu_X11_in (EP 0 M) 0 [(0, (2, a0)), (2, (2, a1)), (4, (2, a2))] [] M (p_X11_in M a0 a1 a2) := by
  unfold p_X11_in
  refine XE.go (st_lload_n (j := 0) (i := 0) (pc' := 1) (by decide +kernel) rfl rfl rfl) ?_
  refine XE.go (st_lload_n (j := 2) (i := 2) (pc' := 2) (by decide +kernel) rfl rfl rfl) ?_
  refine XE.go (st_lcmp (pc' := 3) (by decide +kernel) rfl) ?_
  refine XE.ite (fun h1 => ?_) (fun h2 => ?_)
  · refine XE.go (st_if_lt_t (off := 14) (pc' := 17) (by decide +kernel) (by decide) h1) ?_
    refine XE.go (st_iconst (n := 0) (pc' := 18) (by decide +kernel) (w_eq (by decide) (by decide)) rfl) ?_
    exact XE.rt rfl (X_zret (by decide +kernel) rfl (by decide))
  · refine XE.go (st_if_lt_f (off := 14) (pc' := 6) (by decide +kernel) 17 (by decide) rfl h2) ?_
    refine XE.go (st_lload_n (j := 0) (i := 0) (pc' := 7) (by decide +kernel) rfl rfl rfl) ?_
    refine XE.go (st_lload (j := 4) (pc' := 9) (by decide +kernel) rfl rfl) ?_
    refine XE.go (st_lcmp (pc' := 10) (by decide +kernel) rfl) ?_
    refine XE.ite (fun h3 => ?_) (fun h4 => ?_)
    · refine XE.go (st_if_gt_t (off := 7) (pc' := 17) (by decide +kernel) (by decide) h3) ?_
      refine XE.go (st_iconst (n := 0) (pc' := 18) (by decide +kernel) (w_eq (by decide) (by decide)) rfl) ?_
      exact XE.rt rfl (X_zret (by decide +kernel) rfl (by decide))
    · refine XE.go (st_if_gt_f (off := 7) (pc' := 13) (by decide +kernel) 17 (by decide) rfl h4) ?_
      refine XE.go (st_iconst (n := 1) (pc' := 14) (by decide +kernel) (w_eq (by decide) (by decide)) rfl) ?_
      refine XE.go (st_goto (off := 4) (pc' := 18) (by decide +kernel) (by decide)) ?_
      exact XE.rt rfl (X_zret (by decide +kernel) rfl (by decide))
theorem ct_X11_in {D : Dt} {M : Mm} {a0 a1 a2 : Int} (r : Int) (hr : p_X11_in M a0 a1 a2 = some r) : CT D 0 mu_X11_in [(2, a0), (2, a1), (2, a2)] M (.inl (some (0, r))) M := CT.of (by decide +kernel) rfl (Nat.le_of_ble_eq_true rfl) (xe_X11_in r hr)
def p_X11_has (M : Mm) (a0 a1 : Int) : Option Int := if (ian (shr a0 a1) 1) = 1 then some (1) else some (0)
set_option maxRecDepth 100000 in
set_option maxHeartbeats 4000000 in
theorem xe_X11_has {D : Dt} {M : Mm} {a0 a1 : Int} : XE D 0 mu_X11_has (EP 0 M) 0 [(0, (0, a0)), (1, (0, a1))] [] M (p_X11_has M a0 a1) := by
  unfold p_X11_has
  refine XE.go (st_iload_n (j := 0) (i := 0) (pc' := 1) (by decide +kernel) rfl rfl rfl) ?_
  refine XE.go (st_iload_n (j := 1) (i := 1) (pc' := 2) (by decide +kernel) rfl rfl rfl) ?_
  refine XE.go (st_ishr (pc' := 3) (by decide +kernel) rfl) ?_
  refine XE.go (st_iconst (n := 1) (pc' := 4) (by decide +kernel) (w_eq (by decide) (by decide)) rfl) ?_
  refine XE.go (st_iand (pc' := 5) (by decide +kernel) rfl) ?_
  refine XE.go (st_iconst (n := 1) (pc' := 6) (by decide +kernel) (w_eq (by decide) (by decide)) rfl) ?_
  refine XE.ite (fun h1 => ?_) (fun h2 => ?_)
  · refine XE.go (st_icmp_ne_f (off := 7) (pc' := 9) (by decide +kernel) 13 (by decide) rfl (not_not_intro h1)) ?_
    refine XE.go (st_iconst (n := 1) (pc' := 10) (by decide +kernel) (w_eq (by decide) (by decide)) rfl) ?_
    refine XE.go (st_goto (off := 4) (pc' := 14) (by decide +kernel) (by decide)) ?_
    exact XE.rt rfl (X_zret (by decide +kernel) rfl (by decide))
  · refine XE.go (st_icmp_ne_t (off := 7) (pc' := 13) (by decide +kernel) (by decide) h2) ?_
    refine XE.go (st_iconst (n := 0) (pc' := 14) (by decide +kernel) (w_eq (by decide) (by decide)) rfl) ?_
    exact XE.rt rfl (X_zret (by decide +kernel) rfl (by decide))
theorem ct_X11_has {D : Dt} {M : Mm} {a0 a1 : Int} (r : Int) (hr : p_X11_has M a0 a1 = some r) : CT D 0 mu_X11_has [(0, a0), (0, a1)] M (.inl (some (0, r))) M := CT.of (by decide +kernel) rfl (Nat.le_of_ble_eq_true rfl) (xe_X11_has r hr)
def p_X11_isTopic (M : Mm) (a0 a1 : Int) : Option Int := (p_X11_in M a1 0 (w ((rd M a0 4) - 1))).bind fun r1 => gd (r1 = 0 ∨ r1 = 1) (some (r1))
set_option maxRecDepth 100000 in
set_option maxHeartbeats 4000000 in
theorem xe_X11_isTopic {D : Dt} {M : Mm} {a0 a1 : Int} (h0 : a0 ≠ 0) : XE D 0 mu_X11_isTopic (EP 0 M) 0 [(0, (15, a0)), (1, (0, a1))] [] M (p_X11_isTopic M a0 a1) := by
  unfold p_X11_isTopic
  refine XE.go (st_iload_n (j := 1) (i := 1) (pc' := 1) (by decide +kernel) rfl rfl rfl) ?_
  refine XE.go (st_i2l (pc' := 2) (by decide +kernel) rfl) ?_
  refine XE.go (st_lconst (n := 0) (z := 0) (pc' := 3) (by decide +kernel) (by decide) (by decide) rfl) ?_
  refine XE.go (st_aload_n (j := 0) (i := 0) (pc' := 4) (by decide +kernel) rfl rfl (by decide) rfl) ?_
  refine XE.go (st_get (pc' := 7) (by decide +kernel) rfl cls_11 fld_RX11_195 rfl rfl h0) ?_
  refine XE.go (st_iconst (n := 1) (pc' := 8) (by decide +kernel) (w_eq (by decide) (by decide)) rfl) ?_
  refine XE.go (st_isub (pc' := 9) (by decide +kernel) rfl) ?_
  refine XE.go (st_i2l (pc' := 10) (by decide +kernel) rfl) ?_
  refine XE.cP (pc' := 13) (st := []) (fun r hr => ct_X11_in r hr) (fun r hr => run_S (st := []) (by decide +kernel) co_X11_isTopic_198 (ct_X11_in r hr) rfl rfl (Nat.le_of_ble_eq_true rfl)) rfl rfl (fun r1 => ?_)
  refine XE.gd_ (fun g2 => ?_)
  exact XE.rt rfl (X_zret (by decide +kernel) rfl g2)
theorem ct_X11_isTopic {D : Dt} {M : Mm} {a0 a1 : Int} (h0 : a0 ≠ 0) (r : Int) (hr : p_X11_isTopic M a0 a1 = some r) : CT D 0 mu_X11_isTopic [(15, a0), (0, a1)] M (.inl (some (0, r))) M := CT.of (by decide +kernel) rfl (Nat.le_of_ble_eq_true rfl) (xe_X11_isTopic h0 r hr)
def p_X11_isPartition (M : Mm) (a0 a1 : Int) : Option Int := (p_X11_in M a1 0 (w ((rd M a0 11) - 1))).bind fun r1 => gd (r1 = 0 ∨ r1 = 1) (some (r1))
set_option maxRecDepth 100000 in
set_option maxHeartbeats 4000000 in
theorem xe_X11_isPartition {D : Dt} {M : Mm} {a0 a1 : Int} (h0 : a0 ≠ 0) : XE D 0 mu_X11_isPartition (EP 0 M) 0 [(0, (15, a0)), (1, (0, a1))] [] M (p_X11_isPartition M a0 a1) := by
  unfold p_X11_isPartition
  refine XE.go (st_iload_n (j := 1) (i := 1) (pc' := 1) (by decide +kernel) rfl rfl rfl) ?_
  refine XE.go (st_i2l (pc' := 2) (by decide +kernel) rfl) ?_
  refine XE.go (st_lconst (n := 0) (z := 0) (pc' := 3) (by decide +kernel) (by decide) (by decide) rfl) ?_
  refine XE.go (st_aload_n (j := 0) (i := 0) (pc' := 4) (by decide +kernel) rfl rfl (by decide) rfl) ?_
  refine XE.go (st_get (pc' := 7) (by decide +kernel) rfl cls_11 fld_RX11_202 rfl rfl h0) ?_
  refine XE.go (st_iconst (n := 1) (pc' := 8) (by decide +kernel) (w_eq (by decide) (by decide)) rfl) ?_
  refine XE.go (st_isub (pc' := 9) (by decide +kernel) rfl) ?_
  refine XE.go (st_i2l (pc' := 10) (by decide +kernel) rfl) ?_
  refine XE.cP (pc' := 13) (st := []) (fun r hr => ct_X11_in r hr) (fun r hr => run_S (st := []) (by decide +kernel) co_X11_isPartition_198 (ct_X11_in r hr) rfl rfl (Nat.le_of_ble_eq_true rfl)) rfl rfl (fun r1 => ?_)
  refine XE.gd_ (fun g2 => ?_)
  exact XE.rt rfl (X_zret (by decide +kernel) rfl g2)
theorem ct_X11_isPartition {D : Dt} {M : Mm} {a0 a1 : Int} (h0 : a0 ≠ 0) (r : Int) (hr : p_X11_isPartition M a0 a1 = some r) : CT D 0 mu_X11_isPartition [(15, a0), (0, a1)] M (.inl (some (0, r))) M := CT.of (by decide +kernel) rfl (Nat.le_of_ble_eq_true rfl) (xe_X11_isPartition h0 r hr)
def p_X11_isProducer (M : Mm) (a0 a1 : Int) : Option Int := (p_X11_in M a1 0 (w ((rd M a0 30) - 1))).bind fun r1 => gd (r1 = 0 ∨ r1 = 1) (some (r1))
set_option maxRecDepth 100000 in
set_option maxHeartbeats 4000000 in
theorem xe_X11_isProducer {D : Dt} {M : Mm} {a0 a1 : Int} (h0 : a0 ≠ 0) : XE D 0 mu_X11_isProducer (EP 0 M) 0 [(0, (15, a0)), (1, (0, a1))] [] M (p_X11_isProducer M a0 a1) := by
  unfold p_X11_isProducer
  refine XE.go (st_iload_n (j := 1) (i := 1) (pc' := 1) (by decide +kernel) rfl rfl rfl) ?_
  refine XE.go (st_i2l (pc' := 2) (by decide +kernel) rfl) ?_
  refine XE.go (st_lconst (n := 0) (z := 0) (pc' := 3) (by decide +kernel) (by decide) (by decide) rfl) ?_
  refine XE.go (st_aload_n (j := 0) (i := 0) (pc' := 4) (by decide +kernel) rfl rfl (by decide) rfl) ?_
  refine XE.go (st_get (pc' := 7) (by decide +kernel) rfl cls_11 fld_RX11_205 rfl rfl h0) ?_
  refine XE.go (st_iconst (n := 1) (pc' := 8) (by decide +kernel) (w_eq (by decide) (by decide)) rfl) ?_
  refine XE.go (st_isub (pc' := 9) (by decide +kernel) rfl) ?_
  refine XE.go (st_i2l (pc' := 10) (by decide +kernel) rfl) ?_
  refine XE.cP (pc' := 13) (st := []) (fun r hr => ct_X11_in r hr) (fun r hr => run_S (st := []) (by decide +kernel) co_X11_isProducer_198 (ct_X11_in r hr) rfl rfl (Nat.le_of_ble_eq_true rfl)) rfl rfl (fun r1 => ?_)
  refine XE.gd_ (fun g2 => ?_)
  exact XE.rt rfl (X_zret (by decide +kernel) rfl g2)
theorem ct_X11_isProducer {D : Dt} {M : Mm} {a0 a1 : Int} (h0 : a0 ≠ 0) (r : Int) (hr : p_X11_isProducer M a0 a1 = some r) : CT D 0 mu_X11_isProducer [(15, a0), (0, a1)] M (.inl (some (0, r))) M := CT.of (by decide +kernel) rfl (Nat.le_of_ble_eq_true rfl) (xe_X11_isProducer h0 r hr)
def p_X11_brokerOf (M : Mm) (a0 a1 a2 : Int) : Option Int := gd (aok (rd M a0 12) a1) ((some ((rd M (rd M a0 12) a1))).bind fun v2 => gd (aok (rd M a0 7) v2) (some ((irm (w ((w ((w (v2 + a1)) - (rd M (rd M a0 7) v2))) + a2)) 3))))
set_option maxRecDepth 100000 in
set_option maxHeartbeats 4000000 in
theorem xe_X11_brokerOf {D : Dt} {M : Mm} {a0 a1 a2 : Int} (h0 : a0 ≠ 0) : XE D 0 mu_X11_brokerOf (EP 0 M) 0 [(0, (15, a0)), (1, (0, a1)), (2, (0, a2))] [] M (p_X11_brokerOf M a0 a1 a2) := by
  unfold p_X11_brokerOf
  refine XE.go (st_aload_n (j := 0) (i := 0) (pc' := 1) (by decide +kernel) rfl rfl (by decide) rfl) ?_
  refine XE.go (st_get (pc' := 4) (by decide +kernel) rfl cls_11 fld_RX11_36 rfl rfl h0) ?_
  refine XE.go (st_iload_n (j := 1) (i := 1) (pc' := 5) (by decide +kernel) rfl rfl rfl) ?_
  refine XE.gd_ (fun g1 => ?_)
  refine XE.go (st_ald (k := 13) (tp := 0) (pc' := 6) (by decide +kernel) rfl ak_13 rfl (by decide) rfl (Or.inl ⟨rfl, rfl⟩) g1.1 g1.2.1 g1.2.2) ?_
  refine XE.gen (fun v2 e3 => ?_)
  refine XE.go (st_istore_n (j := 3) (i := 3) (pc' := 7) (by decide +kernel) rfl rfl (by decide) rfl rfl) ?_
  refine XE.go (st_iload_n (j := 3) (i := 3) (pc' := 8) (by decide +kernel) rfl rfl rfl) ?_
  refine XE.go (st_iload_n (j := 1) (i := 1) (pc' := 9) (by decide +kernel) rfl rfl rfl) ?_
  refine XE.go (st_iadd (pc' := 10) (by decide +kernel) rfl) ?_
  refine XE.go (st_aload_n (j := 0) (i := 0) (pc' := 11) (by decide +kernel) rfl rfl (by decide) rfl) ?_
  refine XE.go (st_get (pc' := 14) (by decide +kernel) rfl cls_11 fld_RX11_23 rfl rfl h0) ?_
  refine XE.go (st_iload_n (j := 3) (i := 3) (pc' := 15) (by decide +kernel) rfl rfl rfl) ?_
  refine XE.gd_ (fun g4 => ?_)
  refine XE.go (st_ald (k := 13) (tp := 0) (pc' := 16) (by decide +kernel) rfl ak_13 rfl (by decide) rfl (Or.inl ⟨rfl, rfl⟩) g4.1 g4.2.1 g4.2.2) ?_
  refine XE.go (st_isub (pc' := 17) (by decide +kernel) rfl) ?_
  refine XE.go (st_iload_n (j := 2) (i := 2) (pc' := 18) (by decide +kernel) rfl rfl rfl) ?_
  refine XE.go (st_iadd (pc' := 19) (by decide +kernel) rfl) ?_
  refine XE.go (st_iconst (n := 3) (pc' := 20) (by decide +kernel) (w_eq (by decide) (by decide)) rfl) ?_
  refine XE.go (st_irem (pc' := 21) (by decide +kernel) (by decide) rfl) ?_
  exact XE.rt rfl (X_iret (by decide +kernel) rfl)
theorem ct_X11_brokerOf {D : Dt} {M : Mm} {a0 a1 a2 : Int} (h0 : a0 ≠ 0) (r : Int) (hr : p_X11_brokerOf M a0 a1 a2 = some r) : CT D 0 mu_X11_brokerOf [(15, a0), (0, a1), (0, a2)] M (.inl (some (0, r))) M := CT.of (by decide +kernel) rfl (Nat.le_of_ble_eq_true rfl) (xe_X11_brokerOf h0 r hr)
def b_X11_replicaOn_5 (M : Mm) (a0 : Int) (a1 : Int) (a2 : Int) (s1 : Int × Int) : Option ((Int × Int) ⊕ (Int)) := gd (aok (rd M a0 12) a1) (gd (aok (rd M a0 6) (rd M (rd M a0 12) a1)) (if s1.2 < (rd M (rd M a0 6) (rd M (rd M a0 12) a1)) then (p_X11_brokerOf M a0 a1 s1.2).bind fun r11 => if r11 = a2 then some (.inl (s1.2, (w (s1.2 + 1)))) else some (.inl (s1.1, (w (s1.2 + 1)))) else some (.inr s1.1)))
def p_X11_replicaOn (M : Mm) (a0 a1 a2 : Int) : Option Int := (lp (b_X11_replicaOn_5 M a0 a1 a2) 1000 ((-1), 0)).bind fun (t2 : Int) => some (t2)
set_option maxRecDepth 100000 in
set_option maxHeartbeats 4000000 in
theorem xe_X11_replicaOn {D : Dt} {M : Mm} {a0 a1 a2 : Int} (h0 : a0 ≠ 0) : XE D 0 mu_X11_replicaOn (EP 0 M) 0 [(0, (15, a0)), (1, (0, a1)), (2, (0, a2))] [] M (p_X11_replicaOn M a0 a1 a2) := by
  unfold p_X11_replicaOn
  refine XE.go (st_iconst (n := (-1)) (pc' := 1) (by decide +kernel) (w_eq (by decide) (by decide)) rfl) ?_
  refine XE.go (st_istore_n (j := 3) (i := 3) (pc' := 2) (by decide +kernel) rfl rfl (by decide) rfl rfl) ?_
  refine XE.go (st_iconst (n := 0) (pc' := 3) (by decide +kernel) (w_eq (by decide) (by decide)) rfl) ?_
  refine XE.go (st_istore (j := 4) (pc' := 5) (by decide +kernel)  rfl (by decide) rfl rfl) ?_
  refine XE.pick [2, 3, 4, 1, 0] (L' := [(0, (15, a0)), (1, (0, a1)), (2, (0, a2)), (3, (0, (-1))), (4, (0, 0))]) rfl ?_
  refine XE.loopJ (n := 1000) (s0 := ((-1), 0)) (pcL := 5) (pcE := 45) (LL := fun (s1 : Int × Int) => [(0, (15, a0)), (1, (0, a1)), (2, (0, a2)), (3, (0, s1.1)), (4, (0, s1.2))]) (sL := fun _ => []) (ML := fun (s1 : Int × Int) => M) (LE := fun (t2 : Int) => [(3, (0, t2))]) (sE := fun _ => []) (ME := fun (t2 : Int) => M) (fun kk6 hc3 he4 s1 => ?_) (fun t2 => ?_)
  · unfold b_X11_replicaOn_5
    refine XE.go (st_iload (j := 4) (pc' := 7) (by decide +kernel) rfl rfl) ?_
    refine XE.go (st_aload_n (j := 0) (i := 0) (pc' := 8) (by decide +kernel) rfl rfl (by decide) rfl) ?_
    refine XE.go (st_get (pc' := 11) (by decide +kernel) rfl cls_11 fld_RX11_20 rfl rfl h0) ?_
    refine XE.go (st_aload_n (j := 0) (i := 0) (pc' := 12) (by decide +kernel) rfl rfl (by decide) rfl) ?_
    refine XE.go (st_get (pc' := 15) (by decide +kernel) rfl cls_11 fld_RX11_36 rfl rfl h0) ?_
    refine XE.go (st_iload_n (j := 1) (i := 1) (pc' := 16) (by decide +kernel) rfl rfl rfl) ?_
    refine XE.gdb (fun g7 => ?_)
    refine XE.go (st_ald (k := 13) (tp := 0) (pc' := 17) (by decide +kernel) rfl ak_13 rfl (by decide) rfl (Or.inl ⟨rfl, rfl⟩) g7.1 g7.2.1 g7.2.2) ?_
    refine XE.gdb (fun g8 => ?_)
    refine XE.go (st_ald (k := 13) (tp := 0) (pc' := 18) (by decide +kernel) rfl ak_13 rfl (by decide) rfl (Or.inl ⟨rfl, rfl⟩) g8.1 g8.2.1 g8.2.2) ?_
    refine XE.bite (fun h9 => ?_) (fun h10 => ?_)
    · refine XE.go (st_icmp_ge_f (off := 27) (pc' := 21) (by decide +kernel) 45 (by decide) rfl (Int.not_le.mpr h9)) ?_
      refine XE.go (st_aload_n (j := 0) (i := 0) (pc' := 22) (by decide +kernel) rfl rfl (by decide) rfl) ?_
      refine XE.go (st_iload_n (j := 1) (i := 1) (pc' := 23) (by decide +kernel) rfl rfl rfl) ?_
      refine XE.go (st_iload (j := 4) (pc' := 25) (by decide +kernel) rfl rfl) ?_
      refine XE.asc ?_
      refine XE.cP (pc' := 28) (st := []) (fun r hr => ct_X11_brokerOf h0 r hr) (fun r hr => run_V (st := []) (by decide +kernel) co_X11_replicaOn_208 (ct_X11_brokerOf h0 r hr) rfl h0 rfl rfl (Nat.le_of_ble_eq_true rfl)) rfl rfl (fun r11 => ?_)
      refine XE.go (st_iload_n (j := 2) (i := 2) (pc' := 29) (by decide +kernel) rfl rfl rfl) ?_
      refine XE.bite (fun h12 => ?_) (fun h13 => ?_)
      · refine XE.go (st_icmp_ne_f (off := 8) (pc' := 32) (by decide +kernel) 37 (by decide) rfl (not_not_intro h12)) ?_
        refine XE.go (st_iload (j := 4) (pc' := 34) (by decide +kernel) rfl rfl) ?_
        refine XE.go (st_goto (off := 4) (pc' := 38) (by decide +kernel) (by decide)) ?_
        refine XE.go (st_istore_n (j := 3) (i := 3) (pc' := 39) (by decide +kernel) rfl rfl (by decide) rfl rfl) ?_
        refine XE.go (st_iinc (j := 4) (n := 1) (pc' := 42) (by decide +kernel) rfl rfl (by decide) rfl rfl) ?_
        refine XE.go (st_goto (off := (-37)) (pc' := 5) (by decide +kernel) (by decide)) ?_
        exact XE.pick [2, 3, 4, 1, 0] rfl (hc3 (s1.2, (w (s1.2 + 1))))
      · refine XE.go (st_icmp_ne_t (off := 8) (pc' := 37) (by decide +kernel) (by decide) h13) ?_
        refine XE.go (st_iload_n (j := 3) (i := 3) (pc' := 38) (by decide +kernel) rfl rfl rfl) ?_
        refine XE.go (st_istore_n (j := 3) (i := 3) (pc' := 39) (by decide +kernel) rfl rfl (by decide) rfl rfl) ?_
        refine XE.go (st_iinc (j := 4) (n := 1) (pc' := 42) (by decide +kernel) rfl rfl (by decide) rfl rfl) ?_
        refine XE.go (st_goto (off := (-37)) (pc' := 5) (by decide +kernel) (by decide)) ?_
        exact XE.pick [2, 3, 4, 1, 0] rfl (hc3 (s1.1, (w (s1.2 + 1))))
    · refine XE.go (st_icmp_ge_t (off := 27) (pc' := 45) (by decide +kernel) (by decide) (Int.not_lt.mp h10)) ?_
      exact XE.pick [3] rfl (he4 s1.1)
  · refine XE.go (st_iload_n (j := 3) (i := 3) (pc' := 46) (by decide +kernel) rfl rfl rfl) ?_
    exact XE.rt rfl (X_iret (by decide +kernel) rfl)
theorem ct_X11_replicaOn {D : Dt} {M : Mm} {a0 a1 a2 : Int} (h0 : a0 ≠ 0) (r : Int) (hr : p_X11_replicaOn M a0 a1 a2 = some r) : CT D 0 mu_X11_replicaOn [(15, a0), (0, a1), (0, a2)] M (.inl (some (0, r))) M := CT.of (by decide +kernel) rfl (Nat.le_of_ble_eq_true rfl) (xe_X11_replicaOn h0 r hr)
def p_X11_hasLeader (M : Mm) (a0 a1 : Int) : Option Int := gd (aok (rd M a0 13) a1) (if (rd M (rd M a0 13) a1) < 0 then some (0) else some (1))
set_option maxRecDepth 100000 in
set_option maxHeartbeats 4000000 in
theorem xe_X11_hasLeader {D : Dt} {M : Mm} {a0 a1 : Int} (h0 : a0 ≠ 0) : XE D 0 mu_X11_hasLeader (EP 0 M) 0 [(0, (15, a0)), (1, (0, a1))] [] M (p_X11_hasLeader M a0 a1) := by
  unfold p_X11_hasLeader
  refine XE.go (st_aload_n (j := 0) (i := 0) (pc' := 1) (by decide +kernel) rfl rfl (by decide) rfl) ?_
  refine XE.go (st_get (pc' := 4) (by decide +kernel) rfl cls_11 fld_RX11_39 rfl rfl h0) ?_
  refine XE.go (st_iload_n (j := 1) (i := 1) (pc' := 5) (by decide +kernel) rfl rfl rfl) ?_
  refine XE.gd_ (fun g1 => ?_)
  refine XE.go (st_ald (k := 13) (tp := 0) (pc' := 6) (by decide +kernel) rfl ak_13 rfl (by decide) rfl (Or.inl ⟨rfl, rfl⟩) g1.1 g1.2.1 g1.2.2) ?_
  refine XE.ite (fun h2 => ?_) (fun h3 => ?_)
  · refine XE.go (st_if_lt_t (off := 7) (pc' := 13) (by decide +kernel) (by decide) h2) ?_
    refine XE.go (st_iconst (n := 0) (pc' := 14) (by decide +kernel) (w_eq (by decide) (by decide)) rfl) ?_
    exact XE.rt rfl (X_zret (by decide +kernel) rfl (by decide))
  · refine XE.go (st_if_lt_f (off := 7) (pc' := 9) (by decide +kernel) 13 (by decide) rfl h3) ?_
    refine XE.go (st_iconst (n := 1) (pc' := 10) (by decide +kernel) (w_eq (by decide) (by decide)) rfl) ?_
    refine XE.go (st_goto (off := 4) (pc' := 14) (by decide +kernel) (by decide)) ?_
    exact XE.rt rfl (X_zret (by decide +kernel) rfl (by decide))
theorem ct_X11_hasLeader {D : Dt} {M : Mm} {a0 a1 : Int} (h0 : a0 ≠ 0) (r : Int) (hr : p_X11_hasLeader M a0 a1 = some r) : CT D 0 mu_X11_hasLeader [(15, a0), (0, a1)] M (.inl (some (0, r))) M := CT.of (by decide +kernel) rfl (Nat.le_of_ble_eq_true rfl) (xe_X11_hasLeader h0 r hr)
def b_X11_lowest_2 (M : Mm) (a0 : Int) (s1 : Int) : Option ((Int) ⊕ (Int)) := (p_X11_has M a0 s1).bind fun r7 => if r7 = 0 then some (.inl (w (s1 + 1))) else some (.inr s1)
def p_X11_lowest (M : Mm) (a0 : Int) : Option Int := (lp (b_X11_lowest_2 M a0) 1000 0).bind fun (t2 : Int) => some (t2)
set_option maxRecDepth 100000 in
set_option maxHeartbeats 4000000 in
theorem xe_X11_lowest {D : Dt} {M : Mm} {a0 : Int} : XE D 0 mu_X11_lowest (EP 0 M) 0 [(0, (0, a0))] [] M (p_X11_lowest M a0) := by
  unfold p_X11_lowest
  refine XE.go (st_iconst (n := 0) (pc' := 1) (by decide +kernel) (w_eq (by decide) (by decide)) rfl) ?_
  refine XE.go (st_istore_n (j := 1) (i := 1) (pc' := 2) (by decide +kernel) rfl rfl (by decide) rfl rfl) ?_
  refine XE.pick [1, 0] (L' := [(0, (0, a0)), (1, (0, 0))]) rfl ?_
  refine XE.loopJ (n := 1000) (s0 := 0) (pcL := 2) (pcE := 16) (LL := fun (s1 : Int) => [(0, (0, a0)), (1, (0, s1))]) (sL := fun _ => []) (ML := fun (s1 : Int) => M) (LE := fun (t2 : Int) => [(1, (0, t2))]) (sE := fun _ => []) (ME := fun (t2 : Int) => M) (fun kk6 hc3 he4 s1 => ?_) (fun t2 => ?_)
  · unfold b_X11_lowest_2
    refine XE.go (st_iload_n (j := 0) (i := 0) (pc' := 3) (by decide +kernel) rfl rfl rfl) ?_
    refine XE.go (st_iload_n (j := 1) (i := 1) (pc' := 4) (by decide +kernel) rfl rfl rfl) ?_
    refine XE.asc ?_
    refine XE.cP (pc' := 7) (st := []) (fun r hr => ct_X11_has r hr) (fun r hr => run_S (st := []) (by decide +kernel) co_X11_lowest_212 (ct_X11_has r hr) rfl rfl (Nat.le_of_ble_eq_true rfl)) rfl rfl (fun r7 => ?_)
    refine XE.bite (fun h8 => ?_) (fun h9 => ?_)
    · refine XE.go (st_if_ne_f (off := 9) (pc' := 10) (by decide +kernel) 16 (by decide) rfl (not_not_intro h8)) ?_
      refine XE.go (st_iinc (j := 1) (n := 1) (pc' := 13) (by decide +kernel) rfl rfl (by decide) rfl rfl) ?_
      refine XE.go (st_goto (off := (-11)) (pc' := 2) (by decide +kernel) (by decide)) ?_
      exact XE.pick [1, 0] rfl (hc3 (w (s1 + 1)))
    · refine XE.go (st_if_ne_t (off := 9) (pc' := 16) (by decide +kernel) (by decide) h9) ?_
      exact XE.pick [1] rfl (he4 s1)
  · refine XE.go (st_iload_n (j := 1) (i := 1) (pc' := 17) (by decide +kernel) rfl rfl rfl) ?_
    exact XE.rt rfl (X_iret (by decide +kernel) rfl)
theorem ct_X11_lowest {D : Dt} {M : Mm} {a0 : Int} (r : Int) (hr : p_X11_lowest M a0 = some r) : CT D 0 mu_X11_lowest [(0, a0)] M (.inl (some (0, r))) M := CT.of (by decide +kernel) rfl (Nat.le_of_ble_eq_true rfl) (xe_X11_lowest r hr)
def p_X11_endOfLog (M : Mm) (a0 a1 : Int) : Option Int := (p_X11_hasLeader M a0 a1).bind fun r1 => if r1 = 0 then gd (aok (rd M a0 14) a1) ((p_X11_lowest M (rd M (rd M a0 14) a1)).bind fun r5 => gd (aok (rd M a0 16) (w ((w (3 * a1)) + r5))) (some ((rd M (rd M a0 16) (w ((w (3 * a1)) + r5)))))) else gd (aok (rd M a0 13) a1) (gd (aok (rd M a0 16) (w ((w (3 * a1)) + (rd M (rd M a0 13) a1)))) (some ((rd M (rd M a0 16) (w ((w (3 * a1)) + (rd M (rd M a0 13) a1)))))))
set_option maxRecDepth 100000 in
set_option maxHeartbeats 4000000 in
theorem xe_X11_endOfLog {D : Dt} {M : Mm} {a0 a1 : Int} (h0 : a0 ≠ 0) : XE D 0 mu_X11_endOfLog (EP 0 M) 0 [(0, (15, a0)), (1, (0, a1))] [] M (p_X11_endOfLog M a0 a1) := by
  unfold p_X11_endOfLog
  refine XE.go (st_aload_n (j := 0) (i := 0) (pc' := 1) (by decide +kernel) rfl rfl (by decide) rfl) ?_
  refine XE.go (st_get (pc' := 4) (by decide +kernel) rfl cls_11 fld_RX11_48 rfl rfl h0) ?_
  refine XE.go (st_iconst (n := 3) (pc' := 5) (by decide +kernel) (w_eq (by decide) (by decide)) rfl) ?_
  refine XE.go (st_iload_n (j := 1) (i := 1) (pc' := 6) (by decide +kernel) rfl rfl rfl) ?_
  refine XE.go (st_imul (pc' := 7) (by decide +kernel) rfl) ?_
  refine XE.go (st_aload_n (j := 0) (i := 0) (pc' := 8) (by decide +kernel) rfl rfl (by decide) rfl) ?_
  refine XE.go (st_iload_n (j := 1) (i := 1) (pc' := 9) (by decide +kernel) rfl rfl rfl) ?_
  refine XE.cP (pc' := 12) (st := [(0, (w (3 * a1))), (16, (rd M a0 16))]) (fun r hr => ct_X11_hasLeader h0 r hr) (fun r hr => run_V (st := [(0, (w (3 * a1))), (16, (rd M a0 16))]) (by decide +kernel) co_X11_endOfLog_216 (ct_X11_hasLeader h0 r hr) rfl h0 rfl rfl (Nat.le_of_ble_eq_true rfl)) rfl rfl (fun r1 => ?_)
  refine XE.ite (fun h2 => ?_) (fun h3 => ?_)
  · refine XE.go (st_if_eq_t (off := 12) (pc' := 24) (by decide +kernel) (by decide) h2) ?_
    refine XE.go (st_aload_n (j := 0) (i := 0) (pc' := 25) (by decide +kernel) rfl rfl (by decide) rfl) ?_
    refine XE.go (st_get (pc' := 28) (by decide +kernel) rfl cls_11 fld_RX11_42 rfl rfl h0) ?_
    refine XE.go (st_iload_n (j := 1) (i := 1) (pc' := 29) (by decide +kernel) rfl rfl rfl) ?_
    refine XE.gd_ (fun g4 => ?_)
    refine XE.go (st_ald (k := 13) (tp := 0) (pc' := 30) (by decide +kernel) rfl ak_13 rfl (by decide) rfl (Or.inl ⟨rfl, rfl⟩) g4.1 g4.2.1 g4.2.2) ?_
    refine XE.cP (pc' := 33) (st := [(0, (w (3 * a1))), (16, (rd M a0 16))]) (fun r hr => ct_X11_lowest r hr) (fun r hr => run_S (st := [(0, (w (3 * a1))), (16, (rd M a0 16))]) (by decide +kernel) co_X11_endOfLog_220 (ct_X11_lowest r hr) rfl rfl (Nat.le_of_ble_eq_true rfl)) rfl rfl (fun r5 => ?_)
    refine XE.go (st_iadd (pc' := 34) (by decide +kernel) rfl) ?_
    refine XE.gd_ (fun g6 => ?_)
    refine XE.go (st_ald (k := 13) (tp := 0) (pc' := 35) (by decide +kernel) rfl ak_13 rfl (by decide) rfl (Or.inl ⟨rfl, rfl⟩) g6.1 g6.2.1 g6.2.2) ?_
    exact XE.rt rfl (X_iret (by decide +kernel) rfl)
  · refine XE.go (st_if_eq_f (off := 12) (pc' := 15) (by decide +kernel) 24 (by decide) rfl h3) ?_
    refine XE.go (st_aload_n (j := 0) (i := 0) (pc' := 16) (by decide +kernel) rfl rfl (by decide) rfl) ?_
    refine XE.go (st_get (pc' := 19) (by decide +kernel) rfl cls_11 fld_RX11_39 rfl rfl h0) ?_
    refine XE.go (st_iload_n (j := 1) (i := 1) (pc' := 20) (by decide +kernel) rfl rfl rfl) ?_
    refine XE.gd_ (fun g7 => ?_)
    refine XE.go (st_ald (k := 13) (tp := 0) (pc' := 21) (by decide +kernel) rfl ak_13 rfl (by decide) rfl (Or.inl ⟨rfl, rfl⟩) g7.1 g7.2.1 g7.2.2) ?_
    refine XE.go (st_goto (off := 12) (pc' := 33) (by decide +kernel) (by decide)) ?_
    refine XE.go (st_iadd (pc' := 34) (by decide +kernel) rfl) ?_
    refine XE.gd_ (fun g8 => ?_)
    refine XE.go (st_ald (k := 13) (tp := 0) (pc' := 35) (by decide +kernel) rfl ak_13 rfl (by decide) rfl (Or.inl ⟨rfl, rfl⟩) g8.1 g8.2.1 g8.2.2) ?_
    exact XE.rt rfl (X_iret (by decide +kernel) rfl)
theorem ct_X11_endOfLog {D : Dt} {M : Mm} {a0 a1 : Int} (h0 : a0 ≠ 0) (r : Int) (hr : p_X11_endOfLog M a0 a1 = some r) : CT D 0 mu_X11_endOfLog [(15, a0), (0, a1)] M (.inl (some (0, r))) M := CT.of (by decide +kernel) rfl (Nat.le_of_ble_eq_true rfl) (xe_X11_endOfLog h0 r hr)
def b_X11_highWatermark_5 (M : Mm) (a0 : Int) (a1 : Int) (s1 : Int × Int) : Option ((Int × Int) ⊕ (Int)) := if s1.2 < 3 then gd (aok (rd M a0 14) a1) ((p_X11_has M (rd M (rd M a0 14) a1) s1.2).bind fun r10 => if r10 = 0 then some (.inl (s1.1, (w (s1.2 + 1)))) else gd (aok (rd M a0 16) (w ((w (3 * a1)) + s1.2))) (if (rd M (rd M a0 16) (w ((w (3 * a1)) + s1.2))) < s1.1 then gd (aok (rd M a0 16) (w ((w (3 * a1)) + s1.2))) ((some ((rd M (rd M a0 16) (w ((w (3 * a1)) + s1.2))))).bind fun v17 => some (.inl (v17, (w (s1.2 + 1))))) else some (.inl (s1.1, (w (s1.2 + 1)))))) else some (.inr s1.1)
def p_X11_highWatermark (M : Mm) (a0 a1 : Int) : Option Int := (lp (b_X11_highWatermark_5 M a0 a1) 1000 (60, 0)).bind fun (t2 : Int) => some (t2)
set_option maxRecDepth 100000 in
set_option maxHeartbeats 4000000 in
theorem xe_X11_highWatermark {D : Dt} {M : Mm} {a0 a1 : Int} (h0 : a0 ≠ 0) : XE D 0 mu_X11_highWatermark (EP 0 M) 0 [(0, (15, a0)), (1, (0, a1))] [] M (p_X11_highWatermark M a0 a1) := by
  unfold p_X11_highWatermark
  refine XE.go (st_bipush (n := 60) (pc' := 2) (by decide +kernel) (by decide) (w_eq (by decide) (by decide)) rfl) ?_
  refine XE.go (st_istore_n (j := 2) (i := 2) (pc' := 3) (by decide +kernel) rfl rfl (by decide) rfl rfl) ?_
  refine XE.go (st_iconst (n := 0) (pc' := 4) (by decide +kernel) (w_eq (by decide) (by decide)) rfl) ?_
  refine XE.go (st_istore_n (j := 3) (i := 3) (pc' := 5) (by decide +kernel) rfl rfl (by decide) rfl rfl) ?_
  refine XE.pick [2, 3, 1, 0] (L' := [(0, (15, a0)), (1, (0, a1)), (2, (0, 60)), (3, (0, 0))]) rfl ?_
  refine XE.loopJ (n := 1000) (s0 := (60, 0)) (pcL := 5) (pcE := 58) (LL := fun (s1 : Int × Int) => [(0, (15, a0)), (1, (0, a1)), (2, (0, s1.1)), (3, (0, s1.2))]) (sL := fun _ => []) (ML := fun (s1 : Int × Int) => M) (LE := fun (t2 : Int) => [(2, (0, t2))]) (sE := fun _ => []) (ME := fun (t2 : Int) => M) (fun kk6 hc3 he4 s1 => ?_) (fun t2 => ?_)
  · unfold b_X11_highWatermark_5
    refine XE.go (st_iload_n (j := 3) (i := 3) (pc' := 6) (by decide +kernel) rfl rfl rfl) ?_
    refine XE.go (st_iconst (n := 3) (pc' := 7) (by decide +kernel) (w_eq (by decide) (by decide)) rfl) ?_
    refine XE.bite (fun h7 => ?_) (fun h8 => ?_)
    · refine XE.go (st_icmp_ge_f (off := 51) (pc' := 10) (by decide +kernel) 58 (by decide) rfl (Int.not_le.mpr h7)) ?_
      refine XE.go (st_aload_n (j := 0) (i := 0) (pc' := 11) (by decide +kernel) rfl rfl (by decide) rfl) ?_
      refine XE.go (st_get (pc' := 14) (by decide +kernel) rfl cls_11 fld_RX11_42 rfl rfl h0) ?_
      refine XE.go (st_iload_n (j := 1) (i := 1) (pc' := 15) (by decide +kernel) rfl rfl rfl) ?_
      refine XE.gdb (fun g9 => ?_)
      refine XE.go (st_ald (k := 13) (tp := 0) (pc' := 16) (by decide +kernel) rfl ak_13 rfl (by decide) rfl (Or.inl ⟨rfl, rfl⟩) g9.1 g9.2.1 g9.2.2) ?_
      refine XE.go (st_iload_n (j := 3) (i := 3) (pc' := 17) (by decide +kernel) rfl rfl rfl) ?_
      refine XE.asc ?_
      refine XE.cP (pc' := 20) (st := []) (fun r hr => ct_X11_has r hr) (fun r hr => run_S (st := []) (by decide +kernel) co_X11_highWatermark_212 (ct_X11_has r hr) rfl rfl (Nat.le_of_ble_eq_true rfl)) rfl rfl (fun r10 => ?_)
      refine XE.bite (fun h11 => ?_) (fun h12 => ?_)
      · refine XE.go (st_if_eq_t (off := 30) (pc' := 50) (by decide +kernel) (by decide) h11) ?_
        refine XE.go (st_iload_n (j := 2) (i := 2) (pc' := 51) (by decide +kernel) rfl rfl rfl) ?_
        refine XE.go (st_istore_n (j := 2) (i := 2) (pc' := 52) (by decide +kernel) rfl rfl (by decide) rfl rfl) ?_
        refine XE.go (st_iinc (j := 3) (n := 1) (pc' := 55) (by decide +kernel) rfl rfl (by decide) rfl rfl) ?_
        refine XE.go (st_goto (off := (-50)) (pc' := 5) (by decide +kernel) (by decide)) ?_
        exact XE.pick [2, 3, 1, 0] rfl (hc3 (s1.1, (w (s1.2 + 1))))
      · refine XE.go (st_if_eq_f (off := 30) (pc' := 23) (by decide +kernel) 50 (by decide) rfl h12) ?_
        refine XE.go (st_aload_n (j := 0) (i := 0) (pc' := 24) (by decide +kernel) rfl rfl (by decide) rfl) ?_
        refine XE.go (st_get (pc' := 27) (by decide +kernel) rfl cls_11 fld_RX11_48 rfl rfl h0) ?_
        refine XE.go (st_iconst (n := 3) (pc' := 28) (by decide +kernel) (w_eq (by decide) (by decide)) rfl) ?_
        refine XE.go (st_iload_n (j := 1) (i := 1) (pc' := 29) (by decide +kernel) rfl rfl rfl) ?_
        refine XE.go (st_imul (pc' := 30) (by decide +kernel) rfl) ?_
        refine XE.go (st_iload_n (j := 3) (i := 3) (pc' := 31) (by decide +kernel) rfl rfl rfl) ?_
        refine XE.go (st_iadd (pc' := 32) (by decide +kernel) rfl) ?_
        refine XE.gdb (fun g13 => ?_)
        refine XE.go (st_ald (k := 13) (tp := 0) (pc' := 33) (by decide +kernel) rfl ak_13 rfl (by decide) rfl (Or.inl ⟨rfl, rfl⟩) g13.1 g13.2.1 g13.2.2) ?_
        refine XE.go (st_iload_n (j := 2) (i := 2) (pc' := 34) (by decide +kernel) rfl rfl rfl) ?_
        refine XE.bite (fun h14 => ?_) (fun h15 => ?_)
        · refine XE.go (st_icmp_ge_f (off := 16) (pc' := 37) (by decide +kernel) 50 (by decide) rfl (Int.not_le.mpr h14)) ?_
          refine XE.go (st_aload_n (j := 0) (i := 0) (pc' := 38) (by decide +kernel) rfl rfl (by decide) rfl) ?_
          refine XE.go (st_get (pc' := 41) (by decide +kernel) rfl cls_11 fld_RX11_48 rfl rfl h0) ?_
          refine XE.go (st_iconst (n := 3) (pc' := 42) (by decide +kernel) (w_eq (by decide) (by decide)) rfl) ?_
          refine XE.go (st_iload_n (j := 1) (i := 1) (pc' := 43) (by decide +kernel) rfl rfl rfl) ?_
          refine XE.go (st_imul (pc' := 44) (by decide +kernel) rfl) ?_
          refine XE.go (st_iload_n (j := 3) (i := 3) (pc' := 45) (by decide +kernel) rfl rfl rfl) ?_
          refine XE.go (st_iadd (pc' := 46) (by decide +kernel) rfl) ?_
          refine XE.gdb (fun g16 => ?_)
          refine XE.go (st_ald (k := 13) (tp := 0) (pc' := 47) (by decide +kernel) rfl ak_13 rfl (by decide) rfl (Or.inl ⟨rfl, rfl⟩) g16.1 g16.2.1 g16.2.2) ?_
          refine XE.go (st_goto (off := 4) (pc' := 51) (by decide +kernel) (by decide)) ?_
          refine XE.asc ?_
          refine XE.gen (fun v17 e18 => ?_)
          refine XE.go (st_istore_n (j := 2) (i := 2) (pc' := 52) (by decide +kernel) rfl rfl (by decide) rfl rfl) ?_
          refine XE.go (st_iinc (j := 3) (n := 1) (pc' := 55) (by decide +kernel) rfl rfl (by decide) rfl rfl) ?_
          refine XE.go (st_goto (off := (-50)) (pc' := 5) (by decide +kernel) (by decide)) ?_
          exact XE.pick [2, 3, 1, 0] rfl (hc3 (v17, (w (s1.2 + 1))))
        · refine XE.go (st_icmp_ge_t (off := 16) (pc' := 50) (by decide +kernel) (by decide) (Int.not_lt.mp h15)) ?_
          refine XE.go (st_iload_n (j := 2) (i := 2) (pc' := 51) (by decide +kernel) rfl rfl rfl) ?_
          refine XE.go (st_istore_n (j := 2) (i := 2) (pc' := 52) (by decide +kernel) rfl rfl (by decide) rfl rfl) ?_
          refine XE.go (st_iinc (j := 3) (n := 1) (pc' := 55) (by decide +kernel) rfl rfl (by decide) rfl rfl) ?_
          refine XE.go (st_goto (off := (-50)) (pc' := 5) (by decide +kernel) (by decide)) ?_
          exact XE.pick [2, 3, 1, 0] rfl (hc3 (s1.1, (w (s1.2 + 1))))
    · refine XE.go (st_icmp_ge_t (off := 51) (pc' := 58) (by decide +kernel) (by decide) (Int.not_lt.mp h8)) ?_
      exact XE.pick [2] rfl (he4 s1.1)
  · refine XE.go (st_iload_n (j := 2) (i := 2) (pc' := 59) (by decide +kernel) rfl rfl rfl) ?_
    exact XE.rt rfl (X_iret (by decide +kernel) rfl)
theorem ct_X11_highWatermark {D : Dt} {M : Mm} {a0 a1 : Int} (h0 : a0 ≠ 0) (r : Int) (hr : p_X11_highWatermark M a0 a1 = some r) : CT D 0 mu_X11_highWatermark [(15, a0), (0, a1)] M (.inl (some (0, r))) M := CT.of (by decide +kernel) rfl (Nat.le_of_ble_eq_true rfl) (xe_X11_highWatermark h0 r hr)
def b_X11_stableOffset_8 (r1 : Int) (M : Mm) (a0 : Int) (a1 : Int) (s2 : Int) : Option ((Int) ⊕ ((Int) ⊕ (Unit))) := if s2 < r1 then gd (aok (rd M a0 18) (w ((w (60 * a1)) + s2))) ((some ((rd M (rd M a0 18) (w ((w (60 * a1)) + s2))))).bind fun v25 => if v25 < 0 then some (.inl (w (s2 + 1))) else gd (aok (rd M a0 25) v25) (if (rd M (rd M a0 25) v25) = 1 then some (.inr (.inl (s2))) else some (.inl (w (s2 + 1))))) else some (.inr (.inr ()))
def p_X11_stableOffset (M : Mm) (a0 a1 : Int) : Option Int := (p_X11_highWatermark M a0 a1).bind fun r1 => (lp (b_X11_stableOffset_8 r1 M a0 a1) 1000 0).bind (Sum.elim some fun (t3 : Unit) => some (r1))
set_option maxRecDepth 100000 in
set_option maxHeartbeats 4000000 in
theorem xe_X11_stableOffset {D : Dt} {M : Mm} {a0 a1 : Int} (h0 : a0 ≠ 0) : XE D 0 mu_X11_stableOffset (EP 0 M) 0 [(0, (15, a0)), (1, (0, a1))] [] M (p_X11_stableOffset M a0 a1) := by
  unfold p_X11_stableOffset
  refine XE.go (st_aload_n (j := 0) (i := 0) (pc' := 1) (by decide +kernel) rfl rfl (by decide) rfl) ?_
  refine XE.go (st_iload_n (j := 1) (i := 1) (pc' := 2) (by decide +kernel) rfl rfl rfl) ?_
  refine XE.cP (pc' := 5) (st := []) (fun r hr => ct_X11_highWatermark h0 r hr) (fun r hr => run_V (st := []) (by decide +kernel) co_X11_stableOffset_224 (ct_X11_highWatermark h0 r hr) rfl h0 rfl rfl (Nat.le_of_ble_eq_true rfl)) rfl rfl (fun r1 => ?_)
  refine XE.go (st_istore_n (j := 2) (i := 2) (pc' := 6) (by decide +kernel) rfl rfl (by decide) rfl rfl) ?_
  refine XE.go (st_iconst (n := 0) (pc' := 7) (by decide +kernel) (w_eq (by decide) (by decide)) rfl) ?_
  refine XE.go (st_istore_n (j := 3) (i := 3) (pc' := 8) (by decide +kernel) rfl rfl (by decide) rfl rfl) ?_
  refine XE.pick [2, 3, 1, 0] (L' := [(0, (15, a0)), (1, (0, a1)), (2, (0, r1)), (3, (0, 0))]) rfl ?_
  refine XE.loopX (n := 1000) (s0 := 0) (pcL := 8) (pcE := 50) (LL := fun (s2 : Int) => [(0, (15, a0)), (1, (0, a1)), (2, (0, r1)), (3, (0, s2))]) (sL := fun _ => []) (ML := fun (s2 : Int) => M) (LE := fun (t3 : Unit) => [(2, (0, r1))]) (sE := fun _ => []) (ME := fun (t3 : Unit) => M) (fun kk21 hx20 hc18 he19 s2 => ?_) (fun t3 => ?_)
  · unfold b_X11_stableOffset_8
    refine XE.go (st_iload_n (j := 3) (i := 3) (pc' := 9) (by decide +kernel) rfl rfl rfl) ?_
    refine XE.go (st_iload_n (j := 2) (i := 2) (pc' := 10) (by decide +kernel) rfl rfl rfl) ?_
    refine XE.bite (fun h22 => ?_) (fun h23 => ?_)
    · refine XE.go (st_icmp_ge_f (off := 40) (pc' := 13) (by decide +kernel) 50 (by decide) rfl (Int.not_le.mpr h22)) ?_
      refine XE.go (st_aload_n (j := 0) (i := 0) (pc' := 14) (by decide +kernel) rfl rfl (by decide) rfl) ?_
      refine XE.go (st_get (pc' := 17) (by decide +kernel) rfl cls_11 fld_RX11_54 rfl rfl h0) ?_
      refine XE.go (st_bipush (n := 60) (pc' := 19) (by decide +kernel) (by decide) (w_eq (by decide) (by decide)) rfl) ?_
      refine XE.go (st_iload_n (j := 1) (i := 1) (pc' := 20) (by decide +kernel) rfl rfl rfl) ?_
      refine XE.go (st_imul (pc' := 21) (by decide +kernel) rfl) ?_
      refine XE.go (st_iload_n (j := 3) (i := 3) (pc' := 22) (by decide +kernel) rfl rfl rfl) ?_
      refine XE.go (st_iadd (pc' := 23) (by decide +kernel) rfl) ?_
      refine XE.gdb (fun g24 => ?_)
      refine XE.go (st_ald (k := 13) (tp := 0) (pc' := 24) (by decide +kernel) rfl ak_13 rfl (by decide) rfl (Or.inl ⟨rfl, rfl⟩) g24.1 g24.2.1 g24.2.2) ?_
      refine XE.asc ?_
      refine XE.gen (fun v25 e26 => ?_)
      refine XE.go (st_istore (j := 4) (pc' := 26) (by decide +kernel)  rfl (by decide) rfl rfl) ?_
      refine XE.go (st_iload (j := 4) (pc' := 28) (by decide +kernel) rfl rfl) ?_
      refine XE.bite (fun h27 => ?_) (fun h28 => ?_)
      · refine XE.go (st_if_lt_t (off := 16) (pc' := 44) (by decide +kernel) (by decide) h27) ?_
        refine XE.go (st_iinc (j := 3) (n := 1) (pc' := 47) (by decide +kernel) rfl rfl (by decide) rfl rfl) ?_
        refine XE.go (st_goto (off := (-39)) (pc' := 8) (by decide +kernel) (by decide)) ?_
        exact XE.pick [2, 3, 4, 0] rfl (hc18 (w (s2 + 1)))
      · refine XE.go (st_if_lt_f (off := 16) (pc' := 31) (by decide +kernel) 44 (by decide) rfl h28) ?_
        refine XE.go (st_aload_n (j := 0) (i := 0) (pc' := 32) (by decide +kernel) rfl rfl (by decide) rfl) ?_
        refine XE.go (st_get (pc' := 35) (by decide +kernel) rfl cls_11 fld_RX11_72 rfl rfl h0) ?_
        refine XE.go (st_iload (j := 4) (pc' := 37) (by decide +kernel) rfl rfl) ?_
        refine XE.gdb (fun g29 => ?_)
        refine XE.go (st_ald (k := 13) (tp := 0) (pc' := 38) (by decide +kernel) rfl ak_13 rfl (by decide) rfl (Or.inl ⟨rfl, rfl⟩) g29.1 g29.2.1 g29.2.2) ?_
        refine XE.go (st_iconst (n := 1) (pc' := 39) (by decide +kernel) (w_eq (by decide) (by decide)) rfl) ?_
        refine XE.bite (fun h30 => ?_) (fun h31 => ?_)
        · refine XE.go (st_icmp_ne_f (off := 5) (pc' := 42) (by decide +kernel) 44 (by decide) rfl (not_not_intro h30)) ?_
          refine XE.go (st_iload_n (j := 3) (i := 3) (pc' := 43) (by decide +kernel) rfl rfl rfl) ?_
          refine XE.cast (hx20 _) ?_
          exact XE.rt rfl (X_iret (by decide +kernel) rfl)
        · refine XE.go (st_icmp_ne_t (off := 5) (pc' := 44) (by decide +kernel) (by decide) h31) ?_
          refine XE.go (st_iinc (j := 3) (n := 1) (pc' := 47) (by decide +kernel) rfl rfl (by decide) rfl rfl) ?_
          refine XE.go (st_goto (off := (-39)) (pc' := 8) (by decide +kernel) (by decide)) ?_
          exact XE.pick [2, 3, 4, 0] rfl (hc18 (w (s2 + 1)))
    · refine XE.go (st_icmp_ge_t (off := 40) (pc' := 50) (by decide +kernel) (by decide) (Int.not_lt.mp h23)) ?_
      exact XE.pick [2] rfl (he19 ())
  · refine XE.go (st_iload_n (j := 2) (i := 2) (pc' := 51) (by decide +kernel) rfl rfl rfl) ?_
    exact XE.rt rfl (X_iret (by decide +kernel) rfl)
theorem ct_X11_stableOffset {D : Dt} {M : Mm} {a0 a1 : Int} (h0 : a0 ≠ 0) (r : Int) (hr : p_X11_stableOffset M a0 a1 = some r) : CT D 0 mu_X11_stableOffset [(15, a0), (0, a1)] M (.inl (some (0, r))) M := CT.of (by decide +kernel) rfl (Nat.le_of_ble_eq_true rfl) (xe_X11_stableOffset h0 r hr)
def p_X11_canRead (M : Mm) (a0 a1 : Int) : Option Int := gd (aok (rd M a0 24) a1) (if (rd M (rd M a0 24) a1) = 1 then gd (aok (rd M a0 26) a1) (gd (aok (rd M a0 21) a1) ((p_X11_stableOffset M a0 (rd M (rd M a0 21) a1)).bind fun r6 => if (rd M (rd M a0 26) a1) < r6 then gd (aok (rd M a0 25) a1) (if (rd M (rd M a0 25) a1) = 0 then some (1) else gd (aok (rd M a0 25) a1) (if (rd M (rd M a0 25) a1) = 2 then some (1) else some (0))) else some (0))) else some (0))
set_option maxRecDepth 100000 in
set_option maxHeartbeats 4000000 in
theorem xe_X11_canRead {D : Dt} {M : Mm} {a0 a1 : Int} (h0 : a0 ≠ 0) : XE D 0 mu_X11_canRead (EP 0 M) 0 [(0, (15, a0)), (1, (0, a1))] [] M (p_X11_canRead M a0 a1) := by
  unfold p_X11_canRead
  refine XE.go (st_aload_n (j := 0) (i := 0) (pc' := 1) (by decide +kernel) rfl rfl (by decide) rfl) ?_
  refine XE.go (st_get (pc' := 4) (by decide +kernel) rfl cls_11 fld_RX11_69 rfl rfl h0) ?_
  refine XE.go (st_iload_n (j := 1) (i := 1) (pc' := 5) (by decide +kernel) rfl rfl rfl) ?_
  refine XE.gd_ (fun g1 => ?_)
  refine XE.go (st_ald (k := 13) (tp := 0) (pc' := 6) (by decide +kernel) rfl ak_13 rfl (by decide) rfl (Or.inl ⟨rfl, rfl⟩) g1.1 g1.2.1 g1.2.2) ?_
  refine XE.go (st_iconst (n := 1) (pc' := 7) (by decide +kernel) (w_eq (by decide) (by decide)) rfl) ?_
  refine XE.ite (fun h2 => ?_) (fun h3 => ?_)
  · refine XE.go (st_icmp_ne_f (off := 45) (pc' := 10) (by decide +kernel) 52 (by decide) rfl (not_not_intro h2)) ?_
    refine XE.go (st_aload_n (j := 0) (i := 0) (pc' := 11) (by decide +kernel) rfl rfl (by decide) rfl) ?_
    refine XE.go (st_get (pc' := 14) (by decide +kernel) rfl cls_11 fld_RX11_75 rfl rfl h0) ?_
    refine XE.go (st_iload_n (j := 1) (i := 1) (pc' := 15) (by decide +kernel) rfl rfl rfl) ?_
    refine XE.gd_ (fun g4 => ?_)
    refine XE.go (st_ald (k := 13) (tp := 0) (pc' := 16) (by decide +kernel) rfl ak_13 rfl (by decide) rfl (Or.inl ⟨rfl, rfl⟩) g4.1 g4.2.1 g4.2.2) ?_
    refine XE.go (st_aload_n (j := 0) (i := 0) (pc' := 17) (by decide +kernel) rfl rfl (by decide) rfl) ?_
    refine XE.go (st_aload_n (j := 0) (i := 0) (pc' := 18) (by decide +kernel) rfl rfl (by decide) rfl) ?_
    refine XE.go (st_get (pc' := 21) (by decide +kernel) rfl cls_11 fld_RX11_60 rfl rfl h0) ?_
    refine XE.go (st_iload_n (j := 1) (i := 1) (pc' := 22) (by decide +kernel) rfl rfl rfl) ?_
    refine XE.gd_ (fun g5 => ?_)
    refine XE.go (st_ald (k := 13) (tp := 0) (pc' := 23) (by decide +kernel) rfl ak_13 rfl (by decide) rfl (Or.inl ⟨rfl, rfl⟩) g5.1 g5.2.1 g5.2.2) ?_
    refine XE.cP (pc' := 26) (st := [(0, (rd M (rd M a0 26) a1))]) (fun r hr => ct_X11_stableOffset h0 r hr) (fun r hr => run_V (st := [(0, (rd M (rd M a0 26) a1))]) (by decide +kernel) co_X11_canRead_227 (ct_X11_stableOffset h0 r hr) rfl h0 rfl rfl (Nat.le_of_ble_eq_true rfl)) rfl rfl (fun r6 => ?_)
    refine XE.ite (fun h7 => ?_) (fun h8 => ?_)
    · refine XE.go (st_icmp_ge_f (off := 26) (pc' := 29) (by decide +kernel) 52 (by decide) rfl (Int.not_le.mpr h7)) ?_
      refine XE.go (st_aload_n (j := 0) (i := 0) (pc' := 30) (by decide +kernel) rfl rfl (by decide) rfl) ?_
      refine XE.go (st_get (pc' := 33) (by decide +kernel) rfl cls_11 fld_RX11_72 rfl rfl h0) ?_
      refine XE.go (st_iload_n (j := 1) (i := 1) (pc' := 34) (by decide +kernel) rfl rfl rfl) ?_
      refine XE.gd_ (fun g9 => ?_)
      refine XE.go (st_ald (k := 13) (tp := 0) (pc' := 35) (by decide +kernel) rfl ak_13 rfl (by decide) rfl (Or.inl ⟨rfl, rfl⟩) g9.1 g9.2.1 g9.2.2) ?_
      refine XE.ite (fun h10 => ?_) (fun h11 => ?_)
      · refine XE.go (st_if_eq_t (off := 13) (pc' := 48) (by decide +kernel) (by decide) h10) ?_
        refine XE.go (st_iconst (n := 1) (pc' := 49) (by decide +kernel) (w_eq (by decide) (by decide)) rfl) ?_
        refine XE.go (st_goto (off := 4) (pc' := 53) (by decide +kernel) (by decide)) ?_
        exact XE.rt rfl (X_zret (by decide +kernel) rfl (by decide))
      · refine XE.go (st_if_eq_f (off := 13) (pc' := 38) (by decide +kernel) 48 (by decide) rfl h11) ?_
        refine XE.go (st_aload_n (j := 0) (i := 0) (pc' := 39) (by decide +kernel) rfl rfl (by decide) rfl) ?_
        refine XE.go (st_get (pc' := 42) (by decide +kernel) rfl cls_11 fld_RX11_72 rfl rfl h0) ?_
        refine XE.go (st_iload_n (j := 1) (i := 1) (pc' := 43) (by decide +kernel) rfl rfl rfl) ?_
        refine XE.gd_ (fun g12 => ?_)
        refine XE.go (st_ald (k := 13) (tp := 0) (pc' := 44) (by decide +kernel) rfl ak_13 rfl (by decide) rfl (Or.inl ⟨rfl, rfl⟩) g12.1 g12.2.1 g12.2.2) ?_
        refine XE.go (st_iconst (n := 2) (pc' := 45) (by decide +kernel) (w_eq (by decide) (by decide)) rfl) ?_
        refine XE.ite (fun h13 => ?_) (fun h14 => ?_)
        · refine XE.go (st_icmp_ne_f (off := 7) (pc' := 48) (by decide +kernel) 52 (by decide) rfl (not_not_intro h13)) ?_
          refine XE.go (st_iconst (n := 1) (pc' := 49) (by decide +kernel) (w_eq (by decide) (by decide)) rfl) ?_
          refine XE.go (st_goto (off := 4) (pc' := 53) (by decide +kernel) (by decide)) ?_
          exact XE.rt rfl (X_zret (by decide +kernel) rfl (by decide))
        · refine XE.go (st_icmp_ne_t (off := 7) (pc' := 52) (by decide +kernel) (by decide) h14) ?_
          refine XE.go (st_iconst (n := 0) (pc' := 53) (by decide +kernel) (w_eq (by decide) (by decide)) rfl) ?_
          exact XE.rt rfl (X_zret (by decide +kernel) rfl (by decide))
    · refine XE.go (st_icmp_ge_t (off := 26) (pc' := 52) (by decide +kernel) (by decide) (Int.not_lt.mp h8)) ?_
      refine XE.go (st_iconst (n := 0) (pc' := 53) (by decide +kernel) (w_eq (by decide) (by decide)) rfl) ?_
      exact XE.rt rfl (X_zret (by decide +kernel) rfl (by decide))
  · refine XE.go (st_icmp_ne_t (off := 45) (pc' := 52) (by decide +kernel) (by decide) h3) ?_
    refine XE.go (st_iconst (n := 0) (pc' := 53) (by decide +kernel) (w_eq (by decide) (by decide)) rfl) ?_
    exact XE.rt rfl (X_zret (by decide +kernel) rfl (by decide))
theorem ct_X11_canRead {D : Dt} {M : Mm} {a0 a1 : Int} (h0 : a0 ≠ 0) (r : Int) (hr : p_X11_canRead M a0 a1 = some r) : CT D 0 mu_X11_canRead [(15, a0), (0, a1)] M (.inl (some (0, r))) M := CT.of (by decide +kernel) rfl (Nat.le_of_ble_eq_true rfl) (xe_X11_canRead h0 r hr)
def p_X11_isStoredAt (M : Mm) (a0 a1 a2 : Int) : Option Int := gd (aok (rd M a0 18) (w ((w (60 * a1)) + a2))) ((some ((rd M (rd M a0 18) (w ((w (60 * a1)) + a2))))).bind fun v2 => if v2 < 0 then some (0) else gd (aok (rd M a0 24) v2) (if (rd M (rd M a0 24) v2) = 1 then some (1) else some (0)))
set_option maxRecDepth 100000 in
set_option maxHeartbeats 4000000 in
theorem xe_X11_isStoredAt {D : Dt} {M : Mm} {a0 a1 a2 : Int} (h0 : a0 ≠ 0) : XE D 0 mu_X11_isStoredAt (EP 0 M) 0 [(0, (15, a0)), (1, (0, a1)), (2, (0, a2))] [] M (p_X11_isStoredAt M a0 a1 a2) := by
  unfold p_X11_isStoredAt
  refine XE.go (st_aload_n (j := 0) (i := 0) (pc' := 1) (by decide +kernel) rfl rfl (by decide) rfl) ?_
  refine XE.go (st_get (pc' := 4) (by decide +kernel) rfl cls_11 fld_RX11_54 rfl rfl h0) ?_
  refine XE.go (st_bipush (n := 60) (pc' := 6) (by decide +kernel) (by decide) (w_eq (by decide) (by decide)) rfl) ?_
  refine XE.go (st_iload_n (j := 1) (i := 1) (pc' := 7) (by decide +kernel) rfl rfl rfl) ?_
  refine XE.go (st_imul (pc' := 8) (by decide +kernel) rfl) ?_
  refine XE.go (st_iload_n (j := 2) (i := 2) (pc' := 9) (by decide +kernel) rfl rfl rfl) ?_
  refine XE.go (st_iadd (pc' := 10) (by decide +kernel) rfl) ?_
  refine XE.gd_ (fun g1 => ?_)
  refine XE.go (st_ald (k := 13) (tp := 0) (pc' := 11) (by decide +kernel) rfl ak_13 rfl (by decide) rfl (Or.inl ⟨rfl, rfl⟩) g1.1 g1.2.1 g1.2.2) ?_
  refine XE.gen (fun v2 e3 => ?_)
  refine XE.go (st_istore_n (j := 3) (i := 3) (pc' := 12) (by decide +kernel) rfl rfl (by decide) rfl rfl) ?_
  refine XE.go (st_iload_n (j := 3) (i := 3) (pc' := 13) (by decide +kernel) rfl rfl rfl) ?_
  refine XE.ite (fun h4 => ?_) (fun h5 => ?_)
  · refine XE.go (st_if_lt_t (off := 17) (pc' := 30) (by decide +kernel) (by decide) h4) ?_
    refine XE.go (st_iconst (n := 0) (pc' := 31) (by decide +kernel) (w_eq (by decide) (by decide)) rfl) ?_
    exact XE.rt rfl (X_zret (by decide +kernel) rfl (by decide))
  · refine XE.go (st_if_lt_f (off := 17) (pc' := 16) (by decide +kernel) 30 (by decide) rfl h5) ?_
    refine XE.go (st_aload_n (j := 0) (i := 0) (pc' := 17) (by decide +kernel) rfl rfl (by decide) rfl) ?_
    refine XE.go (st_get (pc' := 20) (by decide +kernel) rfl cls_11 fld_RX11_69 rfl rfl h0) ?_
    refine XE.go (st_iload_n (j := 3) (i := 3) (pc' := 21) (by decide +kernel) rfl rfl rfl) ?_
    refine XE.gd_ (fun g6 => ?_)
    refine XE.go (st_ald (k := 13) (tp := 0) (pc' := 22) (by decide +kernel) rfl ak_13 rfl (by decide) rfl (Or.inl ⟨rfl, rfl⟩) g6.1 g6.2.1 g6.2.2) ?_
    refine XE.go (st_iconst (n := 1) (pc' := 23) (by decide +kernel) (w_eq (by decide) (by decide)) rfl) ?_
    refine XE.ite (fun h7 => ?_) (fun h8 => ?_)
    · refine XE.go (st_icmp_ne_f (off := 7) (pc' := 26) (by decide +kernel) 30 (by decide) rfl (not_not_intro h7)) ?_
      refine XE.go (st_iconst (n := 1) (pc' := 27) (by decide +kernel) (w_eq (by decide) (by decide)) rfl) ?_
      refine XE.go (st_goto (off := 4) (pc' := 31) (by decide +kernel) (by decide)) ?_
      exact XE.rt rfl (X_zret (by decide +kernel) rfl (by decide))
    · refine XE.go (st_icmp_ne_t (off := 7) (pc' := 30) (by decide +kernel) (by decide) h8) ?_
      refine XE.go (st_iconst (n := 0) (pc' := 31) (by decide +kernel) (w_eq (by decide) (by decide)) rfl) ?_
      exact XE.rt rfl (X_zret (by decide +kernel) rfl (by decide))
theorem ct_X11_isStoredAt {D : Dt} {M : Mm} {a0 a1 a2 : Int} (h0 : a0 ≠ 0) (r : Int) (hr : p_X11_isStoredAt M a0 a1 a2 = some r) : CT D 0 mu_X11_isStoredAt [(15, a0), (0, a1), (0, a2)] M (.inl (some (0, r))) M := CT.of (by decide +kernel) rfl (Nat.le_of_ble_eq_true rfl) (xe_X11_isStoredAt h0 r hr)
def b_X11_storedIn_4 (M : Mm) (a0 : Int) (a1 : Int) (s1 : Int × Int) : Option ((Int × Int) ⊕ (Int)) := if s1.2 < 60 then (p_X11_isStoredAt M a0 a1 s1.2).bind fun r9 => if r9 = 0 then (some ((w (s1.1 + 0)))).bind fun v12 => some (.inl (v12, (w (s1.2 + 1)))) else (some ((w (s1.1 + 1)))).bind fun v14 => some (.inl (v14, (w (s1.2 + 1)))) else some (.inr s1.1)
def p_X11_storedIn (M : Mm) (a0 a1 : Int) : Option Int := (lp (b_X11_storedIn_4 M a0 a1) 1000 (0, 0)).bind fun (t2 : Int) => some (t2)
set_option maxRecDepth 100000 in
set_option maxHeartbeats 4000000 in
theorem xe_X11_storedIn {D : Dt} {M : Mm} {a0 a1 : Int} (h0 : a0 ≠ 0) : XE D 0 mu_X11_storedIn (EP 0 M) 0 [(0, (15, a0)), (1, (0, a1))] [] M (p_X11_storedIn M a0 a1) := by
  unfold p_X11_storedIn
  refine XE.go (st_iconst (n := 0) (pc' := 1) (by decide +kernel) (w_eq (by decide) (by decide)) rfl) ?_
  refine XE.go (st_istore_n (j := 2) (i := 2) (pc' := 2) (by decide +kernel) rfl rfl (by decide) rfl rfl) ?_
  refine XE.go (st_iconst (n := 0) (pc' := 3) (by decide +kernel) (w_eq (by decide) (by decide)) rfl) ?_
  refine XE.go (st_istore_n (j := 3) (i := 3) (pc' := 4) (by decide +kernel) rfl rfl (by decide) rfl rfl) ?_
  refine XE.pick [2, 3, 1, 0] (L' := [(0, (15, a0)), (1, (0, a1)), (2, (0, 0)), (3, (0, 0))]) rfl ?_
  refine XE.loopJ (n := 1000) (s0 := (0, 0)) (pcL := 4) (pcE := 33) (LL := fun (s1 : Int × Int) => [(0, (15, a0)), (1, (0, a1)), (2, (0, s1.1)), (3, (0, s1.2))]) (sL := fun _ => []) (ML := fun (s1 : Int × Int) => M) (LE := fun (t2 : Int) => [(2, (0, t2))]) (sE := fun _ => []) (ME := fun (t2 : Int) => M) (fun kk6 hc3 he4 s1 => ?_) (fun t2 => ?_)
  · unfold b_X11_storedIn_4
    refine XE.go (st_iload_n (j := 3) (i := 3) (pc' := 5) (by decide +kernel) rfl rfl rfl) ?_
    refine XE.go (st_bipush (n := 60) (pc' := 7) (by decide +kernel) (by decide) (w_eq (by decide) (by decide)) rfl) ?_
    refine XE.bite (fun h7 => ?_) (fun h8 => ?_)
    · refine XE.go (st_icmp_ge_f (off := 26) (pc' := 10) (by decide +kernel) 33 (by decide) rfl (Int.not_le.mpr h7)) ?_
      refine XE.go (st_iload_n (j := 2) (i := 2) (pc' := 11) (by decide +kernel) rfl rfl rfl) ?_
      refine XE.go (st_aload_n (j := 0) (i := 0) (pc' := 12) (by decide +kernel) rfl rfl (by decide) rfl) ?_
      refine XE.go (st_iload_n (j := 1) (i := 1) (pc' := 13) (by decide +kernel) rfl rfl rfl) ?_
      refine XE.go (st_iload_n (j := 3) (i := 3) (pc' := 14) (by decide +kernel) rfl rfl rfl) ?_
      refine XE.asc ?_
      refine XE.cP (pc' := 17) (st := [(0, s1.1)]) (fun r hr => ct_X11_isStoredAt h0 r hr) (fun r hr => run_V (st := [(0, s1.1)]) (by decide +kernel) co_X11_storedIn_230 (ct_X11_isStoredAt h0 r hr) rfl h0 rfl rfl (Nat.le_of_ble_eq_true rfl)) rfl rfl (fun r9 => ?_)
      refine XE.bite (fun h10 => ?_) (fun h11 => ?_)
      · refine XE.go (st_if_eq_t (off := 7) (pc' := 24) (by decide +kernel) (by decide) h10) ?_
        refine XE.go (st_iconst (n := 0) (pc' := 25) (by decide +kernel) (w_eq (by decide) (by decide)) rfl) ?_
        refine XE.go (st_iadd (pc' := 26) (by decide +kernel) rfl) ?_
        refine XE.asc ?_
        refine XE.gen (fun v12 e13 => ?_)
        refine XE.go (st_istore_n (j := 2) (i := 2) (pc' := 27) (by decide +kernel) rfl rfl (by decide) rfl rfl) ?_
        refine XE.go (st_iinc (j := 3) (n := 1) (pc' := 30) (by decide +kernel) rfl rfl (by decide) rfl rfl) ?_
        refine XE.go (st_goto (off := (-26)) (pc' := 4) (by decide +kernel) (by decide)) ?_
        exact XE.pick [2, 3, 1, 0] rfl (hc3 (v12, (w (s1.2 + 1))))
      · refine XE.go (st_if_eq_f (off := 7) (pc' := 20) (by decide +kernel) 24 (by decide) rfl h11) ?_
        refine XE.go (st_iconst (n := 1) (pc' := 21) (by decide +kernel) (w_eq (by decide) (by decide)) rfl) ?_
        refine XE.go (st_goto (off := 4) (pc' := 25) (by decide +kernel) (by decide)) ?_
        refine XE.go (st_iadd (pc' := 26) (by decide +kernel) rfl) ?_
        refine XE.asc ?_
        refine XE.gen (fun v14 e15 => ?_)
        refine XE.go (st_istore_n (j := 2) (i := 2) (pc' := 27) (by decide +kernel) rfl rfl (by decide) rfl rfl) ?_
        refine XE.go (st_iinc (j := 3) (n := 1) (pc' := 30) (by decide +kernel) rfl rfl (by decide) rfl rfl) ?_
        refine XE.go (st_goto (off := (-26)) (pc' := 4) (by decide +kernel) (by decide)) ?_
        exact XE.pick [2, 3, 1, 0] rfl (hc3 (v14, (w (s1.2 + 1))))
    · refine XE.go (st_icmp_ge_t (off := 26) (pc' := 33) (by decide +kernel) (by decide) (Int.not_lt.mp h8)) ?_
      exact XE.pick [2] rfl (he4 s1.1)
  · refine XE.go (st_iload_n (j := 2) (i := 2) (pc' := 34) (by decide +kernel) rfl rfl rfl) ?_
    exact XE.rt rfl (X_iret (by decide +kernel) rfl)
theorem ct_X11_storedIn {D : Dt} {M : Mm} {a0 a1 : Int} (h0 : a0 ≠ 0) (r : Int) (hr : p_X11_storedIn M a0 a1 = some r) : CT D 0 mu_X11_storedIn [(15, a0), (0, a1)] M (.inl (some (0, r))) M := CT.of (by decide +kernel) rfl (Nat.le_of_ble_eq_true rfl) (xe_X11_storedIn h0 r hr)
def p_X11_append (M : Mm) (a0 a1 : Int) : Option Mm := gd (aok (rd M a0 21) a1) ((some ((rd M (rd M a0 21) a1))).bind fun v2 => (p_X11_endOfLog M a0 v2).bind fun r4 => gd (aok (rd M a0 18) (w ((w (60 * v2)) + r4))) ((some (wr M (rd M a0 18) (w ((w (60 * v2)) + r4)) a1)).bind fun M6 => gd (aok (rd M6 a0 24) a1) ((some (wr M6 (rd M6 a0 24) a1 1)).bind fun M8 => gd (aok (rd M8 a0 26) a1) ((some (wr M8 (rd M8 a0 26) a1 r4)).bind fun M10 => gd (aok (rd M10 a0 27) a1) ((some (wr M10 (rd M10 a0 27) a1 (rd M10 a0 1))).bind fun M12 => gd (aok (rd M12 a0 13) v2) (gd (aok (rd M12 a0 16) (w ((w (3 * v2)) + (rd M12 (rd M12 a0 13) v2)))) (gd (aok (rd M12 a0 16) (w ((w (3 * v2)) + (rd M12 (rd M12 a0 13) v2)))) ((some (wr M12 (rd M12 a0 16) (w ((w (3 * v2)) + (rd M12 (rd M12 a0 13) v2))) (w ((rd M12 (rd M12 a0 16) (w ((w (3 * v2)) + (rd M12 (rd M12 a0 13) v2)))) + 1)))).bind fun M16 => some (M16)))))))))
set_option maxRecDepth 100000 in
set_option maxHeartbeats 4000000 in
theorem xe_X11_append {D : Dt} {M : Mm} {a0 a1 : Int} (h0 : a0 ≠ 0) : XE D 0 mu_X11_append EV 0 [(0, (15, a0)), (1, (0, a1))] [] M (p_X11_append M a0 a1) := by
  unfold p_X11_append
  refine XE.go (st_aload_n (j := 0) (i := 0) (pc' := 1) (by decide +kernel) rfl rfl (by decide) rfl) ?_
  refine XE.go (st_get (pc' := 4) (by decide +kernel) rfl cls_11 fld_RX11_60 rfl rfl h0) ?_
  refine XE.go (st_iload_n (j := 1) (i := 1) (pc' := 5) (by decide +kernel) rfl rfl rfl) ?_
  refine XE.gd_ (fun g1 => ?_)
  refine XE.go (st_ald (k := 13) (tp := 0) (pc' := 6) (by decide +kernel) rfl ak_13 rfl (by decide) rfl (Or.inl ⟨rfl, rfl⟩) g1.1 g1.2.1 g1.2.2) ?_
  refine XE.gen (fun v2 e3 => ?_)
  refine XE.go (st_istore_n (j := 2) (i := 2) (pc' := 7) (by decide +kernel) rfl rfl (by decide) rfl rfl) ?_
  refine XE.go (st_aload_n (j := 0) (i := 0) (pc' := 8) (by decide +kernel) rfl rfl (by decide) rfl) ?_
  refine XE.go (st_iload_n (j := 2) (i := 2) (pc' := 9) (by decide +kernel) rfl rfl rfl) ?_
  refine XE.cP (pc' := 12) (st := []) (fun r hr => ct_X11_endOfLog h0 r hr) (fun r hr => run_V (st := []) (by decide +kernel) co_X11_append_233 (ct_X11_endOfLog h0 r hr) rfl h0 rfl rfl (Nat.le_of_ble_eq_true rfl)) rfl rfl (fun r4 => ?_)
  refine XE.go (st_istore_n (j := 3) (i := 3) (pc' := 13) (by decide +kernel) rfl rfl (by decide) rfl rfl) ?_
  refine XE.go (st_aload_n (j := 0) (i := 0) (pc' := 14) (by decide +kernel) rfl rfl (by decide) rfl) ?_
  refine XE.go (st_get (pc' := 17) (by decide +kernel) rfl cls_11 fld_RX11_54 rfl rfl h0) ?_
  refine XE.go (st_bipush (n := 60) (pc' := 19) (by decide +kernel) (by decide) (w_eq (by decide) (by decide)) rfl) ?_
  refine XE.go (st_iload_n (j := 2) (i := 2) (pc' := 20) (by decide +kernel) rfl rfl rfl) ?_
  refine XE.go (st_imul (pc' := 21) (by decide +kernel) rfl) ?_
  refine XE.go (st_iload_n (j := 3) (i := 3) (pc' := 22) (by decide +kernel) rfl rfl rfl) ?_
  refine XE.go (st_iadd (pc' := 23) (by decide +kernel) rfl) ?_
  refine XE.go (st_iload_n (j := 1) (i := 1) (pc' := 24) (by decide +kernel) rfl rfl rfl) ?_
  refine XE.gd_ (fun g5 => ?_)
  refine XE.goM (st_ast (k := 13) (tp := 0) (pc' := 25) (by decide +kernel) rfl ak_13 rfl (by decide) rfl (Or.inl ⟨rfl, rfl, rfl, rfl⟩) g5.1 g5.2.1 g5.2.2) (fun M6 => ?_)
  refine XE.go (st_aload_n (j := 0) (i := 0) (pc' := 26) (by decide +kernel) rfl rfl (by decide) rfl) ?_
  refine XE.go (st_get (pc' := 29) (by decide +kernel) rfl cls_11 fld_RX11_69 rfl rfl h0) ?_
  refine XE.go (st_iload_n (j := 1) (i := 1) (pc' := 30) (by decide +kernel) rfl rfl rfl) ?_
  refine XE.go (st_iconst (n := 1) (pc' := 31) (by decide +kernel) (w_eq (by decide) (by decide)) rfl) ?_
  refine XE.gd_ (fun g7 => ?_)
  refine XE.goM (st_ast (k := 13) (tp := 0) (pc' := 32) (by decide +kernel) rfl ak_13 rfl (by decide) rfl (Or.inl ⟨rfl, rfl, rfl, rfl⟩) g7.1 g7.2.1 g7.2.2) (fun M8 => ?_)
  refine XE.go (st_aload_n (j := 0) (i := 0) (pc' := 33) (by decide +kernel) rfl rfl (by decide) rfl) ?_
  refine XE.go (st_get (pc' := 36) (by decide +kernel) rfl cls_11 fld_RX11_75 rfl rfl h0) ?_
  refine XE.go (st_iload_n (j := 1) (i := 1) (pc' := 37) (by decide +kernel) rfl rfl rfl) ?_
  refine XE.go (st_iload_n (j := 3) (i := 3) (pc' := 38) (by decide +kernel) rfl rfl rfl) ?_
  refine XE.gd_ (fun g9 => ?_)
  refine XE.goM (st_ast (k := 13) (tp := 0) (pc' := 39) (by decide +kernel) rfl ak_13 rfl (by decide) rfl (Or.inl ⟨rfl, rfl, rfl, rfl⟩) g9.1 g9.2.1 g9.2.2) (fun M10 => ?_)
  refine XE.go (st_aload_n (j := 0) (i := 0) (pc' := 40) (by decide +kernel) rfl rfl (by decide) rfl) ?_
  refine XE.go (st_get (pc' := 43) (by decide +kernel) rfl cls_11 fld_RX11_78 rfl rfl h0) ?_
  refine XE.go (st_iload_n (j := 1) (i := 1) (pc' := 44) (by decide +kernel) rfl rfl rfl) ?_
  refine XE.go (st_aload_n (j := 0) (i := 0) (pc' := 45) (by decide +kernel) rfl rfl (by decide) rfl) ?_
  refine XE.go (st_get (pc' := 48) (by decide +kernel) rfl cls_11 fld_RX11_236 rfl rfl h0) ?_
  refine XE.gd_ (fun g11 => ?_)
  refine XE.goM (st_ast (k := 13) (tp := 0) (pc' := 49) (by decide +kernel) rfl ak_13 rfl (by decide) rfl (Or.inl ⟨rfl, rfl, rfl, rfl⟩) g11.1 g11.2.1 g11.2.2) (fun M12 => ?_)
  refine XE.go (st_aload_n (j := 0) (i := 0) (pc' := 50) (by decide +kernel) rfl rfl (by decide) rfl) ?_
  refine XE.go (st_get (pc' := 53) (by decide +kernel) rfl cls_11 fld_RX11_48 rfl rfl h0) ?_
  refine XE.go (st_iconst (n := 3) (pc' := 54) (by decide +kernel) (w_eq (by decide) (by decide)) rfl) ?_
  refine XE.go (st_iload_n (j := 2) (i := 2) (pc' := 55) (by decide +kernel) rfl rfl rfl) ?_
  refine XE.go (st_imul (pc' := 56) (by decide +kernel) rfl) ?_
  refine XE.go (st_aload_n (j := 0) (i := 0) (pc' := 57) (by decide +kernel) rfl rfl (by decide) rfl) ?_
  refine XE.go (st_get (pc' := 60) (by decide +kernel) rfl cls_11 fld_RX11_39 rfl rfl h0) ?_
  refine XE.go (st_iload_n (j := 2) (i := 2) (pc' := 61) (by decide +kernel) rfl rfl rfl) ?_
  refine XE.gd_ (fun g13 => ?_)
  refine XE.go (st_ald (k := 13) (tp := 0) (pc' := 62) (by decide +kernel) rfl ak_13 rfl (by decide) rfl (Or.inl ⟨rfl, rfl⟩) g13.1 g13.2.1 g13.2.2) ?_
  refine XE.go (st_iadd (pc' := 63) (by decide +kernel) rfl) ?_
  refine XE.go (st_dup2 (pc' := 64) (by decide +kernel) rfl rfl rfl) ?_
  refine XE.gd_ (fun g14 => ?_)
  refine XE.go (st_ald (k := 13) (tp := 0) (pc' := 65) (by decide +kernel) rfl ak_13 rfl (by decide) rfl (Or.inl ⟨rfl, rfl⟩) g14.1 g14.2.1 g14.2.2) ?_
  refine XE.go (st_iconst (n := 1) (pc' := 66) (by decide +kernel) (w_eq (by decide) (by decide)) rfl) ?_
  refine XE.go (st_iadd (pc' := 67) (by decide +kernel) rfl) ?_
  refine XE.gd_ (fun g15 => ?_)
  refine XE.goM (st_ast (k := 13) (tp := 0) (pc' := 68) (by decide +kernel) rfl ak_13 rfl (by decide) rfl (Or.inl ⟨rfl, rfl, rfl, rfl⟩) g15.1 g15.2.1 g15.2.2) (fun M16 => ?_)
  exact XE.rt rfl (X_vret (by decide +kernel) rfl)
theorem ct_X11_append {D : Dt} {M : Mm} {a0 a1 : Int} (h0 : a0 ≠ 0) (r : Mm) (hr : p_X11_append M a0 a1 = some r) : CT D 0 mu_X11_append [(15, a0), (0, a1)] M (.inl none) r := CT.of (by decide +kernel) rfl (Nat.le_of_ble_eq_true rfl) (xe_X11_append h0 r hr)
