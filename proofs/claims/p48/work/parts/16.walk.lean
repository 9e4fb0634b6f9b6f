def p_X1_waitsOrIsDead (M : Mm) (a0 : Int) : Option Int := if (rd M a0 1) = 1 then some (1) else if (rd M a0 1) = 3 then some (1) else some (0)
set_option maxRecDepth 100000 in
set_option maxHeartbeats 4000000 in
theorem xe_X1_waitsOrIsDead {D : Dt} {M : Mm} {a0 : Int} (h0 : a0 ≠ 0) : XE D 0 mu_X1_waitsOrIsDead (EP 0 M) 0 [(0, (5, a0))] [] M (p_X1_waitsOrIsDead M a0) := by
  unfold p_X1_waitsOrIsDead
  refine XE.go (st_aload_n (j := 0) (i := 0) (pc' := 1) (by decide +kernel) rfl rfl (by decide) rfl) ?_
  refine XE.go (st_get (pc' := 4) (by decide +kernel) rfl cls_1 fld_RX1_9 rfl rfl h0) ?_
  refine XE.go (st_iconst (n := 1) (pc' := 5) (by decide +kernel) (w_eq (by decide) (by decide)) rfl) ?_
  refine XE.ite (fun h1 => ?_) (fun h2 => ?_)
  · refine XE.go (st_icmp_eq_t (off := 11) (pc' := 16) (by decide +kernel) (by decide) h1) ?_
    refine XE.go (st_iconst (n := 1) (pc' := 17) (by decide +kernel) (w_eq (by decide) (by decide)) rfl) ?_
    refine XE.go (st_goto (off := 4) (pc' := 21) (by decide +kernel) (by decide)) ?_
    exact XE.rt rfl (X_zret (by decide +kernel) rfl (by decide))
  · refine XE.go (st_icmp_eq_f (off := 11) (pc' := 8) (by decide +kernel) 16 (by decide) rfl h2) ?_
    refine XE.go (st_aload_n (j := 0) (i := 0) (pc' := 9) (by decide +kernel) rfl rfl (by decide) rfl) ?_
    refine XE.go (st_get (pc' := 12) (by decide +kernel) rfl cls_1 fld_RX1_9 rfl rfl h0) ?_
    refine XE.go (st_iconst (n := 3) (pc' := 13) (by decide +kernel) (w_eq (by decide) (by decide)) rfl) ?_
    refine XE.ite (fun h3 => ?_) (fun h4 => ?_)
    · refine XE.go (st_icmp_ne_f (off := 7) (pc' := 16) (by decide +kernel) 20 (by decide) rfl (not_not_intro h3)) ?_
      refine XE.go (st_iconst (n := 1) (pc' := 17) (by decide +kernel) (w_eq (by decide) (by decide)) rfl) ?_
      refine XE.go (st_goto (off := 4) (pc' := 21) (by decide +kernel) (by decide)) ?_
      exact XE.rt rfl (X_zret (by decide +kernel) rfl (by decide))
    · refine XE.go (st_icmp_ne_t (off := 7) (pc' := 20) (by decide +kernel) (by decide) h4) ?_
      refine XE.go (st_iconst (n := 0) (pc' := 21) (by decide +kernel) (w_eq (by decide) (by decide)) rfl) ?_
      exact XE.rt rfl (X_zret (by decide +kernel) rfl (by decide))
theorem ct_X1_waitsOrIsDead {D : Dt} {M : Mm} {a0 : Int} (h0 : a0 ≠ 0) (r : Int) (hr : p_X1_waitsOrIsDead M a0 = some r) : CT D 0 mu_X1_waitsOrIsDead [(5, a0)] M (.inl (some (0, r))) M := CT.of (by decide +kernel) rfl (Nat.le_of_ble_eq_true rfl) (xe_X1_waitsOrIsDead h0 r hr)
def b_X0_lag_16 (r3 : Int) (M : Mm) (a1 : Int) (a0 : Int) (s6 : Int × Int) : Option ((Int × Int) ⊕ (Int)) := if s6.2 < r3 then (p_X5_readableAt M (rd M a1 0) s6.2 r3).bind fun r14 => (if r14 = 0 then some (0) else (p_X0_knownLetter M a0 r14).bind fun r21 => some (r21) : Option (Int)).bind fun (s15 : Int) => if r14 = 0 then some (.inl (s6.1, (w (s6.2 + 1)))) else if s15 = 0 then some (.inl ((w (s6.1 + 1)), (w (s6.2 + 1)))) else (p_X1_waitsOrIsDead M s15).bind fun r26 => if r26 = 0 then some (.inl ((w (s6.1 + 1)), (w (s6.2 + 1)))) else some (.inl (s6.1, (w (s6.2 + 1)))) else some (.inr s6.1)
def p_X0_lag (M : Mm) (a0 a1 : Int) : Option Int := gd (a1 ≠ 0) (gd ((rd M a1 0) ≠ 0) ((p_X5_stableOffset M (rd M a1 0)).bind fun r3 => (some ((rd M a1 3))).bind fun v4 => (lp (b_X0_lag_16 r3 M a1 a0) 1000 (0, v4)).bind fun (t7 : Int) => some (t7)))
set_option maxRecDepth 100000 in
set_option maxHeartbeats 4000000 in
theorem xe_X0_lag {D : Dt} {M : Mm} {a0 a1 : Int} (h0 : a0 ≠ 0) : XE D 0 mu_X0_lag (EP 0 M) 0 [(0, (4, a0)), (1, (12, a1))] [] M (p_X0_lag M a0 a1) := by
  unfold p_X0_lag
  refine XE.go (st_aload_n (j := 1) (i := 1) (pc' := 1) (by decide +kernel) rfl rfl (by decide) rfl) ?_
  refine XE.gd_ (fun g1 => ?_)
  refine XE.go (st_get (pc' := 4) (by decide +kernel) rfl cls_8 fld_RX0_130 rfl rfl g1) ?_
  refine XE.gd_ (fun g2 => ?_)
  refine XE.cP (pc' := 7) (st := []) (fun r hr => ct_X5_stableOffset g2 r hr) (fun r hr => run_V (st := []) (by decide +kernel) co_X0_lag_215 (ct_X5_stableOffset g2 r hr) rfl g2 rfl rfl (Nat.le_of_ble_eq_true rfl)) rfl rfl (fun r3 => ?_)
  refine XE.go (st_istore_n (j := 2) (i := 2) (pc' := 8) (by decide +kernel) rfl rfl (by decide) rfl rfl) ?_
  refine XE.go (st_iconst (n := 0) (pc' := 9) (by decide +kernel) (w_eq (by decide) (by decide)) rfl) ?_
  refine XE.go (st_istore_n (j := 3) (i := 3) (pc' := 10) (by decide +kernel) rfl rfl (by decide) rfl rfl) ?_
  refine XE.go (st_aload_n (j := 1) (i := 1) (pc' := 11) (by decide +kernel) rfl rfl (by decide) rfl) ?_
  refine XE.go (st_get (pc' := 14) (by decide +kernel) rfl cls_8 fld_RX0_127 rfl rfl g1) ?_
  refine XE.gen (fun v4 e5 => ?_)
  refine XE.go (st_istore (j := 4) (pc' := 16) (by decide +kernel)  rfl (by decide) rfl rfl) ?_
  refine XE.pick [3, 4, 2, 1, 0] (L' := [(0, (4, a0)), (1, (12, a1)), (2, (0, r3)), (3, (0, 0)), (4, (0, v4))]) rfl ?_
  refine XE.loopJ (n := 1000) (s0 := (0, v4)) (pcL := 16) (pcE := 78) (LL := fun (s6 : Int × Int) => [(0, (4, a0)), (1, (12, a1)), (2, (0, r3)), (3, (0, s6.1)), (4, (0, s6.2))]) (sL := fun _ => []) (ML := fun (s6 : Int × Int) => M) (LE := fun (t7 : Int) => [(3, (0, t7))]) (sE := fun _ => []) (ME := fun (t7 : Int) => M) (fun kk11 hc8 he9 s6 => ?_) (fun t7 => ?_)
  · unfold b_X0_lag_16
    refine XE.go (st_iload (j := 4) (pc' := 18) (by decide +kernel) rfl rfl) ?_
    refine XE.go (st_iload_n (j := 2) (i := 2) (pc' := 19) (by decide +kernel) rfl rfl rfl) ?_
    refine XE.bite (fun h12 => ?_) (fun h13 => ?_)
    · refine XE.go (st_icmp_ge_f (off := 59) (pc' := 22) (by decide +kernel) 78 (by decide) rfl (Int.not_le.mpr h12)) ?_
      refine XE.go (st_aload_n (j := 1) (i := 1) (pc' := 23) (by decide +kernel) rfl rfl (by decide) rfl) ?_
      refine XE.go (st_get (pc' := 26) (by decide +kernel) rfl cls_8 fld_RX0_130 rfl rfl g1) ?_
      refine XE.go (st_iload (j := 4) (pc' := 28) (by decide +kernel) rfl rfl) ?_
      refine XE.go (st_iload_n (j := 2) (i := 2) (pc' := 29) (by decide +kernel) rfl rfl rfl) ?_
      refine XE.asc ?_
      refine XE.cP (pc' := 32) (st := []) (fun r hr => ct_X5_readableAt g2 r hr) (fun r hr => run_V (st := []) (by decide +kernel) co_X0_lag_218 (ct_X5_readableAt g2 r hr) rfl g2 rfl rfl (Nat.le_of_ble_eq_true rfl)) rfl rfl (fun r14 => ?_)
      refine XE.go (st_astore (j := 5) (pc' := 34) (by decide +kernel)  (by decide) rfl (by decide) rfl rfl) ?_
      refine XE.go (st_aload (j := 5) (pc' := 36) (by decide +kernel) rfl (by decide) rfl) ?_
      refine XE.asc ?_
      refine XE.join (pcJ := 49) (LJ := fun (s15 : Int) => [(0, (4, a0)), (1, (12, a1)), (2, (0, r3)), (3, (0, s6.1)), (4, (0, s6.2)), (5, (8, r14))]) (sJ := fun (s15 : Int) => [(5, s15)]) (MJ := fun (s15 : Int) => M) (fun kk18 hk16 => ?_) (fun s15 => ?_)
      · refine XE.bite (fun h19 => ?_) (fun h20 => ?_)
        · refine XE.go (st_ifnonnull_f (off := 7) (pc' := 39) (by decide +kernel) (by decide) h19 rfl) ?_
          refine XE.go (st_null (t := 5) (pc' := 40) (by decide +kernel) (by decide) rfl) ?_
          refine XE.go (st_goto (off := 9) (pc' := 49) (by decide +kernel) (by decide)) ?_
          exact XE.pick [1, 2, 3, 4, 5, 0] rfl (hk16 0)
        · refine XE.go (st_ifnonnull_t (off := 7) (pc' := 43) (by decide +kernel) (by decide) h20 (by decide)) ?_
          refine XE.go (st_aload_n (j := 0) (i := 0) (pc' := 44) (by decide +kernel) rfl rfl (by decide) rfl) ?_
          refine XE.go (st_aload (j := 5) (pc' := 46) (by decide +kernel) rfl (by decide) rfl) ?_
          refine XE.asc ?_
          refine XE.cP (pc' := 49) (st := []) (fun r hr => ct_X0_knownLetter h0 r hr) (fun r hr => run_V (st := []) (by decide +kernel) co_X0_lag_68 (ct_X0_knownLetter h0 r hr) rfl h0 rfl rfl (Nat.le_of_ble_eq_true rfl)) rfl rfl (fun r21 => ?_)
          exact XE.pick [1, 2, 3, 4, 5, 0] rfl (hk16 r21)
      · refine XE.go (st_astore (j := 6) (pc' := 51) (by decide +kernel)  (by decide) rfl (by decide) rfl rfl) ?_
        refine XE.go (st_aload (j := 5) (pc' := 53) (by decide +kernel) rfl (by decide) rfl) ?_
        refine XE.bite (fun h22 => ?_) (fun h23 => ?_)
        · refine XE.go (st_ifnull_t (off := 19) (pc' := 72) (by decide +kernel) (by decide) h22 (by decide)) ?_
          refine XE.go (st_iinc (j := 4) (n := 1) (pc' := 75) (by decide +kernel) rfl rfl (by decide) rfl rfl) ?_
          refine XE.go (st_goto (off := (-59)) (pc' := 16) (by decide +kernel) (by decide)) ?_
          exact XE.pick [2, 3, 4, 5, 0] rfl (hc8 (s6.1, (w (s6.2 + 1))))
        · refine XE.go (st_ifnull_f (off := 19) (pc' := 56) (by decide +kernel) (by decide) h23 rfl) ?_
          refine XE.go (st_aload (j := 6) (pc' := 58) (by decide +kernel) rfl (by decide) rfl) ?_
          refine XE.bite (fun h24 => ?_) (fun h25 => ?_)
          · refine XE.go (st_ifnull_t (off := 11) (pc' := 69) (by decide +kernel) (by decide) h24 (by decide)) ?_
            refine XE.go (st_iinc (j := 3) (n := 1) (pc' := 72) (by decide +kernel) rfl rfl (by decide) rfl rfl) ?_
            refine XE.go (st_iinc (j := 4) (n := 1) (pc' := 75) (by decide +kernel) rfl rfl (by decide) rfl rfl) ?_
            refine XE.go (st_goto (off := (-59)) (pc' := 16) (by decide +kernel) (by decide)) ?_
            exact XE.pick [3, 4, 5, 1, 0] rfl (hc8 ((w (s6.1 + 1)), (w (s6.2 + 1))))
          · refine XE.go (st_ifnull_f (off := 11) (pc' := 61) (by decide +kernel) (by decide) h25 rfl) ?_
            refine XE.go (st_aload (j := 6) (pc' := 63) (by decide +kernel) rfl (by decide) rfl) ?_
            refine XE.asc ?_
            refine XE.cP (pc' := 66) (st := []) (fun r hr => ct_X1_waitsOrIsDead h25 r hr) (fun r hr => run_V (st := []) (by decide +kernel) co_X0_lag_249 (ct_X1_waitsOrIsDead h25 r hr) rfl h25 rfl rfl (Nat.le_of_ble_eq_true rfl)) rfl rfl (fun r26 => ?_)
            refine XE.bite (fun h27 => ?_) (fun h28 => ?_)
            · refine XE.go (st_if_ne_f (off := 6) (pc' := 69) (by decide +kernel) 72 (by decide) rfl (not_not_intro h27)) ?_
              refine XE.go (st_iinc (j := 3) (n := 1) (pc' := 72) (by decide +kernel) rfl rfl (by decide) rfl rfl) ?_
              refine XE.go (st_iinc (j := 4) (n := 1) (pc' := 75) (by decide +kernel) rfl rfl (by decide) rfl rfl) ?_
              refine XE.go (st_goto (off := (-59)) (pc' := 16) (by decide +kernel) (by decide)) ?_
              exact XE.pick [3, 4, 5, 1, 0] rfl (hc8 ((w (s6.1 + 1)), (w (s6.2 + 1))))
            · refine XE.go (st_if_ne_t (off := 6) (pc' := 72) (by decide +kernel) (by decide) h28) ?_
              refine XE.go (st_iinc (j := 4) (n := 1) (pc' := 75) (by decide +kernel) rfl rfl (by decide) rfl rfl) ?_
              refine XE.go (st_goto (off := (-59)) (pc' := 16) (by decide +kernel) (by decide)) ?_
              exact XE.pick [2, 3, 4, 5, 0] rfl (hc8 (s6.1, (w (s6.2 + 1))))
    · refine XE.go (st_icmp_ge_t (off := 59) (pc' := 78) (by decide +kernel) (by decide) (Int.not_lt.mp h13)) ?_
      exact XE.pick [3] rfl (he9 s6.1)
  · refine XE.go (st_iload_n (j := 3) (i := 3) (pc' := 79) (by decide +kernel) rfl rfl rfl) ?_
    exact XE.rt rfl (X_iret (by decide +kernel) rfl)
theorem ct_X0_lag {D : Dt} {M : Mm} {a0 a1 : Int} (h0 : a0 ≠ 0) (r : Int) (hr : p_X0_lag M a0 a1 = some r) : CT D 0 mu_X0_lag [(4, a0), (12, a1)] M (.inl (some (0, r))) M := CT.of (by decide +kernel) rfl (Nat.le_of_ble_eq_true rfl) (xe_X0_lag h0 r hr)
def b_X2_countOf_4 (M : Mm) (a0 : Int) (a1 : Int) (s1 : Int × Int) : Option ((Int × Int) ⊕ (Int)) := if s1.2 < (rd M a0 1) then (p_X2_get M a0 s1.2).bind fun r9 => if r9 = 0 then some (.inl (s1.1, (w (s1.2 + 1)))) else gd ((rd M r9 0) ≠ 0) (if (rd M (rd M r9 0) 2) = a1 then some (.inl ((w (s1.1 + 1)), (w (s1.2 + 1)))) else some (.inl (s1.1, (w (s1.2 + 1))))) else some (.inr s1.1)
def p_X2_countOf (M : Mm) (a0 a1 : Int) : Option Int := (lp (b_X2_countOf_4 M a0 a1) 1000 (0, 0)).bind fun (t2 : Int) => some (t2)
set_option maxRecDepth 100000 in
set_option maxHeartbeats 4000000 in
theorem xe_X2_countOf {D : Dt} {M : Mm} {a0 a1 : Int} (h0 : a0 ≠ 0) : XE D 0 mu_X2_countOf (EP 0 M) 0 [(0, (6, a0)), (1, (9, a1))] [] M (p_X2_countOf M a0 a1) := by
  unfold p_X2_countOf
  refine XE.go (st_iconst (n := 0) (pc' := 1) (by decide +kernel) (w_eq (by decide) (by decide)) rfl) ?_
  refine XE.go (st_istore_n (j := 2) (i := 2) (pc' := 2) (by decide +kernel) rfl rfl (by decide) rfl rfl) ?_
  refine XE.go (st_iconst (n := 0) (pc' := 3) (by decide +kernel) (w_eq (by decide) (by decide)) rfl) ?_
  refine XE.go (st_istore_n (j := 3) (i := 3) (pc' := 4) (by decide +kernel) rfl rfl (by decide) rfl rfl) ?_
  refine XE.pick [2, 3, 1, 0] (L' := [(0, (6, a0)), (1, (9, a1)), (2, (0, 0)), (3, (0, 0))]) rfl ?_
  refine XE.loopJ (n := 1000) (s0 := (0, 0)) (pcL := 4) (pcE := 45) (LL := fun (s1 : Int × Int) => [(0, (6, a0)), (1, (9, a1)), (2, (0, s1.1)), (3, (0, s1.2))]) (sL := fun _ => []) (ML := fun (s1 : Int × Int) => M) (LE := fun (t2 : Int) => [(2, (0, t2))]) (sE := fun _ => []) (ME := fun (t2 : Int) => M) (fun kk6 hc3 he4 s1 => ?_) (fun t2 => ?_)
  · unfold b_X2_countOf_4
    refine XE.go (st_iload_n (j := 3) (i := 3) (pc' := 5) (by decide +kernel) rfl rfl rfl) ?_
    refine XE.go (st_aload_n (j := 0) (i := 0) (pc' := 6) (by decide +kernel) rfl rfl (by decide) rfl) ?_
    refine XE.go (st_get (pc' := 9) (by decide +kernel) rfl cls_2 fld_RX2_7 rfl rfl h0) ?_
    refine XE.bite (fun h7 => ?_) (fun h8 => ?_)
    · refine XE.go (st_icmp_ge_f (off := 36) (pc' := 12) (by decide +kernel) 45 (by decide) rfl (Int.not_le.mpr h7)) ?_
      refine XE.go (st_aload_n (j := 0) (i := 0) (pc' := 13) (by decide +kernel) rfl rfl (by decide) rfl) ?_
      refine XE.go (st_iload_n (j := 3) (i := 3) (pc' := 14) (by decide +kernel) rfl rfl rfl) ?_
      refine XE.asc ?_
      refine XE.cP (pc' := 17) (st := []) (fun r hr => ct_X2_get h0 r hr) (fun r hr => run_V (st := []) (by decide +kernel) co_X2_countOf_19 (ct_X2_get h0 r hr) rfl h0 rfl rfl (Nat.le_of_ble_eq_true rfl)) rfl rfl (fun r9 => ?_)
      refine XE.go (st_astore (j := 4) (pc' := 19) (by decide +kernel)  (by decide) rfl (by decide) rfl rfl) ?_
      refine XE.go (st_aload (j := 4) (pc' := 21) (by decide +kernel) rfl (by decide) rfl) ?_
      refine XE.bite (fun h10 => ?_) (fun h11 => ?_)
      · refine XE.go (st_ifnull_t (off := 18) (pc' := 39) (by decide +kernel) (by decide) h10 (by decide)) ?_
        refine XE.go (st_iinc (j := 3) (n := 1) (pc' := 42) (by decide +kernel) rfl rfl (by decide) rfl rfl) ?_
        refine XE.go (st_goto (off := (-38)) (pc' := 4) (by decide +kernel) (by decide)) ?_
        exact XE.pick [2, 3, 4, 0] rfl (hc3 (s1.1, (w (s1.2 + 1))))
      · refine XE.go (st_ifnull_f (off := 18) (pc' := 24) (by decide +kernel) (by decide) h11 rfl) ?_
        refine XE.go (st_aload (j := 4) (pc' := 26) (by decide +kernel) rfl (by decide) rfl) ?_
        refine XE.go (st_get (pc' := 29) (by decide +kernel) rfl cls_1 fld_RX2_23 rfl rfl h11) ?_
        refine XE.gdb (fun g12 => ?_)
        refine XE.go (st_get (pc' := 32) (by decide +kernel) rfl cls_4 fld_RX2_36 rfl rfl g12) ?_
        refine XE.go (st_aload_n (j := 1) (i := 1) (pc' := 33) (by decide +kernel) rfl rfl (by decide) rfl) ?_
        refine XE.bite (fun h13 => ?_) (fun h14 => ?_)
        · refine XE.go (st_acmp_ne_f (off := 6) (pc' := 36) (by decide +kernel) 39 (by decide) (by decide) (by decide) h13 rfl) ?_
          refine XE.go (st_iinc (j := 2) (n := 1) (pc' := 39) (by decide +kernel) rfl rfl (by decide) rfl rfl) ?_
          refine XE.go (st_iinc (j := 3) (n := 1) (pc' := 42) (by decide +kernel) rfl rfl (by decide) rfl rfl) ?_
          refine XE.go (st_goto (off := (-38)) (pc' := 4) (by decide +kernel) (by decide)) ?_
          exact XE.pick [3, 4, 1, 0] rfl (hc3 ((w (s1.1 + 1)), (w (s1.2 + 1))))
        · refine XE.go (st_acmp_ne_t (off := 6) (pc' := 39) (by decide +kernel) (by decide) (by decide) h14 (by decide)) ?_
          refine XE.go (st_iinc (j := 3) (n := 1) (pc' := 42) (by decide +kernel) rfl rfl (by decide) rfl rfl) ?_
          refine XE.go (st_goto (off := (-38)) (pc' := 4) (by decide +kernel) (by decide)) ?_
          exact XE.pick [2, 3, 4, 0] rfl (hc3 (s1.1, (w (s1.2 + 1))))
    · refine XE.go (st_icmp_ge_t (off := 36) (pc' := 45) (by decide +kernel) (by decide) (Int.not_lt.mp h8)) ?_
      exact XE.pick [2] rfl (he4 s1.1)
  · refine XE.go (st_iload_n (j := 2) (i := 2) (pc' := 46) (by decide +kernel) rfl rfl rfl) ?_
    exact XE.rt rfl (X_iret (by decide +kernel) rfl)
theorem ct_X2_countOf {D : Dt} {M : Mm} {a0 a1 : Int} (h0 : a0 ≠ 0) (r : Int) (hr : p_X2_countOf M a0 a1 = some r) : CT D 0 mu_X2_countOf [(6, a0), (9, a1)] M (.inl (some (0, r))) M := CT.of (by decide +kernel) rfl (Nat.le_of_ble_eq_true rfl) (xe_X2_countOf h0 r hr)
def p_X10_tellShare (M : Mm) (a0 a1 a2 : Int) : Option Int := if a2 = 0 then gd (a1 ≠ 0) (if (rd M a1 1) = 0 then some ((-1)) else some ((rd M (rd M a1 1) 0))) else if a2 = 1 then gd (a1 ≠ 0) (if (rd M a1 2) = 0 then some ((-1)) else some ((rd M (rd M a1 2) 0))) else if a2 = 2 then gd (a1 ≠ 0) (some ((rd M a1 3))) else if a2 = 3 then gd (a1 ≠ 0) (if (rd M a1 1) = 0 then some ((-1)) else some ((rd M a1 4))) else if a2 = 4 then gd (a0 ≠ 0) ((p_X0_lag M a0 a1).bind fun r22 => some (r22)) else if a2 = 5 then gd (a0 ≠ 0) (gd (a1 ≠ 0) (gd ((rd M a0 3) ≠ 0) ((p_X2_countOf M (rd M a0 3) (rd M a1 0)).bind fun r28 => some (r28)))) else gd (a0 ≠ 0) (gd (a1 ≠ 0) (gd ((rd M a0 4) ≠ 0) ((p_X2_countOf M (rd M a0 4) (rd M a1 0)).bind fun r32 => some (r32))))
set_option maxRecDepth 100000 in
set_option maxHeartbeats 4000000 in
theorem xe_X10_tellShare {D : Dt} {M : Mm} {a0 a1 a2 : Int} : XE D 0 mu_X10_tellShare (EP 0 M) 0 [(0, (4, a0)), (1, (12, a1)), (2, (0, a2))] [] M (p_X10_tellShare M a0 a1 a2) := by
  unfold p_X10_tellShare
  refine XE.go (st_iload_n (j := 2) (i := 2) (pc' := 1) (by decide +kernel) rfl rfl rfl) ?_
  refine XE.ite (fun h1 => ?_) (fun h2 => ?_)
  · refine XE.go (st_tab_in (dflt := 116) (lo := 0) (hi := 5) (offs := #[39, 58, 77, 82, 98, 104]) (len := 39) (off := 39) (pc' := 40) (by decide +kernel) 0 h1 (by decide) (by decide) (by decide) (by decide)) ?_
    refine XE.go (st_aload_n (j := 1) (i := 1) (pc' := 41) (by decide +kernel) rfl rfl (by decide) rfl) ?_
    refine XE.gd_ (fun g3 => ?_)
    refine XE.go (st_get (pc' := 44) (by decide +kernel) rfl cls_8 fld_RX10_451 rfl rfl g3) ?_
    refine XE.ite (fun h4 => ?_) (fun h5 => ?_)
    · refine XE.go (st_ifnonnull_f (off := 7) (pc' := 47) (by decide +kernel) (by decide) h4 rfl) ?_
      refine XE.go (st_iconst (n := (-1)) (pc' := 48) (by decide +kernel) (w_eq (by decide) (by decide)) rfl) ?_
      refine XE.go (st_goto (off := 10) (pc' := 58) (by decide +kernel) (by decide)) ?_
      exact XE.rt rfl (X_iret (by decide +kernel) rfl)
    · refine XE.go (st_ifnonnull_t (off := 7) (pc' := 51) (by decide +kernel) (by decide) h5 (by decide)) ?_
      refine XE.go (st_aload_n (j := 1) (i := 1) (pc' := 52) (by decide +kernel) rfl rfl (by decide) rfl) ?_
      refine XE.go (st_get (pc' := 55) (by decide +kernel) rfl cls_8 fld_RX10_451 rfl rfl g3) ?_
      refine XE.go (st_get (pc' := 58) (by decide +kernel) rfl cls_3 fld_RX10_507 rfl rfl h5) ?_
      exact XE.rt rfl (X_iret (by decide +kernel) rfl)
  refine XE.ite (fun h6 => ?_) (fun h7 => ?_)
  · refine XE.go (st_tab_in (dflt := 116) (lo := 0) (hi := 5) (offs := #[39, 58, 77, 82, 98, 104]) (len := 39) (off := 58) (pc' := 59) (by decide +kernel) 1 h6 (by decide) (by decide) (by decide) (by decide)) ?_
    refine XE.go (st_aload_n (j := 1) (i := 1) (pc' := 60) (by decide +kernel) rfl rfl (by decide) rfl) ?_
    refine XE.gd_ (fun g8 => ?_)
    refine XE.go (st_get (pc' := 63) (by decide +kernel) rfl cls_8 fld_RX10_508 rfl rfl g8) ?_
    refine XE.ite (fun h9 => ?_) (fun h10 => ?_)
    · refine XE.go (st_ifnonnull_f (off := 7) (pc' := 66) (by decide +kernel) (by decide) h9 rfl) ?_
      refine XE.go (st_iconst (n := (-1)) (pc' := 67) (by decide +kernel) (w_eq (by decide) (by decide)) rfl) ?_
      refine XE.go (st_goto (off := 10) (pc' := 77) (by decide +kernel) (by decide)) ?_
      exact XE.rt rfl (X_iret (by decide +kernel) rfl)
    · refine XE.go (st_ifnonnull_t (off := 7) (pc' := 70) (by decide +kernel) (by decide) h10 (by decide)) ?_
      refine XE.go (st_aload_n (j := 1) (i := 1) (pc' := 71) (by decide +kernel) rfl rfl (by decide) rfl) ?_
      refine XE.go (st_get (pc' := 74) (by decide +kernel) rfl cls_8 fld_RX10_508 rfl rfl g8) ?_
      refine XE.go (st_get (pc' := 77) (by decide +kernel) rfl cls_3 fld_RX10_507 rfl rfl h10) ?_
      exact XE.rt rfl (X_iret (by decide +kernel) rfl)
  refine XE.ite (fun h11 => ?_) (fun h12 => ?_)
  · refine XE.go (st_tab_in (dflt := 116) (lo := 0) (hi := 5) (offs := #[39, 58, 77, 82, 98, 104]) (len := 39) (off := 77) (pc' := 78) (by decide +kernel) 2 h11 (by decide) (by decide) (by decide) (by decide)) ?_
    refine XE.go (st_aload_n (j := 1) (i := 1) (pc' := 79) (by decide +kernel) rfl rfl (by decide) rfl) ?_
    refine XE.gd_ (fun g13 => ?_)
    refine XE.go (st_get (pc' := 82) (by decide +kernel) rfl cls_8 fld_RX10_459 rfl rfl g13) ?_
    exact XE.rt rfl (X_iret (by decide +kernel) rfl)
  refine XE.ite (fun h14 => ?_) (fun h15 => ?_)
  · refine XE.go (st_tab_in (dflt := 116) (lo := 0) (hi := 5) (offs := #[39, 58, 77, 82, 98, 104]) (len := 39) (off := 82) (pc' := 83) (by decide +kernel) 3 h14 (by decide) (by decide) (by decide) (by decide)) ?_
    refine XE.go (st_aload_n (j := 1) (i := 1) (pc' := 84) (by decide +kernel) rfl rfl (by decide) rfl) ?_
    refine XE.gd_ (fun g16 => ?_)
    refine XE.go (st_get (pc' := 87) (by decide +kernel) rfl cls_8 fld_RX10_451 rfl rfl g16) ?_
    refine XE.ite (fun h17 => ?_) (fun h18 => ?_)
    · refine XE.go (st_ifnonnull_f (off := 7) (pc' := 90) (by decide +kernel) (by decide) h17 rfl) ?_
      refine XE.go (st_iconst (n := (-1)) (pc' := 91) (by decide +kernel) (w_eq (by decide) (by decide)) rfl) ?_
      refine XE.go (st_goto (off := 7) (pc' := 98) (by decide +kernel) (by decide)) ?_
      exact XE.rt rfl (X_iret (by decide +kernel) rfl)
    · refine XE.go (st_ifnonnull_t (off := 7) (pc' := 94) (by decide +kernel) (by decide) h18 (by decide)) ?_
      refine XE.go (st_aload_n (j := 1) (i := 1) (pc' := 95) (by decide +kernel) rfl rfl (by decide) rfl) ?_
      refine XE.go (st_get (pc' := 98) (by decide +kernel) rfl cls_8 fld_RX10_511 rfl rfl g16) ?_
      exact XE.rt rfl (X_iret (by decide +kernel) rfl)
  refine XE.ite (fun h19 => ?_) (fun h20 => ?_)
  · refine XE.go (st_tab_in (dflt := 116) (lo := 0) (hi := 5) (offs := #[39, 58, 77, 82, 98, 104]) (len := 39) (off := 98) (pc' := 99) (by decide +kernel) 4 h19 (by decide) (by decide) (by decide) (by decide)) ?_
    refine XE.go (st_aload_n (j := 0) (i := 0) (pc' := 100) (by decide +kernel) rfl rfl (by decide) rfl) ?_
    refine XE.go (st_aload_n (j := 1) (i := 1) (pc' := 101) (by decide +kernel) rfl rfl (by decide) rfl) ?_
    refine XE.gd_ (fun g21 => ?_)
    refine XE.cP (pc' := 104) (st := []) (fun r hr => ct_X0_lag g21 r hr) (fun r hr => run_V (st := []) (by decide +kernel) co_X10_tellShare_514 (ct_X0_lag g21 r hr) rfl g21 rfl rfl (Nat.le_of_ble_eq_true rfl)) rfl rfl (fun r22 => ?_)
    exact XE.rt rfl (X_iret (by decide +kernel) rfl)
  refine XE.ite (fun h23 => ?_) (fun h24 => ?_)
  · refine XE.go (st_tab_in (dflt := 116) (lo := 0) (hi := 5) (offs := #[39, 58, 77, 82, 98, 104]) (len := 39) (off := 104) (pc' := 105) (by decide +kernel) 5 h23 (by decide) (by decide) (by decide) (by decide)) ?_
    refine XE.go (st_aload_n (j := 0) (i := 0) (pc' := 106) (by decide +kernel) rfl rfl (by decide) rfl) ?_
    refine XE.gd_ (fun g25 => ?_)
    refine XE.go (st_get (pc' := 109) (by decide +kernel) rfl cls_0 fld_RX10_518 rfl rfl g25) ?_
    refine XE.go (st_aload_n (j := 1) (i := 1) (pc' := 110) (by decide +kernel) rfl rfl (by decide) rfl) ?_
    refine XE.gd_ (fun g26 => ?_)
    refine XE.go (st_get (pc' := 113) (by decide +kernel) rfl cls_8 fld_RX10_465 rfl rfl g26) ?_
    refine XE.gd_ (fun g27 => ?_)
    refine XE.cP (pc' := 116) (st := []) (fun r hr => ct_X2_countOf g27 r hr) (fun r hr => run_V (st := []) (by decide +kernel) co_X10_tellShare_521 (ct_X2_countOf g27 r hr) rfl g27 rfl rfl (Nat.le_of_ble_eq_true rfl)) rfl rfl (fun r28 => ?_)
    exact XE.rt rfl (X_iret (by decide +kernel) rfl)
  refine XE.go (st_tab_out (dflt := 116) (lo := 0) (hi := 5) (offs := #[39, 58, 77, 82, 98, 104]) (len := 39) (pc' := 117) (by decide +kernel) (by omega) (by decide)) ?_
  refine XE.go (st_aload_n (j := 0) (i := 0) (pc' := 118) (by decide +kernel) rfl rfl (by decide) rfl) ?_
  refine XE.gd_ (fun g29 => ?_)
  refine XE.go (st_get (pc' := 121) (by decide +kernel) rfl cls_0 fld_RX10_525 rfl rfl g29) ?_
  refine XE.go (st_aload_n (j := 1) (i := 1) (pc' := 122) (by decide +kernel) rfl rfl (by decide) rfl) ?_
  refine XE.gd_ (fun g30 => ?_)
  refine XE.go (st_get (pc' := 125) (by decide +kernel) rfl cls_8 fld_RX10_465 rfl rfl g30) ?_
  refine XE.gd_ (fun g31 => ?_)
  refine XE.cP (pc' := 128) (st := []) (fun r hr => ct_X2_countOf g31 r hr) (fun r hr => run_V (st := []) (by decide +kernel) co_X10_tellShare_521 (ct_X2_countOf g31 r hr) rfl g31 rfl rfl (Nat.le_of_ble_eq_true rfl)) rfl rfl (fun r32 => ?_)
  exact XE.rt rfl (X_iret (by decide +kernel) rfl)
theorem ct_X10_tellShare {D : Dt} {M : Mm} {a0 a1 a2 : Int} (r : Int) (hr : p_X10_tellShare M a0 a1 a2 = some r) : CT D 0 mu_X10_tellShare [(4, a0), (12, a1), (0, a2)] M (.inl (some (0, r))) M := CT.of (by decide +kernel) rfl (Nat.le_of_ble_eq_true rfl) (xe_X10_tellShare r hr)
def p_X10_share (M : Mm) (a0 a1 a2 a3 : Int) : Option (Int × Int × Mm) := (p_X10_groupOf M a0 a1).bind (thT psT fun v1 M2 => (p_X10_shareOf M2 v1 a2).bind (thT psT fun v3 M4 => (p_X10_requireWithin M4 a3 0 6).bind (thU psT fun M5 => (p_X10_tellShare M5 v1 v3 a3).bind fun r6 => some (0, r6, M5))))
set_option maxRecDepth 100000 in
set_option maxHeartbeats 4000000 in
theorem xe_X10_share {D : Dt} {M : Mm} {a0 a1 a2 a3 : Int} (h0 : a0 ≠ 0) : XE D 0 mu_X10_share (ET 0) 0 [(0, (14, a0)), (1, (0, a1)), (2, (0, a2)), (3, (0, a3))] [] M (p_X10_share M a0 a1 a2 a3) := by
  unfold p_X10_share
  refine XE.go (st_aload_n (j := 0) (i := 0) (pc' := 1) (by decide +kernel) rfl rfl (by decide) rfl) ?_
  refine XE.go (st_iload_n (j := 1) (i := 1) (pc' := 2) (by decide +kernel) rfl rfl rfl) ?_
  refine XE.cTg (pc' := 5) (st := []) hfT (fun r hr => ct_X10_groupOf h0 r hr) (fun r hr => run_V (st := []) (by decide +kernel) co_X10_share_334 (ct_X10_groupOf h0 r hr) rfl h0 rfl rfl (Nat.le_of_ble_eq_true rfl)) rfl rfl rfl (fun v1 M2 => ?_)
  refine XE.go (st_astore (j := 4) (pc' := 7) (by decide +kernel)  (by decide) rfl (by decide) rfl rfl) ?_
  refine XE.go (st_aload (j := 4) (pc' := 9) (by decide +kernel) rfl (by decide) rfl) ?_
  refine XE.go (st_iload_n (j := 2) (i := 2) (pc' := 10) (by decide +kernel) rfl rfl rfl) ?_
  refine XE.cTg (pc' := 13) (st := []) hfT (fun r hr => ct_X10_shareOf r hr) (fun r hr => run_S (st := []) (by decide +kernel) co_X10_share_447 (ct_X10_shareOf r hr) rfl rfl (Nat.le_of_ble_eq_true rfl)) rfl rfl rfl (fun v3 M4 => ?_)
  refine XE.go (st_astore (j := 5) (pc' := 15) (by decide +kernel)  (by decide) rfl (by decide) rfl rfl) ?_
  refine XE.go (st_iload_n (j := 3) (i := 3) (pc' := 16) (by decide +kernel) rfl rfl rfl) ?_
  refine XE.go (st_iconst (n := 0) (pc' := 17) (by decide +kernel) (w_eq (by decide) (by decide)) rfl) ?_
  refine XE.go (st_bipush (n := 6) (pc' := 19) (by decide +kernel) (by decide) (w_eq (by decide) (by decide)) rfl) ?_
  refine XE.cUg (pc' := 22) (st := []) hfT (fun r hr => ct_X10_requireWithin r hr) (fun r hr => run_S (st := []) (by decide +kernel) co_X10_share_73 (ct_X10_requireWithin r hr) rfl rfl (Nat.le_of_ble_eq_true rfl)) rfl rfl rfl (fun M5 => ?_)
  refine XE.go (st_aload (j := 4) (pc' := 24) (by decide +kernel) rfl (by decide) rfl) ?_
  refine XE.go (st_aload (j := 5) (pc' := 26) (by decide +kernel) rfl (by decide) rfl) ?_
  refine XE.go (st_iload_n (j := 3) (i := 3) (pc' := 27) (by decide +kernel) rfl rfl rfl) ?_
  refine XE.cP (pc' := 30) (st := []) (fun r hr => ct_X10_tellShare r hr) (fun r hr => run_S (st := []) (by decide +kernel) co_X10_share_503 (ct_X10_tellShare r hr) rfl rfl (Nat.le_of_ble_eq_true rfl)) rfl rfl (fun r6 => ?_)
  exact XE.rt rfl (X_iret (by decide +kernel) rfl)
theorem ct_X10_share {D : Dt} {M : Mm} {a0 a1 a2 a3 : Int} (h0 : a0 ≠ 0) (r : (Int × Int × Mm)) (hr : p_X10_share M a0 a1 a2 a3 = some r) : CT D 0 mu_X10_share [(14, a0), (0, a1), (0, a2), (0, a3)] M (ET 0 r).1 (ET 0 r).2 := CT.of (by decide +kernel) rfl (Nat.le_of_ble_eq_true rfl) (xe_X10_share h0 r hr)
def p_X10_member (M : Mm) (a0 a1 a2 a3 : Int) : Option (Int × Int × Mm) := (p_X10_groupOf M a0 a1).bind (thT psT fun v1 M2 => (p_X10_memberOf M2 v1 a2).bind (thT psT fun v3 M4 => (p_X10_requireWithin M4 a3 0 4).bind (thU psT fun M5 => if a3 = 0 then gd (v1 ≠ 0) ((p_X0_ownedCount M5 v1 v3).bind fun r9 => some (0, r9, M5)) else if a3 = 1 then gd (v1 ≠ 0) ((p_X0_targetCount M5 v1 v3).bind fun r13 => some (0, r13, M5)) else if a3 = 2 then gd (v3 ≠ 0) (some (0, (rd M5 v3 3), M5)) else if a3 = 3 then gd (v3 ≠ 0) (gd ((rd M5 v3 1) ≠ 0) (some (0, (rd M5 (rd M5 v3 1) 1), M5))) else gd (v3 ≠ 0) (some (0, (rd M5 v3 2), M5)))))
set_option maxRecDepth 100000 in
set_option maxHeartbeats 4000000 in
theorem xe_X10_member {D : Dt} {M : Mm} {a0 a1 a2 a3 : Int} (h0 : a0 ≠ 0) : XE D 0 mu_X10_member (ET 0) 0 [(0, (14, a0)), (1, (0, a1)), (2, (0, a2)), (3, (0, a3))] [] M (p_X10_member M a0 a1 a2 a3) := by
  unfold p_X10_member
  refine XE.go (st_aload_n (j := 0) (i := 0) (pc' := 1) (by decide +kernel) rfl rfl (by decide) rfl) ?_
  refine XE.go (st_iload_n (j := 1) (i := 1) (pc' := 2) (by decide +kernel) rfl rfl rfl) ?_
  refine XE.cTg (pc' := 5) (st := []) hfT (fun r hr => ct_X10_groupOf h0 r hr) (fun r hr => run_V (st := []) (by decide +kernel) co_X10_member_334 (ct_X10_groupOf h0 r hr) rfl h0 rfl rfl (Nat.le_of_ble_eq_true rfl)) rfl rfl rfl (fun v1 M2 => ?_)
  refine XE.go (st_astore (j := 4) (pc' := 7) (by decide +kernel)  (by decide) rfl (by decide) rfl rfl) ?_
  refine XE.go (st_aload (j := 4) (pc' := 9) (by decide +kernel) rfl (by decide) rfl) ?_
  refine XE.go (st_iload_n (j := 2) (i := 2) (pc' := 10) (by decide +kernel) rfl rfl rfl) ?_
  refine XE.cTg (pc' := 13) (st := []) hfT (fun r hr => ct_X10_memberOf r hr) (fun r hr => run_S (st := []) (by decide +kernel) co_X10_member_338 (ct_X10_memberOf r hr) rfl rfl (Nat.le_of_ble_eq_true rfl)) rfl rfl rfl (fun v3 M4 => ?_)
  refine XE.go (st_astore (j := 5) (pc' := 15) (by decide +kernel)  (by decide) rfl (by decide) rfl rfl) ?_
  refine XE.go (st_iload_n (j := 3) (i := 3) (pc' := 16) (by decide +kernel) rfl rfl rfl) ?_
  refine XE.go (st_iconst (n := 0) (pc' := 17) (by decide +kernel) (w_eq (by decide) (by decide)) rfl) ?_
  refine XE.go (st_iconst (n := 4) (pc' := 18) (by decide +kernel) (w_eq (by decide) (by decide)) rfl) ?_
  refine XE.cUg (pc' := 21) (st := []) hfT (fun r hr => ct_X10_requireWithin r hr) (fun r hr => run_S (st := []) (by decide +kernel) co_X10_member_73 (ct_X10_requireWithin r hr) rfl rfl (Nat.le_of_ble_eq_true rfl)) rfl rfl rfl (fun M5 => ?_)
  refine XE.go (st_iload_n (j := 3) (i := 3) (pc' := 22) (by decide +kernel) rfl rfl rfl) ?_
  refine XE.ite (fun h6 => ?_) (fun h7 => ?_)
  · refine XE.go (st_tab_in (dflt := 61) (lo := 0) (hi := 3) (offs := #[30, 38, 46, 52]) (len := 30) (off := 30) (pc' := 52) (by decide +kernel) 0 h6 (by decide) (by decide) (by decide) (by decide)) ?_
    refine XE.go (st_aload (j := 4) (pc' := 54) (by decide +kernel) rfl (by decide) rfl) ?_
    refine XE.go (st_aload (j := 5) (pc' := 56) (by decide +kernel) rfl (by decide) rfl) ?_
    refine XE.gd_ (fun g8 => ?_)
    refine XE.cP (pc' := 59) (st := []) (fun r hr => ct_X0_ownedCount g8 r hr) (fun r hr => run_V (st := []) (by decide +kernel) co_X10_member_404 (ct_X0_ownedCount g8 r hr) rfl g8 rfl rfl (Nat.le_of_ble_eq_true rfl)) rfl rfl (fun r9 => ?_)
    exact XE.rt rfl (X_iret (by decide +kernel) rfl)
  refine XE.ite (fun h10 => ?_) (fun h11 => ?_)
  · refine XE.go (st_tab_in (dflt := 61) (lo := 0) (hi := 3) (offs := #[30, 38, 46, 52]) (len := 30) (off := 38) (pc' := 60) (by decide +kernel) 1 h10 (by decide) (by decide) (by decide) (by decide)) ?_
    refine XE.go (st_aload (j := 4) (pc' := 62) (by decide +kernel) rfl (by decide) rfl) ?_
    refine XE.go (st_aload (j := 5) (pc' := 64) (by decide +kernel) rfl (by decide) rfl) ?_
    refine XE.gd_ (fun g12 => ?_)
    refine XE.cP (pc' := 67) (st := []) (fun r hr => ct_X0_targetCount g12 r hr) (fun r hr => run_V (st := []) (by decide +kernel) co_X10_member_528 (ct_X0_targetCount g12 r hr) rfl g12 rfl rfl (Nat.le_of_ble_eq_true rfl)) rfl rfl (fun r13 => ?_)
    exact XE.rt rfl (X_iret (by decide +kernel) rfl)
  refine XE.ite (fun h14 => ?_) (fun h15 => ?_)
  · refine XE.go (st_tab_in (dflt := 61) (lo := 0) (hi := 3) (offs := #[30, 38, 46, 52]) (len := 30) (off := 46) (pc' := 68) (by decide +kernel) 2 h14 (by decide) (by decide) (by decide) (by decide)) ?_
    refine XE.go (st_aload (j := 5) (pc' := 70) (by decide +kernel) rfl (by decide) rfl) ?_
    refine XE.gd_ (fun g16 => ?_)
    refine XE.go (st_get (pc' := 73) (by decide +kernel) rfl cls_3 fld_RX10_417 rfl rfl g16) ?_
    exact XE.rt rfl (X_iret (by decide +kernel) rfl)
  refine XE.ite (fun h17 => ?_) (fun h18 => ?_)
  · refine XE.go (st_tab_in (dflt := 61) (lo := 0) (hi := 3) (offs := #[30, 38, 46, 52]) (len := 30) (off := 52) (pc' := 74) (by decide +kernel) 3 h17 (by decide) (by decide) (by decide) (by decide)) ?_
    refine XE.go (st_aload (j := 5) (pc' := 76) (by decide +kernel) rfl (by decide) rfl) ?_
    refine XE.gd_ (fun g19 => ?_)
    refine XE.go (st_get (pc' := 79) (by decide +kernel) rfl cls_3 fld_RX10_408 rfl rfl g19) ?_
    refine XE.gd_ (fun g20 => ?_)
    refine XE.go (st_get (pc' := 82) (by decide +kernel) rfl cls_2 fld_RX10_412 rfl rfl g20) ?_
    exact XE.rt rfl (X_iret (by decide +kernel) rfl)
  refine XE.go (st_tab_out (dflt := 61) (lo := 0) (hi := 3) (offs := #[30, 38, 46, 52]) (len := 30) (pc' := 83) (by decide +kernel) (by omega) (by decide)) ?_
  refine XE.go (st_aload (j := 5) (pc' := 85) (by decide +kernel) rfl (by decide) rfl) ?_
  refine XE.gd_ (fun g21 => ?_)
  refine XE.go (st_get (pc' := 88) (by decide +kernel) rfl cls_3 fld_RX10_395 rfl rfl g21) ?_
  exact XE.rt rfl (X_iret (by decide +kernel) rfl)
theorem ct_X10_member {D : Dt} {M : Mm} {a0 a1 a2 a3 : Int} (h0 : a0 ≠ 0) (r : (Int × Int × Mm)) (hr : p_X10_member M a0 a1 a2 a3 = some r) : CT D 0 mu_X10_member [(14, a0), (0, a1), (0, a2), (0, a3)] M (ET 0 r).1 (ET 0 r).2 := CT.of (by decide +kernel) rfl (Nat.le_of_ble_eq_true rfl) (xe_X10_member h0 r hr)
def p_X10_letterAt (M : Mm) (a0 a1 : Int) : Option (Int × Int × Mm) := gd (a0 ≠ 0) ((p_X2_get M a0 a1).bind fun r2 => if r2 = 0 then psT 1 0 (thr M) else some (0, r2, M))
set_option maxRecDepth 100000 in
set_option maxHeartbeats 4000000 in
theorem xe_X10_letterAt {D : Dt} {M : Mm} {a0 a1 : Int} : XE D 0 mu_X10_letterAt (ET 5) 0 [(0, (6, a0)), (1, (0, a1))] [] M (p_X10_letterAt M a0 a1) := by
  unfold p_X10_letterAt
  refine XE.go (st_aload_n (j := 0) (i := 0) (pc' := 1) (by decide +kernel) rfl rfl (by decide) rfl) ?_
  refine XE.go (st_iload_n (j := 1) (i := 1) (pc' := 2) (by decide +kernel) rfl rfl rfl) ?_
  refine XE.gd_ (fun g1 => ?_)
  refine XE.cP (pc' := 5) (st := []) (fun r hr => ct_X2_get g1 r hr) (fun r hr => run_V (st := []) (by decide +kernel) co_X10_letterAt_651 (ct_X2_get g1 r hr) rfl g1 rfl rfl (Nat.le_of_ble_eq_true rfl)) rfl rfl (fun r2 => ?_)
  refine XE.go (st_astore_n (j := 2) (i := 2) (pc' := 6) (by decide +kernel) rfl (by decide) rfl (by decide) rfl rfl) ?_
  refine XE.go (st_aload_n (j := 2) (i := 2) (pc' := 7) (by decide +kernel) rfl rfl (by decide) rfl) ?_
  refine XE.ite (fun h3 => ?_) (fun h4 => ?_)
  · refine XE.go (st_ifnonnull_f (off := 14) (pc' := 10) (by decide +kernel) (by decide) h3 rfl) ?_
    exact XE.thrTW (by decide +kernel) (by decide +kernel) (by decide +kernel) (by decide +kernel) (by decide +kernel) thr_RX10_655 rfl (by decide) (by decide) (by decide)
  · refine XE.go (st_ifnonnull_t (off := 14) (pc' := 21) (by decide +kernel) (by decide) h4 (by decide)) ?_
    refine XE.go (st_aload_n (j := 2) (i := 2) (pc' := 22) (by decide +kernel) rfl rfl (by decide) rfl) ?_
    exact XE.rt rfl (X_aret (by decide +kernel) rfl (Or.inl ⟨_, rfl⟩) (by decide))
theorem ct_X10_letterAt {D : Dt} {M : Mm} {a0 a1 : Int} (r : (Int × Int × Mm)) (hr : p_X10_letterAt M a0 a1 = some r) : CT D 0 mu_X10_letterAt [(6, a0), (0, a1)] M (ET 5 r).1 (ET 5 r).2 := CT.of (by decide +kernel) rfl (Nat.le_of_ble_eq_true rfl) (xe_X10_letterAt r hr)
def p_X10_hand (M : Mm) (a0 a1 a2 a3 a4 : Int) : Option (Int × Int × Mm) := (p_X10_groupOf M a0 a1).bind (thT psT fun v1 M2 => (p_X10_memberOf M2 v1 a2).bind (thT psT fun v3 M4 => gd (v3 ≠ 0) ((p_X10_letterAt M4 (rd M4 v3 1) a3).bind (thT psT fun v6 M7 => (p_X10_requireWithin M7 a4 0 2).bind (thU psT fun M8 => if a4 = 0 then gd (v6 ≠ 0) (gd ((rd M8 v6 0) ≠ 0) (some (0, (rd M8 (rd M8 v6 0) 0), M8))) else if a4 = 1 then gd (v6 ≠ 0) (some (0, (rd M8 v6 3), M8)) else gd (v6 ≠ 0) (if (rd M8 v6 4) = 0 then some (0, 0, M8) else some (0, 1, M8)))))))
set_option maxRecDepth 100000 in
set_option maxHeartbeats 4000000 in
theorem xe_X10_hand {D : Dt} {M : Mm} {a0 a1 a2 a3 a4 : Int} (h0 : a0 ≠ 0) : XE D 0 mu_X10_hand (ET 0) 0 [(0, (14, a0)), (1, (0, a1)), (2, (0, a2)), (3, (0, a3)), (4, (0, a4))] [] M (p_X10_hand M a0 a1 a2 a3 a4) := by
  unfold p_X10_hand
  refine XE.go (st_aload_n (j := 0) (i := 0) (pc' := 1) (by decide +kernel) rfl rfl (by decide) rfl) ?_
  refine XE.go (st_iload_n (j := 1) (i := 1) (pc' := 2) (by decide +kernel) rfl rfl rfl) ?_
  refine XE.cTg (pc' := 5) (st := []) hfT (fun r hr => ct_X10_groupOf h0 r hr) (fun r hr => run_V (st := []) (by decide +kernel) co_X10_hand_334 (ct_X10_groupOf h0 r hr) rfl h0 rfl rfl (Nat.le_of_ble_eq_true rfl)) rfl rfl rfl (fun v1 M2 => ?_)
  refine XE.go (st_iload_n (j := 2) (i := 2) (pc' := 6) (by decide +kernel) rfl rfl rfl) ?_
  refine XE.cTg (pc' := 9) (st := []) hfT (fun r hr => ct_X10_memberOf r hr) (fun r hr => run_S (st := []) (by decide +kernel) co_X10_hand_338 (ct_X10_memberOf r hr) rfl rfl (Nat.le_of_ble_eq_true rfl)) rfl rfl rfl (fun v3 M4 => ?_)
  refine XE.gd_ (fun g5 => ?_)
  refine XE.go (st_get (pc' := 12) (by decide +kernel) rfl cls_3 fld_RX10_408 rfl rfl g5) ?_
  refine XE.go (st_iload_n (j := 3) (i := 3) (pc' := 13) (by decide +kernel) rfl rfl rfl) ?_
  refine XE.cTg (pc' := 16) (st := []) hfT (fun r hr => ct_X10_letterAt r hr) (fun r hr => run_S (st := []) (by decide +kernel) co_X10_hand_531 (ct_X10_letterAt r hr) rfl rfl (Nat.le_of_ble_eq_true rfl)) rfl rfl rfl (fun v6 M7 => ?_)
  refine XE.go (st_astore (j := 5) (pc' := 18) (by decide +kernel)  (by decide) rfl (by decide) rfl rfl) ?_
  refine XE.go (st_iload (j := 4) (pc' := 20) (by decide +kernel) rfl rfl) ?_
  refine XE.go (st_iconst (n := 0) (pc' := 21) (by decide +kernel) (w_eq (by decide) (by decide)) rfl) ?_
  refine XE.go (st_iconst (n := 2) (pc' := 22) (by decide +kernel) (w_eq (by decide) (by decide)) rfl) ?_
  refine XE.cUg (pc' := 25) (st := []) hfT (fun r hr => ct_X10_requireWithin r hr) (fun r hr => run_S (st := []) (by decide +kernel) co_X10_hand_73 (ct_X10_requireWithin r hr) rfl rfl (Nat.le_of_ble_eq_true rfl)) rfl rfl rfl (fun M8 => ?_)
  refine XE.go (st_iload (j := 4) (pc' := 27) (by decide +kernel) rfl rfl) ?_
  refine XE.ite (fun h9 => ?_) (fun h10 => ?_)
  · refine XE.go (st_lk (dflt := 40) (ps := #[(0, 25), (1, 34)]) (len := 25) (off := 25) (pc' := 52) (by decide +kernel) (by decide) (by rw [h9]; decide) (by decide)) ?_
    refine XE.go (st_aload (j := 5) (pc' := 54) (by decide +kernel) rfl (by decide) rfl) ?_
    refine XE.gd_ (fun g11 => ?_)
    refine XE.go (st_get (pc' := 57) (by decide +kernel) rfl cls_1 fld_RX10_424 rfl rfl g11) ?_
    refine XE.gd_ (fun g12 => ?_)
    refine XE.go (st_get (pc' := 60) (by decide +kernel) rfl cls_4 fld_RX10_323 rfl rfl g12) ?_
    exact XE.rt rfl (X_iret (by decide +kernel) rfl)
  refine XE.ite (fun h13 => ?_) (fun h14 => ?_)
  · refine XE.go (st_lk (dflt := 40) (ps := #[(0, 25), (1, 34)]) (len := 25) (off := 34) (pc' := 61) (by decide +kernel) (by decide) (by rw [h13]; decide) (by decide)) ?_
    refine XE.go (st_aload (j := 5) (pc' := 63) (by decide +kernel) rfl (by decide) rfl) ?_
    refine XE.gd_ (fun g15 => ?_)
    refine XE.go (st_get (pc' := 66) (by decide +kernel) rfl cls_1 fld_RX10_535 rfl rfl g15) ?_
    exact XE.rt rfl (X_iret (by decide +kernel) rfl)
  refine XE.go (st_lk (dflt := 40) (ps := #[(0, 25), (1, 34)]) (len := 25) (off := 40) (pc' := 67) (by decide +kernel) (by decide) (by simp [Op.lookupswitch.offset, eq_comm, h10, h14]) (by decide)) ?_
  refine XE.go (st_aload (j := 5) (pc' := 69) (by decide +kernel) rfl (by decide) rfl) ?_
  refine XE.gd_ (fun g16 => ?_)
  refine XE.go (st_get (pc' := 72) (by decide +kernel) rfl cls_1 fld_RX10_538 rfl rfl g16) ?_
  refine XE.ite (fun h17 => ?_) (fun h18 => ?_)
  · refine XE.go (st_if_eq_t (off := 7) (pc' := 79) (by decide +kernel) (by decide) h17) ?_
    refine XE.go (st_iconst (n := 0) (pc' := 80) (by decide +kernel) (w_eq (by decide) (by decide)) rfl) ?_
    exact XE.rt rfl (X_iret (by decide +kernel) rfl)
  · refine XE.go (st_if_eq_f (off := 7) (pc' := 75) (by decide +kernel) 79 (by decide) rfl h18) ?_
    refine XE.go (st_iconst (n := 1) (pc' := 76) (by decide +kernel) (w_eq (by decide) (by decide)) rfl) ?_
    refine XE.go (st_goto (off := 4) (pc' := 80) (by decide +kernel) (by decide)) ?_
    exact XE.rt rfl (X_iret (by decide +kernel) rfl)
theorem ct_X10_hand {D : Dt} {M : Mm} {a0 a1 a2 a3 a4 : Int} (h0 : a0 ≠ 0) (r : (Int × Int × Mm)) (hr : p_X10_hand M a0 a1 a2 a3 a4 = some r) : CT D 0 mu_X10_hand [(14, a0), (0, a1), (0, a2), (0, a3), (0, a4)] M (ET 0 r).1 (ET 0 r).2 := CT.of (by decide +kernel) rfl (Nat.le_of_ble_eq_true rfl) (xe_X10_hand h0 r hr)
def p_X10_seen (M : Mm) (a0 a1 a2 : Int) : Option (Int × Int × Mm) := (p_X10_groupOf M a0 a1).bind (thT psT fun v1 M2 => (p_X10_messageOf M2 a0 a2).bind (thT psT fun v3 M4 => gd (v1 ≠ 0) ((p_X0_knownLetter M4 v1 v3).bind fun r6 => if r6 = 0 then some (0, 0, M4) else some (0, (rd M4 r6 5), M4))))
set_option maxRecDepth 100000 in
set_option maxHeartbeats 4000000 in
theorem xe_X10_seen {D : Dt} {M : Mm} {a0 a1 a2 : Int} (h0 : a0 ≠ 0) : XE D 0 mu_X10_seen (ET 0) 0 [(0, (14, a0)), (1, (0, a1)), (2, (0, a2))] [] M (p_X10_seen M a0 a1 a2) := by
  unfold p_X10_seen
  refine XE.go (st_aload_n (j := 0) (i := 0) (pc' := 1) (by decide +kernel) rfl rfl (by decide) rfl) ?_
  refine XE.go (st_iload_n (j := 1) (i := 1) (pc' := 2) (by decide +kernel) rfl rfl rfl) ?_
  refine XE.cTg (pc' := 5) (st := []) hfT (fun r hr => ct_X10_groupOf h0 r hr) (fun r hr => run_V (st := []) (by decide +kernel) co_X10_seen_334 (ct_X10_groupOf h0 r hr) rfl h0 rfl rfl (Nat.le_of_ble_eq_true rfl)) rfl rfl rfl (fun v1 M2 => ?_)
  refine XE.go (st_astore_n (j := 3) (i := 3) (pc' := 6) (by decide +kernel) rfl (by decide) rfl (by decide) rfl rfl) ?_
  refine XE.go (st_aload_n (j := 3) (i := 3) (pc' := 7) (by decide +kernel) rfl rfl (by decide) rfl) ?_
  refine XE.go (st_aload_n (j := 0) (i := 0) (pc' := 8) (by decide +kernel) rfl rfl (by decide) rfl) ?_
  refine XE.go (st_iload_n (j := 2) (i := 2) (pc' := 9) (by decide +kernel) rfl rfl rfl) ?_
  refine XE.cTg (pc' := 12) (st := [(4, v1)]) hfT (fun r hr => ct_X10_messageOf h0 r hr) (fun r hr => run_V (st := [(4, v1)]) (by decide +kernel) co_X10_seen_469 (ct_X10_messageOf h0 r hr) rfl h0 rfl rfl (Nat.le_of_ble_eq_true rfl)) rfl rfl rfl (fun v3 M4 => ?_)
  refine XE.gd_ (fun g5 => ?_)
  refine XE.cP (pc' := 15) (st := []) (fun r hr => ct_X0_knownLetter g5 r hr) (fun r hr => run_V (st := []) (by decide +kernel) co_X10_seen_542 (ct_X0_knownLetter g5 r hr) rfl g5 rfl rfl (Nat.le_of_ble_eq_true rfl)) rfl rfl (fun r6 => ?_)
  refine XE.go (st_astore (j := 4) (pc' := 17) (by decide +kernel)  (by decide) rfl (by decide) rfl rfl) ?_
  refine XE.go (st_aload (j := 4) (pc' := 19) (by decide +kernel) rfl (by decide) rfl) ?_
  refine XE.ite (fun h7 => ?_) (fun h8 => ?_)
  · refine XE.go (st_ifnonnull_f (off := 7) (pc' := 22) (by decide +kernel) (by decide) h7 rfl) ?_
    refine XE.go (st_iconst (n := 0) (pc' := 23) (by decide +kernel) (w_eq (by decide) (by decide)) rfl) ?_
    refine XE.go (st_goto (off := 8) (pc' := 31) (by decide +kernel) (by decide)) ?_
    exact XE.rt rfl (X_iret (by decide +kernel) rfl)
  · refine XE.go (st_ifnonnull_t (off := 7) (pc' := 26) (by decide +kernel) (by decide) h8 (by decide)) ?_
    refine XE.go (st_aload (j := 4) (pc' := 28) (by decide +kernel) rfl (by decide) rfl) ?_
    refine XE.go (st_get (pc' := 31) (by decide +kernel) rfl cls_1 fld_RX10_546 rfl rfl h8) ?_
    exact XE.rt rfl (X_iret (by decide +kernel) rfl)
theorem ct_X10_seen {D : Dt} {M : Mm} {a0 a1 a2 : Int} (h0 : a0 ≠ 0) (r : (Int × Int × Mm)) (hr : p_X10_seen M a0 a1 a2 = some r) : CT D 0 mu_X10_seen [(14, a0), (0, a1), (0, a2)] M (ET 0 r).1 (ET 0 r).2 := CT.of (by decide +kernel) rfl (Nat.le_of_ble_eq_true rfl) (xe_X10_seen h0 r hr)
def b_X10_openTransactions_13 (v4 : Int) (v1 : Int) (M : Mm) (s6 : Int × Int) : Option ((Int × Int) ⊕ (Int)) := if s6.2 < v4 then gd (aok v1 s6.2) ((some ((rd M v1 s6.2))).bind fun v15 => if v15 = 0 then some (.inl (s6.1, (w (s6.2 + 1)))) else if (rd M v15 3) = (-1) then some (.inl (s6.1, (w (s6.2 + 1)))) else some (.inl ((w (s6.1 + 1)), (w (s6.2 + 1))))) else some (.inr s6.1)
def p_X10_openTransactions (M : Mm) (a0 : Int) : Option Int := (some ((rd M a0 2))).bind fun v1 => gd (v1 ≠ 0) ((some ((ln v1))).bind fun v4 => (lp (b_X10_openTransactions_13 v4 v1 M) 1000 (0, 0)).bind fun (t7 : Int) => some (t7))
set_option maxRecDepth 100000 in
set_option maxHeartbeats 4000000 in
theorem xe_X10_openTransactions {D : Dt} {M : Mm} {a0 : Int} (h0 : a0 ≠ 0) : XE D 0 mu_X10_openTransactions (EP 0 M) 0 [(0, (14, a0))] [] M (p_X10_openTransactions M a0) := by
  unfold p_X10_openTransactions
  refine XE.go (st_iconst (n := 0) (pc' := 1) (by decide +kernel) (w_eq (by decide) (by decide)) rfl) ?_
  refine XE.go (st_istore_n (j := 1) (i := 1) (pc' := 2) (by decide +kernel) rfl rfl (by decide) rfl rfl) ?_
  refine XE.go (st_aload_n (j := 0) (i := 0) (pc' := 3) (by decide +kernel) rfl rfl (by decide) rfl) ?_
  refine XE.go (st_get (pc' := 6) (by decide +kernel) rfl cls_10 fld_RX10_23 rfl rfl h0) ?_
  refine XE.gen (fun v1 e2 => ?_)
  refine XE.go (st_astore_n (j := 2) (i := 2) (pc' := 7) (by decide +kernel) rfl (by decide) rfl (by decide) rfl rfl) ?_
  refine XE.go (st_aload_n (j := 2) (i := 2) (pc' := 8) (by decide +kernel) rfl rfl (by decide) rfl) ?_
  refine XE.gd_ (fun g3 => ?_)
  refine XE.go (st_alen (k := 22) (pc' := 9) (by decide +kernel) rfl ak_22 rfl (by decide) g3) ?_
  refine XE.gen (fun v4 e5 => ?_)
  refine XE.go (st_istore_n (j := 3) (i := 3) (pc' := 10) (by decide +kernel) rfl rfl (by decide) rfl rfl) ?_
  refine XE.go (st_iconst (n := 0) (pc' := 11) (by decide +kernel) (w_eq (by decide) (by decide)) rfl) ?_
  refine XE.go (st_istore (j := 4) (pc' := 13) (by decide +kernel)  rfl (by decide) rfl rfl) ?_
  refine XE.pick [3, 2, 1, 0] (L' := [(1, (0, 0)), (2, (25, v1)), (3, (0, v4)), (4, (0, 0))]) rfl ?_
  refine XE.loopJ (n := 1000) (s0 := (0, 0)) (pcL := 13) (pcE := 48) (LL := fun (s6 : Int × Int) => [(1, (0, s6.1)), (2, (25, v1)), (3, (0, v4)), (4, (0, s6.2))]) (sL := fun _ => []) (ML := fun (s6 : Int × Int) => M) (LE := fun (t7 : Int) => [(1, (0, t7))]) (sE := fun _ => []) (ME := fun (t7 : Int) => M) (fun kk11 hc8 he9 s6 => ?_) (fun t7 => ?_)
  · unfold b_X10_openTransactions_13
    refine XE.go (st_iload (j := 4) (pc' := 15) (by decide +kernel) rfl rfl) ?_
    refine XE.go (st_iload_n (j := 3) (i := 3) (pc' := 16) (by decide +kernel) rfl rfl rfl) ?_
    refine XE.bite (fun h12 => ?_) (fun h13 => ?_)
    · refine XE.go (st_icmp_ge_f (off := 32) (pc' := 19) (by decide +kernel) 48 (by decide) rfl (Int.not_le.mpr h12)) ?_
      refine XE.go (st_aload_n (j := 2) (i := 2) (pc' := 20) (by decide +kernel) rfl rfl (by decide) rfl) ?_
      refine XE.go (st_iload (j := 4) (pc' := 22) (by decide +kernel) rfl rfl) ?_
      refine XE.gdb (fun g14 => ?_)
      refine XE.go (st_ald (k := 22) (tp := 10) (pc' := 23) (by decide +kernel) rfl ak_22 rfl (by decide) rfl (Or.inr (Or.inr (Or.inr ⟨rfl, rfl⟩))) g14.1 g14.2.1 g14.2.2) ?_
      refine XE.asc ?_
      refine XE.gen (fun v15 e16 => ?_)
      refine XE.go (st_astore (j := 5) (pc' := 25) (by decide +kernel)  (by decide) rfl (by decide) rfl rfl) ?_
      refine XE.go (st_aload (j := 5) (pc' := 27) (by decide +kernel) rfl (by decide) rfl) ?_
      refine XE.bite (fun h17 => ?_) (fun h18 => ?_)
      · refine XE.go (st_ifnull_t (off := 15) (pc' := 42) (by decide +kernel) (by decide) h17 (by decide)) ?_
        refine XE.go (st_iinc (j := 4) (n := 1) (pc' := 45) (by decide +kernel) rfl rfl (by decide) rfl rfl) ?_
        refine XE.go (st_goto (off := (-32)) (pc' := 13) (by decide +kernel) (by decide)) ?_
        exact XE.pick [2, 3, 4, 0] rfl (hc8 (s6.1, (w (s6.2 + 1))))
      · refine XE.go (st_ifnull_f (off := 15) (pc' := 30) (by decide +kernel) (by decide) h18 rfl) ?_
        refine XE.go (st_aload (j := 5) (pc' := 32) (by decide +kernel) rfl (by decide) rfl) ?_
        refine XE.go (st_get (pc' := 35) (by decide +kernel) rfl cls_6 fld_RX10_315 rfl rfl h18) ?_
        refine XE.go (st_iconst (n := (-1)) (pc' := 36) (by decide +kernel) (w_eq (by decide) (by decide)) rfl) ?_
        refine XE.bite (fun h19 => ?_) (fun h20 => ?_)
        · refine XE.go (st_icmp_eq_t (off := 6) (pc' := 42) (by decide +kernel) (by decide) h19) ?_
          refine XE.go (st_iinc (j := 4) (n := 1) (pc' := 45) (by decide +kernel) rfl rfl (by decide) rfl rfl) ?_
          refine XE.go (st_goto (off := (-32)) (pc' := 13) (by decide +kernel) (by decide)) ?_
          exact XE.pick [2, 3, 4, 0] rfl (hc8 (s6.1, (w (s6.2 + 1))))
        · refine XE.go (st_icmp_eq_f (off := 6) (pc' := 39) (by decide +kernel) 42 (by decide) rfl h20) ?_
          refine XE.go (st_iinc (j := 1) (n := 1) (pc' := 42) (by decide +kernel) rfl rfl (by decide) rfl rfl) ?_
          refine XE.go (st_iinc (j := 4) (n := 1) (pc' := 45) (by decide +kernel) rfl rfl (by decide) rfl rfl) ?_
          refine XE.go (st_goto (off := (-32)) (pc' := 13) (by decide +kernel) (by decide)) ?_
          exact XE.pick [1, 3, 4, 0] rfl (hc8 ((w (s6.1 + 1)), (w (s6.2 + 1))))
    · refine XE.go (st_icmp_ge_t (off := 32) (pc' := 48) (by decide +kernel) (by decide) (Int.not_lt.mp h13)) ?_
      exact XE.pick [0] rfl (he9 s6.1)
  · refine XE.go (st_iload_n (j := 1) (i := 1) (pc' := 49) (by decide +kernel) rfl rfl rfl) ?_
    exact XE.rt rfl (X_iret (by decide +kernel) rfl)
theorem ct_X10_openTransactions {D : Dt} {M : Mm} {a0 : Int} (h0 : a0 ≠ 0) (r : Int) (hr : p_X10_openTransactions M a0 = some r) : CT D 0 mu_X10_openTransactions [(14, a0)] M (.inl (some (0, r))) M := CT.of (by decide +kernel) rfl (Nat.le_of_ble_eq_true rfl) (xe_X10_openTransactions h0 r hr)
def b_X10_messagesIn_14 (v4 : Int) (v1 : Int) (M : Mm) (a1 : Int) (s6 : Int × Int) : Option ((Int × Int) ⊕ (Int)) := if s6.2 < v4 then gd (aok v1 s6.2) ((some ((rd M v1 s6.2))).bind fun v15 => if v15 = 0 then some (.inl (s6.1, (w (s6.2 + 1)))) else if (rd M v15 7) = a1 then some (.inl ((w (s6.1 + 1)), (w (s6.2 + 1)))) else some (.inl (s6.1, (w (s6.2 + 1))))) else some (.inr s6.1)
def p_X10_messagesIn (M : Mm) (a0 a1 : Int) : Option Int := (some ((rd M a0 4))).bind fun v1 => gd (v1 ≠ 0) ((some ((ln v1))).bind fun v4 => (lp (b_X10_messagesIn_14 v4 v1 M a1) 1000 (0, 0)).bind fun (t7 : Int) => some (t7))
set_option maxRecDepth 100000 in
set_option maxHeartbeats 4000000 in
theorem xe_X10_messagesIn {D : Dt} {M : Mm} {a0 a1 : Int} (h0 : a0 ≠ 0) : XE D 0 mu_X10_messagesIn (EP 0 M) 0 [(0, (14, a0)), (1, (0, a1))] [] M (p_X10_messagesIn M a0 a1) := by
  unfold p_X10_messagesIn
  refine XE.go (st_iconst (n := 0) (pc' := 1) (by decide +kernel) (w_eq (by decide) (by decide)) rfl) ?_
  refine XE.go (st_istore_n (j := 2) (i := 2) (pc' := 2) (by decide +kernel) rfl rfl (by decide) rfl rfl) ?_
  refine XE.go (st_aload_n (j := 0) (i := 0) (pc' := 3) (by decide +kernel) rfl rfl (by decide) rfl) ?_
  refine XE.go (st_get (pc' := 6) (by decide +kernel) rfl cls_10 fld_RX10_35 rfl rfl h0) ?_
  refine XE.gen (fun v1 e2 => ?_)
  refine XE.go (st_astore_n (j := 3) (i := 3) (pc' := 7) (by decide +kernel) rfl (by decide) rfl (by decide) rfl rfl) ?_
  refine XE.go (st_aload_n (j := 3) (i := 3) (pc' := 8) (by decide +kernel) rfl rfl (by decide) rfl) ?_
  refine XE.gd_ (fun g3 => ?_)
  refine XE.go (st_alen (k := 20) (pc' := 9) (by decide +kernel) rfl ak_20 rfl (by decide) g3) ?_
  refine XE.gen (fun v4 e5 => ?_)
  refine XE.go (st_istore (j := 4) (pc' := 11) (by decide +kernel)  rfl (by decide) rfl rfl) ?_
  refine XE.go (st_iconst (n := 0) (pc' := 12) (by decide +kernel) (w_eq (by decide) (by decide)) rfl) ?_
  refine XE.go (st_istore (j := 5) (pc' := 14) (by decide +kernel)  rfl (by decide) rfl rfl) ?_
  refine XE.pick [5, 3, 2, 1, 0] (L' := [(1, (0, a1)), (2, (0, 0)), (3, (23, v1)), (4, (0, v4)), (5, (0, 0))]) rfl ?_
  refine XE.loopJ (n := 1000) (s0 := (0, 0)) (pcL := 14) (pcE := 50) (LL := fun (s6 : Int × Int) => [(1, (0, a1)), (2, (0, s6.1)), (3, (23, v1)), (4, (0, v4)), (5, (0, s6.2))]) (sL := fun _ => []) (ML := fun (s6 : Int × Int) => M) (LE := fun (t7 : Int) => [(2, (0, t7))]) (sE := fun _ => []) (ME := fun (t7 : Int) => M) (fun kk11 hc8 he9 s6 => ?_) (fun t7 => ?_)
  · unfold b_X10_messagesIn_14
    refine XE.go (st_iload (j := 5) (pc' := 16) (by decide +kernel) rfl rfl) ?_
    refine XE.go (st_iload (j := 4) (pc' := 18) (by decide +kernel) rfl rfl) ?_
    refine XE.bite (fun h12 => ?_) (fun h13 => ?_)
    · refine XE.go (st_icmp_ge_f (off := 32) (pc' := 21) (by decide +kernel) 50 (by decide) rfl (Int.not_le.mpr h12)) ?_
      refine XE.go (st_aload_n (j := 3) (i := 3) (pc' := 22) (by decide +kernel) rfl rfl (by decide) rfl) ?_
      refine XE.go (st_iload (j := 5) (pc' := 24) (by decide +kernel) rfl rfl) ?_
      refine XE.gdb (fun g14 => ?_)
      refine XE.go (st_ald (k := 20) (tp := 8) (pc' := 25) (by decide +kernel) rfl ak_20 rfl (by decide) rfl (Or.inr (Or.inr (Or.inr ⟨rfl, rfl⟩))) g14.1 g14.2.1 g14.2.2) ?_
      refine XE.asc ?_
      refine XE.gen (fun v15 e16 => ?_)
      refine XE.go (st_astore (j := 6) (pc' := 27) (by decide +kernel)  (by decide) rfl (by decide) rfl rfl) ?_
      refine XE.go (st_aload (j := 6) (pc' := 29) (by decide +kernel) rfl (by decide) rfl) ?_
      refine XE.bite (fun h17 => ?_) (fun h18 => ?_)
      · refine XE.go (st_ifnull_t (off := 15) (pc' := 44) (by decide +kernel) (by decide) h17 (by decide)) ?_
        refine XE.go (st_iinc (j := 5) (n := 1) (pc' := 47) (by decide +kernel) rfl rfl (by decide) rfl rfl) ?_
        refine XE.go (st_goto (off := (-33)) (pc' := 14) (by decide +kernel) (by decide)) ?_
        exact XE.pick [2, 3, 4, 5, 0] rfl (hc8 (s6.1, (w (s6.2 + 1))))
      · refine XE.go (st_ifnull_f (off := 15) (pc' := 32) (by decide +kernel) (by decide) h18 rfl) ?_
        refine XE.go (st_aload (j := 6) (pc' := 34) (by decide +kernel) rfl (by decide) rfl) ?_
        refine XE.go (st_get (pc' := 37) (by decide +kernel) rfl cls_4 fld_RX10_138 rfl rfl h18) ?_
        refine XE.go (st_iload_n (j := 1) (i := 1) (pc' := 38) (by decide +kernel) rfl rfl rfl) ?_
        refine XE.bite (fun h19 => ?_) (fun h20 => ?_)
        · refine XE.go (st_icmp_ne_f (off := 6) (pc' := 41) (by decide +kernel) 44 (by decide) rfl (not_not_intro h19)) ?_
          refine XE.go (st_iinc (j := 2) (n := 1) (pc' := 44) (by decide +kernel) rfl rfl (by decide) rfl rfl) ?_
          refine XE.go (st_iinc (j := 5) (n := 1) (pc' := 47) (by decide +kernel) rfl rfl (by decide) rfl rfl) ?_
          refine XE.go (st_goto (off := (-33)) (pc' := 14) (by decide +kernel) (by decide)) ?_
          exact XE.pick [3, 1, 4, 5, 0] rfl (hc8 ((w (s6.1 + 1)), (w (s6.2 + 1))))
        · refine XE.go (st_icmp_ne_t (off := 6) (pc' := 44) (by decide +kernel) (by decide) h20) ?_
          refine XE.go (st_iinc (j := 5) (n := 1) (pc' := 47) (by decide +kernel) rfl rfl (by decide) rfl rfl) ?_
          refine XE.go (st_goto (off := (-33)) (pc' := 14) (by decide +kernel) (by decide)) ?_
          exact XE.pick [2, 3, 4, 5, 0] rfl (hc8 (s6.1, (w (s6.2 + 1))))
    · refine XE.go (st_icmp_ge_t (off := 32) (pc' := 50) (by decide +kernel) (by decide) (Int.not_lt.mp h13)) ?_
      exact XE.pick [1] rfl (he9 s6.1)
  · refine XE.go (st_iload_n (j := 2) (i := 2) (pc' := 51) (by decide +kernel) rfl rfl rfl) ?_
    exact XE.rt rfl (X_iret (by decide +kernel) rfl)
theorem ct_X10_messagesIn {D : Dt} {M : Mm} {a0 a1 : Int} (h0 : a0 ≠ 0) (r : Int) (hr : p_X10_messagesIn M a0 a1 = some r) : CT D 0 mu_X10_messagesIn [(14, a0), (0, a1)] M (.inl (some (0, r))) M := CT.of (by decide +kernel) rfl (Nat.le_of_ble_eq_true rfl) (xe_X10_messagesIn h0 r hr)
def p_X10_count (M : Mm) (a0 a1 : Int) : Option (Int × Int × Mm) := (p_X10_requireWithin M a1 0 9).bind (thU psT fun M1 => if a1 = 0 then some (0, (rd M1 a0 6), M1) else if a1 = 1 then some (0, (rd M1 a0 7), M1) else if a1 = 2 then some (0, (rd M1 a0 8), M1) else if a1 = 3 then some (0, (rd M1 a0 9), M1) else if a1 = 4 then some (0, (rd M1 a0 10), M1) else if a1 = 5 then some (0, (rd M1 a0 15), M1) else if a1 = 6 then some (0, (rd M1 a0 13), M1) else if a1 = 7 then (p_X10_openTransactions M1 a0).bind fun r18 => some (0, r18, M1) else if a1 = 8 then (p_X10_messagesIn M1 a0 2).bind fun r21 => some (0, r21, M1) else (p_X10_messagesIn M1 a0 0).bind fun r22 => some (0, r22, M1))
set_option maxRecDepth 100000 in
set_option maxHeartbeats 4000000 in
theorem xe_X10_count {D : Dt} {M : Mm} {a0 a1 : Int} (h0 : a0 ≠ 0) : XE D 0 mu_X10_count (ET 0) 0 [(0, (14, a0)), (1, (0, a1))] [] M (p_X10_count M a0 a1) := by
  unfold p_X10_count
  refine XE.go (st_iload_n (j := 1) (i := 1) (pc' := 1) (by decide +kernel) rfl rfl rfl) ?_
  refine XE.go (st_iconst (n := 0) (pc' := 2) (by decide +kernel) (w_eq (by decide) (by decide)) rfl) ?_
  refine XE.go (st_bipush (n := 9) (pc' := 4) (by decide +kernel) (by decide) (w_eq (by decide) (by decide)) rfl) ?_
  refine XE.cUg (pc' := 7) (st := []) hfT (fun r hr => ct_X10_requireWithin r hr) (fun r hr => run_S (st := []) (by decide +kernel) co_X10_count_73 (ct_X10_requireWithin r hr) rfl rfl (Nat.le_of_ble_eq_true rfl)) rfl rfl rfl (fun M1 => ?_)
  refine XE.go (st_iload_n (j := 1) (i := 1) (pc' := 8) (by decide +kernel) rfl rfl rfl) ?_
  refine XE.ite (fun h2 => ?_) (fun h3 => ?_)
  · refine XE.go (st_tab_in (dflt := 98) (lo := 0) (hi := 8) (offs := #[52, 57, 62, 67, 72, 77, 82, 87, 92]) (len := 52) (off := 52) (pc' := 60) (by decide +kernel) 0 h2 (by decide) (by decide) (by decide) (by decide)) ?_
    refine XE.go (st_aload_n (j := 0) (i := 0) (pc' := 61) (by decide +kernel) rfl rfl (by decide) rfl) ?_
    refine XE.go (st_get (pc' := 64) (by decide +kernel) rfl cls_10 fld_RX10_42 rfl rfl h0) ?_
    exact XE.rt rfl (X_iret (by decide +kernel) rfl)
  refine XE.ite (fun h4 => ?_) (fun h5 => ?_)
  · refine XE.go (st_tab_in (dflt := 98) (lo := 0) (hi := 8) (offs := #[52, 57, 62, 67, 72, 77, 82, 87, 92]) (len := 52) (off := 57) (pc' := 65) (by decide +kernel) 1 h4 (by decide) (by decide) (by decide) (by decide)) ?_
    refine XE.go (st_aload_n (j := 0) (i := 0) (pc' := 66) (by decide +kernel) rfl rfl (by decide) rfl) ?_
    refine XE.go (st_get (pc' := 69) (by decide +kernel) rfl cls_10 fld_RX10_46 rfl rfl h0) ?_
    exact XE.rt rfl (X_iret (by decide +kernel) rfl)
  refine XE.ite (fun h6 => ?_) (fun h7 => ?_)
  · refine XE.go (st_tab_in (dflt := 98) (lo := 0) (hi := 8) (offs := #[52, 57, 62, 67, 72, 77, 82, 87, 92]) (len := 52) (off := 62) (pc' := 70) (by decide +kernel) 2 h6 (by decide) (by decide) (by decide) (by decide)) ?_
    refine XE.go (st_aload_n (j := 0) (i := 0) (pc' := 71) (by decide +kernel) rfl rfl (by decide) rfl) ?_
    refine XE.go (st_get (pc' := 74) (by decide +kernel) rfl cls_10 fld_RX10_49 rfl rfl h0) ?_
    exact XE.rt rfl (X_iret (by decide +kernel) rfl)
  refine XE.ite (fun h8 => ?_) (fun h9 => ?_)
  · refine XE.go (st_tab_in (dflt := 98) (lo := 0) (hi := 8) (offs := #[52, 57, 62, 67, 72, 77, 82, 87, 92]) (len := 52) (off := 67) (pc' := 75) (by decide +kernel) 3 h8 (by decide) (by decide) (by decide) (by decide)) ?_
    refine XE.go (st_aload_n (j := 0) (i := 0) (pc' := 76) (by decide +kernel) rfl rfl (by decide) rfl) ?_
    refine XE.go (st_get (pc' := 79) (by decide +kernel) rfl cls_10 fld_RX10_52 rfl rfl h0) ?_
    exact XE.rt rfl (X_iret (by decide +kernel) rfl)
  refine XE.ite (fun h10 => ?_) (fun h11 => ?_)
  · refine XE.go (st_tab_in (dflt := 98) (lo := 0) (hi := 8) (offs := #[52, 57, 62, 67, 72, 77, 82, 87, 92]) (len := 52) (off := 72) (pc' := 80) (by decide +kernel) 4 h10 (by decide) (by decide) (by decide) (by decide)) ?_
    refine XE.go (st_aload_n (j := 0) (i := 0) (pc' := 81) (by decide +kernel) rfl rfl (by decide) rfl) ?_
    refine XE.go (st_get (pc' := 84) (by decide +kernel) rfl cls_10 fld_RX10_55 rfl rfl h0) ?_
    exact XE.rt rfl (X_iret (by decide +kernel) rfl)
  refine XE.ite (fun h12 => ?_) (fun h13 => ?_)
  · refine XE.go (st_tab_in (dflt := 98) (lo := 0) (hi := 8) (offs := #[52, 57, 62, 67, 72, 77, 82, 87, 92]) (len := 52) (off := 77) (pc' := 85) (by decide +kernel) 5 h12 (by decide) (by decide) (by decide) (by decide)) ?_
    refine XE.go (st_aload_n (j := 0) (i := 0) (pc' := 86) (by decide +kernel) rfl rfl (by decide) rfl) ?_
    refine XE.go (st_get (pc' := 89) (by decide +kernel) rfl cls_10 fld_RX10_70 rfl rfl h0) ?_
    exact XE.rt rfl (X_iret (by decide +kernel) rfl)
  refine XE.ite (fun h14 => ?_) (fun h15 => ?_)
  · refine XE.go (st_tab_in (dflt := 98) (lo := 0) (hi := 8) (offs := #[52, 57, 62, 67, 72, 77, 82, 87, 92]) (len := 52) (off := 82) (pc' := 90) (by decide +kernel) 6 h14 (by decide) (by decide) (by decide) (by decide)) ?_
    refine XE.go (st_aload_n (j := 0) (i := 0) (pc' := 91) (by decide +kernel) rfl rfl (by decide) rfl) ?_
    refine XE.go (st_get (pc' := 94) (by decide +kernel) rfl cls_10 fld_RX10_64 rfl rfl h0) ?_
    exact XE.rt rfl (X_iret (by decide +kernel) rfl)
  refine XE.ite (fun h16 => ?_) (fun h17 => ?_)
  · refine XE.go (st_tab_in (dflt := 98) (lo := 0) (hi := 8) (offs := #[52, 57, 62, 67, 72, 77, 82, 87, 92]) (len := 52) (off := 87) (pc' := 95) (by decide +kernel) 7 h16 (by decide) (by decide) (by decide) (by decide)) ?_
    refine XE.go (st_aload_n (j := 0) (i := 0) (pc' := 96) (by decide +kernel) rfl rfl (by decide) rfl) ?_
    refine XE.cP (pc' := 99) (st := []) (fun r hr => ct_X10_openTransactions h0 r hr) (fun r hr => run_V (st := []) (by decide +kernel) co_X10_count_549 (ct_X10_openTransactions h0 r hr) rfl h0 rfl rfl (Nat.le_of_ble_eq_true rfl)) rfl rfl (fun r18 => ?_)
    exact XE.rt rfl (X_iret (by decide +kernel) rfl)
  refine XE.ite (fun h19 => ?_) (fun h20 => ?_)
  · refine XE.go (st_tab_in (dflt := 98) (lo := 0) (hi := 8) (offs := #[52, 57, 62, 67, 72, 77, 82, 87, 92]) (len := 52) (off := 92) (pc' := 100) (by decide +kernel) 8 h19 (by decide) (by decide) (by decide) (by decide)) ?_
    refine XE.go (st_aload_n (j := 0) (i := 0) (pc' := 101) (by decide +kernel) rfl rfl (by decide) rfl) ?_
    refine XE.go (st_iconst (n := 2) (pc' := 102) (by decide +kernel) (w_eq (by decide) (by decide)) rfl) ?_
    refine XE.cP (pc' := 105) (st := []) (fun r hr => ct_X10_messagesIn h0 r hr) (fun r hr => run_V (st := []) (by decide +kernel) co_X10_count_552 (ct_X10_messagesIn h0 r hr) rfl h0 rfl rfl (Nat.le_of_ble_eq_true rfl)) rfl rfl (fun r21 => ?_)
    exact XE.rt rfl (X_iret (by decide +kernel) rfl)
  refine XE.go (st_tab_out (dflt := 98) (lo := 0) (hi := 8) (offs := #[52, 57, 62, 67, 72, 77, 82, 87, 92]) (len := 52) (pc' := 106) (by decide +kernel) (by omega) (by decide)) ?_
  refine XE.go (st_aload_n (j := 0) (i := 0) (pc' := 107) (by decide +kernel) rfl rfl (by decide) rfl) ?_
  refine XE.go (st_iconst (n := 0) (pc' := 108) (by decide +kernel) (w_eq (by decide) (by decide)) rfl) ?_
  refine XE.cP (pc' := 111) (st := []) (fun r hr => ct_X10_messagesIn h0 r hr) (fun r hr => run_V (st := []) (by decide +kernel) co_X10_count_552 (ct_X10_messagesIn h0 r hr) rfl h0 rfl rfl (Nat.le_of_ble_eq_true rfl)) rfl rfl (fun r22 => ?_)
  exact XE.rt rfl (X_iret (by decide +kernel) rfl)
theorem ct_X10_count {D : Dt} {M : Mm} {a0 a1 : Int} (h0 : a0 ≠ 0) (r : (Int × Int × Mm)) (hr : p_X10_count M a0 a1 = some r) : CT D 0 mu_X10_count [(14, a0), (0, a1)] M (ET 0 r).1 (ET 0 r).2 := CT.of (by decide +kernel) rfl (Nat.le_of_ble_eq_true rfl) (xe_X10_count h0 r hr)
def b_X0_memberBits_13 (v4 : Int) (v1 : Int) (M : Mm) (s6 : Int × Int) : Option ((Int × Int) ⊕ (Int)) := if s6.2 < v4 then gd (aok v1 s6.2) ((some ((rd M v1 s6.2))).bind fun v15 => if v15 = 0 then some (.inl (s6.1, (w (s6.2 + 1)))) else (some ((ior s6.1 (shl 1 (rd M v15 0))))).bind fun v19 => some (.inl (v19, (w (s6.2 + 1))))) else some (.inr s6.1)
def p_X0_memberBits (M : Mm) (a0 : Int) : Option Int := (some ((rd M a0 1))).bind fun v1 => gd (v1 ≠ 0) ((some ((ln v1))).bind fun v4 => (lp (b_X0_memberBits_13 v4 v1 M) 1000 (0, 0)).bind fun (t7 : Int) => some (t7))
set_option maxRecDepth 100000 in
set_option maxHeartbeats 4000000 in
theorem xe_X0_memberBits {D : Dt} {M : Mm} {a0 : Int} (h0 : a0 ≠ 0) : XE D 0 mu_X0_memberBits (EP 0 M) 0 [(0, (4, a0))] [] M (p_X0_memberBits M a0) := by
  unfold p_X0_memberBits
  refine XE.go (st_iconst (n := 0) (pc' := 1) (by decide +kernel) (w_eq (by decide) (by decide)) rfl) ?_
  refine XE.go (st_istore_n (j := 1) (i := 1) (pc' := 2) (by decide +kernel) rfl rfl (by decide) rfl rfl) ?_
  refine XE.go (st_aload_n (j := 0) (i := 0) (pc' := 3) (by decide +kernel) rfl rfl (by decide) rfl) ?_
  refine XE.go (st_get (pc' := 6) (by decide +kernel) rfl cls_0 fld_RX0_19 rfl rfl h0) ?_
  refine XE.gen (fun v1 e2 => ?_)
  refine XE.go (st_astore_n (j := 2) (i := 2) (pc' := 7) (by decide +kernel) rfl (by decide) rfl (by decide) rfl rfl) ?_
  refine XE.go (st_aload_n (j := 2) (i := 2) (pc' := 8) (by decide +kernel) rfl rfl (by decide) rfl) ?_
  refine XE.gd_ (fun g3 => ?_)
  refine XE.go (st_alen (k := 19) (pc' := 9) (by decide +kernel) rfl ak_19 rfl (by decide) g3) ?_
  refine XE.gen (fun v4 e5 => ?_)
  refine XE.go (st_istore_n (j := 3) (i := 3) (pc' := 10) (by decide +kernel) rfl rfl (by decide) rfl rfl) ?_
  refine XE.go (st_iconst (n := 0) (pc' := 11) (by decide +kernel) (w_eq (by decide) (by decide)) rfl) ?_
  refine XE.go (st_istore (j := 4) (pc' := 13) (by decide +kernel)  rfl (by decide) rfl rfl) ?_
  refine XE.pick [3, 2, 1, 0] (L' := [(1, (0, 0)), (2, (22, v1)), (3, (0, v4)), (4, (0, 0))]) rfl ?_
  refine XE.loopJ (n := 1000) (s0 := (0, 0)) (pcL := 13) (pcE := 46) (LL := fun (s6 : Int × Int) => [(1, (0, s6.1)), (2, (22, v1)), (3, (0, v4)), (4, (0, s6.2))]) (sL := fun _ => []) (ML := fun (s6 : Int × Int) => M) (LE := fun (t7 : Int) => [(1, (0, t7))]) (sE := fun _ => []) (ME := fun (t7 : Int) => M) (fun kk11 hc8 he9 s6 => ?_) (fun t7 => ?_)
  · unfold b_X0_memberBits_13
    refine XE.go (st_iload (j := 4) (pc' := 15) (by decide +kernel) rfl rfl) ?_
    refine XE.go (st_iload_n (j := 3) (i := 3) (pc' := 16) (by decide +kernel) rfl rfl rfl) ?_
    refine XE.bite (fun h12 => ?_) (fun h13 => ?_)
    · refine XE.go (st_icmp_ge_f (off := 30) (pc' := 19) (by decide +kernel) 46 (by decide) rfl (Int.not_le.mpr h12)) ?_
      refine XE.go (st_aload_n (j := 2) (i := 2) (pc' := 20) (by decide +kernel) rfl rfl (by decide) rfl) ?_
      refine XE.go (st_iload (j := 4) (pc' := 22) (by decide +kernel) rfl rfl) ?_
      refine XE.gdb (fun g14 => ?_)
      refine XE.go (st_ald (k := 19) (tp := 7) (pc' := 23) (by decide +kernel) rfl ak_19 rfl (by decide) rfl (Or.inr (Or.inr (Or.inr ⟨rfl, rfl⟩))) g14.1 g14.2.1 g14.2.2) ?_
      refine XE.asc ?_
      refine XE.gen (fun v15 e16 => ?_)
      refine XE.go (st_astore (j := 5) (pc' := 25) (by decide +kernel)  (by decide) rfl (by decide) rfl rfl) ?_
      refine XE.go (st_aload (j := 5) (pc' := 27) (by decide +kernel) rfl (by decide) rfl) ?_
      refine XE.bite (fun h17 => ?_) (fun h18 => ?_)
      · refine XE.go (st_ifnull_t (off := 13) (pc' := 40) (by decide +kernel) (by decide) h17 (by decide)) ?_
        refine XE.go (st_iinc (j := 4) (n := 1) (pc' := 43) (by decide +kernel) rfl rfl (by decide) rfl rfl) ?_
        refine XE.go (st_goto (off := (-30)) (pc' := 13) (by decide +kernel) (by decide)) ?_
        exact XE.pick [2, 3, 4, 0] rfl (hc8 (s6.1, (w (s6.2 + 1))))
      · refine XE.go (st_ifnull_f (off := 13) (pc' := 30) (by decide +kernel) (by decide) h18 rfl) ?_
        refine XE.go (st_iload_n (j := 1) (i := 1) (pc' := 31) (by decide +kernel) rfl rfl rfl) ?_
        refine XE.go (st_iconst (n := 1) (pc' := 32) (by decide +kernel) (w_eq (by decide) (by decide)) rfl) ?_
        refine XE.go (st_aload (j := 5) (pc' := 34) (by decide +kernel) rfl (by decide) rfl) ?_
        refine XE.go (st_get (pc' := 37) (by decide +kernel) rfl cls_3 fld_RX0_75 rfl rfl h18) ?_
        refine XE.go (st_ishl (pc' := 38) (by decide +kernel) rfl) ?_
        refine XE.go (st_ior (pc' := 39) (by decide +kernel) rfl) ?_
        refine XE.asc ?_
        refine XE.gen (fun v19 e20 => ?_)
        refine XE.go (st_istore_n (j := 1) (i := 1) (pc' := 40) (by decide +kernel) rfl rfl (by decide) rfl rfl) ?_
        refine XE.go (st_iinc (j := 4) (n := 1) (pc' := 43) (by decide +kernel) rfl rfl (by decide) rfl rfl) ?_
        refine XE.go (st_goto (off := (-30)) (pc' := 13) (by decide +kernel) (by decide)) ?_
        exact XE.pick [1, 3, 4, 0] rfl (hc8 (v19, (w (s6.2 + 1))))
    · refine XE.go (st_icmp_ge_t (off := 30) (pc' := 46) (by decide +kernel) (by decide) (Int.not_lt.mp h13)) ?_
      exact XE.pick [0] rfl (he9 s6.1)
  · refine XE.go (st_iload_n (j := 1) (i := 1) (pc' := 47) (by decide +kernel) rfl rfl rfl) ?_
    exact XE.rt rfl (X_iret (by decide +kernel) rfl)
theorem ct_X0_memberBits {D : Dt} {M : Mm} {a0 : Int} (h0 : a0 ≠ 0) (r : Int) (hr : p_X0_memberBits M a0 = some r) : CT D 0 mu_X0_memberBits [(4, a0)] M (.inl (some (0, r))) M := CT.of (by decide +kernel) rfl (Nat.le_of_ble_eq_true rfl) (xe_X0_memberBits h0 r hr)
def b_X0_isAtRest_10 (v4 : Int) (v1 : Int) (M : Mm) (s6 : Int) : Option ((Int) ⊕ ((Int) ⊕ (Unit))) := if s6 < v4 then gd (aok v1 s6) ((some ((rd M v1 s6))).bind fun v28 => if v28 = 0 then some (.inl (w (s6 + 1))) else if (rd M v28 1) = (rd M v28 2) then some (.inl (w (s6 + 1))) else some (.inr (.inl (0)))) else some (.inr (.inr ()))
def p_X0_isAtRest (M : Mm) (a0 : Int) : Option Int := (some ((rd M a0 0))).bind fun v1 => gd (v1 ≠ 0) ((some ((ln v1))).bind fun v4 => (lp (b_X0_isAtRest_10 v4 v1 M) 1000 0).bind (Sum.elim some fun (t7 : Unit) => (p_X0_memberCount M a0).bind fun r34 => if 0 < r34 then some (1) else some (0)))
set_option maxRecDepth 100000 in
set_option maxHeartbeats 4000000 in
theorem xe_X0_isAtRest {D : Dt} {M : Mm} {a0 : Int} (h0 : a0 ≠ 0) : XE D 0 mu_X0_isAtRest (EP 0 M) 0 [(0, (4, a0))] [] M (p_X0_isAtRest M a0) := by
  unfold p_X0_isAtRest
  refine XE.go (st_aload_n (j := 0) (i := 0) (pc' := 1) (by decide +kernel) rfl rfl (by decide) rfl) ?_
  refine XE.go (st_get (pc' := 4) (by decide +kernel) rfl cls_0 fld_RX0_11 rfl rfl h0) ?_
  refine XE.gen (fun v1 e2 => ?_)
  refine XE.go (st_astore_n (j := 1) (i := 1) (pc' := 5) (by decide +kernel) rfl (by decide) rfl (by decide) rfl rfl) ?_
  refine XE.go (st_aload_n (j := 1) (i := 1) (pc' := 6) (by decide +kernel) rfl rfl (by decide) rfl) ?_
  refine XE.gd_ (fun g3 => ?_)
  refine XE.go (st_alen (k := 24) (pc' := 7) (by decide +kernel) rfl ak_24 rfl (by decide) g3) ?_
  refine XE.gen (fun v4 e5 => ?_)
  refine XE.go (st_istore_n (j := 2) (i := 2) (pc' := 8) (by decide +kernel) rfl rfl (by decide) rfl rfl) ?_
  refine XE.go (st_iconst (n := 0) (pc' := 9) (by decide +kernel) (w_eq (by decide) (by decide)) rfl) ?_
  refine XE.go (st_istore_n (j := 3) (i := 3) (pc' := 10) (by decide +kernel) rfl rfl (by decide) rfl rfl) ?_
  refine XE.pick [3, 2, 1, 0] (L' := [(0, (4, a0)), (1, (27, v1)), (2, (0, v4)), (3, (0, 0))]) rfl ?_
  refine XE.loopX (n := 1000) (s0 := 0) (pcL := 10) (pcE := 46) (LL := fun (s6 : Int) => [(0, (4, a0)), (1, (27, v1)), (2, (0, v4)), (3, (0, s6))]) (sL := fun _ => []) (ML := fun (s6 : Int) => M) (LE := fun (t7 : Unit) => [(0, (4, a0))]) (sE := fun _ => []) (ME := fun (t7 : Unit) => M) (fun kk24 hx23 hc21 he22 s6 => ?_) (fun t7 => ?_)
  · unfold b_X0_isAtRest_10
    refine XE.go (st_iload_n (j := 3) (i := 3) (pc' := 11) (by decide +kernel) rfl rfl rfl) ?_
    refine XE.go (st_iload_n (j := 2) (i := 2) (pc' := 12) (by decide +kernel) rfl rfl rfl) ?_
    refine XE.bite (fun h25 => ?_) (fun h26 => ?_)
    · refine XE.go (st_icmp_ge_f (off := 34) (pc' := 15) (by decide +kernel) 46 (by decide) rfl (Int.not_le.mpr h25)) ?_
      refine XE.go (st_aload_n (j := 1) (i := 1) (pc' := 16) (by decide +kernel) rfl rfl (by decide) rfl) ?_
      refine XE.go (st_iload_n (j := 3) (i := 3) (pc' := 17) (by decide +kernel) rfl rfl rfl) ?_
      refine XE.gdb (fun g27 => ?_)
      refine XE.go (st_ald (k := 24) (tp := 12) (pc' := 18) (by decide +kernel) rfl ak_24 rfl (by decide) rfl (Or.inr (Or.inr (Or.inr ⟨rfl, rfl⟩))) g27.1 g27.2.1 g27.2.2) ?_
      refine XE.asc ?_
      refine XE.gen (fun v28 e29 => ?_)
      refine XE.go (st_astore (j := 4) (pc' := 20) (by decide +kernel)  (by decide) rfl (by decide) rfl rfl) ?_
      refine XE.go (st_aload (j := 4) (pc' := 22) (by decide +kernel) rfl (by decide) rfl) ?_
      refine XE.bite (fun h30 => ?_) (fun h31 => ?_)
      · refine XE.go (st_ifnull_t (off := 18) (pc' := 40) (by decide +kernel) (by decide) h30 (by decide)) ?_
        refine XE.go (st_iinc (j := 3) (n := 1) (pc' := 43) (by decide +kernel) rfl rfl (by decide) rfl rfl) ?_
        refine XE.go (st_goto (off := (-33)) (pc' := 10) (by decide +kernel) (by decide)) ?_
        exact XE.pick [2, 3, 4, 0] rfl (hc21 (w (s6 + 1)))
      · refine XE.go (st_ifnull_f (off := 18) (pc' := 25) (by decide +kernel) (by decide) h31 rfl) ?_
        refine XE.go (st_aload (j := 4) (pc' := 27) (by decide +kernel) rfl (by decide) rfl) ?_
        refine XE.go (st_get (pc' := 30) (by decide +kernel) rfl cls_8 fld_RX0_76 rfl rfl h31) ?_
        refine XE.go (st_aload (j := 4) (pc' := 32) (by decide +kernel) rfl (by decide) rfl) ?_
        refine XE.go (st_get (pc' := 35) (by decide +kernel) rfl cls_8 fld_RX0_80 rfl rfl h31) ?_
        refine XE.bite (fun h32 => ?_) (fun h33 => ?_)
        · refine XE.go (st_acmp_eq_t (off := 5) (pc' := 40) (by decide +kernel) (by decide) (by decide) h32 (by decide)) ?_
          refine XE.go (st_iinc (j := 3) (n := 1) (pc' := 43) (by decide +kernel) rfl rfl (by decide) rfl rfl) ?_
          refine XE.go (st_goto (off := (-33)) (pc' := 10) (by decide +kernel) (by decide)) ?_
          exact XE.pick [2, 3, 4, 0] rfl (hc21 (w (s6 + 1)))
        · refine XE.go (st_acmp_eq_f (off := 5) (pc' := 38) (by decide +kernel) 40 (by decide) (by decide) (by decide) h33 rfl) ?_
          refine XE.go (st_iconst (n := 0) (pc' := 39) (by decide +kernel) (w_eq (by decide) (by decide)) rfl) ?_
          refine XE.cast (hx23 _) ?_
          exact XE.rt rfl (X_zret (by decide +kernel) rfl (by decide))
    · refine XE.go (st_icmp_ge_t (off := 34) (pc' := 46) (by decide +kernel) (by decide) (Int.not_lt.mp h26)) ?_
      exact XE.pick [0] rfl (he22 ())
  · refine XE.go (st_aload_n (j := 0) (i := 0) (pc' := 47) (by decide +kernel) rfl rfl (by decide) rfl) ?_
    refine XE.cP (pc' := 50) (st := []) (fun r hr => ct_X0_memberCount h0 r hr) (fun r hr => run_V (st := []) (by decide +kernel) co_X0_isAtRest_83 (ct_X0_memberCount h0 r hr) rfl h0 rfl rfl (Nat.le_of_ble_eq_true rfl)) rfl rfl (fun r34 => ?_)
    refine XE.ite (fun h35 => ?_) (fun h36 => ?_)
    · refine XE.go (st_if_le_f (off := 7) (pc' := 53) (by decide +kernel) 57 (by decide) rfl (Int.not_le.mpr h35)) ?_
      refine XE.go (st_iconst (n := 1) (pc' := 54) (by decide +kernel) (w_eq (by decide) (by decide)) rfl) ?_
      refine XE.go (st_goto (off := 4) (pc' := 58) (by decide +kernel) (by decide)) ?_
      exact XE.rt rfl (X_zret (by decide +kernel) rfl (by decide))
    · refine XE.go (st_if_le_t (off := 7) (pc' := 57) (by decide +kernel) (by decide) (Int.not_lt.mp h36)) ?_
      refine XE.go (st_iconst (n := 0) (pc' := 58) (by decide +kernel) (w_eq (by decide) (by decide)) rfl) ?_
      exact XE.rt rfl (X_zret (by decide +kernel) rfl (by decide))
theorem ct_X0_isAtRest {D : Dt} {M : Mm} {a0 : Int} (h0 : a0 ≠ 0) (r : Int) (hr : p_X0_isAtRest M a0 = some r) : CT D 0 mu_X0_isAtRest [(4, a0)] M (.inl (some (0, r))) M := CT.of (by decide +kernel) rfl (Nat.le_of_ble_eq_true rfl) (xe_X0_isAtRest h0 r hr)
def p_X10_tellGroup (M : Mm) (a0 a1 : Int) : Option Int := if a1 = 0 then gd (a0 ≠ 0) (some ((rd M a0 6))) else if a1 = 1 then gd (a0 ≠ 0) ((p_X0_memberBits M a0).bind fun r7 => some (r7)) else if a1 = 2 then gd (a0 ≠ 0) ((p_X0_isAtRest M a0).bind fun r11 => if r11 = 0 then some (0) else some (1)) else if a1 = 3 then gd (a0 ≠ 0) (gd ((rd M a0 3) ≠ 0) (some ((rd M (rd M a0 3) 1)))) else if a1 = 4 then gd (a0 ≠ 0) (gd ((rd M a0 4) ≠ 0) (some ((rd M (rd M a0 4) 1)))) else gd (a0 ≠ 0) (some ((rd M a0 7)))
set_option maxRecDepth 100000 in
set_option maxHeartbeats 4000000 in
theorem xe_X10_tellGroup {D : Dt} {M : Mm} {a0 a1 : Int} : XE D 0 mu_X10_tellGroup (EP 0 M) 0 [(0, (4, a0)), (1, (0, a1))] [] M (p_X10_tellGroup M a0 a1) := by
  unfold p_X10_tellGroup
  refine XE.go (st_iload_n (j := 1) (i := 1) (pc' := 1) (by decide +kernel) rfl rfl rfl) ?_
  refine XE.ite (fun h1 => ?_) (fun h2 => ?_)
  · refine XE.go (st_tab_in (dflt := 74) (lo := 0) (hi := 4) (offs := #[35, 40, 45, 58, 66]) (len := 35) (off := 35) (pc' := 36) (by decide +kernel) 0 h1 (by decide) (by decide) (by decide) (by decide)) ?_
    refine XE.go (st_aload_n (j := 0) (i := 0) (pc' := 37) (by decide +kernel) rfl rfl (by decide) rfl) ?_
    refine XE.gd_ (fun g3 => ?_)
    refine XE.go (st_get (pc' := 40) (by decide +kernel) rfl cls_0 fld_RX10_559 rfl rfl g3) ?_
    exact XE.rt rfl (X_iret (by decide +kernel) rfl)
  refine XE.ite (fun h4 => ?_) (fun h5 => ?_)
  · refine XE.go (st_tab_in (dflt := 74) (lo := 0) (hi := 4) (offs := #[35, 40, 45, 58, 66]) (len := 35) (off := 40) (pc' := 41) (by decide +kernel) 1 h4 (by decide) (by decide) (by decide) (by decide)) ?_
    refine XE.go (st_aload_n (j := 0) (i := 0) (pc' := 42) (by decide +kernel) rfl rfl (by decide) rfl) ?_
    refine XE.gd_ (fun g6 => ?_)
    refine XE.cP (pc' := 45) (st := []) (fun r hr => ct_X0_memberBits g6 r hr) (fun r hr => run_V (st := []) (by decide +kernel) co_X10_tellGroup_562 (ct_X0_memberBits g6 r hr) rfl g6 rfl rfl (Nat.le_of_ble_eq_true rfl)) rfl rfl (fun r7 => ?_)
    exact XE.rt rfl (X_iret (by decide +kernel) rfl)
  refine XE.ite (fun h8 => ?_) (fun h9 => ?_)
  · refine XE.go (st_tab_in (dflt := 74) (lo := 0) (hi := 4) (offs := #[35, 40, 45, 58, 66]) (len := 35) (off := 45) (pc' := 46) (by decide +kernel) 2 h8 (by decide) (by decide) (by decide) (by decide)) ?_
    refine XE.go (st_aload_n (j := 0) (i := 0) (pc' := 47) (by decide +kernel) rfl rfl (by decide) rfl) ?_
    refine XE.gd_ (fun g10 => ?_)
    refine XE.cP (pc' := 50) (st := []) (fun r hr => ct_X0_isAtRest g10 r hr) (fun r hr => run_V (st := []) (by decide +kernel) co_X10_tellGroup_565 (ct_X0_isAtRest g10 r hr) rfl g10 rfl rfl (Nat.le_of_ble_eq_true rfl)) rfl rfl (fun r11 => ?_)
    refine XE.ite (fun h12 => ?_) (fun h13 => ?_)
    · refine XE.go (st_if_eq_t (off := 7) (pc' := 57) (by decide +kernel) (by decide) h12) ?_
      refine XE.go (st_iconst (n := 0) (pc' := 58) (by decide +kernel) (w_eq (by decide) (by decide)) rfl) ?_
      exact XE.rt rfl (X_iret (by decide +kernel) rfl)
    · refine XE.go (st_if_eq_f (off := 7) (pc' := 53) (by decide +kernel) 57 (by decide) rfl h13) ?_
      refine XE.go (st_iconst (n := 1) (pc' := 54) (by decide +kernel) (w_eq (by decide) (by decide)) rfl) ?_
      refine XE.go (st_goto (off := 4) (pc' := 58) (by decide +kernel) (by decide)) ?_
      exact XE.rt rfl (X_iret (by decide +kernel) rfl)
  refine XE.ite (fun h14 => ?_) (fun h15 => ?_)
  · refine XE.go (st_tab_in (dflt := 74) (lo := 0) (hi := 4) (offs := #[35, 40, 45, 58, 66]) (len := 35) (off := 58) (pc' := 59) (by decide +kernel) 3 h14 (by decide) (by decide) (by decide) (by decide)) ?_
    refine XE.go (st_aload_n (j := 0) (i := 0) (pc' := 60) (by decide +kernel) rfl rfl (by decide) rfl) ?_
    refine XE.gd_ (fun g16 => ?_)
    refine XE.go (st_get (pc' := 63) (by decide +kernel) rfl cls_0 fld_RX10_518 rfl rfl g16) ?_
    refine XE.gd_ (fun g17 => ?_)
    refine XE.go (st_get (pc' := 66) (by decide +kernel) rfl cls_2 fld_RX10_412 rfl rfl g17) ?_
    exact XE.rt rfl (X_iret (by decide +kernel) rfl)
  refine XE.ite (fun h18 => ?_) (fun h19 => ?_)
  · refine XE.go (st_tab_in (dflt := 74) (lo := 0) (hi := 4) (offs := #[35, 40, 45, 58, 66]) (len := 35) (off := 66) (pc' := 67) (by decide +kernel) 4 h18 (by decide) (by decide) (by decide) (by decide)) ?_
    refine XE.go (st_aload_n (j := 0) (i := 0) (pc' := 68) (by decide +kernel) rfl rfl (by decide) rfl) ?_
    refine XE.gd_ (fun g20 => ?_)
    refine XE.go (st_get (pc' := 71) (by decide +kernel) rfl cls_0 fld_RX10_525 rfl rfl g20) ?_
    refine XE.gd_ (fun g21 => ?_)
    refine XE.go (st_get (pc' := 74) (by decide +kernel) rfl cls_2 fld_RX10_412 rfl rfl g21) ?_
    exact XE.rt rfl (X_iret (by decide +kernel) rfl)
  refine XE.go (st_tab_out (dflt := 74) (lo := 0) (hi := 4) (offs := #[35, 40, 45, 58, 66]) (len := 35) (pc' := 75) (by decide +kernel) (by omega) (by decide)) ?_
  refine XE.go (st_aload_n (j := 0) (i := 0) (pc' := 76) (by decide +kernel) rfl rfl (by decide) rfl) ?_
  refine XE.gd_ (fun g22 => ?_)
  refine XE.go (st_get (pc' := 79) (by decide +kernel) rfl cls_0 fld_RX10_568 rfl rfl g22) ?_
  exact XE.rt rfl (X_iret (by decide +kernel) rfl)
theorem ct_X10_tellGroup {D : Dt} {M : Mm} {a0 a1 : Int} (r : Int) (hr : p_X10_tellGroup M a0 a1 = some r) : CT D 0 mu_X10_tellGroup [(4, a0), (0, a1)] M (.inl (some (0, r))) M := CT.of (by decide +kernel) rfl (Nat.le_of_ble_eq_true rfl) (xe_X10_tellGroup r hr)
def p_X10_ofGroup (M : Mm) (a0 a1 a2 : Int) : Option (Int × Int × Mm) := (p_X10_groupOf M a0 a1).bind (thT psT fun v1 M2 => (p_X10_requireWithin M2 a2 0 5).bind (thU psT fun M3 => (p_X10_tellGroup M3 v1 a2).bind fun r4 => some (0, r4, M3)))
set_option maxRecDepth 100000 in
set_option maxHeartbeats 4000000 in
theorem xe_X10_ofGroup {D : Dt} {M : Mm} {a0 a1 a2 : Int} (h0 : a0 ≠ 0) : XE D 0 mu_X10_ofGroup (ET 0) 0 [(0, (14, a0)), (1, (0, a1)), (2, (0, a2))] [] M (p_X10_ofGroup M a0 a1 a2) := by
  unfold p_X10_ofGroup
  refine XE.go (st_aload_n (j := 0) (i := 0) (pc' := 1) (by decide +kernel) rfl rfl (by decide) rfl) ?_
  refine XE.go (st_iload_n (j := 1) (i := 1) (pc' := 2) (by decide +kernel) rfl rfl rfl) ?_
  refine XE.cTg (pc' := 5) (st := []) hfT (fun r hr => ct_X10_groupOf h0 r hr) (fun r hr => run_V (st := []) (by decide +kernel) co_X10_ofGroup_334 (ct_X10_groupOf h0 r hr) rfl h0 rfl rfl (Nat.le_of_ble_eq_true rfl)) rfl rfl rfl (fun v1 M2 => ?_)
  refine XE.go (st_astore_n (j := 3) (i := 3) (pc' := 6) (by decide +kernel) rfl (by decide) rfl (by decide) rfl rfl) ?_
  refine XE.go (st_iload_n (j := 2) (i := 2) (pc' := 7) (by decide +kernel) rfl rfl rfl) ?_
  refine XE.go (st_iconst (n := 0) (pc' := 8) (by decide +kernel) (w_eq (by decide) (by decide)) rfl) ?_
  refine XE.go (st_iconst (n := 5) (pc' := 9) (by decide +kernel) (w_eq (by decide) (by decide)) rfl) ?_
  refine XE.cUg (pc' := 12) (st := []) hfT (fun r hr => ct_X10_requireWithin r hr) (fun r hr => run_S (st := []) (by decide +kernel) co_X10_ofGroup_73 (ct_X10_requireWithin r hr) rfl rfl (Nat.le_of_ble_eq_true rfl)) rfl rfl rfl (fun M3 => ?_)
  refine XE.go (st_aload_n (j := 3) (i := 3) (pc' := 13) (by decide +kernel) rfl rfl (by decide) rfl) ?_
  refine XE.go (st_iload_n (j := 2) (i := 2) (pc' := 14) (by decide +kernel) rfl rfl rfl) ?_
  refine XE.cP (pc' := 17) (st := []) (fun r hr => ct_X10_tellGroup r hr) (fun r hr => run_S (st := []) (by decide +kernel) co_X10_ofGroup_555 (ct_X10_tellGroup r hr) rfl rfl (Nat.le_of_ble_eq_true rfl)) rfl rfl (fun r4 => ?_)
  exact XE.rt rfl (X_iret (by decide +kernel) rfl)
theorem ct_X10_ofGroup {D : Dt} {M : Mm} {a0 a1 a2 : Int} (h0 : a0 ≠ 0) (r : (Int × Int × Mm)) (hr : p_X10_ofGroup M a0 a1 a2 = some r) : CT D 0 mu_X10_ofGroup [(14, a0), (0, a1), (0, a2)] M (ET 0 r).1 (ET 0 r).2 := CT.of (by decide +kernel) rfl (Nat.le_of_ble_eq_true rfl) (xe_X10_ofGroup h0 r hr)
def p_X4_standsAtItsOffset (M : Mm) (a0 : Int) : Option Int := gd ((rd M a0 2) ≠ 0) ((p_X5_logEnd M (rd M a0 2)).bind fun r2 => if (rd M a0 9) < r2 then (p_X5_storedAt M (rd M a0 2) (rd M a0 9)).bind fun r5 => if r5 = a0 then some (1) else some (0) else some (0))
set_option maxRecDepth 100000 in
set_option maxHeartbeats 4000000 in
theorem xe_X4_standsAtItsOffset {D : Dt} {M : Mm} {a0 : Int} (h0 : a0 ≠ 0) : XE D 0 mu_X4_standsAtItsOffset (EP 0 M) 0 [(0, (8, a0))] [] M (p_X4_standsAtItsOffset M a0) := by
  unfold p_X4_standsAtItsOffset
  refine XE.go (st_aload_n (j := 0) (i := 0) (pc' := 1) (by decide +kernel) rfl rfl (by decide) rfl) ?_
  refine XE.go (st_get (pc' := 4) (by decide +kernel) rfl cls_4 fld_RX4_15 rfl rfl h0) ?_
  refine XE.go (st_aload_n (j := 0) (i := 0) (pc' := 5) (by decide +kernel) rfl rfl (by decide) rfl) ?_
  refine XE.go (st_get (pc' := 8) (by decide +kernel) rfl cls_4 fld_RX4_28 rfl rfl h0) ?_
  refine XE.gd_ (fun g1 => ?_)
  refine XE.cP (pc' := 11) (st := [(0, (rd M a0 9))]) (fun r hr => ct_X5_logEnd g1 r hr) (fun r hr => run_V (st := [(0, (rd M a0 9))]) (by decide +kernel) co_X4_standsAtItsOffset_57 (ct_X5_logEnd g1 r hr) rfl g1 rfl rfl (Nat.le_of_ble_eq_true rfl)) rfl rfl (fun r2 => ?_)
  refine XE.ite (fun h3 => ?_) (fun h4 => ?_)
  · refine XE.go (st_icmp_ge_f (off := 22) (pc' := 14) (by decide +kernel) 33 (by decide) rfl (Int.not_le.mpr h3)) ?_
    refine XE.go (st_aload_n (j := 0) (i := 0) (pc' := 15) (by decide +kernel) rfl rfl (by decide) rfl) ?_
    refine XE.go (st_get (pc' := 18) (by decide +kernel) rfl cls_4 fld_RX4_28 rfl rfl h0) ?_
    refine XE.go (st_aload_n (j := 0) (i := 0) (pc' := 19) (by decide +kernel) rfl rfl (by decide) rfl) ?_
    refine XE.go (st_get (pc' := 22) (by decide +kernel) rfl cls_4 fld_RX4_15 rfl rfl h0) ?_
    refine XE.cP (pc' := 25) (st := []) (fun r hr => ct_X5_storedAt g1 r hr) (fun r hr => run_V (st := []) (by decide +kernel) co_X4_standsAtItsOffset_60 (ct_X5_storedAt g1 r hr) rfl g1 rfl rfl (Nat.le_of_ble_eq_true rfl)) rfl rfl (fun r5 => ?_)
    refine XE.go (st_aload_n (j := 0) (i := 0) (pc' := 26) (by decide +kernel) rfl rfl (by decide) rfl) ?_
    refine XE.ite (fun h6 => ?_) (fun h7 => ?_)
    · refine XE.go (st_acmp_ne_f (off := 7) (pc' := 29) (by decide +kernel) 33 (by decide) (by decide) (by decide) h6 rfl) ?_
      refine XE.go (st_iconst (n := 1) (pc' := 30) (by decide +kernel) (w_eq (by decide) (by decide)) rfl) ?_
      refine XE.go (st_goto (off := 4) (pc' := 34) (by decide +kernel) (by decide)) ?_
      exact XE.rt rfl (X_zret (by decide +kernel) rfl (by decide))
    · refine XE.go (st_acmp_ne_t (off := 7) (pc' := 33) (by decide +kernel) (by decide) (by decide) h7 (by decide)) ?_
      refine XE.go (st_iconst (n := 0) (pc' := 34) (by decide +kernel) (w_eq (by decide) (by decide)) rfl) ?_
      exact XE.rt rfl (X_zret (by decide +kernel) rfl (by decide))
  · refine XE.go (st_icmp_ge_t (off := 22) (pc' := 33) (by decide +kernel) (by decide) (Int.not_lt.mp h4)) ?_
    refine XE.go (st_iconst (n := 0) (pc' := 34) (by decide +kernel) (w_eq (by decide) (by decide)) rfl) ?_
    exact XE.rt rfl (X_zret (by decide +kernel) rfl (by decide))
theorem ct_X4_standsAtItsOffset {D : Dt} {M : Mm} {a0 : Int} (h0 : a0 ≠ 0) (r : Int) (hr : p_X4_standsAtItsOffset M a0 = some r) : CT D 0 mu_X4_standsAtItsOffset [(8, a0)] M (.inl (some (0, r))) M := CT.of (by decide +kernel) rfl (Nat.le_of_ble_eq_true rfl) (xe_X4_standsAtItsOffset h0 r hr)
def b_X5_endsHold_22 (v6 : Int) (v3 : Int) (M : Mm) (r1 : Int) (r2 : Int) (s8 : Int) : Option ((Int) ⊕ ((Int) ⊕ (Unit))) := if s8 < v6 then gd (aok v3 s8) ((some ((rd M v3 s8))).bind fun v34 => if v34 = 0 then some (.inl (w (s8 + 1))) else if r1 < (rd M v34 2) then some (.inr (.inl (0))) else if (rd M v34 4) = 0 then some (.inl (w (s8 + 1))) else if (rd M v34 2) < r2 then some (.inr (.inl (0))) else some (.inl (w (s8 + 1)))) else some (.inr (.inr ()))
def p_X5_endsHold (M : Mm) (a0 : Int) : Option Int := (p_X5_logEnd M a0).bind fun r1 => (p_X5_highWatermark M a0).bind fun r2 => (some ((rd M a0 2))).bind fun v3 => gd (v3 ≠ 0) ((some ((ln v3))).bind fun v6 => (lp (b_X5_endsHold_22 v6 v3 M r1 r2) 1000 0).bind (Sum.elim some fun (t9 : Unit) => some (1)))
set_option maxRecDepth 100000 in
set_option maxHeartbeats 4000000 in
theorem xe_X5_endsHold {D : Dt} {M : Mm} {a0 : Int} (h0 : a0 ≠ 0) : XE D 0 mu_X5_endsHold (EP 0 M) 0 [(0, (9, a0))] [] M (p_X5_endsHold M a0) := by
  unfold p_X5_endsHold
  refine XE.go (st_aload_n (j := 0) (i := 0) (pc' := 1) (by decide +kernel) rfl rfl (by decide) rfl) ?_
  refine XE.cP (pc' := 4) (st := []) (fun r hr => ct_X5_logEnd h0 r hr) (fun r hr => run_V (st := []) (by decide +kernel) co_X5_endsHold_95 (ct_X5_logEnd h0 r hr) rfl h0 rfl rfl (Nat.le_of_ble_eq_true rfl)) rfl rfl (fun r1 => ?_)
  refine XE.go (st_istore_n (j := 1) (i := 1) (pc' := 5) (by decide +kernel) rfl rfl (by decide) rfl rfl) ?_
  refine XE.go (st_aload_n (j := 0) (i := 0) (pc' := 6) (by decide +kernel) rfl rfl (by decide) rfl) ?_
  refine XE.cP (pc' := 9) (st := []) (fun r hr => ct_X5_highWatermark h0 r hr) (fun r hr => run_V (st := []) (by decide +kernel) co_X5_endsHold_67 (ct_X5_highWatermark h0 r hr) rfl h0 rfl rfl (Nat.le_of_ble_eq_true rfl)) rfl rfl (fun r2 => ?_)
  refine XE.go (st_istore_n (j := 2) (i := 2) (pc' := 10) (by decide +kernel) rfl rfl (by decide) rfl rfl) ?_
  refine XE.go (st_aload_n (j := 0) (i := 0) (pc' := 11) (by decide +kernel) rfl rfl (by decide) rfl) ?_
  refine XE.go (st_get (pc' := 14) (by decide +kernel) rfl cls_5 fld_RX5_11 rfl rfl h0) ?_
  refine XE.gen (fun v3 e4 => ?_)
  refine XE.go (st_astore_n (j := 3) (i := 3) (pc' := 15) (by decide +kernel) rfl (by decide) rfl (by decide) rfl rfl) ?_
  refine XE.go (st_aload_n (j := 3) (i := 3) (pc' := 16) (by decide +kernel) rfl rfl (by decide) rfl) ?_
  refine XE.gd_ (fun g5 => ?_)
  refine XE.go (st_alen (k := 23) (pc' := 17) (by decide +kernel) rfl ak_23 rfl (by decide) g5) ?_
  refine XE.gen (fun v6 e7 => ?_)
  refine XE.go (st_istore (j := 4) (pc' := 19) (by decide +kernel)  rfl (by decide) rfl rfl) ?_
  refine XE.go (st_iconst (n := 0) (pc' := 20) (by decide +kernel) (w_eq (by decide) (by decide)) rfl) ?_
  refine XE.go (st_istore (j := 5) (pc' := 22) (by decide +kernel)  rfl (by decide) rfl rfl) ?_
  refine XE.pick [4, 3, 2, 1, 0] (L' := [(1, (0, r1)), (2, (0, r2)), (3, (26, v3)), (4, (0, v6)), (5, (0, 0))]) rfl ?_
  refine XE.loopX (n := 1000) (s0 := 0) (pcL := 22) (pcE := 74) (LL := fun (s8 : Int) => [(1, (0, r1)), (2, (0, r2)), (3, (26, v3)), (4, (0, v6)), (5, (0, s8))]) (sL := fun _ => []) (ML := fun (s8 : Int) => M) (LE := fun (t9 : Unit) => []) (sE := fun _ => []) (ME := fun (t9 : Unit) => M) (fun kk30 hx29 hc27 he28 s8 => ?_) (fun t9 => ?_)
  · unfold b_X5_endsHold_22
    refine XE.go (st_iload (j := 5) (pc' := 24) (by decide +kernel) rfl rfl) ?_
    refine XE.go (st_iload (j := 4) (pc' := 26) (by decide +kernel) rfl rfl) ?_
    refine XE.bite (fun h31 => ?_) (fun h32 => ?_)
    · refine XE.go (st_icmp_ge_f (off := 48) (pc' := 29) (by decide +kernel) 74 (by decide) rfl (Int.not_le.mpr h31)) ?_
      refine XE.go (st_aload_n (j := 3) (i := 3) (pc' := 30) (by decide +kernel) rfl rfl (by decide) rfl) ?_
      refine XE.go (st_iload (j := 5) (pc' := 32) (by decide +kernel) rfl rfl) ?_
      refine XE.gdb (fun g33 => ?_)
      refine XE.go (st_ald (k := 23) (tp := 11) (pc' := 33) (by decide +kernel) rfl ak_23 rfl (by decide) rfl (Or.inr (Or.inr (Or.inr ⟨rfl, rfl⟩))) g33.1 g33.2.1 g33.2.2) ?_
      refine XE.asc ?_
      refine XE.gen (fun v34 e35 => ?_)
      refine XE.go (st_astore (j := 6) (pc' := 35) (by decide +kernel)  (by decide) rfl (by decide) rfl rfl) ?_
      refine XE.go (st_aload (j := 6) (pc' := 37) (by decide +kernel) rfl (by decide) rfl) ?_
      refine XE.bite (fun h36 => ?_) (fun h37 => ?_)
      · refine XE.go (st_ifnull_t (off := 31) (pc' := 68) (by decide +kernel) (by decide) h36 (by decide)) ?_
        refine XE.go (st_iinc (j := 5) (n := 1) (pc' := 71) (by decide +kernel) rfl rfl (by decide) rfl rfl) ?_
        refine XE.go (st_goto (off := (-49)) (pc' := 22) (by decide +kernel) (by decide)) ?_
        exact XE.pick [2, 3, 4, 5, 0] rfl (hc27 (w (s8 + 1)))
      · refine XE.go (st_ifnull_f (off := 31) (pc' := 40) (by decide +kernel) (by decide) h37 rfl) ?_
        refine XE.go (st_aload (j := 6) (pc' := 42) (by decide +kernel) rfl (by decide) rfl) ?_
        refine XE.go (st_get (pc' := 45) (by decide +kernel) rfl cls_7 fld_RX5_53 rfl rfl h37) ?_
        refine XE.go (st_iload_n (j := 1) (i := 1) (pc' := 46) (by decide +kernel) rfl rfl rfl) ?_
        refine XE.bite (fun h38 => ?_) (fun h39 => ?_)
        · refine XE.go (st_icmp_gt_t (off := 20) (pc' := 66) (by decide +kernel) (by decide) h38) ?_
          refine XE.go (st_iconst (n := 0) (pc' := 67) (by decide +kernel) (w_eq (by decide) (by decide)) rfl) ?_
          refine XE.cast (hx29 _) ?_
          exact XE.rt rfl (X_zret (by decide +kernel) rfl (by decide))
        · refine XE.go (st_icmp_gt_f (off := 20) (pc' := 49) (by decide +kernel) 66 (by decide) rfl h39) ?_
          refine XE.go (st_aload (j := 6) (pc' := 51) (by decide +kernel) rfl (by decide) rfl) ?_
          refine XE.go (st_get (pc' := 54) (by decide +kernel) rfl cls_7 fld_RX5_49 rfl rfl h37) ?_
          refine XE.bite (fun h40 => ?_) (fun h41 => ?_)
          · refine XE.go (st_if_eq_t (off := 14) (pc' := 68) (by decide +kernel) (by decide) h40) ?_
            refine XE.go (st_iinc (j := 5) (n := 1) (pc' := 71) (by decide +kernel) rfl rfl (by decide) rfl rfl) ?_
            refine XE.go (st_goto (off := (-49)) (pc' := 22) (by decide +kernel) (by decide)) ?_
            exact XE.pick [2, 3, 4, 5, 0] rfl (hc27 (w (s8 + 1)))
          · refine XE.go (st_if_eq_f (off := 14) (pc' := 57) (by decide +kernel) 68 (by decide) rfl h41) ?_
            refine XE.go (st_iload_n (j := 2) (i := 2) (pc' := 58) (by decide +kernel) rfl rfl rfl) ?_
            refine XE.go (st_aload (j := 6) (pc' := 60) (by decide +kernel) rfl (by decide) rfl) ?_
            refine XE.go (st_get (pc' := 63) (by decide +kernel) rfl cls_7 fld_RX5_53 rfl rfl h37) ?_
            refine XE.bite (fun h42 => ?_) (fun h43 => ?_)
            · refine XE.go (st_icmp_le_f (off := 5) (pc' := 66) (by decide +kernel) 68 (by decide) rfl (Int.not_le.mpr h42)) ?_
              refine XE.go (st_iconst (n := 0) (pc' := 67) (by decide +kernel) (w_eq (by decide) (by decide)) rfl) ?_
              refine XE.cast (hx29 _) ?_
              exact XE.rt rfl (X_zret (by decide +kernel) rfl (by decide))
            · refine XE.go (st_icmp_le_t (off := 5) (pc' := 68) (by decide +kernel) (by decide) (Int.not_lt.mp h43)) ?_
              refine XE.go (st_iinc (j := 5) (n := 1) (pc' := 71) (by decide +kernel) rfl rfl (by decide) rfl rfl) ?_
              refine XE.go (st_goto (off := (-49)) (pc' := 22) (by decide +kernel) (by decide)) ?_
              exact XE.pick [2, 3, 4, 5, 0] rfl (hc27 (w (s8 + 1)))
    · refine XE.go (st_icmp_ge_t (off := 48) (pc' := 74) (by decide +kernel) (by decide) (Int.not_lt.mp h32)) ?_
      exact XE.pick [] rfl (he28 ())
  · refine XE.go (st_iconst (n := 1) (pc' := 75) (by decide +kernel) (w_eq (by decide) (by decide)) rfl) ?_
    exact XE.rt rfl (X_zret (by decide +kernel) rfl (by decide))
theorem ct_X5_endsHold {D : Dt} {M : Mm} {a0 : Int} (h0 : a0 ≠ 0) (r : Int) (hr : p_X5_endsHold M a0 = some r) : CT D 0 mu_X5_endsHold [(9, a0)] M (.inl (some (0, r))) M := CT.of (by decide +kernel) rfl (Nat.le_of_ble_eq_true rfl) (xe_X5_endsHold h0 r hr)
def b_X5_ticksHold_4 (M : Mm) (a0 : Int) (s1 : Int × Int) : Option ((Int × Int) ⊕ ((Int) ⊕ (Unit))) := gd ((rd M a0 3) ≠ 0) (if s1.2 < (ln (rd M a0 3)) then (p_X5_storedAt M a0 s1.2).bind fun r24 => if r24 = 0 then some (.inl (s1.1, (w (s1.2 + 1)))) else if (rd M r24 10) < s1.1 then some (.inr (.inl (0))) else (some ((rd M r24 10))).bind fun v29 => some (.inl (v29, (w (s1.2 + 1)))) else some (.inr (.inr ())))
def p_X5_ticksHold (M : Mm) (a0 : Int) : Option Int := (lp (b_X5_ticksHold_4 M a0) 1000 (0, 0)).bind (Sum.elim some fun (t2 : Unit) => some (1))
set_option maxRecDepth 100000 in
set_option maxHeartbeats 4000000 in
theorem xe_X5_ticksHold {D : Dt} {M : Mm} {a0 : Int} (h0 : a0 ≠ 0) : XE D 0 mu_X5_ticksHold (EP 0 M) 0 [(0, (9, a0))] [] M (p_X5_ticksHold M a0) := by
  unfold p_X5_ticksHold
  refine XE.go (st_iconst (n := 0) (pc' := 1) (by decide +kernel) (w_eq (by decide) (by decide)) rfl) ?_
  refine XE.go (st_istore_n (j := 1) (i := 1) (pc' := 2) (by decide +kernel) rfl rfl (by decide) rfl rfl) ?_
  refine XE.go (st_iconst (n := 0) (pc' := 3) (by decide +kernel) (w_eq (by decide) (by decide)) rfl) ?_
  refine XE.go (st_istore_n (j := 2) (i := 2) (pc' := 4) (by decide +kernel) rfl rfl (by decide) rfl rfl) ?_
  refine XE.pick [2, 1, 0] (L' := [(0, (9, a0)), (1, (0, 0)), (2, (0, 0))]) rfl ?_
  refine XE.loopX (n := 1000) (s0 := (0, 0)) (pcL := 4) (pcE := 44) (LL := fun (s1 : Int × Int) => [(0, (9, a0)), (1, (0, s1.1)), (2, (0, s1.2))]) (sL := fun _ => []) (ML := fun (s1 : Int × Int) => M) (LE := fun (t2 : Unit) => []) (sE := fun _ => []) (ME := fun (t2 : Unit) => M) (fun kk20 hx19 hc17 he18 s1 => ?_) (fun t2 => ?_)
  · unfold b_X5_ticksHold_4
    refine XE.go (st_iload_n (j := 2) (i := 2) (pc' := 5) (by decide +kernel) rfl rfl rfl) ?_
    refine XE.go (st_aload_n (j := 0) (i := 0) (pc' := 6) (by decide +kernel) rfl rfl (by decide) rfl) ?_
    refine XE.go (st_get (pc' := 9) (by decide +kernel) rfl cls_5 fld_RX5_19 rfl rfl h0) ?_
    refine XE.gdb (fun g21 => ?_)
    refine XE.go (st_alen (k := 20) (pc' := 10) (by decide +kernel) rfl ak_20 rfl (by decide) g21) ?_
    refine XE.bite (fun h22 => ?_) (fun h23 => ?_)
    · refine XE.go (st_icmp_ge_f (off := 34) (pc' := 13) (by decide +kernel) 44 (by decide) rfl (Int.not_le.mpr h22)) ?_
      refine XE.go (st_aload_n (j := 0) (i := 0) (pc' := 14) (by decide +kernel) rfl rfl (by decide) rfl) ?_
      refine XE.go (st_iload_n (j := 2) (i := 2) (pc' := 15) (by decide +kernel) rfl rfl rfl) ?_
      refine XE.asc ?_
      refine XE.cP (pc' := 18) (st := []) (fun r hr => ct_X5_storedAt h0 r hr) (fun r hr => run_V (st := []) (by decide +kernel) co_X5_ticksHold_81 (ct_X5_storedAt h0 r hr) rfl h0 rfl rfl (Nat.le_of_ble_eq_true rfl)) rfl rfl (fun r24 => ?_)
      refine XE.go (st_astore_n (j := 3) (i := 3) (pc' := 19) (by decide +kernel) rfl (by decide) rfl (by decide) rfl rfl) ?_
      refine XE.go (st_aload_n (j := 3) (i := 3) (pc' := 20) (by decide +kernel) rfl rfl (by decide) rfl) ?_
      refine XE.bite (fun h25 => ?_) (fun h26 => ?_)
      · refine XE.go (st_ifnull_t (off := 18) (pc' := 38) (by decide +kernel) (by decide) h25 (by decide)) ?_
        refine XE.go (st_iinc (j := 2) (n := 1) (pc' := 41) (by decide +kernel) rfl rfl (by decide) rfl rfl) ?_
        refine XE.go (st_goto (off := (-37)) (pc' := 4) (by decide +kernel) (by decide)) ?_
        exact XE.pick [2, 3, 0] rfl (hc17 (s1.1, (w (s1.2 + 1))))
      · refine XE.go (st_ifnull_f (off := 18) (pc' := 23) (by decide +kernel) (by decide) h26 rfl) ?_
        refine XE.go (st_aload_n (j := 3) (i := 3) (pc' := 24) (by decide +kernel) rfl rfl (by decide) rfl) ?_
        refine XE.go (st_get (pc' := 27) (by decide +kernel) rfl cls_4 fld_RX5_101 rfl rfl h26) ?_
        refine XE.go (st_iload_n (j := 1) (i := 1) (pc' := 28) (by decide +kernel) rfl rfl rfl) ?_
        refine XE.bite (fun h27 => ?_) (fun h28 => ?_)
        · refine XE.go (st_icmp_ge_f (off := 5) (pc' := 31) (by decide +kernel) 33 (by decide) rfl (Int.not_le.mpr h27)) ?_
          refine XE.go (st_iconst (n := 0) (pc' := 32) (by decide +kernel) (w_eq (by decide) (by decide)) rfl) ?_
          refine XE.cast (hx19 _) ?_
          exact XE.rt rfl (X_zret (by decide +kernel) rfl (by decide))
        · refine XE.go (st_icmp_ge_t (off := 5) (pc' := 33) (by decide +kernel) (by decide) (Int.not_lt.mp h28)) ?_
          refine XE.go (st_aload_n (j := 3) (i := 3) (pc' := 34) (by decide +kernel) rfl rfl (by decide) rfl) ?_
          refine XE.go (st_get (pc' := 37) (by decide +kernel) rfl cls_4 fld_RX5_101 rfl rfl h26) ?_
          refine XE.asc ?_
          refine XE.gen (fun v29 e30 => ?_)
          refine XE.go (st_istore_n (j := 1) (i := 1) (pc' := 38) (by decide +kernel) rfl rfl (by decide) rfl rfl) ?_
          refine XE.go (st_iinc (j := 2) (n := 1) (pc' := 41) (by decide +kernel) rfl rfl (by decide) rfl rfl) ?_
          refine XE.go (st_goto (off := (-37)) (pc' := 4) (by decide +kernel) (by decide)) ?_
          exact XE.pick [3, 1, 0] rfl (hc17 (v29, (w (s1.2 + 1))))
    · refine XE.go (st_icmp_ge_t (off := 34) (pc' := 44) (by decide +kernel) (by decide) (Int.not_lt.mp h23)) ?_
      exact XE.pick [] rfl (he18 ())
  · refine XE.go (st_iconst (n := 1) (pc' := 45) (by decide +kernel) (w_eq (by decide) (by decide)) rfl) ?_
    exact XE.rt rfl (X_zret (by decide +kernel) rfl (by decide))
theorem ct_X5_ticksHold {D : Dt} {M : Mm} {a0 : Int} (h0 : a0 ≠ 0) (r : Int) (hr : p_X5_ticksHold M a0 = some r) : CT D 0 mu_X5_ticksHold [(9, a0)] M (.inl (some (0, r))) M := CT.of (by decide +kernel) rfl (Nat.le_of_ble_eq_true rfl) (xe_X5_ticksHold h0 r hr)
def b_X10_logsHold_60 (v43 : Int) (v40 : Int) (M : Mm) (s45 : Int) : Option ((Int) ⊕ ((Int) ⊕ (Unit))) := if s45 < v43 then gd (aok v40 s45) ((some ((rd M v40 s45))).bind fun v71 => if v71 = 0 then some (.inl (w (s45 + 1))) else (p_X5_endsHold M v71).bind fun r75 => if r75 = 0 then some (.inr (.inl (0))) else (p_X5_ticksHold M v71).bind fun r78 => if r78 = 0 then some (.inr (.inl (0))) else some (.inl (w (s45 + 1)))) else some (.inr (.inr ()))
def b_X10_logsHold_10 (v4 : Int) (v1 : Int) (M : Mm) (s6 : Int) : Option ((Int) ⊕ ((Int) ⊕ (Unit))) := if s6 < v4 then gd (aok v1 s6) ((some ((rd M v1 s6))).bind fun v31 => if v31 = 0 then some (.inl (w (s6 + 1))) else if (rd M v31 7) = 1 then (p_X4_standsAtItsOffset M v31).bind fun r37 => if r37 = 0 then some (.inr (.inl (0))) else some (.inl (w (s6 + 1))) else some (.inl (w (s6 + 1)))) else some (.inr (.inr ()))
def p_X10_logsHold (M : Mm) (a0 : Int) : Option Int := (some ((rd M a0 4))).bind fun v1 => gd (v1 ≠ 0) ((some ((ln v1))).bind fun v4 => (lp (b_X10_logsHold_10 v4 v1 M) 1000 0).bind (Sum.elim some fun (t7 : Unit) => (some ((rd M a0 1))).bind fun v40 => gd (v40 ≠ 0) ((some ((ln v40))).bind fun v43 => (lp (b_X10_logsHold_60 v43 v40 M) 1000 0).bind (Sum.elim some fun (t46 : Unit) => some (1)))))
set_option maxRecDepth 100000 in
set_option maxHeartbeats 4000000 in
theorem xe_X10_logsHold {D : Dt} {M : Mm} {a0 : Int} (h0 : a0 ≠ 0) : XE D 0 mu_X10_logsHold (EP 0 M) 0 [(0, (14, a0))] [] M (p_X10_logsHold M a0) := by
  unfold p_X10_logsHold
  refine XE.go (st_aload_n (j := 0) (i := 0) (pc' := 1) (by decide +kernel) rfl rfl (by decide) rfl) ?_
  refine XE.go (st_get (pc' := 4) (by decide +kernel) rfl cls_10 fld_RX10_35 rfl rfl h0) ?_
  refine XE.gen (fun v1 e2 => ?_)
  refine XE.go (st_astore_n (j := 1) (i := 1) (pc' := 5) (by decide +kernel) rfl (by decide) rfl (by decide) rfl rfl) ?_
  refine XE.go (st_aload_n (j := 1) (i := 1) (pc' := 6) (by decide +kernel) rfl rfl (by decide) rfl) ?_
  refine XE.gd_ (fun g3 => ?_)
  refine XE.go (st_alen (k := 20) (pc' := 7) (by decide +kernel) rfl ak_20 rfl (by decide) g3) ?_
  refine XE.gen (fun v4 e5 => ?_)
  refine XE.go (st_istore_n (j := 2) (i := 2) (pc' := 8) (by decide +kernel) rfl rfl (by decide) rfl rfl) ?_
  refine XE.go (st_iconst (n := 0) (pc' := 9) (by decide +kernel) (w_eq (by decide) (by decide)) rfl) ?_
  refine XE.go (st_istore_n (j := 3) (i := 3) (pc' := 10) (by decide +kernel) rfl rfl (by decide) rfl rfl) ?_
  refine XE.pick [3, 2, 1, 0] (L' := [(0, (14, a0)), (1, (23, v1)), (2, (0, v4)), (3, (0, 0))]) rfl ?_
  refine XE.loopX (n := 1000) (s0 := 0) (pcL := 10) (pcE := 50) (LL := fun (s6 : Int) => [(0, (14, a0)), (1, (23, v1)), (2, (0, v4)), (3, (0, s6))]) (sL := fun _ => []) (ML := fun (s6 : Int) => M) (LE := fun (t7 : Unit) => [(0, (14, a0))]) (sE := fun _ => []) (ME := fun (t7 : Unit) => M) (fun kk27 hx26 hc24 he25 s6 => ?_) (fun t7 => ?_)
  · unfold b_X10_logsHold_10
    refine XE.go (st_iload_n (j := 3) (i := 3) (pc' := 11) (by decide +kernel) rfl rfl rfl) ?_
    refine XE.go (st_iload_n (j := 2) (i := 2) (pc' := 12) (by decide +kernel) rfl rfl rfl) ?_
    refine XE.bite (fun h28 => ?_) (fun h29 => ?_)
    · refine XE.go (st_icmp_ge_f (off := 38) (pc' := 15) (by decide +kernel) 50 (by decide) rfl (Int.not_le.mpr h28)) ?_
      refine XE.go (st_aload_n (j := 1) (i := 1) (pc' := 16) (by decide +kernel) rfl rfl (by decide) rfl) ?_
      refine XE.go (st_iload_n (j := 3) (i := 3) (pc' := 17) (by decide +kernel) rfl rfl rfl) ?_
      refine XE.gdb (fun g30 => ?_)
      refine XE.go (st_ald (k := 20) (tp := 8) (pc' := 18) (by decide +kernel) rfl ak_20 rfl (by decide) rfl (Or.inr (Or.inr (Or.inr ⟨rfl, rfl⟩))) g30.1 g30.2.1 g30.2.2) ?_
      refine XE.asc ?_
      refine XE.gen (fun v31 e32 => ?_)
      refine XE.go (st_astore (j := 4) (pc' := 20) (by decide +kernel)  (by decide) rfl (by decide) rfl rfl) ?_
      refine XE.go (st_aload (j := 4) (pc' := 22) (by decide +kernel) rfl (by decide) rfl) ?_
      refine XE.bite (fun h33 => ?_) (fun h34 => ?_)
      · refine XE.go (st_ifnull_t (off := 22) (pc' := 44) (by decide +kernel) (by decide) h33 (by decide)) ?_
        refine XE.go (st_iinc (j := 3) (n := 1) (pc' := 47) (by decide +kernel) rfl rfl (by decide) rfl rfl) ?_
        refine XE.go (st_goto (off := (-37)) (pc' := 10) (by decide +kernel) (by decide)) ?_
        exact XE.pick [2, 3, 4, 0] rfl (hc24 (w (s6 + 1)))
      · refine XE.go (st_ifnull_f (off := 22) (pc' := 25) (by decide +kernel) (by decide) h34 rfl) ?_
        refine XE.go (st_aload (j := 4) (pc' := 27) (by decide +kernel) rfl (by decide) rfl) ?_
        refine XE.go (st_get (pc' := 30) (by decide +kernel) rfl cls_4 fld_RX10_138 rfl rfl h34) ?_
        refine XE.go (st_iconst (n := 1) (pc' := 31) (by decide +kernel) (w_eq (by decide) (by decide)) rfl) ?_
        refine XE.bite (fun h35 => ?_) (fun h36 => ?_)
        · refine XE.go (st_icmp_ne_f (off := 13) (pc' := 34) (by decide +kernel) 44 (by decide) rfl (not_not_intro h35)) ?_
          refine XE.go (st_aload (j := 4) (pc' := 36) (by decide +kernel) rfl (by decide) rfl) ?_
          refine XE.asc ?_
          refine XE.cP (pc' := 39) (st := []) (fun r hr => ct_X4_standsAtItsOffset h34 r hr) (fun r hr => run_V (st := []) (by decide +kernel) co_X10_logsHold_589 (ct_X4_standsAtItsOffset h34 r hr) rfl h34 rfl rfl (Nat.le_of_ble_eq_true rfl)) rfl rfl (fun r37 => ?_)
          refine XE.bite (fun h38 => ?_) (fun h39 => ?_)
          · refine XE.go (st_if_ne_f (off := 5) (pc' := 42) (by decide +kernel) 44 (by decide) rfl (not_not_intro h38)) ?_
            refine XE.go (st_iconst (n := 0) (pc' := 43) (by decide +kernel) (w_eq (by decide) (by decide)) rfl) ?_
            refine XE.cast (hx26 _) ?_
            exact XE.rt rfl (X_zret (by decide +kernel) rfl (by decide))
          · refine XE.go (st_if_ne_t (off := 5) (pc' := 44) (by decide +kernel) (by decide) h39) ?_
            refine XE.go (st_iinc (j := 3) (n := 1) (pc' := 47) (by decide +kernel) rfl rfl (by decide) rfl rfl) ?_
            refine XE.go (st_goto (off := (-37)) (pc' := 10) (by decide +kernel) (by decide)) ?_
            exact XE.pick [2, 3, 4, 0] rfl (hc24 (w (s6 + 1)))
        · refine XE.go (st_icmp_ne_t (off := 13) (pc' := 44) (by decide +kernel) (by decide) h36) ?_
          refine XE.go (st_iinc (j := 3) (n := 1) (pc' := 47) (by decide +kernel) rfl rfl (by decide) rfl rfl) ?_
          refine XE.go (st_goto (off := (-37)) (pc' := 10) (by decide +kernel) (by decide)) ?_
          exact XE.pick [2, 3, 4, 0] rfl (hc24 (w (s6 + 1)))
    · refine XE.go (st_icmp_ge_t (off := 38) (pc' := 50) (by decide +kernel) (by decide) (Int.not_lt.mp h29)) ?_
      exact XE.pick [0] rfl (he25 ())
  · refine XE.go (st_aload_n (j := 0) (i := 0) (pc' := 51) (by decide +kernel) rfl rfl (by decide) rfl) ?_
    refine XE.go (st_get (pc' := 54) (by decide +kernel) rfl cls_10 fld_RX10_17 rfl rfl h0) ?_
    refine XE.gen (fun v40 e41 => ?_)
    refine XE.go (st_astore_n (j := 1) (i := 1) (pc' := 55) (by decide +kernel) rfl (by decide) rfl (by decide) rfl rfl) ?_
    refine XE.go (st_aload_n (j := 1) (i := 1) (pc' := 56) (by decide +kernel) rfl rfl (by decide) rfl) ?_
    refine XE.gd_ (fun g42 => ?_)
    refine XE.go (st_alen (k := 21) (pc' := 57) (by decide +kernel) rfl ak_21 rfl (by decide) g42) ?_
    refine XE.gen (fun v43 e44 => ?_)
    refine XE.go (st_istore_n (j := 2) (i := 2) (pc' := 58) (by decide +kernel) rfl rfl (by decide) rfl rfl) ?_
    refine XE.go (st_iconst (n := 0) (pc' := 59) (by decide +kernel) (w_eq (by decide) (by decide)) rfl) ?_
    refine XE.go (st_istore_n (j := 3) (i := 3) (pc' := 60) (by decide +kernel) rfl rfl (by decide) rfl rfl) ?_
    refine XE.pick [2, 1, 0] (L' := [(1, (24, v40)), (2, (0, v43)), (3, (0, 0))]) rfl ?_
    refine XE.loopX (n := 1000) (s0 := 0) (pcL := 60) (pcE := 99) (LL := fun (s45 : Int) => [(1, (24, v40)), (2, (0, v43)), (3, (0, s45))]) (sL := fun _ => []) (ML := fun (s45 : Int) => M) (LE := fun (t46 : Unit) => []) (sE := fun _ => []) (ME := fun (t46 : Unit) => M) (fun kk67 hx66 hc64 he65 s45 => ?_) (fun t46 => ?_)
    · unfold b_X10_logsHold_60
      refine XE.go (st_iload_n (j := 3) (i := 3) (pc' := 61) (by decide +kernel) rfl rfl rfl) ?_
      refine XE.go (st_iload_n (j := 2) (i := 2) (pc' := 62) (by decide +kernel) rfl rfl rfl) ?_
      refine XE.bite (fun h68 => ?_) (fun h69 => ?_)
      · refine XE.go (st_icmp_ge_f (off := 37) (pc' := 65) (by decide +kernel) 99 (by decide) rfl (Int.not_le.mpr h68)) ?_
        refine XE.go (st_aload_n (j := 1) (i := 1) (pc' := 66) (by decide +kernel) rfl rfl (by decide) rfl) ?_
        refine XE.go (st_iload_n (j := 3) (i := 3) (pc' := 67) (by decide +kernel) rfl rfl rfl) ?_
        refine XE.gdb (fun g70 => ?_)
        refine XE.go (st_ald (k := 21) (tp := 9) (pc' := 68) (by decide +kernel) rfl ak_21 rfl (by decide) rfl (Or.inr (Or.inr (Or.inr ⟨rfl, rfl⟩))) g70.1 g70.2.1 g70.2.2) ?_
        refine XE.asc ?_
        refine XE.gen (fun v71 e72 => ?_)
        refine XE.go (st_astore (j := 4) (pc' := 70) (by decide +kernel)  (by decide) rfl (by decide) rfl rfl) ?_
        refine XE.go (st_aload (j := 4) (pc' := 72) (by decide +kernel) rfl (by decide) rfl) ?_
        refine XE.bite (fun h73 => ?_) (fun h74 => ?_)
        · refine XE.go (st_ifnull_t (off := 21) (pc' := 93) (by decide +kernel) (by decide) h73 (by decide)) ?_
          refine XE.go (st_iinc (j := 3) (n := 1) (pc' := 96) (by decide +kernel) rfl rfl (by decide) rfl rfl) ?_
          refine XE.go (st_goto (off := (-36)) (pc' := 60) (by decide +kernel) (by decide)) ?_
          exact XE.pick [2, 3, 0] rfl (hc64 (w (s45 + 1)))
        · refine XE.go (st_ifnull_f (off := 21) (pc' := 75) (by decide +kernel) (by decide) h74 rfl) ?_
          refine XE.go (st_aload (j := 4) (pc' := 77) (by decide +kernel) rfl (by decide) rfl) ?_
          refine XE.asc ?_
          refine XE.cP (pc' := 80) (st := []) (fun r hr => ct_X5_endsHold h74 r hr) (fun r hr => run_V (st := []) (by decide +kernel) co_X10_logsHold_592 (ct_X5_endsHold h74 r hr) rfl h74 rfl rfl (Nat.le_of_ble_eq_true rfl)) rfl rfl (fun r75 => ?_)
          refine XE.bite (fun h76 => ?_) (fun h77 => ?_)
          · refine XE.go (st_if_eq_t (off := 11) (pc' := 91) (by decide +kernel) (by decide) h76) ?_
            refine XE.go (st_iconst (n := 0) (pc' := 92) (by decide +kernel) (w_eq (by decide) (by decide)) rfl) ?_
            refine XE.cast (hx66 _) ?_
            exact XE.rt rfl (X_zret (by decide +kernel) rfl (by decide))
          · refine XE.go (st_if_eq_f (off := 11) (pc' := 83) (by decide +kernel) 91 (by decide) rfl h77) ?_
            refine XE.go (st_aload (j := 4) (pc' := 85) (by decide +kernel) rfl (by decide) rfl) ?_
            refine XE.asc ?_
            refine XE.cP (pc' := 88) (st := []) (fun r hr => ct_X5_ticksHold h74 r hr) (fun r hr => run_V (st := []) (by decide +kernel) co_X10_logsHold_595 (ct_X5_ticksHold h74 r hr) rfl h74 rfl rfl (Nat.le_of_ble_eq_true rfl)) rfl rfl (fun r78 => ?_)
            refine XE.bite (fun h79 => ?_) (fun h80 => ?_)
            · refine XE.go (st_if_ne_f (off := 5) (pc' := 91) (by decide +kernel) 93 (by decide) rfl (not_not_intro h79)) ?_
              refine XE.go (st_iconst (n := 0) (pc' := 92) (by decide +kernel) (w_eq (by decide) (by decide)) rfl) ?_
              refine XE.cast (hx66 _) ?_
              exact XE.rt rfl (X_zret (by decide +kernel) rfl (by decide))
            · refine XE.go (st_if_ne_t (off := 5) (pc' := 93) (by decide +kernel) (by decide) h80) ?_
              refine XE.go (st_iinc (j := 3) (n := 1) (pc' := 96) (by decide +kernel) rfl rfl (by decide) rfl rfl) ?_
              refine XE.go (st_goto (off := (-36)) (pc' := 60) (by decide +kernel) (by decide)) ?_
              exact XE.pick [2, 3, 0] rfl (hc64 (w (s45 + 1)))
      · refine XE.go (st_icmp_ge_t (off := 37) (pc' := 99) (by decide +kernel) (by decide) (Int.not_lt.mp h69)) ?_
        exact XE.pick [] rfl (he65 ())
    · refine XE.go (st_iconst (n := 1) (pc' := 100) (by decide +kernel) (w_eq (by decide) (by decide)) rfl) ?_
      exact XE.rt rfl (X_zret (by decide +kernel) rfl (by decide))
theorem ct_X10_logsHold {D : Dt} {M : Mm} {a0 : Int} (h0 : a0 ≠ 0) (r : Int) (hr : p_X10_logsHold M a0 = some r) : CT D 0 mu_X10_logsHold [(14, a0)] M (.inl (some (0, r))) M := CT.of (by decide +kernel) rfl (Nat.le_of_ble_eq_true rfl) (xe_X10_logsHold h0 r hr)
def p_X4_isDelayed (M : Mm) (a0 : Int) : Option Int := if (rd M a0 5) = (-1) then some (0) else some (1)
set_option maxRecDepth 100000 in
set_option maxHeartbeats 4000000 in
theorem xe_X4_isDelayed {D : Dt} {M : Mm} {a0 : Int} (h0 : a0 ≠ 0) : XE D 0 mu_X4_isDelayed (EP 0 M) 0 [(0, (8, a0))] [] M (p_X4_isDelayed M a0) := by
  unfold p_X4_isDelayed
  refine XE.go (st_aload_n (j := 0) (i := 0) (pc' := 1) (by decide +kernel) rfl rfl (by decide) rfl) ?_
  refine XE.go (st_get (pc' := 4) (by decide +kernel) rfl cls_4 fld_RX4_38 rfl rfl h0) ?_
  refine XE.go (st_iconst (n := (-1)) (pc' := 5) (by decide +kernel) (w_eq (by decide) (by decide)) rfl) ?_
  refine XE.ite (fun h1 => ?_) (fun h2 => ?_)
  · refine XE.go (st_icmp_eq_t (off := 7) (pc' := 12) (by decide +kernel) (by decide) h1) ?_
    refine XE.go (st_iconst (n := 0) (pc' := 13) (by decide +kernel) (w_eq (by decide) (by decide)) rfl) ?_
    exact XE.rt rfl (X_zret (by decide +kernel) rfl (by decide))
  · refine XE.go (st_icmp_eq_f (off := 7) (pc' := 8) (by decide +kernel) 12 (by decide) rfl h2) ?_
    refine XE.go (st_iconst (n := 1) (pc' := 9) (by decide +kernel) (w_eq (by decide) (by decide)) rfl) ?_
    refine XE.go (st_goto (off := 4) (pc' := 13) (by decide +kernel) (by decide)) ?_
    exact XE.rt rfl (X_zret (by decide +kernel) rfl (by decide))
theorem ct_X4_isDelayed {D : Dt} {M : Mm} {a0 : Int} (h0 : a0 ≠ 0) (r : Int) (hr : p_X4_isDelayed M a0 = some r) : CT D 0 mu_X4_isDelayed [(8, a0)] M (.inl (some (0, r))) M := CT.of (by decide +kernel) rfl (Nat.le_of_ble_eq_true rfl) (xe_X4_isDelayed h0 r hr)
def b_X5_numbersRise_14 (v4 : Int) (v1 : Int) (M : Mm) (a1 : Int) (s6 : Int × Int) : Option ((Int × Int) ⊕ ((Int) ⊕ (Unit))) := if s6.2 < v4 then gd (aok v1 s6.2) ((some ((rd M v1 s6.2))).bind fun v38 => if v38 = 0 then some (.inl (s6.1, (w (s6.2 + 1)))) else if (rd M v38 1) = a1 then (p_X4_isDelayed M v38).bind fun r44 => if r44 = 0 then (p_X4_isPlainOrCommitted M v38).bind fun r47 => if r47 = 0 then some (.inl (s6.1, (w (s6.2 + 1)))) else if s6.1 < (rd M v38 0) then (some ((rd M v38 0))).bind fun v52 => some (.inl (v52, (w (s6.2 + 1)))) else some (.inr (.inl (0))) else some (.inl (s6.1, (w (s6.2 + 1)))) else some (.inl (s6.1, (w (s6.2 + 1))))) else some (.inr (.inr ()))
def p_X5_numbersRise (M : Mm) (a0 a1 : Int) : Option Int := (some ((rd M a0 3))).bind fun v1 => gd (v1 ≠ 0) ((some ((ln v1))).bind fun v4 => (lp (b_X5_numbersRise_14 v4 v1 M a1) 1000 ((-1), 0)).bind (Sum.elim some fun (t7 : Unit) => some (1)))
set_option maxRecDepth 100000 in
set_option maxHeartbeats 4000000 in
theorem xe_X5_numbersRise {D : Dt} {M : Mm} {a0 a1 : Int} (h0 : a0 ≠ 0) : XE D 0 mu_X5_numbersRise (EP 0 M) 0 [(0, (9, a0)), (1, (10, a1))] [] M (p_X5_numbersRise M a0 a1) := by
  unfold p_X5_numbersRise
  refine XE.go (st_iconst (n := (-1)) (pc' := 1) (by decide +kernel) (w_eq (by decide) (by decide)) rfl) ?_
  refine XE.go (st_istore_n (j := 2) (i := 2) (pc' := 2) (by decide +kernel) rfl rfl (by decide) rfl rfl) ?_
  refine XE.go (st_aload_n (j := 0) (i := 0) (pc' := 3) (by decide +kernel) rfl rfl (by decide) rfl) ?_
  refine XE.go (st_get (pc' := 6) (by decide +kernel) rfl cls_5 fld_RX5_19 rfl rfl h0) ?_
  refine XE.gen (fun v1 e2 => ?_)
  refine XE.go (st_astore_n (j := 3) (i := 3) (pc' := 7) (by decide +kernel) rfl (by decide) rfl (by decide) rfl rfl) ?_
  refine XE.go (st_aload_n (j := 3) (i := 3) (pc' := 8) (by decide +kernel) rfl rfl (by decide) rfl) ?_
  refine XE.gd_ (fun g3 => ?_)
  refine XE.go (st_alen (k := 20) (pc' := 9) (by decide +kernel) rfl ak_20 rfl (by decide) g3) ?_
  refine XE.gen (fun v4 e5 => ?_)
  refine XE.go (st_istore (j := 4) (pc' := 11) (by decide +kernel)  rfl (by decide) rfl rfl) ?_
  refine XE.go (st_iconst (n := 0) (pc' := 12) (by decide +kernel) (w_eq (by decide) (by decide)) rfl) ?_
  refine XE.go (st_istore (j := 5) (pc' := 14) (by decide +kernel)  rfl (by decide) rfl rfl) ?_
  refine XE.pick [5, 3, 2, 1, 0] (L' := [(1, (10, a1)), (2, (0, (-1))), (3, (23, v1)), (4, (0, v4)), (5, (0, 0))]) rfl ?_
  refine XE.loopX (n := 1000) (s0 := ((-1), 0)) (pcL := 14) (pcE := 80) (LL := fun (s6 : Int × Int) => [(1, (10, a1)), (2, (0, s6.1)), (3, (23, v1)), (4, (0, v4)), (5, (0, s6.2))]) (sL := fun _ => []) (ML := fun (s6 : Int × Int) => M) (LE := fun (t7 : Unit) => []) (sE := fun _ => []) (ME := fun (t7 : Unit) => M) (fun kk34 hx33 hc31 he32 s6 => ?_) (fun t7 => ?_)
  · unfold b_X5_numbersRise_14
    refine XE.go (st_iload (j := 5) (pc' := 16) (by decide +kernel) rfl rfl) ?_
    refine XE.go (st_iload (j := 4) (pc' := 18) (by decide +kernel) rfl rfl) ?_
    refine XE.bite (fun h35 => ?_) (fun h36 => ?_)
    · refine XE.go (st_icmp_ge_f (off := 62) (pc' := 21) (by decide +kernel) 80 (by decide) rfl (Int.not_le.mpr h35)) ?_
      refine XE.go (st_aload_n (j := 3) (i := 3) (pc' := 22) (by decide +kernel) rfl rfl (by decide) rfl) ?_
      refine XE.go (st_iload (j := 5) (pc' := 24) (by decide +kernel) rfl rfl) ?_
      refine XE.gdb (fun g37 => ?_)
      refine XE.go (st_ald (k := 20) (tp := 8) (pc' := 25) (by decide +kernel) rfl ak_20 rfl (by decide) rfl (Or.inr (Or.inr (Or.inr ⟨rfl, rfl⟩))) g37.1 g37.2.1 g37.2.2) ?_
      refine XE.asc ?_
      refine XE.gen (fun v38 e39 => ?_)
      refine XE.go (st_astore (j := 6) (pc' := 27) (by decide +kernel)  (by decide) rfl (by decide) rfl rfl) ?_
      refine XE.go (st_aload (j := 6) (pc' := 29) (by decide +kernel) rfl (by decide) rfl) ?_
      refine XE.bite (fun h40 => ?_) (fun h41 => ?_)
      · refine XE.go (st_ifnull_t (off := 45) (pc' := 74) (by decide +kernel) (by decide) h40 (by decide)) ?_
        refine XE.go (st_iinc (j := 5) (n := 1) (pc' := 77) (by decide +kernel) rfl rfl (by decide) rfl rfl) ?_
        refine XE.go (st_goto (off := (-63)) (pc' := 14) (by decide +kernel) (by decide)) ?_
        exact XE.pick [2, 3, 4, 5, 0] rfl (hc31 (s6.1, (w (s6.2 + 1))))
      · refine XE.go (st_ifnull_f (off := 45) (pc' := 32) (by decide +kernel) (by decide) h41 rfl) ?_
        refine XE.go (st_aload (j := 6) (pc' := 34) (by decide +kernel) rfl (by decide) rfl) ?_
        refine XE.go (st_get (pc' := 37) (by decide +kernel) rfl cls_4 fld_RX5_104 rfl rfl h41) ?_
        refine XE.go (st_aload_n (j := 1) (i := 1) (pc' := 38) (by decide +kernel) rfl rfl (by decide) rfl) ?_
        refine XE.bite (fun h42 => ?_) (fun h43 => ?_)
        · refine XE.go (st_acmp_ne_f (off := 36) (pc' := 41) (by decide +kernel) 74 (by decide) (by decide) (by decide) h42 rfl) ?_
          refine XE.go (st_aload (j := 6) (pc' := 43) (by decide +kernel) rfl (by decide) rfl) ?_
          refine XE.asc ?_
          refine XE.cP (pc' := 46) (st := []) (fun r hr => ct_X4_isDelayed h41 r hr) (fun r hr => run_V (st := []) (by decide +kernel) co_X5_numbersRise_108 (ct_X4_isDelayed h41 r hr) rfl h41 rfl rfl (Nat.le_of_ble_eq_true rfl)) rfl rfl (fun r44 => ?_)
          refine XE.bite (fun h45 => ?_) (fun h46 => ?_)
          · refine XE.go (st_if_ne_f (off := 28) (pc' := 49) (by decide +kernel) 74 (by decide) rfl (not_not_intro h45)) ?_
            refine XE.go (st_aload (j := 6) (pc' := 51) (by decide +kernel) rfl (by decide) rfl) ?_
            refine XE.asc ?_
            refine XE.cP (pc' := 54) (st := []) (fun r hr => ct_X4_isPlainOrCommitted h41 r hr) (fun r hr => run_V (st := []) (by decide +kernel) co_X5_numbersRise_84 (ct_X4_isPlainOrCommitted h41 r hr) rfl h41 rfl rfl (Nat.le_of_ble_eq_true rfl)) rfl rfl (fun r47 => ?_)
            refine XE.bite (fun h48 => ?_) (fun h49 => ?_)
            · refine XE.go (st_if_eq_t (off := 20) (pc' := 74) (by decide +kernel) (by decide) h48) ?_
              refine XE.go (st_iinc (j := 5) (n := 1) (pc' := 77) (by decide +kernel) rfl rfl (by decide) rfl rfl) ?_
              refine XE.go (st_goto (off := (-63)) (pc' := 14) (by decide +kernel) (by decide)) ?_
              exact XE.pick [2, 3, 4, 5, 0] rfl (hc31 (s6.1, (w (s6.2 + 1))))
            · refine XE.go (st_if_eq_f (off := 20) (pc' := 57) (by decide +kernel) 74 (by decide) rfl h49) ?_
              refine XE.go (st_aload (j := 6) (pc' := 59) (by decide +kernel) rfl (by decide) rfl) ?_
              refine XE.go (st_get (pc' := 62) (by decide +kernel) rfl cls_4 fld_RX5_111 rfl rfl h41) ?_
              refine XE.go (st_iload_n (j := 2) (i := 2) (pc' := 63) (by decide +kernel) rfl rfl rfl) ?_
              refine XE.bite (fun h50 => ?_) (fun h51 => ?_)
              · refine XE.go (st_icmp_gt_t (off := 5) (pc' := 68) (by decide +kernel) (by decide) h50) ?_
                refine XE.go (st_aload (j := 6) (pc' := 70) (by decide +kernel) rfl (by decide) rfl) ?_
                refine XE.go (st_get (pc' := 73) (by decide +kernel) rfl cls_4 fld_RX5_111 rfl rfl h41) ?_
                refine XE.asc ?_
                refine XE.gen (fun v52 e53 => ?_)
                refine XE.go (st_istore_n (j := 2) (i := 2) (pc' := 74) (by decide +kernel) rfl rfl (by decide) rfl rfl) ?_
                refine XE.go (st_iinc (j := 5) (n := 1) (pc' := 77) (by decide +kernel) rfl rfl (by decide) rfl rfl) ?_
                refine XE.go (st_goto (off := (-63)) (pc' := 14) (by decide +kernel) (by decide)) ?_
                exact XE.pick [3, 1, 4, 5, 0] rfl (hc31 (v52, (w (s6.2 + 1))))
              · refine XE.go (st_icmp_gt_f (off := 5) (pc' := 66) (by decide +kernel) 68 (by decide) rfl h51) ?_
                refine XE.go (st_iconst (n := 0) (pc' := 67) (by decide +kernel) (w_eq (by decide) (by decide)) rfl) ?_
                refine XE.cast (hx33 _) ?_
                exact XE.rt rfl (X_zret (by decide +kernel) rfl (by decide))
          · refine XE.go (st_if_ne_t (off := 28) (pc' := 74) (by decide +kernel) (by decide) h46) ?_
            refine XE.go (st_iinc (j := 5) (n := 1) (pc' := 77) (by decide +kernel) rfl rfl (by decide) rfl rfl) ?_
            refine XE.go (st_goto (off := (-63)) (pc' := 14) (by decide +kernel) (by decide)) ?_
            exact XE.pick [2, 3, 4, 5, 0] rfl (hc31 (s6.1, (w (s6.2 + 1))))
        · refine XE.go (st_acmp_ne_t (off := 36) (pc' := 74) (by decide +kernel) (by decide) (by decide) h43 (by decide)) ?_
          refine XE.go (st_iinc (j := 5) (n := 1) (pc' := 77) (by decide +kernel) rfl rfl (by decide) rfl rfl) ?_
          refine XE.go (st_goto (off := (-63)) (pc' := 14) (by decide +kernel) (by decide)) ?_
          exact XE.pick [2, 3, 4, 5, 0] rfl (hc31 (s6.1, (w (s6.2 + 1))))
    · refine XE.go (st_icmp_ge_t (off := 62) (pc' := 80) (by decide +kernel) (by decide) (Int.not_lt.mp h36)) ?_
      exact XE.pick [] rfl (he32 ())
  · refine XE.go (st_iconst (n := 1) (pc' := 81) (by decide +kernel) (w_eq (by decide) (by decide)) rfl) ?_
    exact XE.rt rfl (X_zret (by decide +kernel) rfl (by decide))
theorem ct_X5_numbersRise {D : Dt} {M : Mm} {a0 a1 : Int} (h0 : a0 ≠ 0) (r : Int) (hr : p_X5_numbersRise M a0 a1 = some r) : CT D 0 mu_X5_numbersRise [(9, a0), (10, a1)] M (.inl (some (0, r))) M := CT.of (by decide +kernel) rfl (Nat.le_of_ble_eq_true rfl) (xe_X5_numbersRise h0 r hr)
def b_X10_producersHold_34 (v68 : Int) (v65 : Int) (M : Mm) (v63 : Int) (s70 : Int) : Option ((Int) ⊕ (((Int) ⊕ ((Int) ⊕ (Unit))) ⊕ (Unit))) := if s70 < v68 then gd (aok v65 s70) ((some ((rd M v65 s70))).bind fun v95 => if v63 = 0 then some (.inl (w (s70 + 1))) else if v95 = 0 then some (.inl (w (s70 + 1))) else (p_X5_numbersRise M v95 v63).bind fun r101 => if r101 = 0 then some (.inr (.inl (.inr (.inl (0))))) else some (.inl (w (s70 + 1)))) else some (.inr (.inr ()))
def b_X10_producersHold_10 (v4 : Int) (v1 : Int) (M : Mm) (a0 : Int) (s6 : Int) : Option ((Int) ⊕ ((Int) ⊕ (Unit))) := if s6 < v4 then gd (aok v1 s6) ((some ((rd M v1 s6))).bind fun v63 => (some ((rd M a0 1))).bind fun v65 => gd (v65 ≠ 0) ((some ((ln v65))).bind fun v68 => (lp (b_X10_producersHold_34 v68 v65 M v63) 1000 0).bind (Sum.elim some fun (t71 : Unit) => some (.inl (w (s6 + 1)))))) else some (.inr (.inr ()))
def p_X10_producersHold (M : Mm) (a0 : Int) : Option Int := (some ((rd M a0 2))).bind fun v1 => gd (v1 ≠ 0) ((some ((ln v1))).bind fun v4 => (lp (b_X10_producersHold_10 v4 v1 M a0) 1000 0).bind (Sum.elim some fun (t7 : Unit) => some (1)))
set_option maxRecDepth 100000 in
set_option maxHeartbeats 4000000 in
theorem xe_X10_producersHold {D : Dt} {M : Mm} {a0 : Int} (h0 : a0 ≠ 0) : XE D 0 mu_X10_producersHold (EP 0 M) 0 [(0, (14, a0))] [] M (p_X10_producersHold M a0) := by
  unfold p_X10_producersHold
  refine XE.go (st_aload_n (j := 0) (i := 0) (pc' := 1) (by decide +kernel) rfl rfl (by decide) rfl) ?_
  refine XE.go (st_get (pc' := 4) (by decide +kernel) rfl cls_10 fld_RX10_23 rfl rfl h0) ?_
  refine XE.gen (fun v1 e2 => ?_)
  refine XE.go (st_astore_n (j := 1) (i := 1) (pc' := 5) (by decide +kernel) rfl (by decide) rfl (by decide) rfl rfl) ?_
  refine XE.go (st_aload_n (j := 1) (i := 1) (pc' := 6) (by decide +kernel) rfl rfl (by decide) rfl) ?_
  refine XE.gd_ (fun g3 => ?_)
  refine XE.go (st_alen (k := 22) (pc' := 7) (by decide +kernel) rfl ak_22 rfl (by decide) g3) ?_
  refine XE.gen (fun v4 e5 => ?_)
  refine XE.go (st_istore_n (j := 2) (i := 2) (pc' := 8) (by decide +kernel) rfl rfl (by decide) rfl rfl) ?_
  refine XE.go (st_iconst (n := 0) (pc' := 9) (by decide +kernel) (w_eq (by decide) (by decide)) rfl) ?_
  refine XE.go (st_istore_n (j := 3) (i := 3) (pc' := 10) (by decide +kernel) rfl rfl (by decide) rfl rfl) ?_
  refine XE.pick [3, 2, 1, 0] (L' := [(0, (14, a0)), (1, (25, v1)), (2, (0, v4)), (3, (0, 0))]) rfl ?_
  refine XE.loopX (n := 1000) (s0 := 0) (pcL := 10) (pcE := 82) (LL := fun (s6 : Int) => [(0, (14, a0)), (1, (25, v1)), (2, (0, v4)), (3, (0, s6))]) (sL := fun _ => []) (ML := fun (s6 : Int) => M) (LE := fun (t7 : Unit) => []) (sE := fun _ => []) (ME := fun (t7 : Unit) => M) (fun kk59 hx58 hc56 he57 s6 => ?_) (fun t7 => ?_)
  · unfold b_X10_producersHold_10
    refine XE.go (st_iload_n (j := 3) (i := 3) (pc' := 11) (by decide +kernel) rfl rfl rfl) ?_
    refine XE.go (st_iload_n (j := 2) (i := 2) (pc' := 12) (by decide +kernel) rfl rfl rfl) ?_
    refine XE.bite (fun h60 => ?_) (fun h61 => ?_)
    · refine XE.go (st_icmp_ge_f (off := 70) (pc' := 15) (by decide +kernel) 82 (by decide) rfl (Int.not_le.mpr h60)) ?_
      refine XE.go (st_aload_n (j := 1) (i := 1) (pc' := 16) (by decide +kernel) rfl rfl (by decide) rfl) ?_
      refine XE.go (st_iload_n (j := 3) (i := 3) (pc' := 17) (by decide +kernel) rfl rfl rfl) ?_
      refine XE.gdb (fun g62 => ?_)
      refine XE.go (st_ald (k := 22) (tp := 10) (pc' := 18) (by decide +kernel) rfl ak_22 rfl (by decide) rfl (Or.inr (Or.inr (Or.inr ⟨rfl, rfl⟩))) g62.1 g62.2.1 g62.2.2) ?_
      refine XE.asc ?_
      refine XE.gen (fun v63 e64 => ?_)
      refine XE.go (st_astore (j := 4) (pc' := 20) (by decide +kernel)  (by decide) rfl (by decide) rfl rfl) ?_
      refine XE.go (st_aload_n (j := 0) (i := 0) (pc' := 21) (by decide +kernel) rfl rfl (by decide) rfl) ?_
      refine XE.go (st_get (pc' := 24) (by decide +kernel) rfl cls_10 fld_RX10_17 rfl rfl h0) ?_
      refine XE.asc ?_
      refine XE.gen (fun v65 e66 => ?_)
      refine XE.go (st_astore (j := 5) (pc' := 26) (by decide +kernel)  (by decide) rfl (by decide) rfl rfl) ?_
      refine XE.go (st_aload (j := 5) (pc' := 28) (by decide +kernel) rfl (by decide) rfl) ?_
      refine XE.gdb (fun g67 => ?_)
      refine XE.go (st_alen (k := 21) (pc' := 29) (by decide +kernel) rfl ak_21 rfl (by decide) g67) ?_
      refine XE.asc ?_
      refine XE.gen (fun v68 e69 => ?_)
      refine XE.go (st_istore (j := 6) (pc' := 31) (by decide +kernel)  rfl (by decide) rfl rfl) ?_
      refine XE.go (st_iconst (n := 0) (pc' := 32) (by decide +kernel) (w_eq (by decide) (by decide)) rfl) ?_
      refine XE.go (st_istore (j := 7) (pc' := 34) (by decide +kernel)  rfl (by decide) rfl rfl) ?_
      refine XE.pick [4, 5, 6, 7, 3, 2, 1, 0] (L' := [(0, (14, a0)), (1, (25, v1)), (2, (0, v4)), (3, (0, s6)), (4, (10, v63)), (5, (24, v65)), (6, (0, v68)), (7, (0, 0))]) rfl ?_
      refine XE.ascX ?_
      refine XE.loopX (n := 1000) (s0 := 0) (pcL := 34) (pcE := 76) (LL := fun (s70 : Int) => [(0, (14, a0)), (1, (25, v1)), (2, (0, v4)), (3, (0, s6)), (4, (10, v63)), (5, (24, v65)), (6, (0, v68)), (7, (0, s70))]) (sL := fun _ => []) (ML := fun (s70 : Int) => M) (LE := fun (t71 : Unit) => [(0, (14, a0)), (1, (25, v1)), (2, (0, v4)), (3, (0, s6))]) (sE := fun _ => []) (ME := fun (t71 : Unit) => M) (fun kk91 hx90 hc88 he89 s70 => ?_) (fun t71 => ?_)
      · unfold b_X10_producersHold_34
        refine XE.go (st_iload (j := 7) (pc' := 36) (by decide +kernel) rfl rfl) ?_
        refine XE.go (st_iload (j := 6) (pc' := 38) (by decide +kernel) rfl rfl) ?_
        refine XE.bite (fun h92 => ?_) (fun h93 => ?_)
        · refine XE.go (st_icmp_ge_f (off := 38) (pc' := 41) (by decide +kernel) 76 (by decide) rfl (Int.not_le.mpr h92)) ?_
          refine XE.go (st_aload (j := 5) (pc' := 43) (by decide +kernel) rfl (by decide) rfl) ?_
          refine XE.go (st_iload (j := 7) (pc' := 45) (by decide +kernel) rfl rfl) ?_
          refine XE.gdb (fun g94 => ?_)
          refine XE.go (st_ald (k := 21) (tp := 9) (pc' := 46) (by decide +kernel) rfl ak_21 rfl (by decide) rfl (Or.inr (Or.inr (Or.inr ⟨rfl, rfl⟩))) g94.1 g94.2.1 g94.2.2) ?_
          refine XE.asc ?_
          refine XE.gen (fun v95 e96 => ?_)
          refine XE.go (st_astore (j := 8) (pc' := 48) (by decide +kernel)  (by decide) rfl (by decide) rfl rfl) ?_
          refine XE.go (st_aload (j := 4) (pc' := 50) (by decide +kernel) rfl (by decide) rfl) ?_
          refine XE.bite (fun h97 => ?_) (fun h98 => ?_)
          · refine XE.go (st_ifnull_t (off := 20) (pc' := 70) (by decide +kernel) (by decide) h97 (by decide)) ?_
            refine XE.go (st_iinc (j := 7) (n := 1) (pc' := 73) (by decide +kernel) rfl rfl (by decide) rfl rfl) ?_
            refine XE.go (st_goto (off := (-39)) (pc' := 34) (by decide +kernel) (by decide)) ?_
            exact XE.pick [2, 3, 4, 5, 6, 7, 8, 0] rfl (hc88 (w (s70 + 1)))
          · refine XE.go (st_ifnull_f (off := 20) (pc' := 53) (by decide +kernel) (by decide) h98 rfl) ?_
            refine XE.go (st_aload (j := 8) (pc' := 55) (by decide +kernel) rfl (by decide) rfl) ?_
            refine XE.bite (fun h99 => ?_) (fun h100 => ?_)
            · refine XE.go (st_ifnull_t (off := 15) (pc' := 70) (by decide +kernel) (by decide) h99 (by decide)) ?_
              refine XE.go (st_iinc (j := 7) (n := 1) (pc' := 73) (by decide +kernel) rfl rfl (by decide) rfl rfl) ?_
              refine XE.go (st_goto (off := (-39)) (pc' := 34) (by decide +kernel) (by decide)) ?_
              exact XE.pick [2, 3, 4, 5, 6, 7, 8, 0] rfl (hc88 (w (s70 + 1)))
            · refine XE.go (st_ifnull_f (off := 15) (pc' := 58) (by decide +kernel) (by decide) h100 rfl) ?_
              refine XE.go (st_aload (j := 8) (pc' := 60) (by decide +kernel) rfl (by decide) rfl) ?_
              refine XE.go (st_aload (j := 4) (pc' := 62) (by decide +kernel) rfl (by decide) rfl) ?_
              refine XE.asc ?_
              refine XE.cP (pc' := 65) (st := []) (fun r hr => ct_X5_numbersRise h100 r hr) (fun r hr => run_V (st := []) (by decide +kernel) co_X10_producersHold_598 (ct_X5_numbersRise h100 r hr) rfl h100 rfl rfl (Nat.le_of_ble_eq_true rfl)) rfl rfl (fun r101 => ?_)
              refine XE.bite (fun h102 => ?_) (fun h103 => ?_)
              · refine XE.go (st_if_ne_f (off := 5) (pc' := 68) (by decide +kernel) 70 (by decide) rfl (not_not_intro h102)) ?_
                refine XE.go (st_iconst (n := 0) (pc' := 69) (by decide +kernel) (w_eq (by decide) (by decide)) rfl) ?_
                refine XE.cast (hx90 _) ?_
                refine XE.cast (hx58 _) ?_
                exact XE.rt rfl (X_zret (by decide +kernel) rfl (by decide))
              · refine XE.go (st_if_ne_t (off := 5) (pc' := 70) (by decide +kernel) (by decide) h103) ?_
                refine XE.go (st_iinc (j := 7) (n := 1) (pc' := 73) (by decide +kernel) rfl rfl (by decide) rfl rfl) ?_
                refine XE.go (st_goto (off := (-39)) (pc' := 34) (by decide +kernel) (by decide)) ?_
                exact XE.pick [2, 3, 4, 5, 6, 7, 8, 0] rfl (hc88 (w (s70 + 1)))
        · refine XE.go (st_icmp_ge_t (off := 38) (pc' := 76) (by decide +kernel) (by decide) (Int.not_lt.mp h93)) ?_
          exact XE.pick [0, 1, 2, 3] rfl (he89 ())
      · refine XE.go (st_iinc (j := 3) (n := 1) (pc' := 79) (by decide +kernel) rfl rfl (by decide) rfl rfl) ?_
        refine XE.go (st_goto (off := (-69)) (pc' := 10) (by decide +kernel) (by decide)) ?_
        exact XE.pick [1, 2, 3, 0] rfl (hc56 (w (s6 + 1)))
    · refine XE.go (st_icmp_ge_t (off := 70) (pc' := 82) (by decide +kernel) (by decide) (Int.not_lt.mp h61)) ?_
      exact XE.pick [] rfl (he57 ())
  · refine XE.go (st_iconst (n := 1) (pc' := 83) (by decide +kernel) (w_eq (by decide) (by decide)) rfl) ?_
    exact XE.rt rfl (X_zret (by decide +kernel) rfl (by decide))
theorem ct_X10_producersHold {D : Dt} {M : Mm} {a0 : Int} (h0 : a0 ≠ 0) (r : Int) (hr : p_X10_producersHold M a0 = some r) : CT D 0 mu_X10_producersHold [(14, a0)] M (.inl (some (0, r))) M := CT.of (by decide +kernel) rfl (Nat.le_of_ble_eq_true rfl) (xe_X10_producersHold h0 r hr)
def b_X10_wasDelivered_11 (v4 : Int) (v1 : Int) (M : Mm) (a1 : Int) (s6 : Int) : Option ((Int) ⊕ ((Int) ⊕ (Unit))) := if s6 < v4 then gd (aok v1 s6) ((some ((rd M v1 s6))).bind fun v35 => (if v35 = 0 then some (0) else (p_X0_knownLetter M v35 a1).bind fun r43 => some (r43) : Option (Int)).bind fun (s37 : Int) => if s37 = 0 then some (.inl (w (s6 + 1))) else if 0 < (rd M s37 5) then some (.inr (.inl (1))) else some (.inl (w (s6 + 1)))) else some (.inr (.inr ()))
def p_X10_wasDelivered (M : Mm) (a0 a1 : Int) : Option Int := (some ((rd M a0 3))).bind fun v1 => gd (v1 ≠ 0) ((some ((ln v1))).bind fun v4 => (lp (b_X10_wasDelivered_11 v4 v1 M a1) 1000 0).bind (Sum.elim some fun (t7 : Unit) => some (0)))
set_option maxRecDepth 100000 in
set_option maxHeartbeats 4000000 in
theorem xe_X10_wasDelivered {D : Dt} {M : Mm} {a0 a1 : Int} (h0 : a0 ≠ 0) : XE D 0 mu_X10_wasDelivered (EP 0 M) 0 [(0, (14, a0)), (1, (8, a1))] [] M (p_X10_wasDelivered M a0 a1) := by
  unfold p_X10_wasDelivered
  refine XE.go (st_aload_n (j := 0) (i := 0) (pc' := 1) (by decide +kernel) rfl rfl (by decide) rfl) ?_
  refine XE.go (st_get (pc' := 4) (by decide +kernel) rfl cls_10 fld_RX10_29 rfl rfl h0) ?_
  refine XE.gen (fun v1 e2 => ?_)
  refine XE.go (st_astore_n (j := 2) (i := 2) (pc' := 5) (by decide +kernel) rfl (by decide) rfl (by decide) rfl rfl) ?_
  refine XE.go (st_aload_n (j := 2) (i := 2) (pc' := 6) (by decide +kernel) rfl rfl (by decide) rfl) ?_
  refine XE.gd_ (fun g3 => ?_)
  refine XE.go (st_alen (k := 16) (pc' := 7) (by decide +kernel) rfl ak_16 rfl (by decide) g3) ?_
  refine XE.gen (fun v4 e5 => ?_)
  refine XE.go (st_istore_n (j := 3) (i := 3) (pc' := 8) (by decide +kernel) rfl rfl (by decide) rfl rfl) ?_
  refine XE.go (st_iconst (n := 0) (pc' := 9) (by decide +kernel) (w_eq (by decide) (by decide)) rfl) ?_
  refine XE.go (st_istore (j := 4) (pc' := 11) (by decide +kernel)  rfl (by decide) rfl rfl) ?_
  refine XE.pick [4, 2, 1, 0] (L' := [(1, (8, a1)), (2, (19, v1)), (3, (0, v4)), (4, (0, 0))]) rfl ?_
  refine XE.loopX (n := 1000) (s0 := 0) (pcL := 11) (pcE := 61) (LL := fun (s6 : Int) => [(1, (8, a1)), (2, (19, v1)), (3, (0, v4)), (4, (0, s6))]) (sL := fun _ => []) (ML := fun (s6 : Int) => M) (LE := fun (t7 : Unit) => []) (sE := fun _ => []) (ME := fun (t7 : Unit) => M) (fun kk31 hx30 hc28 he29 s6 => ?_) (fun t7 => ?_)
  · unfold b_X10_wasDelivered_11
    refine XE.go (st_iload (j := 4) (pc' := 13) (by decide +kernel) rfl rfl) ?_
    refine XE.go (st_iload_n (j := 3) (i := 3) (pc' := 14) (by decide +kernel) rfl rfl rfl) ?_
    refine XE.bite (fun h32 => ?_) (fun h33 => ?_)
    · refine XE.go (st_icmp_ge_f (off := 47) (pc' := 17) (by decide +kernel) 61 (by decide) rfl (Int.not_le.mpr h32)) ?_
      refine XE.go (st_aload_n (j := 2) (i := 2) (pc' := 18) (by decide +kernel) rfl rfl (by decide) rfl) ?_
      refine XE.go (st_iload (j := 4) (pc' := 20) (by decide +kernel) rfl rfl) ?_
      refine XE.gdb (fun g34 => ?_)
      refine XE.go (st_ald (k := 16) (tp := 4) (pc' := 21) (by decide +kernel) rfl ak_16 rfl (by decide) rfl (Or.inr (Or.inr (Or.inr ⟨rfl, rfl⟩))) g34.1 g34.2.1 g34.2.2) ?_
      refine XE.asc ?_
      refine XE.gen (fun v35 e36 => ?_)
      refine XE.go (st_astore (j := 5) (pc' := 23) (by decide +kernel)  (by decide) rfl (by decide) rfl rfl) ?_
      refine XE.go (st_aload (j := 5) (pc' := 25) (by decide +kernel) rfl (by decide) rfl) ?_
      refine XE.asc ?_
      refine XE.join (pcJ := 38) (LJ := fun (s37 : Int) => [(1, (8, a1)), (2, (19, v1)), (3, (0, v4)), (4, (0, s6))]) (sJ := fun (s37 : Int) => [(5, s37)]) (MJ := fun (s37 : Int) => M) (fun kk40 hk38 => ?_) (fun s37 => ?_)
      · refine XE.bite (fun h41 => ?_) (fun h42 => ?_)
        · refine XE.go (st_ifnonnull_f (off := 7) (pc' := 28) (by decide +kernel) (by decide) h41 rfl) ?_
          refine XE.go (st_null (t := 5) (pc' := 29) (by decide +kernel) (by decide) rfl) ?_
          refine XE.go (st_goto (off := 9) (pc' := 38) (by decide +kernel) (by decide)) ?_
          exact XE.pick [1, 2, 3, 4] rfl (hk38 0)
        · refine XE.go (st_ifnonnull_t (off := 7) (pc' := 32) (by decide +kernel) (by decide) h42 (by decide)) ?_
          refine XE.go (st_aload (j := 5) (pc' := 34) (by decide +kernel) rfl (by decide) rfl) ?_
          refine XE.go (st_aload_n (j := 1) (i := 1) (pc' := 35) (by decide +kernel) rfl rfl (by decide) rfl) ?_
          refine XE.asc ?_
          refine XE.cP (pc' := 38) (st := []) (fun r hr => ct_X0_knownLetter h42 r hr) (fun r hr => run_V (st := []) (by decide +kernel) co_X10_wasDelivered_542 (ct_X0_knownLetter h42 r hr) rfl h42 rfl rfl (Nat.le_of_ble_eq_true rfl)) rfl rfl (fun r43 => ?_)
          exact XE.pick [1, 2, 3, 4] rfl (hk38 r43)
      · refine XE.go (st_astore (j := 6) (pc' := 40) (by decide +kernel)  (by decide) rfl (by decide) rfl rfl) ?_
        refine XE.go (st_aload (j := 6) (pc' := 42) (by decide +kernel) rfl (by decide) rfl) ?_
        refine XE.bite (fun h44 => ?_) (fun h45 => ?_)
        · refine XE.go (st_ifnull_t (off := 13) (pc' := 55) (by decide +kernel) (by decide) h44 (by decide)) ?_
          refine XE.go (st_iinc (j := 4) (n := 1) (pc' := 58) (by decide +kernel) rfl rfl (by decide) rfl rfl) ?_
          refine XE.go (st_goto (off := (-47)) (pc' := 11) (by decide +kernel) (by decide)) ?_
          exact XE.pick [2, 3, 4, 0] rfl (hc28 (w (s6 + 1)))
        · refine XE.go (st_ifnull_f (off := 13) (pc' := 45) (by decide +kernel) (by decide) h45 rfl) ?_
          refine XE.go (st_aload (j := 6) (pc' := 47) (by decide +kernel) rfl (by decide) rfl) ?_
          refine XE.go (st_get (pc' := 50) (by decide +kernel) rfl cls_1 fld_RX10_546 rfl rfl h45) ?_
          refine XE.bite (fun h46 => ?_) (fun h47 => ?_)
          · refine XE.go (st_if_le_f (off := 5) (pc' := 53) (by decide +kernel) 55 (by decide) rfl (Int.not_le.mpr h46)) ?_
            refine XE.go (st_iconst (n := 1) (pc' := 54) (by decide +kernel) (w_eq (by decide) (by decide)) rfl) ?_
            refine XE.cast (hx30 _) ?_
            exact XE.rt rfl (X_zret (by decide +kernel) rfl (by decide))
          · refine XE.go (st_if_le_t (off := 5) (pc' := 55) (by decide +kernel) (by decide) (Int.not_lt.mp h47)) ?_
            refine XE.go (st_iinc (j := 4) (n := 1) (pc' := 58) (by decide +kernel) rfl rfl (by decide) rfl rfl) ?_
            refine XE.go (st_goto (off := (-47)) (pc' := 11) (by decide +kernel) (by decide)) ?_
            exact XE.pick [2, 3, 4, 0] rfl (hc28 (w (s6 + 1)))
    · refine XE.go (st_icmp_ge_t (off := 47) (pc' := 61) (by decide +kernel) (by decide) (Int.not_lt.mp h33)) ?_
      exact XE.pick [] rfl (he29 ())
  · refine XE.go (st_iconst (n := 0) (pc' := 62) (by decide +kernel) (w_eq (by decide) (by decide)) rfl) ?_
    exact XE.rt rfl (X_zret (by decide +kernel) rfl (by decide))
theorem ct_X10_wasDelivered {D : Dt} {M : Mm} {a0 a1 : Int} (h0 : a0 ≠ 0) (r : Int) (hr : p_X10_wasDelivered M a0 a1 = some r) : CT D 0 mu_X10_wasDelivered [(14, a0), (8, a1)] M (.inl (some (0, r))) M := CT.of (by decide +kernel) rfl (Nat.le_of_ble_eq_true rfl) (xe_X10_wasDelivered h0 r hr)
def p_X10_transactionHolds (M : Mm) (a0 a1 : Int) : Option Int := gd (a1 ≠ 0) ((if (rd M a1 7) = 2 then if (rd M a1 8) = 2 then some (.inl (0)) else some (.inr ()) else some (.inr ()) : Option ((Int) ⊕ (Unit))).bind (Sum.elim some fun (s2 : Unit) => if (rd M a1 7) = 3 then some (1) else (p_X10_wasDelivered M a0 a1).bind fun r19 => if r19 = 0 then some (1) else (p_X4_canBeRead M a1).bind fun r22 => if r22 = 0 then some (0) else some (1)))
set_option maxRecDepth 100000 in
set_option maxHeartbeats 4000000 in
theorem xe_X10_transactionHolds {D : Dt} {M : Mm} {a0 a1 : Int} (h0 : a0 ≠ 0) : XE D 0 mu_X10_transactionHolds (EP 0 M) 0 [(0, (14, a0)), (1, (8, a1))] [] M (p_X10_transactionHolds M a0 a1) := by
  unfold p_X10_transactionHolds
  refine XE.go (st_aload_n (j := 1) (i := 1) (pc' := 1) (by decide +kernel) rfl rfl (by decide) rfl) ?_
  refine XE.gd_ (fun g1 => ?_)
  refine XE.go (st_get (pc' := 4) (by decide +kernel) rfl cls_4 fld_RX10_138 rfl rfl g1) ?_
  refine XE.go (st_iconst (n := 2) (pc' := 5) (by decide +kernel) (w_eq (by decide) (by decide)) rfl) ?_
  refine XE.joinX (pcJ := 18) (LJ := fun (s2 : Unit) => [(0, (14, a0)), (1, (8, a1))]) (sJ := fun (s2 : Unit) => []) (MJ := fun (s2 : Unit) => M) (fun kk12 hx11 hk10 => ?_) (fun s2 => ?_)
  · refine XE.bite (fun h13 => ?_) (fun h14 => ?_)
    · refine XE.go (st_icmp_ne_f (off := 13) (pc' := 8) (by decide +kernel) 18 (by decide) rfl (not_not_intro h13)) ?_
      refine XE.go (st_aload_n (j := 1) (i := 1) (pc' := 9) (by decide +kernel) rfl rfl (by decide) rfl) ?_
      refine XE.go (st_get (pc' := 12) (by decide +kernel) rfl cls_4 fld_RX10_141 rfl rfl g1) ?_
      refine XE.go (st_iconst (n := 2) (pc' := 13) (by decide +kernel) (w_eq (by decide) (by decide)) rfl) ?_
      refine XE.bite (fun h15 => ?_) (fun h16 => ?_)
      · refine XE.go (st_icmp_ne_f (off := 5) (pc' := 16) (by decide +kernel) 18 (by decide) rfl (not_not_intro h15)) ?_
        refine XE.go (st_iconst (n := 0) (pc' := 17) (by decide +kernel) (w_eq (by decide) (by decide)) rfl) ?_
        refine XE.cast (hx11 _) ?_
        exact XE.rt rfl (X_zret (by decide +kernel) rfl (by decide))
      · refine XE.go (st_icmp_ne_t (off := 5) (pc' := 18) (by decide +kernel) (by decide) h16) ?_
        exact hk10 ()
    · refine XE.go (st_icmp_ne_t (off := 13) (pc' := 18) (by decide +kernel) (by decide) h14) ?_
      exact hk10 ()
  · refine XE.go (st_aload_n (j := 1) (i := 1) (pc' := 19) (by decide +kernel) rfl rfl (by decide) rfl) ?_
    refine XE.go (st_get (pc' := 22) (by decide +kernel) rfl cls_4 fld_RX10_138 rfl rfl g1) ?_
    refine XE.go (st_iconst (n := 3) (pc' := 23) (by decide +kernel) (w_eq (by decide) (by decide)) rfl) ?_
    refine XE.ite (fun h17 => ?_) (fun h18 => ?_)
    · refine XE.go (st_icmp_eq_t (off := 18) (pc' := 41) (by decide +kernel) (by decide) h17) ?_
      refine XE.go (st_iconst (n := 1) (pc' := 42) (by decide +kernel) (w_eq (by decide) (by decide)) rfl) ?_
      refine XE.go (st_goto (off := 4) (pc' := 46) (by decide +kernel) (by decide)) ?_
      exact XE.rt rfl (X_zret (by decide +kernel) rfl (by decide))
    · refine XE.go (st_icmp_eq_f (off := 18) (pc' := 26) (by decide +kernel) 41 (by decide) rfl h18) ?_
      refine XE.go (st_aload_n (j := 0) (i := 0) (pc' := 27) (by decide +kernel) rfl rfl (by decide) rfl) ?_
      refine XE.go (st_aload_n (j := 1) (i := 1) (pc' := 28) (by decide +kernel) rfl rfl (by decide) rfl) ?_
      refine XE.cP (pc' := 31) (st := []) (fun r hr => ct_X10_wasDelivered h0 r hr) (fun r hr => run_V (st := []) (by decide +kernel) co_X10_transactionHolds_606 (ct_X10_wasDelivered h0 r hr) rfl h0 rfl rfl (Nat.le_of_ble_eq_true rfl)) rfl rfl (fun r19 => ?_)
      refine XE.ite (fun h20 => ?_) (fun h21 => ?_)
      · refine XE.go (st_if_eq_t (off := 10) (pc' := 41) (by decide +kernel) (by decide) h20) ?_
        refine XE.go (st_iconst (n := 1) (pc' := 42) (by decide +kernel) (w_eq (by decide) (by decide)) rfl) ?_
        refine XE.go (st_goto (off := 4) (pc' := 46) (by decide +kernel) (by decide)) ?_
        exact XE.rt rfl (X_zret (by decide +kernel) rfl (by decide))
      · refine XE.go (st_if_eq_f (off := 10) (pc' := 34) (by decide +kernel) 41 (by decide) rfl h21) ?_
        refine XE.go (st_aload_n (j := 1) (i := 1) (pc' := 35) (by decide +kernel) rfl rfl (by decide) rfl) ?_
        refine XE.cP (pc' := 38) (st := []) (fun r hr => ct_X4_canBeRead g1 r hr) (fun r hr => run_V (st := []) (by decide +kernel) co_X10_transactionHolds_478 (ct_X4_canBeRead g1 r hr) rfl g1 rfl rfl (Nat.le_of_ble_eq_true rfl)) rfl rfl (fun r22 => ?_)
        refine XE.ite (fun h23 => ?_) (fun h24 => ?_)
        · refine XE.go (st_if_eq_t (off := 7) (pc' := 45) (by decide +kernel) (by decide) h23) ?_
          refine XE.go (st_iconst (n := 0) (pc' := 46) (by decide +kernel) (w_eq (by decide) (by decide)) rfl) ?_
          exact XE.rt rfl (X_zret (by decide +kernel) rfl (by decide))
        · refine XE.go (st_if_eq_f (off := 7) (pc' := 41) (by decide +kernel) 45 (by decide) rfl h24) ?_
          refine XE.go (st_iconst (n := 1) (pc' := 42) (by decide +kernel) (w_eq (by decide) (by decide)) rfl) ?_
          refine XE.go (st_goto (off := 4) (pc' := 46) (by decide +kernel) (by decide)) ?_
          exact XE.rt rfl (X_zret (by decide +kernel) rfl (by decide))
theorem ct_X10_transactionHolds {D : Dt} {M : Mm} {a0 a1 : Int} (h0 : a0 ≠ 0) (r : Int) (hr : p_X10_transactionHolds M a0 a1 = some r) : CT D 0 mu_X10_transactionHolds [(14, a0), (8, a1)] M (.inl (some (0, r))) M := CT.of (by decide +kernel) rfl (Nat.le_of_ble_eq_true rfl) (xe_X10_transactionHolds h0 r hr)
def b_X10_transactionsHold_10 (v4 : Int) (v1 : Int) (M : Mm) (a0 : Int) (s6 : Int) : Option ((Int) ⊕ ((Int) ⊕ (Unit))) := if s6 < v4 then gd (aok v1 s6) ((some ((rd M v1 s6))).bind fun v29 => if v29 = 0 then some (.inl (w (s6 + 1))) else (p_X10_transactionHolds M a0 v29).bind fun r33 => if r33 = 0 then some (.inr (.inl (0))) else some (.inl (w (s6 + 1)))) else some (.inr (.inr ()))
def p_X10_transactionsHold (M : Mm) (a0 : Int) : Option Int := (some ((rd M a0 4))).bind fun v1 => gd (v1 ≠ 0) ((some ((ln v1))).bind fun v4 => (lp (b_X10_transactionsHold_10 v4 v1 M a0) 1000 0).bind (Sum.elim some fun (t7 : Unit) => some (1)))
set_option maxRecDepth 100000 in
set_option maxHeartbeats 4000000 in
theorem xe_X10_transactionsHold {D : Dt} {M : Mm} {a0 : Int} (h0 : a0 ≠ 0) : XE D 0 mu_X10_transactionsHold (EP 0 M) 0 [(0, (14, a0))] [] M (p_X10_transactionsHold M a0) := by
  unfold p_X10_transactionsHold
  refine XE.go (st_aload_n (j := 0) (i := 0) (pc' := 1) (by decide +kernel) rfl rfl (by decide) rfl) ?_
  refine XE.go (st_get (pc' := 4) (by decide +kernel) rfl cls_10 fld_RX10_35 rfl rfl h0) ?_
  refine XE.gen (fun v1 e2 => ?_)
  refine XE.go (st_astore_n (j := 1) (i := 1) (pc' := 5) (by decide +kernel) rfl (by decide) rfl (by decide) rfl rfl) ?_
  refine XE.go (st_aload_n (j := 1) (i := 1) (pc' := 6) (by decide +kernel) rfl rfl (by decide) rfl) ?_
  refine XE.gd_ (fun g3 => ?_)
  refine XE.go (st_alen (k := 20) (pc' := 7) (by decide +kernel) rfl ak_20 rfl (by decide) g3) ?_
  refine XE.gen (fun v4 e5 => ?_)
  refine XE.go (st_istore_n (j := 2) (i := 2) (pc' := 8) (by decide +kernel) rfl rfl (by decide) rfl rfl) ?_
  refine XE.go (st_iconst (n := 0) (pc' := 9) (by decide +kernel) (w_eq (by decide) (by decide)) rfl) ?_
  refine XE.go (st_istore_n (j := 3) (i := 3) (pc' := 10) (by decide +kernel) rfl rfl (by decide) rfl rfl) ?_
  refine XE.pick [3, 2, 1, 0] (L' := [(0, (14, a0)), (1, (23, v1)), (2, (0, v4)), (3, (0, 0))]) rfl ?_
  refine XE.loopX (n := 1000) (s0 := 0) (pcL := 10) (pcE := 42) (LL := fun (s6 : Int) => [(0, (14, a0)), (1, (23, v1)), (2, (0, v4)), (3, (0, s6))]) (sL := fun _ => []) (ML := fun (s6 : Int) => M) (LE := fun (t7 : Unit) => []) (sE := fun _ => []) (ME := fun (t7 : Unit) => M) (fun kk25 hx24 hc22 he23 s6 => ?_) (fun t7 => ?_)
  · unfold b_X10_transactionsHold_10
    refine XE.go (st_iload_n (j := 3) (i := 3) (pc' := 11) (by decide +kernel) rfl rfl rfl) ?_
    refine XE.go (st_iload_n (j := 2) (i := 2) (pc' := 12) (by decide +kernel) rfl rfl rfl) ?_
    refine XE.bite (fun h26 => ?_) (fun h27 => ?_)
    · refine XE.go (st_icmp_ge_f (off := 30) (pc' := 15) (by decide +kernel) 42 (by decide) rfl (Int.not_le.mpr h26)) ?_
      refine XE.go (st_aload_n (j := 1) (i := 1) (pc' := 16) (by decide +kernel) rfl rfl (by decide) rfl) ?_
      refine XE.go (st_iload_n (j := 3) (i := 3) (pc' := 17) (by decide +kernel) rfl rfl rfl) ?_
      refine XE.gdb (fun g28 => ?_)
      refine XE.go (st_ald (k := 20) (tp := 8) (pc' := 18) (by decide +kernel) rfl ak_20 rfl (by decide) rfl (Or.inr (Or.inr (Or.inr ⟨rfl, rfl⟩))) g28.1 g28.2.1 g28.2.2) ?_
      refine XE.asc ?_
      refine XE.gen (fun v29 e30 => ?_)
      refine XE.go (st_astore (j := 4) (pc' := 20) (by decide +kernel)  (by decide) rfl (by decide) rfl rfl) ?_
      refine XE.go (st_aload (j := 4) (pc' := 22) (by decide +kernel) rfl (by decide) rfl) ?_
      refine XE.bite (fun h31 => ?_) (fun h32 => ?_)
      · refine XE.go (st_ifnull_t (off := 14) (pc' := 36) (by decide +kernel) (by decide) h31 (by decide)) ?_
        refine XE.go (st_iinc (j := 3) (n := 1) (pc' := 39) (by decide +kernel) rfl rfl (by decide) rfl rfl) ?_
        refine XE.go (st_goto (off := (-29)) (pc' := 10) (by decide +kernel) (by decide)) ?_
        exact XE.pick [2, 3, 4, 0] rfl (hc22 (w (s6 + 1)))
      · refine XE.go (st_ifnull_f (off := 14) (pc' := 25) (by decide +kernel) (by decide) h32 rfl) ?_
        refine XE.go (st_aload_n (j := 0) (i := 0) (pc' := 26) (by decide +kernel) rfl rfl (by decide) rfl) ?_
        refine XE.go (st_aload (j := 4) (pc' := 28) (by decide +kernel) rfl (by decide) rfl) ?_
        refine XE.asc ?_
        refine XE.cP (pc' := 31) (st := []) (fun r hr => ct_X10_transactionHolds h0 r hr) (fun r hr => run_V (st := []) (by decide +kernel) co_X10_transactionsHold_602 (ct_X10_transactionHolds h0 r hr) rfl h0 rfl rfl (Nat.le_of_ble_eq_true rfl)) rfl rfl (fun r33 => ?_)
        refine XE.bite (fun h34 => ?_) (fun h35 => ?_)
        · refine XE.go (st_if_ne_f (off := 5) (pc' := 34) (by decide +kernel) 36 (by decide) rfl (not_not_intro h34)) ?_
          refine XE.go (st_iconst (n := 0) (pc' := 35) (by decide +kernel) (w_eq (by decide) (by decide)) rfl) ?_
          refine XE.cast (hx24 _) ?_
          exact XE.rt rfl (X_zret (by decide +kernel) rfl (by decide))
        · refine XE.go (st_if_ne_t (off := 5) (pc' := 36) (by decide +kernel) (by decide) h35) ?_
          refine XE.go (st_iinc (j := 3) (n := 1) (pc' := 39) (by decide +kernel) rfl rfl (by decide) rfl rfl) ?_
          refine XE.go (st_goto (off := (-29)) (pc' := 10) (by decide +kernel) (by decide)) ?_
          exact XE.pick [2, 3, 4, 0] rfl (hc22 (w (s6 + 1)))
    · refine XE.go (st_icmp_ge_t (off := 30) (pc' := 42) (by decide +kernel) (by decide) (Int.not_lt.mp h27)) ?_
      exact XE.pick [] rfl (he23 ())
  · refine XE.go (st_iconst (n := 1) (pc' := 43) (by decide +kernel) (w_eq (by decide) (by decide)) rfl) ?_
    exact XE.rt rfl (X_zret (by decide +kernel) rfl (by decide))
theorem ct_X10_transactionsHold {D : Dt} {M : Mm} {a0 : Int} (h0 : a0 ≠ 0) (r : Int) (hr : p_X10_transactionsHold M a0 = some r) : CT D 0 mu_X10_transactionsHold [(14, a0)] M (.inl (some (0, r))) M := CT.of (by decide +kernel) rfl (Nat.le_of_ble_eq_true rfl) (xe_X10_transactionsHold h0 r hr)
def b_X0_orderHolds_47 (v84 : Int) (v81 : Int) (M : Mm) (v75 : Int) (s86 : Int) : Option ((Int) ⊕ (((Int) ⊕ ((Int) ⊕ (Unit))) ⊕ (Unit))) := if s86 < v84 then gd (aok v81 s86) ((some ((rd M v81 s86))).bind fun v115 => if v115 = 0 then some (.inl (w (s86 + 1))) else if (rd M v75 6) < (rd M v115 6) then (p_X1_isOfRow M v115 (rd M v75 0)).bind fun r121 => if r121 = 0 then some (.inl (w (s86 + 1))) else gd ((rd M v115 0) ≠ 0) (gd ((rd M v75 0) ≠ 0) (if (rd M (rd M v75 0) 9) < (rd M (rd M v115 0) 9) then some (.inl (w (s86 + 1))) else some (.inr (.inl (.inr (.inl (0))))))) else some (.inl (w (s86 + 1)))) else some (.inr (.inr ()))
def b_X0_orderHolds_10 (v4 : Int) (v1 : Int) (M : Mm) (a0 : Int) (s6 : Int) : Option ((Int) ⊕ ((Int) ⊕ (Unit))) := if s6 < v4 then gd (aok v1 s6) ((some ((rd M v1 s6))).bind fun v75 => if v75 = 0 then some (.inl (w (s6 + 1))) else if 0 < (rd M v75 6) then (some ((rd M a0 2))).bind fun v81 => gd (v81 ≠ 0) ((some ((ln v81))).bind fun v84 => (lp (b_X0_orderHolds_47 v84 v81 M v75) 1000 0).bind (Sum.elim some fun (t87 : Unit) => some (.inl (w (s6 + 1))))) else some (.inl (w (s6 + 1)))) else some (.inr (.inr ()))
def p_X0_orderHolds (M : Mm) (a0 : Int) : Option Int := (some ((rd M a0 2))).bind fun v1 => gd (v1 ≠ 0) ((some ((ln v1))).bind fun v4 => (lp (b_X0_orderHolds_10 v4 v1 M a0) 1000 0).bind (Sum.elim some fun (t7 : Unit) => some (1)))
set_option maxRecDepth 100000 in
set_option maxHeartbeats 4000000 in
theorem xe_X0_orderHolds {D : Dt} {M : Mm} {a0 : Int} (h0 : a0 ≠ 0) : XE D 0 mu_X0_orderHolds (EP 0 M) 0 [(0, (4, a0))] [] M (p_X0_orderHolds M a0) := by
  unfold p_X0_orderHolds
  refine XE.go (st_aload_n (j := 0) (i := 0) (pc' := 1) (by decide +kernel) rfl rfl (by decide) rfl) ?_
  refine XE.go (st_get (pc' := 4) (by decide +kernel) rfl cls_0 fld_RX0_25 rfl rfl h0) ?_
  refine XE.gen (fun v1 e2 => ?_)
  refine XE.go (st_astore_n (j := 1) (i := 1) (pc' := 5) (by decide +kernel) rfl (by decide) rfl (by decide) rfl rfl) ?_
  refine XE.go (st_aload_n (j := 1) (i := 1) (pc' := 6) (by decide +kernel) rfl rfl (by decide) rfl) ?_
  refine XE.gd_ (fun g3 => ?_)
  refine XE.go (st_alen (k := 17) (pc' := 7) (by decide +kernel) rfl ak_17 rfl (by decide) g3) ?_
  refine XE.gen (fun v4 e5 => ?_)
  refine XE.go (st_istore_n (j := 2) (i := 2) (pc' := 8) (by decide +kernel) rfl rfl (by decide) rfl rfl) ?_
  refine XE.go (st_iconst (n := 0) (pc' := 9) (by decide +kernel) (w_eq (by decide) (by decide)) rfl) ?_
  refine XE.go (st_istore_n (j := 3) (i := 3) (pc' := 10) (by decide +kernel) rfl rfl (by decide) rfl rfl) ?_
  refine XE.pick [3, 2, 1, 0] (L' := [(0, (4, a0)), (1, (20, v1)), (2, (0, v4)), (3, (0, 0))]) rfl ?_
  refine XE.loopX (n := 1000) (s0 := 0) (pcL := 10) (pcE := 125) (LL := fun (s6 : Int) => [(0, (4, a0)), (1, (20, v1)), (2, (0, v4)), (3, (0, s6))]) (sL := fun _ => []) (ML := fun (s6 : Int) => M) (LE := fun (t7 : Unit) => []) (sE := fun _ => []) (ME := fun (t7 : Unit) => M) (fun kk71 hx70 hc68 he69 s6 => ?_) (fun t7 => ?_)
  · unfold b_X0_orderHolds_10
    refine XE.go (st_iload_n (j := 3) (i := 3) (pc' := 11) (by decide +kernel) rfl rfl rfl) ?_
    refine XE.go (st_iload_n (j := 2) (i := 2) (pc' := 12) (by decide +kernel) rfl rfl rfl) ?_
    refine XE.bite (fun h72 => ?_) (fun h73 => ?_)
    · refine XE.go (st_icmp_ge_f (off := 113) (pc' := 15) (by decide +kernel) 125 (by decide) rfl (Int.not_le.mpr h72)) ?_
      refine XE.go (st_aload_n (j := 1) (i := 1) (pc' := 16) (by decide +kernel) rfl rfl (by decide) rfl) ?_
      refine XE.go (st_iload_n (j := 3) (i := 3) (pc' := 17) (by decide +kernel) rfl rfl rfl) ?_
      refine XE.gdb (fun g74 => ?_)
      refine XE.go (st_ald (k := 17) (tp := 5) (pc' := 18) (by decide +kernel) rfl ak_17 rfl (by decide) rfl (Or.inr (Or.inr (Or.inr ⟨rfl, rfl⟩))) g74.1 g74.2.1 g74.2.2) ?_
      refine XE.asc ?_
      refine XE.gen (fun v75 e76 => ?_)
      refine XE.go (st_astore (j := 4) (pc' := 20) (by decide +kernel)  (by decide) rfl (by decide) rfl rfl) ?_
      refine XE.go (st_aload (j := 4) (pc' := 22) (by decide +kernel) rfl (by decide) rfl) ?_
      refine XE.bite (fun h77 => ?_) (fun h78 => ?_)
      · refine XE.go (st_ifnull_t (off := 97) (pc' := 119) (by decide +kernel) (by decide) h77 (by decide)) ?_
        refine XE.go (st_iinc (j := 3) (n := 1) (pc' := 122) (by decide +kernel) rfl rfl (by decide) rfl rfl) ?_
        refine XE.go (st_goto (off := (-112)) (pc' := 10) (by decide +kernel) (by decide)) ?_
        exact XE.pick [2, 3, 4, 0] rfl (hc68 (w (s6 + 1)))
      · refine XE.go (st_ifnull_f (off := 97) (pc' := 25) (by decide +kernel) (by decide) h78 rfl) ?_
        refine XE.go (st_aload (j := 4) (pc' := 27) (by decide +kernel) rfl (by decide) rfl) ?_
        refine XE.go (st_get (pc' := 30) (by decide +kernel) rfl cls_1 fld_RX0_231 rfl rfl h78) ?_
        refine XE.bite (fun h79 => ?_) (fun h80 => ?_)
        · refine XE.go (st_if_le_f (off := 89) (pc' := 33) (by decide +kernel) 119 (by decide) rfl (Int.not_le.mpr h79)) ?_
          refine XE.go (st_aload_n (j := 0) (i := 0) (pc' := 34) (by decide +kernel) rfl rfl (by decide) rfl) ?_
          refine XE.go (st_get (pc' := 37) (by decide +kernel) rfl cls_0 fld_RX0_25 rfl rfl h0) ?_
          refine XE.asc ?_
          refine XE.gen (fun v81 e82 => ?_)
          refine XE.go (st_astore (j := 5) (pc' := 39) (by decide +kernel)  (by decide) rfl (by decide) rfl rfl) ?_
          refine XE.go (st_aload (j := 5) (pc' := 41) (by decide +kernel) rfl (by decide) rfl) ?_
          refine XE.gdb (fun g83 => ?_)
          refine XE.go (st_alen (k := 17) (pc' := 42) (by decide +kernel) rfl ak_17 rfl (by decide) g83) ?_
          refine XE.asc ?_
          refine XE.gen (fun v84 e85 => ?_)
          refine XE.go (st_istore (j := 6) (pc' := 44) (by decide +kernel)  rfl (by decide) rfl rfl) ?_
          refine XE.go (st_iconst (n := 0) (pc' := 45) (by decide +kernel) (w_eq (by decide) (by decide)) rfl) ?_
          refine XE.go (st_istore (j := 7) (pc' := 47) (by decide +kernel)  rfl (by decide) rfl rfl) ?_
          refine XE.pick [4, 5, 6, 7, 3, 2, 1, 0] (L' := [(0, (4, a0)), (1, (20, v1)), (2, (0, v4)), (3, (0, s6)), (4, (5, v75)), (5, (20, v81)), (6, (0, v84)), (7, (0, 0))]) rfl ?_
          refine XE.ascX ?_
          refine XE.loopX (n := 1000) (s0 := 0) (pcL := 47) (pcE := 119) (LL := fun (s86 : Int) => [(0, (4, a0)), (1, (20, v1)), (2, (0, v4)), (3, (0, s6)), (4, (5, v75)), (5, (20, v81)), (6, (0, v84)), (7, (0, s86))]) (sL := fun _ => []) (ML := fun (s86 : Int) => M) (LE := fun (t87 : Unit) => [(0, (4, a0)), (1, (20, v1)), (2, (0, v4)), (3, (0, s6))]) (sE := fun _ => []) (ME := fun (t87 : Unit) => M) (fun kk111 hx110 hc108 he109 s86 => ?_) (fun t87 => ?_)
          · unfold b_X0_orderHolds_47
            refine XE.go (st_iload (j := 7) (pc' := 49) (by decide +kernel) rfl rfl) ?_
            refine XE.go (st_iload (j := 6) (pc' := 51) (by decide +kernel) rfl rfl) ?_
            refine XE.bite (fun h112 => ?_) (fun h113 => ?_)
            · refine XE.go (st_icmp_ge_f (off := 68) (pc' := 54) (by decide +kernel) 119 (by decide) rfl (Int.not_le.mpr h112)) ?_
              refine XE.go (st_aload (j := 5) (pc' := 56) (by decide +kernel) rfl (by decide) rfl) ?_
              refine XE.go (st_iload (j := 7) (pc' := 58) (by decide +kernel) rfl rfl) ?_
              refine XE.gdb (fun g114 => ?_)
              refine XE.go (st_ald (k := 17) (tp := 5) (pc' := 59) (by decide +kernel) rfl ak_17 rfl (by decide) rfl (Or.inr (Or.inr (Or.inr ⟨rfl, rfl⟩))) g114.1 g114.2.1 g114.2.2) ?_
              refine XE.asc ?_
              refine XE.gen (fun v115 e116 => ?_)
              refine XE.go (st_astore (j := 8) (pc' := 61) (by decide +kernel)  (by decide) rfl (by decide) rfl rfl) ?_
              refine XE.go (st_aload (j := 8) (pc' := 63) (by decide +kernel) rfl (by decide) rfl) ?_
              refine XE.bite (fun h117 => ?_) (fun h118 => ?_)
              · refine XE.go (st_ifnull_t (off := 50) (pc' := 113) (by decide +kernel) (by decide) h117 (by decide)) ?_
                refine XE.go (st_iinc (j := 7) (n := 1) (pc' := 116) (by decide +kernel) rfl rfl (by decide) rfl rfl) ?_
                refine XE.go (st_goto (off := (-69)) (pc' := 47) (by decide +kernel) (by decide)) ?_
                exact XE.pick [2, 3, 4, 5, 6, 7, 8, 0] rfl (hc108 (w (s86 + 1)))
              · refine XE.go (st_ifnull_f (off := 50) (pc' := 66) (by decide +kernel) (by decide) h118 rfl) ?_
                refine XE.go (st_aload (j := 8) (pc' := 68) (by decide +kernel) rfl (by decide) rfl) ?_
                refine XE.go (st_get (pc' := 71) (by decide +kernel) rfl cls_1 fld_RX0_231 rfl rfl h118) ?_
                refine XE.go (st_aload (j := 4) (pc' := 73) (by decide +kernel) rfl (by decide) rfl) ?_
                refine XE.go (st_get (pc' := 76) (by decide +kernel) rfl cls_1 fld_RX0_231 rfl rfl h78) ?_
                refine XE.bite (fun h119 => ?_) (fun h120 => ?_)
                · refine XE.go (st_icmp_le_f (off := 37) (pc' := 79) (by decide +kernel) 113 (by decide) rfl (Int.not_le.mpr h119)) ?_
                  refine XE.go (st_aload (j := 8) (pc' := 81) (by decide +kernel) rfl (by decide) rfl) ?_
                  refine XE.go (st_aload (j := 4) (pc' := 83) (by decide +kernel) rfl (by decide) rfl) ?_
                  refine XE.go (st_get (pc' := 86) (by decide +kernel) rfl cls_1 fld_RX0_156 rfl rfl h78) ?_
                  refine XE.asc ?_
                  refine XE.cP (pc' := 89) (st := []) (fun r hr => ct_X1_isOfRow h118 r hr) (fun r hr => run_V (st := []) (by decide +kernel) co_X0_orderHolds_241 (ct_X1_isOfRow h118 r hr) rfl h118 rfl rfl (Nat.le_of_ble_eq_true rfl)) rfl rfl (fun r121 => ?_)
                  refine XE.bite (fun h122 => ?_) (fun h123 => ?_)
                  · refine XE.go (st_if_eq_t (off := 24) (pc' := 113) (by decide +kernel) (by decide) h122) ?_
                    refine XE.go (st_iinc (j := 7) (n := 1) (pc' := 116) (by decide +kernel) rfl rfl (by decide) rfl rfl) ?_
                    refine XE.go (st_goto (off := (-69)) (pc' := 47) (by decide +kernel) (by decide)) ?_
                    exact XE.pick [2, 3, 4, 5, 6, 7, 8, 0] rfl (hc108 (w (s86 + 1)))
                  · refine XE.go (st_if_eq_f (off := 24) (pc' := 92) (by decide +kernel) 113 (by decide) rfl h123) ?_
                    refine XE.go (st_aload (j := 8) (pc' := 94) (by decide +kernel) rfl (by decide) rfl) ?_
                    refine XE.go (st_get (pc' := 97) (by decide +kernel) rfl cls_1 fld_RX0_156 rfl rfl h118) ?_
                    refine XE.gdb (fun g124 => ?_)
                    refine XE.go (st_get (pc' := 100) (by decide +kernel) rfl cls_4 fld_RX0_208 rfl rfl g124) ?_
                    refine XE.go (st_aload (j := 4) (pc' := 102) (by decide +kernel) rfl (by decide) rfl) ?_
                    refine XE.go (st_get (pc' := 105) (by decide +kernel) rfl cls_1 fld_RX0_156 rfl rfl h78) ?_
                    refine XE.gdb (fun g125 => ?_)
                    refine XE.go (st_get (pc' := 108) (by decide +kernel) rfl cls_4 fld_RX0_208 rfl rfl g125) ?_
                    refine XE.bite (fun h126 => ?_) (fun h127 => ?_)
                    · refine XE.go (st_icmp_gt_t (off := 5) (pc' := 113) (by decide +kernel) (by decide) h126) ?_
                      refine XE.go (st_iinc (j := 7) (n := 1) (pc' := 116) (by decide +kernel) rfl rfl (by decide) rfl rfl) ?_
                      refine XE.go (st_goto (off := (-69)) (pc' := 47) (by decide +kernel) (by decide)) ?_
                      exact XE.pick [2, 3, 4, 5, 6, 7, 8, 0] rfl (hc108 (w (s86 + 1)))
                    · refine XE.go (st_icmp_gt_f (off := 5) (pc' := 111) (by decide +kernel) 113 (by decide) rfl h127) ?_
                      refine XE.go (st_iconst (n := 0) (pc' := 112) (by decide +kernel) (w_eq (by decide) (by decide)) rfl) ?_
                      refine XE.cast (hx110 _) ?_
                      refine XE.cast (hx70 _) ?_
                      exact XE.rt rfl (X_zret (by decide +kernel) rfl (by decide))
                · refine XE.go (st_icmp_le_t (off := 37) (pc' := 113) (by decide +kernel) (by decide) (Int.not_lt.mp h120)) ?_
                  refine XE.go (st_iinc (j := 7) (n := 1) (pc' := 116) (by decide +kernel) rfl rfl (by decide) rfl rfl) ?_
                  refine XE.go (st_goto (off := (-69)) (pc' := 47) (by decide +kernel) (by decide)) ?_
                  exact XE.pick [2, 3, 4, 5, 6, 7, 8, 0] rfl (hc108 (w (s86 + 1)))
            · refine XE.go (st_icmp_ge_t (off := 68) (pc' := 119) (by decide +kernel) (by decide) (Int.not_lt.mp h113)) ?_
              exact XE.pick [0, 1, 2, 3] rfl (he109 ())
          · refine XE.go (st_iinc (j := 3) (n := 1) (pc' := 122) (by decide +kernel) rfl rfl (by decide) rfl rfl) ?_
            refine XE.go (st_goto (off := (-112)) (pc' := 10) (by decide +kernel) (by decide)) ?_
            exact XE.pick [1, 2, 3, 0] rfl (hc68 (w (s6 + 1)))
        · refine XE.go (st_if_le_t (off := 89) (pc' := 119) (by decide +kernel) (by decide) (Int.not_lt.mp h80)) ?_
          refine XE.go (st_iinc (j := 3) (n := 1) (pc' := 122) (by decide +kernel) rfl rfl (by decide) rfl rfl) ?_
          refine XE.go (st_goto (off := (-112)) (pc' := 10) (by decide +kernel) (by decide)) ?_
          exact XE.pick [2, 3, 4, 0] rfl (hc68 (w (s6 + 1)))
    · refine XE.go (st_icmp_ge_t (off := 113) (pc' := 125) (by decide +kernel) (by decide) (Int.not_lt.mp h73)) ?_
      exact XE.pick [] rfl (he69 ())
  · refine XE.go (st_iconst (n := 1) (pc' := 126) (by decide +kernel) (w_eq (by decide) (by decide)) rfl) ?_
    exact XE.rt rfl (X_zret (by decide +kernel) rfl (by decide))
theorem ct_X0_orderHolds {D : Dt} {M : Mm} {a0 : Int} (h0 : a0 ≠ 0) (r : Int) (hr : p_X0_orderHolds M a0 = some r) : CT D 0 mu_X0_orderHolds [(4, a0)] M (.inl (some (0, r))) M := CT.of (by decide +kernel) rfl (Nat.le_of_ble_eq_true rfl) (xe_X0_orderHolds h0 r hr)
def b_X10_orderHolds_10 (v4 : Int) (v1 : Int) (M : Mm) (s6 : Int) : Option ((Int) ⊕ ((Int) ⊕ (Unit))) := if s6 < v4 then gd (aok v1 s6) ((some ((rd M v1 s6))).bind fun v29 => if v29 = 0 then some (.inl (w (s6 + 1))) else (p_X0_orderHolds M v29).bind fun r33 => if r33 = 0 then some (.inr (.inl (0))) else some (.inl (w (s6 + 1)))) else some (.inr (.inr ()))
def p_X10_orderHolds (M : Mm) (a0 : Int) : Option Int := (some ((rd M a0 3))).bind fun v1 => gd (v1 ≠ 0) ((some ((ln v1))).bind fun v4 => (lp (b_X10_orderHolds_10 v4 v1 M) 1000 0).bind (Sum.elim some fun (t7 : Unit) => some (1)))
set_option maxRecDepth 100000 in
set_option maxHeartbeats 4000000 in
theorem xe_X10_orderHolds {D : Dt} {M : Mm} {a0 : Int} (h0 : a0 ≠ 0) : XE D 0 mu_X10_orderHolds (EP 0 M) 0 [(0, (14, a0))] [] M (p_X10_orderHolds M a0) := by
  unfold p_X10_orderHolds
  refine XE.go (st_aload_n (j := 0) (i := 0) (pc' := 1) (by decide +kernel) rfl rfl (by decide) rfl) ?_
  refine XE.go (st_get (pc' := 4) (by decide +kernel) rfl cls_10 fld_RX10_29 rfl rfl h0) ?_
  refine XE.gen (fun v1 e2 => ?_)
  refine XE.go (st_astore_n (j := 1) (i := 1) (pc' := 5) (by decide +kernel) rfl (by decide) rfl (by decide) rfl rfl) ?_
  refine XE.go (st_aload_n (j := 1) (i := 1) (pc' := 6) (by decide +kernel) rfl rfl (by decide) rfl) ?_
  refine XE.gd_ (fun g3 => ?_)
  refine XE.go (st_alen (k := 16) (pc' := 7) (by decide +kernel) rfl ak_16 rfl (by decide) g3) ?_
  refine XE.gen (fun v4 e5 => ?_)
  refine XE.go (st_istore_n (j := 2) (i := 2) (pc' := 8) (by decide +kernel) rfl rfl (by decide) rfl rfl) ?_
  refine XE.go (st_iconst (n := 0) (pc' := 9) (by decide +kernel) (w_eq (by decide) (by decide)) rfl) ?_
  refine XE.go (st_istore_n (j := 3) (i := 3) (pc' := 10) (by decide +kernel) rfl rfl (by decide) rfl rfl) ?_
  refine XE.pick [2, 1, 0] (L' := [(1, (19, v1)), (2, (0, v4)), (3, (0, 0))]) rfl ?_
  refine XE.loopX (n := 1000) (s0 := 0) (pcL := 10) (pcE := 41) (LL := fun (s6 : Int) => [(1, (19, v1)), (2, (0, v4)), (3, (0, s6))]) (sL := fun _ => []) (ML := fun (s6 : Int) => M) (LE := fun (t7 : Unit) => []) (sE := fun _ => []) (ME := fun (t7 : Unit) => M) (fun kk25 hx24 hc22 he23 s6 => ?_) (fun t7 => ?_)
  · unfold b_X10_orderHolds_10
    refine XE.go (st_iload_n (j := 3) (i := 3) (pc' := 11) (by decide +kernel) rfl rfl rfl) ?_
    refine XE.go (st_iload_n (j := 2) (i := 2) (pc' := 12) (by decide +kernel) rfl rfl rfl) ?_
    refine XE.bite (fun h26 => ?_) (fun h27 => ?_)
    · refine XE.go (st_icmp_ge_f (off := 29) (pc' := 15) (by decide +kernel) 41 (by decide) rfl (Int.not_le.mpr h26)) ?_
      refine XE.go (st_aload_n (j := 1) (i := 1) (pc' := 16) (by decide +kernel) rfl rfl (by decide) rfl) ?_
      refine XE.go (st_iload_n (j := 3) (i := 3) (pc' := 17) (by decide +kernel) rfl rfl rfl) ?_
      refine XE.gdb (fun g28 => ?_)
      refine XE.go (st_ald (k := 16) (tp := 4) (pc' := 18) (by decide +kernel) rfl ak_16 rfl (by decide) rfl (Or.inr (Or.inr (Or.inr ⟨rfl, rfl⟩))) g28.1 g28.2.1 g28.2.2) ?_
      refine XE.asc ?_
      refine XE.gen (fun v29 e30 => ?_)
      refine XE.go (st_astore (j := 4) (pc' := 20) (by decide +kernel)  (by decide) rfl (by decide) rfl rfl) ?_
      refine XE.go (st_aload (j := 4) (pc' := 22) (by decide +kernel) rfl (by decide) rfl) ?_
      refine XE.bite (fun h31 => ?_) (fun h32 => ?_)
      · refine XE.go (st_ifnull_t (off := 13) (pc' := 35) (by decide +kernel) (by decide) h31 (by decide)) ?_
        refine XE.go (st_iinc (j := 3) (n := 1) (pc' := 38) (by decide +kernel) rfl rfl (by decide) rfl rfl) ?_
        refine XE.go (st_goto (off := (-28)) (pc' := 10) (by decide +kernel) (by decide)) ?_
        exact XE.pick [2, 3, 0] rfl (hc22 (w (s6 + 1)))
      · refine XE.go (st_ifnull_f (off := 13) (pc' := 25) (by decide +kernel) (by decide) h32 rfl) ?_
        refine XE.go (st_aload (j := 4) (pc' := 27) (by decide +kernel) rfl (by decide) rfl) ?_
        refine XE.asc ?_
        refine XE.cP (pc' := 30) (st := []) (fun r hr => ct_X0_orderHolds h32 r hr) (fun r hr => run_V (st := []) (by decide +kernel) co_X10_orderHolds_609 (ct_X0_orderHolds h32 r hr) rfl h32 rfl rfl (Nat.le_of_ble_eq_true rfl)) rfl rfl (fun r33 => ?_)
        refine XE.bite (fun h34 => ?_) (fun h35 => ?_)
        · refine XE.go (st_if_ne_f (off := 5) (pc' := 33) (by decide +kernel) 35 (by decide) rfl (not_not_intro h34)) ?_
          refine XE.go (st_iconst (n := 0) (pc' := 34) (by decide +kernel) (w_eq (by decide) (by decide)) rfl) ?_
          refine XE.cast (hx24 _) ?_
          exact XE.rt rfl (X_zret (by decide +kernel) rfl (by decide))
        · refine XE.go (st_if_ne_t (off := 5) (pc' := 35) (by decide +kernel) (by decide) h35) ?_
          refine XE.go (st_iinc (j := 3) (n := 1) (pc' := 38) (by decide +kernel) rfl rfl (by decide) rfl rfl) ?_
          refine XE.go (st_goto (off := (-28)) (pc' := 10) (by decide +kernel) (by decide)) ?_
          exact XE.pick [2, 3, 0] rfl (hc22 (w (s6 + 1)))
    · refine XE.go (st_icmp_ge_t (off := 29) (pc' := 41) (by decide +kernel) (by decide) (Int.not_lt.mp h27)) ?_
      exact XE.pick [] rfl (he23 ())
  · refine XE.go (st_iconst (n := 1) (pc' := 42) (by decide +kernel) (w_eq (by decide) (by decide)) rfl) ?_
    exact XE.rt rfl (X_zret (by decide +kernel) rfl (by decide))
theorem ct_X10_orderHolds {D : Dt} {M : Mm} {a0 : Int} (h0 : a0 ≠ 0) (r : Int) (hr : p_X10_orderHolds M a0 = some r) : CT D 0 mu_X10_orderHolds [(14, a0)] M (.inl (some (0, r))) M := CT.of (by decide +kernel) rfl (Nat.le_of_ble_eq_true rfl) (xe_X10_orderHolds h0 r hr)
def b_X0_readOffsetsHold_13 (M : Mm) (a1 : Int) (r3 : Int) (a0 : Int) (s6 : Int) : Option ((Int) ⊕ ((Int) ⊕ (Unit))) := if s6 < (rd M a1 3) then (p_X5_readableAt M (rd M a1 0) s6 r3).bind fun r43 => (if r43 = 0 then some (0) else (p_X0_knownLetter M a0 r43).bind fun r50 => some (r50) : Option (Int)).bind fun (s44 : Int) => (if s44 = 0 then some (0) else if 0 < (rd M s44 6) then some (1) else (p_X1_waitsOrIsDead M s44).bind fun r59 => if r59 = 0 then some (0) else some (1) : Option (Int)).bind fun (s51 : Int) => if r43 = 0 then some (.inl (w (s6 + 1))) else if s51 = 0 then some (.inr (.inl (0))) else some (.inl (w (s6 + 1))) else some (.inr (.inr ()))
def p_X0_readOffsetsHold (M : Mm) (a0 a1 : Int) : Option Int := gd (a1 ≠ 0) (gd ((rd M a1 0) ≠ 0) ((p_X5_stableOffset M (rd M a1 0)).bind fun r3 => (some ((rd M a1 5))).bind fun v4 => (lp (b_X0_readOffsetsHold_13 M a1 r3 a0) 1000 v4).bind (Sum.elim some fun (t7 : Unit) => some (1))))
set_option maxRecDepth 100000 in
set_option maxHeartbeats 4000000 in
theorem xe_X0_readOffsetsHold {D : Dt} {M : Mm} {a0 a1 : Int} (h0 : a0 ≠ 0) : XE D 0 mu_X0_readOffsetsHold (EP 0 M) 0 [(0, (4, a0)), (1, (12, a1))] [] M (p_X0_readOffsetsHold M a0 a1) := by
  unfold p_X0_readOffsetsHold
  refine XE.go (st_aload_n (j := 1) (i := 1) (pc' := 1) (by decide +kernel) rfl rfl (by decide) rfl) ?_
  refine XE.gd_ (fun g1 => ?_)
  refine XE.go (st_get (pc' := 4) (by decide +kernel) rfl cls_8 fld_RX0_130 rfl rfl g1) ?_
  refine XE.gd_ (fun g2 => ?_)
  refine XE.cP (pc' := 7) (st := []) (fun r hr => ct_X5_stableOffset g2 r hr) (fun r hr => run_V (st := []) (by decide +kernel) co_X0_readOffsetsHold_215 (ct_X5_stableOffset g2 r hr) rfl g2 rfl rfl (Nat.le_of_ble_eq_true rfl)) rfl rfl (fun r3 => ?_)
  refine XE.go (st_istore_n (j := 2) (i := 2) (pc' := 8) (by decide +kernel) rfl rfl (by decide) rfl rfl) ?_
  refine XE.go (st_aload_n (j := 1) (i := 1) (pc' := 9) (by decide +kernel) rfl rfl (by decide) rfl) ?_
  refine XE.go (st_get (pc' := 12) (by decide +kernel) rfl cls_8 fld_RX0_257 rfl rfl g1) ?_
  refine XE.gen (fun v4 e5 => ?_)
  refine XE.go (st_istore_n (j := 3) (i := 3) (pc' := 13) (by decide +kernel) rfl rfl (by decide) rfl rfl) ?_
  refine XE.pick [2, 3, 1, 0] (L' := [(0, (4, a0)), (1, (12, a1)), (2, (0, r3)), (3, (0, v4))]) rfl ?_
  refine XE.loopX (n := 1000) (s0 := v4) (pcL := 13) (pcE := 95) (LL := fun (s6 : Int) => [(0, (4, a0)), (1, (12, a1)), (2, (0, r3)), (3, (0, s6))]) (sL := fun _ => []) (ML := fun (s6 : Int) => M) (LE := fun (t7 : Unit) => []) (sE := fun _ => []) (ME := fun (t7 : Unit) => M) (fun kk40 hx39 hc37 he38 s6 => ?_) (fun t7 => ?_)
  · unfold b_X0_readOffsetsHold_13
    refine XE.go (st_iload_n (j := 3) (i := 3) (pc' := 14) (by decide +kernel) rfl rfl rfl) ?_
    refine XE.go (st_aload_n (j := 1) (i := 1) (pc' := 15) (by decide +kernel) rfl rfl (by decide) rfl) ?_
    refine XE.go (st_get (pc' := 18) (by decide +kernel) rfl cls_8 fld_RX0_127 rfl rfl g1) ?_
    refine XE.bite (fun h41 => ?_) (fun h42 => ?_)
    · refine XE.go (st_icmp_ge_f (off := 77) (pc' := 21) (by decide +kernel) 95 (by decide) rfl (Int.not_le.mpr h41)) ?_
      refine XE.go (st_aload_n (j := 1) (i := 1) (pc' := 22) (by decide +kernel) rfl rfl (by decide) rfl) ?_
      refine XE.go (st_get (pc' := 25) (by decide +kernel) rfl cls_8 fld_RX0_130 rfl rfl g1) ?_
      refine XE.go (st_iload_n (j := 3) (i := 3) (pc' := 26) (by decide +kernel) rfl rfl rfl) ?_
      refine XE.go (st_iload_n (j := 2) (i := 2) (pc' := 27) (by decide +kernel) rfl rfl rfl) ?_
      refine XE.asc ?_
      refine XE.cP (pc' := 30) (st := []) (fun r hr => ct_X5_readableAt g2 r hr) (fun r hr => run_V (st := []) (by decide +kernel) co_X0_readOffsetsHold_218 (ct_X5_readableAt g2 r hr) rfl g2 rfl rfl (Nat.le_of_ble_eq_true rfl)) rfl rfl (fun r43 => ?_)
      refine XE.go (st_astore (j := 4) (pc' := 32) (by decide +kernel)  (by decide) rfl (by decide) rfl rfl) ?_
      refine XE.go (st_aload (j := 4) (pc' := 34) (by decide +kernel) rfl (by decide) rfl) ?_
      refine XE.asc ?_
      refine XE.join (pcJ := 47) (LJ := fun (s44 : Int) => [(0, (4, a0)), (1, (12, a1)), (2, (0, r3)), (3, (0, s6)), (4, (8, r43))]) (sJ := fun (s44 : Int) => [(5, s44)]) (MJ := fun (s44 : Int) => M) (fun kk47 hk45 => ?_) (fun s44 => ?_)
      · refine XE.bite (fun h48 => ?_) (fun h49 => ?_)
        · refine XE.go (st_ifnonnull_f (off := 7) (pc' := 37) (by decide +kernel) (by decide) h48 rfl) ?_
          refine XE.go (st_null (t := 5) (pc' := 38) (by decide +kernel) (by decide) rfl) ?_
          refine XE.go (st_goto (off := 9) (pc' := 47) (by decide +kernel) (by decide)) ?_
          exact XE.pick [1, 2, 3, 4, 0] rfl (hk45 0)
        · refine XE.go (st_ifnonnull_t (off := 7) (pc' := 41) (by decide +kernel) (by decide) h49 (by decide)) ?_
          refine XE.go (st_aload_n (j := 0) (i := 0) (pc' := 42) (by decide +kernel) rfl rfl (by decide) rfl) ?_
          refine XE.go (st_aload (j := 4) (pc' := 44) (by decide +kernel) rfl (by decide) rfl) ?_
          refine XE.asc ?_
          refine XE.cP (pc' := 47) (st := []) (fun r hr => ct_X0_knownLetter h0 r hr) (fun r hr => run_V (st := []) (by decide +kernel) co_X0_readOffsetsHold_68 (ct_X0_knownLetter h0 r hr) rfl h0 rfl rfl (Nat.le_of_ble_eq_true rfl)) rfl rfl (fun r50 => ?_)
          exact XE.pick [1, 2, 3, 4, 0] rfl (hk45 r50)
      · refine XE.go (st_astore (j := 5) (pc' := 49) (by decide +kernel)  (by decide) rfl (by decide) rfl rfl) ?_
        refine XE.go (st_aload (j := 5) (pc' := 51) (by decide +kernel) rfl (by decide) rfl) ?_
        refine XE.asc ?_
        refine XE.join (pcJ := 75) (LJ := fun (s51 : Int) => [(0, (4, a0)), (1, (12, a1)), (2, (0, r3)), (3, (0, s6)), (4, (8, r43))]) (sJ := fun (s51 : Int) => [(0, s51)]) (MJ := fun (s51 : Int) => M) (fun kk54 hk52 => ?_) (fun s51 => ?_)
        · refine XE.bite (fun h55 => ?_) (fun h56 => ?_)
          · refine XE.go (st_ifnull_t (off := 23) (pc' := 74) (by decide +kernel) (by decide) h55 (by decide)) ?_
            refine XE.go (st_iconst (n := 0) (pc' := 75) (by decide +kernel) (w_eq (by decide) (by decide)) rfl) ?_
            exact XE.pick [1, 2, 3, 4, 5] rfl (hk52 0)
          · refine XE.go (st_ifnull_f (off := 23) (pc' := 54) (by decide +kernel) (by decide) h56 rfl) ?_
            refine XE.go (st_aload (j := 5) (pc' := 56) (by decide +kernel) rfl (by decide) rfl) ?_
            refine XE.go (st_get (pc' := 59) (by decide +kernel) rfl cls_1 fld_RX0_231 rfl rfl h56) ?_
            refine XE.bite (fun h57 => ?_) (fun h58 => ?_)
            · refine XE.go (st_if_gt_t (off := 11) (pc' := 70) (by decide +kernel) (by decide) h57) ?_
              refine XE.go (st_iconst (n := 1) (pc' := 71) (by decide +kernel) (w_eq (by decide) (by decide)) rfl) ?_
              refine XE.go (st_goto (off := 4) (pc' := 75) (by decide +kernel) (by decide)) ?_
              exact XE.pick [1, 2, 3, 4, 5] rfl (hk52 1)
            · refine XE.go (st_if_gt_f (off := 11) (pc' := 62) (by decide +kernel) 70 (by decide) rfl h58) ?_
              refine XE.go (st_aload (j := 5) (pc' := 64) (by decide +kernel) rfl (by decide) rfl) ?_
              refine XE.asc ?_
              refine XE.cP (pc' := 67) (st := []) (fun r hr => ct_X1_waitsOrIsDead h56 r hr) (fun r hr => run_V (st := []) (by decide +kernel) co_X0_readOffsetsHold_249 (ct_X1_waitsOrIsDead h56 r hr) rfl h56 rfl rfl (Nat.le_of_ble_eq_true rfl)) rfl rfl (fun r59 => ?_)
              refine XE.bite (fun h60 => ?_) (fun h61 => ?_)
              · refine XE.go (st_if_eq_t (off := 7) (pc' := 74) (by decide +kernel) (by decide) h60) ?_
                refine XE.go (st_iconst (n := 0) (pc' := 75) (by decide +kernel) (w_eq (by decide) (by decide)) rfl) ?_
                exact XE.pick [1, 2, 3, 4, 5] rfl (hk52 0)
              · refine XE.go (st_if_eq_f (off := 7) (pc' := 70) (by decide +kernel) 74 (by decide) rfl h61) ?_
                refine XE.go (st_iconst (n := 1) (pc' := 71) (by decide +kernel) (w_eq (by decide) (by decide)) rfl) ?_
                refine XE.go (st_goto (off := 4) (pc' := 75) (by decide +kernel) (by decide)) ?_
                exact XE.pick [1, 2, 3, 4, 5] rfl (hk52 1)
        · refine XE.go (st_istore (j := 6) (pc' := 77) (by decide +kernel)  rfl (by decide) rfl rfl) ?_
          refine XE.go (st_aload (j := 4) (pc' := 79) (by decide +kernel) rfl (by decide) rfl) ?_
          refine XE.bite (fun h62 => ?_) (fun h63 => ?_)
          · refine XE.go (st_ifnull_t (off := 10) (pc' := 89) (by decide +kernel) (by decide) h62 (by decide)) ?_
            refine XE.go (st_iinc (j := 3) (n := 1) (pc' := 92) (by decide +kernel) rfl rfl (by decide) rfl rfl) ?_
            refine XE.go (st_goto (off := (-79)) (pc' := 13) (by decide +kernel) (by decide)) ?_
            exact XE.pick [2, 3, 4, 0] rfl (hc37 (w (s6 + 1)))
          · refine XE.go (st_ifnull_f (off := 10) (pc' := 82) (by decide +kernel) (by decide) h63 rfl) ?_
            refine XE.go (st_iload (j := 6) (pc' := 84) (by decide +kernel) rfl rfl) ?_
            refine XE.bite (fun h64 => ?_) (fun h65 => ?_)
            · refine XE.go (st_if_ne_f (off := 5) (pc' := 87) (by decide +kernel) 89 (by decide) rfl (not_not_intro h64)) ?_
              refine XE.go (st_iconst (n := 0) (pc' := 88) (by decide +kernel) (w_eq (by decide) (by decide)) rfl) ?_
              refine XE.cast (hx39 _) ?_
              exact XE.rt rfl (X_zret (by decide +kernel) rfl (by decide))
            · refine XE.go (st_if_ne_t (off := 5) (pc' := 89) (by decide +kernel) (by decide) h65) ?_
              refine XE.go (st_iinc (j := 3) (n := 1) (pc' := 92) (by decide +kernel) rfl rfl (by decide) rfl rfl) ?_
              refine XE.go (st_goto (off := (-79)) (pc' := 13) (by decide +kernel) (by decide)) ?_
              exact XE.pick [2, 3, 4, 0] rfl (hc37 (w (s6 + 1)))
    · refine XE.go (st_icmp_ge_t (off := 77) (pc' := 95) (by decide +kernel) (by decide) (Int.not_lt.mp h42)) ?_
      exact XE.pick [] rfl (he38 ())
  · refine XE.go (st_iconst (n := 1) (pc' := 96) (by decide +kernel) (w_eq (by decide) (by decide)) rfl) ?_
    exact XE.rt rfl (X_zret (by decide +kernel) rfl (by decide))
theorem ct_X0_readOffsetsHold {D : Dt} {M : Mm} {a0 a1 : Int} (h0 : a0 ≠ 0) (r : Int) (hr : p_X0_readOffsetsHold M a0 a1 = some r) : CT D 0 mu_X0_readOffsetsHold [(4, a0), (12, a1)] M (.inl (some (0, r))) M := CT.of (by decide +kernel) rfl (Nat.le_of_ble_eq_true rfl) (xe_X0_readOffsetsHold h0 r hr)
def b_X0_offsetsHold_10 (v4 : Int) (v1 : Int) (M : Mm) (a0 : Int) (s6 : Int) : Option ((Int) ⊕ ((Int) ⊕ (Unit))) := if s6 < v4 then gd (aok v1 s6) ((some ((rd M v1 s6))).bind fun v29 => if v29 = 0 then some (.inl (w (s6 + 1))) else (p_X0_readOffsetsHold M a0 v29).bind fun r33 => if r33 = 0 then some (.inr (.inl (0))) else some (.inl (w (s6 + 1)))) else some (.inr (.inr ()))
def p_X0_offsetsHold (M : Mm) (a0 : Int) : Option Int := (some ((rd M a0 0))).bind fun v1 => gd (v1 ≠ 0) ((some ((ln v1))).bind fun v4 => (lp (b_X0_offsetsHold_10 v4 v1 M a0) 1000 0).bind (Sum.elim some fun (t7 : Unit) => some (1)))
set_option maxRecDepth 100000 in
set_option maxHeartbeats 4000000 in
theorem xe_X0_offsetsHold {D : Dt} {M : Mm} {a0 : Int} (h0 : a0 ≠ 0) : XE D 0 mu_X0_offsetsHold (EP 0 M) 0 [(0, (4, a0))] [] M (p_X0_offsetsHold M a0) := by
  unfold p_X0_offsetsHold
  refine XE.go (st_aload_n (j := 0) (i := 0) (pc' := 1) (by decide +kernel) rfl rfl (by decide) rfl) ?_
  refine XE.go (st_get (pc' := 4) (by decide +kernel) rfl cls_0 fld_RX0_11 rfl rfl h0) ?_
  refine XE.gen (fun v1 e2 => ?_)
  refine XE.go (st_astore_n (j := 1) (i := 1) (pc' := 5) (by decide +kernel) rfl (by decide) rfl (by decide) rfl rfl) ?_
  refine XE.go (st_aload_n (j := 1) (i := 1) (pc' := 6) (by decide +kernel) rfl rfl (by decide) rfl) ?_
  refine XE.gd_ (fun g3 => ?_)
  refine XE.go (st_alen (k := 24) (pc' := 7) (by decide +kernel) rfl ak_24 rfl (by decide) g3) ?_
  refine XE.gen (fun v4 e5 => ?_)
  refine XE.go (st_istore_n (j := 2) (i := 2) (pc' := 8) (by decide +kernel) rfl rfl (by decide) rfl rfl) ?_
  refine XE.go (st_iconst (n := 0) (pc' := 9) (by decide +kernel) (w_eq (by decide) (by decide)) rfl) ?_
  refine XE.go (st_istore_n (j := 3) (i := 3) (pc' := 10) (by decide +kernel) rfl rfl (by decide) rfl rfl) ?_
  refine XE.pick [3, 2, 1, 0] (L' := [(0, (4, a0)), (1, (27, v1)), (2, (0, v4)), (3, (0, 0))]) rfl ?_
  refine XE.loopX (n := 1000) (s0 := 0) (pcL := 10) (pcE := 42) (LL := fun (s6 : Int) => [(0, (4, a0)), (1, (27, v1)), (2, (0, v4)), (3, (0, s6))]) (sL := fun _ => []) (ML := fun (s6 : Int) => M) (LE := fun (t7 : Unit) => []) (sE := fun _ => []) (ME := fun (t7 : Unit) => M) (fun kk25 hx24 hc22 he23 s6 => ?_) (fun t7 => ?_)
  · unfold b_X0_offsetsHold_10
    refine XE.go (st_iload_n (j := 3) (i := 3) (pc' := 11) (by decide +kernel) rfl rfl rfl) ?_
    refine XE.go (st_iload_n (j := 2) (i := 2) (pc' := 12) (by decide +kernel) rfl rfl rfl) ?_
    refine XE.bite (fun h26 => ?_) (fun h27 => ?_)
    · refine XE.go (st_icmp_ge_f (off := 30) (pc' := 15) (by decide +kernel) 42 (by decide) rfl (Int.not_le.mpr h26)) ?_
      refine XE.go (st_aload_n (j := 1) (i := 1) (pc' := 16) (by decide +kernel) rfl rfl (by decide) rfl) ?_
      refine XE.go (st_iload_n (j := 3) (i := 3) (pc' := 17) (by decide +kernel) rfl rfl rfl) ?_
      refine XE.gdb (fun g28 => ?_)
      refine XE.go (st_ald (k := 24) (tp := 12) (pc' := 18) (by decide +kernel) rfl ak_24 rfl (by decide) rfl (Or.inr (Or.inr (Or.inr ⟨rfl, rfl⟩))) g28.1 g28.2.1 g28.2.2) ?_
      refine XE.asc ?_
      refine XE.gen (fun v29 e30 => ?_)
      refine XE.go (st_astore (j := 4) (pc' := 20) (by decide +kernel)  (by decide) rfl (by decide) rfl rfl) ?_
      refine XE.go (st_aload (j := 4) (pc' := 22) (by decide +kernel) rfl (by decide) rfl) ?_
      refine XE.bite (fun h31 => ?_) (fun h32 => ?_)
      · refine XE.go (st_ifnull_t (off := 14) (pc' := 36) (by decide +kernel) (by decide) h31 (by decide)) ?_
        refine XE.go (st_iinc (j := 3) (n := 1) (pc' := 39) (by decide +kernel) rfl rfl (by decide) rfl rfl) ?_
        refine XE.go (st_goto (off := (-29)) (pc' := 10) (by decide +kernel) (by decide)) ?_
        exact XE.pick [2, 3, 4, 0] rfl (hc22 (w (s6 + 1)))
      · refine XE.go (st_ifnull_f (off := 14) (pc' := 25) (by decide +kernel) (by decide) h32 rfl) ?_
        refine XE.go (st_aload_n (j := 0) (i := 0) (pc' := 26) (by decide +kernel) rfl rfl (by decide) rfl) ?_
        refine XE.go (st_aload (j := 4) (pc' := 28) (by decide +kernel) rfl (by decide) rfl) ?_
        refine XE.asc ?_
        refine XE.cP (pc' := 31) (st := []) (fun r hr => ct_X0_readOffsetsHold h0 r hr) (fun r hr => run_V (st := []) (by decide +kernel) co_X0_offsetsHold_253 (ct_X0_readOffsetsHold h0 r hr) rfl h0 rfl rfl (Nat.le_of_ble_eq_true rfl)) rfl rfl (fun r33 => ?_)
        refine XE.bite (fun h34 => ?_) (fun h35 => ?_)
        · refine XE.go (st_if_ne_f (off := 5) (pc' := 34) (by decide +kernel) 36 (by decide) rfl (not_not_intro h34)) ?_
          refine XE.go (st_iconst (n := 0) (pc' := 35) (by decide +kernel) (w_eq (by decide) (by decide)) rfl) ?_
          refine XE.cast (hx24 _) ?_
          exact XE.rt rfl (X_zret (by decide +kernel) rfl (by decide))
        · refine XE.go (st_if_ne_t (off := 5) (pc' := 36) (by decide +kernel) (by decide) h35) ?_
          refine XE.go (st_iinc (j := 3) (n := 1) (pc' := 39) (by decide +kernel) rfl rfl (by decide) rfl rfl) ?_
          refine XE.go (st_goto (off := (-29)) (pc' := 10) (by decide +kernel) (by decide)) ?_
          exact XE.pick [2, 3, 4, 0] rfl (hc22 (w (s6 + 1)))
    · refine XE.go (st_icmp_ge_t (off := 30) (pc' := 42) (by decide +kernel) (by decide) (Int.not_lt.mp h27)) ?_
      exact XE.pick [] rfl (he23 ())
  · refine XE.go (st_iconst (n := 1) (pc' := 43) (by decide +kernel) (w_eq (by decide) (by decide)) rfl) ?_
    exact XE.rt rfl (X_zret (by decide +kernel) rfl (by decide))
theorem ct_X0_offsetsHold {D : Dt} {M : Mm} {a0 : Int} (h0 : a0 ≠ 0) (r : Int) (hr : p_X0_offsetsHold M a0 = some r) : CT D 0 mu_X0_offsetsHold [(4, a0)] M (.inl (some (0, r))) M := CT.of (by decide +kernel) rfl (Nat.le_of_ble_eq_true rfl) (xe_X0_offsetsHold h0 r hr)
def b_X10_offsetsHold_10 (v4 : Int) (v1 : Int) (M : Mm) (s6 : Int) : Option ((Int) ⊕ ((Int) ⊕ (Unit))) := if s6 < v4 then gd (aok v1 s6) ((some ((rd M v1 s6))).bind fun v29 => if v29 = 0 then some (.inl (w (s6 + 1))) else (p_X0_offsetsHold M v29).bind fun r33 => if r33 = 0 then some (.inr (.inl (0))) else some (.inl (w (s6 + 1)))) else some (.inr (.inr ()))
def p_X10_offsetsHold (M : Mm) (a0 : Int) : Option Int := (some ((rd M a0 3))).bind fun v1 => gd (v1 ≠ 0) ((some ((ln v1))).bind fun v4 => (lp (b_X10_offsetsHold_10 v4 v1 M) 1000 0).bind (Sum.elim some fun (t7 : Unit) => some (1)))
set_option maxRecDepth 100000 in
set_option maxHeartbeats 4000000 in
theorem xe_X10_offsetsHold {D : Dt} {M : Mm} {a0 : Int} (h0 : a0 ≠ 0) : XE D 0 mu_X10_offsetsHold (EP 0 M) 0 [(0, (14, a0))] [] M (p_X10_offsetsHold M a0) := by
  unfold p_X10_offsetsHold
  refine XE.go (st_aload_n (j := 0) (i := 0) (pc' := 1) (by decide +kernel) rfl rfl (by decide) rfl) ?_
  refine XE.go (st_get (pc' := 4) (by decide +kernel) rfl cls_10 fld_RX10_29 rfl rfl h0) ?_
  refine XE.gen (fun v1 e2 => ?_)
  refine XE.go (st_astore_n (j := 1) (i := 1) (pc' := 5) (by decide +kernel) rfl (by decide) rfl (by decide) rfl rfl) ?_
  refine XE.go (st_aload_n (j := 1) (i := 1) (pc' := 6) (by decide +kernel) rfl rfl (by decide) rfl) ?_
  refine XE.gd_ (fun g3 => ?_)
  refine XE.go (st_alen (k := 16) (pc' := 7) (by decide +kernel) rfl ak_16 rfl (by decide) g3) ?_
  refine XE.gen (fun v4 e5 => ?_)
  refine XE.go (st_istore_n (j := 2) (i := 2) (pc' := 8) (by decide +kernel) rfl rfl (by decide) rfl rfl) ?_
  refine XE.go (st_iconst (n := 0) (pc' := 9) (by decide +kernel) (w_eq (by decide) (by decide)) rfl) ?_
  refine XE.go (st_istore_n (j := 3) (i := 3) (pc' := 10) (by decide +kernel) rfl rfl (by decide) rfl rfl) ?_
  refine XE.pick [2, 1, 0] (L' := [(1, (19, v1)), (2, (0, v4)), (3, (0, 0))]) rfl ?_
  refine XE.loopX (n := 1000) (s0 := 0) (pcL := 10) (pcE := 41) (LL := fun (s6 : Int) => [(1, (19, v1)), (2, (0, v4)), (3, (0, s6))]) (sL := fun _ => []) (ML := fun (s6 : Int) => M) (LE := fun (t7 : Unit) => []) (sE := fun _ => []) (ME := fun (t7 : Unit) => M) (fun kk25 hx24 hc22 he23 s6 => ?_) (fun t7 => ?_)
  · unfold b_X10_offsetsHold_10
    refine XE.go (st_iload_n (j := 3) (i := 3) (pc' := 11) (by decide +kernel) rfl rfl rfl) ?_
    refine XE.go (st_iload_n (j := 2) (i := 2) (pc' := 12) (by decide +kernel) rfl rfl rfl) ?_
    refine XE.bite (fun h26 => ?_) (fun h27 => ?_)
    · refine XE.go (st_icmp_ge_f (off := 29) (pc' := 15) (by decide +kernel) 41 (by decide) rfl (Int.not_le.mpr h26)) ?_
      refine XE.go (st_aload_n (j := 1) (i := 1) (pc' := 16) (by decide +kernel) rfl rfl (by decide) rfl) ?_
      refine XE.go (st_iload_n (j := 3) (i := 3) (pc' := 17) (by decide +kernel) rfl rfl rfl) ?_
      refine XE.gdb (fun g28 => ?_)
      refine XE.go (st_ald (k := 16) (tp := 4) (pc' := 18) (by decide +kernel) rfl ak_16 rfl (by decide) rfl (Or.inr (Or.inr (Or.inr ⟨rfl, rfl⟩))) g28.1 g28.2.1 g28.2.2) ?_
      refine XE.asc ?_
      refine XE.gen (fun v29 e30 => ?_)
      refine XE.go (st_astore (j := 4) (pc' := 20) (by decide +kernel)  (by decide) rfl (by decide) rfl rfl) ?_
      refine XE.go (st_aload (j := 4) (pc' := 22) (by decide +kernel) rfl (by decide) rfl) ?_
      refine XE.bite (fun h31 => ?_) (fun h32 => ?_)
      · refine XE.go (st_ifnull_t (off := 13) (pc' := 35) (by decide +kernel) (by decide) h31 (by decide)) ?_
        refine XE.go (st_iinc (j := 3) (n := 1) (pc' := 38) (by decide +kernel) rfl rfl (by decide) rfl rfl) ?_
        refine XE.go (st_goto (off := (-28)) (pc' := 10) (by decide +kernel) (by decide)) ?_
        exact XE.pick [2, 3, 0] rfl (hc22 (w (s6 + 1)))
      · refine XE.go (st_ifnull_f (off := 13) (pc' := 25) (by decide +kernel) (by decide) h32 rfl) ?_
        refine XE.go (st_aload (j := 4) (pc' := 27) (by decide +kernel) rfl (by decide) rfl) ?_
        refine XE.asc ?_
        refine XE.cP (pc' := 30) (st := []) (fun r hr => ct_X0_offsetsHold h32 r hr) (fun r hr => run_V (st := []) (by decide +kernel) co_X10_offsetsHold_610 (ct_X0_offsetsHold h32 r hr) rfl h32 rfl rfl (Nat.le_of_ble_eq_true rfl)) rfl rfl (fun r33 => ?_)
        refine XE.bite (fun h34 => ?_) (fun h35 => ?_)
        · refine XE.go (st_if_ne_f (off := 5) (pc' := 33) (by decide +kernel) 35 (by decide) rfl (not_not_intro h34)) ?_
          refine XE.go (st_iconst (n := 0) (pc' := 34) (by decide +kernel) (w_eq (by decide) (by decide)) rfl) ?_
          refine XE.cast (hx24 _) ?_
          exact XE.rt rfl (X_zret (by decide +kernel) rfl (by decide))
        · refine XE.go (st_if_ne_t (off := 5) (pc' := 35) (by decide +kernel) (by decide) h35) ?_
          refine XE.go (st_iinc (j := 3) (n := 1) (pc' := 38) (by decide +kernel) rfl rfl (by decide) rfl rfl) ?_
          refine XE.go (st_goto (off := (-28)) (pc' := 10) (by decide +kernel) (by decide)) ?_
          exact XE.pick [2, 3, 0] rfl (hc22 (w (s6 + 1)))
    · refine XE.go (st_icmp_ge_t (off := 29) (pc' := 41) (by decide +kernel) (by decide) (Int.not_lt.mp h27)) ?_
      exact XE.pick [] rfl (he23 ())
  · refine XE.go (st_iconst (n := 1) (pc' := 42) (by decide +kernel) (w_eq (by decide) (by decide)) rfl) ?_
    exact XE.rt rfl (X_zret (by decide +kernel) rfl (by decide))
theorem ct_X10_offsetsHold {D : Dt} {M : Mm} {a0 : Int} (h0 : a0 ≠ 0) (r : Int) (hr : p_X10_offsetsHold M a0 = some r) : CT D 0 mu_X10_offsetsHold [(14, a0)] M (.inl (some (0, r))) M := CT.of (by decide +kernel) rfl (Nat.le_of_ble_eq_true rfl) (xe_X10_offsetsHold h0 r hr)
def b_X0_isNoneOrMember_17 (v6 : Int) (v3 : Int) (M : Mm) (a1 : Int) (s8 : Int) : Option ((Int) ⊕ ((Int) ⊕ (Unit))) := if s8 < v6 then gd (aok v3 s8) ((some ((rd M v3 s8))).bind fun v28 => if v28 = a1 then some (.inr (.inl (1))) else some (.inl (w (s8 + 1)))) else some (.inr (.inr ()))
def p_X0_isNoneOrMember (M : Mm) (a0 a1 : Int) : Option Int := if a1 = 0 then some (1) else (some ((rd M a0 1))).bind fun v3 => gd (v3 ≠ 0) ((some ((ln v3))).bind fun v6 => (lp (b_X0_isNoneOrMember_17 v6 v3 M a1) 1000 0).bind (Sum.elim some fun (t9 : Unit) => some (0)))
set_option maxRecDepth 100000 in
set_option maxHeartbeats 4000000 in
theorem xe_X0_isNoneOrMember {D : Dt} {M : Mm} {a0 a1 : Int} (h0 : a0 ≠ 0) : XE D 0 mu_X0_isNoneOrMember (EP 0 M) 0 [(0, (4, a0)), (1, (7, a1))] [] M (p_X0_isNoneOrMember M a0 a1) := by
  unfold p_X0_isNoneOrMember
  refine XE.go (st_aload_n (j := 1) (i := 1) (pc' := 1) (by decide +kernel) rfl rfl (by decide) rfl) ?_
  refine XE.ite (fun h1 => ?_) (fun h2 => ?_)
  · refine XE.go (st_ifnonnull_f (off := 5) (pc' := 4) (by decide +kernel) (by decide) h1 rfl) ?_
    refine XE.go (st_iconst (n := 1) (pc' := 5) (by decide +kernel) (w_eq (by decide) (by decide)) rfl) ?_
    exact XE.rt rfl (X_zret (by decide +kernel) rfl (by decide))
  · refine XE.go (st_ifnonnull_t (off := 5) (pc' := 6) (by decide +kernel) (by decide) h2 (by decide)) ?_
    refine XE.go (st_aload_n (j := 0) (i := 0) (pc' := 7) (by decide +kernel) rfl rfl (by decide) rfl) ?_
    refine XE.go (st_get (pc' := 10) (by decide +kernel) rfl cls_0 fld_RX0_19 rfl rfl h0) ?_
    refine XE.gen (fun v3 e4 => ?_)
    refine XE.go (st_astore_n (j := 2) (i := 2) (pc' := 11) (by decide +kernel) rfl (by decide) rfl (by decide) rfl rfl) ?_
    refine XE.go (st_aload_n (j := 2) (i := 2) (pc' := 12) (by decide +kernel) rfl rfl (by decide) rfl) ?_
    refine XE.gd_ (fun g5 => ?_)
    refine XE.go (st_alen (k := 19) (pc' := 13) (by decide +kernel) rfl ak_19 rfl (by decide) g5) ?_
    refine XE.gen (fun v6 e7 => ?_)
    refine XE.go (st_istore_n (j := 3) (i := 3) (pc' := 14) (by decide +kernel) rfl rfl (by decide) rfl rfl) ?_
    refine XE.go (st_iconst (n := 0) (pc' := 15) (by decide +kernel) (w_eq (by decide) (by decide)) rfl) ?_
    refine XE.go (st_istore (j := 4) (pc' := 17) (by decide +kernel)  rfl (by decide) rfl rfl) ?_
    refine XE.pick [4, 2, 1, 0] (L' := [(1, (7, a1)), (2, (22, v3)), (3, (0, v6)), (4, (0, 0))]) rfl ?_
    refine XE.loopX (n := 1000) (s0 := 0) (pcL := 17) (pcE := 43) (LL := fun (s8 : Int) => [(1, (7, a1)), (2, (22, v3)), (3, (0, v6)), (4, (0, s8))]) (sL := fun _ => []) (ML := fun (s8 : Int) => M) (LE := fun (t9 : Unit) => []) (sE := fun _ => []) (ME := fun (t9 : Unit) => M) (fun kk24 hx23 hc21 he22 s8 => ?_) (fun t9 => ?_)
    · unfold b_X0_isNoneOrMember_17
      refine XE.go (st_iload (j := 4) (pc' := 19) (by decide +kernel) rfl rfl) ?_
      refine XE.go (st_iload_n (j := 3) (i := 3) (pc' := 20) (by decide +kernel) rfl rfl rfl) ?_
      refine XE.bite (fun h25 => ?_) (fun h26 => ?_)
      · refine XE.go (st_icmp_ge_f (off := 23) (pc' := 23) (by decide +kernel) 43 (by decide) rfl (Int.not_le.mpr h25)) ?_
        refine XE.go (st_aload_n (j := 2) (i := 2) (pc' := 24) (by decide +kernel) rfl rfl (by decide) rfl) ?_
        refine XE.go (st_iload (j := 4) (pc' := 26) (by decide +kernel) rfl rfl) ?_
        refine XE.gdb (fun g27 => ?_)
        refine XE.go (st_ald (k := 19) (tp := 7) (pc' := 27) (by decide +kernel) rfl ak_19 rfl (by decide) rfl (Or.inr (Or.inr (Or.inr ⟨rfl, rfl⟩))) g27.1 g27.2.1 g27.2.2) ?_
        refine XE.asc ?_
        refine XE.gen (fun v28 e29 => ?_)
        refine XE.go (st_astore (j := 5) (pc' := 29) (by decide +kernel)  (by decide) rfl (by decide) rfl rfl) ?_
        refine XE.go (st_aload (j := 5) (pc' := 31) (by decide +kernel) rfl (by decide) rfl) ?_
        refine XE.go (st_aload_n (j := 1) (i := 1) (pc' := 32) (by decide +kernel) rfl rfl (by decide) rfl) ?_
        refine XE.bite (fun h30 => ?_) (fun h31 => ?_)
        · refine XE.go (st_acmp_ne_f (off := 5) (pc' := 35) (by decide +kernel) 37 (by decide) (by decide) (by decide) h30 rfl) ?_
          refine XE.go (st_iconst (n := 1) (pc' := 36) (by decide +kernel) (w_eq (by decide) (by decide)) rfl) ?_
          refine XE.cast (hx23 _) ?_
          exact XE.rt rfl (X_zret (by decide +kernel) rfl (by decide))
        · refine XE.go (st_acmp_ne_t (off := 5) (pc' := 37) (by decide +kernel) (by decide) (by decide) h31 (by decide)) ?_
          refine XE.go (st_iinc (j := 4) (n := 1) (pc' := 40) (by decide +kernel) rfl rfl (by decide) rfl rfl) ?_
          refine XE.go (st_goto (off := (-23)) (pc' := 17) (by decide +kernel) (by decide)) ?_
          exact XE.pick [2, 3, 4, 0] rfl (hc21 (w (s8 + 1)))
      · refine XE.go (st_icmp_ge_t (off := 23) (pc' := 43) (by decide +kernel) (by decide) (Int.not_lt.mp h26)) ?_
        exact XE.pick [] rfl (he22 ())
    · refine XE.go (st_iconst (n := 0) (pc' := 44) (by decide +kernel) (w_eq (by decide) (by decide)) rfl) ?_
      exact XE.rt rfl (X_zret (by decide +kernel) rfl (by decide))
theorem ct_X0_isNoneOrMember {D : Dt} {M : Mm} {a0 a1 : Int} (h0 : a0 ≠ 0) (r : Int) (hr : p_X0_isNoneOrMember M a0 a1 = some r) : CT D 0 mu_X0_isNoneOrMember [(4, a0), (7, a1)] M (.inl (some (0, r))) M := CT.of (by decide +kernel) rfl (Nat.le_of_ble_eq_true rfl) (xe_X0_isNoneOrMember h0 r hr)
def b_X0_sharesHold_75 (v26 : Int) (v23 : Int) (M : Mm) (a0 : Int) (s28 : Int) : Option ((Int) ⊕ ((Int) ⊕ (Unit))) := if s28 < v26 then gd (aok v23 s28) ((some ((rd M v23 s28))).bind fun v54 => if v54 = 0 then some (.inl (w (s28 + 1))) else (p_X0_isNoneOrMember M a0 (rd M v54 1)).bind fun r58 => if r58 = 0 then some (.inr (.inl (0))) else (p_X0_isNoneOrMember M a0 (rd M v54 2)).bind fun r61 => if r61 = 0 then some (.inr (.inl (0))) else some (.inl (w (s28 + 1)))) else some (.inr (.inr ()))
def b_X0_sharesHold_17 (v4 : Int) (v1 : Int) (M : Mm) (a0 : Int) (s6 : Int × Int × Int) : Option ((Int × Int × Int) ⊕ (Int × Int)) := if s6.2.2 < v4 then gd (aok v1 s6.2.2) ((some ((rd M v1 s6.2.2))).bind fun v15 => if v15 = 0 then some (.inl (s6.1, s6.2.1, (w (s6.2.2 + 1)))) else (p_X0_targetCount M a0 v15).bind fun r19 => (p_J9_min_7cf53 M s6.1 r19).bind fun r20 => (p_X0_targetCount M a0 v15).bind fun r21 => (p_J9_max_7cf53 M s6.2.1 r21).bind fun r22 => some (.inl (r20, r22, (w (s6.2.2 + 1))))) else some (.inr (s6.1, s6.2.1))
def p_X0_sharesHold (M : Mm) (a0 : Int) : Option Int := (some ((rd M a0 1))).bind fun v1 => gd (v1 ≠ 0) ((some ((ln v1))).bind fun v4 => (lp (b_X0_sharesHold_17 v4 v1 M a0) 1000 (9, 0, 0)).bind fun (t7 : Int × Int) => (some ((rd M a0 0))).bind fun v23 => gd (v23 ≠ 0) ((some ((ln v23))).bind fun v26 => (lp (b_X0_sharesHold_75 v26 v23 M a0) 1000 0).bind (Sum.elim some fun (t29 : Unit) => if 1 < (w (t7.2 - t7.1)) then some (0) else some (1))))
set_option maxRecDepth 100000 in
set_option maxHeartbeats 4000000 in
theorem xe_X0_sharesHold {D : Dt} {M : Mm} {a0 : Int} (h0 : a0 ≠ 0) : XE D 0 mu_X0_sharesHold (EP 0 M) 0 [(0, (4, a0))] [] M (p_X0_sharesHold M a0) := by
  unfold p_X0_sharesHold
  refine XE.go (st_bipush (n := 9) (pc' := 2) (by decide +kernel) (by decide) (w_eq (by decide) (by decide)) rfl) ?_
  refine XE.go (st_istore_n (j := 1) (i := 1) (pc' := 3) (by decide +kernel) rfl rfl (by decide) rfl rfl) ?_
  refine XE.go (st_iconst (n := 0) (pc' := 4) (by decide +kernel) (w_eq (by decide) (by decide)) rfl) ?_
  refine XE.go (st_istore_n (j := 2) (i := 2) (pc' := 5) (by decide +kernel) rfl rfl (by decide) rfl rfl) ?_
  refine XE.go (st_aload_n (j := 0) (i := 0) (pc' := 6) (by decide +kernel) rfl rfl (by decide) rfl) ?_
  refine XE.go (st_get (pc' := 9) (by decide +kernel) rfl cls_0 fld_RX0_19 rfl rfl h0) ?_
  refine XE.gen (fun v1 e2 => ?_)
  refine XE.go (st_astore_n (j := 3) (i := 3) (pc' := 10) (by decide +kernel) rfl (by decide) rfl (by decide) rfl rfl) ?_
  refine XE.go (st_aload_n (j := 3) (i := 3) (pc' := 11) (by decide +kernel) rfl rfl (by decide) rfl) ?_
  refine XE.gd_ (fun g3 => ?_)
  refine XE.go (st_alen (k := 19) (pc' := 12) (by decide +kernel) rfl ak_19 rfl (by decide) g3) ?_
  refine XE.gen (fun v4 e5 => ?_)
  refine XE.go (st_istore (j := 4) (pc' := 14) (by decide +kernel)  rfl (by decide) rfl rfl) ?_
  refine XE.go (st_iconst (n := 0) (pc' := 15) (by decide +kernel) (w_eq (by decide) (by decide)) rfl) ?_
  refine XE.go (st_istore (j := 5) (pc' := 17) (by decide +kernel)  rfl (by decide) rfl rfl) ?_
  refine XE.pick [5, 4, 3, 2, 1, 0] (L' := [(0, (4, a0)), (1, (0, 9)), (2, (0, 0)), (3, (22, v1)), (4, (0, v4)), (5, (0, 0))]) rfl ?_
  refine XE.loopJ (n := 1000) (s0 := (9, 0, 0)) (pcL := 17) (pcE := 63) (LL := fun (s6 : Int × Int × Int) => [(0, (4, a0)), (1, (0, s6.1)), (2, (0, s6.2.1)), (3, (22, v1)), (4, (0, v4)), (5, (0, s6.2.2))]) (sL := fun _ => []) (ML := fun (s6 : Int × Int × Int) => M) (LE := fun (t7 : Int × Int) => [(0, (4, a0)), (1, (0, t7.1)), (2, (0, t7.2))]) (sE := fun _ => []) (ME := fun (t7 : Int × Int) => M) (fun kk11 hc8 he9 s6 => ?_) (fun t7 => ?_)
  · unfold b_X0_sharesHold_17
    refine XE.go (st_iload (j := 5) (pc' := 19) (by decide +kernel) rfl rfl) ?_
    refine XE.go (st_iload (j := 4) (pc' := 21) (by decide +kernel) rfl rfl) ?_
    refine XE.bite (fun h12 => ?_) (fun h13 => ?_)
    · refine XE.go (st_icmp_ge_f (off := 42) (pc' := 24) (by decide +kernel) 63 (by decide) rfl (Int.not_le.mpr h12)) ?_
      refine XE.go (st_aload_n (j := 3) (i := 3) (pc' := 25) (by decide +kernel) rfl rfl (by decide) rfl) ?_
      refine XE.go (st_iload (j := 5) (pc' := 27) (by decide +kernel) rfl rfl) ?_
      refine XE.gdb (fun g14 => ?_)
      refine XE.go (st_ald (k := 19) (tp := 7) (pc' := 28) (by decide +kernel) rfl ak_19 rfl (by decide) rfl (Or.inr (Or.inr (Or.inr ⟨rfl, rfl⟩))) g14.1 g14.2.1 g14.2.2) ?_
      refine XE.asc ?_
      refine XE.gen (fun v15 e16 => ?_)
      refine XE.go (st_astore (j := 6) (pc' := 30) (by decide +kernel)  (by decide) rfl (by decide) rfl rfl) ?_
      refine XE.go (st_aload (j := 6) (pc' := 32) (by decide +kernel) rfl (by decide) rfl) ?_
      refine XE.bite (fun h17 => ?_) (fun h18 => ?_)
      · refine XE.go (st_ifnull_t (off := 25) (pc' := 57) (by decide +kernel) (by decide) h17 (by decide)) ?_
        refine XE.go (st_iinc (j := 5) (n := 1) (pc' := 60) (by decide +kernel) rfl rfl (by decide) rfl rfl) ?_
        refine XE.go (st_goto (off := (-43)) (pc' := 17) (by decide +kernel) (by decide)) ?_
        exact XE.pick [2, 3, 4, 5, 6, 0] rfl (hc8 (s6.1, s6.2.1, (w (s6.2.2 + 1))))
      · refine XE.go (st_ifnull_f (off := 25) (pc' := 35) (by decide +kernel) (by decide) h18 rfl) ?_
        refine XE.go (st_iload_n (j := 1) (i := 1) (pc' := 36) (by decide +kernel) rfl rfl rfl) ?_
        refine XE.go (st_aload_n (j := 0) (i := 0) (pc' := 37) (by decide +kernel) rfl rfl (by decide) rfl) ?_
        refine XE.go (st_aload (j := 6) (pc' := 39) (by decide +kernel) rfl (by decide) rfl) ?_
        refine XE.asc ?_
        refine XE.cP (pc' := 42) (st := [(0, s6.1)]) (fun r hr => ct_X0_targetCount h0 r hr) (fun r hr => run_V (st := [(0, s6.1)]) (by decide +kernel) co_X0_sharesHold_117 (ct_X0_targetCount h0 r hr) rfl h0 rfl rfl (Nat.le_of_ble_eq_true rfl)) rfl rfl (fun r19 => ?_)
        refine XE.asc ?_
        refine XE.cP (pc' := 45) (st := []) (fun r hr => ct_J9_min_7cf53 r hr) (fun r hr => run_S (st := []) (by decide +kernel) co_X0_sharesHold_260 (ct_J9_min_7cf53 r hr) rfl rfl (Nat.le_of_ble_eq_true rfl)) rfl rfl (fun r20 => ?_)
        refine XE.go (st_istore_n (j := 1) (i := 1) (pc' := 46) (by decide +kernel) rfl rfl (by decide) rfl rfl) ?_
        refine XE.go (st_iload_n (j := 2) (i := 2) (pc' := 47) (by decide +kernel) rfl rfl rfl) ?_
        refine XE.go (st_aload_n (j := 0) (i := 0) (pc' := 48) (by decide +kernel) rfl rfl (by decide) rfl) ?_
        refine XE.go (st_aload (j := 6) (pc' := 50) (by decide +kernel) rfl (by decide) rfl) ?_
        refine XE.asc ?_
        refine XE.cP (pc' := 53) (st := [(0, s6.2.1)]) (fun r hr => ct_X0_targetCount h0 r hr) (fun r hr => run_V (st := [(0, s6.2.1)]) (by decide +kernel) co_X0_sharesHold_117 (ct_X0_targetCount h0 r hr) rfl h0 rfl rfl (Nat.le_of_ble_eq_true rfl)) rfl rfl (fun r21 => ?_)
        refine XE.asc ?_
        refine XE.cP (pc' := 56) (st := []) (fun r hr => ct_J9_max_7cf53 r hr) (fun r hr => run_S (st := []) (by decide +kernel) co_X0_sharesHold_137 (ct_J9_max_7cf53 r hr) rfl rfl (Nat.le_of_ble_eq_true rfl)) rfl rfl (fun r22 => ?_)
        refine XE.go (st_istore_n (j := 2) (i := 2) (pc' := 57) (by decide +kernel) rfl rfl (by decide) rfl rfl) ?_
        refine XE.go (st_iinc (j := 5) (n := 1) (pc' := 60) (by decide +kernel) rfl rfl (by decide) rfl rfl) ?_
        refine XE.go (st_goto (off := (-43)) (pc' := 17) (by decide +kernel) (by decide)) ?_
        exact XE.pick [4, 2, 1, 5, 6, 0] rfl (hc8 (r20, r22, (w (s6.2.2 + 1))))
    · refine XE.go (st_icmp_ge_t (off := 42) (pc' := 63) (by decide +kernel) (by decide) (Int.not_lt.mp h13)) ?_
      exact XE.pick [0, 1, 2] rfl (he9 (s6.1, s6.2.1))
  · refine XE.go (st_aload_n (j := 0) (i := 0) (pc' := 64) (by decide +kernel) rfl rfl (by decide) rfl) ?_
    refine XE.go (st_get (pc' := 67) (by decide +kernel) rfl cls_0 fld_RX0_11 rfl rfl h0) ?_
    refine XE.gen (fun v23 e24 => ?_)
    refine XE.go (st_astore_n (j := 3) (i := 3) (pc' := 68) (by decide +kernel) rfl (by decide) rfl (by decide) rfl rfl) ?_
    refine XE.go (st_aload_n (j := 3) (i := 3) (pc' := 69) (by decide +kernel) rfl rfl (by decide) rfl) ?_
    refine XE.gd_ (fun g25 => ?_)
    refine XE.go (st_alen (k := 24) (pc' := 70) (by decide +kernel) rfl ak_24 rfl (by decide) g25) ?_
    refine XE.gen (fun v26 e27 => ?_)
    refine XE.go (st_istore (j := 4) (pc' := 72) (by decide +kernel)  rfl (by decide) rfl rfl) ?_
    refine XE.go (st_iconst (n := 0) (pc' := 73) (by decide +kernel) (w_eq (by decide) (by decide)) rfl) ?_
    refine XE.go (st_istore (j := 5) (pc' := 75) (by decide +kernel)  rfl (by decide) rfl rfl) ?_
    refine XE.pick [3, 4, 5, 2, 1, 0] (L' := [(0, (4, a0)), (1, (0, t7.1)), (2, (0, t7.2)), (3, (27, v23)), (4, (0, v26)), (5, (0, 0))]) rfl ?_
    refine XE.loopX (n := 1000) (s0 := 0) (pcL := 75) (pcE := 125) (LL := fun (s28 : Int) => [(0, (4, a0)), (1, (0, t7.1)), (2, (0, t7.2)), (3, (27, v23)), (4, (0, v26)), (5, (0, s28))]) (sL := fun _ => []) (ML := fun (s28 : Int) => M) (LE := fun (t29 : Unit) => [(1, (0, t7.1)), (2, (0, t7.2))]) (sE := fun _ => []) (ME := fun (t29 : Unit) => M) (fun kk50 hx49 hc47 he48 s28 => ?_) (fun t29 => ?_)
    · unfold b_X0_sharesHold_75
      refine XE.go (st_iload (j := 5) (pc' := 77) (by decide +kernel) rfl rfl) ?_
      refine XE.go (st_iload (j := 4) (pc' := 79) (by decide +kernel) rfl rfl) ?_
      refine XE.bite (fun h51 => ?_) (fun h52 => ?_)
      · refine XE.go (st_icmp_ge_f (off := 46) (pc' := 82) (by decide +kernel) 125 (by decide) rfl (Int.not_le.mpr h51)) ?_
        refine XE.go (st_aload_n (j := 3) (i := 3) (pc' := 83) (by decide +kernel) rfl rfl (by decide) rfl) ?_
        refine XE.go (st_iload (j := 5) (pc' := 85) (by decide +kernel) rfl rfl) ?_
        refine XE.gdb (fun g53 => ?_)
        refine XE.go (st_ald (k := 24) (tp := 12) (pc' := 86) (by decide +kernel) rfl ak_24 rfl (by decide) rfl (Or.inr (Or.inr (Or.inr ⟨rfl, rfl⟩))) g53.1 g53.2.1 g53.2.2) ?_
        refine XE.asc ?_
        refine XE.gen (fun v54 e55 => ?_)
        refine XE.go (st_astore (j := 6) (pc' := 88) (by decide +kernel)  (by decide) rfl (by decide) rfl rfl) ?_
        refine XE.go (st_aload (j := 6) (pc' := 90) (by decide +kernel) rfl (by decide) rfl) ?_
        refine XE.bite (fun h56 => ?_) (fun h57 => ?_)
        · refine XE.go (st_ifnull_t (off := 29) (pc' := 119) (by decide +kernel) (by decide) h56 (by decide)) ?_
          refine XE.go (st_iinc (j := 5) (n := 1) (pc' := 122) (by decide +kernel) rfl rfl (by decide) rfl rfl) ?_
          refine XE.go (st_goto (off := (-47)) (pc' := 75) (by decide +kernel) (by decide)) ?_
          exact XE.pick [2, 3, 4, 5, 6, 0] rfl (hc47 (w (s28 + 1)))
        · refine XE.go (st_ifnull_f (off := 29) (pc' := 93) (by decide +kernel) (by decide) h57 rfl) ?_
          refine XE.go (st_aload_n (j := 0) (i := 0) (pc' := 94) (by decide +kernel) rfl rfl (by decide) rfl) ?_
          refine XE.go (st_aload (j := 6) (pc' := 96) (by decide +kernel) rfl (by decide) rfl) ?_
          refine XE.go (st_get (pc' := 99) (by decide +kernel) rfl cls_8 fld_RX0_76 rfl rfl h57) ?_
          refine XE.asc ?_
          refine XE.cP (pc' := 102) (st := []) (fun r hr => ct_X0_isNoneOrMember h0 r hr) (fun r hr => run_V (st := []) (by decide +kernel) co_X0_sharesHold_263 (ct_X0_isNoneOrMember h0 r hr) rfl h0 rfl rfl (Nat.le_of_ble_eq_true rfl)) rfl rfl (fun r58 => ?_)
          refine XE.bite (fun h59 => ?_) (fun h60 => ?_)
          · refine XE.go (st_if_eq_t (off := 15) (pc' := 117) (by decide +kernel) (by decide) h59) ?_
            refine XE.go (st_iconst (n := 0) (pc' := 118) (by decide +kernel) (w_eq (by decide) (by decide)) rfl) ?_
            refine XE.cast (hx49 _) ?_
            exact XE.rt rfl (X_zret (by decide +kernel) rfl (by decide))
          · refine XE.go (st_if_eq_f (off := 15) (pc' := 105) (by decide +kernel) 117 (by decide) rfl h60) ?_
            refine XE.go (st_aload_n (j := 0) (i := 0) (pc' := 106) (by decide +kernel) rfl rfl (by decide) rfl) ?_
            refine XE.go (st_aload (j := 6) (pc' := 108) (by decide +kernel) rfl (by decide) rfl) ?_
            refine XE.go (st_get (pc' := 111) (by decide +kernel) rfl cls_8 fld_RX0_80 rfl rfl h57) ?_
            refine XE.asc ?_
            refine XE.cP (pc' := 114) (st := []) (fun r hr => ct_X0_isNoneOrMember h0 r hr) (fun r hr => run_V (st := []) (by decide +kernel) co_X0_sharesHold_263 (ct_X0_isNoneOrMember h0 r hr) rfl h0 rfl rfl (Nat.le_of_ble_eq_true rfl)) rfl rfl (fun r61 => ?_)
            refine XE.bite (fun h62 => ?_) (fun h63 => ?_)
            · refine XE.go (st_if_ne_f (off := 5) (pc' := 117) (by decide +kernel) 119 (by decide) rfl (not_not_intro h62)) ?_
              refine XE.go (st_iconst (n := 0) (pc' := 118) (by decide +kernel) (w_eq (by decide) (by decide)) rfl) ?_
              refine XE.cast (hx49 _) ?_
              exact XE.rt rfl (X_zret (by decide +kernel) rfl (by decide))
            · refine XE.go (st_if_ne_t (off := 5) (pc' := 119) (by decide +kernel) (by decide) h63) ?_
              refine XE.go (st_iinc (j := 5) (n := 1) (pc' := 122) (by decide +kernel) rfl rfl (by decide) rfl rfl) ?_
              refine XE.go (st_goto (off := (-47)) (pc' := 75) (by decide +kernel) (by decide)) ?_
              exact XE.pick [2, 3, 4, 5, 6, 0] rfl (hc47 (w (s28 + 1)))
      · refine XE.go (st_icmp_ge_t (off := 46) (pc' := 125) (by decide +kernel) (by decide) (Int.not_lt.mp h52)) ?_
        exact XE.pick [1, 2] rfl (he48 ())
    · refine XE.go (st_iload_n (j := 2) (i := 2) (pc' := 126) (by decide +kernel) rfl rfl rfl) ?_
      refine XE.go (st_iload_n (j := 1) (i := 1) (pc' := 127) (by decide +kernel) rfl rfl rfl) ?_
      refine XE.go (st_isub (pc' := 128) (by decide +kernel) rfl) ?_
      refine XE.go (st_iconst (n := 1) (pc' := 129) (by decide +kernel) (w_eq (by decide) (by decide)) rfl) ?_
      refine XE.ite (fun h64 => ?_) (fun h65 => ?_)
      · refine XE.go (st_icmp_gt_t (off := 7) (pc' := 136) (by decide +kernel) (by decide) h64) ?_
        refine XE.go (st_iconst (n := 0) (pc' := 137) (by decide +kernel) (w_eq (by decide) (by decide)) rfl) ?_
        exact XE.rt rfl (X_zret (by decide +kernel) rfl (by decide))
      · refine XE.go (st_icmp_gt_f (off := 7) (pc' := 132) (by decide +kernel) 136 (by decide) rfl h65) ?_
        refine XE.go (st_iconst (n := 1) (pc' := 133) (by decide +kernel) (w_eq (by decide) (by decide)) rfl) ?_
        refine XE.go (st_goto (off := 4) (pc' := 137) (by decide +kernel) (by decide)) ?_
        exact XE.rt rfl (X_zret (by decide +kernel) rfl (by decide))
theorem ct_X0_sharesHold {D : Dt} {M : Mm} {a0 : Int} (h0 : a0 ≠ 0) (r : Int) (hr : p_X0_sharesHold M a0 = some r) : CT D 0 mu_X0_sharesHold [(4, a0)] M (.inl (some (0, r))) M := CT.of (by decide +kernel) rfl (Nat.le_of_ble_eq_true rfl) (xe_X0_sharesHold h0 r hr)
def b_X0_handHolds_2 (a1 : Int) (M : Mm) (a0 : Int) (s1 : Int) : Option ((Int) ⊕ ((Int) ⊕ (Unit))) := gd (a1 ≠ 0) (gd ((rd M a1 1) ≠ 0) (if s1 < (rd M (rd M a1 1) 1) then (p_X2_get M (rd M a1 1) s1).bind fun r33 => (if r33 = 0 then some (0) else gd ((rd M r33 0) ≠ 0) (gd ((rd M (rd M r33 0) 2) ≠ 0) ((p_X0_shareAt M a0 (rd M (rd M (rd M r33 0) 2) 0)).bind fun r42 => some (r42))) : Option (Int)).bind fun (s34 : Int) => if s34 = 0 then some (.inr (.inl (0))) else if (rd M s34 1) = a1 then some (.inl (w (s1 + 1))) else some (.inr (.inl (0))) else some (.inr (.inr ()))))
def p_X0_handHolds (M : Mm) (a0 a1 : Int) : Option Int := (lp (b_X0_handHolds_2 a1 M a0) 1000 0).bind (Sum.elim some fun (t2 : Unit) => gd (a1 ≠ 0) (gd ((rd M a1 1) ≠ 0) (if (rd M a1 3) < (rd M (rd M a1 1) 1) then some (0) else some (1))))
set_option maxRecDepth 100000 in
set_option maxHeartbeats 4000000 in
theorem xe_X0_handHolds {D : Dt} {M : Mm} {a0 a1 : Int} (h0 : a0 ≠ 0) : XE D 0 mu_X0_handHolds (EP 0 M) 0 [(0, (4, a0)), (1, (7, a1))] [] M (p_X0_handHolds M a0 a1) := by
  unfold p_X0_handHolds
  refine XE.go (st_iconst (n := 0) (pc' := 1) (by decide +kernel) (w_eq (by decide) (by decide)) rfl) ?_
  refine XE.go (st_istore_n (j := 2) (i := 2) (pc' := 2) (by decide +kernel) rfl rfl (by decide) rfl rfl) ?_
  refine XE.pick [1, 2, 0] (L' := [(0, (4, a0)), (1, (7, a1)), (2, (0, 0))]) rfl ?_
  refine XE.loopX (n := 1000) (s0 := 0) (pcL := 2) (pcE := 68) (LL := fun (s1 : Int) => [(0, (4, a0)), (1, (7, a1)), (2, (0, s1))]) (sL := fun _ => []) (ML := fun (s1 : Int) => M) (LE := fun (t2 : Unit) => [(1, (7, a1))]) (sE := fun _ => []) (ME := fun (t2 : Unit) => M) (fun kk28 hx27 hc25 he26 s1 => ?_) (fun t2 => ?_)
  · unfold b_X0_handHolds_2
    refine XE.go (st_iload_n (j := 2) (i := 2) (pc' := 3) (by decide +kernel) rfl rfl rfl) ?_
    refine XE.go (st_aload_n (j := 1) (i := 1) (pc' := 4) (by decide +kernel) rfl rfl (by decide) rfl) ?_
    refine XE.gdb (fun g29 => ?_)
    refine XE.go (st_get (pc' := 7) (by decide +kernel) rfl cls_3 fld_RX0_146 rfl rfl g29) ?_
    refine XE.gdb (fun g30 => ?_)
    refine XE.go (st_get (pc' := 10) (by decide +kernel) rfl cls_2 fld_RX0_149 rfl rfl g30) ?_
    refine XE.bite (fun h31 => ?_) (fun h32 => ?_)
    · refine XE.go (st_icmp_ge_f (off := 58) (pc' := 13) (by decide +kernel) 68 (by decide) rfl (Int.not_le.mpr h31)) ?_
      refine XE.go (st_aload_n (j := 1) (i := 1) (pc' := 14) (by decide +kernel) rfl rfl (by decide) rfl) ?_
      refine XE.go (st_get (pc' := 17) (by decide +kernel) rfl cls_3 fld_RX0_146 rfl rfl g29) ?_
      refine XE.go (st_iload_n (j := 2) (i := 2) (pc' := 18) (by decide +kernel) rfl rfl rfl) ?_
      refine XE.asc ?_
      refine XE.cP (pc' := 21) (st := []) (fun r hr => ct_X2_get g30 r hr) (fun r hr => run_V (st := []) (by decide +kernel) co_X0_handHolds_152 (ct_X2_get g30 r hr) rfl g30 rfl rfl (Nat.le_of_ble_eq_true rfl)) rfl rfl (fun r33 => ?_)
      refine XE.go (st_astore_n (j := 3) (i := 3) (pc' := 22) (by decide +kernel) rfl (by decide) rfl (by decide) rfl rfl) ?_
      refine XE.go (st_aload_n (j := 3) (i := 3) (pc' := 23) (by decide +kernel) rfl rfl (by decide) rfl) ?_
      refine XE.asc ?_
      refine XE.join (pcJ := 44) (LJ := fun (s34 : Int) => [(0, (4, a0)), (1, (7, a1)), (2, (0, s1))]) (sJ := fun (s34 : Int) => [(12, s34)]) (MJ := fun (s34 : Int) => M) (fun kk37 hk35 => ?_) (fun s34 => ?_)
      · refine XE.bite (fun h38 => ?_) (fun h39 => ?_)
        · refine XE.go (st_ifnonnull_f (off := 7) (pc' := 26) (by decide +kernel) (by decide) h38 rfl) ?_
          refine XE.go (st_null (t := 12) (pc' := 27) (by decide +kernel) (by decide) rfl) ?_
          refine XE.go (st_goto (off := 17) (pc' := 44) (by decide +kernel) (by decide)) ?_
          exact XE.pick [1, 2, 3] rfl (hk35 0)
        · refine XE.go (st_ifnonnull_t (off := 7) (pc' := 30) (by decide +kernel) (by decide) h39 (by decide)) ?_
          refine XE.go (st_aload_n (j := 0) (i := 0) (pc' := 31) (by decide +kernel) rfl rfl (by decide) rfl) ?_
          refine XE.go (st_aload_n (j := 3) (i := 3) (pc' := 32) (by decide +kernel) rfl rfl (by decide) rfl) ?_
          refine XE.go (st_get (pc' := 35) (by decide +kernel) rfl cls_1 fld_RX0_156 rfl rfl h39) ?_
          refine XE.gdb (fun g40 => ?_)
          refine XE.go (st_get (pc' := 38) (by decide +kernel) rfl cls_4 fld_RX0_160 rfl rfl g40) ?_
          refine XE.gdb (fun g41 => ?_)
          refine XE.go (st_get (pc' := 41) (by decide +kernel) rfl cls_5 fld_RX0_57 rfl rfl g41) ?_
          refine XE.asc ?_
          refine XE.cP (pc' := 44) (st := []) (fun r hr => ct_X0_shareAt h0 r hr) (fun r hr => run_V (st := []) (by decide +kernel) co_X0_handHolds_196 (ct_X0_shareAt h0 r hr) rfl h0 rfl rfl (Nat.le_of_ble_eq_true rfl)) rfl rfl (fun r42 => ?_)
          exact XE.pick [1, 2, 3] rfl (hk35 r42)
      · refine XE.go (st_astore (j := 4) (pc' := 46) (by decide +kernel)  (by decide) rfl (by decide) rfl rfl) ?_
        refine XE.go (st_aload (j := 4) (pc' := 48) (by decide +kernel) rfl (by decide) rfl) ?_
        refine XE.bite (fun h43 => ?_) (fun h44 => ?_)
        · refine XE.go (st_ifnull_t (off := 12) (pc' := 60) (by decide +kernel) (by decide) h43 (by decide)) ?_
          refine XE.go (st_iconst (n := 0) (pc' := 61) (by decide +kernel) (w_eq (by decide) (by decide)) rfl) ?_
          refine XE.cast (hx27 _) ?_
          exact XE.rt rfl (X_zret (by decide +kernel) rfl (by decide))
        · refine XE.go (st_ifnull_f (off := 12) (pc' := 51) (by decide +kernel) (by decide) h44 rfl) ?_
          refine XE.go (st_aload (j := 4) (pc' := 53) (by decide +kernel) rfl (by decide) rfl) ?_
          refine XE.go (st_get (pc' := 56) (by decide +kernel) rfl cls_8 fld_RX0_76 rfl rfl h44) ?_
          refine XE.go (st_aload_n (j := 1) (i := 1) (pc' := 57) (by decide +kernel) rfl rfl (by decide) rfl) ?_
          refine XE.bite (fun h45 => ?_) (fun h46 => ?_)
          · refine XE.go (st_acmp_eq_t (off := 5) (pc' := 62) (by decide +kernel) (by decide) (by decide) h45 (by decide)) ?_
            refine XE.go (st_iinc (j := 2) (n := 1) (pc' := 65) (by decide +kernel) rfl rfl (by decide) rfl rfl) ?_
            refine XE.go (st_goto (off := (-63)) (pc' := 2) (by decide +kernel) (by decide)) ?_
            exact XE.pick [2, 3, 0] rfl (hc25 (w (s1 + 1)))
          · refine XE.go (st_acmp_eq_f (off := 5) (pc' := 60) (by decide +kernel) 62 (by decide) (by decide) (by decide) h46 rfl) ?_
            refine XE.go (st_iconst (n := 0) (pc' := 61) (by decide +kernel) (w_eq (by decide) (by decide)) rfl) ?_
            refine XE.cast (hx27 _) ?_
            exact XE.rt rfl (X_zret (by decide +kernel) rfl (by decide))
    · refine XE.go (st_icmp_ge_t (off := 58) (pc' := 68) (by decide +kernel) (by decide) (Int.not_lt.mp h32)) ?_
      exact XE.pick [1] rfl (he26 ())
  · refine XE.go (st_aload_n (j := 1) (i := 1) (pc' := 69) (by decide +kernel) rfl rfl (by decide) rfl) ?_
    refine XE.gd_ (fun g47 => ?_)
    refine XE.go (st_get (pc' := 72) (by decide +kernel) rfl cls_3 fld_RX0_146 rfl rfl g47) ?_
    refine XE.gd_ (fun g48 => ?_)
    refine XE.go (st_get (pc' := 75) (by decide +kernel) rfl cls_2 fld_RX0_149 rfl rfl g48) ?_
    refine XE.go (st_aload_n (j := 1) (i := 1) (pc' := 76) (by decide +kernel) rfl rfl (by decide) rfl) ?_
    refine XE.go (st_get (pc' := 79) (by decide +kernel) rfl cls_3 fld_RX0_182 rfl rfl g47) ?_
    refine XE.ite (fun h49 => ?_) (fun h50 => ?_)
    · refine XE.go (st_icmp_gt_t (off := 7) (pc' := 86) (by decide +kernel) (by decide) h49) ?_
      refine XE.go (st_iconst (n := 0) (pc' := 87) (by decide +kernel) (w_eq (by decide) (by decide)) rfl) ?_
      exact XE.rt rfl (X_zret (by decide +kernel) rfl (by decide))
    · refine XE.go (st_icmp_gt_f (off := 7) (pc' := 82) (by decide +kernel) 86 (by decide) rfl h50) ?_
      refine XE.go (st_iconst (n := 1) (pc' := 83) (by decide +kernel) (w_eq (by decide) (by decide)) rfl) ?_
      refine XE.go (st_goto (off := 4) (pc' := 87) (by decide +kernel) (by decide)) ?_
      exact XE.rt rfl (X_zret (by decide +kernel) rfl (by decide))
theorem ct_X0_handHolds {D : Dt} {M : Mm} {a0 a1 : Int} (h0 : a0 ≠ 0) (r : Int) (hr : p_X0_handHolds M a0 a1 = some r) : CT D 0 mu_X0_handHolds [(4, a0), (7, a1)] M (.inl (some (0, r))) M := CT.of (by decide +kernel) rfl (Nat.le_of_ble_eq_true rfl) (xe_X0_handHolds h0 r hr)
def b_X0_handsHold_10 (v4 : Int) (v1 : Int) (M : Mm) (a0 : Int) (s6 : Int) : Option ((Int) ⊕ ((Int) ⊕ (Unit))) := if s6 < v4 then gd (aok v1 s6) ((some ((rd M v1 s6))).bind fun v29 => if v29 = 0 then some (.inl (w (s6 + 1))) else (p_X0_handHolds M a0 v29).bind fun r33 => if r33 = 0 then some (.inr (.inl (0))) else some (.inl (w (s6 + 1)))) else some (.inr (.inr ()))
def p_X0_handsHold (M : Mm) (a0 : Int) : Option Int := (some ((rd M a0 1))).bind fun v1 => gd (v1 ≠ 0) ((some ((ln v1))).bind fun v4 => (lp (b_X0_handsHold_10 v4 v1 M a0) 1000 0).bind (Sum.elim some fun (t7 : Unit) => some (1)))
set_option maxRecDepth 100000 in
set_option maxHeartbeats 4000000 in
theorem xe_X0_handsHold {D : Dt} {M : Mm} {a0 : Int} (h0 : a0 ≠ 0) : XE D 0 mu_X0_handsHold (EP 0 M) 0 [(0, (4, a0))] [] M (p_X0_handsHold M a0) := by
  unfold p_X0_handsHold
  refine XE.go (st_aload_n (j := 0) (i := 0) (pc' := 1) (by decide +kernel) rfl rfl (by decide) rfl) ?_
  refine XE.go (st_get (pc' := 4) (by decide +kernel) rfl cls_0 fld_RX0_19 rfl rfl h0) ?_
  refine XE.gen (fun v1 e2 => ?_)
  refine XE.go (st_astore_n (j := 1) (i := 1) (pc' := 5) (by decide +kernel) rfl (by decide) rfl (by decide) rfl rfl) ?_
  refine XE.go (st_aload_n (j := 1) (i := 1) (pc' := 6) (by decide +kernel) rfl rfl (by decide) rfl) ?_
  refine XE.gd_ (fun g3 => ?_)
  refine XE.go (st_alen (k := 19) (pc' := 7) (by decide +kernel) rfl ak_19 rfl (by decide) g3) ?_
  refine XE.gen (fun v4 e5 => ?_)
  refine XE.go (st_istore_n (j := 2) (i := 2) (pc' := 8) (by decide +kernel) rfl rfl (by decide) rfl rfl) ?_
  refine XE.go (st_iconst (n := 0) (pc' := 9) (by decide +kernel) (w_eq (by decide) (by decide)) rfl) ?_
  refine XE.go (st_istore_n (j := 3) (i := 3) (pc' := 10) (by decide +kernel) rfl rfl (by decide) rfl rfl) ?_
  refine XE.pick [3, 2, 1, 0] (L' := [(0, (4, a0)), (1, (22, v1)), (2, (0, v4)), (3, (0, 0))]) rfl ?_
  refine XE.loopX (n := 1000) (s0 := 0) (pcL := 10) (pcE := 42) (LL := fun (s6 : Int) => [(0, (4, a0)), (1, (22, v1)), (2, (0, v4)), (3, (0, s6))]) (sL := fun _ => []) (ML := fun (s6 : Int) => M) (LE := fun (t7 : Unit) => []) (sE := fun _ => []) (ME := fun (t7 : Unit) => M) (fun kk25 hx24 hc22 he23 s6 => ?_) (fun t7 => ?_)
  · unfold b_X0_handsHold_10
    refine XE.go (st_iload_n (j := 3) (i := 3) (pc' := 11) (by decide +kernel) rfl rfl rfl) ?_
    refine XE.go (st_iload_n (j := 2) (i := 2) (pc' := 12) (by decide +kernel) rfl rfl rfl) ?_
    refine XE.bite (fun h26 => ?_) (fun h27 => ?_)
    · refine XE.go (st_icmp_ge_f (off := 30) (pc' := 15) (by decide +kernel) 42 (by decide) rfl (Int.not_le.mpr h26)) ?_
      refine XE.go (st_aload_n (j := 1) (i := 1) (pc' := 16) (by decide +kernel) rfl rfl (by decide) rfl) ?_
      refine XE.go (st_iload_n (j := 3) (i := 3) (pc' := 17) (by decide +kernel) rfl rfl rfl) ?_
      refine XE.gdb (fun g28 => ?_)
      refine XE.go (st_ald (k := 19) (tp := 7) (pc' := 18) (by decide +kernel) rfl ak_19 rfl (by decide) rfl (Or.inr (Or.inr (Or.inr ⟨rfl, rfl⟩))) g28.1 g28.2.1 g28.2.2) ?_
      refine XE.asc ?_
      refine XE.gen (fun v29 e30 => ?_)
      refine XE.go (st_astore (j := 4) (pc' := 20) (by decide +kernel)  (by decide) rfl (by decide) rfl rfl) ?_
      refine XE.go (st_aload (j := 4) (pc' := 22) (by decide +kernel) rfl (by decide) rfl) ?_
      refine XE.bite (fun h31 => ?_) (fun h32 => ?_)
      · refine XE.go (st_ifnull_t (off := 14) (pc' := 36) (by decide +kernel) (by decide) h31 (by decide)) ?_
        refine XE.go (st_iinc (j := 3) (n := 1) (pc' := 39) (by decide +kernel) rfl rfl (by decide) rfl rfl) ?_
        refine XE.go (st_goto (off := (-29)) (pc' := 10) (by decide +kernel) (by decide)) ?_
        exact XE.pick [2, 3, 4, 0] rfl (hc22 (w (s6 + 1)))
      · refine XE.go (st_ifnull_f (off := 14) (pc' := 25) (by decide +kernel) (by decide) h32 rfl) ?_
        refine XE.go (st_aload_n (j := 0) (i := 0) (pc' := 26) (by decide +kernel) rfl rfl (by decide) rfl) ?_
        refine XE.go (st_aload (j := 4) (pc' := 28) (by decide +kernel) rfl (by decide) rfl) ?_
        refine XE.asc ?_
        refine XE.cP (pc' := 31) (st := []) (fun r hr => ct_X0_handHolds h0 r hr) (fun r hr => run_V (st := []) (by decide +kernel) co_X0_handsHold_267 (ct_X0_handHolds h0 r hr) rfl h0 rfl rfl (Nat.le_of_ble_eq_true rfl)) rfl rfl (fun r33 => ?_)
        refine XE.bite (fun h34 => ?_) (fun h35 => ?_)
        · refine XE.go (st_if_ne_f (off := 5) (pc' := 34) (by decide +kernel) 36 (by decide) rfl (not_not_intro h34)) ?_
          refine XE.go (st_iconst (n := 0) (pc' := 35) (by decide +kernel) (w_eq (by decide) (by decide)) rfl) ?_
          refine XE.cast (hx24 _) ?_
          exact XE.rt rfl (X_zret (by decide +kernel) rfl (by decide))
        · refine XE.go (st_if_ne_t (off := 5) (pc' := 36) (by decide +kernel) (by decide) h35) ?_
          refine XE.go (st_iinc (j := 3) (n := 1) (pc' := 39) (by decide +kernel) rfl rfl (by decide) rfl rfl) ?_
          refine XE.go (st_goto (off := (-29)) (pc' := 10) (by decide +kernel) (by decide)) ?_
          exact XE.pick [2, 3, 4, 0] rfl (hc22 (w (s6 + 1)))
    · refine XE.go (st_icmp_ge_t (off := 30) (pc' := 42) (by decide +kernel) (by decide) (Int.not_lt.mp h27)) ?_
      exact XE.pick [] rfl (he23 ())
  · refine XE.go (st_iconst (n := 1) (pc' := 43) (by decide +kernel) (w_eq (by decide) (by decide)) rfl) ?_
    exact XE.rt rfl (X_zret (by decide +kernel) rfl (by decide))
theorem ct_X0_handsHold {D : Dt} {M : Mm} {a0 : Int} (h0 : a0 ≠ 0) (r : Int) (hr : p_X0_handsHold M a0 = some r) : CT D 0 mu_X0_handsHold [(4, a0)] M (.inl (some (0, r))) M := CT.of (by decide +kernel) rfl (Nat.le_of_ble_eq_true rfl) (xe_X0_handsHold h0 r hr)
def b_X10_sharesHold_10 (v4 : Int) (v1 : Int) (M : Mm) (s6 : Int) : Option ((Int) ⊕ ((Int) ⊕ (Unit))) := if s6 < v4 then gd (aok v1 s6) ((some ((rd M v1 s6))).bind fun v32 => if v32 = 0 then some (.inl (w (s6 + 1))) else (p_X0_sharesHold M v32).bind fun r36 => if r36 = 0 then some (.inr (.inl (0))) else (p_X0_handsHold M v32).bind fun r39 => if r39 = 0 then some (.inr (.inl (0))) else some (.inl (w (s6 + 1)))) else some (.inr (.inr ()))
def p_X10_sharesHold (M : Mm) (a0 : Int) : Option Int := (some ((rd M a0 3))).bind fun v1 => gd (v1 ≠ 0) ((some ((ln v1))).bind fun v4 => (lp (b_X10_sharesHold_10 v4 v1 M) 1000 0).bind (Sum.elim some fun (t7 : Unit) => some (1)))
set_option maxRecDepth 100000 in
set_option maxHeartbeats 4000000 in
theorem xe_X10_sharesHold {D : Dt} {M : Mm} {a0 : Int} (h0 : a0 ≠ 0) : XE D 0 mu_X10_sharesHold (EP 0 M) 0 [(0, (14, a0))] [] M (p_X10_sharesHold M a0) := by
  unfold p_X10_sharesHold
  refine XE.go (st_aload_n (j := 0) (i := 0) (pc' := 1) (by decide +kernel) rfl rfl (by decide) rfl) ?_
  refine XE.go (st_get (pc' := 4) (by decide +kernel) rfl cls_10 fld_RX10_29 rfl rfl h0) ?_
  refine XE.gen (fun v1 e2 => ?_)
  refine XE.go (st_astore_n (j := 1) (i := 1) (pc' := 5) (by decide +kernel) rfl (by decide) rfl (by decide) rfl rfl) ?_
  refine XE.go (st_aload_n (j := 1) (i := 1) (pc' := 6) (by decide +kernel) rfl rfl (by decide) rfl) ?_
  refine XE.gd_ (fun g3 => ?_)
  refine XE.go (st_alen (k := 16) (pc' := 7) (by decide +kernel) rfl ak_16 rfl (by decide) g3) ?_
  refine XE.gen (fun v4 e5 => ?_)
  refine XE.go (st_istore_n (j := 2) (i := 2) (pc' := 8) (by decide +kernel) rfl rfl (by decide) rfl rfl) ?_
  refine XE.go (st_iconst (n := 0) (pc' := 9) (by decide +kernel) (w_eq (by decide) (by decide)) rfl) ?_
  refine XE.go (st_istore_n (j := 3) (i := 3) (pc' := 10) (by decide +kernel) rfl rfl (by decide) rfl rfl) ?_
  refine XE.pick [2, 1, 0] (L' := [(1, (19, v1)), (2, (0, v4)), (3, (0, 0))]) rfl ?_
  refine XE.loopX (n := 1000) (s0 := 0) (pcL := 10) (pcE := 49) (LL := fun (s6 : Int) => [(1, (19, v1)), (2, (0, v4)), (3, (0, s6))]) (sL := fun _ => []) (ML := fun (s6 : Int) => M) (LE := fun (t7 : Unit) => []) (sE := fun _ => []) (ME := fun (t7 : Unit) => M) (fun kk28 hx27 hc25 he26 s6 => ?_) (fun t7 => ?_)
  · unfold b_X10_sharesHold_10
    refine XE.go (st_iload_n (j := 3) (i := 3) (pc' := 11) (by decide +kernel) rfl rfl rfl) ?_
    refine XE.go (st_iload_n (j := 2) (i := 2) (pc' := 12) (by decide +kernel) rfl rfl rfl) ?_
    refine XE.bite (fun h29 => ?_) (fun h30 => ?_)
    · refine XE.go (st_icmp_ge_f (off := 37) (pc' := 15) (by decide +kernel) 49 (by decide) rfl (Int.not_le.mpr h29)) ?_
      refine XE.go (st_aload_n (j := 1) (i := 1) (pc' := 16) (by decide +kernel) rfl rfl (by decide) rfl) ?_
      refine XE.go (st_iload_n (j := 3) (i := 3) (pc' := 17) (by decide +kernel) rfl rfl rfl) ?_
      refine XE.gdb (fun g31 => ?_)
      refine XE.go (st_ald (k := 16) (tp := 4) (pc' := 18) (by decide +kernel) rfl ak_16 rfl (by decide) rfl (Or.inr (Or.inr (Or.inr ⟨rfl, rfl⟩))) g31.1 g31.2.1 g31.2.2) ?_
      refine XE.asc ?_
      refine XE.gen (fun v32 e33 => ?_)
      refine XE.go (st_astore (j := 4) (pc' := 20) (by decide +kernel)  (by decide) rfl (by decide) rfl rfl) ?_
      refine XE.go (st_aload (j := 4) (pc' := 22) (by decide +kernel) rfl (by decide) rfl) ?_
      refine XE.bite (fun h34 => ?_) (fun h35 => ?_)
      · refine XE.go (st_ifnull_t (off := 21) (pc' := 43) (by decide +kernel) (by decide) h34 (by decide)) ?_
        refine XE.go (st_iinc (j := 3) (n := 1) (pc' := 46) (by decide +kernel) rfl rfl (by decide) rfl rfl) ?_
        refine XE.go (st_goto (off := (-36)) (pc' := 10) (by decide +kernel) (by decide)) ?_
        exact XE.pick [2, 3, 0] rfl (hc25 (w (s6 + 1)))
      · refine XE.go (st_ifnull_f (off := 21) (pc' := 25) (by decide +kernel) (by decide) h35 rfl) ?_
        refine XE.go (st_aload (j := 4) (pc' := 27) (by decide +kernel) rfl (by decide) rfl) ?_
        refine XE.asc ?_
        refine XE.cP (pc' := 30) (st := []) (fun r hr => ct_X0_sharesHold h35 r hr) (fun r hr => run_V (st := []) (by decide +kernel) co_X10_sharesHold_611 (ct_X0_sharesHold h35 r hr) rfl h35 rfl rfl (Nat.le_of_ble_eq_true rfl)) rfl rfl (fun r36 => ?_)
        refine XE.bite (fun h37 => ?_) (fun h38 => ?_)
        · refine XE.go (st_if_eq_t (off := 11) (pc' := 41) (by decide +kernel) (by decide) h37) ?_
          refine XE.go (st_iconst (n := 0) (pc' := 42) (by decide +kernel) (w_eq (by decide) (by decide)) rfl) ?_
          refine XE.cast (hx27 _) ?_
          exact XE.rt rfl (X_zret (by decide +kernel) rfl (by decide))
        · refine XE.go (st_if_eq_f (off := 11) (pc' := 33) (by decide +kernel) 41 (by decide) rfl h38) ?_
          refine XE.go (st_aload (j := 4) (pc' := 35) (by decide +kernel) rfl (by decide) rfl) ?_
          refine XE.asc ?_
          refine XE.cP (pc' := 38) (st := []) (fun r hr => ct_X0_handsHold h35 r hr) (fun r hr => run_V (st := []) (by decide +kernel) co_X10_sharesHold_612 (ct_X0_handsHold h35 r hr) rfl h35 rfl rfl (Nat.le_of_ble_eq_true rfl)) rfl rfl (fun r39 => ?_)
          refine XE.bite (fun h40 => ?_) (fun h41 => ?_)
          · refine XE.go (st_if_ne_f (off := 5) (pc' := 41) (by decide +kernel) 43 (by decide) rfl (not_not_intro h40)) ?_
            refine XE.go (st_iconst (n := 0) (pc' := 42) (by decide +kernel) (w_eq (by decide) (by decide)) rfl) ?_
            refine XE.cast (hx27 _) ?_
            exact XE.rt rfl (X_zret (by decide +kernel) rfl (by decide))
          · refine XE.go (st_if_ne_t (off := 5) (pc' := 43) (by decide +kernel) (by decide) h41) ?_
            refine XE.go (st_iinc (j := 3) (n := 1) (pc' := 46) (by decide +kernel) rfl rfl (by decide) rfl rfl) ?_
            refine XE.go (st_goto (off := (-36)) (pc' := 10) (by decide +kernel) (by decide)) ?_
            exact XE.pick [2, 3, 0] rfl (hc25 (w (s6 + 1)))
    · refine XE.go (st_icmp_ge_t (off := 37) (pc' := 49) (by decide +kernel) (by decide) (Int.not_lt.mp h30)) ?_
      exact XE.pick [] rfl (he26 ())
  · refine XE.go (st_iconst (n := 1) (pc' := 50) (by decide +kernel) (w_eq (by decide) (by decide)) rfl) ?_
    exact XE.rt rfl (X_zret (by decide +kernel) rfl (by decide))
theorem ct_X10_sharesHold {D : Dt} {M : Mm} {a0 : Int} (h0 : a0 ≠ 0) (r : Int) (hr : p_X10_sharesHold M a0 = some r) : CT D 0 mu_X10_sharesHold [(14, a0)] M (.inl (some (0, r))) M := CT.of (by decide +kernel) rfl (Nat.le_of_ble_eq_true rfl) (xe_X10_sharesHold h0 r hr)
def p_X10_audit (M : Mm) (a0 a1 : Int) : Option (Int × Int × Mm) := (p_X10_requireWithin M a1 0 6).bind (thU psT fun M1 => if a1 = 0 then (p_X10_logsHold M1 a0).bind fun r4 => gd (r4 = 0 ∨ r4 = 1) (some (0, r4, M1)) else if a1 = 1 then (p_X10_producersHold M1 a0).bind fun r8 => gd (r8 = 0 ∨ r8 = 1) (some (0, r8, M1)) else if a1 = 2 then (p_X10_transactionsHold M1 a0).bind fun r12 => gd (r12 = 0 ∨ r12 = 1) (some (0, r12, M1)) else if a1 = 3 then (p_X10_orderHolds M1 a0).bind fun r16 => gd (r16 = 0 ∨ r16 = 1) (some (0, r16, M1)) else if a1 = 4 then (p_X10_offsetsHold M1 a0).bind fun r20 => gd (r20 = 0 ∨ r20 = 1) (some (0, r20, M1)) else if a1 = 5 then (p_X10_sharesHold M1 a0).bind fun r24 => gd (r24 = 0 ∨ r24 = 1) (some (0, r24, M1)) else (p_X10_logsHold M1 a0).bind fun r26 => if r26 = 0 then some (0, 0, M1) else (p_X10_producersHold M1 a0).bind fun r29 => if r29 = 0 then some (0, 0, M1) else (p_X10_transactionsHold M1 a0).bind fun r32 => if r32 = 0 then some (0, 0, M1) else (p_X10_orderHolds M1 a0).bind fun r35 => if r35 = 0 then some (0, 0, M1) else (p_X10_offsetsHold M1 a0).bind fun r38 => if r38 = 0 then some (0, 0, M1) else (p_X10_sharesHold M1 a0).bind fun r41 => if r41 = 0 then some (0, 0, M1) else some (0, 1, M1))
set_option maxRecDepth 100000 in
set_option maxHeartbeats 4000000 in
theorem xe_X10_audit {D : Dt} {M : Mm} {a0 a1 : Int} (h0 : a0 ≠ 0) : XE D 0 mu_X10_audit (ET 0) 0 [(0, (14, a0)), (1, (0, a1))] [] M (p_X10_audit M a0 a1) := by
  unfold p_X10_audit
  refine XE.go (st_iload_n (j := 1) (i := 1) (pc' := 1) (by decide +kernel) rfl rfl rfl) ?_
  refine XE.go (st_iconst (n := 0) (pc' := 2) (by decide +kernel) (w_eq (by decide) (by decide)) rfl) ?_
  refine XE.go (st_bipush (n := 6) (pc' := 4) (by decide +kernel) (by decide) (w_eq (by decide) (by decide)) rfl) ?_
  refine XE.cUg (pc' := 7) (st := []) hfT (fun r hr => ct_X10_requireWithin r hr) (fun r hr => run_S (st := []) (by decide +kernel) co_X10_audit_73 (ct_X10_requireWithin r hr) rfl rfl (Nat.le_of_ble_eq_true rfl)) rfl rfl rfl (fun M1 => ?_)
  refine XE.go (st_iload_n (j := 1) (i := 1) (pc' := 8) (by decide +kernel) rfl rfl rfl) ?_
  refine XE.ite (fun h2 => ?_) (fun h3 => ?_)
  · refine XE.go (st_tab_in (dflt := 70) (lo := 0) (hi := 5) (offs := #[40, 45, 50, 55, 60, 65]) (len := 40) (off := 40) (pc' := 48) (by decide +kernel) 0 h2 (by decide) (by decide) (by decide) (by decide)) ?_
    refine XE.go (st_aload_n (j := 0) (i := 0) (pc' := 49) (by decide +kernel) rfl rfl (by decide) rfl) ?_
    refine XE.cP (pc' := 52) (st := []) (fun r hr => ct_X10_logsHold h0 r hr) (fun r hr => run_V (st := []) (by decide +kernel) co_X10_audit_571 (ct_X10_logsHold h0 r hr) rfl h0 rfl rfl (Nat.le_of_ble_eq_true rfl)) rfl rfl (fun r4 => ?_)
    refine XE.gd_ (fun g5 => ?_)
    exact XE.rt rfl (X_zret (by decide +kernel) rfl g5)
  refine XE.ite (fun h6 => ?_) (fun h7 => ?_)
  · refine XE.go (st_tab_in (dflt := 70) (lo := 0) (hi := 5) (offs := #[40, 45, 50, 55, 60, 65]) (len := 40) (off := 45) (pc' := 53) (by decide +kernel) 1 h6 (by decide) (by decide) (by decide) (by decide)) ?_
    refine XE.go (st_aload_n (j := 0) (i := 0) (pc' := 54) (by decide +kernel) rfl rfl (by decide) rfl) ?_
    refine XE.cP (pc' := 57) (st := []) (fun r hr => ct_X10_producersHold h0 r hr) (fun r hr => run_V (st := []) (by decide +kernel) co_X10_audit_574 (ct_X10_producersHold h0 r hr) rfl h0 rfl rfl (Nat.le_of_ble_eq_true rfl)) rfl rfl (fun r8 => ?_)
    refine XE.gd_ (fun g9 => ?_)
    exact XE.rt rfl (X_zret (by decide +kernel) rfl g9)
  refine XE.ite (fun h10 => ?_) (fun h11 => ?_)
  · refine XE.go (st_tab_in (dflt := 70) (lo := 0) (hi := 5) (offs := #[40, 45, 50, 55, 60, 65]) (len := 40) (off := 50) (pc' := 58) (by decide +kernel) 2 h10 (by decide) (by decide) (by decide) (by decide)) ?_
    refine XE.go (st_aload_n (j := 0) (i := 0) (pc' := 59) (by decide +kernel) rfl rfl (by decide) rfl) ?_
    refine XE.cP (pc' := 62) (st := []) (fun r hr => ct_X10_transactionsHold h0 r hr) (fun r hr => run_V (st := []) (by decide +kernel) co_X10_audit_577 (ct_X10_transactionsHold h0 r hr) rfl h0 rfl rfl (Nat.le_of_ble_eq_true rfl)) rfl rfl (fun r12 => ?_)
    refine XE.gd_ (fun g13 => ?_)
    exact XE.rt rfl (X_zret (by decide +kernel) rfl g13)
  refine XE.ite (fun h14 => ?_) (fun h15 => ?_)
  · refine XE.go (st_tab_in (dflt := 70) (lo := 0) (hi := 5) (offs := #[40, 45, 50, 55, 60, 65]) (len := 40) (off := 55) (pc' := 63) (by decide +kernel) 3 h14 (by decide) (by decide) (by decide) (by decide)) ?_
    refine XE.go (st_aload_n (j := 0) (i := 0) (pc' := 64) (by decide +kernel) rfl rfl (by decide) rfl) ?_
    refine XE.cP (pc' := 67) (st := []) (fun r hr => ct_X10_orderHolds h0 r hr) (fun r hr => run_V (st := []) (by decide +kernel) co_X10_audit_580 (ct_X10_orderHolds h0 r hr) rfl h0 rfl rfl (Nat.le_of_ble_eq_true rfl)) rfl rfl (fun r16 => ?_)
    refine XE.gd_ (fun g17 => ?_)
    exact XE.rt rfl (X_zret (by decide +kernel) rfl g17)
  refine XE.ite (fun h18 => ?_) (fun h19 => ?_)
  · refine XE.go (st_tab_in (dflt := 70) (lo := 0) (hi := 5) (offs := #[40, 45, 50, 55, 60, 65]) (len := 40) (off := 60) (pc' := 68) (by decide +kernel) 4 h18 (by decide) (by decide) (by decide) (by decide)) ?_
    refine XE.go (st_aload_n (j := 0) (i := 0) (pc' := 69) (by decide +kernel) rfl rfl (by decide) rfl) ?_
    refine XE.cP (pc' := 72) (st := []) (fun r hr => ct_X10_offsetsHold h0 r hr) (fun r hr => run_V (st := []) (by decide +kernel) co_X10_audit_583 (ct_X10_offsetsHold h0 r hr) rfl h0 rfl rfl (Nat.le_of_ble_eq_true rfl)) rfl rfl (fun r20 => ?_)
    refine XE.gd_ (fun g21 => ?_)
    exact XE.rt rfl (X_zret (by decide +kernel) rfl g21)
  refine XE.ite (fun h22 => ?_) (fun h23 => ?_)
  · refine XE.go (st_tab_in (dflt := 70) (lo := 0) (hi := 5) (offs := #[40, 45, 50, 55, 60, 65]) (len := 40) (off := 65) (pc' := 73) (by decide +kernel) 5 h22 (by decide) (by decide) (by decide) (by decide)) ?_
    refine XE.go (st_aload_n (j := 0) (i := 0) (pc' := 74) (by decide +kernel) rfl rfl (by decide) rfl) ?_
    refine XE.cP (pc' := 77) (st := []) (fun r hr => ct_X10_sharesHold h0 r hr) (fun r hr => run_V (st := []) (by decide +kernel) co_X10_audit_586 (ct_X10_sharesHold h0 r hr) rfl h0 rfl rfl (Nat.le_of_ble_eq_true rfl)) rfl rfl (fun r24 => ?_)
    refine XE.gd_ (fun g25 => ?_)
    exact XE.rt rfl (X_zret (by decide +kernel) rfl g25)
  refine XE.go (st_tab_out (dflt := 70) (lo := 0) (hi := 5) (offs := #[40, 45, 50, 55, 60, 65]) (len := 40) (pc' := 78) (by decide +kernel) (by omega) (by decide)) ?_
  refine XE.go (st_aload_n (j := 0) (i := 0) (pc' := 79) (by decide +kernel) rfl rfl (by decide) rfl) ?_
  refine XE.cP (pc' := 82) (st := []) (fun r hr => ct_X10_logsHold h0 r hr) (fun r hr => run_V (st := []) (by decide +kernel) co_X10_audit_571 (ct_X10_logsHold h0 r hr) rfl h0 rfl rfl (Nat.le_of_ble_eq_true rfl)) rfl rfl (fun r26 => ?_)
  refine XE.ite (fun h27 => ?_) (fun h28 => ?_)
  · refine XE.go (st_if_eq_t (off := 42) (pc' := 124) (by decide +kernel) (by decide) h27) ?_
    refine XE.go (st_iconst (n := 0) (pc' := 125) (by decide +kernel) (w_eq (by decide) (by decide)) rfl) ?_
    exact XE.rt rfl (X_zret (by decide +kernel) rfl (by decide))
  · refine XE.go (st_if_eq_f (off := 42) (pc' := 85) (by decide +kernel) 124 (by decide) rfl h28) ?_
    refine XE.go (st_aload_n (j := 0) (i := 0) (pc' := 86) (by decide +kernel) rfl rfl (by decide) rfl) ?_
    refine XE.cP (pc' := 89) (st := []) (fun r hr => ct_X10_producersHold h0 r hr) (fun r hr => run_V (st := []) (by decide +kernel) co_X10_audit_574 (ct_X10_producersHold h0 r hr) rfl h0 rfl rfl (Nat.le_of_ble_eq_true rfl)) rfl rfl (fun r29 => ?_)
    refine XE.ite (fun h30 => ?_) (fun h31 => ?_)
    · refine XE.go (st_if_eq_t (off := 35) (pc' := 124) (by decide +kernel) (by decide) h30) ?_
      refine XE.go (st_iconst (n := 0) (pc' := 125) (by decide +kernel) (w_eq (by decide) (by decide)) rfl) ?_
      exact XE.rt rfl (X_zret (by decide +kernel) rfl (by decide))
    · refine XE.go (st_if_eq_f (off := 35) (pc' := 92) (by decide +kernel) 124 (by decide) rfl h31) ?_
      refine XE.go (st_aload_n (j := 0) (i := 0) (pc' := 93) (by decide +kernel) rfl rfl (by decide) rfl) ?_
      refine XE.cP (pc' := 96) (st := []) (fun r hr => ct_X10_transactionsHold h0 r hr) (fun r hr => run_V (st := []) (by decide +kernel) co_X10_audit_577 (ct_X10_transactionsHold h0 r hr) rfl h0 rfl rfl (Nat.le_of_ble_eq_true rfl)) rfl rfl (fun r32 => ?_)
      refine XE.ite (fun h33 => ?_) (fun h34 => ?_)
      · refine XE.go (st_if_eq_t (off := 28) (pc' := 124) (by decide +kernel) (by decide) h33) ?_
        refine XE.go (st_iconst (n := 0) (pc' := 125) (by decide +kernel) (w_eq (by decide) (by decide)) rfl) ?_
        exact XE.rt rfl (X_zret (by decide +kernel) rfl (by decide))
      · refine XE.go (st_if_eq_f (off := 28) (pc' := 99) (by decide +kernel) 124 (by decide) rfl h34) ?_
        refine XE.go (st_aload_n (j := 0) (i := 0) (pc' := 100) (by decide +kernel) rfl rfl (by decide) rfl) ?_
        refine XE.cP (pc' := 103) (st := []) (fun r hr => ct_X10_orderHolds h0 r hr) (fun r hr => run_V (st := []) (by decide +kernel) co_X10_audit_580 (ct_X10_orderHolds h0 r hr) rfl h0 rfl rfl (Nat.le_of_ble_eq_true rfl)) rfl rfl (fun r35 => ?_)
        refine XE.ite (fun h36 => ?_) (fun h37 => ?_)
        · refine XE.go (st_if_eq_t (off := 21) (pc' := 124) (by decide +kernel) (by decide) h36) ?_
          refine XE.go (st_iconst (n := 0) (pc' := 125) (by decide +kernel) (w_eq (by decide) (by decide)) rfl) ?_
          exact XE.rt rfl (X_zret (by decide +kernel) rfl (by decide))
        · refine XE.go (st_if_eq_f (off := 21) (pc' := 106) (by decide +kernel) 124 (by decide) rfl h37) ?_
          refine XE.go (st_aload_n (j := 0) (i := 0) (pc' := 107) (by decide +kernel) rfl rfl (by decide) rfl) ?_
          refine XE.cP (pc' := 110) (st := []) (fun r hr => ct_X10_offsetsHold h0 r hr) (fun r hr => run_V (st := []) (by decide +kernel) co_X10_audit_583 (ct_X10_offsetsHold h0 r hr) rfl h0 rfl rfl (Nat.le_of_ble_eq_true rfl)) rfl rfl (fun r38 => ?_)
          refine XE.ite (fun h39 => ?_) (fun h40 => ?_)
          · refine XE.go (st_if_eq_t (off := 14) (pc' := 124) (by decide +kernel) (by decide) h39) ?_
            refine XE.go (st_iconst (n := 0) (pc' := 125) (by decide +kernel) (w_eq (by decide) (by decide)) rfl) ?_
            exact XE.rt rfl (X_zret (by decide +kernel) rfl (by decide))
          · refine XE.go (st_if_eq_f (off := 14) (pc' := 113) (by decide +kernel) 124 (by decide) rfl h40) ?_
            refine XE.go (st_aload_n (j := 0) (i := 0) (pc' := 114) (by decide +kernel) rfl rfl (by decide) rfl) ?_
            refine XE.cP (pc' := 117) (st := []) (fun r hr => ct_X10_sharesHold h0 r hr) (fun r hr => run_V (st := []) (by decide +kernel) co_X10_audit_586 (ct_X10_sharesHold h0 r hr) rfl h0 rfl rfl (Nat.le_of_ble_eq_true rfl)) rfl rfl (fun r41 => ?_)
            refine XE.ite (fun h42 => ?_) (fun h43 => ?_)
            · refine XE.go (st_if_eq_t (off := 7) (pc' := 124) (by decide +kernel) (by decide) h42) ?_
              refine XE.go (st_iconst (n := 0) (pc' := 125) (by decide +kernel) (w_eq (by decide) (by decide)) rfl) ?_
              exact XE.rt rfl (X_zret (by decide +kernel) rfl (by decide))
            · refine XE.go (st_if_eq_f (off := 7) (pc' := 120) (by decide +kernel) 124 (by decide) rfl h43) ?_
              refine XE.go (st_iconst (n := 1) (pc' := 121) (by decide +kernel) (w_eq (by decide) (by decide)) rfl) ?_
              refine XE.go (st_goto (off := 4) (pc' := 125) (by decide +kernel) (by decide)) ?_
              exact XE.rt rfl (X_zret (by decide +kernel) rfl (by decide))
theorem ct_X10_audit {D : Dt} {M : Mm} {a0 a1 : Int} (h0 : a0 ≠ 0) (r : (Int × Int × Mm)) (hr : p_X10_audit M a0 a1 = some r) : CT D 0 mu_X10_audit [(14, a0), (0, a1)] M (ET 0 r).1 (ET 0 r).2 := CT.of (by decide +kernel) rfl (Nat.le_of_ble_eq_true rfl) (xe_X10_audit h0 r hr)
