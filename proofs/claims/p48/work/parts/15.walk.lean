def p_X8_init (M : Mm) (a0 a1 : Int) : Option Mm := (some (wr M a0 1 0)).bind fun M1 => (some (wr M1 a0 2 0)).bind fun M2 => (some (wr M2 a0 3 0)).bind fun M3 => (some (wr M3 a0 4 0)).bind fun M4 => (some (wr M4 a0 5 0)).bind fun M5 => (some (wr M5 a0 0 a1)).bind fun M6 => some (M6)
set_option maxRecDepth 100000 in
set_option maxHeartbeats 4000000 in
theorem xe_X8_init {D : Dt} {M : Mm} {a0 a1 : Int} (h0 : a0 ≠ 0) : XE D 0 mu_X8_init EV 0 [(0, (12, a0)), (1, (9, a1))] [] M (p_X8_init M a0 a1) := by
  unfold p_X8_init
  refine XE.go (st_aload_n (j := 0) (i := 0) (pc' := 1) (by decide +kernel) rfl rfl (by decide) rfl) ?_
  refine XE.go (st_oinit (pc' := 4) (by decide +kernel) rfl oi_RX8_1 (by decide) (by decide) (by decide) h0) ?_
  refine XE.go (st_aload_n (j := 0) (i := 0) (pc' := 5) (by decide +kernel) rfl rfl (by decide) rfl) ?_
  refine XE.go (st_null (t := 7) (pc' := 6) (by decide +kernel) (by decide) rfl) ?_
  refine XE.goM (st_put (pc' := 9) (by decide +kernel) rfl cls_8 fld_RX8_7 rfl rfl (fun h => absurd h (by decide)) (fun h => nomatch h) h0) (fun M1 => ?_)
  refine XE.go (st_aload_n (j := 0) (i := 0) (pc' := 10) (by decide +kernel) rfl rfl (by decide) rfl) ?_
  refine XE.go (st_null (t := 7) (pc' := 11) (by decide +kernel) (by decide) rfl) ?_
  refine XE.goM (st_put (pc' := 14) (by decide +kernel) rfl cls_8 fld_RX8_13 rfl rfl (fun h => absurd h (by decide)) (fun h => nomatch h) h0) (fun M2 => ?_)
  refine XE.go (st_aload_n (j := 0) (i := 0) (pc' := 15) (by decide +kernel) rfl rfl (by decide) rfl) ?_
  refine XE.go (st_iconst (n := 0) (pc' := 16) (by decide +kernel) (w_eq (by decide) (by decide)) rfl) ?_
  refine XE.goM (st_put (pc' := 19) (by decide +kernel) rfl cls_8 fld_RX8_16 rfl rfl (fun h => absurd h (by decide)) (fun h => nomatch h) h0) (fun M3 => ?_)
  refine XE.go (st_aload_n (j := 0) (i := 0) (pc' := 20) (by decide +kernel) rfl rfl (by decide) rfl) ?_
  refine XE.go (st_iconst (n := 0) (pc' := 21) (by decide +kernel) (w_eq (by decide) (by decide)) rfl) ?_
  refine XE.goM (st_put (pc' := 24) (by decide +kernel) rfl cls_8 fld_RX8_20 rfl rfl (fun h => absurd h (by decide)) (fun h => nomatch h) h0) (fun M4 => ?_)
  refine XE.go (st_aload_n (j := 0) (i := 0) (pc' := 25) (by decide +kernel) rfl rfl (by decide) rfl) ?_
  refine XE.go (st_iconst (n := 0) (pc' := 26) (by decide +kernel) (w_eq (by decide) (by decide)) rfl) ?_
  refine XE.goM (st_put (pc' := 29) (by decide +kernel) rfl cls_8 fld_RX8_23 rfl rfl (fun h => absurd h (by decide)) (fun h => nomatch h) h0) (fun M5 => ?_)
  refine XE.go (st_aload_n (j := 0) (i := 0) (pc' := 30) (by decide +kernel) rfl rfl (by decide) rfl) ?_
  refine XE.go (st_aload_n (j := 1) (i := 1) (pc' := 31) (by decide +kernel) rfl rfl (by decide) rfl) ?_
  refine XE.goM (st_put (pc' := 34) (by decide +kernel) rfl cls_8 fld_RX8_26 rfl rfl (fun h => absurd h (by decide)) (fun _ => ⟨rfl, rfl⟩) h0) (fun M6 => ?_)
  exact XE.rt rfl (X_vret (by decide +kernel) rfl)
theorem ct_X8_init {D : Dt} {M : Mm} {a0 a1 : Int} (h0 : a0 ≠ 0) (r : Mm) (hr : p_X8_init M a0 a1 = some r) : CT D 0 mu_X8_init [(12, a0), (9, a1)] M (.inl none) r := CT.of (by decide +kernel) rfl (Nat.le_of_ble_eq_true rfl) (xe_X8_init h0 r hr)
def p_X0_addShare (M : Mm) (a0 a1 : Int) : Option Mm := gd (a1 ≠ 0) (if (rd M a1 0) < 0 then some (M) else gd ((rd M a0 0) ≠ 0) (if (rd M a1 0) < (ln (rd M a0 0)) then (alo M 9 (9000 + (9 * (a0 - 1000) + (rd M a1 0))) 6).bind fun M7 => (p_X8_init M7 (9000 + (9 * (a0 - 1000) + (rd M a1 0))) a1).bind fun M9 => gd (aok (rd M a0 0) (rd M a1 0)) ((some (wr M9 (rd M a0 0) (rd M a1 0) (9000 + (9 * (a0 - 1000) + (rd M a1 0))))).bind fun M11 => (some (wr M11 a0 8 (w ((rd M11 a0 8) + 1)))).bind fun M12 => some (M12)) else some (M)))
set_option maxRecDepth 100000 in
set_option maxHeartbeats 4000000 in
theorem xe_X0_addShare {D : Dt} {M : Mm} {a0 a1 : Int} (h0 : a0 ≠ 0) : XE D 0 mu_X0_addShare EV 0 [(0, (4, a0)), (1, (9, a1))] [] M (p_X0_addShare M a0 a1) := by
  unfold p_X0_addShare
  refine XE.go (st_aload_n (j := 1) (i := 1) (pc' := 1) (by decide +kernel) rfl rfl (by decide) rfl) ?_
  refine XE.gd_ (fun g1 => ?_)
  refine XE.go (st_get (pc' := 4) (by decide +kernel) rfl cls_5 fld_RX0_57 rfl rfl g1) ?_
  refine XE.ite (fun h2 => ?_) (fun h3 => ?_)
  · refine XE.go (st_if_lt_t (off := 42) (pc' := 46) (by decide +kernel) (by decide) h2) ?_
    exact XE.rt rfl (X_vret (by decide +kernel) rfl)
  · refine XE.go (st_if_lt_f (off := 42) (pc' := 7) (by decide +kernel) 46 (by decide) rfl h3) ?_
    refine XE.go (st_aload_n (j := 1) (i := 1) (pc' := 8) (by decide +kernel) rfl rfl (by decide) rfl) ?_
    refine XE.go (st_get (pc' := 11) (by decide +kernel) rfl cls_5 fld_RX0_57 rfl rfl g1) ?_
    refine XE.go (st_aload_n (j := 0) (i := 0) (pc' := 12) (by decide +kernel) rfl rfl (by decide) rfl) ?_
    refine XE.go (st_get (pc' := 15) (by decide +kernel) rfl cls_0 fld_RX0_11 rfl rfl h0) ?_
    refine XE.gd_ (fun g4 => ?_)
    refine XE.go (st_alen (k := 24) (pc' := 16) (by decide +kernel) rfl ak_24 rfl (by decide) g4) ?_
    refine XE.ite (fun h5 => ?_) (fun h6 => ?_)
    · refine XE.go (st_icmp_ge_f (off := 30) (pc' := 19) (by decide +kernel) 46 (by decide) rfl (Int.not_le.mpr h5)) ?_
      refine XE.go (st_aload_n (j := 0) (i := 0) (pc' := 20) (by decide +kernel) rfl rfl (by decide) rfl) ?_
      refine XE.go (st_get (pc' := 23) (by decide +kernel) rfl cls_0 fld_RX0_11 rfl rfl h0) ?_
      refine XE.go (st_aload_n (j := 1) (i := 1) (pc' := 24) (by decide +kernel) rfl rfl (by decide) rfl) ?_
      refine XE.go (st_get (pc' := 27) (by decide +kernel) rfl cls_5 fld_RX0_57 rfl rfl g1) ?_
      refine XE.alo_ (fun q1 q2 q3 => st_new (pc' := 30) (by decide +kernel) rfl cls_8 nw_RX0_9 rfl rfl q1 q2 q3) (by decide) (fun M7 h8 => ?_)
      refine XE.go (st_dup (pc' := 31) (by decide +kernel) rfl rfl) ?_
      refine XE.go (st_aload_n (j := 1) (i := 1) (pc' := 32) (by decide +kernel) rfl rfl (by decide) rfl) ?_
      refine XE.cV (pc' := 35) (st := [(12, (9000 + (9 * (a0 - 1000) + (rd M a1 0)))), (0, (rd M a1 0)), (27, (rd M a0 0))]) (fun r hr => ct_X8_init h8 r hr) (fun r hr => run_I (st := [(12, (9000 + (9 * (a0 - 1000) + (rd M a1 0)))), (0, (rd M a1 0)), (27, (rd M a0 0))]) (by decide +kernel) co_X0_addShare_62 (ct_X8_init h8 r hr) (by decide) h8 rfl rfl (Nat.le_of_ble_eq_true rfl)) rfl rfl (fun M9 => ?_)
      refine XE.gd_ (fun g10 => ?_)
      refine XE.goM (st_aast (pc' := 36) (by decide +kernel) rfl ak_24 cls_8 rfl rfl rfl g10.1 g10.2.1 g10.2.2) (fun M11 => ?_)
      refine XE.go (st_aload_n (j := 0) (i := 0) (pc' := 37) (by decide +kernel) rfl rfl (by decide) rfl) ?_
      refine XE.go (st_dup (pc' := 38) (by decide +kernel) rfl rfl) ?_
      refine XE.go (st_get (pc' := 41) (by decide +kernel) rfl cls_0 fld_RX0_51 rfl rfl h0) ?_
      refine XE.go (st_iconst (n := 1) (pc' := 42) (by decide +kernel) (w_eq (by decide) (by decide)) rfl) ?_
      refine XE.go (st_iadd (pc' := 43) (by decide +kernel) rfl) ?_
      refine XE.goM (st_put (pc' := 46) (by decide +kernel) rfl cls_0 fld_RX0_51 rfl rfl (fun h => absurd h (by decide)) (fun h => nomatch h) h0) (fun M12 => ?_)
      exact XE.rt rfl (X_vret (by decide +kernel) rfl)
    · refine XE.go (st_icmp_ge_t (off := 30) (pc' := 46) (by decide +kernel) (by decide) (Int.not_lt.mp h6)) ?_
      exact XE.rt rfl (X_vret (by decide +kernel) rfl)
theorem ct_X0_addShare {D : Dt} {M : Mm} {a0 a1 : Int} (h0 : a0 ≠ 0) (r : Mm) (hr : p_X0_addShare M a0 a1 = some r) : CT D 0 mu_X0_addShare [(4, a0), (9, a1)] M (.inl none) r := CT.of (by decide +kernel) rfl (Nat.le_of_ble_eq_true rfl) (xe_X0_addShare h0 r hr)
def b_X10_group_64 (v15 : Int) (v12 : Int) (a1 : Int) (v10 : Int) (s17 : Int × Mm) : Option ((Int × Mm) ⊕ (Mm)) := if s17.1 < v15 then gd (aok v12 s17.1) ((some ((rd s17.2 v12 s17.1))).bind fun v26 => if v26 = 0 then some (.inl ((w (s17.1 + 1)), s17.2)) else gd ((rd s17.2 v26 1) ≠ 0) (if (ian a1 (shl 1 (rd s17.2 (rd s17.2 v26 1) 0))) = 0 then some (.inl ((w (s17.1 + 1)), s17.2)) else (p_X0_addShare s17.2 v10 v26).bind fun M33 => some (.inl ((w (s17.1 + 1)), M33)))) else some (.inr s17.2)
def p_X10_group (M : Mm) (a0 a1 : Int) : Option (Int × Int × Mm) := if 0 < a1 then if a1 < (shl 1 (rd M a0 6)) then if (rd M a0 9) < 3 then (alo M 1 (1000 + (rd M a0 9)) 10).bind fun M7 => (p_X0_init M7 (1000 + (rd M a0 9))).bind fun M9 => (some ((1000 + (rd M a0 9)))).bind fun v10 => (some ((rd M9 a0 1))).bind fun v12 => gd (v12 ≠ 0) ((some ((ln v12))).bind fun v15 => (lp (b_X10_group_64 v15 v12 a1 v10) 1000 (0, M9)).bind fun (t18 : Mm) => (some ((rd t18 a0 9))).bind fun v34 => gd (aok (rd t18 a0 3) v34) ((some (wr t18 (rd t18 a0 3) v34 v10)).bind fun M37 => (some (wr M37 a0 9 (w ((rd M37 a0 9) + 1)))).bind fun M38 => some (0, v34, M38))) else psT 3 0 (thr M) else psT 2 0 (thr M) else psT 2 0 (thr M)
set_option maxRecDepth 100000 in
set_option maxHeartbeats 4000000 in
theorem xe_X10_group {D : Dt} {M : Mm} {a0 a1 : Int} (h0 : a0 ≠ 0) : XE D 0 mu_X10_group (ET 0) 0 [(0, (14, a0)), (1, (0, a1))] [] M (p_X10_group M a0 a1) := by
  unfold p_X10_group
  refine XE.go (st_iload_n (j := 1) (i := 1) (pc' := 1) (by decide +kernel) rfl rfl rfl) ?_
  refine XE.ite (fun h1 => ?_) (fun h2 => ?_)
  · refine XE.go (st_if_le_f (off := 13) (pc' := 4) (by decide +kernel) 14 (by decide) rfl (Int.not_le.mpr h1)) ?_
    refine XE.go (st_iload_n (j := 1) (i := 1) (pc' := 5) (by decide +kernel) rfl rfl rfl) ?_
    refine XE.go (st_iconst (n := 1) (pc' := 6) (by decide +kernel) (w_eq (by decide) (by decide)) rfl) ?_
    refine XE.go (st_aload_n (j := 0) (i := 0) (pc' := 7) (by decide +kernel) rfl rfl (by decide) rfl) ?_
    refine XE.go (st_get (pc' := 10) (by decide +kernel) rfl cls_10 fld_RX10_42 rfl rfl h0) ?_
    refine XE.go (st_ishl (pc' := 11) (by decide +kernel) rfl) ?_
    refine XE.ite (fun h3 => ?_) (fun h4 => ?_)
    · refine XE.go (st_icmp_lt_t (off := 14) (pc' := 25) (by decide +kernel) (by decide) h3) ?_
      refine XE.go (st_aload_n (j := 0) (i := 0) (pc' := 26) (by decide +kernel) rfl rfl (by decide) rfl) ?_
      refine XE.go (st_get (pc' := 29) (by decide +kernel) rfl cls_10 fld_RX10_52 rfl rfl h0) ?_
      refine XE.go (st_iconst (n := 3) (pc' := 30) (by decide +kernel) (w_eq (by decide) (by decide)) rfl) ?_
      refine XE.ite (fun h5 => ?_) (fun h6 => ?_)
      · refine XE.go (st_icmp_lt_t (off := 14) (pc' := 44) (by decide +kernel) (by decide) h5) ?_
        refine XE.alo_ (fun q1 q2 q3 => st_new (pc' := 47) (by decide +kernel) rfl cls_0 nw_RX10_27 rfl rfl q1 q2 q3) (by decide) (fun M7 h8 => ?_)
        refine XE.go (st_dup (pc' := 48) (by decide +kernel) rfl rfl) ?_
        refine XE.cV (pc' := 51) (st := [(4, (1000 + (rd M a0 9)))]) (fun r hr => ct_X0_init h8 r hr) (fun r hr => run_IN (μy := mu_X0_init) (index := 375) (host := RX10) (st := [(4, (1000 + (rd M a0 9)))]) (by decide +kernel) (fun s k => k.2.2.2.2.2.2.1) co_X10_group_375_a co_X10_group_375_b (ct_X0_init h8 r hr) (by decide) h8 rfl rfl (Nat.le_of_ble_eq_true rfl)) rfl rfl (fun M9 => ?_)
        refine XE.gen (fun v10 e11 => ?_)
        refine XE.go (st_astore_n (j := 2) (i := 2) (pc' := 52) (by decide +kernel) rfl (by decide) rfl (by decide) rfl rfl) ?_
        refine XE.go (st_aload_n (j := 0) (i := 0) (pc' := 53) (by decide +kernel) rfl rfl (by decide) rfl) ?_
        refine XE.go (st_get (pc' := 56) (by decide +kernel) rfl cls_10 fld_RX10_17 rfl rfl h0) ?_
        refine XE.gen (fun v12 e13 => ?_)
        refine XE.go (st_astore_n (j := 3) (i := 3) (pc' := 57) (by decide +kernel) rfl (by decide) rfl (by decide) rfl rfl) ?_
        refine XE.go (st_aload_n (j := 3) (i := 3) (pc' := 58) (by decide +kernel) rfl rfl (by decide) rfl) ?_
        refine XE.gd_ (fun g14 => ?_)
        refine XE.go (st_alen (k := 21) (pc' := 59) (by decide +kernel) rfl ak_21 rfl (by decide) g14) ?_
        refine XE.gen (fun v15 e16 => ?_)
        refine XE.go (st_istore (j := 4) (pc' := 61) (by decide +kernel)  rfl (by decide) rfl rfl) ?_
        refine XE.go (st_iconst (n := 0) (pc' := 62) (by decide +kernel) (w_eq (by decide) (by decide)) rfl) ?_
        refine XE.go (st_istore (j := 5) (pc' := 64) (by decide +kernel)  rfl (by decide) rfl rfl) ?_
        refine XE.pick [4, 5, 3, 2, 1, 0] (L' := [(0, (14, a0)), (1, (0, a1)), (2, (4, v10)), (3, (24, v12)), (4, (0, v15)), (5, (0, 0))]) rfl ?_
        refine XE.loopJ (n := 1000) (s0 := (0, M9)) (pcL := 64) (pcE := 109) (LL := fun (s17 : Int × Mm) => [(0, (14, a0)), (1, (0, a1)), (2, (4, v10)), (3, (24, v12)), (4, (0, v15)), (5, (0, s17.1))]) (sL := fun _ => []) (ML := fun (s17 : Int × Mm) => s17.2) (LE := fun (t18 : Mm) => [(0, (14, a0)), (2, (4, v10))]) (sE := fun _ => []) (ME := fun (t18 : Mm) => t18) (fun kk22 hc19 he20 s17 => ?_) (fun t18 => ?_)
        · unfold b_X10_group_64
          refine XE.go (st_iload (j := 5) (pc' := 66) (by decide +kernel) rfl rfl) ?_
          refine XE.go (st_iload (j := 4) (pc' := 68) (by decide +kernel) rfl rfl) ?_
          refine XE.bite (fun h23 => ?_) (fun h24 => ?_)
          · refine XE.go (st_icmp_ge_f (off := 41) (pc' := 71) (by decide +kernel) 109 (by decide) rfl (Int.not_le.mpr h23)) ?_
            refine XE.go (st_aload_n (j := 3) (i := 3) (pc' := 72) (by decide +kernel) rfl rfl (by decide) rfl) ?_
            refine XE.go (st_iload (j := 5) (pc' := 74) (by decide +kernel) rfl rfl) ?_
            refine XE.gdb (fun g25 => ?_)
            refine XE.go (st_ald (k := 21) (tp := 9) (pc' := 75) (by decide +kernel) rfl ak_21 rfl (by decide) rfl (Or.inr (Or.inr (Or.inr ⟨rfl, rfl⟩))) g25.1 g25.2.1 g25.2.2) ?_
            refine XE.asc ?_
            refine XE.gen (fun v26 e27 => ?_)
            refine XE.go (st_astore (j := 6) (pc' := 77) (by decide +kernel)  (by decide) rfl (by decide) rfl rfl) ?_
            refine XE.go (st_aload (j := 6) (pc' := 79) (by decide +kernel) rfl (by decide) rfl) ?_
            refine XE.bite (fun h28 => ?_) (fun h29 => ?_)
            · refine XE.go (st_ifnull_t (off := 24) (pc' := 103) (by decide +kernel) (by decide) h28 (by decide)) ?_
              refine XE.go (st_iinc (j := 5) (n := 1) (pc' := 106) (by decide +kernel) rfl rfl (by decide) rfl rfl) ?_
              refine XE.go (st_goto (off := (-42)) (pc' := 64) (by decide +kernel) (by decide)) ?_
              exact XE.pick [2, 3, 4, 5, 6, 0] rfl (hc19 ((w (s17.1 + 1)), s17.2))
            · refine XE.go (st_ifnull_f (off := 24) (pc' := 82) (by decide +kernel) (by decide) h29 rfl) ?_
              refine XE.go (st_iload_n (j := 1) (i := 1) (pc' := 83) (by decide +kernel) rfl rfl rfl) ?_
              refine XE.go (st_iconst (n := 1) (pc' := 84) (by decide +kernel) (w_eq (by decide) (by decide)) rfl) ?_
              refine XE.go (st_aload (j := 6) (pc' := 86) (by decide +kernel) rfl (by decide) rfl) ?_
              refine XE.go (st_get (pc' := 89) (by decide +kernel) rfl cls_5 fld_RX10_120 rfl rfl h29) ?_
              refine XE.gdb (fun g30 => ?_)
              refine XE.go (st_get (pc' := 92) (by decide +kernel) rfl cls_9 fld_RX10_91 rfl rfl g30) ?_
              refine XE.go (st_ishl (pc' := 93) (by decide +kernel) rfl) ?_
              refine XE.go (st_iand (pc' := 94) (by decide +kernel) rfl) ?_
              refine XE.bite (fun h31 => ?_) (fun h32 => ?_)
              · refine XE.go (st_if_eq_t (off := 9) (pc' := 103) (by decide +kernel) (by decide) h31) ?_
                refine XE.go (st_iinc (j := 5) (n := 1) (pc' := 106) (by decide +kernel) rfl rfl (by decide) rfl rfl) ?_
                refine XE.go (st_goto (off := (-42)) (pc' := 64) (by decide +kernel) (by decide)) ?_
                exact XE.pick [2, 3, 4, 5, 6, 0] rfl (hc19 ((w (s17.1 + 1)), s17.2))
              · refine XE.go (st_if_eq_f (off := 9) (pc' := 97) (by decide +kernel) 103 (by decide) rfl h32) ?_
                refine XE.go (st_aload_n (j := 2) (i := 2) (pc' := 98) (by decide +kernel) rfl rfl (by decide) rfl) ?_
                refine XE.go (st_aload (j := 6) (pc' := 100) (by decide +kernel) rfl (by decide) rfl) ?_
                refine XE.asc ?_
                refine XE.cV (pc' := 103) (st := []) (fun r hr => ct_X0_addShare (by rw [e11]; exact h8) r hr) (fun r hr => run_V (st := []) (by decide +kernel) co_X10_group_376 (ct_X0_addShare (by rw [e11]; exact h8) r hr) rfl (by rw [e11]; exact h8) rfl rfl (Nat.le_of_ble_eq_true rfl)) rfl rfl (fun M33 => ?_)
                refine XE.go (st_iinc (j := 5) (n := 1) (pc' := 106) (by decide +kernel) rfl rfl (by decide) rfl rfl) ?_
                refine XE.go (st_goto (off := (-42)) (pc' := 64) (by decide +kernel) (by decide)) ?_
                exact XE.pick [2, 3, 4, 5, 6, 0] rfl (hc19 ((w (s17.1 + 1)), M33))
          · refine XE.go (st_icmp_ge_t (off := 41) (pc' := 109) (by decide +kernel) (by decide) (Int.not_lt.mp h24)) ?_
            exact XE.pick [0, 2] rfl (he20 s17.2)
        · refine XE.go (st_aload_n (j := 0) (i := 0) (pc' := 110) (by decide +kernel) rfl rfl (by decide) rfl) ?_
          refine XE.go (st_get (pc' := 113) (by decide +kernel) rfl cls_10 fld_RX10_52 rfl rfl h0) ?_
          refine XE.gen (fun v34 e35 => ?_)
          refine XE.go (st_istore_n (j := 3) (i := 3) (pc' := 114) (by decide +kernel) rfl rfl (by decide) rfl rfl) ?_
          refine XE.go (st_aload_n (j := 0) (i := 0) (pc' := 115) (by decide +kernel) rfl rfl (by decide) rfl) ?_
          refine XE.go (st_get (pc' := 118) (by decide +kernel) rfl cls_10 fld_RX10_29 rfl rfl h0) ?_
          refine XE.go (st_iload_n (j := 3) (i := 3) (pc' := 119) (by decide +kernel) rfl rfl rfl) ?_
          refine XE.go (st_aload_n (j := 2) (i := 2) (pc' := 120) (by decide +kernel) rfl rfl (by decide) rfl) ?_
          refine XE.gd_ (fun g36 => ?_)
          refine XE.goM (st_aast (pc' := 121) (by decide +kernel) rfl ak_16 cls_0 rfl rfl rfl g36.1 g36.2.1 g36.2.2) (fun M37 => ?_)
          refine XE.go (st_aload_n (j := 0) (i := 0) (pc' := 122) (by decide +kernel) rfl rfl (by decide) rfl) ?_
          refine XE.go (st_dup (pc' := 123) (by decide +kernel) rfl rfl) ?_
          refine XE.go (st_get (pc' := 126) (by decide +kernel) rfl cls_10 fld_RX10_52 rfl rfl h0) ?_
          refine XE.go (st_iconst (n := 1) (pc' := 127) (by decide +kernel) (w_eq (by decide) (by decide)) rfl) ?_
          refine XE.go (st_iadd (pc' := 128) (by decide +kernel) rfl) ?_
          refine XE.goM (st_put (pc' := 131) (by decide +kernel) rfl cls_10 fld_RX10_52 rfl rfl (fun h => absurd h (by decide)) (fun h => nomatch h) h0) (fun M38 => ?_)
          refine XE.go (st_iload_n (j := 3) (i := 3) (pc' := 132) (by decide +kernel) rfl rfl rfl) ?_
          exact XE.rt rfl (X_iret (by decide +kernel) rfl)
      · refine XE.go (st_icmp_lt_f (off := 14) (pc' := 33) (by decide +kernel) 44 (by decide) rfl h6) ?_
        exact XE.thrTW (by decide +kernel) (by decide +kernel) (by decide +kernel) (by decide +kernel) (by decide +kernel) thr_RX10_373 rfl (by decide) (by decide) (by decide)
    · refine XE.go (st_icmp_lt_f (off := 14) (pc' := 14) (by decide +kernel) 25 (by decide) rfl h4) ?_
      exact XE.thrTW (by decide +kernel) (by decide +kernel) (by decide +kernel) (by decide +kernel) (by decide +kernel) thr_RX10_370 rfl (by decide) (by decide) (by decide)
  · refine XE.go (st_if_le_t (off := 13) (pc' := 14) (by decide +kernel) (by decide) (Int.not_lt.mp h2)) ?_
    exact XE.thrTW (by decide +kernel) (by decide +kernel) (by decide +kernel) (by decide +kernel) (by decide +kernel) thr_RX10_370 rfl (by decide) (by decide) (by decide)
theorem ct_X10_group {D : Dt} {M : Mm} {a0 a1 : Int} (h0 : a0 ≠ 0) (r : (Int × Int × Mm)) (hr : p_X10_group M a0 a1 = some r) : CT D 0 mu_X10_group [(14, a0), (0, a1)] M (ET 0 r).1 (ET 0 r).2 := CT.of (by decide +kernel) rfl (Nat.le_of_ble_eq_true rfl) (xe_X10_group h0 r hr)
def p_X3_init (M : Mm) (a0 a1 a2 : Int) : Option Mm := (alo M 3 (3006 + (a0 - 4000)) 2).bind fun M1 => (p_X2_init M1 (3006 + (a0 - 4000)) 9).bind fun M3 => (some (wr M3 a0 1 (3006 + (a0 - 4000)))).bind fun M4 => (some (wr M4 a0 3 3)).bind fun M5 => (some (wr M5 a0 4 (-1))).bind fun M6 => (some (wr M6 a0 5 0)).bind fun M7 => (some (wr M7 a0 6 0)).bind fun M8 => (some (wr M8 a0 0 a1)).bind fun M9 => (some (wr M9 a0 2 a2)).bind fun M10 => some (M10)
set_option maxRecDepth 100000 in
set_option maxHeartbeats 4000000 in
theorem xe_X3_init {D : Dt} {M : Mm} {a0 a1 a2 : Int} (h0 : a0 ≠ 0) : XE D 0 mu_X3_init EV 0 [(0, (7, a0)), (1, (0, a1)), (2, (0, a2))] [] M (p_X3_init M a0 a1 a2) := by
  unfold p_X3_init
  refine XE.go (st_aload_n (j := 0) (i := 0) (pc' := 1) (by decide +kernel) rfl rfl (by decide) rfl) ?_
  refine XE.go (st_oinit (pc' := 4) (by decide +kernel) rfl oi_RX3_3 (by decide) (by decide) (by decide) h0) ?_
  refine XE.go (st_aload_n (j := 0) (i := 0) (pc' := 5) (by decide +kernel) rfl rfl (by decide) rfl) ?_
  refine XE.alo_ (fun q1 q2 q3 => st_new (pc' := 8) (by decide +kernel) rfl cls_2 nw_RX3_9 rfl rfl q1 q2 q3) (by decide) (fun M1 h2 => ?_)
  refine XE.go (st_dup (pc' := 9) (by decide +kernel) rfl rfl) ?_
  refine XE.go (st_bipush (n := 9) (pc' := 11) (by decide +kernel) (by decide) (w_eq (by decide) (by decide)) rfl) ?_
  refine XE.cV (pc' := 14) (st := [(6, (3006 + (a0 - 4000))), (7, a0)]) (fun r hr => ct_X2_init h2 r hr) (fun r hr => run_I (st := [(6, (3006 + (a0 - 4000))), (7, a0)]) (by decide +kernel) co_X3_init_11 (ct_X2_init h2 r hr) (by decide) h2 rfl rfl (Nat.le_of_ble_eq_true rfl)) rfl rfl (fun M3 => ?_)
  refine XE.goM (st_put (pc' := 17) (by decide +kernel) rfl cls_3 fld_RX3_14 rfl rfl (fun h => absurd h (by decide)) (fun _ => ⟨rfl, rfl⟩) h0) (fun M4 => ?_)
  refine XE.go (st_aload_n (j := 0) (i := 0) (pc' := 18) (by decide +kernel) rfl rfl (by decide) rfl) ?_
  refine XE.go (st_iconst (n := 3) (pc' := 19) (by decide +kernel) (w_eq (by decide) (by decide)) rfl) ?_
  refine XE.goM (st_put (pc' := 22) (by decide +kernel) rfl cls_3 fld_RX3_20 rfl rfl (fun h => absurd h (by decide)) (fun h => nomatch h) h0) (fun M5 => ?_)
  refine XE.go (st_aload_n (j := 0) (i := 0) (pc' := 23) (by decide +kernel) rfl rfl (by decide) rfl) ?_
  refine XE.go (st_iconst (n := (-1)) (pc' := 24) (by decide +kernel) (w_eq (by decide) (by decide)) rfl) ?_
  refine XE.goM (st_put (pc' := 27) (by decide +kernel) rfl cls_3 fld_RX3_24 rfl rfl (fun h => absurd h (by decide)) (fun h => nomatch h) h0) (fun M6 => ?_)
  refine XE.go (st_aload_n (j := 0) (i := 0) (pc' := 28) (by decide +kernel) rfl rfl (by decide) rfl) ?_
  refine XE.go (st_iconst (n := 0) (pc' := 29) (by decide +kernel) (w_eq (by decide) (by decide)) rfl) ?_
  refine XE.goM (st_put (pc' := 32) (by decide +kernel) rfl cls_3 fld_RX3_27 rfl rfl (fun h => absurd h (by decide)) (fun h => nomatch h) h0) (fun M7 => ?_)
  refine XE.go (st_aload_n (j := 0) (i := 0) (pc' := 33) (by decide +kernel) rfl rfl (by decide) rfl) ?_
  refine XE.go (st_iconst (n := 0) (pc' := 34) (by decide +kernel) (w_eq (by decide) (by decide)) rfl) ?_
  refine XE.goM (st_put (pc' := 37) (by decide +kernel) rfl cls_3 fld_RX3_30 rfl rfl (fun h => absurd h (by decide)) (fun h => nomatch h) h0) (fun M8 => ?_)
  refine XE.go (st_aload_n (j := 0) (i := 0) (pc' := 38) (by decide +kernel) rfl rfl (by decide) rfl) ?_
  refine XE.go (st_iload_n (j := 1) (i := 1) (pc' := 39) (by decide +kernel) rfl rfl rfl) ?_
  refine XE.goM (st_put (pc' := 42) (by decide +kernel) rfl cls_3 fld_RX3_33 rfl rfl (fun h => absurd h (by decide)) (fun _ => ⟨rfl, rfl⟩) h0) (fun M9 => ?_)
  refine XE.go (st_aload_n (j := 0) (i := 0) (pc' := 43) (by decide +kernel) rfl rfl (by decide) rfl) ?_
  refine XE.go (st_iload_n (j := 2) (i := 2) (pc' := 44) (by decide +kernel) rfl rfl rfl) ?_
  refine XE.goM (st_put (pc' := 47) (by decide +kernel) rfl cls_3 fld_RX3_36 rfl rfl (fun h => absurd h (by decide)) (fun h => nomatch h) h0) (fun M10 => ?_)
  exact XE.rt rfl (X_vret (by decide +kernel) rfl)
theorem ct_X3_init {D : Dt} {M : Mm} {a0 a1 a2 : Int} (h0 : a0 ≠ 0) (r : Mm) (hr : p_X3_init M a0 a1 a2 = some r) : CT D 0 mu_X3_init [(7, a0), (0, a1), (0, a2)] M (.inl none) r := CT.of (by decide +kernel) rfl (Nat.le_of_ble_eq_true rfl) (xe_X3_init h0 r hr)
def p_X0_addMember (M : Mm) (a0 a1 : Int) : Option (Int × Mm) := gd ((rd M a0 1) ≠ 0) (if (rd M a0 5) < (ln (rd M a0 1)) then (alo M 4 (4000 + (12 * (a0 - 1000) + (rd M a0 5))) 7).bind fun M4 => (p_X3_init M4 (4000 + (12 * (a0 - 1000) + (rd M a0 5))) (rd M4 a0 5) a1).bind fun M6 => (some ((4000 + (12 * (a0 - 1000) + (rd M a0 5))))).bind fun v7 => gd (aok (rd M6 a0 1) (rd M6 a0 5)) ((some (wr M6 (rd M6 a0 1) (rd M6 a0 5) v7)).bind fun M10 => (some (wr M10 a0 5 (w ((rd M10 a0 5) + 1)))).bind fun M11 => (some (wr M11 a0 6 (w ((rd M11 a0 6) + 1)))).bind fun M12 => (p_X0_dealTargets M12 a0).bind fun M13 => some ((rd M13 v7 0), M13)) else some ((-1), M))
set_option maxRecDepth 100000 in
set_option maxHeartbeats 4000000 in
theorem xe_X0_addMember {D : Dt} {M : Mm} {a0 a1 : Int} (h0 : a0 ≠ 0) : XE D 0 mu_X0_addMember (EW 0) 0 [(0, (4, a0)), (1, (0, a1))] [] M (p_X0_addMember M a0 a1) := by
  unfold p_X0_addMember
  refine XE.go (st_aload_n (j := 0) (i := 0) (pc' := 1) (by decide +kernel) rfl rfl (by decide) rfl) ?_
  refine XE.go (st_get (pc' := 4) (by decide +kernel) rfl cls_0 fld_RX0_41 rfl rfl h0) ?_
  refine XE.go (st_aload_n (j := 0) (i := 0) (pc' := 5) (by decide +kernel) rfl rfl (by decide) rfl) ?_
  refine XE.go (st_get (pc' := 8) (by decide +kernel) rfl cls_0 fld_RX0_19 rfl rfl h0) ?_
  refine XE.gd_ (fun g1 => ?_)
  refine XE.go (st_alen (k := 19) (pc' := 9) (by decide +kernel) rfl ak_19 rfl (by decide) g1) ?_
  refine XE.ite (fun h2 => ?_) (fun h3 => ?_)
  · refine XE.go (st_icmp_lt_t (off := 5) (pc' := 14) (by decide +kernel) (by decide) h2) ?_
    refine XE.alo_ (fun q1 q2 q3 => st_new (pc' := 17) (by decide +kernel) rfl cls_3 nw_RX0_17 rfl rfl q1 q2 q3) (by decide) (fun M4 h5 => ?_)
    refine XE.go (st_dup (pc' := 18) (by decide +kernel) rfl rfl) ?_
    refine XE.go (st_aload_n (j := 0) (i := 0) (pc' := 19) (by decide +kernel) rfl rfl (by decide) rfl) ?_
    refine XE.go (st_get (pc' := 22) (by decide +kernel) rfl cls_0 fld_RX0_41 rfl rfl h0) ?_
    refine XE.go (st_iload_n (j := 1) (i := 1) (pc' := 23) (by decide +kernel) rfl rfl rfl) ?_
    refine XE.cV (pc' := 26) (st := [(7, (4000 + (12 * (a0 - 1000) + (rd M a0 5))))]) (fun r hr => ct_X3_init h5 r hr) (fun r hr => run_I (st := [(7, (4000 + (12 * (a0 - 1000) + (rd M a0 5))))]) (by decide +kernel) co_X0_addMember_87 (ct_X3_init h5 r hr) (by decide) h5 rfl rfl (Nat.le_of_ble_eq_true rfl)) rfl rfl (fun M6 => ?_)
    refine XE.gen (fun v7 e8 => ?_)
    refine XE.go (st_astore_n (j := 2) (i := 2) (pc' := 27) (by decide +kernel) rfl (by decide) rfl (by decide) rfl rfl) ?_
    refine XE.go (st_aload_n (j := 0) (i := 0) (pc' := 28) (by decide +kernel) rfl rfl (by decide) rfl) ?_
    refine XE.go (st_get (pc' := 31) (by decide +kernel) rfl cls_0 fld_RX0_19 rfl rfl h0) ?_
    refine XE.go (st_aload_n (j := 0) (i := 0) (pc' := 32) (by decide +kernel) rfl rfl (by decide) rfl) ?_
    refine XE.go (st_get (pc' := 35) (by decide +kernel) rfl cls_0 fld_RX0_41 rfl rfl h0) ?_
    refine XE.go (st_aload_n (j := 2) (i := 2) (pc' := 36) (by decide +kernel) rfl rfl (by decide) rfl) ?_
    refine XE.gd_ (fun g9 => ?_)
    refine XE.goM (st_aast (pc' := 37) (by decide +kernel) rfl ak_19 cls_3 rfl rfl rfl g9.1 g9.2.1 g9.2.2) (fun M10 => ?_)
    refine XE.go (st_aload_n (j := 0) (i := 0) (pc' := 38) (by decide +kernel) rfl rfl (by decide) rfl) ?_
    refine XE.go (st_dup (pc' := 39) (by decide +kernel) rfl rfl) ?_
    refine XE.go (st_get (pc' := 42) (by decide +kernel) rfl cls_0 fld_RX0_41 rfl rfl h0) ?_
    refine XE.go (st_iconst (n := 1) (pc' := 43) (by decide +kernel) (w_eq (by decide) (by decide)) rfl) ?_
    refine XE.go (st_iadd (pc' := 44) (by decide +kernel) rfl) ?_
    refine XE.goM (st_put (pc' := 47) (by decide +kernel) rfl cls_0 fld_RX0_41 rfl rfl (fun h => absurd h (by decide)) (fun h => nomatch h) h0) (fun M11 => ?_)
    refine XE.go (st_aload_n (j := 0) (i := 0) (pc' := 48) (by decide +kernel) rfl rfl (by decide) rfl) ?_
    refine XE.go (st_dup (pc' := 49) (by decide +kernel) rfl rfl) ?_
    refine XE.go (st_get (pc' := 52) (by decide +kernel) rfl cls_0 fld_RX0_45 rfl rfl h0) ?_
    refine XE.go (st_iconst (n := 1) (pc' := 53) (by decide +kernel) (w_eq (by decide) (by decide)) rfl) ?_
    refine XE.go (st_iadd (pc' := 54) (by decide +kernel) rfl) ?_
    refine XE.goM (st_put (pc' := 57) (by decide +kernel) rfl cls_0 fld_RX0_45 rfl rfl (fun h => absurd h (by decide)) (fun h => nomatch h) h0) (fun M12 => ?_)
    refine XE.go (st_aload_n (j := 0) (i := 0) (pc' := 58) (by decide +kernel) rfl rfl (by decide) rfl) ?_
    refine XE.cV (pc' := 61) (st := []) (fun r hr => ct_X0_dealTargets h0 r hr) (fun r hr => run_V (st := []) (by decide +kernel) co_X0_addMember_90 (ct_X0_dealTargets h0 r hr) rfl h0 rfl rfl (Nat.le_of_ble_eq_true rfl)) rfl rfl (fun M13 => ?_)
    refine XE.go (st_aload_n (j := 2) (i := 2) (pc' := 62) (by decide +kernel) rfl rfl (by decide) rfl) ?_
    refine XE.go (st_get (pc' := 65) (by decide +kernel) rfl cls_3 fld_RX0_75 rfl rfl (by rw [e8]; exact h5)) ?_
    exact XE.rt rfl (X_iret (by decide +kernel) rfl)
  · refine XE.go (st_icmp_lt_f (off := 5) (pc' := 12) (by decide +kernel) 14 (by decide) rfl h3) ?_
    refine XE.go (st_iconst (n := (-1)) (pc' := 13) (by decide +kernel) (w_eq (by decide) (by decide)) rfl) ?_
    exact XE.rt rfl (X_iret (by decide +kernel) rfl)
theorem ct_X0_addMember {D : Dt} {M : Mm} {a0 a1 : Int} (h0 : a0 ≠ 0) (r : (Int × Mm)) (hr : p_X0_addMember M a0 a1 = some r) : CT D 0 mu_X0_addMember [(4, a0), (0, a1)] M (.inl (some (0, r.1))) r.2 := CT.of (by decide +kernel) rfl (Nat.le_of_ble_eq_true rfl) (xe_X0_addMember h0 r hr)
def p_X10_join (M : Mm) (a0 a1 : Int) : Option (Int × Int × Mm) := (p_X10_groupOf M a0 a1).bind (thT psT fun v1 M2 => gd (v1 ≠ 0) (if (rd M2 v1 5) < 12 then (p_X0_memberCount M2 v1).bind fun r6 => if r6 < 4 then (p_X0_addMember M2 v1 (rd M2 a0 15)).bind fun r9 => some (0, r9.1, r9.2) else psT 3 0 (thr M2) else psT 3 0 (thr M2)))
set_option maxRecDepth 100000 in
set_option maxHeartbeats 4000000 in
theorem xe_X10_join {D : Dt} {M : Mm} {a0 a1 : Int} (h0 : a0 ≠ 0) : XE D 0 mu_X10_join (ET 0) 0 [(0, (14, a0)), (1, (0, a1))] [] M (p_X10_join M a0 a1) := by
  unfold p_X10_join
  refine XE.go (st_aload_n (j := 0) (i := 0) (pc' := 1) (by decide +kernel) rfl rfl (by decide) rfl) ?_
  refine XE.go (st_iload_n (j := 1) (i := 1) (pc' := 2) (by decide +kernel) rfl rfl rfl) ?_
  refine XE.cTg (pc' := 5) (st := []) hfT (fun r hr => ct_X10_groupOf h0 r hr) (fun r hr => run_V (st := []) (by decide +kernel) co_X10_join_334 (ct_X10_groupOf h0 r hr) rfl h0 rfl rfl (Nat.le_of_ble_eq_true rfl)) rfl rfl rfl (fun v1 M2 => ?_)
  refine XE.go (st_astore_n (j := 2) (i := 2) (pc' := 6) (by decide +kernel) rfl (by decide) rfl (by decide) rfl rfl) ?_
  refine XE.go (st_aload_n (j := 2) (i := 2) (pc' := 7) (by decide +kernel) rfl rfl (by decide) rfl) ?_
  refine XE.gd_ (fun g3 => ?_)
  refine XE.go (st_get (pc' := 10) (by decide +kernel) rfl cls_0 fld_RX10_379 rfl rfl g3) ?_
  refine XE.go (st_bipush (n := 12) (pc' := 12) (by decide +kernel) (by decide) (w_eq (by decide) (by decide)) rfl) ?_
  refine XE.ite (fun h4 => ?_) (fun h5 => ?_)
  · refine XE.go (st_icmp_ge_f (off := 11) (pc' := 15) (by decide +kernel) 23 (by decide) rfl (Int.not_le.mpr h4)) ?_
    refine XE.go (st_aload_n (j := 2) (i := 2) (pc' := 16) (by decide +kernel) rfl rfl (by decide) rfl) ?_
    refine XE.cP (pc' := 19) (st := []) (fun r hr => ct_X0_memberCount g3 r hr) (fun r hr => run_V (st := []) (by decide +kernel) co_X10_join_382 (ct_X0_memberCount g3 r hr) rfl g3 rfl rfl (Nat.le_of_ble_eq_true rfl)) rfl rfl (fun r6 => ?_)
    refine XE.go (st_iconst (n := 4) (pc' := 20) (by decide +kernel) (w_eq (by decide) (by decide)) rfl) ?_
    refine XE.ite (fun h7 => ?_) (fun h8 => ?_)
    · refine XE.go (st_icmp_lt_t (off := 14) (pc' := 34) (by decide +kernel) (by decide) h7) ?_
      refine XE.go (st_aload_n (j := 2) (i := 2) (pc' := 35) (by decide +kernel) rfl rfl (by decide) rfl) ?_
      refine XE.go (st_aload_n (j := 0) (i := 0) (pc' := 36) (by decide +kernel) rfl rfl (by decide) rfl) ?_
      refine XE.go (st_get (pc' := 39) (by decide +kernel) rfl cls_10 fld_RX10_70 rfl rfl h0) ?_
      refine XE.cW (pc' := 42) (st := []) (fun r hr => ct_X0_addMember g3 r hr) (fun r hr => run_V (st := []) (by decide +kernel) co_X10_join_387 (ct_X0_addMember g3 r hr) rfl g3 rfl rfl (Nat.le_of_ble_eq_true rfl)) rfl rfl (fun r9 => ?_)
      exact XE.rt rfl (X_iret (by decide +kernel) rfl)
    · refine XE.go (st_icmp_lt_f (off := 14) (pc' := 23) (by decide +kernel) 34 (by decide) rfl h8) ?_
      exact XE.thrTW (by decide +kernel) (by decide +kernel) (by decide +kernel) (by decide +kernel) (by decide +kernel) thr_RX10_385 rfl (by decide) (by decide) (by decide)
  · refine XE.go (st_icmp_ge_t (off := 11) (pc' := 23) (by decide +kernel) (by decide) (Int.not_lt.mp h5)) ?_
    exact XE.thrTW (by decide +kernel) (by decide +kernel) (by decide +kernel) (by decide +kernel) (by decide +kernel) thr_RX10_385 rfl (by decide) (by decide) (by decide)
theorem ct_X10_join {D : Dt} {M : Mm} {a0 a1 : Int} (h0 : a0 ≠ 0) (r : (Int × Int × Mm)) (hr : p_X10_join M a0 a1 = some r) : CT D 0 mu_X10_join [(14, a0), (0, a1)] M (ET 0 r).1 (ET 0 r).2 := CT.of (by decide +kernel) rfl (Nat.le_of_ble_eq_true rfl) (xe_X10_join h0 r hr)
def p_X10_leave (M : Mm) (a0 a1 a2 : Int) : Option (Int × Int × Mm) := (p_X10_groupOf M a0 a1).bind (thT psT fun v1 M2 => (p_X10_memberOf M2 v1 a2).bind (thT psT fun v3 M4 => gd (v1 ≠ 0) ((p_X0_removeMember M4 v1 v3 (rd M4 a0 15)).bind fun r6 => some (0, r6.1, r6.2))))
set_option maxRecDepth 100000 in
set_option maxHeartbeats 4000000 in
theorem xe_X10_leave {D : Dt} {M : Mm} {a0 a1 a2 : Int} (h0 : a0 ≠ 0) : XE D 0 mu_X10_leave (ET 0) 0 [(0, (14, a0)), (1, (0, a1)), (2, (0, a2))] [] M (p_X10_leave M a0 a1 a2) := by
  unfold p_X10_leave
  refine XE.go (st_aload_n (j := 0) (i := 0) (pc' := 1) (by decide +kernel) rfl rfl (by decide) rfl) ?_
  refine XE.go (st_iload_n (j := 1) (i := 1) (pc' := 2) (by decide +kernel) rfl rfl rfl) ?_
  refine XE.cTg (pc' := 5) (st := []) hfT (fun r hr => ct_X10_groupOf h0 r hr) (fun r hr => run_V (st := []) (by decide +kernel) co_X10_leave_334 (ct_X10_groupOf h0 r hr) rfl h0 rfl rfl (Nat.le_of_ble_eq_true rfl)) rfl rfl rfl (fun v1 M2 => ?_)
  refine XE.go (st_astore_n (j := 3) (i := 3) (pc' := 6) (by decide +kernel) rfl (by decide) rfl (by decide) rfl rfl) ?_
  refine XE.go (st_aload_n (j := 3) (i := 3) (pc' := 7) (by decide +kernel) rfl rfl (by decide) rfl) ?_
  refine XE.go (st_aload_n (j := 3) (i := 3) (pc' := 8) (by decide +kernel) rfl rfl (by decide) rfl) ?_
  refine XE.go (st_iload_n (j := 2) (i := 2) (pc' := 9) (by decide +kernel) rfl rfl rfl) ?_
  refine XE.cTg (pc' := 12) (st := [(4, v1)]) hfT (fun r hr => ct_X10_memberOf r hr) (fun r hr => run_S (st := [(4, v1)]) (by decide +kernel) co_X10_leave_338 (ct_X10_memberOf r hr) rfl rfl (Nat.le_of_ble_eq_true rfl)) rfl rfl rfl (fun v3 M4 => ?_)
  refine XE.go (st_aload_n (j := 0) (i := 0) (pc' := 13) (by decide +kernel) rfl rfl (by decide) rfl) ?_
  refine XE.go (st_get (pc' := 16) (by decide +kernel) rfl cls_10 fld_RX10_70 rfl rfl h0) ?_
  refine XE.gd_ (fun g5 => ?_)
  refine XE.cW (pc' := 19) (st := []) (fun r hr => ct_X0_removeMember g5 r hr) (fun r hr => run_V (st := []) (by decide +kernel) co_X10_leave_391 (ct_X0_removeMember g5 r hr) rfl g5 rfl rfl (Nat.le_of_ble_eq_true rfl)) rfl rfl (fun r6 => ?_)
  exact XE.rt rfl (X_iret (by decide +kernel) rfl)
theorem ct_X10_leave {D : Dt} {M : Mm} {a0 a1 a2 : Int} (h0 : a0 ≠ 0) (r : (Int × Int × Mm)) (hr : p_X10_leave M a0 a1 a2 = some r) : CT D 0 mu_X10_leave [(14, a0), (0, a1), (0, a2)] M (ET 0 r).1 (ET 0 r).2 := CT.of (by decide +kernel) rfl (Nat.le_of_ble_eq_true rfl) (xe_X10_leave h0 r hr)
def p_J9_max_7cf53 (M : Mm) (a0 a1 : Int) : Option Int := if a0 < a1 then some (a1) else some (a0)
set_option maxRecDepth 100000 in
set_option maxHeartbeats 4000000 in
theorem xe_J9_max_7cf53 {D : Dt} {M : Mm} {a0 a1 : Int} : XE D 0 mu_J9_max_7cf53 (EP 0 M) 0 [(0, (0, a0)), (1, (0, a1))] [] M (p_J9_max_7cf53 M a0 a1) := by
  unfold p_J9_max_7cf53
  refine XE.go (st_iload_n (j := 0) (i := 0) (pc' := 1) (by decide +kernel) rfl rfl rfl) ?_
  refine XE.go (st_iload_n (j := 1) (i := 1) (pc' := 2) (by decide +kernel) rfl rfl rfl) ?_
  refine XE.ite (fun h1 => ?_) (fun h2 => ?_)
  · refine XE.go (st_icmp_lt_t (off := 7) (pc' := 9) (by decide +kernel) (by decide) h1) ?_
    refine XE.go (st_iload_n (j := 1) (i := 1) (pc' := 10) (by decide +kernel) rfl rfl rfl) ?_
    exact XE.rt rfl (X_iret (by decide +kernel) rfl)
  · refine XE.go (st_icmp_lt_f (off := 7) (pc' := 5) (by decide +kernel) 9 (by decide) rfl h2) ?_
    refine XE.go (st_iload_n (j := 0) (i := 0) (pc' := 6) (by decide +kernel) rfl rfl rfl) ?_
    refine XE.go (st_goto (off := 4) (pc' := 10) (by decide +kernel) (by decide)) ?_
    exact XE.rt rfl (X_iret (by decide +kernel) rfl)
theorem ct_J9_max_7cf53 {D : Dt} {M : Mm} {a0 a1 : Int} (r : Int) (hr : p_J9_max_7cf53 M a0 a1 = some r) : CT D 0 mu_J9_max_7cf53 [(0, a0), (0, a1)] M (.inl (some (0, r))) M := CT.of (by decide +kernel) rfl (Nat.le_of_ble_eq_true rfl) (xe_J9_max_7cf53 r hr)
def b_X0_followTargets_74 (v27 : Int) (v24 : Int) (a1 : Int) (s29 : Int × Mm) : Option ((Int × Mm) ⊕ (Mm)) := if s29.1 < v27 then gd (aok v24 s29.1) ((some ((rd s29.2 v24 s29.1))).bind fun v38 => if v38 = 0 then some (.inl ((w (s29.1 + 1)), s29.2)) else if (rd s29.2 v38 1) = 0 then if (rd s29.2 v38 2) = a1 then (some (wr s29.2 v38 1 a1)).bind fun M46 => gd ((rd M46 v38 0) ≠ 0) ((p_J9_max_7cf53 M46 (rd M46 v38 3) (rd M46 (rd M46 v38 0) 5)).bind fun r48 => (some (wr M46 v38 4 r48)).bind fun M49 => some (.inl ((w (s29.1 + 1)), M49))) else some (.inl ((w (s29.1 + 1)), s29.2)) else some (.inl ((w (s29.1 + 1)), s29.2))) else some (.inr s29.2)
def b_X0_followTargets_12 (v4 : Int) (v1 : Int) (a1 : Int) (a0 : Int) (a2 : Int) (s6 : Int × Mm) : Option ((Int × Mm) ⊕ (Mm)) := if s6.1 < v4 then gd (aok v1 s6.1) ((some ((rd s6.2 v1 s6.1))).bind fun v15 => if v15 = 0 then some (.inl ((w (s6.1 + 1)), s6.2)) else if (rd s6.2 v15 1) = a1 then if (rd s6.2 v15 2) = a1 then some (.inl ((w (s6.1 + 1)), s6.2)) else (p_X0_giveUp s6.2 a0 v15 a1 a2).bind fun M23 => some (.inl ((w (s6.1 + 1)), M23)) else some (.inl ((w (s6.1 + 1)), s6.2))) else some (.inr s6.2)
def p_X0_followTargets (M : Mm) (a0 a1 a2 : Int) : Option Mm := (some ((rd M a0 0))).bind fun v1 => gd (v1 ≠ 0) ((some ((ln v1))).bind fun v4 => (lp (b_X0_followTargets_12 v4 v1 a1 a0 a2) 1000 (0, M)).bind fun (t7 : Mm) => (some ((rd t7 a0 0))).bind fun v24 => gd (v24 ≠ 0) ((some ((ln v24))).bind fun v27 => (lp (b_X0_followTargets_74 v27 v24 a1) 1000 (0, t7)).bind fun (t30 : Mm) => some (t30)))
set_option maxRecDepth 100000 in
set_option maxHeartbeats 4000000 in
theorem xe_X0_followTargets {D : Dt} {M : Mm} {a0 a1 a2 : Int} (h0 : a0 ≠ 0) : XE D 0 mu_X0_followTargets EV 0 [(0, (4, a0)), (1, (7, a1)), (2, (0, a2))] [] M (p_X0_followTargets M a0 a1 a2) := by
  unfold p_X0_followTargets
  refine XE.go (st_aload_n (j := 0) (i := 0) (pc' := 1) (by decide +kernel) rfl rfl (by decide) rfl) ?_
  refine XE.go (st_get (pc' := 4) (by decide +kernel) rfl cls_0 fld_RX0_11 rfl rfl h0) ?_
  refine XE.gen (fun v1 e2 => ?_)
  refine XE.go (st_astore_n (j := 3) (i := 3) (pc' := 5) (by decide +kernel) rfl (by decide) rfl (by decide) rfl rfl) ?_
  refine XE.go (st_aload_n (j := 3) (i := 3) (pc' := 6) (by decide +kernel) rfl rfl (by decide) rfl) ?_
  refine XE.gd_ (fun g3 => ?_)
  refine XE.go (st_alen (k := 24) (pc' := 7) (by decide +kernel) rfl ak_24 rfl (by decide) g3) ?_
  refine XE.gen (fun v4 e5 => ?_)
  refine XE.go (st_istore (j := 4) (pc' := 9) (by decide +kernel)  rfl (by decide) rfl rfl) ?_
  refine XE.go (st_iconst (n := 0) (pc' := 10) (by decide +kernel) (w_eq (by decide) (by decide)) rfl) ?_
  refine XE.go (st_istore (j := 5) (pc' := 12) (by decide +kernel)  rfl (by decide) rfl rfl) ?_
  refine XE.pick [3, 4, 5, 2, 1, 0] (L' := [(0, (4, a0)), (1, (7, a1)), (2, (0, a2)), (3, (27, v1)), (4, (0, v4)), (5, (0, 0))]) rfl ?_
  refine XE.loopJ (n := 1000) (s0 := (0, M)) (pcL := 12) (pcE := 62) (LL := fun (s6 : Int × Mm) => [(0, (4, a0)), (1, (7, a1)), (2, (0, a2)), (3, (27, v1)), (4, (0, v4)), (5, (0, s6.1))]) (sL := fun _ => []) (ML := fun (s6 : Int × Mm) => s6.2) (LE := fun (t7 : Mm) => [(0, (4, a0)), (1, (7, a1))]) (sE := fun _ => []) (ME := fun (t7 : Mm) => t7) (fun kk11 hc8 he9 s6 => ?_) (fun t7 => ?_)
  · unfold b_X0_followTargets_12
    refine XE.go (st_iload (j := 5) (pc' := 14) (by decide +kernel) rfl rfl) ?_
    refine XE.go (st_iload (j := 4) (pc' := 16) (by decide +kernel) rfl rfl) ?_
    refine XE.bite (fun h12 => ?_) (fun h13 => ?_)
    · refine XE.go (st_icmp_ge_f (off := 46) (pc' := 19) (by decide +kernel) 62 (by decide) rfl (Int.not_le.mpr h12)) ?_
      refine XE.go (st_aload_n (j := 3) (i := 3) (pc' := 20) (by decide +kernel) rfl rfl (by decide) rfl) ?_
      refine XE.go (st_iload (j := 5) (pc' := 22) (by decide +kernel) rfl rfl) ?_
      refine XE.gdb (fun g14 => ?_)
      refine XE.go (st_ald (k := 24) (tp := 12) (pc' := 23) (by decide +kernel) rfl ak_24 rfl (by decide) rfl (Or.inr (Or.inr (Or.inr ⟨rfl, rfl⟩))) g14.1 g14.2.1 g14.2.2) ?_
      refine XE.asc ?_
      refine XE.gen (fun v15 e16 => ?_)
      refine XE.go (st_astore (j := 6) (pc' := 25) (by decide +kernel)  (by decide) rfl (by decide) rfl rfl) ?_
      refine XE.go (st_aload (j := 6) (pc' := 27) (by decide +kernel) rfl (by decide) rfl) ?_
      refine XE.bite (fun h17 => ?_) (fun h18 => ?_)
      · refine XE.go (st_ifnull_t (off := 29) (pc' := 56) (by decide +kernel) (by decide) h17 (by decide)) ?_
        refine XE.go (st_iinc (j := 5) (n := 1) (pc' := 59) (by decide +kernel) rfl rfl (by decide) rfl rfl) ?_
        refine XE.go (st_goto (off := (-47)) (pc' := 12) (by decide +kernel) (by decide)) ?_
        exact XE.pick [2, 3, 4, 5, 6, 0] rfl (hc8 ((w (s6.1 + 1)), s6.2))
      · refine XE.go (st_ifnull_f (off := 29) (pc' := 30) (by decide +kernel) (by decide) h18 rfl) ?_
        refine XE.go (st_aload (j := 6) (pc' := 32) (by decide +kernel) rfl (by decide) rfl) ?_
        refine XE.go (st_get (pc' := 35) (by decide +kernel) rfl cls_8 fld_RX0_76 rfl rfl h18) ?_
        refine XE.go (st_aload_n (j := 1) (i := 1) (pc' := 36) (by decide +kernel) rfl rfl (by decide) rfl) ?_
        refine XE.bite (fun h19 => ?_) (fun h20 => ?_)
        · refine XE.go (st_acmp_ne_f (off := 20) (pc' := 39) (by decide +kernel) 56 (by decide) (by decide) (by decide) h19 rfl) ?_
          refine XE.go (st_aload (j := 6) (pc' := 41) (by decide +kernel) rfl (by decide) rfl) ?_
          refine XE.go (st_get (pc' := 44) (by decide +kernel) rfl cls_8 fld_RX0_80 rfl rfl h18) ?_
          refine XE.go (st_aload_n (j := 1) (i := 1) (pc' := 45) (by decide +kernel) rfl rfl (by decide) rfl) ?_
          refine XE.bite (fun h21 => ?_) (fun h22 => ?_)
          · refine XE.go (st_acmp_eq_t (off := 11) (pc' := 56) (by decide +kernel) (by decide) (by decide) h21 (by decide)) ?_
            refine XE.go (st_iinc (j := 5) (n := 1) (pc' := 59) (by decide +kernel) rfl rfl (by decide) rfl rfl) ?_
            refine XE.go (st_goto (off := (-47)) (pc' := 12) (by decide +kernel) (by decide)) ?_
            exact XE.pick [2, 3, 4, 5, 6, 0] rfl (hc8 ((w (s6.1 + 1)), s6.2))
          · refine XE.go (st_acmp_eq_f (off := 11) (pc' := 48) (by decide +kernel) 56 (by decide) (by decide) (by decide) h22 rfl) ?_
            refine XE.go (st_aload_n (j := 0) (i := 0) (pc' := 49) (by decide +kernel) rfl rfl (by decide) rfl) ?_
            refine XE.go (st_aload (j := 6) (pc' := 51) (by decide +kernel) rfl (by decide) rfl) ?_
            refine XE.go (st_aload_n (j := 1) (i := 1) (pc' := 52) (by decide +kernel) rfl rfl (by decide) rfl) ?_
            refine XE.go (st_iload_n (j := 2) (i := 2) (pc' := 53) (by decide +kernel) rfl rfl rfl) ?_
            refine XE.asc ?_
            refine XE.cV (pc' := 56) (st := []) (fun r hr => ct_X0_giveUp h0 r hr) (fun r hr => run_V (st := []) (by decide +kernel) co_X0_followTargets_93 (ct_X0_giveUp h0 r hr) rfl h0 rfl rfl (Nat.le_of_ble_eq_true rfl)) rfl rfl (fun M23 => ?_)
            refine XE.go (st_iinc (j := 5) (n := 1) (pc' := 59) (by decide +kernel) rfl rfl (by decide) rfl rfl) ?_
            refine XE.go (st_goto (off := (-47)) (pc' := 12) (by decide +kernel) (by decide)) ?_
            exact XE.pick [2, 3, 4, 5, 6, 0] rfl (hc8 ((w (s6.1 + 1)), M23))
        · refine XE.go (st_acmp_ne_t (off := 20) (pc' := 56) (by decide +kernel) (by decide) (by decide) h20 (by decide)) ?_
          refine XE.go (st_iinc (j := 5) (n := 1) (pc' := 59) (by decide +kernel) rfl rfl (by decide) rfl rfl) ?_
          refine XE.go (st_goto (off := (-47)) (pc' := 12) (by decide +kernel) (by decide)) ?_
          exact XE.pick [2, 3, 4, 5, 6, 0] rfl (hc8 ((w (s6.1 + 1)), s6.2))
    · refine XE.go (st_icmp_ge_t (off := 46) (pc' := 62) (by decide +kernel) (by decide) (Int.not_lt.mp h13)) ?_
      exact XE.pick [0, 1] rfl (he9 s6.2)
  · refine XE.go (st_aload_n (j := 0) (i := 0) (pc' := 63) (by decide +kernel) rfl rfl (by decide) rfl) ?_
    refine XE.go (st_get (pc' := 66) (by decide +kernel) rfl cls_0 fld_RX0_11 rfl rfl h0) ?_
    refine XE.gen (fun v24 e25 => ?_)
    refine XE.go (st_astore_n (j := 3) (i := 3) (pc' := 67) (by decide +kernel) rfl (by decide) rfl (by decide) rfl rfl) ?_
    refine XE.go (st_aload_n (j := 3) (i := 3) (pc' := 68) (by decide +kernel) rfl rfl (by decide) rfl) ?_
    refine XE.gd_ (fun g26 => ?_)
    refine XE.go (st_alen (k := 24) (pc' := 69) (by decide +kernel) rfl ak_24 rfl (by decide) g26) ?_
    refine XE.gen (fun v27 e28 => ?_)
    refine XE.go (st_istore (j := 4) (pc' := 71) (by decide +kernel)  rfl (by decide) rfl rfl) ?_
    refine XE.go (st_iconst (n := 0) (pc' := 72) (by decide +kernel) (w_eq (by decide) (by decide)) rfl) ?_
    refine XE.go (st_istore (j := 5) (pc' := 74) (by decide +kernel)  rfl (by decide) rfl rfl) ?_
    refine XE.pick [4, 2, 1, 0] (L' := [(1, (7, a1)), (3, (27, v24)), (4, (0, v27)), (5, (0, 0))]) rfl ?_
    refine XE.loopJ (n := 1000) (s0 := (0, t7)) (pcL := 74) (pcE := 142) (LL := fun (s29 : Int × Mm) => [(1, (7, a1)), (3, (27, v24)), (4, (0, v27)), (5, (0, s29.1))]) (sL := fun _ => []) (ML := fun (s29 : Int × Mm) => s29.2) (LE := fun (t30 : Mm) => []) (sE := fun _ => []) (ME := fun (t30 : Mm) => t30) (fun kk34 hc31 he32 s29 => ?_) (fun t30 => ?_)
    · unfold b_X0_followTargets_74
      refine XE.go (st_iload (j := 5) (pc' := 76) (by decide +kernel) rfl rfl) ?_
      refine XE.go (st_iload (j := 4) (pc' := 78) (by decide +kernel) rfl rfl) ?_
      refine XE.bite (fun h35 => ?_) (fun h36 => ?_)
      · refine XE.go (st_icmp_ge_f (off := 64) (pc' := 81) (by decide +kernel) 142 (by decide) rfl (Int.not_le.mpr h35)) ?_
        refine XE.go (st_aload_n (j := 3) (i := 3) (pc' := 82) (by decide +kernel) rfl rfl (by decide) rfl) ?_
        refine XE.go (st_iload (j := 5) (pc' := 84) (by decide +kernel) rfl rfl) ?_
        refine XE.gdb (fun g37 => ?_)
        refine XE.go (st_ald (k := 24) (tp := 12) (pc' := 85) (by decide +kernel) rfl ak_24 rfl (by decide) rfl (Or.inr (Or.inr (Or.inr ⟨rfl, rfl⟩))) g37.1 g37.2.1 g37.2.2) ?_
        refine XE.asc ?_
        refine XE.gen (fun v38 e39 => ?_)
        refine XE.go (st_astore (j := 6) (pc' := 87) (by decide +kernel)  (by decide) rfl (by decide) rfl rfl) ?_
        refine XE.go (st_aload (j := 6) (pc' := 89) (by decide +kernel) rfl (by decide) rfl) ?_
        refine XE.bite (fun h40 => ?_) (fun h41 => ?_)
        · refine XE.go (st_ifnull_t (off := 47) (pc' := 136) (by decide +kernel) (by decide) h40 (by decide)) ?_
          refine XE.go (st_iinc (j := 5) (n := 1) (pc' := 139) (by decide +kernel) rfl rfl (by decide) rfl rfl) ?_
          refine XE.go (st_goto (off := (-65)) (pc' := 74) (by decide +kernel) (by decide)) ?_
          exact XE.pick [2, 3, 4, 0] rfl (hc31 ((w (s29.1 + 1)), s29.2))
        · refine XE.go (st_ifnull_f (off := 47) (pc' := 92) (by decide +kernel) (by decide) h41 rfl) ?_
          refine XE.go (st_aload (j := 6) (pc' := 94) (by decide +kernel) rfl (by decide) rfl) ?_
          refine XE.go (st_get (pc' := 97) (by decide +kernel) rfl cls_8 fld_RX0_76 rfl rfl h41) ?_
          refine XE.bite (fun h42 => ?_) (fun h43 => ?_)
          · refine XE.go (st_ifnonnull_f (off := 39) (pc' := 100) (by decide +kernel) (by decide) h42 rfl) ?_
            refine XE.go (st_aload (j := 6) (pc' := 102) (by decide +kernel) rfl (by decide) rfl) ?_
            refine XE.go (st_get (pc' := 105) (by decide +kernel) rfl cls_8 fld_RX0_80 rfl rfl h41) ?_
            refine XE.go (st_aload_n (j := 1) (i := 1) (pc' := 106) (by decide +kernel) rfl rfl (by decide) rfl) ?_
            refine XE.bite (fun h44 => ?_) (fun h45 => ?_)
            · refine XE.go (st_acmp_ne_f (off := 30) (pc' := 109) (by decide +kernel) 136 (by decide) (by decide) (by decide) h44 rfl) ?_
              refine XE.go (st_aload (j := 6) (pc' := 111) (by decide +kernel) rfl (by decide) rfl) ?_
              refine XE.go (st_aload_n (j := 1) (i := 1) (pc' := 112) (by decide +kernel) rfl rfl (by decide) rfl) ?_
              refine XE.asc ?_
              refine XE.goM (st_put (pc' := 115) (by decide +kernel) rfl cls_8 fld_RX0_76 rfl rfl (fun h => absurd h (by decide)) (fun h => nomatch h) h41) (fun M46 => ?_)
              refine XE.go (st_aload (j := 6) (pc' := 117) (by decide +kernel) rfl (by decide) rfl) ?_
              refine XE.go (st_aload (j := 6) (pc' := 119) (by decide +kernel) rfl (by decide) rfl) ?_
              refine XE.go (st_get (pc' := 122) (by decide +kernel) rfl cls_8 fld_RX0_127 rfl rfl h41) ?_
              refine XE.go (st_aload (j := 6) (pc' := 124) (by decide +kernel) rfl (by decide) rfl) ?_
              refine XE.go (st_get (pc' := 127) (by decide +kernel) rfl cls_8 fld_RX0_130 rfl rfl h41) ?_
              refine XE.gdb (fun g47 => ?_)
              refine XE.go (st_get (pc' := 130) (by decide +kernel) rfl cls_5 fld_RX0_134 rfl rfl g47) ?_
              refine XE.asc ?_
              refine XE.cP (pc' := 133) (st := [(12, v38)]) (fun r hr => ct_J9_max_7cf53 r hr) (fun r hr => run_S (st := [(12, v38)]) (by decide +kernel) co_X0_followTargets_137 (ct_J9_max_7cf53 r hr) rfl rfl (Nat.le_of_ble_eq_true rfl)) rfl rfl (fun r48 => ?_)
              refine XE.asc ?_
              refine XE.goM (st_put (pc' := 136) (by decide +kernel) rfl cls_8 fld_RX0_143 rfl rfl (fun h => absurd h (by decide)) (fun h => nomatch h) h41) (fun M49 => ?_)
              refine XE.go (st_iinc (j := 5) (n := 1) (pc' := 139) (by decide +kernel) rfl rfl (by decide) rfl rfl) ?_
              refine XE.go (st_goto (off := (-65)) (pc' := 74) (by decide +kernel) (by decide)) ?_
              exact XE.pick [2, 3, 4, 0] rfl (hc31 ((w (s29.1 + 1)), M49))
            · refine XE.go (st_acmp_ne_t (off := 30) (pc' := 136) (by decide +kernel) (by decide) (by decide) h45 (by decide)) ?_
              refine XE.go (st_iinc (j := 5) (n := 1) (pc' := 139) (by decide +kernel) rfl rfl (by decide) rfl rfl) ?_
              refine XE.go (st_goto (off := (-65)) (pc' := 74) (by decide +kernel) (by decide)) ?_
              exact XE.pick [2, 3, 4, 0] rfl (hc31 ((w (s29.1 + 1)), s29.2))
          · refine XE.go (st_ifnonnull_t (off := 39) (pc' := 136) (by decide +kernel) (by decide) h43 (by decide)) ?_
            refine XE.go (st_iinc (j := 5) (n := 1) (pc' := 139) (by decide +kernel) rfl rfl (by decide) rfl rfl) ?_
            refine XE.go (st_goto (off := (-65)) (pc' := 74) (by decide +kernel) (by decide)) ?_
            exact XE.pick [2, 3, 4, 0] rfl (hc31 ((w (s29.1 + 1)), s29.2))
      · refine XE.go (st_icmp_ge_t (off := 64) (pc' := 142) (by decide +kernel) (by decide) (Int.not_lt.mp h36)) ?_
        exact XE.pick [] rfl (he32 s29.2)
    · exact XE.rt rfl (X_vret (by decide +kernel) rfl)
theorem ct_X0_followTargets {D : Dt} {M : Mm} {a0 a1 a2 : Int} (h0 : a0 ≠ 0) (r : Mm) (hr : p_X0_followTargets M a0 a1 a2 = some r) : CT D 0 mu_X0_followTargets [(4, a0), (7, a1), (0, a2)] M (.inl none) r := CT.of (by decide +kernel) rfl (Nat.le_of_ble_eq_true rfl) (xe_X0_followTargets h0 r hr)
def b_X0_ownedCount_14 (v4 : Int) (v1 : Int) (M : Mm) (a1 : Int) (s6 : Int × Int) : Option ((Int × Int) ⊕ (Int)) := if s6.2 < v4 then gd (aok v1 s6.2) ((some ((rd M v1 s6.2))).bind fun v15 => if v15 = 0 then some (.inl (s6.1, (w (s6.2 + 1)))) else if (rd M v15 1) = a1 then some (.inl ((w (s6.1 + 1)), (w (s6.2 + 1)))) else some (.inl (s6.1, (w (s6.2 + 1))))) else some (.inr s6.1)
def p_X0_ownedCount (M : Mm) (a0 a1 : Int) : Option Int := (some ((rd M a0 0))).bind fun v1 => gd (v1 ≠ 0) ((some ((ln v1))).bind fun v4 => (lp (b_X0_ownedCount_14 v4 v1 M a1) 1000 (0, 0)).bind fun (t7 : Int) => some (t7))
set_option maxRecDepth 100000 in
set_option maxHeartbeats 4000000 in
theorem xe_X0_ownedCount {D : Dt} {M : Mm} {a0 a1 : Int} (h0 : a0 ≠ 0) : XE D 0 mu_X0_ownedCount (EP 0 M) 0 [(0, (4, a0)), (1, (7, a1))] [] M (p_X0_ownedCount M a0 a1) := by
  unfold p_X0_ownedCount
  refine XE.go (st_iconst (n := 0) (pc' := 1) (by decide +kernel) (w_eq (by decide) (by decide)) rfl) ?_
  refine XE.go (st_istore_n (j := 2) (i := 2) (pc' := 2) (by decide +kernel) rfl rfl (by decide) rfl rfl) ?_
  refine XE.go (st_aload_n (j := 0) (i := 0) (pc' := 3) (by decide +kernel) rfl rfl (by decide) rfl) ?_
  refine XE.go (st_get (pc' := 6) (by decide +kernel) rfl cls_0 fld_RX0_11 rfl rfl h0) ?_
  refine XE.gen (fun v1 e2 => ?_)
  refine XE.go (st_astore_n (j := 3) (i := 3) (pc' := 7) (by decide +kernel) rfl (by decide) rfl (by decide) rfl rfl) ?_
  refine XE.go (st_aload_n (j := 3) (i := 3) (pc' := 8) (by decide +kernel) rfl rfl (by decide) rfl) ?_
  refine XE.gd_ (fun g3 => ?_)
  refine XE.go (st_alen (k := 24) (pc' := 9) (by decide +kernel) rfl ak_24 rfl (by decide) g3) ?_
  refine XE.gen (fun v4 e5 => ?_)
  refine XE.go (st_istore (j := 4) (pc' := 11) (by decide +kernel)  rfl (by decide) rfl rfl) ?_
  refine XE.go (st_iconst (n := 0) (pc' := 12) (by decide +kernel) (w_eq (by decide) (by decide)) rfl) ?_
  refine XE.go (st_istore (j := 5) (pc' := 14) (by decide +kernel)  rfl (by decide) rfl rfl) ?_
  refine XE.pick [5, 3, 2, 1, 0] (L' := [(1, (7, a1)), (2, (0, 0)), (3, (27, v1)), (4, (0, v4)), (5, (0, 0))]) rfl ?_
  refine XE.loopJ (n := 1000) (s0 := (0, 0)) (pcL := 14) (pcE := 50) (LL := fun (s6 : Int × Int) => [(1, (7, a1)), (2, (0, s6.1)), (3, (27, v1)), (4, (0, v4)), (5, (0, s6.2))]) (sL := fun _ => []) (ML := fun (s6 : Int × Int) => M) (LE := fun (t7 : Int) => [(2, (0, t7))]) (sE := fun _ => []) (ME := fun (t7 : Int) => M) (fun kk11 hc8 he9 s6 => ?_) (fun t7 => ?_)
  · unfold b_X0_ownedCount_14
    refine XE.go (st_iload (j := 5) (pc' := 16) (by decide +kernel) rfl rfl) ?_
    refine XE.go (st_iload (j := 4) (pc' := 18) (by decide +kernel) rfl rfl) ?_
    refine XE.bite (fun h12 => ?_) (fun h13 => ?_)
    · refine XE.go (st_icmp_ge_f (off := 32) (pc' := 21) (by decide +kernel) 50 (by decide) rfl (Int.not_le.mpr h12)) ?_
      refine XE.go (st_aload_n (j := 3) (i := 3) (pc' := 22) (by decide +kernel) rfl rfl (by decide) rfl) ?_
      refine XE.go (st_iload (j := 5) (pc' := 24) (by decide +kernel) rfl rfl) ?_
      refine XE.gdb (fun g14 => ?_)
      refine XE.go (st_ald (k := 24) (tp := 12) (pc' := 25) (by decide +kernel) rfl ak_24 rfl (by decide) rfl (Or.inr (Or.inr (Or.inr ⟨rfl, rfl⟩))) g14.1 g14.2.1 g14.2.2) ?_
      refine XE.asc ?_
      refine XE.gen (fun v15 e16 => ?_)
      refine XE.go (st_astore (j := 6) (pc' := 27) (by decide +kernel)  (by decide) rfl (by decide) rfl rfl) ?_
      refine XE.go (st_aload (j := 6) (pc' := 29) (by decide +kernel) rfl (by decide) rfl) ?_
      refine XE.bite (fun h17 => ?_) (fun h18 => ?_)
      · refine XE.go (st_ifnull_t (off := 15) (pc' := 44) (by decide +kernel) (by decide) h17 (by decide)) ?_
        refine XE.go (st_iinc (j := 5) (n := 1) (pc' := 47) (by decide +kernel) rfl rfl (by decide) rfl rfl) ?_
        refine XE.go (st_goto (off := (-33)) (pc' := 14) (by decide +kernel) (by decide)) ?_
        exact XE.pick [2, 3, 4, 5, 0] rfl (hc8 (s6.1, (w (s6.2 + 1))))
      · refine XE.go (st_ifnull_f (off := 15) (pc' := 32) (by decide +kernel) (by decide) h18 rfl) ?_
        refine XE.go (st_aload (j := 6) (pc' := 34) (by decide +kernel) rfl (by decide) rfl) ?_
        refine XE.go (st_get (pc' := 37) (by decide +kernel) rfl cls_8 fld_RX0_76 rfl rfl h18) ?_
        refine XE.go (st_aload_n (j := 1) (i := 1) (pc' := 38) (by decide +kernel) rfl rfl (by decide) rfl) ?_
        refine XE.bite (fun h19 => ?_) (fun h20 => ?_)
        · refine XE.go (st_acmp_ne_f (off := 6) (pc' := 41) (by decide +kernel) 44 (by decide) (by decide) (by decide) h19 rfl) ?_
          refine XE.go (st_iinc (j := 2) (n := 1) (pc' := 44) (by decide +kernel) rfl rfl (by decide) rfl rfl) ?_
          refine XE.go (st_iinc (j := 5) (n := 1) (pc' := 47) (by decide +kernel) rfl rfl (by decide) rfl rfl) ?_
          refine XE.go (st_goto (off := (-33)) (pc' := 14) (by decide +kernel) (by decide)) ?_
          exact XE.pick [3, 1, 4, 5, 0] rfl (hc8 ((w (s6.1 + 1)), (w (s6.2 + 1))))
        · refine XE.go (st_acmp_ne_t (off := 6) (pc' := 44) (by decide +kernel) (by decide) (by decide) h20 (by decide)) ?_
          refine XE.go (st_iinc (j := 5) (n := 1) (pc' := 47) (by decide +kernel) rfl rfl (by decide) rfl rfl) ?_
          refine XE.go (st_goto (off := (-33)) (pc' := 14) (by decide +kernel) (by decide)) ?_
          exact XE.pick [2, 3, 4, 5, 0] rfl (hc8 (s6.1, (w (s6.2 + 1))))
    · refine XE.go (st_icmp_ge_t (off := 32) (pc' := 50) (by decide +kernel) (by decide) (Int.not_lt.mp h13)) ?_
      exact XE.pick [1] rfl (he9 s6.1)
  · refine XE.go (st_iload_n (j := 2) (i := 2) (pc' := 51) (by decide +kernel) rfl rfl rfl) ?_
    exact XE.rt rfl (X_iret (by decide +kernel) rfl)
theorem ct_X0_ownedCount {D : Dt} {M : Mm} {a0 a1 : Int} (h0 : a0 ≠ 0) (r : Int) (hr : p_X0_ownedCount M a0 a1 = some r) : CT D 0 mu_X0_ownedCount [(4, a0), (7, a1)] M (.inl (some (0, r))) M := CT.of (by decide +kernel) rfl (Nat.le_of_ble_eq_true rfl) (xe_X0_ownedCount h0 r hr)
def p_X10_beat (M : Mm) (a0 a1 a2 : Int) : Option (Int × Int × Mm) := (p_X10_groupOf M a0 a1).bind (thT psT fun v1 M2 => (p_X10_memberOf M2 v1 a2).bind (thT psT fun v3 M4 => gd (v3 ≠ 0) ((some (wr M4 v3 2 (rd M4 a0 15))).bind fun M6 => gd (v1 ≠ 0) ((p_X0_followTargets M6 v1 v3 (rd M6 a0 15)).bind fun M8 => (p_X0_ownedCount M8 v1 v3).bind fun r9 => some (0, r9, M8)))))
set_option maxRecDepth 100000 in
set_option maxHeartbeats 4000000 in
theorem xe_X10_beat {D : Dt} {M : Mm} {a0 a1 a2 : Int} (h0 : a0 ≠ 0) : XE D 0 mu_X10_beat (ET 0) 0 [(0, (14, a0)), (1, (0, a1)), (2, (0, a2))] [] M (p_X10_beat M a0 a1 a2) := by
  unfold p_X10_beat
  refine XE.go (st_aload_n (j := 0) (i := 0) (pc' := 1) (by decide +kernel) rfl rfl (by decide) rfl) ?_
  refine XE.go (st_iload_n (j := 1) (i := 1) (pc' := 2) (by decide +kernel) rfl rfl rfl) ?_
  refine XE.cTg (pc' := 5) (st := []) hfT (fun r hr => ct_X10_groupOf h0 r hr) (fun r hr => run_V (st := []) (by decide +kernel) co_X10_beat_334 (ct_X10_groupOf h0 r hr) rfl h0 rfl rfl (Nat.le_of_ble_eq_true rfl)) rfl rfl rfl (fun v1 M2 => ?_)
  refine XE.go (st_astore_n (j := 3) (i := 3) (pc' := 6) (by decide +kernel) rfl (by decide) rfl (by decide) rfl rfl) ?_
  refine XE.go (st_aload_n (j := 3) (i := 3) (pc' := 7) (by decide +kernel) rfl rfl (by decide) rfl) ?_
  refine XE.go (st_iload_n (j := 2) (i := 2) (pc' := 8) (by decide +kernel) rfl rfl rfl) ?_
  refine XE.cTg (pc' := 11) (st := []) hfT (fun r hr => ct_X10_memberOf r hr) (fun r hr => run_S (st := []) (by decide +kernel) co_X10_beat_338 (ct_X10_memberOf r hr) rfl rfl (Nat.le_of_ble_eq_true rfl)) rfl rfl rfl (fun v3 M4 => ?_)
  refine XE.go (st_astore (j := 4) (pc' := 13) (by decide +kernel)  (by decide) rfl (by decide) rfl rfl) ?_
  refine XE.go (st_aload (j := 4) (pc' := 15) (by decide +kernel) rfl (by decide) rfl) ?_
  refine XE.go (st_aload_n (j := 0) (i := 0) (pc' := 16) (by decide +kernel) rfl rfl (by decide) rfl) ?_
  refine XE.go (st_get (pc' := 19) (by decide +kernel) rfl cls_10 fld_RX10_70 rfl rfl h0) ?_
  refine XE.gd_ (fun g5 => ?_)
  refine XE.goM (st_put (pc' := 22) (by decide +kernel) rfl cls_3 fld_RX10_395 rfl rfl (fun h => absurd h (by decide)) (fun h => nomatch h) g5) (fun M6 => ?_)
  refine XE.go (st_aload_n (j := 3) (i := 3) (pc' := 23) (by decide +kernel) rfl rfl (by decide) rfl) ?_
  refine XE.go (st_aload (j := 4) (pc' := 25) (by decide +kernel) rfl (by decide) rfl) ?_
  refine XE.go (st_aload_n (j := 0) (i := 0) (pc' := 26) (by decide +kernel) rfl rfl (by decide) rfl) ?_
  refine XE.go (st_get (pc' := 29) (by decide +kernel) rfl cls_10 fld_RX10_70 rfl rfl h0) ?_
  refine XE.gd_ (fun g7 => ?_)
  refine XE.cV (pc' := 32) (st := []) (fun r hr => ct_X0_followTargets g7 r hr) (fun r hr => run_V (st := []) (by decide +kernel) co_X10_beat_400 (ct_X0_followTargets g7 r hr) rfl g7 rfl rfl (Nat.le_of_ble_eq_true rfl)) rfl rfl (fun M8 => ?_)
  refine XE.go (st_aload_n (j := 3) (i := 3) (pc' := 33) (by decide +kernel) rfl rfl (by decide) rfl) ?_
  refine XE.go (st_aload (j := 4) (pc' := 35) (by decide +kernel) rfl (by decide) rfl) ?_
  refine XE.cP (pc' := 38) (st := []) (fun r hr => ct_X0_ownedCount g7 r hr) (fun r hr => run_V (st := []) (by decide +kernel) co_X10_beat_404 (ct_X0_ownedCount g7 r hr) rfl g7 rfl rfl (Nat.le_of_ble_eq_true rfl)) rfl rfl (fun r9 => ?_)
  exact XE.rt rfl (X_iret (by decide +kernel) rfl)
theorem ct_X10_beat {D : Dt} {M : Mm} {a0 a1 a2 : Int} (h0 : a0 ≠ 0) (r : (Int × Int × Mm)) (hr : p_X10_beat M a0 a1 a2 = some r) : CT D 0 mu_X10_beat [(14, a0), (0, a1), (0, a2)] M (ET 0 r).1 (ET 0 r).2 := CT.of (by decide +kernel) rfl (Nat.le_of_ble_eq_true rfl) (xe_X10_beat h0 r hr)
def p_X1_isOfRow (M : Mm) (a0 a1 : Int) : Option Int := gd ((rd M a0 0) ≠ 0) (gd (a1 ≠ 0) (if (rd M (rd M a0 0) 2) = (rd M a1 2) then if (rd M (rd M a0 0) 3) = (rd M a1 3) then some (1) else some (0) else some (0)))
set_option maxRecDepth 100000 in
set_option maxHeartbeats 4000000 in
theorem xe_X1_isOfRow {D : Dt} {M : Mm} {a0 a1 : Int} (h0 : a0 ≠ 0) : XE D 0 mu_X1_isOfRow (EP 0 M) 0 [(0, (5, a0)), (1, (8, a1))] [] M (p_X1_isOfRow M a0 a1) := by
  unfold p_X1_isOfRow
  refine XE.go (st_aload_n (j := 0) (i := 0) (pc' := 1) (by decide +kernel) rfl rfl (by decide) rfl) ?_
  refine XE.go (st_get (pc' := 4) (by decide +kernel) rfl cls_1 fld_RX1_31 rfl rfl h0) ?_
  refine XE.gd_ (fun g1 => ?_)
  refine XE.go (st_get (pc' := 7) (by decide +kernel) rfl cls_4 fld_RX1_35 rfl rfl g1) ?_
  refine XE.go (st_aload_n (j := 1) (i := 1) (pc' := 8) (by decide +kernel) rfl rfl (by decide) rfl) ?_
  refine XE.gd_ (fun g2 => ?_)
  refine XE.go (st_get (pc' := 11) (by decide +kernel) rfl cls_4 fld_RX1_35 rfl rfl g2) ?_
  refine XE.ite (fun h3 => ?_) (fun h4 => ?_)
  · refine XE.go (st_acmp_ne_f (off := 21) (pc' := 14) (by decide +kernel) 32 (by decide) (by decide) (by decide) h3 rfl) ?_
    refine XE.go (st_aload_n (j := 0) (i := 0) (pc' := 15) (by decide +kernel) rfl rfl (by decide) rfl) ?_
    refine XE.go (st_get (pc' := 18) (by decide +kernel) rfl cls_1 fld_RX1_31 rfl rfl h0) ?_
    refine XE.go (st_get (pc' := 21) (by decide +kernel) rfl cls_4 fld_RX1_41 rfl rfl g1) ?_
    refine XE.go (st_aload_n (j := 1) (i := 1) (pc' := 22) (by decide +kernel) rfl rfl (by decide) rfl) ?_
    refine XE.go (st_get (pc' := 25) (by decide +kernel) rfl cls_4 fld_RX1_41 rfl rfl g2) ?_
    refine XE.ite (fun h5 => ?_) (fun h6 => ?_)
    · refine XE.go (st_icmp_ne_f (off := 7) (pc' := 28) (by decide +kernel) 32 (by decide) rfl (not_not_intro h5)) ?_
      refine XE.go (st_iconst (n := 1) (pc' := 29) (by decide +kernel) (w_eq (by decide) (by decide)) rfl) ?_
      refine XE.go (st_goto (off := 4) (pc' := 33) (by decide +kernel) (by decide)) ?_
      exact XE.rt rfl (X_zret (by decide +kernel) rfl (by decide))
    · refine XE.go (st_icmp_ne_t (off := 7) (pc' := 32) (by decide +kernel) (by decide) h6) ?_
      refine XE.go (st_iconst (n := 0) (pc' := 33) (by decide +kernel) (w_eq (by decide) (by decide)) rfl) ?_
      exact XE.rt rfl (X_zret (by decide +kernel) rfl (by decide))
  · refine XE.go (st_acmp_ne_t (off := 21) (pc' := 32) (by decide +kernel) (by decide) (by decide) h4 (by decide)) ?_
    refine XE.go (st_iconst (n := 0) (pc' := 33) (by decide +kernel) (w_eq (by decide) (by decide)) rfl) ?_
    exact XE.rt rfl (X_zret (by decide +kernel) rfl (by decide))
theorem ct_X1_isOfRow {D : Dt} {M : Mm} {a0 a1 : Int} (h0 : a0 ≠ 0) (r : Int) (hr : p_X1_isOfRow M a0 a1 = some r) : CT D 0 mu_X1_isOfRow [(5, a0), (8, a1)] M (.inl (some (0, r))) M := CT.of (by decide +kernel) rfl (Nat.le_of_ble_eq_true rfl) (xe_X1_isOfRow h0 r hr)
def b_X2_hasNoneOfRow_2 (M : Mm) (a0 : Int) (a1 : Int) (a2 : Int) (s1 : Int) : Option ((Int) ⊕ ((Int) ⊕ (Unit))) := if s1 < (rd M a0 1) then (p_X2_get M a0 s1).bind fun r24 => if r24 = 0 then some (.inl (w (s1 + 1))) else (p_X1_isOfRow M r24 a1).bind fun r27 => if r27 = 0 then some (.inl (w (s1 + 1))) else gd ((rd M r24 0) ≠ 0) (if (rd M (rd M r24 0) 9) < a2 then some (.inr (.inl (0))) else some (.inl (w (s1 + 1)))) else some (.inr (.inr ()))
def p_X2_hasNoneOfRow (M : Mm) (a0 a1 a2 : Int) : Option Int := (lp (b_X2_hasNoneOfRow_2 M a0 a1 a2) 1000 0).bind (Sum.elim some fun (t2 : Unit) => some (1))
set_option maxRecDepth 100000 in
set_option maxHeartbeats 4000000 in
theorem xe_X2_hasNoneOfRow {D : Dt} {M : Mm} {a0 a1 a2 : Int} (h0 : a0 ≠ 0) : XE D 0 mu_X2_hasNoneOfRow (EP 0 M) 0 [(0, (6, a0)), (1, (8, a1)), (2, (0, a2))] [] M (p_X2_hasNoneOfRow M a0 a1 a2) := by
  unfold p_X2_hasNoneOfRow
  refine XE.go (st_iconst (n := 0) (pc' := 1) (by decide +kernel) (w_eq (by decide) (by decide)) rfl) ?_
  refine XE.go (st_istore_n (j := 3) (i := 3) (pc' := 2) (by decide +kernel) rfl rfl (by decide) rfl rfl) ?_
  refine XE.pick [1, 2, 3, 0] (L' := [(0, (6, a0)), (1, (8, a1)), (2, (0, a2)), (3, (0, 0))]) rfl ?_
  refine XE.loopX (n := 1000) (s0 := 0) (pcL := 2) (pcE := 51) (LL := fun (s1 : Int) => [(0, (6, a0)), (1, (8, a1)), (2, (0, a2)), (3, (0, s1))]) (sL := fun _ => []) (ML := fun (s1 : Int) => M) (LE := fun (t2 : Unit) => []) (sE := fun _ => []) (ME := fun (t2 : Unit) => M) (fun kk21 hx20 hc18 he19 s1 => ?_) (fun t2 => ?_)
  · unfold b_X2_hasNoneOfRow_2
    refine XE.go (st_iload_n (j := 3) (i := 3) (pc' := 3) (by decide +kernel) rfl rfl rfl) ?_
    refine XE.go (st_aload_n (j := 0) (i := 0) (pc' := 4) (by decide +kernel) rfl rfl (by decide) rfl) ?_
    refine XE.go (st_get (pc' := 7) (by decide +kernel) rfl cls_2 fld_RX2_7 rfl rfl h0) ?_
    refine XE.bite (fun h22 => ?_) (fun h23 => ?_)
    · refine XE.go (st_icmp_ge_f (off := 44) (pc' := 10) (by decide +kernel) 51 (by decide) rfl (Int.not_le.mpr h22)) ?_
      refine XE.go (st_aload_n (j := 0) (i := 0) (pc' := 11) (by decide +kernel) rfl rfl (by decide) rfl) ?_
      refine XE.go (st_iload_n (j := 3) (i := 3) (pc' := 12) (by decide +kernel) rfl rfl rfl) ?_
      refine XE.asc ?_
      refine XE.cP (pc' := 15) (st := []) (fun r hr => ct_X2_get h0 r hr) (fun r hr => run_V (st := []) (by decide +kernel) co_X2_hasNoneOfRow_19 (ct_X2_get h0 r hr) rfl h0 rfl rfl (Nat.le_of_ble_eq_true rfl)) rfl rfl (fun r24 => ?_)
      refine XE.go (st_astore (j := 4) (pc' := 17) (by decide +kernel)  (by decide) rfl (by decide) rfl rfl) ?_
      refine XE.go (st_aload (j := 4) (pc' := 19) (by decide +kernel) rfl (by decide) rfl) ?_
      refine XE.bite (fun h25 => ?_) (fun h26 => ?_)
      · refine XE.go (st_ifnull_t (off := 26) (pc' := 45) (by decide +kernel) (by decide) h25 (by decide)) ?_
        refine XE.go (st_iinc (j := 3) (n := 1) (pc' := 48) (by decide +kernel) rfl rfl (by decide) rfl rfl) ?_
        refine XE.go (st_goto (off := (-46)) (pc' := 2) (by decide +kernel) (by decide)) ?_
        exact XE.pick [2, 3, 4, 0] rfl (hc18 (w (s1 + 1)))
      · refine XE.go (st_ifnull_f (off := 26) (pc' := 22) (by decide +kernel) (by decide) h26 rfl) ?_
        refine XE.go (st_aload (j := 4) (pc' := 24) (by decide +kernel) rfl (by decide) rfl) ?_
        refine XE.go (st_aload_n (j := 1) (i := 1) (pc' := 25) (by decide +kernel) rfl rfl (by decide) rfl) ?_
        refine XE.asc ?_
        refine XE.cP (pc' := 28) (st := []) (fun r hr => ct_X1_isOfRow h26 r hr) (fun r hr => run_V (st := []) (by decide +kernel) co_X2_hasNoneOfRow_40 (ct_X1_isOfRow h26 r hr) rfl h26 rfl rfl (Nat.le_of_ble_eq_true rfl)) rfl rfl (fun r27 => ?_)
        refine XE.bite (fun h28 => ?_) (fun h29 => ?_)
        · refine XE.go (st_if_eq_t (off := 17) (pc' := 45) (by decide +kernel) (by decide) h28) ?_
          refine XE.go (st_iinc (j := 3) (n := 1) (pc' := 48) (by decide +kernel) rfl rfl (by decide) rfl rfl) ?_
          refine XE.go (st_goto (off := (-46)) (pc' := 2) (by decide +kernel) (by decide)) ?_
          exact XE.pick [2, 3, 4, 0] rfl (hc18 (w (s1 + 1)))
        · refine XE.go (st_if_eq_f (off := 17) (pc' := 31) (by decide +kernel) 45 (by decide) rfl h29) ?_
          refine XE.go (st_aload (j := 4) (pc' := 33) (by decide +kernel) rfl (by decide) rfl) ?_
          refine XE.go (st_get (pc' := 36) (by decide +kernel) rfl cls_1 fld_RX2_23 rfl rfl h26) ?_
          refine XE.gdb (fun g30 => ?_)
          refine XE.go (st_get (pc' := 39) (by decide +kernel) rfl cls_4 fld_RX2_44 rfl rfl g30) ?_
          refine XE.go (st_iload_n (j := 2) (i := 2) (pc' := 40) (by decide +kernel) rfl rfl rfl) ?_
          refine XE.bite (fun h31 => ?_) (fun h32 => ?_)
          · refine XE.go (st_icmp_ge_f (off := 5) (pc' := 43) (by decide +kernel) 45 (by decide) rfl (Int.not_le.mpr h31)) ?_
            refine XE.go (st_iconst (n := 0) (pc' := 44) (by decide +kernel) (w_eq (by decide) (by decide)) rfl) ?_
            refine XE.cast (hx20 _) ?_
            exact XE.rt rfl (X_zret (by decide +kernel) rfl (by decide))
          · refine XE.go (st_icmp_ge_t (off := 5) (pc' := 45) (by decide +kernel) (by decide) (Int.not_lt.mp h32)) ?_
            refine XE.go (st_iinc (j := 3) (n := 1) (pc' := 48) (by decide +kernel) rfl rfl (by decide) rfl rfl) ?_
            refine XE.go (st_goto (off := (-46)) (pc' := 2) (by decide +kernel) (by decide)) ?_
            exact XE.pick [2, 3, 4, 0] rfl (hc18 (w (s1 + 1)))
    · refine XE.go (st_icmp_ge_t (off := 44) (pc' := 51) (by decide +kernel) (by decide) (Int.not_lt.mp h23)) ?_
      exact XE.pick [] rfl (he19 ())
  · refine XE.go (st_iconst (n := 1) (pc' := 52) (by decide +kernel) (w_eq (by decide) (by decide)) rfl) ?_
    exact XE.rt rfl (X_zret (by decide +kernel) rfl (by decide))
theorem ct_X2_hasNoneOfRow {D : Dt} {M : Mm} {a0 a1 a2 : Int} (h0 : a0 ≠ 0) (r : Int) (hr : p_X2_hasNoneOfRow M a0 a1 a2 = some r) : CT D 0 mu_X2_hasNoneOfRow [(6, a0), (8, a1), (0, a2)] M (.inl (some (0, r))) M := CT.of (by decide +kernel) rfl (Nat.le_of_ble_eq_true rfl) (xe_X2_hasNoneOfRow h0 r hr)
def b_X0_firstDue_2 (M : Mm) (a0 : Int) (a2 : Int) (a1 : Int) (s1 : Int) : Option ((Int) ⊕ ((Int) ⊕ (Unit))) := gd ((rd M a0 3) ≠ 0) (if s1 < (rd M (rd M a0 3) 1) then (p_X2_get M (rd M a0 3) s1).bind fun r32 => if r32 = 0 then some (.inr (.inl (0))) else if a2 < (rd M r32 2) then some (.inr (.inl (0))) else gd ((rd M r32 0) ≠ 0) (gd ((rd M (rd M r32 0) 2) ≠ 0) ((p_X0_shareAt M a0 (rd M (rd M (rd M r32 0) 2) 0)).bind fun r39 => if r39 = 0 then some (.inl (w (s1 + 1))) else if (rd M r39 1) = a1 then (p_X2_hasNoneOfRow M (rd M a0 3) (rd M r32 0) (rd M (rd M r32 0) 9)).bind fun r44 => if r44 = 0 then some (.inl (w (s1 + 1))) else some (.inr (.inl (r32))) else some (.inl (w (s1 + 1))))) else some (.inr (.inr ())))
def p_X0_firstDue (M : Mm) (a0 a1 a2 : Int) : Option Int := (lp (b_X0_firstDue_2 M a0 a2 a1) 1000 0).bind (Sum.elim some fun (t2 : Unit) => some (0))
set_option maxRecDepth 100000 in
set_option maxHeartbeats 4000000 in
theorem xe_X0_firstDue {D : Dt} {M : Mm} {a0 a1 a2 : Int} (h0 : a0 ≠ 0) : XE D 0 mu_X0_firstDue (EP 5 M) 0 [(0, (4, a0)), (1, (7, a1)), (2, (0, a2))] [] M (p_X0_firstDue M a0 a1 a2) := by
  unfold p_X0_firstDue
  refine XE.go (st_iconst (n := 0) (pc' := 1) (by decide +kernel) (w_eq (by decide) (by decide)) rfl) ?_
  refine XE.go (st_istore_n (j := 3) (i := 3) (pc' := 2) (by decide +kernel) rfl rfl (by decide) rfl rfl) ?_
  refine XE.pick [1, 2, 3, 0] (L' := [(0, (4, a0)), (1, (7, a1)), (2, (0, a2)), (3, (0, 0))]) rfl ?_
  refine XE.loopX (n := 1000) (s0 := 0) (pcL := 2) (pcE := 102) (LL := fun (s1 : Int) => [(0, (4, a0)), (1, (7, a1)), (2, (0, a2)), (3, (0, s1))]) (sL := fun _ => []) (ML := fun (s1 : Int) => M) (LE := fun (t2 : Unit) => []) (sE := fun _ => []) (ME := fun (t2 : Unit) => M) (fun kk28 hx27 hc25 he26 s1 => ?_) (fun t2 => ?_)
  · unfold b_X0_firstDue_2
    refine XE.go (st_iload_n (j := 3) (i := 3) (pc' := 3) (by decide +kernel) rfl rfl rfl) ?_
    refine XE.go (st_aload_n (j := 0) (i := 0) (pc' := 4) (by decide +kernel) rfl rfl (by decide) rfl) ?_
    refine XE.go (st_get (pc' := 7) (by decide +kernel) rfl cls_0 fld_RX0_34 rfl rfl h0) ?_
    refine XE.gdb (fun g29 => ?_)
    refine XE.go (st_get (pc' := 10) (by decide +kernel) rfl cls_2 fld_RX0_149 rfl rfl g29) ?_
    refine XE.bite (fun h30 => ?_) (fun h31 => ?_)
    · refine XE.go (st_icmp_ge_f (off := 92) (pc' := 13) (by decide +kernel) 102 (by decide) rfl (Int.not_le.mpr h30)) ?_
      refine XE.go (st_aload_n (j := 0) (i := 0) (pc' := 14) (by decide +kernel) rfl rfl (by decide) rfl) ?_
      refine XE.go (st_get (pc' := 17) (by decide +kernel) rfl cls_0 fld_RX0_34 rfl rfl h0) ?_
      refine XE.go (st_iload_n (j := 3) (i := 3) (pc' := 18) (by decide +kernel) rfl rfl rfl) ?_
      refine XE.asc ?_
      refine XE.cP (pc' := 21) (st := []) (fun r hr => ct_X2_get g29 r hr) (fun r hr => run_V (st := []) (by decide +kernel) co_X0_firstDue_152 (ct_X2_get g29 r hr) rfl g29 rfl rfl (Nat.le_of_ble_eq_true rfl)) rfl rfl (fun r32 => ?_)
      refine XE.go (st_astore (j := 4) (pc' := 23) (by decide +kernel)  (by decide) rfl (by decide) rfl rfl) ?_
      refine XE.go (st_aload (j := 4) (pc' := 25) (by decide +kernel) rfl (by decide) rfl) ?_
      refine XE.bite (fun h33 => ?_) (fun h34 => ?_)
      · refine XE.go (st_ifnull_t (off := 12) (pc' := 37) (by decide +kernel) (by decide) h33 (by decide)) ?_
        refine XE.go (st_null (t := 5) (pc' := 38) (by decide +kernel) (by decide) rfl) ?_
        refine XE.cast (hx27 _) ?_
        exact XE.rt rfl (X_aret (by decide +kernel) rfl (Or.inl ⟨_, rfl⟩) (by decide))
      · refine XE.go (st_ifnull_f (off := 12) (pc' := 28) (by decide +kernel) (by decide) h34 rfl) ?_
        refine XE.go (st_aload (j := 4) (pc' := 30) (by decide +kernel) rfl (by decide) rfl) ?_
        refine XE.go (st_get (pc' := 33) (by decide +kernel) rfl cls_1 fld_RX0_176 rfl rfl h34) ?_
        refine XE.go (st_iload_n (j := 2) (i := 2) (pc' := 34) (by decide +kernel) rfl rfl rfl) ?_
        refine XE.bite (fun h35 => ?_) (fun h36 => ?_)
        · refine XE.go (st_icmp_le_f (off := 5) (pc' := 37) (by decide +kernel) 39 (by decide) rfl (Int.not_le.mpr h35)) ?_
          refine XE.go (st_null (t := 5) (pc' := 38) (by decide +kernel) (by decide) rfl) ?_
          refine XE.cast (hx27 _) ?_
          exact XE.rt rfl (X_aret (by decide +kernel) rfl (Or.inl ⟨_, rfl⟩) (by decide))
        · refine XE.go (st_icmp_le_t (off := 5) (pc' := 39) (by decide +kernel) (by decide) (Int.not_lt.mp h36)) ?_
          refine XE.go (st_aload_n (j := 0) (i := 0) (pc' := 40) (by decide +kernel) rfl rfl (by decide) rfl) ?_
          refine XE.go (st_aload (j := 4) (pc' := 42) (by decide +kernel) rfl (by decide) rfl) ?_
          refine XE.go (st_get (pc' := 45) (by decide +kernel) rfl cls_1 fld_RX0_156 rfl rfl h34) ?_
          refine XE.gdb (fun g37 => ?_)
          refine XE.go (st_get (pc' := 48) (by decide +kernel) rfl cls_4 fld_RX0_160 rfl rfl g37) ?_
          refine XE.gdb (fun g38 => ?_)
          refine XE.go (st_get (pc' := 51) (by decide +kernel) rfl cls_5 fld_RX0_57 rfl rfl g38) ?_
          refine XE.asc ?_
          refine XE.cP (pc' := 54) (st := []) (fun r hr => ct_X0_shareAt h0 r hr) (fun r hr => run_V (st := []) (by decide +kernel) co_X0_firstDue_196 (ct_X0_shareAt h0 r hr) rfl h0 rfl rfl (Nat.le_of_ble_eq_true rfl)) rfl rfl (fun r39 => ?_)
          refine XE.go (st_astore (j := 5) (pc' := 56) (by decide +kernel)  (by decide) rfl (by decide) rfl rfl) ?_
          refine XE.go (st_aload (j := 5) (pc' := 58) (by decide +kernel) rfl (by decide) rfl) ?_
          refine XE.bite (fun h40 => ?_) (fun h41 => ?_)
          · refine XE.go (st_ifnull_t (off := 38) (pc' := 96) (by decide +kernel) (by decide) h40 (by decide)) ?_
            refine XE.go (st_iinc (j := 3) (n := 1) (pc' := 99) (by decide +kernel) rfl rfl (by decide) rfl rfl) ?_
            refine XE.go (st_goto (off := (-97)) (pc' := 2) (by decide +kernel) (by decide)) ?_
            exact XE.pick [3, 4, 5, 0] rfl (hc25 (w (s1 + 1)))
          · refine XE.go (st_ifnull_f (off := 38) (pc' := 61) (by decide +kernel) (by decide) h41 rfl) ?_
            refine XE.go (st_aload (j := 5) (pc' := 63) (by decide +kernel) rfl (by decide) rfl) ?_
            refine XE.go (st_get (pc' := 66) (by decide +kernel) rfl cls_8 fld_RX0_76 rfl rfl h41) ?_
            refine XE.go (st_aload_n (j := 1) (i := 1) (pc' := 67) (by decide +kernel) rfl rfl (by decide) rfl) ?_
            refine XE.bite (fun h42 => ?_) (fun h43 => ?_)
            · refine XE.go (st_acmp_ne_f (off := 29) (pc' := 70) (by decide +kernel) 96 (by decide) (by decide) (by decide) h42 rfl) ?_
              refine XE.go (st_aload_n (j := 0) (i := 0) (pc' := 71) (by decide +kernel) rfl rfl (by decide) rfl) ?_
              refine XE.go (st_get (pc' := 74) (by decide +kernel) rfl cls_0 fld_RX0_34 rfl rfl h0) ?_
              refine XE.go (st_aload (j := 4) (pc' := 76) (by decide +kernel) rfl (by decide) rfl) ?_
              refine XE.go (st_get (pc' := 79) (by decide +kernel) rfl cls_1 fld_RX0_156 rfl rfl h34) ?_
              refine XE.go (st_aload (j := 4) (pc' := 81) (by decide +kernel) rfl (by decide) rfl) ?_
              refine XE.go (st_get (pc' := 84) (by decide +kernel) rfl cls_1 fld_RX0_156 rfl rfl h34) ?_
              refine XE.go (st_get (pc' := 87) (by decide +kernel) rfl cls_4 fld_RX0_208 rfl rfl g37) ?_
              refine XE.asc ?_
              refine XE.cP (pc' := 90) (st := []) (fun r hr => ct_X2_hasNoneOfRow g29 r hr) (fun r hr => run_V (st := []) (by decide +kernel) co_X0_firstDue_211 (ct_X2_hasNoneOfRow g29 r hr) rfl g29 rfl rfl (Nat.le_of_ble_eq_true rfl)) rfl rfl (fun r44 => ?_)
              refine XE.bite (fun h45 => ?_) (fun h46 => ?_)
              · refine XE.go (st_if_eq_t (off := 6) (pc' := 96) (by decide +kernel) (by decide) h45) ?_
                refine XE.go (st_iinc (j := 3) (n := 1) (pc' := 99) (by decide +kernel) rfl rfl (by decide) rfl rfl) ?_
                refine XE.go (st_goto (off := (-97)) (pc' := 2) (by decide +kernel) (by decide)) ?_
                exact XE.pick [3, 4, 5, 0] rfl (hc25 (w (s1 + 1)))
              · refine XE.go (st_if_eq_f (off := 6) (pc' := 93) (by decide +kernel) 96 (by decide) rfl h46) ?_
                refine XE.go (st_aload (j := 4) (pc' := 95) (by decide +kernel) rfl (by decide) rfl) ?_
                refine XE.cast (hx27 _) ?_
                exact XE.rt rfl (X_aret (by decide +kernel) rfl (Or.inl ⟨_, rfl⟩) (by decide))
            · refine XE.go (st_acmp_ne_t (off := 29) (pc' := 96) (by decide +kernel) (by decide) (by decide) h43 (by decide)) ?_
              refine XE.go (st_iinc (j := 3) (n := 1) (pc' := 99) (by decide +kernel) rfl rfl (by decide) rfl rfl) ?_
              refine XE.go (st_goto (off := (-97)) (pc' := 2) (by decide +kernel) (by decide)) ?_
              exact XE.pick [3, 4, 5, 0] rfl (hc25 (w (s1 + 1)))
    · refine XE.go (st_icmp_ge_t (off := 92) (pc' := 102) (by decide +kernel) (by decide) (Int.not_lt.mp h31)) ?_
      exact XE.pick [] rfl (he26 ())
  · refine XE.go (st_null (t := 5) (pc' := 103) (by decide +kernel) (by decide) rfl) ?_
    exact XE.rt rfl (X_aret (by decide +kernel) rfl (Or.inl ⟨_, rfl⟩) (by decide))
theorem ct_X0_firstDue {D : Dt} {M : Mm} {a0 a1 a2 : Int} (h0 : a0 ≠ 0) (r : Int) (hr : p_X0_firstDue M a0 a1 a2 = some r) : CT D 0 mu_X0_firstDue [(4, a0), (7, a1), (0, a2)] M (.inl (some (5, r))) M := CT.of (by decide +kernel) rfl (Nat.le_of_ble_eq_true rfl) (xe_X0_firstDue h0 r hr)
def p_X2_addLast (M : Mm) (a0 a1 : Int) : Option Mm := gd ((rd M a0 0) ≠ 0) (if (rd M a0 1) < (ln (rd M a0 0)) then gd (aok (rd M a0 0) (rd M a0 1)) ((some (wr M (rd M a0 0) (rd M a0 1) a1)).bind fun M5 => (some (wr M5 a0 1 (w ((rd M5 a0 1) + 1)))).bind fun M6 => some (M6)) else some (M))
set_option maxRecDepth 100000 in
set_option maxHeartbeats 4000000 in
theorem xe_X2_addLast {D : Dt} {M : Mm} {a0 a1 : Int} (h0 : a0 ≠ 0) : XE D 0 mu_X2_addLast EV 0 [(0, (6, a0)), (1, (5, a1))] [] M (p_X2_addLast M a0 a1) := by
  unfold p_X2_addLast
  refine XE.go (st_aload_n (j := 0) (i := 0) (pc' := 1) (by decide +kernel) rfl rfl (by decide) rfl) ?_
  refine XE.go (st_get (pc' := 4) (by decide +kernel) rfl cls_2 fld_RX2_7 rfl rfl h0) ?_
  refine XE.go (st_aload_n (j := 0) (i := 0) (pc' := 5) (by decide +kernel) rfl rfl (by decide) rfl) ?_
  refine XE.go (st_get (pc' := 8) (by decide +kernel) rfl cls_2 fld_RX2_15 rfl rfl h0) ?_
  refine XE.gd_ (fun g1 => ?_)
  refine XE.go (st_alen (k := 17) (pc' := 9) (by decide +kernel) rfl ak_17 rfl (by decide) g1) ?_
  refine XE.ite (fun h2 => ?_) (fun h3 => ?_)
  · refine XE.go (st_icmp_ge_f (off := 23) (pc' := 12) (by decide +kernel) 32 (by decide) rfl (Int.not_le.mpr h2)) ?_
    refine XE.go (st_aload_n (j := 0) (i := 0) (pc' := 13) (by decide +kernel) rfl rfl (by decide) rfl) ?_
    refine XE.go (st_get (pc' := 16) (by decide +kernel) rfl cls_2 fld_RX2_15 rfl rfl h0) ?_
    refine XE.go (st_aload_n (j := 0) (i := 0) (pc' := 17) (by decide +kernel) rfl rfl (by decide) rfl) ?_
    refine XE.go (st_get (pc' := 20) (by decide +kernel) rfl cls_2 fld_RX2_7 rfl rfl h0) ?_
    refine XE.go (st_aload_n (j := 1) (i := 1) (pc' := 21) (by decide +kernel) rfl rfl (by decide) rfl) ?_
    refine XE.gd_ (fun g4 => ?_)
    refine XE.goM (st_aast (pc' := 22) (by decide +kernel) rfl ak_17 cls_1 rfl rfl rfl g4.1 g4.2.1 g4.2.2) (fun M5 => ?_)
    refine XE.go (st_aload_n (j := 0) (i := 0) (pc' := 23) (by decide +kernel) rfl rfl (by decide) rfl) ?_
    refine XE.go (st_dup (pc' := 24) (by decide +kernel) rfl rfl) ?_
    refine XE.go (st_get (pc' := 27) (by decide +kernel) rfl cls_2 fld_RX2_7 rfl rfl h0) ?_
    refine XE.go (st_iconst (n := 1) (pc' := 28) (by decide +kernel) (w_eq (by decide) (by decide)) rfl) ?_
    refine XE.go (st_iadd (pc' := 29) (by decide +kernel) rfl) ?_
    refine XE.goM (st_put (pc' := 32) (by decide +kernel) rfl cls_2 fld_RX2_7 rfl rfl (fun h => absurd h (by decide)) (fun h => nomatch h) h0) (fun M6 => ?_)
    exact XE.rt rfl (X_vret (by decide +kernel) rfl)
  · refine XE.go (st_icmp_ge_t (off := 23) (pc' := 32) (by decide +kernel) (by decide) (Int.not_lt.mp h3)) ?_
    exact XE.rt rfl (X_vret (by decide +kernel) rfl)
theorem ct_X2_addLast {D : Dt} {M : Mm} {a0 a1 : Int} (h0 : a0 ≠ 0) (r : Mm) (hr : p_X2_addLast M a0 a1 = some r) : CT D 0 mu_X2_addLast [(6, a0), (5, a1)] M (.inl none) r := CT.of (by decide +kernel) rfl (Nat.le_of_ble_eq_true rfl) (xe_X2_addLast h0 r hr)
def p_X0_deliver (M : Mm) (a0 a1 a2 a3 : Int) : Option (Int × Mm) := gd (a2 ≠ 0) ((some (wr M a2 1 2)).bind fun M2 => gd (a3 = 0 ∨ a3 = 1) ((some (wr M2 a2 4 a3)).bind fun M4 => (some (wr M4 a2 5 (w ((rd M4 a2 5) + 1)))).bind fun M5 => if (rd M5 a2 6) = 0 then (some (wr M5 a0 9 (w ((rd M5 a0 9) + 1)))).bind fun M8 => (some (wr M8 a2 6 (rd M8 a0 9))).bind fun M9 => gd (a1 ≠ 0) (gd ((rd M9 a1 1) ≠ 0) ((p_X2_addLast M9 (rd M9 a1 1) a2).bind fun M12 => some (a2, M12))) else gd (a1 ≠ 0) (gd ((rd M5 a1 1) ≠ 0) ((p_X2_addLast M5 (rd M5 a1 1) a2).bind fun M15 => some (a2, M15)))))
set_option maxRecDepth 100000 in
set_option maxHeartbeats 4000000 in
theorem xe_X0_deliver {D : Dt} {M : Mm} {a0 a1 a2 a3 : Int} (h0 : a0 ≠ 0) : XE D 0 mu_X0_deliver (EW 5) 0 [(0, (4, a0)), (1, (7, a1)), (2, (5, a2)), (3, (0, a3))] [] M (p_X0_deliver M a0 a1 a2 a3) := by
  unfold p_X0_deliver
  refine XE.go (st_aload_n (j := 2) (i := 2) (pc' := 1) (by decide +kernel) rfl rfl (by decide) rfl) ?_
  refine XE.go (st_iconst (n := 2) (pc' := 2) (by decide +kernel) (w_eq (by decide) (by decide)) rfl) ?_
  refine XE.gd_ (fun g1 => ?_)
  refine XE.goM (st_put (pc' := 5) (by decide +kernel) rfl cls_1 fld_RX0_165 rfl rfl (fun h => absurd h (by decide)) (fun h => nomatch h) g1) (fun M2 => ?_)
  refine XE.go (st_aload_n (j := 2) (i := 2) (pc' := 6) (by decide +kernel) rfl rfl (by decide) rfl) ?_
  refine XE.go (st_iload_n (j := 3) (i := 3) (pc' := 7) (by decide +kernel) rfl rfl rfl) ?_
  refine XE.gd_ (fun g3 => ?_)
  refine XE.goM (st_put (pc' := 10) (by decide +kernel) rfl cls_1 fld_RX0_168 rfl rfl (fun _ => g3) (fun h => nomatch h) g1) (fun M4 => ?_)
  refine XE.go (st_aload_n (j := 2) (i := 2) (pc' := 11) (by decide +kernel) rfl rfl (by decide) rfl) ?_
  refine XE.go (st_dup (pc' := 12) (by decide +kernel) rfl rfl) ?_
  refine XE.go (st_get (pc' := 15) (by decide +kernel) rfl cls_1 fld_RX0_228 rfl rfl g1) ?_
  refine XE.go (st_iconst (n := 1) (pc' := 16) (by decide +kernel) (w_eq (by decide) (by decide)) rfl) ?_
  refine XE.go (st_iadd (pc' := 17) (by decide +kernel) rfl) ?_
  refine XE.goM (st_put (pc' := 20) (by decide +kernel) rfl cls_1 fld_RX0_228 rfl rfl (fun h => absurd h (by decide)) (fun h => nomatch h) g1) (fun M5 => ?_)
  refine XE.go (st_aload_n (j := 2) (i := 2) (pc' := 21) (by decide +kernel) rfl rfl (by decide) rfl) ?_
  refine XE.go (st_get (pc' := 24) (by decide +kernel) rfl cls_1 fld_RX0_231 rfl rfl g1) ?_
  refine XE.ite (fun h6 => ?_) (fun h7 => ?_)
  · refine XE.go (st_if_ne_f (off := 21) (pc' := 27) (by decide +kernel) 45 (by decide) rfl (not_not_intro h6)) ?_
    refine XE.go (st_aload_n (j := 0) (i := 0) (pc' := 28) (by decide +kernel) rfl rfl (by decide) rfl) ?_
    refine XE.go (st_dup (pc' := 29) (by decide +kernel) rfl rfl) ?_
    refine XE.go (st_get (pc' := 32) (by decide +kernel) rfl cls_0 fld_RX0_54 rfl rfl h0) ?_
    refine XE.go (st_iconst (n := 1) (pc' := 33) (by decide +kernel) (w_eq (by decide) (by decide)) rfl) ?_
    refine XE.go (st_iadd (pc' := 34) (by decide +kernel) rfl) ?_
    refine XE.goM (st_put (pc' := 37) (by decide +kernel) rfl cls_0 fld_RX0_54 rfl rfl (fun h => absurd h (by decide)) (fun h => nomatch h) h0) (fun M8 => ?_)
    refine XE.go (st_aload_n (j := 2) (i := 2) (pc' := 38) (by decide +kernel) rfl rfl (by decide) rfl) ?_
    refine XE.go (st_aload_n (j := 0) (i := 0) (pc' := 39) (by decide +kernel) rfl rfl (by decide) rfl) ?_
    refine XE.go (st_get (pc' := 42) (by decide +kernel) rfl cls_0 fld_RX0_54 rfl rfl h0) ?_
    refine XE.goM (st_put (pc' := 45) (by decide +kernel) rfl cls_1 fld_RX0_231 rfl rfl (fun h => absurd h (by decide)) (fun h => nomatch h) g1) (fun M9 => ?_)
    refine XE.go (st_aload_n (j := 1) (i := 1) (pc' := 46) (by decide +kernel) rfl rfl (by decide) rfl) ?_
    refine XE.gd_ (fun g10 => ?_)
    refine XE.go (st_get (pc' := 49) (by decide +kernel) rfl cls_3 fld_RX0_146 rfl rfl g10) ?_
    refine XE.go (st_aload_n (j := 2) (i := 2) (pc' := 50) (by decide +kernel) rfl rfl (by decide) rfl) ?_
    refine XE.gd_ (fun g11 => ?_)
    refine XE.cV (pc' := 53) (st := []) (fun r hr => ct_X2_addLast g11 r hr) (fun r hr => run_V (st := []) (by decide +kernel) co_X0_deliver_234 (ct_X2_addLast g11 r hr) rfl g11 rfl rfl (Nat.le_of_ble_eq_true rfl)) rfl rfl (fun M12 => ?_)
    refine XE.go (st_aload_n (j := 2) (i := 2) (pc' := 54) (by decide +kernel) rfl rfl (by decide) rfl) ?_
    exact XE.rt rfl (X_aret (by decide +kernel) rfl (Or.inl ⟨_, rfl⟩) (by decide))
  · refine XE.go (st_if_ne_t (off := 21) (pc' := 45) (by decide +kernel) (by decide) h7) ?_
    refine XE.go (st_aload_n (j := 1) (i := 1) (pc' := 46) (by decide +kernel) rfl rfl (by decide) rfl) ?_
    refine XE.gd_ (fun g13 => ?_)
    refine XE.go (st_get (pc' := 49) (by decide +kernel) rfl cls_3 fld_RX0_146 rfl rfl g13) ?_
    refine XE.go (st_aload_n (j := 2) (i := 2) (pc' := 50) (by decide +kernel) rfl rfl (by decide) rfl) ?_
    refine XE.gd_ (fun g14 => ?_)
    refine XE.cV (pc' := 53) (st := []) (fun r hr => ct_X2_addLast g14 r hr) (fun r hr => run_V (st := []) (by decide +kernel) co_X0_deliver_234 (ct_X2_addLast g14 r hr) rfl g14 rfl rfl (Nat.le_of_ble_eq_true rfl)) rfl rfl (fun M15 => ?_)
    refine XE.go (st_aload_n (j := 2) (i := 2) (pc' := 54) (by decide +kernel) rfl rfl (by decide) rfl) ?_
    exact XE.rt rfl (X_aret (by decide +kernel) rfl (Or.inl ⟨_, rfl⟩) (by decide))
theorem ct_X0_deliver {D : Dt} {M : Mm} {a0 a1 a2 a3 : Int} (h0 : a0 ≠ 0) (r : (Int × Mm)) (hr : p_X0_deliver M a0 a1 a2 a3 = some r) : CT D 0 mu_X0_deliver [(4, a0), (7, a1), (5, a2), (0, a3)] M (.inl (some (5, r.1))) r.2 := CT.of (by decide +kernel) rfl (Nat.le_of_ble_eq_true rfl) (xe_X0_deliver h0 r hr)
def p_X0_knownLetter (M : Mm) (a0 a1 : Int) : Option Int := gd (a1 ≠ 0) (if (rd M a1 0) < 0 then some (0) else gd ((rd M a0 2) ≠ 0) (if (rd M a1 0) < (ln (rd M a0 2)) then gd (aok (rd M a0 2) (rd M a1 0)) (some ((rd M (rd M a0 2) (rd M a1 0)))) else some (0)))
set_option maxRecDepth 100000 in
set_option maxHeartbeats 4000000 in
theorem xe_X0_knownLetter {D : Dt} {M : Mm} {a0 a1 : Int} (h0 : a0 ≠ 0) : XE D 0 mu_X0_knownLetter (EP 5 M) 0 [(0, (4, a0)), (1, (8, a1))] [] M (p_X0_knownLetter M a0 a1) := by
  unfold p_X0_knownLetter
  refine XE.go (st_aload_n (j := 1) (i := 1) (pc' := 1) (by decide +kernel) rfl rfl (by decide) rfl) ?_
  refine XE.gd_ (fun g1 => ?_)
  refine XE.go (st_get (pc' := 4) (by decide +kernel) rfl cls_4 fld_RX0_65 rfl rfl g1) ?_
  refine XE.ite (fun h2 => ?_) (fun h3 => ?_)
  · refine XE.go (st_if_lt_t (off := 27) (pc' := 31) (by decide +kernel) (by decide) h2) ?_
    refine XE.go (st_null (t := 5) (pc' := 32) (by decide +kernel) (by decide) rfl) ?_
    exact XE.rt rfl (X_aret (by decide +kernel) rfl (Or.inl ⟨_, rfl⟩) (by decide))
  · refine XE.go (st_if_lt_f (off := 27) (pc' := 7) (by decide +kernel) 31 (by decide) rfl h3) ?_
    refine XE.go (st_aload_n (j := 1) (i := 1) (pc' := 8) (by decide +kernel) rfl rfl (by decide) rfl) ?_
    refine XE.go (st_get (pc' := 11) (by decide +kernel) rfl cls_4 fld_RX0_65 rfl rfl g1) ?_
    refine XE.go (st_aload_n (j := 0) (i := 0) (pc' := 12) (by decide +kernel) rfl rfl (by decide) rfl) ?_
    refine XE.go (st_get (pc' := 15) (by decide +kernel) rfl cls_0 fld_RX0_25 rfl rfl h0) ?_
    refine XE.gd_ (fun g4 => ?_)
    refine XE.go (st_alen (k := 17) (pc' := 16) (by decide +kernel) rfl ak_17 rfl (by decide) g4) ?_
    refine XE.ite (fun h5 => ?_) (fun h6 => ?_)
    · refine XE.go (st_icmp_ge_f (off := 15) (pc' := 19) (by decide +kernel) 31 (by decide) rfl (Int.not_le.mpr h5)) ?_
      refine XE.go (st_aload_n (j := 0) (i := 0) (pc' := 20) (by decide +kernel) rfl rfl (by decide) rfl) ?_
      refine XE.go (st_get (pc' := 23) (by decide +kernel) rfl cls_0 fld_RX0_25 rfl rfl h0) ?_
      refine XE.go (st_aload_n (j := 1) (i := 1) (pc' := 24) (by decide +kernel) rfl rfl (by decide) rfl) ?_
      refine XE.go (st_get (pc' := 27) (by decide +kernel) rfl cls_4 fld_RX0_65 rfl rfl g1) ?_
      refine XE.gd_ (fun g7 => ?_)
      refine XE.go (st_ald (k := 17) (tp := 5) (pc' := 28) (by decide +kernel) rfl ak_17 rfl (by decide) rfl (Or.inr (Or.inr (Or.inr ⟨rfl, rfl⟩))) g7.1 g7.2.1 g7.2.2) ?_
      refine XE.go (st_goto (off := 4) (pc' := 32) (by decide +kernel) (by decide)) ?_
      exact XE.rt rfl (X_aret (by decide +kernel) rfl (Or.inl ⟨_, rfl⟩) (by decide))
    · refine XE.go (st_icmp_ge_t (off := 15) (pc' := 31) (by decide +kernel) (by decide) (Int.not_lt.mp h6)) ?_
      refine XE.go (st_null (t := 5) (pc' := 32) (by decide +kernel) (by decide) rfl) ?_
      exact XE.rt rfl (X_aret (by decide +kernel) rfl (Or.inl ⟨_, rfl⟩) (by decide))
theorem ct_X0_knownLetter {D : Dt} {M : Mm} {a0 a1 : Int} (h0 : a0 ≠ 0) (r : Int) (hr : p_X0_knownLetter M a0 a1 = some r) : CT D 0 mu_X0_knownLetter [(4, a0), (8, a1)] M (.inl (some (5, r))) M := CT.of (by decide +kernel) rfl (Nat.le_of_ble_eq_true rfl) (xe_X0_knownLetter h0 r hr)
def p_X1_init (M : Mm) (a0 a1 : Int) : Option Mm := (some (wr M a0 1 0)).bind fun M1 => (some (wr M1 a0 2 0)).bind fun M2 => (some (wr M2 a0 3 0)).bind fun M3 => (some (wr M3 a0 4 0)).bind fun M4 => (some (wr M4 a0 5 0)).bind fun M5 => (some (wr M5 a0 6 0)).bind fun M6 => (some (wr M6 a0 0 a1)).bind fun M7 => some (M7)
set_option maxRecDepth 100000 in
set_option maxHeartbeats 4000000 in
theorem xe_X1_init {D : Dt} {M : Mm} {a0 a1 : Int} (h0 : a0 ≠ 0) : XE D 0 mu_X1_init EV 0 [(0, (5, a0)), (1, (8, a1))] [] M (p_X1_init M a0 a1) := by
  unfold p_X1_init
  refine XE.go (st_aload_n (j := 0) (i := 0) (pc' := 1) (by decide +kernel) rfl rfl (by decide) rfl) ?_
  refine XE.go (st_oinit (pc' := 4) (by decide +kernel) rfl oi_RX1_3 (by decide) (by decide) (by decide) h0) ?_
  refine XE.go (st_aload_n (j := 0) (i := 0) (pc' := 5) (by decide +kernel) rfl rfl (by decide) rfl) ?_
  refine XE.go (st_iconst (n := 0) (pc' := 6) (by decide +kernel) (w_eq (by decide) (by decide)) rfl) ?_
  refine XE.goM (st_put (pc' := 9) (by decide +kernel) rfl cls_1 fld_RX1_9 rfl rfl (fun h => absurd h (by decide)) (fun h => nomatch h) h0) (fun M1 => ?_)
  refine XE.go (st_aload_n (j := 0) (i := 0) (pc' := 10) (by decide +kernel) rfl rfl (by decide) rfl) ?_
  refine XE.go (st_iconst (n := 0) (pc' := 11) (by decide +kernel) (w_eq (by decide) (by decide)) rfl) ?_
  refine XE.goM (st_put (pc' := 14) (by decide +kernel) rfl cls_1 fld_RX1_15 rfl rfl (fun h => absurd h (by decide)) (fun h => nomatch h) h0) (fun M2 => ?_)
  refine XE.go (st_aload_n (j := 0) (i := 0) (pc' := 15) (by decide +kernel) rfl rfl (by decide) rfl) ?_
  refine XE.go (st_iconst (n := 0) (pc' := 16) (by decide +kernel) (w_eq (by decide) (by decide)) rfl) ?_
  refine XE.goM (st_put (pc' := 19) (by decide +kernel) rfl cls_1 fld_RX1_18 rfl rfl (fun h => absurd h (by decide)) (fun h => nomatch h) h0) (fun M3 => ?_)
  refine XE.go (st_aload_n (j := 0) (i := 0) (pc' := 20) (by decide +kernel) rfl rfl (by decide) rfl) ?_
  refine XE.go (st_iconst (n := 0) (pc' := 21) (by decide +kernel) (w_eq (by decide) (by decide)) rfl) ?_
  refine XE.goM (st_put (pc' := 24) (by decide +kernel) rfl cls_1 fld_RX1_21 rfl rfl (fun _ => by decide) (fun h => nomatch h) h0) (fun M4 => ?_)
  refine XE.go (st_aload_n (j := 0) (i := 0) (pc' := 25) (by decide +kernel) rfl rfl (by decide) rfl) ?_
  refine XE.go (st_iconst (n := 0) (pc' := 26) (by decide +kernel) (w_eq (by decide) (by decide)) rfl) ?_
  refine XE.goM (st_put (pc' := 29) (by decide +kernel) rfl cls_1 fld_RX1_25 rfl rfl (fun h => absurd h (by decide)) (fun h => nomatch h) h0) (fun M5 => ?_)
  refine XE.go (st_aload_n (j := 0) (i := 0) (pc' := 30) (by decide +kernel) rfl rfl (by decide) rfl) ?_
  refine XE.go (st_iconst (n := 0) (pc' := 31) (by decide +kernel) (w_eq (by decide) (by decide)) rfl) ?_
  refine XE.goM (st_put (pc' := 34) (by decide +kernel) rfl cls_1 fld_RX1_28 rfl rfl (fun h => absurd h (by decide)) (fun h => nomatch h) h0) (fun M6 => ?_)
  refine XE.go (st_aload_n (j := 0) (i := 0) (pc' := 35) (by decide +kernel) rfl rfl (by decide) rfl) ?_
  refine XE.go (st_aload_n (j := 1) (i := 1) (pc' := 36) (by decide +kernel) rfl rfl (by decide) rfl) ?_
  refine XE.goM (st_put (pc' := 39) (by decide +kernel) rfl cls_1 fld_RX1_31 rfl rfl (fun h => absurd h (by decide)) (fun _ => ⟨rfl, rfl⟩) h0) (fun M7 => ?_)
  exact XE.rt rfl (X_vret (by decide +kernel) rfl)
theorem ct_X1_init {D : Dt} {M : Mm} {a0 a1 : Int} (h0 : a0 ≠ 0) (r : Mm) (hr : p_X1_init M a0 a1 = some r) : CT D 0 mu_X1_init [(5, a0), (8, a1)] M (.inl none) r := CT.of (by decide +kernel) rfl (Nat.le_of_ble_eq_true rfl) (xe_X1_init h0 r hr)
def p_X0_letterOf (M : Mm) (a0 a1 : Int) : Option (Int × Mm) := (p_X0_knownLetter M a0 a1).bind fun r1 => if r1 = 0 then (alo M 2 (2000 + (150 * (a0 - 1000) + (rd M a1 0))) 7).bind fun M4 => (p_X1_init M4 (2000 + (150 * (a0 - 1000) + (rd M a1 0))) a1).bind fun M6 => (some ((2000 + (150 * (a0 - 1000) + (rd M a1 0))))).bind fun v7 => gd (a1 ≠ 0) (if (rd M6 a1 0) < 0 then some (v7, M6) else gd ((rd M6 a0 2) ≠ 0) (if (rd M6 a1 0) < (ln (rd M6 a0 2)) then gd (aok (rd M6 a0 2) (rd M6 a1 0)) ((some (wr M6 (rd M6 a0 2) (rd M6 a1 0) v7)).bind fun M16 => some (v7, M16)) else some (v7, M6))) else some (r1, M)
set_option maxRecDepth 100000 in
set_option maxHeartbeats 4000000 in
theorem xe_X0_letterOf {D : Dt} {M : Mm} {a0 a1 : Int} (h0 : a0 ≠ 0) : XE D 0 mu_X0_letterOf (EW 5) 0 [(0, (4, a0)), (1, (8, a1))] [] M (p_X0_letterOf M a0 a1) := by
  unfold p_X0_letterOf
  refine XE.go (st_aload_n (j := 0) (i := 0) (pc' := 1) (by decide +kernel) rfl rfl (by decide) rfl) ?_
  refine XE.go (st_aload_n (j := 1) (i := 1) (pc' := 2) (by decide +kernel) rfl rfl (by decide) rfl) ?_
  refine XE.cP (pc' := 5) (st := []) (fun r hr => ct_X0_knownLetter h0 r hr) (fun r hr => run_V (st := []) (by decide +kernel) co_X0_letterOf_68 (ct_X0_knownLetter h0 r hr) rfl h0 rfl rfl (Nat.le_of_ble_eq_true rfl)) rfl rfl (fun r1 => ?_)
  refine XE.go (st_astore_n (j := 2) (i := 2) (pc' := 6) (by decide +kernel) rfl (by decide) rfl (by decide) rfl rfl) ?_
  refine XE.go (st_aload_n (j := 2) (i := 2) (pc' := 7) (by decide +kernel) rfl rfl (by decide) rfl) ?_
  refine XE.ite (fun h2 => ?_) (fun h3 => ?_)
  · refine XE.go (st_ifnull_t (off := 5) (pc' := 12) (by decide +kernel) (by decide) h2 (by decide)) ?_
    refine XE.alo_ (fun q1 q2 q3 => st_new (pc' := 15) (by decide +kernel) rfl cls_1 nw_RX0_23 rfl rfl q1 q2 q3) (by decide) (fun M4 h5 => ?_)
    refine XE.go (st_dup (pc' := 16) (by decide +kernel) rfl rfl) ?_
    refine XE.go (st_aload_n (j := 1) (i := 1) (pc' := 17) (by decide +kernel) rfl rfl (by decide) rfl) ?_
    refine XE.cV (pc' := 20) (st := [(5, (2000 + (150 * (a0 - 1000) + (rd M a1 0))))]) (fun r hr => ct_X1_init h5 r hr) (fun r hr => run_I (st := [(5, (2000 + (150 * (a0 - 1000) + (rd M a1 0))))]) (by decide +kernel) co_X0_letterOf_72 (ct_X1_init h5 r hr) (by decide) h5 rfl rfl (Nat.le_of_ble_eq_true rfl)) rfl rfl (fun M6 => ?_)
    refine XE.gen (fun v7 e8 => ?_)
    refine XE.go (st_astore_n (j := 3) (i := 3) (pc' := 21) (by decide +kernel) rfl (by decide) rfl (by decide) rfl rfl) ?_
    refine XE.go (st_aload_n (j := 1) (i := 1) (pc' := 22) (by decide +kernel) rfl rfl (by decide) rfl) ?_
    refine XE.gd_ (fun g9 => ?_)
    refine XE.go (st_get (pc' := 25) (by decide +kernel) rfl cls_4 fld_RX0_65 rfl rfl g9) ?_
    refine XE.ite (fun h10 => ?_) (fun h11 => ?_)
    · refine XE.go (st_if_lt_t (off := 25) (pc' := 50) (by decide +kernel) (by decide) h10) ?_
      refine XE.go (st_aload_n (j := 3) (i := 3) (pc' := 51) (by decide +kernel) rfl rfl (by decide) rfl) ?_
      exact XE.rt rfl (X_aret (by decide +kernel) rfl (Or.inl ⟨_, rfl⟩) (by decide))
    · refine XE.go (st_if_lt_f (off := 25) (pc' := 28) (by decide +kernel) 50 (by decide) rfl h11) ?_
      refine XE.go (st_aload_n (j := 1) (i := 1) (pc' := 29) (by decide +kernel) rfl rfl (by decide) rfl) ?_
      refine XE.go (st_get (pc' := 32) (by decide +kernel) rfl cls_4 fld_RX0_65 rfl rfl g9) ?_
      refine XE.go (st_aload_n (j := 0) (i := 0) (pc' := 33) (by decide +kernel) rfl rfl (by decide) rfl) ?_
      refine XE.go (st_get (pc' := 36) (by decide +kernel) rfl cls_0 fld_RX0_25 rfl rfl h0) ?_
      refine XE.gd_ (fun g12 => ?_)
      refine XE.go (st_alen (k := 17) (pc' := 37) (by decide +kernel) rfl ak_17 rfl (by decide) g12) ?_
      refine XE.ite (fun h13 => ?_) (fun h14 => ?_)
      · refine XE.go (st_icmp_ge_f (off := 13) (pc' := 40) (by decide +kernel) 50 (by decide) rfl (Int.not_le.mpr h13)) ?_
        refine XE.go (st_aload_n (j := 0) (i := 0) (pc' := 41) (by decide +kernel) rfl rfl (by decide) rfl) ?_
        refine XE.go (st_get (pc' := 44) (by decide +kernel) rfl cls_0 fld_RX0_25 rfl rfl h0) ?_
        refine XE.go (st_aload_n (j := 1) (i := 1) (pc' := 45) (by decide +kernel) rfl rfl (by decide) rfl) ?_
        refine XE.go (st_get (pc' := 48) (by decide +kernel) rfl cls_4 fld_RX0_65 rfl rfl g9) ?_
        refine XE.go (st_aload_n (j := 3) (i := 3) (pc' := 49) (by decide +kernel) rfl rfl (by decide) rfl) ?_
        refine XE.gd_ (fun g15 => ?_)
        refine XE.goM (st_aast (pc' := 50) (by decide +kernel) rfl ak_17 cls_1 rfl rfl rfl g15.1 g15.2.1 g15.2.2) (fun M16 => ?_)
        refine XE.go (st_aload_n (j := 3) (i := 3) (pc' := 51) (by decide +kernel) rfl rfl (by decide) rfl) ?_
        exact XE.rt rfl (X_aret (by decide +kernel) rfl (Or.inl ⟨_, rfl⟩) (by decide))
      · refine XE.go (st_icmp_ge_t (off := 13) (pc' := 50) (by decide +kernel) (by decide) (Int.not_lt.mp h14)) ?_
        refine XE.go (st_aload_n (j := 3) (i := 3) (pc' := 51) (by decide +kernel) rfl rfl (by decide) rfl) ?_
        exact XE.rt rfl (X_aret (by decide +kernel) rfl (Or.inl ⟨_, rfl⟩) (by decide))
  · refine XE.go (st_ifnull_f (off := 5) (pc' := 10) (by decide +kernel) (by decide) h3 rfl) ?_
    refine XE.go (st_aload_n (j := 2) (i := 2) (pc' := 11) (by decide +kernel) rfl rfl (by decide) rfl) ?_
    exact XE.rt rfl (X_aret (by decide +kernel) rfl (Or.inl ⟨_, rfl⟩) (by decide))
theorem ct_X0_letterOf {D : Dt} {M : Mm} {a0 a1 : Int} (h0 : a0 ≠ 0) (r : (Int × Mm)) (hr : p_X0_letterOf M a0 a1 = some r) : CT D 0 mu_X0_letterOf [(4, a0), (8, a1)] M (.inl (some (5, r.1))) r.2 := CT.of (by decide +kernel) rfl (Nat.le_of_ble_eq_true rfl) (xe_X0_letterOf h0 r hr)
def b_X0_nextOfLog_14 (r3 : Int) (a1 : Int) (a0 : Int) (a2 : Int) (s6 : Int × Mm) : Option ((Int × Mm) ⊕ ((Int × Mm) ⊕ (Mm))) := if s6.1 < r3 then gd ((rd s6.2 a1 0) ≠ 0) ((p_X5_readableAt s6.2 (rd s6.2 a1 0) s6.1 r3).bind fun r36 => if r36 = 0 then some (.inl ((w (s6.1 + 1)), s6.2)) else (some (wr s6.2 a1 4 (w (s6.1 + 1)))).bind fun M39 => (p_X0_letterOf M39 a0 r36).bind fun r40 => gd (r40.1 ≠ 0) (if (rd r40.2 r40.1 1) = 0 then (some (wr r40.2 r40.1 3 0)).bind fun M44 => gd ((rd M44 a0 3) ≠ 0) ((p_X2_hasNoneOfRow M44 (rd M44 a0 3) r36 60).bind fun r46 => if r46 = 0 then (p_X0_putInRow M44 a0 r40.1 a2).bind fun M49 => some (.inl ((w (s6.1 + 1)), M49)) else some (.inr (.inl (r40.1, M44)))) else some (.inl ((w (s6.1 + 1)), r40.2)))) else some (.inr (.inr s6.2))
def p_X0_nextOfLog (M : Mm) (a0 a1 a2 : Int) : Option (Int × Mm) := gd (a1 ≠ 0) (gd ((rd M a1 0) ≠ 0) ((p_X5_stableOffset M (rd M a1 0)).bind fun r3 => (some ((rd M a1 4))).bind fun v4 => (lp (b_X0_nextOfLog_14 r3 a1 a0 a2) 1000 (v4, M)).bind (Sum.elim some fun (t7 : Mm) => some (0, t7))))
set_option maxRecDepth 100000 in
set_option maxHeartbeats 4000000 in
theorem xe_X0_nextOfLog {D : Dt} {M : Mm} {a0 a1 a2 : Int} (h0 : a0 ≠ 0) : XE D 0 mu_X0_nextOfLog (EW 5) 0 [(0, (4, a0)), (1, (12, a1)), (2, (0, a2))] [] M (p_X0_nextOfLog M a0 a1 a2) := by
  unfold p_X0_nextOfLog
  refine XE.go (st_aload_n (j := 1) (i := 1) (pc' := 1) (by decide +kernel) rfl rfl (by decide) rfl) ?_
  refine XE.gd_ (fun g1 => ?_)
  refine XE.go (st_get (pc' := 4) (by decide +kernel) rfl cls_8 fld_RX0_130 rfl rfl g1) ?_
  refine XE.gd_ (fun g2 => ?_)
  refine XE.cP (pc' := 7) (st := []) (fun r hr => ct_X5_stableOffset g2 r hr) (fun r hr => run_V (st := []) (by decide +kernel) co_X0_nextOfLog_215 (ct_X5_stableOffset g2 r hr) rfl g2 rfl rfl (Nat.le_of_ble_eq_true rfl)) rfl rfl (fun r3 => ?_)
  refine XE.go (st_istore_n (j := 3) (i := 3) (pc' := 8) (by decide +kernel) rfl rfl (by decide) rfl rfl) ?_
  refine XE.go (st_aload_n (j := 1) (i := 1) (pc' := 9) (by decide +kernel) rfl rfl (by decide) rfl) ?_
  refine XE.go (st_get (pc' := 12) (by decide +kernel) rfl cls_8 fld_RX0_143 rfl rfl g1) ?_
  refine XE.gen (fun v4 e5 => ?_)
  refine XE.go (st_istore (j := 4) (pc' := 14) (by decide +kernel)  rfl (by decide) rfl rfl) ?_
  refine XE.pick [2, 3, 4, 1, 0] (L' := [(0, (4, a0)), (1, (12, a1)), (2, (0, a2)), (3, (0, r3)), (4, (0, v4))]) rfl ?_
  refine XE.loopX (n := 1000) (s0 := (v4, M)) (pcL := 14) (pcE := 97) (LL := fun (s6 : Int × Mm) => [(0, (4, a0)), (1, (12, a1)), (2, (0, a2)), (3, (0, r3)), (4, (0, s6.1))]) (sL := fun _ => []) (ML := fun (s6 : Int × Mm) => s6.2) (LE := fun (t7 : Mm) => []) (sE := fun _ => []) (ME := fun (t7 : Mm) => t7) (fun kk32 hx31 hc29 he30 s6 => ?_) (fun t7 => ?_)
  · unfold b_X0_nextOfLog_14
    refine XE.go (st_iload (j := 4) (pc' := 16) (by decide +kernel) rfl rfl) ?_
    refine XE.go (st_iload_n (j := 3) (i := 3) (pc' := 17) (by decide +kernel) rfl rfl rfl) ?_
    refine XE.bite (fun h33 => ?_) (fun h34 => ?_)
    · refine XE.go (st_icmp_ge_f (off := 80) (pc' := 20) (by decide +kernel) 97 (by decide) rfl (Int.not_le.mpr h33)) ?_
      refine XE.go (st_aload_n (j := 1) (i := 1) (pc' := 21) (by decide +kernel) rfl rfl (by decide) rfl) ?_
      refine XE.go (st_get (pc' := 24) (by decide +kernel) rfl cls_8 fld_RX0_130 rfl rfl g1) ?_
      refine XE.go (st_iload (j := 4) (pc' := 26) (by decide +kernel) rfl rfl) ?_
      refine XE.go (st_iload_n (j := 3) (i := 3) (pc' := 27) (by decide +kernel) rfl rfl rfl) ?_
      refine XE.gdb (fun g35 => ?_)
      refine XE.asc ?_
      refine XE.cP (pc' := 30) (st := []) (fun r hr => ct_X5_readableAt g35 r hr) (fun r hr => run_V (st := []) (by decide +kernel) co_X0_nextOfLog_218 (ct_X5_readableAt g35 r hr) rfl g35 rfl rfl (Nat.le_of_ble_eq_true rfl)) rfl rfl (fun r36 => ?_)
      refine XE.go (st_astore (j := 5) (pc' := 32) (by decide +kernel)  (by decide) rfl (by decide) rfl rfl) ?_
      refine XE.go (st_aload (j := 5) (pc' := 34) (by decide +kernel) rfl (by decide) rfl) ?_
      refine XE.bite (fun h37 => ?_) (fun h38 => ?_)
      · refine XE.go (st_ifnull_t (off := 57) (pc' := 91) (by decide +kernel) (by decide) h37 (by decide)) ?_
        refine XE.go (st_iinc (j := 4) (n := 1) (pc' := 94) (by decide +kernel) rfl rfl (by decide) rfl rfl) ?_
        refine XE.go (st_goto (off := (-80)) (pc' := 14) (by decide +kernel) (by decide)) ?_
        exact XE.pick [2, 3, 4, 5, 0] rfl (hc29 ((w (s6.1 + 1)), s6.2))
      · refine XE.go (st_ifnull_f (off := 57) (pc' := 37) (by decide +kernel) (by decide) h38 rfl) ?_
        refine XE.go (st_aload_n (j := 1) (i := 1) (pc' := 38) (by decide +kernel) rfl rfl (by decide) rfl) ?_
        refine XE.go (st_iload (j := 4) (pc' := 40) (by decide +kernel) rfl rfl) ?_
        refine XE.go (st_iconst (n := 1) (pc' := 41) (by decide +kernel) (w_eq (by decide) (by decide)) rfl) ?_
        refine XE.go (st_iadd (pc' := 42) (by decide +kernel) rfl) ?_
        refine XE.asc ?_
        refine XE.goM (st_put (pc' := 45) (by decide +kernel) rfl cls_8 fld_RX0_143 rfl rfl (fun h => absurd h (by decide)) (fun h => nomatch h) g1) (fun M39 => ?_)
        refine XE.go (st_aload_n (j := 0) (i := 0) (pc' := 46) (by decide +kernel) rfl rfl (by decide) rfl) ?_
        refine XE.go (st_aload (j := 5) (pc' := 48) (by decide +kernel) rfl (by decide) rfl) ?_
        refine XE.asc ?_
        refine XE.cW (pc' := 51) (st := []) (fun r hr => ct_X0_letterOf h0 r hr) (fun r hr => run_V (st := []) (by decide +kernel) co_X0_nextOfLog_222 (ct_X0_letterOf h0 r hr) rfl h0 rfl rfl (Nat.le_of_ble_eq_true rfl)) rfl rfl (fun r40 => ?_)
        refine XE.go (st_astore (j := 6) (pc' := 53) (by decide +kernel)  (by decide) rfl (by decide) rfl rfl) ?_
        refine XE.go (st_aload (j := 6) (pc' := 55) (by decide +kernel) rfl (by decide) rfl) ?_
        refine XE.gdb (fun g41 => ?_)
        refine XE.go (st_get (pc' := 58) (by decide +kernel) rfl cls_1 fld_RX0_165 rfl rfl g41) ?_
        refine XE.bite (fun h42 => ?_) (fun h43 => ?_)
        · refine XE.go (st_if_ne_f (off := 33) (pc' := 61) (by decide +kernel) 91 (by decide) rfl (not_not_intro h42)) ?_
          refine XE.go (st_aload (j := 6) (pc' := 63) (by decide +kernel) rfl (by decide) rfl) ?_
          refine XE.go (st_iconst (n := 0) (pc' := 64) (by decide +kernel) (w_eq (by decide) (by decide)) rfl) ?_
          refine XE.asc ?_
          refine XE.goM (st_put (pc' := 67) (by decide +kernel) rfl cls_1 fld_RX0_225 rfl rfl (fun h => absurd h (by decide)) (fun h => nomatch h) g41) (fun M44 => ?_)
          refine XE.go (st_aload_n (j := 0) (i := 0) (pc' := 68) (by decide +kernel) rfl rfl (by decide) rfl) ?_
          refine XE.go (st_get (pc' := 71) (by decide +kernel) rfl cls_0 fld_RX0_34 rfl rfl h0) ?_
          refine XE.go (st_aload (j := 5) (pc' := 73) (by decide +kernel) rfl (by decide) rfl) ?_
          refine XE.go (st_bipush (n := 60) (pc' := 75) (by decide +kernel) (by decide) (w_eq (by decide) (by decide)) rfl) ?_
          refine XE.gdb (fun g45 => ?_)
          refine XE.asc ?_
          refine XE.cP (pc' := 78) (st := []) (fun r hr => ct_X2_hasNoneOfRow g45 r hr) (fun r hr => run_V (st := []) (by decide +kernel) co_X0_nextOfLog_211 (ct_X2_hasNoneOfRow g45 r hr) rfl g45 rfl rfl (Nat.le_of_ble_eq_true rfl)) rfl rfl (fun r46 => ?_)
          refine XE.bite (fun h47 => ?_) (fun h48 => ?_)
          · refine XE.go (st_if_eq_t (off := 6) (pc' := 84) (by decide +kernel) (by decide) h47) ?_
            refine XE.go (st_aload_n (j := 0) (i := 0) (pc' := 85) (by decide +kernel) rfl rfl (by decide) rfl) ?_
            refine XE.go (st_aload (j := 6) (pc' := 87) (by decide +kernel) rfl (by decide) rfl) ?_
            refine XE.go (st_iload_n (j := 2) (i := 2) (pc' := 88) (by decide +kernel) rfl rfl rfl) ?_
            refine XE.asc ?_
            refine XE.cV (pc' := 91) (st := []) (fun r hr => ct_X0_putInRow h0 r hr) (fun r hr => run_V (st := []) (by decide +kernel) co_X0_nextOfLog_172 (ct_X0_putInRow h0 r hr) rfl h0 rfl rfl (Nat.le_of_ble_eq_true rfl)) rfl rfl (fun M49 => ?_)
            refine XE.go (st_iinc (j := 4) (n := 1) (pc' := 94) (by decide +kernel) rfl rfl (by decide) rfl rfl) ?_
            refine XE.go (st_goto (off := (-80)) (pc' := 14) (by decide +kernel) (by decide)) ?_
            exact XE.pick [3, 4, 5, 6, 0] rfl (hc29 ((w (s6.1 + 1)), M49))
          · refine XE.go (st_if_eq_f (off := 6) (pc' := 81) (by decide +kernel) 84 (by decide) rfl h48) ?_
            refine XE.go (st_aload (j := 6) (pc' := 83) (by decide +kernel) rfl (by decide) rfl) ?_
            refine XE.cast (hx31 _) ?_
            exact XE.rt rfl (X_aret (by decide +kernel) rfl (Or.inl ⟨_, rfl⟩) (by decide))
        · refine XE.go (st_if_ne_t (off := 33) (pc' := 91) (by decide +kernel) (by decide) h43) ?_
          refine XE.go (st_iinc (j := 4) (n := 1) (pc' := 94) (by decide +kernel) rfl rfl (by decide) rfl rfl) ?_
          refine XE.go (st_goto (off := (-80)) (pc' := 14) (by decide +kernel) (by decide)) ?_
          exact XE.pick [3, 4, 5, 6, 0] rfl (hc29 ((w (s6.1 + 1)), r40.2))
    · refine XE.go (st_icmp_ge_t (off := 80) (pc' := 97) (by decide +kernel) (by decide) (Int.not_lt.mp h34)) ?_
      exact XE.pick [] rfl (he30 s6.2)
  · refine XE.go (st_null (t := 5) (pc' := 98) (by decide +kernel) (by decide) rfl) ?_
    exact XE.rt rfl (X_aret (by decide +kernel) rfl (Or.inl ⟨_, rfl⟩) (by decide))
theorem ct_X0_nextOfLog {D : Dt} {M : Mm} {a0 a1 a2 : Int} (h0 : a0 ≠ 0) (r : (Int × Mm)) (hr : p_X0_nextOfLog M a0 a1 a2 = some r) : CT D 0 mu_X0_nextOfLog [(4, a0), (12, a1), (0, a2)] M (.inl (some (5, r.1))) r.2 := CT.of (by decide +kernel) rfl (Nat.le_of_ble_eq_true rfl) (xe_X0_nextOfLog h0 r hr)
def b_X0_deliverNext_46 (a0 : Int) (a1 : Int) (a2 : Int) (s8 : Int × Mm) : Option ((Int × Mm) ⊕ ((Int × Mm) ⊕ (Mm))) := gd ((rd s8.2 a0 0) ≠ 0) (if (ln (rd s8.2 a0 0)) < s8.1 then some (.inr (.inr s8.2)) else gd ((ln (rd s8.2 a0 0)) ≠ 0) ((p_X0_shareAt s8.2 a0 (irm (w ((rd s8.2 a1 4) + s8.1)) (ln (rd s8.2 a0 0)))).bind fun r40 => if r40 = 0 then some (.inl ((w (s8.1 + 1)), s8.2)) else if (rd s8.2 r40 1) = a1 then gd ((rd s8.2 r40 0) ≠ 0) (if (rd s8.2 (rd s8.2 r40 0) 4) = 0 then some (.inl ((w (s8.1 + 1)), s8.2)) else (p_X0_nextOfLog s8.2 a0 r40 a2).bind fun r48 => if r48.1 = 0 then some (.inl ((w (s8.1 + 1)), r48.2)) else gd ((rd r48.2 r40 0) ≠ 0) ((some (wr r48.2 a1 4 (rd r48.2 (rd r48.2 r40 0) 0))).bind fun M52 => (p_X0_deliver M52 a0 a1 r48.1 0).bind fun r53 => some (.inr (.inl (r53.1, r53.2))))) else some (.inl ((w (s8.1 + 1)), s8.2))))
def p_X0_deliverNext (M : Mm) (a0 a1 a2 : Int) : Option (Int × Mm) := gd (a1 ≠ 0) (gd ((rd M a1 1) ≠ 0) (if (rd M (rd M a1 1) 1) < (rd M a1 3) then (p_X0_firstDue M a0 a1 a2).bind fun r5 => if r5 = 0 then (lp (b_X0_deliverNext_46 a0 a1 a2) 1000 (1, M)).bind (Sum.elim some fun (t9 : Mm) => some (0, t9)) else gd ((rd M a0 3) ≠ 0) ((p_X2_removeLetter M (rd M a0 3) r5).bind fun M55 => (p_X0_deliver M55 a0 a1 r5 1).bind fun r56 => some (r56.1, r56.2)) else some (0, M)))
set_option maxRecDepth 100000 in
set_option maxHeartbeats 4000000 in
theorem xe_X0_deliverNext {D : Dt} {M : Mm} {a0 a1 a2 : Int} (h0 : a0 ≠ 0) : XE D 0 mu_X0_deliverNext (EW 5) 0 [(0, (4, a0)), (1, (7, a1)), (2, (0, a2))] [] M (p_X0_deliverNext M a0 a1 a2) := by
  unfold p_X0_deliverNext
  refine XE.go (st_aload_n (j := 1) (i := 1) (pc' := 1) (by decide +kernel) rfl rfl (by decide) rfl) ?_
  refine XE.gd_ (fun g1 => ?_)
  refine XE.go (st_get (pc' := 4) (by decide +kernel) rfl cls_3 fld_RX0_146 rfl rfl g1) ?_
  refine XE.gd_ (fun g2 => ?_)
  refine XE.go (st_get (pc' := 7) (by decide +kernel) rfl cls_2 fld_RX0_149 rfl rfl g2) ?_
  refine XE.go (st_aload_n (j := 1) (i := 1) (pc' := 8) (by decide +kernel) rfl rfl (by decide) rfl) ?_
  refine XE.go (st_get (pc' := 11) (by decide +kernel) rfl cls_3 fld_RX0_182 rfl rfl g1) ?_
  refine XE.ite (fun h3 => ?_) (fun h4 => ?_)
  · refine XE.go (st_icmp_lt_t (off := 5) (pc' := 16) (by decide +kernel) (by decide) h3) ?_
    refine XE.go (st_aload_n (j := 0) (i := 0) (pc' := 17) (by decide +kernel) rfl rfl (by decide) rfl) ?_
    refine XE.go (st_aload_n (j := 1) (i := 1) (pc' := 18) (by decide +kernel) rfl rfl (by decide) rfl) ?_
    refine XE.go (st_iload_n (j := 2) (i := 2) (pc' := 19) (by decide +kernel) rfl rfl rfl) ?_
    refine XE.cP (pc' := 22) (st := []) (fun r hr => ct_X0_firstDue h0 r hr) (fun r hr => run_V (st := []) (by decide +kernel) co_X0_deliverNext_185 (ct_X0_firstDue h0 r hr) rfl h0 rfl rfl (Nat.le_of_ble_eq_true rfl)) rfl rfl (fun r5 => ?_)
    refine XE.go (st_astore_n (j := 3) (i := 3) (pc' := 23) (by decide +kernel) rfl (by decide) rfl (by decide) rfl rfl) ?_
    refine XE.go (st_aload_n (j := 3) (i := 3) (pc' := 24) (by decide +kernel) rfl rfl (by decide) rfl) ?_
    refine XE.ite (fun h6 => ?_) (fun h7 => ?_)
    · refine XE.go (st_ifnull_t (off := 19) (pc' := 43) (by decide +kernel) (by decide) h6 (by decide)) ?_
      refine XE.go (st_iconst (n := 1) (pc' := 44) (by decide +kernel) (w_eq (by decide) (by decide)) rfl) ?_
      refine XE.go (st_istore (j := 4) (pc' := 46) (by decide +kernel)  rfl (by decide) rfl rfl) ?_
      refine XE.pick [2, 3, 4, 0] (L' := [(0, (4, a0)), (1, (7, a1)), (2, (0, a2)), (4, (0, 1))]) rfl ?_
      refine XE.loopX (n := 1000) (s0 := (1, M)) (pcL := 46) (pcE := 141) (LL := fun (s8 : Int × Mm) => [(0, (4, a0)), (1, (7, a1)), (2, (0, a2)), (4, (0, s8.1))]) (sL := fun _ => []) (ML := fun (s8 : Int × Mm) => s8.2) (LE := fun (t9 : Mm) => []) (sE := fun _ => []) (ME := fun (t9 : Mm) => t9) (fun kk35 hx34 hc32 he33 s8 => ?_) (fun t9 => ?_)
      · unfold b_X0_deliverNext_46
        refine XE.go (st_iload (j := 4) (pc' := 48) (by decide +kernel) rfl rfl) ?_
        refine XE.go (st_aload_n (j := 0) (i := 0) (pc' := 49) (by decide +kernel) rfl rfl (by decide) rfl) ?_
        refine XE.go (st_get (pc' := 52) (by decide +kernel) rfl cls_0 fld_RX0_11 rfl rfl h0) ?_
        refine XE.gdb (fun g36 => ?_)
        refine XE.go (st_alen (k := 24) (pc' := 53) (by decide +kernel) rfl ak_24 rfl (by decide) g36) ?_
        refine XE.bite (fun h37 => ?_) (fun h38 => ?_)
        · refine XE.go (st_icmp_gt_t (off := 88) (pc' := 141) (by decide +kernel) (by decide) h37) ?_
          exact XE.pick [] rfl (he33 s8.2)
        · refine XE.go (st_icmp_gt_f (off := 88) (pc' := 56) (by decide +kernel) 141 (by decide) rfl h38) ?_
          refine XE.go (st_aload_n (j := 0) (i := 0) (pc' := 57) (by decide +kernel) rfl rfl (by decide) rfl) ?_
          refine XE.go (st_aload_n (j := 1) (i := 1) (pc' := 58) (by decide +kernel) rfl rfl (by decide) rfl) ?_
          refine XE.go (st_get (pc' := 61) (by decide +kernel) rfl cls_3 fld_RX0_193 rfl rfl g1) ?_
          refine XE.go (st_iload (j := 4) (pc' := 63) (by decide +kernel) rfl rfl) ?_
          refine XE.go (st_iadd (pc' := 64) (by decide +kernel) rfl) ?_
          refine XE.go (st_aload_n (j := 0) (i := 0) (pc' := 65) (by decide +kernel) rfl rfl (by decide) rfl) ?_
          refine XE.go (st_get (pc' := 68) (by decide +kernel) rfl cls_0 fld_RX0_11 rfl rfl h0) ?_
          refine XE.go (st_alen (k := 24) (pc' := 69) (by decide +kernel) rfl ak_24 rfl (by decide) g36) ?_
          refine XE.gdb (fun g39 => ?_)
          refine XE.go (st_irem (pc' := 70) (by decide +kernel) g39 rfl) ?_
          refine XE.asc ?_
          refine XE.cP (pc' := 73) (st := []) (fun r hr => ct_X0_shareAt h0 r hr) (fun r hr => run_V (st := []) (by decide +kernel) co_X0_deliverNext_196 (ct_X0_shareAt h0 r hr) rfl h0 rfl rfl (Nat.le_of_ble_eq_true rfl)) rfl rfl (fun r40 => ?_)
          refine XE.go (st_astore (j := 5) (pc' := 75) (by decide +kernel)  (by decide) rfl (by decide) rfl rfl) ?_
          refine XE.go (st_aload (j := 5) (pc' := 77) (by decide +kernel) rfl (by decide) rfl) ?_
          refine XE.bite (fun h41 => ?_) (fun h42 => ?_)
          · refine XE.go (st_ifnull_t (off := 58) (pc' := 135) (by decide +kernel) (by decide) h41 (by decide)) ?_
            refine XE.go (st_iinc (j := 4) (n := 1) (pc' := 138) (by decide +kernel) rfl rfl (by decide) rfl rfl) ?_
            refine XE.go (st_goto (off := (-92)) (pc' := 46) (by decide +kernel) (by decide)) ?_
            exact XE.pick [2, 3, 4, 0] rfl (hc32 ((w (s8.1 + 1)), s8.2))
          · refine XE.go (st_ifnull_f (off := 58) (pc' := 80) (by decide +kernel) (by decide) h42 rfl) ?_
            refine XE.go (st_aload (j := 5) (pc' := 82) (by decide +kernel) rfl (by decide) rfl) ?_
            refine XE.go (st_get (pc' := 85) (by decide +kernel) rfl cls_8 fld_RX0_76 rfl rfl h42) ?_
            refine XE.go (st_aload_n (j := 1) (i := 1) (pc' := 86) (by decide +kernel) rfl rfl (by decide) rfl) ?_
            refine XE.bite (fun h43 => ?_) (fun h44 => ?_)
            · refine XE.go (st_acmp_ne_f (off := 49) (pc' := 89) (by decide +kernel) 135 (by decide) (by decide) (by decide) h43 rfl) ?_
              refine XE.go (st_aload (j := 5) (pc' := 91) (by decide +kernel) rfl (by decide) rfl) ?_
              refine XE.go (st_get (pc' := 94) (by decide +kernel) rfl cls_8 fld_RX0_130 rfl rfl h42) ?_
              refine XE.gdb (fun g45 => ?_)
              refine XE.go (st_get (pc' := 97) (by decide +kernel) rfl cls_5 fld_RX0_200 rfl rfl g45) ?_
              refine XE.bite (fun h46 => ?_) (fun h47 => ?_)
              · refine XE.go (st_ifnull_t (off := 38) (pc' := 135) (by decide +kernel) (by decide) h46 (by decide)) ?_
                refine XE.go (st_iinc (j := 4) (n := 1) (pc' := 138) (by decide +kernel) rfl rfl (by decide) rfl rfl) ?_
                refine XE.go (st_goto (off := (-92)) (pc' := 46) (by decide +kernel) (by decide)) ?_
                exact XE.pick [2, 3, 4, 0] rfl (hc32 ((w (s8.1 + 1)), s8.2))
              · refine XE.go (st_ifnull_f (off := 38) (pc' := 100) (by decide +kernel) (by decide) h47 rfl) ?_
                refine XE.go (st_aload_n (j := 0) (i := 0) (pc' := 101) (by decide +kernel) rfl rfl (by decide) rfl) ?_
                refine XE.go (st_aload (j := 5) (pc' := 103) (by decide +kernel) rfl (by decide) rfl) ?_
                refine XE.go (st_iload_n (j := 2) (i := 2) (pc' := 104) (by decide +kernel) rfl rfl rfl) ?_
                refine XE.asc ?_
                refine XE.cW (pc' := 107) (st := []) (fun r hr => ct_X0_nextOfLog h0 r hr) (fun r hr => run_V (st := []) (by decide +kernel) co_X0_deliverNext_204 (ct_X0_nextOfLog h0 r hr) rfl h0 rfl rfl (Nat.le_of_ble_eq_true rfl)) rfl rfl (fun r48 => ?_)
                refine XE.go (st_astore (j := 6) (pc' := 109) (by decide +kernel)  (by decide) rfl (by decide) rfl rfl) ?_
                refine XE.go (st_aload (j := 6) (pc' := 111) (by decide +kernel) rfl (by decide) rfl) ?_
                refine XE.bite (fun h49 => ?_) (fun h50 => ?_)
                · refine XE.go (st_ifnull_t (off := 24) (pc' := 135) (by decide +kernel) (by decide) h49 (by decide)) ?_
                  refine XE.go (st_iinc (j := 4) (n := 1) (pc' := 138) (by decide +kernel) rfl rfl (by decide) rfl rfl) ?_
                  refine XE.go (st_goto (off := (-92)) (pc' := 46) (by decide +kernel) (by decide)) ?_
                  exact XE.pick [3, 4, 5, 0] rfl (hc32 ((w (s8.1 + 1)), r48.2))
                · refine XE.go (st_ifnull_f (off := 24) (pc' := 114) (by decide +kernel) (by decide) h50 rfl) ?_
                  refine XE.go (st_aload_n (j := 1) (i := 1) (pc' := 115) (by decide +kernel) rfl rfl (by decide) rfl) ?_
                  refine XE.go (st_aload (j := 5) (pc' := 117) (by decide +kernel) rfl (by decide) rfl) ?_
                  refine XE.go (st_get (pc' := 120) (by decide +kernel) rfl cls_8 fld_RX0_130 rfl rfl h42) ?_
                  refine XE.gdb (fun g51 => ?_)
                  refine XE.go (st_get (pc' := 123) (by decide +kernel) rfl cls_5 fld_RX0_57 rfl rfl g51) ?_
                  refine XE.asc ?_
                  refine XE.goM (st_put (pc' := 126) (by decide +kernel) rfl cls_3 fld_RX0_193 rfl rfl (fun h => absurd h (by decide)) (fun h => nomatch h) g1) (fun M52 => ?_)
                  refine XE.go (st_aload_n (j := 0) (i := 0) (pc' := 127) (by decide +kernel) rfl rfl (by decide) rfl) ?_
                  refine XE.go (st_aload_n (j := 1) (i := 1) (pc' := 128) (by decide +kernel) rfl rfl (by decide) rfl) ?_
                  refine XE.go (st_aload (j := 6) (pc' := 130) (by decide +kernel) rfl (by decide) rfl) ?_
                  refine XE.go (st_iconst (n := 0) (pc' := 131) (by decide +kernel) (w_eq (by decide) (by decide)) rfl) ?_
                  refine XE.asc ?_
                  refine XE.cW (pc' := 134) (st := []) (fun r hr => ct_X0_deliver h0 r hr) (fun r hr => run_V (st := []) (by decide +kernel) co_X0_deliverNext_189 (ct_X0_deliver h0 r hr) rfl h0 rfl rfl (Nat.le_of_ble_eq_true rfl)) rfl rfl (fun r53 => ?_)
                  refine XE.cast (hx34 _) ?_
                  exact XE.rt rfl (X_aret (by decide +kernel) rfl (Or.inl ⟨_, rfl⟩) (by decide))
            · refine XE.go (st_acmp_ne_t (off := 49) (pc' := 135) (by decide +kernel) (by decide) (by decide) h44 (by decide)) ?_
              refine XE.go (st_iinc (j := 4) (n := 1) (pc' := 138) (by decide +kernel) rfl rfl (by decide) rfl rfl) ?_
              refine XE.go (st_goto (off := (-92)) (pc' := 46) (by decide +kernel) (by decide)) ?_
              exact XE.pick [2, 3, 4, 0] rfl (hc32 ((w (s8.1 + 1)), s8.2))
      · refine XE.go (st_null (t := 5) (pc' := 142) (by decide +kernel) (by decide) rfl) ?_
        exact XE.rt rfl (X_aret (by decide +kernel) rfl (Or.inl ⟨_, rfl⟩) (by decide))
    · refine XE.go (st_ifnull_f (off := 19) (pc' := 27) (by decide +kernel) (by decide) h7 rfl) ?_
      refine XE.go (st_aload_n (j := 0) (i := 0) (pc' := 28) (by decide +kernel) rfl rfl (by decide) rfl) ?_
      refine XE.go (st_get (pc' := 31) (by decide +kernel) rfl cls_0 fld_RX0_34 rfl rfl h0) ?_
      refine XE.go (st_aload_n (j := 3) (i := 3) (pc' := 32) (by decide +kernel) rfl rfl (by decide) rfl) ?_
      refine XE.gd_ (fun g54 => ?_)
      refine XE.cV (pc' := 35) (st := []) (fun r hr => ct_X2_removeLetter g54 r hr) (fun r hr => run_V (st := []) (by decide +kernel) co_X0_deliverNext_161 (ct_X2_removeLetter g54 r hr) rfl g54 rfl rfl (Nat.le_of_ble_eq_true rfl)) rfl rfl (fun M55 => ?_)
      refine XE.go (st_aload_n (j := 0) (i := 0) (pc' := 36) (by decide +kernel) rfl rfl (by decide) rfl) ?_
      refine XE.go (st_aload_n (j := 1) (i := 1) (pc' := 37) (by decide +kernel) rfl rfl (by decide) rfl) ?_
      refine XE.go (st_aload_n (j := 3) (i := 3) (pc' := 38) (by decide +kernel) rfl rfl (by decide) rfl) ?_
      refine XE.go (st_iconst (n := 1) (pc' := 39) (by decide +kernel) (w_eq (by decide) (by decide)) rfl) ?_
      refine XE.cW (pc' := 42) (st := []) (fun r hr => ct_X0_deliver h0 r hr) (fun r hr => run_V (st := []) (by decide +kernel) co_X0_deliverNext_189 (ct_X0_deliver h0 r hr) rfl h0 rfl rfl (Nat.le_of_ble_eq_true rfl)) rfl rfl (fun r56 => ?_)
      exact XE.rt rfl (X_aret (by decide +kernel) rfl (Or.inl ⟨_, rfl⟩) (by decide))
  · refine XE.go (st_icmp_lt_f (off := 5) (pc' := 14) (by decide +kernel) 16 (by decide) rfl h4) ?_
    refine XE.go (st_null (t := 5) (pc' := 15) (by decide +kernel) (by decide) rfl) ?_
    exact XE.rt rfl (X_aret (by decide +kernel) rfl (Or.inl ⟨_, rfl⟩) (by decide))
theorem ct_X0_deliverNext {D : Dt} {M : Mm} {a0 a1 a2 : Int} (h0 : a0 ≠ 0) (r : (Int × Mm)) (hr : p_X0_deliverNext M a0 a1 a2 = some r) : CT D 0 mu_X0_deliverNext [(4, a0), (7, a1), (0, a2)] M (.inl (some (5, r.1))) r.2 := CT.of (by decide +kernel) rfl (Nat.le_of_ble_eq_true rfl) (xe_X0_deliverNext h0 r hr)
def p_X10_read (M : Mm) (a0 a1 a2 : Int) : Option (Int × Int × Mm) := (p_X10_groupOf M a0 a1).bind (thT psT fun v1 M2 => (p_X10_memberOf M2 v1 a2).bind (thT psT fun v3 M4 => gd (v1 ≠ 0) ((p_X0_deliverNext M4 v1 v3 (rd M4 a0 15)).bind fun r6 => if r6.1 = 0 then some (0, (-1), r6.2) else gd ((rd r6.2 r6.1 0) ≠ 0) (some (0, (rd r6.2 (rd r6.2 r6.1 0) 0), r6.2)))))
set_option maxRecDepth 100000 in
set_option maxHeartbeats 4000000 in
theorem xe_X10_read {D : Dt} {M : Mm} {a0 a1 a2 : Int} (h0 : a0 ≠ 0) : XE D 0 mu_X10_read (ET 0) 0 [(0, (14, a0)), (1, (0, a1)), (2, (0, a2))] [] M (p_X10_read M a0 a1 a2) := by
  unfold p_X10_read
  refine XE.go (st_aload_n (j := 0) (i := 0) (pc' := 1) (by decide +kernel) rfl rfl (by decide) rfl) ?_
  refine XE.go (st_iload_n (j := 1) (i := 1) (pc' := 2) (by decide +kernel) rfl rfl rfl) ?_
  refine XE.cTg (pc' := 5) (st := []) hfT (fun r hr => ct_X10_groupOf h0 r hr) (fun r hr => run_V (st := []) (by decide +kernel) co_X10_read_334 (ct_X10_groupOf h0 r hr) rfl h0 rfl rfl (Nat.le_of_ble_eq_true rfl)) rfl rfl rfl (fun v1 M2 => ?_)
  refine XE.go (st_astore_n (j := 3) (i := 3) (pc' := 6) (by decide +kernel) rfl (by decide) rfl (by decide) rfl rfl) ?_
  refine XE.go (st_aload_n (j := 3) (i := 3) (pc' := 7) (by decide +kernel) rfl rfl (by decide) rfl) ?_
  refine XE.go (st_aload_n (j := 3) (i := 3) (pc' := 8) (by decide +kernel) rfl rfl (by decide) rfl) ?_
  refine XE.go (st_iload_n (j := 2) (i := 2) (pc' := 9) (by decide +kernel) rfl rfl rfl) ?_
  refine XE.cTg (pc' := 12) (st := [(4, v1)]) hfT (fun r hr => ct_X10_memberOf r hr) (fun r hr => run_S (st := [(4, v1)]) (by decide +kernel) co_X10_read_338 (ct_X10_memberOf r hr) rfl rfl (Nat.le_of_ble_eq_true rfl)) rfl rfl rfl (fun v3 M4 => ?_)
  refine XE.go (st_aload_n (j := 0) (i := 0) (pc' := 13) (by decide +kernel) rfl rfl (by decide) rfl) ?_
  refine XE.go (st_get (pc' := 16) (by decide +kernel) rfl cls_10 fld_RX10_70 rfl rfl h0) ?_
  refine XE.gd_ (fun g5 => ?_)
  refine XE.cW (pc' := 19) (st := []) (fun r hr => ct_X0_deliverNext g5 r hr) (fun r hr => run_V (st := []) (by decide +kernel) co_X10_read_420 (ct_X0_deliverNext g5 r hr) rfl g5 rfl rfl (Nat.le_of_ble_eq_true rfl)) rfl rfl (fun r6 => ?_)
  refine XE.go (st_astore (j := 4) (pc' := 21) (by decide +kernel)  (by decide) rfl (by decide) rfl rfl) ?_
  refine XE.go (st_aload (j := 4) (pc' := 23) (by decide +kernel) rfl (by decide) rfl) ?_
  refine XE.ite (fun h7 => ?_) (fun h8 => ?_)
  · refine XE.go (st_ifnonnull_f (off := 7) (pc' := 26) (by decide +kernel) (by decide) h7 rfl) ?_
    refine XE.go (st_iconst (n := (-1)) (pc' := 27) (by decide +kernel) (w_eq (by decide) (by decide)) rfl) ?_
    refine XE.go (st_goto (off := 11) (pc' := 38) (by decide +kernel) (by decide)) ?_
    exact XE.rt rfl (X_iret (by decide +kernel) rfl)
  · refine XE.go (st_ifnonnull_t (off := 7) (pc' := 30) (by decide +kernel) (by decide) h8 (by decide)) ?_
    refine XE.go (st_aload (j := 4) (pc' := 32) (by decide +kernel) rfl (by decide) rfl) ?_
    refine XE.go (st_get (pc' := 35) (by decide +kernel) rfl cls_1 fld_RX10_424 rfl rfl h8) ?_
    refine XE.gd_ (fun g9 => ?_)
    refine XE.go (st_get (pc' := 38) (by decide +kernel) rfl cls_4 fld_RX10_323 rfl rfl g9) ?_
    exact XE.rt rfl (X_iret (by decide +kernel) rfl)
theorem ct_X10_read {D : Dt} {M : Mm} {a0 a1 a2 : Int} (h0 : a0 ≠ 0) (r : (Int × Int × Mm)) (hr : p_X10_read M a0 a1 a2 = some r) : CT D 0 mu_X10_read [(14, a0), (0, a1), (0, a2)] M (ET 0 r).1 (ET 0 r).2 := CT.of (by decide +kernel) rfl (Nat.le_of_ble_eq_true rfl) (xe_X10_read h0 r hr)
def b_X2_ofMessage_2 (M : Mm) (a0 : Int) (a1 : Int) (s1 : Int) : Option ((Int) ⊕ ((Int) ⊕ (Unit))) := if s1 < (rd M a0 1) then (p_X2_get M a0 s1).bind fun r21 => if r21 = 0 then some (.inl (w (s1 + 1))) else gd ((rd M r21 0) ≠ 0) (if (rd M (rd M r21 0) 0) = a1 then some (.inr (.inl (r21))) else some (.inl (w (s1 + 1)))) else some (.inr (.inr ()))
def p_X2_ofMessage (M : Mm) (a0 a1 : Int) : Option Int := (lp (b_X2_ofMessage_2 M a0 a1) 1000 0).bind (Sum.elim some fun (t2 : Unit) => some (0))
set_option maxRecDepth 100000 in
set_option maxHeartbeats 4000000 in
theorem xe_X2_ofMessage {D : Dt} {M : Mm} {a0 a1 : Int} (h0 : a0 ≠ 0) : XE D 0 mu_X2_ofMessage (EP 5 M) 0 [(0, (6, a0)), (1, (0, a1))] [] M (p_X2_ofMessage M a0 a1) := by
  unfold p_X2_ofMessage
  refine XE.go (st_iconst (n := 0) (pc' := 1) (by decide +kernel) (w_eq (by decide) (by decide)) rfl) ?_
  refine XE.go (st_istore_n (j := 2) (i := 2) (pc' := 2) (by decide +kernel) rfl rfl (by decide) rfl rfl) ?_
  refine XE.pick [1, 2, 0] (L' := [(0, (6, a0)), (1, (0, a1)), (2, (0, 0))]) rfl ?_
  refine XE.loopX (n := 1000) (s0 := 0) (pcL := 2) (pcE := 39) (LL := fun (s1 : Int) => [(0, (6, a0)), (1, (0, a1)), (2, (0, s1))]) (sL := fun _ => []) (ML := fun (s1 : Int) => M) (LE := fun (t2 : Unit) => []) (sE := fun _ => []) (ME := fun (t2 : Unit) => M) (fun kk18 hx17 hc15 he16 s1 => ?_) (fun t2 => ?_)
  · unfold b_X2_ofMessage_2
    refine XE.go (st_iload_n (j := 2) (i := 2) (pc' := 3) (by decide +kernel) rfl rfl rfl) ?_
    refine XE.go (st_aload_n (j := 0) (i := 0) (pc' := 4) (by decide +kernel) rfl rfl (by decide) rfl) ?_
    refine XE.go (st_get (pc' := 7) (by decide +kernel) rfl cls_2 fld_RX2_7 rfl rfl h0) ?_
    refine XE.bite (fun h19 => ?_) (fun h20 => ?_)
    · refine XE.go (st_icmp_ge_f (off := 32) (pc' := 10) (by decide +kernel) 39 (by decide) rfl (Int.not_le.mpr h19)) ?_
      refine XE.go (st_aload_n (j := 0) (i := 0) (pc' := 11) (by decide +kernel) rfl rfl (by decide) rfl) ?_
      refine XE.go (st_iload_n (j := 2) (i := 2) (pc' := 12) (by decide +kernel) rfl rfl rfl) ?_
      refine XE.asc ?_
      refine XE.cP (pc' := 15) (st := []) (fun r hr => ct_X2_get h0 r hr) (fun r hr => run_V (st := []) (by decide +kernel) co_X2_ofMessage_19 (ct_X2_get h0 r hr) rfl h0 rfl rfl (Nat.le_of_ble_eq_true rfl)) rfl rfl (fun r21 => ?_)
      refine XE.go (st_astore_n (j := 3) (i := 3) (pc' := 16) (by decide +kernel) rfl (by decide) rfl (by decide) rfl rfl) ?_
      refine XE.go (st_aload_n (j := 3) (i := 3) (pc' := 17) (by decide +kernel) rfl rfl (by decide) rfl) ?_
      refine XE.bite (fun h22 => ?_) (fun h23 => ?_)
      · refine XE.go (st_ifnull_t (off := 16) (pc' := 33) (by decide +kernel) (by decide) h22 (by decide)) ?_
        refine XE.go (st_iinc (j := 2) (n := 1) (pc' := 36) (by decide +kernel) rfl rfl (by decide) rfl rfl) ?_
        refine XE.go (st_goto (off := (-34)) (pc' := 2) (by decide +kernel) (by decide)) ?_
        exact XE.pick [2, 3, 0] rfl (hc15 (w (s1 + 1)))
      · refine XE.go (st_ifnull_f (off := 16) (pc' := 20) (by decide +kernel) (by decide) h23 rfl) ?_
        refine XE.go (st_aload_n (j := 3) (i := 3) (pc' := 21) (by decide +kernel) rfl rfl (by decide) rfl) ?_
        refine XE.go (st_get (pc' := 24) (by decide +kernel) rfl cls_1 fld_RX2_23 rfl rfl h23) ?_
        refine XE.gdb (fun g24 => ?_)
        refine XE.go (st_get (pc' := 27) (by decide +kernel) rfl cls_4 fld_RX2_27 rfl rfl g24) ?_
        refine XE.go (st_iload_n (j := 1) (i := 1) (pc' := 28) (by decide +kernel) rfl rfl rfl) ?_
        refine XE.bite (fun h25 => ?_) (fun h26 => ?_)
        · refine XE.go (st_icmp_ne_f (off := 5) (pc' := 31) (by decide +kernel) 33 (by decide) rfl (not_not_intro h25)) ?_
          refine XE.go (st_aload_n (j := 3) (i := 3) (pc' := 32) (by decide +kernel) rfl rfl (by decide) rfl) ?_
          refine XE.cast (hx17 _) ?_
          exact XE.rt rfl (X_aret (by decide +kernel) rfl (Or.inl ⟨_, rfl⟩) (by decide))
        · refine XE.go (st_icmp_ne_t (off := 5) (pc' := 33) (by decide +kernel) (by decide) h26) ?_
          refine XE.go (st_iinc (j := 2) (n := 1) (pc' := 36) (by decide +kernel) rfl rfl (by decide) rfl rfl) ?_
          refine XE.go (st_goto (off := (-34)) (pc' := 2) (by decide +kernel) (by decide)) ?_
          exact XE.pick [2, 3, 0] rfl (hc15 (w (s1 + 1)))
    · refine XE.go (st_icmp_ge_t (off := 32) (pc' := 39) (by decide +kernel) (by decide) (Int.not_lt.mp h20)) ?_
      exact XE.pick [] rfl (he16 ())
  · refine XE.go (st_null (t := 5) (pc' := 40) (by decide +kernel) (by decide) rfl) ?_
    exact XE.rt rfl (X_aret (by decide +kernel) rfl (Or.inl ⟨_, rfl⟩) (by decide))
theorem ct_X2_ofMessage {D : Dt} {M : Mm} {a0 a1 : Int} (h0 : a0 ≠ 0) (r : Int) (hr : p_X2_ofMessage M a0 a1 = some r) : CT D 0 mu_X2_ofMessage [(6, a0), (0, a1)] M (.inl (some (5, r))) M := CT.of (by decide +kernel) rfl (Nat.le_of_ble_eq_true rfl) (xe_X2_ofMessage h0 r hr)
def p_X10_letterInHand (M : Mm) (a0 a1 : Int) : Option (Int × Int × Mm) := gd (a0 ≠ 0) (gd ((rd M a0 1) ≠ 0) ((p_X2_ofMessage M (rd M a0 1) a1).bind fun r3 => if r3 = 0 then psT 3 0 (thr M) else some (0, r3, M)))
set_option maxRecDepth 100000 in
set_option maxHeartbeats 4000000 in
theorem xe_X10_letterInHand {D : Dt} {M : Mm} {a0 a1 : Int} : XE D 0 mu_X10_letterInHand (ET 5) 0 [(0, (7, a0)), (1, (0, a1))] [] M (p_X10_letterInHand M a0 a1) := by
  unfold p_X10_letterInHand
  refine XE.go (st_aload_n (j := 0) (i := 0) (pc' := 1) (by decide +kernel) rfl rfl (by decide) rfl) ?_
  refine XE.gd_ (fun g1 => ?_)
  refine XE.go (st_get (pc' := 4) (by decide +kernel) rfl cls_3 fld_RX10_408 rfl rfl g1) ?_
  refine XE.go (st_iload_n (j := 1) (i := 1) (pc' := 5) (by decide +kernel) rfl rfl rfl) ?_
  refine XE.gd_ (fun g2 => ?_)
  refine XE.cP (pc' := 8) (st := []) (fun r hr => ct_X2_ofMessage g2 r hr) (fun r hr => run_V (st := []) (by decide +kernel) co_X10_letterInHand_657 (ct_X2_ofMessage g2 r hr) rfl g2 rfl rfl (Nat.le_of_ble_eq_true rfl)) rfl rfl (fun r3 => ?_)
  refine XE.go (st_astore_n (j := 2) (i := 2) (pc' := 9) (by decide +kernel) rfl (by decide) rfl (by decide) rfl rfl) ?_
  refine XE.go (st_aload_n (j := 2) (i := 2) (pc' := 10) (by decide +kernel) rfl rfl (by decide) rfl) ?_
  refine XE.ite (fun h4 => ?_) (fun h5 => ?_)
  · refine XE.go (st_ifnonnull_f (off := 14) (pc' := 13) (by decide +kernel) (by decide) h4 rfl) ?_
    exact XE.thrTW (by decide +kernel) (by decide +kernel) (by decide +kernel) (by decide +kernel) (by decide +kernel) thr_RX10_660 rfl (by decide) (by decide) (by decide)
  · refine XE.go (st_ifnonnull_t (off := 14) (pc' := 24) (by decide +kernel) (by decide) h5 (by decide)) ?_
    refine XE.go (st_aload_n (j := 2) (i := 2) (pc' := 25) (by decide +kernel) rfl rfl (by decide) rfl) ?_
    exact XE.rt rfl (X_aret (by decide +kernel) rfl (Or.inl ⟨_, rfl⟩) (by decide))
theorem ct_X10_letterInHand {D : Dt} {M : Mm} {a0 a1 : Int} (r : (Int × Int × Mm)) (hr : p_X10_letterInHand M a0 a1 = some r) : CT D 0 mu_X10_letterInHand [(7, a0), (0, a1)] M (ET 5 r).1 (ET 5 r).2 := CT.of (by decide +kernel) rfl (Nat.le_of_ble_eq_true rfl) (xe_X10_letterInHand r hr)
def p_X10_done (M : Mm) (a0 a1 a2 a3 : Int) : Option (Int × Int × Mm) := (p_X10_groupOf M a0 a1).bind (thT psT fun v1 M2 => (p_X10_memberOf M2 v1 a2).bind (thT psT fun v3 M4 => (p_X10_letterInHand M4 v3 a3).bind (thT psT fun v5 M6 => gd (v5 ≠ 0) ((some (wr M6 v5 1 0)).bind fun M8 => gd (v3 ≠ 0) (gd ((rd M8 v3 1) ≠ 0) ((p_X2_removeLetter M8 (rd M8 v3 1) v5).bind fun M11 => gd ((rd M11 v3 1) ≠ 0) (some (0, (rd M11 (rd M11 v3 1) 1), M11))))))))
set_option maxRecDepth 100000 in
set_option maxHeartbeats 4000000 in
theorem xe_X10_done {D : Dt} {M : Mm} {a0 a1 a2 a3 : Int} (h0 : a0 ≠ 0) : XE D 0 mu_X10_done (ET 0) 0 [(0, (14, a0)), (1, (0, a1)), (2, (0, a2)), (3, (0, a3))] [] M (p_X10_done M a0 a1 a2 a3) := by
  unfold p_X10_done
  refine XE.go (st_aload_n (j := 0) (i := 0) (pc' := 1) (by decide +kernel) rfl rfl (by decide) rfl) ?_
  refine XE.go (st_iload_n (j := 1) (i := 1) (pc' := 2) (by decide +kernel) rfl rfl rfl) ?_
  refine XE.cTg (pc' := 5) (st := []) hfT (fun r hr => ct_X10_groupOf h0 r hr) (fun r hr => run_V (st := []) (by decide +kernel) co_X10_done_334 (ct_X10_groupOf h0 r hr) rfl h0 rfl rfl (Nat.le_of_ble_eq_true rfl)) rfl rfl rfl (fun v1 M2 => ?_)
  refine XE.go (st_iload_n (j := 2) (i := 2) (pc' := 6) (by decide +kernel) rfl rfl rfl) ?_
  refine XE.cTg (pc' := 9) (st := []) hfT (fun r hr => ct_X10_memberOf r hr) (fun r hr => run_S (st := []) (by decide +kernel) co_X10_done_338 (ct_X10_memberOf r hr) rfl rfl (Nat.le_of_ble_eq_true rfl)) rfl rfl rfl (fun v3 M4 => ?_)
  refine XE.go (st_astore (j := 4) (pc' := 11) (by decide +kernel)  (by decide) rfl (by decide) rfl rfl) ?_
  refine XE.go (st_aload (j := 4) (pc' := 13) (by decide +kernel) rfl (by decide) rfl) ?_
  refine XE.go (st_iload_n (j := 3) (i := 3) (pc' := 14) (by decide +kernel) rfl rfl rfl) ?_
  refine XE.cTg (pc' := 17) (st := []) hfT (fun r hr => ct_X10_letterInHand r hr) (fun r hr => run_S (st := []) (by decide +kernel) co_X10_done_430 (ct_X10_letterInHand r hr) rfl rfl (Nat.le_of_ble_eq_true rfl)) rfl rfl rfl (fun v5 M6 => ?_)
  refine XE.go (st_astore (j := 5) (pc' := 19) (by decide +kernel)  (by decide) rfl (by decide) rfl rfl) ?_
  refine XE.go (st_aload (j := 5) (pc' := 21) (by decide +kernel) rfl (by decide) rfl) ?_
  refine XE.go (st_iconst (n := 0) (pc' := 22) (by decide +kernel) (w_eq (by decide) (by decide)) rfl) ?_
  refine XE.gd_ (fun g7 => ?_)
  refine XE.goM (st_put (pc' := 25) (by decide +kernel) rfl cls_1 fld_RX10_433 rfl rfl (fun h => absurd h (by decide)) (fun h => nomatch h) g7) (fun M8 => ?_)
  refine XE.go (st_aload (j := 4) (pc' := 27) (by decide +kernel) rfl (by decide) rfl) ?_
  refine XE.gd_ (fun g9 => ?_)
  refine XE.go (st_get (pc' := 30) (by decide +kernel) rfl cls_3 fld_RX10_408 rfl rfl g9) ?_
  refine XE.go (st_aload (j := 5) (pc' := 32) (by decide +kernel) rfl (by decide) rfl) ?_
  refine XE.gd_ (fun g10 => ?_)
  refine XE.cV (pc' := 35) (st := []) (fun r hr => ct_X2_removeLetter g10 r hr) (fun r hr => run_V (st := []) (by decide +kernel) co_X10_done_436 (ct_X2_removeLetter g10 r hr) rfl g10 rfl rfl (Nat.le_of_ble_eq_true rfl)) rfl rfl (fun M11 => ?_)
  refine XE.go (st_aload (j := 4) (pc' := 37) (by decide +kernel) rfl (by decide) rfl) ?_
  refine XE.go (st_get (pc' := 40) (by decide +kernel) rfl cls_3 fld_RX10_408 rfl rfl g9) ?_
  refine XE.gd_ (fun g12 => ?_)
  refine XE.go (st_get (pc' := 43) (by decide +kernel) rfl cls_2 fld_RX10_412 rfl rfl g12) ?_
  exact XE.rt rfl (X_iret (by decide +kernel) rfl)
theorem ct_X10_done {D : Dt} {M : Mm} {a0 a1 a2 a3 : Int} (h0 : a0 ≠ 0) (r : (Int × Int × Mm)) (hr : p_X10_done M a0 a1 a2 a3 = some r) : CT D 0 mu_X10_done [(14, a0), (0, a1), (0, a2), (0, a3)] M (ET 0 r).1 (ET 0 r).2 := CT.of (by decide +kernel) rfl (Nat.le_of_ble_eq_true rfl) (xe_X10_done h0 r hr)
def b_X0_sendBackBehind_11 (a1 : Int) (a2 : Int) (a0 : Int) (a3 : Int) (s5 : Int × Mm) : Option ((Int × Mm) ⊕ ((Mm) ⊕ (Mm))) := if s5.1 < 0 then some (.inr (.inr s5.2)) else gd ((rd s5.2 a1 1) ≠ 0) ((p_X2_get s5.2 (rd s5.2 a1 1) s5.1).bind fun r32 => if r32 = a2 then some (.inr (.inl (s5.2))) else if r32 = 0 then some (.inl ((w (s5.1 + (-1))), s5.2)) else gd (a2 ≠ 0) ((p_X1_isOfRow s5.2 r32 (rd s5.2 a2 0)).bind fun r38 => if r38 = 0 then some (.inl ((w (s5.1 + (-1))), s5.2)) else (p_X2_removeLetter s5.2 (rd s5.2 a1 1) r32).bind fun M41 => (p_X0_putInRow M41 a0 r32 a3).bind fun M42 => some (.inl ((w (s5.1 + (-1))), M42))))
def p_X0_sendBackBehind (M : Mm) (a0 a1 a2 a3 : Int) : Option Mm := gd (a1 ≠ 0) (gd ((rd M a1 1) ≠ 0) ((some ((w ((rd M (rd M a1 1) 1) - 1)))).bind fun v3 => (lp (b_X0_sendBackBehind_11 a1 a2 a0 a3) 1000 (v3, M)).bind (Sum.elim some fun (t6 : Mm) => some (t6))))
set_option maxRecDepth 100000 in
set_option maxHeartbeats 4000000 in
theorem xe_X0_sendBackBehind {D : Dt} {M : Mm} {a0 a1 a2 a3 : Int} (h0 : a0 ≠ 0) : XE D 0 mu_X0_sendBackBehind EV 0 [(0, (4, a0)), (1, (7, a1)), (2, (5, a2)), (3, (0, a3))] [] M (p_X0_sendBackBehind M a0 a1 a2 a3) := by
  unfold p_X0_sendBackBehind
  refine XE.go (st_aload_n (j := 1) (i := 1) (pc' := 1) (by decide +kernel) rfl rfl (by decide) rfl) ?_
  refine XE.gd_ (fun g1 => ?_)
  refine XE.go (st_get (pc' := 4) (by decide +kernel) rfl cls_3 fld_RX0_146 rfl rfl g1) ?_
  refine XE.gd_ (fun g2 => ?_)
  refine XE.go (st_get (pc' := 7) (by decide +kernel) rfl cls_2 fld_RX0_149 rfl rfl g2) ?_
  refine XE.go (st_iconst (n := 1) (pc' := 8) (by decide +kernel) (w_eq (by decide) (by decide)) rfl) ?_
  refine XE.go (st_isub (pc' := 9) (by decide +kernel) rfl) ?_
  refine XE.gen (fun v3 e4 => ?_)
  refine XE.go (st_istore (j := 4) (pc' := 11) (by decide +kernel)  rfl (by decide) rfl rfl) ?_
  refine XE.pick [1, 2, 3, 4, 0] (L' := [(0, (4, a0)), (1, (7, a1)), (2, (5, a2)), (3, (0, a3)), (4, (0, v3))]) rfl ?_
  refine XE.loopX (n := 1000) (s0 := (v3, M)) (pcL := 11) (pcE := 73) (LL := fun (s5 : Int × Mm) => [(0, (4, a0)), (1, (7, a1)), (2, (5, a2)), (3, (0, a3)), (4, (0, s5.1))]) (sL := fun _ => []) (ML := fun (s5 : Int × Mm) => s5.2) (LE := fun (t6 : Mm) => []) (sE := fun _ => []) (ME := fun (t6 : Mm) => t6) (fun kk28 hx27 hc25 he26 s5 => ?_) (fun t6 => ?_)
  · unfold b_X0_sendBackBehind_11
    refine XE.go (st_iload (j := 4) (pc' := 13) (by decide +kernel) rfl rfl) ?_
    refine XE.bite (fun h29 => ?_) (fun h30 => ?_)
    · refine XE.go (st_if_lt_t (off := 60) (pc' := 73) (by decide +kernel) (by decide) h29) ?_
      exact XE.pick [] rfl (he26 s5.2)
    · refine XE.go (st_if_lt_f (off := 60) (pc' := 16) (by decide +kernel) 73 (by decide) rfl h30) ?_
      refine XE.go (st_aload_n (j := 1) (i := 1) (pc' := 17) (by decide +kernel) rfl rfl (by decide) rfl) ?_
      refine XE.go (st_get (pc' := 20) (by decide +kernel) rfl cls_3 fld_RX0_146 rfl rfl g1) ?_
      refine XE.go (st_iload (j := 4) (pc' := 22) (by decide +kernel) rfl rfl) ?_
      refine XE.gdb (fun g31 => ?_)
      refine XE.asc ?_
      refine XE.cP (pc' := 25) (st := []) (fun r hr => ct_X2_get g31 r hr) (fun r hr => run_V (st := []) (by decide +kernel) co_X0_sendBackBehind_152 (ct_X2_get g31 r hr) rfl g31 rfl rfl (Nat.le_of_ble_eq_true rfl)) rfl rfl (fun r32 => ?_)
      refine XE.go (st_astore (j := 5) (pc' := 27) (by decide +kernel)  (by decide) rfl (by decide) rfl rfl) ?_
      refine XE.go (st_aload (j := 5) (pc' := 29) (by decide +kernel) rfl (by decide) rfl) ?_
      refine XE.go (st_aload_n (j := 2) (i := 2) (pc' := 30) (by decide +kernel) rfl rfl (by decide) rfl) ?_
      refine XE.bite (fun h33 => ?_) (fun h34 => ?_)
      · refine XE.go (st_acmp_ne_f (off := 4) (pc' := 33) (by decide +kernel) 34 (by decide) (by decide) (by decide) h33 rfl) ?_
        refine XE.cast (hx27 _) ?_
        exact XE.rt rfl (X_vret (by decide +kernel) rfl)
      · refine XE.go (st_acmp_ne_t (off := 4) (pc' := 34) (by decide +kernel) (by decide) (by decide) h34 (by decide)) ?_
        refine XE.go (st_aload (j := 5) (pc' := 36) (by decide +kernel) rfl (by decide) rfl) ?_
        refine XE.bite (fun h35 => ?_) (fun h36 => ?_)
        · refine XE.go (st_ifnull_t (off := 31) (pc' := 67) (by decide +kernel) (by decide) h35 (by decide)) ?_
          refine XE.go (st_iinc (j := 4) (n := (-1)) (pc' := 70) (by decide +kernel) rfl rfl (by decide) rfl rfl) ?_
          refine XE.go (st_goto (off := (-59)) (pc' := 11) (by decide +kernel) (by decide)) ?_
          exact XE.pick [2, 3, 4, 5, 0] rfl (hc25 ((w (s5.1 + (-1))), s5.2))
        · refine XE.go (st_ifnull_f (off := 31) (pc' := 39) (by decide +kernel) (by decide) h36 rfl) ?_
          refine XE.go (st_aload (j := 5) (pc' := 41) (by decide +kernel) rfl (by decide) rfl) ?_
          refine XE.go (st_aload_n (j := 2) (i := 2) (pc' := 42) (by decide +kernel) rfl rfl (by decide) rfl) ?_
          refine XE.gdb (fun g37 => ?_)
          refine XE.go (st_get (pc' := 45) (by decide +kernel) rfl cls_1 fld_RX0_156 rfl rfl g37) ?_
          refine XE.asc ?_
          refine XE.cP (pc' := 48) (st := []) (fun r hr => ct_X1_isOfRow h36 r hr) (fun r hr => run_V (st := []) (by decide +kernel) co_X0_sendBackBehind_241 (ct_X1_isOfRow h36 r hr) rfl h36 rfl rfl (Nat.le_of_ble_eq_true rfl)) rfl rfl (fun r38 => ?_)
          refine XE.bite (fun h39 => ?_) (fun h40 => ?_)
          · refine XE.go (st_if_eq_t (off := 19) (pc' := 67) (by decide +kernel) (by decide) h39) ?_
            refine XE.go (st_iinc (j := 4) (n := (-1)) (pc' := 70) (by decide +kernel) rfl rfl (by decide) rfl rfl) ?_
            refine XE.go (st_goto (off := (-59)) (pc' := 11) (by decide +kernel) (by decide)) ?_
            exact XE.pick [2, 3, 4, 5, 0] rfl (hc25 ((w (s5.1 + (-1))), s5.2))
          · refine XE.go (st_if_eq_f (off := 19) (pc' := 51) (by decide +kernel) 67 (by decide) rfl h40) ?_
            refine XE.go (st_aload_n (j := 1) (i := 1) (pc' := 52) (by decide +kernel) rfl rfl (by decide) rfl) ?_
            refine XE.go (st_get (pc' := 55) (by decide +kernel) rfl cls_3 fld_RX0_146 rfl rfl g1) ?_
            refine XE.go (st_aload (j := 5) (pc' := 57) (by decide +kernel) rfl (by decide) rfl) ?_
            refine XE.asc ?_
            refine XE.cV (pc' := 60) (st := []) (fun r hr => ct_X2_removeLetter g31 r hr) (fun r hr => run_V (st := []) (by decide +kernel) co_X0_sendBackBehind_161 (ct_X2_removeLetter g31 r hr) rfl g31 rfl rfl (Nat.le_of_ble_eq_true rfl)) rfl rfl (fun M41 => ?_)
            refine XE.go (st_aload_n (j := 0) (i := 0) (pc' := 61) (by decide +kernel) rfl rfl (by decide) rfl) ?_
            refine XE.go (st_aload (j := 5) (pc' := 63) (by decide +kernel) rfl (by decide) rfl) ?_
            refine XE.go (st_iload_n (j := 3) (i := 3) (pc' := 64) (by decide +kernel) rfl rfl rfl) ?_
            refine XE.asc ?_
            refine XE.cV (pc' := 67) (st := []) (fun r hr => ct_X0_putInRow h0 r hr) (fun r hr => run_V (st := []) (by decide +kernel) co_X0_sendBackBehind_172 (ct_X0_putInRow h0 r hr) rfl h0 rfl rfl (Nat.le_of_ble_eq_true rfl)) rfl rfl (fun M42 => ?_)
            refine XE.go (st_iinc (j := 4) (n := (-1)) (pc' := 70) (by decide +kernel) rfl rfl (by decide) rfl rfl) ?_
            refine XE.go (st_goto (off := (-59)) (pc' := 11) (by decide +kernel) (by decide)) ?_
            exact XE.pick [2, 3, 4, 5, 0] rfl (hc25 ((w (s5.1 + (-1))), M42))
  · exact XE.rt rfl (X_vret (by decide +kernel) rfl)
theorem ct_X0_sendBackBehind {D : Dt} {M : Mm} {a0 a1 a2 a3 : Int} (h0 : a0 ≠ 0) (r : Mm) (hr : p_X0_sendBackBehind M a0 a1 a2 a3 = some r) : CT D 0 mu_X0_sendBackBehind [(4, a0), (7, a1), (5, a2), (0, a3)] M (.inl none) r := CT.of (by decide +kernel) rfl (Nat.le_of_ble_eq_true rfl) (xe_X0_sendBackBehind h0 r hr)
def p_X0_failLetter (M : Mm) (a0 a1 a2 a3 : Int) : Option (Int × Mm) := (p_X0_sendBackBehind M a0 a1 a2 a3).bind fun M1 => gd (a1 ≠ 0) (gd ((rd M1 a1 1) ≠ 0) ((p_X2_removeLetter M1 (rd M1 a1 1) a2).bind fun M4 => gd (a2 ≠ 0) ((some (wr M4 a2 3 (w ((rd M4 a2 3) + 1)))).bind fun M6 => if (rd M6 a2 3) < 3 then if (rd M6 a2 3) = 1 then (p_X0_putInRow M6 a0 a2 (w (a3 + 2))).bind fun M11 => some ((rd M11 a2 2), M11) else (p_X0_putInRow M6 a0 a2 (w (a3 + 4))).bind fun M12 => some ((rd M12 a2 2), M12) else (some (wr M6 a2 1 3)).bind fun M13 => gd ((rd M13 a0 4) ≠ 0) ((p_X2_addLast M13 (rd M13 a0 4) a2).bind fun M15 => some ((-1), M15)))))
set_option maxRecDepth 100000 in
set_option maxHeartbeats 4000000 in
theorem xe_X0_failLetter {D : Dt} {M : Mm} {a0 a1 a2 a3 : Int} (h0 : a0 ≠ 0) : XE D 0 mu_X0_failLetter (EW 0) 0 [(0, (4, a0)), (1, (7, a1)), (2, (5, a2)), (3, (0, a3))] [] M (p_X0_failLetter M a0 a1 a2 a3) := by
  unfold p_X0_failLetter
  refine XE.go (st_aload_n (j := 0) (i := 0) (pc' := 1) (by decide +kernel) rfl rfl (by decide) rfl) ?_
  refine XE.go (st_aload_n (j := 1) (i := 1) (pc' := 2) (by decide +kernel) rfl rfl (by decide) rfl) ?_
  refine XE.go (st_aload_n (j := 2) (i := 2) (pc' := 3) (by decide +kernel) rfl rfl (by decide) rfl) ?_
  refine XE.go (st_iload_n (j := 3) (i := 3) (pc' := 4) (by decide +kernel) rfl rfl rfl) ?_
  refine XE.cV (pc' := 7) (st := []) (fun r hr => ct_X0_sendBackBehind h0 r hr) (fun r hr => run_V (st := []) (by decide +kernel) co_X0_failLetter_237 (ct_X0_sendBackBehind h0 r hr) rfl h0 rfl rfl (Nat.le_of_ble_eq_true rfl)) rfl rfl (fun M1 => ?_)
  refine XE.go (st_aload_n (j := 1) (i := 1) (pc' := 8) (by decide +kernel) rfl rfl (by decide) rfl) ?_
  refine XE.gd_ (fun g2 => ?_)
  refine XE.go (st_get (pc' := 11) (by decide +kernel) rfl cls_3 fld_RX0_146 rfl rfl g2) ?_
  refine XE.go (st_aload_n (j := 2) (i := 2) (pc' := 12) (by decide +kernel) rfl rfl (by decide) rfl) ?_
  refine XE.gd_ (fun g3 => ?_)
  refine XE.cV (pc' := 15) (st := []) (fun r hr => ct_X2_removeLetter g3 r hr) (fun r hr => run_V (st := []) (by decide +kernel) co_X0_failLetter_161 (ct_X2_removeLetter g3 r hr) rfl g3 rfl rfl (Nat.le_of_ble_eq_true rfl)) rfl rfl (fun M4 => ?_)
  refine XE.go (st_aload_n (j := 2) (i := 2) (pc' := 16) (by decide +kernel) rfl rfl (by decide) rfl) ?_
  refine XE.go (st_dup (pc' := 17) (by decide +kernel) rfl rfl) ?_
  refine XE.gd_ (fun g5 => ?_)
  refine XE.go (st_get (pc' := 20) (by decide +kernel) rfl cls_1 fld_RX0_225 rfl rfl g5) ?_
  refine XE.go (st_iconst (n := 1) (pc' := 21) (by decide +kernel) (w_eq (by decide) (by decide)) rfl) ?_
  refine XE.go (st_iadd (pc' := 22) (by decide +kernel) rfl) ?_
  refine XE.goM (st_put (pc' := 25) (by decide +kernel) rfl cls_1 fld_RX0_225 rfl rfl (fun h => absurd h (by decide)) (fun h => nomatch h) g5) (fun M6 => ?_)
  refine XE.go (st_aload_n (j := 2) (i := 2) (pc' := 26) (by decide +kernel) rfl rfl (by decide) rfl) ?_
  refine XE.go (st_get (pc' := 29) (by decide +kernel) rfl cls_1 fld_RX0_225 rfl rfl g5) ?_
  refine XE.go (st_iconst (n := 3) (pc' := 30) (by decide +kernel) (w_eq (by decide) (by decide)) rfl) ?_
  refine XE.ite (fun h7 => ?_) (fun h8 => ?_)
  · refine XE.go (st_icmp_lt_t (off := 18) (pc' := 48) (by decide +kernel) (by decide) h7) ?_
    refine XE.go (st_aload_n (j := 0) (i := 0) (pc' := 49) (by decide +kernel) rfl rfl (by decide) rfl) ?_
    refine XE.go (st_aload_n (j := 2) (i := 2) (pc' := 50) (by decide +kernel) rfl rfl (by decide) rfl) ?_
    refine XE.go (st_iload_n (j := 3) (i := 3) (pc' := 51) (by decide +kernel) rfl rfl rfl) ?_
    refine XE.go (st_aload_n (j := 2) (i := 2) (pc' := 52) (by decide +kernel) rfl rfl (by decide) rfl) ?_
    refine XE.go (st_get (pc' := 55) (by decide +kernel) rfl cls_1 fld_RX0_225 rfl rfl g5) ?_
    refine XE.go (st_iconst (n := 1) (pc' := 56) (by decide +kernel) (w_eq (by decide) (by decide)) rfl) ?_
    refine XE.ite (fun h9 => ?_) (fun h10 => ?_)
    · refine XE.go (st_icmp_ne_f (off := 7) (pc' := 59) (by decide +kernel) 63 (by decide) rfl (not_not_intro h9)) ?_
      refine XE.go (st_iconst (n := 2) (pc' := 60) (by decide +kernel) (w_eq (by decide) (by decide)) rfl) ?_
      refine XE.go (st_goto (off := 4) (pc' := 64) (by decide +kernel) (by decide)) ?_
      refine XE.go (st_iadd (pc' := 65) (by decide +kernel) rfl) ?_
      refine XE.cV (pc' := 68) (st := []) (fun r hr => ct_X0_putInRow h0 r hr) (fun r hr => run_V (st := []) (by decide +kernel) co_X0_failLetter_172 (ct_X0_putInRow h0 r hr) rfl h0 rfl rfl (Nat.le_of_ble_eq_true rfl)) rfl rfl (fun M11 => ?_)
      refine XE.go (st_aload_n (j := 2) (i := 2) (pc' := 69) (by decide +kernel) rfl rfl (by decide) rfl) ?_
      refine XE.go (st_get (pc' := 72) (by decide +kernel) rfl cls_1 fld_RX0_176 rfl rfl g5) ?_
      exact XE.rt rfl (X_iret (by decide +kernel) rfl)
    · refine XE.go (st_icmp_ne_t (off := 7) (pc' := 63) (by decide +kernel) (by decide) h10) ?_
      refine XE.go (st_iconst (n := 4) (pc' := 64) (by decide +kernel) (w_eq (by decide) (by decide)) rfl) ?_
      refine XE.go (st_iadd (pc' := 65) (by decide +kernel) rfl) ?_
      refine XE.cV (pc' := 68) (st := []) (fun r hr => ct_X0_putInRow h0 r hr) (fun r hr => run_V (st := []) (by decide +kernel) co_X0_failLetter_172 (ct_X0_putInRow h0 r hr) rfl h0 rfl rfl (Nat.le_of_ble_eq_true rfl)) rfl rfl (fun M12 => ?_)
      refine XE.go (st_aload_n (j := 2) (i := 2) (pc' := 69) (by decide +kernel) rfl rfl (by decide) rfl) ?_
      refine XE.go (st_get (pc' := 72) (by decide +kernel) rfl cls_1 fld_RX0_176 rfl rfl g5) ?_
      exact XE.rt rfl (X_iret (by decide +kernel) rfl)
  · refine XE.go (st_icmp_lt_f (off := 18) (pc' := 33) (by decide +kernel) 48 (by decide) rfl h8) ?_
    refine XE.go (st_aload_n (j := 2) (i := 2) (pc' := 34) (by decide +kernel) rfl rfl (by decide) rfl) ?_
    refine XE.go (st_iconst (n := 3) (pc' := 35) (by decide +kernel) (w_eq (by decide) (by decide)) rfl) ?_
    refine XE.goM (st_put (pc' := 38) (by decide +kernel) rfl cls_1 fld_RX0_165 rfl rfl (fun h => absurd h (by decide)) (fun h => nomatch h) g5) (fun M13 => ?_)
    refine XE.go (st_aload_n (j := 0) (i := 0) (pc' := 39) (by decide +kernel) rfl rfl (by decide) rfl) ?_
    refine XE.go (st_get (pc' := 42) (by decide +kernel) rfl cls_0 fld_RX0_38 rfl rfl h0) ?_
    refine XE.go (st_aload_n (j := 2) (i := 2) (pc' := 43) (by decide +kernel) rfl rfl (by decide) rfl) ?_
    refine XE.gd_ (fun g14 => ?_)
    refine XE.cV (pc' := 46) (st := []) (fun r hr => ct_X2_addLast g14 r hr) (fun r hr => run_V (st := []) (by decide +kernel) co_X0_failLetter_234 (ct_X2_addLast g14 r hr) rfl g14 rfl rfl (Nat.le_of_ble_eq_true rfl)) rfl rfl (fun M15 => ?_)
    refine XE.go (st_iconst (n := (-1)) (pc' := 47) (by decide +kernel) (w_eq (by decide) (by decide)) rfl) ?_
    exact XE.rt rfl (X_iret (by decide +kernel) rfl)
theorem ct_X0_failLetter {D : Dt} {M : Mm} {a0 a1 a2 a3 : Int} (h0 : a0 ≠ 0) (r : (Int × Mm)) (hr : p_X0_failLetter M a0 a1 a2 a3 = some r) : CT D 0 mu_X0_failLetter [(4, a0), (7, a1), (5, a2), (0, a3)] M (.inl (some (0, r.1))) r.2 := CT.of (by decide +kernel) rfl (Nat.le_of_ble_eq_true rfl) (xe_X0_failLetter h0 r hr)
def p_X10_retry (M : Mm) (a0 a1 a2 a3 : Int) : Option (Int × Int × Mm) := (p_X10_groupOf M a0 a1).bind (thT psT fun v1 M2 => (p_X10_memberOf M2 v1 a2).bind (thT psT fun v3 M4 => (p_X10_letterInHand M4 v3 a3).bind (thT psT fun v5 M6 => gd (v1 ≠ 0) ((p_X0_failLetter M6 v1 v3 v5 (rd M6 a0 15)).bind fun r8 => some (0, r8.1, r8.2)))))
set_option maxRecDepth 100000 in
set_option maxHeartbeats 4000000 in
theorem xe_X10_retry {D : Dt} {M : Mm} {a0 a1 a2 a3 : Int} (h0 : a0 ≠ 0) : XE D 0 mu_X10_retry (ET 0) 0 [(0, (14, a0)), (1, (0, a1)), (2, (0, a2)), (3, (0, a3))] [] M (p_X10_retry M a0 a1 a2 a3) := by
  unfold p_X10_retry
  refine XE.go (st_aload_n (j := 0) (i := 0) (pc' := 1) (by decide +kernel) rfl rfl (by decide) rfl) ?_
  refine XE.go (st_iload_n (j := 1) (i := 1) (pc' := 2) (by decide +kernel) rfl rfl rfl) ?_
  refine XE.cTg (pc' := 5) (st := []) hfT (fun r hr => ct_X10_groupOf h0 r hr) (fun r hr => run_V (st := []) (by decide +kernel) co_X10_retry_334 (ct_X10_groupOf h0 r hr) rfl h0 rfl rfl (Nat.le_of_ble_eq_true rfl)) rfl rfl rfl (fun v1 M2 => ?_)
  refine XE.go (st_astore (j := 4) (pc' := 7) (by decide +kernel)  (by decide) rfl (by decide) rfl rfl) ?_
  refine XE.go (st_aload (j := 4) (pc' := 9) (by decide +kernel) rfl (by decide) rfl) ?_
  refine XE.go (st_iload_n (j := 2) (i := 2) (pc' := 10) (by decide +kernel) rfl rfl rfl) ?_
  refine XE.cTg (pc' := 13) (st := []) hfT (fun r hr => ct_X10_memberOf r hr) (fun r hr => run_S (st := []) (by decide +kernel) co_X10_retry_338 (ct_X10_memberOf r hr) rfl rfl (Nat.le_of_ble_eq_true rfl)) rfl rfl rfl (fun v3 M4 => ?_)
  refine XE.go (st_astore (j := 5) (pc' := 15) (by decide +kernel)  (by decide) rfl (by decide) rfl rfl) ?_
  refine XE.go (st_aload (j := 4) (pc' := 17) (by decide +kernel) rfl (by decide) rfl) ?_
  refine XE.go (st_aload (j := 5) (pc' := 19) (by decide +kernel) rfl (by decide) rfl) ?_
  refine XE.go (st_aload (j := 5) (pc' := 21) (by decide +kernel) rfl (by decide) rfl) ?_
  refine XE.go (st_iload_n (j := 3) (i := 3) (pc' := 22) (by decide +kernel) rfl rfl rfl) ?_
  refine XE.cTg (pc' := 25) (st := [(7, v3), (4, v1)]) hfT (fun r hr => ct_X10_letterInHand r hr) (fun r hr => run_S (st := [(7, v3), (4, v1)]) (by decide +kernel) co_X10_retry_430 (ct_X10_letterInHand r hr) rfl rfl (Nat.le_of_ble_eq_true rfl)) rfl rfl rfl (fun v5 M6 => ?_)
  refine XE.go (st_aload_n (j := 0) (i := 0) (pc' := 26) (by decide +kernel) rfl rfl (by decide) rfl) ?_
  refine XE.go (st_get (pc' := 29) (by decide +kernel) rfl cls_10 fld_RX10_70 rfl rfl h0) ?_
  refine XE.gd_ (fun g7 => ?_)
  refine XE.cW (pc' := 32) (st := []) (fun r hr => ct_X0_failLetter g7 r hr) (fun r hr => run_V (st := []) (by decide +kernel) co_X10_retry_440 (ct_X0_failLetter g7 r hr) rfl g7 rfl rfl (Nat.le_of_ble_eq_true rfl)) rfl rfl (fun r8 => ?_)
  exact XE.rt rfl (X_iret (by decide +kernel) rfl)
theorem ct_X10_retry {D : Dt} {M : Mm} {a0 a1 a2 a3 : Int} (h0 : a0 ≠ 0) (r : (Int × Int × Mm)) (hr : p_X10_retry M a0 a1 a2 a3 = some r) : CT D 0 mu_X10_retry [(14, a0), (0, a1), (0, a2), (0, a3)] M (ET 0 r).1 (ET 0 r).2 := CT.of (by decide +kernel) rfl (Nat.le_of_ble_eq_true rfl) (xe_X10_retry h0 r hr)
def b_X0_commitAll_14 (v4 : Int) (v1 : Int) (a1 : Int) (s6 : Int × Int × Mm) : Option ((Int × Int × Mm) ⊕ (Int × Mm)) := if s6.2.1 < v4 then gd (aok v1 s6.2.1) ((some ((rd s6.2.2 v1 s6.2.1))).bind fun v15 => if v15 = 0 then some (.inl (s6.1, (w (s6.2.1 + 1)), s6.2.2)) else if (rd s6.2.2 v15 1) = a1 then gd (a1 ≠ 0) ((p_X3_placeIn s6.2.2 a1 v15).bind fun r22 => if r22 = (rd s6.2.2 v15 3) then some (.inl (s6.1, (w (s6.2.1 + 1)), s6.2.2)) else (some (wr s6.2.2 v15 3 r22)).bind fun M25 => some (.inl ((w (s6.1 + 1)), (w (s6.2.1 + 1)), M25))) else some (.inl (s6.1, (w (s6.2.1 + 1)), s6.2.2))) else some (.inr (s6.1, s6.2.2))
def p_X0_commitAll (M : Mm) (a0 a1 : Int) : Option (Int × Mm) := (some ((rd M a0 0))).bind fun v1 => gd (v1 ≠ 0) ((some ((ln v1))).bind fun v4 => (lp (b_X0_commitAll_14 v4 v1 a1) 1000 (0, 0, M)).bind fun (t7 : Int × Mm) => some (t7.1, t7.2))
set_option maxRecDepth 100000 in
set_option maxHeartbeats 4000000 in
theorem xe_X0_commitAll {D : Dt} {M : Mm} {a0 a1 : Int} (h0 : a0 ≠ 0) : XE D 0 mu_X0_commitAll (EW 0) 0 [(0, (4, a0)), (1, (7, a1))] [] M (p_X0_commitAll M a0 a1) := by
  unfold p_X0_commitAll
  refine XE.go (st_iconst (n := 0) (pc' := 1) (by decide +kernel) (w_eq (by decide) (by decide)) rfl) ?_
  refine XE.go (st_istore_n (j := 2) (i := 2) (pc' := 2) (by decide +kernel) rfl rfl (by decide) rfl rfl) ?_
  refine XE.go (st_aload_n (j := 0) (i := 0) (pc' := 3) (by decide +kernel) rfl rfl (by decide) rfl) ?_
  refine XE.go (st_get (pc' := 6) (by decide +kernel) rfl cls_0 fld_RX0_11 rfl rfl h0) ?_
  refine XE.gen (fun v1 e2 => ?_)
  refine XE.go (st_astore_n (j := 3) (i := 3) (pc' := 7) (by decide +kernel) rfl (by decide) rfl (by decide) rfl rfl) ?_
  refine XE.go (st_aload_n (j := 3) (i := 3) (pc' := 8) (by decide +kernel) rfl rfl (by decide) rfl) ?_
  refine XE.gd_ (fun g3 => ?_)
  refine XE.go (st_alen (k := 24) (pc' := 9) (by decide +kernel) rfl ak_24 rfl (by decide) g3) ?_
  refine XE.gen (fun v4 e5 => ?_)
  refine XE.go (st_istore (j := 4) (pc' := 11) (by decide +kernel)  rfl (by decide) rfl rfl) ?_
  refine XE.go (st_iconst (n := 0) (pc' := 12) (by decide +kernel) (w_eq (by decide) (by decide)) rfl) ?_
  refine XE.go (st_istore (j := 5) (pc' := 14) (by decide +kernel)  rfl (by decide) rfl rfl) ?_
  refine XE.pick [5, 3, 2, 1, 0] (L' := [(1, (7, a1)), (2, (0, 0)), (3, (27, v1)), (4, (0, v4)), (5, (0, 0))]) rfl ?_
  refine XE.loopJ (n := 1000) (s0 := (0, 0, M)) (pcL := 14) (pcE := 75) (LL := fun (s6 : Int × Int × Mm) => [(1, (7, a1)), (2, (0, s6.1)), (3, (27, v1)), (4, (0, v4)), (5, (0, s6.2.1))]) (sL := fun _ => []) (ML := fun (s6 : Int × Int × Mm) => s6.2.2) (LE := fun (t7 : Int × Mm) => [(2, (0, t7.1))]) (sE := fun _ => []) (ME := fun (t7 : Int × Mm) => t7.2) (fun kk11 hc8 he9 s6 => ?_) (fun t7 => ?_)
  · unfold b_X0_commitAll_14
    refine XE.go (st_iload (j := 5) (pc' := 16) (by decide +kernel) rfl rfl) ?_
    refine XE.go (st_iload (j := 4) (pc' := 18) (by decide +kernel) rfl rfl) ?_
    refine XE.bite (fun h12 => ?_) (fun h13 => ?_)
    · refine XE.go (st_icmp_ge_f (off := 57) (pc' := 21) (by decide +kernel) 75 (by decide) rfl (Int.not_le.mpr h12)) ?_
      refine XE.go (st_aload_n (j := 3) (i := 3) (pc' := 22) (by decide +kernel) rfl rfl (by decide) rfl) ?_
      refine XE.go (st_iload (j := 5) (pc' := 24) (by decide +kernel) rfl rfl) ?_
      refine XE.gdb (fun g14 => ?_)
      refine XE.go (st_ald (k := 24) (tp := 12) (pc' := 25) (by decide +kernel) rfl ak_24 rfl (by decide) rfl (Or.inr (Or.inr (Or.inr ⟨rfl, rfl⟩))) g14.1 g14.2.1 g14.2.2) ?_
      refine XE.asc ?_
      refine XE.gen (fun v15 e16 => ?_)
      refine XE.go (st_astore (j := 6) (pc' := 27) (by decide +kernel)  (by decide) rfl (by decide) rfl rfl) ?_
      refine XE.go (st_aload (j := 6) (pc' := 29) (by decide +kernel) rfl (by decide) rfl) ?_
      refine XE.bite (fun h17 => ?_) (fun h18 => ?_)
      · refine XE.go (st_ifnull_t (off := 40) (pc' := 69) (by decide +kernel) (by decide) h17 (by decide)) ?_
        refine XE.go (st_iinc (j := 5) (n := 1) (pc' := 72) (by decide +kernel) rfl rfl (by decide) rfl rfl) ?_
        refine XE.go (st_goto (off := (-58)) (pc' := 14) (by decide +kernel) (by decide)) ?_
        exact XE.pick [2, 3, 4, 5, 0] rfl (hc8 (s6.1, (w (s6.2.1 + 1)), s6.2.2))
      · refine XE.go (st_ifnull_f (off := 40) (pc' := 32) (by decide +kernel) (by decide) h18 rfl) ?_
        refine XE.go (st_aload (j := 6) (pc' := 34) (by decide +kernel) rfl (by decide) rfl) ?_
        refine XE.go (st_get (pc' := 37) (by decide +kernel) rfl cls_8 fld_RX0_76 rfl rfl h18) ?_
        refine XE.go (st_aload_n (j := 1) (i := 1) (pc' := 38) (by decide +kernel) rfl rfl (by decide) rfl) ?_
        refine XE.bite (fun h19 => ?_) (fun h20 => ?_)
        · refine XE.go (st_acmp_ne_f (off := 31) (pc' := 41) (by decide +kernel) 69 (by decide) (by decide) (by decide) h19 rfl) ?_
          refine XE.go (st_aload_n (j := 1) (i := 1) (pc' := 42) (by decide +kernel) rfl rfl (by decide) rfl) ?_
          refine XE.go (st_aload (j := 6) (pc' := 44) (by decide +kernel) rfl (by decide) rfl) ?_
          refine XE.gdb (fun g21 => ?_)
          refine XE.asc ?_
          refine XE.cP (pc' := 47) (st := []) (fun r hr => ct_X3_placeIn g21 r hr) (fun r hr => run_V (st := []) (by decide +kernel) co_X0_commitAll_245 (ct_X3_placeIn g21 r hr) rfl g21 rfl rfl (Nat.le_of_ble_eq_true rfl)) rfl rfl (fun r22 => ?_)
          refine XE.go (st_istore (j := 7) (pc' := 49) (by decide +kernel)  rfl (by decide) rfl rfl) ?_
          refine XE.go (st_iload (j := 7) (pc' := 51) (by decide +kernel) rfl rfl) ?_
          refine XE.go (st_aload (j := 6) (pc' := 53) (by decide +kernel) rfl (by decide) rfl) ?_
          refine XE.go (st_get (pc' := 56) (by decide +kernel) rfl cls_8 fld_RX0_127 rfl rfl h18) ?_
          refine XE.bite (fun h23 => ?_) (fun h24 => ?_)
          · refine XE.go (st_icmp_eq_t (off := 13) (pc' := 69) (by decide +kernel) (by decide) h23) ?_
            refine XE.go (st_iinc (j := 5) (n := 1) (pc' := 72) (by decide +kernel) rfl rfl (by decide) rfl rfl) ?_
            refine XE.go (st_goto (off := (-58)) (pc' := 14) (by decide +kernel) (by decide)) ?_
            exact XE.pick [3, 4, 5, 6, 0] rfl (hc8 (s6.1, (w (s6.2.1 + 1)), s6.2.2))
          · refine XE.go (st_icmp_eq_f (off := 13) (pc' := 59) (by decide +kernel) 69 (by decide) rfl h24) ?_
            refine XE.go (st_aload (j := 6) (pc' := 61) (by decide +kernel) rfl (by decide) rfl) ?_
            refine XE.go (st_iload (j := 7) (pc' := 63) (by decide +kernel) rfl rfl) ?_
            refine XE.asc ?_
            refine XE.goM (st_put (pc' := 66) (by decide +kernel) rfl cls_8 fld_RX0_127 rfl rfl (fun h => absurd h (by decide)) (fun h => nomatch h) h18) (fun M25 => ?_)
            refine XE.go (st_iinc (j := 2) (n := 1) (pc' := 69) (by decide +kernel) rfl rfl (by decide) rfl rfl) ?_
            refine XE.go (st_iinc (j := 5) (n := 1) (pc' := 72) (by decide +kernel) rfl rfl (by decide) rfl rfl) ?_
            refine XE.go (st_goto (off := (-58)) (pc' := 14) (by decide +kernel) (by decide)) ?_
            exact XE.pick [4, 1, 5, 6, 0] rfl (hc8 ((w (s6.1 + 1)), (w (s6.2.1 + 1)), M25))
        · refine XE.go (st_acmp_ne_t (off := 31) (pc' := 69) (by decide +kernel) (by decide) (by decide) h20 (by decide)) ?_
          refine XE.go (st_iinc (j := 5) (n := 1) (pc' := 72) (by decide +kernel) rfl rfl (by decide) rfl rfl) ?_
          refine XE.go (st_goto (off := (-58)) (pc' := 14) (by decide +kernel) (by decide)) ?_
          exact XE.pick [2, 3, 4, 5, 0] rfl (hc8 (s6.1, (w (s6.2.1 + 1)), s6.2.2))
    · refine XE.go (st_icmp_ge_t (off := 57) (pc' := 75) (by decide +kernel) (by decide) (Int.not_lt.mp h13)) ?_
      exact XE.pick [1] rfl (he9 (s6.1, s6.2.2))
  · refine XE.go (st_iload_n (j := 2) (i := 2) (pc' := 76) (by decide +kernel) rfl rfl rfl) ?_
    exact XE.rt rfl (X_iret (by decide +kernel) rfl)
theorem ct_X0_commitAll {D : Dt} {M : Mm} {a0 a1 : Int} (h0 : a0 ≠ 0) (r : (Int × Mm)) (hr : p_X0_commitAll M a0 a1 = some r) : CT D 0 mu_X0_commitAll [(4, a0), (7, a1)] M (.inl (some (0, r.1))) r.2 := CT.of (by decide +kernel) rfl (Nat.le_of_ble_eq_true rfl) (xe_X0_commitAll h0 r hr)
def p_X10_commitOffsets (M : Mm) (a0 a1 a2 : Int) : Option (Int × Int × Mm) := (p_X10_groupOf M a0 a1).bind (thT psT fun v1 M2 => (p_X10_memberOf M2 v1 a2).bind (thT psT fun v3 M4 => gd (v1 ≠ 0) ((p_X0_commitAll M4 v1 v3).bind fun r6 => some (0, r6.1, r6.2))))
set_option maxRecDepth 100000 in
set_option maxHeartbeats 4000000 in
theorem xe_X10_commitOffsets {D : Dt} {M : Mm} {a0 a1 a2 : Int} (h0 : a0 ≠ 0) : XE D 0 mu_X10_commitOffsets (ET 0) 0 [(0, (14, a0)), (1, (0, a1)), (2, (0, a2))] [] M (p_X10_commitOffsets M a0 a1 a2) := by
  unfold p_X10_commitOffsets
  refine XE.go (st_aload_n (j := 0) (i := 0) (pc' := 1) (by decide +kernel) rfl rfl (by decide) rfl) ?_
  refine XE.go (st_iload_n (j := 1) (i := 1) (pc' := 2) (by decide +kernel) rfl rfl rfl) ?_
  refine XE.cTg (pc' := 5) (st := []) hfT (fun r hr => ct_X10_groupOf h0 r hr) (fun r hr => run_V (st := []) (by decide +kernel) co_X10_commitOffsets_334 (ct_X10_groupOf h0 r hr) rfl h0 rfl rfl (Nat.le_of_ble_eq_true rfl)) rfl rfl rfl (fun v1 M2 => ?_)
  refine XE.go (st_astore_n (j := 3) (i := 3) (pc' := 6) (by decide +kernel) rfl (by decide) rfl (by decide) rfl rfl) ?_
  refine XE.go (st_aload_n (j := 3) (i := 3) (pc' := 7) (by decide +kernel) rfl rfl (by decide) rfl) ?_
  refine XE.go (st_aload_n (j := 3) (i := 3) (pc' := 8) (by decide +kernel) rfl rfl (by decide) rfl) ?_
  refine XE.go (st_iload_n (j := 2) (i := 2) (pc' := 9) (by decide +kernel) rfl rfl rfl) ?_
  refine XE.cTg (pc' := 12) (st := [(4, v1)]) hfT (fun r hr => ct_X10_memberOf r hr) (fun r hr => run_S (st := [(4, v1)]) (by decide +kernel) co_X10_commitOffsets_338 (ct_X10_memberOf r hr) rfl rfl (Nat.le_of_ble_eq_true rfl)) rfl rfl rfl (fun v3 M4 => ?_)
  refine XE.gd_ (fun g5 => ?_)
  refine XE.cW (pc' := 15) (st := []) (fun r hr => ct_X0_commitAll g5 r hr) (fun r hr => run_V (st := []) (by decide +kernel) co_X10_commitOffsets_444 (ct_X0_commitAll g5 r hr) rfl g5 rfl rfl (Nat.le_of_ble_eq_true rfl)) rfl rfl (fun r6 => ?_)
  exact XE.rt rfl (X_iret (by decide +kernel) rfl)
theorem ct_X10_commitOffsets {D : Dt} {M : Mm} {a0 a1 a2 : Int} (h0 : a0 ≠ 0) (r : (Int × Int × Mm)) (hr : p_X10_commitOffsets M a0 a1 a2 = some r) : CT D 0 mu_X10_commitOffsets [(14, a0), (0, a1), (0, a2)] M (ET 0 r).1 (ET 0 r).2 := CT.of (by decide +kernel) rfl (Nat.le_of_ble_eq_true rfl) (xe_X10_commitOffsets h0 r hr)
def p_X10_messageOf (M : Mm) (a0 a1 : Int) : Option (Int × Int × Mm) := (if a1 < 0 then some (0) else gd ((rd M a0 4) ≠ 0) (if a1 < (ln (rd M a0 4)) then gd (aok (rd M a0 4) a1) (some ((rd M (rd M a0 4) a1))) else some (0)) : Option (Int)).bind fun (s1 : Int) => if s1 = 0 then psT 1 0 (thr M) else some (0, s1, M)
set_option maxRecDepth 100000 in
set_option maxHeartbeats 4000000 in
theorem xe_X10_messageOf {D : Dt} {M : Mm} {a0 a1 : Int} (h0 : a0 ≠ 0) : XE D 0 mu_X10_messageOf (ET 8) 0 [(0, (14, a0)), (1, (0, a1))] [] M (p_X10_messageOf M a0 a1) := by
  unfold p_X10_messageOf
  refine XE.go (st_iload_n (j := 1) (i := 1) (pc' := 1) (by decide +kernel) rfl rfl rfl) ?_
  refine XE.join (pcJ := 23) (LJ := fun (s1 : Int) => []) (sJ := fun (s1 : Int) => [(8, s1)]) (MJ := fun (s1 : Int) => M) (fun kk4 hk2 => ?_) (fun s1 => ?_)
  · refine XE.bite (fun h5 => ?_) (fun h6 => ?_)
    · refine XE.go (st_if_lt_t (off := 21) (pc' := 22) (by decide +kernel) (by decide) h5) ?_
      refine XE.go (st_null (t := 8) (pc' := 23) (by decide +kernel) (by decide) rfl) ?_
      exact XE.pick [] rfl (hk2 0)
    · refine XE.go (st_if_lt_f (off := 21) (pc' := 4) (by decide +kernel) 22 (by decide) rfl h6) ?_
      refine XE.go (st_iload_n (j := 1) (i := 1) (pc' := 5) (by decide +kernel) rfl rfl rfl) ?_
      refine XE.go (st_aload_n (j := 0) (i := 0) (pc' := 6) (by decide +kernel) rfl rfl (by decide) rfl) ?_
      refine XE.go (st_get (pc' := 9) (by decide +kernel) rfl cls_10 fld_RX10_35 rfl rfl h0) ?_
      refine XE.gdb (fun g7 => ?_)
      refine XE.go (st_alen (k := 20) (pc' := 10) (by decide +kernel) rfl ak_20 rfl (by decide) g7) ?_
      refine XE.bite (fun h8 => ?_) (fun h9 => ?_)
      · refine XE.go (st_icmp_ge_f (off := 12) (pc' := 13) (by decide +kernel) 22 (by decide) rfl (Int.not_le.mpr h8)) ?_
        refine XE.go (st_aload_n (j := 0) (i := 0) (pc' := 14) (by decide +kernel) rfl rfl (by decide) rfl) ?_
        refine XE.go (st_get (pc' := 17) (by decide +kernel) rfl cls_10 fld_RX10_35 rfl rfl h0) ?_
        refine XE.go (st_iload_n (j := 1) (i := 1) (pc' := 18) (by decide +kernel) rfl rfl rfl) ?_
        refine XE.gdb (fun g10 => ?_)
        refine XE.go (st_ald (k := 20) (tp := 8) (pc' := 19) (by decide +kernel) rfl ak_20 rfl (by decide) rfl (Or.inr (Or.inr (Or.inr ⟨rfl, rfl⟩))) g10.1 g10.2.1 g10.2.2) ?_
        refine XE.go (st_goto (off := 4) (pc' := 23) (by decide +kernel) (by decide)) ?_
        exact XE.pick [] rfl (hk2 (rd M (rd M a0 4) a1))
      · refine XE.go (st_icmp_ge_t (off := 12) (pc' := 22) (by decide +kernel) (by decide) (Int.not_lt.mp h9)) ?_
        refine XE.go (st_null (t := 8) (pc' := 23) (by decide +kernel) (by decide) rfl) ?_
        exact XE.pick [] rfl (hk2 0)
  · refine XE.go (st_astore_n (j := 2) (i := 2) (pc' := 24) (by decide +kernel) rfl (by decide) rfl (by decide) rfl rfl) ?_
    refine XE.go (st_aload_n (j := 2) (i := 2) (pc' := 25) (by decide +kernel) rfl rfl (by decide) rfl) ?_
    refine XE.ite (fun h11 => ?_) (fun h12 => ?_)
    · refine XE.go (st_ifnonnull_f (off := 14) (pc' := 28) (by decide +kernel) (by decide) h11 rfl) ?_
      exact XE.thrTW (by decide +kernel) (by decide +kernel) (by decide +kernel) (by decide +kernel) (by decide +kernel) thr_RX10_635 rfl (by decide) (by decide) (by decide)
    · refine XE.go (st_ifnonnull_t (off := 14) (pc' := 39) (by decide +kernel) (by decide) h12 (by decide)) ?_
      refine XE.go (st_aload_n (j := 2) (i := 2) (pc' := 40) (by decide +kernel) rfl rfl (by decide) rfl) ?_
      exact XE.rt rfl (X_aret (by decide +kernel) rfl (Or.inl ⟨_, rfl⟩) (by decide))
theorem ct_X10_messageOf {D : Dt} {M : Mm} {a0 a1 : Int} (h0 : a0 ≠ 0) (r : (Int × Int × Mm)) (hr : p_X10_messageOf M a0 a1 = some r) : CT D 0 mu_X10_messageOf [(14, a0), (0, a1)] M (ET 8 r).1 (ET 8 r).2 := CT.of (by decide +kernel) rfl (Nat.le_of_ble_eq_true rfl) (xe_X10_messageOf h0 r hr)
def p_X4_canBeRead (M : Mm) (a0 : Int) : Option Int := if (rd M a0 7) = 1 then (p_X4_isPlainOrCommitted M a0).bind fun r3 => if r3 = 0 then some (0) else gd ((rd M a0 2) ≠ 0) ((p_X5_stableOffset M (rd M a0 2)).bind fun r7 => if (rd M a0 9) < r7 then some (1) else some (0)) else some (0)
set_option maxRecDepth 100000 in
set_option maxHeartbeats 4000000 in
theorem xe_X4_canBeRead {D : Dt} {M : Mm} {a0 : Int} (h0 : a0 ≠ 0) : XE D 0 mu_X4_canBeRead (EP 0 M) 0 [(0, (8, a0))] [] M (p_X4_canBeRead M a0) := by
  unfold p_X4_canBeRead
  refine XE.go (st_aload_n (j := 0) (i := 0) (pc' := 1) (by decide +kernel) rfl rfl (by decide) rfl) ?_
  refine XE.go (st_get (pc' := 4) (by decide +kernel) rfl cls_4 fld_RX4_9 rfl rfl h0) ?_
  refine XE.go (st_iconst (n := 1) (pc' := 5) (by decide +kernel) (w_eq (by decide) (by decide)) rfl) ?_
  refine XE.ite (fun h1 => ?_) (fun h2 => ?_)
  · refine XE.go (st_icmp_ne_f (off := 28) (pc' := 8) (by decide +kernel) 33 (by decide) rfl (not_not_intro h1)) ?_
    refine XE.go (st_aload_n (j := 0) (i := 0) (pc' := 9) (by decide +kernel) rfl rfl (by decide) rfl) ?_
    refine XE.cP (pc' := 12) (st := []) (fun r hr => ct_X4_isPlainOrCommitted h0 r hr) (fun r hr => run_V (st := []) (by decide +kernel) co_X4_canBeRead_47 (ct_X4_isPlainOrCommitted h0 r hr) rfl h0 rfl rfl (Nat.le_of_ble_eq_true rfl)) rfl rfl (fun r3 => ?_)
    refine XE.ite (fun h4 => ?_) (fun h5 => ?_)
    · refine XE.go (st_if_eq_t (off := 21) (pc' := 33) (by decide +kernel) (by decide) h4) ?_
      refine XE.go (st_iconst (n := 0) (pc' := 34) (by decide +kernel) (w_eq (by decide) (by decide)) rfl) ?_
      exact XE.rt rfl (X_zret (by decide +kernel) rfl (by decide))
    · refine XE.go (st_if_eq_f (off := 21) (pc' := 15) (by decide +kernel) 33 (by decide) rfl h5) ?_
      refine XE.go (st_aload_n (j := 0) (i := 0) (pc' := 16) (by decide +kernel) rfl rfl (by decide) rfl) ?_
      refine XE.go (st_get (pc' := 19) (by decide +kernel) rfl cls_4 fld_RX4_15 rfl rfl h0) ?_
      refine XE.go (st_aload_n (j := 0) (i := 0) (pc' := 20) (by decide +kernel) rfl rfl (by decide) rfl) ?_
      refine XE.go (st_get (pc' := 23) (by decide +kernel) rfl cls_4 fld_RX4_28 rfl rfl h0) ?_
      refine XE.gd_ (fun g6 => ?_)
      refine XE.cP (pc' := 26) (st := [(0, (rd M a0 9))]) (fun r hr => ct_X5_stableOffset g6 r hr) (fun r hr => run_V (st := [(0, (rd M a0 9))]) (by decide +kernel) co_X4_canBeRead_51 (ct_X5_stableOffset g6 r hr) rfl g6 rfl rfl (Nat.le_of_ble_eq_true rfl)) rfl rfl (fun r7 => ?_)
      refine XE.ite (fun h8 => ?_) (fun h9 => ?_)
      · refine XE.go (st_icmp_ge_f (off := 7) (pc' := 29) (by decide +kernel) 33 (by decide) rfl (Int.not_le.mpr h8)) ?_
        refine XE.go (st_iconst (n := 1) (pc' := 30) (by decide +kernel) (w_eq (by decide) (by decide)) rfl) ?_
        refine XE.go (st_goto (off := 4) (pc' := 34) (by decide +kernel) (by decide)) ?_
        exact XE.rt rfl (X_zret (by decide +kernel) rfl (by decide))
      · refine XE.go (st_icmp_ge_t (off := 7) (pc' := 33) (by decide +kernel) (by decide) (Int.not_lt.mp h9)) ?_
        refine XE.go (st_iconst (n := 0) (pc' := 34) (by decide +kernel) (w_eq (by decide) (by decide)) rfl) ?_
        exact XE.rt rfl (X_zret (by decide +kernel) rfl (by decide))
  · refine XE.go (st_icmp_ne_t (off := 28) (pc' := 33) (by decide +kernel) (by decide) h2) ?_
    refine XE.go (st_iconst (n := 0) (pc' := 34) (by decide +kernel) (w_eq (by decide) (by decide)) rfl) ?_
    exact XE.rt rfl (X_zret (by decide +kernel) rfl (by decide))
theorem ct_X4_canBeRead {D : Dt} {M : Mm} {a0 : Int} (h0 : a0 ≠ 0) (r : Int) (hr : p_X4_canBeRead M a0 = some r) : CT D 0 mu_X4_canBeRead [(8, a0)] M (.inl (some (0, r))) M := CT.of (by decide +kernel) rfl (Nat.le_of_ble_eq_true rfl) (xe_X4_canBeRead h0 r hr)
def p_X10_tellMessage (M : Mm) (a0 a1 : Int) : Option Int := if a1 = 0 then gd (a0 ≠ 0) (some ((rd M a0 7))) else if a1 = 1 then gd (a0 ≠ 0) (some ((rd M a0 8))) else if a1 = 2 then gd (a0 ≠ 0) (gd ((rd M a0 1) ≠ 0) (some ((rd M (rd M a0 1) 0)))) else if a1 = 3 then gd (a0 ≠ 0) (gd ((rd M a0 2) ≠ 0) (some ((rd M (rd M a0 2) 0)))) else if a1 = 4 then gd (a0 ≠ 0) (some ((rd M a0 9))) else if a1 = 5 then gd (a0 ≠ 0) (some ((rd M a0 3))) else if a1 = 6 then gd (a0 ≠ 0) (some ((rd M a0 4))) else if a1 = 7 then gd (a0 ≠ 0) (some ((rd M a0 10))) else gd (a0 ≠ 0) ((p_X4_canBeRead M a0).bind fun r28 => if r28 = 0 then some (0) else some (1))
set_option maxRecDepth 100000 in
set_option maxHeartbeats 4000000 in
theorem xe_X10_tellMessage {D : Dt} {M : Mm} {a0 a1 : Int} : XE D 0 mu_X10_tellMessage (EP 0 M) 0 [(0, (8, a0)), (1, (0, a1))] [] M (p_X10_tellMessage M a0 a1) := by
  unfold p_X10_tellMessage
  refine XE.go (st_iload_n (j := 1) (i := 1) (pc' := 1) (by decide +kernel) rfl rfl rfl) ?_
  refine XE.ite (fun h1 => ?_) (fun h2 => ?_)
  · refine XE.go (st_tab_in (dflt := 93) (lo := 0) (hi := 7) (offs := #[47, 52, 57, 65, 73, 78, 83, 88]) (len := 47) (off := 47) (pc' := 48) (by decide +kernel) 0 h1 (by decide) (by decide) (by decide) (by decide)) ?_
    refine XE.go (st_aload_n (j := 0) (i := 0) (pc' := 49) (by decide +kernel) rfl rfl (by decide) rfl) ?_
    refine XE.gd_ (fun g3 => ?_)
    refine XE.go (st_get (pc' := 52) (by decide +kernel) rfl cls_4 fld_RX10_138 rfl rfl g3) ?_
    exact XE.rt rfl (X_iret (by decide +kernel) rfl)
  refine XE.ite (fun h4 => ?_) (fun h5 => ?_)
  · refine XE.go (st_tab_in (dflt := 93) (lo := 0) (hi := 7) (offs := #[47, 52, 57, 65, 73, 78, 83, 88]) (len := 47) (off := 52) (pc' := 53) (by decide +kernel) 1 h4 (by decide) (by decide) (by decide) (by decide)) ?_
    refine XE.go (st_aload_n (j := 0) (i := 0) (pc' := 54) (by decide +kernel) rfl rfl (by decide) rfl) ?_
    refine XE.gd_ (fun g6 => ?_)
    refine XE.go (st_get (pc' := 57) (by decide +kernel) rfl cls_4 fld_RX10_141 rfl rfl g6) ?_
    exact XE.rt rfl (X_iret (by decide +kernel) rfl)
  refine XE.ite (fun h7 => ?_) (fun h8 => ?_)
  · refine XE.go (st_tab_in (dflt := 93) (lo := 0) (hi := 7) (offs := #[47, 52, 57, 65, 73, 78, 83, 88]) (len := 47) (off := 57) (pc' := 58) (by decide +kernel) 2 h7 (by decide) (by decide) (by decide) (by decide)) ?_
    refine XE.go (st_aload_n (j := 0) (i := 0) (pc' := 59) (by decide +kernel) rfl rfl (by decide) rfl) ?_
    refine XE.gd_ (fun g9 => ?_)
    refine XE.go (st_get (pc' := 62) (by decide +kernel) rfl cls_4 fld_RX10_208 rfl rfl g9) ?_
    refine XE.gd_ (fun g10 => ?_)
    refine XE.go (st_get (pc' := 65) (by decide +kernel) rfl cls_6 fld_RX10_476 rfl rfl g10) ?_
    exact XE.rt rfl (X_iret (by decide +kernel) rfl)
  refine XE.ite (fun h11 => ?_) (fun h12 => ?_)
  · refine XE.go (st_tab_in (dflt := 93) (lo := 0) (hi := 7) (offs := #[47, 52, 57, 65, 73, 78, 83, 88]) (len := 47) (off := 65) (pc' := 66) (by decide +kernel) 3 h11 (by decide) (by decide) (by decide) (by decide)) ?_
    refine XE.go (st_aload_n (j := 0) (i := 0) (pc' := 67) (by decide +kernel) rfl rfl (by decide) rfl) ?_
    refine XE.gd_ (fun g13 => ?_)
    refine XE.go (st_get (pc' := 70) (by decide +kernel) rfl cls_4 fld_RX10_144 rfl rfl g13) ?_
    refine XE.gd_ (fun g14 => ?_)
    refine XE.go (st_get (pc' := 73) (by decide +kernel) rfl cls_5 fld_RX10_477 rfl rfl g14) ?_
    exact XE.rt rfl (X_iret (by decide +kernel) rfl)
  refine XE.ite (fun h15 => ?_) (fun h16 => ?_)
  · refine XE.go (st_tab_in (dflt := 93) (lo := 0) (hi := 7) (offs := #[47, 52, 57, 65, 73, 78, 83, 88]) (len := 47) (off := 73) (pc' := 74) (by decide +kernel) 4 h15 (by decide) (by decide) (by decide) (by decide)) ?_
    refine XE.go (st_aload_n (j := 0) (i := 0) (pc' := 75) (by decide +kernel) rfl rfl (by decide) rfl) ?_
    refine XE.gd_ (fun g17 => ?_)
    refine XE.go (st_get (pc' := 78) (by decide +kernel) rfl cls_4 fld_RX10_205 rfl rfl g17) ?_
    exact XE.rt rfl (X_iret (by decide +kernel) rfl)
  refine XE.ite (fun h18 => ?_) (fun h19 => ?_)
  · refine XE.go (st_tab_in (dflt := 93) (lo := 0) (hi := 7) (offs := #[47, 52, 57, 65, 73, 78, 83, 88]) (len := 47) (off := 78) (pc' := 79) (by decide +kernel) 5 h18 (by decide) (by decide) (by decide) (by decide)) ?_
    refine XE.go (st_aload_n (j := 0) (i := 0) (pc' := 80) (by decide +kernel) rfl rfl (by decide) rfl) ?_
    refine XE.gd_ (fun g20 => ?_)
    refine XE.go (st_get (pc' := 83) (by decide +kernel) rfl cls_4 fld_RX10_148 rfl rfl g20) ?_
    exact XE.rt rfl (X_iret (by decide +kernel) rfl)
  refine XE.ite (fun h21 => ?_) (fun h22 => ?_)
  · refine XE.go (st_tab_in (dflt := 93) (lo := 0) (hi := 7) (offs := #[47, 52, 57, 65, 73, 78, 83, 88]) (len := 47) (off := 83) (pc' := 84) (by decide +kernel) 6 h21 (by decide) (by decide) (by decide) (by decide)) ?_
    refine XE.go (st_aload_n (j := 0) (i := 0) (pc' := 85) (by decide +kernel) rfl rfl (by decide) rfl) ?_
    refine XE.gd_ (fun g23 => ?_)
    refine XE.go (st_get (pc' := 88) (by decide +kernel) rfl cls_4 fld_RX10_155 rfl rfl g23) ?_
    exact XE.rt rfl (X_iret (by decide +kernel) rfl)
  refine XE.ite (fun h24 => ?_) (fun h25 => ?_)
  · refine XE.go (st_tab_in (dflt := 93) (lo := 0) (hi := 7) (offs := #[47, 52, 57, 65, 73, 78, 83, 88]) (len := 47) (off := 88) (pc' := 89) (by decide +kernel) 7 h24 (by decide) (by decide) (by decide) (by decide)) ?_
    refine XE.go (st_aload_n (j := 0) (i := 0) (pc' := 90) (by decide +kernel) rfl rfl (by decide) rfl) ?_
    refine XE.gd_ (fun g26 => ?_)
    refine XE.go (st_get (pc' := 93) (by decide +kernel) rfl cls_4 fld_RX10_158 rfl rfl g26) ?_
    exact XE.rt rfl (X_iret (by decide +kernel) rfl)
  refine XE.go (st_tab_out (dflt := 93) (lo := 0) (hi := 7) (offs := #[47, 52, 57, 65, 73, 78, 83, 88]) (len := 47) (pc' := 94) (by decide +kernel) (by omega) (by decide)) ?_
  refine XE.go (st_aload_n (j := 0) (i := 0) (pc' := 95) (by decide +kernel) rfl rfl (by decide) rfl) ?_
  refine XE.gd_ (fun g27 => ?_)
  refine XE.cP (pc' := 98) (st := []) (fun r hr => ct_X4_canBeRead g27 r hr) (fun r hr => run_V (st := []) (by decide +kernel) co_X10_tellMessage_478 (ct_X4_canBeRead g27 r hr) rfl g27 rfl rfl (Nat.le_of_ble_eq_true rfl)) rfl rfl (fun r28 => ?_)
  refine XE.ite (fun h29 => ?_) (fun h30 => ?_)
  · refine XE.go (st_if_eq_t (off := 7) (pc' := 105) (by decide +kernel) (by decide) h29) ?_
    refine XE.go (st_iconst (n := 0) (pc' := 106) (by decide +kernel) (w_eq (by decide) (by decide)) rfl) ?_
    exact XE.rt rfl (X_iret (by decide +kernel) rfl)
  · refine XE.go (st_if_eq_f (off := 7) (pc' := 101) (by decide +kernel) 105 (by decide) rfl h30) ?_
    refine XE.go (st_iconst (n := 1) (pc' := 102) (by decide +kernel) (w_eq (by decide) (by decide)) rfl) ?_
    refine XE.go (st_goto (off := 4) (pc' := 106) (by decide +kernel) (by decide)) ?_
    exact XE.rt rfl (X_iret (by decide +kernel) rfl)
theorem ct_X10_tellMessage {D : Dt} {M : Mm} {a0 a1 : Int} (r : Int) (hr : p_X10_tellMessage M a0 a1 = some r) : CT D 0 mu_X10_tellMessage [(8, a0), (0, a1)] M (.inl (some (0, r))) M := CT.of (by decide +kernel) rfl (Nat.le_of_ble_eq_true rfl) (xe_X10_tellMessage r hr)
def p_X10_message (M : Mm) (a0 a1 a2 : Int) : Option (Int × Int × Mm) := (p_X10_messageOf M a0 a1).bind (thT psT fun v1 M2 => (p_X10_requireWithin M2 a2 0 8).bind (thU psT fun M3 => (p_X10_tellMessage M3 v1 a2).bind fun r4 => some (0, r4, M3)))
set_option maxRecDepth 100000 in
set_option maxHeartbeats 4000000 in
theorem xe_X10_message {D : Dt} {M : Mm} {a0 a1 a2 : Int} (h0 : a0 ≠ 0) : XE D 0 mu_X10_message (ET 0) 0 [(0, (14, a0)), (1, (0, a1)), (2, (0, a2))] [] M (p_X10_message M a0 a1 a2) := by
  unfold p_X10_message
  refine XE.go (st_aload_n (j := 0) (i := 0) (pc' := 1) (by decide +kernel) rfl rfl (by decide) rfl) ?_
  refine XE.go (st_iload_n (j := 1) (i := 1) (pc' := 2) (by decide +kernel) rfl rfl rfl) ?_
  refine XE.cTg (pc' := 5) (st := []) hfT (fun r hr => ct_X10_messageOf h0 r hr) (fun r hr => run_V (st := []) (by decide +kernel) co_X10_message_469 (ct_X10_messageOf h0 r hr) rfl h0 rfl rfl (Nat.le_of_ble_eq_true rfl)) rfl rfl rfl (fun v1 M2 => ?_)
  refine XE.go (st_astore_n (j := 3) (i := 3) (pc' := 6) (by decide +kernel) rfl (by decide) rfl (by decide) rfl rfl) ?_
  refine XE.go (st_iload_n (j := 2) (i := 2) (pc' := 7) (by decide +kernel) rfl rfl rfl) ?_
  refine XE.go (st_iconst (n := 0) (pc' := 8) (by decide +kernel) (w_eq (by decide) (by decide)) rfl) ?_
  refine XE.go (st_bipush (n := 8) (pc' := 10) (by decide +kernel) (by decide) (w_eq (by decide) (by decide)) rfl) ?_
  refine XE.cUg (pc' := 13) (st := []) hfT (fun r hr => ct_X10_requireWithin r hr) (fun r hr => run_S (st := []) (by decide +kernel) co_X10_message_73 (ct_X10_requireWithin r hr) rfl rfl (Nat.le_of_ble_eq_true rfl)) rfl rfl rfl (fun M3 => ?_)
  refine XE.go (st_aload_n (j := 3) (i := 3) (pc' := 14) (by decide +kernel) rfl rfl (by decide) rfl) ?_
  refine XE.go (st_iload_n (j := 2) (i := 2) (pc' := 15) (by decide +kernel) rfl rfl rfl) ?_
  refine XE.cP (pc' := 18) (st := []) (fun r hr => ct_X10_tellMessage r hr) (fun r hr => run_S (st := []) (by decide +kernel) co_X10_message_472 (ct_X10_tellMessage r hr) rfl rfl (Nat.le_of_ble_eq_true rfl)) rfl rfl (fun r4 => ?_)
  exact XE.rt rfl (X_iret (by decide +kernel) rfl)
theorem ct_X10_message {D : Dt} {M : Mm} {a0 a1 a2 : Int} (h0 : a0 ≠ 0) (r : (Int × Int × Mm)) (hr : p_X10_message M a0 a1 a2 = some r) : CT D 0 mu_X10_message [(14, a0), (0, a1), (0, a2)] M (ET 0 r).1 (ET 0 r).2 := CT.of (by decide +kernel) rfl (Nat.le_of_ble_eq_true rfl) (xe_X10_message h0 r hr)
def p_X10_at (M : Mm) (a0 a1 a2 : Int) : Option (Int × Int × Mm) := (p_X10_partitionOf M a0 a1).bind (thT psT fun v1 M2 => if a2 < 0 then psT 1 0 (thr M2) else gd (v1 ≠ 0) ((p_X5_storedAt M2 v1 a2).bind fun r6 => if r6 = 0 then some (0, (-1), M2) else some (0, (rd M2 r6 0), M2)))
set_option maxRecDepth 100000 in
set_option maxHeartbeats 4000000 in
theorem xe_X10_at {D : Dt} {M : Mm} {a0 a1 a2 : Int} (h0 : a0 ≠ 0) : XE D 0 mu_X10_at (ET 0) 0 [(0, (14, a0)), (1, (0, a1)), (2, (0, a2))] [] M (p_X10_at M a0 a1 a2) := by
  unfold p_X10_at
  refine XE.go (st_aload_n (j := 0) (i := 0) (pc' := 1) (by decide +kernel) rfl rfl (by decide) rfl) ?_
  refine XE.go (st_iload_n (j := 1) (i := 1) (pc' := 2) (by decide +kernel) rfl rfl rfl) ?_
  refine XE.cTg (pc' := 5) (st := []) hfT (fun r hr => ct_X10_partitionOf h0 r hr) (fun r hr => run_V (st := []) (by decide +kernel) co_X10_at_116 (ct_X10_partitionOf h0 r hr) rfl h0 rfl rfl (Nat.le_of_ble_eq_true rfl)) rfl rfl rfl (fun v1 M2 => ?_)
  refine XE.go (st_astore_n (j := 3) (i := 3) (pc' := 6) (by decide +kernel) rfl (by decide) rfl (by decide) rfl rfl) ?_
  refine XE.go (st_iload_n (j := 2) (i := 2) (pc' := 7) (by decide +kernel) rfl rfl rfl) ?_
  refine XE.ite (fun h3 => ?_) (fun h4 => ?_)
  · refine XE.go (st_if_ge_f (off := 14) (pc' := 10) (by decide +kernel) 21 (by decide) rfl (Int.not_le.mpr h3)) ?_
    exact XE.thrTW (by decide +kernel) (by decide +kernel) (by decide +kernel) (by decide +kernel) (by decide +kernel) thr_RX10_483 rfl (by decide) (by decide) (by decide)
  · refine XE.go (st_if_ge_t (off := 14) (pc' := 21) (by decide +kernel) (by decide) (Int.not_lt.mp h4)) ?_
    refine XE.go (st_aload_n (j := 3) (i := 3) (pc' := 22) (by decide +kernel) rfl rfl (by decide) rfl) ?_
    refine XE.go (st_iload_n (j := 2) (i := 2) (pc' := 23) (by decide +kernel) rfl rfl rfl) ?_
    refine XE.gd_ (fun g5 => ?_)
    refine XE.cP (pc' := 26) (st := []) (fun r hr => ct_X5_storedAt g5 r hr) (fun r hr => run_V (st := []) (by decide +kernel) co_X10_at_130 (ct_X5_storedAt g5 r hr) rfl g5 rfl rfl (Nat.le_of_ble_eq_true rfl)) rfl rfl (fun r6 => ?_)
    refine XE.go (st_astore (j := 4) (pc' := 28) (by decide +kernel)  (by decide) rfl (by decide) rfl rfl) ?_
    refine XE.go (st_aload (j := 4) (pc' := 30) (by decide +kernel) rfl (by decide) rfl) ?_
    refine XE.ite (fun h7 => ?_) (fun h8 => ?_)
    · refine XE.go (st_ifnonnull_f (off := 7) (pc' := 33) (by decide +kernel) (by decide) h7 rfl) ?_
      refine XE.go (st_iconst (n := (-1)) (pc' := 34) (by decide +kernel) (w_eq (by decide) (by decide)) rfl) ?_
      refine XE.go (st_goto (off := 8) (pc' := 42) (by decide +kernel) (by decide)) ?_
      exact XE.rt rfl (X_iret (by decide +kernel) rfl)
    · refine XE.go (st_ifnonnull_t (off := 7) (pc' := 37) (by decide +kernel) (by decide) h8 (by decide)) ?_
      refine XE.go (st_aload (j := 4) (pc' := 39) (by decide +kernel) rfl (by decide) rfl) ?_
      refine XE.go (st_get (pc' := 42) (by decide +kernel) rfl cls_4 fld_RX10_323 rfl rfl h8) ?_
      exact XE.rt rfl (X_iret (by decide +kernel) rfl)
theorem ct_X10_at {D : Dt} {M : Mm} {a0 a1 a2 : Int} (h0 : a0 ≠ 0) (r : (Int × Int × Mm)) (hr : p_X10_at M a0 a1 a2 = some r) : CT D 0 mu_X10_at [(14, a0), (0, a1), (0, a2)] M (ET 0 r).1 (ET 0 r).2 := CT.of (by decide +kernel) rfl (Nat.le_of_ble_eq_true rfl) (xe_X10_at h0 r hr)
def b_X5_inSyncBits_13 (v4 : Int) (v1 : Int) (M : Mm) (s6 : Int × Int) : Option ((Int × Int) ⊕ (Int)) := if s6.2 < v4 then gd (aok v1 s6.2) ((some ((rd M v1 s6.2))).bind fun v15 => if v15 = 0 then some (.inl (s6.1, (w (s6.2 + 1)))) else if (rd M v15 4) = 0 then some (.inl (s6.1, (w (s6.2 + 1)))) else (some ((ior s6.1 (shl 1 (rd M v15 0))))).bind fun v21 => some (.inl (v21, (w (s6.2 + 1))))) else some (.inr s6.1)
def p_X5_inSyncBits (M : Mm) (a0 : Int) : Option Int := (some ((rd M a0 2))).bind fun v1 => gd (v1 ≠ 0) ((some ((ln v1))).bind fun v4 => (lp (b_X5_inSyncBits_13 v4 v1 M) 1000 (0, 0)).bind fun (t7 : Int) => some (t7))
set_option maxRecDepth 100000 in
set_option maxHeartbeats 4000000 in
theorem xe_X5_inSyncBits {D : Dt} {M : Mm} {a0 : Int} (h0 : a0 ≠ 0) : XE D 0 mu_X5_inSyncBits (EP 0 M) 0 [(0, (9, a0))] [] M (p_X5_inSyncBits M a0) := by
  unfold p_X5_inSyncBits
  refine XE.go (st_iconst (n := 0) (pc' := 1) (by decide +kernel) (w_eq (by decide) (by decide)) rfl) ?_
  refine XE.go (st_istore_n (j := 1) (i := 1) (pc' := 2) (by decide +kernel) rfl rfl (by decide) rfl rfl) ?_
  refine XE.go (st_aload_n (j := 0) (i := 0) (pc' := 3) (by decide +kernel) rfl rfl (by decide) rfl) ?_
  refine XE.go (st_get (pc' := 6) (by decide +kernel) rfl cls_5 fld_RX5_11 rfl rfl h0) ?_
  refine XE.gen (fun v1 e2 => ?_)
  refine XE.go (st_astore_n (j := 2) (i := 2) (pc' := 7) (by decide +kernel) rfl (by decide) rfl (by decide) rfl rfl) ?_
  refine XE.go (st_aload_n (j := 2) (i := 2) (pc' := 8) (by decide +kernel) rfl rfl (by decide) rfl) ?_
  refine XE.gd_ (fun g3 => ?_)
  refine XE.go (st_alen (k := 23) (pc' := 9) (by decide +kernel) rfl ak_23 rfl (by decide) g3) ?_
  refine XE.gen (fun v4 e5 => ?_)
  refine XE.go (st_istore_n (j := 3) (i := 3) (pc' := 10) (by decide +kernel) rfl rfl (by decide) rfl rfl) ?_
  refine XE.go (st_iconst (n := 0) (pc' := 11) (by decide +kernel) (w_eq (by decide) (by decide)) rfl) ?_
  refine XE.go (st_istore (j := 4) (pc' := 13) (by decide +kernel)  rfl (by decide) rfl rfl) ?_
  refine XE.pick [3, 2, 1, 0] (L' := [(1, (0, 0)), (2, (26, v1)), (3, (0, v4)), (4, (0, 0))]) rfl ?_
  refine XE.loopJ (n := 1000) (s0 := (0, 0)) (pcL := 13) (pcE := 54) (LL := fun (s6 : Int × Int) => [(1, (0, s6.1)), (2, (26, v1)), (3, (0, v4)), (4, (0, s6.2))]) (sL := fun _ => []) (ML := fun (s6 : Int × Int) => M) (LE := fun (t7 : Int) => [(1, (0, t7))]) (sE := fun _ => []) (ME := fun (t7 : Int) => M) (fun kk11 hc8 he9 s6 => ?_) (fun t7 => ?_)
  · unfold b_X5_inSyncBits_13
    refine XE.go (st_iload (j := 4) (pc' := 15) (by decide +kernel) rfl rfl) ?_
    refine XE.go (st_iload_n (j := 3) (i := 3) (pc' := 16) (by decide +kernel) rfl rfl rfl) ?_
    refine XE.bite (fun h12 => ?_) (fun h13 => ?_)
    · refine XE.go (st_icmp_ge_f (off := 38) (pc' := 19) (by decide +kernel) 54 (by decide) rfl (Int.not_le.mpr h12)) ?_
      refine XE.go (st_aload_n (j := 2) (i := 2) (pc' := 20) (by decide +kernel) rfl rfl (by decide) rfl) ?_
      refine XE.go (st_iload (j := 4) (pc' := 22) (by decide +kernel) rfl rfl) ?_
      refine XE.gdb (fun g14 => ?_)
      refine XE.go (st_ald (k := 23) (tp := 11) (pc' := 23) (by decide +kernel) rfl ak_23 rfl (by decide) rfl (Or.inr (Or.inr (Or.inr ⟨rfl, rfl⟩))) g14.1 g14.2.1 g14.2.2) ?_
      refine XE.asc ?_
      refine XE.gen (fun v15 e16 => ?_)
      refine XE.go (st_astore (j := 5) (pc' := 25) (by decide +kernel)  (by decide) rfl (by decide) rfl rfl) ?_
      refine XE.go (st_aload (j := 5) (pc' := 27) (by decide +kernel) rfl (by decide) rfl) ?_
      refine XE.bite (fun h17 => ?_) (fun h18 => ?_)
      · refine XE.go (st_ifnull_t (off := 21) (pc' := 48) (by decide +kernel) (by decide) h17 (by decide)) ?_
        refine XE.go (st_iinc (j := 4) (n := 1) (pc' := 51) (by decide +kernel) rfl rfl (by decide) rfl rfl) ?_
        refine XE.go (st_goto (off := (-38)) (pc' := 13) (by decide +kernel) (by decide)) ?_
        exact XE.pick [2, 3, 4, 0] rfl (hc8 (s6.1, (w (s6.2 + 1))))
      · refine XE.go (st_ifnull_f (off := 21) (pc' := 30) (by decide +kernel) (by decide) h18 rfl) ?_
        refine XE.go (st_aload (j := 5) (pc' := 32) (by decide +kernel) rfl (by decide) rfl) ?_
        refine XE.go (st_get (pc' := 35) (by decide +kernel) rfl cls_7 fld_RX5_49 rfl rfl h18) ?_
        refine XE.bite (fun h19 => ?_) (fun h20 => ?_)
        · refine XE.go (st_if_eq_t (off := 13) (pc' := 48) (by decide +kernel) (by decide) h19) ?_
          refine XE.go (st_iinc (j := 4) (n := 1) (pc' := 51) (by decide +kernel) rfl rfl (by decide) rfl rfl) ?_
          refine XE.go (st_goto (off := (-38)) (pc' := 13) (by decide +kernel) (by decide)) ?_
          exact XE.pick [2, 3, 4, 0] rfl (hc8 (s6.1, (w (s6.2 + 1))))
        · refine XE.go (st_if_eq_f (off := 13) (pc' := 38) (by decide +kernel) 48 (by decide) rfl h20) ?_
          refine XE.go (st_iload_n (j := 1) (i := 1) (pc' := 39) (by decide +kernel) rfl rfl rfl) ?_
          refine XE.go (st_iconst (n := 1) (pc' := 40) (by decide +kernel) (w_eq (by decide) (by decide)) rfl) ?_
          refine XE.go (st_aload (j := 5) (pc' := 42) (by decide +kernel) rfl (by decide) rfl) ?_
          refine XE.go (st_get (pc' := 45) (by decide +kernel) rfl cls_7 fld_RX5_56 rfl rfl h18) ?_
          refine XE.go (st_ishl (pc' := 46) (by decide +kernel) rfl) ?_
          refine XE.go (st_ior (pc' := 47) (by decide +kernel) rfl) ?_
          refine XE.asc ?_
          refine XE.gen (fun v21 e22 => ?_)
          refine XE.go (st_istore_n (j := 1) (i := 1) (pc' := 48) (by decide +kernel) rfl rfl (by decide) rfl rfl) ?_
          refine XE.go (st_iinc (j := 4) (n := 1) (pc' := 51) (by decide +kernel) rfl rfl (by decide) rfl rfl) ?_
          refine XE.go (st_goto (off := (-38)) (pc' := 13) (by decide +kernel) (by decide)) ?_
          exact XE.pick [1, 3, 4, 0] rfl (hc8 (v21, (w (s6.2 + 1))))
    · refine XE.go (st_icmp_ge_t (off := 38) (pc' := 54) (by decide +kernel) (by decide) (Int.not_lt.mp h13)) ?_
      exact XE.pick [0] rfl (he9 s6.1)
  · refine XE.go (st_iload_n (j := 1) (i := 1) (pc' := 55) (by decide +kernel) rfl rfl rfl) ?_
    exact XE.rt rfl (X_iret (by decide +kernel) rfl)
theorem ct_X5_inSyncBits {D : Dt} {M : Mm} {a0 : Int} (h0 : a0 ≠ 0) (r : Int) (hr : p_X5_inSyncBits M a0 = some r) : CT D 0 mu_X5_inSyncBits [(9, a0)] M (.inl (some (0, r))) M := CT.of (by decide +kernel) rfl (Nat.le_of_ble_eq_true rfl) (xe_X5_inSyncBits h0 r hr)
def p_X10_tellPartition (M : Mm) (a0 a1 : Int) : Option Int := if a1 = 0 then gd (a0 ≠ 0) (gd ((rd M a0 1) ≠ 0) (some ((rd M (rd M a0 1) 0)))) else if a1 = 1 then gd (a0 ≠ 0) (if (rd M a0 4) = 0 then some ((-1)) else some ((rd M (rd M a0 4) 0))) else if a1 = 2 then gd (a0 ≠ 0) ((p_X5_inSyncBits M a0).bind fun r13 => some (r13)) else if a1 = 3 then gd (a0 ≠ 0) ((p_X5_highWatermark M a0).bind fun r17 => some (r17)) else if a1 = 4 then gd (a0 ≠ 0) ((p_X5_stableOffset M a0).bind fun r21 => some (r21)) else if a1 = 5 then gd (a0 ≠ 0) (some ((rd M a0 5))) else if a1 = 6 then gd (a0 ≠ 0) ((p_X5_logEnd M a0).bind fun r28 => some (r28)) else gd (a0 ≠ 0) ((p_X5_storedCount M a0).bind fun r30 => some (r30))
set_option maxRecDepth 100000 in
set_option maxHeartbeats 4000000 in
theorem xe_X10_tellPartition {D : Dt} {M : Mm} {a0 a1 : Int} : XE D 0 mu_X10_tellPartition (EP 0 M) 0 [(0, (9, a0)), (1, (0, a1))] [] M (p_X10_tellPartition M a0 a1) := by
  unfold p_X10_tellPartition
  refine XE.go (st_iload_n (j := 1) (i := 1) (pc' := 1) (by decide +kernel) rfl rfl rfl) ?_
  refine XE.ite (fun h1 => ?_) (fun h2 => ?_)
  · refine XE.go (st_tab_in (dflt := 95) (lo := 0) (hi := 6) (offs := #[43, 51, 70, 75, 80, 85, 90]) (len := 43) (off := 43) (pc' := 44) (by decide +kernel) 0 h1 (by decide) (by decide) (by decide) (by decide)) ?_
    refine XE.go (st_aload_n (j := 0) (i := 0) (pc' := 45) (by decide +kernel) rfl rfl (by decide) rfl) ?_
    refine XE.gd_ (fun g3 => ?_)
    refine XE.go (st_get (pc' := 48) (by decide +kernel) rfl cls_5 fld_RX10_120 rfl rfl g3) ?_
    refine XE.gd_ (fun g4 => ?_)
    refine XE.go (st_get (pc' := 51) (by decide +kernel) rfl cls_9 fld_RX10_91 rfl rfl g4) ?_
    exact XE.rt rfl (X_iret (by decide +kernel) rfl)
  refine XE.ite (fun h5 => ?_) (fun h6 => ?_)
  · refine XE.go (st_tab_in (dflt := 95) (lo := 0) (hi := 6) (offs := #[43, 51, 70, 75, 80, 85, 90]) (len := 43) (off := 51) (pc' := 52) (by decide +kernel) 1 h5 (by decide) (by decide) (by decide) (by decide)) ?_
    refine XE.go (st_aload_n (j := 0) (i := 0) (pc' := 53) (by decide +kernel) rfl rfl (by decide) rfl) ?_
    refine XE.gd_ (fun g7 => ?_)
    refine XE.go (st_get (pc' := 56) (by decide +kernel) rfl cls_5 fld_RX10_179 rfl rfl g7) ?_
    refine XE.ite (fun h8 => ?_) (fun h9 => ?_)
    · refine XE.go (st_ifnonnull_f (off := 7) (pc' := 59) (by decide +kernel) (by decide) h8 rfl) ?_
      refine XE.go (st_iconst (n := (-1)) (pc' := 60) (by decide +kernel) (w_eq (by decide) (by decide)) rfl) ?_
      refine XE.go (st_goto (off := 10) (pc' := 70) (by decide +kernel) (by decide)) ?_
      exact XE.rt rfl (X_iret (by decide +kernel) rfl)
    · refine XE.go (st_ifnonnull_t (off := 7) (pc' := 63) (by decide +kernel) (by decide) h9 (by decide)) ?_
      refine XE.go (st_aload_n (j := 0) (i := 0) (pc' := 64) (by decide +kernel) rfl rfl (by decide) rfl) ?_
      refine XE.go (st_get (pc' := 67) (by decide +kernel) rfl cls_5 fld_RX10_179 rfl rfl g7) ?_
      refine XE.go (st_get (pc' := 70) (by decide +kernel) rfl cls_7 fld_RX10_489 rfl rfl h9) ?_
      exact XE.rt rfl (X_iret (by decide +kernel) rfl)
  refine XE.ite (fun h10 => ?_) (fun h11 => ?_)
  · refine XE.go (st_tab_in (dflt := 95) (lo := 0) (hi := 6) (offs := #[43, 51, 70, 75, 80, 85, 90]) (len := 43) (off := 70) (pc' := 71) (by decide +kernel) 2 h10 (by decide) (by decide) (by decide) (by decide)) ?_
    refine XE.go (st_aload_n (j := 0) (i := 0) (pc' := 72) (by decide +kernel) rfl rfl (by decide) rfl) ?_
    refine XE.gd_ (fun g12 => ?_)
    refine XE.cP (pc' := 75) (st := []) (fun r hr => ct_X5_inSyncBits g12 r hr) (fun r hr => run_V (st := []) (by decide +kernel) co_X10_tellPartition_490 (ct_X5_inSyncBits g12 r hr) rfl g12 rfl rfl (Nat.le_of_ble_eq_true rfl)) rfl rfl (fun r13 => ?_)
    exact XE.rt rfl (X_iret (by decide +kernel) rfl)
  refine XE.ite (fun h14 => ?_) (fun h15 => ?_)
  · refine XE.go (st_tab_in (dflt := 95) (lo := 0) (hi := 6) (offs := #[43, 51, 70, 75, 80, 85, 90]) (len := 43) (off := 75) (pc' := 76) (by decide +kernel) 3 h14 (by decide) (by decide) (by decide) (by decide)) ?_
    refine XE.go (st_aload_n (j := 0) (i := 0) (pc' := 77) (by decide +kernel) rfl rfl (by decide) rfl) ?_
    refine XE.gd_ (fun g16 => ?_)
    refine XE.cP (pc' := 80) (st := []) (fun r hr => ct_X5_highWatermark g16 r hr) (fun r hr => run_V (st := []) (by decide +kernel) co_X10_tellPartition_363 (ct_X5_highWatermark g16 r hr) rfl g16 rfl rfl (Nat.le_of_ble_eq_true rfl)) rfl rfl (fun r17 => ?_)
    exact XE.rt rfl (X_iret (by decide +kernel) rfl)
  refine XE.ite (fun h18 => ?_) (fun h19 => ?_)
  · refine XE.go (st_tab_in (dflt := 95) (lo := 0) (hi := 6) (offs := #[43, 51, 70, 75, 80, 85, 90]) (len := 43) (off := 80) (pc' := 81) (by decide +kernel) 4 h18 (by decide) (by decide) (by decide) (by decide)) ?_
    refine XE.go (st_aload_n (j := 0) (i := 0) (pc' := 82) (by decide +kernel) rfl rfl (by decide) rfl) ?_
    refine XE.gd_ (fun g20 => ?_)
    refine XE.cP (pc' := 85) (st := []) (fun r hr => ct_X5_stableOffset g20 r hr) (fun r hr => run_V (st := []) (by decide +kernel) co_X10_tellPartition_126 (ct_X5_stableOffset g20 r hr) rfl g20 rfl rfl (Nat.le_of_ble_eq_true rfl)) rfl rfl (fun r21 => ?_)
    exact XE.rt rfl (X_iret (by decide +kernel) rfl)
  refine XE.ite (fun h22 => ?_) (fun h23 => ?_)
  · refine XE.go (st_tab_in (dflt := 95) (lo := 0) (hi := 6) (offs := #[43, 51, 70, 75, 80, 85, 90]) (len := 43) (off := 85) (pc' := 86) (by decide +kernel) 5 h22 (by decide) (by decide) (by decide) (by decide)) ?_
    refine XE.go (st_aload_n (j := 0) (i := 0) (pc' := 87) (by decide +kernel) rfl rfl (by decide) rfl) ?_
    refine XE.gd_ (fun g24 => ?_)
    refine XE.go (st_get (pc' := 90) (by decide +kernel) rfl cls_5 fld_RX10_282 rfl rfl g24) ?_
    exact XE.rt rfl (X_iret (by decide +kernel) rfl)
  refine XE.ite (fun h25 => ?_) (fun h26 => ?_)
  · refine XE.go (st_tab_in (dflt := 95) (lo := 0) (hi := 6) (offs := #[43, 51, 70, 75, 80, 85, 90]) (len := 43) (off := 90) (pc' := 91) (by decide +kernel) 6 h25 (by decide) (by decide) (by decide) (by decide)) ?_
    refine XE.go (st_aload_n (j := 0) (i := 0) (pc' := 92) (by decide +kernel) rfl rfl (by decide) rfl) ?_
    refine XE.gd_ (fun g27 => ?_)
    refine XE.cP (pc' := 95) (st := []) (fun r hr => ct_X5_logEnd g27 r hr) (fun r hr => run_V (st := []) (by decide +kernel) co_X10_tellPartition_493 (ct_X5_logEnd g27 r hr) rfl g27 rfl rfl (Nat.le_of_ble_eq_true rfl)) rfl rfl (fun r28 => ?_)
    exact XE.rt rfl (X_iret (by decide +kernel) rfl)
  refine XE.go (st_tab_out (dflt := 95) (lo := 0) (hi := 6) (offs := #[43, 51, 70, 75, 80, 85, 90]) (len := 43) (pc' := 96) (by decide +kernel) (by omega) (by decide)) ?_
  refine XE.go (st_aload_n (j := 0) (i := 0) (pc' := 97) (by decide +kernel) rfl rfl (by decide) rfl) ?_
  refine XE.gd_ (fun g29 => ?_)
  refine XE.cP (pc' := 100) (st := []) (fun r hr => ct_X5_storedCount g29 r hr) (fun r hr => run_V (st := []) (by decide +kernel) co_X10_tellPartition_279 (ct_X5_storedCount g29 r hr) rfl g29 rfl rfl (Nat.le_of_ble_eq_true rfl)) rfl rfl (fun r30 => ?_)
  exact XE.rt rfl (X_iret (by decide +kernel) rfl)
theorem ct_X10_tellPartition {D : Dt} {M : Mm} {a0 a1 : Int} (r : Int) (hr : p_X10_tellPartition M a0 a1 = some r) : CT D 0 mu_X10_tellPartition [(9, a0), (0, a1)] M (.inl (some (0, r))) M := CT.of (by decide +kernel) rfl (Nat.le_of_ble_eq_true rfl) (xe_X10_tellPartition r hr)
def p_X10_partition (M : Mm) (a0 a1 a2 : Int) : Option (Int × Int × Mm) := (p_X10_partitionOf M a0 a1).bind (thT psT fun v1 M2 => (p_X10_requireWithin M2 a2 0 7).bind (thU psT fun M3 => (p_X10_tellPartition M3 v1 a2).bind fun r4 => some (0, r4, M3)))
set_option maxRecDepth 100000 in
set_option maxHeartbeats 4000000 in
theorem xe_X10_partition {D : Dt} {M : Mm} {a0 a1 a2 : Int} (h0 : a0 ≠ 0) : XE D 0 mu_X10_partition (ET 0) 0 [(0, (14, a0)), (1, (0, a1)), (2, (0, a2))] [] M (p_X10_partition M a0 a1 a2) := by
  unfold p_X10_partition
  refine XE.go (st_aload_n (j := 0) (i := 0) (pc' := 1) (by decide +kernel) rfl rfl (by decide) rfl) ?_
  refine XE.go (st_iload_n (j := 1) (i := 1) (pc' := 2) (by decide +kernel) rfl rfl rfl) ?_
  refine XE.cTg (pc' := 5) (st := []) hfT (fun r hr => ct_X10_partitionOf h0 r hr) (fun r hr => run_V (st := []) (by decide +kernel) co_X10_partition_116 (ct_X10_partitionOf h0 r hr) rfl h0 rfl rfl (Nat.le_of_ble_eq_true rfl)) rfl rfl rfl (fun v1 M2 => ?_)
  refine XE.go (st_astore_n (j := 3) (i := 3) (pc' := 6) (by decide +kernel) rfl (by decide) rfl (by decide) rfl rfl) ?_
  refine XE.go (st_iload_n (j := 2) (i := 2) (pc' := 7) (by decide +kernel) rfl rfl rfl) ?_
  refine XE.go (st_iconst (n := 0) (pc' := 8) (by decide +kernel) (w_eq (by decide) (by decide)) rfl) ?_
  refine XE.go (st_bipush (n := 7) (pc' := 10) (by decide +kernel) (by decide) (w_eq (by decide) (by decide)) rfl) ?_
  refine XE.cUg (pc' := 13) (st := []) hfT (fun r hr => ct_X10_requireWithin r hr) (fun r hr => run_S (st := []) (by decide +kernel) co_X10_partition_73 (ct_X10_requireWithin r hr) rfl rfl (Nat.le_of_ble_eq_true rfl)) rfl rfl rfl (fun M3 => ?_)
  refine XE.go (st_aload_n (j := 3) (i := 3) (pc' := 14) (by decide +kernel) rfl rfl (by decide) rfl) ?_
  refine XE.go (st_iload_n (j := 2) (i := 2) (pc' := 15) (by decide +kernel) rfl rfl rfl) ?_
  refine XE.cP (pc' := 18) (st := []) (fun r hr => ct_X10_tellPartition r hr) (fun r hr => run_S (st := []) (by decide +kernel) co_X10_partition_486 (ct_X10_tellPartition r hr) rfl rfl (Nat.le_of_ble_eq_true rfl)) rfl rfl (fun r4 => ?_)
  exact XE.rt rfl (X_iret (by decide +kernel) rfl)
theorem ct_X10_partition {D : Dt} {M : Mm} {a0 a1 a2 : Int} (h0 : a0 ≠ 0) (r : (Int × Int × Mm)) (hr : p_X10_partition M a0 a1 a2 = some r) : CT D 0 mu_X10_partition [(14, a0), (0, a1), (0, a2)] M (ET 0 r).1 (ET 0 r).2 := CT.of (by decide +kernel) rfl (Nat.le_of_ble_eq_true rfl) (xe_X10_partition h0 r hr)
def p_X10_value (M : Mm) (a0 a1 a2 : Int) : Option (Int × Int × Mm) := (p_X10_topicOf M a0 a1).bind (thT psT fun v1 M2 => gd (v1 ≠ 0) ((p_X9_partitionFor M2 v1 a2).bind fun r4 => (if r4 = 0 then some (0) else (p_X5_stableOffset M2 r4).bind fun r11 => (p_X5_lastReadable M2 r4 a2 r11).bind fun r12 => some (r12) : Option (Int)).bind fun (s5 : Int) => if s5 = 0 then some (0, (-1), M2) else some (0, (rd M2 s5 4), M2)))
set_option maxRecDepth 100000 in
set_option maxHeartbeats 4000000 in
theorem xe_X10_value {D : Dt} {M : Mm} {a0 a1 a2 : Int} (h0 : a0 ≠ 0) : XE D 0 mu_X10_value (ET 0) 0 [(0, (14, a0)), (1, (0, a1)), (2, (0, a2))] [] M (p_X10_value M a0 a1 a2) := by
  unfold p_X10_value
  refine XE.go (st_aload_n (j := 0) (i := 0) (pc' := 1) (by decide +kernel) rfl rfl (by decide) rfl) ?_
  refine XE.go (st_iload_n (j := 1) (i := 1) (pc' := 2) (by decide +kernel) rfl rfl rfl) ?_
  refine XE.cTg (pc' := 5) (st := []) hfT (fun r hr => ct_X10_topicOf h0 r hr) (fun r hr => run_V (st := []) (by decide +kernel) co_X10_value_100 (ct_X10_topicOf h0 r hr) rfl h0 rfl rfl (Nat.le_of_ble_eq_true rfl)) rfl rfl rfl (fun v1 M2 => ?_)
  refine XE.go (st_iload_n (j := 2) (i := 2) (pc' := 6) (by decide +kernel) rfl rfl rfl) ?_
  refine XE.gd_ (fun g3 => ?_)
  refine XE.cP (pc' := 9) (st := []) (fun r hr => ct_X9_partitionFor g3 r hr) (fun r hr => run_V (st := []) (by decide +kernel) co_X10_value_296 (ct_X9_partitionFor g3 r hr) rfl g3 rfl rfl (Nat.le_of_ble_eq_true rfl)) rfl rfl (fun r4 => ?_)
  refine XE.go (st_astore_n (j := 3) (i := 3) (pc' := 10) (by decide +kernel) rfl (by decide) rfl (by decide) rfl rfl) ?_
  refine XE.go (st_aload_n (j := 3) (i := 3) (pc' := 11) (by decide +kernel) rfl rfl (by decide) rfl) ?_
  refine XE.join (pcJ := 27) (LJ := fun (s5 : Int) => []) (sJ := fun (s5 : Int) => [(8, s5)]) (MJ := fun (s5 : Int) => M2) (fun kk8 hk6 => ?_) (fun s5 => ?_)
  · refine XE.bite (fun h9 => ?_) (fun h10 => ?_)
    · refine XE.go (st_ifnonnull_f (off := 7) (pc' := 14) (by decide +kernel) (by decide) h9 rfl) ?_
      refine XE.go (st_null (t := 8) (pc' := 15) (by decide +kernel) (by decide) rfl) ?_
      refine XE.go (st_goto (off := 12) (pc' := 27) (by decide +kernel) (by decide)) ?_
      exact XE.pick [] rfl (hk6 0)
    · refine XE.go (st_ifnonnull_t (off := 7) (pc' := 18) (by decide +kernel) (by decide) h10 (by decide)) ?_
      refine XE.go (st_aload_n (j := 3) (i := 3) (pc' := 19) (by decide +kernel) rfl rfl (by decide) rfl) ?_
      refine XE.go (st_iload_n (j := 2) (i := 2) (pc' := 20) (by decide +kernel) rfl rfl rfl) ?_
      refine XE.go (st_aload_n (j := 3) (i := 3) (pc' := 21) (by decide +kernel) rfl rfl (by decide) rfl) ?_
      refine XE.asc ?_
      refine XE.cP (pc' := 24) (st := [(0, a2), (9, r4)]) (fun r hr => ct_X5_stableOffset h10 r hr) (fun r hr => run_V (st := [(0, a2), (9, r4)]) (by decide +kernel) co_X10_value_126 (ct_X5_stableOffset h10 r hr) rfl h10 rfl rfl (Nat.le_of_ble_eq_true rfl)) rfl rfl (fun r11 => ?_)
      refine XE.asc ?_
      refine XE.cP (pc' := 27) (st := []) (fun r hr => ct_X5_lastReadable h10 r hr) (fun r hr => run_V (st := []) (by decide +kernel) co_X10_value_151 (ct_X5_lastReadable h10 r hr) rfl h10 rfl rfl (Nat.le_of_ble_eq_true rfl)) rfl rfl (fun r12 => ?_)
      exact XE.pick [] rfl (hk6 r12)
  · refine XE.go (st_astore (j := 4) (pc' := 29) (by decide +kernel)  (by decide) rfl (by decide) rfl rfl) ?_
    refine XE.go (st_aload (j := 4) (pc' := 31) (by decide +kernel) rfl (by decide) rfl) ?_
    refine XE.ite (fun h13 => ?_) (fun h14 => ?_)
    · refine XE.go (st_ifnonnull_f (off := 7) (pc' := 34) (by decide +kernel) (by decide) h13 rfl) ?_
      refine XE.go (st_iconst (n := (-1)) (pc' := 35) (by decide +kernel) (w_eq (by decide) (by decide)) rfl) ?_
      refine XE.go (st_goto (off := 8) (pc' := 43) (by decide +kernel) (by decide)) ?_
      exact XE.rt rfl (X_iret (by decide +kernel) rfl)
    · refine XE.go (st_ifnonnull_t (off := 7) (pc' := 38) (by decide +kernel) (by decide) h14 (by decide)) ?_
      refine XE.go (st_aload (j := 4) (pc' := 40) (by decide +kernel) rfl (by decide) rfl) ?_
      refine XE.go (st_get (pc' := 43) (by decide +kernel) rfl cls_4 fld_RX10_155 rfl rfl h14) ?_
      exact XE.rt rfl (X_iret (by decide +kernel) rfl)
theorem ct_X10_value {D : Dt} {M : Mm} {a0 a1 a2 : Int} (h0 : a0 ≠ 0) (r : (Int × Int × Mm)) (hr : p_X10_value M a0 a1 a2 = some r) : CT D 0 mu_X10_value [(14, a0), (0, a1), (0, a2)] M (ET 0 r).1 (ET 0 r).2 := CT.of (by decide +kernel) rfl (Nat.le_of_ble_eq_true rfl) (xe_X10_value h0 r hr)
def p_X10_shareOf (M : Mm) (a0 a1 : Int) : Option (Int × Int × Mm) := gd (a0 ≠ 0) ((p_X0_shareAt M a0 a1).bind fun r2 => if r2 = 0 then psT 1 0 (thr M) else some (0, r2, M))
set_option maxRecDepth 100000 in
set_option maxHeartbeats 4000000 in
theorem xe_X10_shareOf {D : Dt} {M : Mm} {a0 a1 : Int} : XE D 0 mu_X10_shareOf (ET 12) 0 [(0, (4, a0)), (1, (0, a1))] [] M (p_X10_shareOf M a0 a1) := by
  unfold p_X10_shareOf
  refine XE.go (st_aload_n (j := 0) (i := 0) (pc' := 1) (by decide +kernel) rfl rfl (by decide) rfl) ?_
  refine XE.go (st_iload_n (j := 1) (i := 1) (pc' := 2) (by decide +kernel) rfl rfl rfl) ?_
  refine XE.gd_ (fun g1 => ?_)
  refine XE.cP (pc' := 5) (st := []) (fun r hr => ct_X0_shareAt g1 r hr) (fun r hr => run_V (st := []) (by decide +kernel) co_X10_shareOf_645 (ct_X0_shareAt g1 r hr) rfl g1 rfl rfl (Nat.le_of_ble_eq_true rfl)) rfl rfl (fun r2 => ?_)
  refine XE.go (st_astore_n (j := 2) (i := 2) (pc' := 6) (by decide +kernel) rfl (by decide) rfl (by decide) rfl rfl) ?_
  refine XE.go (st_aload_n (j := 2) (i := 2) (pc' := 7) (by decide +kernel) rfl rfl (by decide) rfl) ?_
  refine XE.ite (fun h3 => ?_) (fun h4 => ?_)
  · refine XE.go (st_ifnonnull_f (off := 14) (pc' := 10) (by decide +kernel) (by decide) h3 rfl) ?_
    exact XE.thrTW (by decide +kernel) (by decide +kernel) (by decide +kernel) (by decide +kernel) (by decide +kernel) thr_RX10_649 rfl (by decide) (by decide) (by decide)
  · refine XE.go (st_ifnonnull_t (off := 14) (pc' := 21) (by decide +kernel) (by decide) h4 (by decide)) ?_
    refine XE.go (st_aload_n (j := 2) (i := 2) (pc' := 22) (by decide +kernel) rfl rfl (by decide) rfl) ?_
    exact XE.rt rfl (X_aret (by decide +kernel) rfl (Or.inl ⟨_, rfl⟩) (by decide))
theorem ct_X10_shareOf {D : Dt} {M : Mm} {a0 a1 : Int} (r : (Int × Int × Mm)) (hr : p_X10_shareOf M a0 a1 = some r) : CT D 0 mu_X10_shareOf [(4, a0), (0, a1)] M (ET 12 r).1 (ET 12 r).2 := CT.of (by decide +kernel) rfl (Nat.le_of_ble_eq_true rfl) (xe_X10_shareOf r hr)
