def b_X10_fetch_36 (v8 : Int) (v5 : Int) (a1 : Int) (a0 : Int) (s10 : Int × Int × Mm) : Option ((Int × Int × Mm) ⊕ (Int × Mm)) := if s10.2.1 < v8 then gd (aok v5 s10.2.1) ((some ((rd s10.2.2 v5 s10.2.1))).bind fun v19 => (if v19 = 0 then some (0) else (p_X5_replicaOn s10.2.2 v19 a1).bind fun r27 => some (r27) : Option (Int)).bind fun (s21 : Int) => if s21 = 0 then some (.inl (s10.1, (w (s10.2.1 + 1)), s10.2.2)) else gd (v19 ≠ 0) (if (rd s10.2.2 v19 4) = 0 then some (.inl (s10.1, (w (s10.2.1 + 1)), s10.2.2)) else if s21 = (rd s10.2.2 v19 4) then some (.inl (s10.1, (w (s10.2.1 + 1)), s10.2.2)) else (some ((w (s10.1 + (w ((rd s10.2.2 (rd s10.2.2 v19 4) 2) - (rd s10.2.2 s21 2))))))).bind fun v35 => (some (wr s10.2.2 s21 2 (rd s10.2.2 (rd s10.2.2 v19 4) 2))).bind fun M37 => (p_X7_catchUp M37 s21 (rd M37 a0 15)).bind fun M38 => some (.inl (v35, (w (s10.2.1 + 1)), M38)))) else some (.inr (s10.1, s10.2.2))
def p_X10_fetch (M : Mm) (a0 a1 : Int) : Option (Int × Int × Mm) := (p_X10_requireBroker M a1).bind (thU psT fun M1 => (p_X10_isLive M1 a0 a1).bind fun r2 => if r2 = 0 then psT 3 0 (thr M1) else (some ((rd M1 a0 1))).bind fun v5 => gd (v5 ≠ 0) ((some ((ln v5))).bind fun v8 => (lp (b_X10_fetch_36 v8 v5 a1 a0) 1000 (0, 0, M1)).bind fun (t11 : Int × Mm) => some (0, t11.1, t11.2)))
set_option maxRecDepth 100000 in
set_option maxHeartbeats 4000000 in
theorem xe_X10_fetch {D : Dt} {M : Mm} {a0 a1 : Int} (h0 : a0 ≠ 0) : XE D 0 mu_X10_fetch (ET 0) 0 [(0, (14, a0)), (1, (0, a1))] [] M (p_X10_fetch M a0 a1) := by
  unfold p_X10_fetch
  refine XE.go (st_iload_n (j := 1) (i := 1) (pc' := 1) (by decide +kernel) rfl rfl rfl) ?_
  refine XE.cUg (pc' := 4) (st := []) hfT (fun r hr => ct_X10_requireBroker r hr) (fun r hr => run_S (st := []) (by decide +kernel) co_X10_fetch_161 (ct_X10_requireBroker r hr) rfl rfl (Nat.le_of_ble_eq_true rfl)) rfl rfl rfl (fun M1 => ?_)
  refine XE.go (st_aload_n (j := 0) (i := 0) (pc' := 5) (by decide +kernel) rfl rfl (by decide) rfl) ?_
  refine XE.go (st_iload_n (j := 1) (i := 1) (pc' := 6) (by decide +kernel) rfl rfl rfl) ?_
  refine XE.cP (pc' := 9) (st := []) (fun r hr => ct_X10_isLive h0 r hr) (fun r hr => run_V (st := []) (by decide +kernel) co_X10_fetch_165 (ct_X10_isLive h0 r hr) rfl h0 rfl rfl (Nat.le_of_ble_eq_true rfl)) rfl rfl (fun r2 => ?_)
  refine XE.ite (fun h3 => ?_) (fun h4 => ?_)
  · refine XE.go (st_if_ne_f (off := 13) (pc' := 12) (by decide +kernel) 22 (by decide) rfl (not_not_intro h3)) ?_
    exact XE.thrT (by decide +kernel) (by decide +kernel) (by decide +kernel) (by decide +kernel) (by decide +kernel) thr_RX10_169 rfl (by decide) (by decide) (by decide)
  · refine XE.go (st_if_ne_t (off := 13) (pc' := 22) (by decide +kernel) (by decide) h4) ?_
    refine XE.go (st_iconst (n := 0) (pc' := 23) (by decide +kernel) (w_eq (by decide) (by decide)) rfl) ?_
    refine XE.go (st_istore_n (j := 2) (i := 2) (pc' := 24) (by decide +kernel) rfl rfl (by decide) rfl rfl) ?_
    refine XE.go (st_aload_n (j := 0) (i := 0) (pc' := 25) (by decide +kernel) rfl rfl (by decide) rfl) ?_
    refine XE.go (st_get (pc' := 28) (by decide +kernel) rfl cls_10 fld_RX10_17 rfl rfl h0) ?_
    refine XE.gen (fun v5 e6 => ?_)
    refine XE.go (st_astore_n (j := 3) (i := 3) (pc' := 29) (by decide +kernel) rfl (by decide) rfl (by decide) rfl rfl) ?_
    refine XE.go (st_aload_n (j := 3) (i := 3) (pc' := 30) (by decide +kernel) rfl rfl (by decide) rfl) ?_
    refine XE.gd_ (fun g7 => ?_)
    refine XE.go (st_alen (k := 21) (pc' := 31) (by decide +kernel) rfl ak_21 rfl (by decide) g7) ?_
    refine XE.gen (fun v8 e9 => ?_)
    refine XE.go (st_istore (j := 4) (pc' := 33) (by decide +kernel)  rfl (by decide) rfl rfl) ?_
    refine XE.go (st_iconst (n := 0) (pc' := 34) (by decide +kernel) (w_eq (by decide) (by decide)) rfl) ?_
    refine XE.go (st_istore (j := 5) (pc' := 36) (by decide +kernel)  rfl (by decide) rfl rfl) ?_
    refine XE.pick [4, 5, 3, 2, 1, 0] (L' := [(0, (14, a0)), (1, (0, a1)), (2, (0, 0)), (3, (24, v5)), (4, (0, v8)), (5, (0, 0))]) rfl ?_
    refine XE.loopJ (n := 1000) (s0 := (0, 0, M1)) (pcL := 36) (pcE := 134) (LL := fun (s10 : Int × Int × Mm) => [(0, (14, a0)), (1, (0, a1)), (2, (0, s10.1)), (3, (24, v5)), (4, (0, v8)), (5, (0, s10.2.1))]) (sL := fun _ => []) (ML := fun (s10 : Int × Int × Mm) => s10.2.2) (LE := fun (t11 : Int × Mm) => [(2, (0, t11.1))]) (sE := fun _ => []) (ME := fun (t11 : Int × Mm) => t11.2) (fun kk15 hc12 he13 s10 => ?_) (fun t11 => ?_)
    · unfold b_X10_fetch_36
      refine XE.go (st_iload (j := 5) (pc' := 38) (by decide +kernel) rfl rfl) ?_
      refine XE.go (st_iload (j := 4) (pc' := 40) (by decide +kernel) rfl rfl) ?_
      refine XE.bite (fun h16 => ?_) (fun h17 => ?_)
      · refine XE.go (st_icmp_ge_f (off := 94) (pc' := 43) (by decide +kernel) 134 (by decide) rfl (Int.not_le.mpr h16)) ?_
        refine XE.go (st_aload_n (j := 3) (i := 3) (pc' := 44) (by decide +kernel) rfl rfl (by decide) rfl) ?_
        refine XE.go (st_iload (j := 5) (pc' := 46) (by decide +kernel) rfl rfl) ?_
        refine XE.gdb (fun g18 => ?_)
        refine XE.go (st_ald (k := 21) (tp := 9) (pc' := 47) (by decide +kernel) rfl ak_21 rfl (by decide) rfl (Or.inr (Or.inr (Or.inr ⟨rfl, rfl⟩))) g18.1 g18.2.1 g18.2.2) ?_
        refine XE.asc ?_
        refine XE.gen (fun v19 e20 => ?_)
        refine XE.go (st_astore (j := 6) (pc' := 49) (by decide +kernel)  (by decide) rfl (by decide) rfl rfl) ?_
        refine XE.go (st_aload (j := 6) (pc' := 51) (by decide +kernel) rfl (by decide) rfl) ?_
        refine XE.asc ?_
        refine XE.join (pcJ := 64) (LJ := fun (s21 : Int) => [(0, (14, a0)), (1, (0, a1)), (2, (0, s10.1)), (3, (24, v5)), (4, (0, v8)), (5, (0, s10.2.1)), (6, (9, v19))]) (sJ := fun (s21 : Int) => [(11, s21)]) (MJ := fun (s21 : Int) => s10.2.2) (fun kk24 hk22 => ?_) (fun s21 => ?_)
        · refine XE.bite (fun h25 => ?_) (fun h26 => ?_)
          · refine XE.go (st_ifnonnull_f (off := 7) (pc' := 54) (by decide +kernel) (by decide) h25 rfl) ?_
            refine XE.go (st_null (t := 11) (pc' := 55) (by decide +kernel) (by decide) rfl) ?_
            refine XE.go (st_goto (off := 9) (pc' := 64) (by decide +kernel) (by decide)) ?_
            exact XE.pick [1, 2, 3, 4, 5, 6, 0] rfl (hk22 0)
          · refine XE.go (st_ifnonnull_t (off := 7) (pc' := 58) (by decide +kernel) (by decide) h26 (by decide)) ?_
            refine XE.go (st_aload (j := 6) (pc' := 60) (by decide +kernel) rfl (by decide) rfl) ?_
            refine XE.go (st_iload_n (j := 1) (i := 1) (pc' := 61) (by decide +kernel) rfl rfl rfl) ?_
            refine XE.asc ?_
            refine XE.cP (pc' := 64) (st := []) (fun r hr => ct_X5_replicaOn h26 r hr) (fun r hr => run_V (st := []) (by decide +kernel) co_X10_fetch_171 (ct_X5_replicaOn h26 r hr) rfl h26 rfl rfl (Nat.le_of_ble_eq_true rfl)) rfl rfl (fun r27 => ?_)
            exact XE.pick [1, 2, 3, 4, 5, 6, 0] rfl (hk22 r27)
        · refine XE.go (st_astore (j := 7) (pc' := 66) (by decide +kernel)  (by decide) rfl (by decide) rfl rfl) ?_
          refine XE.go (st_aload (j := 7) (pc' := 68) (by decide +kernel) rfl (by decide) rfl) ?_
          refine XE.bite (fun h28 => ?_) (fun h29 => ?_)
          · refine XE.go (st_ifnull_t (off := 60) (pc' := 128) (by decide +kernel) (by decide) h28 (by decide)) ?_
            refine XE.go (st_iinc (j := 5) (n := 1) (pc' := 131) (by decide +kernel) rfl rfl (by decide) rfl rfl) ?_
            refine XE.go (st_goto (off := (-95)) (pc' := 36) (by decide +kernel) (by decide)) ?_
            exact XE.pick [2, 3, 4, 5, 6, 0] rfl (hc12 (s10.1, (w (s10.2.1 + 1)), s10.2.2))
          · refine XE.go (st_ifnull_f (off := 60) (pc' := 71) (by decide +kernel) (by decide) h29 rfl) ?_
            refine XE.go (st_aload (j := 6) (pc' := 73) (by decide +kernel) rfl (by decide) rfl) ?_
            refine XE.gdb (fun g30 => ?_)
            refine XE.go (st_get (pc' := 76) (by decide +kernel) rfl cls_5 fld_RX10_179 rfl rfl g30) ?_
            refine XE.bite (fun h31 => ?_) (fun h32 => ?_)
            · refine XE.go (st_ifnull_t (off := 52) (pc' := 128) (by decide +kernel) (by decide) h31 (by decide)) ?_
              refine XE.go (st_iinc (j := 5) (n := 1) (pc' := 131) (by decide +kernel) rfl rfl (by decide) rfl rfl) ?_
              refine XE.go (st_goto (off := (-95)) (pc' := 36) (by decide +kernel) (by decide)) ?_
              exact XE.pick [2, 3, 4, 5, 6, 0] rfl (hc12 (s10.1, (w (s10.2.1 + 1)), s10.2.2))
            · refine XE.go (st_ifnull_f (off := 52) (pc' := 79) (by decide +kernel) (by decide) h32 rfl) ?_
              refine XE.go (st_aload (j := 7) (pc' := 81) (by decide +kernel) rfl (by decide) rfl) ?_
              refine XE.go (st_aload (j := 6) (pc' := 83) (by decide +kernel) rfl (by decide) rfl) ?_
              refine XE.go (st_get (pc' := 86) (by decide +kernel) rfl cls_5 fld_RX10_179 rfl rfl g30) ?_
              refine XE.bite (fun h33 => ?_) (fun h34 => ?_)
              · refine XE.go (st_acmp_eq_t (off := 42) (pc' := 128) (by decide +kernel) (by decide) (by decide) h33 (by decide)) ?_
                refine XE.go (st_iinc (j := 5) (n := 1) (pc' := 131) (by decide +kernel) rfl rfl (by decide) rfl rfl) ?_
                refine XE.go (st_goto (off := (-95)) (pc' := 36) (by decide +kernel) (by decide)) ?_
                exact XE.pick [2, 3, 4, 5, 6, 0] rfl (hc12 (s10.1, (w (s10.2.1 + 1)), s10.2.2))
              · refine XE.go (st_acmp_eq_f (off := 42) (pc' := 89) (by decide +kernel) 128 (by decide) (by decide) (by decide) h34 rfl) ?_
                refine XE.go (st_iload_n (j := 2) (i := 2) (pc' := 90) (by decide +kernel) rfl rfl rfl) ?_
                refine XE.go (st_aload (j := 6) (pc' := 92) (by decide +kernel) rfl (by decide) rfl) ?_
                refine XE.go (st_get (pc' := 95) (by decide +kernel) rfl cls_5 fld_RX10_179 rfl rfl g30) ?_
                refine XE.go (st_get (pc' := 98) (by decide +kernel) rfl cls_7 fld_RX10_192 rfl rfl h32) ?_
                refine XE.go (st_aload (j := 7) (pc' := 100) (by decide +kernel) rfl (by decide) rfl) ?_
                refine XE.go (st_get (pc' := 103) (by decide +kernel) rfl cls_7 fld_RX10_192 rfl rfl h29) ?_
                refine XE.go (st_isub (pc' := 104) (by decide +kernel) rfl) ?_
                refine XE.go (st_iadd (pc' := 105) (by decide +kernel) rfl) ?_
                refine XE.asc ?_
                refine XE.gen (fun v35 e36 => ?_)
                refine XE.go (st_istore_n (j := 2) (i := 2) (pc' := 106) (by decide +kernel) rfl rfl (by decide) rfl rfl) ?_
                refine XE.go (st_aload (j := 7) (pc' := 108) (by decide +kernel) rfl (by decide) rfl) ?_
                refine XE.go (st_aload (j := 6) (pc' := 110) (by decide +kernel) rfl (by decide) rfl) ?_
                refine XE.go (st_get (pc' := 113) (by decide +kernel) rfl cls_5 fld_RX10_179 rfl rfl g30) ?_
                refine XE.go (st_get (pc' := 116) (by decide +kernel) rfl cls_7 fld_RX10_192 rfl rfl h32) ?_
                refine XE.asc ?_
                refine XE.goM (st_put (pc' := 119) (by decide +kernel) rfl cls_7 fld_RX10_192 rfl rfl (fun h => absurd h (by decide)) (fun h => nomatch h) h29) (fun M37 => ?_)
                refine XE.go (st_aload (j := 7) (pc' := 121) (by decide +kernel) rfl (by decide) rfl) ?_
                refine XE.go (st_aload_n (j := 0) (i := 0) (pc' := 122) (by decide +kernel) rfl rfl (by decide) rfl) ?_
                refine XE.go (st_get (pc' := 125) (by decide +kernel) rfl cls_10 fld_RX10_70 rfl rfl h0) ?_
                refine XE.asc ?_
                refine XE.cV (pc' := 128) (st := []) (fun r hr => ct_X7_catchUp h29 r hr) (fun r hr => run_V (st := []) (by decide +kernel) co_X10_fetch_224 (ct_X7_catchUp h29 r hr) rfl h29 rfl rfl (Nat.le_of_ble_eq_true rfl)) rfl rfl (fun M38 => ?_)
                refine XE.go (st_iinc (j := 5) (n := 1) (pc' := 131) (by decide +kernel) rfl rfl (by decide) rfl rfl) ?_
                refine XE.go (st_goto (off := (-95)) (pc' := 36) (by decide +kernel) (by decide)) ?_
                exact XE.pick [3, 4, 1, 5, 6, 0] rfl (hc12 (v35, (w (s10.2.1 + 1)), M38))
      · refine XE.go (st_icmp_ge_t (off := 94) (pc' := 134) (by decide +kernel) (by decide) (Int.not_lt.mp h17)) ?_
        exact XE.pick [2] rfl (he13 (s10.1, s10.2.2))
    · refine XE.go (st_iload_n (j := 2) (i := 2) (pc' := 135) (by decide +kernel) rfl rfl rfl) ?_
      exact XE.rt rfl (X_iret (by decide +kernel) rfl)
theorem ct_X10_fetch {D : Dt} {M : Mm} {a0 a1 : Int} (h0 : a0 ≠ 0) (r : (Int × Int × Mm)) (hr : p_X10_fetch M a0 a1 = some r) : CT D 0 mu_X10_fetch [(14, a0), (0, a1)] M (ET 0 r).1 (ET 0 r).2 := CT.of (by decide +kernel) rfl (Nat.le_of_ble_eq_true rfl) (xe_X10_fetch h0 r hr)
def p_X10_speed (M : Mm) (a0 a1 : Int) : Option (Int × Int × Mm) := (p_X10_requireWithin M a1 0 9).bind (thU psT fun M1 => (some ((rd M1 a0 14))).bind fun v2 => (some (wr M1 a0 14 a1)).bind fun M4 => some (0, v2, M4))
set_option maxRecDepth 100000 in
set_option maxHeartbeats 4000000 in
theorem xe_X10_speed {D : Dt} {M : Mm} {a0 a1 : Int} (h0 : a0 ≠ 0) : XE D 0 mu_X10_speed (ET 0) 0 [(0, (14, a0)), (1, (0, a1))] [] M (p_X10_speed M a0 a1) := by
  unfold p_X10_speed
  refine XE.go (st_iload_n (j := 1) (i := 1) (pc' := 1) (by decide +kernel) rfl rfl rfl) ?_
  refine XE.go (st_iconst (n := 0) (pc' := 2) (by decide +kernel) (w_eq (by decide) (by decide)) rfl) ?_
  refine XE.go (st_bipush (n := 9) (pc' := 4) (by decide +kernel) (by decide) (w_eq (by decide) (by decide)) rfl) ?_
  refine XE.cUg (pc' := 7) (st := []) hfT (fun r hr => ct_X10_requireWithin r hr) (fun r hr => run_S (st := []) (by decide +kernel) co_X10_speed_73 (ct_X10_requireWithin r hr) rfl rfl (Nat.le_of_ble_eq_true rfl)) rfl rfl rfl (fun M1 => ?_)
  refine XE.go (st_aload_n (j := 0) (i := 0) (pc' := 8) (by decide +kernel) rfl rfl (by decide) rfl) ?_
  refine XE.go (st_get (pc' := 11) (by decide +kernel) rfl cls_10 fld_RX10_67 rfl rfl h0) ?_
  refine XE.gen (fun v2 e3 => ?_)
  refine XE.go (st_istore_n (j := 2) (i := 2) (pc' := 12) (by decide +kernel) rfl rfl (by decide) rfl rfl) ?_
  refine XE.go (st_aload_n (j := 0) (i := 0) (pc' := 13) (by decide +kernel) rfl rfl (by decide) rfl) ?_
  refine XE.go (st_iload_n (j := 1) (i := 1) (pc' := 14) (by decide +kernel) rfl rfl rfl) ?_
  refine XE.goM (st_put (pc' := 17) (by decide +kernel) rfl cls_10 fld_RX10_67 rfl rfl (fun h => absurd h (by decide)) (fun h => nomatch h) h0) (fun M4 => ?_)
  refine XE.go (st_iload_n (j := 2) (i := 2) (pc' := 18) (by decide +kernel) rfl rfl rfl) ?_
  exact XE.rt rfl (X_iret (by decide +kernel) rfl)
theorem ct_X10_speed {D : Dt} {M : Mm} {a0 a1 : Int} (h0 : a0 ≠ 0) (r : (Int × Int × Mm)) (hr : p_X10_speed M a0 a1 = some r) : CT D 0 mu_X10_speed [(14, a0), (0, a1)] M (ET 0 r).1 (ET 0 r).2 := CT.of (by decide +kernel) rfl (Nat.le_of_ble_eq_true rfl) (xe_X10_speed h0 r hr)
def p_X4_isPlainCutOf (M : Mm) (a0 a1 a2 : Int) : Option Int := if (rd M a0 7) = 2 then if (rd M a0 8) = 0 then if (rd M a0 1) = a1 then if (rd M a0 2) = a2 then some (1) else some (0) else some (0) else some (0) else some (0)
set_option maxRecDepth 100000 in
set_option maxHeartbeats 4000000 in
theorem xe_X4_isPlainCutOf {D : Dt} {M : Mm} {a0 a1 a2 : Int} (h0 : a0 ≠ 0) : XE D 0 mu_X4_isPlainCutOf (EP 0 M) 0 [(0, (8, a0)), (1, (10, a1)), (2, (9, a2))] [] M (p_X4_isPlainCutOf M a0 a1 a2) := by
  unfold p_X4_isPlainCutOf
  refine XE.go (st_aload_n (j := 0) (i := 0) (pc' := 1) (by decide +kernel) rfl rfl (by decide) rfl) ?_
  refine XE.go (st_get (pc' := 4) (by decide +kernel) rfl cls_4 fld_RX4_9 rfl rfl h0) ?_
  refine XE.go (st_iconst (n := 2) (pc' := 5) (by decide +kernel) (w_eq (by decide) (by decide)) rfl) ?_
  refine XE.ite (fun h1 => ?_) (fun h2 => ?_)
  · refine XE.go (st_icmp_ne_f (off := 30) (pc' := 8) (by decide +kernel) 35 (by decide) rfl (not_not_intro h1)) ?_
    refine XE.go (st_aload_n (j := 0) (i := 0) (pc' := 9) (by decide +kernel) rfl rfl (by decide) rfl) ?_
    refine XE.go (st_get (pc' := 12) (by decide +kernel) rfl cls_4 fld_RX4_44 rfl rfl h0) ?_
    refine XE.ite (fun h3 => ?_) (fun h4 => ?_)
    · refine XE.go (st_if_ne_f (off := 23) (pc' := 15) (by decide +kernel) 35 (by decide) rfl (not_not_intro h3)) ?_
      refine XE.go (st_aload_n (j := 0) (i := 0) (pc' := 16) (by decide +kernel) rfl rfl (by decide) rfl) ?_
      refine XE.go (st_get (pc' := 19) (by decide +kernel) rfl cls_4 fld_RX4_24 rfl rfl h0) ?_
      refine XE.go (st_aload_n (j := 1) (i := 1) (pc' := 20) (by decide +kernel) rfl rfl (by decide) rfl) ?_
      refine XE.ite (fun h5 => ?_) (fun h6 => ?_)
      · refine XE.go (st_acmp_ne_f (off := 15) (pc' := 23) (by decide +kernel) 35 (by decide) (by decide) (by decide) h5 rfl) ?_
        refine XE.go (st_aload_n (j := 0) (i := 0) (pc' := 24) (by decide +kernel) rfl rfl (by decide) rfl) ?_
        refine XE.go (st_get (pc' := 27) (by decide +kernel) rfl cls_4 fld_RX4_28 rfl rfl h0) ?_
        refine XE.go (st_aload_n (j := 2) (i := 2) (pc' := 28) (by decide +kernel) rfl rfl (by decide) rfl) ?_
        refine XE.ite (fun h7 => ?_) (fun h8 => ?_)
        · refine XE.go (st_acmp_ne_f (off := 7) (pc' := 31) (by decide +kernel) 35 (by decide) (by decide) (by decide) h7 rfl) ?_
          refine XE.go (st_iconst (n := 1) (pc' := 32) (by decide +kernel) (w_eq (by decide) (by decide)) rfl) ?_
          refine XE.go (st_goto (off := 4) (pc' := 36) (by decide +kernel) (by decide)) ?_
          exact XE.rt rfl (X_zret (by decide +kernel) rfl (by decide))
        · refine XE.go (st_acmp_ne_t (off := 7) (pc' := 35) (by decide +kernel) (by decide) (by decide) h8 (by decide)) ?_
          refine XE.go (st_iconst (n := 0) (pc' := 36) (by decide +kernel) (w_eq (by decide) (by decide)) rfl) ?_
          exact XE.rt rfl (X_zret (by decide +kernel) rfl (by decide))
      · refine XE.go (st_acmp_ne_t (off := 15) (pc' := 35) (by decide +kernel) (by decide) (by decide) h6 (by decide)) ?_
        refine XE.go (st_iconst (n := 0) (pc' := 36) (by decide +kernel) (w_eq (by decide) (by decide)) rfl) ?_
        exact XE.rt rfl (X_zret (by decide +kernel) rfl (by decide))
    · refine XE.go (st_if_ne_t (off := 23) (pc' := 35) (by decide +kernel) (by decide) h4) ?_
      refine XE.go (st_iconst (n := 0) (pc' := 36) (by decide +kernel) (w_eq (by decide) (by decide)) rfl) ?_
      exact XE.rt rfl (X_zret (by decide +kernel) rfl (by decide))
  · refine XE.go (st_icmp_ne_t (off := 30) (pc' := 35) (by decide +kernel) (by decide) h2) ?_
    refine XE.go (st_iconst (n := 0) (pc' := 36) (by decide +kernel) (w_eq (by decide) (by decide)) rfl) ?_
    exact XE.rt rfl (X_zret (by decide +kernel) rfl (by decide))
theorem ct_X4_isPlainCutOf {D : Dt} {M : Mm} {a0 a1 a2 : Int} (h0 : a0 ≠ 0) (r : Int) (hr : p_X4_isPlainCutOf M a0 a1 a2 = some r) : CT D 0 mu_X4_isPlainCutOf [(8, a0), (10, a1), (9, a2)] M (.inl (some (0, r))) M := CT.of (by decide +kernel) rfl (Nat.le_of_ble_eq_true rfl) (xe_X4_isPlainCutOf h0 r hr)
def b_X10_plainCutCount_5 (M : Mm) (a0 : Int) (a1 : Int) (a2 : Int) (s1 : Int × Int) : Option ((Int × Int) ⊕ (Int)) := if s1.2 < (rd M a0 10) then gd (aok (rd M a0 4) s1.2) ((some ((rd M (rd M a0 4) s1.2))).bind fun v10 => if v10 = 0 then some (.inl (s1.1, (w (s1.2 + 1)))) else (p_X4_isPlainCutOf M v10 a1 a2).bind fun r14 => if r14 = 0 then some (.inl (s1.1, (w (s1.2 + 1)))) else some (.inl ((w (s1.1 + 1)), (w (s1.2 + 1))))) else some (.inr s1.1)
def p_X10_plainCutCount (M : Mm) (a0 a1 a2 : Int) : Option Int := (lp (b_X10_plainCutCount_5 M a0 a1 a2) 1000 (0, 0)).bind fun (t2 : Int) => some (t2)
set_option maxRecDepth 100000 in
set_option maxHeartbeats 4000000 in
theorem xe_X10_plainCutCount {D : Dt} {M : Mm} {a0 a1 a2 : Int} (h0 : a0 ≠ 0) : XE D 0 mu_X10_plainCutCount (EP 0 M) 0 [(0, (14, a0)), (1, (10, a1)), (2, (9, a2))] [] M (p_X10_plainCutCount M a0 a1 a2) := by
  unfold p_X10_plainCutCount
  refine XE.go (st_iconst (n := 0) (pc' := 1) (by decide +kernel) (w_eq (by decide) (by decide)) rfl) ?_
  refine XE.go (st_istore_n (j := 3) (i := 3) (pc' := 2) (by decide +kernel) rfl rfl (by decide) rfl rfl) ?_
  refine XE.go (st_iconst (n := 0) (pc' := 3) (by decide +kernel) (w_eq (by decide) (by decide)) rfl) ?_
  refine XE.go (st_istore (j := 4) (pc' := 5) (by decide +kernel)  rfl (by decide) rfl rfl) ?_
  refine XE.pick [2, 3, 4, 1, 0] (L' := [(0, (14, a0)), (1, (10, a1)), (2, (9, a2)), (3, (0, 0)), (4, (0, 0))]) rfl ?_
  refine XE.loopJ (n := 1000) (s0 := (0, 0)) (pcL := 5) (pcE := 47) (LL := fun (s1 : Int × Int) => [(0, (14, a0)), (1, (10, a1)), (2, (9, a2)), (3, (0, s1.1)), (4, (0, s1.2))]) (sL := fun _ => []) (ML := fun (s1 : Int × Int) => M) (LE := fun (t2 : Int) => [(3, (0, t2))]) (sE := fun _ => []) (ME := fun (t2 : Int) => M) (fun kk6 hc3 he4 s1 => ?_) (fun t2 => ?_)
  · unfold b_X10_plainCutCount_5
    refine XE.go (st_iload (j := 4) (pc' := 7) (by decide +kernel) rfl rfl) ?_
    refine XE.go (st_aload_n (j := 0) (i := 0) (pc' := 8) (by decide +kernel) rfl rfl (by decide) rfl) ?_
    refine XE.go (st_get (pc' := 11) (by decide +kernel) rfl cls_10 fld_RX10_55 rfl rfl h0) ?_
    refine XE.bite (fun h7 => ?_) (fun h8 => ?_)
    · refine XE.go (st_icmp_ge_f (off := 36) (pc' := 14) (by decide +kernel) 47 (by decide) rfl (Int.not_le.mpr h7)) ?_
      refine XE.go (st_aload_n (j := 0) (i := 0) (pc' := 15) (by decide +kernel) rfl rfl (by decide) rfl) ?_
      refine XE.go (st_get (pc' := 18) (by decide +kernel) rfl cls_10 fld_RX10_35 rfl rfl h0) ?_
      refine XE.go (st_iload (j := 4) (pc' := 20) (by decide +kernel) rfl rfl) ?_
      refine XE.gdb (fun g9 => ?_)
      refine XE.go (st_ald (k := 20) (tp := 8) (pc' := 21) (by decide +kernel) rfl ak_20 rfl (by decide) rfl (Or.inr (Or.inr (Or.inr ⟨rfl, rfl⟩))) g9.1 g9.2.1 g9.2.2) ?_
      refine XE.asc ?_
      refine XE.gen (fun v10 e11 => ?_)
      refine XE.go (st_astore (j := 5) (pc' := 23) (by decide +kernel)  (by decide) rfl (by decide) rfl rfl) ?_
      refine XE.go (st_aload (j := 5) (pc' := 25) (by decide +kernel) rfl (by decide) rfl) ?_
      refine XE.bite (fun h12 => ?_) (fun h13 => ?_)
      · refine XE.go (st_ifnull_t (off := 16) (pc' := 41) (by decide +kernel) (by decide) h12 (by decide)) ?_
        refine XE.go (st_iinc (j := 4) (n := 1) (pc' := 44) (by decide +kernel) rfl rfl (by decide) rfl rfl) ?_
        refine XE.go (st_goto (off := (-39)) (pc' := 5) (by decide +kernel) (by decide)) ?_
        exact XE.pick [2, 3, 4, 5, 0] rfl (hc3 (s1.1, (w (s1.2 + 1))))
      · refine XE.go (st_ifnull_f (off := 16) (pc' := 28) (by decide +kernel) (by decide) h13 rfl) ?_
        refine XE.go (st_aload (j := 5) (pc' := 30) (by decide +kernel) rfl (by decide) rfl) ?_
        refine XE.go (st_aload_n (j := 1) (i := 1) (pc' := 31) (by decide +kernel) rfl rfl (by decide) rfl) ?_
        refine XE.go (st_aload_n (j := 2) (i := 2) (pc' := 32) (by decide +kernel) rfl rfl (by decide) rfl) ?_
        refine XE.asc ?_
        refine XE.cP (pc' := 35) (st := []) (fun r hr => ct_X4_isPlainCutOf h13 r hr) (fun r hr => run_V (st := []) (by decide +kernel) co_X10_plainCutCount_312 (ct_X4_isPlainCutOf h13 r hr) rfl h13 rfl rfl (Nat.le_of_ble_eq_true rfl)) rfl rfl (fun r14 => ?_)
        refine XE.bite (fun h15 => ?_) (fun h16 => ?_)
        · refine XE.go (st_if_eq_t (off := 6) (pc' := 41) (by decide +kernel) (by decide) h15) ?_
          refine XE.go (st_iinc (j := 4) (n := 1) (pc' := 44) (by decide +kernel) rfl rfl (by decide) rfl rfl) ?_
          refine XE.go (st_goto (off := (-39)) (pc' := 5) (by decide +kernel) (by decide)) ?_
          exact XE.pick [2, 3, 4, 5, 0] rfl (hc3 (s1.1, (w (s1.2 + 1))))
        · refine XE.go (st_if_eq_f (off := 6) (pc' := 38) (by decide +kernel) 41 (by decide) rfl h16) ?_
          refine XE.go (st_iinc (j := 3) (n := 1) (pc' := 41) (by decide +kernel) rfl rfl (by decide) rfl rfl) ?_
          refine XE.go (st_iinc (j := 4) (n := 1) (pc' := 44) (by decide +kernel) rfl rfl (by decide) rfl rfl) ?_
          refine XE.go (st_goto (off := (-39)) (pc' := 5) (by decide +kernel) (by decide)) ?_
          exact XE.pick [3, 4, 5, 1, 0] rfl (hc3 ((w (s1.1 + 1)), (w (s1.2 + 1))))
    · refine XE.go (st_icmp_ge_t (off := 36) (pc' := 47) (by decide +kernel) (by decide) (Int.not_lt.mp h8)) ?_
      exact XE.pick [3] rfl (he4 s1.1)
  · refine XE.go (st_iload_n (j := 3) (i := 3) (pc' := 48) (by decide +kernel) rfl rfl rfl) ?_
    exact XE.rt rfl (X_iret (by decide +kernel) rfl)
theorem ct_X10_plainCutCount {D : Dt} {M : Mm} {a0 a1 a2 : Int} (h0 : a0 ≠ 0) (r : Int) (hr : p_X10_plainCutCount M a0 a1 a2 = some r) : CT D 0 mu_X10_plainCutCount [(14, a0), (10, a1), (9, a2)] M (.inl (some (0, r))) M := CT.of (by decide +kernel) rfl (Nat.le_of_ble_eq_true rfl) (xe_X10_plainCutCount h0 r hr)
def p_X10_canAppend (M : Mm) (a0 a1 a2 : Int) : Option Int := if a2 = 0 then some (0) else if (rd M a2 4) = 0 then some (0) else if (rd M (rd M a2 4) 2) < 60 then (p_X10_plainCutCount M a0 a1 a2).bind fun r7 => if r7 = 0 then some (1) else some (0) else some (0)
set_option maxRecDepth 100000 in
set_option maxHeartbeats 4000000 in
theorem xe_X10_canAppend {D : Dt} {M : Mm} {a0 a1 a2 : Int} (h0 : a0 ≠ 0) : XE D 0 mu_X10_canAppend (EP 0 M) 0 [(0, (14, a0)), (1, (10, a1)), (2, (9, a2))] [] M (p_X10_canAppend M a0 a1 a2) := by
  unfold p_X10_canAppend
  refine XE.go (st_aload_n (j := 2) (i := 2) (pc' := 1) (by decide +kernel) rfl rfl (by decide) rfl) ?_
  refine XE.ite (fun h1 => ?_) (fun h2 => ?_)
  · refine XE.go (st_ifnull_t (off := 35) (pc' := 36) (by decide +kernel) (by decide) h1 (by decide)) ?_
    refine XE.go (st_iconst (n := 0) (pc' := 37) (by decide +kernel) (w_eq (by decide) (by decide)) rfl) ?_
    exact XE.rt rfl (X_zret (by decide +kernel) rfl (by decide))
  · refine XE.go (st_ifnull_f (off := 35) (pc' := 4) (by decide +kernel) (by decide) h2 rfl) ?_
    refine XE.go (st_aload_n (j := 2) (i := 2) (pc' := 5) (by decide +kernel) rfl rfl (by decide) rfl) ?_
    refine XE.go (st_get (pc' := 8) (by decide +kernel) rfl cls_5 fld_RX10_179 rfl rfl h2) ?_
    refine XE.ite (fun h3 => ?_) (fun h4 => ?_)
    · refine XE.go (st_ifnull_t (off := 28) (pc' := 36) (by decide +kernel) (by decide) h3 (by decide)) ?_
      refine XE.go (st_iconst (n := 0) (pc' := 37) (by decide +kernel) (w_eq (by decide) (by decide)) rfl) ?_
      exact XE.rt rfl (X_zret (by decide +kernel) rfl (by decide))
    · refine XE.go (st_ifnull_f (off := 28) (pc' := 11) (by decide +kernel) (by decide) h4 rfl) ?_
      refine XE.go (st_aload_n (j := 2) (i := 2) (pc' := 12) (by decide +kernel) rfl rfl (by decide) rfl) ?_
      refine XE.go (st_get (pc' := 15) (by decide +kernel) rfl cls_5 fld_RX10_179 rfl rfl h2) ?_
      refine XE.go (st_get (pc' := 18) (by decide +kernel) rfl cls_7 fld_RX10_192 rfl rfl h4) ?_
      refine XE.go (st_bipush (n := 60) (pc' := 20) (by decide +kernel) (by decide) (w_eq (by decide) (by decide)) rfl) ?_
      refine XE.ite (fun h5 => ?_) (fun h6 => ?_)
      · refine XE.go (st_icmp_ge_f (off := 16) (pc' := 23) (by decide +kernel) 36 (by decide) rfl (Int.not_le.mpr h5)) ?_
        refine XE.go (st_aload_n (j := 0) (i := 0) (pc' := 24) (by decide +kernel) rfl rfl (by decide) rfl) ?_
        refine XE.go (st_aload_n (j := 1) (i := 1) (pc' := 25) (by decide +kernel) rfl rfl (by decide) rfl) ?_
        refine XE.go (st_aload_n (j := 2) (i := 2) (pc' := 26) (by decide +kernel) rfl rfl (by decide) rfl) ?_
        refine XE.cP (pc' := 29) (st := []) (fun r hr => ct_X10_plainCutCount h0 r hr) (fun r hr => run_V (st := []) (by decide +kernel) co_X10_canAppend_308 (ct_X10_plainCutCount h0 r hr) rfl h0 rfl rfl (Nat.le_of_ble_eq_true rfl)) rfl rfl (fun r7 => ?_)
        refine XE.ite (fun h8 => ?_) (fun h9 => ?_)
        · refine XE.go (st_if_ne_f (off := 7) (pc' := 32) (by decide +kernel) 36 (by decide) rfl (not_not_intro h8)) ?_
          refine XE.go (st_iconst (n := 1) (pc' := 33) (by decide +kernel) (w_eq (by decide) (by decide)) rfl) ?_
          refine XE.go (st_goto (off := 4) (pc' := 37) (by decide +kernel) (by decide)) ?_
          exact XE.rt rfl (X_zret (by decide +kernel) rfl (by decide))
        · refine XE.go (st_if_ne_t (off := 7) (pc' := 36) (by decide +kernel) (by decide) h9) ?_
          refine XE.go (st_iconst (n := 0) (pc' := 37) (by decide +kernel) (w_eq (by decide) (by decide)) rfl) ?_
          exact XE.rt rfl (X_zret (by decide +kernel) rfl (by decide))
      · refine XE.go (st_icmp_ge_t (off := 16) (pc' := 36) (by decide +kernel) (by decide) (Int.not_lt.mp h6)) ?_
        refine XE.go (st_iconst (n := 0) (pc' := 37) (by decide +kernel) (w_eq (by decide) (by decide)) rfl) ?_
        exact XE.rt rfl (X_zret (by decide +kernel) rfl (by decide))
theorem ct_X10_canAppend {D : Dt} {M : Mm} {a0 a1 a2 : Int} (h0 : a0 ≠ 0) (r : Int) (hr : p_X10_canAppend M a0 a1 a2 = some r) : CT D 0 mu_X10_canAppend [(14, a0), (10, a1), (9, a2)] M (.inl (some (0, r))) M := CT.of (by decide +kernel) rfl (Nat.le_of_ble_eq_true rfl) (xe_X10_canAppend h0 r hr)
def p_X5_append (M : Mm) (a0 a1 a2 : Int) : Option Mm := if (rd M a0 4) = 0 then some (M) else if (rd M (rd M a0 4) 2) < 0 then some (M) else gd ((rd M a0 3) ≠ 0) (if (rd M (rd M a0 4) 2) < (ln (rd M a0 3)) then gd (aok (rd M a0 3) (rd M (rd M a0 4) 2)) ((some (wr M (rd M a0 3) (rd M (rd M a0 4) 2) a1)).bind fun M9 => gd (a1 ≠ 0) ((some (wr M9 a1 7 1)).bind fun M11 => gd ((rd M11 a0 4) ≠ 0) ((some (wr M11 a1 9 (rd M11 (rd M11 a0 4) 2))).bind fun M13 => (some (wr M13 a1 10 a2)).bind fun M14 => gd ((rd M14 a0 4) ≠ 0) ((some (wr M14 (rd M14 a0 4) 2 (w ((rd M14 (rd M14 a0 4) 2) + 1)))).bind fun M16 => some (M16))))) else some (M))
set_option maxRecDepth 100000 in
set_option maxHeartbeats 4000000 in
theorem xe_X5_append {D : Dt} {M : Mm} {a0 a1 a2 : Int} (h0 : a0 ≠ 0) : XE D 0 mu_X5_append EV 0 [(0, (9, a0)), (1, (8, a1)), (2, (0, a2))] [] M (p_X5_append M a0 a1 a2) := by
  unfold p_X5_append
  refine XE.go (st_aload_n (j := 0) (i := 0) (pc' := 1) (by decide +kernel) rfl rfl (by decide) rfl) ?_
  refine XE.go (st_get (pc' := 4) (by decide +kernel) rfl cls_5 fld_RX5_42 rfl rfl h0) ?_
  refine XE.ite (fun h1 => ?_) (fun h2 => ?_)
  · refine XE.go (st_ifnull_t (off := 28) (pc' := 32) (by decide +kernel) (by decide) h1 (by decide)) ?_
    exact XE.rt rfl (X_vret (by decide +kernel) rfl)
  · refine XE.go (st_ifnull_f (off := 28) (pc' := 7) (by decide +kernel) (by decide) h2 rfl) ?_
    refine XE.go (st_aload_n (j := 0) (i := 0) (pc' := 8) (by decide +kernel) rfl rfl (by decide) rfl) ?_
    refine XE.go (st_get (pc' := 11) (by decide +kernel) rfl cls_5 fld_RX5_42 rfl rfl h0) ?_
    refine XE.go (st_get (pc' := 14) (by decide +kernel) rfl cls_7 fld_RX5_53 rfl rfl h2) ?_
    refine XE.ite (fun h3 => ?_) (fun h4 => ?_)
    · refine XE.go (st_if_lt_t (off := 18) (pc' := 32) (by decide +kernel) (by decide) h3) ?_
      exact XE.rt rfl (X_vret (by decide +kernel) rfl)
    · refine XE.go (st_if_lt_f (off := 18) (pc' := 17) (by decide +kernel) 32 (by decide) rfl h4) ?_
      refine XE.go (st_aload_n (j := 0) (i := 0) (pc' := 18) (by decide +kernel) rfl rfl (by decide) rfl) ?_
      refine XE.go (st_get (pc' := 21) (by decide +kernel) rfl cls_5 fld_RX5_42 rfl rfl h0) ?_
      refine XE.go (st_get (pc' := 24) (by decide +kernel) rfl cls_7 fld_RX5_53 rfl rfl h2) ?_
      refine XE.go (st_aload_n (j := 0) (i := 0) (pc' := 25) (by decide +kernel) rfl rfl (by decide) rfl) ?_
      refine XE.go (st_get (pc' := 28) (by decide +kernel) rfl cls_5 fld_RX5_19 rfl rfl h0) ?_
      refine XE.gd_ (fun g5 => ?_)
      refine XE.go (st_alen (k := 20) (pc' := 29) (by decide +kernel) rfl ak_20 rfl (by decide) g5) ?_
      refine XE.ite (fun h6 => ?_) (fun h7 => ?_)
      · refine XE.go (st_icmp_lt_t (off := 4) (pc' := 33) (by decide +kernel) (by decide) h6) ?_
        refine XE.go (st_aload_n (j := 0) (i := 0) (pc' := 34) (by decide +kernel) rfl rfl (by decide) rfl) ?_
        refine XE.go (st_get (pc' := 37) (by decide +kernel) rfl cls_5 fld_RX5_19 rfl rfl h0) ?_
        refine XE.go (st_aload_n (j := 0) (i := 0) (pc' := 38) (by decide +kernel) rfl rfl (by decide) rfl) ?_
        refine XE.go (st_get (pc' := 41) (by decide +kernel) rfl cls_5 fld_RX5_42 rfl rfl h0) ?_
        refine XE.go (st_get (pc' := 44) (by decide +kernel) rfl cls_7 fld_RX5_53 rfl rfl h2) ?_
        refine XE.go (st_aload_n (j := 1) (i := 1) (pc' := 45) (by decide +kernel) rfl rfl (by decide) rfl) ?_
        refine XE.gd_ (fun g8 => ?_)
        refine XE.goM (st_aast (pc' := 46) (by decide +kernel) rfl ak_20 cls_4 rfl rfl rfl g8.1 g8.2.1 g8.2.2) (fun M9 => ?_)
        refine XE.go (st_aload_n (j := 1) (i := 1) (pc' := 47) (by decide +kernel) rfl rfl (by decide) rfl) ?_
        refine XE.go (st_iconst (n := 1) (pc' := 48) (by decide +kernel) (w_eq (by decide) (by decide)) rfl) ?_
        refine XE.gd_ (fun g10 => ?_)
        refine XE.goM (st_put (pc' := 51) (by decide +kernel) rfl cls_4 fld_RX5_78 rfl rfl (fun h => absurd h (by decide)) (fun h => nomatch h) g10) (fun M11 => ?_)
        refine XE.go (st_aload_n (j := 1) (i := 1) (pc' := 52) (by decide +kernel) rfl rfl (by decide) rfl) ?_
        refine XE.go (st_aload_n (j := 0) (i := 0) (pc' := 53) (by decide +kernel) rfl rfl (by decide) rfl) ?_
        refine XE.go (st_get (pc' := 56) (by decide +kernel) rfl cls_5 fld_RX5_42 rfl rfl h0) ?_
        refine XE.gd_ (fun g12 => ?_)
        refine XE.go (st_get (pc' := 59) (by decide +kernel) rfl cls_7 fld_RX5_53 rfl rfl g12) ?_
        refine XE.goM (st_put (pc' := 62) (by decide +kernel) rfl cls_4 fld_RX5_98 rfl rfl (fun h => absurd h (by decide)) (fun h => nomatch h) g10) (fun M13 => ?_)
        refine XE.go (st_aload_n (j := 1) (i := 1) (pc' := 63) (by decide +kernel) rfl rfl (by decide) rfl) ?_
        refine XE.go (st_iload_n (j := 2) (i := 2) (pc' := 64) (by decide +kernel) rfl rfl rfl) ?_
        refine XE.goM (st_put (pc' := 67) (by decide +kernel) rfl cls_4 fld_RX5_101 rfl rfl (fun h => absurd h (by decide)) (fun h => nomatch h) g10) (fun M14 => ?_)
        refine XE.go (st_aload_n (j := 0) (i := 0) (pc' := 68) (by decide +kernel) rfl rfl (by decide) rfl) ?_
        refine XE.go (st_get (pc' := 71) (by decide +kernel) rfl cls_5 fld_RX5_42 rfl rfl h0) ?_
        refine XE.go (st_dup (pc' := 72) (by decide +kernel) rfl rfl) ?_
        refine XE.gd_ (fun g15 => ?_)
        refine XE.go (st_get (pc' := 75) (by decide +kernel) rfl cls_7 fld_RX5_53 rfl rfl g15) ?_
        refine XE.go (st_iconst (n := 1) (pc' := 76) (by decide +kernel) (w_eq (by decide) (by decide)) rfl) ?_
        refine XE.go (st_iadd (pc' := 77) (by decide +kernel) rfl) ?_
        refine XE.goM (st_put (pc' := 80) (by decide +kernel) rfl cls_7 fld_RX5_53 rfl rfl (fun h => absurd h (by decide)) (fun h => nomatch h) g15) (fun M16 => ?_)
        exact XE.rt rfl (X_vret (by decide +kernel) rfl)
      · refine XE.go (st_icmp_lt_f (off := 4) (pc' := 32) (by decide +kernel) 33 (by decide) rfl h7) ?_
        exact XE.rt rfl (X_vret (by decide +kernel) rfl)
theorem ct_X5_append {D : Dt} {M : Mm} {a0 a1 a2 : Int} (h0 : a0 ≠ 0) (r : Mm) (hr : p_X5_append M a0 a1 a2 = some r) : CT D 0 mu_X5_append [(9, a0), (8, a1), (0, a2)] M (.inl none) r := CT.of (by decide +kernel) rfl (Nat.le_of_ble_eq_true rfl) (xe_X5_append h0 r hr)
def b_X10_appendDelayed_4 (a0 : Int) (s1 : Int × Int × Mm) : Option ((Int × Int × Mm) ⊕ (Int × Mm)) := if s1.2.1 < (rd s1.2.2 a0 11) then if s1.2.1 < 150 then gd (aok (rd s1.2.2 a0 5) s1.2.1) ((some ((rd s1.2.2 (rd s1.2.2 a0 5) s1.2.1))).bind fun v12 => (if v12 = 0 then some (.inr (s1.2.1, s1.2.2)) else if (rd s1.2.2 a0 15) < (rd s1.2.2 v12 5) then some (.inr (s1.2.1, s1.2.2)) else (p_X10_canAppend s1.2.2 a0 (rd s1.2.2 v12 1) (rd s1.2.2 v12 2)).bind fun r34 => if r34 = 0 then some (.inr (s1.2.1, s1.2.2)) else gd ((rd s1.2.2 v12 2) ≠ 0) ((p_X5_append s1.2.2 (rd s1.2.2 v12 2) v12 (rd s1.2.2 a0 15)).bind fun M38 => some (.inl (.inl (s1.1, (w (s1.2.1 + 1)), M38)))) : Option (((Int × Int × Mm) ⊕ (Int × Mm)) ⊕ (Int × Mm))).bind (Sum.elim some fun (s14 : Int × Mm) => gd (aok (rd s14.2 a0 5) s1.1) ((some (wr s14.2 (rd s14.2 a0 5) s1.1 v12)).bind fun M40 => some (.inl ((w (s1.1 + 1)), (w (s14.1 + 1)), M40))))) else some (.inr (s1.1, s1.2.2)) else some (.inr (s1.1, s1.2.2))
def p_X10_appendDelayed (M : Mm) (a0 : Int) : Option Mm := (lp (b_X10_appendDelayed_4 a0) 1000 (0, 0, M)).bind fun (t2 : Int × Mm) => (some (wr t2.2 a0 11 t2.1)).bind fun M41 => some (M41)
set_option maxRecDepth 100000 in
set_option maxHeartbeats 4000000 in
theorem xe_X10_appendDelayed {D : Dt} {M : Mm} {a0 : Int} (h0 : a0 ≠ 0) : XE D 0 mu_X10_appendDelayed EV 0 [(0, (14, a0))] [] M (p_X10_appendDelayed M a0) := by
  unfold p_X10_appendDelayed
  refine XE.go (st_iconst (n := 0) (pc' := 1) (by decide +kernel) (w_eq (by decide) (by decide)) rfl) ?_
  refine XE.go (st_istore_n (j := 1) (i := 1) (pc' := 2) (by decide +kernel) rfl rfl (by decide) rfl rfl) ?_
  refine XE.go (st_iconst (n := 0) (pc' := 3) (by decide +kernel) (w_eq (by decide) (by decide)) rfl) ?_
  refine XE.go (st_istore_n (j := 2) (i := 2) (pc' := 4) (by decide +kernel) rfl rfl (by decide) rfl rfl) ?_
  refine XE.pick [2, 1, 0] (L' := [(0, (14, a0)), (1, (0, 0)), (2, (0, 0))]) rfl ?_
  refine XE.loopJ (n := 1000) (s0 := (0, 0, M)) (pcL := 4) (pcE := 87) (LL := fun (s1 : Int × Int × Mm) => [(0, (14, a0)), (1, (0, s1.1)), (2, (0, s1.2.1))]) (sL := fun _ => []) (ML := fun (s1 : Int × Int × Mm) => s1.2.2) (LE := fun (t2 : Int × Mm) => [(0, (14, a0)), (1, (0, t2.1))]) (sE := fun _ => []) (ME := fun (t2 : Int × Mm) => t2.2) (fun kk6 hc3 he4 s1 => ?_) (fun t2 => ?_)
  · unfold b_X10_appendDelayed_4
    refine XE.go (st_iload_n (j := 2) (i := 2) (pc' := 5) (by decide +kernel) rfl rfl rfl) ?_
    refine XE.go (st_aload_n (j := 0) (i := 0) (pc' := 6) (by decide +kernel) rfl rfl (by decide) rfl) ?_
    refine XE.go (st_get (pc' := 9) (by decide +kernel) rfl cls_10 fld_RX10_58 rfl rfl h0) ?_
    refine XE.bite (fun h7 => ?_) (fun h8 => ?_)
    · refine XE.go (st_icmp_ge_f (off := 78) (pc' := 12) (by decide +kernel) 87 (by decide) rfl (Int.not_le.mpr h7)) ?_
      refine XE.go (st_iload_n (j := 2) (i := 2) (pc' := 13) (by decide +kernel) rfl rfl rfl) ?_
      refine XE.go (st_sipush (n := 150) (pc' := 16) (by decide +kernel) (by decide) (w_eq (by decide) (by decide)) rfl) ?_
      refine XE.bite (fun h9 => ?_) (fun h10 => ?_)
      · refine XE.go (st_icmp_ge_f (off := 71) (pc' := 19) (by decide +kernel) 87 (by decide) rfl (Int.not_le.mpr h9)) ?_
        refine XE.go (st_aload_n (j := 0) (i := 0) (pc' := 20) (by decide +kernel) rfl rfl (by decide) rfl) ?_
        refine XE.go (st_get (pc' := 23) (by decide +kernel) rfl cls_10 fld_RX10_39 rfl rfl h0) ?_
        refine XE.go (st_iload_n (j := 2) (i := 2) (pc' := 24) (by decide +kernel) rfl rfl rfl) ?_
        refine XE.gdb (fun g11 => ?_)
        refine XE.go (st_ald (k := 20) (tp := 8) (pc' := 25) (by decide +kernel) rfl ak_20 rfl (by decide) rfl (Or.inr (Or.inr (Or.inr ⟨rfl, rfl⟩))) g11.1 g11.2.1 g11.2.2) ?_
        refine XE.asc ?_
        refine XE.gen (fun v12 e13 => ?_)
        refine XE.go (st_astore_n (j := 3) (i := 3) (pc' := 26) (by decide +kernel) rfl (by decide) rfl (by decide) rfl rfl) ?_
        refine XE.go (st_aload_n (j := 3) (i := 3) (pc' := 27) (by decide +kernel) rfl rfl (by decide) rfl) ?_
        refine XE.ascX ?_
        refine XE.joinX (pcJ := 71) (LJ := fun (s14 : Int × Mm) => [(0, (14, a0)), (1, (0, s1.1)), (2, (0, s14.1)), (3, (8, v12))]) (sJ := fun (s14 : Int × Mm) => []) (MJ := fun (s14 : Int × Mm) => s14.2) (fun kk29 hx28 hk27 => ?_) (fun s14 => ?_)
        · refine XE.bite (fun h30 => ?_) (fun h31 => ?_)
          · refine XE.go (st_ifnull_t (off := 44) (pc' := 71) (by decide +kernel) (by decide) h30 (by decide)) ?_
            exact XE.pick [1, 2, 3, 0] rfl (hk27 (s1.2.1, s1.2.2))
          · refine XE.go (st_ifnull_f (off := 44) (pc' := 30) (by decide +kernel) (by decide) h31 rfl) ?_
            refine XE.go (st_aload_n (j := 3) (i := 3) (pc' := 31) (by decide +kernel) rfl rfl (by decide) rfl) ?_
            refine XE.go (st_get (pc' := 34) (by decide +kernel) rfl cls_4 fld_RX10_249 rfl rfl h31) ?_
            refine XE.go (st_aload_n (j := 0) (i := 0) (pc' := 35) (by decide +kernel) rfl rfl (by decide) rfl) ?_
            refine XE.go (st_get (pc' := 38) (by decide +kernel) rfl cls_10 fld_RX10_70 rfl rfl h0) ?_
            refine XE.bite (fun h32 => ?_) (fun h33 => ?_)
            · refine XE.go (st_icmp_gt_t (off := 33) (pc' := 71) (by decide +kernel) (by decide) h32) ?_
              exact XE.pick [1, 2, 3, 0] rfl (hk27 (s1.2.1, s1.2.2))
            · refine XE.go (st_icmp_gt_f (off := 33) (pc' := 41) (by decide +kernel) 71 (by decide) rfl h33) ?_
              refine XE.go (st_aload_n (j := 0) (i := 0) (pc' := 42) (by decide +kernel) rfl rfl (by decide) rfl) ?_
              refine XE.go (st_aload_n (j := 3) (i := 3) (pc' := 43) (by decide +kernel) rfl rfl (by decide) rfl) ?_
              refine XE.go (st_get (pc' := 46) (by decide +kernel) rfl cls_4 fld_RX10_208 rfl rfl h31) ?_
              refine XE.go (st_aload_n (j := 3) (i := 3) (pc' := 47) (by decide +kernel) rfl rfl (by decide) rfl) ?_
              refine XE.go (st_get (pc' := 50) (by decide +kernel) rfl cls_4 fld_RX10_144 rfl rfl h31) ?_
              refine XE.asc ?_
              refine XE.cP (pc' := 53) (st := []) (fun r hr => ct_X10_canAppend h0 r hr) (fun r hr => run_V (st := []) (by decide +kernel) co_X10_appendDelayed_252 (ct_X10_canAppend h0 r hr) rfl h0 rfl rfl (Nat.le_of_ble_eq_true rfl)) rfl rfl (fun r34 => ?_)
              refine XE.bite (fun h35 => ?_) (fun h36 => ?_)
              · refine XE.go (st_if_eq_t (off := 18) (pc' := 71) (by decide +kernel) (by decide) h35) ?_
                exact XE.pick [1, 2, 3, 0] rfl (hk27 (s1.2.1, s1.2.2))
              · refine XE.go (st_if_eq_f (off := 18) (pc' := 56) (by decide +kernel) 71 (by decide) rfl h36) ?_
                refine XE.go (st_aload_n (j := 3) (i := 3) (pc' := 57) (by decide +kernel) rfl rfl (by decide) rfl) ?_
                refine XE.go (st_get (pc' := 60) (by decide +kernel) rfl cls_4 fld_RX10_144 rfl rfl h31) ?_
                refine XE.go (st_aload_n (j := 3) (i := 3) (pc' := 61) (by decide +kernel) rfl rfl (by decide) rfl) ?_
                refine XE.go (st_aload_n (j := 0) (i := 0) (pc' := 62) (by decide +kernel) rfl rfl (by decide) rfl) ?_
                refine XE.go (st_get (pc' := 65) (by decide +kernel) rfl cls_10 fld_RX10_70 rfl rfl h0) ?_
                refine XE.gdb (fun g37 => ?_)
                refine XE.asc ?_
                refine XE.cV (pc' := 68) (st := []) (fun r hr => ct_X5_append g37 r hr) (fun r hr => run_V (st := []) (by decide +kernel) co_X10_appendDelayed_256 (ct_X5_append g37 r hr) rfl g37 rfl rfl (Nat.le_of_ble_eq_true rfl)) rfl rfl (fun M38 => ?_)
                refine XE.go (st_goto (off := 13) (pc' := 81) (by decide +kernel) (by decide)) ?_
                refine XE.go (st_iinc (j := 2) (n := 1) (pc' := 84) (by decide +kernel) rfl rfl (by decide) rfl rfl) ?_
                refine XE.go (st_goto (off := (-80)) (pc' := 4) (by decide +kernel) (by decide)) ?_
                refine XE.cast (hx28 _) ?_
                exact XE.pick [2, 3, 0] rfl (hc3 (s1.1, (w (s1.2.1 + 1)), M38))
        · refine XE.go (st_aload_n (j := 0) (i := 0) (pc' := 72) (by decide +kernel) rfl rfl (by decide) rfl) ?_
          refine XE.go (st_get (pc' := 75) (by decide +kernel) rfl cls_10 fld_RX10_39 rfl rfl h0) ?_
          refine XE.go (st_iload_n (j := 1) (i := 1) (pc' := 76) (by decide +kernel) rfl rfl rfl) ?_
          refine XE.go (st_aload_n (j := 3) (i := 3) (pc' := 77) (by decide +kernel) rfl rfl (by decide) rfl) ?_
          refine XE.gdb (fun g39 => ?_)
          refine XE.asc ?_
          refine XE.goM (st_aast (pc' := 78) (by decide +kernel) rfl ak_20 cls_4 rfl rfl rfl g39.1 g39.2.1 g39.2.2) (fun M40 => ?_)
          refine XE.go (st_iinc (j := 1) (n := 1) (pc' := 81) (by decide +kernel) rfl rfl (by decide) rfl rfl) ?_
          refine XE.go (st_iinc (j := 2) (n := 1) (pc' := 84) (by decide +kernel) rfl rfl (by decide) rfl rfl) ?_
          refine XE.go (st_goto (off := (-80)) (pc' := 4) (by decide +kernel) (by decide)) ?_
          exact XE.pick [2, 1, 0] rfl (hc3 ((w (s1.1 + 1)), (w (s14.1 + 1)), M40))
      · refine XE.go (st_icmp_ge_t (off := 71) (pc' := 87) (by decide +kernel) (by decide) (Int.not_lt.mp h10)) ?_
        exact XE.pick [0, 1] rfl (he4 (s1.1, s1.2.2))
    · refine XE.go (st_icmp_ge_t (off := 78) (pc' := 87) (by decide +kernel) (by decide) (Int.not_lt.mp h8)) ?_
      exact XE.pick [0, 1] rfl (he4 (s1.1, s1.2.2))
  · refine XE.go (st_aload_n (j := 0) (i := 0) (pc' := 88) (by decide +kernel) rfl rfl (by decide) rfl) ?_
    refine XE.go (st_iload_n (j := 1) (i := 1) (pc' := 89) (by decide +kernel) rfl rfl rfl) ?_
    refine XE.goM (st_put (pc' := 92) (by decide +kernel) rfl cls_10 fld_RX10_58 rfl rfl (fun h => absurd h (by decide)) (fun h => nomatch h) h0) (fun M41 => ?_)
    exact XE.rt rfl (X_vret (by decide +kernel) rfl)
theorem ct_X10_appendDelayed {D : Dt} {M : Mm} {a0 : Int} (h0 : a0 ≠ 0) (r : Mm) (hr : p_X10_appendDelayed M a0 = some r) : CT D 0 mu_X10_appendDelayed [(14, a0)] M (.inl none) r := CT.of (by decide +kernel) rfl (Nat.le_of_ble_eq_true rfl) (xe_X10_appendDelayed h0 r hr)
def p_X10_isFollower (M : Mm) (a0 a1 a2 : Int) : Option Int := if a2 = 0 then some (0) else gd (a1 ≠ 0) (if (rd M a1 4) = 0 then some (0) else if a2 = (rd M a1 4) then some (0) else (p_X10_isLive M a0 (rd M a2 1)).bind fun r8 => if r8 = 0 then some (0) else some (1))
set_option maxRecDepth 100000 in
set_option maxHeartbeats 4000000 in
theorem xe_X10_isFollower {D : Dt} {M : Mm} {a0 a1 a2 : Int} (h0 : a0 ≠ 0) : XE D 0 mu_X10_isFollower (EP 0 M) 0 [(0, (14, a0)), (1, (9, a1)), (2, (11, a2))] [] M (p_X10_isFollower M a0 a1 a2) := by
  unfold p_X10_isFollower
  refine XE.go (st_aload_n (j := 2) (i := 2) (pc' := 1) (by decide +kernel) rfl rfl (by decide) rfl) ?_
  refine XE.ite (fun h1 => ?_) (fun h2 => ?_)
  · refine XE.go (st_ifnull_t (off := 33) (pc' := 34) (by decide +kernel) (by decide) h1 (by decide)) ?_
    refine XE.go (st_iconst (n := 0) (pc' := 35) (by decide +kernel) (w_eq (by decide) (by decide)) rfl) ?_
    exact XE.rt rfl (X_zret (by decide +kernel) rfl (by decide))
  · refine XE.go (st_ifnull_f (off := 33) (pc' := 4) (by decide +kernel) (by decide) h2 rfl) ?_
    refine XE.go (st_aload_n (j := 1) (i := 1) (pc' := 5) (by decide +kernel) rfl rfl (by decide) rfl) ?_
    refine XE.gd_ (fun g3 => ?_)
    refine XE.go (st_get (pc' := 8) (by decide +kernel) rfl cls_5 fld_RX10_179 rfl rfl g3) ?_
    refine XE.ite (fun h4 => ?_) (fun h5 => ?_)
    · refine XE.go (st_ifnull_t (off := 26) (pc' := 34) (by decide +kernel) (by decide) h4 (by decide)) ?_
      refine XE.go (st_iconst (n := 0) (pc' := 35) (by decide +kernel) (w_eq (by decide) (by decide)) rfl) ?_
      exact XE.rt rfl (X_zret (by decide +kernel) rfl (by decide))
    · refine XE.go (st_ifnull_f (off := 26) (pc' := 11) (by decide +kernel) (by decide) h5 rfl) ?_
      refine XE.go (st_aload_n (j := 2) (i := 2) (pc' := 12) (by decide +kernel) rfl rfl (by decide) rfl) ?_
      refine XE.go (st_aload_n (j := 1) (i := 1) (pc' := 13) (by decide +kernel) rfl rfl (by decide) rfl) ?_
      refine XE.go (st_get (pc' := 16) (by decide +kernel) rfl cls_5 fld_RX10_179 rfl rfl g3) ?_
      refine XE.ite (fun h6 => ?_) (fun h7 => ?_)
      · refine XE.go (st_acmp_eq_t (off := 18) (pc' := 34) (by decide +kernel) (by decide) (by decide) h6 (by decide)) ?_
        refine XE.go (st_iconst (n := 0) (pc' := 35) (by decide +kernel) (w_eq (by decide) (by decide)) rfl) ?_
        exact XE.rt rfl (X_zret (by decide +kernel) rfl (by decide))
      · refine XE.go (st_acmp_eq_f (off := 18) (pc' := 19) (by decide +kernel) 34 (by decide) (by decide) (by decide) h7 rfl) ?_
        refine XE.go (st_aload_n (j := 0) (i := 0) (pc' := 20) (by decide +kernel) rfl rfl (by decide) rfl) ?_
        refine XE.go (st_aload_n (j := 2) (i := 2) (pc' := 21) (by decide +kernel) rfl rfl (by decide) rfl) ?_
        refine XE.go (st_get (pc' := 24) (by decide +kernel) rfl cls_7 fld_RX10_276 rfl rfl h2) ?_
        refine XE.cP (pc' := 27) (st := []) (fun r hr => ct_X10_isLive h0 r hr) (fun r hr => run_V (st := []) (by decide +kernel) co_X10_isFollower_165 (ct_X10_isLive h0 r hr) rfl h0 rfl rfl (Nat.le_of_ble_eq_true rfl)) rfl rfl (fun r8 => ?_)
        refine XE.ite (fun h9 => ?_) (fun h10 => ?_)
        · refine XE.go (st_if_eq_t (off := 7) (pc' := 34) (by decide +kernel) (by decide) h9) ?_
          refine XE.go (st_iconst (n := 0) (pc' := 35) (by decide +kernel) (w_eq (by decide) (by decide)) rfl) ?_
          exact XE.rt rfl (X_zret (by decide +kernel) rfl (by decide))
        · refine XE.go (st_if_eq_f (off := 7) (pc' := 30) (by decide +kernel) 34 (by decide) rfl h10) ?_
          refine XE.go (st_iconst (n := 1) (pc' := 31) (by decide +kernel) (w_eq (by decide) (by decide)) rfl) ?_
          refine XE.go (st_goto (off := 4) (pc' := 35) (by decide +kernel) (by decide)) ?_
          exact XE.rt rfl (X_zret (by decide +kernel) rfl (by decide))
theorem ct_X10_isFollower {D : Dt} {M : Mm} {a0 a1 a2 : Int} (h0 : a0 ≠ 0) (r : Int) (hr : p_X10_isFollower M a0 a1 a2 = some r) : CT D 0 mu_X10_isFollower [(14, a0), (9, a1), (11, a2)] M (.inl (some (0, r))) M := CT.of (by decide +kernel) rfl (Nat.le_of_ble_eq_true rfl) (xe_X10_isFollower h0 r hr)
def b_X10_copyAll_11 (v5 : Int) (v2 : Int) (a0 : Int) (a1 : Int) (s7 : Int × Mm) : Option ((Int × Mm) ⊕ (Mm)) := if s7.1 < v5 then gd (aok v2 s7.1) ((some ((rd s7.2 v2 s7.1))).bind fun v16 => (p_X10_isFollower s7.2 a0 a1 v16).bind fun r18 => if r18 = 0 then some (.inl ((w (s7.1 + 1)), s7.2)) else gd (v16 ≠ 0) (gd ((rd s7.2 a1 4) ≠ 0) ((p_J9_min_7cf53 s7.2 (w ((rd s7.2 v16 2) + (rd s7.2 a0 14))) (rd s7.2 (rd s7.2 a1 4) 2)).bind fun r23 => (some (wr s7.2 v16 2 r23)).bind fun M24 => some (.inl ((w (s7.1 + 1)), M24))))) else some (.inr s7.2)
def p_X10_copyAll (M : Mm) (a0 a1 : Int) : Option Mm := gd (a1 ≠ 0) ((some ((rd M a1 2))).bind fun v2 => gd (v2 ≠ 0) ((some ((ln v2))).bind fun v5 => (lp (b_X10_copyAll_11 v5 v2 a0 a1) 1000 (0, M)).bind fun (t8 : Mm) => some (t8)))
set_option maxRecDepth 100000 in
set_option maxHeartbeats 4000000 in
theorem xe_X10_copyAll {D : Dt} {M : Mm} {a0 a1 : Int} (h0 : a0 ≠ 0) : XE D 0 mu_X10_copyAll EV 0 [(0, (14, a0)), (1, (9, a1))] [] M (p_X10_copyAll M a0 a1) := by
  unfold p_X10_copyAll
  refine XE.go (st_aload_n (j := 1) (i := 1) (pc' := 1) (by decide +kernel) rfl rfl (by decide) rfl) ?_
  refine XE.gd_ (fun g1 => ?_)
  refine XE.go (st_get (pc' := 4) (by decide +kernel) rfl cls_5 fld_RX10_260 rfl rfl g1) ?_
  refine XE.gen (fun v2 e3 => ?_)
  refine XE.go (st_astore_n (j := 2) (i := 2) (pc' := 5) (by decide +kernel) rfl (by decide) rfl (by decide) rfl rfl) ?_
  refine XE.go (st_aload_n (j := 2) (i := 2) (pc' := 6) (by decide +kernel) rfl rfl (by decide) rfl) ?_
  refine XE.gd_ (fun g4 => ?_)
  refine XE.go (st_alen (k := 23) (pc' := 7) (by decide +kernel) rfl ak_23 rfl (by decide) g4) ?_
  refine XE.gen (fun v5 e6 => ?_)
  refine XE.go (st_istore_n (j := 3) (i := 3) (pc' := 8) (by decide +kernel) rfl rfl (by decide) rfl rfl) ?_
  refine XE.go (st_iconst (n := 0) (pc' := 9) (by decide +kernel) (w_eq (by decide) (by decide)) rfl) ?_
  refine XE.go (st_istore (j := 4) (pc' := 11) (by decide +kernel)  rfl (by decide) rfl rfl) ?_
  refine XE.pick [3, 4, 2, 1, 0] (L' := [(0, (14, a0)), (1, (9, a1)), (2, (26, v2)), (3, (0, v5)), (4, (0, 0))]) rfl ?_
  refine XE.loopJ (n := 1000) (s0 := (0, M)) (pcL := 11) (pcE := 64) (LL := fun (s7 : Int × Mm) => [(0, (14, a0)), (1, (9, a1)), (2, (26, v2)), (3, (0, v5)), (4, (0, s7.1))]) (sL := fun _ => []) (ML := fun (s7 : Int × Mm) => s7.2) (LE := fun (t8 : Mm) => []) (sE := fun _ => []) (ME := fun (t8 : Mm) => t8) (fun kk12 hc9 he10 s7 => ?_) (fun t8 => ?_)
  · unfold b_X10_copyAll_11
    refine XE.go (st_iload (j := 4) (pc' := 13) (by decide +kernel) rfl rfl) ?_
    refine XE.go (st_iload_n (j := 3) (i := 3) (pc' := 14) (by decide +kernel) rfl rfl rfl) ?_
    refine XE.bite (fun h13 => ?_) (fun h14 => ?_)
    · refine XE.go (st_icmp_ge_f (off := 50) (pc' := 17) (by decide +kernel) 64 (by decide) rfl (Int.not_le.mpr h13)) ?_
      refine XE.go (st_aload_n (j := 2) (i := 2) (pc' := 18) (by decide +kernel) rfl rfl (by decide) rfl) ?_
      refine XE.go (st_iload (j := 4) (pc' := 20) (by decide +kernel) rfl rfl) ?_
      refine XE.gdb (fun g15 => ?_)
      refine XE.go (st_ald (k := 23) (tp := 11) (pc' := 21) (by decide +kernel) rfl ak_23 rfl (by decide) rfl (Or.inr (Or.inr (Or.inr ⟨rfl, rfl⟩))) g15.1 g15.2.1 g15.2.2) ?_
      refine XE.asc ?_
      refine XE.gen (fun v16 e17 => ?_)
      refine XE.go (st_astore (j := 5) (pc' := 23) (by decide +kernel)  (by decide) rfl (by decide) rfl rfl) ?_
      refine XE.go (st_aload_n (j := 0) (i := 0) (pc' := 24) (by decide +kernel) rfl rfl (by decide) rfl) ?_
      refine XE.go (st_aload_n (j := 1) (i := 1) (pc' := 25) (by decide +kernel) rfl rfl (by decide) rfl) ?_
      refine XE.go (st_aload (j := 5) (pc' := 27) (by decide +kernel) rfl (by decide) rfl) ?_
      refine XE.asc ?_
      refine XE.cP (pc' := 30) (st := []) (fun r hr => ct_X10_isFollower h0 r hr) (fun r hr => run_V (st := []) (by decide +kernel) co_X10_copyAll_264 (ct_X10_isFollower h0 r hr) rfl h0 rfl rfl (Nat.le_of_ble_eq_true rfl)) rfl rfl (fun r18 => ?_)
      refine XE.bite (fun h19 => ?_) (fun h20 => ?_)
      · refine XE.go (st_if_eq_t (off := 28) (pc' := 58) (by decide +kernel) (by decide) h19) ?_
        refine XE.go (st_iinc (j := 4) (n := 1) (pc' := 61) (by decide +kernel) rfl rfl (by decide) rfl rfl) ?_
        refine XE.go (st_goto (off := (-50)) (pc' := 11) (by decide +kernel) (by decide)) ?_
        exact XE.pick [2, 3, 4, 5, 0] rfl (hc9 ((w (s7.1 + 1)), s7.2))
      · refine XE.go (st_if_eq_f (off := 28) (pc' := 33) (by decide +kernel) 58 (by decide) rfl h20) ?_
        refine XE.go (st_aload (j := 5) (pc' := 35) (by decide +kernel) rfl (by decide) rfl) ?_
        refine XE.go (st_aload (j := 5) (pc' := 37) (by decide +kernel) rfl (by decide) rfl) ?_
        refine XE.gdb (fun g21 => ?_)
        refine XE.go (st_get (pc' := 40) (by decide +kernel) rfl cls_7 fld_RX10_192 rfl rfl g21) ?_
        refine XE.go (st_aload_n (j := 0) (i := 0) (pc' := 41) (by decide +kernel) rfl rfl (by decide) rfl) ?_
        refine XE.go (st_get (pc' := 44) (by decide +kernel) rfl cls_10 fld_RX10_67 rfl rfl h0) ?_
        refine XE.go (st_iadd (pc' := 45) (by decide +kernel) rfl) ?_
        refine XE.go (st_aload_n (j := 1) (i := 1) (pc' := 46) (by decide +kernel) rfl rfl (by decide) rfl) ?_
        refine XE.go (st_get (pc' := 49) (by decide +kernel) rfl cls_5 fld_RX10_179 rfl rfl g1) ?_
        refine XE.gdb (fun g22 => ?_)
        refine XE.go (st_get (pc' := 52) (by decide +kernel) rfl cls_7 fld_RX10_192 rfl rfl g22) ?_
        refine XE.asc ?_
        refine XE.cP (pc' := 55) (st := [(11, v16)]) (fun r hr => ct_J9_min_7cf53 r hr) (fun r hr => run_S (st := [(11, v16)]) (by decide +kernel) co_X10_copyAll_268 (ct_J9_min_7cf53 r hr) rfl rfl (Nat.le_of_ble_eq_true rfl)) rfl rfl (fun r23 => ?_)
        refine XE.asc ?_
        refine XE.goM (st_put (pc' := 58) (by decide +kernel) rfl cls_7 fld_RX10_192 rfl rfl (fun h => absurd h (by decide)) (fun h => nomatch h) g21) (fun M24 => ?_)
        refine XE.go (st_iinc (j := 4) (n := 1) (pc' := 61) (by decide +kernel) rfl rfl (by decide) rfl rfl) ?_
        refine XE.go (st_goto (off := (-50)) (pc' := 11) (by decide +kernel) (by decide)) ?_
        exact XE.pick [2, 3, 4, 5, 0] rfl (hc9 ((w (s7.1 + 1)), M24))
    · refine XE.go (st_icmp_ge_t (off := 50) (pc' := 64) (by decide +kernel) (by decide) (Int.not_lt.mp h14)) ?_
      exact XE.pick [] rfl (he10 s7.2)
  · exact XE.rt rfl (X_vret (by decide +kernel) rfl)
theorem ct_X10_copyAll {D : Dt} {M : Mm} {a0 a1 : Int} (h0 : a0 ≠ 0) (r : Mm) (hr : p_X10_copyAll M a0 a1 = some r) : CT D 0 mu_X10_copyAll [(14, a0), (9, a1)] M (.inl none) r := CT.of (by decide +kernel) rfl (Nat.le_of_ble_eq_true rfl) (xe_X10_copyAll h0 r hr)
def b_X10_checkInSync_11 (v5 : Int) (v2 : Int) (a0 : Int) (a1 : Int) (s7 : Int × Mm) : Option ((Int × Mm) ⊕ (Mm)) := if s7.1 < v5 then gd (aok v2 s7.1) ((some ((rd s7.2 v2 s7.1))).bind fun v16 => (p_X10_isFollower s7.2 a0 a1 v16).bind fun r18 => if r18 = 0 then some (.inl ((w (s7.1 + 1)), s7.2)) else gd (v16 ≠ 0) (gd ((rd s7.2 a1 4) ≠ 0) (if (rd s7.2 v16 2) = (rd s7.2 (rd s7.2 a1 4) 2) then (p_X7_catchUp s7.2 v16 (rd s7.2 a0 15)).bind fun M25 => some (.inl ((w (s7.1 + 1)), M25)) else if 3 < (w ((rd s7.2 a0 15) - (rd s7.2 v16 3))) then (some (wr s7.2 v16 4 0)).bind fun M28 => some (.inl ((w (s7.1 + 1)), M28)) else some (.inl ((w (s7.1 + 1)), s7.2))))) else some (.inr s7.2)
def p_X10_checkInSync (M : Mm) (a0 a1 : Int) : Option Mm := gd (a1 ≠ 0) ((some ((rd M a1 2))).bind fun v2 => gd (v2 ≠ 0) ((some ((ln v2))).bind fun v5 => (lp (b_X10_checkInSync_11 v5 v2 a0 a1) 1000 (0, M)).bind fun (t8 : Mm) => some (t8)))
set_option maxRecDepth 100000 in
set_option maxHeartbeats 4000000 in
theorem xe_X10_checkInSync {D : Dt} {M : Mm} {a0 a1 : Int} (h0 : a0 ≠ 0) : XE D 0 mu_X10_checkInSync EV 0 [(0, (14, a0)), (1, (9, a1))] [] M (p_X10_checkInSync M a0 a1) := by
  unfold p_X10_checkInSync
  refine XE.go (st_aload_n (j := 1) (i := 1) (pc' := 1) (by decide +kernel) rfl rfl (by decide) rfl) ?_
  refine XE.gd_ (fun g1 => ?_)
  refine XE.go (st_get (pc' := 4) (by decide +kernel) rfl cls_5 fld_RX10_260 rfl rfl g1) ?_
  refine XE.gen (fun v2 e3 => ?_)
  refine XE.go (st_astore_n (j := 2) (i := 2) (pc' := 5) (by decide +kernel) rfl (by decide) rfl (by decide) rfl rfl) ?_
  refine XE.go (st_aload_n (j := 2) (i := 2) (pc' := 6) (by decide +kernel) rfl rfl (by decide) rfl) ?_
  refine XE.gd_ (fun g4 => ?_)
  refine XE.go (st_alen (k := 23) (pc' := 7) (by decide +kernel) rfl ak_23 rfl (by decide) g4) ?_
  refine XE.gen (fun v5 e6 => ?_)
  refine XE.go (st_istore_n (j := 3) (i := 3) (pc' := 8) (by decide +kernel) rfl rfl (by decide) rfl rfl) ?_
  refine XE.go (st_iconst (n := 0) (pc' := 9) (by decide +kernel) (w_eq (by decide) (by decide)) rfl) ?_
  refine XE.go (st_istore (j := 4) (pc' := 11) (by decide +kernel)  rfl (by decide) rfl rfl) ?_
  refine XE.pick [3, 4, 2, 1, 0] (L' := [(0, (14, a0)), (1, (9, a1)), (2, (26, v2)), (3, (0, v5)), (4, (0, 0))]) rfl ?_
  refine XE.loopJ (n := 1000) (s0 := (0, M)) (pcL := 11) (pcE := 86) (LL := fun (s7 : Int × Mm) => [(0, (14, a0)), (1, (9, a1)), (2, (26, v2)), (3, (0, v5)), (4, (0, s7.1))]) (sL := fun _ => []) (ML := fun (s7 : Int × Mm) => s7.2) (LE := fun (t8 : Mm) => []) (sE := fun _ => []) (ME := fun (t8 : Mm) => t8) (fun kk12 hc9 he10 s7 => ?_) (fun t8 => ?_)
  · unfold b_X10_checkInSync_11
    refine XE.go (st_iload (j := 4) (pc' := 13) (by decide +kernel) rfl rfl) ?_
    refine XE.go (st_iload_n (j := 3) (i := 3) (pc' := 14) (by decide +kernel) rfl rfl rfl) ?_
    refine XE.bite (fun h13 => ?_) (fun h14 => ?_)
    · refine XE.go (st_icmp_ge_f (off := 72) (pc' := 17) (by decide +kernel) 86 (by decide) rfl (Int.not_le.mpr h13)) ?_
      refine XE.go (st_aload_n (j := 2) (i := 2) (pc' := 18) (by decide +kernel) rfl rfl (by decide) rfl) ?_
      refine XE.go (st_iload (j := 4) (pc' := 20) (by decide +kernel) rfl rfl) ?_
      refine XE.gdb (fun g15 => ?_)
      refine XE.go (st_ald (k := 23) (tp := 11) (pc' := 21) (by decide +kernel) rfl ak_23 rfl (by decide) rfl (Or.inr (Or.inr (Or.inr ⟨rfl, rfl⟩))) g15.1 g15.2.1 g15.2.2) ?_
      refine XE.asc ?_
      refine XE.gen (fun v16 e17 => ?_)
      refine XE.go (st_astore (j := 5) (pc' := 23) (by decide +kernel)  (by decide) rfl (by decide) rfl rfl) ?_
      refine XE.go (st_aload_n (j := 0) (i := 0) (pc' := 24) (by decide +kernel) rfl rfl (by decide) rfl) ?_
      refine XE.go (st_aload_n (j := 1) (i := 1) (pc' := 25) (by decide +kernel) rfl rfl (by decide) rfl) ?_
      refine XE.go (st_aload (j := 5) (pc' := 27) (by decide +kernel) rfl (by decide) rfl) ?_
      refine XE.asc ?_
      refine XE.cP (pc' := 30) (st := []) (fun r hr => ct_X10_isFollower h0 r hr) (fun r hr => run_V (st := []) (by decide +kernel) co_X10_checkInSync_264 (ct_X10_isFollower h0 r hr) rfl h0 rfl rfl (Nat.le_of_ble_eq_true rfl)) rfl rfl (fun r18 => ?_)
      refine XE.bite (fun h19 => ?_) (fun h20 => ?_)
      · refine XE.go (st_if_eq_t (off := 50) (pc' := 80) (by decide +kernel) (by decide) h19) ?_
        refine XE.go (st_iinc (j := 4) (n := 1) (pc' := 83) (by decide +kernel) rfl rfl (by decide) rfl rfl) ?_
        refine XE.go (st_goto (off := (-72)) (pc' := 11) (by decide +kernel) (by decide)) ?_
        exact XE.pick [2, 3, 4, 5, 0] rfl (hc9 ((w (s7.1 + 1)), s7.2))
      · refine XE.go (st_if_eq_f (off := 50) (pc' := 33) (by decide +kernel) 80 (by decide) rfl h20) ?_
        refine XE.go (st_aload (j := 5) (pc' := 35) (by decide +kernel) rfl (by decide) rfl) ?_
        refine XE.gdb (fun g21 => ?_)
        refine XE.go (st_get (pc' := 38) (by decide +kernel) rfl cls_7 fld_RX10_192 rfl rfl g21) ?_
        refine XE.go (st_aload_n (j := 1) (i := 1) (pc' := 39) (by decide +kernel) rfl rfl (by decide) rfl) ?_
        refine XE.go (st_get (pc' := 42) (by decide +kernel) rfl cls_5 fld_RX10_179 rfl rfl g1) ?_
        refine XE.gdb (fun g22 => ?_)
        refine XE.go (st_get (pc' := 45) (by decide +kernel) rfl cls_7 fld_RX10_192 rfl rfl g22) ?_
        refine XE.bite (fun h23 => ?_) (fun h24 => ?_)
        · refine XE.go (st_icmp_ne_f (off := 15) (pc' := 48) (by decide +kernel) 60 (by decide) rfl (not_not_intro h23)) ?_
          refine XE.go (st_aload (j := 5) (pc' := 50) (by decide +kernel) rfl (by decide) rfl) ?_
          refine XE.go (st_aload_n (j := 0) (i := 0) (pc' := 51) (by decide +kernel) rfl rfl (by decide) rfl) ?_
          refine XE.go (st_get (pc' := 54) (by decide +kernel) rfl cls_10 fld_RX10_70 rfl rfl h0) ?_
          refine XE.asc ?_
          refine XE.cV (pc' := 57) (st := []) (fun r hr => ct_X7_catchUp g21 r hr) (fun r hr => run_V (st := []) (by decide +kernel) co_X10_checkInSync_224 (ct_X7_catchUp g21 r hr) rfl g21 rfl rfl (Nat.le_of_ble_eq_true rfl)) rfl rfl (fun M25 => ?_)
          refine XE.go (st_goto (off := 23) (pc' := 80) (by decide +kernel) (by decide)) ?_
          refine XE.go (st_iinc (j := 4) (n := 1) (pc' := 83) (by decide +kernel) rfl rfl (by decide) rfl rfl) ?_
          refine XE.go (st_goto (off := (-72)) (pc' := 11) (by decide +kernel) (by decide)) ?_
          exact XE.pick [2, 3, 4, 5, 0] rfl (hc9 ((w (s7.1 + 1)), M25))
        · refine XE.go (st_icmp_ne_t (off := 15) (pc' := 60) (by decide +kernel) (by decide) h24) ?_
          refine XE.go (st_aload_n (j := 0) (i := 0) (pc' := 61) (by decide +kernel) rfl rfl (by decide) rfl) ?_
          refine XE.go (st_get (pc' := 64) (by decide +kernel) rfl cls_10 fld_RX10_70 rfl rfl h0) ?_
          refine XE.go (st_aload (j := 5) (pc' := 66) (by decide +kernel) rfl (by decide) rfl) ?_
          refine XE.go (st_get (pc' := 69) (by decide +kernel) rfl cls_7 fld_RX10_273 rfl rfl g21) ?_
          refine XE.go (st_isub (pc' := 70) (by decide +kernel) rfl) ?_
          refine XE.go (st_iconst (n := 3) (pc' := 71) (by decide +kernel) (w_eq (by decide) (by decide)) rfl) ?_
          refine XE.bite (fun h26 => ?_) (fun h27 => ?_)
          · refine XE.go (st_icmp_le_f (off := 9) (pc' := 74) (by decide +kernel) 80 (by decide) rfl (Int.not_le.mpr h26)) ?_
            refine XE.go (st_aload (j := 5) (pc' := 76) (by decide +kernel) rfl (by decide) rfl) ?_
            refine XE.go (st_iconst (n := 0) (pc' := 77) (by decide +kernel) (w_eq (by decide) (by decide)) rfl) ?_
            refine XE.asc ?_
            refine XE.goM (st_put (pc' := 80) (by decide +kernel) rfl cls_7 fld_RX10_183 rfl rfl (fun _ => by decide) (fun h => nomatch h) g21) (fun M28 => ?_)
            refine XE.go (st_iinc (j := 4) (n := 1) (pc' := 83) (by decide +kernel) rfl rfl (by decide) rfl rfl) ?_
            refine XE.go (st_goto (off := (-72)) (pc' := 11) (by decide +kernel) (by decide)) ?_
            exact XE.pick [2, 3, 4, 5, 0] rfl (hc9 ((w (s7.1 + 1)), M28))
          · refine XE.go (st_icmp_le_t (off := 9) (pc' := 80) (by decide +kernel) (by decide) (Int.not_lt.mp h27)) ?_
            refine XE.go (st_iinc (j := 4) (n := 1) (pc' := 83) (by decide +kernel) rfl rfl (by decide) rfl rfl) ?_
            refine XE.go (st_goto (off := (-72)) (pc' := 11) (by decide +kernel) (by decide)) ?_
            exact XE.pick [2, 3, 4, 5, 0] rfl (hc9 ((w (s7.1 + 1)), s7.2))
    · refine XE.go (st_icmp_ge_t (off := 72) (pc' := 86) (by decide +kernel) (by decide) (Int.not_lt.mp h14)) ?_
      exact XE.pick [] rfl (he10 s7.2)
  · exact XE.rt rfl (X_vret (by decide +kernel) rfl)
theorem ct_X10_checkInSync {D : Dt} {M : Mm} {a0 a1 : Int} (h0 : a0 ≠ 0) (r : Mm) (hr : p_X10_checkInSync M a0 a1 = some r) : CT D 0 mu_X10_checkInSync [(14, a0), (9, a1)] M (.inl none) r := CT.of (by decide +kernel) rfl (Nat.le_of_ble_eq_true rfl) (xe_X10_checkInSync h0 r hr)
def p_X5_logEnd (M : Mm) (a0 : Int) : Option Int := (if (rd M a0 4) = 0 then (p_X5_firstInSyncBut M a0 0).bind fun r7 => some (r7) else some ((rd M a0 4)) : Option (Int)).bind fun (s1 : Int) => if s1 = 0 then some (0) else some ((rd M s1 2))
set_option maxRecDepth 100000 in
set_option maxHeartbeats 4000000 in
theorem xe_X5_logEnd {D : Dt} {M : Mm} {a0 : Int} (h0 : a0 ≠ 0) : XE D 0 mu_X5_logEnd (EP 0 M) 0 [(0, (9, a0))] [] M (p_X5_logEnd M a0) := by
  unfold p_X5_logEnd
  refine XE.go (st_aload_n (j := 0) (i := 0) (pc' := 1) (by decide +kernel) rfl rfl (by decide) rfl) ?_
  refine XE.go (st_get (pc' := 4) (by decide +kernel) rfl cls_5 fld_RX5_42 rfl rfl h0) ?_
  refine XE.join (pcJ := 19) (LJ := fun (s1 : Int) => []) (sJ := fun (s1 : Int) => [(11, s1)]) (MJ := fun (s1 : Int) => M) (fun kk4 hk2 => ?_) (fun s1 => ?_)
  · refine XE.bite (fun h5 => ?_) (fun h6 => ?_)
    · refine XE.go (st_ifnull_t (off := 10) (pc' := 14) (by decide +kernel) (by decide) h5 (by decide)) ?_
      refine XE.go (st_aload_n (j := 0) (i := 0) (pc' := 15) (by decide +kernel) rfl rfl (by decide) rfl) ?_
      refine XE.go (st_null (t := 11) (pc' := 16) (by decide +kernel) (by decide) rfl) ?_
      refine XE.asc ?_
      refine XE.cP (pc' := 19) (st := []) (fun r hr => ct_X5_firstInSyncBut h0 r hr) (fun r hr => run_V (st := []) (by decide +kernel) co_X5_logEnd_57 (ct_X5_firstInSyncBut h0 r hr) rfl h0 rfl rfl (Nat.le_of_ble_eq_true rfl)) rfl rfl (fun r7 => ?_)
      exact XE.pick [] rfl (hk2 r7)
    · refine XE.go (st_ifnull_f (off := 10) (pc' := 7) (by decide +kernel) (by decide) h6 rfl) ?_
      refine XE.go (st_aload_n (j := 0) (i := 0) (pc' := 8) (by decide +kernel) rfl rfl (by decide) rfl) ?_
      refine XE.go (st_get (pc' := 11) (by decide +kernel) rfl cls_5 fld_RX5_42 rfl rfl h0) ?_
      refine XE.go (st_goto (off := 8) (pc' := 19) (by decide +kernel) (by decide)) ?_
      exact XE.pick [] rfl (hk2 (rd M a0 4))
  · refine XE.go (st_astore_n (j := 1) (i := 1) (pc' := 20) (by decide +kernel) rfl (by decide) rfl (by decide) rfl rfl) ?_
    refine XE.go (st_aload_n (j := 1) (i := 1) (pc' := 21) (by decide +kernel) rfl rfl (by decide) rfl) ?_
    refine XE.ite (fun h8 => ?_) (fun h9 => ?_)
    · refine XE.go (st_ifnonnull_f (off := 7) (pc' := 24) (by decide +kernel) (by decide) h8 rfl) ?_
      refine XE.go (st_iconst (n := 0) (pc' := 25) (by decide +kernel) (w_eq (by decide) (by decide)) rfl) ?_
      refine XE.go (st_goto (off := 7) (pc' := 32) (by decide +kernel) (by decide)) ?_
      exact XE.rt rfl (X_iret (by decide +kernel) rfl)
    · refine XE.go (st_ifnonnull_t (off := 7) (pc' := 28) (by decide +kernel) (by decide) h9 (by decide)) ?_
      refine XE.go (st_aload_n (j := 1) (i := 1) (pc' := 29) (by decide +kernel) rfl rfl (by decide) rfl) ?_
      refine XE.go (st_get (pc' := 32) (by decide +kernel) rfl cls_7 fld_RX5_53 rfl rfl h9) ?_
      exact XE.rt rfl (X_iret (by decide +kernel) rfl)
theorem ct_X5_logEnd {D : Dt} {M : Mm} {a0 : Int} (h0 : a0 ≠ 0) (r : Int) (hr : p_X5_logEnd M a0 = some r) : CT D 0 mu_X5_logEnd [(9, a0)] M (.inl (some (0, r))) M := CT.of (by decide +kernel) rfl (Nat.le_of_ble_eq_true rfl) (xe_X5_logEnd h0 r hr)
def b_X5_storedCount_12 (r1 : Int) (M : Mm) (a0 : Int) (s4 : Int × Int) : Option ((Int × Int) ⊕ (Int)) := if s4.2 < r1 then (p_X5_storedAt M a0 s4.2).bind fun r12 => if r12 = 0 then some (.inl (s4.1, (w (s4.2 + 1)))) else some (.inl ((w (s4.1 + 1)), (w (s4.2 + 1)))) else some (.inr s4.1)
def p_X5_storedCount (M : Mm) (a0 : Int) : Option Int := (p_X5_logEnd M a0).bind fun r1 => (some ((rd M a0 5))).bind fun v2 => (lp (b_X5_storedCount_12 r1 M a0) 1000 (0, v2)).bind fun (t5 : Int) => some (t5)
set_option maxRecDepth 100000 in
set_option maxHeartbeats 4000000 in
theorem xe_X5_storedCount {D : Dt} {M : Mm} {a0 : Int} (h0 : a0 ≠ 0) : XE D 0 mu_X5_storedCount (EP 0 M) 0 [(0, (9, a0))] [] M (p_X5_storedCount M a0) := by
  unfold p_X5_storedCount
  refine XE.go (st_aload_n (j := 0) (i := 0) (pc' := 1) (by decide +kernel) rfl rfl (by decide) rfl) ?_
  refine XE.cP (pc' := 4) (st := []) (fun r hr => ct_X5_logEnd h0 r hr) (fun r hr => run_V (st := []) (by decide +kernel) co_X5_storedCount_95 (ct_X5_logEnd h0 r hr) rfl h0 rfl rfl (Nat.le_of_ble_eq_true rfl)) rfl rfl (fun r1 => ?_)
  refine XE.go (st_istore_n (j := 1) (i := 1) (pc' := 5) (by decide +kernel) rfl rfl (by decide) rfl rfl) ?_
  refine XE.go (st_iconst (n := 0) (pc' := 6) (by decide +kernel) (w_eq (by decide) (by decide)) rfl) ?_
  refine XE.go (st_istore_n (j := 2) (i := 2) (pc' := 7) (by decide +kernel) rfl rfl (by decide) rfl rfl) ?_
  refine XE.go (st_aload_n (j := 0) (i := 0) (pc' := 8) (by decide +kernel) rfl rfl (by decide) rfl) ?_
  refine XE.go (st_get (pc' := 11) (by decide +kernel) rfl cls_5 fld_RX5_23 rfl rfl h0) ?_
  refine XE.gen (fun v2 e3 => ?_)
  refine XE.go (st_istore_n (j := 3) (i := 3) (pc' := 12) (by decide +kernel) rfl rfl (by decide) rfl rfl) ?_
  refine XE.pick [3, 2, 1, 0] (L' := [(0, (9, a0)), (1, (0, r1)), (2, (0, 0)), (3, (0, v2))]) rfl ?_
  refine XE.loopJ (n := 1000) (s0 := (0, v2)) (pcL := 12) (pcE := 34) (LL := fun (s4 : Int × Int) => [(0, (9, a0)), (1, (0, r1)), (2, (0, s4.1)), (3, (0, s4.2))]) (sL := fun _ => []) (ML := fun (s4 : Int × Int) => M) (LE := fun (t5 : Int) => [(2, (0, t5))]) (sE := fun _ => []) (ME := fun (t5 : Int) => M) (fun kk9 hc6 he7 s4 => ?_) (fun t5 => ?_)
  · unfold b_X5_storedCount_12
    refine XE.go (st_iload_n (j := 3) (i := 3) (pc' := 13) (by decide +kernel) rfl rfl rfl) ?_
    refine XE.go (st_iload_n (j := 1) (i := 1) (pc' := 14) (by decide +kernel) rfl rfl rfl) ?_
    refine XE.bite (fun h10 => ?_) (fun h11 => ?_)
    · refine XE.go (st_icmp_ge_f (off := 20) (pc' := 17) (by decide +kernel) 34 (by decide) rfl (Int.not_le.mpr h10)) ?_
      refine XE.go (st_aload_n (j := 0) (i := 0) (pc' := 18) (by decide +kernel) rfl rfl (by decide) rfl) ?_
      refine XE.go (st_iload_n (j := 3) (i := 3) (pc' := 19) (by decide +kernel) rfl rfl rfl) ?_
      refine XE.asc ?_
      refine XE.cP (pc' := 22) (st := []) (fun r hr => ct_X5_storedAt h0 r hr) (fun r hr => run_V (st := []) (by decide +kernel) co_X5_storedCount_81 (ct_X5_storedAt h0 r hr) rfl h0 rfl rfl (Nat.le_of_ble_eq_true rfl)) rfl rfl (fun r12 => ?_)
      refine XE.bite (fun h13 => ?_) (fun h14 => ?_)
      · refine XE.go (st_ifnull_t (off := 6) (pc' := 28) (by decide +kernel) (by decide) h13 (by decide)) ?_
        refine XE.go (st_iinc (j := 3) (n := 1) (pc' := 31) (by decide +kernel) rfl rfl (by decide) rfl rfl) ?_
        refine XE.go (st_goto (off := (-19)) (pc' := 12) (by decide +kernel) (by decide)) ?_
        exact XE.pick [1, 2, 3, 0] rfl (hc6 (s4.1, (w (s4.2 + 1))))
      · refine XE.go (st_ifnull_f (off := 6) (pc' := 25) (by decide +kernel) (by decide) h14 rfl) ?_
        refine XE.go (st_iinc (j := 2) (n := 1) (pc' := 28) (by decide +kernel) rfl rfl (by decide) rfl rfl) ?_
        refine XE.go (st_iinc (j := 3) (n := 1) (pc' := 31) (by decide +kernel) rfl rfl (by decide) rfl rfl) ?_
        refine XE.go (st_goto (off := (-19)) (pc' := 12) (by decide +kernel) (by decide)) ?_
        exact XE.pick [2, 3, 1, 0] rfl (hc6 ((w (s4.1 + 1)), (w (s4.2 + 1))))
    · refine XE.go (st_icmp_ge_t (off := 20) (pc' := 34) (by decide +kernel) (by decide) (Int.not_lt.mp h11)) ?_
      exact XE.pick [2] rfl (he7 s4.1)
  · refine XE.go (st_iload_n (j := 2) (i := 2) (pc' := 35) (by decide +kernel) rfl rfl rfl) ?_
    exact XE.rt rfl (X_iret (by decide +kernel) rfl)
theorem ct_X5_storedCount {D : Dt} {M : Mm} {a0 : Int} (h0 : a0 ≠ 0) (r : Int) (hr : p_X5_storedCount M a0 = some r) : CT D 0 mu_X5_storedCount [(9, a0)] M (.inl (some (0, r))) M := CT.of (by decide +kernel) rfl (Nat.le_of_ble_eq_true rfl) (xe_X5_storedCount h0 r hr)
def b_X10_removeOld_24 (a1 : Int) (v2 : Int) (a0 : Int) (s10 : Int × Int × Mm) : Option ((Int × Int × Mm) ⊕ ((Mm) ⊕ (Mm))) := if s10.2.1 < 60 then (p_X5_storedAt s10.2.2 a1 s10.2.1).bind fun r47 => if r47 = 0 then some (.inr (.inl (s10.2.2))) else (if (rd s10.2.2 v2 6) < s10.1 then some (.inr ()) else if (rd s10.2.2 v2 5) < (w ((rd s10.2.2 a0 15) - (rd s10.2.2 r47 10))) then some (.inr ()) else some (.inl (.inr (.inl (s10.2.2)))) : Option (((Int × Int × Mm) ⊕ ((Mm) ⊕ (Mm))) ⊕ (Unit))).bind (Sum.elim some fun (s50 : Unit) => (p_X5_stableOffset s10.2.2 a1).bind fun r65 => if s10.2.1 < r65 then (some (wr s10.2.2 r47 7 3)).bind fun M68 => (some (wr M68 a1 5 (w (s10.2.1 + 1)))).bind fun M69 => some (.inl ((w (s10.1 + (-1))), (w (s10.2.1 + 1)), M69)) else some (.inr (.inl (s10.2.2)))) else some (.inr (.inr s10.2.2))
def p_X10_removeOld (M : Mm) (a0 a1 : Int) : Option Mm := gd (a1 ≠ 0) ((some ((rd M a1 1))).bind fun v2 => gd (v2 ≠ 0) (if (rd M v2 3) = 0 then (p_X5_storedCount M a1).bind fun r7 => (some ((rd M a1 5))).bind fun v8 => (lp (b_X10_removeOld_24 a1 v2 a0) 1000 (r7, v8, M)).bind (Sum.elim some fun (t11 : Mm) => some (t11)) else some (M)))
set_option maxRecDepth 100000 in
set_option maxHeartbeats 4000000 in
theorem xe_X10_removeOld {D : Dt} {M : Mm} {a0 a1 : Int} (h0 : a0 ≠ 0) : XE D 0 mu_X10_removeOld EV 0 [(0, (14, a0)), (1, (9, a1))] [] M (p_X10_removeOld M a0 a1) := by
  unfold p_X10_removeOld
  refine XE.go (st_aload_n (j := 1) (i := 1) (pc' := 1) (by decide +kernel) rfl rfl (by decide) rfl) ?_
  refine XE.gd_ (fun g1 => ?_)
  refine XE.go (st_get (pc' := 4) (by decide +kernel) rfl cls_5 fld_RX10_120 rfl rfl g1) ?_
  refine XE.gen (fun v2 e3 => ?_)
  refine XE.go (st_astore_n (j := 2) (i := 2) (pc' := 5) (by decide +kernel) rfl (by decide) rfl (by decide) rfl rfl) ?_
  refine XE.go (st_aload_n (j := 2) (i := 2) (pc' := 6) (by decide +kernel) rfl rfl (by decide) rfl) ?_
  refine XE.gd_ (fun g4 => ?_)
  refine XE.go (st_get (pc' := 9) (by decide +kernel) rfl cls_9 fld_RX10_104 rfl rfl g4) ?_
  refine XE.ite (fun h5 => ?_) (fun h6 => ?_)
  · refine XE.go (st_if_eq_t (off := 4) (pc' := 13) (by decide +kernel) (by decide) h5) ?_
    refine XE.go (st_aload_n (j := 1) (i := 1) (pc' := 14) (by decide +kernel) rfl rfl (by decide) rfl) ?_
    refine XE.cP (pc' := 17) (st := []) (fun r hr => ct_X5_storedCount g1 r hr) (fun r hr => run_V (st := []) (by decide +kernel) co_X10_removeOld_279 (ct_X5_storedCount g1 r hr) rfl g1 rfl rfl (Nat.le_of_ble_eq_true rfl)) rfl rfl (fun r7 => ?_)
    refine XE.go (st_istore_n (j := 3) (i := 3) (pc' := 18) (by decide +kernel) rfl rfl (by decide) rfl rfl) ?_
    refine XE.go (st_aload_n (j := 1) (i := 1) (pc' := 19) (by decide +kernel) rfl rfl (by decide) rfl) ?_
    refine XE.go (st_get (pc' := 22) (by decide +kernel) rfl cls_5 fld_RX10_282 rfl rfl g1) ?_
    refine XE.gen (fun v8 e9 => ?_)
    refine XE.go (st_istore (j := 4) (pc' := 24) (by decide +kernel)  rfl (by decide) rfl rfl) ?_
    refine XE.pick [3, 4, 2, 1, 0] (L' := [(0, (14, a0)), (1, (9, a1)), (2, (13, v2)), (3, (0, r7)), (4, (0, v8))]) rfl ?_
    refine XE.loopX (n := 1000) (s0 := (r7, v8, M)) (pcL := 24) (pcE := 103) (LL := fun (s10 : Int × Int × Mm) => [(0, (14, a0)), (1, (9, a1)), (2, (13, v2)), (3, (0, s10.1)), (4, (0, s10.2.1))]) (sL := fun _ => []) (ML := fun (s10 : Int × Int × Mm) => s10.2.2) (LE := fun (t11 : Mm) => []) (sE := fun _ => []) (ME := fun (t11 : Mm) => t11) (fun kk44 hx43 hc41 he42 s10 => ?_) (fun t11 => ?_)
    · unfold b_X10_removeOld_24
      refine XE.go (st_iload (j := 4) (pc' := 26) (by decide +kernel) rfl rfl) ?_
      refine XE.go (st_bipush (n := 60) (pc' := 28) (by decide +kernel) (by decide) (w_eq (by decide) (by decide)) rfl) ?_
      refine XE.bite (fun h45 => ?_) (fun h46 => ?_)
      · refine XE.go (st_icmp_ge_f (off := 75) (pc' := 31) (by decide +kernel) 103 (by decide) rfl (Int.not_le.mpr h45)) ?_
        refine XE.go (st_aload_n (j := 1) (i := 1) (pc' := 32) (by decide +kernel) rfl rfl (by decide) rfl) ?_
        refine XE.go (st_iload (j := 4) (pc' := 34) (by decide +kernel) rfl rfl) ?_
        refine XE.asc ?_
        refine XE.cP (pc' := 37) (st := []) (fun r hr => ct_X5_storedAt g1 r hr) (fun r hr => run_V (st := []) (by decide +kernel) co_X10_removeOld_130 (ct_X5_storedAt g1 r hr) rfl g1 rfl rfl (Nat.le_of_ble_eq_true rfl)) rfl rfl (fun r47 => ?_)
        refine XE.go (st_astore (j := 5) (pc' := 39) (by decide +kernel)  (by decide) rfl (by decide) rfl rfl) ?_
        refine XE.go (st_aload (j := 5) (pc' := 41) (by decide +kernel) rfl (by decide) rfl) ?_
        refine XE.bite (fun h48 => ?_) (fun h49 => ?_)
        · refine XE.go (st_ifnull_t (off := 28) (pc' := 69) (by decide +kernel) (by decide) h48 (by decide)) ?_
          refine XE.cast (hx43 _) ?_
          exact XE.rt rfl (X_vret (by decide +kernel) rfl)
        · refine XE.go (st_ifnull_f (off := 28) (pc' := 44) (by decide +kernel) (by decide) h49 rfl) ?_
          refine XE.go (st_iload_n (j := 3) (i := 3) (pc' := 45) (by decide +kernel) rfl rfl rfl) ?_
          refine XE.go (st_aload_n (j := 2) (i := 2) (pc' := 46) (by decide +kernel) rfl rfl (by decide) rfl) ?_
          refine XE.go (st_get (pc' := 49) (by decide +kernel) rfl cls_9 fld_RX10_113 rfl rfl g4) ?_
          refine XE.ascX ?_
          refine XE.joinX (pcJ := 70) (LJ := fun (s50 : Unit) => [(0, (14, a0)), (1, (9, a1)), (2, (13, v2)), (3, (0, s10.1)), (4, (0, s10.2.1)), (5, (8, r47))]) (sJ := fun (s50 : Unit) => []) (MJ := fun (s50 : Unit) => s10.2.2) (fun kk60 hx59 hk58 => ?_) (fun s50 => ?_)
          · refine XE.bite (fun h61 => ?_) (fun h62 => ?_)
            · refine XE.go (st_icmp_gt_t (off := 21) (pc' := 70) (by decide +kernel) (by decide) h61) ?_
              exact XE.pick [1, 2, 3, 4, 5, 0] rfl (hk58 ())
            · refine XE.go (st_icmp_gt_f (off := 21) (pc' := 52) (by decide +kernel) 70 (by decide) rfl h62) ?_
              refine XE.go (st_aload_n (j := 0) (i := 0) (pc' := 53) (by decide +kernel) rfl rfl (by decide) rfl) ?_
              refine XE.go (st_get (pc' := 56) (by decide +kernel) rfl cls_10 fld_RX10_70 rfl rfl h0) ?_
              refine XE.go (st_aload (j := 5) (pc' := 58) (by decide +kernel) rfl (by decide) rfl) ?_
              refine XE.go (st_get (pc' := 61) (by decide +kernel) rfl cls_4 fld_RX10_158 rfl rfl h49) ?_
              refine XE.go (st_isub (pc' := 62) (by decide +kernel) rfl) ?_
              refine XE.go (st_aload_n (j := 2) (i := 2) (pc' := 63) (by decide +kernel) rfl rfl (by decide) rfl) ?_
              refine XE.go (st_get (pc' := 66) (by decide +kernel) rfl cls_9 fld_RX10_110 rfl rfl g4) ?_
              refine XE.bite (fun h63 => ?_) (fun h64 => ?_)
              · refine XE.go (st_icmp_gt_t (off := 4) (pc' := 70) (by decide +kernel) (by decide) h63) ?_
                exact XE.pick [1, 2, 3, 4, 5, 0] rfl (hk58 ())
              · refine XE.go (st_icmp_gt_f (off := 4) (pc' := 69) (by decide +kernel) 70 (by decide) rfl h64) ?_
                refine XE.cast (hx59 _) ?_
                refine XE.cast (hx43 _) ?_
                exact XE.rt rfl (X_vret (by decide +kernel) rfl)
          · refine XE.go (st_iload (j := 4) (pc' := 72) (by decide +kernel) rfl rfl) ?_
            refine XE.go (st_aload_n (j := 1) (i := 1) (pc' := 73) (by decide +kernel) rfl rfl (by decide) rfl) ?_
            refine XE.asc ?_
            refine XE.cP (pc' := 76) (st := [(0, s10.2.1)]) (fun r hr => ct_X5_stableOffset g1 r hr) (fun r hr => run_V (st := [(0, s10.2.1)]) (by decide +kernel) co_X10_removeOld_126 (ct_X5_stableOffset g1 r hr) rfl g1 rfl rfl (Nat.le_of_ble_eq_true rfl)) rfl rfl (fun r65 => ?_)
            refine XE.bite (fun h66 => ?_) (fun h67 => ?_)
            · refine XE.go (st_icmp_lt_t (off := 4) (pc' := 80) (by decide +kernel) (by decide) h66) ?_
              refine XE.go (st_aload (j := 5) (pc' := 82) (by decide +kernel) rfl (by decide) rfl) ?_
              refine XE.go (st_iconst (n := 3) (pc' := 83) (by decide +kernel) (w_eq (by decide) (by decide)) rfl) ?_
              refine XE.asc ?_
              refine XE.goM (st_put (pc' := 86) (by decide +kernel) rfl cls_4 fld_RX10_138 rfl rfl (fun h => absurd h (by decide)) (fun h => nomatch h) h49) (fun M68 => ?_)
              refine XE.go (st_aload_n (j := 1) (i := 1) (pc' := 87) (by decide +kernel) rfl rfl (by decide) rfl) ?_
              refine XE.go (st_iload (j := 4) (pc' := 89) (by decide +kernel) rfl rfl) ?_
              refine XE.go (st_iconst (n := 1) (pc' := 90) (by decide +kernel) (w_eq (by decide) (by decide)) rfl) ?_
              refine XE.go (st_iadd (pc' := 91) (by decide +kernel) rfl) ?_
              refine XE.asc ?_
              refine XE.goM (st_put (pc' := 94) (by decide +kernel) rfl cls_5 fld_RX10_282 rfl rfl (fun h => absurd h (by decide)) (fun h => nomatch h) g1) (fun M69 => ?_)
              refine XE.go (st_iinc (j := 3) (n := (-1)) (pc' := 97) (by decide +kernel) rfl rfl (by decide) rfl rfl) ?_
              refine XE.go (st_iinc (j := 4) (n := 1) (pc' := 100) (by decide +kernel) rfl rfl (by decide) rfl rfl) ?_
              refine XE.go (st_goto (off := (-76)) (pc' := 24) (by decide +kernel) (by decide)) ?_
              exact XE.pick [2, 3, 4, 1, 0] rfl (hc41 ((w (s10.1 + (-1))), (w (s10.2.1 + 1)), M69))
            · refine XE.go (st_icmp_lt_f (off := 4) (pc' := 79) (by decide +kernel) 80 (by decide) rfl h67) ?_
              refine XE.cast (hx43 _) ?_
              exact XE.rt rfl (X_vret (by decide +kernel) rfl)
      · refine XE.go (st_icmp_ge_t (off := 75) (pc' := 103) (by decide +kernel) (by decide) (Int.not_lt.mp h46)) ?_
        exact XE.pick [] rfl (he42 s10.2.2)
    · exact XE.rt rfl (X_vret (by decide +kernel) rfl)
  · refine XE.go (st_if_eq_f (off := 4) (pc' := 12) (by decide +kernel) 13 (by decide) rfl h6) ?_
    exact XE.rt rfl (X_vret (by decide +kernel) rfl)
theorem ct_X10_removeOld {D : Dt} {M : Mm} {a0 a1 : Int} (h0 : a0 ≠ 0) (r : Mm) (hr : p_X10_removeOld M a0 a1 = some r) : CT D 0 mu_X10_removeOld [(14, a0), (9, a1)] M (.inl none) r := CT.of (by decide +kernel) rfl (Nat.le_of_ble_eq_true rfl) (xe_X10_removeOld h0 r hr)
def p_X2_get (M : Mm) (a0 a1 : Int) : Option Int := if a1 < 0 then some (0) else if a1 < (rd M a0 1) then gd ((rd M a0 0) ≠ 0) (if a1 < (ln (rd M a0 0)) then gd (aok (rd M a0 0) a1) (some ((rd M (rd M a0 0) a1))) else some (0)) else some (0)
set_option maxRecDepth 100000 in
set_option maxHeartbeats 4000000 in
theorem xe_X2_get {D : Dt} {M : Mm} {a0 a1 : Int} (h0 : a0 ≠ 0) : XE D 0 mu_X2_get (EP 5 M) 0 [(0, (6, a0)), (1, (0, a1))] [] M (p_X2_get M a0 a1) := by
  unfold p_X2_get
  refine XE.go (st_iload_n (j := 1) (i := 1) (pc' := 1) (by decide +kernel) rfl rfl rfl) ?_
  refine XE.ite (fun h1 => ?_) (fun h2 => ?_)
  · refine XE.go (st_if_lt_t (off := 29) (pc' := 30) (by decide +kernel) (by decide) h1) ?_
    refine XE.go (st_null (t := 5) (pc' := 31) (by decide +kernel) (by decide) rfl) ?_
    exact XE.rt rfl (X_aret (by decide +kernel) rfl (Or.inl ⟨_, rfl⟩) (by decide))
  · refine XE.go (st_if_lt_f (off := 29) (pc' := 4) (by decide +kernel) 30 (by decide) rfl h2) ?_
    refine XE.go (st_iload_n (j := 1) (i := 1) (pc' := 5) (by decide +kernel) rfl rfl rfl) ?_
    refine XE.go (st_aload_n (j := 0) (i := 0) (pc' := 6) (by decide +kernel) rfl rfl (by decide) rfl) ?_
    refine XE.go (st_get (pc' := 9) (by decide +kernel) rfl cls_2 fld_RX2_7 rfl rfl h0) ?_
    refine XE.ite (fun h3 => ?_) (fun h4 => ?_)
    · refine XE.go (st_icmp_ge_f (off := 21) (pc' := 12) (by decide +kernel) 30 (by decide) rfl (Int.not_le.mpr h3)) ?_
      refine XE.go (st_iload_n (j := 1) (i := 1) (pc' := 13) (by decide +kernel) rfl rfl rfl) ?_
      refine XE.go (st_aload_n (j := 0) (i := 0) (pc' := 14) (by decide +kernel) rfl rfl (by decide) rfl) ?_
      refine XE.go (st_get (pc' := 17) (by decide +kernel) rfl cls_2 fld_RX2_15 rfl rfl h0) ?_
      refine XE.gd_ (fun g5 => ?_)
      refine XE.go (st_alen (k := 17) (pc' := 18) (by decide +kernel) rfl ak_17 rfl (by decide) g5) ?_
      refine XE.ite (fun h6 => ?_) (fun h7 => ?_)
      · refine XE.go (st_icmp_ge_f (off := 12) (pc' := 21) (by decide +kernel) 30 (by decide) rfl (Int.not_le.mpr h6)) ?_
        refine XE.go (st_aload_n (j := 0) (i := 0) (pc' := 22) (by decide +kernel) rfl rfl (by decide) rfl) ?_
        refine XE.go (st_get (pc' := 25) (by decide +kernel) rfl cls_2 fld_RX2_15 rfl rfl h0) ?_
        refine XE.go (st_iload_n (j := 1) (i := 1) (pc' := 26) (by decide +kernel) rfl rfl rfl) ?_
        refine XE.gd_ (fun g8 => ?_)
        refine XE.go (st_ald (k := 17) (tp := 5) (pc' := 27) (by decide +kernel) rfl ak_17 rfl (by decide) rfl (Or.inr (Or.inr (Or.inr ⟨rfl, rfl⟩))) g8.1 g8.2.1 g8.2.2) ?_
        refine XE.go (st_goto (off := 4) (pc' := 31) (by decide +kernel) (by decide)) ?_
        exact XE.rt rfl (X_aret (by decide +kernel) rfl (Or.inl ⟨_, rfl⟩) (by decide))
      · refine XE.go (st_icmp_ge_t (off := 12) (pc' := 30) (by decide +kernel) (by decide) (Int.not_lt.mp h7)) ?_
        refine XE.go (st_null (t := 5) (pc' := 31) (by decide +kernel) (by decide) rfl) ?_
        exact XE.rt rfl (X_aret (by decide +kernel) rfl (Or.inl ⟨_, rfl⟩) (by decide))
    · refine XE.go (st_icmp_ge_t (off := 21) (pc' := 30) (by decide +kernel) (by decide) (Int.not_lt.mp h4)) ?_
      refine XE.go (st_null (t := 5) (pc' := 31) (by decide +kernel) (by decide) rfl) ?_
      exact XE.rt rfl (X_aret (by decide +kernel) rfl (Or.inl ⟨_, rfl⟩) (by decide))
theorem ct_X2_get {D : Dt} {M : Mm} {a0 a1 : Int} (h0 : a0 ≠ 0) (r : Int) (hr : p_X2_get M a0 a1 = some r) : CT D 0 mu_X2_get [(6, a0), (0, a1)] M (.inl (some (5, r))) M := CT.of (by decide +kernel) rfl (Nat.le_of_ble_eq_true rfl) (xe_X2_get h0 r hr)
def b_X2_removeLetter_4 (a0 : Int) (a1 : Int) (s1 : Int × Int × Mm) : Option ((Int × Int × Mm) ⊕ (Int × Mm)) := if s1.2.1 < (rd s1.2.2 a0 1) then gd ((rd s1.2.2 a0 0) ≠ 0) (if s1.2.1 < (ln (rd s1.2.2 a0 0)) then gd (aok (rd s1.2.2 a0 0) s1.2.1) (if (rd s1.2.2 (rd s1.2.2 a0 0) s1.2.1) = a1 then some (.inl (s1.1, (w (s1.2.1 + 1)), s1.2.2)) else gd (aok (rd s1.2.2 a0 0) s1.2.1) (gd (aok (rd s1.2.2 a0 0) s1.1) ((some (wr s1.2.2 (rd s1.2.2 a0 0) s1.1 (rd s1.2.2 (rd s1.2.2 a0 0) s1.2.1))).bind fun M17 => some (.inl ((w (s1.1 + 1)), (w (s1.2.1 + 1)), M17))))) else some (.inr (s1.1, s1.2.2))) else some (.inr (s1.1, s1.2.2))
def p_X2_removeLetter (M : Mm) (a0 a1 : Int) : Option Mm := (lp (b_X2_removeLetter_4 a0 a1) 1000 (0, 0, M)).bind fun (t2 : Int × Mm) => (some (wr t2.2 a0 1 t2.1)).bind fun M18 => some (M18)
set_option maxRecDepth 100000 in
set_option maxHeartbeats 4000000 in
theorem xe_X2_removeLetter {D : Dt} {M : Mm} {a0 a1 : Int} (h0 : a0 ≠ 0) : XE D 0 mu_X2_removeLetter EV 0 [(0, (6, a0)), (1, (5, a1))] [] M (p_X2_removeLetter M a0 a1) := by
  unfold p_X2_removeLetter
  refine XE.go (st_iconst (n := 0) (pc' := 1) (by decide +kernel) (w_eq (by decide) (by decide)) rfl) ?_
  refine XE.go (st_istore_n (j := 2) (i := 2) (pc' := 2) (by decide +kernel) rfl rfl (by decide) rfl rfl) ?_
  refine XE.go (st_iconst (n := 0) (pc' := 3) (by decide +kernel) (w_eq (by decide) (by decide)) rfl) ?_
  refine XE.go (st_istore_n (j := 3) (i := 3) (pc' := 4) (by decide +kernel) rfl rfl (by decide) rfl rfl) ?_
  refine XE.pick [2, 3, 1, 0] (L' := [(0, (6, a0)), (1, (5, a1)), (2, (0, 0)), (3, (0, 0))]) rfl ?_
  refine XE.loopJ (n := 1000) (s0 := (0, 0, M)) (pcL := 4) (pcE := 52) (LL := fun (s1 : Int × Int × Mm) => [(0, (6, a0)), (1, (5, a1)), (2, (0, s1.1)), (3, (0, s1.2.1))]) (sL := fun _ => []) (ML := fun (s1 : Int × Int × Mm) => s1.2.2) (LE := fun (t2 : Int × Mm) => [(0, (6, a0)), (2, (0, t2.1))]) (sE := fun _ => []) (ME := fun (t2 : Int × Mm) => t2.2) (fun kk6 hc3 he4 s1 => ?_) (fun t2 => ?_)
  · unfold b_X2_removeLetter_4
    refine XE.go (st_iload_n (j := 3) (i := 3) (pc' := 5) (by decide +kernel) rfl rfl rfl) ?_
    refine XE.go (st_aload_n (j := 0) (i := 0) (pc' := 6) (by decide +kernel) rfl rfl (by decide) rfl) ?_
    refine XE.go (st_get (pc' := 9) (by decide +kernel) rfl cls_2 fld_RX2_7 rfl rfl h0) ?_
    refine XE.bite (fun h7 => ?_) (fun h8 => ?_)
    · refine XE.go (st_icmp_ge_f (off := 43) (pc' := 12) (by decide +kernel) 52 (by decide) rfl (Int.not_le.mpr h7)) ?_
      refine XE.go (st_iload_n (j := 3) (i := 3) (pc' := 13) (by decide +kernel) rfl rfl rfl) ?_
      refine XE.go (st_aload_n (j := 0) (i := 0) (pc' := 14) (by decide +kernel) rfl rfl (by decide) rfl) ?_
      refine XE.go (st_get (pc' := 17) (by decide +kernel) rfl cls_2 fld_RX2_15 rfl rfl h0) ?_
      refine XE.gdb (fun g9 => ?_)
      refine XE.go (st_alen (k := 17) (pc' := 18) (by decide +kernel) rfl ak_17 rfl (by decide) g9) ?_
      refine XE.bite (fun h10 => ?_) (fun h11 => ?_)
      · refine XE.go (st_icmp_ge_f (off := 34) (pc' := 21) (by decide +kernel) 52 (by decide) rfl (Int.not_le.mpr h10)) ?_
        refine XE.go (st_aload_n (j := 0) (i := 0) (pc' := 22) (by decide +kernel) rfl rfl (by decide) rfl) ?_
        refine XE.go (st_get (pc' := 25) (by decide +kernel) rfl cls_2 fld_RX2_15 rfl rfl h0) ?_
        refine XE.go (st_iload_n (j := 3) (i := 3) (pc' := 26) (by decide +kernel) rfl rfl rfl) ?_
        refine XE.gdb (fun g12 => ?_)
        refine XE.go (st_ald (k := 17) (tp := 5) (pc' := 27) (by decide +kernel) rfl ak_17 rfl (by decide) rfl (Or.inr (Or.inr (Or.inr ⟨rfl, rfl⟩))) g12.1 g12.2.1 g12.2.2) ?_
        refine XE.go (st_aload_n (j := 1) (i := 1) (pc' := 28) (by decide +kernel) rfl rfl (by decide) rfl) ?_
        refine XE.bite (fun h13 => ?_) (fun h14 => ?_)
        · refine XE.go (st_acmp_eq_t (off := 18) (pc' := 46) (by decide +kernel) (by decide) (by decide) h13 (by decide)) ?_
          refine XE.go (st_iinc (j := 3) (n := 1) (pc' := 49) (by decide +kernel) rfl rfl (by decide) rfl rfl) ?_
          refine XE.go (st_goto (off := (-45)) (pc' := 4) (by decide +kernel) (by decide)) ?_
          exact XE.pick [1, 2, 3, 0] rfl (hc3 (s1.1, (w (s1.2.1 + 1)), s1.2.2))
        · refine XE.go (st_acmp_eq_f (off := 18) (pc' := 31) (by decide +kernel) 46 (by decide) (by decide) (by decide) h14 rfl) ?_
          refine XE.go (st_aload_n (j := 0) (i := 0) (pc' := 32) (by decide +kernel) rfl rfl (by decide) rfl) ?_
          refine XE.go (st_get (pc' := 35) (by decide +kernel) rfl cls_2 fld_RX2_15 rfl rfl h0) ?_
          refine XE.go (st_iload_n (j := 2) (i := 2) (pc' := 36) (by decide +kernel) rfl rfl rfl) ?_
          refine XE.go (st_aload_n (j := 0) (i := 0) (pc' := 37) (by decide +kernel) rfl rfl (by decide) rfl) ?_
          refine XE.go (st_get (pc' := 40) (by decide +kernel) rfl cls_2 fld_RX2_15 rfl rfl h0) ?_
          refine XE.go (st_iload_n (j := 3) (i := 3) (pc' := 41) (by decide +kernel) rfl rfl rfl) ?_
          refine XE.gdb (fun g15 => ?_)
          refine XE.go (st_ald (k := 17) (tp := 5) (pc' := 42) (by decide +kernel) rfl ak_17 rfl (by decide) rfl (Or.inr (Or.inr (Or.inr ⟨rfl, rfl⟩))) g15.1 g15.2.1 g15.2.2) ?_
          refine XE.gdb (fun g16 => ?_)
          refine XE.asc ?_
          refine XE.goM (st_aast (pc' := 43) (by decide +kernel) rfl ak_17 cls_1 rfl rfl rfl g16.1 g16.2.1 g16.2.2) (fun M17 => ?_)
          refine XE.go (st_iinc (j := 2) (n := 1) (pc' := 46) (by decide +kernel) rfl rfl (by decide) rfl rfl) ?_
          refine XE.go (st_iinc (j := 3) (n := 1) (pc' := 49) (by decide +kernel) rfl rfl (by decide) rfl rfl) ?_
          refine XE.go (st_goto (off := (-45)) (pc' := 4) (by decide +kernel) (by decide)) ?_
          exact XE.pick [2, 3, 1, 0] rfl (hc3 ((w (s1.1 + 1)), (w (s1.2.1 + 1)), M17))
      · refine XE.go (st_icmp_ge_t (off := 34) (pc' := 52) (by decide +kernel) (by decide) (Int.not_lt.mp h11)) ?_
        exact XE.pick [0, 2] rfl (he4 (s1.1, s1.2.2))
    · refine XE.go (st_icmp_ge_t (off := 43) (pc' := 52) (by decide +kernel) (by decide) (Int.not_lt.mp h8)) ?_
      exact XE.pick [0, 2] rfl (he4 (s1.1, s1.2.2))
  · refine XE.go (st_aload_n (j := 0) (i := 0) (pc' := 53) (by decide +kernel) rfl rfl (by decide) rfl) ?_
    refine XE.go (st_iload_n (j := 2) (i := 2) (pc' := 54) (by decide +kernel) rfl rfl rfl) ?_
    refine XE.goM (st_put (pc' := 57) (by decide +kernel) rfl cls_2 fld_RX2_7 rfl rfl (fun h => absurd h (by decide)) (fun h => nomatch h) h0) (fun M18 => ?_)
    exact XE.rt rfl (X_vret (by decide +kernel) rfl)
theorem ct_X2_removeLetter {D : Dt} {M : Mm} {a0 a1 : Int} (h0 : a0 ≠ 0) (r : Mm) (hr : p_X2_removeLetter M a0 a1 = some r) : CT D 0 mu_X2_removeLetter [(6, a0), (5, a1)] M (.inl none) r := CT.of (by decide +kernel) rfl (Nat.le_of_ble_eq_true rfl) (xe_X2_removeLetter h0 r hr)
def p_X1_isBefore (M : Mm) (a0 a1 : Int) : Option Int := gd (a1 ≠ 0) (if (rd M a0 2) = (rd M a1 2) then gd ((rd M a0 0) ≠ 0) (gd ((rd M a1 0) ≠ 0) (if (rd M (rd M a0 0) 0) < (rd M (rd M a1 0) 0) then some (1) else some (0))) else if (rd M a0 2) < (rd M a1 2) then some (1) else some (0))
set_option maxRecDepth 100000 in
set_option maxHeartbeats 4000000 in
theorem xe_X1_isBefore {D : Dt} {M : Mm} {a0 a1 : Int} (h0 : a0 ≠ 0) : XE D 0 mu_X1_isBefore (EP 0 M) 0 [(0, (5, a0)), (1, (5, a1))] [] M (p_X1_isBefore M a0 a1) := by
  unfold p_X1_isBefore
  refine XE.go (st_aload_n (j := 0) (i := 0) (pc' := 1) (by decide +kernel) rfl rfl (by decide) rfl) ?_
  refine XE.go (st_get (pc' := 4) (by decide +kernel) rfl cls_1 fld_RX1_15 rfl rfl h0) ?_
  refine XE.go (st_aload_n (j := 1) (i := 1) (pc' := 5) (by decide +kernel) rfl rfl (by decide) rfl) ?_
  refine XE.gd_ (fun g1 => ?_)
  refine XE.go (st_get (pc' := 8) (by decide +kernel) rfl cls_1 fld_RX1_15 rfl rfl g1) ?_
  refine XE.ite (fun h2 => ?_) (fun h3 => ?_)
  · refine XE.go (st_icmp_eq_t (off := 22) (pc' := 30) (by decide +kernel) (by decide) h2) ?_
    refine XE.go (st_aload_n (j := 0) (i := 0) (pc' := 31) (by decide +kernel) rfl rfl (by decide) rfl) ?_
    refine XE.go (st_get (pc' := 34) (by decide +kernel) rfl cls_1 fld_RX1_31 rfl rfl h0) ?_
    refine XE.gd_ (fun g4 => ?_)
    refine XE.go (st_get (pc' := 37) (by decide +kernel) rfl cls_4 fld_RX1_44 rfl rfl g4) ?_
    refine XE.go (st_aload_n (j := 1) (i := 1) (pc' := 38) (by decide +kernel) rfl rfl (by decide) rfl) ?_
    refine XE.go (st_get (pc' := 41) (by decide +kernel) rfl cls_1 fld_RX1_31 rfl rfl g1) ?_
    refine XE.gd_ (fun g5 => ?_)
    refine XE.go (st_get (pc' := 44) (by decide +kernel) rfl cls_4 fld_RX1_44 rfl rfl g5) ?_
    refine XE.ite (fun h6 => ?_) (fun h7 => ?_)
    · refine XE.go (st_icmp_ge_f (off := 7) (pc' := 47) (by decide +kernel) 51 (by decide) rfl (Int.not_le.mpr h6)) ?_
      refine XE.go (st_iconst (n := 1) (pc' := 48) (by decide +kernel) (w_eq (by decide) (by decide)) rfl) ?_
      refine XE.go (st_goto (off := 4) (pc' := 52) (by decide +kernel) (by decide)) ?_
      exact XE.rt rfl (X_zret (by decide +kernel) rfl (by decide))
    · refine XE.go (st_icmp_ge_t (off := 7) (pc' := 51) (by decide +kernel) (by decide) (Int.not_lt.mp h7)) ?_
      refine XE.go (st_iconst (n := 0) (pc' := 52) (by decide +kernel) (w_eq (by decide) (by decide)) rfl) ?_
      exact XE.rt rfl (X_zret (by decide +kernel) rfl (by decide))
  · refine XE.go (st_icmp_eq_f (off := 22) (pc' := 11) (by decide +kernel) 30 (by decide) rfl h3) ?_
    refine XE.go (st_aload_n (j := 0) (i := 0) (pc' := 12) (by decide +kernel) rfl rfl (by decide) rfl) ?_
    refine XE.go (st_get (pc' := 15) (by decide +kernel) rfl cls_1 fld_RX1_15 rfl rfl h0) ?_
    refine XE.go (st_aload_n (j := 1) (i := 1) (pc' := 16) (by decide +kernel) rfl rfl (by decide) rfl) ?_
    refine XE.go (st_get (pc' := 19) (by decide +kernel) rfl cls_1 fld_RX1_15 rfl rfl g1) ?_
    refine XE.ite (fun h8 => ?_) (fun h9 => ?_)
    · refine XE.go (st_icmp_ge_f (off := 7) (pc' := 22) (by decide +kernel) 26 (by decide) rfl (Int.not_le.mpr h8)) ?_
      refine XE.go (st_iconst (n := 1) (pc' := 23) (by decide +kernel) (w_eq (by decide) (by decide)) rfl) ?_
      refine XE.go (st_goto (off := 29) (pc' := 52) (by decide +kernel) (by decide)) ?_
      exact XE.rt rfl (X_zret (by decide +kernel) rfl (by decide))
    · refine XE.go (st_icmp_ge_t (off := 7) (pc' := 26) (by decide +kernel) (by decide) (Int.not_lt.mp h9)) ?_
      refine XE.go (st_iconst (n := 0) (pc' := 27) (by decide +kernel) (w_eq (by decide) (by decide)) rfl) ?_
      refine XE.go (st_goto (off := 25) (pc' := 52) (by decide +kernel) (by decide)) ?_
      exact XE.rt rfl (X_zret (by decide +kernel) rfl (by decide))
theorem ct_X1_isBefore {D : Dt} {M : Mm} {a0 a1 : Int} (h0 : a0 ≠ 0) (r : Int) (hr : p_X1_isBefore M a0 a1 = some r) : CT D 0 mu_X1_isBefore [(5, a0), (5, a1)] M (.inl (some (0, r))) M := CT.of (by decide +kernel) rfl (Nat.le_of_ble_eq_true rfl) (xe_X1_isBefore h0 r hr)
def b_X2_addByDue_25 (a0 : Int) (a1 : Int) (s8 : Int × Int × Mm) : Option ((Int × Int × Mm) ⊕ (Int × Mm)) := if s8.2.1 < 0 then some (.inr (s8.1, s8.2.2)) else gd (aok (rd s8.2.2 a0 0) s8.2.1) ((some ((rd s8.2.2 (rd s8.2.2 a0 0) s8.2.1))).bind fun v17 => if v17 = 0 then some (.inl (s8.1, (w (s8.2.1 + (-1))), s8.2.2)) else gd (a1 ≠ 0) ((p_X1_isBefore s8.2.2 a1 v17).bind fun r22 => if r22 = 0 then some (.inl (s8.1, (w (s8.2.1 + (-1))), s8.2.2)) else gd (aok (rd s8.2.2 a0 0) (w (s8.2.1 + 1))) ((some (wr s8.2.2 (rd s8.2.2 a0 0) (w (s8.2.1 + 1)) v17)).bind fun M26 => some (.inl (s8.2.1, (w (s8.2.1 + (-1))), M26)))))
def p_X2_addByDue (M : Mm) (a0 a1 : Int) : Option Mm := gd ((rd M a0 0) ≠ 0) (if (rd M a0 1) < (ln (rd M a0 0)) then (some ((rd M a0 1))).bind fun v4 => (some ((w ((rd M a0 1) - 1)))).bind fun v6 => (lp (b_X2_addByDue_25 a0 a1) 1000 (v4, v6, M)).bind fun (t9 : Int × Mm) => gd (aok (rd t9.2 a0 0) t9.1) ((some (wr t9.2 (rd t9.2 a0 0) t9.1 a1)).bind fun M28 => (some (wr M28 a0 1 (w ((rd M28 a0 1) + 1)))).bind fun M29 => some (M29)) else some (M))
set_option maxRecDepth 100000 in
set_option maxHeartbeats 4000000 in
theorem xe_X2_addByDue {D : Dt} {M : Mm} {a0 a1 : Int} (h0 : a0 ≠ 0) : XE D 0 mu_X2_addByDue EV 0 [(0, (6, a0)), (1, (5, a1))] [] M (p_X2_addByDue M a0 a1) := by
  unfold p_X2_addByDue
  refine XE.go (st_aload_n (j := 0) (i := 0) (pc' := 1) (by decide +kernel) rfl rfl (by decide) rfl) ?_
  refine XE.go (st_get (pc' := 4) (by decide +kernel) rfl cls_2 fld_RX2_7 rfl rfl h0) ?_
  refine XE.go (st_aload_n (j := 0) (i := 0) (pc' := 5) (by decide +kernel) rfl rfl (by decide) rfl) ?_
  refine XE.go (st_get (pc' := 8) (by decide +kernel) rfl cls_2 fld_RX2_15 rfl rfl h0) ?_
  refine XE.gd_ (fun g1 => ?_)
  refine XE.go (st_alen (k := 17) (pc' := 9) (by decide +kernel) rfl ak_17 rfl (by decide) g1) ?_
  refine XE.ite (fun h2 => ?_) (fun h3 => ?_)
  · refine XE.go (st_icmp_lt_t (off := 4) (pc' := 13) (by decide +kernel) (by decide) h2) ?_
    refine XE.go (st_aload_n (j := 0) (i := 0) (pc' := 14) (by decide +kernel) rfl rfl (by decide) rfl) ?_
    refine XE.go (st_get (pc' := 17) (by decide +kernel) rfl cls_2 fld_RX2_7 rfl rfl h0) ?_
    refine XE.gen (fun v4 e5 => ?_)
    refine XE.go (st_istore_n (j := 2) (i := 2) (pc' := 18) (by decide +kernel) rfl rfl (by decide) rfl rfl) ?_
    refine XE.go (st_aload_n (j := 0) (i := 0) (pc' := 19) (by decide +kernel) rfl rfl (by decide) rfl) ?_
    refine XE.go (st_get (pc' := 22) (by decide +kernel) rfl cls_2 fld_RX2_7 rfl rfl h0) ?_
    refine XE.go (st_iconst (n := 1) (pc' := 23) (by decide +kernel) (w_eq (by decide) (by decide)) rfl) ?_
    refine XE.go (st_isub (pc' := 24) (by decide +kernel) rfl) ?_
    refine XE.gen (fun v6 e7 => ?_)
    refine XE.go (st_istore_n (j := 3) (i := 3) (pc' := 25) (by decide +kernel) rfl rfl (by decide) rfl rfl) ?_
    refine XE.pick [2, 3, 1, 0] (L' := [(0, (6, a0)), (1, (5, a1)), (2, (0, v4)), (3, (0, v6))]) rfl ?_
    refine XE.loopJ (n := 1000) (s0 := (v4, v6, M)) (pcL := 25) (pcE := 69) (LL := fun (s8 : Int × Int × Mm) => [(0, (6, a0)), (1, (5, a1)), (2, (0, s8.1)), (3, (0, s8.2.1))]) (sL := fun _ => []) (ML := fun (s8 : Int × Int × Mm) => s8.2.2) (LE := fun (t9 : Int × Mm) => [(0, (6, a0)), (1, (5, a1)), (2, (0, t9.1))]) (sE := fun _ => []) (ME := fun (t9 : Int × Mm) => t9.2) (fun kk13 hc10 he11 s8 => ?_) (fun t9 => ?_)
    · unfold b_X2_addByDue_25
      refine XE.go (st_iload_n (j := 3) (i := 3) (pc' := 26) (by decide +kernel) rfl rfl rfl) ?_
      refine XE.bite (fun h14 => ?_) (fun h15 => ?_)
      · refine XE.go (st_if_lt_t (off := 43) (pc' := 69) (by decide +kernel) (by decide) h14) ?_
        exact XE.pick [0, 1, 2] rfl (he11 (s8.1, s8.2.2))
      · refine XE.go (st_if_lt_f (off := 43) (pc' := 29) (by decide +kernel) 69 (by decide) rfl h15) ?_
        refine XE.go (st_aload_n (j := 0) (i := 0) (pc' := 30) (by decide +kernel) rfl rfl (by decide) rfl) ?_
        refine XE.go (st_get (pc' := 33) (by decide +kernel) rfl cls_2 fld_RX2_15 rfl rfl h0) ?_
        refine XE.go (st_iload_n (j := 3) (i := 3) (pc' := 34) (by decide +kernel) rfl rfl rfl) ?_
        refine XE.gdb (fun g16 => ?_)
        refine XE.go (st_ald (k := 17) (tp := 5) (pc' := 35) (by decide +kernel) rfl ak_17 rfl (by decide) rfl (Or.inr (Or.inr (Or.inr ⟨rfl, rfl⟩))) g16.1 g16.2.1 g16.2.2) ?_
        refine XE.asc ?_
        refine XE.gen (fun v17 e18 => ?_)
        refine XE.go (st_astore (j := 4) (pc' := 37) (by decide +kernel)  (by decide) rfl (by decide) rfl rfl) ?_
        refine XE.go (st_aload (j := 4) (pc' := 39) (by decide +kernel) rfl (by decide) rfl) ?_
        refine XE.bite (fun h19 => ?_) (fun h20 => ?_)
        · refine XE.go (st_ifnull_t (off := 24) (pc' := 63) (by decide +kernel) (by decide) h19 (by decide)) ?_
          refine XE.go (st_iinc (j := 3) (n := (-1)) (pc' := 66) (by decide +kernel) rfl rfl (by decide) rfl rfl) ?_
          refine XE.go (st_goto (off := (-41)) (pc' := 25) (by decide +kernel) (by decide)) ?_
          exact XE.pick [2, 3, 4, 0] rfl (hc10 (s8.1, (w (s8.2.1 + (-1))), s8.2.2))
        · refine XE.go (st_ifnull_f (off := 24) (pc' := 42) (by decide +kernel) (by decide) h20 rfl) ?_
          refine XE.go (st_aload_n (j := 1) (i := 1) (pc' := 43) (by decide +kernel) rfl rfl (by decide) rfl) ?_
          refine XE.go (st_aload (j := 4) (pc' := 45) (by decide +kernel) rfl (by decide) rfl) ?_
          refine XE.gdb (fun g21 => ?_)
          refine XE.asc ?_
          refine XE.cP (pc' := 48) (st := []) (fun r hr => ct_X1_isBefore g21 r hr) (fun r hr => run_V (st := []) (by decide +kernel) co_X2_addByDue_32 (ct_X1_isBefore g21 r hr) rfl g21 rfl rfl (Nat.le_of_ble_eq_true rfl)) rfl rfl (fun r22 => ?_)
          refine XE.bite (fun h23 => ?_) (fun h24 => ?_)
          · refine XE.go (st_if_eq_t (off := 15) (pc' := 63) (by decide +kernel) (by decide) h23) ?_
            refine XE.go (st_iinc (j := 3) (n := (-1)) (pc' := 66) (by decide +kernel) rfl rfl (by decide) rfl rfl) ?_
            refine XE.go (st_goto (off := (-41)) (pc' := 25) (by decide +kernel) (by decide)) ?_
            exact XE.pick [2, 3, 4, 0] rfl (hc10 (s8.1, (w (s8.2.1 + (-1))), s8.2.2))
          · refine XE.go (st_if_eq_f (off := 15) (pc' := 51) (by decide +kernel) 63 (by decide) rfl h24) ?_
            refine XE.go (st_aload_n (j := 0) (i := 0) (pc' := 52) (by decide +kernel) rfl rfl (by decide) rfl) ?_
            refine XE.go (st_get (pc' := 55) (by decide +kernel) rfl cls_2 fld_RX2_15 rfl rfl h0) ?_
            refine XE.go (st_iload_n (j := 3) (i := 3) (pc' := 56) (by decide +kernel) rfl rfl rfl) ?_
            refine XE.go (st_iconst (n := 1) (pc' := 57) (by decide +kernel) (w_eq (by decide) (by decide)) rfl) ?_
            refine XE.go (st_iadd (pc' := 58) (by decide +kernel) rfl) ?_
            refine XE.go (st_aload (j := 4) (pc' := 60) (by decide +kernel) rfl (by decide) rfl) ?_
            refine XE.gdb (fun g25 => ?_)
            refine XE.asc ?_
            refine XE.goM (st_aast (pc' := 61) (by decide +kernel) rfl ak_17 cls_1 rfl rfl rfl g25.1 g25.2.1 g25.2.2) (fun M26 => ?_)
            refine XE.go (st_iload_n (j := 3) (i := 3) (pc' := 62) (by decide +kernel) rfl rfl rfl) ?_
            refine XE.go (st_istore_n (j := 2) (i := 2) (pc' := 63) (by decide +kernel) rfl rfl (by decide) rfl rfl) ?_
            refine XE.go (st_iinc (j := 3) (n := (-1)) (pc' := 66) (by decide +kernel) rfl rfl (by decide) rfl rfl) ?_
            refine XE.go (st_goto (off := (-41)) (pc' := 25) (by decide +kernel) (by decide)) ?_
            exact XE.pick [3, 4, 1, 0] rfl (hc10 (s8.2.1, (w (s8.2.1 + (-1))), M26))
    · refine XE.go (st_aload_n (j := 0) (i := 0) (pc' := 70) (by decide +kernel) rfl rfl (by decide) rfl) ?_
      refine XE.go (st_get (pc' := 73) (by decide +kernel) rfl cls_2 fld_RX2_15 rfl rfl h0) ?_
      refine XE.go (st_iload_n (j := 2) (i := 2) (pc' := 74) (by decide +kernel) rfl rfl rfl) ?_
      refine XE.go (st_aload_n (j := 1) (i := 1) (pc' := 75) (by decide +kernel) rfl rfl (by decide) rfl) ?_
      refine XE.gd_ (fun g27 => ?_)
      refine XE.goM (st_aast (pc' := 76) (by decide +kernel) rfl ak_17 cls_1 rfl rfl rfl g27.1 g27.2.1 g27.2.2) (fun M28 => ?_)
      refine XE.go (st_aload_n (j := 0) (i := 0) (pc' := 77) (by decide +kernel) rfl rfl (by decide) rfl) ?_
      refine XE.go (st_dup (pc' := 78) (by decide +kernel) rfl rfl) ?_
      refine XE.go (st_get (pc' := 81) (by decide +kernel) rfl cls_2 fld_RX2_7 rfl rfl h0) ?_
      refine XE.go (st_iconst (n := 1) (pc' := 82) (by decide +kernel) (w_eq (by decide) (by decide)) rfl) ?_
      refine XE.go (st_iadd (pc' := 83) (by decide +kernel) rfl) ?_
      refine XE.goM (st_put (pc' := 86) (by decide +kernel) rfl cls_2 fld_RX2_7 rfl rfl (fun h => absurd h (by decide)) (fun h => nomatch h) h0) (fun M29 => ?_)
      exact XE.rt rfl (X_vret (by decide +kernel) rfl)
  · refine XE.go (st_icmp_lt_f (off := 4) (pc' := 12) (by decide +kernel) 13 (by decide) rfl h3) ?_
    exact XE.rt rfl (X_vret (by decide +kernel) rfl)
theorem ct_X2_addByDue {D : Dt} {M : Mm} {a0 a1 : Int} (h0 : a0 ≠ 0) (r : Mm) (hr : p_X2_addByDue M a0 a1 = some r) : CT D 0 mu_X2_addByDue [(6, a0), (5, a1)] M (.inl none) r := CT.of (by decide +kernel) rfl (Nat.le_of_ble_eq_true rfl) (xe_X2_addByDue h0 r hr)
def p_X0_putInRow (M : Mm) (a0 a1 a2 : Int) : Option Mm := gd (a1 ≠ 0) ((some (wr M a1 1 1)).bind fun M2 => (some (wr M2 a1 2 a2)).bind fun M3 => gd ((rd M3 a0 3) ≠ 0) ((p_X2_addByDue M3 (rd M3 a0 3) a1).bind fun M5 => some (M5)))
set_option maxRecDepth 100000 in
set_option maxHeartbeats 4000000 in
theorem xe_X0_putInRow {D : Dt} {M : Mm} {a0 a1 a2 : Int} (h0 : a0 ≠ 0) : XE D 0 mu_X0_putInRow EV 0 [(0, (4, a0)), (1, (5, a1)), (2, (0, a2))] [] M (p_X0_putInRow M a0 a1 a2) := by
  unfold p_X0_putInRow
  refine XE.go (st_aload_n (j := 1) (i := 1) (pc' := 1) (by decide +kernel) rfl rfl (by decide) rfl) ?_
  refine XE.go (st_iconst (n := 1) (pc' := 2) (by decide +kernel) (w_eq (by decide) (by decide)) rfl) ?_
  refine XE.gd_ (fun g1 => ?_)
  refine XE.goM (st_put (pc' := 5) (by decide +kernel) rfl cls_1 fld_RX0_165 rfl rfl (fun h => absurd h (by decide)) (fun h => nomatch h) g1) (fun M2 => ?_)
  refine XE.go (st_aload_n (j := 1) (i := 1) (pc' := 6) (by decide +kernel) rfl rfl (by decide) rfl) ?_
  refine XE.go (st_iload_n (j := 2) (i := 2) (pc' := 7) (by decide +kernel) rfl rfl rfl) ?_
  refine XE.goM (st_put (pc' := 10) (by decide +kernel) rfl cls_1 fld_RX0_176 rfl rfl (fun h => absurd h (by decide)) (fun h => nomatch h) g1) (fun M3 => ?_)
  refine XE.go (st_aload_n (j := 0) (i := 0) (pc' := 11) (by decide +kernel) rfl rfl (by decide) rfl) ?_
  refine XE.go (st_get (pc' := 14) (by decide +kernel) rfl cls_0 fld_RX0_34 rfl rfl h0) ?_
  refine XE.go (st_aload_n (j := 1) (i := 1) (pc' := 15) (by decide +kernel) rfl rfl (by decide) rfl) ?_
  refine XE.gd_ (fun g4 => ?_)
  refine XE.cV (pc' := 18) (st := []) (fun r hr => ct_X2_addByDue g4 r hr) (fun r hr => run_V (st := []) (by decide +kernel) co_X0_putInRow_179 (ct_X2_addByDue g4 r hr) rfl g4 rfl rfl (Nat.le_of_ble_eq_true rfl)) rfl rfl (fun M5 => ?_)
  exact XE.rt rfl (X_vret (by decide +kernel) rfl)
theorem ct_X0_putInRow {D : Dt} {M : Mm} {a0 a1 a2 : Int} (h0 : a0 ≠ 0) (r : Mm) (hr : p_X0_putInRow M a0 a1 a2 = some r) : CT D 0 mu_X0_putInRow [(4, a0), (5, a1), (0, a2)] M (.inl none) r := CT.of (by decide +kernel) rfl (Nat.le_of_ble_eq_true rfl) (xe_X0_putInRow h0 r hr)
def b_X0_giveUp_16 (a2 : Int) (a1 : Int) (a0 : Int) (a3 : Int) (s7 : Int × Mm) : Option ((Int × Mm) ⊕ (Mm)) := if s7.1 < 0 then some (.inr s7.2) else gd ((rd s7.2 a2 1) ≠ 0) ((p_X2_get s7.2 (rd s7.2 a2 1) s7.1).bind fun r16 => if r16 = 0 then some (.inl ((w (s7.1 + (-1))), s7.2)) else gd ((rd s7.2 r16 0) ≠ 0) (if (rd s7.2 (rd s7.2 r16 0) 2) = (rd s7.2 a1 0) then (p_X2_removeLetter s7.2 (rd s7.2 a2 1) r16).bind fun M22 => (some (wr M22 r16 1 0)).bind fun M23 => if (rd M23 r16 4) = 0 then some (.inl ((w (s7.1 + (-1))), M23)) else (p_X0_putInRow M23 a0 r16 a3).bind fun M26 => some (.inl ((w (s7.1 + (-1))), M26)) else some (.inl ((w (s7.1 + (-1))), s7.2))))
def p_X0_giveUp (M : Mm) (a0 a1 a2 a3 : Int) : Option Mm := gd (a1 ≠ 0) ((some (wr M a1 1 0)).bind fun M2 => gd (a2 ≠ 0) (gd ((rd M2 a2 1) ≠ 0) ((some ((w ((rd M2 (rd M2 a2 1) 1) - 1)))).bind fun v5 => (lp (b_X0_giveUp_16 a2 a1 a0 a3) 1000 (v5, M2)).bind fun (t8 : Mm) => some (t8))))
set_option maxRecDepth 100000 in
set_option maxHeartbeats 4000000 in
theorem xe_X0_giveUp {D : Dt} {M : Mm} {a0 a1 a2 a3 : Int} (h0 : a0 ≠ 0) : XE D 0 mu_X0_giveUp EV 0 [(0, (4, a0)), (1, (12, a1)), (2, (7, a2)), (3, (0, a3))] [] M (p_X0_giveUp M a0 a1 a2 a3) := by
  unfold p_X0_giveUp
  refine XE.go (st_aload_n (j := 1) (i := 1) (pc' := 1) (by decide +kernel) rfl rfl (by decide) rfl) ?_
  refine XE.go (st_null (t := 7) (pc' := 2) (by decide +kernel) (by decide) rfl) ?_
  refine XE.gd_ (fun g1 => ?_)
  refine XE.goM (st_put (pc' := 5) (by decide +kernel) rfl cls_8 fld_RX0_76 rfl rfl (fun h => absurd h (by decide)) (fun h => nomatch h) g1) (fun M2 => ?_)
  refine XE.go (st_aload_n (j := 2) (i := 2) (pc' := 6) (by decide +kernel) rfl rfl (by decide) rfl) ?_
  refine XE.gd_ (fun g3 => ?_)
  refine XE.go (st_get (pc' := 9) (by decide +kernel) rfl cls_3 fld_RX0_146 rfl rfl g3) ?_
  refine XE.gd_ (fun g4 => ?_)
  refine XE.go (st_get (pc' := 12) (by decide +kernel) rfl cls_2 fld_RX0_149 rfl rfl g4) ?_
  refine XE.go (st_iconst (n := 1) (pc' := 13) (by decide +kernel) (w_eq (by decide) (by decide)) rfl) ?_
  refine XE.go (st_isub (pc' := 14) (by decide +kernel) rfl) ?_
  refine XE.gen (fun v5 e6 => ?_)
  refine XE.go (st_istore (j := 4) (pc' := 16) (by decide +kernel)  rfl (by decide) rfl rfl) ?_
  refine XE.pick [1, 2, 3, 4, 0] (L' := [(0, (4, a0)), (1, (12, a1)), (2, (7, a2)), (3, (0, a3)), (4, (0, v5))]) rfl ?_
  refine XE.loopJ (n := 1000) (s0 := (v5, M2)) (pcL := 16) (pcE := 88) (LL := fun (s7 : Int × Mm) => [(0, (4, a0)), (1, (12, a1)), (2, (7, a2)), (3, (0, a3)), (4, (0, s7.1))]) (sL := fun _ => []) (ML := fun (s7 : Int × Mm) => s7.2) (LE := fun (t8 : Mm) => []) (sE := fun _ => []) (ME := fun (t8 : Mm) => t8) (fun kk12 hc9 he10 s7 => ?_) (fun t8 => ?_)
  · unfold b_X0_giveUp_16
    refine XE.go (st_iload (j := 4) (pc' := 18) (by decide +kernel) rfl rfl) ?_
    refine XE.bite (fun h13 => ?_) (fun h14 => ?_)
    · refine XE.go (st_if_lt_t (off := 70) (pc' := 88) (by decide +kernel) (by decide) h13) ?_
      exact XE.pick [] rfl (he10 s7.2)
    · refine XE.go (st_if_lt_f (off := 70) (pc' := 21) (by decide +kernel) 88 (by decide) rfl h14) ?_
      refine XE.go (st_aload_n (j := 2) (i := 2) (pc' := 22) (by decide +kernel) rfl rfl (by decide) rfl) ?_
      refine XE.go (st_get (pc' := 25) (by decide +kernel) rfl cls_3 fld_RX0_146 rfl rfl g3) ?_
      refine XE.go (st_iload (j := 4) (pc' := 27) (by decide +kernel) rfl rfl) ?_
      refine XE.gdb (fun g15 => ?_)
      refine XE.asc ?_
      refine XE.cP (pc' := 30) (st := []) (fun r hr => ct_X2_get g15 r hr) (fun r hr => run_V (st := []) (by decide +kernel) co_X0_giveUp_152 (ct_X2_get g15 r hr) rfl g15 rfl rfl (Nat.le_of_ble_eq_true rfl)) rfl rfl (fun r16 => ?_)
      refine XE.go (st_astore (j := 5) (pc' := 32) (by decide +kernel)  (by decide) rfl (by decide) rfl rfl) ?_
      refine XE.go (st_aload (j := 5) (pc' := 34) (by decide +kernel) rfl (by decide) rfl) ?_
      refine XE.bite (fun h17 => ?_) (fun h18 => ?_)
      · refine XE.go (st_ifnull_t (off := 48) (pc' := 82) (by decide +kernel) (by decide) h17 (by decide)) ?_
        refine XE.go (st_iinc (j := 4) (n := (-1)) (pc' := 85) (by decide +kernel) rfl rfl (by decide) rfl rfl) ?_
        refine XE.go (st_goto (off := (-69)) (pc' := 16) (by decide +kernel) (by decide)) ?_
        exact XE.pick [2, 3, 4, 5, 0] rfl (hc9 ((w (s7.1 + (-1))), s7.2))
      · refine XE.go (st_ifnull_f (off := 48) (pc' := 37) (by decide +kernel) (by decide) h18 rfl) ?_
        refine XE.go (st_aload (j := 5) (pc' := 39) (by decide +kernel) rfl (by decide) rfl) ?_
        refine XE.go (st_get (pc' := 42) (by decide +kernel) rfl cls_1 fld_RX0_156 rfl rfl h18) ?_
        refine XE.gdb (fun g19 => ?_)
        refine XE.go (st_get (pc' := 45) (by decide +kernel) rfl cls_4 fld_RX0_160 rfl rfl g19) ?_
        refine XE.go (st_aload_n (j := 1) (i := 1) (pc' := 46) (by decide +kernel) rfl rfl (by decide) rfl) ?_
        refine XE.go (st_get (pc' := 49) (by decide +kernel) rfl cls_8 fld_RX0_130 rfl rfl g1) ?_
        refine XE.bite (fun h20 => ?_) (fun h21 => ?_)
        · refine XE.go (st_acmp_ne_f (off := 33) (pc' := 52) (by decide +kernel) 82 (by decide) (by decide) (by decide) h20 rfl) ?_
          refine XE.go (st_aload_n (j := 2) (i := 2) (pc' := 53) (by decide +kernel) rfl rfl (by decide) rfl) ?_
          refine XE.go (st_get (pc' := 56) (by decide +kernel) rfl cls_3 fld_RX0_146 rfl rfl g3) ?_
          refine XE.go (st_aload (j := 5) (pc' := 58) (by decide +kernel) rfl (by decide) rfl) ?_
          refine XE.asc ?_
          refine XE.cV (pc' := 61) (st := []) (fun r hr => ct_X2_removeLetter g15 r hr) (fun r hr => run_V (st := []) (by decide +kernel) co_X0_giveUp_161 (ct_X2_removeLetter g15 r hr) rfl g15 rfl rfl (Nat.le_of_ble_eq_true rfl)) rfl rfl (fun M22 => ?_)
          refine XE.go (st_aload (j := 5) (pc' := 63) (by decide +kernel) rfl (by decide) rfl) ?_
          refine XE.go (st_iconst (n := 0) (pc' := 64) (by decide +kernel) (w_eq (by decide) (by decide)) rfl) ?_
          refine XE.asc ?_
          refine XE.goM (st_put (pc' := 67) (by decide +kernel) rfl cls_1 fld_RX0_165 rfl rfl (fun h => absurd h (by decide)) (fun h => nomatch h) h18) (fun M23 => ?_)
          refine XE.go (st_aload (j := 5) (pc' := 69) (by decide +kernel) rfl (by decide) rfl) ?_
          refine XE.go (st_get (pc' := 72) (by decide +kernel) rfl cls_1 fld_RX0_168 rfl rfl h18) ?_
          refine XE.bite (fun h24 => ?_) (fun h25 => ?_)
          · refine XE.go (st_if_eq_t (off := 10) (pc' := 82) (by decide +kernel) (by decide) h24) ?_
            refine XE.go (st_iinc (j := 4) (n := (-1)) (pc' := 85) (by decide +kernel) rfl rfl (by decide) rfl rfl) ?_
            refine XE.go (st_goto (off := (-69)) (pc' := 16) (by decide +kernel) (by decide)) ?_
            exact XE.pick [2, 3, 4, 5, 0] rfl (hc9 ((w (s7.1 + (-1))), M23))
          · refine XE.go (st_if_eq_f (off := 10) (pc' := 75) (by decide +kernel) 82 (by decide) rfl h25) ?_
            refine XE.go (st_aload_n (j := 0) (i := 0) (pc' := 76) (by decide +kernel) rfl rfl (by decide) rfl) ?_
            refine XE.go (st_aload (j := 5) (pc' := 78) (by decide +kernel) rfl (by decide) rfl) ?_
            refine XE.go (st_iload_n (j := 3) (i := 3) (pc' := 79) (by decide +kernel) rfl rfl rfl) ?_
            refine XE.asc ?_
            refine XE.cV (pc' := 82) (st := []) (fun r hr => ct_X0_putInRow h0 r hr) (fun r hr => run_V (st := []) (by decide +kernel) co_X0_giveUp_172 (ct_X0_putInRow h0 r hr) rfl h0 rfl rfl (Nat.le_of_ble_eq_true rfl)) rfl rfl (fun M26 => ?_)
            refine XE.go (st_iinc (j := 4) (n := (-1)) (pc' := 85) (by decide +kernel) rfl rfl (by decide) rfl rfl) ?_
            refine XE.go (st_goto (off := (-69)) (pc' := 16) (by decide +kernel) (by decide)) ?_
            exact XE.pick [2, 3, 4, 5, 0] rfl (hc9 ((w (s7.1 + (-1))), M26))
        · refine XE.go (st_acmp_ne_t (off := 33) (pc' := 82) (by decide +kernel) (by decide) (by decide) h21 (by decide)) ?_
          refine XE.go (st_iinc (j := 4) (n := (-1)) (pc' := 85) (by decide +kernel) rfl rfl (by decide) rfl rfl) ?_
          refine XE.go (st_goto (off := (-69)) (pc' := 16) (by decide +kernel) (by decide)) ?_
          exact XE.pick [2, 3, 4, 5, 0] rfl (hc9 ((w (s7.1 + (-1))), s7.2))
  · exact XE.rt rfl (X_vret (by decide +kernel) rfl)
theorem ct_X0_giveUp {D : Dt} {M : Mm} {a0 a1 a2 a3 : Int} (h0 : a0 ≠ 0) (r : Mm) (hr : p_X0_giveUp M a0 a1 a2 a3 = some r) : CT D 0 mu_X0_giveUp [(4, a0), (12, a1), (7, a2), (0, a3)] M (.inl none) r := CT.of (by decide +kernel) rfl (Nat.le_of_ble_eq_true rfl) (xe_X0_giveUp h0 r hr)
def b_X0_memberCount_13 (v4 : Int) (v1 : Int) (M : Mm) (s6 : Int × Int) : Option ((Int × Int) ⊕ (Int)) := if s6.2 < v4 then gd (aok v1 s6.2) ((some ((rd M v1 s6.2))).bind fun v15 => if v15 = 0 then some (.inl (s6.1, (w (s6.2 + 1)))) else some (.inl ((w (s6.1 + 1)), (w (s6.2 + 1))))) else some (.inr s6.1)
def p_X0_memberCount (M : Mm) (a0 : Int) : Option Int := (some ((rd M a0 1))).bind fun v1 => gd (v1 ≠ 0) ((some ((ln v1))).bind fun v4 => (lp (b_X0_memberCount_13 v4 v1 M) 1000 (0, 0)).bind fun (t7 : Int) => some (t7))
set_option maxRecDepth 100000 in
set_option maxHeartbeats 4000000 in
theorem xe_X0_memberCount {D : Dt} {M : Mm} {a0 : Int} (h0 : a0 ≠ 0) : XE D 0 mu_X0_memberCount (EP 0 M) 0 [(0, (4, a0))] [] M (p_X0_memberCount M a0) := by
  unfold p_X0_memberCount
  refine XE.go (st_iconst (n := 0) (pc' := 1) (by decide +kernel) (w_eq (by decide) (by decide)) rfl) ?_
  refine XE.go (st_istore_n (j := 1) (i := 1) (pc' := 2) (by decide +kernel) rfl rfl (by decide) rfl rfl) ?_
  refine XE.go (st_aload_n (j := 0) (i := 0) (pc' := 3) (by decide +kernel) rfl rfl (by decide) rfl) ?_
  refine XE.go (st_get (pc' := 6) (by decide +kernel) rfl cls_0 fld_RX0_19 rfl rfl h0) ?_
  refine XE.gen (fun v1 e2 => ?_)
  refine XE.go (st_astore_n (j := 2) (i := 2) (pc' := 7) (by decide +kernel) rfl (by decide) rfl (by decide) rfl rfl) ?_
  refine XE.go (st_aload_n (j := 2) (i := 2) (pc' := 8) (by decide +kernel) rfl rfl (by decide) rfl) ?_
  refine XE.gd_ (fun g3 => ?_)
  refine XE.go (st_alen (k := 19) (pc' := 9) (by decide +kernel) rfl ak_19 rfl (by decide) g3) ?_
  refine XE.gen (fun v4 e5 => ?_)
  refine XE.go (st_istore_n (j := 3) (i := 3) (pc' := 10) (by decide +kernel) rfl rfl (by decide) rfl rfl) ?_
  refine XE.go (st_iconst (n := 0) (pc' := 11) (by decide +kernel) (w_eq (by decide) (by decide)) rfl) ?_
  refine XE.go (st_istore (j := 4) (pc' := 13) (by decide +kernel)  rfl (by decide) rfl rfl) ?_
  refine XE.pick [3, 2, 1, 0] (L' := [(1, (0, 0)), (2, (22, v1)), (3, (0, v4)), (4, (0, 0))]) rfl ?_
  refine XE.loopJ (n := 1000) (s0 := (0, 0)) (pcL := 13) (pcE := 39) (LL := fun (s6 : Int × Int) => [(1, (0, s6.1)), (2, (22, v1)), (3, (0, v4)), (4, (0, s6.2))]) (sL := fun _ => []) (ML := fun (s6 : Int × Int) => M) (LE := fun (t7 : Int) => [(1, (0, t7))]) (sE := fun _ => []) (ME := fun (t7 : Int) => M) (fun kk11 hc8 he9 s6 => ?_) (fun t7 => ?_)
  · unfold b_X0_memberCount_13
    refine XE.go (st_iload (j := 4) (pc' := 15) (by decide +kernel) rfl rfl) ?_
    refine XE.go (st_iload_n (j := 3) (i := 3) (pc' := 16) (by decide +kernel) rfl rfl rfl) ?_
    refine XE.bite (fun h12 => ?_) (fun h13 => ?_)
    · refine XE.go (st_icmp_ge_f (off := 23) (pc' := 19) (by decide +kernel) 39 (by decide) rfl (Int.not_le.mpr h12)) ?_
      refine XE.go (st_aload_n (j := 2) (i := 2) (pc' := 20) (by decide +kernel) rfl rfl (by decide) rfl) ?_
      refine XE.go (st_iload (j := 4) (pc' := 22) (by decide +kernel) rfl rfl) ?_
      refine XE.gdb (fun g14 => ?_)
      refine XE.go (st_ald (k := 19) (tp := 7) (pc' := 23) (by decide +kernel) rfl ak_19 rfl (by decide) rfl (Or.inr (Or.inr (Or.inr ⟨rfl, rfl⟩))) g14.1 g14.2.1 g14.2.2) ?_
      refine XE.asc ?_
      refine XE.gen (fun v15 e16 => ?_)
      refine XE.go (st_astore (j := 5) (pc' := 25) (by decide +kernel)  (by decide) rfl (by decide) rfl rfl) ?_
      refine XE.go (st_aload (j := 5) (pc' := 27) (by decide +kernel) rfl (by decide) rfl) ?_
      refine XE.bite (fun h17 => ?_) (fun h18 => ?_)
      · refine XE.go (st_ifnull_t (off := 6) (pc' := 33) (by decide +kernel) (by decide) h17 (by decide)) ?_
        refine XE.go (st_iinc (j := 4) (n := 1) (pc' := 36) (by decide +kernel) rfl rfl (by decide) rfl rfl) ?_
        refine XE.go (st_goto (off := (-23)) (pc' := 13) (by decide +kernel) (by decide)) ?_
        exact XE.pick [2, 3, 4, 0] rfl (hc8 (s6.1, (w (s6.2 + 1))))
      · refine XE.go (st_ifnull_f (off := 6) (pc' := 30) (by decide +kernel) (by decide) h18 rfl) ?_
        refine XE.go (st_iinc (j := 1) (n := 1) (pc' := 33) (by decide +kernel) rfl rfl (by decide) rfl rfl) ?_
        refine XE.go (st_iinc (j := 4) (n := 1) (pc' := 36) (by decide +kernel) rfl rfl (by decide) rfl rfl) ?_
        refine XE.go (st_goto (off := (-23)) (pc' := 13) (by decide +kernel) (by decide)) ?_
        exact XE.pick [1, 3, 4, 0] rfl (hc8 ((w (s6.1 + 1)), (w (s6.2 + 1))))
    · refine XE.go (st_icmp_ge_t (off := 23) (pc' := 39) (by decide +kernel) (by decide) (Int.not_lt.mp h13)) ?_
      exact XE.pick [0] rfl (he9 s6.1)
  · refine XE.go (st_iload_n (j := 1) (i := 1) (pc' := 40) (by decide +kernel) rfl rfl rfl) ?_
    exact XE.rt rfl (X_iret (by decide +kernel) rfl)
theorem ct_X0_memberCount {D : Dt} {M : Mm} {a0 : Int} (h0 : a0 ≠ 0) (r : Int) (hr : p_X0_memberCount M a0 = some r) : CT D 0 mu_X0_memberCount [(4, a0)] M (.inl (some (0, r))) M := CT.of (by decide +kernel) rfl (Nat.le_of_ble_eq_true rfl) (xe_X0_memberCount h0 r hr)
def b_X0_targetCount_14 (v4 : Int) (v1 : Int) (M : Mm) (a1 : Int) (s6 : Int × Int) : Option ((Int × Int) ⊕ (Int)) := if s6.2 < v4 then gd (aok v1 s6.2) ((some ((rd M v1 s6.2))).bind fun v15 => if v15 = 0 then some (.inl (s6.1, (w (s6.2 + 1)))) else if (rd M v15 2) = a1 then some (.inl ((w (s6.1 + 1)), (w (s6.2 + 1)))) else some (.inl (s6.1, (w (s6.2 + 1))))) else some (.inr s6.1)
def p_X0_targetCount (M : Mm) (a0 a1 : Int) : Option Int := (some ((rd M a0 0))).bind fun v1 => gd (v1 ≠ 0) ((some ((ln v1))).bind fun v4 => (lp (b_X0_targetCount_14 v4 v1 M a1) 1000 (0, 0)).bind fun (t7 : Int) => some (t7))
set_option maxRecDepth 100000 in
set_option maxHeartbeats 4000000 in
theorem xe_X0_targetCount {D : Dt} {M : Mm} {a0 a1 : Int} (h0 : a0 ≠ 0) : XE D 0 mu_X0_targetCount (EP 0 M) 0 [(0, (4, a0)), (1, (7, a1))] [] M (p_X0_targetCount M a0 a1) := by
  unfold p_X0_targetCount
  refine XE.go (st_iconst (n := 0) (pc' := 1) (by decide +kernel) (w_eq (by decide) (by decide)) rfl) ?_
  refine XE.go (st_istore_n (j := 2) (i := 2) (pc' := 2) (by decide +kernel) rfl rfl (by decide) rfl rfl) ?_
  refine XE.go (st_aload_n (j := 0) (i := 0) (pc' := 3) (by decide +kernel) rfl rfl (by decide) rfl) ?_
  refine XE.go (st_get (pc' := 6) (by decide +kernel) rfl cls_0 fld_RX0_11 rfl rfl h0) ?_
  refine XE.gen (fun v1 e2 => ?_)
  refine XE.go (st_astore_n (j := 3) (i := 3) (pc' := 7) (by decide +kernel) rfl (by decide) rfl (by decide) rfl rfl) ?_
  refine XE.go (st_aload_n (j := 3) (i := 3) (pc' := 8) (by decide +kernel) rfl rfl (by decide) rfl) ?_
  refine XE.gd_ (fun g3 => ?_)
  refine XE.go (st_alen (k := 24) (pc' := 9) (by decide +kernel) rfl ak_24 rfl (by decide) g3) ?_
  refine XE.gen (fun v4 e5 => ?_)
  refine XE.go (st_istore (j := 4) (pc' := 11) (by decide +kernel)  rfl (by decide) rfl rfl) ?_
  refine XE.go (st_iconst (n := 0) (pc' := 12) (by decide +kernel) (w_eq (by decide) (by decide)) rfl) ?_
  refine XE.go (st_istore (j := 5) (pc' := 14) (by decide +kernel)  rfl (by decide) rfl rfl) ?_
  refine XE.pick [5, 3, 2, 1, 0] (L' := [(1, (7, a1)), (2, (0, 0)), (3, (27, v1)), (4, (0, v4)), (5, (0, 0))]) rfl ?_
  refine XE.loopJ (n := 1000) (s0 := (0, 0)) (pcL := 14) (pcE := 50) (LL := fun (s6 : Int × Int) => [(1, (7, a1)), (2, (0, s6.1)), (3, (27, v1)), (4, (0, v4)), (5, (0, s6.2))]) (sL := fun _ => []) (ML := fun (s6 : Int × Int) => M) (LE := fun (t7 : Int) => [(2, (0, t7))]) (sE := fun _ => []) (ME := fun (t7 : Int) => M) (fun kk11 hc8 he9 s6 => ?_) (fun t7 => ?_)
  · unfold b_X0_targetCount_14
    refine XE.go (st_iload (j := 5) (pc' := 16) (by decide +kernel) rfl rfl) ?_
    refine XE.go (st_iload (j := 4) (pc' := 18) (by decide +kernel) rfl rfl) ?_
    refine XE.bite (fun h12 => ?_) (fun h13 => ?_)
    · refine XE.go (st_icmp_ge_f (off := 32) (pc' := 21) (by decide +kernel) 50 (by decide) rfl (Int.not_le.mpr h12)) ?_
      refine XE.go (st_aload_n (j := 3) (i := 3) (pc' := 22) (by decide +kernel) rfl rfl (by decide) rfl) ?_
      refine XE.go (st_iload (j := 5) (pc' := 24) (by decide +kernel) rfl rfl) ?_
      refine XE.gdb (fun g14 => ?_)
      refine XE.go (st_ald (k := 24) (tp := 12) (pc' := 25) (by decide +kernel) rfl ak_24 rfl (by decide) rfl (Or.inr (Or.inr (Or.inr ⟨rfl, rfl⟩))) g14.1 g14.2.1 g14.2.2) ?_
      refine XE.asc ?_
      refine XE.gen (fun v15 e16 => ?_)
      refine XE.go (st_astore (j := 6) (pc' := 27) (by decide +kernel)  (by decide) rfl (by decide) rfl rfl) ?_
      refine XE.go (st_aload (j := 6) (pc' := 29) (by decide +kernel) rfl (by decide) rfl) ?_
      refine XE.bite (fun h17 => ?_) (fun h18 => ?_)
      · refine XE.go (st_ifnull_t (off := 15) (pc' := 44) (by decide +kernel) (by decide) h17 (by decide)) ?_
        refine XE.go (st_iinc (j := 5) (n := 1) (pc' := 47) (by decide +kernel) rfl rfl (by decide) rfl rfl) ?_
        refine XE.go (st_goto (off := (-33)) (pc' := 14) (by decide +kernel) (by decide)) ?_
        exact XE.pick [2, 3, 4, 5, 0] rfl (hc8 (s6.1, (w (s6.2 + 1))))
      · refine XE.go (st_ifnull_f (off := 15) (pc' := 32) (by decide +kernel) (by decide) h18 rfl) ?_
        refine XE.go (st_aload (j := 6) (pc' := 34) (by decide +kernel) rfl (by decide) rfl) ?_
        refine XE.go (st_get (pc' := 37) (by decide +kernel) rfl cls_8 fld_RX0_80 rfl rfl h18) ?_
        refine XE.go (st_aload_n (j := 1) (i := 1) (pc' := 38) (by decide +kernel) rfl rfl (by decide) rfl) ?_
        refine XE.bite (fun h19 => ?_) (fun h20 => ?_)
        · refine XE.go (st_acmp_ne_f (off := 6) (pc' := 41) (by decide +kernel) 44 (by decide) (by decide) (by decide) h19 rfl) ?_
          refine XE.go (st_iinc (j := 2) (n := 1) (pc' := 44) (by decide +kernel) rfl rfl (by decide) rfl rfl) ?_
          refine XE.go (st_iinc (j := 5) (n := 1) (pc' := 47) (by decide +kernel) rfl rfl (by decide) rfl rfl) ?_
          refine XE.go (st_goto (off := (-33)) (pc' := 14) (by decide +kernel) (by decide)) ?_
          exact XE.pick [3, 1, 4, 5, 0] rfl (hc8 ((w (s6.1 + 1)), (w (s6.2 + 1))))
        · refine XE.go (st_acmp_ne_t (off := 6) (pc' := 44) (by decide +kernel) (by decide) (by decide) h20 (by decide)) ?_
          refine XE.go (st_iinc (j := 5) (n := 1) (pc' := 47) (by decide +kernel) rfl rfl (by decide) rfl rfl) ?_
          refine XE.go (st_goto (off := (-33)) (pc' := 14) (by decide +kernel) (by decide)) ?_
          exact XE.pick [2, 3, 4, 5, 0] rfl (hc8 (s6.1, (w (s6.2 + 1))))
    · refine XE.go (st_icmp_ge_t (off := 32) (pc' := 50) (by decide +kernel) (by decide) (Int.not_lt.mp h13)) ?_
      exact XE.pick [1] rfl (he9 s6.1)
  · refine XE.go (st_iload_n (j := 2) (i := 2) (pc' := 51) (by decide +kernel) rfl rfl rfl) ?_
    exact XE.rt rfl (X_iret (by decide +kernel) rfl)
theorem ct_X0_targetCount {D : Dt} {M : Mm} {a0 a1 : Int} (h0 : a0 ≠ 0) (r : Int) (hr : p_X0_targetCount M a0 a1 = some r) : CT D 0 mu_X0_targetCount [(4, a0), (7, a1)] M (.inl (some (0, r))) M := CT.of (by decide +kernel) rfl (Nat.le_of_ble_eq_true rfl) (xe_X0_targetCount h0 r hr)
def b_X0_rankOf_14 (v4 : Int) (v1 : Int) (M : Mm) (a1 : Int) (s6 : Int × Int) : Option ((Int × Int) ⊕ (Int)) := if s6.2 < v4 then gd (aok v1 s6.2) ((some ((rd M v1 s6.2))).bind fun v15 => if v15 = 0 then some (.inl (s6.1, (w (s6.2 + 1)))) else gd (a1 ≠ 0) (if (rd M a1 5) < (rd M v15 5) then some (.inl ((w (s6.1 + 1)), (w (s6.2 + 1)))) else if (rd M v15 5) = (rd M a1 5) then if (rd M v15 0) < (rd M a1 0) then some (.inl ((w (s6.1 + 1)), (w (s6.2 + 1)))) else some (.inl (s6.1, (w (s6.2 + 1)))) else some (.inl (s6.1, (w (s6.2 + 1)))))) else some (.inr s6.1)
def p_X0_rankOf (M : Mm) (a0 a1 : Int) : Option Int := (some ((rd M a0 1))).bind fun v1 => gd (v1 ≠ 0) ((some ((ln v1))).bind fun v4 => (lp (b_X0_rankOf_14 v4 v1 M a1) 1000 (0, 0)).bind fun (t7 : Int) => some (t7))
set_option maxRecDepth 100000 in
set_option maxHeartbeats 4000000 in
theorem xe_X0_rankOf {D : Dt} {M : Mm} {a0 a1 : Int} (h0 : a0 ≠ 0) : XE D 0 mu_X0_rankOf (EP 0 M) 0 [(0, (4, a0)), (1, (7, a1))] [] M (p_X0_rankOf M a0 a1) := by
  unfold p_X0_rankOf
  refine XE.go (st_iconst (n := 0) (pc' := 1) (by decide +kernel) (w_eq (by decide) (by decide)) rfl) ?_
  refine XE.go (st_istore_n (j := 2) (i := 2) (pc' := 2) (by decide +kernel) rfl rfl (by decide) rfl rfl) ?_
  refine XE.go (st_aload_n (j := 0) (i := 0) (pc' := 3) (by decide +kernel) rfl rfl (by decide) rfl) ?_
  refine XE.go (st_get (pc' := 6) (by decide +kernel) rfl cls_0 fld_RX0_19 rfl rfl h0) ?_
  refine XE.gen (fun v1 e2 => ?_)
  refine XE.go (st_astore_n (j := 3) (i := 3) (pc' := 7) (by decide +kernel) rfl (by decide) rfl (by decide) rfl rfl) ?_
  refine XE.go (st_aload_n (j := 3) (i := 3) (pc' := 8) (by decide +kernel) rfl rfl (by decide) rfl) ?_
  refine XE.gd_ (fun g3 => ?_)
  refine XE.go (st_alen (k := 19) (pc' := 9) (by decide +kernel) rfl ak_19 rfl (by decide) g3) ?_
  refine XE.gen (fun v4 e5 => ?_)
  refine XE.go (st_istore (j := 4) (pc' := 11) (by decide +kernel)  rfl (by decide) rfl rfl) ?_
  refine XE.go (st_iconst (n := 0) (pc' := 12) (by decide +kernel) (w_eq (by decide) (by decide)) rfl) ?_
  refine XE.go (st_istore (j := 5) (pc' := 14) (by decide +kernel)  rfl (by decide) rfl rfl) ?_
  refine XE.pick [5, 3, 2, 1, 0] (L' := [(1, (7, a1)), (2, (0, 0)), (3, (22, v1)), (4, (0, v4)), (5, (0, 0))]) rfl ?_
  refine XE.loopJ (n := 1000) (s0 := (0, 0)) (pcL := 14) (pcE := 77) (LL := fun (s6 : Int × Int) => [(1, (7, a1)), (2, (0, s6.1)), (3, (22, v1)), (4, (0, v4)), (5, (0, s6.2))]) (sL := fun _ => []) (ML := fun (s6 : Int × Int) => M) (LE := fun (t7 : Int) => [(2, (0, t7))]) (sE := fun _ => []) (ME := fun (t7 : Int) => M) (fun kk11 hc8 he9 s6 => ?_) (fun t7 => ?_)
  · unfold b_X0_rankOf_14
    refine XE.go (st_iload (j := 5) (pc' := 16) (by decide +kernel) rfl rfl) ?_
    refine XE.go (st_iload (j := 4) (pc' := 18) (by decide +kernel) rfl rfl) ?_
    refine XE.bite (fun h12 => ?_) (fun h13 => ?_)
    · refine XE.go (st_icmp_ge_f (off := 59) (pc' := 21) (by decide +kernel) 77 (by decide) rfl (Int.not_le.mpr h12)) ?_
      refine XE.go (st_aload_n (j := 3) (i := 3) (pc' := 22) (by decide +kernel) rfl rfl (by decide) rfl) ?_
      refine XE.go (st_iload (j := 5) (pc' := 24) (by decide +kernel) rfl rfl) ?_
      refine XE.gdb (fun g14 => ?_)
      refine XE.go (st_ald (k := 19) (tp := 7) (pc' := 25) (by decide +kernel) rfl ak_19 rfl (by decide) rfl (Or.inr (Or.inr (Or.inr ⟨rfl, rfl⟩))) g14.1 g14.2.1 g14.2.2) ?_
      refine XE.asc ?_
      refine XE.gen (fun v15 e16 => ?_)
      refine XE.go (st_astore (j := 6) (pc' := 27) (by decide +kernel)  (by decide) rfl (by decide) rfl rfl) ?_
      refine XE.go (st_aload (j := 6) (pc' := 29) (by decide +kernel) rfl (by decide) rfl) ?_
      refine XE.bite (fun h17 => ?_) (fun h18 => ?_)
      · refine XE.go (st_ifnull_t (off := 42) (pc' := 71) (by decide +kernel) (by decide) h17 (by decide)) ?_
        refine XE.go (st_iinc (j := 5) (n := 1) (pc' := 74) (by decide +kernel) rfl rfl (by decide) rfl rfl) ?_
        refine XE.go (st_goto (off := (-60)) (pc' := 14) (by decide +kernel) (by decide)) ?_
        exact XE.pick [2, 3, 4, 5, 0] rfl (hc8 (s6.1, (w (s6.2 + 1))))
      · refine XE.go (st_ifnull_f (off := 42) (pc' := 32) (by decide +kernel) (by decide) h18 rfl) ?_
        refine XE.go (st_aload (j := 6) (pc' := 34) (by decide +kernel) rfl (by decide) rfl) ?_
        refine XE.go (st_get (pc' := 37) (by decide +kernel) rfl cls_3 fld_RX0_114 rfl rfl h18) ?_
        refine XE.go (st_aload_n (j := 1) (i := 1) (pc' := 38) (by decide +kernel) rfl rfl (by decide) rfl) ?_
        refine XE.gdb (fun g19 => ?_)
        refine XE.go (st_get (pc' := 41) (by decide +kernel) rfl cls_3 fld_RX0_114 rfl rfl g19) ?_
        refine XE.bite (fun h20 => ?_) (fun h21 => ?_)
        · refine XE.go (st_icmp_gt_t (off := 27) (pc' := 68) (by decide +kernel) (by decide) h20) ?_
          refine XE.go (st_iinc (j := 2) (n := 1) (pc' := 71) (by decide +kernel) rfl rfl (by decide) rfl rfl) ?_
          refine XE.go (st_iinc (j := 5) (n := 1) (pc' := 74) (by decide +kernel) rfl rfl (by decide) rfl rfl) ?_
          refine XE.go (st_goto (off := (-60)) (pc' := 14) (by decide +kernel) (by decide)) ?_
          exact XE.pick [3, 1, 4, 5, 0] rfl (hc8 ((w (s6.1 + 1)), (w (s6.2 + 1))))
        · refine XE.go (st_icmp_gt_f (off := 27) (pc' := 44) (by decide +kernel) 68 (by decide) rfl h21) ?_
          refine XE.go (st_aload (j := 6) (pc' := 46) (by decide +kernel) rfl (by decide) rfl) ?_
          refine XE.go (st_get (pc' := 49) (by decide +kernel) rfl cls_3 fld_RX0_114 rfl rfl h18) ?_
          refine XE.go (st_aload_n (j := 1) (i := 1) (pc' := 50) (by decide +kernel) rfl rfl (by decide) rfl) ?_
          refine XE.go (st_get (pc' := 53) (by decide +kernel) rfl cls_3 fld_RX0_114 rfl rfl g19) ?_
          refine XE.bite (fun h22 => ?_) (fun h23 => ?_)
          · refine XE.go (st_icmp_ne_f (off := 18) (pc' := 56) (by decide +kernel) 71 (by decide) rfl (not_not_intro h22)) ?_
            refine XE.go (st_aload (j := 6) (pc' := 58) (by decide +kernel) rfl (by decide) rfl) ?_
            refine XE.go (st_get (pc' := 61) (by decide +kernel) rfl cls_3 fld_RX0_75 rfl rfl h18) ?_
            refine XE.go (st_aload_n (j := 1) (i := 1) (pc' := 62) (by decide +kernel) rfl rfl (by decide) rfl) ?_
            refine XE.go (st_get (pc' := 65) (by decide +kernel) rfl cls_3 fld_RX0_75 rfl rfl g19) ?_
            refine XE.bite (fun h24 => ?_) (fun h25 => ?_)
            · refine XE.go (st_icmp_ge_f (off := 6) (pc' := 68) (by decide +kernel) 71 (by decide) rfl (Int.not_le.mpr h24)) ?_
              refine XE.go (st_iinc (j := 2) (n := 1) (pc' := 71) (by decide +kernel) rfl rfl (by decide) rfl rfl) ?_
              refine XE.go (st_iinc (j := 5) (n := 1) (pc' := 74) (by decide +kernel) rfl rfl (by decide) rfl rfl) ?_
              refine XE.go (st_goto (off := (-60)) (pc' := 14) (by decide +kernel) (by decide)) ?_
              exact XE.pick [3, 1, 4, 5, 0] rfl (hc8 ((w (s6.1 + 1)), (w (s6.2 + 1))))
            · refine XE.go (st_icmp_ge_t (off := 6) (pc' := 71) (by decide +kernel) (by decide) (Int.not_lt.mp h25)) ?_
              refine XE.go (st_iinc (j := 5) (n := 1) (pc' := 74) (by decide +kernel) rfl rfl (by decide) rfl rfl) ?_
              refine XE.go (st_goto (off := (-60)) (pc' := 14) (by decide +kernel) (by decide)) ?_
              exact XE.pick [2, 3, 4, 5, 0] rfl (hc8 (s6.1, (w (s6.2 + 1))))
          · refine XE.go (st_icmp_ne_t (off := 18) (pc' := 71) (by decide +kernel) (by decide) h23) ?_
            refine XE.go (st_iinc (j := 5) (n := 1) (pc' := 74) (by decide +kernel) rfl rfl (by decide) rfl rfl) ?_
            refine XE.go (st_goto (off := (-60)) (pc' := 14) (by decide +kernel) (by decide)) ?_
            exact XE.pick [2, 3, 4, 5, 0] rfl (hc8 (s6.1, (w (s6.2 + 1))))
    · refine XE.go (st_icmp_ge_t (off := 59) (pc' := 77) (by decide +kernel) (by decide) (Int.not_lt.mp h13)) ?_
      exact XE.pick [1] rfl (he9 s6.1)
  · refine XE.go (st_iload_n (j := 2) (i := 2) (pc' := 78) (by decide +kernel) rfl rfl rfl) ?_
    exact XE.rt rfl (X_iret (by decide +kernel) rfl)
theorem ct_X0_rankOf {D : Dt} {M : Mm} {a0 a1 : Int} (h0 : a0 ≠ 0) (r : Int) (hr : p_X0_rankOf M a0 a1 = some r) : CT D 0 mu_X0_rankOf [(4, a0), (7, a1)] M (.inl (some (0, r))) M := CT.of (by decide +kernel) rfl (Nat.le_of_ble_eq_true rfl) (xe_X0_rankOf h0 r hr)
def b_X0_setFairShares_69 (v29 : Int) (v26 : Int) (a1 : Int) (a0 : Int) (v24 : Int) (s31 : Int × Mm) : Option ((Int × Mm) ⊕ (Mm)) := if s31.1 < v29 then gd (aok v26 s31.1) ((some ((rd s31.2 v26 s31.1))).bind fun v40 => if v40 = 0 then some (.inl ((w (s31.1 + 1)), s31.2)) else gd (a1 ≠ 0) ((p_X0_rankOf s31.2 a0 v40).bind fun r45 => if r45 < v24 then (some (wr s31.2 v40 6 (w ((idv (rd s31.2 a0 8) a1) + 1)))).bind fun M48 => some (.inl ((w (s31.1 + 1)), M48)) else (some (wr s31.2 v40 6 (w ((idv (rd s31.2 a0 8) a1) + 0)))).bind fun M49 => some (.inl ((w (s31.1 + 1)), M49)))) else some (.inr s31.2)
def b_X0_setFairShares_16 (v6 : Int) (v3 : Int) (a0 : Int) (s8 : Int × Mm) : Option ((Int × Mm) ⊕ (Mm)) := if s8.1 < v6 then gd (aok v3 s8.1) ((some ((rd s8.2 v3 s8.1))).bind fun v17 => if v17 = 0 then some (.inl ((w (s8.1 + 1)), s8.2)) else (p_X0_targetCount s8.2 a0 v17).bind fun r21 => (some (wr s8.2 v17 5 r21)).bind fun M22 => some (.inl ((w (s8.1 + 1)), M22))) else some (.inr s8.2)
def p_X0_setFairShares (M : Mm) (a0 a1 : Int) : Option Mm := if 0 < a1 then (some ((rd M a0 1))).bind fun v3 => gd (v3 ≠ 0) ((some ((ln v3))).bind fun v6 => (lp (b_X0_setFairShares_16 v6 v3 a0) 1000 (0, M)).bind fun (t9 : Mm) => gd (a1 ≠ 0) ((some ((irm (rd t9 a0 8) a1))).bind fun v24 => (some ((rd t9 a0 1))).bind fun v26 => gd (v26 ≠ 0) ((some ((ln v26))).bind fun v29 => (lp (b_X0_setFairShares_69 v29 v26 a1 a0 v24) 1000 (0, t9)).bind fun (t32 : Mm) => some (t32)))) else some (M)
set_option maxRecDepth 100000 in
set_option maxHeartbeats 4000000 in
theorem xe_X0_setFairShares {D : Dt} {M : Mm} {a0 a1 : Int} (h0 : a0 ≠ 0) : XE D 0 mu_X0_setFairShares EV 0 [(0, (4, a0)), (1, (0, a1))] [] M (p_X0_setFairShares M a0 a1) := by
  unfold p_X0_setFairShares
  refine XE.go (st_iload_n (j := 1) (i := 1) (pc' := 1) (by decide +kernel) rfl rfl rfl) ?_
  refine XE.ite (fun h1 => ?_) (fun h2 => ?_)
  · refine XE.go (st_if_gt_t (off := 4) (pc' := 5) (by decide +kernel) (by decide) h1) ?_
    refine XE.go (st_aload_n (j := 0) (i := 0) (pc' := 6) (by decide +kernel) rfl rfl (by decide) rfl) ?_
    refine XE.go (st_get (pc' := 9) (by decide +kernel) rfl cls_0 fld_RX0_19 rfl rfl h0) ?_
    refine XE.gen (fun v3 e4 => ?_)
    refine XE.go (st_astore_n (j := 2) (i := 2) (pc' := 10) (by decide +kernel) rfl (by decide) rfl (by decide) rfl rfl) ?_
    refine XE.go (st_aload_n (j := 2) (i := 2) (pc' := 11) (by decide +kernel) rfl rfl (by decide) rfl) ?_
    refine XE.gd_ (fun g5 => ?_)
    refine XE.go (st_alen (k := 19) (pc' := 12) (by decide +kernel) rfl ak_19 rfl (by decide) g5) ?_
    refine XE.gen (fun v6 e7 => ?_)
    refine XE.go (st_istore_n (j := 3) (i := 3) (pc' := 13) (by decide +kernel) rfl rfl (by decide) rfl rfl) ?_
    refine XE.go (st_iconst (n := 0) (pc' := 14) (by decide +kernel) (w_eq (by decide) (by decide)) rfl) ?_
    refine XE.go (st_istore (j := 4) (pc' := 16) (by decide +kernel)  rfl (by decide) rfl rfl) ?_
    refine XE.pick [3, 4, 2, 1, 0] (L' := [(0, (4, a0)), (1, (0, a1)), (2, (22, v3)), (3, (0, v6)), (4, (0, 0))]) rfl ?_
    refine XE.loopJ (n := 1000) (s0 := (0, M)) (pcL := 16) (pcE := 50) (LL := fun (s8 : Int × Mm) => [(0, (4, a0)), (1, (0, a1)), (2, (22, v3)), (3, (0, v6)), (4, (0, s8.1))]) (sL := fun _ => []) (ML := fun (s8 : Int × Mm) => s8.2) (LE := fun (t9 : Mm) => [(0, (4, a0)), (1, (0, a1))]) (sE := fun _ => []) (ME := fun (t9 : Mm) => t9) (fun kk13 hc10 he11 s8 => ?_) (fun t9 => ?_)
    · unfold b_X0_setFairShares_16
      refine XE.go (st_iload (j := 4) (pc' := 18) (by decide +kernel) rfl rfl) ?_
      refine XE.go (st_iload_n (j := 3) (i := 3) (pc' := 19) (by decide +kernel) rfl rfl rfl) ?_
      refine XE.bite (fun h14 => ?_) (fun h15 => ?_)
      · refine XE.go (st_icmp_ge_f (off := 31) (pc' := 22) (by decide +kernel) 50 (by decide) rfl (Int.not_le.mpr h14)) ?_
        refine XE.go (st_aload_n (j := 2) (i := 2) (pc' := 23) (by decide +kernel) rfl rfl (by decide) rfl) ?_
        refine XE.go (st_iload (j := 4) (pc' := 25) (by decide +kernel) rfl rfl) ?_
        refine XE.gdb (fun g16 => ?_)
        refine XE.go (st_ald (k := 19) (tp := 7) (pc' := 26) (by decide +kernel) rfl ak_19 rfl (by decide) rfl (Or.inr (Or.inr (Or.inr ⟨rfl, rfl⟩))) g16.1 g16.2.1 g16.2.2) ?_
        refine XE.asc ?_
        refine XE.gen (fun v17 e18 => ?_)
        refine XE.go (st_astore (j := 5) (pc' := 28) (by decide +kernel)  (by decide) rfl (by decide) rfl rfl) ?_
        refine XE.go (st_aload (j := 5) (pc' := 30) (by decide +kernel) rfl (by decide) rfl) ?_
        refine XE.bite (fun h19 => ?_) (fun h20 => ?_)
        · refine XE.go (st_ifnull_t (off := 14) (pc' := 44) (by decide +kernel) (by decide) h19 (by decide)) ?_
          refine XE.go (st_iinc (j := 4) (n := 1) (pc' := 47) (by decide +kernel) rfl rfl (by decide) rfl rfl) ?_
          refine XE.go (st_goto (off := (-31)) (pc' := 16) (by decide +kernel) (by decide)) ?_
          exact XE.pick [2, 3, 4, 5, 0] rfl (hc10 ((w (s8.1 + 1)), s8.2))
        · refine XE.go (st_ifnull_f (off := 14) (pc' := 33) (by decide +kernel) (by decide) h20 rfl) ?_
          refine XE.go (st_aload (j := 5) (pc' := 35) (by decide +kernel) rfl (by decide) rfl) ?_
          refine XE.go (st_aload_n (j := 0) (i := 0) (pc' := 36) (by decide +kernel) rfl rfl (by decide) rfl) ?_
          refine XE.go (st_aload (j := 5) (pc' := 38) (by decide +kernel) rfl (by decide) rfl) ?_
          refine XE.asc ?_
          refine XE.cP (pc' := 41) (st := [(7, v17)]) (fun r hr => ct_X0_targetCount h0 r hr) (fun r hr => run_V (st := [(7, v17)]) (by decide +kernel) co_X0_setFairShares_117 (ct_X0_targetCount h0 r hr) rfl h0 rfl rfl (Nat.le_of_ble_eq_true rfl)) rfl rfl (fun r21 => ?_)
          refine XE.asc ?_
          refine XE.goM (st_put (pc' := 44) (by decide +kernel) rfl cls_3 fld_RX0_114 rfl rfl (fun h => absurd h (by decide)) (fun h => nomatch h) h20) (fun M22 => ?_)
          refine XE.go (st_iinc (j := 4) (n := 1) (pc' := 47) (by decide +kernel) rfl rfl (by decide) rfl rfl) ?_
          refine XE.go (st_goto (off := (-31)) (pc' := 16) (by decide +kernel) (by decide)) ?_
          exact XE.pick [2, 3, 4, 5, 0] rfl (hc10 ((w (s8.1 + 1)), M22))
      · refine XE.go (st_icmp_ge_t (off := 31) (pc' := 50) (by decide +kernel) (by decide) (Int.not_lt.mp h15)) ?_
        exact XE.pick [0, 1] rfl (he11 s8.2)
    · refine XE.go (st_aload_n (j := 0) (i := 0) (pc' := 51) (by decide +kernel) rfl rfl (by decide) rfl) ?_
      refine XE.go (st_get (pc' := 54) (by decide +kernel) rfl cls_0 fld_RX0_51 rfl rfl h0) ?_
      refine XE.go (st_iload_n (j := 1) (i := 1) (pc' := 55) (by decide +kernel) rfl rfl rfl) ?_
      refine XE.gd_ (fun g23 => ?_)
      refine XE.go (st_irem (pc' := 56) (by decide +kernel) g23 rfl) ?_
      refine XE.gen (fun v24 e25 => ?_)
      refine XE.go (st_istore_n (j := 2) (i := 2) (pc' := 57) (by decide +kernel) rfl rfl (by decide) rfl rfl) ?_
      refine XE.go (st_aload_n (j := 0) (i := 0) (pc' := 58) (by decide +kernel) rfl rfl (by decide) rfl) ?_
      refine XE.go (st_get (pc' := 61) (by decide +kernel) rfl cls_0 fld_RX0_19 rfl rfl h0) ?_
      refine XE.gen (fun v26 e27 => ?_)
      refine XE.go (st_astore_n (j := 3) (i := 3) (pc' := 62) (by decide +kernel) rfl (by decide) rfl (by decide) rfl rfl) ?_
      refine XE.go (st_aload_n (j := 3) (i := 3) (pc' := 63) (by decide +kernel) rfl rfl (by decide) rfl) ?_
      refine XE.gd_ (fun g28 => ?_)
      refine XE.go (st_alen (k := 19) (pc' := 64) (by decide +kernel) rfl ak_19 rfl (by decide) g28) ?_
      refine XE.gen (fun v29 e30 => ?_)
      refine XE.go (st_istore (j := 4) (pc' := 66) (by decide +kernel)  rfl (by decide) rfl rfl) ?_
      refine XE.go (st_iconst (n := 0) (pc' := 67) (by decide +kernel) (w_eq (by decide) (by decide)) rfl) ?_
      refine XE.go (st_istore (j := 5) (pc' := 69) (by decide +kernel)  rfl (by decide) rfl rfl) ?_
      refine XE.pick [4, 5, 3, 2, 1, 0] (L' := [(0, (4, a0)), (1, (0, a1)), (2, (0, v24)), (3, (22, v26)), (4, (0, v29)), (5, (0, 0))]) rfl ?_
      refine XE.loopJ (n := 1000) (s0 := (0, t9)) (pcL := 69) (pcE := 120) (LL := fun (s31 : Int × Mm) => [(0, (4, a0)), (1, (0, a1)), (2, (0, v24)), (3, (22, v26)), (4, (0, v29)), (5, (0, s31.1))]) (sL := fun _ => []) (ML := fun (s31 : Int × Mm) => s31.2) (LE := fun (t32 : Mm) => []) (sE := fun _ => []) (ME := fun (t32 : Mm) => t32) (fun kk36 hc33 he34 s31 => ?_) (fun t32 => ?_)
      · unfold b_X0_setFairShares_69
        refine XE.go (st_iload (j := 5) (pc' := 71) (by decide +kernel) rfl rfl) ?_
        refine XE.go (st_iload (j := 4) (pc' := 73) (by decide +kernel) rfl rfl) ?_
        refine XE.bite (fun h37 => ?_) (fun h38 => ?_)
        · refine XE.go (st_icmp_ge_f (off := 47) (pc' := 76) (by decide +kernel) 120 (by decide) rfl (Int.not_le.mpr h37)) ?_
          refine XE.go (st_aload_n (j := 3) (i := 3) (pc' := 77) (by decide +kernel) rfl rfl (by decide) rfl) ?_
          refine XE.go (st_iload (j := 5) (pc' := 79) (by decide +kernel) rfl rfl) ?_
          refine XE.gdb (fun g39 => ?_)
          refine XE.go (st_ald (k := 19) (tp := 7) (pc' := 80) (by decide +kernel) rfl ak_19 rfl (by decide) rfl (Or.inr (Or.inr (Or.inr ⟨rfl, rfl⟩))) g39.1 g39.2.1 g39.2.2) ?_
          refine XE.asc ?_
          refine XE.gen (fun v40 e41 => ?_)
          refine XE.go (st_astore (j := 6) (pc' := 82) (by decide +kernel)  (by decide) rfl (by decide) rfl rfl) ?_
          refine XE.go (st_aload (j := 6) (pc' := 84) (by decide +kernel) rfl (by decide) rfl) ?_
          refine XE.bite (fun h42 => ?_) (fun h43 => ?_)
          · refine XE.go (st_ifnull_t (off := 30) (pc' := 114) (by decide +kernel) (by decide) h42 (by decide)) ?_
            refine XE.go (st_iinc (j := 5) (n := 1) (pc' := 117) (by decide +kernel) rfl rfl (by decide) rfl rfl) ?_
            refine XE.go (st_goto (off := (-48)) (pc' := 69) (by decide +kernel) (by decide)) ?_
            exact XE.pick [2, 3, 4, 5, 6, 0] rfl (hc33 ((w (s31.1 + 1)), s31.2))
          · refine XE.go (st_ifnull_f (off := 30) (pc' := 87) (by decide +kernel) (by decide) h43 rfl) ?_
            refine XE.go (st_aload (j := 6) (pc' := 89) (by decide +kernel) rfl (by decide) rfl) ?_
            refine XE.go (st_aload_n (j := 0) (i := 0) (pc' := 90) (by decide +kernel) rfl rfl (by decide) rfl) ?_
            refine XE.go (st_get (pc' := 93) (by decide +kernel) rfl cls_0 fld_RX0_51 rfl rfl h0) ?_
            refine XE.go (st_iload_n (j := 1) (i := 1) (pc' := 94) (by decide +kernel) rfl rfl rfl) ?_
            refine XE.gdb (fun g44 => ?_)
            refine XE.go (st_idiv (pc' := 95) (by decide +kernel) g44 rfl) ?_
            refine XE.go (st_aload_n (j := 0) (i := 0) (pc' := 96) (by decide +kernel) rfl rfl (by decide) rfl) ?_
            refine XE.go (st_aload (j := 6) (pc' := 98) (by decide +kernel) rfl (by decide) rfl) ?_
            refine XE.asc ?_
            refine XE.cP (pc' := 101) (st := [(0, (idv (rd s31.2 a0 8) a1)), (7, v40)]) (fun r hr => ct_X0_rankOf h0 r hr) (fun r hr => run_V (st := [(0, (idv (rd s31.2 a0 8) a1)), (7, v40)]) (by decide +kernel) co_X0_setFairShares_121 (ct_X0_rankOf h0 r hr) rfl h0 rfl rfl (Nat.le_of_ble_eq_true rfl)) rfl rfl (fun r45 => ?_)
            refine XE.go (st_iload_n (j := 2) (i := 2) (pc' := 102) (by decide +kernel) rfl rfl rfl) ?_
            refine XE.bite (fun h46 => ?_) (fun h47 => ?_)
            · refine XE.go (st_icmp_ge_f (off := 7) (pc' := 105) (by decide +kernel) 109 (by decide) rfl (Int.not_le.mpr h46)) ?_
              refine XE.go (st_iconst (n := 1) (pc' := 106) (by decide +kernel) (w_eq (by decide) (by decide)) rfl) ?_
              refine XE.go (st_goto (off := 4) (pc' := 110) (by decide +kernel) (by decide)) ?_
              refine XE.go (st_iadd (pc' := 111) (by decide +kernel) rfl) ?_
              refine XE.asc ?_
              refine XE.goM (st_put (pc' := 114) (by decide +kernel) rfl cls_3 fld_RX0_124 rfl rfl (fun h => absurd h (by decide)) (fun h => nomatch h) h43) (fun M48 => ?_)
              refine XE.go (st_iinc (j := 5) (n := 1) (pc' := 117) (by decide +kernel) rfl rfl (by decide) rfl rfl) ?_
              refine XE.go (st_goto (off := (-48)) (pc' := 69) (by decide +kernel) (by decide)) ?_
              exact XE.pick [2, 3, 4, 5, 6, 0] rfl (hc33 ((w (s31.1 + 1)), M48))
            · refine XE.go (st_icmp_ge_t (off := 7) (pc' := 109) (by decide +kernel) (by decide) (Int.not_lt.mp h47)) ?_
              refine XE.go (st_iconst (n := 0) (pc' := 110) (by decide +kernel) (w_eq (by decide) (by decide)) rfl) ?_
              refine XE.go (st_iadd (pc' := 111) (by decide +kernel) rfl) ?_
              refine XE.asc ?_
              refine XE.goM (st_put (pc' := 114) (by decide +kernel) rfl cls_3 fld_RX0_124 rfl rfl (fun h => absurd h (by decide)) (fun h => nomatch h) h43) (fun M49 => ?_)
              refine XE.go (st_iinc (j := 5) (n := 1) (pc' := 117) (by decide +kernel) rfl rfl (by decide) rfl rfl) ?_
              refine XE.go (st_goto (off := (-48)) (pc' := 69) (by decide +kernel) (by decide)) ?_
              exact XE.pick [2, 3, 4, 5, 6, 0] rfl (hc33 ((w (s31.1 + 1)), M49))
        · refine XE.go (st_icmp_ge_t (off := 47) (pc' := 120) (by decide +kernel) (by decide) (Int.not_lt.mp h38)) ?_
          exact XE.pick [] rfl (he34 s31.2)
      · exact XE.rt rfl (X_vret (by decide +kernel) rfl)
  · refine XE.go (st_if_gt_f (off := 4) (pc' := 4) (by decide +kernel) 5 (by decide) rfl h2) ?_
    exact XE.rt rfl (X_vret (by decide +kernel) rfl)
theorem ct_X0_setFairShares {D : Dt} {M : Mm} {a0 a1 : Int} (h0 : a0 ≠ 0) (r : Mm) (hr : p_X0_setFairShares M a0 a1 = some r) : CT D 0 mu_X0_setFairShares [(4, a0), (0, a1)] M (.inl none) r := CT.of (by decide +kernel) rfl (Nat.le_of_ble_eq_true rfl) (xe_X0_setFairShares h0 r hr)
def b_X0_dropSurplus_47 (v23 : Int) (v20 : Int) (a0 : Int) (s25 : Int × Mm) : Option ((Int × Mm) ⊕ (Mm)) := if s25.1 < v23 then gd (aok v20 s25.1) ((some ((rd s25.2 v20 s25.1))).bind fun v34 => if v34 = 0 then some (.inl ((w (s25.1 + 1)), s25.2)) else if (rd s25.2 v34 2) = 0 then some (.inl ((w (s25.1 + 1)), s25.2)) else if (rd s25.2 (rd s25.2 v34 2) 5) < (rd s25.2 (rd s25.2 v34 2) 6) then (some (wr s25.2 (rd s25.2 v34 2) 5 (w ((rd s25.2 (rd s25.2 v34 2) 5) + 1)))).bind fun M42 => some (.inl ((w (s25.1 + 1)), M42)) else (some (wr s25.2 v34 2 0)).bind fun M43 => (some (wr M43 a0 7 (w ((rd M43 a0 7) + 1)))).bind fun M44 => some (.inl ((w (s25.1 + 1)), M44))) else some (.inr s25.2)
def b_X0_dropSurplus_10 (v4 : Int) (v1 : Int) (s6 : Int × Mm) : Option ((Int × Mm) ⊕ (Mm)) := if s6.1 < v4 then gd (aok v1 s6.1) ((some ((rd s6.2 v1 s6.1))).bind fun v15 => if v15 = 0 then some (.inl ((w (s6.1 + 1)), s6.2)) else (some (wr s6.2 v15 5 0)).bind fun M19 => some (.inl ((w (s6.1 + 1)), M19))) else some (.inr s6.2)
def p_X0_dropSurplus (M : Mm) (a0 : Int) : Option Mm := (some ((rd M a0 1))).bind fun v1 => gd (v1 ≠ 0) ((some ((ln v1))).bind fun v4 => (lp (b_X0_dropSurplus_10 v4 v1) 1000 (0, M)).bind fun (t7 : Mm) => (some ((rd t7 a0 0))).bind fun v20 => gd (v20 ≠ 0) ((some ((ln v20))).bind fun v23 => (lp (b_X0_dropSurplus_47 v23 v20 a0) 1000 (0, t7)).bind fun (t26 : Mm) => some (t26)))
set_option maxRecDepth 100000 in
set_option maxHeartbeats 4000000 in
theorem xe_X0_dropSurplus {D : Dt} {M : Mm} {a0 : Int} (h0 : a0 ≠ 0) : XE D 0 mu_X0_dropSurplus EV 0 [(0, (4, a0))] [] M (p_X0_dropSurplus M a0) := by
  unfold p_X0_dropSurplus
  refine XE.go (st_aload_n (j := 0) (i := 0) (pc' := 1) (by decide +kernel) rfl rfl (by decide) rfl) ?_
  refine XE.go (st_get (pc' := 4) (by decide +kernel) rfl cls_0 fld_RX0_19 rfl rfl h0) ?_
  refine XE.gen (fun v1 e2 => ?_)
  refine XE.go (st_astore_n (j := 1) (i := 1) (pc' := 5) (by decide +kernel) rfl (by decide) rfl (by decide) rfl rfl) ?_
  refine XE.go (st_aload_n (j := 1) (i := 1) (pc' := 6) (by decide +kernel) rfl rfl (by decide) rfl) ?_
  refine XE.gd_ (fun g3 => ?_)
  refine XE.go (st_alen (k := 19) (pc' := 7) (by decide +kernel) rfl ak_19 rfl (by decide) g3) ?_
  refine XE.gen (fun v4 e5 => ?_)
  refine XE.go (st_istore_n (j := 2) (i := 2) (pc' := 8) (by decide +kernel) rfl rfl (by decide) rfl rfl) ?_
  refine XE.go (st_iconst (n := 0) (pc' := 9) (by decide +kernel) (w_eq (by decide) (by decide)) rfl) ?_
  refine XE.go (st_istore_n (j := 3) (i := 3) (pc' := 10) (by decide +kernel) rfl rfl (by decide) rfl rfl) ?_
  refine XE.pick [3, 2, 1, 0] (L' := [(0, (4, a0)), (1, (22, v1)), (2, (0, v4)), (3, (0, 0))]) rfl ?_
  refine XE.loopJ (n := 1000) (s0 := (0, M)) (pcL := 10) (pcE := 37) (LL := fun (s6 : Int × Mm) => [(0, (4, a0)), (1, (22, v1)), (2, (0, v4)), (3, (0, s6.1))]) (sL := fun _ => []) (ML := fun (s6 : Int × Mm) => s6.2) (LE := fun (t7 : Mm) => [(0, (4, a0))]) (sE := fun _ => []) (ME := fun (t7 : Mm) => t7) (fun kk11 hc8 he9 s6 => ?_) (fun t7 => ?_)
  · unfold b_X0_dropSurplus_10
    refine XE.go (st_iload_n (j := 3) (i := 3) (pc' := 11) (by decide +kernel) rfl rfl rfl) ?_
    refine XE.go (st_iload_n (j := 2) (i := 2) (pc' := 12) (by decide +kernel) rfl rfl rfl) ?_
    refine XE.bite (fun h12 => ?_) (fun h13 => ?_)
    · refine XE.go (st_icmp_ge_f (off := 25) (pc' := 15) (by decide +kernel) 37 (by decide) rfl (Int.not_le.mpr h12)) ?_
      refine XE.go (st_aload_n (j := 1) (i := 1) (pc' := 16) (by decide +kernel) rfl rfl (by decide) rfl) ?_
      refine XE.go (st_iload_n (j := 3) (i := 3) (pc' := 17) (by decide +kernel) rfl rfl rfl) ?_
      refine XE.gdb (fun g14 => ?_)
      refine XE.go (st_ald (k := 19) (tp := 7) (pc' := 18) (by decide +kernel) rfl ak_19 rfl (by decide) rfl (Or.inr (Or.inr (Or.inr ⟨rfl, rfl⟩))) g14.1 g14.2.1 g14.2.2) ?_
      refine XE.asc ?_
      refine XE.gen (fun v15 e16 => ?_)
      refine XE.go (st_astore (j := 4) (pc' := 20) (by decide +kernel)  (by decide) rfl (by decide) rfl rfl) ?_
      refine XE.go (st_aload (j := 4) (pc' := 22) (by decide +kernel) rfl (by decide) rfl) ?_
      refine XE.bite (fun h17 => ?_) (fun h18 => ?_)
      · refine XE.go (st_ifnull_t (off := 9) (pc' := 31) (by decide +kernel) (by decide) h17 (by decide)) ?_
        refine XE.go (st_iinc (j := 3) (n := 1) (pc' := 34) (by decide +kernel) rfl rfl (by decide) rfl rfl) ?_
        refine XE.go (st_goto (off := (-24)) (pc' := 10) (by decide +kernel) (by decide)) ?_
        exact XE.pick [2, 3, 4, 0] rfl (hc8 ((w (s6.1 + 1)), s6.2))
      · refine XE.go (st_ifnull_f (off := 9) (pc' := 25) (by decide +kernel) (by decide) h18 rfl) ?_
        refine XE.go (st_aload (j := 4) (pc' := 27) (by decide +kernel) rfl (by decide) rfl) ?_
        refine XE.go (st_iconst (n := 0) (pc' := 28) (by decide +kernel) (w_eq (by decide) (by decide)) rfl) ?_
        refine XE.asc ?_
        refine XE.goM (st_put (pc' := 31) (by decide +kernel) rfl cls_3 fld_RX0_114 rfl rfl (fun h => absurd h (by decide)) (fun h => nomatch h) h18) (fun M19 => ?_)
        refine XE.go (st_iinc (j := 3) (n := 1) (pc' := 34) (by decide +kernel) rfl rfl (by decide) rfl rfl) ?_
        refine XE.go (st_goto (off := (-24)) (pc' := 10) (by decide +kernel) (by decide)) ?_
        exact XE.pick [2, 3, 4, 0] rfl (hc8 ((w (s6.1 + 1)), M19))
    · refine XE.go (st_icmp_ge_t (off := 25) (pc' := 37) (by decide +kernel) (by decide) (Int.not_lt.mp h13)) ?_
      exact XE.pick [0] rfl (he9 s6.2)
  · refine XE.go (st_aload_n (j := 0) (i := 0) (pc' := 38) (by decide +kernel) rfl rfl (by decide) rfl) ?_
    refine XE.go (st_get (pc' := 41) (by decide +kernel) rfl cls_0 fld_RX0_11 rfl rfl h0) ?_
    refine XE.gen (fun v20 e21 => ?_)
    refine XE.go (st_astore_n (j := 1) (i := 1) (pc' := 42) (by decide +kernel) rfl (by decide) rfl (by decide) rfl rfl) ?_
    refine XE.go (st_aload_n (j := 1) (i := 1) (pc' := 43) (by decide +kernel) rfl rfl (by decide) rfl) ?_
    refine XE.gd_ (fun g22 => ?_)
    refine XE.go (st_alen (k := 24) (pc' := 44) (by decide +kernel) rfl ak_24 rfl (by decide) g22) ?_
    refine XE.gen (fun v23 e24 => ?_)
    refine XE.go (st_istore_n (j := 2) (i := 2) (pc' := 45) (by decide +kernel) rfl rfl (by decide) rfl rfl) ?_
    refine XE.go (st_iconst (n := 0) (pc' := 46) (by decide +kernel) (w_eq (by decide) (by decide)) rfl) ?_
    refine XE.go (st_istore_n (j := 3) (i := 3) (pc' := 47) (by decide +kernel) rfl rfl (by decide) rfl rfl) ?_
    refine XE.pick [3, 2, 1, 0] (L' := [(0, (4, a0)), (1, (27, v20)), (2, (0, v23)), (3, (0, 0))]) rfl ?_
    refine XE.loopJ (n := 1000) (s0 := (0, t7)) (pcL := 47) (pcE := 128) (LL := fun (s25 : Int × Mm) => [(0, (4, a0)), (1, (27, v20)), (2, (0, v23)), (3, (0, s25.1))]) (sL := fun _ => []) (ML := fun (s25 : Int × Mm) => s25.2) (LE := fun (t26 : Mm) => []) (sE := fun _ => []) (ME := fun (t26 : Mm) => t26) (fun kk30 hc27 he28 s25 => ?_) (fun t26 => ?_)
    · unfold b_X0_dropSurplus_47
      refine XE.go (st_iload_n (j := 3) (i := 3) (pc' := 48) (by decide +kernel) rfl rfl rfl) ?_
      refine XE.go (st_iload_n (j := 2) (i := 2) (pc' := 49) (by decide +kernel) rfl rfl rfl) ?_
      refine XE.bite (fun h31 => ?_) (fun h32 => ?_)
      · refine XE.go (st_icmp_ge_f (off := 79) (pc' := 52) (by decide +kernel) 128 (by decide) rfl (Int.not_le.mpr h31)) ?_
        refine XE.go (st_aload_n (j := 1) (i := 1) (pc' := 53) (by decide +kernel) rfl rfl (by decide) rfl) ?_
        refine XE.go (st_iload_n (j := 3) (i := 3) (pc' := 54) (by decide +kernel) rfl rfl rfl) ?_
        refine XE.gdb (fun g33 => ?_)
        refine XE.go (st_ald (k := 24) (tp := 12) (pc' := 55) (by decide +kernel) rfl ak_24 rfl (by decide) rfl (Or.inr (Or.inr (Or.inr ⟨rfl, rfl⟩))) g33.1 g33.2.1 g33.2.2) ?_
        refine XE.asc ?_
        refine XE.gen (fun v34 e35 => ?_)
        refine XE.go (st_astore (j := 4) (pc' := 57) (by decide +kernel)  (by decide) rfl (by decide) rfl rfl) ?_
        refine XE.go (st_aload (j := 4) (pc' := 59) (by decide +kernel) rfl (by decide) rfl) ?_
        refine XE.bite (fun h36 => ?_) (fun h37 => ?_)
        · refine XE.go (st_ifnull_t (off := 63) (pc' := 122) (by decide +kernel) (by decide) h36 (by decide)) ?_
          refine XE.go (st_iinc (j := 3) (n := 1) (pc' := 125) (by decide +kernel) rfl rfl (by decide) rfl rfl) ?_
          refine XE.go (st_goto (off := (-78)) (pc' := 47) (by decide +kernel) (by decide)) ?_
          exact XE.pick [2, 3, 4, 0] rfl (hc27 ((w (s25.1 + 1)), s25.2))
        · refine XE.go (st_ifnull_f (off := 63) (pc' := 62) (by decide +kernel) (by decide) h37 rfl) ?_
          refine XE.go (st_aload (j := 4) (pc' := 64) (by decide +kernel) rfl (by decide) rfl) ?_
          refine XE.go (st_get (pc' := 67) (by decide +kernel) rfl cls_8 fld_RX0_80 rfl rfl h37) ?_
          refine XE.bite (fun h38 => ?_) (fun h39 => ?_)
          · refine XE.go (st_ifnull_t (off := 55) (pc' := 122) (by decide +kernel) (by decide) h38 (by decide)) ?_
            refine XE.go (st_iinc (j := 3) (n := 1) (pc' := 125) (by decide +kernel) rfl rfl (by decide) rfl rfl) ?_
            refine XE.go (st_goto (off := (-78)) (pc' := 47) (by decide +kernel) (by decide)) ?_
            exact XE.pick [2, 3, 4, 0] rfl (hc27 ((w (s25.1 + 1)), s25.2))
          · refine XE.go (st_ifnull_f (off := 55) (pc' := 70) (by decide +kernel) (by decide) h39 rfl) ?_
            refine XE.go (st_aload (j := 4) (pc' := 72) (by decide +kernel) rfl (by decide) rfl) ?_
            refine XE.go (st_get (pc' := 75) (by decide +kernel) rfl cls_8 fld_RX0_80 rfl rfl h37) ?_
            refine XE.go (st_get (pc' := 78) (by decide +kernel) rfl cls_3 fld_RX0_114 rfl rfl h39) ?_
            refine XE.go (st_aload (j := 4) (pc' := 80) (by decide +kernel) rfl (by decide) rfl) ?_
            refine XE.go (st_get (pc' := 83) (by decide +kernel) rfl cls_8 fld_RX0_80 rfl rfl h37) ?_
            refine XE.go (st_get (pc' := 86) (by decide +kernel) rfl cls_3 fld_RX0_124 rfl rfl h39) ?_
            refine XE.bite (fun h40 => ?_) (fun h41 => ?_)
            · refine XE.go (st_icmp_ge_f (off := 20) (pc' := 89) (by decide +kernel) 106 (by decide) rfl (Int.not_le.mpr h40)) ?_
              refine XE.go (st_aload (j := 4) (pc' := 91) (by decide +kernel) rfl (by decide) rfl) ?_
              refine XE.go (st_get (pc' := 94) (by decide +kernel) rfl cls_8 fld_RX0_80 rfl rfl h37) ?_
              refine XE.go (st_dup (pc' := 95) (by decide +kernel) rfl rfl) ?_
              refine XE.go (st_get (pc' := 98) (by decide +kernel) rfl cls_3 fld_RX0_114 rfl rfl h39) ?_
              refine XE.go (st_iconst (n := 1) (pc' := 99) (by decide +kernel) (w_eq (by decide) (by decide)) rfl) ?_
              refine XE.go (st_iadd (pc' := 100) (by decide +kernel) rfl) ?_
              refine XE.asc ?_
              refine XE.goM (st_put (pc' := 103) (by decide +kernel) rfl cls_3 fld_RX0_114 rfl rfl (fun h => absurd h (by decide)) (fun h => nomatch h) h39) (fun M42 => ?_)
              refine XE.go (st_goto (off := 19) (pc' := 122) (by decide +kernel) (by decide)) ?_
              refine XE.go (st_iinc (j := 3) (n := 1) (pc' := 125) (by decide +kernel) rfl rfl (by decide) rfl rfl) ?_
              refine XE.go (st_goto (off := (-78)) (pc' := 47) (by decide +kernel) (by decide)) ?_
              exact XE.pick [2, 3, 4, 0] rfl (hc27 ((w (s25.1 + 1)), M42))
            · refine XE.go (st_icmp_ge_t (off := 20) (pc' := 106) (by decide +kernel) (by decide) (Int.not_lt.mp h41)) ?_
              refine XE.go (st_aload (j := 4) (pc' := 108) (by decide +kernel) rfl (by decide) rfl) ?_
              refine XE.go (st_null (t := 7) (pc' := 109) (by decide +kernel) (by decide) rfl) ?_
              refine XE.asc ?_
              refine XE.goM (st_put (pc' := 112) (by decide +kernel) rfl cls_8 fld_RX0_80 rfl rfl (fun h => absurd h (by decide)) (fun h => nomatch h) h37) (fun M43 => ?_)
              refine XE.go (st_aload_n (j := 0) (i := 0) (pc' := 113) (by decide +kernel) rfl rfl (by decide) rfl) ?_
              refine XE.go (st_dup (pc' := 114) (by decide +kernel) rfl rfl) ?_
              refine XE.go (st_get (pc' := 117) (by decide +kernel) rfl cls_0 fld_RX0_48 rfl rfl h0) ?_
              refine XE.go (st_iconst (n := 1) (pc' := 118) (by decide +kernel) (w_eq (by decide) (by decide)) rfl) ?_
              refine XE.go (st_iadd (pc' := 119) (by decide +kernel) rfl) ?_
              refine XE.asc ?_
              refine XE.goM (st_put (pc' := 122) (by decide +kernel) rfl cls_0 fld_RX0_48 rfl rfl (fun h => absurd h (by decide)) (fun h => nomatch h) h0) (fun M44 => ?_)
              refine XE.go (st_iinc (j := 3) (n := 1) (pc' := 125) (by decide +kernel) rfl rfl (by decide) rfl rfl) ?_
              refine XE.go (st_goto (off := (-78)) (pc' := 47) (by decide +kernel) (by decide)) ?_
              exact XE.pick [2, 3, 4, 0] rfl (hc27 ((w (s25.1 + 1)), M44))
      · refine XE.go (st_icmp_ge_t (off := 79) (pc' := 128) (by decide +kernel) (by decide) (Int.not_lt.mp h32)) ?_
        exact XE.pick [] rfl (he28 s25.2)
    · exact XE.rt rfl (X_vret (by decide +kernel) rfl)
theorem ct_X0_dropSurplus {D : Dt} {M : Mm} {a0 : Int} (h0 : a0 ≠ 0) (r : Mm) (hr : p_X0_dropSurplus M a0 = some r) : CT D 0 mu_X0_dropSurplus [(4, a0)] M (.inl none) r := CT.of (by decide +kernel) rfl (Nat.le_of_ble_eq_true rfl) (xe_X0_dropSurplus h0 r hr)
def b_X0_firstBelowFairShare_10 (v4 : Int) (v1 : Int) (M : Mm) (s6 : Int) : Option ((Int) ⊕ ((Int) ⊕ (Unit))) := if s6 < v4 then gd (aok v1 s6) ((some ((rd M v1 s6))).bind fun v28 => if v28 = 0 then some (.inl (w (s6 + 1))) else if (rd M v28 5) < (rd M v28 6) then some (.inr (.inl (v28))) else some (.inl (w (s6 + 1)))) else some (.inr (.inr ()))
def p_X0_firstBelowFairShare (M : Mm) (a0 : Int) : Option Int := (some ((rd M a0 1))).bind fun v1 => gd (v1 ≠ 0) ((some ((ln v1))).bind fun v4 => (lp (b_X0_firstBelowFairShare_10 v4 v1 M) 1000 0).bind (Sum.elim some fun (t7 : Unit) => some (0)))
set_option maxRecDepth 100000 in
set_option maxHeartbeats 4000000 in
theorem xe_X0_firstBelowFairShare {D : Dt} {M : Mm} {a0 : Int} (h0 : a0 ≠ 0) : XE D 0 mu_X0_firstBelowFairShare (EP 7 M) 0 [(0, (4, a0))] [] M (p_X0_firstBelowFairShare M a0) := by
  unfold p_X0_firstBelowFairShare
  refine XE.go (st_aload_n (j := 0) (i := 0) (pc' := 1) (by decide +kernel) rfl rfl (by decide) rfl) ?_
  refine XE.go (st_get (pc' := 4) (by decide +kernel) rfl cls_0 fld_RX0_19 rfl rfl h0) ?_
  refine XE.gen (fun v1 e2 => ?_)
  refine XE.go (st_astore_n (j := 1) (i := 1) (pc' := 5) (by decide +kernel) rfl (by decide) rfl (by decide) rfl rfl) ?_
  refine XE.go (st_aload_n (j := 1) (i := 1) (pc' := 6) (by decide +kernel) rfl rfl (by decide) rfl) ?_
  refine XE.gd_ (fun g3 => ?_)
  refine XE.go (st_alen (k := 19) (pc' := 7) (by decide +kernel) rfl ak_19 rfl (by decide) g3) ?_
  refine XE.gen (fun v4 e5 => ?_)
  refine XE.go (st_istore_n (j := 2) (i := 2) (pc' := 8) (by decide +kernel) rfl rfl (by decide) rfl rfl) ?_
  refine XE.go (st_iconst (n := 0) (pc' := 9) (by decide +kernel) (w_eq (by decide) (by decide)) rfl) ?_
  refine XE.go (st_istore_n (j := 3) (i := 3) (pc' := 10) (by decide +kernel) rfl rfl (by decide) rfl rfl) ?_
  refine XE.pick [2, 1, 0] (L' := [(1, (22, v1)), (2, (0, v4)), (3, (0, 0))]) rfl ?_
  refine XE.loopX (n := 1000) (s0 := 0) (pcL := 10) (pcE := 47) (LL := fun (s6 : Int) => [(1, (22, v1)), (2, (0, v4)), (3, (0, s6))]) (sL := fun _ => []) (ML := fun (s6 : Int) => M) (LE := fun (t7 : Unit) => []) (sE := fun _ => []) (ME := fun (t7 : Unit) => M) (fun kk24 hx23 hc21 he22 s6 => ?_) (fun t7 => ?_)
  · unfold b_X0_firstBelowFairShare_10
    refine XE.go (st_iload_n (j := 3) (i := 3) (pc' := 11) (by decide +kernel) rfl rfl rfl) ?_
    refine XE.go (st_iload_n (j := 2) (i := 2) (pc' := 12) (by decide +kernel) rfl rfl rfl) ?_
    refine XE.bite (fun h25 => ?_) (fun h26 => ?_)
    · refine XE.go (st_icmp_ge_f (off := 35) (pc' := 15) (by decide +kernel) 47 (by decide) rfl (Int.not_le.mpr h25)) ?_
      refine XE.go (st_aload_n (j := 1) (i := 1) (pc' := 16) (by decide +kernel) rfl rfl (by decide) rfl) ?_
      refine XE.go (st_iload_n (j := 3) (i := 3) (pc' := 17) (by decide +kernel) rfl rfl rfl) ?_
      refine XE.gdb (fun g27 => ?_)
      refine XE.go (st_ald (k := 19) (tp := 7) (pc' := 18) (by decide +kernel) rfl ak_19 rfl (by decide) rfl (Or.inr (Or.inr (Or.inr ⟨rfl, rfl⟩))) g27.1 g27.2.1 g27.2.2) ?_
      refine XE.asc ?_
      refine XE.gen (fun v28 e29 => ?_)
      refine XE.go (st_astore (j := 4) (pc' := 20) (by decide +kernel)  (by decide) rfl (by decide) rfl rfl) ?_
      refine XE.go (st_aload (j := 4) (pc' := 22) (by decide +kernel) rfl (by decide) rfl) ?_
      refine XE.bite (fun h30 => ?_) (fun h31 => ?_)
      · refine XE.go (st_ifnull_t (off := 19) (pc' := 41) (by decide +kernel) (by decide) h30 (by decide)) ?_
        refine XE.go (st_iinc (j := 3) (n := 1) (pc' := 44) (by decide +kernel) rfl rfl (by decide) rfl rfl) ?_
        refine XE.go (st_goto (off := (-34)) (pc' := 10) (by decide +kernel) (by decide)) ?_
        exact XE.pick [2, 3, 0] rfl (hc21 (w (s6 + 1)))
      · refine XE.go (st_ifnull_f (off := 19) (pc' := 25) (by decide +kernel) (by decide) h31 rfl) ?_
        refine XE.go (st_aload (j := 4) (pc' := 27) (by decide +kernel) rfl (by decide) rfl) ?_
        refine XE.go (st_get (pc' := 30) (by decide +kernel) rfl cls_3 fld_RX0_114 rfl rfl h31) ?_
        refine XE.go (st_aload (j := 4) (pc' := 32) (by decide +kernel) rfl (by decide) rfl) ?_
        refine XE.go (st_get (pc' := 35) (by decide +kernel) rfl cls_3 fld_RX0_124 rfl rfl h31) ?_
        refine XE.bite (fun h32 => ?_) (fun h33 => ?_)
        · refine XE.go (st_icmp_ge_f (off := 6) (pc' := 38) (by decide +kernel) 41 (by decide) rfl (Int.not_le.mpr h32)) ?_
          refine XE.go (st_aload (j := 4) (pc' := 40) (by decide +kernel) rfl (by decide) rfl) ?_
          refine XE.cast (hx23 _) ?_
          exact XE.rt rfl (X_aret (by decide +kernel) rfl (Or.inl ⟨_, rfl⟩) (by decide))
        · refine XE.go (st_icmp_ge_t (off := 6) (pc' := 41) (by decide +kernel) (by decide) (Int.not_lt.mp h33)) ?_
          refine XE.go (st_iinc (j := 3) (n := 1) (pc' := 44) (by decide +kernel) rfl rfl (by decide) rfl rfl) ?_
          refine XE.go (st_goto (off := (-34)) (pc' := 10) (by decide +kernel) (by decide)) ?_
          exact XE.pick [2, 3, 0] rfl (hc21 (w (s6 + 1)))
    · refine XE.go (st_icmp_ge_t (off := 35) (pc' := 47) (by decide +kernel) (by decide) (Int.not_lt.mp h26)) ?_
      exact XE.pick [] rfl (he22 ())
  · refine XE.go (st_null (t := 7) (pc' := 48) (by decide +kernel) (by decide) rfl) ?_
    exact XE.rt rfl (X_aret (by decide +kernel) rfl (Or.inl ⟨_, rfl⟩) (by decide))
theorem ct_X0_firstBelowFairShare {D : Dt} {M : Mm} {a0 : Int} (h0 : a0 ≠ 0) (r : Int) (hr : p_X0_firstBelowFairShare M a0 = some r) : CT D 0 mu_X0_firstBelowFairShare [(4, a0)] M (.inl (some (7, r))) M := CT.of (by decide +kernel) rfl (Nat.le_of_ble_eq_true rfl) (xe_X0_firstBelowFairShare h0 r hr)
def b_X0_dealTargets_27 (v8 : Int) (v5 : Int) (a0 : Int) (s10 : Int × Mm) : Option ((Int × Mm) ⊕ (Mm)) := if s10.1 < v8 then gd (aok v5 s10.1) ((some ((rd s10.2 v5 s10.1))).bind fun v19 => if v19 = 0 then some (.inl ((w (s10.1 + 1)), s10.2)) else if (rd s10.2 v19 2) = 0 then (p_X0_firstBelowFairShare s10.2 a0).bind fun r25 => (some (wr s10.2 v19 2 r25)).bind fun M26 => if (rd M26 v19 2) = 0 then some (.inl ((w (s10.1 + 1)), M26)) else (some (wr M26 (rd M26 v19 2) 5 (w ((rd M26 (rd M26 v19 2) 5) + 1)))).bind fun M29 => some (.inl ((w (s10.1 + 1)), M29)) else some (.inl ((w (s10.1 + 1)), s10.2))) else some (.inr s10.2)
def p_X0_dealTargets (M : Mm) (a0 : Int) : Option Mm := (some (wr M a0 7 0)).bind fun M1 => (p_X0_memberCount M1 a0).bind fun r2 => (p_X0_setFairShares M1 a0 r2).bind fun M3 => (p_X0_dropSurplus M3 a0).bind fun M4 => (some ((rd M4 a0 0))).bind fun v5 => gd (v5 ≠ 0) ((some ((ln v5))).bind fun v8 => (lp (b_X0_dealTargets_27 v8 v5 a0) 1000 (0, M4)).bind fun (t11 : Mm) => some (t11))
set_option maxRecDepth 100000 in
set_option maxHeartbeats 4000000 in
theorem xe_X0_dealTargets {D : Dt} {M : Mm} {a0 : Int} (h0 : a0 ≠ 0) : XE D 0 mu_X0_dealTargets EV 0 [(0, (4, a0))] [] M (p_X0_dealTargets M a0) := by
  unfold p_X0_dealTargets
  refine XE.go (st_aload_n (j := 0) (i := 0) (pc' := 1) (by decide +kernel) rfl rfl (by decide) rfl) ?_
  refine XE.go (st_iconst (n := 0) (pc' := 2) (by decide +kernel) (w_eq (by decide) (by decide)) rfl) ?_
  refine XE.goM (st_put (pc' := 5) (by decide +kernel) rfl cls_0 fld_RX0_48 rfl rfl (fun h => absurd h (by decide)) (fun h => nomatch h) h0) (fun M1 => ?_)
  refine XE.go (st_aload_n (j := 0) (i := 0) (pc' := 6) (by decide +kernel) rfl rfl (by decide) rfl) ?_
  refine XE.go (st_aload_n (j := 0) (i := 0) (pc' := 7) (by decide +kernel) rfl rfl (by decide) rfl) ?_
  refine XE.cP (pc' := 10) (st := [(4, a0)]) (fun r hr => ct_X0_memberCount h0 r hr) (fun r hr => run_V (st := [(4, a0)]) (by decide +kernel) co_X0_dealTargets_83 (ct_X0_memberCount h0 r hr) rfl h0 rfl rfl (Nat.le_of_ble_eq_true rfl)) rfl rfl (fun r2 => ?_)
  refine XE.cV (pc' := 13) (st := []) (fun r hr => ct_X0_setFairShares h0 r hr) (fun r hr => run_V (st := []) (by decide +kernel) co_X0_dealTargets_104 (ct_X0_setFairShares h0 r hr) rfl h0 rfl rfl (Nat.le_of_ble_eq_true rfl)) rfl rfl (fun M3 => ?_)
  refine XE.go (st_aload_n (j := 0) (i := 0) (pc' := 14) (by decide +kernel) rfl rfl (by decide) rfl) ?_
  refine XE.cV (pc' := 17) (st := []) (fun r hr => ct_X0_dropSurplus h0 r hr) (fun r hr => run_V (st := []) (by decide +kernel) co_X0_dealTargets_107 (ct_X0_dropSurplus h0 r hr) rfl h0 rfl rfl (Nat.le_of_ble_eq_true rfl)) rfl rfl (fun M4 => ?_)
  refine XE.go (st_aload_n (j := 0) (i := 0) (pc' := 18) (by decide +kernel) rfl rfl (by decide) rfl) ?_
  refine XE.go (st_get (pc' := 21) (by decide +kernel) rfl cls_0 fld_RX0_11 rfl rfl h0) ?_
  refine XE.gen (fun v5 e6 => ?_)
  refine XE.go (st_astore_n (j := 1) (i := 1) (pc' := 22) (by decide +kernel) rfl (by decide) rfl (by decide) rfl rfl) ?_
  refine XE.go (st_aload_n (j := 1) (i := 1) (pc' := 23) (by decide +kernel) rfl rfl (by decide) rfl) ?_
  refine XE.gd_ (fun g7 => ?_)
  refine XE.go (st_alen (k := 24) (pc' := 24) (by decide +kernel) rfl ak_24 rfl (by decide) g7) ?_
  refine XE.gen (fun v8 e9 => ?_)
  refine XE.go (st_istore_n (j := 2) (i := 2) (pc' := 25) (by decide +kernel) rfl rfl (by decide) rfl rfl) ?_
  refine XE.go (st_iconst (n := 0) (pc' := 26) (by decide +kernel) (w_eq (by decide) (by decide)) rfl) ?_
  refine XE.go (st_istore_n (j := 3) (i := 3) (pc' := 27) (by decide +kernel) rfl rfl (by decide) rfl rfl) ?_
  refine XE.pick [3, 2, 1, 0] (L' := [(0, (4, a0)), (1, (27, v5)), (2, (0, v8)), (3, (0, 0))]) rfl ?_
  refine XE.loopJ (n := 1000) (s0 := (0, M4)) (pcL := 27) (pcE := 87) (LL := fun (s10 : Int × Mm) => [(0, (4, a0)), (1, (27, v5)), (2, (0, v8)), (3, (0, s10.1))]) (sL := fun _ => []) (ML := fun (s10 : Int × Mm) => s10.2) (LE := fun (t11 : Mm) => []) (sE := fun _ => []) (ME := fun (t11 : Mm) => t11) (fun kk15 hc12 he13 s10 => ?_) (fun t11 => ?_)
  · unfold b_X0_dealTargets_27
    refine XE.go (st_iload_n (j := 3) (i := 3) (pc' := 28) (by decide +kernel) rfl rfl rfl) ?_
    refine XE.go (st_iload_n (j := 2) (i := 2) (pc' := 29) (by decide +kernel) rfl rfl rfl) ?_
    refine XE.bite (fun h16 => ?_) (fun h17 => ?_)
    · refine XE.go (st_icmp_ge_f (off := 58) (pc' := 32) (by decide +kernel) 87 (by decide) rfl (Int.not_le.mpr h16)) ?_
      refine XE.go (st_aload_n (j := 1) (i := 1) (pc' := 33) (by decide +kernel) rfl rfl (by decide) rfl) ?_
      refine XE.go (st_iload_n (j := 3) (i := 3) (pc' := 34) (by decide +kernel) rfl rfl rfl) ?_
      refine XE.gdb (fun g18 => ?_)
      refine XE.go (st_ald (k := 24) (tp := 12) (pc' := 35) (by decide +kernel) rfl ak_24 rfl (by decide) rfl (Or.inr (Or.inr (Or.inr ⟨rfl, rfl⟩))) g18.1 g18.2.1 g18.2.2) ?_
      refine XE.asc ?_
      refine XE.gen (fun v19 e20 => ?_)
      refine XE.go (st_astore (j := 4) (pc' := 37) (by decide +kernel)  (by decide) rfl (by decide) rfl rfl) ?_
      refine XE.go (st_aload (j := 4) (pc' := 39) (by decide +kernel) rfl (by decide) rfl) ?_
      refine XE.bite (fun h21 => ?_) (fun h22 => ?_)
      · refine XE.go (st_ifnull_t (off := 42) (pc' := 81) (by decide +kernel) (by decide) h21 (by decide)) ?_
        refine XE.go (st_iinc (j := 3) (n := 1) (pc' := 84) (by decide +kernel) rfl rfl (by decide) rfl rfl) ?_
        refine XE.go (st_goto (off := (-57)) (pc' := 27) (by decide +kernel) (by decide)) ?_
        exact XE.pick [2, 3, 4, 0] rfl (hc12 ((w (s10.1 + 1)), s10.2))
      · refine XE.go (st_ifnull_f (off := 42) (pc' := 42) (by decide +kernel) (by decide) h22 rfl) ?_
        refine XE.go (st_aload (j := 4) (pc' := 44) (by decide +kernel) rfl (by decide) rfl) ?_
        refine XE.go (st_get (pc' := 47) (by decide +kernel) rfl cls_8 fld_RX0_80 rfl rfl h22) ?_
        refine XE.bite (fun h23 => ?_) (fun h24 => ?_)
        · refine XE.go (st_ifnonnull_f (off := 34) (pc' := 50) (by decide +kernel) (by decide) h23 rfl) ?_
          refine XE.go (st_aload (j := 4) (pc' := 52) (by decide +kernel) rfl (by decide) rfl) ?_
          refine XE.go (st_aload_n (j := 0) (i := 0) (pc' := 53) (by decide +kernel) rfl rfl (by decide) rfl) ?_
          refine XE.asc ?_
          refine XE.cP (pc' := 56) (st := [(12, v19)]) (fun r hr => ct_X0_firstBelowFairShare h0 r hr) (fun r hr => run_V (st := [(12, v19)]) (by decide +kernel) co_X0_dealTargets_110 (ct_X0_firstBelowFairShare h0 r hr) rfl h0 rfl rfl (Nat.le_of_ble_eq_true rfl)) rfl rfl (fun r25 => ?_)
          refine XE.asc ?_
          refine XE.goM (st_put (pc' := 59) (by decide +kernel) rfl cls_8 fld_RX0_80 rfl rfl (fun h => absurd h (by decide)) (fun h => nomatch h) h22) (fun M26 => ?_)
          refine XE.go (st_aload (j := 4) (pc' := 61) (by decide +kernel) rfl (by decide) rfl) ?_
          refine XE.go (st_get (pc' := 64) (by decide +kernel) rfl cls_8 fld_RX0_80 rfl rfl h22) ?_
          refine XE.bite (fun h27 => ?_) (fun h28 => ?_)
          · refine XE.go (st_ifnull_t (off := 17) (pc' := 81) (by decide +kernel) (by decide) h27 (by decide)) ?_
            refine XE.go (st_iinc (j := 3) (n := 1) (pc' := 84) (by decide +kernel) rfl rfl (by decide) rfl rfl) ?_
            refine XE.go (st_goto (off := (-57)) (pc' := 27) (by decide +kernel) (by decide)) ?_
            exact XE.pick [2, 3, 4, 0] rfl (hc12 ((w (s10.1 + 1)), M26))
          · refine XE.go (st_ifnull_f (off := 17) (pc' := 67) (by decide +kernel) (by decide) h28 rfl) ?_
            refine XE.go (st_aload (j := 4) (pc' := 69) (by decide +kernel) rfl (by decide) rfl) ?_
            refine XE.go (st_get (pc' := 72) (by decide +kernel) rfl cls_8 fld_RX0_80 rfl rfl h22) ?_
            refine XE.go (st_dup (pc' := 73) (by decide +kernel) rfl rfl) ?_
            refine XE.go (st_get (pc' := 76) (by decide +kernel) rfl cls_3 fld_RX0_114 rfl rfl h28) ?_
            refine XE.go (st_iconst (n := 1) (pc' := 77) (by decide +kernel) (w_eq (by decide) (by decide)) rfl) ?_
            refine XE.go (st_iadd (pc' := 78) (by decide +kernel) rfl) ?_
            refine XE.asc ?_
            refine XE.goM (st_put (pc' := 81) (by decide +kernel) rfl cls_3 fld_RX0_114 rfl rfl (fun h => absurd h (by decide)) (fun h => nomatch h) h28) (fun M29 => ?_)
            refine XE.go (st_iinc (j := 3) (n := 1) (pc' := 84) (by decide +kernel) rfl rfl (by decide) rfl rfl) ?_
            refine XE.go (st_goto (off := (-57)) (pc' := 27) (by decide +kernel) (by decide)) ?_
            exact XE.pick [2, 3, 4, 0] rfl (hc12 ((w (s10.1 + 1)), M29))
        · refine XE.go (st_ifnonnull_t (off := 34) (pc' := 81) (by decide +kernel) (by decide) h24 (by decide)) ?_
          refine XE.go (st_iinc (j := 3) (n := 1) (pc' := 84) (by decide +kernel) rfl rfl (by decide) rfl rfl) ?_
          refine XE.go (st_goto (off := (-57)) (pc' := 27) (by decide +kernel) (by decide)) ?_
          exact XE.pick [2, 3, 4, 0] rfl (hc12 ((w (s10.1 + 1)), s10.2))
    · refine XE.go (st_icmp_ge_t (off := 58) (pc' := 87) (by decide +kernel) (by decide) (Int.not_lt.mp h17)) ?_
      exact XE.pick [] rfl (he13 s10.2)
  · exact XE.rt rfl (X_vret (by decide +kernel) rfl)
theorem ct_X0_dealTargets {D : Dt} {M : Mm} {a0 : Int} (h0 : a0 ≠ 0) (r : Mm) (hr : p_X0_dealTargets M a0 = some r) : CT D 0 mu_X0_dealTargets [(4, a0)] M (.inl none) r := CT.of (by decide +kernel) rfl (Nat.le_of_ble_eq_true rfl) (xe_X0_dealTargets h0 r hr)
def b_X0_removeMember_16 (v4 : Int) (v1 : Int) (a1 : Int) (a0 : Int) (a2 : Int) (s6 : Int × Int × Mm) : Option ((Int × Int × Mm) ⊕ (Int × Mm)) := if s6.2.1 < v4 then gd (aok v1 s6.2.1) ((some ((rd s6.2.2 v1 s6.2.1))).bind fun v15 => (if v15 = 0 then some ((s6.1, s6.2.2)) else if (rd s6.2.2 v15 1) = a1 then (p_X0_giveUp s6.2.2 a0 v15 a1 a2).bind fun M25 => some (((w (s6.1 + 1)), M25)) else some ((s6.1, s6.2.2)) : Option (Int × Mm)).bind fun (s17 : Int × Mm) => if v15 = 0 then some (.inl (s17.1, (w (s6.2.1 + 1)), s17.2)) else if (rd s17.2 v15 2) = a1 then (some (wr s17.2 v15 2 0)).bind fun M30 => some (.inl (s17.1, (w (s6.2.1 + 1)), M30)) else some (.inl (s17.1, (w (s6.2.1 + 1)), s17.2))) else some (.inr (s6.1, s6.2.2))
def p_X0_removeMember (M : Mm) (a0 a1 a2 : Int) : Option (Int × Mm) := (some ((rd M a0 0))).bind fun v1 => gd (v1 ≠ 0) ((some ((ln v1))).bind fun v4 => (lp (b_X0_removeMember_16 v4 v1 a1 a0 a2) 1000 (0, 0, M)).bind fun (t7 : Int × Mm) => gd (a1 ≠ 0) ((if (rd t7.2 a1 0) < 0 then some (t7.2) else gd ((rd t7.2 a0 1) ≠ 0) (if (rd t7.2 a1 0) < (ln (rd t7.2 a0 1)) then gd (aok (rd t7.2 a0 1) (rd t7.2 a1 0)) ((some (wr t7.2 (rd t7.2 a0 1) (rd t7.2 a1 0) 0)).bind fun M42 => some (M42)) else some (t7.2)) : Option (Mm)).bind fun (s32 : Mm) => (some (wr s32 a0 6 (w ((rd s32 a0 6) + 1)))).bind fun M43 => (p_X0_dealTargets M43 a0).bind fun M44 => some (t7.1, M44)))
set_option maxRecDepth 100000 in
set_option maxHeartbeats 4000000 in
theorem xe_X0_removeMember {D : Dt} {M : Mm} {a0 a1 a2 : Int} (h0 : a0 ≠ 0) : XE D 0 mu_X0_removeMember (EW 0) 0 [(0, (4, a0)), (1, (7, a1)), (2, (0, a2))] [] M (p_X0_removeMember M a0 a1 a2) := by
  unfold p_X0_removeMember
  refine XE.go (st_iconst (n := 0) (pc' := 1) (by decide +kernel) (w_eq (by decide) (by decide)) rfl) ?_
  refine XE.go (st_istore_n (j := 3) (i := 3) (pc' := 2) (by decide +kernel) rfl rfl (by decide) rfl rfl) ?_
  refine XE.go (st_aload_n (j := 0) (i := 0) (pc' := 3) (by decide +kernel) rfl rfl (by decide) rfl) ?_
  refine XE.go (st_get (pc' := 6) (by decide +kernel) rfl cls_0 fld_RX0_11 rfl rfl h0) ?_
  refine XE.gen (fun v1 e2 => ?_)
  refine XE.go (st_astore (j := 4) (pc' := 8) (by decide +kernel)  (by decide) rfl (by decide) rfl rfl) ?_
  refine XE.go (st_aload (j := 4) (pc' := 10) (by decide +kernel) rfl (by decide) rfl) ?_
  refine XE.gd_ (fun g3 => ?_)
  refine XE.go (st_alen (k := 24) (pc' := 11) (by decide +kernel) rfl ak_24 rfl (by decide) g3) ?_
  refine XE.gen (fun v4 e5 => ?_)
  refine XE.go (st_istore (j := 5) (pc' := 13) (by decide +kernel)  rfl (by decide) rfl rfl) ?_
  refine XE.go (st_iconst (n := 0) (pc' := 14) (by decide +kernel) (w_eq (by decide) (by decide)) rfl) ?_
  refine XE.go (st_istore (j := 6) (pc' := 16) (by decide +kernel)  rfl (by decide) rfl rfl) ?_
  refine XE.pick [4, 5, 6, 3, 2, 1, 0] (L' := [(0, (4, a0)), (1, (7, a1)), (2, (0, a2)), (3, (0, 0)), (4, (27, v1)), (5, (0, v4)), (6, (0, 0))]) rfl ?_
  refine XE.loopJ (n := 1000) (s0 := (0, 0, M)) (pcL := 16) (pcE := 81) (LL := fun (s6 : Int × Int × Mm) => [(0, (4, a0)), (1, (7, a1)), (2, (0, a2)), (3, (0, s6.1)), (4, (27, v1)), (5, (0, v4)), (6, (0, s6.2.1))]) (sL := fun _ => []) (ML := fun (s6 : Int × Int × Mm) => s6.2.2) (LE := fun (t7 : Int × Mm) => [(0, (4, a0)), (1, (7, a1)), (3, (0, t7.1))]) (sE := fun _ => []) (ME := fun (t7 : Int × Mm) => t7.2) (fun kk11 hc8 he9 s6 => ?_) (fun t7 => ?_)
  · unfold b_X0_removeMember_16
    refine XE.go (st_iload (j := 6) (pc' := 18) (by decide +kernel) rfl rfl) ?_
    refine XE.go (st_iload (j := 5) (pc' := 20) (by decide +kernel) rfl rfl) ?_
    refine XE.bite (fun h12 => ?_) (fun h13 => ?_)
    · refine XE.go (st_icmp_ge_f (off := 61) (pc' := 23) (by decide +kernel) 81 (by decide) rfl (Int.not_le.mpr h12)) ?_
      refine XE.go (st_aload (j := 4) (pc' := 25) (by decide +kernel) rfl (by decide) rfl) ?_
      refine XE.go (st_iload (j := 6) (pc' := 27) (by decide +kernel) rfl rfl) ?_
      refine XE.gdb (fun g14 => ?_)
      refine XE.go (st_ald (k := 24) (tp := 12) (pc' := 28) (by decide +kernel) rfl ak_24 rfl (by decide) rfl (Or.inr (Or.inr (Or.inr ⟨rfl, rfl⟩))) g14.1 g14.2.1 g14.2.2) ?_
      refine XE.asc ?_
      refine XE.gen (fun v15 e16 => ?_)
      refine XE.go (st_astore (j := 7) (pc' := 30) (by decide +kernel)  (by decide) rfl (by decide) rfl rfl) ?_
      refine XE.go (st_aload (j := 7) (pc' := 32) (by decide +kernel) rfl (by decide) rfl) ?_
      refine XE.asc ?_
      refine XE.join (pcJ := 55) (LJ := fun (s17 : Int × Mm) => [(0, (4, a0)), (1, (7, a1)), (2, (0, a2)), (3, (0, s17.1)), (4, (27, v1)), (5, (0, v4)), (6, (0, s6.2.1)), (7, (12, v15))]) (sJ := fun (s17 : Int × Mm) => []) (MJ := fun (s17 : Int × Mm) => s17.2) (fun kk20 hk18 => ?_) (fun s17 => ?_)
      · refine XE.bite (fun h21 => ?_) (fun h22 => ?_)
        · refine XE.go (st_ifnull_t (off := 23) (pc' := 55) (by decide +kernel) (by decide) h21 (by decide)) ?_
          exact XE.pick [1, 2, 3, 4, 5, 6, 7, 0] rfl (hk18 (s6.1, s6.2.2))
        · refine XE.go (st_ifnull_f (off := 23) (pc' := 35) (by decide +kernel) (by decide) h22 rfl) ?_
          refine XE.go (st_aload (j := 7) (pc' := 37) (by decide +kernel) rfl (by decide) rfl) ?_
          refine XE.go (st_get (pc' := 40) (by decide +kernel) rfl cls_8 fld_RX0_76 rfl rfl h22) ?_
          refine XE.go (st_aload_n (j := 1) (i := 1) (pc' := 41) (by decide +kernel) rfl rfl (by decide) rfl) ?_
          refine XE.bite (fun h23 => ?_) (fun h24 => ?_)
          · refine XE.go (st_acmp_ne_f (off := 14) (pc' := 44) (by decide +kernel) 55 (by decide) (by decide) (by decide) h23 rfl) ?_
            refine XE.go (st_aload_n (j := 0) (i := 0) (pc' := 45) (by decide +kernel) rfl rfl (by decide) rfl) ?_
            refine XE.go (st_aload (j := 7) (pc' := 47) (by decide +kernel) rfl (by decide) rfl) ?_
            refine XE.go (st_aload_n (j := 1) (i := 1) (pc' := 48) (by decide +kernel) rfl rfl (by decide) rfl) ?_
            refine XE.go (st_iload_n (j := 2) (i := 2) (pc' := 49) (by decide +kernel) rfl rfl rfl) ?_
            refine XE.asc ?_
            refine XE.cV (pc' := 52) (st := []) (fun r hr => ct_X0_giveUp h0 r hr) (fun r hr => run_V (st := []) (by decide +kernel) co_X0_removeMember_93 (ct_X0_giveUp h0 r hr) rfl h0 rfl rfl (Nat.le_of_ble_eq_true rfl)) rfl rfl (fun M25 => ?_)
            refine XE.go (st_iinc (j := 3) (n := 1) (pc' := 55) (by decide +kernel) rfl rfl (by decide) rfl rfl) ?_
            exact XE.pick [2, 3, 4, 0, 5, 6, 7, 1] rfl (hk18 ((w (s6.1 + 1)), M25))
          · refine XE.go (st_acmp_ne_t (off := 14) (pc' := 55) (by decide +kernel) (by decide) (by decide) h24 (by decide)) ?_
            exact XE.pick [1, 2, 3, 4, 5, 6, 7, 0] rfl (hk18 (s6.1, s6.2.2))
      · refine XE.go (st_aload (j := 7) (pc' := 57) (by decide +kernel) rfl (by decide) rfl) ?_
        refine XE.bite (fun h26 => ?_) (fun h27 => ?_)
        · refine XE.go (st_ifnull_t (off := 18) (pc' := 75) (by decide +kernel) (by decide) h26 (by decide)) ?_
          refine XE.go (st_iinc (j := 6) (n := 1) (pc' := 78) (by decide +kernel) rfl rfl (by decide) rfl rfl) ?_
          refine XE.go (st_goto (off := (-62)) (pc' := 16) (by decide +kernel) (by decide)) ?_
          exact XE.pick [1, 2, 3, 4, 5, 6, 0] rfl (hc8 (s17.1, (w (s6.2.1 + 1)), s17.2))
        · refine XE.go (st_ifnull_f (off := 18) (pc' := 60) (by decide +kernel) (by decide) h27 rfl) ?_
          refine XE.go (st_aload (j := 7) (pc' := 62) (by decide +kernel) rfl (by decide) rfl) ?_
          refine XE.go (st_get (pc' := 65) (by decide +kernel) rfl cls_8 fld_RX0_80 rfl rfl h27) ?_
          refine XE.go (st_aload_n (j := 1) (i := 1) (pc' := 66) (by decide +kernel) rfl rfl (by decide) rfl) ?_
          refine XE.bite (fun h28 => ?_) (fun h29 => ?_)
          · refine XE.go (st_acmp_ne_f (off := 9) (pc' := 69) (by decide +kernel) 75 (by decide) (by decide) (by decide) h28 rfl) ?_
            refine XE.go (st_aload (j := 7) (pc' := 71) (by decide +kernel) rfl (by decide) rfl) ?_
            refine XE.go (st_null (t := 7) (pc' := 72) (by decide +kernel) (by decide) rfl) ?_
            refine XE.asc ?_
            refine XE.goM (st_put (pc' := 75) (by decide +kernel) rfl cls_8 fld_RX0_80 rfl rfl (fun h => absurd h (by decide)) (fun h => nomatch h) h27) (fun M30 => ?_)
            refine XE.go (st_iinc (j := 6) (n := 1) (pc' := 78) (by decide +kernel) rfl rfl (by decide) rfl rfl) ?_
            refine XE.go (st_goto (off := (-62)) (pc' := 16) (by decide +kernel) (by decide)) ?_
            exact XE.pick [1, 2, 3, 4, 5, 6, 0] rfl (hc8 (s17.1, (w (s6.2.1 + 1)), M30))
          · refine XE.go (st_acmp_ne_t (off := 9) (pc' := 75) (by decide +kernel) (by decide) (by decide) h29 (by decide)) ?_
            refine XE.go (st_iinc (j := 6) (n := 1) (pc' := 78) (by decide +kernel) rfl rfl (by decide) rfl rfl) ?_
            refine XE.go (st_goto (off := (-62)) (pc' := 16) (by decide +kernel) (by decide)) ?_
            exact XE.pick [1, 2, 3, 4, 5, 6, 0] rfl (hc8 (s17.1, (w (s6.2.1 + 1)), s17.2))
    · refine XE.go (st_icmp_ge_t (off := 61) (pc' := 81) (by decide +kernel) (by decide) (Int.not_lt.mp h13)) ?_
      exact XE.pick [0, 1, 3] rfl (he9 (s6.1, s6.2.2))
  · refine XE.go (st_aload_n (j := 1) (i := 1) (pc' := 82) (by decide +kernel) rfl rfl (by decide) rfl) ?_
    refine XE.gd_ (fun g31 => ?_)
    refine XE.go (st_get (pc' := 85) (by decide +kernel) rfl cls_3 fld_RX0_75 rfl rfl g31) ?_
    refine XE.join (pcJ := 110) (LJ := fun (s32 : Mm) => [(0, (4, a0)), (3, (0, t7.1))]) (sJ := fun (s32 : Mm) => []) (MJ := fun (s32 : Mm) => s32) (fun kk35 hk33 => ?_) (fun s32 => ?_)
    · refine XE.bite (fun h36 => ?_) (fun h37 => ?_)
      · refine XE.go (st_if_lt_t (off := 25) (pc' := 110) (by decide +kernel) (by decide) h36) ?_
        exact XE.pick [0, 2] rfl (hk33 t7.2)
      · refine XE.go (st_if_lt_f (off := 25) (pc' := 88) (by decide +kernel) 110 (by decide) rfl h37) ?_
        refine XE.go (st_aload_n (j := 1) (i := 1) (pc' := 89) (by decide +kernel) rfl rfl (by decide) rfl) ?_
        refine XE.go (st_get (pc' := 92) (by decide +kernel) rfl cls_3 fld_RX0_75 rfl rfl g31) ?_
        refine XE.go (st_aload_n (j := 0) (i := 0) (pc' := 93) (by decide +kernel) rfl rfl (by decide) rfl) ?_
        refine XE.go (st_get (pc' := 96) (by decide +kernel) rfl cls_0 fld_RX0_19 rfl rfl h0) ?_
        refine XE.gdb (fun g38 => ?_)
        refine XE.go (st_alen (k := 19) (pc' := 97) (by decide +kernel) rfl ak_19 rfl (by decide) g38) ?_
        refine XE.bite (fun h39 => ?_) (fun h40 => ?_)
        · refine XE.go (st_icmp_ge_f (off := 13) (pc' := 100) (by decide +kernel) 110 (by decide) rfl (Int.not_le.mpr h39)) ?_
          refine XE.go (st_aload_n (j := 0) (i := 0) (pc' := 101) (by decide +kernel) rfl rfl (by decide) rfl) ?_
          refine XE.go (st_get (pc' := 104) (by decide +kernel) rfl cls_0 fld_RX0_19 rfl rfl h0) ?_
          refine XE.go (st_aload_n (j := 1) (i := 1) (pc' := 105) (by decide +kernel) rfl rfl (by decide) rfl) ?_
          refine XE.go (st_get (pc' := 108) (by decide +kernel) rfl cls_3 fld_RX0_75 rfl rfl g31) ?_
          refine XE.go (st_null (t := 7) (pc' := 109) (by decide +kernel) (by decide) rfl) ?_
          refine XE.gdb (fun g41 => ?_)
          refine XE.asc ?_
          refine XE.goM (st_aast (pc' := 110) (by decide +kernel) rfl ak_19 cls_3 rfl rfl rfl g41.1 g41.2.1 g41.2.2) (fun M42 => ?_)
          exact XE.pick [0, 2] rfl (hk33 M42)
        · refine XE.go (st_icmp_ge_t (off := 13) (pc' := 110) (by decide +kernel) (by decide) (Int.not_lt.mp h40)) ?_
          exact XE.pick [0, 2] rfl (hk33 t7.2)
    · refine XE.go (st_aload_n (j := 0) (i := 0) (pc' := 111) (by decide +kernel) rfl rfl (by decide) rfl) ?_
      refine XE.go (st_dup (pc' := 112) (by decide +kernel) rfl rfl) ?_
      refine XE.go (st_get (pc' := 115) (by decide +kernel) rfl cls_0 fld_RX0_45 rfl rfl h0) ?_
      refine XE.go (st_iconst (n := 1) (pc' := 116) (by decide +kernel) (w_eq (by decide) (by decide)) rfl) ?_
      refine XE.go (st_iadd (pc' := 117) (by decide +kernel) rfl) ?_
      refine XE.goM (st_put (pc' := 120) (by decide +kernel) rfl cls_0 fld_RX0_45 rfl rfl (fun h => absurd h (by decide)) (fun h => nomatch h) h0) (fun M43 => ?_)
      refine XE.go (st_aload_n (j := 0) (i := 0) (pc' := 121) (by decide +kernel) rfl rfl (by decide) rfl) ?_
      refine XE.cV (pc' := 124) (st := []) (fun r hr => ct_X0_dealTargets h0 r hr) (fun r hr => run_V (st := []) (by decide +kernel) co_X0_removeMember_90 (ct_X0_dealTargets h0 r hr) rfl h0 rfl rfl (Nat.le_of_ble_eq_true rfl)) rfl rfl (fun M44 => ?_)
      refine XE.go (st_iload_n (j := 3) (i := 3) (pc' := 125) (by decide +kernel) rfl rfl rfl) ?_
      exact XE.rt rfl (X_iret (by decide +kernel) rfl)
theorem ct_X0_removeMember {D : Dt} {M : Mm} {a0 a1 a2 : Int} (h0 : a0 ≠ 0) (r : (Int × Mm)) (hr : p_X0_removeMember M a0 a1 a2 = some r) : CT D 0 mu_X0_removeMember [(4, a0), (7, a1), (0, a2)] M (.inl (some (0, r.1))) r.2 := CT.of (by decide +kernel) rfl (Nat.le_of_ble_eq_true rfl) (xe_X0_removeMember h0 r hr)
def b_X0_expelSilent_11 (v4 : Int) (v1 : Int) (a1 : Int) (a0 : Int) (s6 : Int × Mm) : Option ((Int × Mm) ⊕ (Mm)) := if s6.1 < v4 then gd (aok v1 s6.1) ((some ((rd s6.2 v1 s6.1))).bind fun v15 => if v15 = 0 then some (.inl ((w (s6.1 + 1)), s6.2)) else if 10 < (w (a1 - (rd s6.2 v15 2))) then (p_X0_removeMember s6.2 a0 v15 a1).bind fun r21 => some (.inl ((w (s6.1 + 1)), r21.2)) else some (.inl ((w (s6.1 + 1)), s6.2))) else some (.inr s6.2)
def p_X0_expelSilent (M : Mm) (a0 a1 : Int) : Option Mm := (some ((rd M a0 1))).bind fun v1 => gd (v1 ≠ 0) ((some ((ln v1))).bind fun v4 => (lp (b_X0_expelSilent_11 v4 v1 a1 a0) 1000 (0, M)).bind fun (t7 : Mm) => some (t7))
set_option maxRecDepth 100000 in
set_option maxHeartbeats 4000000 in
theorem xe_X0_expelSilent {D : Dt} {M : Mm} {a0 a1 : Int} (h0 : a0 ≠ 0) : XE D 0 mu_X0_expelSilent EV 0 [(0, (4, a0)), (1, (0, a1))] [] M (p_X0_expelSilent M a0 a1) := by
  unfold p_X0_expelSilent
  refine XE.go (st_aload_n (j := 0) (i := 0) (pc' := 1) (by decide +kernel) rfl rfl (by decide) rfl) ?_
  refine XE.go (st_get (pc' := 4) (by decide +kernel) rfl cls_0 fld_RX0_19 rfl rfl h0) ?_
  refine XE.gen (fun v1 e2 => ?_)
  refine XE.go (st_astore_n (j := 2) (i := 2) (pc' := 5) (by decide +kernel) rfl (by decide) rfl (by decide) rfl rfl) ?_
  refine XE.go (st_aload_n (j := 2) (i := 2) (pc' := 6) (by decide +kernel) rfl rfl (by decide) rfl) ?_
  refine XE.gd_ (fun g3 => ?_)
  refine XE.go (st_alen (k := 19) (pc' := 7) (by decide +kernel) rfl ak_19 rfl (by decide) g3) ?_
  refine XE.gen (fun v4 e5 => ?_)
  refine XE.go (st_istore_n (j := 3) (i := 3) (pc' := 8) (by decide +kernel) rfl rfl (by decide) rfl rfl) ?_
  refine XE.go (st_iconst (n := 0) (pc' := 9) (by decide +kernel) (w_eq (by decide) (by decide)) rfl) ?_
  refine XE.go (st_istore (j := 4) (pc' := 11) (by decide +kernel)  rfl (by decide) rfl rfl) ?_
  refine XE.pick [3, 4, 2, 1, 0] (L' := [(0, (4, a0)), (1, (0, a1)), (2, (22, v1)), (3, (0, v4)), (4, (0, 0))]) rfl ?_
  refine XE.loopJ (n := 1000) (s0 := (0, M)) (pcL := 11) (pcE := 54) (LL := fun (s6 : Int × Mm) => [(0, (4, a0)), (1, (0, a1)), (2, (22, v1)), (3, (0, v4)), (4, (0, s6.1))]) (sL := fun _ => []) (ML := fun (s6 : Int × Mm) => s6.2) (LE := fun (t7 : Mm) => []) (sE := fun _ => []) (ME := fun (t7 : Mm) => t7) (fun kk11 hc8 he9 s6 => ?_) (fun t7 => ?_)
  · unfold b_X0_expelSilent_11
    refine XE.go (st_iload (j := 4) (pc' := 13) (by decide +kernel) rfl rfl) ?_
    refine XE.go (st_iload_n (j := 3) (i := 3) (pc' := 14) (by decide +kernel) rfl rfl rfl) ?_
    refine XE.bite (fun h12 => ?_) (fun h13 => ?_)
    · refine XE.go (st_icmp_ge_f (off := 40) (pc' := 17) (by decide +kernel) 54 (by decide) rfl (Int.not_le.mpr h12)) ?_
      refine XE.go (st_aload_n (j := 2) (i := 2) (pc' := 18) (by decide +kernel) rfl rfl (by decide) rfl) ?_
      refine XE.go (st_iload (j := 4) (pc' := 20) (by decide +kernel) rfl rfl) ?_
      refine XE.gdb (fun g14 => ?_)
      refine XE.go (st_ald (k := 19) (tp := 7) (pc' := 21) (by decide +kernel) rfl ak_19 rfl (by decide) rfl (Or.inr (Or.inr (Or.inr ⟨rfl, rfl⟩))) g14.1 g14.2.1 g14.2.2) ?_
      refine XE.asc ?_
      refine XE.gen (fun v15 e16 => ?_)
      refine XE.go (st_astore (j := 5) (pc' := 23) (by decide +kernel)  (by decide) rfl (by decide) rfl rfl) ?_
      refine XE.go (st_aload (j := 5) (pc' := 25) (by decide +kernel) rfl (by decide) rfl) ?_
      refine XE.bite (fun h17 => ?_) (fun h18 => ?_)
      · refine XE.go (st_ifnull_t (off := 23) (pc' := 48) (by decide +kernel) (by decide) h17 (by decide)) ?_
        refine XE.go (st_iinc (j := 4) (n := 1) (pc' := 51) (by decide +kernel) rfl rfl (by decide) rfl rfl) ?_
        refine XE.go (st_goto (off := (-40)) (pc' := 11) (by decide +kernel) (by decide)) ?_
        exact XE.pick [2, 3, 4, 5, 0] rfl (hc8 ((w (s6.1 + 1)), s6.2))
      · refine XE.go (st_ifnull_f (off := 23) (pc' := 28) (by decide +kernel) (by decide) h18 rfl) ?_
        refine XE.go (st_iload_n (j := 1) (i := 1) (pc' := 29) (by decide +kernel) rfl rfl rfl) ?_
        refine XE.go (st_aload (j := 5) (pc' := 31) (by decide +kernel) rfl (by decide) rfl) ?_
        refine XE.go (st_get (pc' := 34) (by decide +kernel) rfl cls_3 fld_RX0_97 rfl rfl h18) ?_
        refine XE.go (st_isub (pc' := 35) (by decide +kernel) rfl) ?_
        refine XE.go (st_bipush (n := 10) (pc' := 37) (by decide +kernel) (by decide) (w_eq (by decide) (by decide)) rfl) ?_
        refine XE.bite (fun h19 => ?_) (fun h20 => ?_)
        · refine XE.go (st_icmp_le_f (off := 11) (pc' := 40) (by decide +kernel) 48 (by decide) rfl (Int.not_le.mpr h19)) ?_
          refine XE.go (st_aload_n (j := 0) (i := 0) (pc' := 41) (by decide +kernel) rfl rfl (by decide) rfl) ?_
          refine XE.go (st_aload (j := 5) (pc' := 43) (by decide +kernel) rfl (by decide) rfl) ?_
          refine XE.go (st_iload_n (j := 1) (i := 1) (pc' := 44) (by decide +kernel) rfl rfl rfl) ?_
          refine XE.asc ?_
          refine XE.cW (pc' := 47) (st := []) (fun r hr => ct_X0_removeMember h0 r hr) (fun r hr => run_V (st := []) (by decide +kernel) co_X0_expelSilent_100 (ct_X0_removeMember h0 r hr) rfl h0 rfl rfl (Nat.le_of_ble_eq_true rfl)) rfl rfl (fun r21 => ?_)
          refine XE.go (st_pop (pc' := 48) (by decide +kernel) rfl rfl) ?_
          refine XE.go (st_iinc (j := 4) (n := 1) (pc' := 51) (by decide +kernel) rfl rfl (by decide) rfl rfl) ?_
          refine XE.go (st_goto (off := (-40)) (pc' := 11) (by decide +kernel) (by decide)) ?_
          exact XE.pick [2, 3, 4, 5, 0] rfl (hc8 ((w (s6.1 + 1)), r21.2))
        · refine XE.go (st_icmp_le_t (off := 11) (pc' := 48) (by decide +kernel) (by decide) (Int.not_lt.mp h20)) ?_
          refine XE.go (st_iinc (j := 4) (n := 1) (pc' := 51) (by decide +kernel) rfl rfl (by decide) rfl rfl) ?_
          refine XE.go (st_goto (off := (-40)) (pc' := 11) (by decide +kernel) (by decide)) ?_
          exact XE.pick [2, 3, 4, 5, 0] rfl (hc8 ((w (s6.1 + 1)), s6.2))
    · refine XE.go (st_icmp_ge_t (off := 40) (pc' := 54) (by decide +kernel) (by decide) (Int.not_lt.mp h13)) ?_
      exact XE.pick [] rfl (he9 s6.2)
  · exact XE.rt rfl (X_vret (by decide +kernel) rfl)
theorem ct_X0_expelSilent {D : Dt} {M : Mm} {a0 a1 : Int} (h0 : a0 ≠ 0) (r : Mm) (hr : p_X0_expelSilent M a0 a1 = some r) : CT D 0 mu_X0_expelSilent [(4, a0), (0, a1)] M (.inl none) r := CT.of (by decide +kernel) rfl (Nat.le_of_ble_eq_true rfl) (xe_X0_expelSilent h0 r hr)
def b_X10_passTick_113 (v46 : Int) (v43 : Int) (s48 : Int × Mm) : Option ((Int × Mm) ⊕ (Mm)) := if s48.1 < v46 then gd (aok v43 s48.1) ((some ((rd s48.2 v43 s48.1))).bind fun v57 => if v57 = 0 then some (.inl ((w (s48.1 + 1)), s48.2)) else (some (wr s48.2 v57 2 0)).bind fun M61 => some (.inl ((w (s48.1 + 1)), M61))) else some (.inr s48.2)
def b_X10_passTick_73 (v27 : Int) (v24 : Int) (a0 : Int) (s29 : Int × Mm) : Option ((Int × Mm) ⊕ (Mm)) := if s29.1 < v27 then gd (aok v24 s29.1) ((some ((rd s29.2 v24 s29.1))).bind fun v38 => if v38 = 0 then some (.inl ((w (s29.1 + 1)), s29.2)) else (p_X0_expelSilent s29.2 v38 (rd s29.2 a0 15)).bind fun M42 => some (.inl ((w (s29.1 + 1)), M42))) else some (.inr s29.2)
def b_X10_passTick_24 (v6 : Int) (v3 : Int) (a0 : Int) (s8 : Int × Mm) : Option ((Int × Mm) ⊕ (Mm)) := if s8.1 < v6 then gd (aok v3 s8.1) ((some ((rd s8.2 v3 s8.1))).bind fun v17 => if v17 = 0 then some (.inl ((w (s8.1 + 1)), s8.2)) else (p_X10_copyAll s8.2 a0 v17).bind fun M21 => (p_X10_checkInSync M21 a0 v17).bind fun M22 => (p_X10_removeOld M22 a0 v17).bind fun M23 => some (.inl ((w (s8.1 + 1)), M23))) else some (.inr s8.2)
def p_X10_passTick (M : Mm) (a0 : Int) : Option Mm := (some (wr M a0 15 (w ((rd M a0 15) + 1)))).bind fun M1 => (p_X10_appendDelayed M1 a0).bind fun M2 => (some ((rd M2 a0 1))).bind fun v3 => gd (v3 ≠ 0) ((some ((ln v3))).bind fun v6 => (lp (b_X10_passTick_24 v6 v3 a0) 1000 (0, M2)).bind fun (t9 : Mm) => (some ((rd t9 a0 3))).bind fun v24 => gd (v24 ≠ 0) ((some ((ln v24))).bind fun v27 => (lp (b_X10_passTick_73 v27 v24 a0) 1000 (0, t9)).bind fun (t30 : Mm) => (some ((rd t30 a0 2))).bind fun v43 => gd (v43 ≠ 0) ((some ((ln v43))).bind fun v46 => (lp (b_X10_passTick_113 v46 v43) 1000 (0, t30)).bind fun (t49 : Mm) => some (t49))))
set_option maxRecDepth 100000 in
set_option maxHeartbeats 4000000 in
theorem xe_X10_passTick {D : Dt} {M : Mm} {a0 : Int} (h0 : a0 ≠ 0) : XE D 0 mu_X10_passTick EV 0 [(0, (14, a0))] [] M (p_X10_passTick M a0) := by
  unfold p_X10_passTick
  refine XE.go (st_aload_n (j := 0) (i := 0) (pc' := 1) (by decide +kernel) rfl rfl (by decide) rfl) ?_
  refine XE.go (st_dup (pc' := 2) (by decide +kernel) rfl rfl) ?_
  refine XE.go (st_get (pc' := 5) (by decide +kernel) rfl cls_10 fld_RX10_70 rfl rfl h0) ?_
  refine XE.go (st_iconst (n := 1) (pc' := 6) (by decide +kernel) (w_eq (by decide) (by decide)) rfl) ?_
  refine XE.go (st_iadd (pc' := 7) (by decide +kernel) rfl) ?_
  refine XE.goM (st_put (pc' := 10) (by decide +kernel) rfl cls_10 fld_RX10_70 rfl rfl (fun h => absurd h (by decide)) (fun h => nomatch h) h0) (fun M1 => ?_)
  refine XE.go (st_aload_n (j := 0) (i := 0) (pc' := 11) (by decide +kernel) rfl rfl (by decide) rfl) ?_
  refine XE.cV (pc' := 14) (st := []) (fun r hr => ct_X10_appendDelayed h0 r hr) (fun r hr => run_V (st := []) (by decide +kernel) co_X10_passTick_230 (ct_X10_appendDelayed h0 r hr) rfl h0 rfl rfl (Nat.le_of_ble_eq_true rfl)) rfl rfl (fun M2 => ?_)
  refine XE.go (st_aload_n (j := 0) (i := 0) (pc' := 15) (by decide +kernel) rfl rfl (by decide) rfl) ?_
  refine XE.go (st_get (pc' := 18) (by decide +kernel) rfl cls_10 fld_RX10_17 rfl rfl h0) ?_
  refine XE.gen (fun v3 e4 => ?_)
  refine XE.go (st_astore_n (j := 1) (i := 1) (pc' := 19) (by decide +kernel) rfl (by decide) rfl (by decide) rfl rfl) ?_
  refine XE.go (st_aload_n (j := 1) (i := 1) (pc' := 20) (by decide +kernel) rfl rfl (by decide) rfl) ?_
  refine XE.gd_ (fun g5 => ?_)
  refine XE.go (st_alen (k := 21) (pc' := 21) (by decide +kernel) rfl ak_21 rfl (by decide) g5) ?_
  refine XE.gen (fun v6 e7 => ?_)
  refine XE.go (st_istore_n (j := 2) (i := 2) (pc' := 22) (by decide +kernel) rfl rfl (by decide) rfl rfl) ?_
  refine XE.go (st_iconst (n := 0) (pc' := 23) (by decide +kernel) (w_eq (by decide) (by decide)) rfl) ?_
  refine XE.go (st_istore_n (j := 3) (i := 3) (pc' := 24) (by decide +kernel) rfl rfl (by decide) rfl rfl) ?_
  refine XE.pick [3, 2, 1, 0] (L' := [(0, (14, a0)), (1, (24, v3)), (2, (0, v6)), (3, (0, 0))]) rfl ?_
  refine XE.loopJ (n := 1000) (s0 := (0, M2)) (pcL := 24) (pcE := 63) (LL := fun (s8 : Int × Mm) => [(0, (14, a0)), (1, (24, v3)), (2, (0, v6)), (3, (0, s8.1))]) (sL := fun _ => []) (ML := fun (s8 : Int × Mm) => s8.2) (LE := fun (t9 : Mm) => [(0, (14, a0))]) (sE := fun _ => []) (ME := fun (t9 : Mm) => t9) (fun kk13 hc10 he11 s8 => ?_) (fun t9 => ?_)
  · unfold b_X10_passTick_24
    refine XE.go (st_iload_n (j := 3) (i := 3) (pc' := 25) (by decide +kernel) rfl rfl rfl) ?_
    refine XE.go (st_iload_n (j := 2) (i := 2) (pc' := 26) (by decide +kernel) rfl rfl rfl) ?_
    refine XE.bite (fun h14 => ?_) (fun h15 => ?_)
    · refine XE.go (st_icmp_ge_f (off := 37) (pc' := 29) (by decide +kernel) 63 (by decide) rfl (Int.not_le.mpr h14)) ?_
      refine XE.go (st_aload_n (j := 1) (i := 1) (pc' := 30) (by decide +kernel) rfl rfl (by decide) rfl) ?_
      refine XE.go (st_iload_n (j := 3) (i := 3) (pc' := 31) (by decide +kernel) rfl rfl rfl) ?_
      refine XE.gdb (fun g16 => ?_)
      refine XE.go (st_ald (k := 21) (tp := 9) (pc' := 32) (by decide +kernel) rfl ak_21 rfl (by decide) rfl (Or.inr (Or.inr (Or.inr ⟨rfl, rfl⟩))) g16.1 g16.2.1 g16.2.2) ?_
      refine XE.asc ?_
      refine XE.gen (fun v17 e18 => ?_)
      refine XE.go (st_astore (j := 4) (pc' := 34) (by decide +kernel)  (by decide) rfl (by decide) rfl rfl) ?_
      refine XE.go (st_aload (j := 4) (pc' := 36) (by decide +kernel) rfl (by decide) rfl) ?_
      refine XE.bite (fun h19 => ?_) (fun h20 => ?_)
      · refine XE.go (st_ifnull_t (off := 21) (pc' := 57) (by decide +kernel) (by decide) h19 (by decide)) ?_
        refine XE.go (st_iinc (j := 3) (n := 1) (pc' := 60) (by decide +kernel) rfl rfl (by decide) rfl rfl) ?_
        refine XE.go (st_goto (off := (-36)) (pc' := 24) (by decide +kernel) (by decide)) ?_
        exact XE.pick [2, 3, 4, 0] rfl (hc10 ((w (s8.1 + 1)), s8.2))
      · refine XE.go (st_ifnull_f (off := 21) (pc' := 39) (by decide +kernel) (by decide) h20 rfl) ?_
        refine XE.go (st_aload_n (j := 0) (i := 0) (pc' := 40) (by decide +kernel) rfl rfl (by decide) rfl) ?_
        refine XE.go (st_aload (j := 4) (pc' := 42) (by decide +kernel) rfl (by decide) rfl) ?_
        refine XE.asc ?_
        refine XE.cV (pc' := 45) (st := []) (fun r hr => ct_X10_copyAll h0 r hr) (fun r hr => run_V (st := []) (by decide +kernel) co_X10_passTick_233 (ct_X10_copyAll h0 r hr) rfl h0 rfl rfl (Nat.le_of_ble_eq_true rfl)) rfl rfl (fun M21 => ?_)
        refine XE.go (st_aload_n (j := 0) (i := 0) (pc' := 46) (by decide +kernel) rfl rfl (by decide) rfl) ?_
        refine XE.go (st_aload (j := 4) (pc' := 48) (by decide +kernel) rfl (by decide) rfl) ?_
        refine XE.asc ?_
        refine XE.cV (pc' := 51) (st := []) (fun r hr => ct_X10_checkInSync h0 r hr) (fun r hr => run_V (st := []) (by decide +kernel) co_X10_passTick_237 (ct_X10_checkInSync h0 r hr) rfl h0 rfl rfl (Nat.le_of_ble_eq_true rfl)) rfl rfl (fun M22 => ?_)
        refine XE.go (st_aload_n (j := 0) (i := 0) (pc' := 52) (by decide +kernel) rfl rfl (by decide) rfl) ?_
        refine XE.go (st_aload (j := 4) (pc' := 54) (by decide +kernel) rfl (by decide) rfl) ?_
        refine XE.asc ?_
        refine XE.cV (pc' := 57) (st := []) (fun r hr => ct_X10_removeOld h0 r hr) (fun r hr => run_V (st := []) (by decide +kernel) co_X10_passTick_240 (ct_X10_removeOld h0 r hr) rfl h0 rfl rfl (Nat.le_of_ble_eq_true rfl)) rfl rfl (fun M23 => ?_)
        refine XE.go (st_iinc (j := 3) (n := 1) (pc' := 60) (by decide +kernel) rfl rfl (by decide) rfl rfl) ?_
        refine XE.go (st_goto (off := (-36)) (pc' := 24) (by decide +kernel) (by decide)) ?_
        exact XE.pick [2, 3, 4, 0] rfl (hc10 ((w (s8.1 + 1)), M23))
    · refine XE.go (st_icmp_ge_t (off := 37) (pc' := 63) (by decide +kernel) (by decide) (Int.not_lt.mp h15)) ?_
      exact XE.pick [0] rfl (he11 s8.2)
  · refine XE.go (st_aload_n (j := 0) (i := 0) (pc' := 64) (by decide +kernel) rfl rfl (by decide) rfl) ?_
    refine XE.go (st_get (pc' := 67) (by decide +kernel) rfl cls_10 fld_RX10_29 rfl rfl h0) ?_
    refine XE.gen (fun v24 e25 => ?_)
    refine XE.go (st_astore_n (j := 1) (i := 1) (pc' := 68) (by decide +kernel) rfl (by decide) rfl (by decide) rfl rfl) ?_
    refine XE.go (st_aload_n (j := 1) (i := 1) (pc' := 69) (by decide +kernel) rfl rfl (by decide) rfl) ?_
    refine XE.gd_ (fun g26 => ?_)
    refine XE.go (st_alen (k := 16) (pc' := 70) (by decide +kernel) rfl ak_16 rfl (by decide) g26) ?_
    refine XE.gen (fun v27 e28 => ?_)
    refine XE.go (st_istore_n (j := 2) (i := 2) (pc' := 71) (by decide +kernel) rfl rfl (by decide) rfl rfl) ?_
    refine XE.go (st_iconst (n := 0) (pc' := 72) (by decide +kernel) (w_eq (by decide) (by decide)) rfl) ?_
    refine XE.go (st_istore_n (j := 3) (i := 3) (pc' := 73) (by decide +kernel) rfl rfl (by decide) rfl rfl) ?_
    refine XE.pick [3, 2, 1, 0] (L' := [(0, (14, a0)), (1, (19, v24)), (2, (0, v27)), (3, (0, 0))]) rfl ?_
    refine XE.loopJ (n := 1000) (s0 := (0, t9)) (pcL := 73) (pcE := 103) (LL := fun (s29 : Int × Mm) => [(0, (14, a0)), (1, (19, v24)), (2, (0, v27)), (3, (0, s29.1))]) (sL := fun _ => []) (ML := fun (s29 : Int × Mm) => s29.2) (LE := fun (t30 : Mm) => [(0, (14, a0))]) (sE := fun _ => []) (ME := fun (t30 : Mm) => t30) (fun kk34 hc31 he32 s29 => ?_) (fun t30 => ?_)
    · unfold b_X10_passTick_73
      refine XE.go (st_iload_n (j := 3) (i := 3) (pc' := 74) (by decide +kernel) rfl rfl rfl) ?_
      refine XE.go (st_iload_n (j := 2) (i := 2) (pc' := 75) (by decide +kernel) rfl rfl rfl) ?_
      refine XE.bite (fun h35 => ?_) (fun h36 => ?_)
      · refine XE.go (st_icmp_ge_f (off := 28) (pc' := 78) (by decide +kernel) 103 (by decide) rfl (Int.not_le.mpr h35)) ?_
        refine XE.go (st_aload_n (j := 1) (i := 1) (pc' := 79) (by decide +kernel) rfl rfl (by decide) rfl) ?_
        refine XE.go (st_iload_n (j := 3) (i := 3) (pc' := 80) (by decide +kernel) rfl rfl rfl) ?_
        refine XE.gdb (fun g37 => ?_)
        refine XE.go (st_ald (k := 16) (tp := 4) (pc' := 81) (by decide +kernel) rfl ak_16 rfl (by decide) rfl (Or.inr (Or.inr (Or.inr ⟨rfl, rfl⟩))) g37.1 g37.2.1 g37.2.2) ?_
        refine XE.asc ?_
        refine XE.gen (fun v38 e39 => ?_)
        refine XE.go (st_astore (j := 4) (pc' := 83) (by decide +kernel)  (by decide) rfl (by decide) rfl rfl) ?_
        refine XE.go (st_aload (j := 4) (pc' := 85) (by decide +kernel) rfl (by decide) rfl) ?_
        refine XE.bite (fun h40 => ?_) (fun h41 => ?_)
        · refine XE.go (st_ifnull_t (off := 12) (pc' := 97) (by decide +kernel) (by decide) h40 (by decide)) ?_
          refine XE.go (st_iinc (j := 3) (n := 1) (pc' := 100) (by decide +kernel) rfl rfl (by decide) rfl rfl) ?_
          refine XE.go (st_goto (off := (-27)) (pc' := 73) (by decide +kernel) (by decide)) ?_
          exact XE.pick [2, 3, 4, 0] rfl (hc31 ((w (s29.1 + 1)), s29.2))
        · refine XE.go (st_ifnull_f (off := 12) (pc' := 88) (by decide +kernel) (by decide) h41 rfl) ?_
          refine XE.go (st_aload (j := 4) (pc' := 90) (by decide +kernel) rfl (by decide) rfl) ?_
          refine XE.go (st_aload_n (j := 0) (i := 0) (pc' := 91) (by decide +kernel) rfl rfl (by decide) rfl) ?_
          refine XE.go (st_get (pc' := 94) (by decide +kernel) rfl cls_10 fld_RX10_70 rfl rfl h0) ?_
          refine XE.asc ?_
          refine XE.cV (pc' := 97) (st := []) (fun r hr => ct_X0_expelSilent h41 r hr) (fun r hr => run_V (st := []) (by decide +kernel) co_X10_passTick_243 (ct_X0_expelSilent h41 r hr) rfl h41 rfl rfl (Nat.le_of_ble_eq_true rfl)) rfl rfl (fun M42 => ?_)
          refine XE.go (st_iinc (j := 3) (n := 1) (pc' := 100) (by decide +kernel) rfl rfl (by decide) rfl rfl) ?_
          refine XE.go (st_goto (off := (-27)) (pc' := 73) (by decide +kernel) (by decide)) ?_
          exact XE.pick [2, 3, 4, 0] rfl (hc31 ((w (s29.1 + 1)), M42))
      · refine XE.go (st_icmp_ge_t (off := 28) (pc' := 103) (by decide +kernel) (by decide) (Int.not_lt.mp h36)) ?_
        exact XE.pick [0] rfl (he32 s29.2)
    · refine XE.go (st_aload_n (j := 0) (i := 0) (pc' := 104) (by decide +kernel) rfl rfl (by decide) rfl) ?_
      refine XE.go (st_get (pc' := 107) (by decide +kernel) rfl cls_10 fld_RX10_23 rfl rfl h0) ?_
      refine XE.gen (fun v43 e44 => ?_)
      refine XE.go (st_astore_n (j := 1) (i := 1) (pc' := 108) (by decide +kernel) rfl (by decide) rfl (by decide) rfl rfl) ?_
      refine XE.go (st_aload_n (j := 1) (i := 1) (pc' := 109) (by decide +kernel) rfl rfl (by decide) rfl) ?_
      refine XE.gd_ (fun g45 => ?_)
      refine XE.go (st_alen (k := 22) (pc' := 110) (by decide +kernel) rfl ak_22 rfl (by decide) g45) ?_
      refine XE.gen (fun v46 e47 => ?_)
      refine XE.go (st_istore_n (j := 2) (i := 2) (pc' := 111) (by decide +kernel) rfl rfl (by decide) rfl rfl) ?_
      refine XE.go (st_iconst (n := 0) (pc' := 112) (by decide +kernel) (w_eq (by decide) (by decide)) rfl) ?_
      refine XE.go (st_istore_n (j := 3) (i := 3) (pc' := 113) (by decide +kernel) rfl rfl (by decide) rfl rfl) ?_
      refine XE.pick [2, 1, 0] (L' := [(1, (25, v43)), (2, (0, v46)), (3, (0, 0))]) rfl ?_
      refine XE.loopJ (n := 1000) (s0 := (0, t30)) (pcL := 113) (pcE := 140) (LL := fun (s48 : Int × Mm) => [(1, (25, v43)), (2, (0, v46)), (3, (0, s48.1))]) (sL := fun _ => []) (ML := fun (s48 : Int × Mm) => s48.2) (LE := fun (t49 : Mm) => []) (sE := fun _ => []) (ME := fun (t49 : Mm) => t49) (fun kk53 hc50 he51 s48 => ?_) (fun t49 => ?_)
      · unfold b_X10_passTick_113
        refine XE.go (st_iload_n (j := 3) (i := 3) (pc' := 114) (by decide +kernel) rfl rfl rfl) ?_
        refine XE.go (st_iload_n (j := 2) (i := 2) (pc' := 115) (by decide +kernel) rfl rfl rfl) ?_
        refine XE.bite (fun h54 => ?_) (fun h55 => ?_)
        · refine XE.go (st_icmp_ge_f (off := 25) (pc' := 118) (by decide +kernel) 140 (by decide) rfl (Int.not_le.mpr h54)) ?_
          refine XE.go (st_aload_n (j := 1) (i := 1) (pc' := 119) (by decide +kernel) rfl rfl (by decide) rfl) ?_
          refine XE.go (st_iload_n (j := 3) (i := 3) (pc' := 120) (by decide +kernel) rfl rfl rfl) ?_
          refine XE.gdb (fun g56 => ?_)
          refine XE.go (st_ald (k := 22) (tp := 10) (pc' := 121) (by decide +kernel) rfl ak_22 rfl (by decide) rfl (Or.inr (Or.inr (Or.inr ⟨rfl, rfl⟩))) g56.1 g56.2.1 g56.2.2) ?_
          refine XE.asc ?_
          refine XE.gen (fun v57 e58 => ?_)
          refine XE.go (st_astore (j := 4) (pc' := 123) (by decide +kernel)  (by decide) rfl (by decide) rfl rfl) ?_
          refine XE.go (st_aload (j := 4) (pc' := 125) (by decide +kernel) rfl (by decide) rfl) ?_
          refine XE.bite (fun h59 => ?_) (fun h60 => ?_)
          · refine XE.go (st_ifnull_t (off := 9) (pc' := 134) (by decide +kernel) (by decide) h59 (by decide)) ?_
            refine XE.go (st_iinc (j := 3) (n := 1) (pc' := 137) (by decide +kernel) rfl rfl (by decide) rfl rfl) ?_
            refine XE.go (st_goto (off := (-24)) (pc' := 113) (by decide +kernel) (by decide)) ?_
            exact XE.pick [2, 3, 0] rfl (hc50 ((w (s48.1 + 1)), s48.2))
          · refine XE.go (st_ifnull_f (off := 9) (pc' := 128) (by decide +kernel) (by decide) h60 rfl) ?_
            refine XE.go (st_aload (j := 4) (pc' := 130) (by decide +kernel) rfl (by decide) rfl) ?_
            refine XE.go (st_iconst (n := 0) (pc' := 131) (by decide +kernel) (w_eq (by decide) (by decide)) rfl) ?_
            refine XE.asc ?_
            refine XE.goM (st_put (pc' := 134) (by decide +kernel) rfl cls_6 fld_RX10_246 rfl rfl (fun h => absurd h (by decide)) (fun h => nomatch h) h60) (fun M61 => ?_)
            refine XE.go (st_iinc (j := 3) (n := 1) (pc' := 137) (by decide +kernel) rfl rfl (by decide) rfl rfl) ?_
            refine XE.go (st_goto (off := (-24)) (pc' := 113) (by decide +kernel) (by decide)) ?_
            exact XE.pick [2, 3, 0] rfl (hc50 ((w (s48.1 + 1)), M61))
        · refine XE.go (st_icmp_ge_t (off := 25) (pc' := 140) (by decide +kernel) (by decide) (Int.not_lt.mp h55)) ?_
          exact XE.pick [] rfl (he51 s48.2)
      · exact XE.rt rfl (X_vret (by decide +kernel) rfl)
theorem ct_X10_passTick {D : Dt} {M : Mm} {a0 : Int} (h0 : a0 ≠ 0) (r : Mm) (hr : p_X10_passTick M a0 = some r) : CT D 0 mu_X10_passTick [(14, a0)] M (.inl none) r := CT.of (by decide +kernel) rfl (Nat.le_of_ble_eq_true rfl) (xe_X10_passTick h0 r hr)
def b_X10_tick_9 (a1 : Int) (a0 : Int) (s2 : Int × Mm) : Option ((Int × Mm) ⊕ (Mm)) := if s2.1 < a1 then (p_X10_passTick s2.2 a0).bind fun M10 => some (.inl ((w (s2.1 + 1)), M10)) else some (.inr s2.2)
def p_X10_tick (M : Mm) (a0 a1 : Int) : Option (Int × Int × Mm) := (p_X10_requireWithin M a1 1 30).bind (thU psT fun M1 => (lp (b_X10_tick_9 a1 a0) 1000 (0, M1)).bind fun (t3 : Mm) => some (0, (rd t3 a0 15), t3))
set_option maxRecDepth 100000 in
set_option maxHeartbeats 4000000 in
theorem xe_X10_tick {D : Dt} {M : Mm} {a0 a1 : Int} (h0 : a0 ≠ 0) : XE D 0 mu_X10_tick (ET 0) 0 [(0, (14, a0)), (1, (0, a1))] [] M (p_X10_tick M a0 a1) := by
  unfold p_X10_tick
  refine XE.go (st_iload_n (j := 1) (i := 1) (pc' := 1) (by decide +kernel) rfl rfl rfl) ?_
  refine XE.go (st_iconst (n := 1) (pc' := 2) (by decide +kernel) (w_eq (by decide) (by decide)) rfl) ?_
  refine XE.go (st_bipush (n := 30) (pc' := 4) (by decide +kernel) (by decide) (w_eq (by decide) (by decide)) rfl) ?_
  refine XE.cUg (pc' := 7) (st := []) hfT (fun r hr => ct_X10_requireWithin r hr) (fun r hr => run_S (st := []) (by decide +kernel) co_X10_tick_73 (ct_X10_requireWithin r hr) rfl rfl (Nat.le_of_ble_eq_true rfl)) rfl rfl rfl (fun M1 => ?_)
  refine XE.go (st_iconst (n := 0) (pc' := 8) (by decide +kernel) (w_eq (by decide) (by decide)) rfl) ?_
  refine XE.go (st_istore_n (j := 2) (i := 2) (pc' := 9) (by decide +kernel) rfl rfl (by decide) rfl rfl) ?_
  refine XE.pick [1, 2, 0] (L' := [(0, (14, a0)), (1, (0, a1)), (2, (0, 0))]) rfl ?_
  refine XE.loopJ (n := 1000) (s0 := (0, M1)) (pcL := 9) (pcE := 24) (LL := fun (s2 : Int × Mm) => [(0, (14, a0)), (1, (0, a1)), (2, (0, s2.1))]) (sL := fun _ => []) (ML := fun (s2 : Int × Mm) => s2.2) (LE := fun (t3 : Mm) => [(0, (14, a0))]) (sE := fun _ => []) (ME := fun (t3 : Mm) => t3) (fun kk7 hc4 he5 s2 => ?_) (fun t3 => ?_)
  · unfold b_X10_tick_9
    refine XE.go (st_iload_n (j := 2) (i := 2) (pc' := 10) (by decide +kernel) rfl rfl rfl) ?_
    refine XE.go (st_iload_n (j := 1) (i := 1) (pc' := 11) (by decide +kernel) rfl rfl rfl) ?_
    refine XE.bite (fun h8 => ?_) (fun h9 => ?_)
    · refine XE.go (st_icmp_ge_f (off := 13) (pc' := 14) (by decide +kernel) 24 (by decide) rfl (Int.not_le.mpr h8)) ?_
      refine XE.go (st_aload_n (j := 0) (i := 0) (pc' := 15) (by decide +kernel) rfl rfl (by decide) rfl) ?_
      refine XE.asc ?_
      refine XE.cV (pc' := 18) (st := []) (fun r hr => ct_X10_passTick h0 r hr) (fun r hr => run_V (st := []) (by decide +kernel) co_X10_tick_227 (ct_X10_passTick h0 r hr) rfl h0 rfl rfl (Nat.le_of_ble_eq_true rfl)) rfl rfl (fun M10 => ?_)
      refine XE.go (st_iinc (j := 2) (n := 1) (pc' := 21) (by decide +kernel) rfl rfl (by decide) rfl rfl) ?_
      refine XE.go (st_goto (off := (-12)) (pc' := 9) (by decide +kernel) (by decide)) ?_
      exact XE.pick [1, 2, 0] rfl (hc4 ((w (s2.1 + 1)), M10))
    · refine XE.go (st_icmp_ge_t (off := 13) (pc' := 24) (by decide +kernel) (by decide) (Int.not_lt.mp h9)) ?_
      exact XE.pick [0] rfl (he5 s2.2)
  · refine XE.go (st_aload_n (j := 0) (i := 0) (pc' := 25) (by decide +kernel) rfl rfl (by decide) rfl) ?_
    refine XE.go (st_get (pc' := 28) (by decide +kernel) rfl cls_10 fld_RX10_70 rfl rfl h0) ?_
    exact XE.rt rfl (X_iret (by decide +kernel) rfl)
theorem ct_X10_tick {D : Dt} {M : Mm} {a0 a1 : Int} (h0 : a0 ≠ 0) (r : (Int × Int × Mm)) (hr : p_X10_tick M a0 a1 = some r) : CT D 0 mu_X10_tick [(14, a0), (0, a1)] M (ET 0 r).1 (ET 0 r).2 := CT.of (by decide +kernel) rfl (Nat.le_of_ble_eq_true rfl) (xe_X10_tick h0 r hr)
def p_X6_init (M : Mm) (a0 a1 : Int) : Option Mm := (some (wr M a0 1 10)).bind fun M1 => (some (wr M1 a0 2 0)).bind fun M2 => (some (wr M2 a0 3 (-1))).bind fun M3 => (some (wr M3 a0 4 0)).bind fun M4 => (some (wr M4 a0 5 0)).bind fun M5 => (some (wr M5 a0 6 0)).bind fun M6 => (some (wr M6 a0 7 0)).bind fun M7 => (ala M7 13 (13500 + (a0 - 7000)) 9).bind fun M8 => (some (wr M8 a0 8 (13500 + (a0 - 7000)))).bind fun M10 => (some (wr M10 a0 0 a1)).bind fun M11 => some (M11)
set_option maxRecDepth 100000 in
set_option maxHeartbeats 4000000 in
theorem xe_X6_init {D : Dt} {M : Mm} {a0 a1 : Int} (h0 : a0 ≠ 0) : XE D 0 mu_X6_init EV 0 [(0, (10, a0)), (1, (0, a1))] [] M (p_X6_init M a0 a1) := by
  unfold p_X6_init
  refine XE.go (st_aload_n (j := 0) (i := 0) (pc' := 1) (by decide +kernel) rfl rfl (by decide) rfl) ?_
  refine XE.go (st_oinit (pc' := 4) (by decide +kernel) rfl oi_RX6_3 (by decide) (by decide) (by decide) h0) ?_
  refine XE.go (st_aload_n (j := 0) (i := 0) (pc' := 5) (by decide +kernel) rfl rfl (by decide) rfl) ?_
  refine XE.go (st_bipush (n := 10) (pc' := 7) (by decide +kernel) (by decide) (w_eq (by decide) (by decide)) rfl) ?_
  refine XE.goM (st_put (pc' := 10) (by decide +kernel) rfl cls_6 fld_RX6_9 rfl rfl (fun h => absurd h (by decide)) (fun h => nomatch h) h0) (fun M1 => ?_)
  refine XE.go (st_aload_n (j := 0) (i := 0) (pc' := 11) (by decide +kernel) rfl rfl (by decide) rfl) ?_
  refine XE.go (st_iconst (n := 0) (pc' := 12) (by decide +kernel) (w_eq (by decide) (by decide)) rfl) ?_
  refine XE.goM (st_put (pc' := 15) (by decide +kernel) rfl cls_6 fld_RX6_15 rfl rfl (fun h => absurd h (by decide)) (fun h => nomatch h) h0) (fun M2 => ?_)
  refine XE.go (st_aload_n (j := 0) (i := 0) (pc' := 16) (by decide +kernel) rfl rfl (by decide) rfl) ?_
  refine XE.go (st_iconst (n := (-1)) (pc' := 17) (by decide +kernel) (w_eq (by decide) (by decide)) rfl) ?_
  refine XE.goM (st_put (pc' := 20) (by decide +kernel) rfl cls_6 fld_RX6_18 rfl rfl (fun h => absurd h (by decide)) (fun h => nomatch h) h0) (fun M3 => ?_)
  refine XE.go (st_aload_n (j := 0) (i := 0) (pc' := 21) (by decide +kernel) rfl rfl (by decide) rfl) ?_
  refine XE.go (st_iconst (n := 0) (pc' := 22) (by decide +kernel) (w_eq (by decide) (by decide)) rfl) ?_
  refine XE.goM (st_put (pc' := 25) (by decide +kernel) rfl cls_6 fld_RX6_21 rfl rfl (fun _ => by decide) (fun h => nomatch h) h0) (fun M4 => ?_)
  refine XE.go (st_aload_n (j := 0) (i := 0) (pc' := 26) (by decide +kernel) rfl rfl (by decide) rfl) ?_
  refine XE.go (st_null (t := 4) (pc' := 27) (by decide +kernel) (by decide) rfl) ?_
  refine XE.goM (st_put (pc' := 30) (by decide +kernel) rfl cls_6 fld_RX6_25 rfl rfl (fun h => absurd h (by decide)) (fun h => nomatch h) h0) (fun M5 => ?_)
  refine XE.go (st_aload_n (j := 0) (i := 0) (pc' := 31) (by decide +kernel) rfl rfl (by decide) rfl) ?_
  refine XE.go (st_null (t := 7) (pc' := 32) (by decide +kernel) (by decide) rfl) ?_
  refine XE.goM (st_put (pc' := 35) (by decide +kernel) rfl cls_6 fld_RX6_29 rfl rfl (fun h => absurd h (by decide)) (fun h => nomatch h) h0) (fun M6 => ?_)
  refine XE.go (st_aload_n (j := 0) (i := 0) (pc' := 36) (by decide +kernel) rfl rfl (by decide) rfl) ?_
  refine XE.go (st_iconst (n := 0) (pc' := 37) (by decide +kernel) (w_eq (by decide) (by decide)) rfl) ?_
  refine XE.goM (st_put (pc' := 40) (by decide +kernel) rfl cls_6 fld_RX6_33 rfl rfl (fun h => absurd h (by decide)) (fun h => nomatch h) h0) (fun M7 => ?_)
  refine XE.go (st_aload_n (j := 0) (i := 0) (pc' := 41) (by decide +kernel) rfl rfl (by decide) rfl) ?_
  refine XE.go (st_bipush (n := 9) (pc' := 43) (by decide +kernel) (by decide) (w_eq (by decide) (by decide)) rfl) ?_
  refine XE.ala_ (fun q1 q2 q3 q4 => st_newa (atype := .int) (pc' := 45) (by decide +kernel) rfl ak_13 rfl (bg_2 97 rfl rfl) (by simp) rfl q1 q2 q3 q4 rfl) (by decide) (fun M8 h9 => ?_)
  refine XE.goM (st_put (pc' := 48) (by decide +kernel) rfl cls_6 fld_RX6_36 rfl rfl (fun h => absurd h (by decide)) (fun _ => ⟨rfl, rfl⟩) h0) (fun M10 => ?_)
  refine XE.go (st_aload_n (j := 0) (i := 0) (pc' := 49) (by decide +kernel) rfl rfl (by decide) rfl) ?_
  refine XE.go (st_iload_n (j := 1) (i := 1) (pc' := 50) (by decide +kernel) rfl rfl rfl) ?_
  refine XE.goM (st_put (pc' := 53) (by decide +kernel) rfl cls_6 fld_RX6_40 rfl rfl (fun h => absurd h (by decide)) (fun _ => ⟨rfl, rfl⟩) h0) (fun M11 => ?_)
  exact XE.rt rfl (X_vret (by decide +kernel) rfl)
theorem ct_X6_init {D : Dt} {M : Mm} {a0 a1 : Int} (h0 : a0 ≠ 0) (r : Mm) (hr : p_X6_init M a0 a1 = some r) : CT D 0 mu_X6_init [(10, a0), (0, a1)] M (.inl none) r := CT.of (by decide +kernel) rfl (Nat.le_of_ble_eq_true rfl) (xe_X6_init h0 r hr)
def p_X10_producer (M : Mm) (a0 : Int) : Option (Int × Int × Mm) := if (rd M a0 8) < 4 then (some ((rd M a0 8))).bind fun v3 => (alo M 7 (7000 + (rd M a0 8)) 9).bind fun M5 => (p_X6_init M5 (7000 + (rd M a0 8)) v3).bind fun M7 => gd (aok (rd M a0 2) v3) ((some (wr M7 (rd M a0 2) v3 (7000 + (rd M a0 8)))).bind fun M9 => (some (wr M9 a0 8 (w ((rd M9 a0 8) + 1)))).bind fun M10 => some (0, v3, M10)) else psT 3 0 (thr M)
set_option maxRecDepth 100000 in
set_option maxHeartbeats 4000000 in
theorem xe_X10_producer {D : Dt} {M : Mm} {a0 : Int} (h0 : a0 ≠ 0) : XE D 0 mu_X10_producer (ET 0) 0 [(0, (14, a0))] [] M (p_X10_producer M a0) := by
  unfold p_X10_producer
  refine XE.go (st_aload_n (j := 0) (i := 0) (pc' := 1) (by decide +kernel) rfl rfl (by decide) rfl) ?_
  refine XE.go (st_get (pc' := 4) (by decide +kernel) rfl cls_10 fld_RX10_49 rfl rfl h0) ?_
  refine XE.go (st_iconst (n := 4) (pc' := 5) (by decide +kernel) (w_eq (by decide) (by decide)) rfl) ?_
  refine XE.ite (fun h1 => ?_) (fun h2 => ?_)
  · refine XE.go (st_icmp_lt_t (off := 14) (pc' := 19) (by decide +kernel) (by decide) h1) ?_
    refine XE.go (st_aload_n (j := 0) (i := 0) (pc' := 20) (by decide +kernel) rfl rfl (by decide) rfl) ?_
    refine XE.go (st_get (pc' := 23) (by decide +kernel) rfl cls_10 fld_RX10_49 rfl rfl h0) ?_
    refine XE.gen (fun v3 e4 => ?_)
    refine XE.go (st_istore_n (j := 1) (i := 1) (pc' := 24) (by decide +kernel) rfl rfl (by decide) rfl rfl) ?_
    refine XE.go (st_aload_n (j := 0) (i := 0) (pc' := 25) (by decide +kernel) rfl rfl (by decide) rfl) ?_
    refine XE.go (st_get (pc' := 28) (by decide +kernel) rfl cls_10 fld_RX10_23 rfl rfl h0) ?_
    refine XE.go (st_iload_n (j := 1) (i := 1) (pc' := 29) (by decide +kernel) rfl rfl rfl) ?_
    refine XE.alo_ (fun q1 q2 q3 => st_new (pc' := 32) (by decide +kernel) rfl cls_6 nw_RX10_21 rfl rfl q1 q2 q3) (by decide) (fun M5 h6 => ?_)
    refine XE.go (st_dup (pc' := 33) (by decide +kernel) rfl rfl) ?_
    refine XE.go (st_iload_n (j := 1) (i := 1) (pc' := 34) (by decide +kernel) rfl rfl rfl) ?_
    refine XE.cV (pc' := 37) (st := [(10, (7000 + (rd M a0 8))), (0, v3), (25, (rd M a0 2))]) (fun r hr => ct_X6_init h6 r hr) (fun r hr => run_I (st := [(10, (7000 + (rd M a0 8))), (0, v3), (25, (rd M a0 2))]) (by decide +kernel) co_X10_producer_287 (ct_X6_init h6 r hr) (by decide) h6 rfl rfl (Nat.le_of_ble_eq_true rfl)) rfl rfl (fun M7 => ?_)
    refine XE.gd_ (fun g8 => ?_)
    refine XE.goM (st_aast (pc' := 38) (by decide +kernel) rfl ak_22 cls_6 rfl rfl rfl g8.1 g8.2.1 g8.2.2) (fun M9 => ?_)
    refine XE.go (st_aload_n (j := 0) (i := 0) (pc' := 39) (by decide +kernel) rfl rfl (by decide) rfl) ?_
    refine XE.go (st_dup (pc' := 40) (by decide +kernel) rfl rfl) ?_
    refine XE.go (st_get (pc' := 43) (by decide +kernel) rfl cls_10 fld_RX10_49 rfl rfl h0) ?_
    refine XE.go (st_iconst (n := 1) (pc' := 44) (by decide +kernel) (w_eq (by decide) (by decide)) rfl) ?_
    refine XE.go (st_iadd (pc' := 45) (by decide +kernel) rfl) ?_
    refine XE.goM (st_put (pc' := 48) (by decide +kernel) rfl cls_10 fld_RX10_49 rfl rfl (fun h => absurd h (by decide)) (fun h => nomatch h) h0) (fun M10 => ?_)
    refine XE.go (st_iload_n (j := 1) (i := 1) (pc' := 49) (by decide +kernel) rfl rfl rfl) ?_
    exact XE.rt rfl (X_iret (by decide +kernel) rfl)
  · refine XE.go (st_icmp_lt_f (off := 14) (pc' := 8) (by decide +kernel) 19 (by decide) rfl h2) ?_
    exact XE.thrTW (by decide +kernel) (by decide +kernel) (by decide +kernel) (by decide +kernel) (by decide +kernel) thr_RX10_285 rfl (by decide) (by decide) (by decide)
theorem ct_X10_producer {D : Dt} {M : Mm} {a0 : Int} (h0 : a0 ≠ 0) (r : (Int × Int × Mm)) (hr : p_X10_producer M a0 = some r) : CT D 0 mu_X10_producer [(14, a0)] M (ET 0 r).1 (ET 0 r).2 := CT.of (by decide +kernel) rfl (Nat.le_of_ble_eq_true rfl) (xe_X10_producer h0 r hr)
def p_X10_producerOf (M : Mm) (a0 a1 : Int) : Option (Int × Int × Mm) := (if a1 < 0 then some (0) else gd ((rd M a0 2) ≠ 0) (if a1 < (ln (rd M a0 2)) then gd (aok (rd M a0 2) a1) (some ((rd M (rd M a0 2) a1))) else some (0)) : Option (Int)).bind fun (s1 : Int) => if s1 = 0 then psT 1 0 (thr M) else some (0, s1, M)
set_option maxRecDepth 100000 in
set_option maxHeartbeats 4000000 in
theorem xe_X10_producerOf {D : Dt} {M : Mm} {a0 a1 : Int} (h0 : a0 ≠ 0) : XE D 0 mu_X10_producerOf (ET 10) 0 [(0, (14, a0)), (1, (0, a1))] [] M (p_X10_producerOf M a0 a1) := by
  unfold p_X10_producerOf
  refine XE.go (st_iload_n (j := 1) (i := 1) (pc' := 1) (by decide +kernel) rfl rfl rfl) ?_
  refine XE.join (pcJ := 23) (LJ := fun (s1 : Int) => []) (sJ := fun (s1 : Int) => [(10, s1)]) (MJ := fun (s1 : Int) => M) (fun kk4 hk2 => ?_) (fun s1 => ?_)
  · refine XE.bite (fun h5 => ?_) (fun h6 => ?_)
    · refine XE.go (st_if_lt_t (off := 21) (pc' := 22) (by decide +kernel) (by decide) h5) ?_
      refine XE.go (st_null (t := 10) (pc' := 23) (by decide +kernel) (by decide) rfl) ?_
      exact XE.pick [] rfl (hk2 0)
    · refine XE.go (st_if_lt_f (off := 21) (pc' := 4) (by decide +kernel) 22 (by decide) rfl h6) ?_
      refine XE.go (st_iload_n (j := 1) (i := 1) (pc' := 5) (by decide +kernel) rfl rfl rfl) ?_
      refine XE.go (st_aload_n (j := 0) (i := 0) (pc' := 6) (by decide +kernel) rfl rfl (by decide) rfl) ?_
      refine XE.go (st_get (pc' := 9) (by decide +kernel) rfl cls_10 fld_RX10_23 rfl rfl h0) ?_
      refine XE.gdb (fun g7 => ?_)
      refine XE.go (st_alen (k := 22) (pc' := 10) (by decide +kernel) rfl ak_22 rfl (by decide) g7) ?_
      refine XE.bite (fun h8 => ?_) (fun h9 => ?_)
      · refine XE.go (st_icmp_ge_f (off := 12) (pc' := 13) (by decide +kernel) 22 (by decide) rfl (Int.not_le.mpr h8)) ?_
        refine XE.go (st_aload_n (j := 0) (i := 0) (pc' := 14) (by decide +kernel) rfl rfl (by decide) rfl) ?_
        refine XE.go (st_get (pc' := 17) (by decide +kernel) rfl cls_10 fld_RX10_23 rfl rfl h0) ?_
        refine XE.go (st_iload_n (j := 1) (i := 1) (pc' := 18) (by decide +kernel) rfl rfl rfl) ?_
        refine XE.gdb (fun g10 => ?_)
        refine XE.go (st_ald (k := 22) (tp := 10) (pc' := 19) (by decide +kernel) rfl ak_22 rfl (by decide) rfl (Or.inr (Or.inr (Or.inr ⟨rfl, rfl⟩))) g10.1 g10.2.1 g10.2.2) ?_
        refine XE.go (st_goto (off := 4) (pc' := 23) (by decide +kernel) (by decide)) ?_
        exact XE.pick [] rfl (hk2 (rd M (rd M a0 2) a1))
      · refine XE.go (st_icmp_ge_t (off := 12) (pc' := 22) (by decide +kernel) (by decide) (Int.not_lt.mp h9)) ?_
        refine XE.go (st_null (t := 10) (pc' := 23) (by decide +kernel) (by decide) rfl) ?_
        exact XE.pick [] rfl (hk2 0)
  · refine XE.go (st_astore_n (j := 2) (i := 2) (pc' := 24) (by decide +kernel) rfl (by decide) rfl (by decide) rfl rfl) ?_
    refine XE.go (st_aload_n (j := 2) (i := 2) (pc' := 25) (by decide +kernel) rfl rfl (by decide) rfl) ?_
    refine XE.ite (fun h11 => ?_) (fun h12 => ?_)
    · refine XE.go (st_ifnonnull_f (off := 14) (pc' := 28) (by decide +kernel) (by decide) h11 rfl) ?_
      exact XE.thrTW (by decide +kernel) (by decide +kernel) (by decide +kernel) (by decide +kernel) (by decide +kernel) thr_RX10_633 rfl (by decide) (by decide) (by decide)
    · refine XE.go (st_ifnonnull_t (off := 14) (pc' := 39) (by decide +kernel) (by decide) h12 (by decide)) ?_
      refine XE.go (st_aload_n (j := 2) (i := 2) (pc' := 40) (by decide +kernel) rfl rfl (by decide) rfl) ?_
      exact XE.rt rfl (X_aret (by decide +kernel) rfl (Or.inl ⟨_, rfl⟩) (by decide))
theorem ct_X10_producerOf {D : Dt} {M : Mm} {a0 a1 : Int} (h0 : a0 ≠ 0) (r : (Int × Int × Mm)) (hr : p_X10_producerOf M a0 a1 = some r) : CT D 0 mu_X10_producerOf [(14, a0), (0, a1)] M (ET 10 r).1 (ET 10 r).2 := CT.of (by decide +kernel) rfl (Nat.le_of_ble_eq_true rfl) (xe_X10_producerOf h0 r hr)
def p_X10_topicOf (M : Mm) (a0 a1 : Int) : Option (Int × Int × Mm) := (if a1 < 0 then some (0) else gd ((rd M a0 0) ≠ 0) (if a1 < (ln (rd M a0 0)) then gd (aok (rd M a0 0) a1) (some ((rd M (rd M a0 0) a1))) else some (0)) : Option (Int)).bind fun (s1 : Int) => if s1 = 0 then psT 1 0 (thr M) else some (0, s1, M)
set_option maxRecDepth 100000 in
set_option maxHeartbeats 4000000 in
theorem xe_X10_topicOf {D : Dt} {M : Mm} {a0 a1 : Int} (h0 : a0 ≠ 0) : XE D 0 mu_X10_topicOf (ET 13) 0 [(0, (14, a0)), (1, (0, a1))] [] M (p_X10_topicOf M a0 a1) := by
  unfold p_X10_topicOf
  refine XE.go (st_iload_n (j := 1) (i := 1) (pc' := 1) (by decide +kernel) rfl rfl rfl) ?_
  refine XE.join (pcJ := 23) (LJ := fun (s1 : Int) => []) (sJ := fun (s1 : Int) => [(13, s1)]) (MJ := fun (s1 : Int) => M) (fun kk4 hk2 => ?_) (fun s1 => ?_)
  · refine XE.bite (fun h5 => ?_) (fun h6 => ?_)
    · refine XE.go (st_if_lt_t (off := 21) (pc' := 22) (by decide +kernel) (by decide) h5) ?_
      refine XE.go (st_null (t := 13) (pc' := 23) (by decide +kernel) (by decide) rfl) ?_
      exact XE.pick [] rfl (hk2 0)
    · refine XE.go (st_if_lt_f (off := 21) (pc' := 4) (by decide +kernel) 22 (by decide) rfl h6) ?_
      refine XE.go (st_iload_n (j := 1) (i := 1) (pc' := 5) (by decide +kernel) rfl rfl rfl) ?_
      refine XE.go (st_aload_n (j := 0) (i := 0) (pc' := 6) (by decide +kernel) rfl rfl (by decide) rfl) ?_
      refine XE.go (st_get (pc' := 9) (by decide +kernel) rfl cls_10 fld_RX10_11 rfl rfl h0) ?_
      refine XE.gdb (fun g7 => ?_)
      refine XE.go (st_alen (k := 25) (pc' := 10) (by decide +kernel) rfl ak_25 rfl (by decide) g7) ?_
      refine XE.bite (fun h8 => ?_) (fun h9 => ?_)
      · refine XE.go (st_icmp_ge_f (off := 12) (pc' := 13) (by decide +kernel) 22 (by decide) rfl (Int.not_le.mpr h8)) ?_
        refine XE.go (st_aload_n (j := 0) (i := 0) (pc' := 14) (by decide +kernel) rfl rfl (by decide) rfl) ?_
        refine XE.go (st_get (pc' := 17) (by decide +kernel) rfl cls_10 fld_RX10_11 rfl rfl h0) ?_
        refine XE.go (st_iload_n (j := 1) (i := 1) (pc' := 18) (by decide +kernel) rfl rfl rfl) ?_
        refine XE.gdb (fun g10 => ?_)
        refine XE.go (st_ald (k := 25) (tp := 13) (pc' := 19) (by decide +kernel) rfl ak_25 rfl (by decide) rfl (Or.inr (Or.inr (Or.inr ⟨rfl, rfl⟩))) g10.1 g10.2.1 g10.2.2) ?_
        refine XE.go (st_goto (off := 4) (pc' := 23) (by decide +kernel) (by decide)) ?_
        exact XE.pick [] rfl (hk2 (rd M (rd M a0 0) a1))
      · refine XE.go (st_icmp_ge_t (off := 12) (pc' := 22) (by decide +kernel) (by decide) (Int.not_lt.mp h9)) ?_
        refine XE.go (st_null (t := 13) (pc' := 23) (by decide +kernel) (by decide) rfl) ?_
        exact XE.pick [] rfl (hk2 0)
  · refine XE.go (st_astore_n (j := 2) (i := 2) (pc' := 24) (by decide +kernel) rfl (by decide) rfl (by decide) rfl rfl) ?_
    refine XE.go (st_aload_n (j := 2) (i := 2) (pc' := 25) (by decide +kernel) rfl rfl (by decide) rfl) ?_
    refine XE.ite (fun h11 => ?_) (fun h12 => ?_)
    · refine XE.go (st_ifnonnull_f (off := 14) (pc' := 28) (by decide +kernel) (by decide) h11 rfl) ?_
      exact XE.thrTW (by decide +kernel) (by decide +kernel) (by decide +kernel) (by decide +kernel) (by decide +kernel) thr_RX10_627 rfl (by decide) (by decide) (by decide)
    · refine XE.go (st_ifnonnull_t (off := 14) (pc' := 39) (by decide +kernel) (by decide) h12 (by decide)) ?_
      refine XE.go (st_aload_n (j := 2) (i := 2) (pc' := 40) (by decide +kernel) rfl rfl (by decide) rfl) ?_
      exact XE.rt rfl (X_aret (by decide +kernel) rfl (Or.inl ⟨_, rfl⟩) (by decide))
theorem ct_X10_topicOf {D : Dt} {M : Mm} {a0 a1 : Int} (h0 : a0 ≠ 0) (r : (Int × Int × Mm)) (hr : p_X10_topicOf M a0 a1 = some r) : CT D 0 mu_X10_topicOf [(14, a0), (0, a1)] M (ET 13 r).1 (ET 13 r).2 := CT.of (by decide +kernel) rfl (Nat.le_of_ble_eq_true rfl) (xe_X10_topicOf h0 r hr)
def p_J9_floorMod_7cf53 (M : Mm) (a0 a1 : Int) : Option Int := gd (a1 ≠ 0) ((some ((irm a0 a1))).bind fun v2 => if (ixr a0 a1) < 0 then if v2 = 0 then some (v2) else some ((w (v2 + a1))) else some (v2))
set_option maxRecDepth 100000 in
set_option maxHeartbeats 4000000 in
theorem xe_J9_floorMod_7cf53 {D : Dt} {M : Mm} {a0 a1 : Int} : XE D 0 mu_J9_floorMod_7cf53 (EP 0 M) 0 [(0, (0, a0)), (1, (0, a1))] [] M (p_J9_floorMod_7cf53 M a0 a1) := by
  unfold p_J9_floorMod_7cf53
  refine XE.go (st_iload_n (j := 0) (i := 0) (pc' := 1) (by decide +kernel) rfl rfl rfl) ?_
  refine XE.go (st_iload_n (j := 1) (i := 1) (pc' := 2) (by decide +kernel) rfl rfl rfl) ?_
  refine XE.gd_ (fun g1 => ?_)
  refine XE.go (st_irem (pc' := 3) (by decide +kernel) g1 rfl) ?_
  refine XE.gen (fun v2 e3 => ?_)
  refine XE.go (st_istore_n (j := 2) (i := 2) (pc' := 4) (by decide +kernel) rfl rfl (by decide) rfl rfl) ?_
  refine XE.go (st_iload_n (j := 0) (i := 0) (pc' := 5) (by decide +kernel) rfl rfl rfl) ?_
  refine XE.go (st_iload_n (j := 1) (i := 1) (pc' := 6) (by decide +kernel) rfl rfl rfl) ?_
  refine XE.go (st_ixor (pc' := 7) (by decide +kernel) rfl) ?_
  refine XE.ite (fun h4 => ?_) (fun h5 => ?_)
  · refine XE.go (st_if_ge_f (off := 11) (pc' := 10) (by decide +kernel) 18 (by decide) rfl (Int.not_le.mpr h4)) ?_
    refine XE.go (st_iload_n (j := 2) (i := 2) (pc' := 11) (by decide +kernel) rfl rfl rfl) ?_
    refine XE.ite (fun h6 => ?_) (fun h7 => ?_)
    · refine XE.go (st_if_eq_t (off := 7) (pc' := 18) (by decide +kernel) (by decide) h6) ?_
      refine XE.go (st_iload_n (j := 2) (i := 2) (pc' := 19) (by decide +kernel) rfl rfl rfl) ?_
      exact XE.rt rfl (X_iret (by decide +kernel) rfl)
    · refine XE.go (st_if_eq_f (off := 7) (pc' := 14) (by decide +kernel) 18 (by decide) rfl h7) ?_
      refine XE.go (st_iload_n (j := 2) (i := 2) (pc' := 15) (by decide +kernel) rfl rfl rfl) ?_
      refine XE.go (st_iload_n (j := 1) (i := 1) (pc' := 16) (by decide +kernel) rfl rfl rfl) ?_
      refine XE.go (st_iadd (pc' := 17) (by decide +kernel) rfl) ?_
      exact XE.rt rfl (X_iret (by decide +kernel) rfl)
  · refine XE.go (st_if_ge_t (off := 11) (pc' := 18) (by decide +kernel) (by decide) (Int.not_lt.mp h5)) ?_
    refine XE.go (st_iload_n (j := 2) (i := 2) (pc' := 19) (by decide +kernel) rfl rfl rfl) ?_
    exact XE.rt rfl (X_iret (by decide +kernel) rfl)
theorem ct_J9_floorMod_7cf53 {D : Dt} {M : Mm} {a0 a1 : Int} (r : Int) (hr : p_J9_floorMod_7cf53 M a0 a1 = some r) : CT D 0 mu_J9_floorMod_7cf53 [(0, a0), (0, a1)] M (.inl (some (0, r))) M := CT.of (by decide +kernel) rfl (Nat.le_of_ble_eq_true rfl) (xe_J9_floorMod_7cf53 r hr)
def p_X9_partitionFor (M : Mm) (a0 a1 : Int) : Option Int := (if 1 < (rd M a0 1) then (p_J9_floorMod_7cf53 M a1 (rd M a0 1)).bind fun r7 => some (r7) else some (0) : Option (Int)).bind fun (s1 : Int) => gd ((rd M a0 4) ≠ 0) (if s1 < (ln (rd M a0 4)) then gd (aok (rd M a0 4) s1) (some ((rd M (rd M a0 4) s1))) else some (0))
set_option maxRecDepth 100000 in
set_option maxHeartbeats 4000000 in
theorem xe_X9_partitionFor {D : Dt} {M : Mm} {a0 a1 : Int} (h0 : a0 ≠ 0) : XE D 0 mu_X9_partitionFor (EP 9 M) 0 [(0, (13, a0)), (1, (0, a1))] [] M (p_X9_partitionFor M a0 a1) := by
  unfold p_X9_partitionFor
  refine XE.go (st_aload_n (j := 0) (i := 0) (pc' := 1) (by decide +kernel) rfl rfl (by decide) rfl) ?_
  refine XE.go (st_get (pc' := 4) (by decide +kernel) rfl cls_9 fld_RX9_27 rfl rfl h0) ?_
  refine XE.go (st_iconst (n := 1) (pc' := 5) (by decide +kernel) (w_eq (by decide) (by decide)) rfl) ?_
  refine XE.join (pcJ := 20) (LJ := fun (s1 : Int) => [(0, (13, a0))]) (sJ := fun (s1 : Int) => [(0, s1)]) (MJ := fun (s1 : Int) => M) (fun kk4 hk2 => ?_) (fun s1 => ?_)
  · refine XE.bite (fun h5 => ?_) (fun h6 => ?_)
    · refine XE.go (st_icmp_le_f (off := 14) (pc' := 8) (by decide +kernel) 19 (by decide) rfl (Int.not_le.mpr h5)) ?_
      refine XE.go (st_iload_n (j := 1) (i := 1) (pc' := 9) (by decide +kernel) rfl rfl rfl) ?_
      refine XE.go (st_aload_n (j := 0) (i := 0) (pc' := 10) (by decide +kernel) rfl rfl (by decide) rfl) ?_
      refine XE.go (st_get (pc' := 13) (by decide +kernel) rfl cls_9 fld_RX9_27 rfl rfl h0) ?_
      refine XE.asc ?_
      refine XE.cP (pc' := 16) (st := []) (fun r hr => ct_J9_floorMod_7cf53 r hr) (fun r hr => run_S (st := []) (by decide +kernel) co_X9_partitionFor_37 (ct_J9_floorMod_7cf53 r hr) rfl rfl (Nat.le_of_ble_eq_true rfl)) rfl rfl (fun r7 => ?_)
      refine XE.go (st_goto (off := 4) (pc' := 20) (by decide +kernel) (by decide)) ?_
      exact XE.pick [0] rfl (hk2 r7)
    · refine XE.go (st_icmp_le_t (off := 14) (pc' := 19) (by decide +kernel) (by decide) (Int.not_lt.mp h6)) ?_
      refine XE.go (st_iconst (n := 0) (pc' := 20) (by decide +kernel) (w_eq (by decide) (by decide)) rfl) ?_
      exact XE.pick [0] rfl (hk2 0)
  · refine XE.go (st_istore_n (j := 2) (i := 2) (pc' := 21) (by decide +kernel) rfl rfl (by decide) rfl rfl) ?_
    refine XE.go (st_iload_n (j := 2) (i := 2) (pc' := 22) (by decide +kernel) rfl rfl rfl) ?_
    refine XE.go (st_aload_n (j := 0) (i := 0) (pc' := 23) (by decide +kernel) rfl rfl (by decide) rfl) ?_
    refine XE.go (st_get (pc' := 26) (by decide +kernel) rfl cls_9 fld_RX9_11 rfl rfl h0) ?_
    refine XE.gd_ (fun g8 => ?_)
    refine XE.go (st_alen (k := 21) (pc' := 27) (by decide +kernel) rfl ak_21 rfl (by decide) g8) ?_
    refine XE.ite (fun h9 => ?_) (fun h10 => ?_)
    · refine XE.go (st_icmp_ge_f (off := 12) (pc' := 30) (by decide +kernel) 39 (by decide) rfl (Int.not_le.mpr h9)) ?_
      refine XE.go (st_aload_n (j := 0) (i := 0) (pc' := 31) (by decide +kernel) rfl rfl (by decide) rfl) ?_
      refine XE.go (st_get (pc' := 34) (by decide +kernel) rfl cls_9 fld_RX9_11 rfl rfl h0) ?_
      refine XE.go (st_iload_n (j := 2) (i := 2) (pc' := 35) (by decide +kernel) rfl rfl rfl) ?_
      refine XE.gd_ (fun g11 => ?_)
      refine XE.go (st_ald (k := 21) (tp := 9) (pc' := 36) (by decide +kernel) rfl ak_21 rfl (by decide) rfl (Or.inr (Or.inr (Or.inr ⟨rfl, rfl⟩))) g11.1 g11.2.1 g11.2.2) ?_
      refine XE.go (st_goto (off := 4) (pc' := 40) (by decide +kernel) (by decide)) ?_
      exact XE.rt rfl (X_aret (by decide +kernel) rfl (Or.inl ⟨_, rfl⟩) (by decide))
    · refine XE.go (st_icmp_ge_t (off := 12) (pc' := 39) (by decide +kernel) (by decide) (Int.not_lt.mp h10)) ?_
      refine XE.go (st_null (t := 9) (pc' := 40) (by decide +kernel) (by decide) rfl) ?_
      exact XE.rt rfl (X_aret (by decide +kernel) rfl (Or.inl ⟨_, rfl⟩) (by decide))
theorem ct_X9_partitionFor {D : Dt} {M : Mm} {a0 a1 : Int} (h0 : a0 ≠ 0) (r : Int) (hr : p_X9_partitionFor M a0 a1 = some r) : CT D 0 mu_X9_partitionFor [(13, a0), (0, a1)] M (.inl (some (9, r))) M := CT.of (by decide +kernel) rfl (Nat.le_of_ble_eq_true rfl) (xe_X9_partitionFor h0 r hr)
def p_X10_canSend (M : Mm) (a0 a1 a2 : Int) : Option Int := gd (a1 ≠ 0) (if (rd M a1 2) < (rd M a1 1) then if (rd M a1 4) = 0 then if (rd M a0 10) < 150 then (p_X10_canAppend M a0 a1 a2).bind fun r8 => if r8 = 0 then some (0) else some (1) else some (0) else some (0) else some (0))
set_option maxRecDepth 100000 in
set_option maxHeartbeats 4000000 in
theorem xe_X10_canSend {D : Dt} {M : Mm} {a0 a1 a2 : Int} (h0 : a0 ≠ 0) : XE D 0 mu_X10_canSend (EP 0 M) 0 [(0, (14, a0)), (1, (10, a1)), (2, (9, a2))] [] M (p_X10_canSend M a0 a1 a2) := by
  unfold p_X10_canSend
  refine XE.go (st_aload_n (j := 1) (i := 1) (pc' := 1) (by decide +kernel) rfl rfl (by decide) rfl) ?_
  refine XE.gd_ (fun g1 => ?_)
  refine XE.go (st_get (pc' := 4) (by decide +kernel) rfl cls_6 fld_RX10_246 rfl rfl g1) ?_
  refine XE.go (st_aload_n (j := 1) (i := 1) (pc' := 5) (by decide +kernel) rfl rfl (by decide) rfl) ?_
  refine XE.go (st_get (pc' := 8) (by decide +kernel) rfl cls_6 fld_RX10_293 rfl rfl g1) ?_
  refine XE.ite (fun h2 => ?_) (fun h3 => ?_)
  · refine XE.go (st_icmp_ge_f (off := 33) (pc' := 11) (by decide +kernel) 41 (by decide) rfl (Int.not_le.mpr h2)) ?_
    refine XE.go (st_aload_n (j := 1) (i := 1) (pc' := 12) (by decide +kernel) rfl rfl (by decide) rfl) ?_
    refine XE.go (st_get (pc' := 15) (by decide +kernel) rfl cls_6 fld_RX10_212 rfl rfl g1) ?_
    refine XE.ite (fun h4 => ?_) (fun h5 => ?_)
    · refine XE.go (st_if_ne_f (off := 26) (pc' := 18) (by decide +kernel) 41 (by decide) rfl (not_not_intro h4)) ?_
      refine XE.go (st_aload_n (j := 0) (i := 0) (pc' := 19) (by decide +kernel) rfl rfl (by decide) rfl) ?_
      refine XE.go (st_get (pc' := 22) (by decide +kernel) rfl cls_10 fld_RX10_55 rfl rfl h0) ?_
      refine XE.go (st_sipush (n := 150) (pc' := 25) (by decide +kernel) (by decide) (w_eq (by decide) (by decide)) rfl) ?_
      refine XE.ite (fun h6 => ?_) (fun h7 => ?_)
      · refine XE.go (st_icmp_ge_f (off := 16) (pc' := 28) (by decide +kernel) 41 (by decide) rfl (Int.not_le.mpr h6)) ?_
        refine XE.go (st_aload_n (j := 0) (i := 0) (pc' := 29) (by decide +kernel) rfl rfl (by decide) rfl) ?_
        refine XE.go (st_aload_n (j := 1) (i := 1) (pc' := 30) (by decide +kernel) rfl rfl (by decide) rfl) ?_
        refine XE.go (st_aload_n (j := 2) (i := 2) (pc' := 31) (by decide +kernel) rfl rfl (by decide) rfl) ?_
        refine XE.cP (pc' := 34) (st := []) (fun r hr => ct_X10_canAppend h0 r hr) (fun r hr => run_V (st := []) (by decide +kernel) co_X10_canSend_252 (ct_X10_canAppend h0 r hr) rfl h0 rfl rfl (Nat.le_of_ble_eq_true rfl)) rfl rfl (fun r8 => ?_)
        refine XE.ite (fun h9 => ?_) (fun h10 => ?_)
        · refine XE.go (st_if_eq_t (off := 7) (pc' := 41) (by decide +kernel) (by decide) h9) ?_
          refine XE.go (st_iconst (n := 0) (pc' := 42) (by decide +kernel) (w_eq (by decide) (by decide)) rfl) ?_
          exact XE.rt rfl (X_zret (by decide +kernel) rfl (by decide))
        · refine XE.go (st_if_eq_f (off := 7) (pc' := 37) (by decide +kernel) 41 (by decide) rfl h10) ?_
          refine XE.go (st_iconst (n := 1) (pc' := 38) (by decide +kernel) (w_eq (by decide) (by decide)) rfl) ?_
          refine XE.go (st_goto (off := 4) (pc' := 42) (by decide +kernel) (by decide)) ?_
          exact XE.rt rfl (X_zret (by decide +kernel) rfl (by decide))
      · refine XE.go (st_icmp_ge_t (off := 16) (pc' := 41) (by decide +kernel) (by decide) (Int.not_lt.mp h7)) ?_
        refine XE.go (st_iconst (n := 0) (pc' := 42) (by decide +kernel) (w_eq (by decide) (by decide)) rfl) ?_
        exact XE.rt rfl (X_zret (by decide +kernel) rfl (by decide))
    · refine XE.go (st_if_ne_t (off := 26) (pc' := 41) (by decide +kernel) (by decide) h5) ?_
      refine XE.go (st_iconst (n := 0) (pc' := 42) (by decide +kernel) (w_eq (by decide) (by decide)) rfl) ?_
      exact XE.rt rfl (X_zret (by decide +kernel) rfl (by decide))
  · refine XE.go (st_icmp_ge_t (off := 33) (pc' := 41) (by decide +kernel) (by decide) (Int.not_lt.mp h3)) ?_
    refine XE.go (st_iconst (n := 0) (pc' := 42) (by decide +kernel) (w_eq (by decide) (by decide)) rfl) ?_
    exact XE.rt rfl (X_zret (by decide +kernel) rfl (by decide))
theorem ct_X10_canSend {D : Dt} {M : Mm} {a0 a1 a2 : Int} (h0 : a0 ≠ 0) (r : Int) (hr : p_X10_canSend M a0 a1 a2 = some r) : CT D 0 mu_X10_canSend [(14, a0), (10, a1), (9, a2)] M (.inl (some (0, r))) M := CT.of (by decide +kernel) rfl (Nat.le_of_ble_eq_true rfl) (xe_X10_canSend h0 r hr)
def p_X4_init (M : Mm) (a0 a1 a2 a3 a4 a5 a6 a7 : Int) : Option Mm := (some (wr M a0 7 0)).bind fun M1 => (some (wr M1 a0 9 (-1))).bind fun M2 => (some (wr M2 a0 10 (-1))).bind fun M3 => (some (wr M3 a0 0 a1)).bind fun M4 => (some (wr M4 a0 1 a2)).bind fun M5 => (some (wr M5 a0 2 a3)).bind fun M6 => (some (wr M6 a0 3 a4)).bind fun M7 => (some (wr M7 a0 4 a5)).bind fun M8 => (some (wr M8 a0 5 a6)).bind fun M9 => (some (wr M9 a0 6 a7)).bind fun M10 => if a7 = (-1) then (some (wr M10 a0 8 0)).bind fun M13 => some (M13) else (some (wr M10 a0 8 1)).bind fun M14 => some (M14)
set_option maxRecDepth 100000 in
set_option maxHeartbeats 4000000 in
theorem xe_X4_init {D : Dt} {M : Mm} {a0 a1 a2 a3 a4 a5 a6 a7 : Int} (h0 : a0 ≠ 0) : XE D 0 mu_X4_init EV 0 [(0, (8, a0)), (1, (0, a1)), (2, (10, a2)), (3, (9, a3)), (4, (0, a4)), (5, (0, a5)), (6, (0, a6)), (7, (0, a7))] [] M (p_X4_init M a0 a1 a2 a3 a4 a5 a6 a7) := by
  unfold p_X4_init
  refine XE.go (st_aload_n (j := 0) (i := 0) (pc' := 1) (by decide +kernel) rfl rfl (by decide) rfl) ?_
  refine XE.go (st_oinit (pc' := 4) (by decide +kernel) rfl oi_RX4_3 (by decide) (by decide) (by decide) h0) ?_
  refine XE.go (st_aload_n (j := 0) (i := 0) (pc' := 5) (by decide +kernel) rfl rfl (by decide) rfl) ?_
  refine XE.go (st_iconst (n := 0) (pc' := 6) (by decide +kernel) (w_eq (by decide) (by decide)) rfl) ?_
  refine XE.goM (st_put (pc' := 9) (by decide +kernel) rfl cls_4 fld_RX4_9 rfl rfl (fun h => absurd h (by decide)) (fun h => nomatch h) h0) (fun M1 => ?_)
  refine XE.go (st_aload_n (j := 0) (i := 0) (pc' := 10) (by decide +kernel) rfl rfl (by decide) rfl) ?_
  refine XE.go (st_iconst (n := (-1)) (pc' := 11) (by decide +kernel) (w_eq (by decide) (by decide)) rfl) ?_
  refine XE.goM (st_put (pc' := 14) (by decide +kernel) rfl cls_4 fld_RX4_15 rfl rfl (fun h => absurd h (by decide)) (fun h => nomatch h) h0) (fun M2 => ?_)
  refine XE.go (st_aload_n (j := 0) (i := 0) (pc' := 15) (by decide +kernel) rfl rfl (by decide) rfl) ?_
  refine XE.go (st_iconst (n := (-1)) (pc' := 16) (by decide +kernel) (w_eq (by decide) (by decide)) rfl) ?_
  refine XE.goM (st_put (pc' := 19) (by decide +kernel) rfl cls_4 fld_RX4_18 rfl rfl (fun h => absurd h (by decide)) (fun h => nomatch h) h0) (fun M3 => ?_)
  refine XE.go (st_aload_n (j := 0) (i := 0) (pc' := 20) (by decide +kernel) rfl rfl (by decide) rfl) ?_
  refine XE.go (st_iload_n (j := 1) (i := 1) (pc' := 21) (by decide +kernel) rfl rfl rfl) ?_
  refine XE.goM (st_put (pc' := 24) (by decide +kernel) rfl cls_4 fld_RX4_21 rfl rfl (fun h => absurd h (by decide)) (fun _ => ⟨rfl, rfl⟩) h0) (fun M4 => ?_)
  refine XE.go (st_aload_n (j := 0) (i := 0) (pc' := 25) (by decide +kernel) rfl rfl (by decide) rfl) ?_
  refine XE.go (st_aload_n (j := 2) (i := 2) (pc' := 26) (by decide +kernel) rfl rfl (by decide) rfl) ?_
  refine XE.goM (st_put (pc' := 29) (by decide +kernel) rfl cls_4 fld_RX4_24 rfl rfl (fun h => absurd h (by decide)) (fun _ => ⟨rfl, rfl⟩) h0) (fun M5 => ?_)
  refine XE.go (st_aload_n (j := 0) (i := 0) (pc' := 30) (by decide +kernel) rfl rfl (by decide) rfl) ?_
  refine XE.go (st_aload_n (j := 3) (i := 3) (pc' := 31) (by decide +kernel) rfl rfl (by decide) rfl) ?_
  refine XE.goM (st_put (pc' := 34) (by decide +kernel) rfl cls_4 fld_RX4_28 rfl rfl (fun h => absurd h (by decide)) (fun _ => ⟨rfl, rfl⟩) h0) (fun M6 => ?_)
  refine XE.go (st_aload_n (j := 0) (i := 0) (pc' := 35) (by decide +kernel) rfl rfl (by decide) rfl) ?_
  refine XE.go (st_iload (j := 4) (pc' := 37) (by decide +kernel) rfl rfl) ?_
  refine XE.goM (st_put (pc' := 40) (by decide +kernel) rfl cls_4 fld_RX4_32 rfl rfl (fun h => absurd h (by decide)) (fun _ => ⟨rfl, rfl⟩) h0) (fun M7 => ?_)
  refine XE.go (st_aload_n (j := 0) (i := 0) (pc' := 41) (by decide +kernel) rfl rfl (by decide) rfl) ?_
  refine XE.go (st_iload (j := 5) (pc' := 43) (by decide +kernel) rfl rfl) ?_
  refine XE.goM (st_put (pc' := 46) (by decide +kernel) rfl cls_4 fld_RX4_35 rfl rfl (fun h => absurd h (by decide)) (fun _ => ⟨rfl, rfl⟩) h0) (fun M8 => ?_)
  refine XE.go (st_aload_n (j := 0) (i := 0) (pc' := 47) (by decide +kernel) rfl rfl (by decide) rfl) ?_
  refine XE.go (st_iload (j := 6) (pc' := 49) (by decide +kernel) rfl rfl) ?_
  refine XE.goM (st_put (pc' := 52) (by decide +kernel) rfl cls_4 fld_RX4_38 rfl rfl (fun h => absurd h (by decide)) (fun _ => ⟨rfl, rfl⟩) h0) (fun M9 => ?_)
  refine XE.go (st_aload_n (j := 0) (i := 0) (pc' := 53) (by decide +kernel) rfl rfl (by decide) rfl) ?_
  refine XE.go (st_iload (j := 7) (pc' := 55) (by decide +kernel) rfl rfl) ?_
  refine XE.goM (st_put (pc' := 58) (by decide +kernel) rfl cls_4 fld_RX4_41 rfl rfl (fun h => absurd h (by decide)) (fun _ => ⟨rfl, rfl⟩) h0) (fun M10 => ?_)
  refine XE.go (st_aload_n (j := 0) (i := 0) (pc' := 59) (by decide +kernel) rfl rfl (by decide) rfl) ?_
  refine XE.go (st_iload (j := 7) (pc' := 61) (by decide +kernel) rfl rfl) ?_
  refine XE.go (st_iconst (n := (-1)) (pc' := 62) (by decide +kernel) (w_eq (by decide) (by decide)) rfl) ?_
  refine XE.ite (fun h11 => ?_) (fun h12 => ?_)
  · refine XE.go (st_icmp_ne_f (off := 7) (pc' := 65) (by decide +kernel) 69 (by decide) rfl (not_not_intro h11)) ?_
    refine XE.go (st_iconst (n := 0) (pc' := 66) (by decide +kernel) (w_eq (by decide) (by decide)) rfl) ?_
    refine XE.go (st_goto (off := 4) (pc' := 70) (by decide +kernel) (by decide)) ?_
    refine XE.goM (st_put (pc' := 73) (by decide +kernel) rfl cls_4 fld_RX4_44 rfl rfl (fun h => absurd h (by decide)) (fun h => nomatch h) h0) (fun M13 => ?_)
    exact XE.rt rfl (X_vret (by decide +kernel) rfl)
  · refine XE.go (st_icmp_ne_t (off := 7) (pc' := 69) (by decide +kernel) (by decide) h12) ?_
    refine XE.go (st_iconst (n := 1) (pc' := 70) (by decide +kernel) (w_eq (by decide) (by decide)) rfl) ?_
    refine XE.goM (st_put (pc' := 73) (by decide +kernel) rfl cls_4 fld_RX4_44 rfl rfl (fun h => absurd h (by decide)) (fun h => nomatch h) h0) (fun M14 => ?_)
    exact XE.rt rfl (X_vret (by decide +kernel) rfl)
theorem ct_X4_init {D : Dt} {M : Mm} {a0 a1 a2 a3 a4 a5 a6 a7 : Int} (h0 : a0 ≠ 0) (r : Mm) (hr : p_X4_init M a0 a1 a2 a3 a4 a5 a6 a7 = some r) : CT D 0 mu_X4_init [(8, a0), (0, a1), (10, a2), (9, a3), (0, a4), (0, a5), (0, a6), (0, a7)] M (.inl none) r := CT.of (by decide +kernel) rfl (Nat.le_of_ble_eq_true rfl) (xe_X4_init h0 r hr)
def p_X10_keep (M : Mm) (a0 a1 : Int) : Option Mm := if (rd M a0 10) < 150 then gd (aok (rd M a0 4) (rd M a0 10)) ((some (wr M (rd M a0 4) (rd M a0 10) a1)).bind fun M4 => (some (wr M4 a0 10 (w ((rd M4 a0 10) + 1)))).bind fun M5 => some (M5)) else some (M)
set_option maxRecDepth 100000 in
set_option maxHeartbeats 4000000 in
theorem xe_X10_keep {D : Dt} {M : Mm} {a0 a1 : Int} (h0 : a0 ≠ 0) : XE D 0 mu_X10_keep EV 0 [(0, (14, a0)), (1, (8, a1))] [] M (p_X10_keep M a0 a1) := by
  unfold p_X10_keep
  refine XE.go (st_aload_n (j := 0) (i := 0) (pc' := 1) (by decide +kernel) rfl rfl (by decide) rfl) ?_
  refine XE.go (st_get (pc' := 4) (by decide +kernel) rfl cls_10 fld_RX10_55 rfl rfl h0) ?_
  refine XE.go (st_sipush (n := 150) (pc' := 7) (by decide +kernel) (by decide) (w_eq (by decide) (by decide)) rfl) ?_
  refine XE.ite (fun h1 => ?_) (fun h2 => ?_)
  · refine XE.go (st_icmp_ge_f (off := 23) (pc' := 10) (by decide +kernel) 30 (by decide) rfl (Int.not_le.mpr h1)) ?_
    refine XE.go (st_aload_n (j := 0) (i := 0) (pc' := 11) (by decide +kernel) rfl rfl (by decide) rfl) ?_
    refine XE.go (st_get (pc' := 14) (by decide +kernel) rfl cls_10 fld_RX10_35 rfl rfl h0) ?_
    refine XE.go (st_aload_n (j := 0) (i := 0) (pc' := 15) (by decide +kernel) rfl rfl (by decide) rfl) ?_
    refine XE.go (st_get (pc' := 18) (by decide +kernel) rfl cls_10 fld_RX10_55 rfl rfl h0) ?_
    refine XE.go (st_aload_n (j := 1) (i := 1) (pc' := 19) (by decide +kernel) rfl rfl (by decide) rfl) ?_
    refine XE.gd_ (fun g3 => ?_)
    refine XE.goM (st_aast (pc' := 20) (by decide +kernel) rfl ak_20 cls_4 rfl rfl rfl g3.1 g3.2.1 g3.2.2) (fun M4 => ?_)
    refine XE.go (st_aload_n (j := 0) (i := 0) (pc' := 21) (by decide +kernel) rfl rfl (by decide) rfl) ?_
    refine XE.go (st_dup (pc' := 22) (by decide +kernel) rfl rfl) ?_
    refine XE.go (st_get (pc' := 25) (by decide +kernel) rfl cls_10 fld_RX10_55 rfl rfl h0) ?_
    refine XE.go (st_iconst (n := 1) (pc' := 26) (by decide +kernel) (w_eq (by decide) (by decide)) rfl) ?_
    refine XE.go (st_iadd (pc' := 27) (by decide +kernel) rfl) ?_
    refine XE.goM (st_put (pc' := 30) (by decide +kernel) rfl cls_10 fld_RX10_55 rfl rfl (fun h => absurd h (by decide)) (fun h => nomatch h) h0) (fun M5 => ?_)
    exact XE.rt rfl (X_vret (by decide +kernel) rfl)
  · refine XE.go (st_icmp_ge_t (off := 23) (pc' := 30) (by decide +kernel) (by decide) (Int.not_lt.mp h2)) ?_
    exact XE.rt rfl (X_vret (by decide +kernel) rfl)
theorem ct_X10_keep {D : Dt} {M : Mm} {a0 a1 : Int} (h0 : a0 ≠ 0) (r : Mm) (hr : p_X10_keep M a0 a1 = some r) : CT D 0 mu_X10_keep [(14, a0), (8, a1)] M (.inl none) r := CT.of (by decide +kernel) rfl (Nat.le_of_ble_eq_true rfl) (xe_X10_keep h0 r hr)
def p_X10_sendNow (M : Mm) (a0 a1 a2 a3 a4 : Int) : Option (Int × Mm) := (alo M 5 (5000 + (rd M a0 10)) 11).bind fun M1 => gd (a1 ≠ 0) ((p_X4_init M1 (5000 + (rd M a0 10)) (rd M1 a0 10) a1 a2 a3 a4 (-1) (rd M1 a1 3)).bind fun M4 => (some ((5000 + (rd M a0 10)))).bind fun v5 => (p_X10_keep M4 a0 v5).bind fun M7 => gd (a2 ≠ 0) ((p_X5_append M7 a2 v5 (rd M7 a0 15)).bind fun M9 => (some (wr M9 a1 2 (w ((rd M9 a1 2) + 1)))).bind fun M10 => some ((rd M10 v5 0), M10)))
set_option maxRecDepth 100000 in
set_option maxHeartbeats 4000000 in
theorem xe_X10_sendNow {D : Dt} {M : Mm} {a0 a1 a2 a3 a4 : Int} (h0 : a0 ≠ 0) : XE D 0 mu_X10_sendNow (EW 0) 0 [(0, (14, a0)), (1, (10, a1)), (2, (9, a2)), (3, (0, a3)), (4, (0, a4))] [] M (p_X10_sendNow M a0 a1 a2 a3 a4) := by
  unfold p_X10_sendNow
  refine XE.alo_ (fun q1 q2 q3 => st_new (pc' := 3) (by decide +kernel) rfl cls_4 nw_RX10_33 rfl rfl q1 q2 q3) (by decide) (fun M1 h2 => ?_)
  refine XE.go (st_dup (pc' := 4) (by decide +kernel) rfl rfl) ?_
  refine XE.go (st_aload_n (j := 0) (i := 0) (pc' := 5) (by decide +kernel) rfl rfl (by decide) rfl) ?_
  refine XE.go (st_get (pc' := 8) (by decide +kernel) rfl cls_10 fld_RX10_55 rfl rfl h0) ?_
  refine XE.go (st_aload_n (j := 1) (i := 1) (pc' := 9) (by decide +kernel) rfl rfl (by decide) rfl) ?_
  refine XE.go (st_aload_n (j := 2) (i := 2) (pc' := 10) (by decide +kernel) rfl rfl (by decide) rfl) ?_
  refine XE.go (st_iload_n (j := 3) (i := 3) (pc' := 11) (by decide +kernel) rfl rfl rfl) ?_
  refine XE.go (st_iload (j := 4) (pc' := 13) (by decide +kernel) rfl rfl) ?_
  refine XE.go (st_iconst (n := (-1)) (pc' := 14) (by decide +kernel) (w_eq (by decide) (by decide)) rfl) ?_
  refine XE.go (st_aload_n (j := 1) (i := 1) (pc' := 15) (by decide +kernel) rfl rfl (by decide) rfl) ?_
  refine XE.gd_ (fun g3 => ?_)
  refine XE.go (st_get (pc' := 18) (by decide +kernel) rfl cls_6 fld_RX10_315 rfl rfl g3) ?_
  refine XE.cV (pc' := 21) (st := [(8, (5000 + (rd M a0 10)))]) (fun r hr => ct_X4_init h2 r hr) (fun r hr => run_I (st := [(8, (5000 + (rd M a0 10)))]) (by decide +kernel) co_X10_sendNow_316 (ct_X4_init h2 r hr) (by decide) h2 rfl rfl (Nat.le_of_ble_eq_true rfl)) rfl rfl (fun M4 => ?_)
  refine XE.gen (fun v5 e6 => ?_)
  refine XE.go (st_astore (j := 5) (pc' := 23) (by decide +kernel)  (by decide) rfl (by decide) rfl rfl) ?_
  refine XE.go (st_aload_n (j := 0) (i := 0) (pc' := 24) (by decide +kernel) rfl rfl (by decide) rfl) ?_
  refine XE.go (st_aload (j := 5) (pc' := 26) (by decide +kernel) rfl (by decide) rfl) ?_
  refine XE.cV (pc' := 29) (st := []) (fun r hr => ct_X10_keep h0 r hr) (fun r hr => run_V (st := []) (by decide +kernel) co_X10_sendNow_319 (ct_X10_keep h0 r hr) rfl h0 rfl rfl (Nat.le_of_ble_eq_true rfl)) rfl rfl (fun M7 => ?_)
  refine XE.go (st_aload_n (j := 2) (i := 2) (pc' := 30) (by decide +kernel) rfl rfl (by decide) rfl) ?_
  refine XE.go (st_aload (j := 5) (pc' := 32) (by decide +kernel) rfl (by decide) rfl) ?_
  refine XE.go (st_aload_n (j := 0) (i := 0) (pc' := 33) (by decide +kernel) rfl rfl (by decide) rfl) ?_
  refine XE.go (st_get (pc' := 36) (by decide +kernel) rfl cls_10 fld_RX10_70 rfl rfl h0) ?_
  refine XE.gd_ (fun g8 => ?_)
  refine XE.cV (pc' := 39) (st := []) (fun r hr => ct_X5_append g8 r hr) (fun r hr => run_V (st := []) (by decide +kernel) co_X10_sendNow_256 (ct_X5_append g8 r hr) rfl g8 rfl rfl (Nat.le_of_ble_eq_true rfl)) rfl rfl (fun M9 => ?_)
  refine XE.go (st_aload_n (j := 1) (i := 1) (pc' := 40) (by decide +kernel) rfl rfl (by decide) rfl) ?_
  refine XE.go (st_dup (pc' := 41) (by decide +kernel) rfl rfl) ?_
  refine XE.go (st_get (pc' := 44) (by decide +kernel) rfl cls_6 fld_RX10_246 rfl rfl g3) ?_
  refine XE.go (st_iconst (n := 1) (pc' := 45) (by decide +kernel) (w_eq (by decide) (by decide)) rfl) ?_
  refine XE.go (st_iadd (pc' := 46) (by decide +kernel) rfl) ?_
  refine XE.goM (st_put (pc' := 49) (by decide +kernel) rfl cls_6 fld_RX10_246 rfl rfl (fun h => absurd h (by decide)) (fun h => nomatch h) g3) (fun M10 => ?_)
  refine XE.go (st_aload (j := 5) (pc' := 51) (by decide +kernel) rfl (by decide) rfl) ?_
  refine XE.go (st_get (pc' := 54) (by decide +kernel) rfl cls_4 fld_RX10_323 rfl rfl (by rw [e6]; exact h2)) ?_
  exact XE.rt rfl (X_iret (by decide +kernel) rfl)
theorem ct_X10_sendNow {D : Dt} {M : Mm} {a0 a1 a2 a3 a4 : Int} (h0 : a0 ≠ 0) (r : (Int × Mm)) (hr : p_X10_sendNow M a0 a1 a2 a3 a4 = some r) : CT D 0 mu_X10_sendNow [(14, a0), (10, a1), (9, a2), (0, a3), (0, a4)] M (.inl (some (0, r.1))) r.2 := CT.of (by decide +kernel) rfl (Nat.le_of_ble_eq_true rfl) (xe_X10_sendNow h0 r hr)
def p_X10_send (M : Mm) (a0 a1 a2 a3 a4 : Int) : Option (Int × Int × Mm) := (p_X10_producerOf M a0 a1).bind (thT psT fun v1 M2 => (p_X10_topicOf M2 a0 a2).bind (thT psT fun v3 M4 => gd (v3 ≠ 0) ((p_X9_partitionFor M4 v3 a3).bind fun r6 => (p_X10_requireWithin M4 a4 (-1) 999).bind (thU psT fun M7 => (p_X10_canSend M7 a0 v1 r6).bind fun r8 => if r8 = 0 then psT 3 0 (thr M7) else (p_X10_sendNow M7 a0 v1 r6 a3 a4).bind fun r11 => some (0, r11.1, r11.2)))))
set_option maxRecDepth 100000 in
set_option maxHeartbeats 4000000 in
theorem xe_X10_send {D : Dt} {M : Mm} {a0 a1 a2 a3 a4 : Int} (h0 : a0 ≠ 0) : XE D 0 mu_X10_send (ET 0) 0 [(0, (14, a0)), (1, (0, a1)), (2, (0, a2)), (3, (0, a3)), (4, (0, a4))] [] M (p_X10_send M a0 a1 a2 a3 a4) := by
  unfold p_X10_send
  refine XE.go (st_aload_n (j := 0) (i := 0) (pc' := 1) (by decide +kernel) rfl rfl (by decide) rfl) ?_
  refine XE.go (st_iload_n (j := 1) (i := 1) (pc' := 2) (by decide +kernel) rfl rfl rfl) ?_
  refine XE.cTg (pc' := 5) (st := []) hfT (fun r hr => ct_X10_producerOf h0 r hr) (fun r hr => run_V (st := []) (by decide +kernel) co_X10_send_289 (ct_X10_producerOf h0 r hr) rfl h0 rfl rfl (Nat.le_of_ble_eq_true rfl)) rfl rfl rfl (fun v1 M2 => ?_)
  refine XE.go (st_astore (j := 5) (pc' := 7) (by decide +kernel)  (by decide) rfl (by decide) rfl rfl) ?_
  refine XE.go (st_aload_n (j := 0) (i := 0) (pc' := 8) (by decide +kernel) rfl rfl (by decide) rfl) ?_
  refine XE.go (st_iload_n (j := 2) (i := 2) (pc' := 9) (by decide +kernel) rfl rfl rfl) ?_
  refine XE.cTg (pc' := 12) (st := []) hfT (fun r hr => ct_X10_topicOf h0 r hr) (fun r hr => run_V (st := []) (by decide +kernel) co_X10_send_100 (ct_X10_topicOf h0 r hr) rfl h0 rfl rfl (Nat.le_of_ble_eq_true rfl)) rfl rfl rfl (fun v3 M4 => ?_)
  refine XE.go (st_iload_n (j := 3) (i := 3) (pc' := 13) (by decide +kernel) rfl rfl rfl) ?_
  refine XE.gd_ (fun g5 => ?_)
  refine XE.cP (pc' := 16) (st := []) (fun r hr => ct_X9_partitionFor g5 r hr) (fun r hr => run_V (st := []) (by decide +kernel) co_X10_send_296 (ct_X9_partitionFor g5 r hr) rfl g5 rfl rfl (Nat.le_of_ble_eq_true rfl)) rfl rfl (fun r6 => ?_)
  refine XE.go (st_astore (j := 6) (pc' := 18) (by decide +kernel)  (by decide) rfl (by decide) rfl rfl) ?_
  refine XE.go (st_iload (j := 4) (pc' := 20) (by decide +kernel) rfl rfl) ?_
  refine XE.go (st_iconst (n := (-1)) (pc' := 21) (by decide +kernel) (w_eq (by decide) (by decide)) rfl) ?_
  refine XE.go (st_sipush (n := 999) (pc' := 24) (by decide +kernel) (by decide) (w_eq (by decide) (by decide)) rfl) ?_
  refine XE.cUg (pc' := 27) (st := []) hfT (fun r hr => ct_X10_requireWithin r hr) (fun r hr => run_S (st := []) (by decide +kernel) co_X10_send_73 (ct_X10_requireWithin r hr) rfl rfl (Nat.le_of_ble_eq_true rfl)) rfl rfl rfl (fun M7 => ?_)
  refine XE.go (st_aload_n (j := 0) (i := 0) (pc' := 28) (by decide +kernel) rfl rfl (by decide) rfl) ?_
  refine XE.go (st_aload (j := 5) (pc' := 30) (by decide +kernel) rfl (by decide) rfl) ?_
  refine XE.go (st_aload (j := 6) (pc' := 32) (by decide +kernel) rfl (by decide) rfl) ?_
  refine XE.cP (pc' := 35) (st := []) (fun r hr => ct_X10_canSend h0 r hr) (fun r hr => run_V (st := []) (by decide +kernel) co_X10_send_299 (ct_X10_canSend h0 r hr) rfl h0 rfl rfl (Nat.le_of_ble_eq_true rfl)) rfl rfl (fun r8 => ?_)
  refine XE.ite (fun h9 => ?_) (fun h10 => ?_)
  · refine XE.go (st_if_ne_f (off := 14) (pc' := 38) (by decide +kernel) 49 (by decide) rfl (not_not_intro h9)) ?_
    exact XE.thrTW (by decide +kernel) (by decide +kernel) (by decide +kernel) (by decide +kernel) (by decide +kernel) thr_RX10_302 rfl (by decide) (by decide) (by decide)
  · refine XE.go (st_if_ne_t (off := 14) (pc' := 49) (by decide +kernel) (by decide) h10) ?_
    refine XE.go (st_aload_n (j := 0) (i := 0) (pc' := 50) (by decide +kernel) rfl rfl (by decide) rfl) ?_
    refine XE.go (st_aload (j := 5) (pc' := 52) (by decide +kernel) rfl (by decide) rfl) ?_
    refine XE.go (st_aload (j := 6) (pc' := 54) (by decide +kernel) rfl (by decide) rfl) ?_
    refine XE.go (st_iload_n (j := 3) (i := 3) (pc' := 55) (by decide +kernel) rfl rfl rfl) ?_
    refine XE.go (st_iload (j := 4) (pc' := 57) (by decide +kernel) rfl rfl) ?_
    refine XE.cW (pc' := 60) (st := []) (fun r hr => ct_X10_sendNow h0 r hr) (fun r hr => run_V (st := []) (by decide +kernel) co_X10_send_304 (ct_X10_sendNow h0 r hr) rfl h0 rfl rfl (Nat.le_of_ble_eq_true rfl)) rfl rfl (fun r11 => ?_)
    exact XE.rt rfl (X_iret (by decide +kernel) rfl)
theorem ct_X10_send {D : Dt} {M : Mm} {a0 a1 a2 a3 a4 : Int} (h0 : a0 ≠ 0) (r : (Int × Int × Mm)) (hr : p_X10_send M a0 a1 a2 a3 a4 = some r) : CT D 0 mu_X10_send [(14, a0), (0, a1), (0, a2), (0, a3), (0, a4)] M (ET 0 r).1 (ET 0 r).2 := CT.of (by decide +kernel) rfl (Nat.le_of_ble_eq_true rfl) (xe_X10_send h0 r hr)
def b_X10_sendSome_28 (a3 : Int) (v3 : Int) (a0 : Int) (v1 : Int) (s6 : Int × Int × Mm) : Option ((Int × Int × Mm) ⊕ ((Int × Int × Mm) ⊕ (Mm))) := if s6.2.1 < a3 then (some ((w ((w (s6.1 * 1103515245)) + 12345)))).bind fun v34 => (some ((irm (ush v34 16) 5))).bind fun v36 => (some ((w ((w (v34 * 1103515245)) + 12345)))).bind fun v38 => (some ((irm (ush v38 16) 100))).bind fun v40 => gd (v3 ≠ 0) ((p_X9_partitionFor s6.2.2 v3 v36).bind fun r43 => (p_X10_canSend s6.2.2 a0 v1 r43).bind fun r44 => if r44 = 0 then some (.inr (.inl (0, s6.2.1, s6.2.2))) else (p_X10_sendNow s6.2.2 a0 v1 r43 v36 v40).bind fun r47 => some (.inl (v38, (w (s6.2.1 + 1)), r47.2))) else some (.inr (.inr s6.2.2))
def p_X10_sendSome (M : Mm) (a0 a1 a2 a3 a4 : Int) : Option (Int × Int × Mm) := (p_X10_producerOf M a0 a1).bind (thT psT fun v1 M2 => (p_X10_topicOf M2 a0 a2).bind (thT psT fun v3 M4 => (p_X10_requireWithin M4 a3 1 12).bind (thU psT fun M5 => (lp (b_X10_sendSome_28 a3 v3 a0 v1) 1000 (a4, 0, M5)).bind (Sum.elim some fun (t7 : Mm) => some (0, a3, t7)))))
set_option maxRecDepth 100000 in
set_option maxHeartbeats 4000000 in
theorem xe_X10_sendSome {D : Dt} {M : Mm} {a0 a1 a2 a3 a4 : Int} (h0 : a0 ≠ 0) : XE D 0 mu_X10_sendSome (ET 0) 0 [(0, (14, a0)), (1, (0, a1)), (2, (0, a2)), (3, (0, a3)), (4, (0, a4))] [] M (p_X10_sendSome M a0 a1 a2 a3 a4) := by
  unfold p_X10_sendSome
  refine XE.go (st_aload_n (j := 0) (i := 0) (pc' := 1) (by decide +kernel) rfl rfl (by decide) rfl) ?_
  refine XE.go (st_iload_n (j := 1) (i := 1) (pc' := 2) (by decide +kernel) rfl rfl rfl) ?_
  refine XE.cTg (pc' := 5) (st := []) hfT (fun r hr => ct_X10_producerOf h0 r hr) (fun r hr => run_V (st := []) (by decide +kernel) co_X10_sendSome_289 (ct_X10_producerOf h0 r hr) rfl h0 rfl rfl (Nat.le_of_ble_eq_true rfl)) rfl rfl rfl (fun v1 M2 => ?_)
  refine XE.go (st_astore (j := 5) (pc' := 7) (by decide +kernel)  (by decide) rfl (by decide) rfl rfl) ?_
  refine XE.go (st_aload_n (j := 0) (i := 0) (pc' := 8) (by decide +kernel) rfl rfl (by decide) rfl) ?_
  refine XE.go (st_iload_n (j := 2) (i := 2) (pc' := 9) (by decide +kernel) rfl rfl rfl) ?_
  refine XE.cTg (pc' := 12) (st := []) hfT (fun r hr => ct_X10_topicOf h0 r hr) (fun r hr => run_V (st := []) (by decide +kernel) co_X10_sendSome_100 (ct_X10_topicOf h0 r hr) rfl h0 rfl rfl (Nat.le_of_ble_eq_true rfl)) rfl rfl rfl (fun v3 M4 => ?_)
  refine XE.go (st_astore (j := 6) (pc' := 14) (by decide +kernel)  (by decide) rfl (by decide) rfl rfl) ?_
  refine XE.go (st_iload_n (j := 3) (i := 3) (pc' := 15) (by decide +kernel) rfl rfl rfl) ?_
  refine XE.go (st_iconst (n := 1) (pc' := 16) (by decide +kernel) (w_eq (by decide) (by decide)) rfl) ?_
  refine XE.go (st_bipush (n := 12) (pc' := 18) (by decide +kernel) (by decide) (w_eq (by decide) (by decide)) rfl) ?_
  refine XE.cUg (pc' := 21) (st := []) hfT (fun r hr => ct_X10_requireWithin r hr) (fun r hr => run_S (st := []) (by decide +kernel) co_X10_sendSome_73 (ct_X10_requireWithin r hr) rfl rfl (Nat.le_of_ble_eq_true rfl)) rfl rfl rfl (fun M5 => ?_)
  refine XE.go (st_iload (j := 4) (pc' := 23) (by decide +kernel) rfl rfl) ?_
  refine XE.go (st_istore (j := 7) (pc' := 25) (by decide +kernel)  rfl (by decide) rfl rfl) ?_
  refine XE.go (st_iconst (n := 0) (pc' := 26) (by decide +kernel) (w_eq (by decide) (by decide)) rfl) ?_
  refine XE.go (st_istore (j := 8) (pc' := 28) (by decide +kernel)  rfl (by decide) rfl rfl) ?_
  refine XE.pick [4, 7, 3, 2, 1, 0] (L' := [(0, (14, a0)), (3, (0, a3)), (5, (10, v1)), (6, (13, v3)), (7, (0, a4)), (8, (0, 0))]) rfl ?_
  refine XE.loopX (n := 1000) (s0 := (a4, 0, M5)) (pcL := 28) (pcE := 119) (LL := fun (s6 : Int × Int × Mm) => [(0, (14, a0)), (3, (0, a3)), (5, (10, v1)), (6, (13, v3)), (7, (0, s6.1)), (8, (0, s6.2.1))]) (sL := fun _ => []) (ML := fun (s6 : Int × Int × Mm) => s6.2.2) (LE := fun (t7 : Mm) => [(3, (0, a3))]) (sE := fun _ => []) (ME := fun (t7 : Mm) => t7) (fun kk31 hx30 hc28 he29 s6 => ?_) (fun t7 => ?_)
  · unfold b_X10_sendSome_28
    refine XE.go (st_iload (j := 8) (pc' := 30) (by decide +kernel) rfl rfl) ?_
    refine XE.go (st_iload_n (j := 3) (i := 3) (pc' := 31) (by decide +kernel) rfl rfl rfl) ?_
    refine XE.bite (fun h32 => ?_) (fun h33 => ?_)
    · refine XE.go (st_icmp_ge_f (off := 88) (pc' := 34) (by decide +kernel) 119 (by decide) rfl (Int.not_le.mpr h32)) ?_
      refine XE.go (st_iload (j := 7) (pc' := 36) (by decide +kernel) rfl rfl) ?_
      refine XE.go (st_ldc_w (n := 1103515245) (index := 324) (pc' := 39) (by decide +kernel) (bg_4 236 rfl rfl) (w_eq (by decide) (by decide)) rfl) ?_
      refine XE.go (st_imul (pc' := 40) (by decide +kernel) rfl) ?_
      refine XE.go (st_sipush (n := 12345) (pc' := 43) (by decide +kernel) (by decide) (w_eq (by decide) (by decide)) rfl) ?_
      refine XE.go (st_iadd (pc' := 44) (by decide +kernel) rfl) ?_
      refine XE.asc ?_
      refine XE.gen (fun v34 e35 => ?_)
      refine XE.go (st_istore (j := 7) (pc' := 46) (by decide +kernel)  rfl (by decide) rfl rfl) ?_
      refine XE.go (st_iload (j := 7) (pc' := 48) (by decide +kernel) rfl rfl) ?_
      refine XE.go (st_bipush (n := 16) (pc' := 50) (by decide +kernel) (by decide) (w_eq (by decide) (by decide)) rfl) ?_
      refine XE.go (st_iushr (pc' := 51) (by decide +kernel) rfl) ?_
      refine XE.go (st_iconst (n := 5) (pc' := 52) (by decide +kernel) (w_eq (by decide) (by decide)) rfl) ?_
      refine XE.go (st_irem (pc' := 53) (by decide +kernel) (by decide) rfl) ?_
      refine XE.asc ?_
      refine XE.gen (fun v36 e37 => ?_)
      refine XE.go (st_istore (j := 9) (pc' := 55) (by decide +kernel)  rfl (by decide) rfl rfl) ?_
      refine XE.go (st_iload (j := 7) (pc' := 57) (by decide +kernel) rfl rfl) ?_
      refine XE.go (st_ldc_w (n := 1103515245) (index := 324) (pc' := 60) (by decide +kernel) (bg_4 236 rfl rfl) (w_eq (by decide) (by decide)) rfl) ?_
      refine XE.go (st_imul (pc' := 61) (by decide +kernel) rfl) ?_
      refine XE.go (st_sipush (n := 12345) (pc' := 64) (by decide +kernel) (by decide) (w_eq (by decide) (by decide)) rfl) ?_
      refine XE.go (st_iadd (pc' := 65) (by decide +kernel) rfl) ?_
      refine XE.asc ?_
      refine XE.gen (fun v38 e39 => ?_)
      refine XE.go (st_istore (j := 7) (pc' := 67) (by decide +kernel)  rfl (by decide) rfl rfl) ?_
      refine XE.go (st_iload (j := 7) (pc' := 69) (by decide +kernel) rfl rfl) ?_
      refine XE.go (st_bipush (n := 16) (pc' := 71) (by decide +kernel) (by decide) (w_eq (by decide) (by decide)) rfl) ?_
      refine XE.go (st_iushr (pc' := 72) (by decide +kernel) rfl) ?_
      refine XE.go (st_bipush (n := 100) (pc' := 74) (by decide +kernel) (by decide) (w_eq (by decide) (by decide)) rfl) ?_
      refine XE.go (st_irem (pc' := 75) (by decide +kernel) (by decide) rfl) ?_
      refine XE.asc ?_
      refine XE.gen (fun v40 e41 => ?_)
      refine XE.go (st_istore (j := 10) (pc' := 77) (by decide +kernel)  rfl (by decide) rfl rfl) ?_
      refine XE.go (st_aload (j := 6) (pc' := 79) (by decide +kernel) rfl (by decide) rfl) ?_
      refine XE.go (st_iload (j := 9) (pc' := 81) (by decide +kernel) rfl rfl) ?_
      refine XE.gdb (fun g42 => ?_)
      refine XE.asc ?_
      refine XE.cP (pc' := 84) (st := []) (fun r hr => ct_X9_partitionFor g42 r hr) (fun r hr => run_V (st := []) (by decide +kernel) co_X10_sendSome_296 (ct_X9_partitionFor g42 r hr) rfl g42 rfl rfl (Nat.le_of_ble_eq_true rfl)) rfl rfl (fun r43 => ?_)
      refine XE.go (st_astore (j := 11) (pc' := 86) (by decide +kernel)  (by decide) rfl (by decide) rfl rfl) ?_
      refine XE.go (st_aload_n (j := 0) (i := 0) (pc' := 87) (by decide +kernel) rfl rfl (by decide) rfl) ?_
      refine XE.go (st_aload (j := 5) (pc' := 89) (by decide +kernel) rfl (by decide) rfl) ?_
      refine XE.go (st_aload (j := 11) (pc' := 91) (by decide +kernel) rfl (by decide) rfl) ?_
      refine XE.asc ?_
      refine XE.cP (pc' := 94) (st := []) (fun r hr => ct_X10_canSend h0 r hr) (fun r hr => run_V (st := []) (by decide +kernel) co_X10_sendSome_299 (ct_X10_canSend h0 r hr) rfl h0 rfl rfl (Nat.le_of_ble_eq_true rfl)) rfl rfl (fun r44 => ?_)
      refine XE.bite (fun h45 => ?_) (fun h46 => ?_)
      · refine XE.go (st_if_ne_f (off := 6) (pc' := 97) (by decide +kernel) 100 (by decide) rfl (not_not_intro h45)) ?_
        refine XE.go (st_iload (j := 8) (pc' := 99) (by decide +kernel) rfl rfl) ?_
        refine XE.cast (hx30 _) ?_
        exact XE.rt rfl (X_iret (by decide +kernel) rfl)
      · refine XE.go (st_if_ne_t (off := 6) (pc' := 100) (by decide +kernel) (by decide) h46) ?_
        refine XE.go (st_aload_n (j := 0) (i := 0) (pc' := 101) (by decide +kernel) rfl rfl (by decide) rfl) ?_
        refine XE.go (st_aload (j := 5) (pc' := 103) (by decide +kernel) rfl (by decide) rfl) ?_
        refine XE.go (st_aload (j := 11) (pc' := 105) (by decide +kernel) rfl (by decide) rfl) ?_
        refine XE.go (st_iload (j := 9) (pc' := 107) (by decide +kernel) rfl rfl) ?_
        refine XE.go (st_iload (j := 10) (pc' := 109) (by decide +kernel) rfl rfl) ?_
        refine XE.asc ?_
        refine XE.cW (pc' := 112) (st := []) (fun r hr => ct_X10_sendNow h0 r hr) (fun r hr => run_V (st := []) (by decide +kernel) co_X10_sendSome_304 (ct_X10_sendNow h0 r hr) rfl h0 rfl rfl (Nat.le_of_ble_eq_true rfl)) rfl rfl (fun r47 => ?_)
        refine XE.go (st_pop (pc' := 113) (by decide +kernel) rfl rfl) ?_
        refine XE.go (st_iinc (j := 8) (n := 1) (pc' := 116) (by decide +kernel) rfl rfl (by decide) rfl rfl) ?_
        refine XE.go (st_goto (off := (-88)) (pc' := 28) (by decide +kernel) (by decide)) ?_
        exact XE.pick [5, 6, 7, 8, 3, 0] rfl (hc28 (v38, (w (s6.2.1 + 1)), r47.2))
    · refine XE.go (st_icmp_ge_t (off := 88) (pc' := 119) (by decide +kernel) (by decide) (Int.not_lt.mp h33)) ?_
      exact XE.pick [1] rfl (he29 s6.2.2)
  · refine XE.go (st_iload_n (j := 3) (i := 3) (pc' := 120) (by decide +kernel) rfl rfl rfl) ?_
    exact XE.rt rfl (X_iret (by decide +kernel) rfl)
theorem ct_X10_sendSome {D : Dt} {M : Mm} {a0 a1 a2 a3 a4 : Int} (h0 : a0 ≠ 0) (r : (Int × Int × Mm)) (hr : p_X10_sendSome M a0 a1 a2 a3 a4 = some r) : CT D 0 mu_X10_sendSome [(14, a0), (0, a1), (0, a2), (0, a3), (0, a4)] M (ET 0 r).1 (ET 0 r).2 := CT.of (by decide +kernel) rfl (Nat.le_of_ble_eq_true rfl) (xe_X10_sendSome h0 r hr)
def b_X10_delay_23 (a0 : Int) (a1 : Int) (s7 : Int × Int × Mm) : Option ((Int × Int × Mm) ⊕ (Int × Mm)) := if s7.2.1 < 0 then some (.inr (s7.1, s7.2.2)) else gd (aok (rd s7.2.2 a0 5) s7.2.1) ((some ((rd s7.2.2 (rd s7.2.2 a0 5) s7.2.1))).bind fun v16 => if v16 = 0 then some (.inl (s7.1, (w (s7.2.1 + (-1))), s7.2.2)) else gd (a1 ≠ 0) (if (rd s7.2.2 a1 5) < (rd s7.2.2 v16 5) then gd (aok (rd s7.2.2 a0 5) (w (s7.2.1 + 1))) ((some (wr s7.2.2 (rd s7.2.2 a0 5) (w (s7.2.1 + 1)) v16)).bind fun M24 => some (.inl (s7.2.1, (w (s7.2.1 + (-1))), M24))) else some (.inl (s7.1, (w (s7.2.1 + (-1))), s7.2.2))))
def p_X10_delay (M : Mm) (a0 a1 : Int) : Option Mm := if (rd M a0 11) < 150 then (some ((rd M a0 11))).bind fun v3 => (some ((w ((rd M a0 11) - 1)))).bind fun v5 => (lp (b_X10_delay_23 a0 a1) 1000 (v3, v5, M)).bind fun (t8 : Int × Mm) => gd (aok (rd t8.2 a0 5) t8.1) ((some (wr t8.2 (rd t8.2 a0 5) t8.1 a1)).bind fun M26 => (some (wr M26 a0 11 (w ((rd M26 a0 11) + 1)))).bind fun M27 => some (M27)) else some (M)
set_option maxRecDepth 100000 in
set_option maxHeartbeats 4000000 in
theorem xe_X10_delay {D : Dt} {M : Mm} {a0 a1 : Int} (h0 : a0 ≠ 0) : XE D 0 mu_X10_delay EV 0 [(0, (14, a0)), (1, (8, a1))] [] M (p_X10_delay M a0 a1) := by
  unfold p_X10_delay
  refine XE.go (st_aload_n (j := 0) (i := 0) (pc' := 1) (by decide +kernel) rfl rfl (by decide) rfl) ?_
  refine XE.go (st_get (pc' := 4) (by decide +kernel) rfl cls_10 fld_RX10_58 rfl rfl h0) ?_
  refine XE.go (st_sipush (n := 150) (pc' := 7) (by decide +kernel) (by decide) (w_eq (by decide) (by decide)) rfl) ?_
  refine XE.ite (fun h1 => ?_) (fun h2 => ?_)
  · refine XE.go (st_icmp_lt_t (off := 4) (pc' := 11) (by decide +kernel) (by decide) h1) ?_
    refine XE.go (st_aload_n (j := 0) (i := 0) (pc' := 12) (by decide +kernel) rfl rfl (by decide) rfl) ?_
    refine XE.go (st_get (pc' := 15) (by decide +kernel) rfl cls_10 fld_RX10_58 rfl rfl h0) ?_
    refine XE.gen (fun v3 e4 => ?_)
    refine XE.go (st_istore_n (j := 2) (i := 2) (pc' := 16) (by decide +kernel) rfl rfl (by decide) rfl rfl) ?_
    refine XE.go (st_aload_n (j := 0) (i := 0) (pc' := 17) (by decide +kernel) rfl rfl (by decide) rfl) ?_
    refine XE.go (st_get (pc' := 20) (by decide +kernel) rfl cls_10 fld_RX10_58 rfl rfl h0) ?_
    refine XE.go (st_iconst (n := 1) (pc' := 21) (by decide +kernel) (w_eq (by decide) (by decide)) rfl) ?_
    refine XE.go (st_isub (pc' := 22) (by decide +kernel) rfl) ?_
    refine XE.gen (fun v5 e6 => ?_)
    refine XE.go (st_istore_n (j := 3) (i := 3) (pc' := 23) (by decide +kernel) rfl rfl (by decide) rfl rfl) ?_
    refine XE.pick [2, 3, 1, 0] (L' := [(0, (14, a0)), (1, (8, a1)), (2, (0, v3)), (3, (0, v5))]) rfl ?_
    refine XE.loopJ (n := 1000) (s0 := (v3, v5, M)) (pcL := 23) (pcE := 70) (LL := fun (s7 : Int × Int × Mm) => [(0, (14, a0)), (1, (8, a1)), (2, (0, s7.1)), (3, (0, s7.2.1))]) (sL := fun _ => []) (ML := fun (s7 : Int × Int × Mm) => s7.2.2) (LE := fun (t8 : Int × Mm) => [(0, (14, a0)), (1, (8, a1)), (2, (0, t8.1))]) (sE := fun _ => []) (ME := fun (t8 : Int × Mm) => t8.2) (fun kk12 hc9 he10 s7 => ?_) (fun t8 => ?_)
    · unfold b_X10_delay_23
      refine XE.go (st_iload_n (j := 3) (i := 3) (pc' := 24) (by decide +kernel) rfl rfl rfl) ?_
      refine XE.bite (fun h13 => ?_) (fun h14 => ?_)
      · refine XE.go (st_if_lt_t (off := 46) (pc' := 70) (by decide +kernel) (by decide) h13) ?_
        exact XE.pick [0, 1, 2] rfl (he10 (s7.1, s7.2.2))
      · refine XE.go (st_if_lt_f (off := 46) (pc' := 27) (by decide +kernel) 70 (by decide) rfl h14) ?_
        refine XE.go (st_aload_n (j := 0) (i := 0) (pc' := 28) (by decide +kernel) rfl rfl (by decide) rfl) ?_
        refine XE.go (st_get (pc' := 31) (by decide +kernel) rfl cls_10 fld_RX10_39 rfl rfl h0) ?_
        refine XE.go (st_iload_n (j := 3) (i := 3) (pc' := 32) (by decide +kernel) rfl rfl rfl) ?_
        refine XE.gdb (fun g15 => ?_)
        refine XE.go (st_ald (k := 20) (tp := 8) (pc' := 33) (by decide +kernel) rfl ak_20 rfl (by decide) rfl (Or.inr (Or.inr (Or.inr ⟨rfl, rfl⟩))) g15.1 g15.2.1 g15.2.2) ?_
        refine XE.asc ?_
        refine XE.gen (fun v16 e17 => ?_)
        refine XE.go (st_astore (j := 4) (pc' := 35) (by decide +kernel)  (by decide) rfl (by decide) rfl rfl) ?_
        refine XE.go (st_aload (j := 4) (pc' := 37) (by decide +kernel) rfl (by decide) rfl) ?_
        refine XE.bite (fun h18 => ?_) (fun h19 => ?_)
        · refine XE.go (st_ifnull_t (off := 27) (pc' := 64) (by decide +kernel) (by decide) h18 (by decide)) ?_
          refine XE.go (st_iinc (j := 3) (n := (-1)) (pc' := 67) (by decide +kernel) rfl rfl (by decide) rfl rfl) ?_
          refine XE.go (st_goto (off := (-44)) (pc' := 23) (by decide +kernel) (by decide)) ?_
          exact XE.pick [2, 3, 4, 0] rfl (hc9 (s7.1, (w (s7.2.1 + (-1))), s7.2.2))
        · refine XE.go (st_ifnull_f (off := 27) (pc' := 40) (by decide +kernel) (by decide) h19 rfl) ?_
          refine XE.go (st_aload (j := 4) (pc' := 42) (by decide +kernel) rfl (by decide) rfl) ?_
          refine XE.go (st_get (pc' := 45) (by decide +kernel) rfl cls_4 fld_RX10_249 rfl rfl h19) ?_
          refine XE.go (st_aload_n (j := 1) (i := 1) (pc' := 46) (by decide +kernel) rfl rfl (by decide) rfl) ?_
          refine XE.gdb (fun g20 => ?_)
          refine XE.go (st_get (pc' := 49) (by decide +kernel) rfl cls_4 fld_RX10_249 rfl rfl g20) ?_
          refine XE.bite (fun h21 => ?_) (fun h22 => ?_)
          · refine XE.go (st_icmp_le_f (off := 15) (pc' := 52) (by decide +kernel) 64 (by decide) rfl (Int.not_le.mpr h21)) ?_
            refine XE.go (st_aload_n (j := 0) (i := 0) (pc' := 53) (by decide +kernel) rfl rfl (by decide) rfl) ?_
            refine XE.go (st_get (pc' := 56) (by decide +kernel) rfl cls_10 fld_RX10_39 rfl rfl h0) ?_
            refine XE.go (st_iload_n (j := 3) (i := 3) (pc' := 57) (by decide +kernel) rfl rfl rfl) ?_
            refine XE.go (st_iconst (n := 1) (pc' := 58) (by decide +kernel) (w_eq (by decide) (by decide)) rfl) ?_
            refine XE.go (st_iadd (pc' := 59) (by decide +kernel) rfl) ?_
            refine XE.go (st_aload (j := 4) (pc' := 61) (by decide +kernel) rfl (by decide) rfl) ?_
            refine XE.gdb (fun g23 => ?_)
            refine XE.asc ?_
            refine XE.goM (st_aast (pc' := 62) (by decide +kernel) rfl ak_20 cls_4 rfl rfl rfl g23.1 g23.2.1 g23.2.2) (fun M24 => ?_)
            refine XE.go (st_iload_n (j := 3) (i := 3) (pc' := 63) (by decide +kernel) rfl rfl rfl) ?_
            refine XE.go (st_istore_n (j := 2) (i := 2) (pc' := 64) (by decide +kernel) rfl rfl (by decide) rfl rfl) ?_
            refine XE.go (st_iinc (j := 3) (n := (-1)) (pc' := 67) (by decide +kernel) rfl rfl (by decide) rfl rfl) ?_
            refine XE.go (st_goto (off := (-44)) (pc' := 23) (by decide +kernel) (by decide)) ?_
            exact XE.pick [3, 4, 1, 0] rfl (hc9 (s7.2.1, (w (s7.2.1 + (-1))), M24))
          · refine XE.go (st_icmp_le_t (off := 15) (pc' := 64) (by decide +kernel) (by decide) (Int.not_lt.mp h22)) ?_
            refine XE.go (st_iinc (j := 3) (n := (-1)) (pc' := 67) (by decide +kernel) rfl rfl (by decide) rfl rfl) ?_
            refine XE.go (st_goto (off := (-44)) (pc' := 23) (by decide +kernel) (by decide)) ?_
            exact XE.pick [2, 3, 4, 0] rfl (hc9 (s7.1, (w (s7.2.1 + (-1))), s7.2.2))
    · refine XE.go (st_aload_n (j := 0) (i := 0) (pc' := 71) (by decide +kernel) rfl rfl (by decide) rfl) ?_
      refine XE.go (st_get (pc' := 74) (by decide +kernel) rfl cls_10 fld_RX10_39 rfl rfl h0) ?_
      refine XE.go (st_iload_n (j := 2) (i := 2) (pc' := 75) (by decide +kernel) rfl rfl rfl) ?_
      refine XE.go (st_aload_n (j := 1) (i := 1) (pc' := 76) (by decide +kernel) rfl rfl (by decide) rfl) ?_
      refine XE.gd_ (fun g25 => ?_)
      refine XE.goM (st_aast (pc' := 77) (by decide +kernel) rfl ak_20 cls_4 rfl rfl rfl g25.1 g25.2.1 g25.2.2) (fun M26 => ?_)
      refine XE.go (st_aload_n (j := 0) (i := 0) (pc' := 78) (by decide +kernel) rfl rfl (by decide) rfl) ?_
      refine XE.go (st_dup (pc' := 79) (by decide +kernel) rfl rfl) ?_
      refine XE.go (st_get (pc' := 82) (by decide +kernel) rfl cls_10 fld_RX10_58 rfl rfl h0) ?_
      refine XE.go (st_iconst (n := 1) (pc' := 83) (by decide +kernel) (w_eq (by decide) (by decide)) rfl) ?_
      refine XE.go (st_iadd (pc' := 84) (by decide +kernel) rfl) ?_
      refine XE.goM (st_put (pc' := 87) (by decide +kernel) rfl cls_10 fld_RX10_58 rfl rfl (fun h => absurd h (by decide)) (fun h => nomatch h) h0) (fun M27 => ?_)
      exact XE.rt rfl (X_vret (by decide +kernel) rfl)
  · refine XE.go (st_icmp_lt_f (off := 4) (pc' := 10) (by decide +kernel) 11 (by decide) rfl h2) ?_
    exact XE.rt rfl (X_vret (by decide +kernel) rfl)
theorem ct_X10_delay {D : Dt} {M : Mm} {a0 a1 : Int} (h0 : a0 ≠ 0) (r : Mm) (hr : p_X10_delay M a0 a1 = some r) : CT D 0 mu_X10_delay [(14, a0), (8, a1)] M (.inl none) r := CT.of (by decide +kernel) rfl (Nat.le_of_ble_eq_true rfl) (xe_X10_delay h0 r hr)
def p_X10_sendLater (M : Mm) (a0 a1 a2 a3 a4 a5 : Int) : Option (Int × Int × Mm) := (p_X10_producerOf M a0 a1).bind (thT psT fun v1 M2 => (p_X10_topicOf M2 a0 a2).bind (thT psT fun v3 M4 => gd (v3 ≠ 0) ((p_X9_partitionFor M4 v3 a3).bind fun r6 => (p_X10_requireWithin M4 a4 (-1) 999).bind (thU psT fun M7 => (p_X10_requireWithin M7 a5 1 50).bind (thU psT fun M8 => if (rd M8 a0 10) < 150 then if r6 = 0 then psT 3 0 (thr M8) else (alo M8 5 (5000 + (rd M8 a0 10)) 11).bind fun M13 => (p_X4_init M13 (5000 + (rd M8 a0 10)) (rd M13 a0 10) v1 r6 a3 a4 (w ((rd M13 a0 15) + a5)) (-1)).bind fun M15 => (some ((5000 + (rd M8 a0 10)))).bind fun v16 => (p_X10_keep M15 a0 v16).bind fun M18 => (p_X10_delay M18 a0 v16).bind fun M19 => some (0, (rd M19 v16 0), M19) else psT 3 0 (thr M8))))))
set_option maxRecDepth 100000 in
set_option maxHeartbeats 4000000 in
theorem xe_X10_sendLater {D : Dt} {M : Mm} {a0 a1 a2 a3 a4 a5 : Int} (h0 : a0 ≠ 0) : XE D 0 mu_X10_sendLater (ET 0) 0 [(0, (14, a0)), (1, (0, a1)), (2, (0, a2)), (3, (0, a3)), (4, (0, a4)), (5, (0, a5))] [] M (p_X10_sendLater M a0 a1 a2 a3 a4 a5) := by
  unfold p_X10_sendLater
  refine XE.go (st_aload_n (j := 0) (i := 0) (pc' := 1) (by decide +kernel) rfl rfl (by decide) rfl) ?_
  refine XE.go (st_iload_n (j := 1) (i := 1) (pc' := 2) (by decide +kernel) rfl rfl rfl) ?_
  refine XE.cTg (pc' := 5) (st := []) hfT (fun r hr => ct_X10_producerOf h0 r hr) (fun r hr => run_V (st := []) (by decide +kernel) co_X10_sendLater_289 (ct_X10_producerOf h0 r hr) rfl h0 rfl rfl (Nat.le_of_ble_eq_true rfl)) rfl rfl rfl (fun v1 M2 => ?_)
  refine XE.go (st_astore (j := 6) (pc' := 7) (by decide +kernel)  (by decide) rfl (by decide) rfl rfl) ?_
  refine XE.go (st_aload_n (j := 0) (i := 0) (pc' := 8) (by decide +kernel) rfl rfl (by decide) rfl) ?_
  refine XE.go (st_iload_n (j := 2) (i := 2) (pc' := 9) (by decide +kernel) rfl rfl rfl) ?_
  refine XE.cTg (pc' := 12) (st := []) hfT (fun r hr => ct_X10_topicOf h0 r hr) (fun r hr => run_V (st := []) (by decide +kernel) co_X10_sendLater_100 (ct_X10_topicOf h0 r hr) rfl h0 rfl rfl (Nat.le_of_ble_eq_true rfl)) rfl rfl rfl (fun v3 M4 => ?_)
  refine XE.go (st_iload_n (j := 3) (i := 3) (pc' := 13) (by decide +kernel) rfl rfl rfl) ?_
  refine XE.gd_ (fun g5 => ?_)
  refine XE.cP (pc' := 16) (st := []) (fun r hr => ct_X9_partitionFor g5 r hr) (fun r hr => run_V (st := []) (by decide +kernel) co_X10_sendLater_296 (ct_X9_partitionFor g5 r hr) rfl g5 rfl rfl (Nat.le_of_ble_eq_true rfl)) rfl rfl (fun r6 => ?_)
  refine XE.go (st_astore (j := 7) (pc' := 18) (by decide +kernel)  (by decide) rfl (by decide) rfl rfl) ?_
  refine XE.go (st_iload (j := 4) (pc' := 20) (by decide +kernel) rfl rfl) ?_
  refine XE.go (st_iconst (n := (-1)) (pc' := 21) (by decide +kernel) (w_eq (by decide) (by decide)) rfl) ?_
  refine XE.go (st_sipush (n := 999) (pc' := 24) (by decide +kernel) (by decide) (w_eq (by decide) (by decide)) rfl) ?_
  refine XE.cUg (pc' := 27) (st := []) hfT (fun r hr => ct_X10_requireWithin r hr) (fun r hr => run_S (st := []) (by decide +kernel) co_X10_sendLater_73 (ct_X10_requireWithin r hr) rfl rfl (Nat.le_of_ble_eq_true rfl)) rfl rfl rfl (fun M7 => ?_)
  refine XE.go (st_iload (j := 5) (pc' := 29) (by decide +kernel) rfl rfl) ?_
  refine XE.go (st_iconst (n := 1) (pc' := 30) (by decide +kernel) (w_eq (by decide) (by decide)) rfl) ?_
  refine XE.go (st_bipush (n := 50) (pc' := 32) (by decide +kernel) (by decide) (w_eq (by decide) (by decide)) rfl) ?_
  refine XE.cUg (pc' := 35) (st := []) hfT (fun r hr => ct_X10_requireWithin r hr) (fun r hr => run_S (st := []) (by decide +kernel) co_X10_sendLater_73 (ct_X10_requireWithin r hr) rfl rfl (Nat.le_of_ble_eq_true rfl)) rfl rfl rfl (fun M8 => ?_)
  refine XE.go (st_aload_n (j := 0) (i := 0) (pc' := 36) (by decide +kernel) rfl rfl (by decide) rfl) ?_
  refine XE.go (st_get (pc' := 39) (by decide +kernel) rfl cls_10 fld_RX10_55 rfl rfl h0) ?_
  refine XE.go (st_sipush (n := 150) (pc' := 42) (by decide +kernel) (by decide) (w_eq (by decide) (by decide)) rfl) ?_
  refine XE.ite (fun h9 => ?_) (fun h10 => ?_)
  · refine XE.go (st_icmp_ge_f (off := 8) (pc' := 45) (by decide +kernel) 50 (by decide) rfl (Int.not_le.mpr h9)) ?_
    refine XE.go (st_aload (j := 7) (pc' := 47) (by decide +kernel) rfl (by decide) rfl) ?_
    refine XE.ite (fun h11 => ?_) (fun h12 => ?_)
    · refine XE.go (st_ifnonnull_f (off := 14) (pc' := 50) (by decide +kernel) (by decide) h11 rfl) ?_
      exact XE.thrTW (by decide +kernel) (by decide +kernel) (by decide +kernel) (by decide +kernel) (by decide +kernel) thr_RX10_325 rfl (by decide) (by decide) (by decide)
    · refine XE.go (st_ifnonnull_t (off := 14) (pc' := 61) (by decide +kernel) (by decide) h12 (by decide)) ?_
      refine XE.alo_ (fun q1 q2 q3 => st_new (pc' := 64) (by decide +kernel) rfl cls_4 nw_RX10_33 rfl rfl q1 q2 q3) (by decide) (fun M13 h14 => ?_)
      refine XE.go (st_dup (pc' := 65) (by decide +kernel) rfl rfl) ?_
      refine XE.go (st_aload_n (j := 0) (i := 0) (pc' := 66) (by decide +kernel) rfl rfl (by decide) rfl) ?_
      refine XE.go (st_get (pc' := 69) (by decide +kernel) rfl cls_10 fld_RX10_55 rfl rfl h0) ?_
      refine XE.go (st_aload (j := 6) (pc' := 71) (by decide +kernel) rfl (by decide) rfl) ?_
      refine XE.go (st_aload (j := 7) (pc' := 73) (by decide +kernel) rfl (by decide) rfl) ?_
      refine XE.go (st_iload_n (j := 3) (i := 3) (pc' := 74) (by decide +kernel) rfl rfl rfl) ?_
      refine XE.go (st_iload (j := 4) (pc' := 76) (by decide +kernel) rfl rfl) ?_
      refine XE.go (st_aload_n (j := 0) (i := 0) (pc' := 77) (by decide +kernel) rfl rfl (by decide) rfl) ?_
      refine XE.go (st_get (pc' := 80) (by decide +kernel) rfl cls_10 fld_RX10_70 rfl rfl h0) ?_
      refine XE.go (st_iload (j := 5) (pc' := 82) (by decide +kernel) rfl rfl) ?_
      refine XE.go (st_iadd (pc' := 83) (by decide +kernel) rfl) ?_
      refine XE.go (st_iconst (n := (-1)) (pc' := 84) (by decide +kernel) (w_eq (by decide) (by decide)) rfl) ?_
      refine XE.cV (pc' := 87) (st := [(8, (5000 + (rd M8 a0 10)))]) (fun r hr => ct_X4_init h14 r hr) (fun r hr => run_I (st := [(8, (5000 + (rd M8 a0 10)))]) (by decide +kernel) co_X10_sendLater_316 (ct_X4_init h14 r hr) (by decide) h14 rfl rfl (Nat.le_of_ble_eq_true rfl)) rfl rfl (fun M15 => ?_)
      refine XE.gen (fun v16 e17 => ?_)
      refine XE.go (st_astore (j := 8) (pc' := 89) (by decide +kernel)  (by decide) rfl (by decide) rfl rfl) ?_
      refine XE.go (st_aload_n (j := 0) (i := 0) (pc' := 90) (by decide +kernel) rfl rfl (by decide) rfl) ?_
      refine XE.go (st_aload (j := 8) (pc' := 92) (by decide +kernel) rfl (by decide) rfl) ?_
      refine XE.cV (pc' := 95) (st := []) (fun r hr => ct_X10_keep h0 r hr) (fun r hr => run_V (st := []) (by decide +kernel) co_X10_sendLater_319 (ct_X10_keep h0 r hr) rfl h0 rfl rfl (Nat.le_of_ble_eq_true rfl)) rfl rfl (fun M18 => ?_)
      refine XE.go (st_aload_n (j := 0) (i := 0) (pc' := 96) (by decide +kernel) rfl rfl (by decide) rfl) ?_
      refine XE.go (st_aload (j := 8) (pc' := 98) (by decide +kernel) rfl (by decide) rfl) ?_
      refine XE.cV (pc' := 101) (st := []) (fun r hr => ct_X10_delay h0 r hr) (fun r hr => run_V (st := []) (by decide +kernel) co_X10_sendLater_327 (ct_X10_delay h0 r hr) rfl h0 rfl rfl (Nat.le_of_ble_eq_true rfl)) rfl rfl (fun M19 => ?_)
      refine XE.go (st_aload (j := 8) (pc' := 103) (by decide +kernel) rfl (by decide) rfl) ?_
      refine XE.go (st_get (pc' := 106) (by decide +kernel) rfl cls_4 fld_RX10_323 rfl rfl (by rw [e17]; exact h14)) ?_
      exact XE.rt rfl (X_iret (by decide +kernel) rfl)
  · refine XE.go (st_icmp_ge_t (off := 8) (pc' := 50) (by decide +kernel) (by decide) (Int.not_lt.mp h10)) ?_
    exact XE.thrTW (by decide +kernel) (by decide +kernel) (by decide +kernel) (by decide +kernel) (by decide +kernel) thr_RX10_325 rfl (by decide) (by decide) (by decide)
theorem ct_X10_sendLater {D : Dt} {M : Mm} {a0 a1 a2 a3 a4 a5 : Int} (h0 : a0 ≠ 0) (r : (Int × Int × Mm)) (hr : p_X10_sendLater M a0 a1 a2 a3 a4 a5 = some r) : CT D 0 mu_X10_sendLater [(14, a0), (0, a1), (0, a2), (0, a3), (0, a4), (0, a5)] M (ET 0 r).1 (ET 0 r).2 := CT.of (by decide +kernel) rfl (Nat.le_of_ble_eq_true rfl) (xe_X10_sendLater h0 r hr)
def b_X10_resend_60 (a0 : Int) (v1 : Int) (v3 : Int) (s11 : Int × Mm) : Option ((Int × Mm) ⊕ (Mm)) := if s11.1 < (rd s11.2 a0 10) then gd (aok (rd s11.2 a0 4) s11.1) ((some ((rd s11.2 (rd s11.2 a0 4) s11.1))).bind fun v20 => if v20 = 0 then some (.inl ((w (s11.1 + 1)), s11.2)) else (p_X4_isPlainCutOf s11.2 v20 v1 v3).bind fun r24 => if r24 = 0 then some (.inl ((w (s11.1 + 1)), s11.2)) else (p_X5_append s11.2 v3 v20 (rd s11.2 a0 15)).bind fun M27 => some (.inl ((w (s11.1 + 1)), M27))) else some (.inr s11.2)
def p_X10_resend (M : Mm) (a0 a1 a2 : Int) : Option (Int × Int × Mm) := (p_X10_producerOf M a0 a1).bind (thT psT fun v1 M2 => (p_X10_partitionOf M2 a0 a2).bind (thT psT fun v3 M4 => (p_X10_plainCutCount M4 a0 v1 v3).bind fun r5 => gd (v3 ≠ 0) (if (rd M4 v3 4) = 0 then psT 3 0 (thr M4) else if 60 < (w ((rd M4 (rd M4 v3 4) 2) + r5)) then psT 3 0 (thr M4) else (lp (b_X10_resend_60 a0 v1 v3) 1000 (0, M4)).bind fun (t12 : Mm) => some (0, r5, t12))))
set_option maxRecDepth 100000 in
set_option maxHeartbeats 4000000 in
theorem xe_X10_resend {D : Dt} {M : Mm} {a0 a1 a2 : Int} (h0 : a0 ≠ 0) : XE D 0 mu_X10_resend (ET 0) 0 [(0, (14, a0)), (1, (0, a1)), (2, (0, a2))] [] M (p_X10_resend M a0 a1 a2) := by
  unfold p_X10_resend
  refine XE.go (st_aload_n (j := 0) (i := 0) (pc' := 1) (by decide +kernel) rfl rfl (by decide) rfl) ?_
  refine XE.go (st_iload_n (j := 1) (i := 1) (pc' := 2) (by decide +kernel) rfl rfl rfl) ?_
  refine XE.cTg (pc' := 5) (st := []) hfT (fun r hr => ct_X10_producerOf h0 r hr) (fun r hr => run_V (st := []) (by decide +kernel) co_X10_resend_289 (ct_X10_producerOf h0 r hr) rfl h0 rfl rfl (Nat.le_of_ble_eq_true rfl)) rfl rfl rfl (fun v1 M2 => ?_)
  refine XE.go (st_astore_n (j := 3) (i := 3) (pc' := 6) (by decide +kernel) rfl (by decide) rfl (by decide) rfl rfl) ?_
  refine XE.go (st_aload_n (j := 0) (i := 0) (pc' := 7) (by decide +kernel) rfl rfl (by decide) rfl) ?_
  refine XE.go (st_iload_n (j := 2) (i := 2) (pc' := 8) (by decide +kernel) rfl rfl rfl) ?_
  refine XE.cTg (pc' := 11) (st := []) hfT (fun r hr => ct_X10_partitionOf h0 r hr) (fun r hr => run_V (st := []) (by decide +kernel) co_X10_resend_116 (ct_X10_partitionOf h0 r hr) rfl h0 rfl rfl (Nat.le_of_ble_eq_true rfl)) rfl rfl rfl (fun v3 M4 => ?_)
  refine XE.go (st_astore (j := 4) (pc' := 13) (by decide +kernel)  (by decide) rfl (by decide) rfl rfl) ?_
  refine XE.go (st_aload_n (j := 0) (i := 0) (pc' := 14) (by decide +kernel) rfl rfl (by decide) rfl) ?_
  refine XE.go (st_aload_n (j := 3) (i := 3) (pc' := 15) (by decide +kernel) rfl rfl (by decide) rfl) ?_
  refine XE.go (st_aload (j := 4) (pc' := 17) (by decide +kernel) rfl (by decide) rfl) ?_
  refine XE.cP (pc' := 20) (st := []) (fun r hr => ct_X10_plainCutCount h0 r hr) (fun r hr => run_V (st := []) (by decide +kernel) co_X10_resend_308 (ct_X10_plainCutCount h0 r hr) rfl h0 rfl rfl (Nat.le_of_ble_eq_true rfl)) rfl rfl (fun r5 => ?_)
  refine XE.go (st_istore (j := 5) (pc' := 22) (by decide +kernel)  rfl (by decide) rfl rfl) ?_
  refine XE.go (st_aload (j := 4) (pc' := 24) (by decide +kernel) rfl (by decide) rfl) ?_
  refine XE.gd_ (fun g6 => ?_)
  refine XE.go (st_get (pc' := 27) (by decide +kernel) rfl cls_5 fld_RX10_179 rfl rfl g6) ?_
  refine XE.ite (fun h7 => ?_) (fun h8 => ?_)
  · refine XE.go (st_ifnull_t (off := 19) (pc' := 46) (by decide +kernel) (by decide) h7 (by decide)) ?_
    exact XE.thrTW (by decide +kernel) (by decide +kernel) (by decide +kernel) (by decide +kernel) (by decide +kernel) thr_RX10_330 rfl (by decide) (by decide) (by decide)
  · refine XE.go (st_ifnull_f (off := 19) (pc' := 30) (by decide +kernel) (by decide) h8 rfl) ?_
    refine XE.go (st_aload (j := 4) (pc' := 32) (by decide +kernel) rfl (by decide) rfl) ?_
    refine XE.go (st_get (pc' := 35) (by decide +kernel) rfl cls_5 fld_RX10_179 rfl rfl g6) ?_
    refine XE.go (st_get (pc' := 38) (by decide +kernel) rfl cls_7 fld_RX10_192 rfl rfl h8) ?_
    refine XE.go (st_iload (j := 5) (pc' := 40) (by decide +kernel) rfl rfl) ?_
    refine XE.go (st_iadd (pc' := 41) (by decide +kernel) rfl) ?_
    refine XE.go (st_bipush (n := 60) (pc' := 43) (by decide +kernel) (by decide) (w_eq (by decide) (by decide)) rfl) ?_
    refine XE.ite (fun h9 => ?_) (fun h10 => ?_)
    · refine XE.go (st_icmp_le_f (off := 14) (pc' := 46) (by decide +kernel) 57 (by decide) rfl (Int.not_le.mpr h9)) ?_
      exact XE.thrTW (by decide +kernel) (by decide +kernel) (by decide +kernel) (by decide +kernel) (by decide +kernel) thr_RX10_330 rfl (by decide) (by decide) (by decide)
    · refine XE.go (st_icmp_le_t (off := 14) (pc' := 57) (by decide +kernel) (by decide) (Int.not_lt.mp h10)) ?_
      refine XE.go (st_iconst (n := 0) (pc' := 58) (by decide +kernel) (w_eq (by decide) (by decide)) rfl) ?_
      refine XE.go (st_istore (j := 6) (pc' := 60) (by decide +kernel)  rfl (by decide) rfl rfl) ?_
      refine XE.pick [4, 3, 2, 1, 0] (L' := [(0, (14, a0)), (3, (10, v1)), (4, (9, v3)), (5, (0, r5)), (6, (0, 0))]) rfl ?_
      refine XE.loopJ (n := 1000) (s0 := (0, M4)) (pcL := 60) (pcE := 111) (LL := fun (s11 : Int × Mm) => [(0, (14, a0)), (3, (10, v1)), (4, (9, v3)), (5, (0, r5)), (6, (0, s11.1))]) (sL := fun _ => []) (ML := fun (s11 : Int × Mm) => s11.2) (LE := fun (t12 : Mm) => [(5, (0, r5))]) (sE := fun _ => []) (ME := fun (t12 : Mm) => t12) (fun kk16 hc13 he14 s11 => ?_) (fun t12 => ?_)
      · unfold b_X10_resend_60
        refine XE.go (st_iload (j := 6) (pc' := 62) (by decide +kernel) rfl rfl) ?_
        refine XE.go (st_aload_n (j := 0) (i := 0) (pc' := 63) (by decide +kernel) rfl rfl (by decide) rfl) ?_
        refine XE.go (st_get (pc' := 66) (by decide +kernel) rfl cls_10 fld_RX10_55 rfl rfl h0) ?_
        refine XE.bite (fun h17 => ?_) (fun h18 => ?_)
        · refine XE.go (st_icmp_ge_f (off := 45) (pc' := 69) (by decide +kernel) 111 (by decide) rfl (Int.not_le.mpr h17)) ?_
          refine XE.go (st_aload_n (j := 0) (i := 0) (pc' := 70) (by decide +kernel) rfl rfl (by decide) rfl) ?_
          refine XE.go (st_get (pc' := 73) (by decide +kernel) rfl cls_10 fld_RX10_35 rfl rfl h0) ?_
          refine XE.go (st_iload (j := 6) (pc' := 75) (by decide +kernel) rfl rfl) ?_
          refine XE.gdb (fun g19 => ?_)
          refine XE.go (st_ald (k := 20) (tp := 8) (pc' := 76) (by decide +kernel) rfl ak_20 rfl (by decide) rfl (Or.inr (Or.inr (Or.inr ⟨rfl, rfl⟩))) g19.1 g19.2.1 g19.2.2) ?_
          refine XE.asc ?_
          refine XE.gen (fun v20 e21 => ?_)
          refine XE.go (st_astore (j := 7) (pc' := 78) (by decide +kernel)  (by decide) rfl (by decide) rfl rfl) ?_
          refine XE.go (st_aload (j := 7) (pc' := 80) (by decide +kernel) rfl (by decide) rfl) ?_
          refine XE.bite (fun h22 => ?_) (fun h23 => ?_)
          · refine XE.go (st_ifnull_t (off := 25) (pc' := 105) (by decide +kernel) (by decide) h22 (by decide)) ?_
            refine XE.go (st_iinc (j := 6) (n := 1) (pc' := 108) (by decide +kernel) rfl rfl (by decide) rfl rfl) ?_
            refine XE.go (st_goto (off := (-48)) (pc' := 60) (by decide +kernel) (by decide)) ?_
            exact XE.pick [2, 3, 4, 5, 0] rfl (hc13 ((w (s11.1 + 1)), s11.2))
          · refine XE.go (st_ifnull_f (off := 25) (pc' := 83) (by decide +kernel) (by decide) h23 rfl) ?_
            refine XE.go (st_aload (j := 7) (pc' := 85) (by decide +kernel) rfl (by decide) rfl) ?_
            refine XE.go (st_aload_n (j := 3) (i := 3) (pc' := 86) (by decide +kernel) rfl rfl (by decide) rfl) ?_
            refine XE.go (st_aload (j := 4) (pc' := 88) (by decide +kernel) rfl (by decide) rfl) ?_
            refine XE.asc ?_
            refine XE.cP (pc' := 91) (st := []) (fun r hr => ct_X4_isPlainCutOf h23 r hr) (fun r hr => run_V (st := []) (by decide +kernel) co_X10_resend_312 (ct_X4_isPlainCutOf h23 r hr) rfl h23 rfl rfl (Nat.le_of_ble_eq_true rfl)) rfl rfl (fun r24 => ?_)
            refine XE.bite (fun h25 => ?_) (fun h26 => ?_)
            · refine XE.go (st_if_eq_t (off := 14) (pc' := 105) (by decide +kernel) (by decide) h25) ?_
              refine XE.go (st_iinc (j := 6) (n := 1) (pc' := 108) (by decide +kernel) rfl rfl (by decide) rfl rfl) ?_
              refine XE.go (st_goto (off := (-48)) (pc' := 60) (by decide +kernel) (by decide)) ?_
              exact XE.pick [2, 3, 4, 5, 0] rfl (hc13 ((w (s11.1 + 1)), s11.2))
            · refine XE.go (st_if_eq_f (off := 14) (pc' := 94) (by decide +kernel) 105 (by decide) rfl h26) ?_
              refine XE.go (st_aload (j := 4) (pc' := 96) (by decide +kernel) rfl (by decide) rfl) ?_
              refine XE.go (st_aload (j := 7) (pc' := 98) (by decide +kernel) rfl (by decide) rfl) ?_
              refine XE.go (st_aload_n (j := 0) (i := 0) (pc' := 99) (by decide +kernel) rfl rfl (by decide) rfl) ?_
              refine XE.go (st_get (pc' := 102) (by decide +kernel) rfl cls_10 fld_RX10_70 rfl rfl h0) ?_
              refine XE.asc ?_
              refine XE.cV (pc' := 105) (st := []) (fun r hr => ct_X5_append g6 r hr) (fun r hr => run_V (st := []) (by decide +kernel) co_X10_resend_256 (ct_X5_append g6 r hr) rfl g6 rfl rfl (Nat.le_of_ble_eq_true rfl)) rfl rfl (fun M27 => ?_)
              refine XE.go (st_iinc (j := 6) (n := 1) (pc' := 108) (by decide +kernel) rfl rfl (by decide) rfl rfl) ?_
              refine XE.go (st_goto (off := (-48)) (pc' := 60) (by decide +kernel) (by decide)) ?_
              exact XE.pick [2, 3, 4, 5, 0] rfl (hc13 ((w (s11.1 + 1)), M27))
        · refine XE.go (st_icmp_ge_t (off := 45) (pc' := 111) (by decide +kernel) (by decide) (Int.not_lt.mp h18)) ?_
          exact XE.pick [3] rfl (he14 s11.2)
      · refine XE.go (st_iload (j := 5) (pc' := 113) (by decide +kernel) rfl rfl) ?_
        exact XE.rt rfl (X_iret (by decide +kernel) rfl)
theorem ct_X10_resend {D : Dt} {M : Mm} {a0 a1 a2 : Int} (h0 : a0 ≠ 0) (r : (Int × Int × Mm)) (hr : p_X10_resend M a0 a1 a2 = some r) : CT D 0 mu_X10_resend [(14, a0), (0, a1), (0, a2)] M (ET 0 r).1 (ET 0 r).2 := CT.of (by decide +kernel) rfl (Nat.le_of_ble_eq_true rfl) (xe_X10_resend h0 r hr)
def p_X10_begin (M : Mm) (a0 a1 : Int) : Option (Int × Int × Mm) := (p_X10_producerOf M a0 a1).bind (thT psT fun v1 M2 => gd (v1 ≠ 0) (if (rd M2 v1 3) = (-1) then (some (wr M2 v1 3 (rd M2 a0 12))).bind fun M6 => (some (wr M6 a0 12 (w ((rd M6 a0 12) + 1)))).bind fun M7 => some (0, (rd M7 v1 3), M7) else psT 3 0 (thr M2)))
set_option maxRecDepth 100000 in
set_option maxHeartbeats 4000000 in
theorem xe_X10_begin {D : Dt} {M : Mm} {a0 a1 : Int} (h0 : a0 ≠ 0) : XE D 0 mu_X10_begin (ET 0) 0 [(0, (14, a0)), (1, (0, a1))] [] M (p_X10_begin M a0 a1) := by
  unfold p_X10_begin
  refine XE.go (st_aload_n (j := 0) (i := 0) (pc' := 1) (by decide +kernel) rfl rfl (by decide) rfl) ?_
  refine XE.go (st_iload_n (j := 1) (i := 1) (pc' := 2) (by decide +kernel) rfl rfl rfl) ?_
  refine XE.cTg (pc' := 5) (st := []) hfT (fun r hr => ct_X10_producerOf h0 r hr) (fun r hr => run_V (st := []) (by decide +kernel) co_X10_begin_289 (ct_X10_producerOf h0 r hr) rfl h0 rfl rfl (Nat.le_of_ble_eq_true rfl)) rfl rfl rfl (fun v1 M2 => ?_)
  refine XE.go (st_astore_n (j := 2) (i := 2) (pc' := 6) (by decide +kernel) rfl (by decide) rfl (by decide) rfl rfl) ?_
  refine XE.go (st_aload_n (j := 2) (i := 2) (pc' := 7) (by decide +kernel) rfl rfl (by decide) rfl) ?_
  refine XE.gd_ (fun g3 => ?_)
  refine XE.go (st_get (pc' := 10) (by decide +kernel) rfl cls_6 fld_RX10_315 rfl rfl g3) ?_
  refine XE.go (st_iconst (n := (-1)) (pc' := 11) (by decide +kernel) (w_eq (by decide) (by decide)) rfl) ?_
  refine XE.ite (fun h4 => ?_) (fun h5 => ?_)
  · refine XE.go (st_icmp_eq_t (off := 14) (pc' := 25) (by decide +kernel) (by decide) h4) ?_
    refine XE.go (st_aload_n (j := 2) (i := 2) (pc' := 26) (by decide +kernel) rfl rfl (by decide) rfl) ?_
    refine XE.go (st_aload_n (j := 0) (i := 0) (pc' := 27) (by decide +kernel) rfl rfl (by decide) rfl) ?_
    refine XE.go (st_get (pc' := 30) (by decide +kernel) rfl cls_10 fld_RX10_61 rfl rfl h0) ?_
    refine XE.goM (st_put (pc' := 33) (by decide +kernel) rfl cls_6 fld_RX10_315 rfl rfl (fun h => absurd h (by decide)) (fun h => nomatch h) g3) (fun M6 => ?_)
    refine XE.go (st_aload_n (j := 0) (i := 0) (pc' := 34) (by decide +kernel) rfl rfl (by decide) rfl) ?_
    refine XE.go (st_dup (pc' := 35) (by decide +kernel) rfl rfl) ?_
    refine XE.go (st_get (pc' := 38) (by decide +kernel) rfl cls_10 fld_RX10_61 rfl rfl h0) ?_
    refine XE.go (st_iconst (n := 1) (pc' := 39) (by decide +kernel) (w_eq (by decide) (by decide)) rfl) ?_
    refine XE.go (st_iadd (pc' := 40) (by decide +kernel) rfl) ?_
    refine XE.goM (st_put (pc' := 43) (by decide +kernel) rfl cls_10 fld_RX10_61 rfl rfl (fun h => absurd h (by decide)) (fun h => nomatch h) h0) (fun M7 => ?_)
    refine XE.go (st_aload_n (j := 2) (i := 2) (pc' := 44) (by decide +kernel) rfl rfl (by decide) rfl) ?_
    refine XE.go (st_get (pc' := 47) (by decide +kernel) rfl cls_6 fld_RX10_315 rfl rfl g3) ?_
    exact XE.rt rfl (X_iret (by decide +kernel) rfl)
  · refine XE.go (st_icmp_eq_f (off := 14) (pc' := 14) (by decide +kernel) 25 (by decide) rfl h5) ?_
    exact XE.thrTW (by decide +kernel) (by decide +kernel) (by decide +kernel) (by decide +kernel) (by decide +kernel) thr_RX10_332 rfl (by decide) (by decide) (by decide)
theorem ct_X10_begin {D : Dt} {M : Mm} {a0 a1 : Int} (h0 : a0 ≠ 0) (r : (Int × Int × Mm)) (hr : p_X10_begin M a0 a1 = some r) : CT D 0 mu_X10_begin [(14, a0), (0, a1)] M (ET 0 r).1 (ET 0 r).2 := CT.of (by decide +kernel) rfl (Nat.le_of_ble_eq_true rfl) (xe_X10_begin h0 r hr)
def p_X10_groupOf (M : Mm) (a0 a1 : Int) : Option (Int × Int × Mm) := (if a1 < 0 then some (0) else gd ((rd M a0 3) ≠ 0) (if a1 < (ln (rd M a0 3)) then gd (aok (rd M a0 3) a1) (some ((rd M (rd M a0 3) a1))) else some (0)) : Option (Int)).bind fun (s1 : Int) => if s1 = 0 then psT 1 0 (thr M) else some (0, s1, M)
set_option maxRecDepth 100000 in
set_option maxHeartbeats 4000000 in
theorem xe_X10_groupOf {D : Dt} {M : Mm} {a0 a1 : Int} (h0 : a0 ≠ 0) : XE D 0 mu_X10_groupOf (ET 4) 0 [(0, (14, a0)), (1, (0, a1))] [] M (p_X10_groupOf M a0 a1) := by
  unfold p_X10_groupOf
  refine XE.go (st_iload_n (j := 1) (i := 1) (pc' := 1) (by decide +kernel) rfl rfl rfl) ?_
  refine XE.join (pcJ := 23) (LJ := fun (s1 : Int) => []) (sJ := fun (s1 : Int) => [(4, s1)]) (MJ := fun (s1 : Int) => M) (fun kk4 hk2 => ?_) (fun s1 => ?_)
  · refine XE.bite (fun h5 => ?_) (fun h6 => ?_)
    · refine XE.go (st_if_lt_t (off := 21) (pc' := 22) (by decide +kernel) (by decide) h5) ?_
      refine XE.go (st_null (t := 4) (pc' := 23) (by decide +kernel) (by decide) rfl) ?_
      exact XE.pick [] rfl (hk2 0)
    · refine XE.go (st_if_lt_f (off := 21) (pc' := 4) (by decide +kernel) 22 (by decide) rfl h6) ?_
      refine XE.go (st_iload_n (j := 1) (i := 1) (pc' := 5) (by decide +kernel) rfl rfl rfl) ?_
      refine XE.go (st_aload_n (j := 0) (i := 0) (pc' := 6) (by decide +kernel) rfl rfl (by decide) rfl) ?_
      refine XE.go (st_get (pc' := 9) (by decide +kernel) rfl cls_10 fld_RX10_29 rfl rfl h0) ?_
      refine XE.gdb (fun g7 => ?_)
      refine XE.go (st_alen (k := 16) (pc' := 10) (by decide +kernel) rfl ak_16 rfl (by decide) g7) ?_
      refine XE.bite (fun h8 => ?_) (fun h9 => ?_)
      · refine XE.go (st_icmp_ge_f (off := 12) (pc' := 13) (by decide +kernel) 22 (by decide) rfl (Int.not_le.mpr h8)) ?_
        refine XE.go (st_aload_n (j := 0) (i := 0) (pc' := 14) (by decide +kernel) rfl rfl (by decide) rfl) ?_
        refine XE.go (st_get (pc' := 17) (by decide +kernel) rfl cls_10 fld_RX10_29 rfl rfl h0) ?_
        refine XE.go (st_iload_n (j := 1) (i := 1) (pc' := 18) (by decide +kernel) rfl rfl rfl) ?_
        refine XE.gdb (fun g10 => ?_)
        refine XE.go (st_ald (k := 16) (tp := 4) (pc' := 19) (by decide +kernel) rfl ak_16 rfl (by decide) rfl (Or.inr (Or.inr (Or.inr ⟨rfl, rfl⟩))) g10.1 g10.2.1 g10.2.2) ?_
        refine XE.go (st_goto (off := 4) (pc' := 23) (by decide +kernel) (by decide)) ?_
        exact XE.pick [] rfl (hk2 (rd M (rd M a0 3) a1))
      · refine XE.go (st_icmp_ge_t (off := 12) (pc' := 22) (by decide +kernel) (by decide) (Int.not_lt.mp h9)) ?_
        refine XE.go (st_null (t := 4) (pc' := 23) (by decide +kernel) (by decide) rfl) ?_
        exact XE.pick [] rfl (hk2 0)
  · refine XE.go (st_astore_n (j := 2) (i := 2) (pc' := 24) (by decide +kernel) rfl (by decide) rfl (by decide) rfl rfl) ?_
    refine XE.go (st_aload_n (j := 2) (i := 2) (pc' := 25) (by decide +kernel) rfl rfl (by decide) rfl) ?_
    refine XE.ite (fun h11 => ?_) (fun h12 => ?_)
    · refine XE.go (st_ifnonnull_f (off := 14) (pc' := 28) (by decide +kernel) (by decide) h11 rfl) ?_
      exact XE.thrTW (by decide +kernel) (by decide +kernel) (by decide +kernel) (by decide +kernel) (by decide +kernel) thr_RX10_637 rfl (by decide) (by decide) (by decide)
    · refine XE.go (st_ifnonnull_t (off := 14) (pc' := 39) (by decide +kernel) (by decide) h12 (by decide)) ?_
      refine XE.go (st_aload_n (j := 2) (i := 2) (pc' := 40) (by decide +kernel) rfl rfl (by decide) rfl) ?_
      exact XE.rt rfl (X_aret (by decide +kernel) rfl (Or.inl ⟨_, rfl⟩) (by decide))
theorem ct_X10_groupOf {D : Dt} {M : Mm} {a0 a1 : Int} (h0 : a0 ≠ 0) (r : (Int × Int × Mm)) (hr : p_X10_groupOf M a0 a1 = some r) : CT D 0 mu_X10_groupOf [(14, a0), (0, a1)] M (ET 4 r).1 (ET 4 r).2 := CT.of (by decide +kernel) rfl (Nat.le_of_ble_eq_true rfl) (xe_X10_groupOf h0 r hr)
def p_X10_memberOf (M : Mm) (a0 a1 : Int) : Option (Int × Int × Mm) := gd (a0 ≠ 0) ((some ((rd M a0 1))).bind fun v2 => (if a1 < 0 then some (0) else gd (v2 ≠ 0) (if a1 < (ln v2) then gd (aok v2 a1) (some ((rd M v2 a1))) else some (0)) : Option (Int)).bind fun (s4 : Int) => if s4 = 0 then psT 1 0 (thr M) else some (0, s4, M))
set_option maxRecDepth 100000 in
set_option maxHeartbeats 4000000 in
theorem xe_X10_memberOf {D : Dt} {M : Mm} {a0 a1 : Int} : XE D 0 mu_X10_memberOf (ET 7) 0 [(0, (4, a0)), (1, (0, a1))] [] M (p_X10_memberOf M a0 a1) := by
  unfold p_X10_memberOf
  refine XE.go (st_aload_n (j := 0) (i := 0) (pc' := 1) (by decide +kernel) rfl rfl (by decide) rfl) ?_
  refine XE.gd_ (fun g1 => ?_)
  refine XE.go (st_get (pc' := 4) (by decide +kernel) rfl cls_0 fld_RX10_639 rfl rfl g1) ?_
  refine XE.gen (fun v2 e3 => ?_)
  refine XE.go (st_astore_n (j := 2) (i := 2) (pc' := 5) (by decide +kernel) rfl (by decide) rfl (by decide) rfl rfl) ?_
  refine XE.go (st_iload_n (j := 1) (i := 1) (pc' := 6) (by decide +kernel) rfl rfl rfl) ?_
  refine XE.join (pcJ := 22) (LJ := fun (s4 : Int) => []) (sJ := fun (s4 : Int) => [(7, s4)]) (MJ := fun (s4 : Int) => M) (fun kk7 hk5 => ?_) (fun s4 => ?_)
  · refine XE.bite (fun h8 => ?_) (fun h9 => ?_)
    · refine XE.go (st_if_lt_t (off := 15) (pc' := 21) (by decide +kernel) (by decide) h8) ?_
      refine XE.go (st_null (t := 7) (pc' := 22) (by decide +kernel) (by decide) rfl) ?_
      exact XE.pick [] rfl (hk5 0)
    · refine XE.go (st_if_lt_f (off := 15) (pc' := 9) (by decide +kernel) 21 (by decide) rfl h9) ?_
      refine XE.go (st_iload_n (j := 1) (i := 1) (pc' := 10) (by decide +kernel) rfl rfl rfl) ?_
      refine XE.go (st_aload_n (j := 2) (i := 2) (pc' := 11) (by decide +kernel) rfl rfl (by decide) rfl) ?_
      refine XE.gdb (fun g10 => ?_)
      refine XE.go (st_alen (k := 19) (pc' := 12) (by decide +kernel) rfl ak_19 rfl (by decide) g10) ?_
      refine XE.bite (fun h11 => ?_) (fun h12 => ?_)
      · refine XE.go (st_icmp_ge_f (off := 9) (pc' := 15) (by decide +kernel) 21 (by decide) rfl (Int.not_le.mpr h11)) ?_
        refine XE.go (st_aload_n (j := 2) (i := 2) (pc' := 16) (by decide +kernel) rfl rfl (by decide) rfl) ?_
        refine XE.go (st_iload_n (j := 1) (i := 1) (pc' := 17) (by decide +kernel) rfl rfl rfl) ?_
        refine XE.gdb (fun g13 => ?_)
        refine XE.go (st_ald (k := 19) (tp := 7) (pc' := 18) (by decide +kernel) rfl ak_19 rfl (by decide) rfl (Or.inr (Or.inr (Or.inr ⟨rfl, rfl⟩))) g13.1 g13.2.1 g13.2.2) ?_
        refine XE.go (st_goto (off := 4) (pc' := 22) (by decide +kernel) (by decide)) ?_
        exact XE.pick [] rfl (hk5 (rd M v2 a1))
      · refine XE.go (st_icmp_ge_t (off := 9) (pc' := 21) (by decide +kernel) (by decide) (Int.not_lt.mp h12)) ?_
        refine XE.go (st_null (t := 7) (pc' := 22) (by decide +kernel) (by decide) rfl) ?_
        exact XE.pick [] rfl (hk5 0)
  · refine XE.go (st_astore_n (j := 3) (i := 3) (pc' := 23) (by decide +kernel) rfl (by decide) rfl (by decide) rfl rfl) ?_
    refine XE.go (st_aload_n (j := 3) (i := 3) (pc' := 24) (by decide +kernel) rfl rfl (by decide) rfl) ?_
    refine XE.ite (fun h14 => ?_) (fun h15 => ?_)
    · refine XE.go (st_ifnonnull_f (off := 14) (pc' := 27) (by decide +kernel) (by decide) h14 rfl) ?_
      exact XE.thrTW (by decide +kernel) (by decide +kernel) (by decide +kernel) (by decide +kernel) (by decide +kernel) thr_RX10_643 rfl (by decide) (by decide) (by decide)
    · refine XE.go (st_ifnonnull_t (off := 14) (pc' := 38) (by decide +kernel) (by decide) h15 (by decide)) ?_
      refine XE.go (st_aload_n (j := 3) (i := 3) (pc' := 39) (by decide +kernel) rfl rfl (by decide) rfl) ?_
      exact XE.rt rfl (X_aret (by decide +kernel) rfl (Or.inl ⟨_, rfl⟩) (by decide))
theorem ct_X10_memberOf {D : Dt} {M : Mm} {a0 a1 : Int} (r : (Int × Int × Mm)) (hr : p_X10_memberOf M a0 a1 = some r) : CT D 0 mu_X10_memberOf [(4, a0), (0, a1)] M (ET 7 r).1 (ET 7 r).2 := CT.of (by decide +kernel) rfl (Nat.le_of_ble_eq_true rfl) (xe_X10_memberOf r hr)
def p_X0_shareAt (M : Mm) (a0 a1 : Int) : Option Int := if a1 < 0 then some (0) else gd ((rd M a0 0) ≠ 0) (if a1 < (ln (rd M a0 0)) then gd (aok (rd M a0 0) a1) (some ((rd M (rd M a0 0) a1))) else some (0))
set_option maxRecDepth 100000 in
set_option maxHeartbeats 4000000 in
theorem xe_X0_shareAt {D : Dt} {M : Mm} {a0 a1 : Int} (h0 : a0 ≠ 0) : XE D 0 mu_X0_shareAt (EP 12 M) 0 [(0, (4, a0)), (1, (0, a1))] [] M (p_X0_shareAt M a0 a1) := by
  unfold p_X0_shareAt
  refine XE.go (st_iload_n (j := 1) (i := 1) (pc' := 1) (by decide +kernel) rfl rfl rfl) ?_
  refine XE.ite (fun h1 => ?_) (fun h2 => ?_)
  · refine XE.go (st_if_lt_t (off := 21) (pc' := 22) (by decide +kernel) (by decide) h1) ?_
    refine XE.go (st_null (t := 12) (pc' := 23) (by decide +kernel) (by decide) rfl) ?_
    exact XE.rt rfl (X_aret (by decide +kernel) rfl (Or.inl ⟨_, rfl⟩) (by decide))
  · refine XE.go (st_if_lt_f (off := 21) (pc' := 4) (by decide +kernel) 22 (by decide) rfl h2) ?_
    refine XE.go (st_iload_n (j := 1) (i := 1) (pc' := 5) (by decide +kernel) rfl rfl rfl) ?_
    refine XE.go (st_aload_n (j := 0) (i := 0) (pc' := 6) (by decide +kernel) rfl rfl (by decide) rfl) ?_
    refine XE.go (st_get (pc' := 9) (by decide +kernel) rfl cls_0 fld_RX0_11 rfl rfl h0) ?_
    refine XE.gd_ (fun g3 => ?_)
    refine XE.go (st_alen (k := 24) (pc' := 10) (by decide +kernel) rfl ak_24 rfl (by decide) g3) ?_
    refine XE.ite (fun h4 => ?_) (fun h5 => ?_)
    · refine XE.go (st_icmp_ge_f (off := 12) (pc' := 13) (by decide +kernel) 22 (by decide) rfl (Int.not_le.mpr h4)) ?_
      refine XE.go (st_aload_n (j := 0) (i := 0) (pc' := 14) (by decide +kernel) rfl rfl (by decide) rfl) ?_
      refine XE.go (st_get (pc' := 17) (by decide +kernel) rfl cls_0 fld_RX0_11 rfl rfl h0) ?_
      refine XE.go (st_iload_n (j := 1) (i := 1) (pc' := 18) (by decide +kernel) rfl rfl rfl) ?_
      refine XE.gd_ (fun g6 => ?_)
      refine XE.go (st_ald (k := 24) (tp := 12) (pc' := 19) (by decide +kernel) rfl ak_24 rfl (by decide) rfl (Or.inr (Or.inr (Or.inr ⟨rfl, rfl⟩))) g6.1 g6.2.1 g6.2.2) ?_
      refine XE.go (st_goto (off := 4) (pc' := 23) (by decide +kernel) (by decide)) ?_
      exact XE.rt rfl (X_aret (by decide +kernel) rfl (Or.inl ⟨_, rfl⟩) (by decide))
    · refine XE.go (st_icmp_ge_t (off := 12) (pc' := 22) (by decide +kernel) (by decide) (Int.not_lt.mp h5)) ?_
      refine XE.go (st_null (t := 12) (pc' := 23) (by decide +kernel) (by decide) rfl) ?_
      exact XE.rt rfl (X_aret (by decide +kernel) rfl (Or.inl ⟨_, rfl⟩) (by decide))
theorem ct_X0_shareAt {D : Dt} {M : Mm} {a0 a1 : Int} (h0 : a0 ≠ 0) (r : Int) (hr : p_X0_shareAt M a0 a1 = some r) : CT D 0 mu_X0_shareAt [(4, a0), (0, a1)] M (.inl (some (12, r))) M := CT.of (by decide +kernel) rfl (Nat.le_of_ble_eq_true rfl) (xe_X0_shareAt h0 r hr)
def b_X3_placeIn_7 (M : Mm) (a0 : Int) (a1 : Int) (s4 : Int × Int) : Option ((Int × Int) ⊕ (Int)) := gd ((rd M a0 1) ≠ 0) (if s4.2 < (rd M (rd M a0 1) 1) then (p_X2_get M (rd M a0 1) s4.2).bind fun r13 => if r13 = 0 then some (.inl (s4.1, (w (s4.2 + 1)))) else if (rd M r13 4) = 0 then gd ((rd M r13 0) ≠ 0) (if (rd M (rd M r13 0) 2) = (rd M a1 0) then (p_J9_min_7cf53 M s4.1 (rd M (rd M r13 0) 9)).bind fun r21 => some (.inl (r21, (w (s4.2 + 1)))) else some (.inl (s4.1, (w (s4.2 + 1))))) else some (.inl (s4.1, (w (s4.2 + 1)))) else some (.inr s4.1))
def p_X3_placeIn (M : Mm) (a0 a1 : Int) : Option Int := gd (a1 ≠ 0) ((some ((rd M a1 4))).bind fun v2 => (lp (b_X3_placeIn_7 M a0 a1) 1000 (v2, 0)).bind fun (t5 : Int) => some (t5))
set_option maxRecDepth 100000 in
set_option maxHeartbeats 4000000 in
theorem xe_X3_placeIn {D : Dt} {M : Mm} {a0 a1 : Int} (h0 : a0 ≠ 0) : XE D 0 mu_X3_placeIn (EP 0 M) 0 [(0, (7, a0)), (1, (12, a1))] [] M (p_X3_placeIn M a0 a1) := by
  unfold p_X3_placeIn
  refine XE.go (st_aload_n (j := 1) (i := 1) (pc' := 1) (by decide +kernel) rfl rfl (by decide) rfl) ?_
  refine XE.gd_ (fun g1 => ?_)
  refine XE.go (st_get (pc' := 4) (by decide +kernel) rfl cls_8 fld_RX3_39 rfl rfl g1) ?_
  refine XE.gen (fun v2 e3 => ?_)
  refine XE.go (st_istore_n (j := 2) (i := 2) (pc' := 5) (by decide +kernel) rfl rfl (by decide) rfl rfl) ?_
  refine XE.go (st_iconst (n := 0) (pc' := 6) (by decide +kernel) (w_eq (by decide) (by decide)) rfl) ?_
  refine XE.go (st_istore_n (j := 3) (i := 3) (pc' := 7) (by decide +kernel) rfl rfl (by decide) rfl rfl) ?_
  refine XE.pick [2, 3, 1, 0] (L' := [(0, (7, a0)), (1, (12, a1)), (2, (0, v2)), (3, (0, 0))]) rfl ?_
  refine XE.loopJ (n := 1000) (s0 := (v2, 0)) (pcL := 7) (pcE := 75) (LL := fun (s4 : Int × Int) => [(0, (7, a0)), (1, (12, a1)), (2, (0, s4.1)), (3, (0, s4.2))]) (sL := fun _ => []) (ML := fun (s4 : Int × Int) => M) (LE := fun (t5 : Int) => [(2, (0, t5))]) (sE := fun _ => []) (ME := fun (t5 : Int) => M) (fun kk9 hc6 he7 s4 => ?_) (fun t5 => ?_)
  · unfold b_X3_placeIn_7
    refine XE.go (st_iload_n (j := 3) (i := 3) (pc' := 8) (by decide +kernel) rfl rfl rfl) ?_
    refine XE.go (st_aload_n (j := 0) (i := 0) (pc' := 9) (by decide +kernel) rfl rfl (by decide) rfl) ?_
    refine XE.go (st_get (pc' := 12) (by decide +kernel) rfl cls_3 fld_RX3_14 rfl rfl h0) ?_
    refine XE.gdb (fun g10 => ?_)
    refine XE.go (st_get (pc' := 15) (by decide +kernel) rfl cls_2 fld_RX3_44 rfl rfl g10) ?_
    refine XE.bite (fun h11 => ?_) (fun h12 => ?_)
    · refine XE.go (st_icmp_ge_f (off := 60) (pc' := 18) (by decide +kernel) 75 (by decide) rfl (Int.not_le.mpr h11)) ?_
      refine XE.go (st_aload_n (j := 0) (i := 0) (pc' := 19) (by decide +kernel) rfl rfl (by decide) rfl) ?_
      refine XE.go (st_get (pc' := 22) (by decide +kernel) rfl cls_3 fld_RX3_14 rfl rfl h0) ?_
      refine XE.go (st_iload_n (j := 3) (i := 3) (pc' := 23) (by decide +kernel) rfl rfl rfl) ?_
      refine XE.asc ?_
      refine XE.cP (pc' := 26) (st := []) (fun r hr => ct_X2_get g10 r hr) (fun r hr => run_V (st := []) (by decide +kernel) co_X3_placeIn_47 (ct_X2_get g10 r hr) rfl g10 rfl rfl (Nat.le_of_ble_eq_true rfl)) rfl rfl (fun r13 => ?_)
      refine XE.go (st_astore (j := 4) (pc' := 28) (by decide +kernel)  (by decide) rfl (by decide) rfl rfl) ?_
      refine XE.go (st_aload (j := 4) (pc' := 30) (by decide +kernel) rfl (by decide) rfl) ?_
      refine XE.bite (fun h14 => ?_) (fun h15 => ?_)
      · refine XE.go (st_ifnull_t (off := 39) (pc' := 69) (by decide +kernel) (by decide) h14 (by decide)) ?_
        refine XE.go (st_iinc (j := 3) (n := 1) (pc' := 72) (by decide +kernel) rfl rfl (by decide) rfl rfl) ?_
        refine XE.go (st_goto (off := (-65)) (pc' := 7) (by decide +kernel) (by decide)) ?_
        exact XE.pick [2, 3, 4, 0] rfl (hc6 (s4.1, (w (s4.2 + 1))))
      · refine XE.go (st_ifnull_f (off := 39) (pc' := 33) (by decide +kernel) (by decide) h15 rfl) ?_
        refine XE.go (st_aload (j := 4) (pc' := 35) (by decide +kernel) rfl (by decide) rfl) ?_
        refine XE.go (st_get (pc' := 38) (by decide +kernel) rfl cls_1 fld_RX3_51 rfl rfl h15) ?_
        refine XE.bite (fun h16 => ?_) (fun h17 => ?_)
        · refine XE.go (st_if_ne_f (off := 31) (pc' := 41) (by decide +kernel) 69 (by decide) rfl (not_not_intro h16)) ?_
          refine XE.go (st_aload (j := 4) (pc' := 43) (by decide +kernel) rfl (by decide) rfl) ?_
          refine XE.go (st_get (pc' := 46) (by decide +kernel) rfl cls_1 fld_RX3_57 rfl rfl h15) ?_
          refine XE.gdb (fun g18 => ?_)
          refine XE.go (st_get (pc' := 49) (by decide +kernel) rfl cls_4 fld_RX3_61 rfl rfl g18) ?_
          refine XE.go (st_aload_n (j := 1) (i := 1) (pc' := 50) (by decide +kernel) rfl rfl (by decide) rfl) ?_
          refine XE.go (st_get (pc' := 53) (by decide +kernel) rfl cls_8 fld_RX3_67 rfl rfl g1) ?_
          refine XE.bite (fun h19 => ?_) (fun h20 => ?_)
          · refine XE.go (st_acmp_ne_f (off := 16) (pc' := 56) (by decide +kernel) 69 (by decide) (by decide) (by decide) h19 rfl) ?_
            refine XE.go (st_iload_n (j := 2) (i := 2) (pc' := 57) (by decide +kernel) rfl rfl rfl) ?_
            refine XE.go (st_aload (j := 4) (pc' := 59) (by decide +kernel) rfl (by decide) rfl) ?_
            refine XE.go (st_get (pc' := 62) (by decide +kernel) rfl cls_1 fld_RX3_57 rfl rfl h15) ?_
            refine XE.go (st_get (pc' := 65) (by decide +kernel) rfl cls_4 fld_RX3_68 rfl rfl g18) ?_
            refine XE.asc ?_
            refine XE.cP (pc' := 68) (st := []) (fun r hr => ct_J9_min_7cf53 r hr) (fun r hr => run_S (st := []) (by decide +kernel) co_X3_placeIn_71 (ct_J9_min_7cf53 r hr) rfl rfl (Nat.le_of_ble_eq_true rfl)) rfl rfl (fun r21 => ?_)
            refine XE.go (st_istore_n (j := 2) (i := 2) (pc' := 69) (by decide +kernel) rfl rfl (by decide) rfl rfl) ?_
            refine XE.go (st_iinc (j := 3) (n := 1) (pc' := 72) (by decide +kernel) rfl rfl (by decide) rfl rfl) ?_
            refine XE.go (st_goto (off := (-65)) (pc' := 7) (by decide +kernel) (by decide)) ?_
            exact XE.pick [3, 4, 1, 0] rfl (hc6 (r21, (w (s4.2 + 1))))
          · refine XE.go (st_acmp_ne_t (off := 16) (pc' := 69) (by decide +kernel) (by decide) (by decide) h20 (by decide)) ?_
            refine XE.go (st_iinc (j := 3) (n := 1) (pc' := 72) (by decide +kernel) rfl rfl (by decide) rfl rfl) ?_
            refine XE.go (st_goto (off := (-65)) (pc' := 7) (by decide +kernel) (by decide)) ?_
            exact XE.pick [2, 3, 4, 0] rfl (hc6 (s4.1, (w (s4.2 + 1))))
        · refine XE.go (st_if_ne_t (off := 31) (pc' := 69) (by decide +kernel) (by decide) h17) ?_
          refine XE.go (st_iinc (j := 3) (n := 1) (pc' := 72) (by decide +kernel) rfl rfl (by decide) rfl rfl) ?_
          refine XE.go (st_goto (off := (-65)) (pc' := 7) (by decide +kernel) (by decide)) ?_
          exact XE.pick [2, 3, 4, 0] rfl (hc6 (s4.1, (w (s4.2 + 1))))
    · refine XE.go (st_icmp_ge_t (off := 60) (pc' := 75) (by decide +kernel) (by decide) (Int.not_lt.mp h12)) ?_
      exact XE.pick [2] rfl (he7 s4.1)
  · refine XE.go (st_iload_n (j := 2) (i := 2) (pc' := 76) (by decide +kernel) rfl rfl rfl) ?_
    exact XE.rt rfl (X_iret (by decide +kernel) rfl)
theorem ct_X3_placeIn {D : Dt} {M : Mm} {a0 a1 : Int} (h0 : a0 ≠ 0) (r : Int) (hr : p_X3_placeIn M a0 a1 = some r) : CT D 0 mu_X3_placeIn [(7, a0), (12, a1)] M (.inl (some (0, r))) M := CT.of (by decide +kernel) rfl (Nat.le_of_ble_eq_true rfl) (xe_X3_placeIn h0 r hr)
def b_X6_notePlaces_5 (a0 : Int) (a1 : Int) (a2 : Int) (s1 : Int × Int × Mm) : Option ((Int × Int × Mm) ⊕ (Int × Mm)) := gd ((rd s1.2.2 a0 8) ≠ 0) (if s1.2.1 < (ln (rd s1.2.2 a0 8)) then gd (a1 ≠ 0) ((p_X0_shareAt s1.2.2 a1 s1.2.1).bind fun r11 => (if r11 = 0 then some (0) else if (rd s1.2.2 r11 1) = a2 then some (1) else some (0) : Option (Int)).bind fun (s12 : Int) => (if s12 = 0 then some ((-1)) else gd (a2 ≠ 0) ((p_X3_placeIn s1.2.2 a2 r11).bind fun r27 => some (r27)) : Option (Int)).bind fun (s20 : Int) => gd (aok (rd s1.2.2 a0 8) s1.2.1) ((some (wr s1.2.2 (rd s1.2.2 a0 8) s1.2.1 s20)).bind fun M29 => if s12 = 0 then (some ((w (s1.1 + 0)))).bind fun v32 => some (.inl (v32, (w (s1.2.1 + 1)), M29)) else (some ((w (s1.1 + 1)))).bind fun v34 => some (.inl (v34, (w (s1.2.1 + 1)), M29)))) else some (.inr (s1.1, s1.2.2)))
def p_X6_notePlaces (M : Mm) (a0 a1 a2 : Int) : Option (Int × Mm) := (lp (b_X6_notePlaces_5 a0 a1 a2) 1000 (0, 0, M)).bind fun (t2 : Int × Mm) => (if 0 < t2.1 then some (a1) else some (0) : Option (Int)).bind fun (s36 : Int) => (some (wr t2.2 a0 5 s36)).bind fun M42 => (some (wr M42 a0 6 a2)).bind fun M43 => gd (a1 ≠ 0) ((some (wr M43 a0 7 (rd M43 a1 6))).bind fun M45 => some (t2.1, M45))
set_option maxRecDepth 100000 in
set_option maxHeartbeats 4000000 in
theorem xe_X6_notePlaces {D : Dt} {M : Mm} {a0 a1 a2 : Int} (h0 : a0 ≠ 0) : XE D 0 mu_X6_notePlaces (EW 0) 0 [(0, (10, a0)), (1, (4, a1)), (2, (7, a2))] [] M (p_X6_notePlaces M a0 a1 a2) := by
  unfold p_X6_notePlaces
  refine XE.go (st_iconst (n := 0) (pc' := 1) (by decide +kernel) (w_eq (by decide) (by decide)) rfl) ?_
  refine XE.go (st_istore_n (j := 3) (i := 3) (pc' := 2) (by decide +kernel) rfl rfl (by decide) rfl rfl) ?_
  refine XE.go (st_iconst (n := 0) (pc' := 3) (by decide +kernel) (w_eq (by decide) (by decide)) rfl) ?_
  refine XE.go (st_istore (j := 4) (pc' := 5) (by decide +kernel)  rfl (by decide) rfl rfl) ?_
  refine XE.pick [2, 3, 4, 1, 0] (L' := [(0, (10, a0)), (1, (4, a1)), (2, (7, a2)), (3, (0, 0)), (4, (0, 0))]) rfl ?_
  refine XE.loopJ (n := 1000) (s0 := (0, 0, M)) (pcL := 5) (pcE := 85) (LL := fun (s1 : Int × Int × Mm) => [(0, (10, a0)), (1, (4, a1)), (2, (7, a2)), (3, (0, s1.1)), (4, (0, s1.2.1))]) (sL := fun _ => []) (ML := fun (s1 : Int × Int × Mm) => s1.2.2) (LE := fun (t2 : Int × Mm) => [(0, (10, a0)), (1, (4, a1)), (2, (7, a2)), (3, (0, t2.1))]) (sE := fun _ => []) (ME := fun (t2 : Int × Mm) => t2.2) (fun kk6 hc3 he4 s1 => ?_) (fun t2 => ?_)
  · unfold b_X6_notePlaces_5
    refine XE.go (st_iload (j := 4) (pc' := 7) (by decide +kernel) rfl rfl) ?_
    refine XE.go (st_aload_n (j := 0) (i := 0) (pc' := 8) (by decide +kernel) rfl rfl (by decide) rfl) ?_
    refine XE.go (st_get (pc' := 11) (by decide +kernel) rfl cls_6 fld_RX6_36 rfl rfl h0) ?_
    refine XE.gdb (fun g7 => ?_)
    refine XE.go (st_alen (k := 13) (pc' := 12) (by decide +kernel) rfl ak_13 rfl (by decide) g7) ?_
    refine XE.bite (fun h8 => ?_) (fun h9 => ?_)
    · refine XE.go (st_icmp_ge_f (off := 73) (pc' := 15) (by decide +kernel) 85 (by decide) rfl (Int.not_le.mpr h8)) ?_
      refine XE.go (st_aload_n (j := 1) (i := 1) (pc' := 16) (by decide +kernel) rfl rfl (by decide) rfl) ?_
      refine XE.go (st_iload (j := 4) (pc' := 18) (by decide +kernel) rfl rfl) ?_
      refine XE.gdb (fun g10 => ?_)
      refine XE.asc ?_
      refine XE.cP (pc' := 21) (st := []) (fun r hr => ct_X0_shareAt g10 r hr) (fun r hr => run_V (st := []) (by decide +kernel) co_X6_notePlaces_43 (ct_X0_shareAt g10 r hr) rfl g10 rfl rfl (Nat.le_of_ble_eq_true rfl)) rfl rfl (fun r11 => ?_)
      refine XE.go (st_astore (j := 5) (pc' := 23) (by decide +kernel)  (by decide) rfl (by decide) rfl rfl) ?_
      refine XE.go (st_aload (j := 5) (pc' := 25) (by decide +kernel) rfl (by decide) rfl) ?_
      refine XE.asc ?_
      refine XE.join (pcJ := 42) (LJ := fun (s12 : Int) => [(0, (10, a0)), (1, (4, a1)), (2, (7, a2)), (3, (0, s1.1)), (4, (0, s1.2.1)), (5, (12, r11))]) (sJ := fun (s12 : Int) => [(0, s12)]) (MJ := fun (s12 : Int) => s1.2.2) (fun kk15 hk13 => ?_) (fun s12 => ?_)
      · refine XE.bite (fun h16 => ?_) (fun h17 => ?_)
        · refine XE.go (st_ifnull_t (off := 16) (pc' := 41) (by decide +kernel) (by decide) h16 (by decide)) ?_
          refine XE.go (st_iconst (n := 0) (pc' := 42) (by decide +kernel) (w_eq (by decide) (by decide)) rfl) ?_
          exact XE.pick [1, 2, 3, 4, 5, 0] rfl (hk13 0)
        · refine XE.go (st_ifnull_f (off := 16) (pc' := 28) (by decide +kernel) (by decide) h17 rfl) ?_
          refine XE.go (st_aload (j := 5) (pc' := 30) (by decide +kernel) rfl (by decide) rfl) ?_
          refine XE.go (st_get (pc' := 33) (by decide +kernel) rfl cls_8 fld_RX6_49 rfl rfl h17) ?_
          refine XE.go (st_aload_n (j := 2) (i := 2) (pc' := 34) (by decide +kernel) rfl rfl (by decide) rfl) ?_
          refine XE.bite (fun h18 => ?_) (fun h19 => ?_)
          · refine XE.go (st_acmp_ne_f (off := 7) (pc' := 37) (by decide +kernel) 41 (by decide) (by decide) (by decide) h18 rfl) ?_
            refine XE.go (st_iconst (n := 1) (pc' := 38) (by decide +kernel) (w_eq (by decide) (by decide)) rfl) ?_
            refine XE.go (st_goto (off := 4) (pc' := 42) (by decide +kernel) (by decide)) ?_
            exact XE.pick [1, 2, 3, 4, 5, 0] rfl (hk13 1)
          · refine XE.go (st_acmp_ne_t (off := 7) (pc' := 41) (by decide +kernel) (by decide) (by decide) h19 (by decide)) ?_
            refine XE.go (st_iconst (n := 0) (pc' := 42) (by decide +kernel) (w_eq (by decide) (by decide)) rfl) ?_
            exact XE.pick [1, 2, 3, 4, 5, 0] rfl (hk13 0)
      · refine XE.go (st_istore (j := 6) (pc' := 44) (by decide +kernel)  rfl (by decide) rfl rfl) ?_
        refine XE.go (st_aload_n (j := 0) (i := 0) (pc' := 45) (by decide +kernel) rfl rfl (by decide) rfl) ?_
        refine XE.go (st_get (pc' := 48) (by decide +kernel) rfl cls_6 fld_RX6_36 rfl rfl h0) ?_
        refine XE.go (st_iload (j := 4) (pc' := 50) (by decide +kernel) rfl rfl) ?_
        refine XE.go (st_iload (j := 6) (pc' := 52) (by decide +kernel) rfl rfl) ?_
        refine XE.asc ?_
        refine XE.join (pcJ := 65) (LJ := fun (s20 : Int) => [(0, (10, a0)), (1, (4, a1)), (2, (7, a2)), (3, (0, s1.1)), (4, (0, s1.2.1)), (6, (0, s12))]) (sJ := fun (s20 : Int) => [(0, s20), (0, s1.2.1), (16, (rd s1.2.2 a0 8))]) (MJ := fun (s20 : Int) => s1.2.2) (fun kk23 hk21 => ?_) (fun s20 => ?_)
        · refine XE.bite (fun h24 => ?_) (fun h25 => ?_)
          · refine XE.go (st_if_eq_t (off := 12) (pc' := 64) (by decide +kernel) (by decide) h24) ?_
            refine XE.go (st_iconst (n := (-1)) (pc' := 65) (by decide +kernel) (w_eq (by decide) (by decide)) rfl) ?_
            exact XE.pick [1, 2, 3, 4, 5, 0] rfl (hk21 (-1))
          · refine XE.go (st_if_eq_f (off := 12) (pc' := 55) (by decide +kernel) 64 (by decide) rfl h25) ?_
            refine XE.go (st_aload_n (j := 2) (i := 2) (pc' := 56) (by decide +kernel) rfl rfl (by decide) rfl) ?_
            refine XE.go (st_aload (j := 5) (pc' := 58) (by decide +kernel) rfl (by decide) rfl) ?_
            refine XE.gdb (fun g26 => ?_)
            refine XE.asc ?_
            refine XE.cP (pc' := 61) (st := [(0, s1.2.1), (16, (rd s1.2.2 a0 8))]) (fun r hr => ct_X3_placeIn g26 r hr) (fun r hr => run_V (st := [(0, s1.2.1), (16, (rd s1.2.2 a0 8))]) (by decide +kernel) co_X6_notePlaces_54 (ct_X3_placeIn g26 r hr) rfl g26 rfl rfl (Nat.le_of_ble_eq_true rfl)) rfl rfl (fun r27 => ?_)
            refine XE.go (st_goto (off := 4) (pc' := 65) (by decide +kernel) (by decide)) ?_
            exact XE.pick [1, 2, 3, 4, 5, 0] rfl (hk21 r27)
        · refine XE.gdb (fun g28 => ?_)
          refine XE.asc ?_
          refine XE.goM (st_ast (k := 13) (tp := 0) (pc' := 66) (by decide +kernel) rfl ak_13 rfl (by decide) rfl (Or.inl ⟨rfl, rfl, rfl, rfl⟩) g28.1 g28.2.1 g28.2.2) (fun M29 => ?_)
          refine XE.go (st_iload_n (j := 3) (i := 3) (pc' := 67) (by decide +kernel) rfl rfl rfl) ?_
          refine XE.go (st_iload (j := 6) (pc' := 69) (by decide +kernel) rfl rfl) ?_
          refine XE.bite (fun h30 => ?_) (fun h31 => ?_)
          · refine XE.go (st_if_eq_t (off := 7) (pc' := 76) (by decide +kernel) (by decide) h30) ?_
            refine XE.go (st_iconst (n := 0) (pc' := 77) (by decide +kernel) (w_eq (by decide) (by decide)) rfl) ?_
            refine XE.go (st_iadd (pc' := 78) (by decide +kernel) rfl) ?_
            refine XE.asc ?_
            refine XE.gen (fun v32 e33 => ?_)
            refine XE.go (st_istore_n (j := 3) (i := 3) (pc' := 79) (by decide +kernel) rfl rfl (by decide) rfl rfl) ?_
            refine XE.go (st_iinc (j := 4) (n := 1) (pc' := 82) (by decide +kernel) rfl rfl (by decide) rfl rfl) ?_
            refine XE.go (st_goto (off := (-77)) (pc' := 5) (by decide +kernel) (by decide)) ?_
            exact XE.pick [2, 3, 4, 1, 0] rfl (hc3 (v32, (w (s1.2.1 + 1)), M29))
          · refine XE.go (st_if_eq_f (off := 7) (pc' := 72) (by decide +kernel) 76 (by decide) rfl h31) ?_
            refine XE.go (st_iconst (n := 1) (pc' := 73) (by decide +kernel) (w_eq (by decide) (by decide)) rfl) ?_
            refine XE.go (st_goto (off := 4) (pc' := 77) (by decide +kernel) (by decide)) ?_
            refine XE.go (st_iadd (pc' := 78) (by decide +kernel) rfl) ?_
            refine XE.asc ?_
            refine XE.gen (fun v34 e35 => ?_)
            refine XE.go (st_istore_n (j := 3) (i := 3) (pc' := 79) (by decide +kernel) rfl rfl (by decide) rfl rfl) ?_
            refine XE.go (st_iinc (j := 4) (n := 1) (pc' := 82) (by decide +kernel) rfl rfl (by decide) rfl rfl) ?_
            refine XE.go (st_goto (off := (-77)) (pc' := 5) (by decide +kernel) (by decide)) ?_
            exact XE.pick [2, 3, 4, 1, 0] rfl (hc3 (v34, (w (s1.2.1 + 1)), M29))
    · refine XE.go (st_icmp_ge_t (off := 73) (pc' := 85) (by decide +kernel) (by decide) (Int.not_lt.mp h9)) ?_
      exact XE.pick [0, 1, 2, 3] rfl (he4 (s1.1, s1.2.2))
  · refine XE.go (st_aload_n (j := 0) (i := 0) (pc' := 86) (by decide +kernel) rfl rfl (by decide) rfl) ?_
    refine XE.go (st_iload_n (j := 3) (i := 3) (pc' := 87) (by decide +kernel) rfl rfl rfl) ?_
    refine XE.join (pcJ := 95) (LJ := fun (s36 : Int) => [(0, (10, a0)), (1, (4, a1)), (2, (7, a2)), (3, (0, t2.1))]) (sJ := fun (s36 : Int) => [(4, s36), (10, a0)]) (MJ := fun (s36 : Int) => t2.2) (fun kk39 hk37 => ?_) (fun s36 => ?_)
    · refine XE.bite (fun h40 => ?_) (fun h41 => ?_)
      · refine XE.go (st_if_le_f (off := 7) (pc' := 90) (by decide +kernel) 94 (by decide) rfl (Int.not_le.mpr h40)) ?_
        refine XE.go (st_aload_n (j := 1) (i := 1) (pc' := 91) (by decide +kernel) rfl rfl (by decide) rfl) ?_
        refine XE.go (st_goto (off := 4) (pc' := 95) (by decide +kernel) (by decide)) ?_
        exact hk37 a1
      · refine XE.go (st_if_le_t (off := 7) (pc' := 94) (by decide +kernel) (by decide) (Int.not_lt.mp h41)) ?_
        refine XE.go (st_null (t := 4) (pc' := 95) (by decide +kernel) (by decide) rfl) ?_
        exact hk37 0
    · refine XE.goM (st_put (pc' := 98) (by decide +kernel) rfl cls_6 fld_RX6_25 rfl rfl (fun h => absurd h (by decide)) (fun h => nomatch h) h0) (fun M42 => ?_)
      refine XE.go (st_aload_n (j := 0) (i := 0) (pc' := 99) (by decide +kernel) rfl rfl (by decide) rfl) ?_
      refine XE.go (st_aload_n (j := 2) (i := 2) (pc' := 100) (by decide +kernel) rfl rfl (by decide) rfl) ?_
      refine XE.goM (st_put (pc' := 103) (by decide +kernel) rfl cls_6 fld_RX6_29 rfl rfl (fun h => absurd h (by decide)) (fun h => nomatch h) h0) (fun M43 => ?_)
      refine XE.go (st_aload_n (j := 0) (i := 0) (pc' := 104) (by decide +kernel) rfl rfl (by decide) rfl) ?_
      refine XE.go (st_aload_n (j := 1) (i := 1) (pc' := 105) (by decide +kernel) rfl rfl (by decide) rfl) ?_
      refine XE.gd_ (fun g44 => ?_)
      refine XE.go (st_get (pc' := 108) (by decide +kernel) rfl cls_0 fld_RX6_60 rfl rfl g44) ?_
      refine XE.goM (st_put (pc' := 111) (by decide +kernel) rfl cls_6 fld_RX6_33 rfl rfl (fun h => absurd h (by decide)) (fun h => nomatch h) h0) (fun M45 => ?_)
      refine XE.go (st_iload_n (j := 3) (i := 3) (pc' := 112) (by decide +kernel) rfl rfl rfl) ?_
      exact XE.rt rfl (X_iret (by decide +kernel) rfl)
theorem ct_X6_notePlaces {D : Dt} {M : Mm} {a0 a1 a2 : Int} (h0 : a0 ≠ 0) (r : (Int × Mm)) (hr : p_X6_notePlaces M a0 a1 a2 = some r) : CT D 0 mu_X6_notePlaces [(10, a0), (4, a1), (7, a2)] M (.inl (some (0, r.1))) r.2 := CT.of (by decide +kernel) rfl (Nat.le_of_ble_eq_true rfl) (xe_X6_notePlaces h0 r hr)
def p_X10_attach (M : Mm) (a0 a1 a2 a3 : Int) : Option (Int × Int × Mm) := (p_X10_producerOf M a0 a1).bind (thT psT fun v1 M2 => (p_X10_groupOf M2 a0 a2).bind (thT psT fun v3 M4 => (p_X10_memberOf M4 v3 a3).bind (thT psT fun v5 M6 => gd (v1 ≠ 0) (if (rd M6 v1 3) = (-1) then psT 3 0 (thr M6) else if (rd M6 v1 4) = 0 then (p_X6_notePlaces M6 v1 v3 v5).bind fun r12 => some (0, r12.1, r12.2) else psT 3 0 (thr M6)))))
set_option maxRecDepth 100000 in
set_option maxHeartbeats 4000000 in
theorem xe_X10_attach {D : Dt} {M : Mm} {a0 a1 a2 a3 : Int} (h0 : a0 ≠ 0) : XE D 0 mu_X10_attach (ET 0) 0 [(0, (14, a0)), (1, (0, a1)), (2, (0, a2)), (3, (0, a3))] [] M (p_X10_attach M a0 a1 a2 a3) := by
  unfold p_X10_attach
  refine XE.go (st_aload_n (j := 0) (i := 0) (pc' := 1) (by decide +kernel) rfl rfl (by decide) rfl) ?_
  refine XE.go (st_iload_n (j := 1) (i := 1) (pc' := 2) (by decide +kernel) rfl rfl rfl) ?_
  refine XE.cTg (pc' := 5) (st := []) hfT (fun r hr => ct_X10_producerOf h0 r hr) (fun r hr => run_V (st := []) (by decide +kernel) co_X10_attach_289 (ct_X10_producerOf h0 r hr) rfl h0 rfl rfl (Nat.le_of_ble_eq_true rfl)) rfl rfl rfl (fun v1 M2 => ?_)
  refine XE.go (st_astore (j := 4) (pc' := 7) (by decide +kernel)  (by decide) rfl (by decide) rfl rfl) ?_
  refine XE.go (st_aload_n (j := 0) (i := 0) (pc' := 8) (by decide +kernel) rfl rfl (by decide) rfl) ?_
  refine XE.go (st_iload_n (j := 2) (i := 2) (pc' := 9) (by decide +kernel) rfl rfl rfl) ?_
  refine XE.cTg (pc' := 12) (st := []) hfT (fun r hr => ct_X10_groupOf h0 r hr) (fun r hr => run_V (st := []) (by decide +kernel) co_X10_attach_334 (ct_X10_groupOf h0 r hr) rfl h0 rfl rfl (Nat.le_of_ble_eq_true rfl)) rfl rfl rfl (fun v3 M4 => ?_)
  refine XE.go (st_astore (j := 5) (pc' := 14) (by decide +kernel)  (by decide) rfl (by decide) rfl rfl) ?_
  refine XE.go (st_aload (j := 5) (pc' := 16) (by decide +kernel) rfl (by decide) rfl) ?_
  refine XE.go (st_iload_n (j := 3) (i := 3) (pc' := 17) (by decide +kernel) rfl rfl rfl) ?_
  refine XE.cTg (pc' := 20) (st := []) hfT (fun r hr => ct_X10_memberOf r hr) (fun r hr => run_S (st := []) (by decide +kernel) co_X10_attach_338 (ct_X10_memberOf r hr) rfl rfl (Nat.le_of_ble_eq_true rfl)) rfl rfl rfl (fun v5 M6 => ?_)
  refine XE.go (st_astore (j := 6) (pc' := 22) (by decide +kernel)  (by decide) rfl (by decide) rfl rfl) ?_
  refine XE.go (st_aload (j := 4) (pc' := 24) (by decide +kernel) rfl (by decide) rfl) ?_
  refine XE.gd_ (fun g7 => ?_)
  refine XE.go (st_get (pc' := 27) (by decide +kernel) rfl cls_6 fld_RX10_315 rfl rfl g7) ?_
  refine XE.go (st_iconst (n := (-1)) (pc' := 28) (by decide +kernel) (w_eq (by decide) (by decide)) rfl) ?_
  refine XE.ite (fun h8 => ?_) (fun h9 => ?_)
  · refine XE.go (st_icmp_eq_t (off := 11) (pc' := 39) (by decide +kernel) (by decide) h8) ?_
    exact XE.thrTW (by decide +kernel) (by decide +kernel) (by decide +kernel) (by decide +kernel) (by decide +kernel) thr_RX10_342 rfl (by decide) (by decide) (by decide)
  · refine XE.go (st_icmp_eq_f (off := 11) (pc' := 31) (by decide +kernel) 39 (by decide) rfl h9) ?_
    refine XE.go (st_aload (j := 4) (pc' := 33) (by decide +kernel) rfl (by decide) rfl) ?_
    refine XE.go (st_get (pc' := 36) (by decide +kernel) rfl cls_6 fld_RX10_212 rfl rfl g7) ?_
    refine XE.ite (fun h10 => ?_) (fun h11 => ?_)
    · refine XE.go (st_if_eq_t (off := 14) (pc' := 50) (by decide +kernel) (by decide) h10) ?_
      refine XE.go (st_aload (j := 4) (pc' := 52) (by decide +kernel) rfl (by decide) rfl) ?_
      refine XE.go (st_aload (j := 5) (pc' := 54) (by decide +kernel) rfl (by decide) rfl) ?_
      refine XE.go (st_aload (j := 6) (pc' := 56) (by decide +kernel) rfl (by decide) rfl) ?_
      refine XE.cW (pc' := 59) (st := []) (fun r hr => ct_X6_notePlaces g7 r hr) (fun r hr => run_V (st := []) (by decide +kernel) co_X10_attach_344 (ct_X6_notePlaces g7 r hr) rfl g7 rfl rfl (Nat.le_of_ble_eq_true rfl)) rfl rfl (fun r12 => ?_)
      exact XE.rt rfl (X_iret (by decide +kernel) rfl)
    · refine XE.go (st_if_eq_f (off := 14) (pc' := 39) (by decide +kernel) 50 (by decide) rfl h11) ?_
      exact XE.thrTW (by decide +kernel) (by decide +kernel) (by decide +kernel) (by decide +kernel) (by decide +kernel) thr_RX10_342 rfl (by decide) (by decide) (by decide)
theorem ct_X10_attach {D : Dt} {M : Mm} {a0 a1 a2 a3 : Int} (h0 : a0 ≠ 0) (r : (Int × Int × Mm)) (hr : p_X10_attach M a0 a1 a2 a3 = some r) : CT D 0 mu_X10_attach [(14, a0), (0, a1), (0, a2), (0, a3)] M (ET 0 r).1 (ET 0 r).2 := CT.of (by decide +kernel) rfl (Nat.le_of_ble_eq_true rfl) (xe_X10_attach h0 r hr)
def b_X10_isReplicated_2 (M : Mm) (a0 : Int) (a1 : Int) (s1 : Int) : Option ((Int) ⊕ ((Int) ⊕ (Unit))) := if s1 < (rd M a0 10) then gd (aok (rd M a0 4) s1) ((some ((rd M (rd M a0 4) s1))).bind fun v27 => if v27 = 0 then some (.inl (w (s1 + 1))) else if (rd M v27 6) = a1 then gd ((rd M v27 2) ≠ 0) ((p_X5_highWatermark M (rd M v27 2)).bind fun r34 => if (rd M v27 9) < r34 then some (.inl (w (s1 + 1))) else some (.inr (.inl (0)))) else some (.inl (w (s1 + 1)))) else some (.inr (.inr ()))
def p_X10_isReplicated (M : Mm) (a0 a1 : Int) : Option Int := (lp (b_X10_isReplicated_2 M a0 a1) 1000 0).bind (Sum.elim some fun (t2 : Unit) => some (1))
set_option maxRecDepth 100000 in
set_option maxHeartbeats 4000000 in
theorem xe_X10_isReplicated {D : Dt} {M : Mm} {a0 a1 : Int} (h0 : a0 ≠ 0) : XE D 0 mu_X10_isReplicated (EP 0 M) 0 [(0, (14, a0)), (1, (0, a1))] [] M (p_X10_isReplicated M a0 a1) := by
  unfold p_X10_isReplicated
  refine XE.go (st_iconst (n := 0) (pc' := 1) (by decide +kernel) (w_eq (by decide) (by decide)) rfl) ?_
  refine XE.go (st_istore_n (j := 2) (i := 2) (pc' := 2) (by decide +kernel) rfl rfl (by decide) rfl rfl) ?_
  refine XE.pick [1, 2, 0] (L' := [(0, (14, a0)), (1, (0, a1)), (2, (0, 0))]) rfl ?_
  refine XE.loopX (n := 1000) (s0 := 0) (pcL := 2) (pcE := 51) (LL := fun (s1 : Int) => [(0, (14, a0)), (1, (0, a1)), (2, (0, s1))]) (sL := fun _ => []) (ML := fun (s1 : Int) => M) (LE := fun (t2 : Unit) => []) (sE := fun _ => []) (ME := fun (t2 : Unit) => M) (fun kk23 hx22 hc20 he21 s1 => ?_) (fun t2 => ?_)
  · unfold b_X10_isReplicated_2
    refine XE.go (st_iload_n (j := 2) (i := 2) (pc' := 3) (by decide +kernel) rfl rfl rfl) ?_
    refine XE.go (st_aload_n (j := 0) (i := 0) (pc' := 4) (by decide +kernel) rfl rfl (by decide) rfl) ?_
    refine XE.go (st_get (pc' := 7) (by decide +kernel) rfl cls_10 fld_RX10_55 rfl rfl h0) ?_
    refine XE.bite (fun h24 => ?_) (fun h25 => ?_)
    · refine XE.go (st_icmp_ge_f (off := 44) (pc' := 10) (by decide +kernel) 51 (by decide) rfl (Int.not_le.mpr h24)) ?_
      refine XE.go (st_aload_n (j := 0) (i := 0) (pc' := 11) (by decide +kernel) rfl rfl (by decide) rfl) ?_
      refine XE.go (st_get (pc' := 14) (by decide +kernel) rfl cls_10 fld_RX10_35 rfl rfl h0) ?_
      refine XE.go (st_iload_n (j := 2) (i := 2) (pc' := 15) (by decide +kernel) rfl rfl rfl) ?_
      refine XE.gdb (fun g26 => ?_)
      refine XE.go (st_ald (k := 20) (tp := 8) (pc' := 16) (by decide +kernel) rfl ak_20 rfl (by decide) rfl (Or.inr (Or.inr (Or.inr ⟨rfl, rfl⟩))) g26.1 g26.2.1 g26.2.2) ?_
      refine XE.asc ?_
      refine XE.gen (fun v27 e28 => ?_)
      refine XE.go (st_astore_n (j := 3) (i := 3) (pc' := 17) (by decide +kernel) rfl (by decide) rfl (by decide) rfl rfl) ?_
      refine XE.go (st_aload_n (j := 3) (i := 3) (pc' := 18) (by decide +kernel) rfl rfl (by decide) rfl) ?_
      refine XE.bite (fun h29 => ?_) (fun h30 => ?_)
      · refine XE.go (st_ifnull_t (off := 27) (pc' := 45) (by decide +kernel) (by decide) h29 (by decide)) ?_
        refine XE.go (st_iinc (j := 2) (n := 1) (pc' := 48) (by decide +kernel) rfl rfl (by decide) rfl rfl) ?_
        refine XE.go (st_goto (off := (-46)) (pc' := 2) (by decide +kernel) (by decide)) ?_
        exact XE.pick [2, 3, 0] rfl (hc20 (w (s1 + 1)))
      · refine XE.go (st_ifnull_f (off := 27) (pc' := 21) (by decide +kernel) (by decide) h30 rfl) ?_
        refine XE.go (st_aload_n (j := 3) (i := 3) (pc' := 22) (by decide +kernel) rfl rfl (by decide) rfl) ?_
        refine XE.go (st_get (pc' := 25) (by decide +kernel) rfl cls_4 fld_RX10_215 rfl rfl h30) ?_
        refine XE.go (st_iload_n (j := 1) (i := 1) (pc' := 26) (by decide +kernel) rfl rfl rfl) ?_
        refine XE.bite (fun h31 => ?_) (fun h32 => ?_)
        · refine XE.go (st_icmp_ne_f (off := 19) (pc' := 29) (by decide +kernel) 45 (by decide) rfl (not_not_intro h31)) ?_
          refine XE.go (st_aload_n (j := 3) (i := 3) (pc' := 30) (by decide +kernel) rfl rfl (by decide) rfl) ?_
          refine XE.go (st_get (pc' := 33) (by decide +kernel) rfl cls_4 fld_RX10_205 rfl rfl h30) ?_
          refine XE.go (st_aload_n (j := 3) (i := 3) (pc' := 34) (by decide +kernel) rfl rfl (by decide) rfl) ?_
          refine XE.go (st_get (pc' := 37) (by decide +kernel) rfl cls_4 fld_RX10_144 rfl rfl h30) ?_
          refine XE.gdb (fun g33 => ?_)
          refine XE.asc ?_
          refine XE.cP (pc' := 40) (st := [(0, (rd M v27 9))]) (fun r hr => ct_X5_highWatermark g33 r hr) (fun r hr => run_V (st := [(0, (rd M v27 9))]) (by decide +kernel) co_X10_isReplicated_363 (ct_X5_highWatermark g33 r hr) rfl g33 rfl rfl (Nat.le_of_ble_eq_true rfl)) rfl rfl (fun r34 => ?_)
          refine XE.bite (fun h35 => ?_) (fun h36 => ?_)
          · refine XE.go (st_icmp_lt_t (off := 5) (pc' := 45) (by decide +kernel) (by decide) h35) ?_
            refine XE.go (st_iinc (j := 2) (n := 1) (pc' := 48) (by decide +kernel) rfl rfl (by decide) rfl rfl) ?_
            refine XE.go (st_goto (off := (-46)) (pc' := 2) (by decide +kernel) (by decide)) ?_
            exact XE.pick [2, 3, 0] rfl (hc20 (w (s1 + 1)))
          · refine XE.go (st_icmp_lt_f (off := 5) (pc' := 43) (by decide +kernel) 45 (by decide) rfl h36) ?_
            refine XE.go (st_iconst (n := 0) (pc' := 44) (by decide +kernel) (w_eq (by decide) (by decide)) rfl) ?_
            refine XE.cast (hx22 _) ?_
            exact XE.rt rfl (X_zret (by decide +kernel) rfl (by decide))
        · refine XE.go (st_icmp_ne_t (off := 19) (pc' := 45) (by decide +kernel) (by decide) h32) ?_
          refine XE.go (st_iinc (j := 2) (n := 1) (pc' := 48) (by decide +kernel) rfl rfl (by decide) rfl rfl) ?_
          refine XE.go (st_goto (off := (-46)) (pc' := 2) (by decide +kernel) (by decide)) ?_
          exact XE.pick [2, 3, 0] rfl (hc20 (w (s1 + 1)))
    · refine XE.go (st_icmp_ge_t (off := 44) (pc' := 51) (by decide +kernel) (by decide) (Int.not_lt.mp h25)) ?_
      exact XE.pick [] rfl (he21 ())
  · refine XE.go (st_iconst (n := 1) (pc' := 52) (by decide +kernel) (w_eq (by decide) (by decide)) rfl) ?_
    exact XE.rt rfl (X_zret (by decide +kernel) rfl (by decide))
theorem ct_X10_isReplicated {D : Dt} {M : Mm} {a0 a1 : Int} (h0 : a0 ≠ 0) (r : Int) (hr : p_X10_isReplicated M a0 a1 = some r) : CT D 0 mu_X10_isReplicated [(14, a0), (0, a1)] M (.inl (some (0, r))) M := CT.of (by decide +kernel) rfl (Nat.le_of_ble_eq_true rfl) (xe_X10_isReplicated h0 r hr)
def b_X6_placesStand_11 (M : Mm) (a0 : Int) (s3 : Int) : Option ((Int) ⊕ ((Int) ⊕ (Unit))) := gd ((rd M a0 8) ≠ 0) (if s3 < (ln (rd M a0 8)) then (p_X0_shareAt M (rd M a0 5) s3).bind fun r27 => gd (aok (rd M a0 8) s3) (if (rd M (rd M a0 8) s3) = (-1) then some (.inl (w (s3 + 1))) else if r27 = 0 then some (.inr (.inl (0))) else if (rd M r27 1) = (rd M a0 6) then some (.inl (w (s3 + 1))) else some (.inr (.inl (0)))) else some (.inr (.inr ())))
def p_X6_placesStand (M : Mm) (a0 : Int) : Option Int := if (rd M a0 5) = 0 then some (1) else (lp (b_X6_placesStand_11 M a0) 1000 0).bind (Sum.elim some fun (t4 : Unit) => if (rd M (rd M a0 5) 6) = (rd M a0 7) then some (1) else some (0))
set_option maxRecDepth 100000 in
set_option maxHeartbeats 4000000 in
theorem xe_X6_placesStand {D : Dt} {M : Mm} {a0 : Int} (h0 : a0 ≠ 0) : XE D 0 mu_X6_placesStand (EP 0 M) 0 [(0, (10, a0))] [] M (p_X6_placesStand M a0) := by
  unfold p_X6_placesStand
  refine XE.go (st_aload_n (j := 0) (i := 0) (pc' := 1) (by decide +kernel) rfl rfl (by decide) rfl) ?_
  refine XE.go (st_get (pc' := 4) (by decide +kernel) rfl cls_6 fld_RX6_25 rfl rfl h0) ?_
  refine XE.ite (fun h1 => ?_) (fun h2 => ?_)
  · refine XE.go (st_ifnonnull_f (off := 5) (pc' := 7) (by decide +kernel) (by decide) h1 rfl) ?_
    refine XE.go (st_iconst (n := 1) (pc' := 8) (by decide +kernel) (w_eq (by decide) (by decide)) rfl) ?_
    exact XE.rt rfl (X_zret (by decide +kernel) rfl (by decide))
  · refine XE.go (st_ifnonnull_t (off := 5) (pc' := 9) (by decide +kernel) (by decide) h2 (by decide)) ?_
    refine XE.go (st_iconst (n := 0) (pc' := 10) (by decide +kernel) (w_eq (by decide) (by decide)) rfl) ?_
    refine XE.go (st_istore_n (j := 1) (i := 1) (pc' := 11) (by decide +kernel) rfl rfl (by decide) rfl rfl) ?_
    refine XE.pick [1, 0] (L' := [(0, (10, a0)), (1, (0, 0))]) rfl ?_
    refine XE.loopX (n := 1000) (s0 := 0) (pcL := 11) (pcE := 62) (LL := fun (s3 : Int) => [(0, (10, a0)), (1, (0, s3))]) (sL := fun _ => []) (ML := fun (s3 : Int) => M) (LE := fun (t4 : Unit) => [(0, (10, a0))]) (sE := fun _ => []) (ME := fun (t4 : Unit) => M) (fun kk23 hx22 hc20 he21 s3 => ?_) (fun t4 => ?_)
    · unfold b_X6_placesStand_11
      refine XE.go (st_iload_n (j := 1) (i := 1) (pc' := 12) (by decide +kernel) rfl rfl rfl) ?_
      refine XE.go (st_aload_n (j := 0) (i := 0) (pc' := 13) (by decide +kernel) rfl rfl (by decide) rfl) ?_
      refine XE.go (st_get (pc' := 16) (by decide +kernel) rfl cls_6 fld_RX6_36 rfl rfl h0) ?_
      refine XE.gdb (fun g24 => ?_)
      refine XE.go (st_alen (k := 13) (pc' := 17) (by decide +kernel) rfl ak_13 rfl (by decide) g24) ?_
      refine XE.bite (fun h25 => ?_) (fun h26 => ?_)
      · refine XE.go (st_icmp_ge_f (off := 45) (pc' := 20) (by decide +kernel) 62 (by decide) rfl (Int.not_le.mpr h25)) ?_
        refine XE.go (st_aload_n (j := 0) (i := 0) (pc' := 21) (by decide +kernel) rfl rfl (by decide) rfl) ?_
        refine XE.go (st_get (pc' := 24) (by decide +kernel) rfl cls_6 fld_RX6_25 rfl rfl h0) ?_
        refine XE.go (st_iload_n (j := 1) (i := 1) (pc' := 25) (by decide +kernel) rfl rfl rfl) ?_
        refine XE.asc ?_
        refine XE.cP (pc' := 28) (st := []) (fun r hr => ct_X0_shareAt h2 r hr) (fun r hr => run_V (st := []) (by decide +kernel) co_X6_placesStand_43 (ct_X0_shareAt h2 r hr) rfl h2 rfl rfl (Nat.le_of_ble_eq_true rfl)) rfl rfl (fun r27 => ?_)
        refine XE.go (st_astore_n (j := 2) (i := 2) (pc' := 29) (by decide +kernel) rfl (by decide) rfl (by decide) rfl rfl) ?_
        refine XE.go (st_aload_n (j := 0) (i := 0) (pc' := 30) (by decide +kernel) rfl rfl (by decide) rfl) ?_
        refine XE.go (st_get (pc' := 33) (by decide +kernel) rfl cls_6 fld_RX6_36 rfl rfl h0) ?_
        refine XE.go (st_iload_n (j := 1) (i := 1) (pc' := 34) (by decide +kernel) rfl rfl rfl) ?_
        refine XE.gdb (fun g28 => ?_)
        refine XE.go (st_ald (k := 13) (tp := 0) (pc' := 35) (by decide +kernel) rfl ak_13 rfl (by decide) rfl (Or.inl ⟨rfl, rfl⟩) g28.1 g28.2.1 g28.2.2) ?_
        refine XE.go (st_iconst (n := (-1)) (pc' := 36) (by decide +kernel) (w_eq (by decide) (by decide)) rfl) ?_
        refine XE.bite (fun h29 => ?_) (fun h30 => ?_)
        · refine XE.go (st_icmp_eq_t (off := 20) (pc' := 56) (by decide +kernel) (by decide) h29) ?_
          refine XE.go (st_iinc (j := 1) (n := 1) (pc' := 59) (by decide +kernel) rfl rfl (by decide) rfl rfl) ?_
          refine XE.go (st_goto (off := (-48)) (pc' := 11) (by decide +kernel) (by decide)) ?_
          exact XE.pick [2, 0] rfl (hc20 (w (s3 + 1)))
        · refine XE.go (st_icmp_eq_f (off := 20) (pc' := 39) (by decide +kernel) 56 (by decide) rfl h30) ?_
          refine XE.go (st_aload_n (j := 2) (i := 2) (pc' := 40) (by decide +kernel) rfl rfl (by decide) rfl) ?_
          refine XE.bite (fun h31 => ?_) (fun h32 => ?_)
          · refine XE.go (st_ifnull_t (off := 14) (pc' := 54) (by decide +kernel) (by decide) h31 (by decide)) ?_
            refine XE.go (st_iconst (n := 0) (pc' := 55) (by decide +kernel) (w_eq (by decide) (by decide)) rfl) ?_
            refine XE.cast (hx22 _) ?_
            exact XE.rt rfl (X_zret (by decide +kernel) rfl (by decide))
          · refine XE.go (st_ifnull_f (off := 14) (pc' := 43) (by decide +kernel) (by decide) h32 rfl) ?_
            refine XE.go (st_aload_n (j := 2) (i := 2) (pc' := 44) (by decide +kernel) rfl rfl (by decide) rfl) ?_
            refine XE.go (st_get (pc' := 47) (by decide +kernel) rfl cls_8 fld_RX6_49 rfl rfl h32) ?_
            refine XE.go (st_aload_n (j := 0) (i := 0) (pc' := 48) (by decide +kernel) rfl rfl (by decide) rfl) ?_
            refine XE.go (st_get (pc' := 51) (by decide +kernel) rfl cls_6 fld_RX6_29 rfl rfl h0) ?_
            refine XE.bite (fun h33 => ?_) (fun h34 => ?_)
            · refine XE.go (st_acmp_eq_t (off := 5) (pc' := 56) (by decide +kernel) (by decide) (by decide) h33 (by decide)) ?_
              refine XE.go (st_iinc (j := 1) (n := 1) (pc' := 59) (by decide +kernel) rfl rfl (by decide) rfl rfl) ?_
              refine XE.go (st_goto (off := (-48)) (pc' := 11) (by decide +kernel) (by decide)) ?_
              exact XE.pick [2, 0] rfl (hc20 (w (s3 + 1)))
            · refine XE.go (st_acmp_eq_f (off := 5) (pc' := 54) (by decide +kernel) 56 (by decide) (by decide) (by decide) h34 rfl) ?_
              refine XE.go (st_iconst (n := 0) (pc' := 55) (by decide +kernel) (w_eq (by decide) (by decide)) rfl) ?_
              refine XE.cast (hx22 _) ?_
              exact XE.rt rfl (X_zret (by decide +kernel) rfl (by decide))
      · refine XE.go (st_icmp_ge_t (off := 45) (pc' := 62) (by decide +kernel) (by decide) (Int.not_lt.mp h26)) ?_
        exact XE.pick [0] rfl (he21 ())
    · refine XE.go (st_aload_n (j := 0) (i := 0) (pc' := 63) (by decide +kernel) rfl rfl (by decide) rfl) ?_
      refine XE.go (st_get (pc' := 66) (by decide +kernel) rfl cls_6 fld_RX6_25 rfl rfl h0) ?_
      refine XE.go (st_get (pc' := 69) (by decide +kernel) rfl cls_0 fld_RX6_60 rfl rfl h2) ?_
      refine XE.go (st_aload_n (j := 0) (i := 0) (pc' := 70) (by decide +kernel) rfl rfl (by decide) rfl) ?_
      refine XE.go (st_get (pc' := 73) (by decide +kernel) rfl cls_6 fld_RX6_33 rfl rfl h0) ?_
      refine XE.ite (fun h35 => ?_) (fun h36 => ?_)
      · refine XE.go (st_icmp_ne_f (off := 7) (pc' := 76) (by decide +kernel) 80 (by decide) rfl (not_not_intro h35)) ?_
        refine XE.go (st_iconst (n := 1) (pc' := 77) (by decide +kernel) (w_eq (by decide) (by decide)) rfl) ?_
        refine XE.go (st_goto (off := 4) (pc' := 81) (by decide +kernel) (by decide)) ?_
        exact XE.rt rfl (X_zret (by decide +kernel) rfl (by decide))
      · refine XE.go (st_icmp_ne_t (off := 7) (pc' := 80) (by decide +kernel) (by decide) h36) ?_
        refine XE.go (st_iconst (n := 0) (pc' := 81) (by decide +kernel) (w_eq (by decide) (by decide)) rfl) ?_
        exact XE.rt rfl (X_zret (by decide +kernel) rfl (by decide))
theorem ct_X6_placesStand {D : Dt} {M : Mm} {a0 : Int} (h0 : a0 ≠ 0) (r : Int) (hr : p_X6_placesStand M a0 = some r) : CT D 0 mu_X6_placesStand [(10, a0)] M (.inl (some (0, r))) M := CT.of (by decide +kernel) rfl (Nat.le_of_ble_eq_true rfl) (xe_X6_placesStand h0 r hr)
def b_X6_commitPlaces_2 (a0 : Int) (s1 : Int × Mm) : Option ((Int × Mm) ⊕ (Mm)) := gd ((rd s1.2 a0 8) ≠ 0) (if s1.1 < (ln (rd s1.2 a0 8)) then if (rd s1.2 a0 5) = 0 then some (.inr s1.2) else (p_X0_shareAt s1.2 (rd s1.2 a0 5) s1.1).bind fun r12 => if r12 = 0 then some (.inl ((w (s1.1 + 1)), s1.2)) else gd (aok (rd s1.2 a0 8) s1.1) (if (rd s1.2 r12 3) < (rd s1.2 (rd s1.2 a0 8) s1.1) then gd (aok (rd s1.2 a0 8) s1.1) ((some (wr s1.2 r12 3 (rd s1.2 (rd s1.2 a0 8) s1.1))).bind fun M19 => some (.inl ((w (s1.1 + 1)), M19))) else some (.inl ((w (s1.1 + 1)), s1.2))) else some (.inr s1.2))
def p_X6_commitPlaces (M : Mm) (a0 : Int) : Option Mm := (lp (b_X6_commitPlaces_2 a0) 1000 (0, M)).bind fun (t2 : Mm) => some (t2)
set_option maxRecDepth 100000 in
set_option maxHeartbeats 4000000 in
theorem xe_X6_commitPlaces {D : Dt} {M : Mm} {a0 : Int} (h0 : a0 ≠ 0) : XE D 0 mu_X6_commitPlaces EV 0 [(0, (10, a0))] [] M (p_X6_commitPlaces M a0) := by
  unfold p_X6_commitPlaces
  refine XE.go (st_iconst (n := 0) (pc' := 1) (by decide +kernel) (w_eq (by decide) (by decide)) rfl) ?_
  refine XE.go (st_istore_n (j := 1) (i := 1) (pc' := 2) (by decide +kernel) rfl rfl (by decide) rfl rfl) ?_
  refine XE.pick [1, 0] (L' := [(0, (10, a0)), (1, (0, 0))]) rfl ?_
  refine XE.loopJ (n := 1000) (s0 := (0, M)) (pcL := 2) (pcE := 60) (LL := fun (s1 : Int × Mm) => [(0, (10, a0)), (1, (0, s1.1))]) (sL := fun _ => []) (ML := fun (s1 : Int × Mm) => s1.2) (LE := fun (t2 : Mm) => []) (sE := fun _ => []) (ME := fun (t2 : Mm) => t2) (fun kk6 hc3 he4 s1 => ?_) (fun t2 => ?_)
  · unfold b_X6_commitPlaces_2
    refine XE.go (st_iload_n (j := 1) (i := 1) (pc' := 3) (by decide +kernel) rfl rfl rfl) ?_
    refine XE.go (st_aload_n (j := 0) (i := 0) (pc' := 4) (by decide +kernel) rfl rfl (by decide) rfl) ?_
    refine XE.go (st_get (pc' := 7) (by decide +kernel) rfl cls_6 fld_RX6_36 rfl rfl h0) ?_
    refine XE.gdb (fun g7 => ?_)
    refine XE.go (st_alen (k := 13) (pc' := 8) (by decide +kernel) rfl ak_13 rfl (by decide) g7) ?_
    refine XE.bite (fun h8 => ?_) (fun h9 => ?_)
    · refine XE.go (st_icmp_ge_f (off := 52) (pc' := 11) (by decide +kernel) 60 (by decide) rfl (Int.not_le.mpr h8)) ?_
      refine XE.go (st_aload_n (j := 0) (i := 0) (pc' := 12) (by decide +kernel) rfl rfl (by decide) rfl) ?_
      refine XE.go (st_get (pc' := 15) (by decide +kernel) rfl cls_6 fld_RX6_25 rfl rfl h0) ?_
      refine XE.bite (fun h10 => ?_) (fun h11 => ?_)
      · refine XE.go (st_ifnull_t (off := 45) (pc' := 60) (by decide +kernel) (by decide) h10 (by decide)) ?_
        exact XE.pick [] rfl (he4 s1.2)
      · refine XE.go (st_ifnull_f (off := 45) (pc' := 18) (by decide +kernel) (by decide) h11 rfl) ?_
        refine XE.go (st_aload_n (j := 0) (i := 0) (pc' := 19) (by decide +kernel) rfl rfl (by decide) rfl) ?_
        refine XE.go (st_get (pc' := 22) (by decide +kernel) rfl cls_6 fld_RX6_25 rfl rfl h0) ?_
        refine XE.go (st_iload_n (j := 1) (i := 1) (pc' := 23) (by decide +kernel) rfl rfl rfl) ?_
        refine XE.asc ?_
        refine XE.cP (pc' := 26) (st := []) (fun r hr => ct_X0_shareAt h11 r hr) (fun r hr => run_V (st := []) (by decide +kernel) co_X6_commitPlaces_43 (ct_X0_shareAt h11 r hr) rfl h11 rfl rfl (Nat.le_of_ble_eq_true rfl)) rfl rfl (fun r12 => ?_)
        refine XE.go (st_astore_n (j := 2) (i := 2) (pc' := 27) (by decide +kernel) rfl (by decide) rfl (by decide) rfl rfl) ?_
        refine XE.go (st_aload_n (j := 2) (i := 2) (pc' := 28) (by decide +kernel) rfl rfl (by decide) rfl) ?_
        refine XE.bite (fun h13 => ?_) (fun h14 => ?_)
        · refine XE.go (st_ifnull_t (off := 26) (pc' := 54) (by decide +kernel) (by decide) h13 (by decide)) ?_
          refine XE.go (st_iinc (j := 1) (n := 1) (pc' := 57) (by decide +kernel) rfl rfl (by decide) rfl rfl) ?_
          refine XE.go (st_goto (off := (-55)) (pc' := 2) (by decide +kernel) (by decide)) ?_
          exact XE.pick [2, 0] rfl (hc3 ((w (s1.1 + 1)), s1.2))
        · refine XE.go (st_ifnull_f (off := 26) (pc' := 31) (by decide +kernel) (by decide) h14 rfl) ?_
          refine XE.go (st_aload_n (j := 0) (i := 0) (pc' := 32) (by decide +kernel) rfl rfl (by decide) rfl) ?_
          refine XE.go (st_get (pc' := 35) (by decide +kernel) rfl cls_6 fld_RX6_36 rfl rfl h0) ?_
          refine XE.go (st_iload_n (j := 1) (i := 1) (pc' := 36) (by decide +kernel) rfl rfl rfl) ?_
          refine XE.gdb (fun g15 => ?_)
          refine XE.go (st_ald (k := 13) (tp := 0) (pc' := 37) (by decide +kernel) rfl ak_13 rfl (by decide) rfl (Or.inl ⟨rfl, rfl⟩) g15.1 g15.2.1 g15.2.2) ?_
          refine XE.go (st_aload_n (j := 2) (i := 2) (pc' := 38) (by decide +kernel) rfl rfl (by decide) rfl) ?_
          refine XE.go (st_get (pc' := 41) (by decide +kernel) rfl cls_8 fld_RX6_63 rfl rfl h14) ?_
          refine XE.bite (fun h16 => ?_) (fun h17 => ?_)
          · refine XE.go (st_icmp_le_f (off := 13) (pc' := 44) (by decide +kernel) 54 (by decide) rfl (Int.not_le.mpr h16)) ?_
            refine XE.go (st_aload_n (j := 2) (i := 2) (pc' := 45) (by decide +kernel) rfl rfl (by decide) rfl) ?_
            refine XE.go (st_aload_n (j := 0) (i := 0) (pc' := 46) (by decide +kernel) rfl rfl (by decide) rfl) ?_
            refine XE.go (st_get (pc' := 49) (by decide +kernel) rfl cls_6 fld_RX6_36 rfl rfl h0) ?_
            refine XE.go (st_iload_n (j := 1) (i := 1) (pc' := 50) (by decide +kernel) rfl rfl rfl) ?_
            refine XE.gdb (fun g18 => ?_)
            refine XE.go (st_ald (k := 13) (tp := 0) (pc' := 51) (by decide +kernel) rfl ak_13 rfl (by decide) rfl (Or.inl ⟨rfl, rfl⟩) g18.1 g18.2.1 g18.2.2) ?_
            refine XE.asc ?_
            refine XE.goM (st_put (pc' := 54) (by decide +kernel) rfl cls_8 fld_RX6_63 rfl rfl (fun h => absurd h (by decide)) (fun h => nomatch h) h14) (fun M19 => ?_)
            refine XE.go (st_iinc (j := 1) (n := 1) (pc' := 57) (by decide +kernel) rfl rfl (by decide) rfl rfl) ?_
            refine XE.go (st_goto (off := (-55)) (pc' := 2) (by decide +kernel) (by decide)) ?_
            exact XE.pick [2, 0] rfl (hc3 ((w (s1.1 + 1)), M19))
          · refine XE.go (st_icmp_le_t (off := 13) (pc' := 54) (by decide +kernel) (by decide) (Int.not_lt.mp h17)) ?_
            refine XE.go (st_iinc (j := 1) (n := 1) (pc' := 57) (by decide +kernel) rfl rfl (by decide) rfl rfl) ?_
            refine XE.go (st_goto (off := (-55)) (pc' := 2) (by decide +kernel) (by decide)) ?_
            exact XE.pick [2, 0] rfl (hc3 ((w (s1.1 + 1)), s1.2))
    · refine XE.go (st_icmp_ge_t (off := 52) (pc' := 60) (by decide +kernel) (by decide) (Int.not_lt.mp h9)) ?_
      exact XE.pick [] rfl (he4 s1.2)
  · exact XE.rt rfl (X_vret (by decide +kernel) rfl)
theorem ct_X6_commitPlaces {D : Dt} {M : Mm} {a0 : Int} (h0 : a0 ≠ 0) (r : Mm) (hr : p_X6_commitPlaces M a0 = some r) : CT D 0 mu_X6_commitPlaces [(10, a0)] M (.inl none) r := CT.of (by decide +kernel) rfl (Nat.le_of_ble_eq_true rfl) (xe_X6_commitPlaces h0 r hr)
def p_X6_endTransaction (M : Mm) (a0 : Int) : Option Mm := (some (wr M a0 3 (-1))).bind fun M1 => (some (wr M1 a0 4 0)).bind fun M2 => (some (wr M2 a0 5 0)).bind fun M3 => some (M3)
set_option maxRecDepth 100000 in
set_option maxHeartbeats 4000000 in
theorem xe_X6_endTransaction {D : Dt} {M : Mm} {a0 : Int} (h0 : a0 ≠ 0) : XE D 0 mu_X6_endTransaction EV 0 [(0, (10, a0))] [] M (p_X6_endTransaction M a0) := by
  unfold p_X6_endTransaction
  refine XE.go (st_aload_n (j := 0) (i := 0) (pc' := 1) (by decide +kernel) rfl rfl (by decide) rfl) ?_
  refine XE.go (st_iconst (n := (-1)) (pc' := 2) (by decide +kernel) (w_eq (by decide) (by decide)) rfl) ?_
  refine XE.goM (st_put (pc' := 5) (by decide +kernel) rfl cls_6 fld_RX6_18 rfl rfl (fun h => absurd h (by decide)) (fun h => nomatch h) h0) (fun M1 => ?_)
  refine XE.go (st_aload_n (j := 0) (i := 0) (pc' := 6) (by decide +kernel) rfl rfl (by decide) rfl) ?_
  refine XE.go (st_iconst (n := 0) (pc' := 7) (by decide +kernel) (w_eq (by decide) (by decide)) rfl) ?_
  refine XE.goM (st_put (pc' := 10) (by decide +kernel) rfl cls_6 fld_RX6_21 rfl rfl (fun _ => by decide) (fun h => nomatch h) h0) (fun M2 => ?_)
  refine XE.go (st_aload_n (j := 0) (i := 0) (pc' := 11) (by decide +kernel) rfl rfl (by decide) rfl) ?_
  refine XE.go (st_null (t := 4) (pc' := 12) (by decide +kernel) (by decide) rfl) ?_
  refine XE.goM (st_put (pc' := 15) (by decide +kernel) rfl cls_6 fld_RX6_25 rfl rfl (fun h => absurd h (by decide)) (fun h => nomatch h) h0) (fun M3 => ?_)
  exact XE.rt rfl (X_vret (by decide +kernel) rfl)
theorem ct_X6_endTransaction {D : Dt} {M : Mm} {a0 : Int} (h0 : a0 ≠ 0) (r : Mm) (hr : p_X6_endTransaction M a0 = some r) : CT D 0 mu_X6_endTransaction [(10, a0)] M (.inl none) r := CT.of (by decide +kernel) rfl (Nat.le_of_ble_eq_true rfl) (xe_X6_endTransaction h0 r hr)
def p_X10_commit (M : Mm) (a0 a1 : Int) : Option (Int × Int × Mm) := (p_X10_producerOf M a0 a1).bind (thT psT fun v1 M2 => gd (v1 ≠ 0) (if (rd M2 v1 3) = (-1) then psT 3 0 (thr M2) else if (rd M2 v1 4) = 0 then (p_X10_isReplicated M2 a0 (rd M2 v1 3)).bind fun r8 => if r8 = 0 then psT 3 0 (thr M2) else (p_X6_placesStand M2 v1).bind fun r11 => if r11 = 0 then psT 3 0 (thr M2) else (p_X6_commitPlaces M2 v1).bind fun M14 => (p_X10_settle M14 a0 (rd M14 v1 3) 2).bind fun r15 => (p_X6_endTransaction r15.2 v1).bind fun M16 => some (0, r15.1, M16) else psT 3 0 (thr M2)))
set_option maxRecDepth 100000 in
set_option maxHeartbeats 4000000 in
theorem xe_X10_commit {D : Dt} {M : Mm} {a0 a1 : Int} (h0 : a0 ≠ 0) : XE D 0 mu_X10_commit (ET 0) 0 [(0, (14, a0)), (1, (0, a1))] [] M (p_X10_commit M a0 a1) := by
  unfold p_X10_commit
  refine XE.go (st_aload_n (j := 0) (i := 0) (pc' := 1) (by decide +kernel) rfl rfl (by decide) rfl) ?_
  refine XE.go (st_iload_n (j := 1) (i := 1) (pc' := 2) (by decide +kernel) rfl rfl rfl) ?_
  refine XE.cTg (pc' := 5) (st := []) hfT (fun r hr => ct_X10_producerOf h0 r hr) (fun r hr => run_V (st := []) (by decide +kernel) co_X10_commit_289 (ct_X10_producerOf h0 r hr) rfl h0 rfl rfl (Nat.le_of_ble_eq_true rfl)) rfl rfl rfl (fun v1 M2 => ?_)
  refine XE.go (st_astore_n (j := 2) (i := 2) (pc' := 6) (by decide +kernel) rfl (by decide) rfl (by decide) rfl rfl) ?_
  refine XE.go (st_aload_n (j := 2) (i := 2) (pc' := 7) (by decide +kernel) rfl rfl (by decide) rfl) ?_
  refine XE.gd_ (fun g3 => ?_)
  refine XE.go (st_get (pc' := 10) (by decide +kernel) rfl cls_6 fld_RX10_315 rfl rfl g3) ?_
  refine XE.go (st_iconst (n := (-1)) (pc' := 11) (by decide +kernel) (w_eq (by decide) (by decide)) rfl) ?_
  refine XE.ite (fun h4 => ?_) (fun h5 => ?_)
  · refine XE.go (st_icmp_eq_t (off := 28) (pc' := 39) (by decide +kernel) (by decide) h4) ?_
    exact XE.thrTW (by decide +kernel) (by decide +kernel) (by decide +kernel) (by decide +kernel) (by decide +kernel) thr_RX10_355 rfl (by decide) (by decide) (by decide)
  · refine XE.go (st_icmp_eq_f (off := 28) (pc' := 14) (by decide +kernel) 39 (by decide) rfl h5) ?_
    refine XE.go (st_aload_n (j := 2) (i := 2) (pc' := 15) (by decide +kernel) rfl rfl (by decide) rfl) ?_
    refine XE.go (st_get (pc' := 18) (by decide +kernel) rfl cls_6 fld_RX10_212 rfl rfl g3) ?_
    refine XE.ite (fun h6 => ?_) (fun h7 => ?_)
    · refine XE.go (st_if_ne_f (off := 21) (pc' := 21) (by decide +kernel) 39 (by decide) rfl (not_not_intro h6)) ?_
      refine XE.go (st_aload_n (j := 0) (i := 0) (pc' := 22) (by decide +kernel) rfl rfl (by decide) rfl) ?_
      refine XE.go (st_aload_n (j := 2) (i := 2) (pc' := 23) (by decide +kernel) rfl rfl (by decide) rfl) ?_
      refine XE.go (st_get (pc' := 26) (by decide +kernel) rfl cls_6 fld_RX10_315 rfl rfl g3) ?_
      refine XE.cP (pc' := 29) (st := []) (fun r hr => ct_X10_isReplicated h0 r hr) (fun r hr => run_V (st := []) (by decide +kernel) co_X10_commit_348 (ct_X10_isReplicated h0 r hr) rfl h0 rfl rfl (Nat.le_of_ble_eq_true rfl)) rfl rfl (fun r8 => ?_)
      refine XE.ite (fun h9 => ?_) (fun h10 => ?_)
      · refine XE.go (st_if_eq_t (off := 10) (pc' := 39) (by decide +kernel) (by decide) h9) ?_
        exact XE.thrTW (by decide +kernel) (by decide +kernel) (by decide +kernel) (by decide +kernel) (by decide +kernel) thr_RX10_355 rfl (by decide) (by decide) (by decide)
      · refine XE.go (st_if_eq_f (off := 10) (pc' := 32) (by decide +kernel) 39 (by decide) rfl h10) ?_
        refine XE.go (st_aload_n (j := 2) (i := 2) (pc' := 33) (by decide +kernel) rfl rfl (by decide) rfl) ?_
        refine XE.cP (pc' := 36) (st := []) (fun r hr => ct_X6_placesStand g3 r hr) (fun r hr => run_V (st := []) (by decide +kernel) co_X10_commit_351 (ct_X6_placesStand g3 r hr) rfl g3 rfl rfl (Nat.le_of_ble_eq_true rfl)) rfl rfl (fun r11 => ?_)
        refine XE.ite (fun h12 => ?_) (fun h13 => ?_)
        · refine XE.go (st_if_ne_f (off := 14) (pc' := 39) (by decide +kernel) 50 (by decide) rfl (not_not_intro h12)) ?_
          exact XE.thrTW (by decide +kernel) (by decide +kernel) (by decide +kernel) (by decide +kernel) (by decide +kernel) thr_RX10_355 rfl (by decide) (by decide) (by decide)
        · refine XE.go (st_if_ne_t (off := 14) (pc' := 50) (by decide +kernel) (by decide) h13) ?_
          refine XE.go (st_aload_n (j := 2) (i := 2) (pc' := 51) (by decide +kernel) rfl rfl (by decide) rfl) ?_
          refine XE.cV (pc' := 54) (st := []) (fun r hr => ct_X6_commitPlaces g3 r hr) (fun r hr => run_V (st := []) (by decide +kernel) co_X10_commit_357 (ct_X6_commitPlaces g3 r hr) rfl g3 rfl rfl (Nat.le_of_ble_eq_true rfl)) rfl rfl (fun M14 => ?_)
          refine XE.go (st_aload_n (j := 0) (i := 0) (pc' := 55) (by decide +kernel) rfl rfl (by decide) rfl) ?_
          refine XE.go (st_aload_n (j := 2) (i := 2) (pc' := 56) (by decide +kernel) rfl rfl (by decide) rfl) ?_
          refine XE.go (st_get (pc' := 59) (by decide +kernel) rfl cls_6 fld_RX10_315 rfl rfl g3) ?_
          refine XE.go (st_iconst (n := 2) (pc' := 60) (by decide +kernel) (w_eq (by decide) (by decide)) rfl) ?_
          refine XE.cW (pc' := 63) (st := []) (fun r hr => ct_X10_settle h0 r hr) (fun r hr => run_V (st := []) (by decide +kernel) co_X10_commit_218 (ct_X10_settle h0 r hr) rfl h0 rfl rfl (Nat.le_of_ble_eq_true rfl)) rfl rfl (fun r15 => ?_)
          refine XE.go (st_istore_n (j := 3) (i := 3) (pc' := 64) (by decide +kernel) rfl rfl (by decide) rfl rfl) ?_
          refine XE.go (st_aload_n (j := 2) (i := 2) (pc' := 65) (by decide +kernel) rfl rfl (by decide) rfl) ?_
          refine XE.cV (pc' := 68) (st := []) (fun r hr => ct_X6_endTransaction g3 r hr) (fun r hr => run_V (st := []) (by decide +kernel) co_X10_commit_360 (ct_X6_endTransaction g3 r hr) rfl g3 rfl rfl (Nat.le_of_ble_eq_true rfl)) rfl rfl (fun M16 => ?_)
          refine XE.go (st_iload_n (j := 3) (i := 3) (pc' := 69) (by decide +kernel) rfl rfl rfl) ?_
          exact XE.rt rfl (X_iret (by decide +kernel) rfl)
    · refine XE.go (st_if_ne_t (off := 21) (pc' := 39) (by decide +kernel) (by decide) h7) ?_
      exact XE.thrTW (by decide +kernel) (by decide +kernel) (by decide +kernel) (by decide +kernel) (by decide +kernel) thr_RX10_355 rfl (by decide) (by decide) (by decide)
theorem ct_X10_commit {D : Dt} {M : Mm} {a0 a1 : Int} (h0 : a0 ≠ 0) (r : (Int × Int × Mm)) (hr : p_X10_commit M a0 a1 = some r) : CT D 0 mu_X10_commit [(14, a0), (0, a1)] M (ET 0 r).1 (ET 0 r).2 := CT.of (by decide +kernel) rfl (Nat.le_of_ble_eq_true rfl) (xe_X10_commit h0 r hr)
def p_X10_abort (M : Mm) (a0 a1 : Int) : Option (Int × Int × Mm) := (p_X10_producerOf M a0 a1).bind (thT psT fun v1 M2 => gd (v1 ≠ 0) (if (rd M2 v1 3) = (-1) then psT 3 0 (thr M2) else (p_X10_settle M2 a0 (rd M2 v1 3) 3).bind fun r6 => (p_X6_endTransaction r6.2 v1).bind fun M7 => some (0, r6.1, M7)))
set_option maxRecDepth 100000 in
set_option maxHeartbeats 4000000 in
theorem xe_X10_abort {D : Dt} {M : Mm} {a0 a1 : Int} (h0 : a0 ≠ 0) : XE D 0 mu_X10_abort (ET 0) 0 [(0, (14, a0)), (1, (0, a1))] [] M (p_X10_abort M a0 a1) := by
  unfold p_X10_abort
  refine XE.go (st_aload_n (j := 0) (i := 0) (pc' := 1) (by decide +kernel) rfl rfl (by decide) rfl) ?_
  refine XE.go (st_iload_n (j := 1) (i := 1) (pc' := 2) (by decide +kernel) rfl rfl rfl) ?_
  refine XE.cTg (pc' := 5) (st := []) hfT (fun r hr => ct_X10_producerOf h0 r hr) (fun r hr => run_V (st := []) (by decide +kernel) co_X10_abort_289 (ct_X10_producerOf h0 r hr) rfl h0 rfl rfl (Nat.le_of_ble_eq_true rfl)) rfl rfl rfl (fun v1 M2 => ?_)
  refine XE.go (st_astore_n (j := 2) (i := 2) (pc' := 6) (by decide +kernel) rfl (by decide) rfl (by decide) rfl rfl) ?_
  refine XE.go (st_aload_n (j := 2) (i := 2) (pc' := 7) (by decide +kernel) rfl rfl (by decide) rfl) ?_
  refine XE.gd_ (fun g3 => ?_)
  refine XE.go (st_get (pc' := 10) (by decide +kernel) rfl cls_6 fld_RX10_315 rfl rfl g3) ?_
  refine XE.go (st_iconst (n := (-1)) (pc' := 11) (by decide +kernel) (w_eq (by decide) (by decide)) rfl) ?_
  refine XE.ite (fun h4 => ?_) (fun h5 => ?_)
  · refine XE.go (st_icmp_ne_f (off := 14) (pc' := 14) (by decide +kernel) 25 (by decide) rfl (not_not_intro h4)) ?_
    exact XE.thrTW (by decide +kernel) (by decide +kernel) (by decide +kernel) (by decide +kernel) (by decide +kernel) thr_RX10_366 rfl (by decide) (by decide) (by decide)
  · refine XE.go (st_icmp_ne_t (off := 14) (pc' := 25) (by decide +kernel) (by decide) h5) ?_
    refine XE.go (st_aload_n (j := 0) (i := 0) (pc' := 26) (by decide +kernel) rfl rfl (by decide) rfl) ?_
    refine XE.go (st_aload_n (j := 2) (i := 2) (pc' := 27) (by decide +kernel) rfl rfl (by decide) rfl) ?_
    refine XE.go (st_get (pc' := 30) (by decide +kernel) rfl cls_6 fld_RX10_315 rfl rfl g3) ?_
    refine XE.go (st_iconst (n := 3) (pc' := 31) (by decide +kernel) (w_eq (by decide) (by decide)) rfl) ?_
    refine XE.cW (pc' := 34) (st := []) (fun r hr => ct_X10_settle h0 r hr) (fun r hr => run_V (st := []) (by decide +kernel) co_X10_abort_218 (ct_X10_settle h0 r hr) rfl h0 rfl rfl (Nat.le_of_ble_eq_true rfl)) rfl rfl (fun r6 => ?_)
    refine XE.go (st_istore_n (j := 3) (i := 3) (pc' := 35) (by decide +kernel) rfl rfl (by decide) rfl rfl) ?_
    refine XE.go (st_aload_n (j := 2) (i := 2) (pc' := 36) (by decide +kernel) rfl rfl (by decide) rfl) ?_
    refine XE.cV (pc' := 39) (st := []) (fun r hr => ct_X6_endTransaction g3 r hr) (fun r hr => run_V (st := []) (by decide +kernel) co_X10_abort_360 (ct_X6_endTransaction g3 r hr) rfl g3 rfl rfl (Nat.le_of_ble_eq_true rfl)) rfl rfl (fun M7 => ?_)
    refine XE.go (st_iload_n (j := 3) (i := 3) (pc' := 40) (by decide +kernel) rfl rfl rfl) ?_
    exact XE.rt rfl (X_iret (by decide +kernel) rfl)
theorem ct_X10_abort {D : Dt} {M : Mm} {a0 a1 : Int} (h0 : a0 ≠ 0) (r : (Int × Int × Mm)) (hr : p_X10_abort M a0 a1 = some r) : CT D 0 mu_X10_abort [(14, a0), (0, a1)] M (ET 0 r).1 (ET 0 r).2 := CT.of (by decide +kernel) rfl (Nat.le_of_ble_eq_true rfl) (xe_X10_abort h0 r hr)
def p_X2_init (M : Mm) (a0 a1 : Int) : Option Mm := (some (wr M a0 1 0)).bind fun M1 => if 0 < a1 then (ala M1 17 (17100 + (a0 - 3000)) a1).bind fun M4 => (some (wr M4 a0 0 (17100 + (a0 - 3000)))).bind fun M6 => some (M6) else (ala M1 17 (17100 + (a0 - 3000)) 0).bind fun M7 => (some (wr M7 a0 0 (17100 + (a0 - 3000)))).bind fun M9 => some (M9)
set_option maxRecDepth 100000 in
set_option maxHeartbeats 4000000 in
theorem xe_X2_init {D : Dt} {M : Mm} {a0 a1 : Int} (h0 : a0 ≠ 0) : XE D 0 mu_X2_init EV 0 [(0, (6, a0)), (1, (0, a1))] [] M (p_X2_init M a0 a1) := by
  unfold p_X2_init
  refine XE.go (st_aload_n (j := 0) (i := 0) (pc' := 1) (by decide +kernel) rfl rfl (by decide) rfl) ?_
  refine XE.go (st_oinit (pc' := 4) (by decide +kernel) rfl oi_RX2_1 (by decide) (by decide) (by decide) h0) ?_
  refine XE.go (st_aload_n (j := 0) (i := 0) (pc' := 5) (by decide +kernel) rfl rfl (by decide) rfl) ?_
  refine XE.go (st_iconst (n := 0) (pc' := 6) (by decide +kernel) (w_eq (by decide) (by decide)) rfl) ?_
  refine XE.goM (st_put (pc' := 9) (by decide +kernel) rfl cls_2 fld_RX2_7 rfl rfl (fun h => absurd h (by decide)) (fun h => nomatch h) h0) (fun M1 => ?_)
  refine XE.go (st_aload_n (j := 0) (i := 0) (pc' := 10) (by decide +kernel) rfl rfl (by decide) rfl) ?_
  refine XE.go (st_iload_n (j := 1) (i := 1) (pc' := 11) (by decide +kernel) rfl rfl rfl) ?_
  refine XE.ite (fun h2 => ?_) (fun h3 => ?_)
  · refine XE.go (st_if_le_f (off := 7) (pc' := 14) (by decide +kernel) 18 (by decide) rfl (Int.not_le.mpr h2)) ?_
    refine XE.go (st_iload_n (j := 1) (i := 1) (pc' := 15) (by decide +kernel) rfl rfl rfl) ?_
    refine XE.go (st_goto (off := 4) (pc' := 19) (by decide +kernel) (by decide)) ?_
    refine XE.ala_ (fun q1 q2 q3 q4 => st_anew (c := 1) (pc' := 22) (by decide +kernel) rfl ak_17 (bg_2 124 rfl rfl) (by decide) rfl q1 q2 q3 q4 rfl) (by decide) (fun M4 h5 => ?_)
    refine XE.goM (st_put (pc' := 25) (by decide +kernel) rfl cls_2 fld_RX2_15 rfl rfl (fun h => absurd h (by decide)) (fun _ => ⟨rfl, rfl⟩) h0) (fun M6 => ?_)
    exact XE.rt rfl (X_vret (by decide +kernel) rfl)
  · refine XE.go (st_if_le_t (off := 7) (pc' := 18) (by decide +kernel) (by decide) (Int.not_lt.mp h3)) ?_
    refine XE.go (st_iconst (n := 0) (pc' := 19) (by decide +kernel) (w_eq (by decide) (by decide)) rfl) ?_
    refine XE.ala_ (fun q1 q2 q3 q4 => st_anew (c := 1) (pc' := 22) (by decide +kernel) rfl ak_17 (bg_2 124 rfl rfl) (by decide) rfl q1 q2 q3 q4 rfl) (by decide) (fun M7 h8 => ?_)
    refine XE.goM (st_put (pc' := 25) (by decide +kernel) rfl cls_2 fld_RX2_15 rfl rfl (fun h => absurd h (by decide)) (fun _ => ⟨rfl, rfl⟩) h0) (fun M9 => ?_)
    exact XE.rt rfl (X_vret (by decide +kernel) rfl)
theorem ct_X2_init {D : Dt} {M : Mm} {a0 a1 : Int} (h0 : a0 ≠ 0) (r : Mm) (hr : p_X2_init M a0 a1 = some r) : CT D 0 mu_X2_init [(6, a0), (0, a1)] M (.inl none) r := CT.of (by decide +kernel) rfl (Nat.le_of_ble_eq_true rfl) (xe_X2_init h0 r hr)
def p_X0_init (M : Mm) (a0 : Int) : Option Mm := (ala M 24 (24000 + (a0 - 1000)) 9).bind fun M1 => (some (wr M1 a0 0 (24000 + (a0 - 1000)))).bind fun M3 => (ala M3 19 (19000 + (a0 - 1000)) 12).bind fun M4 => (some (wr M4 a0 1 (19000 + (a0 - 1000)))).bind fun M6 => (ala M6 17 (17000 + (a0 - 1000)) 150).bind fun M7 => (some (wr M7 a0 2 (17000 + (a0 - 1000)))).bind fun M9 => (alo M9 3 (3000 + (a0 - 1000)) 2).bind fun M10 => (p_X2_init M10 (3000 + (a0 - 1000)) 150).bind fun M12 => (some (wr M12 a0 3 (3000 + (a0 - 1000)))).bind fun M13 => (alo M13 3 (3003 + (a0 - 1000)) 2).bind fun M14 => (p_X2_init M14 (3003 + (a0 - 1000)) 150).bind fun M16 => (some (wr M16 a0 4 (3003 + (a0 - 1000)))).bind fun M17 => (some (wr M17 a0 5 0)).bind fun M18 => (some (wr M18 a0 6 0)).bind fun M19 => (some (wr M19 a0 7 0)).bind fun M20 => (some (wr M20 a0 8 0)).bind fun M21 => (some (wr M21 a0 9 0)).bind fun M22 => some (M22)
set_option maxRecDepth 100000 in
set_option maxHeartbeats 4000000 in
theorem xe_X0_init {D : Dt} {M : Mm} {a0 : Int} (h0 : a0 ≠ 0) : XE D 0 mu_X0_init EV 0 [(0, (4, a0))] [] M (p_X0_init M a0) := by
  unfold p_X0_init
  refine XE.go (st_aload_n (j := 0) (i := 0) (pc' := 1) (by decide +kernel) rfl rfl (by decide) rfl) ?_
  refine XE.go (st_oinit (pc' := 4) (by decide +kernel) rfl oi_RX0_3 (by decide) (by decide) (by decide) h0) ?_
  refine XE.go (st_aload_n (j := 0) (i := 0) (pc' := 5) (by decide +kernel) rfl rfl (by decide) rfl) ?_
  refine XE.go (st_bipush (n := 9) (pc' := 7) (by decide +kernel) (by decide) (w_eq (by decide) (by decide)) rfl) ?_
  refine XE.ala_ (fun q1 q2 q3 q4 => st_anew (c := 8) (pc' := 10) (by decide +kernel) rfl ak_24 (bg_2 112 rfl rfl) (by decide) rfl q1 q2 q3 q4 rfl) (by decide) (fun M1 h2 => ?_)
  refine XE.goM (st_put (pc' := 13) (by decide +kernel) rfl cls_0 fld_RX0_11 rfl rfl (fun h => absurd h (by decide)) (fun _ => ⟨rfl, rfl⟩) h0) (fun M3 => ?_)
  refine XE.go (st_aload_n (j := 0) (i := 0) (pc' := 14) (by decide +kernel) rfl rfl (by decide) rfl) ?_
  refine XE.go (st_bipush (n := 12) (pc' := 16) (by decide +kernel) (by decide) (w_eq (by decide) (by decide)) rfl) ?_
  refine XE.ala_ (fun q1 q2 q3 q4 => st_anew (c := 3) (pc' := 19) (by decide +kernel) rfl ak_19 (bg_2 114 rfl rfl) (by decide) rfl q1 q2 q3 q4 rfl) (by decide) (fun M4 h5 => ?_)
  refine XE.goM (st_put (pc' := 22) (by decide +kernel) rfl cls_0 fld_RX0_19 rfl rfl (fun h => absurd h (by decide)) (fun _ => ⟨rfl, rfl⟩) h0) (fun M6 => ?_)
  refine XE.go (st_aload_n (j := 0) (i := 0) (pc' := 23) (by decide +kernel) rfl rfl (by decide) rfl) ?_
  refine XE.go (st_sipush (n := 150) (pc' := 26) (by decide +kernel) (by decide) (w_eq (by decide) (by decide)) rfl) ?_
  refine XE.ala_ (fun q1 q2 q3 q4 => st_anew (c := 1) (pc' := 29) (by decide +kernel) rfl ak_17 (bg_2 116 rfl rfl) (by decide) rfl q1 q2 q3 q4 rfl) (by decide) (fun M7 h8 => ?_)
  refine XE.goM (st_put (pc' := 32) (by decide +kernel) rfl cls_0 fld_RX0_25 rfl rfl (fun h => absurd h (by decide)) (fun _ => ⟨rfl, rfl⟩) h0) (fun M9 => ?_)
  refine XE.go (st_aload_n (j := 0) (i := 0) (pc' := 33) (by decide +kernel) rfl rfl (by decide) rfl) ?_
  refine XE.alo_ (fun q1 q2 q3 => st_new (pc' := 36) (by decide +kernel) rfl cls_2 nw_RX0_29 rfl rfl q1 q2 q3) (by decide) (fun M10 h11 => ?_)
  refine XE.go (st_dup (pc' := 37) (by decide +kernel) rfl rfl) ?_
  refine XE.go (st_sipush (n := 150) (pc' := 40) (by decide +kernel) (by decide) (w_eq (by decide) (by decide)) rfl) ?_
  refine XE.cV (pc' := 43) (st := [(6, (3000 + (a0 - 1000))), (4, a0)]) (fun r hr => ct_X2_init h11 r hr) (fun r hr => run_I (st := [(6, (3000 + (a0 - 1000))), (4, a0)]) (by decide +kernel) co_X0_init_31 (ct_X2_init h11 r hr) (by decide) h11 rfl rfl (Nat.le_of_ble_eq_true rfl)) rfl rfl (fun M12 => ?_)
  refine XE.goM (st_put (pc' := 46) (by decide +kernel) rfl cls_0 fld_RX0_34 rfl rfl (fun h => absurd h (by decide)) (fun _ => ⟨rfl, rfl⟩) h0) (fun M13 => ?_)
  refine XE.go (st_aload_n (j := 0) (i := 0) (pc' := 47) (by decide +kernel) rfl rfl (by decide) rfl) ?_
  refine XE.alo_ (fun q1 q2 q3 => st_new (pc' := 50) (by decide +kernel) rfl cls_2 nw_RX0_29 rfl rfl q1 q2 q3) (by decide) (fun M14 h15 => ?_)
  refine XE.go (st_dup (pc' := 51) (by decide +kernel) rfl rfl) ?_
  refine XE.go (st_sipush (n := 150) (pc' := 54) (by decide +kernel) (by decide) (w_eq (by decide) (by decide)) rfl) ?_
  refine XE.cV (pc' := 57) (st := [(6, (3003 + (a0 - 1000))), (4, a0)]) (fun r hr => ct_X2_init h15 r hr) (fun r hr => run_I (st := [(6, (3003 + (a0 - 1000))), (4, a0)]) (by decide +kernel) co_X0_init_31 (ct_X2_init h15 r hr) (by decide) h15 rfl rfl (Nat.le_of_ble_eq_true rfl)) rfl rfl (fun M16 => ?_)
  refine XE.goM (st_put (pc' := 60) (by decide +kernel) rfl cls_0 fld_RX0_38 rfl rfl (fun h => absurd h (by decide)) (fun _ => ⟨rfl, rfl⟩) h0) (fun M17 => ?_)
  refine XE.go (st_aload_n (j := 0) (i := 0) (pc' := 61) (by decide +kernel) rfl rfl (by decide) rfl) ?_
  refine XE.go (st_iconst (n := 0) (pc' := 62) (by decide +kernel) (w_eq (by decide) (by decide)) rfl) ?_
  refine XE.goM (st_put (pc' := 65) (by decide +kernel) rfl cls_0 fld_RX0_41 rfl rfl (fun h => absurd h (by decide)) (fun h => nomatch h) h0) (fun M18 => ?_)
  refine XE.go (st_aload_n (j := 0) (i := 0) (pc' := 66) (by decide +kernel) rfl rfl (by decide) rfl) ?_
  refine XE.go (st_iconst (n := 0) (pc' := 67) (by decide +kernel) (w_eq (by decide) (by decide)) rfl) ?_
  refine XE.goM (st_put (pc' := 70) (by decide +kernel) rfl cls_0 fld_RX0_45 rfl rfl (fun h => absurd h (by decide)) (fun h => nomatch h) h0) (fun M19 => ?_)
  refine XE.go (st_aload_n (j := 0) (i := 0) (pc' := 71) (by decide +kernel) rfl rfl (by decide) rfl) ?_
  refine XE.go (st_iconst (n := 0) (pc' := 72) (by decide +kernel) (w_eq (by decide) (by decide)) rfl) ?_
  refine XE.goM (st_put (pc' := 75) (by decide +kernel) rfl cls_0 fld_RX0_48 rfl rfl (fun h => absurd h (by decide)) (fun h => nomatch h) h0) (fun M20 => ?_)
  refine XE.go (st_aload_n (j := 0) (i := 0) (pc' := 76) (by decide +kernel) rfl rfl (by decide) rfl) ?_
  refine XE.go (st_iconst (n := 0) (pc' := 77) (by decide +kernel) (w_eq (by decide) (by decide)) rfl) ?_
  refine XE.goM (st_put (pc' := 80) (by decide +kernel) rfl cls_0 fld_RX0_51 rfl rfl (fun h => absurd h (by decide)) (fun h => nomatch h) h0) (fun M21 => ?_)
  refine XE.go (st_aload_n (j := 0) (i := 0) (pc' := 81) (by decide +kernel) rfl rfl (by decide) rfl) ?_
  refine XE.go (st_iconst (n := 0) (pc' := 82) (by decide +kernel) (w_eq (by decide) (by decide)) rfl) ?_
  refine XE.goM (st_put (pc' := 85) (by decide +kernel) rfl cls_0 fld_RX0_54 rfl rfl (fun h => absurd h (by decide)) (fun h => nomatch h) h0) (fun M22 => ?_)
  exact XE.rt rfl (X_vret (by decide +kernel) rfl)
theorem ct_X0_init {D : Dt} {M : Mm} {a0 : Int} (h0 : a0 ≠ 0) (r : Mm) (hr : p_X0_init M a0 = some r) : CT D 0 mu_X0_init [(4, a0)] M (.inl none) r := CT.of (by decide +kernel) rfl (Nat.le_of_ble_eq_true rfl) (xe_X0_init h0 r hr)
