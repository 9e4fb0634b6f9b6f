def p_X10_init (M : Mm) (a0 : Int) : Option Mm := (ala M 25 25000 3).bind fun M1 => (some (wr M1 a0 0 25000)).bind fun M3 => (ala M3 21 21000 9).bind fun M4 => (some (wr M4 a0 1 21000)).bind fun M6 => (ala M6 22 22000 4).bind fun M7 => (some (wr M7 a0 2 22000)).bind fun M9 => (ala M9 16 16000 3).bind fun M10 => (some (wr M10 a0 3 16000)).bind fun M12 => (ala M12 20 20000 150).bind fun M13 => (some (wr M13 a0 4 20000)).bind fun M15 => (ala M15 20 20001 150).bind fun M16 => (some (wr M16 a0 5 20001)).bind fun M18 => (some (wr M18 a0 6 0)).bind fun M19 => (some (wr M19 a0 7 0)).bind fun M20 => (some (wr M20 a0 8 0)).bind fun M21 => (some (wr M21 a0 9 0)).bind fun M22 => (some (wr M22 a0 10 0)).bind fun M23 => (some (wr M23 a0 11 0)).bind fun M24 => (some (wr M24 a0 12 0)).bind fun M25 => (some (wr M25 a0 13 7)).bind fun M26 => (some (wr M26 a0 14 2)).bind fun M27 => (some (wr M27 a0 15 0)).bind fun M28 => some (M28)
set_option maxRecDepth 100000 in
set_option maxHeartbeats 4000000 in
theorem xe_X10_init {D : Dt} {M : Mm} {a0 : Int} (h0 : a0 ≠ 0) : XE D 0 mu_X10_init EV 0 [(0, (14, a0))] [] M (p_X10_init M a0) := by
  unfold p_X10_init
  refine XE.go (st_aload_n (j := 0) (i := 0) (pc' := 1) (by decide +kernel) rfl rfl (by decide) rfl) ?_
  refine XE.go (st_oinit (pc' := 4) (by decide +kernel) rfl oi_RX10_1 (by decide) (by decide) (by decide) h0) ?_
  refine XE.go (st_aload_n (j := 0) (i := 0) (pc' := 5) (by decide +kernel) rfl rfl (by decide) rfl) ?_
  refine XE.go (st_iconst (n := 3) (pc' := 6) (by decide +kernel) (w_eq (by decide) (by decide)) rfl) ?_
  refine XE.ala_ (fun q1 q2 q3 q4 => st_anew (c := 9) (pc' := 9) (by decide +kernel) rfl ak_25 (bg_1 27 rfl rfl) (by decide) rfl q1 q2 q3 q4 rfl) (by decide) (fun M1 h2 => ?_)
  refine XE.goM (st_put (pc' := 12) (by decide +kernel) rfl cls_10 fld_RX10_11 rfl rfl (fun h => absurd h (by decide)) (fun _ => ⟨rfl, rfl⟩) h0) (fun M3 => ?_)
  refine XE.go (st_aload_n (j := 0) (i := 0) (pc' := 13) (by decide +kernel) rfl rfl (by decide) rfl) ?_
  refine XE.go (st_bipush (n := 9) (pc' := 15) (by decide +kernel) (by decide) (w_eq (by decide) (by decide)) rfl) ?_
  refine XE.ala_ (fun q1 q2 q3 q4 => st_anew (c := 5) (pc' := 18) (by decide +kernel) rfl ak_21 (bg_1 29 rfl rfl) (by decide) rfl q1 q2 q3 q4 rfl) (by decide) (fun M4 h5 => ?_)
  refine XE.goM (st_put (pc' := 21) (by decide +kernel) rfl cls_10 fld_RX10_17 rfl rfl (fun h => absurd h (by decide)) (fun _ => ⟨rfl, rfl⟩) h0) (fun M6 => ?_)
  refine XE.go (st_aload_n (j := 0) (i := 0) (pc' := 22) (by decide +kernel) rfl rfl (by decide) rfl) ?_
  refine XE.go (st_iconst (n := 4) (pc' := 23) (by decide +kernel) (w_eq (by decide) (by decide)) rfl) ?_
  refine XE.ala_ (fun q1 q2 q3 q4 => st_anew (c := 6) (pc' := 26) (by decide +kernel) rfl ak_22 (bg_1 31 rfl rfl) (by decide) rfl q1 q2 q3 q4 rfl) (by decide) (fun M7 h8 => ?_)
  refine XE.goM (st_put (pc' := 29) (by decide +kernel) rfl cls_10 fld_RX10_23 rfl rfl (fun h => absurd h (by decide)) (fun _ => ⟨rfl, rfl⟩) h0) (fun M9 => ?_)
  refine XE.go (st_aload_n (j := 0) (i := 0) (pc' := 30) (by decide +kernel) rfl rfl (by decide) rfl) ?_
  refine XE.go (st_iconst (n := 3) (pc' := 31) (by decide +kernel) (w_eq (by decide) (by decide)) rfl) ?_
  refine XE.ala_ (fun q1 q2 q3 q4 => st_anew (c := 0) (pc' := 34) (by decide +kernel) rfl ak_16 (bg_1 33 rfl rfl) (by decide) rfl q1 q2 q3 q4 rfl) (by decide) (fun M10 h11 => ?_)
  refine XE.goM (st_put (pc' := 37) (by decide +kernel) rfl cls_10 fld_RX10_29 rfl rfl (fun h => absurd h (by decide)) (fun _ => ⟨rfl, rfl⟩) h0) (fun M12 => ?_)
  refine XE.go (st_aload_n (j := 0) (i := 0) (pc' := 38) (by decide +kernel) rfl rfl (by decide) rfl) ?_
  refine XE.go (st_sipush (n := 150) (pc' := 41) (by decide +kernel) (by decide) (w_eq (by decide) (by decide)) rfl) ?_
  refine XE.ala_ (fun q1 q2 q3 q4 => st_anew (c := 4) (pc' := 44) (by decide +kernel) rfl ak_20 (bg_1 35 rfl rfl) (by decide) rfl q1 q2 q3 q4 rfl) (by decide) (fun M13 h14 => ?_)
  refine XE.goM (st_put (pc' := 47) (by decide +kernel) rfl cls_10 fld_RX10_35 rfl rfl (fun h => absurd h (by decide)) (fun _ => ⟨rfl, rfl⟩) h0) (fun M15 => ?_)
  refine XE.go (st_aload_n (j := 0) (i := 0) (pc' := 48) (by decide +kernel) rfl rfl (by decide) rfl) ?_
  refine XE.go (st_sipush (n := 150) (pc' := 51) (by decide +kernel) (by decide) (w_eq (by decide) (by decide)) rfl) ?_
  refine XE.ala_ (fun q1 q2 q3 q4 => st_anew (c := 4) (pc' := 54) (by decide +kernel) rfl ak_20 (bg_1 35 rfl rfl) (by decide) rfl q1 q2 q3 q4 rfl) (by decide) (fun M16 h17 => ?_)
  refine XE.goM (st_put (pc' := 57) (by decide +kernel) rfl cls_10 fld_RX10_39 rfl rfl (fun h => absurd h (by decide)) (fun _ => ⟨rfl, rfl⟩) h0) (fun M18 => ?_)
  refine XE.go (st_aload_n (j := 0) (i := 0) (pc' := 58) (by decide +kernel) rfl rfl (by decide) rfl) ?_
  refine XE.go (st_iconst (n := 0) (pc' := 59) (by decide +kernel) (w_eq (by decide) (by decide)) rfl) ?_
  refine XE.goM (st_put (pc' := 62) (by decide +kernel) rfl cls_10 fld_RX10_42 rfl rfl (fun h => absurd h (by decide)) (fun h => nomatch h) h0) (fun M19 => ?_)
  refine XE.go (st_aload_n (j := 0) (i := 0) (pc' := 63) (by decide +kernel) rfl rfl (by decide) rfl) ?_
  refine XE.go (st_iconst (n := 0) (pc' := 64) (by decide +kernel) (w_eq (by decide) (by decide)) rfl) ?_
  refine XE.goM (st_put (pc' := 67) (by decide +kernel) rfl cls_10 fld_RX10_46 rfl rfl (fun h => absurd h (by decide)) (fun h => nomatch h) h0) (fun M20 => ?_)
  refine XE.go (st_aload_n (j := 0) (i := 0) (pc' := 68) (by decide +kernel) rfl rfl (by decide) rfl) ?_
  refine XE.go (st_iconst (n := 0) (pc' := 69) (by decide +kernel) (w_eq (by decide) (by decide)) rfl) ?_
  refine XE.goM (st_put (pc' := 72) (by decide +kernel) rfl cls_10 fld_RX10_49 rfl rfl (fun h => absurd h (by decide)) (fun h => nomatch h) h0) (fun M21 => ?_)
  refine XE.go (st_aload_n (j := 0) (i := 0) (pc' := 73) (by decide +kernel) rfl rfl (by decide) rfl) ?_
  refine XE.go (st_iconst (n := 0) (pc' := 74) (by decide +kernel) (w_eq (by decide) (by decide)) rfl) ?_
  refine XE.goM (st_put (pc' := 77) (by decide +kernel) rfl cls_10 fld_RX10_52 rfl rfl (fun h => absurd h (by decide)) (fun h => nomatch h) h0) (fun M22 => ?_)
  refine XE.go (st_aload_n (j := 0) (i := 0) (pc' := 78) (by decide +kernel) rfl rfl (by decide) rfl) ?_
  refine XE.go (st_iconst (n := 0) (pc' := 79) (by decide +kernel) (w_eq (by decide) (by decide)) rfl) ?_
  refine XE.goM (st_put (pc' := 82) (by decide +kernel) rfl cls_10 fld_RX10_55 rfl rfl (fun h => absurd h (by decide)) (fun h => nomatch h) h0) (fun M23 => ?_)
  refine XE.go (st_aload_n (j := 0) (i := 0) (pc' := 83) (by decide +kernel) rfl rfl (by decide) rfl) ?_
  refine XE.go (st_iconst (n := 0) (pc' := 84) (by decide +kernel) (w_eq (by decide) (by decide)) rfl) ?_
  refine XE.goM (st_put (pc' := 87) (by decide +kernel) rfl cls_10 fld_RX10_58 rfl rfl (fun h => absurd h (by decide)) (fun h => nomatch h) h0) (fun M24 => ?_)
  refine XE.go (st_aload_n (j := 0) (i := 0) (pc' := 88) (by decide +kernel) rfl rfl (by decide) rfl) ?_
  refine XE.go (st_iconst (n := 0) (pc' := 89) (by decide +kernel) (w_eq (by decide) (by decide)) rfl) ?_
  refine XE.goM (st_put (pc' := 92) (by decide +kernel) rfl cls_10 fld_RX10_61 rfl rfl (fun h => absurd h (by decide)) (fun h => nomatch h) h0) (fun M25 => ?_)
  refine XE.go (st_aload_n (j := 0) (i := 0) (pc' := 93) (by decide +kernel) rfl rfl (by decide) rfl) ?_
  refine XE.go (st_bipush (n := 7) (pc' := 95) (by decide +kernel) (by decide) (w_eq (by decide) (by decide)) rfl) ?_
  refine XE.goM (st_put (pc' := 98) (by decide +kernel) rfl cls_10 fld_RX10_64 rfl rfl (fun h => absurd h (by decide)) (fun h => nomatch h) h0) (fun M26 => ?_)
  refine XE.go (st_aload_n (j := 0) (i := 0) (pc' := 99) (by decide +kernel) rfl rfl (by decide) rfl) ?_
  refine XE.go (st_iconst (n := 2) (pc' := 100) (by decide +kernel) (w_eq (by decide) (by decide)) rfl) ?_
  refine XE.goM (st_put (pc' := 103) (by decide +kernel) rfl cls_10 fld_RX10_67 rfl rfl (fun h => absurd h (by decide)) (fun h => nomatch h) h0) (fun M27 => ?_)
  refine XE.go (st_aload_n (j := 0) (i := 0) (pc' := 104) (by decide +kernel) rfl rfl (by decide) rfl) ?_
  refine XE.go (st_iconst (n := 0) (pc' := 105) (by decide +kernel) (w_eq (by decide) (by decide)) rfl) ?_
  refine XE.goM (st_put (pc' := 108) (by decide +kernel) rfl cls_10 fld_RX10_70 rfl rfl (fun h => absurd h (by decide)) (fun h => nomatch h) h0) (fun M28 => ?_)
  exact XE.rt rfl (X_vret (by decide +kernel) rfl)
theorem ct_X10_init {D : Dt} {M : Mm} {a0 : Int} (h0 : a0 ≠ 0) (r : Mm) (hr : p_X10_init M a0 = some r) : CT D 0 mu_X10_init [(14, a0)] M (.inl none) r := CT.of (by decide +kernel) rfl (Nat.le_of_ble_eq_true rfl) (xe_X10_init h0 r hr)
def p_X10_requireWithin (M : Mm) (a0 a1 a2 : Int) : Option (Int × Mm) := if a0 < a1 then psU 2 0 (thr M) else if a2 < a0 then psU 2 0 (thr M) else some (0, M)
set_option maxRecDepth 100000 in
set_option maxHeartbeats 4000000 in
theorem xe_X10_requireWithin {D : Dt} {M : Mm} {a0 a1 a2 : Int} : XE D 0 mu_X10_requireWithin EU 0 [(0, (0, a0)), (1, (0, a1)), (2, (0, a2))] [] M (p_X10_requireWithin M a0 a1 a2) := by
  unfold p_X10_requireWithin
  refine XE.go (st_iload_n (j := 0) (i := 0) (pc' := 1) (by decide +kernel) rfl rfl rfl) ?_
  refine XE.go (st_iload_n (j := 1) (i := 1) (pc' := 2) (by decide +kernel) rfl rfl rfl) ?_
  refine XE.ite (fun h1 => ?_) (fun h2 => ?_)
  · refine XE.go (st_icmp_lt_t (off := 8) (pc' := 10) (by decide +kernel) (by decide) h1) ?_
    exact XE.thrUW (by decide +kernel) (by decide +kernel) (by decide +kernel) (by decide +kernel) (by decide +kernel) thr_RX10_623 rfl (by decide) (by decide) (by decide)
  · refine XE.go (st_icmp_lt_f (off := 8) (pc' := 5) (by decide +kernel) 10 (by decide) rfl h2) ?_
    refine XE.go (st_iload_n (j := 0) (i := 0) (pc' := 6) (by decide +kernel) rfl rfl rfl) ?_
    refine XE.go (st_iload_n (j := 2) (i := 2) (pc' := 7) (by decide +kernel) rfl rfl rfl) ?_
    refine XE.ite (fun h3 => ?_) (fun h4 => ?_)
    · refine XE.go (st_icmp_le_f (off := 14) (pc' := 10) (by decide +kernel) 21 (by decide) rfl (Int.not_le.mpr h3)) ?_
      exact XE.thrUW (by decide +kernel) (by decide +kernel) (by decide +kernel) (by decide +kernel) (by decide +kernel) thr_RX10_623 rfl (by decide) (by decide) (by decide)
    · refine XE.go (st_icmp_le_t (off := 14) (pc' := 21) (by decide +kernel) (by decide) (Int.not_lt.mp h4)) ?_
      exact XE.rt rfl (X_vret (by decide +kernel) rfl)
theorem ct_X10_requireWithin {D : Dt} {M : Mm} {a0 a1 a2 : Int} (r : (Int × Mm)) (hr : p_X10_requireWithin M a0 a1 a2 = some r) : CT D 0 mu_X10_requireWithin [(0, a0), (0, a1), (0, a2)] M (EU r).1 (EU r).2 := CT.of (by decide +kernel) rfl (Nat.le_of_ble_eq_true rfl) (xe_X10_requireWithin r hr)
def p_X9_init (M : Mm) (a0 a1 a2 a3 a4 : Int) : Option Mm := (ala M 21 (21100 + (a0 - 10000)) 3).bind fun M1 => (some (wr M1 a0 4 (21100 + (a0 - 10000)))).bind fun M3 => (some (wr M3 a0 5 999)).bind fun M4 => (some (wr M4 a0 6 60)).bind fun M5 => (some (wr M5 a0 0 a1)).bind fun M6 => (some (wr M6 a0 1 a2)).bind fun M7 => (some (wr M7 a0 2 a3)).bind fun M8 => gd (a4 = 0 ∨ a4 = 1) ((some (wr M8 a0 3 a4)).bind fun M10 => some (M10))
set_option maxRecDepth 100000 in
set_option maxHeartbeats 4000000 in
theorem xe_X9_init {D : Dt} {M : Mm} {a0 a1 a2 a3 a4 : Int} (h0 : a0 ≠ 0) : XE D 0 mu_X9_init EV 0 [(0, (13, a0)), (1, (0, a1)), (2, (0, a2)), (3, (0, a3)), (4, (0, a4))] [] M (p_X9_init M a0 a1 a2 a3 a4) := by
  unfold p_X9_init
  refine XE.go (st_aload_n (j := 0) (i := 0) (pc' := 1) (by decide +kernel) rfl rfl (by decide) rfl) ?_
  refine XE.go (st_oinit (pc' := 4) (by decide +kernel) rfl oi_RX9_3 (by decide) (by decide) (by decide) h0) ?_
  refine XE.go (st_aload_n (j := 0) (i := 0) (pc' := 5) (by decide +kernel) rfl rfl (by decide) rfl) ?_
  refine XE.go (st_iconst (n := 3) (pc' := 6) (by decide +kernel) (w_eq (by decide) (by decide)) rfl) ?_
  refine XE.ala_ (fun q1 q2 q3 q4 => st_anew (c := 5) (pc' := 9) (by decide +kernel) rfl ak_21 (bg_1 192 rfl rfl) (by decide) rfl q1 q2 q3 q4 rfl) (by decide) (fun M1 h2 => ?_)
  refine XE.goM (st_put (pc' := 12) (by decide +kernel) rfl cls_9 fld_RX9_11 rfl rfl (fun h => absurd h (by decide)) (fun _ => ⟨rfl, rfl⟩) h0) (fun M3 => ?_)
  refine XE.go (st_aload_n (j := 0) (i := 0) (pc' := 13) (by decide +kernel) rfl rfl (by decide) rfl) ?_
  refine XE.go (st_sipush (n := 999) (pc' := 16) (by decide +kernel) (by decide) (w_eq (by decide) (by decide)) rfl) ?_
  refine XE.goM (st_put (pc' := 19) (by decide +kernel) rfl cls_9 fld_RX9_17 rfl rfl (fun h => absurd h (by decide)) (fun h => nomatch h) h0) (fun M4 => ?_)
  refine XE.go (st_aload_n (j := 0) (i := 0) (pc' := 20) (by decide +kernel) rfl rfl (by decide) rfl) ?_
  refine XE.go (st_bipush (n := 60) (pc' := 22) (by decide +kernel) (by decide) (w_eq (by decide) (by decide)) rfl) ?_
  refine XE.goM (st_put (pc' := 25) (by decide +kernel) rfl cls_9 fld_RX9_21 rfl rfl (fun h => absurd h (by decide)) (fun h => nomatch h) h0) (fun M5 => ?_)
  refine XE.go (st_aload_n (j := 0) (i := 0) (pc' := 26) (by decide +kernel) rfl rfl (by decide) rfl) ?_
  refine XE.go (st_iload_n (j := 1) (i := 1) (pc' := 27) (by decide +kernel) rfl rfl rfl) ?_
  refine XE.goM (st_put (pc' := 30) (by decide +kernel) rfl cls_9 fld_RX9_24 rfl rfl (fun h => absurd h (by decide)) (fun _ => ⟨rfl, rfl⟩) h0) (fun M6 => ?_)
  refine XE.go (st_aload_n (j := 0) (i := 0) (pc' := 31) (by decide +kernel) rfl rfl (by decide) rfl) ?_
  refine XE.go (st_iload_n (j := 2) (i := 2) (pc' := 32) (by decide +kernel) rfl rfl rfl) ?_
  refine XE.goM (st_put (pc' := 35) (by decide +kernel) rfl cls_9 fld_RX9_27 rfl rfl (fun h => absurd h (by decide)) (fun _ => ⟨rfl, rfl⟩) h0) (fun M7 => ?_)
  refine XE.go (st_aload_n (j := 0) (i := 0) (pc' := 36) (by decide +kernel) rfl rfl (by decide) rfl) ?_
  refine XE.go (st_iload_n (j := 3) (i := 3) (pc' := 37) (by decide +kernel) rfl rfl rfl) ?_
  refine XE.goM (st_put (pc' := 40) (by decide +kernel) rfl cls_9 fld_RX9_30 rfl rfl (fun h => absurd h (by decide)) (fun _ => ⟨rfl, rfl⟩) h0) (fun M8 => ?_)
  refine XE.go (st_aload_n (j := 0) (i := 0) (pc' := 41) (by decide +kernel) rfl rfl (by decide) rfl) ?_
  refine XE.go (st_iload (j := 4) (pc' := 43) (by decide +kernel) rfl rfl) ?_
  refine XE.gd_ (fun g9 => ?_)
  refine XE.goM (st_put (pc' := 46) (by decide +kernel) rfl cls_9 fld_RX9_33 rfl rfl (fun _ => g9) (fun _ => ⟨rfl, rfl⟩) h0) (fun M10 => ?_)
  exact XE.rt rfl (X_vret (by decide +kernel) rfl)
theorem ct_X9_init {D : Dt} {M : Mm} {a0 a1 a2 a3 a4 : Int} (h0 : a0 ≠ 0) (r : Mm) (hr : p_X9_init M a0 a1 a2 a3 a4 = some r) : CT D 0 mu_X9_init [(13, a0), (0, a1), (0, a2), (0, a3), (0, a4)] M (.inl none) r := CT.of (by decide +kernel) rfl (Nat.le_of_ble_eq_true rfl) (xe_X9_init h0 r hr)
def p_X7_init (M : Mm) (a0 a1 a2 a3 : Int) : Option Mm := (some (wr M a0 2 0)).bind fun M1 => (some (wr M1 a0 4 1)).bind fun M2 => (some (wr M2 a0 0 a1)).bind fun M3 => (some (wr M3 a0 1 a2)).bind fun M4 => (some (wr M4 a0 3 a3)).bind fun M5 => some (M5)
set_option maxRecDepth 100000 in
set_option maxHeartbeats 4000000 in
theorem xe_X7_init {D : Dt} {M : Mm} {a0 a1 a2 a3 : Int} (h0 : a0 ≠ 0) : XE D 0 mu_X7_init EV 0 [(0, (11, a0)), (1, (0, a1)), (2, (0, a2)), (3, (0, a3))] [] M (p_X7_init M a0 a1 a2 a3) := by
  unfold p_X7_init
  refine XE.go (st_aload_n (j := 0) (i := 0) (pc' := 1) (by decide +kernel) rfl rfl (by decide) rfl) ?_
  refine XE.go (st_oinit (pc' := 4) (by decide +kernel) rfl oi_RX7_1 (by decide) (by decide) (by decide) h0) ?_
  refine XE.go (st_aload_n (j := 0) (i := 0) (pc' := 5) (by decide +kernel) rfl rfl (by decide) rfl) ?_
  refine XE.go (st_iconst (n := 0) (pc' := 6) (by decide +kernel) (w_eq (by decide) (by decide)) rfl) ?_
  refine XE.goM (st_put (pc' := 9) (by decide +kernel) rfl cls_7 fld_RX7_7 rfl rfl (fun h => absurd h (by decide)) (fun h => nomatch h) h0) (fun M1 => ?_)
  refine XE.go (st_aload_n (j := 0) (i := 0) (pc' := 10) (by decide +kernel) rfl rfl (by decide) rfl) ?_
  refine XE.go (st_iconst (n := 1) (pc' := 11) (by decide +kernel) (w_eq (by decide) (by decide)) rfl) ?_
  refine XE.goM (st_put (pc' := 14) (by decide +kernel) rfl cls_7 fld_RX7_13 rfl rfl (fun _ => by decide) (fun h => nomatch h) h0) (fun M2 => ?_)
  refine XE.go (st_aload_n (j := 0) (i := 0) (pc' := 15) (by decide +kernel) rfl rfl (by decide) rfl) ?_
  refine XE.go (st_iload_n (j := 1) (i := 1) (pc' := 16) (by decide +kernel) rfl rfl rfl) ?_
  refine XE.goM (st_put (pc' := 19) (by decide +kernel) rfl cls_7 fld_RX7_17 rfl rfl (fun h => absurd h (by decide)) (fun _ => ⟨rfl, rfl⟩) h0) (fun M3 => ?_)
  refine XE.go (st_aload_n (j := 0) (i := 0) (pc' := 20) (by decide +kernel) rfl rfl (by decide) rfl) ?_
  refine XE.go (st_iload_n (j := 2) (i := 2) (pc' := 21) (by decide +kernel) rfl rfl rfl) ?_
  refine XE.goM (st_put (pc' := 24) (by decide +kernel) rfl cls_7 fld_RX7_20 rfl rfl (fun h => absurd h (by decide)) (fun _ => ⟨rfl, rfl⟩) h0) (fun M4 => ?_)
  refine XE.go (st_aload_n (j := 0) (i := 0) (pc' := 25) (by decide +kernel) rfl rfl (by decide) rfl) ?_
  refine XE.go (st_iload_n (j := 3) (i := 3) (pc' := 26) (by decide +kernel) rfl rfl rfl) ?_
  refine XE.goM (st_put (pc' := 29) (by decide +kernel) rfl cls_7 fld_RX7_23 rfl rfl (fun h => absurd h (by decide)) (fun h => nomatch h) h0) (fun M5 => ?_)
  exact XE.rt rfl (X_vret (by decide +kernel) rfl)
theorem ct_X7_init {D : Dt} {M : Mm} {a0 a1 a2 a3 : Int} (h0 : a0 ≠ 0) (r : Mm) (hr : p_X7_init M a0 a1 a2 a3 = some r) : CT D 0 mu_X7_init [(11, a0), (0, a1), (0, a2), (0, a3)] M (.inl none) r := CT.of (by decide +kernel) rfl (Nat.le_of_ble_eq_true rfl) (xe_X7_init h0 r hr)
def b_X5_init_39 (a2 : Int) (a0 : Int) (a3 : Int) (a4 : Int) (s10 : Int × Mm) : Option ((Int × Mm) ⊕ (Mm)) := gd (a2 ≠ 0) (if s10.1 < (rd s10.2 a2 2) then if s10.1 < 3 then (alo s10.2 8 (8000 + (3 * (a0 - 6000) + s10.1)) 5).bind fun M21 => (p_X7_init M21 (8000 + (3 * (a0 - 6000) + s10.1)) s10.1 (irm (w ((w ((rd M21 a2 0) + a3)) + s10.1)) 3) a4).bind fun M23 => gd (aok (rd s10.2 a0 2) s10.1) ((some (wr M23 (rd s10.2 a0 2) s10.1 (8000 + (3 * (a0 - 6000) + s10.1)))).bind fun M25 => some (.inl ((w (s10.1 + 1)), M25))) else some (.inr s10.2) else some (.inr s10.2))
def p_X5_init (M : Mm) (a0 a1 a2 a3 a4 : Int) : Option Mm := (ala M 23 (23000 + (a0 - 6000)) 3).bind fun M1 => (some (wr M1 a0 2 (23000 + (a0 - 6000)))).bind fun M3 => (ala M3 20 (20100 + (a0 - 6000)) 60).bind fun M4 => (some (wr M4 a0 3 (20100 + (a0 - 6000)))).bind fun M6 => (some (wr M6 a0 5 0)).bind fun M7 => (some (wr M7 a0 0 a1)).bind fun M8 => (some (wr M8 a0 1 a2)).bind fun M9 => (lp (b_X5_init_39 a2 a0 a3 a4) 1000 (0, M9)).bind fun (t11 : Mm) => gd (aok (rd t11 a0 2) 0) ((some (wr t11 a0 4 (rd t11 (rd t11 a0 2) 0))).bind fun M27 => some (M27))
set_option maxRecDepth 100000 in
set_option maxHeartbeats 4000000 in
theorem xe_X5_init {D : Dt} {M : Mm} {a0 a1 a2 a3 a4 : Int} (h0 : a0 ≠ 0) : XE D 0 mu_X5_init EV 0 [(0, (9, a0)), (1, (0, a1)), (2, (13, a2)), (3, (0, a3)), (4, (0, a4))] [] M (p_X5_init M a0 a1 a2 a3 a4) := by
  unfold p_X5_init
  refine XE.go (st_aload_n (j := 0) (i := 0) (pc' := 1) (by decide +kernel) rfl rfl (by decide) rfl) ?_
  refine XE.go (st_oinit (pc' := 4) (by decide +kernel) rfl oi_RX5_3 (by decide) (by decide) (by decide) h0) ?_
  refine XE.go (st_aload_n (j := 0) (i := 0) (pc' := 5) (by decide +kernel) rfl rfl (by decide) rfl) ?_
  refine XE.go (st_iconst (n := 3) (pc' := 6) (by decide +kernel) (w_eq (by decide) (by decide)) rfl) ?_
  refine XE.ala_ (fun q1 q2 q3 q4 => st_anew (c := 7) (pc' := 9) (by decide +kernel) rfl ak_23 (bg_1 231 rfl rfl) (by decide) rfl q1 q2 q3 q4 rfl) (by decide) (fun M1 h2 => ?_)
  refine XE.goM (st_put (pc' := 12) (by decide +kernel) rfl cls_5 fld_RX5_11 rfl rfl (fun h => absurd h (by decide)) (fun _ => ⟨rfl, rfl⟩) h0) (fun M3 => ?_)
  refine XE.go (st_aload_n (j := 0) (i := 0) (pc' := 13) (by decide +kernel) rfl rfl (by decide) rfl) ?_
  refine XE.go (st_bipush (n := 60) (pc' := 15) (by decide +kernel) (by decide) (w_eq (by decide) (by decide)) rfl) ?_
  refine XE.ala_ (fun q1 q2 q3 q4 => st_anew (c := 4) (pc' := 18) (by decide +kernel) rfl ak_20 (bg_1 233 rfl rfl) (by decide) rfl q1 q2 q3 q4 rfl) (by decide) (fun M4 h5 => ?_)
  refine XE.goM (st_put (pc' := 21) (by decide +kernel) rfl cls_5 fld_RX5_19 rfl rfl (fun h => absurd h (by decide)) (fun _ => ⟨rfl, rfl⟩) h0) (fun M6 => ?_)
  refine XE.go (st_aload_n (j := 0) (i := 0) (pc' := 22) (by decide +kernel) rfl rfl (by decide) rfl) ?_
  refine XE.go (st_iconst (n := 0) (pc' := 23) (by decide +kernel) (w_eq (by decide) (by decide)) rfl) ?_
  refine XE.goM (st_put (pc' := 26) (by decide +kernel) rfl cls_5 fld_RX5_23 rfl rfl (fun h => absurd h (by decide)) (fun h => nomatch h) h0) (fun M7 => ?_)
  refine XE.go (st_aload_n (j := 0) (i := 0) (pc' := 27) (by decide +kernel) rfl rfl (by decide) rfl) ?_
  refine XE.go (st_iload_n (j := 1) (i := 1) (pc' := 28) (by decide +kernel) rfl rfl rfl) ?_
  refine XE.goM (st_put (pc' := 31) (by decide +kernel) rfl cls_5 fld_RX5_27 rfl rfl (fun h => absurd h (by decide)) (fun _ => ⟨rfl, rfl⟩) h0) (fun M8 => ?_)
  refine XE.go (st_aload_n (j := 0) (i := 0) (pc' := 32) (by decide +kernel) rfl rfl (by decide) rfl) ?_
  refine XE.go (st_aload_n (j := 2) (i := 2) (pc' := 33) (by decide +kernel) rfl rfl (by decide) rfl) ?_
  refine XE.goM (st_put (pc' := 36) (by decide +kernel) rfl cls_5 fld_RX5_30 rfl rfl (fun h => absurd h (by decide)) (fun _ => ⟨rfl, rfl⟩) h0) (fun M9 => ?_)
  refine XE.go (st_iconst (n := 0) (pc' := 37) (by decide +kernel) (w_eq (by decide) (by decide)) rfl) ?_
  refine XE.go (st_istore (j := 5) (pc' := 39) (by decide +kernel)  rfl (by decide) rfl rfl) ?_
  refine XE.pick [1, 3, 4, 5, 0] (L' := [(0, (9, a0)), (2, (13, a2)), (3, (0, a3)), (4, (0, a4)), (5, (0, 0))]) rfl ?_
  refine XE.loopJ (n := 1000) (s0 := (0, M9)) (pcL := 39) (pcE := 89) (LL := fun (s10 : Int × Mm) => [(0, (9, a0)), (2, (13, a2)), (3, (0, a3)), (4, (0, a4)), (5, (0, s10.1))]) (sL := fun _ => []) (ML := fun (s10 : Int × Mm) => s10.2) (LE := fun (t11 : Mm) => [(0, (9, a0))]) (sE := fun _ => []) (ME := fun (t11 : Mm) => t11) (fun kk15 hc12 he13 s10 => ?_) (fun t11 => ?_)
  · unfold b_X5_init_39
    refine XE.go (st_iload (j := 5) (pc' := 41) (by decide +kernel) rfl rfl) ?_
    refine XE.go (st_aload_n (j := 2) (i := 2) (pc' := 42) (by decide +kernel) rfl rfl (by decide) rfl) ?_
    refine XE.gdb (fun g16 => ?_)
    refine XE.go (st_get (pc' := 45) (by decide +kernel) rfl cls_9 fld_RX5_34 rfl rfl g16) ?_
    refine XE.bite (fun h17 => ?_) (fun h18 => ?_)
    · refine XE.go (st_icmp_ge_f (off := 44) (pc' := 48) (by decide +kernel) 89 (by decide) rfl (Int.not_le.mpr h17)) ?_
      refine XE.go (st_iload (j := 5) (pc' := 50) (by decide +kernel) rfl rfl) ?_
      refine XE.go (st_iconst (n := 3) (pc' := 51) (by decide +kernel) (w_eq (by decide) (by decide)) rfl) ?_
      refine XE.bite (fun h19 => ?_) (fun h20 => ?_)
      · refine XE.go (st_icmp_ge_f (off := 38) (pc' := 54) (by decide +kernel) 89 (by decide) rfl (Int.not_le.mpr h19)) ?_
        refine XE.go (st_aload_n (j := 0) (i := 0) (pc' := 55) (by decide +kernel) rfl rfl (by decide) rfl) ?_
        refine XE.go (st_get (pc' := 58) (by decide +kernel) rfl cls_5 fld_RX5_11 rfl rfl h0) ?_
        refine XE.go (st_iload (j := 5) (pc' := 60) (by decide +kernel) rfl rfl) ?_
        refine XE.asc ?_
        refine XE.alo_ (fun q1 q2 q3 => st_new (pc' := 63) (by decide +kernel) rfl cls_7 nw_RX5_9 rfl rfl q1 q2 q3) (by decide) (fun M21 h22 => ?_)
        refine XE.go (st_dup (pc' := 64) (by decide +kernel) rfl rfl) ?_
        refine XE.go (st_iload (j := 5) (pc' := 66) (by decide +kernel) rfl rfl) ?_
        refine XE.go (st_aload_n (j := 2) (i := 2) (pc' := 67) (by decide +kernel) rfl rfl (by decide) rfl) ?_
        refine XE.go (st_get (pc' := 70) (by decide +kernel) rfl cls_9 fld_RX5_38 rfl rfl g16) ?_
        refine XE.go (st_iload_n (j := 3) (i := 3) (pc' := 71) (by decide +kernel) rfl rfl rfl) ?_
        refine XE.go (st_iadd (pc' := 72) (by decide +kernel) rfl) ?_
        refine XE.go (st_iload (j := 5) (pc' := 74) (by decide +kernel) rfl rfl) ?_
        refine XE.go (st_iadd (pc' := 75) (by decide +kernel) rfl) ?_
        refine XE.go (st_iconst (n := 3) (pc' := 76) (by decide +kernel) (w_eq (by decide) (by decide)) rfl) ?_
        refine XE.go (st_irem (pc' := 77) (by decide +kernel) (by decide) rfl) ?_
        refine XE.go (st_iload (j := 4) (pc' := 79) (by decide +kernel) rfl rfl) ?_
        refine XE.asc ?_
        refine XE.cV (pc' := 82) (st := [(11, (8000 + (3 * (a0 - 6000) + s10.1))), (0, s10.1), (26, (rd s10.2 a0 2))]) (fun r hr => ct_X7_init h22 r hr) (fun r hr => run_I (st := [(11, (8000 + (3 * (a0 - 6000) + s10.1))), (0, s10.1), (26, (rd s10.2 a0 2))]) (by decide +kernel) co_X5_init_39 (ct_X7_init h22 r hr) (by decide) h22 rfl rfl (Nat.le_of_ble_eq_true rfl)) rfl rfl (fun M23 => ?_)
        refine XE.gdb (fun g24 => ?_)
        refine XE.asc ?_
        refine XE.goM (st_aast (pc' := 83) (by decide +kernel) rfl ak_23 cls_7 rfl rfl rfl g24.1 g24.2.1 g24.2.2) (fun M25 => ?_)
        refine XE.go (st_iinc (j := 5) (n := 1) (pc' := 86) (by decide +kernel) rfl rfl (by decide) rfl rfl) ?_
        refine XE.go (st_goto (off := (-47)) (pc' := 39) (by decide +kernel) (by decide)) ?_
        exact XE.pick [1, 2, 3, 4, 0] rfl (hc12 ((w (s10.1 + 1)), M25))
      · refine XE.go (st_icmp_ge_t (off := 38) (pc' := 89) (by decide +kernel) (by decide) (Int.not_lt.mp h20)) ?_
        exact XE.pick [0] rfl (he13 s10.2)
    · refine XE.go (st_icmp_ge_t (off := 44) (pc' := 89) (by decide +kernel) (by decide) (Int.not_lt.mp h18)) ?_
      exact XE.pick [0] rfl (he13 s10.2)
  · refine XE.go (st_aload_n (j := 0) (i := 0) (pc' := 90) (by decide +kernel) rfl rfl (by decide) rfl) ?_
    refine XE.go (st_aload_n (j := 0) (i := 0) (pc' := 91) (by decide +kernel) rfl rfl (by decide) rfl) ?_
    refine XE.go (st_get (pc' := 94) (by decide +kernel) rfl cls_5 fld_RX5_11 rfl rfl h0) ?_
    refine XE.go (st_iconst (n := 0) (pc' := 95) (by decide +kernel) (w_eq (by decide) (by decide)) rfl) ?_
    refine XE.gd_ (fun g26 => ?_)
    refine XE.go (st_ald (k := 23) (tp := 11) (pc' := 96) (by decide +kernel) rfl ak_23 rfl (by decide) rfl (Or.inr (Or.inr (Or.inr ⟨rfl, rfl⟩))) g26.1 g26.2.1 g26.2.2) ?_
    refine XE.goM (st_put (pc' := 99) (by decide +kernel) rfl cls_5 fld_RX5_42 rfl rfl (fun h => absurd h (by decide)) (fun h => nomatch h) h0) (fun M27 => ?_)
    exact XE.rt rfl (X_vret (by decide +kernel) rfl)
theorem ct_X5_init {D : Dt} {M : Mm} {a0 a1 a2 a3 a4 : Int} (h0 : a0 ≠ 0) (r : Mm) (hr : p_X5_init M a0 a1 a2 a3 a4 = some r) : CT D 0 mu_X5_init [(9, a0), (0, a1), (13, a2), (0, a3), (0, a4)] M (.inl none) r := CT.of (by decide +kernel) rfl (Nat.le_of_ble_eq_true rfl) (xe_X5_init h0 r hr)
def p_X10_makePartition (M : Mm) (a0 a1 a2 : Int) : Option Mm := if (rd M a0 7) < 9 then if a2 < 3 then (alo M 6 (6000 + (rd M a0 7)) 6).bind fun M5 => (p_X5_init M5 (6000 + (rd M a0 7)) (rd M5 a0 7) a1 a2 (rd M5 a0 15)).bind fun M7 => (some ((6000 + (rd M a0 7)))).bind fun v8 => gd (a1 ≠ 0) (gd (aok (rd M7 a1 4) a2) ((some (wr M7 (rd M7 a1 4) a2 v8)).bind fun M12 => gd (aok (rd M12 a0 1) (rd M12 a0 7)) ((some (wr M12 (rd M12 a0 1) (rd M12 a0 7) v8)).bind fun M14 => (some (wr M14 a0 7 (w ((rd M14 a0 7) + 1)))).bind fun M15 => some (M15)))) else some (M) else some (M)
set_option maxRecDepth 100000 in
set_option maxHeartbeats 4000000 in
theorem xe_X10_makePartition {D : Dt} {M : Mm} {a0 a1 a2 : Int} (h0 : a0 ≠ 0) : XE D 0 mu_X10_makePartition EV 0 [(0, (14, a0)), (1, (13, a1)), (2, (0, a2))] [] M (p_X10_makePartition M a0 a1 a2) := by
  unfold p_X10_makePartition
  refine XE.go (st_aload_n (j := 0) (i := 0) (pc' := 1) (by decide +kernel) rfl rfl (by decide) rfl) ?_
  refine XE.go (st_get (pc' := 4) (by decide +kernel) rfl cls_10 fld_RX10_46 rfl rfl h0) ?_
  refine XE.go (st_bipush (n := 9) (pc' := 6) (by decide +kernel) (by decide) (w_eq (by decide) (by decide)) rfl) ?_
  refine XE.ite (fun h1 => ?_) (fun h2 => ?_)
  · refine XE.go (st_icmp_ge_f (off := 8) (pc' := 9) (by decide +kernel) 14 (by decide) rfl (Int.not_le.mpr h1)) ?_
    refine XE.go (st_iload_n (j := 2) (i := 2) (pc' := 10) (by decide +kernel) rfl rfl rfl) ?_
    refine XE.go (st_iconst (n := 3) (pc' := 11) (by decide +kernel) (w_eq (by decide) (by decide)) rfl) ?_
    refine XE.ite (fun h3 => ?_) (fun h4 => ?_)
    · refine XE.go (st_icmp_lt_t (off := 4) (pc' := 15) (by decide +kernel) (by decide) h3) ?_
      refine XE.alo_ (fun q1 q2 q3 => st_new (pc' := 18) (by decide +kernel) rfl cls_5 nw_RX10_15 rfl rfl q1 q2 q3) (by decide) (fun M5 h6 => ?_)
      refine XE.go (st_dup (pc' := 19) (by decide +kernel) rfl rfl) ?_
      refine XE.go (st_aload_n (j := 0) (i := 0) (pc' := 20) (by decide +kernel) rfl rfl (by decide) rfl) ?_
      refine XE.go (st_get (pc' := 23) (by decide +kernel) rfl cls_10 fld_RX10_46 rfl rfl h0) ?_
      refine XE.go (st_aload_n (j := 1) (i := 1) (pc' := 24) (by decide +kernel) rfl rfl (by decide) rfl) ?_
      refine XE.go (st_iload_n (j := 2) (i := 2) (pc' := 25) (by decide +kernel) rfl rfl rfl) ?_
      refine XE.go (st_aload_n (j := 0) (i := 0) (pc' := 26) (by decide +kernel) rfl rfl (by decide) rfl) ?_
      refine XE.go (st_get (pc' := 29) (by decide +kernel) rfl cls_10 fld_RX10_70 rfl rfl h0) ?_
      refine XE.cV (pc' := 32) (st := [(9, (6000 + (rd M a0 7)))]) (fun r hr => ct_X5_init h6 r hr) (fun r hr => run_I (st := [(9, (6000 + (rd M a0 7)))]) (by decide +kernel) co_X10_makePartition_94 (ct_X5_init h6 r hr) (by decide) h6 rfl rfl (Nat.le_of_ble_eq_true rfl)) rfl rfl (fun M7 => ?_)
      refine XE.gen (fun v8 e9 => ?_)
      refine XE.go (st_astore_n (j := 3) (i := 3) (pc' := 33) (by decide +kernel) rfl (by decide) rfl (by decide) rfl rfl) ?_
      refine XE.go (st_aload_n (j := 1) (i := 1) (pc' := 34) (by decide +kernel) rfl rfl (by decide) rfl) ?_
      refine XE.gd_ (fun g10 => ?_)
      refine XE.go (st_get (pc' := 37) (by decide +kernel) rfl cls_9 fld_RX10_97 rfl rfl g10) ?_
      refine XE.go (st_iload_n (j := 2) (i := 2) (pc' := 38) (by decide +kernel) rfl rfl rfl) ?_
      refine XE.go (st_aload_n (j := 3) (i := 3) (pc' := 39) (by decide +kernel) rfl rfl (by decide) rfl) ?_
      refine XE.gd_ (fun g11 => ?_)
      refine XE.goM (st_aast (pc' := 40) (by decide +kernel) rfl ak_21 cls_5 rfl rfl rfl g11.1 g11.2.1 g11.2.2) (fun M12 => ?_)
      refine XE.go (st_aload_n (j := 0) (i := 0) (pc' := 41) (by decide +kernel) rfl rfl (by decide) rfl) ?_
      refine XE.go (st_get (pc' := 44) (by decide +kernel) rfl cls_10 fld_RX10_17 rfl rfl h0) ?_
      refine XE.go (st_aload_n (j := 0) (i := 0) (pc' := 45) (by decide +kernel) rfl rfl (by decide) rfl) ?_
      refine XE.go (st_get (pc' := 48) (by decide +kernel) rfl cls_10 fld_RX10_46 rfl rfl h0) ?_
      refine XE.go (st_aload_n (j := 3) (i := 3) (pc' := 49) (by decide +kernel) rfl rfl (by decide) rfl) ?_
      refine XE.gd_ (fun g13 => ?_)
      refine XE.goM (st_aast (pc' := 50) (by decide +kernel) rfl ak_21 cls_5 rfl rfl rfl g13.1 g13.2.1 g13.2.2) (fun M14 => ?_)
      refine XE.go (st_aload_n (j := 0) (i := 0) (pc' := 51) (by decide +kernel) rfl rfl (by decide) rfl) ?_
      refine XE.go (st_dup (pc' := 52) (by decide +kernel) rfl rfl) ?_
      refine XE.go (st_get (pc' := 55) (by decide +kernel) rfl cls_10 fld_RX10_46 rfl rfl h0) ?_
      refine XE.go (st_iconst (n := 1) (pc' := 56) (by decide +kernel) (w_eq (by decide) (by decide)) rfl) ?_
      refine XE.go (st_iadd (pc' := 57) (by decide +kernel) rfl) ?_
      refine XE.goM (st_put (pc' := 60) (by decide +kernel) rfl cls_10 fld_RX10_46 rfl rfl (fun h => absurd h (by decide)) (fun h => nomatch h) h0) (fun M15 => ?_)
      exact XE.rt rfl (X_vret (by decide +kernel) rfl)
    · refine XE.go (st_icmp_lt_f (off := 4) (pc' := 14) (by decide +kernel) 15 (by decide) rfl h4) ?_
      exact XE.rt rfl (X_vret (by decide +kernel) rfl)
  · refine XE.go (st_icmp_ge_t (off := 8) (pc' := 14) (by decide +kernel) (by decide) (Int.not_lt.mp h2)) ?_
    exact XE.rt rfl (X_vret (by decide +kernel) rfl)
theorem ct_X10_makePartition {D : Dt} {M : Mm} {a0 a1 a2 : Int} (h0 : a0 ≠ 0) (r : Mm) (hr : p_X10_makePartition M a0 a1 a2 = some r) : CT D 0 mu_X10_makePartition [(14, a0), (13, a1), (0, a2)] M (.inl none) r := CT.of (by decide +kernel) rfl (Nat.le_of_ble_eq_true rfl) (xe_X10_makePartition h0 r hr)
def b_X10_topic_58 (a1 : Int) (a0 : Int) (v10 : Int) (s12 : Int × Mm) : Option ((Int × Mm) ⊕ (Mm)) := if s12.1 < a1 then (p_X10_makePartition s12.2 a0 v10 s12.1).bind fun M20 => some (.inl ((w (s12.1 + 1)), M20)) else some (.inr s12.2)
def p_X10_topic (M : Mm) (a0 a1 a2 a3 : Int) : Option (Int × Int × Mm) := (p_X10_requireWithin M a1 1 3).bind (thU psT fun M1 => (p_X10_requireWithin M1 a2 1 3).bind (thU psT fun M2 => if (rd M2 a0 6) < 3 then if (rd M2 a0 13) = 7 then (alo M2 10 (10000 + (rd M2 a0 6)) 7).bind fun M7 => (p_X9_init M7 (10000 + (rd M2 a0 6)) (rd M7 a0 6) a1 a2 a3).bind fun M9 => (some ((10000 + (rd M2 a0 6)))).bind fun v10 => (lp (b_X10_topic_58 a1 a0 v10) 1000 (0, M9)).bind fun (t13 : Mm) => gd (aok (rd t13 a0 0) (rd t13 a0 6)) ((some (wr t13 (rd t13 a0 0) (rd t13 a0 6) v10)).bind fun M22 => (some (wr M22 a0 6 (w ((rd M22 a0 6) + 1)))).bind fun M23 => some (0, (rd M23 v10 0), M23)) else psT 3 0 (thr M2) else psT 3 0 (thr M2)))
set_option maxRecDepth 100000 in
set_option maxHeartbeats 4000000 in
theorem xe_X10_topic {D : Dt} {M : Mm} {a0 a1 a2 a3 : Int} (h0 : a0 ≠ 0) : XE D 0 mu_X10_topic (ET 0) 0 [(0, (14, a0)), (1, (0, a1)), (2, (0, a2)), (3, (0, a3))] [] M (p_X10_topic M a0 a1 a2 a3) := by
  unfold p_X10_topic
  refine XE.go (st_iload_n (j := 1) (i := 1) (pc' := 1) (by decide +kernel) rfl rfl rfl) ?_
  refine XE.go (st_iconst (n := 1) (pc' := 2) (by decide +kernel) (w_eq (by decide) (by decide)) rfl) ?_
  refine XE.go (st_iconst (n := 3) (pc' := 3) (by decide +kernel) (w_eq (by decide) (by decide)) rfl) ?_
  refine XE.cUg (pc' := 6) (st := []) hfT (fun r hr => ct_X10_requireWithin r hr) (fun r hr => run_S (st := []) (by decide +kernel) co_X10_topic_73 (ct_X10_requireWithin r hr) rfl rfl (Nat.le_of_ble_eq_true rfl)) rfl rfl rfl (fun M1 => ?_)
  refine XE.go (st_iload_n (j := 2) (i := 2) (pc' := 7) (by decide +kernel) rfl rfl rfl) ?_
  refine XE.go (st_iconst (n := 1) (pc' := 8) (by decide +kernel) (w_eq (by decide) (by decide)) rfl) ?_
  refine XE.go (st_iconst (n := 3) (pc' := 9) (by decide +kernel) (w_eq (by decide) (by decide)) rfl) ?_
  refine XE.cUg (pc' := 12) (st := []) hfT (fun r hr => ct_X10_requireWithin r hr) (fun r hr => run_S (st := []) (by decide +kernel) co_X10_topic_73 (ct_X10_requireWithin r hr) rfl rfl (Nat.le_of_ble_eq_true rfl)) rfl rfl rfl (fun M2 => ?_)
  refine XE.go (st_aload_n (j := 0) (i := 0) (pc' := 13) (by decide +kernel) rfl rfl (by decide) rfl) ?_
  refine XE.go (st_get (pc' := 16) (by decide +kernel) rfl cls_10 fld_RX10_42 rfl rfl h0) ?_
  refine XE.go (st_iconst (n := 3) (pc' := 17) (by decide +kernel) (w_eq (by decide) (by decide)) rfl) ?_
  refine XE.ite (fun h3 => ?_) (fun h4 => ?_)
  · refine XE.go (st_icmp_ge_f (off := 12) (pc' := 20) (by decide +kernel) 29 (by decide) rfl (Int.not_le.mpr h3)) ?_
    refine XE.go (st_aload_n (j := 0) (i := 0) (pc' := 21) (by decide +kernel) rfl rfl (by decide) rfl) ?_
    refine XE.go (st_get (pc' := 24) (by decide +kernel) rfl cls_10 fld_RX10_64 rfl rfl h0) ?_
    refine XE.go (st_bipush (n := 7) (pc' := 26) (by decide +kernel) (by decide) (w_eq (by decide) (by decide)) rfl) ?_
    refine XE.ite (fun h5 => ?_) (fun h6 => ?_)
    · refine XE.go (st_icmp_eq_t (off := 13) (pc' := 39) (by decide +kernel) (by decide) h5) ?_
      refine XE.alo_ (fun q1 q2 q3 => st_new (pc' := 42) (by decide +kernel) rfl cls_9 nw_RX10_9 rfl rfl q1 q2 q3) (by decide) (fun M7 h8 => ?_)
      refine XE.go (st_dup (pc' := 43) (by decide +kernel) rfl rfl) ?_
      refine XE.go (st_aload_n (j := 0) (i := 0) (pc' := 44) (by decide +kernel) rfl rfl (by decide) rfl) ?_
      refine XE.go (st_get (pc' := 47) (by decide +kernel) rfl cls_10 fld_RX10_42 rfl rfl h0) ?_
      refine XE.go (st_iload_n (j := 1) (i := 1) (pc' := 48) (by decide +kernel) rfl rfl rfl) ?_
      refine XE.go (st_iload_n (j := 2) (i := 2) (pc' := 49) (by decide +kernel) rfl rfl rfl) ?_
      refine XE.go (st_iload_n (j := 3) (i := 3) (pc' := 50) (by decide +kernel) rfl rfl rfl) ?_
      refine XE.cV (pc' := 53) (st := [(13, (10000 + (rd M2 a0 6)))]) (fun r hr => ct_X9_init h8 r hr) (fun r hr => run_I (st := [(13, (10000 + (rd M2 a0 6)))]) (by decide +kernel) co_X10_topic_84 (ct_X9_init h8 r hr) (by decide) h8 rfl rfl (Nat.le_of_ble_eq_true rfl)) rfl rfl (fun M9 => ?_)
      refine XE.gen (fun v10 e11 => ?_)
      refine XE.go (st_astore (j := 4) (pc' := 55) (by decide +kernel)  (by decide) rfl (by decide) rfl rfl) ?_
      refine XE.go (st_iconst (n := 0) (pc' := 56) (by decide +kernel) (w_eq (by decide) (by decide)) rfl) ?_
      refine XE.go (st_istore (j := 5) (pc' := 58) (by decide +kernel)  rfl (by decide) rfl rfl) ?_
      refine XE.pick [2, 3, 1, 0] (L' := [(0, (14, a0)), (1, (0, a1)), (4, (13, v10)), (5, (0, 0))]) rfl ?_
      refine XE.loopJ (n := 1000) (s0 := (0, M9)) (pcL := 58) (pcE := 78) (LL := fun (s12 : Int × Mm) => [(0, (14, a0)), (1, (0, a1)), (4, (13, v10)), (5, (0, s12.1))]) (sL := fun _ => []) (ML := fun (s12 : Int × Mm) => s12.2) (LE := fun (t13 : Mm) => [(0, (14, a0)), (4, (13, v10))]) (sE := fun _ => []) (ME := fun (t13 : Mm) => t13) (fun kk17 hc14 he15 s12 => ?_) (fun t13 => ?_)
      · unfold b_X10_topic_58
        refine XE.go (st_iload (j := 5) (pc' := 60) (by decide +kernel) rfl rfl) ?_
        refine XE.go (st_iload_n (j := 1) (i := 1) (pc' := 61) (by decide +kernel) rfl rfl rfl) ?_
        refine XE.bite (fun h18 => ?_) (fun h19 => ?_)
        · refine XE.go (st_icmp_ge_f (off := 17) (pc' := 64) (by decide +kernel) 78 (by decide) rfl (Int.not_le.mpr h18)) ?_
          refine XE.go (st_aload_n (j := 0) (i := 0) (pc' := 65) (by decide +kernel) rfl rfl (by decide) rfl) ?_
          refine XE.go (st_aload (j := 4) (pc' := 67) (by decide +kernel) rfl (by decide) rfl) ?_
          refine XE.go (st_iload (j := 5) (pc' := 69) (by decide +kernel) rfl rfl) ?_
          refine XE.asc ?_
          refine XE.cV (pc' := 72) (st := []) (fun r hr => ct_X10_makePartition h0 r hr) (fun r hr => run_V (st := []) (by decide +kernel) co_X10_topic_87 (ct_X10_makePartition h0 r hr) rfl h0 rfl rfl (Nat.le_of_ble_eq_true rfl)) rfl rfl (fun M20 => ?_)
          refine XE.go (st_iinc (j := 5) (n := 1) (pc' := 75) (by decide +kernel) rfl rfl (by decide) rfl rfl) ?_
          refine XE.go (st_goto (off := (-17)) (pc' := 58) (by decide +kernel) (by decide)) ?_
          exact XE.pick [1, 2, 3, 0] rfl (hc14 ((w (s12.1 + 1)), M20))
        · refine XE.go (st_icmp_ge_t (off := 17) (pc' := 78) (by decide +kernel) (by decide) (Int.not_lt.mp h19)) ?_
          exact XE.pick [0, 2] rfl (he15 s12.2)
      · refine XE.go (st_aload_n (j := 0) (i := 0) (pc' := 79) (by decide +kernel) rfl rfl (by decide) rfl) ?_
        refine XE.go (st_get (pc' := 82) (by decide +kernel) rfl cls_10 fld_RX10_11 rfl rfl h0) ?_
        refine XE.go (st_aload_n (j := 0) (i := 0) (pc' := 83) (by decide +kernel) rfl rfl (by decide) rfl) ?_
        refine XE.go (st_get (pc' := 86) (by decide +kernel) rfl cls_10 fld_RX10_42 rfl rfl h0) ?_
        refine XE.go (st_aload (j := 4) (pc' := 88) (by decide +kernel) rfl (by decide) rfl) ?_
        refine XE.gd_ (fun g21 => ?_)
        refine XE.goM (st_aast (pc' := 89) (by decide +kernel) rfl ak_25 cls_9 rfl rfl rfl g21.1 g21.2.1 g21.2.2) (fun M22 => ?_)
        refine XE.go (st_aload_n (j := 0) (i := 0) (pc' := 90) (by decide +kernel) rfl rfl (by decide) rfl) ?_
        refine XE.go (st_dup (pc' := 91) (by decide +kernel) rfl rfl) ?_
        refine XE.go (st_get (pc' := 94) (by decide +kernel) rfl cls_10 fld_RX10_42 rfl rfl h0) ?_
        refine XE.go (st_iconst (n := 1) (pc' := 95) (by decide +kernel) (w_eq (by decide) (by decide)) rfl) ?_
        refine XE.go (st_iadd (pc' := 96) (by decide +kernel) rfl) ?_
        refine XE.goM (st_put (pc' := 99) (by decide +kernel) rfl cls_10 fld_RX10_42 rfl rfl (fun h => absurd h (by decide)) (fun h => nomatch h) h0) (fun M23 => ?_)
        refine XE.go (st_aload (j := 4) (pc' := 101) (by decide +kernel) rfl (by decide) rfl) ?_
        refine XE.go (st_get (pc' := 104) (by decide +kernel) rfl cls_9 fld_RX10_91 rfl rfl (by rw [e11]; exact h8)) ?_
        exact XE.rt rfl (X_iret (by decide +kernel) rfl)
    · refine XE.go (st_icmp_eq_f (off := 13) (pc' := 29) (by decide +kernel) 39 (by decide) rfl h6) ?_
      exact XE.thrT (by decide +kernel) (by decide +kernel) (by decide +kernel) (by decide +kernel) (by decide +kernel) thr_RX10_79 rfl (by decide) (by decide) (by decide)
  · refine XE.go (st_icmp_ge_t (off := 12) (pc' := 29) (by decide +kernel) (by decide) (Int.not_lt.mp h4)) ?_
    exact XE.thrT (by decide +kernel) (by decide +kernel) (by decide +kernel) (by decide +kernel) (by decide +kernel) thr_RX10_79 rfl (by decide) (by decide) (by decide)
theorem ct_X10_topic {D : Dt} {M : Mm} {a0 a1 a2 a3 : Int} (h0 : a0 ≠ 0) (r : (Int × Int × Mm)) (hr : p_X10_topic M a0 a1 a2 a3 = some r) : CT D 0 mu_X10_topic [(14, a0), (0, a1), (0, a2), (0, a3)] M (ET 0 r).1 (ET 0 r).2 := CT.of (by decide +kernel) rfl (Nat.le_of_ble_eq_true rfl) (xe_X10_topic h0 r hr)
def p_X10_partitionOf (M : Mm) (a0 a1 : Int) : Option (Int × Int × Mm) := (if a1 < 0 then some (0) else gd ((rd M a0 1) ≠ 0) (if a1 < (ln (rd M a0 1)) then gd (aok (rd M a0 1) a1) (some ((rd M (rd M a0 1) a1))) else some (0)) : Option (Int)).bind fun (s1 : Int) => if s1 = 0 then psT 1 0 (thr M) else some (0, s1, M)
set_option maxRecDepth 100000 in
set_option maxHeartbeats 4000000 in
theorem xe_X10_partitionOf {D : Dt} {M : Mm} {a0 a1 : Int} (h0 : a0 ≠ 0) : XE D 0 mu_X10_partitionOf (ET 9) 0 [(0, (14, a0)), (1, (0, a1))] [] M (p_X10_partitionOf M a0 a1) := by
  unfold p_X10_partitionOf
  refine XE.go (st_iload_n (j := 1) (i := 1) (pc' := 1) (by decide +kernel) rfl rfl rfl) ?_
  refine XE.join (pcJ := 23) (LJ := fun (s1 : Int) => []) (sJ := fun (s1 : Int) => [(9, s1)]) (MJ := fun (s1 : Int) => M) (fun kk4 hk2 => ?_) (fun s1 => ?_)
  · refine XE.bite (fun h5 => ?_) (fun h6 => ?_)
    · refine XE.go (st_if_lt_t (off := 21) (pc' := 22) (by decide +kernel) (by decide) h5) ?_
      refine XE.go (st_null (t := 9) (pc' := 23) (by decide +kernel) (by decide) rfl) ?_
      exact XE.pick [] rfl (hk2 0)
    · refine XE.go (st_if_lt_f (off := 21) (pc' := 4) (by decide +kernel) 22 (by decide) rfl h6) ?_
      refine XE.go (st_iload_n (j := 1) (i := 1) (pc' := 5) (by decide +kernel) rfl rfl rfl) ?_
      refine XE.go (st_aload_n (j := 0) (i := 0) (pc' := 6) (by decide +kernel) rfl rfl (by decide) rfl) ?_
      refine XE.go (st_get (pc' := 9) (by decide +kernel) rfl cls_10 fld_RX10_17 rfl rfl h0) ?_
      refine XE.gdb (fun g7 => ?_)
      refine XE.go (st_alen (k := 21) (pc' := 10) (by decide +kernel) rfl ak_21 rfl (by decide) g7) ?_
      refine XE.bite (fun h8 => ?_) (fun h9 => ?_)
      · refine XE.go (st_icmp_ge_f (off := 12) (pc' := 13) (by decide +kernel) 22 (by decide) rfl (Int.not_le.mpr h8)) ?_
        refine XE.go (st_aload_n (j := 0) (i := 0) (pc' := 14) (by decide +kernel) rfl rfl (by decide) rfl) ?_
        refine XE.go (st_get (pc' := 17) (by decide +kernel) rfl cls_10 fld_RX10_17 rfl rfl h0) ?_
        refine XE.go (st_iload_n (j := 1) (i := 1) (pc' := 18) (by decide +kernel) rfl rfl rfl) ?_
        refine XE.gdb (fun g10 => ?_)
        refine XE.go (st_ald (k := 21) (tp := 9) (pc' := 19) (by decide +kernel) rfl ak_21 rfl (by decide) rfl (Or.inr (Or.inr (Or.inr ⟨rfl, rfl⟩))) g10.1 g10.2.1 g10.2.2) ?_
        refine XE.go (st_goto (off := 4) (pc' := 23) (by decide +kernel) (by decide)) ?_
        exact XE.pick [] rfl (hk2 (rd M (rd M a0 1) a1))
      · refine XE.go (st_icmp_ge_t (off := 12) (pc' := 22) (by decide +kernel) (by decide) (Int.not_lt.mp h9)) ?_
        refine XE.go (st_null (t := 9) (pc' := 23) (by decide +kernel) (by decide) rfl) ?_
        exact XE.pick [] rfl (hk2 0)
  · refine XE.go (st_astore_n (j := 2) (i := 2) (pc' := 24) (by decide +kernel) rfl (by decide) rfl (by decide) rfl rfl) ?_
    refine XE.go (st_aload_n (j := 2) (i := 2) (pc' := 25) (by decide +kernel) rfl rfl (by decide) rfl) ?_
    refine XE.ite (fun h11 => ?_) (fun h12 => ?_)
    · refine XE.go (st_ifnonnull_f (off := 14) (pc' := 28) (by decide +kernel) (by decide) h11 rfl) ?_
      exact XE.thrTW (by decide +kernel) (by decide +kernel) (by decide +kernel) (by decide +kernel) (by decide +kernel) thr_RX10_629 rfl (by decide) (by decide) (by decide)
    · refine XE.go (st_ifnonnull_t (off := 14) (pc' := 39) (by decide +kernel) (by decide) h12 (by decide)) ?_
      refine XE.go (st_aload_n (j := 2) (i := 2) (pc' := 40) (by decide +kernel) rfl rfl (by decide) rfl) ?_
      exact XE.rt rfl (X_aret (by decide +kernel) rfl (Or.inl ⟨_, rfl⟩) (by decide))
theorem ct_X10_partitionOf {D : Dt} {M : Mm} {a0 a1 : Int} (h0 : a0 ≠ 0) (r : (Int × Int × Mm)) (hr : p_X10_partitionOf M a0 a1 = some r) : CT D 0 mu_X10_partitionOf [(14, a0), (0, a1)] M (ET 9 r).1 (ET 9 r).2 := CT.of (by decide +kernel) rfl (Nat.le_of_ble_eq_true rfl) (xe_X10_partitionOf h0 r hr)
def p_J9_min_7cf53 (M : Mm) (a0 a1 : Int) : Option Int := if a1 < a0 then some (a1) else some (a0)
set_option maxRecDepth 100000 in
set_option maxHeartbeats 4000000 in
theorem xe_J9_min_7cf53 {D : Dt} {M : Mm} {a0 a1 : Int} : XE D 0 mu_J9_min_7cf53 (EP 0 M) 0 [(0, (0, a0)), (1, (0, a1))] [] M (p_J9_min_7cf53 M a0 a1) := by
  unfold p_J9_min_7cf53
  refine XE.go (st_iload_n (j := 0) (i := 0) (pc' := 1) (by decide +kernel) rfl rfl rfl) ?_
  refine XE.go (st_iload_n (j := 1) (i := 1) (pc' := 2) (by decide +kernel) rfl rfl rfl) ?_
  refine XE.ite (fun h1 => ?_) (fun h2 => ?_)
  · refine XE.go (st_icmp_gt_t (off := 7) (pc' := 9) (by decide +kernel) (by decide) h1) ?_
    refine XE.go (st_iload_n (j := 1) (i := 1) (pc' := 10) (by decide +kernel) rfl rfl rfl) ?_
    exact XE.rt rfl (X_iret (by decide +kernel) rfl)
  · refine XE.go (st_icmp_gt_f (off := 7) (pc' := 5) (by decide +kernel) 9 (by decide) rfl h2) ?_
    refine XE.go (st_iload_n (j := 0) (i := 0) (pc' := 6) (by decide +kernel) rfl rfl rfl) ?_
    refine XE.go (st_goto (off := 4) (pc' := 10) (by decide +kernel) (by decide)) ?_
    exact XE.rt rfl (X_iret (by decide +kernel) rfl)
theorem ct_J9_min_7cf53 {D : Dt} {M : Mm} {a0 a1 : Int} (r : Int) (hr : p_J9_min_7cf53 M a0 a1 = some r) : CT D 0 mu_J9_min_7cf53 [(0, a0), (0, a1)] M (.inl (some (0, r))) M := CT.of (by decide +kernel) rfl (Nat.le_of_ble_eq_true rfl) (xe_J9_min_7cf53 r hr)
def b_X5_highWatermark_14 (v4 : Int) (v1 : Int) (M : Mm) (s6 : Int × Int) : Option ((Int × Int) ⊕ (Int)) := if s6.2 < v4 then gd (aok v1 s6.2) ((some ((rd M v1 s6.2))).bind fun v15 => if v15 = 0 then some (.inl (s6.1, (w (s6.2 + 1)))) else if (rd M v15 4) = 0 then some (.inl (s6.1, (w (s6.2 + 1)))) else (p_J9_min_7cf53 M s6.1 (rd M v15 2)).bind fun r21 => some (.inl (r21, (w (s6.2 + 1))))) else some (.inr s6.1)
def p_X5_highWatermark (M : Mm) (a0 : Int) : Option Int := (some ((rd M a0 2))).bind fun v1 => gd (v1 ≠ 0) ((some ((ln v1))).bind fun v4 => (lp (b_X5_highWatermark_14 v4 v1 M) 1000 (60, 0)).bind fun (t7 : Int) => some (t7))
set_option maxRecDepth 100000 in
set_option maxHeartbeats 4000000 in
theorem xe_X5_highWatermark {D : Dt} {M : Mm} {a0 : Int} (h0 : a0 ≠ 0) : XE D 0 mu_X5_highWatermark (EP 0 M) 0 [(0, (9, a0))] [] M (p_X5_highWatermark M a0) := by
  unfold p_X5_highWatermark
  refine XE.go (st_bipush (n := 60) (pc' := 2) (by decide +kernel) (by decide) (w_eq (by decide) (by decide)) rfl) ?_
  refine XE.go (st_istore_n (j := 1) (i := 1) (pc' := 3) (by decide +kernel) rfl rfl (by decide) rfl rfl) ?_
  refine XE.go (st_aload_n (j := 0) (i := 0) (pc' := 4) (by decide +kernel) rfl rfl (by decide) rfl) ?_
  refine XE.go (st_get (pc' := 7) (by decide +kernel) rfl cls_5 fld_RX5_11 rfl rfl h0) ?_
  refine XE.gen (fun v1 e2 => ?_)
  refine XE.go (st_astore_n (j := 2) (i := 2) (pc' := 8) (by decide +kernel) rfl (by decide) rfl (by decide) rfl rfl) ?_
  refine XE.go (st_aload_n (j := 2) (i := 2) (pc' := 9) (by decide +kernel) rfl rfl (by decide) rfl) ?_
  refine XE.gd_ (fun g3 => ?_)
  refine XE.go (st_alen (k := 23) (pc' := 10) (by decide +kernel) rfl ak_23 rfl (by decide) g3) ?_
  refine XE.gen (fun v4 e5 => ?_)
  refine XE.go (st_istore_n (j := 3) (i := 3) (pc' := 11) (by decide +kernel) rfl rfl (by decide) rfl rfl) ?_
  refine XE.go (st_iconst (n := 0) (pc' := 12) (by decide +kernel) (w_eq (by decide) (by decide)) rfl) ?_
  refine XE.go (st_istore (j := 4) (pc' := 14) (by decide +kernel)  rfl (by decide) rfl rfl) ?_
  refine XE.pick [3, 2, 1, 0] (L' := [(1, (0, 60)), (2, (26, v1)), (3, (0, v4)), (4, (0, 0))]) rfl ?_
  refine XE.loopJ (n := 1000) (s0 := (60, 0)) (pcL := 14) (pcE := 55) (LL := fun (s6 : Int × Int) => [(1, (0, s6.1)), (2, (26, v1)), (3, (0, v4)), (4, (0, s6.2))]) (sL := fun _ => []) (ML := fun (s6 : Int × Int) => M) (LE := fun (t7 : Int) => [(1, (0, t7))]) (sE := fun _ => []) (ME := fun (t7 : Int) => M) (fun kk11 hc8 he9 s6 => ?_) (fun t7 => ?_)
  · unfold b_X5_highWatermark_14
    refine XE.go (st_iload (j := 4) (pc' := 16) (by decide +kernel) rfl rfl) ?_
    refine XE.go (st_iload_n (j := 3) (i := 3) (pc' := 17) (by decide +kernel) rfl rfl rfl) ?_
    refine XE.bite (fun h12 => ?_) (fun h13 => ?_)
    · refine XE.go (st_icmp_ge_f (off := 38) (pc' := 20) (by decide +kernel) 55 (by decide) rfl (Int.not_le.mpr h12)) ?_
      refine XE.go (st_aload_n (j := 2) (i := 2) (pc' := 21) (by decide +kernel) rfl rfl (by decide) rfl) ?_
      refine XE.go (st_iload (j := 4) (pc' := 23) (by decide +kernel) rfl rfl) ?_
      refine XE.gdb (fun g14 => ?_)
      refine XE.go (st_ald (k := 23) (tp := 11) (pc' := 24) (by decide +kernel) rfl ak_23 rfl (by decide) rfl (Or.inr (Or.inr (Or.inr ⟨rfl, rfl⟩))) g14.1 g14.2.1 g14.2.2) ?_
      refine XE.asc ?_
      refine XE.gen (fun v15 e16 => ?_)
      refine XE.go (st_astore (j := 5) (pc' := 26) (by decide +kernel)  (by decide) rfl (by decide) rfl rfl) ?_
      refine XE.go (st_aload (j := 5) (pc' := 28) (by decide +kernel) rfl (by decide) rfl) ?_
      refine XE.bite (fun h17 => ?_) (fun h18 => ?_)
      · refine XE.go (st_ifnull_t (off := 21) (pc' := 49) (by decide +kernel) (by decide) h17 (by decide)) ?_
        refine XE.go (st_iinc (j := 4) (n := 1) (pc' := 52) (by decide +kernel) rfl rfl (by decide) rfl rfl) ?_
        refine XE.go (st_goto (off := (-38)) (pc' := 14) (by decide +kernel) (by decide)) ?_
        exact XE.pick [2, 3, 4, 0] rfl (hc8 (s6.1, (w (s6.2 + 1))))
      · refine XE.go (st_ifnull_f (off := 21) (pc' := 31) (by decide +kernel) (by decide) h18 rfl) ?_
        refine XE.go (st_aload (j := 5) (pc' := 33) (by decide +kernel) rfl (by decide) rfl) ?_
        refine XE.go (st_get (pc' := 36) (by decide +kernel) rfl cls_7 fld_RX5_49 rfl rfl h18) ?_
        refine XE.bite (fun h19 => ?_) (fun h20 => ?_)
        · refine XE.go (st_if_eq_t (off := 13) (pc' := 49) (by decide +kernel) (by decide) h19) ?_
          refine XE.go (st_iinc (j := 4) (n := 1) (pc' := 52) (by decide +kernel) rfl rfl (by decide) rfl rfl) ?_
          refine XE.go (st_goto (off := (-38)) (pc' := 14) (by decide +kernel) (by decide)) ?_
          exact XE.pick [2, 3, 4, 0] rfl (hc8 (s6.1, (w (s6.2 + 1))))
        · refine XE.go (st_if_eq_f (off := 13) (pc' := 39) (by decide +kernel) 49 (by decide) rfl h20) ?_
          refine XE.go (st_iload_n (j := 1) (i := 1) (pc' := 40) (by decide +kernel) rfl rfl rfl) ?_
          refine XE.go (st_aload (j := 5) (pc' := 42) (by decide +kernel) rfl (by decide) rfl) ?_
          refine XE.go (st_get (pc' := 45) (by decide +kernel) rfl cls_7 fld_RX5_53 rfl rfl h18) ?_
          refine XE.asc ?_
          refine XE.cP (pc' := 48) (st := []) (fun r hr => ct_J9_min_7cf53 r hr) (fun r hr => run_S (st := []) (by decide +kernel) co_X5_highWatermark_61 (ct_J9_min_7cf53 r hr) rfl rfl (Nat.le_of_ble_eq_true rfl)) rfl rfl (fun r21 => ?_)
          refine XE.go (st_istore_n (j := 1) (i := 1) (pc' := 49) (by decide +kernel) rfl rfl (by decide) rfl rfl) ?_
          refine XE.go (st_iinc (j := 4) (n := 1) (pc' := 52) (by decide +kernel) rfl rfl (by decide) rfl rfl) ?_
          refine XE.go (st_goto (off := (-38)) (pc' := 14) (by decide +kernel) (by decide)) ?_
          exact XE.pick [1, 3, 4, 0] rfl (hc8 (r21, (w (s6.2 + 1))))
    · refine XE.go (st_icmp_ge_t (off := 38) (pc' := 55) (by decide +kernel) (by decide) (Int.not_lt.mp h13)) ?_
      exact XE.pick [0] rfl (he9 s6.1)
  · refine XE.go (st_iload_n (j := 1) (i := 1) (pc' := 56) (by decide +kernel) rfl rfl rfl) ?_
    exact XE.rt rfl (X_iret (by decide +kernel) rfl)
theorem ct_X5_highWatermark {D : Dt} {M : Mm} {a0 : Int} (h0 : a0 ≠ 0) (r : Int) (hr : p_X5_highWatermark M a0 = some r) : CT D 0 mu_X5_highWatermark [(9, a0)] M (.inl (some (0, r))) M := CT.of (by decide +kernel) rfl (Nat.le_of_ble_eq_true rfl) (xe_X5_highWatermark h0 r hr)
def p_X5_messageAt (M : Mm) (a0 a1 : Int) : Option Int := if a1 < 0 then some (0) else gd ((rd M a0 3) ≠ 0) (if a1 < (ln (rd M a0 3)) then gd (aok (rd M a0 3) a1) (some ((rd M (rd M a0 3) a1))) else some (0))
set_option maxRecDepth 100000 in
set_option maxHeartbeats 4000000 in
theorem xe_X5_messageAt {D : Dt} {M : Mm} {a0 a1 : Int} (h0 : a0 ≠ 0) : XE D 0 mu_X5_messageAt (EP 8 M) 0 [(0, (9, a0)), (1, (0, a1))] [] M (p_X5_messageAt M a0 a1) := by
  unfold p_X5_messageAt
  refine XE.go (st_iload_n (j := 1) (i := 1) (pc' := 1) (by decide +kernel) rfl rfl rfl) ?_
  refine XE.ite (fun h1 => ?_) (fun h2 => ?_)
  · refine XE.go (st_if_lt_t (off := 21) (pc' := 22) (by decide +kernel) (by decide) h1) ?_
    refine XE.go (st_null (t := 8) (pc' := 23) (by decide +kernel) (by decide) rfl) ?_
    exact XE.rt rfl (X_aret (by decide +kernel) rfl (Or.inl ⟨_, rfl⟩) (by decide))
  · refine XE.go (st_if_lt_f (off := 21) (pc' := 4) (by decide +kernel) 22 (by decide) rfl h2) ?_
    refine XE.go (st_iload_n (j := 1) (i := 1) (pc' := 5) (by decide +kernel) rfl rfl rfl) ?_
    refine XE.go (st_aload_n (j := 0) (i := 0) (pc' := 6) (by decide +kernel) rfl rfl (by decide) rfl) ?_
    refine XE.go (st_get (pc' := 9) (by decide +kernel) rfl cls_5 fld_RX5_19 rfl rfl h0) ?_
    refine XE.gd_ (fun g3 => ?_)
    refine XE.go (st_alen (k := 20) (pc' := 10) (by decide +kernel) rfl ak_20 rfl (by decide) g3) ?_
    refine XE.ite (fun h4 => ?_) (fun h5 => ?_)
    · refine XE.go (st_icmp_ge_f (off := 12) (pc' := 13) (by decide +kernel) 22 (by decide) rfl (Int.not_le.mpr h4)) ?_
      refine XE.go (st_aload_n (j := 0) (i := 0) (pc' := 14) (by decide +kernel) rfl rfl (by decide) rfl) ?_
      refine XE.go (st_get (pc' := 17) (by decide +kernel) rfl cls_5 fld_RX5_19 rfl rfl h0) ?_
      refine XE.go (st_iload_n (j := 1) (i := 1) (pc' := 18) (by decide +kernel) rfl rfl rfl) ?_
      refine XE.gd_ (fun g6 => ?_)
      refine XE.go (st_ald (k := 20) (tp := 8) (pc' := 19) (by decide +kernel) rfl ak_20 rfl (by decide) rfl (Or.inr (Or.inr (Or.inr ⟨rfl, rfl⟩))) g6.1 g6.2.1 g6.2.2) ?_
      refine XE.go (st_goto (off := 4) (pc' := 23) (by decide +kernel) (by decide)) ?_
      exact XE.rt rfl (X_aret (by decide +kernel) rfl (Or.inl ⟨_, rfl⟩) (by decide))
    · refine XE.go (st_icmp_ge_t (off := 12) (pc' := 22) (by decide +kernel) (by decide) (Int.not_lt.mp h5)) ?_
      refine XE.go (st_null (t := 8) (pc' := 23) (by decide +kernel) (by decide) rfl) ?_
      exact XE.rt rfl (X_aret (by decide +kernel) rfl (Or.inl ⟨_, rfl⟩) (by decide))
theorem ct_X5_messageAt {D : Dt} {M : Mm} {a0 a1 : Int} (h0 : a0 ≠ 0) (r : Int) (hr : p_X5_messageAt M a0 a1 = some r) : CT D 0 mu_X5_messageAt [(9, a0), (0, a1)] M (.inl (some (8, r))) M := CT.of (by decide +kernel) rfl (Nat.le_of_ble_eq_true rfl) (xe_X5_messageAt h0 r hr)
def b_X5_stableOffset_10 (r1 : Int) (M : Mm) (a0 : Int) (s4 : Int) : Option ((Int) ⊕ ((Int) ⊕ (Unit))) := if s4 < r1 then (p_X5_messageAt M a0 s4).bind fun r23 => if r23 = 0 then some (.inl (w (s4 + 1))) else if (rd M r23 8) = 1 then some (.inr (.inl (s4))) else some (.inl (w (s4 + 1))) else some (.inr (.inr ()))
def p_X5_stableOffset (M : Mm) (a0 : Int) : Option Int := (p_X5_highWatermark M a0).bind fun r1 => (some ((rd M a0 5))).bind fun v2 => (lp (b_X5_stableOffset_10 r1 M a0) 1000 v2).bind (Sum.elim some fun (t5 : Unit) => some (r1))
set_option maxRecDepth 100000 in
set_option maxHeartbeats 4000000 in
theorem xe_X5_stableOffset {D : Dt} {M : Mm} {a0 : Int} (h0 : a0 ≠ 0) : XE D 0 mu_X5_stableOffset (EP 0 M) 0 [(0, (9, a0))] [] M (p_X5_stableOffset M a0) := by
  unfold p_X5_stableOffset
  refine XE.go (st_aload_n (j := 0) (i := 0) (pc' := 1) (by decide +kernel) rfl rfl (by decide) rfl) ?_
  refine XE.cP (pc' := 4) (st := []) (fun r hr => ct_X5_highWatermark h0 r hr) (fun r hr => run_V (st := []) (by decide +kernel) co_X5_stableOffset_67 (ct_X5_highWatermark h0 r hr) rfl h0 rfl rfl (Nat.le_of_ble_eq_true rfl)) rfl rfl (fun r1 => ?_)
  refine XE.go (st_istore_n (j := 1) (i := 1) (pc' := 5) (by decide +kernel) rfl rfl (by decide) rfl rfl) ?_
  refine XE.go (st_aload_n (j := 0) (i := 0) (pc' := 6) (by decide +kernel) rfl rfl (by decide) rfl) ?_
  refine XE.go (st_get (pc' := 9) (by decide +kernel) rfl cls_5 fld_RX5_23 rfl rfl h0) ?_
  refine XE.gen (fun v2 e3 => ?_)
  refine XE.go (st_istore_n (j := 2) (i := 2) (pc' := 10) (by decide +kernel) rfl rfl (by decide) rfl rfl) ?_
  refine XE.pick [2, 1, 0] (L' := [(0, (9, a0)), (1, (0, r1)), (2, (0, v2))]) rfl ?_
  refine XE.loopX (n := 1000) (s0 := v2) (pcL := 10) (pcE := 41) (LL := fun (s4 : Int) => [(0, (9, a0)), (1, (0, r1)), (2, (0, s4))]) (sL := fun _ => []) (ML := fun (s4 : Int) => M) (LE := fun (t5 : Unit) => [(1, (0, r1))]) (sE := fun _ => []) (ME := fun (t5 : Unit) => M) (fun kk20 hx19 hc17 he18 s4 => ?_) (fun t5 => ?_)
  · unfold b_X5_stableOffset_10
    refine XE.go (st_iload_n (j := 2) (i := 2) (pc' := 11) (by decide +kernel) rfl rfl rfl) ?_
    refine XE.go (st_iload_n (j := 1) (i := 1) (pc' := 12) (by decide +kernel) rfl rfl rfl) ?_
    refine XE.bite (fun h21 => ?_) (fun h22 => ?_)
    · refine XE.go (st_icmp_ge_f (off := 29) (pc' := 15) (by decide +kernel) 41 (by decide) rfl (Int.not_le.mpr h21)) ?_
      refine XE.go (st_aload_n (j := 0) (i := 0) (pc' := 16) (by decide +kernel) rfl rfl (by decide) rfl) ?_
      refine XE.go (st_iload_n (j := 2) (i := 2) (pc' := 17) (by decide +kernel) rfl rfl rfl) ?_
      refine XE.asc ?_
      refine XE.cP (pc' := 20) (st := []) (fun r hr => ct_X5_messageAt h0 r hr) (fun r hr => run_V (st := []) (by decide +kernel) co_X5_stableOffset_71 (ct_X5_messageAt h0 r hr) rfl h0 rfl rfl (Nat.le_of_ble_eq_true rfl)) rfl rfl (fun r23 => ?_)
      refine XE.go (st_astore_n (j := 3) (i := 3) (pc' := 21) (by decide +kernel) rfl (by decide) rfl (by decide) rfl rfl) ?_
      refine XE.go (st_aload_n (j := 3) (i := 3) (pc' := 22) (by decide +kernel) rfl rfl (by decide) rfl) ?_
      refine XE.bite (fun h24 => ?_) (fun h25 => ?_)
      · refine XE.go (st_ifnull_t (off := 13) (pc' := 35) (by decide +kernel) (by decide) h24 (by decide)) ?_
        refine XE.go (st_iinc (j := 2) (n := 1) (pc' := 38) (by decide +kernel) rfl rfl (by decide) rfl rfl) ?_
        refine XE.go (st_goto (off := (-28)) (pc' := 10) (by decide +kernel) (by decide)) ?_
        exact XE.pick [2, 3, 0] rfl (hc17 (w (s4 + 1)))
      · refine XE.go (st_ifnull_f (off := 13) (pc' := 25) (by decide +kernel) (by decide) h25 rfl) ?_
        refine XE.go (st_aload_n (j := 3) (i := 3) (pc' := 26) (by decide +kernel) rfl rfl (by decide) rfl) ?_
        refine XE.go (st_get (pc' := 29) (by decide +kernel) rfl cls_4 fld_RX5_75 rfl rfl h25) ?_
        refine XE.go (st_iconst (n := 1) (pc' := 30) (by decide +kernel) (w_eq (by decide) (by decide)) rfl) ?_
        refine XE.bite (fun h26 => ?_) (fun h27 => ?_)
        · refine XE.go (st_icmp_ne_f (off := 5) (pc' := 33) (by decide +kernel) 35 (by decide) rfl (not_not_intro h26)) ?_
          refine XE.go (st_iload_n (j := 2) (i := 2) (pc' := 34) (by decide +kernel) rfl rfl rfl) ?_
          refine XE.cast (hx19 _) ?_
          exact XE.rt rfl (X_iret (by decide +kernel) rfl)
        · refine XE.go (st_icmp_ne_t (off := 5) (pc' := 35) (by decide +kernel) (by decide) h27) ?_
          refine XE.go (st_iinc (j := 2) (n := 1) (pc' := 38) (by decide +kernel) rfl rfl (by decide) rfl rfl) ?_
          refine XE.go (st_goto (off := (-28)) (pc' := 10) (by decide +kernel) (by decide)) ?_
          exact XE.pick [2, 3, 0] rfl (hc17 (w (s4 + 1)))
    · refine XE.go (st_icmp_ge_t (off := 29) (pc' := 41) (by decide +kernel) (by decide) (Int.not_lt.mp h22)) ?_
      exact XE.pick [1] rfl (he18 ())
  · refine XE.go (st_iload_n (j := 1) (i := 1) (pc' := 42) (by decide +kernel) rfl rfl rfl) ?_
    exact XE.rt rfl (X_iret (by decide +kernel) rfl)
theorem ct_X5_stableOffset {D : Dt} {M : Mm} {a0 : Int} (h0 : a0 ≠ 0) (r : Int) (hr : p_X5_stableOffset M a0 = some r) : CT D 0 mu_X5_stableOffset [(9, a0)] M (.inl (some (0, r))) M := CT.of (by decide +kernel) rfl (Nat.le_of_ble_eq_true rfl) (xe_X5_stableOffset h0 r hr)
def p_X5_storedAt (M : Mm) (a0 a1 : Int) : Option Int := (p_X5_messageAt M a0 a1).bind fun r1 => if r1 = 0 then some (0) else if (rd M r1 7) = 1 then some (r1) else some (0)
set_option maxRecDepth 100000 in
set_option maxHeartbeats 4000000 in
theorem xe_X5_storedAt {D : Dt} {M : Mm} {a0 a1 : Int} (h0 : a0 ≠ 0) : XE D 0 mu_X5_storedAt (EP 8 M) 0 [(0, (9, a0)), (1, (0, a1))] [] M (p_X5_storedAt M a0 a1) := by
  unfold p_X5_storedAt
  refine XE.go (st_aload_n (j := 0) (i := 0) (pc' := 1) (by decide +kernel) rfl rfl (by decide) rfl) ?_
  refine XE.go (st_iload_n (j := 1) (i := 1) (pc' := 2) (by decide +kernel) rfl rfl rfl) ?_
  refine XE.cP (pc' := 5) (st := []) (fun r hr => ct_X5_messageAt h0 r hr) (fun r hr => run_V (st := []) (by decide +kernel) co_X5_storedAt_71 (ct_X5_messageAt h0 r hr) rfl h0 rfl rfl (Nat.le_of_ble_eq_true rfl)) rfl rfl (fun r1 => ?_)
  refine XE.go (st_astore_n (j := 2) (i := 2) (pc' := 6) (by decide +kernel) rfl (by decide) rfl (by decide) rfl rfl) ?_
  refine XE.go (st_aload_n (j := 2) (i := 2) (pc' := 7) (by decide +kernel) rfl rfl (by decide) rfl) ?_
  refine XE.ite (fun h2 => ?_) (fun h3 => ?_)
  · refine XE.go (st_ifnull_t (off := 15) (pc' := 22) (by decide +kernel) (by decide) h2 (by decide)) ?_
    refine XE.go (st_null (t := 8) (pc' := 23) (by decide +kernel) (by decide) rfl) ?_
    exact XE.rt rfl (X_aret (by decide +kernel) rfl (Or.inl ⟨_, rfl⟩) (by decide))
  · refine XE.go (st_ifnull_f (off := 15) (pc' := 10) (by decide +kernel) (by decide) h3 rfl) ?_
    refine XE.go (st_aload_n (j := 2) (i := 2) (pc' := 11) (by decide +kernel) rfl rfl (by decide) rfl) ?_
    refine XE.go (st_get (pc' := 14) (by decide +kernel) rfl cls_4 fld_RX5_78 rfl rfl h3) ?_
    refine XE.go (st_iconst (n := 1) (pc' := 15) (by decide +kernel) (w_eq (by decide) (by decide)) rfl) ?_
    refine XE.ite (fun h4 => ?_) (fun h5 => ?_)
    · refine XE.go (st_icmp_ne_f (off := 7) (pc' := 18) (by decide +kernel) 22 (by decide) rfl (not_not_intro h4)) ?_
      refine XE.go (st_aload_n (j := 2) (i := 2) (pc' := 19) (by decide +kernel) rfl rfl (by decide) rfl) ?_
      refine XE.go (st_goto (off := 4) (pc' := 23) (by decide +kernel) (by decide)) ?_
      exact XE.rt rfl (X_aret (by decide +kernel) rfl (Or.inl ⟨_, rfl⟩) (by decide))
    · refine XE.go (st_icmp_ne_t (off := 7) (pc' := 22) (by decide +kernel) (by decide) h5) ?_
      refine XE.go (st_null (t := 8) (pc' := 23) (by decide +kernel) (by decide) rfl) ?_
      exact XE.rt rfl (X_aret (by decide +kernel) rfl (Or.inl ⟨_, rfl⟩) (by decide))
theorem ct_X5_storedAt {D : Dt} {M : Mm} {a0 a1 : Int} (h0 : a0 ≠ 0) (r : Int) (hr : p_X5_storedAt M a0 a1 = some r) : CT D 0 mu_X5_storedAt [(9, a0), (0, a1)] M (.inl (some (8, r))) M := CT.of (by decide +kernel) rfl (Nat.le_of_ble_eq_true rfl) (xe_X5_storedAt h0 r hr)
def p_X4_isPlainOrCommitted (M : Mm) (a0 : Int) : Option Int := if (rd M a0 8) = 0 then some (1) else if (rd M a0 8) = 2 then some (1) else some (0)
set_option maxRecDepth 100000 in
set_option maxHeartbeats 4000000 in
theorem xe_X4_isPlainOrCommitted {D : Dt} {M : Mm} {a0 : Int} (h0 : a0 ≠ 0) : XE D 0 mu_X4_isPlainOrCommitted (EP 0 M) 0 [(0, (8, a0))] [] M (p_X4_isPlainOrCommitted M a0) := by
  unfold p_X4_isPlainOrCommitted
  refine XE.go (st_aload_n (j := 0) (i := 0) (pc' := 1) (by decide +kernel) rfl rfl (by decide) rfl) ?_
  refine XE.go (st_get (pc' := 4) (by decide +kernel) rfl cls_4 fld_RX4_44 rfl rfl h0) ?_
  refine XE.ite (fun h1 => ?_) (fun h2 => ?_)
  · refine XE.go (st_if_eq_t (off := 11) (pc' := 15) (by decide +kernel) (by decide) h1) ?_
    refine XE.go (st_iconst (n := 1) (pc' := 16) (by decide +kernel) (w_eq (by decide) (by decide)) rfl) ?_
    refine XE.go (st_goto (off := 4) (pc' := 20) (by decide +kernel) (by decide)) ?_
    exact XE.rt rfl (X_zret (by decide +kernel) rfl (by decide))
  · refine XE.go (st_if_eq_f (off := 11) (pc' := 7) (by decide +kernel) 15 (by decide) rfl h2) ?_
    refine XE.go (st_aload_n (j := 0) (i := 0) (pc' := 8) (by decide +kernel) rfl rfl (by decide) rfl) ?_
    refine XE.go (st_get (pc' := 11) (by decide +kernel) rfl cls_4 fld_RX4_44 rfl rfl h0) ?_
    refine XE.go (st_iconst (n := 2) (pc' := 12) (by decide +kernel) (w_eq (by decide) (by decide)) rfl) ?_
    refine XE.ite (fun h3 => ?_) (fun h4 => ?_)
    · refine XE.go (st_icmp_ne_f (off := 7) (pc' := 15) (by decide +kernel) 19 (by decide) rfl (not_not_intro h3)) ?_
      refine XE.go (st_iconst (n := 1) (pc' := 16) (by decide +kernel) (w_eq (by decide) (by decide)) rfl) ?_
      refine XE.go (st_goto (off := 4) (pc' := 20) (by decide +kernel) (by decide)) ?_
      exact XE.rt rfl (X_zret (by decide +kernel) rfl (by decide))
    · refine XE.go (st_icmp_ne_t (off := 7) (pc' := 19) (by decide +kernel) (by decide) h4) ?_
      refine XE.go (st_iconst (n := 0) (pc' := 20) (by decide +kernel) (w_eq (by decide) (by decide)) rfl) ?_
      exact XE.rt rfl (X_zret (by decide +kernel) rfl (by decide))
theorem ct_X4_isPlainOrCommitted {D : Dt} {M : Mm} {a0 : Int} (h0 : a0 ≠ 0) (r : Int) (hr : p_X4_isPlainOrCommitted M a0 = some r) : CT D 0 mu_X4_isPlainOrCommitted [(8, a0)] M (.inl (some (0, r))) M := CT.of (by decide +kernel) rfl (Nat.le_of_ble_eq_true rfl) (xe_X4_isPlainOrCommitted h0 r hr)
def p_X5_readableAt (M : Mm) (a0 a1 a2 : Int) : Option Int := (if a1 < a2 then (p_X5_storedAt M a0 a1).bind fun r7 => some (r7) else some (0) : Option (Int)).bind fun (s1 : Int) => if s1 = 0 then some (0) else (p_X4_isPlainOrCommitted M s1).bind fun r10 => if r10 = 0 then some (0) else some (s1)
set_option maxRecDepth 100000 in
set_option maxHeartbeats 4000000 in
theorem xe_X5_readableAt {D : Dt} {M : Mm} {a0 a1 a2 : Int} (h0 : a0 ≠ 0) : XE D 0 mu_X5_readableAt (EP 8 M) 0 [(0, (9, a0)), (1, (0, a1)), (2, (0, a2))] [] M (p_X5_readableAt M a0 a1 a2) := by
  unfold p_X5_readableAt
  refine XE.go (st_iload_n (j := 1) (i := 1) (pc' := 1) (by decide +kernel) rfl rfl rfl) ?_
  refine XE.go (st_iload_n (j := 2) (i := 2) (pc' := 2) (by decide +kernel) rfl rfl rfl) ?_
  refine XE.join (pcJ := 14) (LJ := fun (s1 : Int) => []) (sJ := fun (s1 : Int) => [(8, s1)]) (MJ := fun (s1 : Int) => M) (fun kk4 hk2 => ?_) (fun s1 => ?_)
  · refine XE.bite (fun h5 => ?_) (fun h6 => ?_)
    · refine XE.go (st_icmp_ge_f (off := 11) (pc' := 5) (by decide +kernel) 13 (by decide) rfl (Int.not_le.mpr h5)) ?_
      refine XE.go (st_aload_n (j := 0) (i := 0) (pc' := 6) (by decide +kernel) rfl rfl (by decide) rfl) ?_
      refine XE.go (st_iload_n (j := 1) (i := 1) (pc' := 7) (by decide +kernel) rfl rfl rfl) ?_
      refine XE.asc ?_
      refine XE.cP (pc' := 10) (st := []) (fun r hr => ct_X5_storedAt h0 r hr) (fun r hr => run_V (st := []) (by decide +kernel) co_X5_readableAt_81 (ct_X5_storedAt h0 r hr) rfl h0 rfl rfl (Nat.le_of_ble_eq_true rfl)) rfl rfl (fun r7 => ?_)
      refine XE.go (st_goto (off := 4) (pc' := 14) (by decide +kernel) (by decide)) ?_
      exact XE.pick [] rfl (hk2 r7)
    · refine XE.go (st_icmp_ge_t (off := 11) (pc' := 13) (by decide +kernel) (by decide) (Int.not_lt.mp h6)) ?_
      refine XE.go (st_null (t := 8) (pc' := 14) (by decide +kernel) (by decide) rfl) ?_
      exact XE.pick [] rfl (hk2 0)
  · refine XE.go (st_astore_n (j := 3) (i := 3) (pc' := 15) (by decide +kernel) rfl (by decide) rfl (by decide) rfl rfl) ?_
    refine XE.go (st_aload_n (j := 3) (i := 3) (pc' := 16) (by decide +kernel) rfl rfl (by decide) rfl) ?_
    refine XE.ite (fun h8 => ?_) (fun h9 => ?_)
    · refine XE.go (st_ifnull_t (off := 14) (pc' := 30) (by decide +kernel) (by decide) h8 (by decide)) ?_
      refine XE.go (st_null (t := 8) (pc' := 31) (by decide +kernel) (by decide) rfl) ?_
      exact XE.rt rfl (X_aret (by decide +kernel) rfl (Or.inl ⟨_, rfl⟩) (by decide))
    · refine XE.go (st_ifnull_f (off := 14) (pc' := 19) (by decide +kernel) (by decide) h9 rfl) ?_
      refine XE.go (st_aload_n (j := 3) (i := 3) (pc' := 20) (by decide +kernel) rfl rfl (by decide) rfl) ?_
      refine XE.cP (pc' := 23) (st := []) (fun r hr => ct_X4_isPlainOrCommitted h9 r hr) (fun r hr => run_V (st := []) (by decide +kernel) co_X5_readableAt_84 (ct_X4_isPlainOrCommitted h9 r hr) rfl h9 rfl rfl (Nat.le_of_ble_eq_true rfl)) rfl rfl (fun r10 => ?_)
      refine XE.ite (fun h11 => ?_) (fun h12 => ?_)
      · refine XE.go (st_if_eq_t (off := 7) (pc' := 30) (by decide +kernel) (by decide) h11) ?_
        refine XE.go (st_null (t := 8) (pc' := 31) (by decide +kernel) (by decide) rfl) ?_
        exact XE.rt rfl (X_aret (by decide +kernel) rfl (Or.inl ⟨_, rfl⟩) (by decide))
      · refine XE.go (st_if_eq_f (off := 7) (pc' := 26) (by decide +kernel) 30 (by decide) rfl h12) ?_
        refine XE.go (st_aload_n (j := 3) (i := 3) (pc' := 27) (by decide +kernel) rfl rfl (by decide) rfl) ?_
        refine XE.go (st_goto (off := 4) (pc' := 31) (by decide +kernel) (by decide)) ?_
        exact XE.rt rfl (X_aret (by decide +kernel) rfl (Or.inl ⟨_, rfl⟩) (by decide))
theorem ct_X5_readableAt {D : Dt} {M : Mm} {a0 a1 a2 : Int} (h0 : a0 ≠ 0) (r : Int) (hr : p_X5_readableAt M a0 a1 a2 = some r) : CT D 0 mu_X5_readableAt [(9, a0), (0, a1), (0, a2)] M (.inl (some (8, r))) M := CT.of (by decide +kernel) rfl (Nat.le_of_ble_eq_true rfl) (xe_X5_readableAt h0 r hr)
def b_X5_lastReadable_4 (M : Mm) (a0 : Int) (a2 : Int) (a1 : Int) (s3 : Int) : Option ((Int) ⊕ ((Int) ⊕ (Unit))) := if s3 < 0 then some (.inr (.inr ())) else (p_X5_readableAt M a0 s3 a2).bind fun r22 => if r22 = 0 then some (.inl (w (s3 + (-1)))) else if (rd M r22 3) = a1 then some (.inr (.inl (r22))) else some (.inl (w (s3 + (-1))))
def p_X5_lastReadable (M : Mm) (a0 a1 a2 : Int) : Option Int := (some ((w (a2 - 1)))).bind fun v1 => (lp (b_X5_lastReadable_4 M a0 a2 a1) 1000 v1).bind (Sum.elim some fun (t4 : Unit) => some (0))
set_option maxRecDepth 100000 in
set_option maxHeartbeats 4000000 in
theorem xe_X5_lastReadable {D : Dt} {M : Mm} {a0 a1 a2 : Int} (h0 : a0 ≠ 0) : XE D 0 mu_X5_lastReadable (EP 8 M) 0 [(0, (9, a0)), (1, (0, a1)), (2, (0, a2))] [] M (p_X5_lastReadable M a0 a1 a2) := by
  unfold p_X5_lastReadable
  refine XE.go (st_iload_n (j := 2) (i := 2) (pc' := 1) (by decide +kernel) rfl rfl rfl) ?_
  refine XE.go (st_iconst (n := 1) (pc' := 2) (by decide +kernel) (w_eq (by decide) (by decide)) rfl) ?_
  refine XE.go (st_isub (pc' := 3) (by decide +kernel) rfl) ?_
  refine XE.gen (fun v1 e2 => ?_)
  refine XE.go (st_istore_n (j := 3) (i := 3) (pc' := 4) (by decide +kernel) rfl rfl (by decide) rfl rfl) ?_
  refine XE.pick [1, 2, 3, 0] (L' := [(0, (9, a0)), (1, (0, a1)), (2, (0, a2)), (3, (0, v1))]) rfl ?_
  refine XE.loopX (n := 1000) (s0 := v1) (pcL := 4) (pcE := 39) (LL := fun (s3 : Int) => [(0, (9, a0)), (1, (0, a1)), (2, (0, a2)), (3, (0, s3))]) (sL := fun _ => []) (ML := fun (s3 : Int) => M) (LE := fun (t4 : Unit) => []) (sE := fun _ => []) (ME := fun (t4 : Unit) => M) (fun kk19 hx18 hc16 he17 s3 => ?_) (fun t4 => ?_)
  · unfold b_X5_lastReadable_4
    refine XE.go (st_iload_n (j := 3) (i := 3) (pc' := 5) (by decide +kernel) rfl rfl rfl) ?_
    refine XE.bite (fun h20 => ?_) (fun h21 => ?_)
    · refine XE.go (st_if_lt_t (off := 34) (pc' := 39) (by decide +kernel) (by decide) h20) ?_
      exact XE.pick [] rfl (he17 ())
    · refine XE.go (st_if_lt_f (off := 34) (pc' := 8) (by decide +kernel) 39 (by decide) rfl h21) ?_
      refine XE.go (st_aload_n (j := 0) (i := 0) (pc' := 9) (by decide +kernel) rfl rfl (by decide) rfl) ?_
      refine XE.go (st_iload_n (j := 3) (i := 3) (pc' := 10) (by decide +kernel) rfl rfl rfl) ?_
      refine XE.go (st_iload_n (j := 2) (i := 2) (pc' := 11) (by decide +kernel) rfl rfl rfl) ?_
      refine XE.asc ?_
      refine XE.cP (pc' := 14) (st := []) (fun r hr => ct_X5_readableAt h0 r hr) (fun r hr => run_V (st := []) (by decide +kernel) co_X5_lastReadable_88 (ct_X5_readableAt h0 r hr) rfl h0 rfl rfl (Nat.le_of_ble_eq_true rfl)) rfl rfl (fun r22 => ?_)
      refine XE.go (st_astore (j := 4) (pc' := 16) (by decide +kernel)  (by decide) rfl (by decide) rfl rfl) ?_
      refine XE.go (st_aload (j := 4) (pc' := 18) (by decide +kernel) rfl (by decide) rfl) ?_
      refine XE.bite (fun h23 => ?_) (fun h24 => ?_)
      · refine XE.go (st_ifnull_t (off := 15) (pc' := 33) (by decide +kernel) (by decide) h23 (by decide)) ?_
        refine XE.go (st_iinc (j := 3) (n := (-1)) (pc' := 36) (by decide +kernel) rfl rfl (by decide) rfl rfl) ?_
        refine XE.go (st_goto (off := (-32)) (pc' := 4) (by decide +kernel) (by decide)) ?_
        exact XE.pick [2, 3, 4, 0] rfl (hc16 (w (s3 + (-1))))
      · refine XE.go (st_ifnull_f (off := 15) (pc' := 21) (by decide +kernel) (by decide) h24 rfl) ?_
        refine XE.go (st_aload (j := 4) (pc' := 23) (by decide +kernel) rfl (by decide) rfl) ?_
        refine XE.go (st_get (pc' := 26) (by decide +kernel) rfl cls_4 fld_RX5_92 rfl rfl h24) ?_
        refine XE.go (st_iload_n (j := 1) (i := 1) (pc' := 27) (by decide +kernel) rfl rfl rfl) ?_
        refine XE.bite (fun h25 => ?_) (fun h26 => ?_)
        · refine XE.go (st_icmp_ne_f (off := 6) (pc' := 30) (by decide +kernel) 33 (by decide) rfl (not_not_intro h25)) ?_
          refine XE.go (st_aload (j := 4) (pc' := 32) (by decide +kernel) rfl (by decide) rfl) ?_
          refine XE.cast (hx18 _) ?_
          exact XE.rt rfl (X_aret (by decide +kernel) rfl (Or.inl ⟨_, rfl⟩) (by decide))
        · refine XE.go (st_icmp_ne_t (off := 6) (pc' := 33) (by decide +kernel) (by decide) h26) ?_
          refine XE.go (st_iinc (j := 3) (n := (-1)) (pc' := 36) (by decide +kernel) rfl rfl (by decide) rfl rfl) ?_
          refine XE.go (st_goto (off := (-32)) (pc' := 4) (by decide +kernel) (by decide)) ?_
          exact XE.pick [2, 3, 4, 0] rfl (hc16 (w (s3 + (-1))))
  · refine XE.go (st_null (t := 8) (pc' := 40) (by decide +kernel) (by decide) rfl) ?_
    exact XE.rt rfl (X_aret (by decide +kernel) rfl (Or.inl ⟨_, rfl⟩) (by decide))
theorem ct_X5_lastReadable {D : Dt} {M : Mm} {a0 a1 a2 : Int} (h0 : a0 ≠ 0) (r : Int) (hr : p_X5_lastReadable M a0 a1 a2 = some r) : CT D 0 mu_X5_lastReadable [(9, a0), (0, a1), (0, a2)] M (.inl (some (8, r))) M := CT.of (by decide +kernel) rfl (Nat.le_of_ble_eq_true rfl) (xe_X5_lastReadable h0 r hr)
def p_X10_isCompactedAway (M : Mm) (a0 a1 a2 : Int) : Option Int := gd (a1 ≠ 0) (if (rd M a1 8) = 3 then some (1) else gd ((rd M a1 2) ≠ 0) ((p_X5_lastReadable M (rd M a1 2) (rd M a1 3) a2).bind fun r5 => if r5 = a1 then if (rd M a1 4) = (-1) then if 20 < (w ((rd M a0 15) - (rd M a1 10))) then some (1) else some (0) else some (0) else some (1)))
set_option maxRecDepth 100000 in
set_option maxHeartbeats 4000000 in
theorem xe_X10_isCompactedAway {D : Dt} {M : Mm} {a0 a1 a2 : Int} (h0 : a0 ≠ 0) : XE D 0 mu_X10_isCompactedAway (EP 0 M) 0 [(0, (14, a0)), (1, (8, a1)), (2, (0, a2))] [] M (p_X10_isCompactedAway M a0 a1 a2) := by
  unfold p_X10_isCompactedAway
  refine XE.go (st_aload_n (j := 1) (i := 1) (pc' := 1) (by decide +kernel) rfl rfl (by decide) rfl) ?_
  refine XE.gd_ (fun g1 => ?_)
  refine XE.go (st_get (pc' := 4) (by decide +kernel) rfl cls_4 fld_RX10_141 rfl rfl g1) ?_
  refine XE.go (st_iconst (n := 3) (pc' := 5) (by decide +kernel) (w_eq (by decide) (by decide)) rfl) ?_
  refine XE.ite (fun h2 => ?_) (fun h3 => ?_)
  · refine XE.go (st_icmp_ne_f (off := 5) (pc' := 8) (by decide +kernel) 10 (by decide) rfl (not_not_intro h2)) ?_
    refine XE.go (st_iconst (n := 1) (pc' := 9) (by decide +kernel) (w_eq (by decide) (by decide)) rfl) ?_
    exact XE.rt rfl (X_zret (by decide +kernel) rfl (by decide))
  · refine XE.go (st_icmp_ne_t (off := 5) (pc' := 10) (by decide +kernel) (by decide) h3) ?_
    refine XE.go (st_aload_n (j := 1) (i := 1) (pc' := 11) (by decide +kernel) rfl rfl (by decide) rfl) ?_
    refine XE.go (st_get (pc' := 14) (by decide +kernel) rfl cls_4 fld_RX10_144 rfl rfl g1) ?_
    refine XE.go (st_aload_n (j := 1) (i := 1) (pc' := 15) (by decide +kernel) rfl rfl (by decide) rfl) ?_
    refine XE.go (st_get (pc' := 18) (by decide +kernel) rfl cls_4 fld_RX10_148 rfl rfl g1) ?_
    refine XE.go (st_iload_n (j := 2) (i := 2) (pc' := 19) (by decide +kernel) rfl rfl rfl) ?_
    refine XE.gd_ (fun g4 => ?_)
    refine XE.cP (pc' := 22) (st := []) (fun r hr => ct_X5_lastReadable g4 r hr) (fun r hr => run_V (st := []) (by decide +kernel) co_X10_isCompactedAway_151 (ct_X5_lastReadable g4 r hr) rfl g4 rfl rfl (Nat.le_of_ble_eq_true rfl)) rfl rfl (fun r5 => ?_)
    refine XE.go (st_aload_n (j := 1) (i := 1) (pc' := 23) (by decide +kernel) rfl rfl (by decide) rfl) ?_
    refine XE.ite (fun h6 => ?_) (fun h7 => ?_)
    · refine XE.go (st_acmp_eq_t (off := 5) (pc' := 28) (by decide +kernel) (by decide) (by decide) h6 (by decide)) ?_
      refine XE.go (st_aload_n (j := 1) (i := 1) (pc' := 29) (by decide +kernel) rfl rfl (by decide) rfl) ?_
      refine XE.go (st_get (pc' := 32) (by decide +kernel) rfl cls_4 fld_RX10_155 rfl rfl g1) ?_
      refine XE.go (st_iconst (n := (-1)) (pc' := 33) (by decide +kernel) (w_eq (by decide) (by decide)) rfl) ?_
      refine XE.ite (fun h8 => ?_) (fun h9 => ?_)
      · refine XE.go (st_icmp_ne_f (off := 21) (pc' := 36) (by decide +kernel) 54 (by decide) rfl (not_not_intro h8)) ?_
        refine XE.go (st_aload_n (j := 0) (i := 0) (pc' := 37) (by decide +kernel) rfl rfl (by decide) rfl) ?_
        refine XE.go (st_get (pc' := 40) (by decide +kernel) rfl cls_10 fld_RX10_70 rfl rfl h0) ?_
        refine XE.go (st_aload_n (j := 1) (i := 1) (pc' := 41) (by decide +kernel) rfl rfl (by decide) rfl) ?_
        refine XE.go (st_get (pc' := 44) (by decide +kernel) rfl cls_4 fld_RX10_158 rfl rfl g1) ?_
        refine XE.go (st_isub (pc' := 45) (by decide +kernel) rfl) ?_
        refine XE.go (st_bipush (n := 20) (pc' := 47) (by decide +kernel) (by decide) (w_eq (by decide) (by decide)) rfl) ?_
        refine XE.ite (fun h10 => ?_) (fun h11 => ?_)
        · refine XE.go (st_icmp_le_f (off := 7) (pc' := 50) (by decide +kernel) 54 (by decide) rfl (Int.not_le.mpr h10)) ?_
          refine XE.go (st_iconst (n := 1) (pc' := 51) (by decide +kernel) (w_eq (by decide) (by decide)) rfl) ?_
          refine XE.go (st_goto (off := 4) (pc' := 55) (by decide +kernel) (by decide)) ?_
          exact XE.rt rfl (X_zret (by decide +kernel) rfl (by decide))
        · refine XE.go (st_icmp_le_t (off := 7) (pc' := 54) (by decide +kernel) (by decide) (Int.not_lt.mp h11)) ?_
          refine XE.go (st_iconst (n := 0) (pc' := 55) (by decide +kernel) (w_eq (by decide) (by decide)) rfl) ?_
          exact XE.rt rfl (X_zret (by decide +kernel) rfl (by decide))
      · refine XE.go (st_icmp_ne_t (off := 21) (pc' := 54) (by decide +kernel) (by decide) h9) ?_
        refine XE.go (st_iconst (n := 0) (pc' := 55) (by decide +kernel) (w_eq (by decide) (by decide)) rfl) ?_
        exact XE.rt rfl (X_zret (by decide +kernel) rfl (by decide))
    · refine XE.go (st_acmp_eq_f (off := 5) (pc' := 26) (by decide +kernel) 28 (by decide) (by decide) (by decide) h7 rfl) ?_
      refine XE.go (st_iconst (n := 1) (pc' := 27) (by decide +kernel) (w_eq (by decide) (by decide)) rfl) ?_
      exact XE.rt rfl (X_zret (by decide +kernel) rfl (by decide))
theorem ct_X10_isCompactedAway {D : Dt} {M : Mm} {a0 a1 a2 : Int} (h0 : a0 ≠ 0) (r : Int) (hr : p_X10_isCompactedAway M a0 a1 a2 = some r) : CT D 0 mu_X10_isCompactedAway [(14, a0), (8, a1), (0, a2)] M (.inl (some (0, r))) M := CT.of (by decide +kernel) rfl (Nat.le_of_ble_eq_true rfl) (xe_X10_isCompactedAway h0 r hr)
def b_X10_compact_37 (r7 : Int) (v1 : Int) (a0 : Int) (s8 : Int × Int × Mm) : Option ((Int × Int × Mm) ⊕ (Int × Mm)) := if s8.2.1 < r7 then (p_X5_storedAt s8.2.2 v1 s8.2.1).bind fun r16 => if r16 = 0 then some (.inl (s8.1, (w (s8.2.1 + 1)), s8.2.2)) else (p_X10_isCompactedAway s8.2.2 a0 r16 r7).bind fun r19 => if r19 = 0 then some (.inl (s8.1, (w (s8.2.1 + 1)), s8.2.2)) else (some (wr s8.2.2 r16 7 3)).bind fun M22 => some (.inl ((w (s8.1 + 1)), (w (s8.2.1 + 1)), M22)) else some (.inr (s8.1, s8.2.2))
def p_X10_compact (M : Mm) (a0 a1 : Int) : Option (Int × Int × Mm) := (p_X10_partitionOf M a0 a1).bind (thT psT fun v1 M2 => gd (v1 ≠ 0) (gd ((rd M2 v1 1) ≠ 0) (if (rd M2 (rd M2 v1 1) 3) = 0 then psT 3 0 (thr M2) else (p_X5_stableOffset M2 v1).bind fun r7 => (lp (b_X10_compact_37 r7 v1 a0) 1000 (0, 0, M2)).bind fun (t9 : Int × Mm) => some (0, t9.1, t9.2))))
set_option maxRecDepth 100000 in
set_option maxHeartbeats 4000000 in
theorem xe_X10_compact {D : Dt} {M : Mm} {a0 a1 : Int} (h0 : a0 ≠ 0) : XE D 0 mu_X10_compact (ET 0) 0 [(0, (14, a0)), (1, (0, a1))] [] M (p_X10_compact M a0 a1) := by
  unfold p_X10_compact
  refine XE.go (st_aload_n (j := 0) (i := 0) (pc' := 1) (by decide +kernel) rfl rfl (by decide) rfl) ?_
  refine XE.go (st_iload_n (j := 1) (i := 1) (pc' := 2) (by decide +kernel) rfl rfl rfl) ?_
  refine XE.cTg (pc' := 5) (st := []) hfT (fun r hr => ct_X10_partitionOf h0 r hr) (fun r hr => run_V (st := []) (by decide +kernel) co_X10_compact_116 (ct_X10_partitionOf h0 r hr) rfl h0 rfl rfl (Nat.le_of_ble_eq_true rfl)) rfl rfl rfl (fun v1 M2 => ?_)
  refine XE.go (st_astore_n (j := 2) (i := 2) (pc' := 6) (by decide +kernel) rfl (by decide) rfl (by decide) rfl rfl) ?_
  refine XE.go (st_aload_n (j := 2) (i := 2) (pc' := 7) (by decide +kernel) rfl rfl (by decide) rfl) ?_
  refine XE.gd_ (fun g3 => ?_)
  refine XE.go (st_get (pc' := 10) (by decide +kernel) rfl cls_5 fld_RX10_120 rfl rfl g3) ?_
  refine XE.gd_ (fun g4 => ?_)
  refine XE.go (st_get (pc' := 13) (by decide +kernel) rfl cls_9 fld_RX10_104 rfl rfl g4) ?_
  refine XE.ite (fun h5 => ?_) (fun h6 => ?_)
  · refine XE.go (st_if_ne_f (off := 13) (pc' := 16) (by decide +kernel) 26 (by decide) rfl (not_not_intro h5)) ?_
    exact XE.thrT (by decide +kernel) (by decide +kernel) (by decide +kernel) (by decide +kernel) (by decide +kernel) thr_RX10_124 rfl (by decide) (by decide) (by decide)
  · refine XE.go (st_if_ne_t (off := 13) (pc' := 26) (by decide +kernel) (by decide) h6) ?_
    refine XE.go (st_aload_n (j := 2) (i := 2) (pc' := 27) (by decide +kernel) rfl rfl (by decide) rfl) ?_
    refine XE.cP (pc' := 30) (st := []) (fun r hr => ct_X5_stableOffset g3 r hr) (fun r hr => run_V (st := []) (by decide +kernel) co_X10_compact_126 (ct_X5_stableOffset g3 r hr) rfl g3 rfl rfl (Nat.le_of_ble_eq_true rfl)) rfl rfl (fun r7 => ?_)
    refine XE.go (st_istore_n (j := 3) (i := 3) (pc' := 31) (by decide +kernel) rfl rfl (by decide) rfl rfl) ?_
    refine XE.go (st_iconst (n := 0) (pc' := 32) (by decide +kernel) (w_eq (by decide) (by decide)) rfl) ?_
    refine XE.go (st_istore (j := 4) (pc' := 34) (by decide +kernel)  rfl (by decide) rfl rfl) ?_
    refine XE.go (st_iconst (n := 0) (pc' := 35) (by decide +kernel) (w_eq (by decide) (by decide)) rfl) ?_
    refine XE.go (st_istore (j := 5) (pc' := 37) (by decide +kernel)  rfl (by decide) rfl rfl) ?_
    refine XE.pick [4, 3, 2, 1, 0] (L' := [(0, (14, a0)), (2, (9, v1)), (3, (0, r7)), (4, (0, 0)), (5, (0, 0))]) rfl ?_
    refine XE.loopJ (n := 1000) (s0 := (0, 0, M2)) (pcL := 37) (pcE := 81) (LL := fun (s8 : Int × Int × Mm) => [(0, (14, a0)), (2, (9, v1)), (3, (0, r7)), (4, (0, s8.1)), (5, (0, s8.2.1))]) (sL := fun _ => []) (ML := fun (s8 : Int × Int × Mm) => s8.2.2) (LE := fun (t9 : Int × Mm) => [(4, (0, t9.1))]) (sE := fun _ => []) (ME := fun (t9 : Int × Mm) => t9.2) (fun kk13 hc10 he11 s8 => ?_) (fun t9 => ?_)
    · unfold b_X10_compact_37
      refine XE.go (st_iload (j := 5) (pc' := 39) (by decide +kernel) rfl rfl) ?_
      refine XE.go (st_iload_n (j := 3) (i := 3) (pc' := 40) (by decide +kernel) rfl rfl rfl) ?_
      refine XE.bite (fun h14 => ?_) (fun h15 => ?_)
      · refine XE.go (st_icmp_ge_f (off := 41) (pc' := 43) (by decide +kernel) 81 (by decide) rfl (Int.not_le.mpr h14)) ?_
        refine XE.go (st_aload_n (j := 2) (i := 2) (pc' := 44) (by decide +kernel) rfl rfl (by decide) rfl) ?_
        refine XE.go (st_iload (j := 5) (pc' := 46) (by decide +kernel) rfl rfl) ?_
        refine XE.asc ?_
        refine XE.cP (pc' := 49) (st := []) (fun r hr => ct_X5_storedAt g3 r hr) (fun r hr => run_V (st := []) (by decide +kernel) co_X10_compact_130 (ct_X5_storedAt g3 r hr) rfl g3 rfl rfl (Nat.le_of_ble_eq_true rfl)) rfl rfl (fun r16 => ?_)
        refine XE.go (st_astore (j := 6) (pc' := 51) (by decide +kernel)  (by decide) rfl (by decide) rfl rfl) ?_
        refine XE.go (st_aload (j := 6) (pc' := 53) (by decide +kernel) rfl (by decide) rfl) ?_
        refine XE.bite (fun h17 => ?_) (fun h18 => ?_)
        · refine XE.go (st_ifnull_t (off := 22) (pc' := 75) (by decide +kernel) (by decide) h17 (by decide)) ?_
          refine XE.go (st_iinc (j := 5) (n := 1) (pc' := 78) (by decide +kernel) rfl rfl (by decide) rfl rfl) ?_
          refine XE.go (st_goto (off := (-41)) (pc' := 37) (by decide +kernel) (by decide)) ?_
          exact XE.pick [2, 3, 4, 5, 0] rfl (hc10 (s8.1, (w (s8.2.1 + 1)), s8.2.2))
        · refine XE.go (st_ifnull_f (off := 22) (pc' := 56) (by decide +kernel) (by decide) h18 rfl) ?_
          refine XE.go (st_aload_n (j := 0) (i := 0) (pc' := 57) (by decide +kernel) rfl rfl (by decide) rfl) ?_
          refine XE.go (st_aload (j := 6) (pc' := 59) (by decide +kernel) rfl (by decide) rfl) ?_
          refine XE.go (st_iload_n (j := 3) (i := 3) (pc' := 60) (by decide +kernel) rfl rfl rfl) ?_
          refine XE.asc ?_
          refine XE.cP (pc' := 63) (st := []) (fun r hr => ct_X10_isCompactedAway h0 r hr) (fun r hr => run_V (st := []) (by decide +kernel) co_X10_compact_134 (ct_X10_isCompactedAway h0 r hr) rfl h0 rfl rfl (Nat.le_of_ble_eq_true rfl)) rfl rfl (fun r19 => ?_)
          refine XE.bite (fun h20 => ?_) (fun h21 => ?_)
          · refine XE.go (st_if_eq_t (off := 12) (pc' := 75) (by decide +kernel) (by decide) h20) ?_
            refine XE.go (st_iinc (j := 5) (n := 1) (pc' := 78) (by decide +kernel) rfl rfl (by decide) rfl rfl) ?_
            refine XE.go (st_goto (off := (-41)) (pc' := 37) (by decide +kernel) (by decide)) ?_
            exact XE.pick [2, 3, 4, 5, 0] rfl (hc10 (s8.1, (w (s8.2.1 + 1)), s8.2.2))
          · refine XE.go (st_if_eq_f (off := 12) (pc' := 66) (by decide +kernel) 75 (by decide) rfl h21) ?_
            refine XE.go (st_aload (j := 6) (pc' := 68) (by decide +kernel) rfl (by decide) rfl) ?_
            refine XE.go (st_iconst (n := 3) (pc' := 69) (by decide +kernel) (w_eq (by decide) (by decide)) rfl) ?_
            refine XE.asc ?_
            refine XE.goM (st_put (pc' := 72) (by decide +kernel) rfl cls_4 fld_RX10_138 rfl rfl (fun h => absurd h (by decide)) (fun h => nomatch h) h18) (fun M22 => ?_)
            refine XE.go (st_iinc (j := 4) (n := 1) (pc' := 75) (by decide +kernel) rfl rfl (by decide) rfl rfl) ?_
            refine XE.go (st_iinc (j := 5) (n := 1) (pc' := 78) (by decide +kernel) rfl rfl (by decide) rfl rfl) ?_
            refine XE.go (st_goto (off := (-41)) (pc' := 37) (by decide +kernel) (by decide)) ?_
            exact XE.pick [3, 4, 5, 1, 0] rfl (hc10 ((w (s8.1 + 1)), (w (s8.2.1 + 1)), M22))
      · refine XE.go (st_icmp_ge_t (off := 41) (pc' := 81) (by decide +kernel) (by decide) (Int.not_lt.mp h15)) ?_
        exact XE.pick [3] rfl (he11 (s8.1, s8.2.2))
    · refine XE.go (st_iload (j := 4) (pc' := 83) (by decide +kernel) rfl rfl) ?_
      exact XE.rt rfl (X_iret (by decide +kernel) rfl)
theorem ct_X10_compact {D : Dt} {M : Mm} {a0 a1 : Int} (h0 : a0 ≠ 0) (r : (Int × Int × Mm)) (hr : p_X10_compact M a0 a1 = some r) : CT D 0 mu_X10_compact [(14, a0), (0, a1)] M (ET 0 r).1 (ET 0 r).2 := CT.of (by decide +kernel) rfl (Nat.le_of_ble_eq_true rfl) (xe_X10_compact h0 r hr)
def p_X10_requireBroker (M : Mm) (a0 : Int) : Option (Int × Mm) := if a0 < 0 then psU 1 0 (thr M) else if a0 < 3 then some (0, M) else psU 1 0 (thr M)
set_option maxRecDepth 100000 in
set_option maxHeartbeats 4000000 in
theorem xe_X10_requireBroker {D : Dt} {M : Mm} {a0 : Int} : XE D 0 mu_X10_requireBroker EU 0 [(0, (0, a0))] [] M (p_X10_requireBroker M a0) := by
  unfold p_X10_requireBroker
  refine XE.go (st_iload_n (j := 0) (i := 0) (pc' := 1) (by decide +kernel) rfl rfl rfl) ?_
  refine XE.ite (fun h1 => ?_) (fun h2 => ?_)
  · refine XE.go (st_if_lt_t (off := 8) (pc' := 9) (by decide +kernel) (by decide) h1) ?_
    exact XE.thrUW (by decide +kernel) (by decide +kernel) (by decide +kernel) (by decide +kernel) (by decide +kernel) thr_RX10_625 rfl (by decide) (by decide) (by decide)
  · refine XE.go (st_if_lt_f (off := 8) (pc' := 4) (by decide +kernel) 9 (by decide) rfl h2) ?_
    refine XE.go (st_iload_n (j := 0) (i := 0) (pc' := 5) (by decide +kernel) rfl rfl rfl) ?_
    refine XE.go (st_iconst (n := 3) (pc' := 6) (by decide +kernel) (w_eq (by decide) (by decide)) rfl) ?_
    refine XE.ite (fun h3 => ?_) (fun h4 => ?_)
    · refine XE.go (st_icmp_lt_t (off := 14) (pc' := 20) (by decide +kernel) (by decide) h3) ?_
      exact XE.rt rfl (X_vret (by decide +kernel) rfl)
    · refine XE.go (st_icmp_lt_f (off := 14) (pc' := 9) (by decide +kernel) 20 (by decide) rfl h4) ?_
      exact XE.thrUW (by decide +kernel) (by decide +kernel) (by decide +kernel) (by decide +kernel) (by decide +kernel) thr_RX10_625 rfl (by decide) (by decide) (by decide)
theorem ct_X10_requireBroker {D : Dt} {M : Mm} {a0 : Int} (r : (Int × Mm)) (hr : p_X10_requireBroker M a0 = some r) : CT D 0 mu_X10_requireBroker [(0, a0)] M (EU r).1 (EU r).2 := CT.of (by decide +kernel) rfl (Nat.le_of_ble_eq_true rfl) (xe_X10_requireBroker r hr)
def p_X10_isLive (M : Mm) (a0 a1 : Int) : Option Int := if (ian (rd M a0 13) (shl 1 a1)) = 0 then some (0) else some (1)
set_option maxRecDepth 100000 in
set_option maxHeartbeats 4000000 in
theorem xe_X10_isLive {D : Dt} {M : Mm} {a0 a1 : Int} (h0 : a0 ≠ 0) : XE D 0 mu_X10_isLive (EP 0 M) 0 [(0, (14, a0)), (1, (0, a1))] [] M (p_X10_isLive M a0 a1) := by
  unfold p_X10_isLive
  refine XE.go (st_aload_n (j := 0) (i := 0) (pc' := 1) (by decide +kernel) rfl rfl (by decide) rfl) ?_
  refine XE.go (st_get (pc' := 4) (by decide +kernel) rfl cls_10 fld_RX10_64 rfl rfl h0) ?_
  refine XE.go (st_iconst (n := 1) (pc' := 5) (by decide +kernel) (w_eq (by decide) (by decide)) rfl) ?_
  refine XE.go (st_iload_n (j := 1) (i := 1) (pc' := 6) (by decide +kernel) rfl rfl rfl) ?_
  refine XE.go (st_ishl (pc' := 7) (by decide +kernel) rfl) ?_
  refine XE.go (st_iand (pc' := 8) (by decide +kernel) rfl) ?_
  refine XE.ite (fun h1 => ?_) (fun h2 => ?_)
  · refine XE.go (st_if_eq_t (off := 7) (pc' := 15) (by decide +kernel) (by decide) h1) ?_
    refine XE.go (st_iconst (n := 0) (pc' := 16) (by decide +kernel) (w_eq (by decide) (by decide)) rfl) ?_
    exact XE.rt rfl (X_zret (by decide +kernel) rfl (by decide))
  · refine XE.go (st_if_eq_f (off := 7) (pc' := 11) (by decide +kernel) 15 (by decide) rfl h2) ?_
    refine XE.go (st_iconst (n := 1) (pc' := 12) (by decide +kernel) (w_eq (by decide) (by decide)) rfl) ?_
    refine XE.go (st_goto (off := 4) (pc' := 16) (by decide +kernel) (by decide)) ?_
    exact XE.rt rfl (X_zret (by decide +kernel) rfl (by decide))
theorem ct_X10_isLive {D : Dt} {M : Mm} {a0 a1 : Int} (h0 : a0 ≠ 0) (r : Int) (hr : p_X10_isLive M a0 a1 = some r) : CT D 0 mu_X10_isLive [(14, a0), (0, a1)] M (.inl (some (0, r))) M := CT.of (by decide +kernel) rfl (Nat.le_of_ble_eq_true rfl) (xe_X10_isLive h0 r hr)
def b_X5_replicaOn_11 (v4 : Int) (v1 : Int) (M : Mm) (a1 : Int) (s6 : Int) : Option ((Int) ⊕ ((Int) ⊕ (Unit))) := if s6 < v4 then gd (aok v1 s6) ((some ((rd M v1 s6))).bind fun v28 => if v28 = 0 then some (.inl (w (s6 + 1))) else if (rd M v28 1) = a1 then some (.inr (.inl (v28))) else some (.inl (w (s6 + 1)))) else some (.inr (.inr ()))
def p_X5_replicaOn (M : Mm) (a0 a1 : Int) : Option Int := (some ((rd M a0 2))).bind fun v1 => gd (v1 ≠ 0) ((some ((ln v1))).bind fun v4 => (lp (b_X5_replicaOn_11 v4 v1 M a1) 1000 0).bind (Sum.elim some fun (t7 : Unit) => some (0)))
set_option maxRecDepth 100000 in
set_option maxHeartbeats 4000000 in
theorem xe_X5_replicaOn {D : Dt} {M : Mm} {a0 a1 : Int} (h0 : a0 ≠ 0) : XE D 0 mu_X5_replicaOn (EP 11 M) 0 [(0, (9, a0)), (1, (0, a1))] [] M (p_X5_replicaOn M a0 a1) := by
  unfold p_X5_replicaOn
  refine XE.go (st_aload_n (j := 0) (i := 0) (pc' := 1) (by decide +kernel) rfl rfl (by decide) rfl) ?_
  refine XE.go (st_get (pc' := 4) (by decide +kernel) rfl cls_5 fld_RX5_11 rfl rfl h0) ?_
  refine XE.gen (fun v1 e2 => ?_)
  refine XE.go (st_astore_n (j := 2) (i := 2) (pc' := 5) (by decide +kernel) rfl (by decide) rfl (by decide) rfl rfl) ?_
  refine XE.go (st_aload_n (j := 2) (i := 2) (pc' := 6) (by decide +kernel) rfl rfl (by decide) rfl) ?_
  refine XE.gd_ (fun g3 => ?_)
  refine XE.go (st_alen (k := 23) (pc' := 7) (by decide +kernel) rfl ak_23 rfl (by decide) g3) ?_
  refine XE.gen (fun v4 e5 => ?_)
  refine XE.go (st_istore_n (j := 3) (i := 3) (pc' := 8) (by decide +kernel) rfl rfl (by decide) rfl rfl) ?_
  refine XE.go (st_iconst (n := 0) (pc' := 9) (by decide +kernel) (w_eq (by decide) (by decide)) rfl) ?_
  refine XE.go (st_istore (j := 4) (pc' := 11) (by decide +kernel)  rfl (by decide) rfl rfl) ?_
  refine XE.pick [4, 2, 1, 0] (L' := [(1, (0, a1)), (2, (26, v1)), (3, (0, v4)), (4, (0, 0))]) rfl ?_
  refine XE.loopX (n := 1000) (s0 := 0) (pcL := 11) (pcE := 46) (LL := fun (s6 : Int) => [(1, (0, a1)), (2, (26, v1)), (3, (0, v4)), (4, (0, s6))]) (sL := fun _ => []) (ML := fun (s6 : Int) => M) (LE := fun (t7 : Unit) => []) (sE := fun _ => []) (ME := fun (t7 : Unit) => M) (fun kk24 hx23 hc21 he22 s6 => ?_) (fun t7 => ?_)
  · unfold b_X5_replicaOn_11
    refine XE.go (st_iload (j := 4) (pc' := 13) (by decide +kernel) rfl rfl) ?_
    refine XE.go (st_iload_n (j := 3) (i := 3) (pc' := 14) (by decide +kernel) rfl rfl rfl) ?_
    refine XE.bite (fun h25 => ?_) (fun h26 => ?_)
    · refine XE.go (st_icmp_ge_f (off := 32) (pc' := 17) (by decide +kernel) 46 (by decide) rfl (Int.not_le.mpr h25)) ?_
      refine XE.go (st_aload_n (j := 2) (i := 2) (pc' := 18) (by decide +kernel) rfl rfl (by decide) rfl) ?_
      refine XE.go (st_iload (j := 4) (pc' := 20) (by decide +kernel) rfl rfl) ?_
      refine XE.gdb (fun g27 => ?_)
      refine XE.go (st_ald (k := 23) (tp := 11) (pc' := 21) (by decide +kernel) rfl ak_23 rfl (by decide) rfl (Or.inr (Or.inr (Or.inr ⟨rfl, rfl⟩))) g27.1 g27.2.1 g27.2.2) ?_
      refine XE.asc ?_
      refine XE.gen (fun v28 e29 => ?_)
      refine XE.go (st_astore (j := 5) (pc' := 23) (by decide +kernel)  (by decide) rfl (by decide) rfl rfl) ?_
      refine XE.go (st_aload (j := 5) (pc' := 25) (by decide +kernel) rfl (by decide) rfl) ?_
      refine XE.bite (fun h30 => ?_) (fun h31 => ?_)
      · refine XE.go (st_ifnull_t (off := 15) (pc' := 40) (by decide +kernel) (by decide) h30 (by decide)) ?_
        refine XE.go (st_iinc (j := 4) (n := 1) (pc' := 43) (by decide +kernel) rfl rfl (by decide) rfl rfl) ?_
        refine XE.go (st_goto (off := (-32)) (pc' := 11) (by decide +kernel) (by decide)) ?_
        exact XE.pick [2, 3, 4, 0] rfl (hc21 (w (s6 + 1)))
      · refine XE.go (st_ifnull_f (off := 15) (pc' := 28) (by decide +kernel) (by decide) h31 rfl) ?_
        refine XE.go (st_aload (j := 5) (pc' := 30) (by decide +kernel) rfl (by decide) rfl) ?_
        refine XE.go (st_get (pc' := 33) (by decide +kernel) rfl cls_7 fld_RX5_46 rfl rfl h31) ?_
        refine XE.go (st_iload_n (j := 1) (i := 1) (pc' := 34) (by decide +kernel) rfl rfl rfl) ?_
        refine XE.bite (fun h32 => ?_) (fun h33 => ?_)
        · refine XE.go (st_icmp_ne_f (off := 6) (pc' := 37) (by decide +kernel) 40 (by decide) rfl (not_not_intro h32)) ?_
          refine XE.go (st_aload (j := 5) (pc' := 39) (by decide +kernel) rfl (by decide) rfl) ?_
          refine XE.cast (hx23 _) ?_
          exact XE.rt rfl (X_aret (by decide +kernel) rfl (Or.inl ⟨_, rfl⟩) (by decide))
        · refine XE.go (st_icmp_ne_t (off := 6) (pc' := 40) (by decide +kernel) (by decide) h33) ?_
          refine XE.go (st_iinc (j := 4) (n := 1) (pc' := 43) (by decide +kernel) rfl rfl (by decide) rfl rfl) ?_
          refine XE.go (st_goto (off := (-32)) (pc' := 11) (by decide +kernel) (by decide)) ?_
          exact XE.pick [2, 3, 4, 0] rfl (hc21 (w (s6 + 1)))
    · refine XE.go (st_icmp_ge_t (off := 32) (pc' := 46) (by decide +kernel) (by decide) (Int.not_lt.mp h26)) ?_
      exact XE.pick [] rfl (he22 ())
  · refine XE.go (st_null (t := 11) (pc' := 47) (by decide +kernel) (by decide) rfl) ?_
    exact XE.rt rfl (X_aret (by decide +kernel) rfl (Or.inl ⟨_, rfl⟩) (by decide))
theorem ct_X5_replicaOn {D : Dt} {M : Mm} {a0 a1 : Int} (h0 : a0 ≠ 0) (r : Int) (hr : p_X5_replicaOn M a0 a1 = some r) : CT D 0 mu_X5_replicaOn [(9, a0), (0, a1)] M (.inl (some (11, r))) M := CT.of (by decide +kernel) rfl (Nat.le_of_ble_eq_true rfl) (xe_X5_replicaOn h0 r hr)
def b_X5_firstInSyncBut_11 (v4 : Int) (v1 : Int) (M : Mm) (a1 : Int) (s6 : Int) : Option ((Int) ⊕ ((Int) ⊕ (Unit))) := if s6 < v4 then gd (aok v1 s6) ((some ((rd M v1 s6))).bind fun v30 => if v30 = 0 then some (.inl (w (s6 + 1))) else if v30 = a1 then some (.inl (w (s6 + 1))) else if (rd M v30 4) = 0 then some (.inl (w (s6 + 1))) else some (.inr (.inl (v30)))) else some (.inr (.inr ()))
def p_X5_firstInSyncBut (M : Mm) (a0 a1 : Int) : Option Int := (some ((rd M a0 2))).bind fun v1 => gd (v1 ≠ 0) ((some ((ln v1))).bind fun v4 => (lp (b_X5_firstInSyncBut_11 v4 v1 M a1) 1000 0).bind (Sum.elim some fun (t7 : Unit) => some (0)))
set_option maxRecDepth 100000 in
set_option maxHeartbeats 4000000 in
theorem xe_X5_firstInSyncBut {D : Dt} {M : Mm} {a0 a1 : Int} (h0 : a0 ≠ 0) : XE D 0 mu_X5_firstInSyncBut (EP 11 M) 0 [(0, (9, a0)), (1, (11, a1))] [] M (p_X5_firstInSyncBut M a0 a1) := by
  unfold p_X5_firstInSyncBut
  refine XE.go (st_aload_n (j := 0) (i := 0) (pc' := 1) (by decide +kernel) rfl rfl (by decide) rfl) ?_
  refine XE.go (st_get (pc' := 4) (by decide +kernel) rfl cls_5 fld_RX5_11 rfl rfl h0) ?_
  refine XE.gen (fun v1 e2 => ?_)
  refine XE.go (st_astore_n (j := 2) (i := 2) (pc' := 5) (by decide +kernel) rfl (by decide) rfl (by decide) rfl rfl) ?_
  refine XE.go (st_aload_n (j := 2) (i := 2) (pc' := 6) (by decide +kernel) rfl rfl (by decide) rfl) ?_
  refine XE.gd_ (fun g3 => ?_)
  refine XE.go (st_alen (k := 23) (pc' := 7) (by decide +kernel) rfl ak_23 rfl (by decide) g3) ?_
  refine XE.gen (fun v4 e5 => ?_)
  refine XE.go (st_istore_n (j := 3) (i := 3) (pc' := 8) (by decide +kernel) rfl rfl (by decide) rfl rfl) ?_
  refine XE.go (st_iconst (n := 0) (pc' := 9) (by decide +kernel) (w_eq (by decide) (by decide)) rfl) ?_
  refine XE.go (st_istore (j := 4) (pc' := 11) (by decide +kernel)  rfl (by decide) rfl rfl) ?_
  refine XE.pick [4, 2, 1, 0] (L' := [(1, (11, a1)), (2, (26, v1)), (3, (0, v4)), (4, (0, 0))]) rfl ?_
  refine XE.loopX (n := 1000) (s0 := 0) (pcL := 11) (pcE := 51) (LL := fun (s6 : Int) => [(1, (11, a1)), (2, (26, v1)), (3, (0, v4)), (4, (0, s6))]) (sL := fun _ => []) (ML := fun (s6 : Int) => M) (LE := fun (t7 : Unit) => []) (sE := fun _ => []) (ME := fun (t7 : Unit) => M) (fun kk26 hx25 hc23 he24 s6 => ?_) (fun t7 => ?_)
  · unfold b_X5_firstInSyncBut_11
    refine XE.go (st_iload (j := 4) (pc' := 13) (by decide +kernel) rfl rfl) ?_
    refine XE.go (st_iload_n (j := 3) (i := 3) (pc' := 14) (by decide +kernel) rfl rfl rfl) ?_
    refine XE.bite (fun h27 => ?_) (fun h28 => ?_)
    · refine XE.go (st_icmp_ge_f (off := 37) (pc' := 17) (by decide +kernel) 51 (by decide) rfl (Int.not_le.mpr h27)) ?_
      refine XE.go (st_aload_n (j := 2) (i := 2) (pc' := 18) (by decide +kernel) rfl rfl (by decide) rfl) ?_
      refine XE.go (st_iload (j := 4) (pc' := 20) (by decide +kernel) rfl rfl) ?_
      refine XE.gdb (fun g29 => ?_)
      refine XE.go (st_ald (k := 23) (tp := 11) (pc' := 21) (by decide +kernel) rfl ak_23 rfl (by decide) rfl (Or.inr (Or.inr (Or.inr ⟨rfl, rfl⟩))) g29.1 g29.2.1 g29.2.2) ?_
      refine XE.asc ?_
      refine XE.gen (fun v30 e31 => ?_)
      refine XE.go (st_astore (j := 5) (pc' := 23) (by decide +kernel)  (by decide) rfl (by decide) rfl rfl) ?_
      refine XE.go (st_aload (j := 5) (pc' := 25) (by decide +kernel) rfl (by decide) rfl) ?_
      refine XE.bite (fun h32 => ?_) (fun h33 => ?_)
      · refine XE.go (st_ifnull_t (off := 20) (pc' := 45) (by decide +kernel) (by decide) h32 (by decide)) ?_
        refine XE.go (st_iinc (j := 4) (n := 1) (pc' := 48) (by decide +kernel) rfl rfl (by decide) rfl rfl) ?_
        refine XE.go (st_goto (off := (-37)) (pc' := 11) (by decide +kernel) (by decide)) ?_
        exact XE.pick [2, 3, 4, 0] rfl (hc23 (w (s6 + 1)))
      · refine XE.go (st_ifnull_f (off := 20) (pc' := 28) (by decide +kernel) (by decide) h33 rfl) ?_
        refine XE.go (st_aload (j := 5) (pc' := 30) (by decide +kernel) rfl (by decide) rfl) ?_
        refine XE.go (st_aload_n (j := 1) (i := 1) (pc' := 31) (by decide +kernel) rfl rfl (by decide) rfl) ?_
        refine XE.bite (fun h34 => ?_) (fun h35 => ?_)
        · refine XE.go (st_acmp_eq_t (off := 14) (pc' := 45) (by decide +kernel) (by decide) (by decide) h34 (by decide)) ?_
          refine XE.go (st_iinc (j := 4) (n := 1) (pc' := 48) (by decide +kernel) rfl rfl (by decide) rfl rfl) ?_
          refine XE.go (st_goto (off := (-37)) (pc' := 11) (by decide +kernel) (by decide)) ?_
          exact XE.pick [2, 3, 4, 0] rfl (hc23 (w (s6 + 1)))
        · refine XE.go (st_acmp_eq_f (off := 14) (pc' := 34) (by decide +kernel) 45 (by decide) (by decide) (by decide) h35 rfl) ?_
          refine XE.go (st_aload (j := 5) (pc' := 36) (by decide +kernel) rfl (by decide) rfl) ?_
          refine XE.go (st_get (pc' := 39) (by decide +kernel) rfl cls_7 fld_RX5_49 rfl rfl h33) ?_
          refine XE.bite (fun h36 => ?_) (fun h37 => ?_)
          · refine XE.go (st_if_eq_t (off := 6) (pc' := 45) (by decide +kernel) (by decide) h36) ?_
            refine XE.go (st_iinc (j := 4) (n := 1) (pc' := 48) (by decide +kernel) rfl rfl (by decide) rfl rfl) ?_
            refine XE.go (st_goto (off := (-37)) (pc' := 11) (by decide +kernel) (by decide)) ?_
            exact XE.pick [2, 3, 4, 0] rfl (hc23 (w (s6 + 1)))
          · refine XE.go (st_if_eq_f (off := 6) (pc' := 42) (by decide +kernel) 45 (by decide) rfl h37) ?_
            refine XE.go (st_aload (j := 5) (pc' := 44) (by decide +kernel) rfl (by decide) rfl) ?_
            refine XE.cast (hx25 _) ?_
            exact XE.rt rfl (X_aret (by decide +kernel) rfl (Or.inl ⟨_, rfl⟩) (by decide))
    · refine XE.go (st_icmp_ge_t (off := 37) (pc' := 51) (by decide +kernel) (by decide) (Int.not_lt.mp h28)) ?_
      exact XE.pick [] rfl (he24 ())
  · refine XE.go (st_null (t := 11) (pc' := 52) (by decide +kernel) (by decide) rfl) ?_
    exact XE.rt rfl (X_aret (by decide +kernel) rfl (Or.inl ⟨_, rfl⟩) (by decide))
theorem ct_X5_firstInSyncBut {D : Dt} {M : Mm} {a0 a1 : Int} (h0 : a0 ≠ 0) (r : Int) (hr : p_X5_firstInSyncBut M a0 a1 = some r) : CT D 0 mu_X5_firstInSyncBut [(9, a0), (11, a1)] M (.inl (some (11, r))) M := CT.of (by decide +kernel) rfl (Nat.le_of_ble_eq_true rfl) (xe_X5_firstInSyncBut h0 r hr)
def p_X5_takeAt (M : Mm) (a0 a1 : Int) : Option (Int × Mm) := (p_X5_messageAt M a0 a1).bind fun r1 => if r1 = 0 then some (r1, M) else gd (aok (rd M a0 3) a1) ((some (wr M (rd M a0 3) a1 0)).bind fun M5 => some (r1, M5))
set_option maxRecDepth 100000 in
set_option maxHeartbeats 4000000 in
theorem xe_X5_takeAt {D : Dt} {M : Mm} {a0 a1 : Int} (h0 : a0 ≠ 0) : XE D 0 mu_X5_takeAt (EW 8) 0 [(0, (9, a0)), (1, (0, a1))] [] M (p_X5_takeAt M a0 a1) := by
  unfold p_X5_takeAt
  refine XE.go (st_aload_n (j := 0) (i := 0) (pc' := 1) (by decide +kernel) rfl rfl (by decide) rfl) ?_
  refine XE.go (st_iload_n (j := 1) (i := 1) (pc' := 2) (by decide +kernel) rfl rfl rfl) ?_
  refine XE.cP (pc' := 5) (st := []) (fun r hr => ct_X5_messageAt h0 r hr) (fun r hr => run_V (st := []) (by decide +kernel) co_X5_takeAt_71 (ct_X5_messageAt h0 r hr) rfl h0 rfl rfl (Nat.le_of_ble_eq_true rfl)) rfl rfl (fun r1 => ?_)
  refine XE.go (st_astore_n (j := 2) (i := 2) (pc' := 6) (by decide +kernel) rfl (by decide) rfl (by decide) rfl rfl) ?_
  refine XE.go (st_aload_n (j := 2) (i := 2) (pc' := 7) (by decide +kernel) rfl rfl (by decide) rfl) ?_
  refine XE.ite (fun h2 => ?_) (fun h3 => ?_)
  · refine XE.go (st_ifnull_t (off := 10) (pc' := 17) (by decide +kernel) (by decide) h2 (by decide)) ?_
    refine XE.go (st_aload_n (j := 2) (i := 2) (pc' := 18) (by decide +kernel) rfl rfl (by decide) rfl) ?_
    exact XE.rt rfl (X_aret (by decide +kernel) rfl (Or.inl ⟨_, rfl⟩) (by decide))
  · refine XE.go (st_ifnull_f (off := 10) (pc' := 10) (by decide +kernel) (by decide) h3 rfl) ?_
    refine XE.go (st_aload_n (j := 0) (i := 0) (pc' := 11) (by decide +kernel) rfl rfl (by decide) rfl) ?_
    refine XE.go (st_get (pc' := 14) (by decide +kernel) rfl cls_5 fld_RX5_19 rfl rfl h0) ?_
    refine XE.go (st_iload_n (j := 1) (i := 1) (pc' := 15) (by decide +kernel) rfl rfl rfl) ?_
    refine XE.go (st_null (t := 8) (pc' := 16) (by decide +kernel) (by decide) rfl) ?_
    refine XE.gd_ (fun g4 => ?_)
    refine XE.goM (st_aast (pc' := 17) (by decide +kernel) rfl ak_20 cls_4 rfl rfl rfl g4.1 g4.2.1 g4.2.2) (fun M5 => ?_)
    refine XE.go (st_aload_n (j := 2) (i := 2) (pc' := 18) (by decide +kernel) rfl rfl (by decide) rfl) ?_
    exact XE.rt rfl (X_aret (by decide +kernel) rfl (Or.inl ⟨_, rfl⟩) (by decide))
theorem ct_X5_takeAt {D : Dt} {M : Mm} {a0 a1 : Int} (h0 : a0 ≠ 0) (r : (Int × Mm)) (hr : p_X5_takeAt M a0 a1 = some r) : CT D 0 mu_X5_takeAt [(9, a0), (0, a1)] M (.inl (some (8, r.1))) r.2 := CT.of (by decide +kernel) rfl (Nat.le_of_ble_eq_true rfl) (xe_X5_takeAt h0 r hr)
def b_X10_settle_5 (a0 : Int) (a1 : Int) (a2 : Int) (s1 : Int × Int × Mm) : Option ((Int × Int × Mm) ⊕ (Int × Mm)) := if s1.2.1 < (rd s1.2.2 a0 10) then gd (aok (rd s1.2.2 a0 4) s1.2.1) ((some ((rd s1.2.2 (rd s1.2.2 a0 4) s1.2.1))).bind fun v10 => if v10 = 0 then some (.inl (s1.1, (w (s1.2.1 + 1)), s1.2.2)) else if (rd s1.2.2 v10 6) = a1 then (some (wr s1.2.2 v10 8 a2)).bind fun M16 => some (.inl ((w (s1.1 + 1)), (w (s1.2.1 + 1)), M16)) else some (.inl (s1.1, (w (s1.2.1 + 1)), s1.2.2))) else some (.inr (s1.1, s1.2.2))
def p_X10_settle (M : Mm) (a0 a1 a2 : Int) : Option (Int × Mm) := (lp (b_X10_settle_5 a0 a1 a2) 1000 (0, 0, M)).bind fun (t2 : Int × Mm) => some (t2.1, t2.2)
set_option maxRecDepth 100000 in
set_option maxHeartbeats 4000000 in
theorem xe_X10_settle {D : Dt} {M : Mm} {a0 a1 a2 : Int} (h0 : a0 ≠ 0) : XE D 0 mu_X10_settle (EW 0) 0 [(0, (14, a0)), (1, (0, a1)), (2, (0, a2))] [] M (p_X10_settle M a0 a1 a2) := by
  unfold p_X10_settle
  refine XE.go (st_iconst (n := 0) (pc' := 1) (by decide +kernel) (w_eq (by decide) (by decide)) rfl) ?_
  refine XE.go (st_istore_n (j := 3) (i := 3) (pc' := 2) (by decide +kernel) rfl rfl (by decide) rfl rfl) ?_
  refine XE.go (st_iconst (n := 0) (pc' := 3) (by decide +kernel) (w_eq (by decide) (by decide)) rfl) ?_
  refine XE.go (st_istore (j := 4) (pc' := 5) (by decide +kernel)  rfl (by decide) rfl rfl) ?_
  refine XE.pick [2, 3, 4, 1, 0] (L' := [(0, (14, a0)), (1, (0, a1)), (2, (0, a2)), (3, (0, 0)), (4, (0, 0))]) rfl ?_
  refine XE.loopJ (n := 1000) (s0 := (0, 0, M)) (pcL := 5) (pcE := 52) (LL := fun (s1 : Int × Int × Mm) => [(0, (14, a0)), (1, (0, a1)), (2, (0, a2)), (3, (0, s1.1)), (4, (0, s1.2.1))]) (sL := fun _ => []) (ML := fun (s1 : Int × Int × Mm) => s1.2.2) (LE := fun (t2 : Int × Mm) => [(3, (0, t2.1))]) (sE := fun _ => []) (ME := fun (t2 : Int × Mm) => t2.2) (fun kk6 hc3 he4 s1 => ?_) (fun t2 => ?_)
  · unfold b_X10_settle_5
    refine XE.go (st_iload (j := 4) (pc' := 7) (by decide +kernel) rfl rfl) ?_
    refine XE.go (st_aload_n (j := 0) (i := 0) (pc' := 8) (by decide +kernel) rfl rfl (by decide) rfl) ?_
    refine XE.go (st_get (pc' := 11) (by decide +kernel) rfl cls_10 fld_RX10_55 rfl rfl h0) ?_
    refine XE.bite (fun h7 => ?_) (fun h8 => ?_)
    · refine XE.go (st_icmp_ge_f (off := 41) (pc' := 14) (by decide +kernel) 52 (by decide) rfl (Int.not_le.mpr h7)) ?_
      refine XE.go (st_aload_n (j := 0) (i := 0) (pc' := 15) (by decide +kernel) rfl rfl (by decide) rfl) ?_
      refine XE.go (st_get (pc' := 18) (by decide +kernel) rfl cls_10 fld_RX10_35 rfl rfl h0) ?_
      refine XE.go (st_iload (j := 4) (pc' := 20) (by decide +kernel) rfl rfl) ?_
      refine XE.gdb (fun g9 => ?_)
      refine XE.go (st_ald (k := 20) (tp := 8) (pc' := 21) (by decide +kernel) rfl ak_20 rfl (by decide) rfl (Or.inr (Or.inr (Or.inr ⟨rfl, rfl⟩))) g9.1 g9.2.1 g9.2.2) ?_
      refine XE.asc ?_
      refine XE.gen (fun v10 e11 => ?_)
      refine XE.go (st_astore (j := 5) (pc' := 23) (by decide +kernel)  (by decide) rfl (by decide) rfl rfl) ?_
      refine XE.go (st_aload (j := 5) (pc' := 25) (by decide +kernel) rfl (by decide) rfl) ?_
      refine XE.bite (fun h12 => ?_) (fun h13 => ?_)
      · refine XE.go (st_ifnull_t (off := 21) (pc' := 46) (by decide +kernel) (by decide) h12 (by decide)) ?_
        refine XE.go (st_iinc (j := 4) (n := 1) (pc' := 49) (by decide +kernel) rfl rfl (by decide) rfl rfl) ?_
        refine XE.go (st_goto (off := (-44)) (pc' := 5) (by decide +kernel) (by decide)) ?_
        exact XE.pick [2, 3, 4, 5, 0] rfl (hc3 (s1.1, (w (s1.2.1 + 1)), s1.2.2))
      · refine XE.go (st_ifnull_f (off := 21) (pc' := 28) (by decide +kernel) (by decide) h13 rfl) ?_
        refine XE.go (st_aload (j := 5) (pc' := 30) (by decide +kernel) rfl (by decide) rfl) ?_
        refine XE.go (st_get (pc' := 33) (by decide +kernel) rfl cls_4 fld_RX10_215 rfl rfl h13) ?_
        refine XE.go (st_iload_n (j := 1) (i := 1) (pc' := 34) (by decide +kernel) rfl rfl rfl) ?_
        refine XE.bite (fun h14 => ?_) (fun h15 => ?_)
        · refine XE.go (st_icmp_ne_f (off := 12) (pc' := 37) (by decide +kernel) 46 (by decide) rfl (not_not_intro h14)) ?_
          refine XE.go (st_aload (j := 5) (pc' := 39) (by decide +kernel) rfl (by decide) rfl) ?_
          refine XE.go (st_iload_n (j := 2) (i := 2) (pc' := 40) (by decide +kernel) rfl rfl rfl) ?_
          refine XE.asc ?_
          refine XE.goM (st_put (pc' := 43) (by decide +kernel) rfl cls_4 fld_RX10_141 rfl rfl (fun h => absurd h (by decide)) (fun h => nomatch h) h13) (fun M16 => ?_)
          refine XE.go (st_iinc (j := 3) (n := 1) (pc' := 46) (by decide +kernel) rfl rfl (by decide) rfl rfl) ?_
          refine XE.go (st_iinc (j := 4) (n := 1) (pc' := 49) (by decide +kernel) rfl rfl (by decide) rfl rfl) ?_
          refine XE.go (st_goto (off := (-44)) (pc' := 5) (by decide +kernel) (by decide)) ?_
          exact XE.pick [3, 4, 5, 1, 0] rfl (hc3 ((w (s1.1 + 1)), (w (s1.2.1 + 1)), M16))
        · refine XE.go (st_icmp_ne_t (off := 12) (pc' := 46) (by decide +kernel) (by decide) h15) ?_
          refine XE.go (st_iinc (j := 4) (n := 1) (pc' := 49) (by decide +kernel) rfl rfl (by decide) rfl rfl) ?_
          refine XE.go (st_goto (off := (-44)) (pc' := 5) (by decide +kernel) (by decide)) ?_
          exact XE.pick [2, 3, 4, 5, 0] rfl (hc3 (s1.1, (w (s1.2.1 + 1)), s1.2.2))
    · refine XE.go (st_icmp_ge_t (off := 41) (pc' := 52) (by decide +kernel) (by decide) (Int.not_lt.mp h8)) ?_
      exact XE.pick [3] rfl (he4 (s1.1, s1.2.2))
  · refine XE.go (st_iload_n (j := 3) (i := 3) (pc' := 53) (by decide +kernel) rfl rfl rfl) ?_
    exact XE.rt rfl (X_iret (by decide +kernel) rfl)
theorem ct_X10_settle {D : Dt} {M : Mm} {a0 a1 a2 : Int} (h0 : a0 ≠ 0) (r : (Int × Mm)) (hr : p_X10_settle M a0 a1 a2 = some r) : CT D 0 mu_X10_settle [(14, a0), (0, a1), (0, a2)] M (.inl (some (0, r.1))) r.2 := CT.of (by decide +kernel) rfl (Nat.le_of_ble_eq_true rfl) (xe_X10_settle h0 r hr)
def b_X10_cutFrom_5 (a1 : Int) (a0 : Int) (s1 : Int × Int × Mm) : Option ((Int × Int × Mm) ⊕ (Int × Mm)) := if s1.2.1 < 60 then gd (a1 ≠ 0) ((p_X5_takeAt s1.2.2 a1 s1.2.1).bind fun r10 => if r10.1 = 0 then some (.inl (s1.1, (w (s1.2.1 + 1)), r10.2)) else (some (wr r10.2 r10.1 7 2)).bind fun M13 => (some (wr M13 r10.1 9 (-1))).bind fun M14 => if (rd M14 r10.1 8) = 1 then gd ((rd M14 r10.1 1) ≠ 0) ((some (wr M14 (rd M14 r10.1 1) 4 1)).bind fun M18 => (p_X10_settle M18 a0 (rd M18 r10.1 6) 3).bind fun r19 => some (.inl ((w (s1.1 + 1)), (w (s1.2.1 + 1)), r19.2))) else some (.inl ((w (s1.1 + 1)), (w (s1.2.1 + 1)), M14))) else some (.inr (s1.1, s1.2.2))
def p_X10_cutFrom (M : Mm) (a0 a1 a2 : Int) : Option (Int × Mm) := (lp (b_X10_cutFrom_5 a1 a0) 1000 (0, a2, M)).bind fun (t2 : Int × Mm) => some (t2.1, t2.2)
set_option maxRecDepth 100000 in
set_option maxHeartbeats 4000000 in
theorem xe_X10_cutFrom {D : Dt} {M : Mm} {a0 a1 a2 : Int} (h0 : a0 ≠ 0) : XE D 0 mu_X10_cutFrom (EW 0) 0 [(0, (14, a0)), (1, (9, a1)), (2, (0, a2))] [] M (p_X10_cutFrom M a0 a1 a2) := by
  unfold p_X10_cutFrom
  refine XE.go (st_iconst (n := 0) (pc' := 1) (by decide +kernel) (w_eq (by decide) (by decide)) rfl) ?_
  refine XE.go (st_istore_n (j := 3) (i := 3) (pc' := 2) (by decide +kernel) rfl rfl (by decide) rfl rfl) ?_
  refine XE.go (st_iload_n (j := 2) (i := 2) (pc' := 3) (by decide +kernel) rfl rfl rfl) ?_
  refine XE.go (st_istore (j := 4) (pc' := 5) (by decide +kernel)  rfl (by decide) rfl rfl) ?_
  refine XE.pick [2, 3, 1, 0] (L' := [(0, (14, a0)), (1, (9, a1)), (3, (0, 0)), (4, (0, a2))]) rfl ?_
  refine XE.loopJ (n := 1000) (s0 := (0, a2, M)) (pcL := 5) (pcE := 75) (LL := fun (s1 : Int × Int × Mm) => [(0, (14, a0)), (1, (9, a1)), (3, (0, s1.1)), (4, (0, s1.2.1))]) (sL := fun _ => []) (ML := fun (s1 : Int × Int × Mm) => s1.2.2) (LE := fun (t2 : Int × Mm) => [(3, (0, t2.1))]) (sE := fun _ => []) (ME := fun (t2 : Int × Mm) => t2.2) (fun kk6 hc3 he4 s1 => ?_) (fun t2 => ?_)
  · unfold b_X10_cutFrom_5
    refine XE.go (st_iload (j := 4) (pc' := 7) (by decide +kernel) rfl rfl) ?_
    refine XE.go (st_bipush (n := 60) (pc' := 9) (by decide +kernel) (by decide) (w_eq (by decide) (by decide)) rfl) ?_
    refine XE.bite (fun h7 => ?_) (fun h8 => ?_)
    · refine XE.go (st_icmp_ge_f (off := 66) (pc' := 12) (by decide +kernel) 75 (by decide) rfl (Int.not_le.mpr h7)) ?_
      refine XE.go (st_aload_n (j := 1) (i := 1) (pc' := 13) (by decide +kernel) rfl rfl (by decide) rfl) ?_
      refine XE.go (st_iload (j := 4) (pc' := 15) (by decide +kernel) rfl rfl) ?_
      refine XE.gdb (fun g9 => ?_)
      refine XE.asc ?_
      refine XE.cW (pc' := 18) (st := []) (fun r hr => ct_X5_takeAt g9 r hr) (fun r hr => run_V (st := []) (by decide +kernel) co_X10_cutFrom_202 (ct_X5_takeAt g9 r hr) rfl g9 rfl rfl (Nat.le_of_ble_eq_true rfl)) rfl rfl (fun r10 => ?_)
      refine XE.go (st_astore (j := 5) (pc' := 20) (by decide +kernel)  (by decide) rfl (by decide) rfl rfl) ?_
      refine XE.go (st_aload (j := 5) (pc' := 22) (by decide +kernel) rfl (by decide) rfl) ?_
      refine XE.bite (fun h11 => ?_) (fun h12 => ?_)
      · refine XE.go (st_ifnull_t (off := 47) (pc' := 69) (by decide +kernel) (by decide) h11 (by decide)) ?_
        refine XE.go (st_iinc (j := 4) (n := 1) (pc' := 72) (by decide +kernel) rfl rfl (by decide) rfl rfl) ?_
        refine XE.go (st_goto (off := (-67)) (pc' := 5) (by decide +kernel) (by decide)) ?_
        exact XE.pick [2, 3, 4, 0] rfl (hc3 (s1.1, (w (s1.2.1 + 1)), r10.2))
      · refine XE.go (st_ifnull_f (off := 47) (pc' := 25) (by decide +kernel) (by decide) h12 rfl) ?_
        refine XE.go (st_aload (j := 5) (pc' := 27) (by decide +kernel) rfl (by decide) rfl) ?_
        refine XE.go (st_iconst (n := 2) (pc' := 28) (by decide +kernel) (w_eq (by decide) (by decide)) rfl) ?_
        refine XE.asc ?_
        refine XE.goM (st_put (pc' := 31) (by decide +kernel) rfl cls_4 fld_RX10_138 rfl rfl (fun h => absurd h (by decide)) (fun h => nomatch h) h12) (fun M13 => ?_)
        refine XE.go (st_aload (j := 5) (pc' := 33) (by decide +kernel) rfl (by decide) rfl) ?_
        refine XE.go (st_iconst (n := (-1)) (pc' := 34) (by decide +kernel) (w_eq (by decide) (by decide)) rfl) ?_
        refine XE.asc ?_
        refine XE.goM (st_put (pc' := 37) (by decide +kernel) rfl cls_4 fld_RX10_205 rfl rfl (fun h => absurd h (by decide)) (fun h => nomatch h) h12) (fun M14 => ?_)
        refine XE.go (st_iinc (j := 3) (n := 1) (pc' := 40) (by decide +kernel) rfl rfl (by decide) rfl rfl) ?_
        refine XE.go (st_aload (j := 5) (pc' := 42) (by decide +kernel) rfl (by decide) rfl) ?_
        refine XE.go (st_get (pc' := 45) (by decide +kernel) rfl cls_4 fld_RX10_141 rfl rfl h12) ?_
        refine XE.go (st_iconst (n := 1) (pc' := 46) (by decide +kernel) (w_eq (by decide) (by decide)) rfl) ?_
        refine XE.bite (fun h15 => ?_) (fun h16 => ?_)
        · refine XE.go (st_icmp_ne_f (off := 23) (pc' := 49) (by decide +kernel) 69 (by decide) rfl (not_not_intro h15)) ?_
          refine XE.go (st_aload (j := 5) (pc' := 51) (by decide +kernel) rfl (by decide) rfl) ?_
          refine XE.go (st_get (pc' := 54) (by decide +kernel) rfl cls_4 fld_RX10_208 rfl rfl h12) ?_
          refine XE.go (st_iconst (n := 1) (pc' := 55) (by decide +kernel) (w_eq (by decide) (by decide)) rfl) ?_
          refine XE.gdb (fun g17 => ?_)
          refine XE.asc ?_
          refine XE.goM (st_put (pc' := 58) (by decide +kernel) rfl cls_6 fld_RX10_212 rfl rfl (fun _ => by decide) (fun h => nomatch h) g17) (fun M18 => ?_)
          refine XE.go (st_aload_n (j := 0) (i := 0) (pc' := 59) (by decide +kernel) rfl rfl (by decide) rfl) ?_
          refine XE.go (st_aload (j := 5) (pc' := 61) (by decide +kernel) rfl (by decide) rfl) ?_
          refine XE.go (st_get (pc' := 64) (by decide +kernel) rfl cls_4 fld_RX10_215 rfl rfl h12) ?_
          refine XE.go (st_iconst (n := 3) (pc' := 65) (by decide +kernel) (w_eq (by decide) (by decide)) rfl) ?_
          refine XE.asc ?_
          refine XE.cW (pc' := 68) (st := []) (fun r hr => ct_X10_settle h0 r hr) (fun r hr => run_V (st := []) (by decide +kernel) co_X10_cutFrom_218 (ct_X10_settle h0 r hr) rfl h0 rfl rfl (Nat.le_of_ble_eq_true rfl)) rfl rfl (fun r19 => ?_)
          refine XE.go (st_pop (pc' := 69) (by decide +kernel) rfl rfl) ?_
          refine XE.go (st_iinc (j := 4) (n := 1) (pc' := 72) (by decide +kernel) rfl rfl (by decide) rfl rfl) ?_
          refine XE.go (st_goto (off := (-67)) (pc' := 5) (by decide +kernel) (by decide)) ?_
          exact XE.pick [3, 4, 1, 0] rfl (hc3 ((w (s1.1 + 1)), (w (s1.2.1 + 1)), r19.2))
        · refine XE.go (st_icmp_ne_t (off := 23) (pc' := 69) (by decide +kernel) (by decide) h16) ?_
          refine XE.go (st_iinc (j := 4) (n := 1) (pc' := 72) (by decide +kernel) rfl rfl (by decide) rfl rfl) ?_
          refine XE.go (st_goto (off := (-67)) (pc' := 5) (by decide +kernel) (by decide)) ?_
          exact XE.pick [3, 4, 1, 0] rfl (hc3 ((w (s1.1 + 1)), (w (s1.2.1 + 1)), M14))
    · refine XE.go (st_icmp_ge_t (off := 66) (pc' := 75) (by decide +kernel) (by decide) (Int.not_lt.mp h8)) ?_
      exact XE.pick [2] rfl (he4 (s1.1, s1.2.2))
  · refine XE.go (st_iload_n (j := 3) (i := 3) (pc' := 76) (by decide +kernel) rfl rfl rfl) ?_
    exact XE.rt rfl (X_iret (by decide +kernel) rfl)
theorem ct_X10_cutFrom {D : Dt} {M : Mm} {a0 a1 a2 : Int} (h0 : a0 ≠ 0) (r : (Int × Mm)) (hr : p_X10_cutFrom M a0 a1 a2 = some r) : CT D 0 mu_X10_cutFrom [(14, a0), (9, a1), (0, a2)] M (.inl (some (0, r.1))) r.2 := CT.of (by decide +kernel) rfl (Nat.le_of_ble_eq_true rfl) (xe_X10_cutFrom h0 r hr)
def b_X5_lowerEnds_10 (v4 : Int) (v1 : Int) (a0 : Int) (s6 : Int × Mm) : Option ((Int × Mm) ⊕ (Mm)) := if s6.1 < v4 then gd (aok v1 s6.1) ((some ((rd s6.2 v1 s6.1))).bind fun v15 => if v15 = 0 then some (.inl ((w (s6.1 + 1)), s6.2)) else if (rd s6.2 a0 4) = 0 then some (.inl ((w (s6.1 + 1)), s6.2)) else if (rd s6.2 (rd s6.2 a0 4) 2) < (rd s6.2 v15 2) then (some (wr s6.2 v15 2 (rd s6.2 (rd s6.2 a0 4) 2))).bind fun M23 => some (.inl ((w (s6.1 + 1)), M23)) else some (.inl ((w (s6.1 + 1)), s6.2))) else some (.inr s6.2)
def p_X5_lowerEnds (M : Mm) (a0 : Int) : Option Mm := (some ((rd M a0 2))).bind fun v1 => gd (v1 ≠ 0) ((some ((ln v1))).bind fun v4 => (lp (b_X5_lowerEnds_10 v4 v1 a0) 1000 (0, M)).bind fun (t7 : Mm) => some (t7))
set_option maxRecDepth 100000 in
set_option maxHeartbeats 4000000 in
theorem xe_X5_lowerEnds {D : Dt} {M : Mm} {a0 : Int} (h0 : a0 ≠ 0) : XE D 0 mu_X5_lowerEnds EV 0 [(0, (9, a0))] [] M (p_X5_lowerEnds M a0) := by
  unfold p_X5_lowerEnds
  refine XE.go (st_aload_n (j := 0) (i := 0) (pc' := 1) (by decide +kernel) rfl rfl (by decide) rfl) ?_
  refine XE.go (st_get (pc' := 4) (by decide +kernel) rfl cls_5 fld_RX5_11 rfl rfl h0) ?_
  refine XE.gen (fun v1 e2 => ?_)
  refine XE.go (st_astore_n (j := 1) (i := 1) (pc' := 5) (by decide +kernel) rfl (by decide) rfl (by decide) rfl rfl) ?_
  refine XE.go (st_aload_n (j := 1) (i := 1) (pc' := 6) (by decide +kernel) rfl rfl (by decide) rfl) ?_
  refine XE.gd_ (fun g3 => ?_)
  refine XE.go (st_alen (k := 23) (pc' := 7) (by decide +kernel) rfl ak_23 rfl (by decide) g3) ?_
  refine XE.gen (fun v4 e5 => ?_)
  refine XE.go (st_istore_n (j := 2) (i := 2) (pc' := 8) (by decide +kernel) rfl rfl (by decide) rfl rfl) ?_
  refine XE.go (st_iconst (n := 0) (pc' := 9) (by decide +kernel) (w_eq (by decide) (by decide)) rfl) ?_
  refine XE.go (st_istore_n (j := 3) (i := 3) (pc' := 10) (by decide +kernel) rfl rfl (by decide) rfl rfl) ?_
  refine XE.pick [3, 2, 1, 0] (L' := [(0, (9, a0)), (1, (26, v1)), (2, (0, v4)), (3, (0, 0))]) rfl ?_
  refine XE.loopJ (n := 1000) (s0 := (0, M)) (pcL := 10) (pcE := 65) (LL := fun (s6 : Int × Mm) => [(0, (9, a0)), (1, (26, v1)), (2, (0, v4)), (3, (0, s6.1))]) (sL := fun _ => []) (ML := fun (s6 : Int × Mm) => s6.2) (LE := fun (t7 : Mm) => []) (sE := fun _ => []) (ME := fun (t7 : Mm) => t7) (fun kk11 hc8 he9 s6 => ?_) (fun t7 => ?_)
  · unfold b_X5_lowerEnds_10
    refine XE.go (st_iload_n (j := 3) (i := 3) (pc' := 11) (by decide +kernel) rfl rfl rfl) ?_
    refine XE.go (st_iload_n (j := 2) (i := 2) (pc' := 12) (by decide +kernel) rfl rfl rfl) ?_
    refine XE.bite (fun h12 => ?_) (fun h13 => ?_)
    · refine XE.go (st_icmp_ge_f (off := 53) (pc' := 15) (by decide +kernel) 65 (by decide) rfl (Int.not_le.mpr h12)) ?_
      refine XE.go (st_aload_n (j := 1) (i := 1) (pc' := 16) (by decide +kernel) rfl rfl (by decide) rfl) ?_
      refine XE.go (st_iload_n (j := 3) (i := 3) (pc' := 17) (by decide +kernel) rfl rfl rfl) ?_
      refine XE.gdb (fun g14 => ?_)
      refine XE.go (st_ald (k := 23) (tp := 11) (pc' := 18) (by decide +kernel) rfl ak_23 rfl (by decide) rfl (Or.inr (Or.inr (Or.inr ⟨rfl, rfl⟩))) g14.1 g14.2.1 g14.2.2) ?_
      refine XE.asc ?_
      refine XE.gen (fun v15 e16 => ?_)
      refine XE.go (st_astore (j := 4) (pc' := 20) (by decide +kernel)  (by decide) rfl (by decide) rfl rfl) ?_
      refine XE.go (st_aload (j := 4) (pc' := 22) (by decide +kernel) rfl (by decide) rfl) ?_
      refine XE.bite (fun h17 => ?_) (fun h18 => ?_)
      · refine XE.go (st_ifnull_t (off := 37) (pc' := 59) (by decide +kernel) (by decide) h17 (by decide)) ?_
        refine XE.go (st_iinc (j := 3) (n := 1) (pc' := 62) (by decide +kernel) rfl rfl (by decide) rfl rfl) ?_
        refine XE.go (st_goto (off := (-52)) (pc' := 10) (by decide +kernel) (by decide)) ?_
        exact XE.pick [2, 3, 4, 0] rfl (hc8 ((w (s6.1 + 1)), s6.2))
      · refine XE.go (st_ifnull_f (off := 37) (pc' := 25) (by decide +kernel) (by decide) h18 rfl) ?_
        refine XE.go (st_aload_n (j := 0) (i := 0) (pc' := 26) (by decide +kernel) rfl rfl (by decide) rfl) ?_
        refine XE.go (st_get (pc' := 29) (by decide +kernel) rfl cls_5 fld_RX5_42 rfl rfl h0) ?_
        refine XE.bite (fun h19 => ?_) (fun h20 => ?_)
        · refine XE.go (st_ifnull_t (off := 30) (pc' := 59) (by decide +kernel) (by decide) h19 (by decide)) ?_
          refine XE.go (st_iinc (j := 3) (n := 1) (pc' := 62) (by decide +kernel) rfl rfl (by decide) rfl rfl) ?_
          refine XE.go (st_goto (off := (-52)) (pc' := 10) (by decide +kernel) (by decide)) ?_
          exact XE.pick [2, 3, 4, 0] rfl (hc8 ((w (s6.1 + 1)), s6.2))
        · refine XE.go (st_ifnull_f (off := 30) (pc' := 32) (by decide +kernel) (by decide) h20 rfl) ?_
          refine XE.go (st_aload (j := 4) (pc' := 34) (by decide +kernel) rfl (by decide) rfl) ?_
          refine XE.go (st_get (pc' := 37) (by decide +kernel) rfl cls_7 fld_RX5_53 rfl rfl h18) ?_
          refine XE.go (st_aload_n (j := 0) (i := 0) (pc' := 38) (by decide +kernel) rfl rfl (by decide) rfl) ?_
          refine XE.go (st_get (pc' := 41) (by decide +kernel) rfl cls_5 fld_RX5_42 rfl rfl h0) ?_
          refine XE.go (st_get (pc' := 44) (by decide +kernel) rfl cls_7 fld_RX5_53 rfl rfl h20) ?_
          refine XE.bite (fun h21 => ?_) (fun h22 => ?_)
          · refine XE.go (st_icmp_le_f (off := 15) (pc' := 47) (by decide +kernel) 59 (by decide) rfl (Int.not_le.mpr h21)) ?_
            refine XE.go (st_aload (j := 4) (pc' := 49) (by decide +kernel) rfl (by decide) rfl) ?_
            refine XE.go (st_aload_n (j := 0) (i := 0) (pc' := 50) (by decide +kernel) rfl rfl (by decide) rfl) ?_
            refine XE.go (st_get (pc' := 53) (by decide +kernel) rfl cls_5 fld_RX5_42 rfl rfl h0) ?_
            refine XE.go (st_get (pc' := 56) (by decide +kernel) rfl cls_7 fld_RX5_53 rfl rfl h20) ?_
            refine XE.asc ?_
            refine XE.goM (st_put (pc' := 59) (by decide +kernel) rfl cls_7 fld_RX5_53 rfl rfl (fun h => absurd h (by decide)) (fun h => nomatch h) h18) (fun M23 => ?_)
            refine XE.go (st_iinc (j := 3) (n := 1) (pc' := 62) (by decide +kernel) rfl rfl (by decide) rfl rfl) ?_
            refine XE.go (st_goto (off := (-52)) (pc' := 10) (by decide +kernel) (by decide)) ?_
            exact XE.pick [2, 3, 4, 0] rfl (hc8 ((w (s6.1 + 1)), M23))
          · refine XE.go (st_icmp_le_t (off := 15) (pc' := 59) (by decide +kernel) (by decide) (Int.not_lt.mp h22)) ?_
            refine XE.go (st_iinc (j := 3) (n := 1) (pc' := 62) (by decide +kernel) rfl rfl (by decide) rfl rfl) ?_
            refine XE.go (st_goto (off := (-52)) (pc' := 10) (by decide +kernel) (by decide)) ?_
            exact XE.pick [2, 3, 4, 0] rfl (hc8 ((w (s6.1 + 1)), s6.2))
    · refine XE.go (st_icmp_ge_t (off := 53) (pc' := 65) (by decide +kernel) (by decide) (Int.not_lt.mp h13)) ?_
      exact XE.pick [] rfl (he9 s6.2)
  · exact XE.rt rfl (X_vret (by decide +kernel) rfl)
theorem ct_X5_lowerEnds {D : Dt} {M : Mm} {a0 : Int} (h0 : a0 ≠ 0) (r : Mm) (hr : p_X5_lowerEnds M a0 = some r) : CT D 0 mu_X5_lowerEnds [(9, a0)] M (.inl none) r := CT.of (by decide +kernel) rfl (Nat.le_of_ble_eq_true rfl) (xe_X5_lowerEnds h0 r hr)
def p_X10_loseReplica (M : Mm) (a0 a1 a2 : Int) : Option (Int × Mm) := if a2 = 0 then some (0, M) else gd (a1 ≠ 0) (if (rd M a1 4) = 0 then some (0, M) else if a2 = (rd M a1 4) then (p_X5_firstInSyncBut M a1 a2).bind fun r8 => (some (wr M a1 4 r8)).bind fun M9 => if (rd M9 a1 4) = 0 then some (0, M9) else (some (wr M9 a2 4 0)).bind fun M12 => gd ((rd M12 a1 4) ≠ 0) ((p_X10_cutFrom M12 a0 a1 (rd M12 (rd M12 a1 4) 2)).bind fun r14 => (p_X5_lowerEnds r14.2 a1).bind fun M15 => some (r14.1, M15)) else (some (wr M a2 4 0)).bind fun M16 => some (0, M16))
set_option maxRecDepth 100000 in
set_option maxHeartbeats 4000000 in
theorem xe_X10_loseReplica {D : Dt} {M : Mm} {a0 a1 a2 : Int} (h0 : a0 ≠ 0) : XE D 0 mu_X10_loseReplica (EW 0) 0 [(0, (14, a0)), (1, (9, a1)), (2, (11, a2))] [] M (p_X10_loseReplica M a0 a1 a2) := by
  unfold p_X10_loseReplica
  refine XE.go (st_aload_n (j := 2) (i := 2) (pc' := 1) (by decide +kernel) rfl rfl (by decide) rfl) ?_
  refine XE.ite (fun h1 => ?_) (fun h2 => ?_)
  · refine XE.go (st_ifnull_t (off := 10) (pc' := 11) (by decide +kernel) (by decide) h1 (by decide)) ?_
    refine XE.go (st_iconst (n := 0) (pc' := 12) (by decide +kernel) (w_eq (by decide) (by decide)) rfl) ?_
    exact XE.rt rfl (X_iret (by decide +kernel) rfl)
  · refine XE.go (st_ifnull_f (off := 10) (pc' := 4) (by decide +kernel) (by decide) h2 rfl) ?_
    refine XE.go (st_aload_n (j := 1) (i := 1) (pc' := 5) (by decide +kernel) rfl rfl (by decide) rfl) ?_
    refine XE.gd_ (fun g3 => ?_)
    refine XE.go (st_get (pc' := 8) (by decide +kernel) rfl cls_5 fld_RX10_179 rfl rfl g3) ?_
    refine XE.ite (fun h4 => ?_) (fun h5 => ?_)
    · refine XE.go (st_ifnonnull_f (off := 5) (pc' := 11) (by decide +kernel) (by decide) h4 rfl) ?_
      refine XE.go (st_iconst (n := 0) (pc' := 12) (by decide +kernel) (w_eq (by decide) (by decide)) rfl) ?_
      exact XE.rt rfl (X_iret (by decide +kernel) rfl)
    · refine XE.go (st_ifnonnull_t (off := 5) (pc' := 13) (by decide +kernel) (by decide) h5 (by decide)) ?_
      refine XE.go (st_aload_n (j := 2) (i := 2) (pc' := 14) (by decide +kernel) rfl rfl (by decide) rfl) ?_
      refine XE.go (st_aload_n (j := 1) (i := 1) (pc' := 15) (by decide +kernel) rfl rfl (by decide) rfl) ?_
      refine XE.go (st_get (pc' := 18) (by decide +kernel) rfl cls_5 fld_RX10_179 rfl rfl g3) ?_
      refine XE.ite (fun h6 => ?_) (fun h7 => ?_)
      · refine XE.go (st_acmp_eq_t (off := 10) (pc' := 28) (by decide +kernel) (by decide) (by decide) h6 (by decide)) ?_
        refine XE.go (st_aload_n (j := 1) (i := 1) (pc' := 29) (by decide +kernel) rfl rfl (by decide) rfl) ?_
        refine XE.go (st_aload_n (j := 1) (i := 1) (pc' := 30) (by decide +kernel) rfl rfl (by decide) rfl) ?_
        refine XE.go (st_aload_n (j := 2) (i := 2) (pc' := 31) (by decide +kernel) rfl rfl (by decide) rfl) ?_
        refine XE.cP (pc' := 34) (st := [(9, a1)]) (fun r hr => ct_X5_firstInSyncBut g3 r hr) (fun r hr => run_V (st := [(9, a1)]) (by decide +kernel) co_X10_loseReplica_188 (ct_X5_firstInSyncBut g3 r hr) rfl g3 rfl rfl (Nat.le_of_ble_eq_true rfl)) rfl rfl (fun r8 => ?_)
        refine XE.goM (st_put (pc' := 37) (by decide +kernel) rfl cls_5 fld_RX10_179 rfl rfl (fun h => absurd h (by decide)) (fun h => nomatch h) g3) (fun M9 => ?_)
        refine XE.go (st_aload_n (j := 1) (i := 1) (pc' := 38) (by decide +kernel) rfl rfl (by decide) rfl) ?_
        refine XE.go (st_get (pc' := 41) (by decide +kernel) rfl cls_5 fld_RX10_179 rfl rfl g3) ?_
        refine XE.ite (fun h10 => ?_) (fun h11 => ?_)
        · refine XE.go (st_ifnonnull_f (off := 5) (pc' := 44) (by decide +kernel) (by decide) h10 rfl) ?_
          refine XE.go (st_iconst (n := 0) (pc' := 45) (by decide +kernel) (w_eq (by decide) (by decide)) rfl) ?_
          exact XE.rt rfl (X_iret (by decide +kernel) rfl)
        · refine XE.go (st_ifnonnull_t (off := 5) (pc' := 46) (by decide +kernel) (by decide) h11 (by decide)) ?_
          refine XE.go (st_aload_n (j := 2) (i := 2) (pc' := 47) (by decide +kernel) rfl rfl (by decide) rfl) ?_
          refine XE.go (st_iconst (n := 0) (pc' := 48) (by decide +kernel) (w_eq (by decide) (by decide)) rfl) ?_
          refine XE.goM (st_put (pc' := 51) (by decide +kernel) rfl cls_7 fld_RX10_183 rfl rfl (fun _ => by decide) (fun h => nomatch h) h2) (fun M12 => ?_)
          refine XE.go (st_aload_n (j := 0) (i := 0) (pc' := 52) (by decide +kernel) rfl rfl (by decide) rfl) ?_
          refine XE.go (st_aload_n (j := 1) (i := 1) (pc' := 53) (by decide +kernel) rfl rfl (by decide) rfl) ?_
          refine XE.go (st_aload_n (j := 1) (i := 1) (pc' := 54) (by decide +kernel) rfl rfl (by decide) rfl) ?_
          refine XE.go (st_get (pc' := 57) (by decide +kernel) rfl cls_5 fld_RX10_179 rfl rfl g3) ?_
          refine XE.gd_ (fun g13 => ?_)
          refine XE.go (st_get (pc' := 60) (by decide +kernel) rfl cls_7 fld_RX10_192 rfl rfl g13) ?_
          refine XE.cW (pc' := 63) (st := []) (fun r hr => ct_X10_cutFrom h0 r hr) (fun r hr => run_V (st := []) (by decide +kernel) co_X10_loseReplica_195 (ct_X10_cutFrom h0 r hr) rfl h0 rfl rfl (Nat.le_of_ble_eq_true rfl)) rfl rfl (fun r14 => ?_)
          refine XE.go (st_istore_n (j := 3) (i := 3) (pc' := 64) (by decide +kernel) rfl rfl (by decide) rfl rfl) ?_
          refine XE.go (st_aload_n (j := 1) (i := 1) (pc' := 65) (by decide +kernel) rfl rfl (by decide) rfl) ?_
          refine XE.cV (pc' := 68) (st := []) (fun r hr => ct_X5_lowerEnds g3 r hr) (fun r hr => run_V (st := []) (by decide +kernel) co_X10_loseReplica_199 (ct_X5_lowerEnds g3 r hr) rfl g3 rfl rfl (Nat.le_of_ble_eq_true rfl)) rfl rfl (fun M15 => ?_)
          refine XE.go (st_iload_n (j := 3) (i := 3) (pc' := 69) (by decide +kernel) rfl rfl rfl) ?_
          exact XE.rt rfl (X_iret (by decide +kernel) rfl)
      · refine XE.go (st_acmp_eq_f (off := 10) (pc' := 21) (by decide +kernel) 28 (by decide) (by decide) (by decide) h7 rfl) ?_
        refine XE.go (st_aload_n (j := 2) (i := 2) (pc' := 22) (by decide +kernel) rfl rfl (by decide) rfl) ?_
        refine XE.go (st_iconst (n := 0) (pc' := 23) (by decide +kernel) (w_eq (by decide) (by decide)) rfl) ?_
        refine XE.goM (st_put (pc' := 26) (by decide +kernel) rfl cls_7 fld_RX10_183 rfl rfl (fun _ => by decide) (fun h => nomatch h) h2) (fun M16 => ?_)
        refine XE.go (st_iconst (n := 0) (pc' := 27) (by decide +kernel) (w_eq (by decide) (by decide)) rfl) ?_
        exact XE.rt rfl (X_iret (by decide +kernel) rfl)
theorem ct_X10_loseReplica {D : Dt} {M : Mm} {a0 a1 a2 : Int} (h0 : a0 ≠ 0) (r : (Int × Mm)) (hr : p_X10_loseReplica M a0 a1 a2 = some r) : CT D 0 mu_X10_loseReplica [(14, a0), (9, a1), (11, a2)] M (.inl (some (0, r.1))) r.2 := CT.of (by decide +kernel) rfl (Nat.le_of_ble_eq_true rfl) (xe_X10_loseReplica h0 r hr)
def b_X10_fail_50 (v9 : Int) (v6 : Int) (a1 : Int) (a0 : Int) (s11 : Int × Int × Mm) : Option ((Int × Int × Mm) ⊕ (Int × Mm)) := if s11.2.1 < v9 then gd (aok v6 s11.2.1) ((some ((rd s11.2.2 v6 s11.2.1))).bind fun v20 => if v20 = 0 then some (.inl (s11.1, (w (s11.2.1 + 1)), s11.2.2)) else (p_X5_replicaOn s11.2.2 v20 a1).bind fun r24 => (p_X10_loseReplica s11.2.2 a0 v20 r24).bind fun r25 => (some ((w (s11.1 + r25.1)))).bind fun v26 => some (.inl (v26, (w (s11.2.1 + 1)), r25.2))) else some (.inr (s11.1, s11.2.2))
def p_X10_fail (M : Mm) (a0 a1 : Int) : Option (Int × Int × Mm) := (p_X10_requireBroker M a1).bind (thU psT fun M1 => (p_X10_isLive M1 a0 a1).bind fun r2 => if r2 = 0 then psT 3 0 (thr M1) else (some (wr M1 a0 13 (ian (rd M1 a0 13) (ixr (shl 1 a1) (-1))))).bind fun M5 => (some ((rd M5 a0 1))).bind fun v6 => gd (v6 ≠ 0) ((some ((ln v6))).bind fun v9 => (lp (b_X10_fail_50 v9 v6 a1 a0) 1000 (0, 0, M5)).bind fun (t12 : Int × Mm) => some (0, t12.1, t12.2)))
set_option maxRecDepth 100000 in
set_option maxHeartbeats 4000000 in
theorem xe_X10_fail {D : Dt} {M : Mm} {a0 a1 : Int} (h0 : a0 ≠ 0) : XE D 0 mu_X10_fail (ET 0) 0 [(0, (14, a0)), (1, (0, a1))] [] M (p_X10_fail M a0 a1) := by
  unfold p_X10_fail
  refine XE.go (st_iload_n (j := 1) (i := 1) (pc' := 1) (by decide +kernel) rfl rfl rfl) ?_
  refine XE.cUg (pc' := 4) (st := []) hfT (fun r hr => ct_X10_requireBroker r hr) (fun r hr => run_S (st := []) (by decide +kernel) co_X10_fail_161 (ct_X10_requireBroker r hr) rfl rfl (Nat.le_of_ble_eq_true rfl)) rfl rfl rfl (fun M1 => ?_)
  refine XE.go (st_aload_n (j := 0) (i := 0) (pc' := 5) (by decide +kernel) rfl rfl (by decide) rfl) ?_
  refine XE.go (st_iload_n (j := 1) (i := 1) (pc' := 6) (by decide +kernel) rfl rfl rfl) ?_
  refine XE.cP (pc' := 9) (st := []) (fun r hr => ct_X10_isLive h0 r hr) (fun r hr => run_V (st := []) (by decide +kernel) co_X10_fail_165 (ct_X10_isLive h0 r hr) rfl h0 rfl rfl (Nat.le_of_ble_eq_true rfl)) rfl rfl (fun r2 => ?_)
  refine XE.ite (fun h3 => ?_) (fun h4 => ?_)
  · refine XE.go (st_if_ne_f (off := 13) (pc' := 12) (by decide +kernel) 22 (by decide) rfl (not_not_intro h3)) ?_
    exact XE.thrT (by decide +kernel) (by decide +kernel) (by decide +kernel) (by decide +kernel) (by decide +kernel) thr_RX10_169 rfl (by decide) (by decide) (by decide)
  · refine XE.go (st_if_ne_t (off := 13) (pc' := 22) (by decide +kernel) (by decide) h4) ?_
    refine XE.go (st_aload_n (j := 0) (i := 0) (pc' := 23) (by decide +kernel) rfl rfl (by decide) rfl) ?_
    refine XE.go (st_dup (pc' := 24) (by decide +kernel) rfl rfl) ?_
    refine XE.go (st_get (pc' := 27) (by decide +kernel) rfl cls_10 fld_RX10_64 rfl rfl h0) ?_
    refine XE.go (st_iconst (n := 1) (pc' := 28) (by decide +kernel) (w_eq (by decide) (by decide)) rfl) ?_
    refine XE.go (st_iload_n (j := 1) (i := 1) (pc' := 29) (by decide +kernel) rfl rfl rfl) ?_
    refine XE.go (st_ishl (pc' := 30) (by decide +kernel) rfl) ?_
    refine XE.go (st_iconst (n := (-1)) (pc' := 31) (by decide +kernel) (w_eq (by decide) (by decide)) rfl) ?_
    refine XE.go (st_ixor (pc' := 32) (by decide +kernel) rfl) ?_
    refine XE.go (st_iand (pc' := 33) (by decide +kernel) rfl) ?_
    refine XE.goM (st_put (pc' := 36) (by decide +kernel) rfl cls_10 fld_RX10_64 rfl rfl (fun h => absurd h (by decide)) (fun h => nomatch h) h0) (fun M5 => ?_)
    refine XE.go (st_iconst (n := 0) (pc' := 37) (by decide +kernel) (w_eq (by decide) (by decide)) rfl) ?_
    refine XE.go (st_istore_n (j := 2) (i := 2) (pc' := 38) (by decide +kernel) rfl rfl (by decide) rfl rfl) ?_
    refine XE.go (st_aload_n (j := 0) (i := 0) (pc' := 39) (by decide +kernel) rfl rfl (by decide) rfl) ?_
    refine XE.go (st_get (pc' := 42) (by decide +kernel) rfl cls_10 fld_RX10_17 rfl rfl h0) ?_
    refine XE.gen (fun v6 e7 => ?_)
    refine XE.go (st_astore_n (j := 3) (i := 3) (pc' := 43) (by decide +kernel) rfl (by decide) rfl (by decide) rfl rfl) ?_
    refine XE.go (st_aload_n (j := 3) (i := 3) (pc' := 44) (by decide +kernel) rfl rfl (by decide) rfl) ?_
    refine XE.gd_ (fun g8 => ?_)
    refine XE.go (st_alen (k := 21) (pc' := 45) (by decide +kernel) rfl ak_21 rfl (by decide) g8) ?_
    refine XE.gen (fun v9 e10 => ?_)
    refine XE.go (st_istore (j := 4) (pc' := 47) (by decide +kernel)  rfl (by decide) rfl rfl) ?_
    refine XE.go (st_iconst (n := 0) (pc' := 48) (by decide +kernel) (w_eq (by decide) (by decide)) rfl) ?_
    refine XE.go (st_istore (j := 5) (pc' := 50) (by decide +kernel)  rfl (by decide) rfl rfl) ?_
    refine XE.pick [4, 5, 3, 2, 1, 0] (L' := [(0, (14, a0)), (1, (0, a1)), (2, (0, 0)), (3, (24, v6)), (4, (0, v9)), (5, (0, 0))]) rfl ?_
    refine XE.loopJ (n := 1000) (s0 := (0, 0, M5)) (pcL := 50) (pcE := 89) (LL := fun (s11 : Int × Int × Mm) => [(0, (14, a0)), (1, (0, a1)), (2, (0, s11.1)), (3, (24, v6)), (4, (0, v9)), (5, (0, s11.2.1))]) (sL := fun _ => []) (ML := fun (s11 : Int × Int × Mm) => s11.2.2) (LE := fun (t12 : Int × Mm) => [(2, (0, t12.1))]) (sE := fun _ => []) (ME := fun (t12 : Int × Mm) => t12.2) (fun kk16 hc13 he14 s11 => ?_) (fun t12 => ?_)
    · unfold b_X10_fail_50
      refine XE.go (st_iload (j := 5) (pc' := 52) (by decide +kernel) rfl rfl) ?_
      refine XE.go (st_iload (j := 4) (pc' := 54) (by decide +kernel) rfl rfl) ?_
      refine XE.bite (fun h17 => ?_) (fun h18 => ?_)
      · refine XE.go (st_icmp_ge_f (off := 35) (pc' := 57) (by decide +kernel) 89 (by decide) rfl (Int.not_le.mpr h17)) ?_
        refine XE.go (st_aload_n (j := 3) (i := 3) (pc' := 58) (by decide +kernel) rfl rfl (by decide) rfl) ?_
        refine XE.go (st_iload (j := 5) (pc' := 60) (by decide +kernel) rfl rfl) ?_
        refine XE.gdb (fun g19 => ?_)
        refine XE.go (st_ald (k := 21) (tp := 9) (pc' := 61) (by decide +kernel) rfl ak_21 rfl (by decide) rfl (Or.inr (Or.inr (Or.inr ⟨rfl, rfl⟩))) g19.1 g19.2.1 g19.2.2) ?_
        refine XE.asc ?_
        refine XE.gen (fun v20 e21 => ?_)
        refine XE.go (st_astore (j := 6) (pc' := 63) (by decide +kernel)  (by decide) rfl (by decide) rfl rfl) ?_
        refine XE.go (st_aload (j := 6) (pc' := 65) (by decide +kernel) rfl (by decide) rfl) ?_
        refine XE.bite (fun h22 => ?_) (fun h23 => ?_)
        · refine XE.go (st_ifnull_t (off := 18) (pc' := 83) (by decide +kernel) (by decide) h22 (by decide)) ?_
          refine XE.go (st_iinc (j := 5) (n := 1) (pc' := 86) (by decide +kernel) rfl rfl (by decide) rfl rfl) ?_
          refine XE.go (st_goto (off := (-36)) (pc' := 50) (by decide +kernel) (by decide)) ?_
          exact XE.pick [2, 3, 4, 5, 6, 0] rfl (hc13 (s11.1, (w (s11.2.1 + 1)), s11.2.2))
        · refine XE.go (st_ifnull_f (off := 18) (pc' := 68) (by decide +kernel) (by decide) h23 rfl) ?_
          refine XE.go (st_iload_n (j := 2) (i := 2) (pc' := 69) (by decide +kernel) rfl rfl rfl) ?_
          refine XE.go (st_aload_n (j := 0) (i := 0) (pc' := 70) (by decide +kernel) rfl rfl (by decide) rfl) ?_
          refine XE.go (st_aload (j := 6) (pc' := 72) (by decide +kernel) rfl (by decide) rfl) ?_
          refine XE.go (st_aload (j := 6) (pc' := 74) (by decide +kernel) rfl (by decide) rfl) ?_
          refine XE.go (st_iload_n (j := 1) (i := 1) (pc' := 75) (by decide +kernel) rfl rfl rfl) ?_
          refine XE.asc ?_
          refine XE.cP (pc' := 78) (st := [(9, v20), (14, a0), (0, s11.1)]) (fun r hr => ct_X5_replicaOn h23 r hr) (fun r hr => run_V (st := [(9, v20), (14, a0), (0, s11.1)]) (by decide +kernel) co_X10_fail_171 (ct_X5_replicaOn h23 r hr) rfl h23 rfl rfl (Nat.le_of_ble_eq_true rfl)) rfl rfl (fun r24 => ?_)
          refine XE.asc ?_
          refine XE.cW (pc' := 81) (st := [(0, s11.1)]) (fun r hr => ct_X10_loseReplica h0 r hr) (fun r hr => run_V (st := [(0, s11.1)]) (by decide +kernel) co_X10_fail_175 (ct_X10_loseReplica h0 r hr) rfl h0 rfl rfl (Nat.le_of_ble_eq_true rfl)) rfl rfl (fun r25 => ?_)
          refine XE.go (st_iadd (pc' := 82) (by decide +kernel) rfl) ?_
          refine XE.asc ?_
          refine XE.gen (fun v26 e27 => ?_)
          refine XE.go (st_istore_n (j := 2) (i := 2) (pc' := 83) (by decide +kernel) rfl rfl (by decide) rfl rfl) ?_
          refine XE.go (st_iinc (j := 5) (n := 1) (pc' := 86) (by decide +kernel) rfl rfl (by decide) rfl rfl) ?_
          refine XE.go (st_goto (off := (-36)) (pc' := 50) (by decide +kernel) (by decide)) ?_
          exact XE.pick [3, 4, 1, 5, 6, 0] rfl (hc13 (v26, (w (s11.2.1 + 1)), r25.2))
      · refine XE.go (st_icmp_ge_t (off := 35) (pc' := 89) (by decide +kernel) (by decide) (Int.not_lt.mp h18)) ?_
        exact XE.pick [2] rfl (he14 (s11.1, s11.2.2))
    · refine XE.go (st_iload_n (j := 2) (i := 2) (pc' := 90) (by decide +kernel) rfl rfl rfl) ?_
      exact XE.rt rfl (X_iret (by decide +kernel) rfl)
theorem ct_X10_fail {D : Dt} {M : Mm} {a0 a1 : Int} (h0 : a0 ≠ 0) (r : (Int × Int × Mm)) (hr : p_X10_fail M a0 a1 = some r) : CT D 0 mu_X10_fail [(14, a0), (0, a1)] M (ET 0 r).1 (ET 0 r).2 := CT.of (by decide +kernel) rfl (Nat.le_of_ble_eq_true rfl) (xe_X10_fail h0 r hr)
def b_X10_restore_48 (v9 : Int) (v6 : Int) (a1 : Int) (s11 : Int × Int × Mm) : Option ((Int × Int × Mm) ⊕ (Int × Mm)) := if s11.2.1 < v9 then gd (aok v6 s11.2.1) ((some ((rd s11.2.2 v6 s11.2.1))).bind fun v20 => (if v20 = 0 then some (0) else (p_X5_replicaOn s11.2.2 v20 a1).bind fun r28 => some (r28) : Option (Int)).bind fun (s22 : Int) => if s22 = 0 then some (.inl (s11.1, (w (s11.2.1 + 1)), s11.2.2)) else gd (v20 ≠ 0) (if (rd s11.2.2 v20 4) = 0 then if (rd s11.2.2 s22 4) = 0 then some (.inl (s11.1, (w (s11.2.1 + 1)), s11.2.2)) else (some (wr s11.2.2 v20 4 s22)).bind fun M36 => some (.inl ((w (s11.1 + 1)), (w (s11.2.1 + 1)), M36)) else some (.inl (s11.1, (w (s11.2.1 + 1)), s11.2.2)))) else some (.inr (s11.1, s11.2.2))
def p_X10_restore (M : Mm) (a0 a1 : Int) : Option (Int × Int × Mm) := (p_X10_requireBroker M a1).bind (thU psT fun M1 => (p_X10_isLive M1 a0 a1).bind fun r2 => if r2 = 0 then (some (wr M1 a0 13 (ior (rd M1 a0 13) (shl 1 a1)))).bind fun M5 => (some ((rd M5 a0 1))).bind fun v6 => gd (v6 ≠ 0) ((some ((ln v6))).bind fun v9 => (lp (b_X10_restore_48 v9 v6 a1) 1000 (0, 0, M5)).bind fun (t12 : Int × Mm) => some (0, t12.1, t12.2)) else psT 3 0 (thr M1))
set_option maxRecDepth 100000 in
set_option maxHeartbeats 4000000 in
theorem xe_X10_restore {D : Dt} {M : Mm} {a0 a1 : Int} (h0 : a0 ≠ 0) : XE D 0 mu_X10_restore (ET 0) 0 [(0, (14, a0)), (1, (0, a1))] [] M (p_X10_restore M a0 a1) := by
  unfold p_X10_restore
  refine XE.go (st_iload_n (j := 1) (i := 1) (pc' := 1) (by decide +kernel) rfl rfl rfl) ?_
  refine XE.cUg (pc' := 4) (st := []) hfT (fun r hr => ct_X10_requireBroker r hr) (fun r hr => run_S (st := []) (by decide +kernel) co_X10_restore_161 (ct_X10_requireBroker r hr) rfl rfl (Nat.le_of_ble_eq_true rfl)) rfl rfl rfl (fun M1 => ?_)
  refine XE.go (st_aload_n (j := 0) (i := 0) (pc' := 5) (by decide +kernel) rfl rfl (by decide) rfl) ?_
  refine XE.go (st_iload_n (j := 1) (i := 1) (pc' := 6) (by decide +kernel) rfl rfl rfl) ?_
  refine XE.cP (pc' := 9) (st := []) (fun r hr => ct_X10_isLive h0 r hr) (fun r hr => run_V (st := []) (by decide +kernel) co_X10_restore_165 (ct_X10_isLive h0 r hr) rfl h0 rfl rfl (Nat.le_of_ble_eq_true rfl)) rfl rfl (fun r2 => ?_)
  refine XE.ite (fun h3 => ?_) (fun h4 => ?_)
  · refine XE.go (st_if_eq_t (off := 13) (pc' := 22) (by decide +kernel) (by decide) h3) ?_
    refine XE.go (st_aload_n (j := 0) (i := 0) (pc' := 23) (by decide +kernel) rfl rfl (by decide) rfl) ?_
    refine XE.go (st_dup (pc' := 24) (by decide +kernel) rfl rfl) ?_
    refine XE.go (st_get (pc' := 27) (by decide +kernel) rfl cls_10 fld_RX10_64 rfl rfl h0) ?_
    refine XE.go (st_iconst (n := 1) (pc' := 28) (by decide +kernel) (w_eq (by decide) (by decide)) rfl) ?_
    refine XE.go (st_iload_n (j := 1) (i := 1) (pc' := 29) (by decide +kernel) rfl rfl rfl) ?_
    refine XE.go (st_ishl (pc' := 30) (by decide +kernel) rfl) ?_
    refine XE.go (st_ior (pc' := 31) (by decide +kernel) rfl) ?_
    refine XE.goM (st_put (pc' := 34) (by decide +kernel) rfl cls_10 fld_RX10_64 rfl rfl (fun h => absurd h (by decide)) (fun h => nomatch h) h0) (fun M5 => ?_)
    refine XE.go (st_iconst (n := 0) (pc' := 35) (by decide +kernel) (w_eq (by decide) (by decide)) rfl) ?_
    refine XE.go (st_istore_n (j := 2) (i := 2) (pc' := 36) (by decide +kernel) rfl rfl (by decide) rfl rfl) ?_
    refine XE.go (st_aload_n (j := 0) (i := 0) (pc' := 37) (by decide +kernel) rfl rfl (by decide) rfl) ?_
    refine XE.go (st_get (pc' := 40) (by decide +kernel) rfl cls_10 fld_RX10_17 rfl rfl h0) ?_
    refine XE.gen (fun v6 e7 => ?_)
    refine XE.go (st_astore_n (j := 3) (i := 3) (pc' := 41) (by decide +kernel) rfl (by decide) rfl (by decide) rfl rfl) ?_
    refine XE.go (st_aload_n (j := 3) (i := 3) (pc' := 42) (by decide +kernel) rfl rfl (by decide) rfl) ?_
    refine XE.gd_ (fun g8 => ?_)
    refine XE.go (st_alen (k := 21) (pc' := 43) (by decide +kernel) rfl ak_21 rfl (by decide) g8) ?_
    refine XE.gen (fun v9 e10 => ?_)
    refine XE.go (st_istore (j := 4) (pc' := 45) (by decide +kernel)  rfl (by decide) rfl rfl) ?_
    refine XE.go (st_iconst (n := 0) (pc' := 46) (by decide +kernel) (w_eq (by decide) (by decide)) rfl) ?_
    refine XE.go (st_istore (j := 5) (pc' := 48) (by decide +kernel)  rfl (by decide) rfl rfl) ?_
    refine XE.pick [5, 3, 2, 1, 0] (L' := [(1, (0, a1)), (2, (0, 0)), (3, (24, v6)), (4, (0, v9)), (5, (0, 0))]) rfl ?_
    refine XE.loopJ (n := 1000) (s0 := (0, 0, M5)) (pcL := 48) (pcE := 115) (LL := fun (s11 : Int × Int × Mm) => [(1, (0, a1)), (2, (0, s11.1)), (3, (24, v6)), (4, (0, v9)), (5, (0, s11.2.1))]) (sL := fun _ => []) (ML := fun (s11 : Int × Int × Mm) => s11.2.2) (LE := fun (t12 : Int × Mm) => [(2, (0, t12.1))]) (sE := fun _ => []) (ME := fun (t12 : Int × Mm) => t12.2) (fun kk16 hc13 he14 s11 => ?_) (fun t12 => ?_)
    · unfold b_X10_restore_48
      refine XE.go (st_iload (j := 5) (pc' := 50) (by decide +kernel) rfl rfl) ?_
      refine XE.go (st_iload (j := 4) (pc' := 52) (by decide +kernel) rfl rfl) ?_
      refine XE.bite (fun h17 => ?_) (fun h18 => ?_)
      · refine XE.go (st_icmp_ge_f (off := 63) (pc' := 55) (by decide +kernel) 115 (by decide) rfl (Int.not_le.mpr h17)) ?_
        refine XE.go (st_aload_n (j := 3) (i := 3) (pc' := 56) (by decide +kernel) rfl rfl (by decide) rfl) ?_
        refine XE.go (st_iload (j := 5) (pc' := 58) (by decide +kernel) rfl rfl) ?_
        refine XE.gdb (fun g19 => ?_)
        refine XE.go (st_ald (k := 21) (tp := 9) (pc' := 59) (by decide +kernel) rfl ak_21 rfl (by decide) rfl (Or.inr (Or.inr (Or.inr ⟨rfl, rfl⟩))) g19.1 g19.2.1 g19.2.2) ?_
        refine XE.asc ?_
        refine XE.gen (fun v20 e21 => ?_)
        refine XE.go (st_astore (j := 6) (pc' := 61) (by decide +kernel)  (by decide) rfl (by decide) rfl rfl) ?_
        refine XE.go (st_aload (j := 6) (pc' := 63) (by decide +kernel) rfl (by decide) rfl) ?_
        refine XE.asc ?_
        refine XE.join (pcJ := 76) (LJ := fun (s22 : Int) => [(1, (0, a1)), (2, (0, s11.1)), (3, (24, v6)), (4, (0, v9)), (5, (0, s11.2.1)), (6, (9, v20))]) (sJ := fun (s22 : Int) => [(11, s22)]) (MJ := fun (s22 : Int) => s11.2.2) (fun kk25 hk23 => ?_) (fun s22 => ?_)
        · refine XE.bite (fun h26 => ?_) (fun h27 => ?_)
          · refine XE.go (st_ifnonnull_f (off := 7) (pc' := 66) (by decide +kernel) (by decide) h26 rfl) ?_
            refine XE.go (st_null (t := 11) (pc' := 67) (by decide +kernel) (by decide) rfl) ?_
            refine XE.go (st_goto (off := 9) (pc' := 76) (by decide +kernel) (by decide)) ?_
            exact XE.pick [1, 2, 3, 4, 5, 0] rfl (hk23 0)
          · refine XE.go (st_ifnonnull_t (off := 7) (pc' := 70) (by decide +kernel) (by decide) h27 (by decide)) ?_
            refine XE.go (st_aload (j := 6) (pc' := 72) (by decide +kernel) rfl (by decide) rfl) ?_
            refine XE.go (st_iload_n (j := 1) (i := 1) (pc' := 73) (by decide +kernel) rfl rfl rfl) ?_
            refine XE.asc ?_
            refine XE.cP (pc' := 76) (st := []) (fun r hr => ct_X5_replicaOn h27 r hr) (fun r hr => run_V (st := []) (by decide +kernel) co_X10_restore_171 (ct_X5_replicaOn h27 r hr) rfl h27 rfl rfl (Nat.le_of_ble_eq_true rfl)) rfl rfl (fun r28 => ?_)
            exact XE.pick [1, 2, 3, 4, 5, 0] rfl (hk23 r28)
        · refine XE.go (st_astore (j := 7) (pc' := 78) (by decide +kernel)  (by decide) rfl (by decide) rfl rfl) ?_
          refine XE.go (st_aload (j := 7) (pc' := 80) (by decide +kernel) rfl (by decide) rfl) ?_
          refine XE.bite (fun h29 => ?_) (fun h30 => ?_)
          · refine XE.go (st_ifnull_t (off := 29) (pc' := 109) (by decide +kernel) (by decide) h29 (by decide)) ?_
            refine XE.go (st_iinc (j := 5) (n := 1) (pc' := 112) (by decide +kernel) rfl rfl (by decide) rfl rfl) ?_
            refine XE.go (st_goto (off := (-64)) (pc' := 48) (by decide +kernel) (by decide)) ?_
            exact XE.pick [2, 3, 4, 5, 0] rfl (hc13 (s11.1, (w (s11.2.1 + 1)), s11.2.2))
          · refine XE.go (st_ifnull_f (off := 29) (pc' := 83) (by decide +kernel) (by decide) h30 rfl) ?_
            refine XE.go (st_aload (j := 6) (pc' := 85) (by decide +kernel) rfl (by decide) rfl) ?_
            refine XE.gdb (fun g31 => ?_)
            refine XE.go (st_get (pc' := 88) (by decide +kernel) rfl cls_5 fld_RX10_179 rfl rfl g31) ?_
            refine XE.bite (fun h32 => ?_) (fun h33 => ?_)
            · refine XE.go (st_ifnonnull_f (off := 21) (pc' := 91) (by decide +kernel) (by decide) h32 rfl) ?_
              refine XE.go (st_aload (j := 7) (pc' := 93) (by decide +kernel) rfl (by decide) rfl) ?_
              refine XE.go (st_get (pc' := 96) (by decide +kernel) rfl cls_7 fld_RX10_183 rfl rfl h30) ?_
              refine XE.bite (fun h34 => ?_) (fun h35 => ?_)
              · refine XE.go (st_if_eq_t (off := 13) (pc' := 109) (by decide +kernel) (by decide) h34) ?_
                refine XE.go (st_iinc (j := 5) (n := 1) (pc' := 112) (by decide +kernel) rfl rfl (by decide) rfl rfl) ?_
                refine XE.go (st_goto (off := (-64)) (pc' := 48) (by decide +kernel) (by decide)) ?_
                exact XE.pick [2, 3, 4, 5, 0] rfl (hc13 (s11.1, (w (s11.2.1 + 1)), s11.2.2))
              · refine XE.go (st_if_eq_f (off := 13) (pc' := 99) (by decide +kernel) 109 (by decide) rfl h35) ?_
                refine XE.go (st_aload (j := 6) (pc' := 101) (by decide +kernel) rfl (by decide) rfl) ?_
                refine XE.go (st_aload (j := 7) (pc' := 103) (by decide +kernel) rfl (by decide) rfl) ?_
                refine XE.asc ?_
                refine XE.goM (st_put (pc' := 106) (by decide +kernel) rfl cls_5 fld_RX10_179 rfl rfl (fun h => absurd h (by decide)) (fun h => nomatch h) g31) (fun M36 => ?_)
                refine XE.go (st_iinc (j := 2) (n := 1) (pc' := 109) (by decide +kernel) rfl rfl (by decide) rfl rfl) ?_
                refine XE.go (st_iinc (j := 5) (n := 1) (pc' := 112) (by decide +kernel) rfl rfl (by decide) rfl rfl) ?_
                refine XE.go (st_goto (off := (-64)) (pc' := 48) (by decide +kernel) (by decide)) ?_
                exact XE.pick [3, 1, 4, 5, 0] rfl (hc13 ((w (s11.1 + 1)), (w (s11.2.1 + 1)), M36))
            · refine XE.go (st_ifnonnull_t (off := 21) (pc' := 109) (by decide +kernel) (by decide) h33 (by decide)) ?_
              refine XE.go (st_iinc (j := 5) (n := 1) (pc' := 112) (by decide +kernel) rfl rfl (by decide) rfl rfl) ?_
              refine XE.go (st_goto (off := (-64)) (pc' := 48) (by decide +kernel) (by decide)) ?_
              exact XE.pick [2, 3, 4, 5, 0] rfl (hc13 (s11.1, (w (s11.2.1 + 1)), s11.2.2))
      · refine XE.go (st_icmp_ge_t (off := 63) (pc' := 115) (by decide +kernel) (by decide) (Int.not_lt.mp h18)) ?_
        exact XE.pick [1] rfl (he14 (s11.1, s11.2.2))
    · refine XE.go (st_iload_n (j := 2) (i := 2) (pc' := 116) (by decide +kernel) rfl rfl rfl) ?_
      exact XE.rt rfl (X_iret (by decide +kernel) rfl)
  · refine XE.go (st_if_eq_f (off := 13) (pc' := 12) (by decide +kernel) 22 (by decide) rfl h4) ?_
    exact XE.thrT (by decide +kernel) (by decide +kernel) (by decide +kernel) (by decide +kernel) (by decide +kernel) thr_RX10_222 rfl (by decide) (by decide) (by decide)
theorem ct_X10_restore {D : Dt} {M : Mm} {a0 a1 : Int} (h0 : a0 ≠ 0) (r : (Int × Int × Mm)) (hr : p_X10_restore M a0 a1 = some r) : CT D 0 mu_X10_restore [(14, a0), (0, a1)] M (ET 0 r).1 (ET 0 r).2 := CT.of (by decide +kernel) rfl (Nat.le_of_ble_eq_true rfl) (xe_X10_restore h0 r hr)
def p_X7_catchUp (M : Mm) (a0 a1 : Int) : Option Mm := (some (wr M a0 3 a1)).bind fun M1 => (some (wr M1 a0 4 1)).bind fun M2 => some (M2)
set_option maxRecDepth 100000 in
set_option maxHeartbeats 4000000 in
theorem xe_X7_catchUp {D : Dt} {M : Mm} {a0 a1 : Int} (h0 : a0 ≠ 0) : XE D 0 mu_X7_catchUp EV 0 [(0, (11, a0)), (1, (0, a1))] [] M (p_X7_catchUp M a0 a1) := by
  unfold p_X7_catchUp
  refine XE.go (st_aload_n (j := 0) (i := 0) (pc' := 1) (by decide +kernel) rfl rfl (by decide) rfl) ?_
  refine XE.go (st_iload_n (j := 1) (i := 1) (pc' := 2) (by decide +kernel) rfl rfl rfl) ?_
  refine XE.goM (st_put (pc' := 5) (by decide +kernel) rfl cls_7 fld_RX7_23 rfl rfl (fun h => absurd h (by decide)) (fun h => nomatch h) h0) (fun M1 => ?_)
  refine XE.go (st_aload_n (j := 0) (i := 0) (pc' := 6) (by decide +kernel) rfl rfl (by decide) rfl) ?_
  refine XE.go (st_iconst (n := 1) (pc' := 7) (by decide +kernel) (w_eq (by decide) (by decide)) rfl) ?_
  refine XE.goM (st_put (pc' := 10) (by decide +kernel) rfl cls_7 fld_RX7_13 rfl rfl (fun _ => by decide) (fun h => nomatch h) h0) (fun M2 => ?_)
  exact XE.rt rfl (X_vret (by decide +kernel) rfl)
theorem ct_X7_catchUp {D : Dt} {M : Mm} {a0 a1 : Int} (h0 : a0 ≠ 0) (r : Mm) (hr : p_X7_catchUp M a0 a1 = some r) : CT D 0 mu_X7_catchUp [(11, a0), (0, a1)] M (.inl none) r := CT.of (by decide +kernel) rfl (Nat.le_of_ble_eq_true rfl) (xe_X7_catchUp h0 r hr)
