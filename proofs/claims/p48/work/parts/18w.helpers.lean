def p_L_cell (M : Mm) (sl : Int) (sc : Int → Int) (a1 a2 : Int) : Option Int := if (w sl) = 0 then gd (a2 ≠ 0) (some ((irm (w ((w (a1 * 37)) + 5)) a2))) else gd ((w sl) ≠ 0) (gd (0 ≤ (irm a1 (w sl)) ∧ (irm a1 (w sl)) < sl) (gd (a2 ≠ 0) (some ((irm (ian (shr (sc ((irm a1 (w sl)))) (irm a1 7)) 4194303) a2)))))
set_option maxRecDepth 100000 in
set_option maxHeartbeats 4000000 in
theorem xe_L_cell {D : Dt} {M : Mm} {a1 a2 : Int} : XE D 0 mu_L_cell (EP 0 M) 0 [(0, (100, (-1))), (1, (0, a1)), (2, (0, a2))] [] M (p_L_cell M (D.2.2.2.2.2.1 : Int) (fun i => (D.2.2.2.2.2.2 i.toNat).toInt) a1 a2) := by
  unfold p_L_cell
  refine XE.go (st_aload_n (j := 0) (i := 0) (pc' := 1) (by decide +kernel) rfl rfl (by decide) rfl) ?_
  refine XE.go (st_slen (pc' := 2) (by decide +kernel) rfl) ?_
  refine XE.ite (fun h1 => ?_) (fun h2 => ?_)
  · refine XE.go (st_if_ne_f (off := 12) (pc' := 5) (by decide +kernel) 14 (by decide) rfl (not_not_intro h1)) ?_
    refine XE.go (st_iload_n (j := 1) (i := 1) (pc' := 6) (by decide +kernel) rfl rfl rfl) ?_
    refine XE.go (st_bipush (n := 37) (pc' := 8) (by decide +kernel) (by decide) (w_eq (by decide) (by decide)) rfl) ?_
    refine XE.go (st_imul (pc' := 9) (by decide +kernel) rfl) ?_
    refine XE.go (st_iconst (n := 5) (pc' := 10) (by decide +kernel) (w_eq (by decide) (by decide)) rfl) ?_
    refine XE.go (st_iadd (pc' := 11) (by decide +kernel) rfl) ?_
    refine XE.go (st_goto (off := 17) (pc' := 28) (by decide +kernel) (by decide)) ?_
    refine XE.go (st_iload_n (j := 2) (i := 2) (pc' := 29) (by decide +kernel) rfl rfl rfl) ?_
    refine XE.gd_ (fun g3 => ?_)
    refine XE.go (st_irem (pc' := 30) (by decide +kernel) g3 rfl) ?_
    exact XE.rt rfl (X_iret (by decide +kernel) rfl)
  · refine XE.go (st_if_ne_t (off := 12) (pc' := 14) (by decide +kernel) (by decide) h2) ?_
    refine XE.go (st_aload_n (j := 0) (i := 0) (pc' := 15) (by decide +kernel) rfl rfl (by decide) rfl) ?_
    refine XE.go (st_iload_n (j := 1) (i := 1) (pc' := 16) (by decide +kernel) rfl rfl rfl) ?_
    refine XE.go (st_aload_n (j := 0) (i := 0) (pc' := 17) (by decide +kernel) rfl rfl (by decide) rfl) ?_
    refine XE.go (st_slen (pc' := 18) (by decide +kernel) rfl) ?_
    refine XE.gd_ (fun g4 => ?_)
    refine XE.go (st_irem (pc' := 19) (by decide +kernel) g4 rfl) ?_
    refine XE.gd_ (fun g5 => ?_)
    refine XE.go (st_sld (pc' := 20) (by decide +kernel) rfl g5.1 g5.2) ?_
    refine XE.go (st_iload_n (j := 1) (i := 1) (pc' := 21) (by decide +kernel) rfl rfl rfl) ?_
    refine XE.go (st_bipush (n := 7) (pc' := 23) (by decide +kernel) (by decide) (w_eq (by decide) (by decide)) rfl) ?_
    refine XE.go (st_irem (pc' := 24) (by decide +kernel) (by decide) rfl) ?_
    refine XE.go (st_ishr (pc' := 25) (by decide +kernel) rfl) ?_
    refine XE.go (st_ldc (n := 4194303) (index := 7) (pc' := 27) (by decide +kernel) (bg_1 89 rfl rfl) (w_eq (by decide) (by decide)) rfl) ?_
    refine XE.go (st_iand (pc' := 28) (by decide +kernel) rfl) ?_
    refine XE.go (st_iload_n (j := 2) (i := 2) (pc' := 29) (by decide +kernel) rfl rfl rfl) ?_
    refine XE.gd_ (fun g6 => ?_)
    refine XE.go (st_irem (pc' := 30) (by decide +kernel) g6 rfl) ?_
    exact XE.rt rfl (X_iret (by decide +kernel) rfl)
theorem ct_L_cell {D : Dt} {M : Mm} {a1 a2 : Int} (r : Int) (hr : p_L_cell M (D.2.2.2.2.2.1 : Int) (fun i => (D.2.2.2.2.2.2 i.toNat).toInt) a1 a2 = some r) : CT D 0 mu_L_cell [(100, (-1)), (0, a1), (0, a2)] M (.inl (some (0, r))) M := CT.of (by decide +kernel) rfl (Nat.le_of_ble_eq_true rfl) (xe_L_cell r hr)
def p_L_topic (M : Mm) (a0 a1 a2 a3 : Int) : Option (Int × Mm) := gd (a0 ≠ 0) ((p_X10_topic M a0 a1 a2 a3).bind (hnT (fun x M => if x = 1 then some ((-97), M) else if x = 2 then some ((-98), M) else if x = 3 then some ((-99), M) else none) (fun v2 M3 => some (v2, M3))))
set_option maxRecDepth 100000 in
set_option maxHeartbeats 4000000 in
theorem xe_L_topic {D : Dt} {M : Mm} {a0 a1 a2 a3 : Int} : XE D 1 mu_L_topic (EW 0) 0 [(0, (14, a0)), (1, (0, a1)), (2, (0, a2)), (3, (0, a3))] [] M (p_L_topic M a0 a1 a2 a3) := by
  unfold p_L_topic
  refine XE.go (st_aload_n (j := 0) (i := 0) (pc' := 1) (by decide +kernel) rfl rfl (by decide) rfl) ?_
  refine XE.go (st_iload_n (j := 1) (i := 1) (pc' := 2) (by decide +kernel) rfl rfl rfl) ?_
  refine XE.go (st_iload_n (j := 2) (i := 2) (pc' := 3) (by decide +kernel) rfl rfl rfl) ?_
  refine XE.go (st_iload_n (j := 3) (i := 3) (pc' := 4) (by decide +kernel) rfl rfl rfl) ?_
  refine XE.gd_ (fun g1 => ?_)
  refine XE.cTH (pc' := 7) (st := []) hf_L_topic (fun r hr => ct_X10_topic g1 r hr) (fun r hr => run_V (st := []) (by decide +kernel) co_L_topic_8 (ct_X10_topic g1 r hr) rfl g1 rfl rfl (Nat.le_of_ble_eq_true rfl)) rfl rfl (fun v2 M3 => ?_)
  exact XE.rt rfl (X_iret (by decide +kernel) rfl)
theorem ct_L_topic {D : Dt} {M : Mm} {a0 a1 a2 a3 : Int} (r : (Int × Mm)) (hr : p_L_topic M a0 a1 a2 a3 = some r) : CT D 1 mu_L_topic [(14, a0), (0, a1), (0, a2), (0, a3)] M (.inl (some (0, r.1))) r.2 := CT.of (by decide +kernel) rfl (Nat.le_of_ble_eq_true rfl) (xe_L_topic r hr)
def q_L_topic (M : Mm) (a0 a1 a2 a3 : Int) : Option (Int × Mm) := ghq (p_L_topic M a0 a1 a2 a3) ((p_G_topic M a0 a1 a2 a3 15000).bind fun g => p_X11_topic g.2 12000 a1 a2 a3)
theorem cq_L_topic {D : Dt} {M : Mm} {a0 a1 a2 a3 : Int} (r : Int × Mm) (hr : q_L_topic M a0 a1 a2 a3 = some r) : CT D 1 mu_L_topic [(14, a0), (0, a1), (0, a2), (0, a3)] M (.inl (some (0, r.1))) r.2 := CT_ghq (fun r hr => ct_L_topic r hr) hr
def p_L_compact (M : Mm) (a0 a1 : Int) : Option (Int × Mm) := gd (a0 ≠ 0) ((p_X10_compact M a0 a1).bind (hnT (fun x M => if x = 1 then some ((-97), M) else if x = 2 then some ((-98), M) else if x = 3 then some ((-99), M) else none) (fun v2 M3 => some (v2, M3))))
set_option maxRecDepth 100000 in
set_option maxHeartbeats 4000000 in
theorem xe_L_compact {D : Dt} {M : Mm} {a0 a1 : Int} : XE D 1 mu_L_compact (EW 0) 0 [(0, (14, a0)), (1, (0, a1))] [] M (p_L_compact M a0 a1) := by
  unfold p_L_compact
  refine XE.go (st_aload_n (j := 0) (i := 0) (pc' := 1) (by decide +kernel) rfl rfl (by decide) rfl) ?_
  refine XE.go (st_iload_n (j := 1) (i := 1) (pc' := 2) (by decide +kernel) rfl rfl rfl) ?_
  refine XE.gd_ (fun g1 => ?_)
  refine XE.cTH (pc' := 5) (st := []) hf_L_compact (fun r hr => ct_X10_compact g1 r hr) (fun r hr => run_V (st := []) (by decide +kernel) co_L_compact_20 (ct_X10_compact g1 r hr) rfl g1 rfl rfl (Nat.le_of_ble_eq_true rfl)) rfl rfl (fun v2 M3 => ?_)
  exact XE.rt rfl (X_iret (by decide +kernel) rfl)
theorem ct_L_compact {D : Dt} {M : Mm} {a0 a1 : Int} (r : (Int × Mm)) (hr : p_L_compact M a0 a1 = some r) : CT D 1 mu_L_compact [(14, a0), (0, a1)] M (.inl (some (0, r.1))) r.2 := CT.of (by decide +kernel) rfl (Nat.le_of_ble_eq_true rfl) (xe_L_compact r hr)
def q_L_compact (M : Mm) (a0 a1 : Int) : Option (Int × Mm) := ghq (p_L_compact M a0 a1) ((p_G_compact M a0 a1 15000).bind fun g => p_X11_compact g.2 12000 a1)
theorem cq_L_compact {D : Dt} {M : Mm} {a0 a1 : Int} (r : Int × Mm) (hr : q_L_compact M a0 a1 = some r) : CT D 1 mu_L_compact [(14, a0), (0, a1)] M (.inl (some (0, r.1))) r.2 := CT_ghq (fun r hr => ct_L_compact r hr) hr
def p_L_fail (M : Mm) (a0 a1 : Int) : Option (Int × Mm) := gd (a0 ≠ 0) ((p_X10_fail M a0 a1).bind (hnT (fun x M => if x = 1 then some ((-97), M) else if x = 2 then some ((-98), M) else if x = 3 then some ((-99), M) else none) (fun v2 M3 => some (v2, M3))))
set_option maxRecDepth 100000 in
set_option maxHeartbeats 4000000 in
theorem xe_L_fail {D : Dt} {M : Mm} {a0 a1 : Int} : XE D 1 mu_L_fail (EW 0) 0 [(0, (14, a0)), (1, (0, a1))] [] M (p_L_fail M a0 a1) := by
  unfold p_L_fail
  refine XE.go (st_aload_n (j := 0) (i := 0) (pc' := 1) (by decide +kernel) rfl rfl (by decide) rfl) ?_
  refine XE.go (st_iload_n (j := 1) (i := 1) (pc' := 2) (by decide +kernel) rfl rfl rfl) ?_
  refine XE.gd_ (fun g1 => ?_)
  refine XE.cTH (pc' := 5) (st := []) hf_L_fail (fun r hr => ct_X10_fail g1 r hr) (fun r hr => run_V (st := []) (by decide +kernel) co_L_fail_24 (ct_X10_fail g1 r hr) rfl g1 rfl rfl (Nat.le_of_ble_eq_true rfl)) rfl rfl (fun v2 M3 => ?_)
  exact XE.rt rfl (X_iret (by decide +kernel) rfl)
theorem ct_L_fail {D : Dt} {M : Mm} {a0 a1 : Int} (r : (Int × Mm)) (hr : p_L_fail M a0 a1 = some r) : CT D 1 mu_L_fail [(14, a0), (0, a1)] M (.inl (some (0, r.1))) r.2 := CT.of (by decide +kernel) rfl (Nat.le_of_ble_eq_true rfl) (xe_L_fail r hr)
def q_L_fail (M : Mm) (a0 a1 : Int) : Option (Int × Mm) := ghq (p_L_fail M a0 a1) ((p_G_fail M a0 a1 15000).bind fun g => p_X11_fail g.2 12000 a1)
theorem cq_L_fail {D : Dt} {M : Mm} {a0 a1 : Int} (r : Int × Mm) (hr : q_L_fail M a0 a1 = some r) : CT D 1 mu_L_fail [(14, a0), (0, a1)] M (.inl (some (0, r.1))) r.2 := CT_ghq (fun r hr => ct_L_fail r hr) hr
def p_L_restore (M : Mm) (a0 a1 : Int) : Option (Int × Mm) := gd (a0 ≠ 0) ((p_X10_restore M a0 a1).bind (hnT (fun x M => if x = 1 then some ((-97), M) else if x = 2 then some ((-98), M) else if x = 3 then some ((-99), M) else none) (fun v2 M3 => some (v2, M3))))
set_option maxRecDepth 100000 in
set_option maxHeartbeats 4000000 in
theorem xe_L_restore {D : Dt} {M : Mm} {a0 a1 : Int} : XE D 1 mu_L_restore (EW 0) 0 [(0, (14, a0)), (1, (0, a1))] [] M (p_L_restore M a0 a1) := by
  unfold p_L_restore
  refine XE.go (st_aload_n (j := 0) (i := 0) (pc' := 1) (by decide +kernel) rfl rfl (by decide) rfl) ?_
  refine XE.go (st_iload_n (j := 1) (i := 1) (pc' := 2) (by decide +kernel) rfl rfl rfl) ?_
  refine XE.gd_ (fun g1 => ?_)
  refine XE.cTH (pc' := 5) (st := []) hf_L_restore (fun r hr => ct_X10_restore g1 r hr) (fun r hr => run_V (st := []) (by decide +kernel) co_L_restore_27 (ct_X10_restore g1 r hr) rfl g1 rfl rfl (Nat.le_of_ble_eq_true rfl)) rfl rfl (fun v2 M3 => ?_)
  exact XE.rt rfl (X_iret (by decide +kernel) rfl)
theorem ct_L_restore {D : Dt} {M : Mm} {a0 a1 : Int} (r : (Int × Mm)) (hr : p_L_restore M a0 a1 = some r) : CT D 1 mu_L_restore [(14, a0), (0, a1)] M (.inl (some (0, r.1))) r.2 := CT.of (by decide +kernel) rfl (Nat.le_of_ble_eq_true rfl) (xe_L_restore r hr)
def q_L_restore (M : Mm) (a0 a1 : Int) : Option (Int × Mm) := ghq (p_L_restore M a0 a1) ((p_G_restore M a0 a1 15000).bind fun g => p_X11_restore g.2 12000 a1)
theorem cq_L_restore {D : Dt} {M : Mm} {a0 a1 : Int} (r : Int × Mm) (hr : q_L_restore M a0 a1 = some r) : CT D 1 mu_L_restore [(14, a0), (0, a1)] M (.inl (some (0, r.1))) r.2 := CT_ghq (fun r hr => ct_L_restore r hr) hr
def p_L_fetch (M : Mm) (a0 a1 : Int) : Option (Int × Mm) := gd (a0 ≠ 0) ((p_X10_fetch M a0 a1).bind (hnT (fun x M => if x = 1 then some ((-97), M) else if x = 2 then some ((-98), M) else if x = 3 then some ((-99), M) else none) (fun v2 M3 => some (v2, M3))))
set_option maxRecDepth 100000 in
set_option maxHeartbeats 4000000 in
theorem xe_L_fetch {D : Dt} {M : Mm} {a0 a1 : Int} : XE D 1 mu_L_fetch (EW 0) 0 [(0, (14, a0)), (1, (0, a1))] [] M (p_L_fetch M a0 a1) := by
  unfold p_L_fetch
  refine XE.go (st_aload_n (j := 0) (i := 0) (pc' := 1) (by decide +kernel) rfl rfl (by decide) rfl) ?_
  refine XE.go (st_iload_n (j := 1) (i := 1) (pc' := 2) (by decide +kernel) rfl rfl rfl) ?_
  refine XE.gd_ (fun g1 => ?_)
  refine XE.cTH (pc' := 5) (st := []) hf_L_fetch (fun r hr => ct_X10_fetch g1 r hr) (fun r hr => run_V (st := []) (by decide +kernel) co_L_fetch_30 (ct_X10_fetch g1 r hr) rfl g1 rfl rfl (Nat.le_of_ble_eq_true rfl)) rfl rfl (fun v2 M3 => ?_)
  exact XE.rt rfl (X_iret (by decide +kernel) rfl)
theorem ct_L_fetch {D : Dt} {M : Mm} {a0 a1 : Int} (r : (Int × Mm)) (hr : p_L_fetch M a0 a1 = some r) : CT D 1 mu_L_fetch [(14, a0), (0, a1)] M (.inl (some (0, r.1))) r.2 := CT.of (by decide +kernel) rfl (Nat.le_of_ble_eq_true rfl) (xe_L_fetch r hr)
def q_L_fetch (M : Mm) (a0 a1 : Int) : Option (Int × Mm) := ghq (p_L_fetch M a0 a1) ((p_G_fetch M a0 a1 15000).bind fun g => p_X11_fetch g.2 12000 a1)
theorem cq_L_fetch {D : Dt} {M : Mm} {a0 a1 : Int} (r : Int × Mm) (hr : q_L_fetch M a0 a1 = some r) : CT D 1 mu_L_fetch [(14, a0), (0, a1)] M (.inl (some (0, r.1))) r.2 := CT_ghq (fun r hr => ct_L_fetch r hr) hr
def p_L_speed (M : Mm) (a0 a1 : Int) : Option (Int × Mm) := gd (a0 ≠ 0) ((p_X10_speed M a0 a1).bind (hnT (fun x M => if x = 1 then some ((-97), M) else if x = 2 then some ((-98), M) else if x = 3 then some ((-99), M) else none) (fun v2 M3 => some (v2, M3))))
set_option maxRecDepth 100000 in
set_option maxHeartbeats 4000000 in
theorem xe_L_speed {D : Dt} {M : Mm} {a0 a1 : Int} : XE D 1 mu_L_speed (EW 0) 0 [(0, (14, a0)), (1, (0, a1))] [] M (p_L_speed M a0 a1) := by
  unfold p_L_speed
  refine XE.go (st_aload_n (j := 0) (i := 0) (pc' := 1) (by decide +kernel) rfl rfl (by decide) rfl) ?_
  refine XE.go (st_iload_n (j := 1) (i := 1) (pc' := 2) (by decide +kernel) rfl rfl rfl) ?_
  refine XE.gd_ (fun g1 => ?_)
  refine XE.cTH (pc' := 5) (st := []) hf_L_speed (fun r hr => ct_X10_speed g1 r hr) (fun r hr => run_V (st := []) (by decide +kernel) co_L_speed_33 (ct_X10_speed g1 r hr) rfl g1 rfl rfl (Nat.le_of_ble_eq_true rfl)) rfl rfl (fun v2 M3 => ?_)
  exact XE.rt rfl (X_iret (by decide +kernel) rfl)
theorem ct_L_speed {D : Dt} {M : Mm} {a0 a1 : Int} (r : (Int × Mm)) (hr : p_L_speed M a0 a1 = some r) : CT D 1 mu_L_speed [(14, a0), (0, a1)] M (.inl (some (0, r.1))) r.2 := CT.of (by decide +kernel) rfl (Nat.le_of_ble_eq_true rfl) (xe_L_speed r hr)
def q_L_speed (M : Mm) (a0 a1 : Int) : Option (Int × Mm) := ghq (p_L_speed M a0 a1) ((p_G_speed M a0 a1 15000).bind fun g => p_X11_speed g.2 12000 a1)
theorem cq_L_speed {D : Dt} {M : Mm} {a0 a1 : Int} (r : Int × Mm) (hr : q_L_speed M a0 a1 = some r) : CT D 1 mu_L_speed [(14, a0), (0, a1)] M (.inl (some (0, r.1))) r.2 := CT_ghq (fun r hr => ct_L_speed r hr) hr
def p_L_tick (M : Mm) (a0 a1 : Int) : Option (Int × Mm) := gd (a0 ≠ 0) ((p_X10_tick M a0 a1).bind (hnT (fun x M => if x = 1 then some ((-97), M) else if x = 2 then some ((-98), M) else if x = 3 then some ((-99), M) else none) (fun v2 M3 => some (v2, M3))))
set_option maxRecDepth 100000 in
set_option maxHeartbeats 4000000 in
theorem xe_L_tick {D : Dt} {M : Mm} {a0 a1 : Int} : XE D 1 mu_L_tick (EW 0) 0 [(0, (14, a0)), (1, (0, a1))] [] M (p_L_tick M a0 a1) := by
  unfold p_L_tick
  refine XE.go (st_aload_n (j := 0) (i := 0) (pc' := 1) (by decide +kernel) rfl rfl (by decide) rfl) ?_
  refine XE.go (st_iload_n (j := 1) (i := 1) (pc' := 2) (by decide +kernel) rfl rfl rfl) ?_
  refine XE.gd_ (fun g1 => ?_)
  refine XE.cTH (pc' := 5) (st := []) hf_L_tick (fun r hr => ct_X10_tick g1 r hr) (fun r hr => run_V (st := []) (by decide +kernel) co_L_tick_36 (ct_X10_tick g1 r hr) rfl g1 rfl rfl (Nat.le_of_ble_eq_true rfl)) rfl rfl (fun v2 M3 => ?_)
  exact XE.rt rfl (X_iret (by decide +kernel) rfl)
theorem ct_L_tick {D : Dt} {M : Mm} {a0 a1 : Int} (r : (Int × Mm)) (hr : p_L_tick M a0 a1 = some r) : CT D 1 mu_L_tick [(14, a0), (0, a1)] M (.inl (some (0, r.1))) r.2 := CT.of (by decide +kernel) rfl (Nat.le_of_ble_eq_true rfl) (xe_L_tick r hr)
def q_L_tick (M : Mm) (a0 a1 : Int) : Option (Int × Mm) := ghq (p_L_tick M a0 a1) ((p_G_tick M a0 a1 15000).bind fun g => p_X11_tick g.2 12000 a1)
theorem cq_L_tick {D : Dt} {M : Mm} {a0 a1 : Int} (r : Int × Mm) (hr : q_L_tick M a0 a1 = some r) : CT D 1 mu_L_tick [(14, a0), (0, a1)] M (.inl (some (0, r.1))) r.2 := CT_ghq (fun r hr => ct_L_tick r hr) hr
def p_L_producer (M : Mm) (a0 : Int) : Option (Int × Mm) := gd (a0 ≠ 0) ((p_X10_producer M a0).bind (hnT (fun x M => if x = 1 then some ((-97), M) else if x = 2 then some ((-98), M) else if x = 3 then some ((-99), M) else none) (fun v2 M3 => some (v2, M3))))
set_option maxRecDepth 100000 in
set_option maxHeartbeats 4000000 in
theorem xe_L_producer {D : Dt} {M : Mm} {a0 : Int} : XE D 1 mu_L_producer (EW 0) 0 [(0, (14, a0))] [] M (p_L_producer M a0) := by
  unfold p_L_producer
  refine XE.go (st_aload_n (j := 0) (i := 0) (pc' := 1) (by decide +kernel) rfl rfl (by decide) rfl) ?_
  refine XE.gd_ (fun g1 => ?_)
  refine XE.cTH (pc' := 4) (st := []) hf_L_producer (fun r hr => ct_X10_producer g1 r hr) (fun r hr => run_V (st := []) (by decide +kernel) co_L_producer_39 (ct_X10_producer g1 r hr) rfl g1 rfl rfl (Nat.le_of_ble_eq_true rfl)) rfl rfl (fun v2 M3 => ?_)
  exact XE.rt rfl (X_iret (by decide +kernel) rfl)
theorem ct_L_producer {D : Dt} {M : Mm} {a0 : Int} (r : (Int × Mm)) (hr : p_L_producer M a0 = some r) : CT D 1 mu_L_producer [(14, a0)] M (.inl (some (0, r.1))) r.2 := CT.of (by decide +kernel) rfl (Nat.le_of_ble_eq_true rfl) (xe_L_producer r hr)
def q_L_producer (M : Mm) (a0 : Int) : Option (Int × Mm) := ghq (p_L_producer M a0) ((p_G_producer M a0 15000).bind fun g => p_X11_producer g.2 12000)
theorem cq_L_producer {D : Dt} {M : Mm} {a0 : Int} (r : Int × Mm) (hr : q_L_producer M a0 = some r) : CT D 1 mu_L_producer [(14, a0)] M (.inl (some (0, r.1))) r.2 := CT_ghq (fun r hr => ct_L_producer r hr) hr
def p_L_sendSome (M : Mm) (a0 a1 a2 a3 a4 : Int) : Option (Int × Mm) := gd (a0 ≠ 0) ((p_X10_sendSome M a0 a1 a2 a3 a4).bind (hnT (fun x M => if x = 1 then some ((-97), M) else if x = 2 then some ((-98), M) else if x = 3 then some ((-99), M) else none) (fun v2 M3 => some (v2, M3))))
set_option maxRecDepth 100000 in
set_option maxHeartbeats 4000000 in
theorem xe_L_sendSome {D : Dt} {M : Mm} {a0 a1 a2 a3 a4 : Int} : XE D 1 mu_L_sendSome (EW 0) 0 [(0, (14, a0)), (1, (0, a1)), (2, (0, a2)), (3, (0, a3)), (4, (0, a4))] [] M (p_L_sendSome M a0 a1 a2 a3 a4) := by
  unfold p_L_sendSome
  refine XE.go (st_aload_n (j := 0) (i := 0) (pc' := 1) (by decide +kernel) rfl rfl (by decide) rfl) ?_
  refine XE.go (st_iload_n (j := 1) (i := 1) (pc' := 2) (by decide +kernel) rfl rfl rfl) ?_
  refine XE.go (st_iload_n (j := 2) (i := 2) (pc' := 3) (by decide +kernel) rfl rfl rfl) ?_
  refine XE.go (st_iload_n (j := 3) (i := 3) (pc' := 4) (by decide +kernel) rfl rfl rfl) ?_
  refine XE.go (st_iload (j := 4) (pc' := 6) (by decide +kernel) rfl rfl) ?_
  refine XE.gd_ (fun g1 => ?_)
  refine XE.cTH (pc' := 9) (st := []) hf_L_sendSome (fun r hr => ct_X10_sendSome g1 r hr) (fun r hr => run_V (st := []) (by decide +kernel) co_L_sendSome_43 (ct_X10_sendSome g1 r hr) rfl g1 rfl rfl (Nat.le_of_ble_eq_true rfl)) rfl rfl (fun v2 M3 => ?_)
  exact XE.rt rfl (X_iret (by decide +kernel) rfl)
theorem ct_L_sendSome {D : Dt} {M : Mm} {a0 a1 a2 a3 a4 : Int} (r : (Int × Mm)) (hr : p_L_sendSome M a0 a1 a2 a3 a4 = some r) : CT D 1 mu_L_sendSome [(14, a0), (0, a1), (0, a2), (0, a3), (0, a4)] M (.inl (some (0, r.1))) r.2 := CT.of (by decide +kernel) rfl (Nat.le_of_ble_eq_true rfl) (xe_L_sendSome r hr)
def q_L_sendSome (M : Mm) (a0 a1 a2 a3 a4 : Int) : Option (Int × Mm) := ghq (p_L_sendSome M a0 a1 a2 a3 a4) ((p_G_sendSome M a0 a1 a2 a3 a4 15000).bind fun g => p_X11_sendSome g.2 12000 a1 a2 a3 a4)
theorem cq_L_sendSome {D : Dt} {M : Mm} {a0 a1 a2 a3 a4 : Int} (r : Int × Mm) (hr : q_L_sendSome M a0 a1 a2 a3 a4 = some r) : CT D 1 mu_L_sendSome [(14, a0), (0, a1), (0, a2), (0, a3), (0, a4)] M (.inl (some (0, r.1))) r.2 := CT_ghq (fun r hr => ct_L_sendSome r hr) hr
def p_L_send (M : Mm) (a0 a1 a2 a3 a4 : Int) : Option (Int × Mm) := gd (a0 ≠ 0) ((p_X10_send M a0 a1 a2 a3 a4).bind (hnT (fun x M => if x = 1 then some ((-97), M) else if x = 2 then some ((-98), M) else if x = 3 then some ((-99), M) else none) (fun v2 M3 => some (v2, M3))))
set_option maxRecDepth 100000 in
set_option maxHeartbeats 4000000 in
theorem xe_L_send {D : Dt} {M : Mm} {a0 a1 a2 a3 a4 : Int} : XE D 1 mu_L_send (EW 0) 0 [(0, (14, a0)), (1, (0, a1)), (2, (0, a2)), (3, (0, a3)), (4, (0, a4))] [] M (p_L_send M a0 a1 a2 a3 a4) := by
  unfold p_L_send
  refine XE.go (st_aload_n (j := 0) (i := 0) (pc' := 1) (by decide +kernel) rfl rfl (by decide) rfl) ?_
  refine XE.go (st_iload_n (j := 1) (i := 1) (pc' := 2) (by decide +kernel) rfl rfl rfl) ?_
  refine XE.go (st_iload_n (j := 2) (i := 2) (pc' := 3) (by decide +kernel) rfl rfl rfl) ?_
  refine XE.go (st_iload_n (j := 3) (i := 3) (pc' := 4) (by decide +kernel) rfl rfl rfl) ?_
  refine XE.go (st_iload (j := 4) (pc' := 6) (by decide +kernel) rfl rfl) ?_
  refine XE.gd_ (fun g1 => ?_)
  refine XE.cTH (pc' := 9) (st := []) hf_L_send (fun r hr => ct_X10_send g1 r hr) (fun r hr => run_V (st := []) (by decide +kernel) co_L_send_47 (ct_X10_send g1 r hr) rfl g1 rfl rfl (Nat.le_of_ble_eq_true rfl)) rfl rfl (fun v2 M3 => ?_)
  exact XE.rt rfl (X_iret (by decide +kernel) rfl)
theorem ct_L_send {D : Dt} {M : Mm} {a0 a1 a2 a3 a4 : Int} (r : (Int × Mm)) (hr : p_L_send M a0 a1 a2 a3 a4 = some r) : CT D 1 mu_L_send [(14, a0), (0, a1), (0, a2), (0, a3), (0, a4)] M (.inl (some (0, r.1))) r.2 := CT.of (by decide +kernel) rfl (Nat.le_of_ble_eq_true rfl) (xe_L_send r hr)
def q_L_send (M : Mm) (a0 a1 a2 a3 a4 : Int) : Option (Int × Mm) := ghq (p_L_send M a0 a1 a2 a3 a4) ((p_G_send M a0 a1 a2 a3 a4 15000).bind fun g => p_X11_send g.2 12000 a1 a2 a3 a4)
theorem cq_L_send {D : Dt} {M : Mm} {a0 a1 a2 a3 a4 : Int} (r : Int × Mm) (hr : q_L_send M a0 a1 a2 a3 a4 = some r) : CT D 1 mu_L_send [(14, a0), (0, a1), (0, a2), (0, a3), (0, a4)] M (.inl (some (0, r.1))) r.2 := CT_ghq (fun r hr => ct_L_send r hr) hr
def p_L_sendLater (M : Mm) (a0 a1 a2 a3 a4 a5 : Int) : Option (Int × Mm) := gd (a0 ≠ 0) ((p_X10_sendLater M a0 a1 a2 a3 a4 a5).bind (hnT (fun x M => if x = 1 then some ((-97), M) else if x = 2 then some ((-98), M) else if x = 3 then some ((-99), M) else none) (fun v2 M3 => some (v2, M3))))
set_option maxRecDepth 100000 in
set_option maxHeartbeats 4000000 in
theorem xe_L_sendLater {D : Dt} {M : Mm} {a0 a1 a2 a3 a4 a5 : Int} : XE D 1 mu_L_sendLater (EW 0) 0 [(0, (14, a0)), (1, (0, a1)), (2, (0, a2)), (3, (0, a3)), (4, (0, a4)), (5, (0, a5))] [] M (p_L_sendLater M a0 a1 a2 a3 a4 a5) := by
  unfold p_L_sendLater
  refine XE.go (st_aload_n (j := 0) (i := 0) (pc' := 1) (by decide +kernel) rfl rfl (by decide) rfl) ?_
  refine XE.go (st_iload_n (j := 1) (i := 1) (pc' := 2) (by decide +kernel) rfl rfl rfl) ?_
  refine XE.go (st_iload_n (j := 2) (i := 2) (pc' := 3) (by decide +kernel) rfl rfl rfl) ?_
  refine XE.go (st_iload_n (j := 3) (i := 3) (pc' := 4) (by decide +kernel) rfl rfl rfl) ?_
  refine XE.go (st_iload (j := 4) (pc' := 6) (by decide +kernel) rfl rfl) ?_
  refine XE.go (st_iload (j := 5) (pc' := 8) (by decide +kernel) rfl rfl) ?_
  refine XE.gd_ (fun g1 => ?_)
  refine XE.cTH (pc' := 11) (st := []) hf_L_sendLater (fun r hr => ct_X10_sendLater g1 r hr) (fun r hr => run_V (st := []) (by decide +kernel) co_L_sendLater_50 (ct_X10_sendLater g1 r hr) rfl g1 rfl rfl (Nat.le_of_ble_eq_true rfl)) rfl rfl (fun v2 M3 => ?_)
  exact XE.rt rfl (X_iret (by decide +kernel) rfl)
theorem ct_L_sendLater {D : Dt} {M : Mm} {a0 a1 a2 a3 a4 a5 : Int} (r : (Int × Mm)) (hr : p_L_sendLater M a0 a1 a2 a3 a4 a5 = some r) : CT D 1 mu_L_sendLater [(14, a0), (0, a1), (0, a2), (0, a3), (0, a4), (0, a5)] M (.inl (some (0, r.1))) r.2 := CT.of (by decide +kernel) rfl (Nat.le_of_ble_eq_true rfl) (xe_L_sendLater r hr)
def q_L_sendLater (M : Mm) (a0 a1 a2 a3 a4 a5 : Int) : Option (Int × Mm) := ghq (p_L_sendLater M a0 a1 a2 a3 a4 a5) ((p_G_sendLater M a0 a1 a2 a3 a4 a5 15000).bind fun g => p_X11_sendLater g.2 12000 a1 a2 a3 a4 a5)
theorem cq_L_sendLater {D : Dt} {M : Mm} {a0 a1 a2 a3 a4 a5 : Int} (r : Int × Mm) (hr : q_L_sendLater M a0 a1 a2 a3 a4 a5 = some r) : CT D 1 mu_L_sendLater [(14, a0), (0, a1), (0, a2), (0, a3), (0, a4), (0, a5)] M (.inl (some (0, r.1))) r.2 := CT_ghq (fun r hr => ct_L_sendLater r hr) hr
def p_L_resend (M : Mm) (a0 a1 a2 : Int) : Option (Int × Mm) := gd (a0 ≠ 0) ((p_X10_resend M a0 a1 a2).bind (hnT (fun x M => if x = 1 then some ((-97), M) else if x = 2 then some ((-98), M) else if x = 3 then some ((-99), M) else none) (fun v2 M3 => some (v2, M3))))
set_option maxRecDepth 100000 in
set_option maxHeartbeats 4000000 in
theorem xe_L_resend {D : Dt} {M : Mm} {a0 a1 a2 : Int} : XE D 1 mu_L_resend (EW 0) 0 [(0, (14, a0)), (1, (0, a1)), (2, (0, a2))] [] M (p_L_resend M a0 a1 a2) := by
  unfold p_L_resend
  refine XE.go (st_aload_n (j := 0) (i := 0) (pc' := 1) (by decide +kernel) rfl rfl (by decide) rfl) ?_
  refine XE.go (st_iload_n (j := 1) (i := 1) (pc' := 2) (by decide +kernel) rfl rfl rfl) ?_
  refine XE.go (st_iload_n (j := 2) (i := 2) (pc' := 3) (by decide +kernel) rfl rfl rfl) ?_
  refine XE.gd_ (fun g1 => ?_)
  refine XE.cTH (pc' := 6) (st := []) hf_L_resend (fun r hr => ct_X10_resend g1 r hr) (fun r hr => run_V (st := []) (by decide +kernel) co_L_resend_54 (ct_X10_resend g1 r hr) rfl g1 rfl rfl (Nat.le_of_ble_eq_true rfl)) rfl rfl (fun v2 M3 => ?_)
  exact XE.rt rfl (X_iret (by decide +kernel) rfl)
theorem ct_L_resend {D : Dt} {M : Mm} {a0 a1 a2 : Int} (r : (Int × Mm)) (hr : p_L_resend M a0 a1 a2 = some r) : CT D 1 mu_L_resend [(14, a0), (0, a1), (0, a2)] M (.inl (some (0, r.1))) r.2 := CT.of (by decide +kernel) rfl (Nat.le_of_ble_eq_true rfl) (xe_L_resend r hr)
def q_L_resend (M : Mm) (a0 a1 a2 : Int) : Option (Int × Mm) := ghq (p_L_resend M a0 a1 a2) ((p_G_resend M a0 a1 a2 15000).bind fun g => p_X11_resend g.2 12000 a1 a2)
theorem cq_L_resend {D : Dt} {M : Mm} {a0 a1 a2 : Int} (r : Int × Mm) (hr : q_L_resend M a0 a1 a2 = some r) : CT D 1 mu_L_resend [(14, a0), (0, a1), (0, a2)] M (.inl (some (0, r.1))) r.2 := CT_ghq (fun r hr => ct_L_resend r hr) hr
def p_L_begin (M : Mm) (a0 a1 : Int) : Option (Int × Mm) := gd (a0 ≠ 0) ((p_X10_begin M a0 a1).bind (hnT (fun x M => if x = 1 then some ((-97), M) else if x = 2 then some ((-98), M) else if x = 3 then some ((-99), M) else none) (fun v2 M3 => some (v2, M3))))
set_option maxRecDepth 100000 in
set_option maxHeartbeats 4000000 in
theorem xe_L_begin {D : Dt} {M : Mm} {a0 a1 : Int} : XE D 1 mu_L_begin (EW 0) 0 [(0, (14, a0)), (1, (0, a1))] [] M (p_L_begin M a0 a1) := by
  unfold p_L_begin
  refine XE.go (st_aload_n (j := 0) (i := 0) (pc' := 1) (by decide +kernel) rfl rfl (by decide) rfl) ?_
  refine XE.go (st_iload_n (j := 1) (i := 1) (pc' := 2) (by decide +kernel) rfl rfl rfl) ?_
  refine XE.gd_ (fun g1 => ?_)
  refine XE.cTH (pc' := 5) (st := []) hf_L_begin (fun r hr => ct_X10_begin g1 r hr) (fun r hr => run_V (st := []) (by decide +kernel) co_L_begin_58 (ct_X10_begin g1 r hr) rfl g1 rfl rfl (Nat.le_of_ble_eq_true rfl)) rfl rfl (fun v2 M3 => ?_)
  exact XE.rt rfl (X_iret (by decide +kernel) rfl)
theorem ct_L_begin {D : Dt} {M : Mm} {a0 a1 : Int} (r : (Int × Mm)) (hr : p_L_begin M a0 a1 = some r) : CT D 1 mu_L_begin [(14, a0), (0, a1)] M (.inl (some (0, r.1))) r.2 := CT.of (by decide +kernel) rfl (Nat.le_of_ble_eq_true rfl) (xe_L_begin r hr)
def q_L_begin (M : Mm) (a0 a1 : Int) : Option (Int × Mm) := ghq (p_L_begin M a0 a1) ((p_G_begin M a0 a1 15000).bind fun g => p_X11_begin g.2 12000 a1)
theorem cq_L_begin {D : Dt} {M : Mm} {a0 a1 : Int} (r : Int × Mm) (hr : q_L_begin M a0 a1 = some r) : CT D 1 mu_L_begin [(14, a0), (0, a1)] M (.inl (some (0, r.1))) r.2 := CT_ghq (fun r hr => ct_L_begin r hr) hr
def p_L_attach (M : Mm) (a0 a1 a2 a3 : Int) : Option (Int × Mm) := gd (a0 ≠ 0) ((p_X10_attach M a0 a1 a2 a3).bind (hnT (fun x M => if x = 1 then some ((-97), M) else if x = 2 then some ((-98), M) else if x = 3 then some ((-99), M) else none) (fun v2 M3 => some (v2, M3))))
set_option maxRecDepth 100000 in
set_option maxHeartbeats 4000000 in
theorem xe_L_attach {D : Dt} {M : Mm} {a0 a1 a2 a3 : Int} : XE D 1 mu_L_attach (EW 0) 0 [(0, (14, a0)), (1, (0, a1)), (2, (0, a2)), (3, (0, a3))] [] M (p_L_attach M a0 a1 a2 a3) := by
  unfold p_L_attach
  refine XE.go (st_aload_n (j := 0) (i := 0) (pc' := 1) (by decide +kernel) rfl rfl (by decide) rfl) ?_
  refine XE.go (st_iload_n (j := 1) (i := 1) (pc' := 2) (by decide +kernel) rfl rfl rfl) ?_
  refine XE.go (st_iload_n (j := 2) (i := 2) (pc' := 3) (by decide +kernel) rfl rfl rfl) ?_
  refine XE.go (st_iload_n (j := 3) (i := 3) (pc' := 4) (by decide +kernel) rfl rfl rfl) ?_
  refine XE.gd_ (fun g1 => ?_)
  refine XE.cTH (pc' := 7) (st := []) hf_L_attach (fun r hr => ct_X10_attach g1 r hr) (fun r hr => run_V (st := []) (by decide +kernel) co_L_attach_61 (ct_X10_attach g1 r hr) rfl g1 rfl rfl (Nat.le_of_ble_eq_true rfl)) rfl rfl (fun v2 M3 => ?_)
  exact XE.rt rfl (X_iret (by decide +kernel) rfl)
theorem ct_L_attach {D : Dt} {M : Mm} {a0 a1 a2 a3 : Int} (r : (Int × Mm)) (hr : p_L_attach M a0 a1 a2 a3 = some r) : CT D 1 mu_L_attach [(14, a0), (0, a1), (0, a2), (0, a3)] M (.inl (some (0, r.1))) r.2 := CT.of (by decide +kernel) rfl (Nat.le_of_ble_eq_true rfl) (xe_L_attach r hr)
def q_L_attach (M : Mm) (a0 a1 a2 a3 : Int) : Option (Int × Mm) := ghq (p_L_attach M a0 a1 a2 a3) ((p_G_attach M a0 a1 a2 a3 15000).bind fun g => p_X11_attach g.2 12000 a1 a2 a3)
theorem cq_L_attach {D : Dt} {M : Mm} {a0 a1 a2 a3 : Int} (r : Int × Mm) (hr : q_L_attach M a0 a1 a2 a3 = some r) : CT D 1 mu_L_attach [(14, a0), (0, a1), (0, a2), (0, a3)] M (.inl (some (0, r.1))) r.2 := CT_ghq (fun r hr => ct_L_attach r hr) hr
def p_L_commit (M : Mm) (a0 a1 : Int) : Option (Int × Mm) := gd (a0 ≠ 0) ((p_X10_commit M a0 a1).bind (hnT (fun x M => if x = 1 then some ((-97), M) else if x = 2 then some ((-98), M) else if x = 3 then some ((-99), M) else none) (fun v2 M3 => some (v2, M3))))
set_option maxRecDepth 100000 in
set_option maxHeartbeats 4000000 in
theorem xe_L_commit {D : Dt} {M : Mm} {a0 a1 : Int} : XE D 1 mu_L_commit (EW 0) 0 [(0, (14, a0)), (1, (0, a1))] [] M (p_L_commit M a0 a1) := by
  unfold p_L_commit
  refine XE.go (st_aload_n (j := 0) (i := 0) (pc' := 1) (by decide +kernel) rfl rfl (by decide) rfl) ?_
  refine XE.go (st_iload_n (j := 1) (i := 1) (pc' := 2) (by decide +kernel) rfl rfl rfl) ?_
  refine XE.gd_ (fun g1 => ?_)
  refine XE.cTH (pc' := 5) (st := []) hf_L_commit (fun r hr => ct_X10_commit g1 r hr) (fun r hr => run_V (st := []) (by decide +kernel) co_L_commit_65 (ct_X10_commit g1 r hr) rfl g1 rfl rfl (Nat.le_of_ble_eq_true rfl)) rfl rfl (fun v2 M3 => ?_)
  exact XE.rt rfl (X_iret (by decide +kernel) rfl)
theorem ct_L_commit {D : Dt} {M : Mm} {a0 a1 : Int} (r : (Int × Mm)) (hr : p_L_commit M a0 a1 = some r) : CT D 1 mu_L_commit [(14, a0), (0, a1)] M (.inl (some (0, r.1))) r.2 := CT.of (by decide +kernel) rfl (Nat.le_of_ble_eq_true rfl) (xe_L_commit r hr)
def q_L_commit (M : Mm) (a0 a1 : Int) : Option (Int × Mm) := ghq (p_L_commit M a0 a1) ((p_G_commit M a0 a1 15000).bind fun g => p_X11_commit g.2 12000 a1)
theorem cq_L_commit {D : Dt} {M : Mm} {a0 a1 : Int} (r : Int × Mm) (hr : q_L_commit M a0 a1 = some r) : CT D 1 mu_L_commit [(14, a0), (0, a1)] M (.inl (some (0, r.1))) r.2 := CT_ghq (fun r hr => ct_L_commit r hr) hr
def p_L_abort (M : Mm) (a0 a1 : Int) : Option (Int × Mm) := gd (a0 ≠ 0) ((p_X10_abort M a0 a1).bind (hnT (fun x M => if x = 1 then some ((-97), M) else if x = 2 then some ((-98), M) else if x = 3 then some ((-99), M) else none) (fun v2 M3 => some (v2, M3))))
set_option maxRecDepth 100000 in
set_option maxHeartbeats 4000000 in
theorem xe_L_abort {D : Dt} {M : Mm} {a0 a1 : Int} : XE D 1 mu_L_abort (EW 0) 0 [(0, (14, a0)), (1, (0, a1))] [] M (p_L_abort M a0 a1) := by
  unfold p_L_abort
  refine XE.go (st_aload_n (j := 0) (i := 0) (pc' := 1) (by decide +kernel) rfl rfl (by decide) rfl) ?_
  refine XE.go (st_iload_n (j := 1) (i := 1) (pc' := 2) (by decide +kernel) rfl rfl rfl) ?_
  refine XE.gd_ (fun g1 => ?_)
  refine XE.cTH (pc' := 5) (st := []) hf_L_abort (fun r hr => ct_X10_abort g1 r hr) (fun r hr => run_V (st := []) (by decide +kernel) co_L_abort_68 (ct_X10_abort g1 r hr) rfl g1 rfl rfl (Nat.le_of_ble_eq_true rfl)) rfl rfl (fun v2 M3 => ?_)
  exact XE.rt rfl (X_iret (by decide +kernel) rfl)
theorem ct_L_abort {D : Dt} {M : Mm} {a0 a1 : Int} (r : (Int × Mm)) (hr : p_L_abort M a0 a1 = some r) : CT D 1 mu_L_abort [(14, a0), (0, a1)] M (.inl (some (0, r.1))) r.2 := CT.of (by decide +kernel) rfl (Nat.le_of_ble_eq_true rfl) (xe_L_abort r hr)
def q_L_abort (M : Mm) (a0 a1 : Int) : Option (Int × Mm) := ghq (p_L_abort M a0 a1) ((p_G_abort M a0 a1 15000).bind fun g => p_X11_abort g.2 12000 a1)
theorem cq_L_abort {D : Dt} {M : Mm} {a0 a1 : Int} (r : Int × Mm) (hr : q_L_abort M a0 a1 = some r) : CT D 1 mu_L_abort [(14, a0), (0, a1)] M (.inl (some (0, r.1))) r.2 := CT_ghq (fun r hr => ct_L_abort r hr) hr
def p_L_group (M : Mm) (a0 a1 : Int) : Option (Int × Mm) := gd (a0 ≠ 0) ((p_X10_group M a0 a1).bind (hnT (fun x M => if x = 1 then some ((-97), M) else if x = 2 then some ((-98), M) else if x = 3 then some ((-99), M) else none) (fun v2 M3 => some (v2, M3))))
set_option maxRecDepth 100000 in
set_option maxHeartbeats 4000000 in
theorem xe_L_group {D : Dt} {M : Mm} {a0 a1 : Int} : XE D 1 mu_L_group (EW 0) 0 [(0, (14, a0)), (1, (0, a1))] [] M (p_L_group M a0 a1) := by
  unfold p_L_group
  refine XE.go (st_aload_n (j := 0) (i := 0) (pc' := 1) (by decide +kernel) rfl rfl (by decide) rfl) ?_
  refine XE.go (st_iload_n (j := 1) (i := 1) (pc' := 2) (by decide +kernel) rfl rfl rfl) ?_
  refine XE.gd_ (fun g1 => ?_)
  refine XE.cTH (pc' := 5) (st := []) hf_L_group (fun r hr => ct_X10_group g1 r hr) (fun r hr => run_V (st := []) (by decide +kernel) co_L_group_71 (ct_X10_group g1 r hr) rfl g1 rfl rfl (Nat.le_of_ble_eq_true rfl)) rfl rfl (fun v2 M3 => ?_)
  exact XE.rt rfl (X_iret (by decide +kernel) rfl)
theorem ct_L_group {D : Dt} {M : Mm} {a0 a1 : Int} (r : (Int × Mm)) (hr : p_L_group M a0 a1 = some r) : CT D 1 mu_L_group [(14, a0), (0, a1)] M (.inl (some (0, r.1))) r.2 := CT.of (by decide +kernel) rfl (Nat.le_of_ble_eq_true rfl) (xe_L_group r hr)
def q_L_group (M : Mm) (a0 a1 : Int) : Option (Int × Mm) := ghq (p_L_group M a0 a1) ((p_G_group M a0 a1 15000).bind fun g => p_X11_group g.2 12000 a1)
theorem cq_L_group {D : Dt} {M : Mm} {a0 a1 : Int} (r : Int × Mm) (hr : q_L_group M a0 a1 = some r) : CT D 1 mu_L_group [(14, a0), (0, a1)] M (.inl (some (0, r.1))) r.2 := CT_ghq (fun r hr => ct_L_group r hr) hr
def p_L_join (M : Mm) (a0 a1 : Int) : Option (Int × Mm) := gd (a0 ≠ 0) ((p_X10_join M a0 a1).bind (hnT (fun x M => if x = 1 then some ((-97), M) else if x = 2 then some ((-98), M) else if x = 3 then some ((-99), M) else none) (fun v2 M3 => some (v2, M3))))
set_option maxRecDepth 100000 in
set_option maxHeartbeats 4000000 in
theorem xe_L_join {D : Dt} {M : Mm} {a0 a1 : Int} : XE D 1 mu_L_join (EW 0) 0 [(0, (14, a0)), (1, (0, a1))] [] M (p_L_join M a0 a1) := by
  unfold p_L_join
  refine XE.go (st_aload_n (j := 0) (i := 0) (pc' := 1) (by decide +kernel) rfl rfl (by decide) rfl) ?_
  refine XE.go (st_iload_n (j := 1) (i := 1) (pc' := 2) (by decide +kernel) rfl rfl rfl) ?_
  refine XE.gd_ (fun g1 => ?_)
  refine XE.cTH (pc' := 5) (st := []) hf_L_join (fun r hr => ct_X10_join g1 r hr) (fun r hr => run_V (st := []) (by decide +kernel) co_L_join_74 (ct_X10_join g1 r hr) rfl g1 rfl rfl (Nat.le_of_ble_eq_true rfl)) rfl rfl (fun v2 M3 => ?_)
  exact XE.rt rfl (X_iret (by decide +kernel) rfl)
theorem ct_L_join {D : Dt} {M : Mm} {a0 a1 : Int} (r : (Int × Mm)) (hr : p_L_join M a0 a1 = some r) : CT D 1 mu_L_join [(14, a0), (0, a1)] M (.inl (some (0, r.1))) r.2 := CT.of (by decide +kernel) rfl (Nat.le_of_ble_eq_true rfl) (xe_L_join r hr)
def q_L_join (M : Mm) (a0 a1 : Int) : Option (Int × Mm) := ghq (p_L_join M a0 a1) ((p_G_join M a0 a1 15000).bind fun g => p_X11_join g.2 12000 a1)
theorem cq_L_join {D : Dt} {M : Mm} {a0 a1 : Int} (r : Int × Mm) (hr : q_L_join M a0 a1 = some r) : CT D 1 mu_L_join [(14, a0), (0, a1)] M (.inl (some (0, r.1))) r.2 := CT_ghq (fun r hr => ct_L_join r hr) hr
def p_L_leave (M : Mm) (a0 a1 a2 : Int) : Option (Int × Mm) := gd (a0 ≠ 0) ((p_X10_leave M a0 a1 a2).bind (hnT (fun x M => if x = 1 then some ((-97), M) else if x = 2 then some ((-98), M) else if x = 3 then some ((-99), M) else none) (fun v2 M3 => some (v2, M3))))
set_option maxRecDepth 100000 in
set_option maxHeartbeats 4000000 in
theorem xe_L_leave {D : Dt} {M : Mm} {a0 a1 a2 : Int} : XE D 1 mu_L_leave (EW 0) 0 [(0, (14, a0)), (1, (0, a1)), (2, (0, a2))] [] M (p_L_leave M a0 a1 a2) := by
  unfold p_L_leave
  refine XE.go (st_aload_n (j := 0) (i := 0) (pc' := 1) (by decide +kernel) rfl rfl (by decide) rfl) ?_
  refine XE.go (st_iload_n (j := 1) (i := 1) (pc' := 2) (by decide +kernel) rfl rfl rfl) ?_
  refine XE.go (st_iload_n (j := 2) (i := 2) (pc' := 3) (by decide +kernel) rfl rfl rfl) ?_
  refine XE.gd_ (fun g1 => ?_)
  refine XE.cTH (pc' := 6) (st := []) hf_L_leave (fun r hr => ct_X10_leave g1 r hr) (fun r hr => run_V (st := []) (by decide +kernel) co_L_leave_77 (ct_X10_leave g1 r hr) rfl g1 rfl rfl (Nat.le_of_ble_eq_true rfl)) rfl rfl (fun v2 M3 => ?_)
  exact XE.rt rfl (X_iret (by decide +kernel) rfl)
theorem ct_L_leave {D : Dt} {M : Mm} {a0 a1 a2 : Int} (r : (Int × Mm)) (hr : p_L_leave M a0 a1 a2 = some r) : CT D 1 mu_L_leave [(14, a0), (0, a1), (0, a2)] M (.inl (some (0, r.1))) r.2 := CT.of (by decide +kernel) rfl (Nat.le_of_ble_eq_true rfl) (xe_L_leave r hr)
def q_L_leave (M : Mm) (a0 a1 a2 : Int) : Option (Int × Mm) := ghq (p_L_leave M a0 a1 a2) ((p_G_leave M a0 a1 a2 15000).bind fun g => p_X11_leave g.2 12000 a1 a2)
theorem cq_L_leave {D : Dt} {M : Mm} {a0 a1 a2 : Int} (r : Int × Mm) (hr : q_L_leave M a0 a1 a2 = some r) : CT D 1 mu_L_leave [(14, a0), (0, a1), (0, a2)] M (.inl (some (0, r.1))) r.2 := CT_ghq (fun r hr => ct_L_leave r hr) hr
def p_L_beat (M : Mm) (a0 a1 a2 : Int) : Option (Int × Mm) := gd (a0 ≠ 0) ((p_X10_beat M a0 a1 a2).bind (hnT (fun x M => if x = 1 then some ((-97), M) else if x = 2 then some ((-98), M) else if x = 3 then some ((-99), M) else none) (fun v2 M3 => some (v2, M3))))
set_option maxRecDepth 100000 in
set_option maxHeartbeats 4000000 in
theorem xe_L_beat {D : Dt} {M : Mm} {a0 a1 a2 : Int} : XE D 1 mu_L_beat (EW 0) 0 [(0, (14, a0)), (1, (0, a1)), (2, (0, a2))] [] M (p_L_beat M a0 a1 a2) := by
  unfold p_L_beat
  refine XE.go (st_aload_n (j := 0) (i := 0) (pc' := 1) (by decide +kernel) rfl rfl (by decide) rfl) ?_
  refine XE.go (st_iload_n (j := 1) (i := 1) (pc' := 2) (by decide +kernel) rfl rfl rfl) ?_
  refine XE.go (st_iload_n (j := 2) (i := 2) (pc' := 3) (by decide +kernel) rfl rfl rfl) ?_
  refine XE.gd_ (fun g1 => ?_)
  refine XE.cTH (pc' := 6) (st := []) hf_L_beat (fun r hr => ct_X10_beat g1 r hr) (fun r hr => run_V (st := []) (by decide +kernel) co_L_beat_80 (ct_X10_beat g1 r hr) rfl g1 rfl rfl (Nat.le_of_ble_eq_true rfl)) rfl rfl (fun v2 M3 => ?_)
  exact XE.rt rfl (X_iret (by decide +kernel) rfl)
theorem ct_L_beat {D : Dt} {M : Mm} {a0 a1 a2 : Int} (r : (Int × Mm)) (hr : p_L_beat M a0 a1 a2 = some r) : CT D 1 mu_L_beat [(14, a0), (0, a1), (0, a2)] M (.inl (some (0, r.1))) r.2 := CT.of (by decide +kernel) rfl (Nat.le_of_ble_eq_true rfl) (xe_L_beat r hr)
def q_L_beat (M : Mm) (a0 a1 a2 : Int) : Option (Int × Mm) := ghq (p_L_beat M a0 a1 a2) ((p_G_beat M a0 a1 a2 15000).bind fun g => p_X11_beat g.2 12000 a1 a2)
theorem cq_L_beat {D : Dt} {M : Mm} {a0 a1 a2 : Int} (r : Int × Mm) (hr : q_L_beat M a0 a1 a2 = some r) : CT D 1 mu_L_beat [(14, a0), (0, a1), (0, a2)] M (.inl (some (0, r.1))) r.2 := CT_ghq (fun r hr => ct_L_beat r hr) hr
def p_L_read (M : Mm) (a0 a1 a2 : Int) : Option (Int × Mm) := gd (a0 ≠ 0) ((p_X10_read M a0 a1 a2).bind (hnT (fun x M => if x = 1 then some ((-97), M) else if x = 2 then some ((-98), M) else if x = 3 then some ((-99), M) else none) (fun v2 M3 => some (v2, M3))))
set_option maxRecDepth 100000 in
set_option maxHeartbeats 4000000 in
theorem xe_L_read {D : Dt} {M : Mm} {a0 a1 a2 : Int} : XE D 1 mu_L_read (EW 0) 0 [(0, (14, a0)), (1, (0, a1)), (2, (0, a2))] [] M (p_L_read M a0 a1 a2) := by
  unfold p_L_read
  refine XE.go (st_aload_n (j := 0) (i := 0) (pc' := 1) (by decide +kernel) rfl rfl (by decide) rfl) ?_
  refine XE.go (st_iload_n (j := 1) (i := 1) (pc' := 2) (by decide +kernel) rfl rfl rfl) ?_
  refine XE.go (st_iload_n (j := 2) (i := 2) (pc' := 3) (by decide +kernel) rfl rfl rfl) ?_
  refine XE.gd_ (fun g1 => ?_)
  refine XE.cTH (pc' := 6) (st := []) hf_L_read (fun r hr => ct_X10_read g1 r hr) (fun r hr => run_V (st := []) (by decide +kernel) co_L_read_83 (ct_X10_read g1 r hr) rfl g1 rfl rfl (Nat.le_of_ble_eq_true rfl)) rfl rfl (fun v2 M3 => ?_)
  exact XE.rt rfl (X_iret (by decide +kernel) rfl)
theorem ct_L_read {D : Dt} {M : Mm} {a0 a1 a2 : Int} (r : (Int × Mm)) (hr : p_L_read M a0 a1 a2 = some r) : CT D 1 mu_L_read [(14, a0), (0, a1), (0, a2)] M (.inl (some (0, r.1))) r.2 := CT.of (by decide +kernel) rfl (Nat.le_of_ble_eq_true rfl) (xe_L_read r hr)
def q_L_read (M : Mm) (a0 a1 a2 : Int) : Option (Int × Mm) := ghq (p_L_read M a0 a1 a2) ((p_G_read M a0 a1 a2 15000).bind fun g => p_X11_read g.2 12000 a1 a2)
theorem cq_L_read {D : Dt} {M : Mm} {a0 a1 a2 : Int} (r : Int × Mm) (hr : q_L_read M a0 a1 a2 = some r) : CT D 1 mu_L_read [(14, a0), (0, a1), (0, a2)] M (.inl (some (0, r.1))) r.2 := CT_ghq (fun r hr => ct_L_read r hr) hr
def p_L_done (M : Mm) (a0 a1 a2 a3 : Int) : Option (Int × Mm) := gd (a0 ≠ 0) ((p_X10_done M a0 a1 a2 a3).bind (hnT (fun x M => if x = 1 then some ((-97), M) else if x = 2 then some ((-98), M) else if x = 3 then some ((-99), M) else none) (fun v2 M3 => some (v2, M3))))
set_option maxRecDepth 100000 in
set_option maxHeartbeats 4000000 in
theorem xe_L_done {D : Dt} {M : Mm} {a0 a1 a2 a3 : Int} : XE D 1 mu_L_done (EW 0) 0 [(0, (14, a0)), (1, (0, a1)), (2, (0, a2)), (3, (0, a3))] [] M (p_L_done M a0 a1 a2 a3) := by
  unfold p_L_done
  refine XE.go (st_aload_n (j := 0) (i := 0) (pc' := 1) (by decide +kernel) rfl rfl (by decide) rfl) ?_
  refine XE.go (st_iload_n (j := 1) (i := 1) (pc' := 2) (by decide +kernel) rfl rfl rfl) ?_
  refine XE.go (st_iload_n (j := 2) (i := 2) (pc' := 3) (by decide +kernel) rfl rfl rfl) ?_
  refine XE.go (st_iload_n (j := 3) (i := 3) (pc' := 4) (by decide +kernel) rfl rfl rfl) ?_
  refine XE.gd_ (fun g1 => ?_)
  refine XE.cTH (pc' := 7) (st := []) hf_L_done (fun r hr => ct_X10_done g1 r hr) (fun r hr => run_V (st := []) (by decide +kernel) co_L_done_86 (ct_X10_done g1 r hr) rfl g1 rfl rfl (Nat.le_of_ble_eq_true rfl)) rfl rfl (fun v2 M3 => ?_)
  exact XE.rt rfl (X_iret (by decide +kernel) rfl)
theorem ct_L_done {D : Dt} {M : Mm} {a0 a1 a2 a3 : Int} (r : (Int × Mm)) (hr : p_L_done M a0 a1 a2 a3 = some r) : CT D 1 mu_L_done [(14, a0), (0, a1), (0, a2), (0, a3)] M (.inl (some (0, r.1))) r.2 := CT.of (by decide +kernel) rfl (Nat.le_of_ble_eq_true rfl) (xe_L_done r hr)
def q_L_done (M : Mm) (a0 a1 a2 a3 : Int) : Option (Int × Mm) := ghq (p_L_done M a0 a1 a2 a3) ((p_G_done M a0 a1 a2 a3 15000).bind fun g => p_X11_done g.2 12000 a1 a2 a3)
theorem cq_L_done {D : Dt} {M : Mm} {a0 a1 a2 a3 : Int} (r : Int × Mm) (hr : q_L_done M a0 a1 a2 a3 = some r) : CT D 1 mu_L_done [(14, a0), (0, a1), (0, a2), (0, a3)] M (.inl (some (0, r.1))) r.2 := CT_ghq (fun r hr => ct_L_done r hr) hr
def p_L_retry (M : Mm) (a0 a1 a2 a3 : Int) : Option (Int × Mm) := gd (a0 ≠ 0) ((p_X10_retry M a0 a1 a2 a3).bind (hnT (fun x M => if x = 1 then some ((-97), M) else if x = 2 then some ((-98), M) else if x = 3 then some ((-99), M) else none) (fun v2 M3 => some (v2, M3))))
set_option maxRecDepth 100000 in
set_option maxHeartbeats 4000000 in
theorem xe_L_retry {D : Dt} {M : Mm} {a0 a1 a2 a3 : Int} : XE D 1 mu_L_retry (EW 0) 0 [(0, (14, a0)), (1, (0, a1)), (2, (0, a2)), (3, (0, a3))] [] M (p_L_retry M a0 a1 a2 a3) := by
  unfold p_L_retry
  refine XE.go (st_aload_n (j := 0) (i := 0) (pc' := 1) (by decide +kernel) rfl rfl (by decide) rfl) ?_
  refine XE.go (st_iload_n (j := 1) (i := 1) (pc' := 2) (by decide +kernel) rfl rfl rfl) ?_
  refine XE.go (st_iload_n (j := 2) (i := 2) (pc' := 3) (by decide +kernel) rfl rfl rfl) ?_
  refine XE.go (st_iload_n (j := 3) (i := 3) (pc' := 4) (by decide +kernel) rfl rfl rfl) ?_
  refine XE.gd_ (fun g1 => ?_)
  refine XE.cTH (pc' := 7) (st := []) hf_L_retry (fun r hr => ct_X10_retry g1 r hr) (fun r hr => run_V (st := []) (by decide +kernel) co_L_retry_89 (ct_X10_retry g1 r hr) rfl g1 rfl rfl (Nat.le_of_ble_eq_true rfl)) rfl rfl (fun v2 M3 => ?_)
  exact XE.rt rfl (X_iret (by decide +kernel) rfl)
theorem ct_L_retry {D : Dt} {M : Mm} {a0 a1 a2 a3 : Int} (r : (Int × Mm)) (hr : p_L_retry M a0 a1 a2 a3 = some r) : CT D 1 mu_L_retry [(14, a0), (0, a1), (0, a2), (0, a3)] M (.inl (some (0, r.1))) r.2 := CT.of (by decide +kernel) rfl (Nat.le_of_ble_eq_true rfl) (xe_L_retry r hr)
def q_L_retry (M : Mm) (a0 a1 a2 a3 : Int) : Option (Int × Mm) := ghq (p_L_retry M a0 a1 a2 a3) ((p_G_retry M a0 a1 a2 a3 15000).bind fun g => p_X11_retry g.2 12000 a1 a2 a3)
theorem cq_L_retry {D : Dt} {M : Mm} {a0 a1 a2 a3 : Int} (r : Int × Mm) (hr : q_L_retry M a0 a1 a2 a3 = some r) : CT D 1 mu_L_retry [(14, a0), (0, a1), (0, a2), (0, a3)] M (.inl (some (0, r.1))) r.2 := CT_ghq (fun r hr => ct_L_retry r hr) hr
def p_L_commitOffsets (M : Mm) (a0 a1 a2 : Int) : Option (Int × Mm) := gd (a0 ≠ 0) ((p_X10_commitOffsets M a0 a1 a2).bind (hnT (fun x M => if x = 1 then some ((-97), M) else if x = 2 then some ((-98), M) else if x = 3 then some ((-99), M) else none) (fun v2 M3 => some (v2, M3))))
set_option maxRecDepth 100000 in
set_option maxHeartbeats 4000000 in
theorem xe_L_commitOffsets {D : Dt} {M : Mm} {a0 a1 a2 : Int} : XE D 1 mu_L_commitOffsets (EW 0) 0 [(0, (14, a0)), (1, (0, a1)), (2, (0, a2))] [] M (p_L_commitOffsets M a0 a1 a2) := by
  unfold p_L_commitOffsets
  refine XE.go (st_aload_n (j := 0) (i := 0) (pc' := 1) (by decide +kernel) rfl rfl (by decide) rfl) ?_
  refine XE.go (st_iload_n (j := 1) (i := 1) (pc' := 2) (by decide +kernel) rfl rfl rfl) ?_
  refine XE.go (st_iload_n (j := 2) (i := 2) (pc' := 3) (by decide +kernel) rfl rfl rfl) ?_
  refine XE.gd_ (fun g1 => ?_)
  refine XE.cTH (pc' := 6) (st := []) hf_L_commitOffsets (fun r hr => ct_X10_commitOffsets g1 r hr) (fun r hr => run_V (st := []) (by decide +kernel) co_L_commitOffsets_92 (ct_X10_commitOffsets g1 r hr) rfl g1 rfl rfl (Nat.le_of_ble_eq_true rfl)) rfl rfl (fun v2 M3 => ?_)
  exact XE.rt rfl (X_iret (by decide +kernel) rfl)
theorem ct_L_commitOffsets {D : Dt} {M : Mm} {a0 a1 a2 : Int} (r : (Int × Mm)) (hr : p_L_commitOffsets M a0 a1 a2 = some r) : CT D 1 mu_L_commitOffsets [(14, a0), (0, a1), (0, a2)] M (.inl (some (0, r.1))) r.2 := CT.of (by decide +kernel) rfl (Nat.le_of_ble_eq_true rfl) (xe_L_commitOffsets r hr)
def q_L_commitOffsets (M : Mm) (a0 a1 a2 : Int) : Option (Int × Mm) := ghq (p_L_commitOffsets M a0 a1 a2) ((p_G_commitOffsets M a0 a1 a2 15000).bind fun g => p_X11_commitOffsets g.2 12000 a1 a2)
theorem cq_L_commitOffsets {D : Dt} {M : Mm} {a0 a1 a2 : Int} (r : Int × Mm) (hr : q_L_commitOffsets M a0 a1 a2 = some r) : CT D 1 mu_L_commitOffsets [(14, a0), (0, a1), (0, a2)] M (.inl (some (0, r.1))) r.2 := CT_ghq (fun r hr => ct_L_commitOffsets r hr) hr
def p_L_message (M : Mm) (a0 a1 a2 : Int) : Option (Int × Mm) := gd (a0 ≠ 0) ((p_X10_message M a0 a1 a2).bind (hnT (fun x M => if x = 1 then some ((-97), M) else if x = 2 then some ((-98), M) else if x = 3 then some ((-99), M) else none) (fun v2 M3 => some (v2, M3))))
set_option maxRecDepth 100000 in
set_option maxHeartbeats 4000000 in
theorem xe_L_message {D : Dt} {M : Mm} {a0 a1 a2 : Int} : XE D 1 mu_L_message (EW 0) 0 [(0, (14, a0)), (1, (0, a1)), (2, (0, a2))] [] M (p_L_message M a0 a1 a2) := by
  unfold p_L_message
  refine XE.go (st_aload_n (j := 0) (i := 0) (pc' := 1) (by decide +kernel) rfl rfl (by decide) rfl) ?_
  refine XE.go (st_iload_n (j := 1) (i := 1) (pc' := 2) (by decide +kernel) rfl rfl rfl) ?_
  refine XE.go (st_iload_n (j := 2) (i := 2) (pc' := 3) (by decide +kernel) rfl rfl rfl) ?_
  refine XE.gd_ (fun g1 => ?_)
  refine XE.cTH (pc' := 6) (st := []) hf_L_message (fun r hr => ct_X10_message g1 r hr) (fun r hr => run_V (st := []) (by decide +kernel) co_L_message_95 (ct_X10_message g1 r hr) rfl g1 rfl rfl (Nat.le_of_ble_eq_true rfl)) rfl rfl (fun v2 M3 => ?_)
  exact XE.rt rfl (X_iret (by decide +kernel) rfl)
theorem ct_L_message {D : Dt} {M : Mm} {a0 a1 a2 : Int} (r : (Int × Mm)) (hr : p_L_message M a0 a1 a2 = some r) : CT D 1 mu_L_message [(14, a0), (0, a1), (0, a2)] M (.inl (some (0, r.1))) r.2 := CT.of (by decide +kernel) rfl (Nat.le_of_ble_eq_true rfl) (xe_L_message r hr)
def q_L_message (M : Mm) (a0 a1 a2 : Int) : Option (Int × Mm) := ghq (p_L_message M a0 a1 a2) ((p_G_message M a0 a1 a2 15000).bind fun g => p_X11_message g.2 12000 a1 a2)
theorem cq_L_message {D : Dt} {M : Mm} {a0 a1 a2 : Int} (r : Int × Mm) (hr : q_L_message M a0 a1 a2 = some r) : CT D 1 mu_L_message [(14, a0), (0, a1), (0, a2)] M (.inl (some (0, r.1))) r.2 := CT_ghq (fun r hr => ct_L_message r hr) hr
def p_L_at (M : Mm) (a0 a1 a2 : Int) : Option (Int × Mm) := gd (a0 ≠ 0) ((p_X10_at M a0 a1 a2).bind (hnT (fun x M => if x = 1 then some ((-97), M) else if x = 2 then some ((-98), M) else if x = 3 then some ((-99), M) else none) (fun v2 M3 => some (v2, M3))))
set_option maxRecDepth 100000 in
set_option maxHeartbeats 4000000 in
theorem xe_L_at {D : Dt} {M : Mm} {a0 a1 a2 : Int} : XE D 1 mu_L_at (EW 0) 0 [(0, (14, a0)), (1, (0, a1)), (2, (0, a2))] [] M (p_L_at M a0 a1 a2) := by
  unfold p_L_at
  refine XE.go (st_aload_n (j := 0) (i := 0) (pc' := 1) (by decide +kernel) rfl rfl (by decide) rfl) ?_
  refine XE.go (st_iload_n (j := 1) (i := 1) (pc' := 2) (by decide +kernel) rfl rfl rfl) ?_
  refine XE.go (st_iload_n (j := 2) (i := 2) (pc' := 3) (by decide +kernel) rfl rfl rfl) ?_
  refine XE.gd_ (fun g1 => ?_)
  refine XE.cTH (pc' := 6) (st := []) hf_L_at (fun r hr => ct_X10_at g1 r hr) (fun r hr => run_V (st := []) (by decide +kernel) co_L_at_98 (ct_X10_at g1 r hr) rfl g1 rfl rfl (Nat.le_of_ble_eq_true rfl)) rfl rfl (fun v2 M3 => ?_)
  exact XE.rt rfl (X_iret (by decide +kernel) rfl)
theorem ct_L_at {D : Dt} {M : Mm} {a0 a1 a2 : Int} (r : (Int × Mm)) (hr : p_L_at M a0 a1 a2 = some r) : CT D 1 mu_L_at [(14, a0), (0, a1), (0, a2)] M (.inl (some (0, r.1))) r.2 := CT.of (by decide +kernel) rfl (Nat.le_of_ble_eq_true rfl) (xe_L_at r hr)
def q_L_at (M : Mm) (a0 a1 a2 : Int) : Option (Int × Mm) := ghq (p_L_at M a0 a1 a2) ((p_G_at M a0 a1 a2 15000).bind fun g => p_X11_at g.2 12000 a1 a2)
theorem cq_L_at {D : Dt} {M : Mm} {a0 a1 a2 : Int} (r : Int × Mm) (hr : q_L_at M a0 a1 a2 = some r) : CT D 1 mu_L_at [(14, a0), (0, a1), (0, a2)] M (.inl (some (0, r.1))) r.2 := CT_ghq (fun r hr => ct_L_at r hr) hr
def p_L_partition (M : Mm) (a0 a1 a2 : Int) : Option (Int × Mm) := gd (a0 ≠ 0) ((p_X10_partition M a0 a1 a2).bind (hnT (fun x M => if x = 1 then some ((-97), M) else if x = 2 then some ((-98), M) else if x = 3 then some ((-99), M) else none) (fun v2 M3 => some (v2, M3))))
set_option maxRecDepth 100000 in
set_option maxHeartbeats 4000000 in
theorem xe_L_partition {D : Dt} {M : Mm} {a0 a1 a2 : Int} : XE D 1 mu_L_partition (EW 0) 0 [(0, (14, a0)), (1, (0, a1)), (2, (0, a2))] [] M (p_L_partition M a0 a1 a2) := by
  unfold p_L_partition
  refine XE.go (st_aload_n (j := 0) (i := 0) (pc' := 1) (by decide +kernel) rfl rfl (by decide) rfl) ?_
  refine XE.go (st_iload_n (j := 1) (i := 1) (pc' := 2) (by decide +kernel) rfl rfl rfl) ?_
  refine XE.go (st_iload_n (j := 2) (i := 2) (pc' := 3) (by decide +kernel) rfl rfl rfl) ?_
  refine XE.gd_ (fun g1 => ?_)
  refine XE.cTH (pc' := 6) (st := []) hf_L_partition (fun r hr => ct_X10_partition g1 r hr) (fun r hr => run_V (st := []) (by decide +kernel) co_L_partition_101 (ct_X10_partition g1 r hr) rfl g1 rfl rfl (Nat.le_of_ble_eq_true rfl)) rfl rfl (fun v2 M3 => ?_)
  exact XE.rt rfl (X_iret (by decide +kernel) rfl)
theorem ct_L_partition {D : Dt} {M : Mm} {a0 a1 a2 : Int} (r : (Int × Mm)) (hr : p_L_partition M a0 a1 a2 = some r) : CT D 1 mu_L_partition [(14, a0), (0, a1), (0, a2)] M (.inl (some (0, r.1))) r.2 := CT.of (by decide +kernel) rfl (Nat.le_of_ble_eq_true rfl) (xe_L_partition r hr)
def q_L_partition (M : Mm) (a0 a1 a2 : Int) : Option (Int × Mm) := ghq (p_L_partition M a0 a1 a2) ((p_G_partition M a0 a1 a2 15000).bind fun g => p_X11_partition g.2 12000 a1 a2)
theorem cq_L_partition {D : Dt} {M : Mm} {a0 a1 a2 : Int} (r : Int × Mm) (hr : q_L_partition M a0 a1 a2 = some r) : CT D 1 mu_L_partition [(14, a0), (0, a1), (0, a2)] M (.inl (some (0, r.1))) r.2 := CT_ghq (fun r hr => ct_L_partition r hr) hr
def p_L_value (M : Mm) (a0 a1 a2 : Int) : Option (Int × Mm) := gd (a0 ≠ 0) ((p_X10_value M a0 a1 a2).bind (hnT (fun x M => if x = 1 then some ((-97), M) else if x = 2 then some ((-98), M) else if x = 3 then some ((-99), M) else none) (fun v2 M3 => some (v2, M3))))
set_option maxRecDepth 100000 in
set_option maxHeartbeats 4000000 in
theorem xe_L_value {D : Dt} {M : Mm} {a0 a1 a2 : Int} : XE D 1 mu_L_value (EW 0) 0 [(0, (14, a0)), (1, (0, a1)), (2, (0, a2))] [] M (p_L_value M a0 a1 a2) := by
  unfold p_L_value
  refine XE.go (st_aload_n (j := 0) (i := 0) (pc' := 1) (by decide +kernel) rfl rfl (by decide) rfl) ?_
  refine XE.go (st_iload_n (j := 1) (i := 1) (pc' := 2) (by decide +kernel) rfl rfl rfl) ?_
  refine XE.go (st_iload_n (j := 2) (i := 2) (pc' := 3) (by decide +kernel) rfl rfl rfl) ?_
  refine XE.gd_ (fun g1 => ?_)
  refine XE.cTH (pc' := 6) (st := []) hf_L_value (fun r hr => ct_X10_value g1 r hr) (fun r hr => run_V (st := []) (by decide +kernel) co_L_value_104 (ct_X10_value g1 r hr) rfl g1 rfl rfl (Nat.le_of_ble_eq_true rfl)) rfl rfl (fun v2 M3 => ?_)
  exact XE.rt rfl (X_iret (by decide +kernel) rfl)
theorem ct_L_value {D : Dt} {M : Mm} {a0 a1 a2 : Int} (r : (Int × Mm)) (hr : p_L_value M a0 a1 a2 = some r) : CT D 1 mu_L_value [(14, a0), (0, a1), (0, a2)] M (.inl (some (0, r.1))) r.2 := CT.of (by decide +kernel) rfl (Nat.le_of_ble_eq_true rfl) (xe_L_value r hr)
def q_L_value (M : Mm) (a0 a1 a2 : Int) : Option (Int × Mm) := ghq (p_L_value M a0 a1 a2) ((p_G_value M a0 a1 a2 15000).bind fun g => p_X11_value g.2 12000 a1 a2)
theorem cq_L_value {D : Dt} {M : Mm} {a0 a1 a2 : Int} (r : Int × Mm) (hr : q_L_value M a0 a1 a2 = some r) : CT D 1 mu_L_value [(14, a0), (0, a1), (0, a2)] M (.inl (some (0, r.1))) r.2 := CT_ghq (fun r hr => ct_L_value r hr) hr
def p_L_share (M : Mm) (a0 a1 a2 a3 : Int) : Option (Int × Mm) := gd (a0 ≠ 0) ((p_X10_share M a0 a1 a2 a3).bind (hnT (fun x M => if x = 1 then some ((-97), M) else if x = 2 then some ((-98), M) else if x = 3 then some ((-99), M) else none) (fun v2 M3 => some (v2, M3))))
set_option maxRecDepth 100000 in
set_option maxHeartbeats 4000000 in
theorem xe_L_share {D : Dt} {M : Mm} {a0 a1 a2 a3 : Int} : XE D 1 mu_L_share (EW 0) 0 [(0, (14, a0)), (1, (0, a1)), (2, (0, a2)), (3, (0, a3))] [] M (p_L_share M a0 a1 a2 a3) := by
  unfold p_L_share
  refine XE.go (st_aload_n (j := 0) (i := 0) (pc' := 1) (by decide +kernel) rfl rfl (by decide) rfl) ?_
  refine XE.go (st_iload_n (j := 1) (i := 1) (pc' := 2) (by decide +kernel) rfl rfl rfl) ?_
  refine XE.go (st_iload_n (j := 2) (i := 2) (pc' := 3) (by decide +kernel) rfl rfl rfl) ?_
  refine XE.go (st_iload_n (j := 3) (i := 3) (pc' := 4) (by decide +kernel) rfl rfl rfl) ?_
  refine XE.gd_ (fun g1 => ?_)
  refine XE.cTH (pc' := 7) (st := []) hf_L_share (fun r hr => ct_X10_share g1 r hr) (fun r hr => run_V (st := []) (by decide +kernel) co_L_share_107 (ct_X10_share g1 r hr) rfl g1 rfl rfl (Nat.le_of_ble_eq_true rfl)) rfl rfl (fun v2 M3 => ?_)
  exact XE.rt rfl (X_iret (by decide +kernel) rfl)
theorem ct_L_share {D : Dt} {M : Mm} {a0 a1 a2 a3 : Int} (r : (Int × Mm)) (hr : p_L_share M a0 a1 a2 a3 = some r) : CT D 1 mu_L_share [(14, a0), (0, a1), (0, a2), (0, a3)] M (.inl (some (0, r.1))) r.2 := CT.of (by decide +kernel) rfl (Nat.le_of_ble_eq_true rfl) (xe_L_share r hr)
def q_L_share (M : Mm) (a0 a1 a2 a3 : Int) : Option (Int × Mm) := ghq (p_L_share M a0 a1 a2 a3) ((p_G_share M a0 a1 a2 a3 15000).bind fun g => p_X11_share g.2 12000 a1 a2 a3)
theorem cq_L_share {D : Dt} {M : Mm} {a0 a1 a2 a3 : Int} (r : Int × Mm) (hr : q_L_share M a0 a1 a2 a3 = some r) : CT D 1 mu_L_share [(14, a0), (0, a1), (0, a2), (0, a3)] M (.inl (some (0, r.1))) r.2 := CT_ghq (fun r hr => ct_L_share r hr) hr
def p_L_member (M : Mm) (a0 a1 a2 a3 : Int) : Option (Int × Mm) := gd (a0 ≠ 0) ((p_X10_member M a0 a1 a2 a3).bind (hnT (fun x M => if x = 1 then some ((-97), M) else if x = 2 then some ((-98), M) else if x = 3 then some ((-99), M) else none) (fun v2 M3 => some (v2, M3))))
set_option maxRecDepth 100000 in
set_option maxHeartbeats 4000000 in
theorem xe_L_member {D : Dt} {M : Mm} {a0 a1 a2 a3 : Int} : XE D 1 mu_L_member (EW 0) 0 [(0, (14, a0)), (1, (0, a1)), (2, (0, a2)), (3, (0, a3))] [] M (p_L_member M a0 a1 a2 a3) := by
  unfold p_L_member
  refine XE.go (st_aload_n (j := 0) (i := 0) (pc' := 1) (by decide +kernel) rfl rfl (by decide) rfl) ?_
  refine XE.go (st_iload_n (j := 1) (i := 1) (pc' := 2) (by decide +kernel) rfl rfl rfl) ?_
  refine XE.go (st_iload_n (j := 2) (i := 2) (pc' := 3) (by decide +kernel) rfl rfl rfl) ?_
  refine XE.go (st_iload_n (j := 3) (i := 3) (pc' := 4) (by decide +kernel) rfl rfl rfl) ?_
  refine XE.gd_ (fun g1 => ?_)
  refine XE.cTH (pc' := 7) (st := []) hf_L_member (fun r hr => ct_X10_member g1 r hr) (fun r hr => run_V (st := []) (by decide +kernel) co_L_member_110 (ct_X10_member g1 r hr) rfl g1 rfl rfl (Nat.le_of_ble_eq_true rfl)) rfl rfl (fun v2 M3 => ?_)
  exact XE.rt rfl (X_iret (by decide +kernel) rfl)
theorem ct_L_member {D : Dt} {M : Mm} {a0 a1 a2 a3 : Int} (r : (Int × Mm)) (hr : p_L_member M a0 a1 a2 a3 = some r) : CT D 1 mu_L_member [(14, a0), (0, a1), (0, a2), (0, a3)] M (.inl (some (0, r.1))) r.2 := CT.of (by decide +kernel) rfl (Nat.le_of_ble_eq_true rfl) (xe_L_member r hr)
def q_L_member (M : Mm) (a0 a1 a2 a3 : Int) : Option (Int × Mm) := ghq (p_L_member M a0 a1 a2 a3) ((p_G_member M a0 a1 a2 a3 15000).bind fun g => p_X11_member g.2 12000 a1 a2 a3)
theorem cq_L_member {D : Dt} {M : Mm} {a0 a1 a2 a3 : Int} (r : Int × Mm) (hr : q_L_member M a0 a1 a2 a3 = some r) : CT D 1 mu_L_member [(14, a0), (0, a1), (0, a2), (0, a3)] M (.inl (some (0, r.1))) r.2 := CT_ghq (fun r hr => ct_L_member r hr) hr
def p_L_hand (M : Mm) (a0 a1 a2 a3 a4 : Int) : Option (Int × Mm) := gd (a0 ≠ 0) ((p_X10_hand M a0 a1 a2 a3 a4).bind (hnT (fun x M => if x = 1 then some ((-97), M) else if x = 2 then some ((-98), M) else if x = 3 then some ((-99), M) else none) (fun v2 M3 => some (v2, M3))))
set_option maxRecDepth 100000 in
set_option maxHeartbeats 4000000 in
theorem xe_L_hand {D : Dt} {M : Mm} {a0 a1 a2 a3 a4 : Int} : XE D 1 mu_L_hand (EW 0) 0 [(0, (14, a0)), (1, (0, a1)), (2, (0, a2)), (3, (0, a3)), (4, (0, a4))] [] M (p_L_hand M a0 a1 a2 a3 a4) := by
  unfold p_L_hand
  refine XE.go (st_aload_n (j := 0) (i := 0) (pc' := 1) (by decide +kernel) rfl rfl (by decide) rfl) ?_
  refine XE.go (st_iload_n (j := 1) (i := 1) (pc' := 2) (by decide +kernel) rfl rfl rfl) ?_
  refine XE.go (st_iload_n (j := 2) (i := 2) (pc' := 3) (by decide +kernel) rfl rfl rfl) ?_
  refine XE.go (st_iload_n (j := 3) (i := 3) (pc' := 4) (by decide +kernel) rfl rfl rfl) ?_
  refine XE.go (st_iload (j := 4) (pc' := 6) (by decide +kernel) rfl rfl) ?_
  refine XE.gd_ (fun g1 => ?_)
  refine XE.cTH (pc' := 9) (st := []) hf_L_hand (fun r hr => ct_X10_hand g1 r hr) (fun r hr => run_V (st := []) (by decide +kernel) co_L_hand_113 (ct_X10_hand g1 r hr) rfl g1 rfl rfl (Nat.le_of_ble_eq_true rfl)) rfl rfl (fun v2 M3 => ?_)
  exact XE.rt rfl (X_iret (by decide +kernel) rfl)
theorem ct_L_hand {D : Dt} {M : Mm} {a0 a1 a2 a3 a4 : Int} (r : (Int × Mm)) (hr : p_L_hand M a0 a1 a2 a3 a4 = some r) : CT D 1 mu_L_hand [(14, a0), (0, a1), (0, a2), (0, a3), (0, a4)] M (.inl (some (0, r.1))) r.2 := CT.of (by decide +kernel) rfl (Nat.le_of_ble_eq_true rfl) (xe_L_hand r hr)
def q_L_hand (M : Mm) (a0 a1 a2 a3 a4 : Int) : Option (Int × Mm) := ghq (p_L_hand M a0 a1 a2 a3 a4) ((p_G_hand M a0 a1 a2 a3 a4 15000).bind fun g => p_X11_hand g.2 12000 a1 a2 a3 a4)
theorem cq_L_hand {D : Dt} {M : Mm} {a0 a1 a2 a3 a4 : Int} (r : Int × Mm) (hr : q_L_hand M a0 a1 a2 a3 a4 = some r) : CT D 1 mu_L_hand [(14, a0), (0, a1), (0, a2), (0, a3), (0, a4)] M (.inl (some (0, r.1))) r.2 := CT_ghq (fun r hr => ct_L_hand r hr) hr
def p_L_seen (M : Mm) (a0 a1 a2 : Int) : Option (Int × Mm) := gd (a0 ≠ 0) ((p_X10_seen M a0 a1 a2).bind (hnT (fun x M => if x = 1 then some ((-97), M) else if x = 2 then some ((-98), M) else if x = 3 then some ((-99), M) else none) (fun v2 M3 => some (v2, M3))))
set_option maxRecDepth 100000 in
set_option maxHeartbeats 4000000 in
theorem xe_L_seen {D : Dt} {M : Mm} {a0 a1 a2 : Int} : XE D 1 mu_L_seen (EW 0) 0 [(0, (14, a0)), (1, (0, a1)), (2, (0, a2))] [] M (p_L_seen M a0 a1 a2) := by
  unfold p_L_seen
  refine XE.go (st_aload_n (j := 0) (i := 0) (pc' := 1) (by decide +kernel) rfl rfl (by decide) rfl) ?_
  refine XE.go (st_iload_n (j := 1) (i := 1) (pc' := 2) (by decide +kernel) rfl rfl rfl) ?_
  refine XE.go (st_iload_n (j := 2) (i := 2) (pc' := 3) (by decide +kernel) rfl rfl rfl) ?_
  refine XE.gd_ (fun g1 => ?_)
  refine XE.cTH (pc' := 6) (st := []) hf_L_seen (fun r hr => ct_X10_seen g1 r hr) (fun r hr => run_V (st := []) (by decide +kernel) co_L_seen_116 (ct_X10_seen g1 r hr) rfl g1 rfl rfl (Nat.le_of_ble_eq_true rfl)) rfl rfl (fun v2 M3 => ?_)
  exact XE.rt rfl (X_iret (by decide +kernel) rfl)
theorem ct_L_seen {D : Dt} {M : Mm} {a0 a1 a2 : Int} (r : (Int × Mm)) (hr : p_L_seen M a0 a1 a2 = some r) : CT D 1 mu_L_seen [(14, a0), (0, a1), (0, a2)] M (.inl (some (0, r.1))) r.2 := CT.of (by decide +kernel) rfl (Nat.le_of_ble_eq_true rfl) (xe_L_seen r hr)
def q_L_seen (M : Mm) (a0 a1 a2 : Int) : Option (Int × Mm) := ghq (p_L_seen M a0 a1 a2) ((p_G_seen M a0 a1 a2 15000).bind fun g => p_X11_seen g.2 12000 a1 a2)
theorem cq_L_seen {D : Dt} {M : Mm} {a0 a1 a2 : Int} (r : Int × Mm) (hr : q_L_seen M a0 a1 a2 = some r) : CT D 1 mu_L_seen [(14, a0), (0, a1), (0, a2)] M (.inl (some (0, r.1))) r.2 := CT_ghq (fun r hr => ct_L_seen r hr) hr
def p_L_count (M : Mm) (a0 a1 : Int) : Option (Int × Mm) := gd (a0 ≠ 0) ((p_X10_count M a0 a1).bind (hnT (fun x M => if x = 1 then some ((-97), M) else if x = 2 then some ((-98), M) else if x = 3 then some ((-99), M) else none) (fun v2 M3 => some (v2, M3))))
set_option maxRecDepth 100000 in
set_option maxHeartbeats 4000000 in
theorem xe_L_count {D : Dt} {M : Mm} {a0 a1 : Int} : XE D 1 mu_L_count (EW 0) 0 [(0, (14, a0)), (1, (0, a1))] [] M (p_L_count M a0 a1) := by
  unfold p_L_count
  refine XE.go (st_aload_n (j := 0) (i := 0) (pc' := 1) (by decide +kernel) rfl rfl (by decide) rfl) ?_
  refine XE.go (st_iload_n (j := 1) (i := 1) (pc' := 2) (by decide +kernel) rfl rfl rfl) ?_
  refine XE.gd_ (fun g1 => ?_)
  refine XE.cTH (pc' := 5) (st := []) hf_L_count (fun r hr => ct_X10_count g1 r hr) (fun r hr => run_V (st := []) (by decide +kernel) co_L_count_119 (ct_X10_count g1 r hr) rfl g1 rfl rfl (Nat.le_of_ble_eq_true rfl)) rfl rfl (fun v2 M3 => ?_)
  exact XE.rt rfl (X_iret (by decide +kernel) rfl)
theorem ct_L_count {D : Dt} {M : Mm} {a0 a1 : Int} (r : (Int × Mm)) (hr : p_L_count M a0 a1 = some r) : CT D 1 mu_L_count [(14, a0), (0, a1)] M (.inl (some (0, r.1))) r.2 := CT.of (by decide +kernel) rfl (Nat.le_of_ble_eq_true rfl) (xe_L_count r hr)
def q_L_count (M : Mm) (a0 a1 : Int) : Option (Int × Mm) := ghq (p_L_count M a0 a1) ((p_G_count M a0 a1 15000).bind fun g => p_X11_count g.2 12000 a1)
theorem cq_L_count {D : Dt} {M : Mm} {a0 a1 : Int} (r : Int × Mm) (hr : q_L_count M a0 a1 = some r) : CT D 1 mu_L_count [(14, a0), (0, a1)] M (.inl (some (0, r.1))) r.2 := CT_ghq (fun r hr => ct_L_count r hr) hr
def p_L_ofGroup (M : Mm) (a0 a1 a2 : Int) : Option (Int × Mm) := gd (a0 ≠ 0) ((p_X10_ofGroup M a0 a1 a2).bind (hnT (fun x M => if x = 1 then some ((-97), M) else if x = 2 then some ((-98), M) else if x = 3 then some ((-99), M) else none) (fun v2 M3 => some (v2, M3))))
set_option maxRecDepth 100000 in
set_option maxHeartbeats 4000000 in
theorem xe_L_ofGroup {D : Dt} {M : Mm} {a0 a1 a2 : Int} : XE D 1 mu_L_ofGroup (EW 0) 0 [(0, (14, a0)), (1, (0, a1)), (2, (0, a2))] [] M (p_L_ofGroup M a0 a1 a2) := by
  unfold p_L_ofGroup
  refine XE.go (st_aload_n (j := 0) (i := 0) (pc' := 1) (by decide +kernel) rfl rfl (by decide) rfl) ?_
  refine XE.go (st_iload_n (j := 1) (i := 1) (pc' := 2) (by decide +kernel) rfl rfl rfl) ?_
  refine XE.go (st_iload_n (j := 2) (i := 2) (pc' := 3) (by decide +kernel) rfl rfl rfl) ?_
  refine XE.gd_ (fun g1 => ?_)
  refine XE.cTH (pc' := 6) (st := []) hf_L_ofGroup (fun r hr => ct_X10_ofGroup g1 r hr) (fun r hr => run_V (st := []) (by decide +kernel) co_L_ofGroup_122 (ct_X10_ofGroup g1 r hr) rfl g1 rfl rfl (Nat.le_of_ble_eq_true rfl)) rfl rfl (fun v2 M3 => ?_)
  exact XE.rt rfl (X_iret (by decide +kernel) rfl)
theorem ct_L_ofGroup {D : Dt} {M : Mm} {a0 a1 a2 : Int} (r : (Int × Mm)) (hr : p_L_ofGroup M a0 a1 a2 = some r) : CT D 1 mu_L_ofGroup [(14, a0), (0, a1), (0, a2)] M (.inl (some (0, r.1))) r.2 := CT.of (by decide +kernel) rfl (Nat.le_of_ble_eq_true rfl) (xe_L_ofGroup r hr)
def q_L_ofGroup (M : Mm) (a0 a1 a2 : Int) : Option (Int × Mm) := ghq (p_L_ofGroup M a0 a1 a2) ((p_G_ofGroup M a0 a1 a2 15000).bind fun g => p_X11_ofGroup g.2 12000 a1 a2)
theorem cq_L_ofGroup {D : Dt} {M : Mm} {a0 a1 a2 : Int} (r : Int × Mm) (hr : q_L_ofGroup M a0 a1 a2 = some r) : CT D 1 mu_L_ofGroup [(14, a0), (0, a1), (0, a2)] M (.inl (some (0, r.1))) r.2 := CT_ghq (fun r hr => ct_L_ofGroup r hr) hr
def p_L_audit (M : Mm) (a0 a1 : Int) : Option (Int × Mm) := gd (a0 ≠ 0) ((p_X10_audit M a0 a1).bind (hnT (fun x M => if x = 2 then some ((-98), M) else none) (fun v2 M3 => if v2 = 0 then some (0, M3) else some (1, M3))))
set_option maxRecDepth 100000 in
set_option maxHeartbeats 4000000 in
theorem xe_L_audit {D : Dt} {M : Mm} {a0 a1 : Int} : XE D 1 mu_L_audit (EW 0) 0 [(0, (14, a0)), (1, (0, a1))] [] M (p_L_audit M a0 a1) := by
  unfold p_L_audit
  refine XE.go (st_aload_n (j := 0) (i := 0) (pc' := 1) (by decide +kernel) rfl rfl (by decide) rfl) ?_
  refine XE.go (st_iload_n (j := 1) (i := 1) (pc' := 2) (by decide +kernel) rfl rfl rfl) ?_
  refine XE.gd_ (fun g1 => ?_)
  refine XE.cTH (pc' := 5) (st := []) hf_L_audit (fun r hr => ct_X10_audit g1 r hr) (fun r hr => run_V (st := []) (by decide +kernel) co_L_audit_125 (ct_X10_audit g1 r hr) rfl g1 rfl rfl (Nat.le_of_ble_eq_true rfl)) rfl rfl (fun v2 M3 => ?_)
  refine XE.ite (fun h4 => ?_) (fun h5 => ?_)
  · refine XE.go (st_if_eq_t (off := 7) (pc' := 12) (by decide +kernel) (by decide) h4) ?_
    refine XE.go (st_iconst (n := 0) (pc' := 13) (by decide +kernel) (w_eq (by decide) (by decide)) rfl) ?_
    exact XE.rt rfl (X_iret (by decide +kernel) rfl)
  · refine XE.go (st_if_eq_f (off := 7) (pc' := 8) (by decide +kernel) 12 (by decide) rfl h5) ?_
    refine XE.go (st_iconst (n := 1) (pc' := 9) (by decide +kernel) (w_eq (by decide) (by decide)) rfl) ?_
    refine XE.go (st_goto (off := 4) (pc' := 13) (by decide +kernel) (by decide)) ?_
    exact XE.rt rfl (X_iret (by decide +kernel) rfl)
theorem ct_L_audit {D : Dt} {M : Mm} {a0 a1 : Int} (r : (Int × Mm)) (hr : p_L_audit M a0 a1 = some r) : CT D 1 mu_L_audit [(14, a0), (0, a1)] M (.inl (some (0, r.1))) r.2 := CT.of (by decide +kernel) rfl (Nat.le_of_ble_eq_true rfl) (xe_L_audit r hr)
def q_L_audit (M : Mm) (a0 a1 : Int) : Option (Int × Mm) := ghq (p_L_audit M a0 a1) ((p_G_audit M a0 a1 15000).bind fun g => p_X11_audit g.2 12000 a1)
theorem cq_L_audit {D : Dt} {M : Mm} {a0 a1 : Int} (r : Int × Mm) (hr : q_L_audit M a0 a1 = some r) : CT D 1 mu_L_audit [(14, a0), (0, a1)] M (.inl (some (0, r.1))) r.2 := CT_ghq (fun r hr => ct_L_audit r hr) hr
def p_L_has (M : Mm) (a0 a1 : Int) : Option Int := gd (aok a0 (shr a1 6)) (if (lcp (lan (lsr (rd M a0 (shr a1 6)) (ian a1 63)) 1) 1) = 0 then some (1) else some (0))
set_option maxRecDepth 100000 in
set_option maxHeartbeats 4000000 in
theorem xe_L_has {D : Dt} {M : Mm} {a0 a1 : Int} : XE D 0 mu_L_has (EP 0 M) 0 [(0, (18, a0)), (1, (0, a1))] [] M (p_L_has M a0 a1) := by
  unfold p_L_has
  refine XE.go (st_aload_n (j := 0) (i := 0) (pc' := 1) (by decide +kernel) rfl rfl (by decide) rfl) ?_
  refine XE.go (st_iload_n (j := 1) (i := 1) (pc' := 2) (by decide +kernel) rfl rfl rfl) ?_
  refine XE.go (st_bipush (n := 6) (pc' := 4) (by decide +kernel) (by decide) (w_eq (by decide) (by decide)) rfl) ?_
  refine XE.go (st_ishr (pc' := 5) (by decide +kernel) rfl) ?_
  refine XE.gd_ (fun g1 => ?_)
  refine XE.go (st_ald (k := 15) (tp := 2) (pc' := 6) (by decide +kernel) rfl ak_15 rfl (by decide) rfl (Or.inr (Or.inr (Or.inl ⟨rfl, rfl⟩))) g1.1 g1.2.1 g1.2.2) ?_
  refine XE.go (st_iload_n (j := 1) (i := 1) (pc' := 7) (by decide +kernel) rfl rfl rfl) ?_
  refine XE.go (st_bipush (n := 63) (pc' := 9) (by decide +kernel) (by decide) (w_eq (by decide) (by decide)) rfl) ?_
  refine XE.go (st_iand (pc' := 10) (by decide +kernel) rfl) ?_
  refine XE.go (st_lshr (pc' := 11) (by decide +kernel) rfl) ?_
  refine XE.go (st_lconst (n := 1) (z := 1) (pc' := 12) (by decide +kernel) (by decide) (by decide) rfl) ?_
  refine XE.go (st_land (pc' := 13) (by decide +kernel) rfl) ?_
  refine XE.go (st_lconst (n := 1) (z := 1) (pc' := 14) (by decide +kernel) (by decide) (by decide) rfl) ?_
  refine XE.go (st_lcmp (pc' := 15) (by decide +kernel) rfl) ?_
  refine XE.ite (fun h2 => ?_) (fun h3 => ?_)
  · refine XE.go (st_if_ne_f (off := 7) (pc' := 18) (by decide +kernel) 22 (by decide) rfl (not_not_intro h2)) ?_
    refine XE.go (st_iconst (n := 1) (pc' := 19) (by decide +kernel) (w_eq (by decide) (by decide)) rfl) ?_
    refine XE.go (st_goto (off := 4) (pc' := 23) (by decide +kernel) (by decide)) ?_
    exact XE.rt rfl (X_zret (by decide +kernel) rfl (by decide))
  · refine XE.go (st_if_ne_t (off := 7) (pc' := 22) (by decide +kernel) (by decide) h3) ?_
    refine XE.go (st_iconst (n := 0) (pc' := 23) (by decide +kernel) (w_eq (by decide) (by decide)) rfl) ?_
    exact XE.rt rfl (X_zret (by decide +kernel) rfl (by decide))
theorem ct_L_has {D : Dt} {M : Mm} {a0 a1 : Int} (r : Int) (hr : p_L_has M a0 a1 = some r) : CT D 0 mu_L_has [(18, a0), (0, a1)] M (.inl (some (0, r))) M := CT.of (by decide +kernel) rfl (Nat.le_of_ble_eq_true rfl) (xe_L_has r hr)
