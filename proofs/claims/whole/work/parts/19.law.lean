def p_L_topic (M : Mm) (a0 a1 a2 a3 a4 : Int) : Option (Int × Mm) := gd (a0 ≠ 0) ((p_X10_topic M a0 a1 a2 a3).bind (hnT (fun x M => if x = 2 then some (1, M) else if x = 3 then some (2, M) else none) (fun v2 M3 => gd (aok a4 0) ((some (wr M3 a4 0 v2)).bind fun M5 => some (0, M5)))))
set_option maxRecDepth 100000 in
set_option maxHeartbeats 4000000 in
theorem xe_L_topic {D : Dt} {M : Mm} {a0 a1 a2 a3 a4 : Int} : XE D 1 mu_L_topic (EW 0) 0 [(0, (14, a0)), (1, (0, a1)), (2, (0, a2)), (3, (0, a3)), (4, (18, a4))] [] M (p_L_topic M a0 a1 a2 a3 a4) := by
  unfold p_L_topic
  refine XE.go (st_aload (j := 4) (pc' := 2) (by decide +kernel) rfl (by decide) rfl) ?_
  refine XE.go (st_iconst (n := 0) (pc' := 3) (by decide +kernel) (w_eq (by decide) (by decide)) rfl) ?_
  refine XE.go (st_aload_n (j := 0) (i := 0) (pc' := 4) (by decide +kernel) rfl rfl (by decide) rfl) ?_
  refine XE.go (st_iload_n (j := 1) (i := 1) (pc' := 5) (by decide +kernel) rfl rfl rfl) ?_
  refine XE.go (st_iload_n (j := 2) (i := 2) (pc' := 6) (by decide +kernel) rfl rfl rfl) ?_
  refine XE.go (st_iload_n (j := 3) (i := 3) (pc' := 7) (by decide +kernel) rfl rfl rfl) ?_
  refine XE.gd_ (fun g1 => ?_)
  refine XE.cTH (pc' := 10) (st := [(0, 0), (18, a4)]) hf_L_topic (fun r hr => ct_X10_topic g1 r hr) (fun r hr => run_V (st := [(0, 0), (18, a4)]) (by decide +kernel) co_L_topic_7 (ct_X10_topic g1 r hr) rfl g1 rfl rfl (Nat.le_of_ble_eq_true rfl)) rfl rfl (fun v2 M3 => ?_)
  refine XE.go (st_i2l (pc' := 11) (by decide +kernel) rfl) ?_
  refine XE.gd_ (fun g4 => ?_)
  refine XE.goM (st_ast (k := 15) (tp := 2) (pc' := 12) (by decide +kernel) rfl ak_15 rfl (by decide) rfl (Or.inr (Or.inr ⟨rfl, rfl, rfl, rfl⟩)) g4.1 g4.2.1 g4.2.2) (fun M5 => ?_)
  refine XE.go (st_goto (off := 11) (pc' := 23) (by decide +kernel) (by decide)) ?_
  refine XE.go (st_iconst (n := 0) (pc' := 24) (by decide +kernel) (w_eq (by decide) (by decide)) rfl) ?_
  exact XE.rt rfl (X_iret (by decide +kernel) rfl)
theorem ct_L_topic {D : Dt} {M : Mm} {a0 a1 a2 a3 a4 : Int} (r : (Int × Mm)) (hr : p_L_topic M a0 a1 a2 a3 a4 = some r) : CT D 1 mu_L_topic [(14, a0), (0, a1), (0, a2), (0, a3), (18, a4)] M (.inl (some (0, r.1))) r.2 := CT.of (by decide +kernel) rfl (Nat.le_of_ble_eq_true rfl) (xe_L_topic r hr)
def p_L_retain (M : Mm) (a0 a1 a2 a3 a4 : Int) : Option (Int × Mm) := gd (a0 ≠ 0) ((p_X10_retain M a0 a1 a2 a3).bind (hnT (fun x M => if x = 1 then some (1, M) else if x = 2 then some (2, M) else if x = 3 then some (3, M) else none) (fun v2 M3 => gd (aok a4 0) ((some (wr M3 a4 0 v2)).bind fun M5 => some (0, M5)))))
set_option maxRecDepth 100000 in
set_option maxHeartbeats 4000000 in
theorem xe_L_retain {D : Dt} {M : Mm} {a0 a1 a2 a3 a4 : Int} : XE D 1 mu_L_retain (EW 0) 0 [(0, (14, a0)), (1, (0, a1)), (2, (0, a2)), (3, (0, a3)), (4, (18, a4))] [] M (p_L_retain M a0 a1 a2 a3 a4) := by
  unfold p_L_retain
  refine XE.go (st_aload (j := 4) (pc' := 2) (by decide +kernel) rfl (by decide) rfl) ?_
  refine XE.go (st_iconst (n := 0) (pc' := 3) (by decide +kernel) (w_eq (by decide) (by decide)) rfl) ?_
  refine XE.go (st_aload_n (j := 0) (i := 0) (pc' := 4) (by decide +kernel) rfl rfl (by decide) rfl) ?_
  refine XE.go (st_iload_n (j := 1) (i := 1) (pc' := 5) (by decide +kernel) rfl rfl rfl) ?_
  refine XE.go (st_iload_n (j := 2) (i := 2) (pc' := 6) (by decide +kernel) rfl rfl rfl) ?_
  refine XE.go (st_iload_n (j := 3) (i := 3) (pc' := 7) (by decide +kernel) rfl rfl rfl) ?_
  refine XE.gd_ (fun g1 => ?_)
  refine XE.cTH (pc' := 10) (st := [(0, 0), (18, a4)]) hf_L_retain (fun r hr => ct_X10_retain g1 r hr) (fun r hr => run_V (st := [(0, 0), (18, a4)]) (by decide +kernel) co_L_retain_17 (ct_X10_retain g1 r hr) rfl g1 rfl rfl (Nat.le_of_ble_eq_true rfl)) rfl rfl (fun v2 M3 => ?_)
  refine XE.go (st_i2l (pc' := 11) (by decide +kernel) rfl) ?_
  refine XE.gd_ (fun g4 => ?_)
  refine XE.goM (st_ast (k := 15) (tp := 2) (pc' := 12) (by decide +kernel) rfl ak_15 rfl (by decide) rfl (Or.inr (Or.inr ⟨rfl, rfl, rfl, rfl⟩)) g4.1 g4.2.1 g4.2.2) (fun M5 => ?_)
  refine XE.go (st_goto (off := 15) (pc' := 27) (by decide +kernel) (by decide)) ?_
  refine XE.go (st_iconst (n := 0) (pc' := 28) (by decide +kernel) (w_eq (by decide) (by decide)) rfl) ?_
  exact XE.rt rfl (X_iret (by decide +kernel) rfl)
theorem ct_L_retain {D : Dt} {M : Mm} {a0 a1 a2 a3 a4 : Int} (r : (Int × Mm)) (hr : p_L_retain M a0 a1 a2 a3 a4 = some r) : CT D 1 mu_L_retain [(14, a0), (0, a1), (0, a2), (0, a3), (18, a4)] M (.inl (some (0, r.1))) r.2 := CT.of (by decide +kernel) rfl (Nat.le_of_ble_eq_true rfl) (xe_L_retain r hr)
def p_L_compact (M : Mm) (a0 a1 a2 : Int) : Option (Int × Mm) := gd (a0 ≠ 0) ((p_X10_compact M a0 a1).bind (hnT (fun x M => if x = 1 then some (1, M) else if x = 3 then some (2, M) else none) (fun v2 M3 => gd (aok a2 0) ((some (wr M3 a2 0 v2)).bind fun M5 => some (0, M5)))))
set_option maxRecDepth 100000 in
set_option maxHeartbeats 4000000 in
theorem xe_L_compact {D : Dt} {M : Mm} {a0 a1 a2 : Int} : XE D 1 mu_L_compact (EW 0) 0 [(0, (14, a0)), (1, (0, a1)), (2, (18, a2))] [] M (p_L_compact M a0 a1 a2) := by
  unfold p_L_compact
  refine XE.go (st_aload_n (j := 2) (i := 2) (pc' := 1) (by decide +kernel) rfl rfl (by decide) rfl) ?_
  refine XE.go (st_iconst (n := 0) (pc' := 2) (by decide +kernel) (w_eq (by decide) (by decide)) rfl) ?_
  refine XE.go (st_aload_n (j := 0) (i := 0) (pc' := 3) (by decide +kernel) rfl rfl (by decide) rfl) ?_
  refine XE.go (st_iload_n (j := 1) (i := 1) (pc' := 4) (by decide +kernel) rfl rfl rfl) ?_
  refine XE.gd_ (fun g1 => ?_)
  refine XE.cTH (pc' := 7) (st := [(0, 0), (18, a2)]) hf_L_compact (fun r hr => ct_X10_compact g1 r hr) (fun r hr => run_V (st := [(0, 0), (18, a2)]) (by decide +kernel) co_L_compact_23 (ct_X10_compact g1 r hr) rfl g1 rfl rfl (Nat.le_of_ble_eq_true rfl)) rfl rfl (fun v2 M3 => ?_)
  refine XE.go (st_i2l (pc' := 8) (by decide +kernel) rfl) ?_
  refine XE.gd_ (fun g4 => ?_)
  refine XE.goM (st_ast (k := 15) (tp := 2) (pc' := 9) (by decide +kernel) rfl ak_15 rfl (by decide) rfl (Or.inr (Or.inr ⟨rfl, rfl, rfl, rfl⟩)) g4.1 g4.2.1 g4.2.2) (fun M5 => ?_)
  refine XE.go (st_goto (off := 9) (pc' := 18) (by decide +kernel) (by decide)) ?_
  refine XE.go (st_iconst (n := 0) (pc' := 19) (by decide +kernel) (w_eq (by decide) (by decide)) rfl) ?_
  exact XE.rt rfl (X_iret (by decide +kernel) rfl)
theorem ct_L_compact {D : Dt} {M : Mm} {a0 a1 a2 : Int} (r : (Int × Mm)) (hr : p_L_compact M a0 a1 a2 = some r) : CT D 1 mu_L_compact [(14, a0), (0, a1), (18, a2)] M (.inl (some (0, r.1))) r.2 := CT.of (by decide +kernel) rfl (Nat.le_of_ble_eq_true rfl) (xe_L_compact r hr)
def p_L_fail (M : Mm) (a0 a1 a2 : Int) : Option (Int × Mm) := gd (a0 ≠ 0) ((p_X10_fail M a0 a1).bind (hnT (fun x M => if x = 1 then some (1, M) else if x = 3 then some (2, M) else none) (fun v2 M3 => gd (aok a2 0) ((some (wr M3 a2 0 v2)).bind fun M5 => some (0, M5)))))
set_option maxRecDepth 100000 in
set_option maxHeartbeats 4000000 in
theorem xe_L_fail {D : Dt} {M : Mm} {a0 a1 a2 : Int} : XE D 1 mu_L_fail (EW 0) 0 [(0, (14, a0)), (1, (0, a1)), (2, (18, a2))] [] M (p_L_fail M a0 a1 a2) := by
  unfold p_L_fail
  refine XE.go (st_aload_n (j := 2) (i := 2) (pc' := 1) (by decide +kernel) rfl rfl (by decide) rfl) ?_
  refine XE.go (st_iconst (n := 0) (pc' := 2) (by decide +kernel) (w_eq (by decide) (by decide)) rfl) ?_
  refine XE.go (st_aload_n (j := 0) (i := 0) (pc' := 3) (by decide +kernel) rfl rfl (by decide) rfl) ?_
  refine XE.go (st_iload_n (j := 1) (i := 1) (pc' := 4) (by decide +kernel) rfl rfl rfl) ?_
  refine XE.gd_ (fun g1 => ?_)
  refine XE.cTH (pc' := 7) (st := [(0, 0), (18, a2)]) hf_L_fail (fun r hr => ct_X10_fail g1 r hr) (fun r hr => run_V (st := [(0, 0), (18, a2)]) (by decide +kernel) co_L_fail_27 (ct_X10_fail g1 r hr) rfl g1 rfl rfl (Nat.le_of_ble_eq_true rfl)) rfl rfl (fun v2 M3 => ?_)
  refine XE.go (st_i2l (pc' := 8) (by decide +kernel) rfl) ?_
  refine XE.gd_ (fun g4 => ?_)
  refine XE.goM (st_ast (k := 15) (tp := 2) (pc' := 9) (by decide +kernel) rfl ak_15 rfl (by decide) rfl (Or.inr (Or.inr ⟨rfl, rfl, rfl, rfl⟩)) g4.1 g4.2.1 g4.2.2) (fun M5 => ?_)
  refine XE.go (st_goto (off := 9) (pc' := 18) (by decide +kernel) (by decide)) ?_
  refine XE.go (st_iconst (n := 0) (pc' := 19) (by decide +kernel) (w_eq (by decide) (by decide)) rfl) ?_
  exact XE.rt rfl (X_iret (by decide +kernel) rfl)
theorem ct_L_fail {D : Dt} {M : Mm} {a0 a1 a2 : Int} (r : (Int × Mm)) (hr : p_L_fail M a0 a1 a2 = some r) : CT D 1 mu_L_fail [(14, a0), (0, a1), (18, a2)] M (.inl (some (0, r.1))) r.2 := CT.of (by decide +kernel) rfl (Nat.le_of_ble_eq_true rfl) (xe_L_fail r hr)
def p_L_restore (M : Mm) (a0 a1 a2 : Int) : Option (Int × Mm) := gd (a0 ≠ 0) ((p_X10_restore M a0 a1).bind (hnT (fun x M => if x = 1 then some (1, M) else if x = 3 then some (2, M) else none) (fun v2 M3 => gd (aok a2 0) ((some (wr M3 a2 0 v2)).bind fun M5 => some (0, M5)))))
set_option maxRecDepth 100000 in
set_option maxHeartbeats 4000000 in
theorem xe_L_restore {D : Dt} {M : Mm} {a0 a1 a2 : Int} : XE D 1 mu_L_restore (EW 0) 0 [(0, (14, a0)), (1, (0, a1)), (2, (18, a2))] [] M (p_L_restore M a0 a1 a2) := by
  unfold p_L_restore
  refine XE.go (st_aload_n (j := 2) (i := 2) (pc' := 1) (by decide +kernel) rfl rfl (by decide) rfl) ?_
  refine XE.go (st_iconst (n := 0) (pc' := 2) (by decide +kernel) (w_eq (by decide) (by decide)) rfl) ?_
  refine XE.go (st_aload_n (j := 0) (i := 0) (pc' := 3) (by decide +kernel) rfl rfl (by decide) rfl) ?_
  refine XE.go (st_iload_n (j := 1) (i := 1) (pc' := 4) (by decide +kernel) rfl rfl rfl) ?_
  refine XE.gd_ (fun g1 => ?_)
  refine XE.cTH (pc' := 7) (st := [(0, 0), (18, a2)]) hf_L_restore (fun r hr => ct_X10_restore g1 r hr) (fun r hr => run_V (st := [(0, 0), (18, a2)]) (by decide +kernel) co_L_restore_30 (ct_X10_restore g1 r hr) rfl g1 rfl rfl (Nat.le_of_ble_eq_true rfl)) rfl rfl (fun v2 M3 => ?_)
  refine XE.go (st_i2l (pc' := 8) (by decide +kernel) rfl) ?_
  refine XE.gd_ (fun g4 => ?_)
  refine XE.goM (st_ast (k := 15) (tp := 2) (pc' := 9) (by decide +kernel) rfl ak_15 rfl (by decide) rfl (Or.inr (Or.inr ⟨rfl, rfl, rfl, rfl⟩)) g4.1 g4.2.1 g4.2.2) (fun M5 => ?_)
  refine XE.go (st_goto (off := 9) (pc' := 18) (by decide +kernel) (by decide)) ?_
  refine XE.go (st_iconst (n := 0) (pc' := 19) (by decide +kernel) (w_eq (by decide) (by decide)) rfl) ?_
  exact XE.rt rfl (X_iret (by decide +kernel) rfl)
theorem ct_L_restore {D : Dt} {M : Mm} {a0 a1 a2 : Int} (r : (Int × Mm)) (hr : p_L_restore M a0 a1 a2 = some r) : CT D 1 mu_L_restore [(14, a0), (0, a1), (18, a2)] M (.inl (some (0, r.1))) r.2 := CT.of (by decide +kernel) rfl (Nat.le_of_ble_eq_true rfl) (xe_L_restore r hr)
def p_L_fetch (M : Mm) (a0 a1 a2 : Int) : Option (Int × Mm) := gd (a0 ≠ 0) ((p_X10_fetch M a0 a1).bind (hnT (fun x M => if x = 1 then some (1, M) else if x = 3 then some (2, M) else none) (fun v2 M3 => gd (aok a2 0) ((some (wr M3 a2 0 v2)).bind fun M5 => some (0, M5)))))
set_option maxRecDepth 100000 in
set_option maxHeartbeats 4000000 in
theorem xe_L_fetch {D : Dt} {M : Mm} {a0 a1 a2 : Int} : XE D 1 mu_L_fetch (EW 0) 0 [(0, (14, a0)), (1, (0, a1)), (2, (18, a2))] [] M (p_L_fetch M a0 a1 a2) := by
  unfold p_L_fetch
  refine XE.go (st_aload_n (j := 2) (i := 2) (pc' := 1) (by decide +kernel) rfl rfl (by decide) rfl) ?_
  refine XE.go (st_iconst (n := 0) (pc' := 2) (by decide +kernel) (w_eq (by decide) (by decide)) rfl) ?_
  refine XE.go (st_aload_n (j := 0) (i := 0) (pc' := 3) (by decide +kernel) rfl rfl (by decide) rfl) ?_
  refine XE.go (st_iload_n (j := 1) (i := 1) (pc' := 4) (by decide +kernel) rfl rfl rfl) ?_
  refine XE.gd_ (fun g1 => ?_)
  refine XE.cTH (pc' := 7) (st := [(0, 0), (18, a2)]) hf_L_fetch (fun r hr => ct_X10_fetch g1 r hr) (fun r hr => run_V (st := [(0, 0), (18, a2)]) (by decide +kernel) co_L_fetch_33 (ct_X10_fetch g1 r hr) rfl g1 rfl rfl (Nat.le_of_ble_eq_true rfl)) rfl rfl (fun v2 M3 => ?_)
  refine XE.go (st_i2l (pc' := 8) (by decide +kernel) rfl) ?_
  refine XE.gd_ (fun g4 => ?_)
  refine XE.goM (st_ast (k := 15) (tp := 2) (pc' := 9) (by decide +kernel) rfl ak_15 rfl (by decide) rfl (Or.inr (Or.inr ⟨rfl, rfl, rfl, rfl⟩)) g4.1 g4.2.1 g4.2.2) (fun M5 => ?_)
  refine XE.go (st_goto (off := 9) (pc' := 18) (by decide +kernel) (by decide)) ?_
  refine XE.go (st_iconst (n := 0) (pc' := 19) (by decide +kernel) (w_eq (by decide) (by decide)) rfl) ?_
  exact XE.rt rfl (X_iret (by decide +kernel) rfl)
theorem ct_L_fetch {D : Dt} {M : Mm} {a0 a1 a2 : Int} (r : (Int × Mm)) (hr : p_L_fetch M a0 a1 a2 = some r) : CT D 1 mu_L_fetch [(14, a0), (0, a1), (18, a2)] M (.inl (some (0, r.1))) r.2 := CT.of (by decide +kernel) rfl (Nat.le_of_ble_eq_true rfl) (xe_L_fetch r hr)
def p_L_speed (M : Mm) (a0 a1 a2 : Int) : Option (Int × Mm) := gd (a0 ≠ 0) ((p_X10_speed M a0 a1).bind (hnT (fun x M => if x = 2 then some (1, M) else none) (fun v2 M3 => gd (aok a2 0) ((some (wr M3 a2 0 v2)).bind fun M5 => some (0, M5)))))
set_option maxRecDepth 100000 in
set_option maxHeartbeats 4000000 in
theorem xe_L_speed {D : Dt} {M : Mm} {a0 a1 a2 : Int} : XE D 1 mu_L_speed (EW 0) 0 [(0, (14, a0)), (1, (0, a1)), (2, (18, a2))] [] M (p_L_speed M a0 a1 a2) := by
  unfold p_L_speed
  refine XE.go (st_aload_n (j := 2) (i := 2) (pc' := 1) (by decide +kernel) rfl rfl (by decide) rfl) ?_
  refine XE.go (st_iconst (n := 0) (pc' := 2) (by decide +kernel) (w_eq (by decide) (by decide)) rfl) ?_
  refine XE.go (st_aload_n (j := 0) (i := 0) (pc' := 3) (by decide +kernel) rfl rfl (by decide) rfl) ?_
  refine XE.go (st_iload_n (j := 1) (i := 1) (pc' := 4) (by decide +kernel) rfl rfl rfl) ?_
  refine XE.gd_ (fun g1 => ?_)
  refine XE.cTH (pc' := 7) (st := [(0, 0), (18, a2)]) hf_L_speed (fun r hr => ct_X10_speed g1 r hr) (fun r hr => run_V (st := [(0, 0), (18, a2)]) (by decide +kernel) co_L_speed_36 (ct_X10_speed g1 r hr) rfl g1 rfl rfl (Nat.le_of_ble_eq_true rfl)) rfl rfl (fun v2 M3 => ?_)
  refine XE.go (st_i2l (pc' := 8) (by decide +kernel) rfl) ?_
  refine XE.gd_ (fun g4 => ?_)
  refine XE.goM (st_ast (k := 15) (tp := 2) (pc' := 9) (by decide +kernel) rfl ak_15 rfl (by decide) rfl (Or.inr (Or.inr ⟨rfl, rfl, rfl, rfl⟩)) g4.1 g4.2.1 g4.2.2) (fun M5 => ?_)
  refine XE.go (st_goto (off := 6) (pc' := 15) (by decide +kernel) (by decide)) ?_
  refine XE.go (st_iconst (n := 0) (pc' := 16) (by decide +kernel) (w_eq (by decide) (by decide)) rfl) ?_
  exact XE.rt rfl (X_iret (by decide +kernel) rfl)
theorem ct_L_speed {D : Dt} {M : Mm} {a0 a1 a2 : Int} (r : (Int × Mm)) (hr : p_L_speed M a0 a1 a2 = some r) : CT D 1 mu_L_speed [(14, a0), (0, a1), (18, a2)] M (.inl (some (0, r.1))) r.2 := CT.of (by decide +kernel) rfl (Nat.le_of_ble_eq_true rfl) (xe_L_speed r hr)
def p_L_tick (M : Mm) (a0 a1 a2 : Int) : Option (Int × Mm) := gd (a0 ≠ 0) ((p_X10_tick M a0 a1).bind (hnT (fun x M => if x = 2 then some (1, M) else none) (fun v2 M3 => gd (aok a2 0) ((some (wr M3 a2 0 v2)).bind fun M5 => some (0, M5)))))
set_option maxRecDepth 100000 in
set_option maxHeartbeats 4000000 in
theorem xe_L_tick {D : Dt} {M : Mm} {a0 a1 a2 : Int} : XE D 1 mu_L_tick (EW 0) 0 [(0, (14, a0)), (1, (0, a1)), (2, (18, a2))] [] M (p_L_tick M a0 a1 a2) := by
  unfold p_L_tick
  refine XE.go (st_aload_n (j := 2) (i := 2) (pc' := 1) (by decide +kernel) rfl rfl (by decide) rfl) ?_
  refine XE.go (st_iconst (n := 0) (pc' := 2) (by decide +kernel) (w_eq (by decide) (by decide)) rfl) ?_
  refine XE.go (st_aload_n (j := 0) (i := 0) (pc' := 3) (by decide +kernel) rfl rfl (by decide) rfl) ?_
  refine XE.go (st_iload_n (j := 1) (i := 1) (pc' := 4) (by decide +kernel) rfl rfl rfl) ?_
  refine XE.gd_ (fun g1 => ?_)
  refine XE.cTH (pc' := 7) (st := [(0, 0), (18, a2)]) hf_L_tick (fun r hr => ct_X10_tick g1 r hr) (fun r hr => run_V (st := [(0, 0), (18, a2)]) (by decide +kernel) co_L_tick_39 (ct_X10_tick g1 r hr) rfl g1 rfl rfl (Nat.le_of_ble_eq_true rfl)) rfl rfl (fun v2 M3 => ?_)
  refine XE.go (st_i2l (pc' := 8) (by decide +kernel) rfl) ?_
  refine XE.gd_ (fun g4 => ?_)
  refine XE.goM (st_ast (k := 15) (tp := 2) (pc' := 9) (by decide +kernel) rfl ak_15 rfl (by decide) rfl (Or.inr (Or.inr ⟨rfl, rfl, rfl, rfl⟩)) g4.1 g4.2.1 g4.2.2) (fun M5 => ?_)
  refine XE.go (st_goto (off := 6) (pc' := 15) (by decide +kernel) (by decide)) ?_
  refine XE.go (st_iconst (n := 0) (pc' := 16) (by decide +kernel) (w_eq (by decide) (by decide)) rfl) ?_
  exact XE.rt rfl (X_iret (by decide +kernel) rfl)
theorem ct_L_tick {D : Dt} {M : Mm} {a0 a1 a2 : Int} (r : (Int × Mm)) (hr : p_L_tick M a0 a1 a2 = some r) : CT D 1 mu_L_tick [(14, a0), (0, a1), (18, a2)] M (.inl (some (0, r.1))) r.2 := CT.of (by decide +kernel) rfl (Nat.le_of_ble_eq_true rfl) (xe_L_tick r hr)
def p_L_producer (M : Mm) (a0 a1 : Int) : Option (Int × Mm) := gd (a0 ≠ 0) ((p_X10_producer M a0).bind (hnT (fun x M => if x = 3 then some (1, M) else none) (fun v2 M3 => gd (aok a1 0) ((some (wr M3 a1 0 v2)).bind fun M5 => some (0, M5)))))
set_option maxRecDepth 100000 in
set_option maxHeartbeats 4000000 in
theorem xe_L_producer {D : Dt} {M : Mm} {a0 a1 : Int} : XE D 1 mu_L_producer (EW 0) 0 [(0, (14, a0)), (1, (18, a1))] [] M (p_L_producer M a0 a1) := by
  unfold p_L_producer
  refine XE.go (st_aload_n (j := 1) (i := 1) (pc' := 1) (by decide +kernel) rfl rfl (by decide) rfl) ?_
  refine XE.go (st_iconst (n := 0) (pc' := 2) (by decide +kernel) (w_eq (by decide) (by decide)) rfl) ?_
  refine XE.go (st_aload_n (j := 0) (i := 0) (pc' := 3) (by decide +kernel) rfl rfl (by decide) rfl) ?_
  refine XE.gd_ (fun g1 => ?_)
  refine XE.cTH (pc' := 6) (st := [(0, 0), (18, a1)]) hf_L_producer (fun r hr => ct_X10_producer g1 r hr) (fun r hr => run_V (st := [(0, 0), (18, a1)]) (by decide +kernel) co_L_producer_42 (ct_X10_producer g1 r hr) rfl g1 rfl rfl (Nat.le_of_ble_eq_true rfl)) rfl rfl (fun v2 M3 => ?_)
  refine XE.go (st_i2l (pc' := 7) (by decide +kernel) rfl) ?_
  refine XE.gd_ (fun g4 => ?_)
  refine XE.goM (st_ast (k := 15) (tp := 2) (pc' := 8) (by decide +kernel) rfl ak_15 rfl (by decide) rfl (Or.inr (Or.inr ⟨rfl, rfl, rfl, rfl⟩)) g4.1 g4.2.1 g4.2.2) (fun M5 => ?_)
  refine XE.go (st_goto (off := 6) (pc' := 14) (by decide +kernel) (by decide)) ?_
  refine XE.go (st_iconst (n := 0) (pc' := 15) (by decide +kernel) (w_eq (by decide) (by decide)) rfl) ?_
  exact XE.rt rfl (X_iret (by decide +kernel) rfl)
theorem ct_L_producer {D : Dt} {M : Mm} {a0 a1 : Int} (r : (Int × Mm)) (hr : p_L_producer M a0 a1 = some r) : CT D 1 mu_L_producer [(14, a0), (18, a1)] M (.inl (some (0, r.1))) r.2 := CT.of (by decide +kernel) rfl (Nat.le_of_ble_eq_true rfl) (xe_L_producer r hr)
def p_L_quota (M : Mm) (a0 a1 a2 a3 : Int) : Option (Int × Mm) := gd (a0 ≠ 0) ((p_X10_quota M a0 a1 a2).bind (hnT (fun x M => if x = 1 then some (1, M) else if x = 2 then some (2, M) else none) (fun v2 M3 => gd (aok a3 0) ((some (wr M3 a3 0 v2)).bind fun M5 => some (0, M5)))))
set_option maxRecDepth 100000 in
set_option maxHeartbeats 4000000 in
theorem xe_L_quota {D : Dt} {M : Mm} {a0 a1 a2 a3 : Int} : XE D 1 mu_L_quota (EW 0) 0 [(0, (14, a0)), (1, (0, a1)), (2, (0, a2)), (3, (18, a3))] [] M (p_L_quota M a0 a1 a2 a3) := by
  unfold p_L_quota
  refine XE.go (st_aload_n (j := 3) (i := 3) (pc' := 1) (by decide +kernel) rfl rfl (by decide) rfl) ?_
  refine XE.go (st_iconst (n := 0) (pc' := 2) (by decide +kernel) (w_eq (by decide) (by decide)) rfl) ?_
  refine XE.go (st_aload_n (j := 0) (i := 0) (pc' := 3) (by decide +kernel) rfl rfl (by decide) rfl) ?_
  refine XE.go (st_iload_n (j := 1) (i := 1) (pc' := 4) (by decide +kernel) rfl rfl rfl) ?_
  refine XE.go (st_iload_n (j := 2) (i := 2) (pc' := 5) (by decide +kernel) rfl rfl rfl) ?_
  refine XE.gd_ (fun g1 => ?_)
  refine XE.cTH (pc' := 8) (st := [(0, 0), (18, a3)]) hf_L_quota (fun r hr => ct_X10_quota g1 r hr) (fun r hr => run_V (st := [(0, 0), (18, a3)]) (by decide +kernel) co_L_quota_46 (ct_X10_quota g1 r hr) rfl g1 rfl rfl (Nat.le_of_ble_eq_true rfl)) rfl rfl (fun v2 M3 => ?_)
  refine XE.go (st_i2l (pc' := 9) (by decide +kernel) rfl) ?_
  refine XE.gd_ (fun g4 => ?_)
  refine XE.goM (st_ast (k := 15) (tp := 2) (pc' := 10) (by decide +kernel) rfl ak_15 rfl (by decide) rfl (Or.inr (Or.inr ⟨rfl, rfl, rfl, rfl⟩)) g4.1 g4.2.1 g4.2.2) (fun M5 => ?_)
  refine XE.go (st_goto (off := 11) (pc' := 21) (by decide +kernel) (by decide)) ?_
  refine XE.go (st_iconst (n := 0) (pc' := 22) (by decide +kernel) (w_eq (by decide) (by decide)) rfl) ?_
  exact XE.rt rfl (X_iret (by decide +kernel) rfl)
theorem ct_L_quota {D : Dt} {M : Mm} {a0 a1 a2 a3 : Int} (r : (Int × Mm)) (hr : p_L_quota M a0 a1 a2 a3 = some r) : CT D 1 mu_L_quota [(14, a0), (0, a1), (0, a2), (18, a3)] M (.inl (some (0, r.1))) r.2 := CT.of (by decide +kernel) rfl (Nat.le_of_ble_eq_true rfl) (xe_L_quota r hr)
def p_L_send (M : Mm) (a0 a1 a2 a3 a4 a5 : Int) : Option (Int × Mm) := gd (a0 ≠ 0) ((p_X10_send M a0 a1 a2 a3 a4).bind (hnT (fun x M => if x = 1 then some (1, M) else if x = 2 then some (2, M) else if x = 3 then some (3, M) else none) (fun v2 M3 => gd (aok a5 0) ((some (wr M3 a5 0 v2)).bind fun M5 => some (0, M5)))))
set_option maxRecDepth 100000 in
set_option maxHeartbeats 4000000 in
theorem xe_L_send {D : Dt} {M : Mm} {a0 a1 a2 a3 a4 a5 : Int} : XE D 1 mu_L_send (EW 0) 0 [(0, (14, a0)), (1, (0, a1)), (2, (0, a2)), (3, (0, a3)), (4, (0, a4)), (5, (18, a5))] [] M (p_L_send M a0 a1 a2 a3 a4 a5) := by
  unfold p_L_send
  refine XE.go (st_aload (j := 5) (pc' := 2) (by decide +kernel) rfl (by decide) rfl) ?_
  refine XE.go (st_iconst (n := 0) (pc' := 3) (by decide +kernel) (w_eq (by decide) (by decide)) rfl) ?_
  refine XE.go (st_aload_n (j := 0) (i := 0) (pc' := 4) (by decide +kernel) rfl rfl (by decide) rfl) ?_
  refine XE.go (st_iload_n (j := 1) (i := 1) (pc' := 5) (by decide +kernel) rfl rfl rfl) ?_
  refine XE.go (st_iload_n (j := 2) (i := 2) (pc' := 6) (by decide +kernel) rfl rfl rfl) ?_
  refine XE.go (st_iload_n (j := 3) (i := 3) (pc' := 7) (by decide +kernel) rfl rfl rfl) ?_
  refine XE.go (st_iload (j := 4) (pc' := 9) (by decide +kernel) rfl rfl) ?_
  refine XE.gd_ (fun g1 => ?_)
  refine XE.cTH (pc' := 12) (st := [(0, 0), (18, a5)]) hf_L_send (fun r hr => ct_X10_send g1 r hr) (fun r hr => run_V (st := [(0, 0), (18, a5)]) (by decide +kernel) co_L_send_50 (ct_X10_send g1 r hr) rfl g1 rfl rfl (Nat.le_of_ble_eq_true rfl)) rfl rfl (fun v2 M3 => ?_)
  refine XE.go (st_i2l (pc' := 13) (by decide +kernel) rfl) ?_
  refine XE.gd_ (fun g4 => ?_)
  refine XE.goM (st_ast (k := 15) (tp := 2) (pc' := 14) (by decide +kernel) rfl ak_15 rfl (by decide) rfl (Or.inr (Or.inr ⟨rfl, rfl, rfl, rfl⟩)) g4.1 g4.2.1 g4.2.2) (fun M5 => ?_)
  refine XE.go (st_goto (off := 15) (pc' := 29) (by decide +kernel) (by decide)) ?_
  refine XE.go (st_iconst (n := 0) (pc' := 30) (by decide +kernel) (w_eq (by decide) (by decide)) rfl) ?_
  exact XE.rt rfl (X_iret (by decide +kernel) rfl)
theorem ct_L_send {D : Dt} {M : Mm} {a0 a1 a2 a3 a4 a5 : Int} (r : (Int × Mm)) (hr : p_L_send M a0 a1 a2 a3 a4 a5 = some r) : CT D 1 mu_L_send [(14, a0), (0, a1), (0, a2), (0, a3), (0, a4), (18, a5)] M (.inl (some (0, r.1))) r.2 := CT.of (by decide +kernel) rfl (Nat.le_of_ble_eq_true rfl) (xe_L_send r hr)
def p_L_sendSome (M : Mm) (a0 a1 a2 a3 a4 a5 : Int) : Option (Int × Mm) := gd (a0 ≠ 0) ((p_X10_sendSome M a0 a1 a2 a3 a4).bind (hnT (fun x M => if x = 1 then some (1, M) else if x = 2 then some (2, M) else none) (fun v2 M3 => gd (aok a5 0) ((some (wr M3 a5 0 v2)).bind fun M5 => some (0, M5)))))
set_option maxRecDepth 100000 in
set_option maxHeartbeats 4000000 in
theorem xe_L_sendSome {D : Dt} {M : Mm} {a0 a1 a2 a3 a4 a5 : Int} : XE D 1 mu_L_sendSome (EW 0) 0 [(0, (14, a0)), (1, (0, a1)), (2, (0, a2)), (3, (0, a3)), (4, (0, a4)), (5, (18, a5))] [] M (p_L_sendSome M a0 a1 a2 a3 a4 a5) := by
  unfold p_L_sendSome
  refine XE.go (st_aload (j := 5) (pc' := 2) (by decide +kernel) rfl (by decide) rfl) ?_
  refine XE.go (st_iconst (n := 0) (pc' := 3) (by decide +kernel) (w_eq (by decide) (by decide)) rfl) ?_
  refine XE.go (st_aload_n (j := 0) (i := 0) (pc' := 4) (by decide +kernel) rfl rfl (by decide) rfl) ?_
  refine XE.go (st_iload_n (j := 1) (i := 1) (pc' := 5) (by decide +kernel) rfl rfl rfl) ?_
  refine XE.go (st_iload_n (j := 2) (i := 2) (pc' := 6) (by decide +kernel) rfl rfl rfl) ?_
  refine XE.go (st_iload_n (j := 3) (i := 3) (pc' := 7) (by decide +kernel) rfl rfl rfl) ?_
  refine XE.go (st_iload (j := 4) (pc' := 9) (by decide +kernel) rfl rfl) ?_
  refine XE.gd_ (fun g1 => ?_)
  refine XE.cTH (pc' := 12) (st := [(0, 0), (18, a5)]) hf_L_sendSome (fun r hr => ct_X10_sendSome g1 r hr) (fun r hr => run_V (st := [(0, 0), (18, a5)]) (by decide +kernel) co_L_sendSome_54 (ct_X10_sendSome g1 r hr) rfl g1 rfl rfl (Nat.le_of_ble_eq_true rfl)) rfl rfl (fun v2 M3 => ?_)
  refine XE.go (st_i2l (pc' := 13) (by decide +kernel) rfl) ?_
  refine XE.gd_ (fun g4 => ?_)
  refine XE.goM (st_ast (k := 15) (tp := 2) (pc' := 14) (by decide +kernel) rfl ak_15 rfl (by decide) rfl (Or.inr (Or.inr ⟨rfl, rfl, rfl, rfl⟩)) g4.1 g4.2.1 g4.2.2) (fun M5 => ?_)
  refine XE.go (st_goto (off := 11) (pc' := 25) (by decide +kernel) (by decide)) ?_
  refine XE.go (st_iconst (n := 0) (pc' := 26) (by decide +kernel) (w_eq (by decide) (by decide)) rfl) ?_
  exact XE.rt rfl (X_iret (by decide +kernel) rfl)
theorem ct_L_sendSome {D : Dt} {M : Mm} {a0 a1 a2 a3 a4 a5 : Int} (r : (Int × Mm)) (hr : p_L_sendSome M a0 a1 a2 a3 a4 a5 = some r) : CT D 1 mu_L_sendSome [(14, a0), (0, a1), (0, a2), (0, a3), (0, a4), (18, a5)] M (.inl (some (0, r.1))) r.2 := CT.of (by decide +kernel) rfl (Nat.le_of_ble_eq_true rfl) (xe_L_sendSome r hr)
def p_L_sendLater (M : Mm) (a0 a1 a2 a3 a4 a5 a6 : Int) : Option (Int × Mm) := gd (a0 ≠ 0) ((p_X10_sendLater M a0 a1 a2 a3 a4 a5).bind (hnT (fun x M => if x = 1 then some (1, M) else if x = 2 then some (2, M) else if x = 3 then some (3, M) else none) (fun v2 M3 => gd (aok a6 0) ((some (wr M3 a6 0 v2)).bind fun M5 => some (0, M5)))))
set_option maxRecDepth 100000 in
set_option maxHeartbeats 4000000 in
theorem xe_L_sendLater {D : Dt} {M : Mm} {a0 a1 a2 a3 a4 a5 a6 : Int} : XE D 1 mu_L_sendLater (EW 0) 0 [(0, (14, a0)), (1, (0, a1)), (2, (0, a2)), (3, (0, a3)), (4, (0, a4)), (5, (0, a5)), (6, (18, a6))] [] M (p_L_sendLater M a0 a1 a2 a3 a4 a5 a6) := by
  unfold p_L_sendLater
  refine XE.go (st_aload (j := 6) (pc' := 2) (by decide +kernel) rfl (by decide) rfl) ?_
  refine XE.go (st_iconst (n := 0) (pc' := 3) (by decide +kernel) (w_eq (by decide) (by decide)) rfl) ?_
  refine XE.go (st_aload_n (j := 0) (i := 0) (pc' := 4) (by decide +kernel) rfl rfl (by decide) rfl) ?_
  refine XE.go (st_iload_n (j := 1) (i := 1) (pc' := 5) (by decide +kernel) rfl rfl rfl) ?_
  refine XE.go (st_iload_n (j := 2) (i := 2) (pc' := 6) (by decide +kernel) rfl rfl rfl) ?_
  refine XE.go (st_iload_n (j := 3) (i := 3) (pc' := 7) (by decide +kernel) rfl rfl rfl) ?_
  refine XE.go (st_iload (j := 4) (pc' := 9) (by decide +kernel) rfl rfl) ?_
  refine XE.go (st_iload (j := 5) (pc' := 11) (by decide +kernel) rfl rfl) ?_
  refine XE.gd_ (fun g1 => ?_)
  refine XE.cTH (pc' := 14) (st := [(0, 0), (18, a6)]) hf_L_sendLater (fun r hr => ct_X10_sendLater g1 r hr) (fun r hr => run_V (st := [(0, 0), (18, a6)]) (by decide +kernel) co_L_sendLater_57 (ct_X10_sendLater g1 r hr) rfl g1 rfl rfl (Nat.le_of_ble_eq_true rfl)) rfl rfl (fun v2 M3 => ?_)
  refine XE.go (st_i2l (pc' := 15) (by decide +kernel) rfl) ?_
  refine XE.gd_ (fun g4 => ?_)
  refine XE.goM (st_ast (k := 15) (tp := 2) (pc' := 16) (by decide +kernel) rfl ak_15 rfl (by decide) rfl (Or.inr (Or.inr ⟨rfl, rfl, rfl, rfl⟩)) g4.1 g4.2.1 g4.2.2) (fun M5 => ?_)
  refine XE.go (st_goto (off := 15) (pc' := 31) (by decide +kernel) (by decide)) ?_
  refine XE.go (st_iconst (n := 0) (pc' := 32) (by decide +kernel) (w_eq (by decide) (by decide)) rfl) ?_
  exact XE.rt rfl (X_iret (by decide +kernel) rfl)
theorem ct_L_sendLater {D : Dt} {M : Mm} {a0 a1 a2 a3 a4 a5 a6 : Int} (r : (Int × Mm)) (hr : p_L_sendLater M a0 a1 a2 a3 a4 a5 a6 = some r) : CT D 1 mu_L_sendLater [(14, a0), (0, a1), (0, a2), (0, a3), (0, a4), (0, a5), (18, a6)] M (.inl (some (0, r.1))) r.2 := CT.of (by decide +kernel) rfl (Nat.le_of_ble_eq_true rfl) (xe_L_sendLater r hr)
def p_L_resend (M : Mm) (a0 a1 a2 a3 : Int) : Option (Int × Mm) := gd (a0 ≠ 0) ((p_X10_resend M a0 a1 a2).bind (hnT (fun x M => if x = 1 then some (1, M) else if x = 3 then some (2, M) else none) (fun v2 M3 => gd (aok a3 0) ((some (wr M3 a3 0 v2)).bind fun M5 => some (0, M5)))))
set_option maxRecDepth 100000 in
set_option maxHeartbeats 4000000 in
theorem xe_L_resend {D : Dt} {M : Mm} {a0 a1 a2 a3 : Int} : XE D 1 mu_L_resend (EW 0) 0 [(0, (14, a0)), (1, (0, a1)), (2, (0, a2)), (3, (18, a3))] [] M (p_L_resend M a0 a1 a2 a3) := by
  unfold p_L_resend
  refine XE.go (st_aload_n (j := 3) (i := 3) (pc' := 1) (by decide +kernel) rfl rfl (by decide) rfl) ?_
  refine XE.go (st_iconst (n := 0) (pc' := 2) (by decide +kernel) (w_eq (by decide) (by decide)) rfl) ?_
  refine XE.go (st_aload_n (j := 0) (i := 0) (pc' := 3) (by decide +kernel) rfl rfl (by decide) rfl) ?_
  refine XE.go (st_iload_n (j := 1) (i := 1) (pc' := 4) (by decide +kernel) rfl rfl rfl) ?_
  refine XE.go (st_iload_n (j := 2) (i := 2) (pc' := 5) (by decide +kernel) rfl rfl rfl) ?_
  refine XE.gd_ (fun g1 => ?_)
  refine XE.cTH (pc' := 8) (st := [(0, 0), (18, a3)]) hf_L_resend (fun r hr => ct_X10_resend g1 r hr) (fun r hr => run_V (st := [(0, 0), (18, a3)]) (by decide +kernel) co_L_resend_61 (ct_X10_resend g1 r hr) rfl g1 rfl rfl (Nat.le_of_ble_eq_true rfl)) rfl rfl (fun v2 M3 => ?_)
  refine XE.go (st_i2l (pc' := 9) (by decide +kernel) rfl) ?_
  refine XE.gd_ (fun g4 => ?_)
  refine XE.goM (st_ast (k := 15) (tp := 2) (pc' := 10) (by decide +kernel) rfl ak_15 rfl (by decide) rfl (Or.inr (Or.inr ⟨rfl, rfl, rfl, rfl⟩)) g4.1 g4.2.1 g4.2.2) (fun M5 => ?_)
  refine XE.go (st_goto (off := 11) (pc' := 21) (by decide +kernel) (by decide)) ?_
  refine XE.go (st_iconst (n := 0) (pc' := 22) (by decide +kernel) (w_eq (by decide) (by decide)) rfl) ?_
  exact XE.rt rfl (X_iret (by decide +kernel) rfl)
theorem ct_L_resend {D : Dt} {M : Mm} {a0 a1 a2 a3 : Int} (r : (Int × Mm)) (hr : p_L_resend M a0 a1 a2 a3 = some r) : CT D 1 mu_L_resend [(14, a0), (0, a1), (0, a2), (18, a3)] M (.inl (some (0, r.1))) r.2 := CT.of (by decide +kernel) rfl (Nat.le_of_ble_eq_true rfl) (xe_L_resend r hr)
def p_L_begin (M : Mm) (a0 a1 a2 : Int) : Option (Int × Mm) := gd (a0 ≠ 0) ((p_X10_begin M a0 a1).bind (hnT (fun x M => if x = 1 then some (1, M) else if x = 3 then some (2, M) else none) (fun v2 M3 => gd (aok a2 0) ((some (wr M3 a2 0 v2)).bind fun M5 => some (0, M5)))))
set_option maxRecDepth 100000 in
set_option maxHeartbeats 4000000 in
theorem xe_L_begin {D : Dt} {M : Mm} {a0 a1 a2 : Int} : XE D 1 mu_L_begin (EW 0) 0 [(0, (14, a0)), (1, (0, a1)), (2, (18, a2))] [] M (p_L_begin M a0 a1 a2) := by
  unfold p_L_begin
  refine XE.go (st_aload_n (j := 2) (i := 2) (pc' := 1) (by decide +kernel) rfl rfl (by decide) rfl) ?_
  refine XE.go (st_iconst (n := 0) (pc' := 2) (by decide +kernel) (w_eq (by decide) (by decide)) rfl) ?_
  refine XE.go (st_aload_n (j := 0) (i := 0) (pc' := 3) (by decide +kernel) rfl rfl (by decide) rfl) ?_
  refine XE.go (st_iload_n (j := 1) (i := 1) (pc' := 4) (by decide +kernel) rfl rfl rfl) ?_
  refine XE.gd_ (fun g1 => ?_)
  refine XE.cTH (pc' := 7) (st := [(0, 0), (18, a2)]) hf_L_begin (fun r hr => ct_X10_begin g1 r hr) (fun r hr => run_V (st := [(0, 0), (18, a2)]) (by decide +kernel) co_L_begin_64 (ct_X10_begin g1 r hr) rfl g1 rfl rfl (Nat.le_of_ble_eq_true rfl)) rfl rfl (fun v2 M3 => ?_)
  refine XE.go (st_i2l (pc' := 8) (by decide +kernel) rfl) ?_
  refine XE.gd_ (fun g4 => ?_)
  refine XE.goM (st_ast (k := 15) (tp := 2) (pc' := 9) (by decide +kernel) rfl ak_15 rfl (by decide) rfl (Or.inr (Or.inr ⟨rfl, rfl, rfl, rfl⟩)) g4.1 g4.2.1 g4.2.2) (fun M5 => ?_)
  refine XE.go (st_goto (off := 9) (pc' := 18) (by decide +kernel) (by decide)) ?_
  refine XE.go (st_iconst (n := 0) (pc' := 19) (by decide +kernel) (w_eq (by decide) (by decide)) rfl) ?_
  exact XE.rt rfl (X_iret (by decide +kernel) rfl)
theorem ct_L_begin {D : Dt} {M : Mm} {a0 a1 a2 : Int} (r : (Int × Mm)) (hr : p_L_begin M a0 a1 a2 = some r) : CT D 1 mu_L_begin [(14, a0), (0, a1), (18, a2)] M (.inl (some (0, r.1))) r.2 := CT.of (by decide +kernel) rfl (Nat.le_of_ble_eq_true rfl) (xe_L_begin r hr)
def p_L_attach (M : Mm) (a0 a1 a2 a3 a4 : Int) : Option (Int × Mm) := gd (a0 ≠ 0) ((p_X10_attach M a0 a1 a2 a3).bind (hnT (fun x M => if x = 1 then some (1, M) else if x = 3 then some (2, M) else none) (fun v2 M3 => gd (aok a4 0) ((some (wr M3 a4 0 v2)).bind fun M5 => some (0, M5)))))
set_option maxRecDepth 100000 in
set_option maxHeartbeats 4000000 in
theorem xe_L_attach {D : Dt} {M : Mm} {a0 a1 a2 a3 a4 : Int} : XE D 1 mu_L_attach (EW 0) 0 [(0, (14, a0)), (1, (0, a1)), (2, (0, a2)), (3, (0, a3)), (4, (18, a4))] [] M (p_L_attach M a0 a1 a2 a3 a4) := by
  unfold p_L_attach
  refine XE.go (st_aload (j := 4) (pc' := 2) (by decide +kernel) rfl (by decide) rfl) ?_
  refine XE.go (st_iconst (n := 0) (pc' := 3) (by decide +kernel) (w_eq (by decide) (by decide)) rfl) ?_
  refine XE.go (st_aload_n (j := 0) (i := 0) (pc' := 4) (by decide +kernel) rfl rfl (by decide) rfl) ?_
  refine XE.go (st_iload_n (j := 1) (i := 1) (pc' := 5) (by decide +kernel) rfl rfl rfl) ?_
  refine XE.go (st_iload_n (j := 2) (i := 2) (pc' := 6) (by decide +kernel) rfl rfl rfl) ?_
  refine XE.go (st_iload_n (j := 3) (i := 3) (pc' := 7) (by decide +kernel) rfl rfl rfl) ?_
  refine XE.gd_ (fun g1 => ?_)
  refine XE.cTH (pc' := 10) (st := [(0, 0), (18, a4)]) hf_L_attach (fun r hr => ct_X10_attach g1 r hr) (fun r hr => run_V (st := [(0, 0), (18, a4)]) (by decide +kernel) co_L_attach_67 (ct_X10_attach g1 r hr) rfl g1 rfl rfl (Nat.le_of_ble_eq_true rfl)) rfl rfl (fun v2 M3 => ?_)
  refine XE.go (st_i2l (pc' := 11) (by decide +kernel) rfl) ?_
  refine XE.gd_ (fun g4 => ?_)
  refine XE.goM (st_ast (k := 15) (tp := 2) (pc' := 12) (by decide +kernel) rfl ak_15 rfl (by decide) rfl (Or.inr (Or.inr ⟨rfl, rfl, rfl, rfl⟩)) g4.1 g4.2.1 g4.2.2) (fun M5 => ?_)
  refine XE.go (st_goto (off := 11) (pc' := 23) (by decide +kernel) (by decide)) ?_
  refine XE.go (st_iconst (n := 0) (pc' := 24) (by decide +kernel) (w_eq (by decide) (by decide)) rfl) ?_
  exact XE.rt rfl (X_iret (by decide +kernel) rfl)
theorem ct_L_attach {D : Dt} {M : Mm} {a0 a1 a2 a3 a4 : Int} (r : (Int × Mm)) (hr : p_L_attach M a0 a1 a2 a3 a4 = some r) : CT D 1 mu_L_attach [(14, a0), (0, a1), (0, a2), (0, a3), (18, a4)] M (.inl (some (0, r.1))) r.2 := CT.of (by decide +kernel) rfl (Nat.le_of_ble_eq_true rfl) (xe_L_attach r hr)
def p_L_commit (M : Mm) (a0 a1 a2 : Int) : Option (Int × Mm) := gd (a0 ≠ 0) ((p_X10_commit M a0 a1).bind (hnT (fun x M => if x = 1 then some (1, M) else if x = 3 then some (2, M) else none) (fun v2 M3 => gd (aok a2 0) ((some (wr M3 a2 0 v2)).bind fun M5 => some (0, M5)))))
set_option maxRecDepth 100000 in
set_option maxHeartbeats 4000000 in
theorem xe_L_commit {D : Dt} {M : Mm} {a0 a1 a2 : Int} : XE D 1 mu_L_commit (EW 0) 0 [(0, (14, a0)), (1, (0, a1)), (2, (18, a2))] [] M (p_L_commit M a0 a1 a2) := by
  unfold p_L_commit
  refine XE.go (st_aload_n (j := 2) (i := 2) (pc' := 1) (by decide +kernel) rfl rfl (by decide) rfl) ?_
  refine XE.go (st_iconst (n := 0) (pc' := 2) (by decide +kernel) (w_eq (by decide) (by decide)) rfl) ?_
  refine XE.go (st_aload_n (j := 0) (i := 0) (pc' := 3) (by decide +kernel) rfl rfl (by decide) rfl) ?_
  refine XE.go (st_iload_n (j := 1) (i := 1) (pc' := 4) (by decide +kernel) rfl rfl rfl) ?_
  refine XE.gd_ (fun g1 => ?_)
  refine XE.cTH (pc' := 7) (st := [(0, 0), (18, a2)]) hf_L_commit (fun r hr => ct_X10_commit g1 r hr) (fun r hr => run_V (st := [(0, 0), (18, a2)]) (by decide +kernel) co_L_commit_70 (ct_X10_commit g1 r hr) rfl g1 rfl rfl (Nat.le_of_ble_eq_true rfl)) rfl rfl (fun v2 M3 => ?_)
  refine XE.go (st_i2l (pc' := 8) (by decide +kernel) rfl) ?_
  refine XE.gd_ (fun g4 => ?_)
  refine XE.goM (st_ast (k := 15) (tp := 2) (pc' := 9) (by decide +kernel) rfl ak_15 rfl (by decide) rfl (Or.inr (Or.inr ⟨rfl, rfl, rfl, rfl⟩)) g4.1 g4.2.1 g4.2.2) (fun M5 => ?_)
  refine XE.go (st_goto (off := 9) (pc' := 18) (by decide +kernel) (by decide)) ?_
  refine XE.go (st_iconst (n := 0) (pc' := 19) (by decide +kernel) (w_eq (by decide) (by decide)) rfl) ?_
  exact XE.rt rfl (X_iret (by decide +kernel) rfl)
theorem ct_L_commit {D : Dt} {M : Mm} {a0 a1 a2 : Int} (r : (Int × Mm)) (hr : p_L_commit M a0 a1 a2 = some r) : CT D 1 mu_L_commit [(14, a0), (0, a1), (18, a2)] M (.inl (some (0, r.1))) r.2 := CT.of (by decide +kernel) rfl (Nat.le_of_ble_eq_true rfl) (xe_L_commit r hr)
def p_L_abort (M : Mm) (a0 a1 a2 : Int) : Option (Int × Mm) := gd (a0 ≠ 0) ((p_X10_abort M a0 a1).bind (hnT (fun x M => if x = 1 then some (1, M) else if x = 3 then some (2, M) else none) (fun v2 M3 => gd (aok a2 0) ((some (wr M3 a2 0 v2)).bind fun M5 => some (0, M5)))))
set_option maxRecDepth 100000 in
set_option maxHeartbeats 4000000 in
theorem xe_L_abort {D : Dt} {M : Mm} {a0 a1 a2 : Int} : XE D 1 mu_L_abort (EW 0) 0 [(0, (14, a0)), (1, (0, a1)), (2, (18, a2))] [] M (p_L_abort M a0 a1 a2) := by
  unfold p_L_abort
  refine XE.go (st_aload_n (j := 2) (i := 2) (pc' := 1) (by decide +kernel) rfl rfl (by decide) rfl) ?_
  refine XE.go (st_iconst (n := 0) (pc' := 2) (by decide +kernel) (w_eq (by decide) (by decide)) rfl) ?_
  refine XE.go (st_aload_n (j := 0) (i := 0) (pc' := 3) (by decide +kernel) rfl rfl (by decide) rfl) ?_
  refine XE.go (st_iload_n (j := 1) (i := 1) (pc' := 4) (by decide +kernel) rfl rfl rfl) ?_
  refine XE.gd_ (fun g1 => ?_)
  refine XE.cTH (pc' := 7) (st := [(0, 0), (18, a2)]) hf_L_abort (fun r hr => ct_X10_abort g1 r hr) (fun r hr => run_V (st := [(0, 0), (18, a2)]) (by decide +kernel) co_L_abort_73 (ct_X10_abort g1 r hr) rfl g1 rfl rfl (Nat.le_of_ble_eq_true rfl)) rfl rfl (fun v2 M3 => ?_)
  refine XE.go (st_i2l (pc' := 8) (by decide +kernel) rfl) ?_
  refine XE.gd_ (fun g4 => ?_)
  refine XE.goM (st_ast (k := 15) (tp := 2) (pc' := 9) (by decide +kernel) rfl ak_15 rfl (by decide) rfl (Or.inr (Or.inr ⟨rfl, rfl, rfl, rfl⟩)) g4.1 g4.2.1 g4.2.2) (fun M5 => ?_)
  refine XE.go (st_goto (off := 9) (pc' := 18) (by decide +kernel) (by decide)) ?_
  refine XE.go (st_iconst (n := 0) (pc' := 19) (by decide +kernel) (w_eq (by decide) (by decide)) rfl) ?_
  exact XE.rt rfl (X_iret (by decide +kernel) rfl)
theorem ct_L_abort {D : Dt} {M : Mm} {a0 a1 a2 : Int} (r : (Int × Mm)) (hr : p_L_abort M a0 a1 a2 = some r) : CT D 1 mu_L_abort [(14, a0), (0, a1), (18, a2)] M (.inl (some (0, r.1))) r.2 := CT.of (by decide +kernel) rfl (Nat.le_of_ble_eq_true rfl) (xe_L_abort r hr)
def p_L_group (M : Mm) (a0 a1 a2 : Int) : Option (Int × Mm) := gd (a0 ≠ 0) ((p_X10_group M a0 a1).bind (hnT (fun x M => if x = 2 then some (1, M) else if x = 3 then some (2, M) else none) (fun v2 M3 => gd (aok a2 0) ((some (wr M3 a2 0 v2)).bind fun M5 => some (0, M5)))))
set_option maxRecDepth 100000 in
set_option maxHeartbeats 4000000 in
theorem xe_L_group {D : Dt} {M : Mm} {a0 a1 a2 : Int} : XE D 1 mu_L_group (EW 0) 0 [(0, (14, a0)), (1, (0, a1)), (2, (18, a2))] [] M (p_L_group M a0 a1 a2) := by
  unfold p_L_group
  refine XE.go (st_aload_n (j := 2) (i := 2) (pc' := 1) (by decide +kernel) rfl rfl (by decide) rfl) ?_
  refine XE.go (st_iconst (n := 0) (pc' := 2) (by decide +kernel) (w_eq (by decide) (by decide)) rfl) ?_
  refine XE.go (st_aload_n (j := 0) (i := 0) (pc' := 3) (by decide +kernel) rfl rfl (by decide) rfl) ?_
  refine XE.go (st_iload_n (j := 1) (i := 1) (pc' := 4) (by decide +kernel) rfl rfl rfl) ?_
  refine XE.gd_ (fun g1 => ?_)
  refine XE.cTH (pc' := 7) (st := [(0, 0), (18, a2)]) hf_L_group (fun r hr => ct_X10_group g1 r hr) (fun r hr => run_V (st := [(0, 0), (18, a2)]) (by decide +kernel) co_L_group_76 (ct_X10_group g1 r hr) rfl g1 rfl rfl (Nat.le_of_ble_eq_true rfl)) rfl rfl (fun v2 M3 => ?_)
  refine XE.go (st_i2l (pc' := 8) (by decide +kernel) rfl) ?_
  refine XE.gd_ (fun g4 => ?_)
  refine XE.goM (st_ast (k := 15) (tp := 2) (pc' := 9) (by decide +kernel) rfl ak_15 rfl (by decide) rfl (Or.inr (Or.inr ⟨rfl, rfl, rfl, rfl⟩)) g4.1 g4.2.1 g4.2.2) (fun M5 => ?_)
  refine XE.go (st_goto (off := 9) (pc' := 18) (by decide +kernel) (by decide)) ?_
  refine XE.go (st_iconst (n := 0) (pc' := 19) (by decide +kernel) (w_eq (by decide) (by decide)) rfl) ?_
  exact XE.rt rfl (X_iret (by decide +kernel) rfl)
theorem ct_L_group {D : Dt} {M : Mm} {a0 a1 a2 : Int} (r : (Int × Mm)) (hr : p_L_group M a0 a1 a2 = some r) : CT D 1 mu_L_group [(14, a0), (0, a1), (18, a2)] M (.inl (some (0, r.1))) r.2 := CT.of (by decide +kernel) rfl (Nat.le_of_ble_eq_true rfl) (xe_L_group r hr)
def p_L_join (M : Mm) (a0 a1 a2 : Int) : Option (Int × Mm) := gd (a0 ≠ 0) ((p_X10_join M a0 a1).bind (hnT (fun x M => if x = 1 then some (1, M) else if x = 3 then some (2, M) else none) (fun v2 M3 => gd (aok a2 0) ((some (wr M3 a2 0 v2)).bind fun M5 => some (0, M5)))))
set_option maxRecDepth 100000 in
set_option maxHeartbeats 4000000 in
theorem xe_L_join {D : Dt} {M : Mm} {a0 a1 a2 : Int} : XE D 1 mu_L_join (EW 0) 0 [(0, (14, a0)), (1, (0, a1)), (2, (18, a2))] [] M (p_L_join M a0 a1 a2) := by
  unfold p_L_join
  refine XE.go (st_aload_n (j := 2) (i := 2) (pc' := 1) (by decide +kernel) rfl rfl (by decide) rfl) ?_
  refine XE.go (st_iconst (n := 0) (pc' := 2) (by decide +kernel) (w_eq (by decide) (by decide)) rfl) ?_
  refine XE.go (st_aload_n (j := 0) (i := 0) (pc' := 3) (by decide +kernel) rfl rfl (by decide) rfl) ?_
  refine XE.go (st_iload_n (j := 1) (i := 1) (pc' := 4) (by decide +kernel) rfl rfl rfl) ?_
  refine XE.gd_ (fun g1 => ?_)
  refine XE.cTH (pc' := 7) (st := [(0, 0), (18, a2)]) hf_L_join (fun r hr => ct_X10_join g1 r hr) (fun r hr => run_V (st := [(0, 0), (18, a2)]) (by decide +kernel) co_L_join_79 (ct_X10_join g1 r hr) rfl g1 rfl rfl (Nat.le_of_ble_eq_true rfl)) rfl rfl (fun v2 M3 => ?_)
  refine XE.go (st_i2l (pc' := 8) (by decide +kernel) rfl) ?_
  refine XE.gd_ (fun g4 => ?_)
  refine XE.goM (st_ast (k := 15) (tp := 2) (pc' := 9) (by decide +kernel) rfl ak_15 rfl (by decide) rfl (Or.inr (Or.inr ⟨rfl, rfl, rfl, rfl⟩)) g4.1 g4.2.1 g4.2.2) (fun M5 => ?_)
  refine XE.go (st_goto (off := 9) (pc' := 18) (by decide +kernel) (by decide)) ?_
  refine XE.go (st_iconst (n := 0) (pc' := 19) (by decide +kernel) (w_eq (by decide) (by decide)) rfl) ?_
  exact XE.rt rfl (X_iret (by decide +kernel) rfl)
theorem ct_L_join {D : Dt} {M : Mm} {a0 a1 a2 : Int} (r : (Int × Mm)) (hr : p_L_join M a0 a1 a2 = some r) : CT D 1 mu_L_join [(14, a0), (0, a1), (18, a2)] M (.inl (some (0, r.1))) r.2 := CT.of (by decide +kernel) rfl (Nat.le_of_ble_eq_true rfl) (xe_L_join r hr)
def p_L_leave (M : Mm) (a0 a1 a2 a3 : Int) : Option (Int × Mm) := gd (a0 ≠ 0) ((p_X10_leave M a0 a1 a2).bind (hnT (fun x M => if x = 1 then some (1, M) else none) (fun v2 M3 => gd (aok a3 0) ((some (wr M3 a3 0 v2)).bind fun M5 => some (0, M5)))))
set_option maxRecDepth 100000 in
set_option maxHeartbeats 4000000 in
theorem xe_L_leave {D : Dt} {M : Mm} {a0 a1 a2 a3 : Int} : XE D 1 mu_L_leave (EW 0) 0 [(0, (14, a0)), (1, (0, a1)), (2, (0, a2)), (3, (18, a3))] [] M (p_L_leave M a0 a1 a2 a3) := by
  unfold p_L_leave
  refine XE.go (st_aload_n (j := 3) (i := 3) (pc' := 1) (by decide +kernel) rfl rfl (by decide) rfl) ?_
  refine XE.go (st_iconst (n := 0) (pc' := 2) (by decide +kernel) (w_eq (by decide) (by decide)) rfl) ?_
  refine XE.go (st_aload_n (j := 0) (i := 0) (pc' := 3) (by decide +kernel) rfl rfl (by decide) rfl) ?_
  refine XE.go (st_iload_n (j := 1) (i := 1) (pc' := 4) (by decide +kernel) rfl rfl rfl) ?_
  refine XE.go (st_iload_n (j := 2) (i := 2) (pc' := 5) (by decide +kernel) rfl rfl rfl) ?_
  refine XE.gd_ (fun g1 => ?_)
  refine XE.cTH (pc' := 8) (st := [(0, 0), (18, a3)]) hf_L_leave (fun r hr => ct_X10_leave g1 r hr) (fun r hr => run_V (st := [(0, 0), (18, a3)]) (by decide +kernel) co_L_leave_82 (ct_X10_leave g1 r hr) rfl g1 rfl rfl (Nat.le_of_ble_eq_true rfl)) rfl rfl (fun v2 M3 => ?_)
  refine XE.go (st_i2l (pc' := 9) (by decide +kernel) rfl) ?_
  refine XE.gd_ (fun g4 => ?_)
  refine XE.goM (st_ast (k := 15) (tp := 2) (pc' := 10) (by decide +kernel) rfl ak_15 rfl (by decide) rfl (Or.inr (Or.inr ⟨rfl, rfl, rfl, rfl⟩)) g4.1 g4.2.1 g4.2.2) (fun M5 => ?_)
  refine XE.go (st_goto (off := 7) (pc' := 17) (by decide +kernel) (by decide)) ?_
  refine XE.go (st_iconst (n := 0) (pc' := 18) (by decide +kernel) (w_eq (by decide) (by decide)) rfl) ?_
  exact XE.rt rfl (X_iret (by decide +kernel) rfl)
theorem ct_L_leave {D : Dt} {M : Mm} {a0 a1 a2 a3 : Int} (r : (Int × Mm)) (hr : p_L_leave M a0 a1 a2 a3 = some r) : CT D 1 mu_L_leave [(14, a0), (0, a1), (0, a2), (18, a3)] M (.inl (some (0, r.1))) r.2 := CT.of (by decide +kernel) rfl (Nat.le_of_ble_eq_true rfl) (xe_L_leave r hr)
def p_L_beat (M : Mm) (a0 a1 a2 a3 : Int) : Option (Int × Mm) := gd (a0 ≠ 0) ((p_X10_beat M a0 a1 a2).bind (hnT (fun x M => if x = 1 then some (1, M) else none) (fun v2 M3 => gd (aok a3 0) ((some (wr M3 a3 0 v2)).bind fun M5 => some (0, M5)))))
set_option maxRecDepth 100000 in
set_option maxHeartbeats 4000000 in
theorem xe_L_beat {D : Dt} {M : Mm} {a0 a1 a2 a3 : Int} : XE D 1 mu_L_beat (EW 0) 0 [(0, (14, a0)), (1, (0, a1)), (2, (0, a2)), (3, (18, a3))] [] M (p_L_beat M a0 a1 a2 a3) := by
  unfold p_L_beat
  refine XE.go (st_aload_n (j := 3) (i := 3) (pc' := 1) (by decide +kernel) rfl rfl (by decide) rfl) ?_
  refine XE.go (st_iconst (n := 0) (pc' := 2) (by decide +kernel) (w_eq (by decide) (by decide)) rfl) ?_
  refine XE.go (st_aload_n (j := 0) (i := 0) (pc' := 3) (by decide +kernel) rfl rfl (by decide) rfl) ?_
  refine XE.go (st_iload_n (j := 1) (i := 1) (pc' := 4) (by decide +kernel) rfl rfl rfl) ?_
  refine XE.go (st_iload_n (j := 2) (i := 2) (pc' := 5) (by decide +kernel) rfl rfl rfl) ?_
  refine XE.gd_ (fun g1 => ?_)
  refine XE.cTH (pc' := 8) (st := [(0, 0), (18, a3)]) hf_L_beat (fun r hr => ct_X10_beat g1 r hr) (fun r hr => run_V (st := [(0, 0), (18, a3)]) (by decide +kernel) co_L_beat_85 (ct_X10_beat g1 r hr) rfl g1 rfl rfl (Nat.le_of_ble_eq_true rfl)) rfl rfl (fun v2 M3 => ?_)
  refine XE.go (st_i2l (pc' := 9) (by decide +kernel) rfl) ?_
  refine XE.gd_ (fun g4 => ?_)
  refine XE.goM (st_ast (k := 15) (tp := 2) (pc' := 10) (by decide +kernel) rfl ak_15 rfl (by decide) rfl (Or.inr (Or.inr ⟨rfl, rfl, rfl, rfl⟩)) g4.1 g4.2.1 g4.2.2) (fun M5 => ?_)
  refine XE.go (st_goto (off := 7) (pc' := 17) (by decide +kernel) (by decide)) ?_
  refine XE.go (st_iconst (n := 0) (pc' := 18) (by decide +kernel) (w_eq (by decide) (by decide)) rfl) ?_
  exact XE.rt rfl (X_iret (by decide +kernel) rfl)
theorem ct_L_beat {D : Dt} {M : Mm} {a0 a1 a2 a3 : Int} (r : (Int × Mm)) (hr : p_L_beat M a0 a1 a2 a3 = some r) : CT D 1 mu_L_beat [(14, a0), (0, a1), (0, a2), (18, a3)] M (.inl (some (0, r.1))) r.2 := CT.of (by decide +kernel) rfl (Nat.le_of_ble_eq_true rfl) (xe_L_beat r hr)
def p_L_credits (M : Mm) (a0 a1 a2 a3 a4 : Int) : Option (Int × Mm) := gd (a0 ≠ 0) ((p_X10_credits M a0 a1 a2 a3).bind (hnT (fun x M => if x = 1 then some (1, M) else if x = 2 then some (2, M) else if x = 3 then some (3, M) else none) (fun v2 M3 => gd (aok a4 0) ((some (wr M3 a4 0 v2)).bind fun M5 => some (0, M5)))))
set_option maxRecDepth 100000 in
set_option maxHeartbeats 4000000 in
theorem xe_L_credits {D : Dt} {M : Mm} {a0 a1 a2 a3 a4 : Int} : XE D 1 mu_L_credits (EW 0) 0 [(0, (14, a0)), (1, (0, a1)), (2, (0, a2)), (3, (0, a3)), (4, (18, a4))] [] M (p_L_credits M a0 a1 a2 a3 a4) := by
  unfold p_L_credits
  refine XE.go (st_aload (j := 4) (pc' := 2) (by decide +kernel) rfl (by decide) rfl) ?_
  refine XE.go (st_iconst (n := 0) (pc' := 3) (by decide +kernel) (w_eq (by decide) (by decide)) rfl) ?_
  refine XE.go (st_aload_n (j := 0) (i := 0) (pc' := 4) (by decide +kernel) rfl rfl (by decide) rfl) ?_
  refine XE.go (st_iload_n (j := 1) (i := 1) (pc' := 5) (by decide +kernel) rfl rfl rfl) ?_
  refine XE.go (st_iload_n (j := 2) (i := 2) (pc' := 6) (by decide +kernel) rfl rfl rfl) ?_
  refine XE.go (st_iload_n (j := 3) (i := 3) (pc' := 7) (by decide +kernel) rfl rfl rfl) ?_
  refine XE.gd_ (fun g1 => ?_)
  refine XE.cTH (pc' := 10) (st := [(0, 0), (18, a4)]) hf_L_credits (fun r hr => ct_X10_credits g1 r hr) (fun r hr => run_V (st := [(0, 0), (18, a4)]) (by decide +kernel) co_L_credits_88 (ct_X10_credits g1 r hr) rfl g1 rfl rfl (Nat.le_of_ble_eq_true rfl)) rfl rfl (fun v2 M3 => ?_)
  refine XE.go (st_i2l (pc' := 11) (by decide +kernel) rfl) ?_
  refine XE.gd_ (fun g4 => ?_)
  refine XE.goM (st_ast (k := 15) (tp := 2) (pc' := 12) (by decide +kernel) rfl ak_15 rfl (by decide) rfl (Or.inr (Or.inr ⟨rfl, rfl, rfl, rfl⟩)) g4.1 g4.2.1 g4.2.2) (fun M5 => ?_)
  refine XE.go (st_goto (off := 15) (pc' := 27) (by decide +kernel) (by decide)) ?_
  refine XE.go (st_iconst (n := 0) (pc' := 28) (by decide +kernel) (w_eq (by decide) (by decide)) rfl) ?_
  exact XE.rt rfl (X_iret (by decide +kernel) rfl)
theorem ct_L_credits {D : Dt} {M : Mm} {a0 a1 a2 a3 a4 : Int} (r : (Int × Mm)) (hr : p_L_credits M a0 a1 a2 a3 a4 = some r) : CT D 1 mu_L_credits [(14, a0), (0, a1), (0, a2), (0, a3), (18, a4)] M (.inl (some (0, r.1))) r.2 := CT.of (by decide +kernel) rfl (Nat.le_of_ble_eq_true rfl) (xe_L_credits r hr)
def p_L_read (M : Mm) (a0 a1 a2 a3 : Int) : Option (Int × Mm) := gd (a0 ≠ 0) ((p_X10_read M a0 a1 a2).bind (hnT (fun x M => if x = 1 then some (1, M) else none) (fun v2 M3 => gd (aok a3 0) ((some (wr M3 a3 0 v2)).bind fun M5 => some (0, M5)))))
set_option maxRecDepth 100000 in
set_option maxHeartbeats 4000000 in
theorem xe_L_read {D : Dt} {M : Mm} {a0 a1 a2 a3 : Int} : XE D 1 mu_L_read (EW 0) 0 [(0, (14, a0)), (1, (0, a1)), (2, (0, a2)), (3, (18, a3))] [] M (p_L_read M a0 a1 a2 a3) := by
  unfold p_L_read
  refine XE.go (st_aload_n (j := 3) (i := 3) (pc' := 1) (by decide +kernel) rfl rfl (by decide) rfl) ?_
  refine XE.go (st_iconst (n := 0) (pc' := 2) (by decide +kernel) (w_eq (by decide) (by decide)) rfl) ?_
  refine XE.go (st_aload_n (j := 0) (i := 0) (pc' := 3) (by decide +kernel) rfl rfl (by decide) rfl) ?_
  refine XE.go (st_iload_n (j := 1) (i := 1) (pc' := 4) (by decide +kernel) rfl rfl rfl) ?_
  refine XE.go (st_iload_n (j := 2) (i := 2) (pc' := 5) (by decide +kernel) rfl rfl rfl) ?_
  refine XE.gd_ (fun g1 => ?_)
  refine XE.cTH (pc' := 8) (st := [(0, 0), (18, a3)]) hf_L_read (fun r hr => ct_X10_read g1 r hr) (fun r hr => run_V (st := [(0, 0), (18, a3)]) (by decide +kernel) co_L_read_91 (ct_X10_read g1 r hr) rfl g1 rfl rfl (Nat.le_of_ble_eq_true rfl)) rfl rfl (fun v2 M3 => ?_)
  refine XE.go (st_i2l (pc' := 9) (by decide +kernel) rfl) ?_
  refine XE.gd_ (fun g4 => ?_)
  refine XE.goM (st_ast (k := 15) (tp := 2) (pc' := 10) (by decide +kernel) rfl ak_15 rfl (by decide) rfl (Or.inr (Or.inr ⟨rfl, rfl, rfl, rfl⟩)) g4.1 g4.2.1 g4.2.2) (fun M5 => ?_)
  refine XE.go (st_goto (off := 7) (pc' := 17) (by decide +kernel) (by decide)) ?_
  refine XE.go (st_iconst (n := 0) (pc' := 18) (by decide +kernel) (w_eq (by decide) (by decide)) rfl) ?_
  exact XE.rt rfl (X_iret (by decide +kernel) rfl)
theorem ct_L_read {D : Dt} {M : Mm} {a0 a1 a2 a3 : Int} (r : (Int × Mm)) (hr : p_L_read M a0 a1 a2 a3 = some r) : CT D 1 mu_L_read [(14, a0), (0, a1), (0, a2), (18, a3)] M (.inl (some (0, r.1))) r.2 := CT.of (by decide +kernel) rfl (Nat.le_of_ble_eq_true rfl) (xe_L_read r hr)
def p_L_done (M : Mm) (a0 a1 a2 a3 a4 : Int) : Option (Int × Mm) := gd (a0 ≠ 0) ((p_X10_done M a0 a1 a2 a3).bind (hnT (fun x M => if x = 1 then some (1, M) else if x = 3 then some (2, M) else none) (fun v2 M3 => gd (aok a4 0) ((some (wr M3 a4 0 v2)).bind fun M5 => some (0, M5)))))
set_option maxRecDepth 100000 in
set_option maxHeartbeats 4000000 in
theorem xe_L_done {D : Dt} {M : Mm} {a0 a1 a2 a3 a4 : Int} : XE D 1 mu_L_done (EW 0) 0 [(0, (14, a0)), (1, (0, a1)), (2, (0, a2)), (3, (0, a3)), (4, (18, a4))] [] M (p_L_done M a0 a1 a2 a3 a4) := by
  unfold p_L_done
  refine XE.go (st_aload (j := 4) (pc' := 2) (by decide +kernel) rfl (by decide) rfl) ?_
  refine XE.go (st_iconst (n := 0) (pc' := 3) (by decide +kernel) (w_eq (by decide) (by decide)) rfl) ?_
  refine XE.go (st_aload_n (j := 0) (i := 0) (pc' := 4) (by decide +kernel) rfl rfl (by decide) rfl) ?_
  refine XE.go (st_iload_n (j := 1) (i := 1) (pc' := 5) (by decide +kernel) rfl rfl rfl) ?_
  refine XE.go (st_iload_n (j := 2) (i := 2) (pc' := 6) (by decide +kernel) rfl rfl rfl) ?_
  refine XE.go (st_iload_n (j := 3) (i := 3) (pc' := 7) (by decide +kernel) rfl rfl rfl) ?_
  refine XE.gd_ (fun g1 => ?_)
  refine XE.cTH (pc' := 10) (st := [(0, 0), (18, a4)]) hf_L_done (fun r hr => ct_X10_done g1 r hr) (fun r hr => run_V (st := [(0, 0), (18, a4)]) (by decide +kernel) co_L_done_94 (ct_X10_done g1 r hr) rfl g1 rfl rfl (Nat.le_of_ble_eq_true rfl)) rfl rfl (fun v2 M3 => ?_)
  refine XE.go (st_i2l (pc' := 11) (by decide +kernel) rfl) ?_
  refine XE.gd_ (fun g4 => ?_)
  refine XE.goM (st_ast (k := 15) (tp := 2) (pc' := 12) (by decide +kernel) rfl ak_15 rfl (by decide) rfl (Or.inr (Or.inr ⟨rfl, rfl, rfl, rfl⟩)) g4.1 g4.2.1 g4.2.2) (fun M5 => ?_)
  refine XE.go (st_goto (off := 11) (pc' := 23) (by decide +kernel) (by decide)) ?_
  refine XE.go (st_iconst (n := 0) (pc' := 24) (by decide +kernel) (w_eq (by decide) (by decide)) rfl) ?_
  exact XE.rt rfl (X_iret (by decide +kernel) rfl)
theorem ct_L_done {D : Dt} {M : Mm} {a0 a1 a2 a3 a4 : Int} (r : (Int × Mm)) (hr : p_L_done M a0 a1 a2 a3 a4 = some r) : CT D 1 mu_L_done [(14, a0), (0, a1), (0, a2), (0, a3), (18, a4)] M (.inl (some (0, r.1))) r.2 := CT.of (by decide +kernel) rfl (Nat.le_of_ble_eq_true rfl) (xe_L_done r hr)
def p_L_retry (M : Mm) (a0 a1 a2 a3 a4 : Int) : Option (Int × Mm) := gd (a0 ≠ 0) ((p_X10_retry M a0 a1 a2 a3).bind (hnT (fun x M => if x = 1 then some (1, M) else if x = 3 then some (2, M) else none) (fun v2 M3 => gd (aok a4 0) ((some (wr M3 a4 0 v2)).bind fun M5 => some (0, M5)))))
set_option maxRecDepth 100000 in
set_option maxHeartbeats 4000000 in
theorem xe_L_retry {D : Dt} {M : Mm} {a0 a1 a2 a3 a4 : Int} : XE D 1 mu_L_retry (EW 0) 0 [(0, (14, a0)), (1, (0, a1)), (2, (0, a2)), (3, (0, a3)), (4, (18, a4))] [] M (p_L_retry M a0 a1 a2 a3 a4) := by
  unfold p_L_retry
  refine XE.go (st_aload (j := 4) (pc' := 2) (by decide +kernel) rfl (by decide) rfl) ?_
  refine XE.go (st_iconst (n := 0) (pc' := 3) (by decide +kernel) (w_eq (by decide) (by decide)) rfl) ?_
  refine XE.go (st_aload_n (j := 0) (i := 0) (pc' := 4) (by decide +kernel) rfl rfl (by decide) rfl) ?_
  refine XE.go (st_iload_n (j := 1) (i := 1) (pc' := 5) (by decide +kernel) rfl rfl rfl) ?_
  refine XE.go (st_iload_n (j := 2) (i := 2) (pc' := 6) (by decide +kernel) rfl rfl rfl) ?_
  refine XE.go (st_iload_n (j := 3) (i := 3) (pc' := 7) (by decide +kernel) rfl rfl rfl) ?_
  refine XE.gd_ (fun g1 => ?_)
  refine XE.cTH (pc' := 10) (st := [(0, 0), (18, a4)]) hf_L_retry (fun r hr => ct_X10_retry g1 r hr) (fun r hr => run_V (st := [(0, 0), (18, a4)]) (by decide +kernel) co_L_retry_97 (ct_X10_retry g1 r hr) rfl g1 rfl rfl (Nat.le_of_ble_eq_true rfl)) rfl rfl (fun v2 M3 => ?_)
  refine XE.go (st_i2l (pc' := 11) (by decide +kernel) rfl) ?_
  refine XE.gd_ (fun g4 => ?_)
  refine XE.goM (st_ast (k := 15) (tp := 2) (pc' := 12) (by decide +kernel) rfl ak_15 rfl (by decide) rfl (Or.inr (Or.inr ⟨rfl, rfl, rfl, rfl⟩)) g4.1 g4.2.1 g4.2.2) (fun M5 => ?_)
  refine XE.go (st_goto (off := 11) (pc' := 23) (by decide +kernel) (by decide)) ?_
  refine XE.go (st_iconst (n := 0) (pc' := 24) (by decide +kernel) (w_eq (by decide) (by decide)) rfl) ?_
  exact XE.rt rfl (X_iret (by decide +kernel) rfl)
theorem ct_L_retry {D : Dt} {M : Mm} {a0 a1 a2 a3 a4 : Int} (r : (Int × Mm)) (hr : p_L_retry M a0 a1 a2 a3 a4 = some r) : CT D 1 mu_L_retry [(14, a0), (0, a1), (0, a2), (0, a3), (18, a4)] M (.inl (some (0, r.1))) r.2 := CT.of (by decide +kernel) rfl (Nat.le_of_ble_eq_true rfl) (xe_L_retry r hr)
def p_L_commitOffsets (M : Mm) (a0 a1 a2 a3 : Int) : Option (Int × Mm) := gd (a0 ≠ 0) ((p_X10_commitOffsets M a0 a1 a2).bind (hnT (fun x M => if x = 1 then some (1, M) else none) (fun v2 M3 => gd (aok a3 0) ((some (wr M3 a3 0 v2)).bind fun M5 => some (0, M5)))))
set_option maxRecDepth 100000 in
set_option maxHeartbeats 4000000 in
theorem xe_L_commitOffsets {D : Dt} {M : Mm} {a0 a1 a2 a3 : Int} : XE D 1 mu_L_commitOffsets (EW 0) 0 [(0, (14, a0)), (1, (0, a1)), (2, (0, a2)), (3, (18, a3))] [] M (p_L_commitOffsets M a0 a1 a2 a3) := by
  unfold p_L_commitOffsets
  refine XE.go (st_aload_n (j := 3) (i := 3) (pc' := 1) (by decide +kernel) rfl rfl (by decide) rfl) ?_
  refine XE.go (st_iconst (n := 0) (pc' := 2) (by decide +kernel) (w_eq (by decide) (by decide)) rfl) ?_
  refine XE.go (st_aload_n (j := 0) (i := 0) (pc' := 3) (by decide +kernel) rfl rfl (by decide) rfl) ?_
  refine XE.go (st_iload_n (j := 1) (i := 1) (pc' := 4) (by decide +kernel) rfl rfl rfl) ?_
  refine XE.go (st_iload_n (j := 2) (i := 2) (pc' := 5) (by decide +kernel) rfl rfl rfl) ?_
  refine XE.gd_ (fun g1 => ?_)
  refine XE.cTH (pc' := 8) (st := [(0, 0), (18, a3)]) hf_L_commitOffsets (fun r hr => ct_X10_commitOffsets g1 r hr) (fun r hr => run_V (st := [(0, 0), (18, a3)]) (by decide +kernel) co_L_commitOffsets_100 (ct_X10_commitOffsets g1 r hr) rfl g1 rfl rfl (Nat.le_of_ble_eq_true rfl)) rfl rfl (fun v2 M3 => ?_)
  refine XE.go (st_i2l (pc' := 9) (by decide +kernel) rfl) ?_
  refine XE.gd_ (fun g4 => ?_)
  refine XE.goM (st_ast (k := 15) (tp := 2) (pc' := 10) (by decide +kernel) rfl ak_15 rfl (by decide) rfl (Or.inr (Or.inr ⟨rfl, rfl, rfl, rfl⟩)) g4.1 g4.2.1 g4.2.2) (fun M5 => ?_)
  refine XE.go (st_goto (off := 7) (pc' := 17) (by decide +kernel) (by decide)) ?_
  refine XE.go (st_iconst (n := 0) (pc' := 18) (by decide +kernel) (w_eq (by decide) (by decide)) rfl) ?_
  exact XE.rt rfl (X_iret (by decide +kernel) rfl)
theorem ct_L_commitOffsets {D : Dt} {M : Mm} {a0 a1 a2 a3 : Int} (r : (Int × Mm)) (hr : p_L_commitOffsets M a0 a1 a2 a3 = some r) : CT D 1 mu_L_commitOffsets [(14, a0), (0, a1), (0, a2), (18, a3)] M (.inl (some (0, r.1))) r.2 := CT.of (by decide +kernel) rfl (Nat.le_of_ble_eq_true rfl) (xe_L_commitOffsets r hr)
def p_L_seek (M : Mm) (a0 a1 a2 a3 a4 : Int) : Option (Int × Mm) := gd (a0 ≠ 0) ((p_X10_seek M a0 a1 a2 a3).bind (hnT (fun x M => if x = 1 then some (1, M) else if x = 2 then some (2, M) else if x = 3 then some (3, M) else none) (fun v2 M3 => gd (aok a4 0) ((some (wr M3 a4 0 v2)).bind fun M5 => some (0, M5)))))
set_option maxRecDepth 100000 in
set_option maxHeartbeats 4000000 in
theorem xe_L_seek {D : Dt} {M : Mm} {a0 a1 a2 a3 a4 : Int} : XE D 1 mu_L_seek (EW 0) 0 [(0, (14, a0)), (1, (0, a1)), (2, (0, a2)), (3, (0, a3)), (4, (18, a4))] [] M (p_L_seek M a0 a1 a2 a3 a4) := by
  unfold p_L_seek
  refine XE.go (st_aload (j := 4) (pc' := 2) (by decide +kernel) rfl (by decide) rfl) ?_
  refine XE.go (st_iconst (n := 0) (pc' := 3) (by decide +kernel) (w_eq (by decide) (by decide)) rfl) ?_
  refine XE.go (st_aload_n (j := 0) (i := 0) (pc' := 4) (by decide +kernel) rfl rfl (by decide) rfl) ?_
  refine XE.go (st_iload_n (j := 1) (i := 1) (pc' := 5) (by decide +kernel) rfl rfl rfl) ?_
  refine XE.go (st_iload_n (j := 2) (i := 2) (pc' := 6) (by decide +kernel) rfl rfl rfl) ?_
  refine XE.go (st_iload_n (j := 3) (i := 3) (pc' := 7) (by decide +kernel) rfl rfl rfl) ?_
  refine XE.gd_ (fun g1 => ?_)
  refine XE.cTH (pc' := 10) (st := [(0, 0), (18, a4)]) hf_L_seek (fun r hr => ct_X10_seek g1 r hr) (fun r hr => run_V (st := [(0, 0), (18, a4)]) (by decide +kernel) co_L_seek_103 (ct_X10_seek g1 r hr) rfl g1 rfl rfl (Nat.le_of_ble_eq_true rfl)) rfl rfl (fun v2 M3 => ?_)
  refine XE.go (st_i2l (pc' := 11) (by decide +kernel) rfl) ?_
  refine XE.gd_ (fun g4 => ?_)
  refine XE.goM (st_ast (k := 15) (tp := 2) (pc' := 12) (by decide +kernel) rfl ak_15 rfl (by decide) rfl (Or.inr (Or.inr ⟨rfl, rfl, rfl, rfl⟩)) g4.1 g4.2.1 g4.2.2) (fun M5 => ?_)
  refine XE.go (st_goto (off := 15) (pc' := 27) (by decide +kernel) (by decide)) ?_
  refine XE.go (st_iconst (n := 0) (pc' := 28) (by decide +kernel) (w_eq (by decide) (by decide)) rfl) ?_
  exact XE.rt rfl (X_iret (by decide +kernel) rfl)
theorem ct_L_seek {D : Dt} {M : Mm} {a0 a1 a2 a3 a4 : Int} (r : (Int × Mm)) (hr : p_L_seek M a0 a1 a2 a3 a4 = some r) : CT D 1 mu_L_seek [(14, a0), (0, a1), (0, a2), (0, a3), (18, a4)] M (.inl (some (0, r.1))) r.2 := CT.of (by decide +kernel) rfl (Nat.le_of_ble_eq_true rfl) (xe_L_seek r hr)
def p_L_message (M : Mm) (a0 a1 a2 a3 : Int) : Option (Int × Mm) := gd (a0 ≠ 0) ((p_X10_message M a0 a1 a2).bind (hnT (fun x M => if x = 1 then some (1, M) else if x = 2 then some (2, M) else none) (fun v2 M3 => gd (aok a3 0) ((some (wr M3 a3 0 v2)).bind fun M5 => some (0, M5)))))
set_option maxRecDepth 100000 in
set_option maxHeartbeats 4000000 in
theorem xe_L_message {D : Dt} {M : Mm} {a0 a1 a2 a3 : Int} : XE D 1 mu_L_message (EW 0) 0 [(0, (14, a0)), (1, (0, a1)), (2, (0, a2)), (3, (18, a3))] [] M (p_L_message M a0 a1 a2 a3) := by
  unfold p_L_message
  refine XE.go (st_aload_n (j := 3) (i := 3) (pc' := 1) (by decide +kernel) rfl rfl (by decide) rfl) ?_
  refine XE.go (st_iconst (n := 0) (pc' := 2) (by decide +kernel) (w_eq (by decide) (by decide)) rfl) ?_
  refine XE.go (st_aload_n (j := 0) (i := 0) (pc' := 3) (by decide +kernel) rfl rfl (by decide) rfl) ?_
  refine XE.go (st_iload_n (j := 1) (i := 1) (pc' := 4) (by decide +kernel) rfl rfl rfl) ?_
  refine XE.go (st_iload_n (j := 2) (i := 2) (pc' := 5) (by decide +kernel) rfl rfl rfl) ?_
  refine XE.gd_ (fun g1 => ?_)
  refine XE.cTH (pc' := 8) (st := [(0, 0), (18, a3)]) hf_L_message (fun r hr => ct_X10_message g1 r hr) (fun r hr => run_V (st := [(0, 0), (18, a3)]) (by decide +kernel) co_L_message_106 (ct_X10_message g1 r hr) rfl g1 rfl rfl (Nat.le_of_ble_eq_true rfl)) rfl rfl (fun v2 M3 => ?_)
  refine XE.go (st_i2l (pc' := 9) (by decide +kernel) rfl) ?_
  refine XE.gd_ (fun g4 => ?_)
  refine XE.goM (st_ast (k := 15) (tp := 2) (pc' := 10) (by decide +kernel) rfl ak_15 rfl (by decide) rfl (Or.inr (Or.inr ⟨rfl, rfl, rfl, rfl⟩)) g4.1 g4.2.1 g4.2.2) (fun M5 => ?_)
  refine XE.go (st_goto (off := 11) (pc' := 21) (by decide +kernel) (by decide)) ?_
  refine XE.go (st_iconst (n := 0) (pc' := 22) (by decide +kernel) (w_eq (by decide) (by decide)) rfl) ?_
  exact XE.rt rfl (X_iret (by decide +kernel) rfl)
theorem ct_L_message {D : Dt} {M : Mm} {a0 a1 a2 a3 : Int} (r : (Int × Mm)) (hr : p_L_message M a0 a1 a2 a3 = some r) : CT D 1 mu_L_message [(14, a0), (0, a1), (0, a2), (18, a3)] M (.inl (some (0, r.1))) r.2 := CT.of (by decide +kernel) rfl (Nat.le_of_ble_eq_true rfl) (xe_L_message r hr)
def p_L_at (M : Mm) (a0 a1 a2 a3 : Int) : Option (Int × Mm) := gd (a0 ≠ 0) ((p_X10_at M a0 a1 a2).bind (hnT (fun x M => if x = 1 then some (1, M) else none) (fun v2 M3 => gd (aok a3 0) ((some (wr M3 a3 0 v2)).bind fun M5 => some (0, M5)))))
set_option maxRecDepth 100000 in
set_option maxHeartbeats 4000000 in
theorem xe_L_at {D : Dt} {M : Mm} {a0 a1 a2 a3 : Int} : XE D 1 mu_L_at (EW 0) 0 [(0, (14, a0)), (1, (0, a1)), (2, (0, a2)), (3, (18, a3))] [] M (p_L_at M a0 a1 a2 a3) := by
  unfold p_L_at
  refine XE.go (st_aload_n (j := 3) (i := 3) (pc' := 1) (by decide +kernel) rfl rfl (by decide) rfl) ?_
  refine XE.go (st_iconst (n := 0) (pc' := 2) (by decide +kernel) (w_eq (by decide) (by decide)) rfl) ?_
  refine XE.go (st_aload_n (j := 0) (i := 0) (pc' := 3) (by decide +kernel) rfl rfl (by decide) rfl) ?_
  refine XE.go (st_iload_n (j := 1) (i := 1) (pc' := 4) (by decide +kernel) rfl rfl rfl) ?_
  refine XE.go (st_iload_n (j := 2) (i := 2) (pc' := 5) (by decide +kernel) rfl rfl rfl) ?_
  refine XE.gd_ (fun g1 => ?_)
  refine XE.cTH (pc' := 8) (st := [(0, 0), (18, a3)]) hf_L_at (fun r hr => ct_X10_at g1 r hr) (fun r hr => run_V (st := [(0, 0), (18, a3)]) (by decide +kernel) co_L_at_109 (ct_X10_at g1 r hr) rfl g1 rfl rfl (Nat.le_of_ble_eq_true rfl)) rfl rfl (fun v2 M3 => ?_)
  refine XE.go (st_i2l (pc' := 9) (by decide +kernel) rfl) ?_
  refine XE.gd_ (fun g4 => ?_)
  refine XE.goM (st_ast (k := 15) (tp := 2) (pc' := 10) (by decide +kernel) rfl ak_15 rfl (by decide) rfl (Or.inr (Or.inr ⟨rfl, rfl, rfl, rfl⟩)) g4.1 g4.2.1 g4.2.2) (fun M5 => ?_)
  refine XE.go (st_goto (off := 7) (pc' := 17) (by decide +kernel) (by decide)) ?_
  refine XE.go (st_iconst (n := 0) (pc' := 18) (by decide +kernel) (w_eq (by decide) (by decide)) rfl) ?_
  exact XE.rt rfl (X_iret (by decide +kernel) rfl)
theorem ct_L_at {D : Dt} {M : Mm} {a0 a1 a2 a3 : Int} (r : (Int × Mm)) (hr : p_L_at M a0 a1 a2 a3 = some r) : CT D 1 mu_L_at [(14, a0), (0, a1), (0, a2), (18, a3)] M (.inl (some (0, r.1))) r.2 := CT.of (by decide +kernel) rfl (Nat.le_of_ble_eq_true rfl) (xe_L_at r hr)
def p_L_partition (M : Mm) (a0 a1 a2 a3 : Int) : Option (Int × Mm) := gd (a0 ≠ 0) ((p_X10_partition M a0 a1 a2).bind (hnT (fun x M => if x = 1 then some (1, M) else if x = 2 then some (2, M) else none) (fun v2 M3 => gd (aok a3 0) ((some (wr M3 a3 0 v2)).bind fun M5 => some (0, M5)))))
set_option maxRecDepth 100000 in
set_option maxHeartbeats 4000000 in
theorem xe_L_partition {D : Dt} {M : Mm} {a0 a1 a2 a3 : Int} : XE D 1 mu_L_partition (EW 0) 0 [(0, (14, a0)), (1, (0, a1)), (2, (0, a2)), (3, (18, a3))] [] M (p_L_partition M a0 a1 a2 a3) := by
  unfold p_L_partition
  refine XE.go (st_aload_n (j := 3) (i := 3) (pc' := 1) (by decide +kernel) rfl rfl (by decide) rfl) ?_
  refine XE.go (st_iconst (n := 0) (pc' := 2) (by decide +kernel) (w_eq (by decide) (by decide)) rfl) ?_
  refine XE.go (st_aload_n (j := 0) (i := 0) (pc' := 3) (by decide +kernel) rfl rfl (by decide) rfl) ?_
  refine XE.go (st_iload_n (j := 1) (i := 1) (pc' := 4) (by decide +kernel) rfl rfl rfl) ?_
  refine XE.go (st_iload_n (j := 2) (i := 2) (pc' := 5) (by decide +kernel) rfl rfl rfl) ?_
  refine XE.gd_ (fun g1 => ?_)
  refine XE.cTH (pc' := 8) (st := [(0, 0), (18, a3)]) hf_L_partition (fun r hr => ct_X10_partition g1 r hr) (fun r hr => run_V (st := [(0, 0), (18, a3)]) (by decide +kernel) co_L_partition_112 (ct_X10_partition g1 r hr) rfl g1 rfl rfl (Nat.le_of_ble_eq_true rfl)) rfl rfl (fun v2 M3 => ?_)
  refine XE.go (st_i2l (pc' := 9) (by decide +kernel) rfl) ?_
  refine XE.gd_ (fun g4 => ?_)
  refine XE.goM (st_ast (k := 15) (tp := 2) (pc' := 10) (by decide +kernel) rfl ak_15 rfl (by decide) rfl (Or.inr (Or.inr ⟨rfl, rfl, rfl, rfl⟩)) g4.1 g4.2.1 g4.2.2) (fun M5 => ?_)
  refine XE.go (st_goto (off := 11) (pc' := 21) (by decide +kernel) (by decide)) ?_
  refine XE.go (st_iconst (n := 0) (pc' := 22) (by decide +kernel) (w_eq (by decide) (by decide)) rfl) ?_
  exact XE.rt rfl (X_iret (by decide +kernel) rfl)
theorem ct_L_partition {D : Dt} {M : Mm} {a0 a1 a2 a3 : Int} (r : (Int × Mm)) (hr : p_L_partition M a0 a1 a2 a3 = some r) : CT D 1 mu_L_partition [(14, a0), (0, a1), (0, a2), (18, a3)] M (.inl (some (0, r.1))) r.2 := CT.of (by decide +kernel) rfl (Nat.le_of_ble_eq_true rfl) (xe_L_partition r hr)
def p_L_replica (M : Mm) (a0 a1 a2 a3 a4 : Int) : Option (Int × Mm) := gd (a0 ≠ 0) ((p_X10_replica M a0 a1 a2 a3).bind (hnT (fun x M => if x = 1 then some (1, M) else if x = 2 then some (2, M) else none) (fun v2 M3 => gd (aok a4 0) ((some (wr M3 a4 0 v2)).bind fun M5 => some (0, M5)))))
set_option maxRecDepth 100000 in
set_option maxHeartbeats 4000000 in
theorem xe_L_replica {D : Dt} {M : Mm} {a0 a1 a2 a3 a4 : Int} : XE D 1 mu_L_replica (EW 0) 0 [(0, (14, a0)), (1, (0, a1)), (2, (0, a2)), (3, (0, a3)), (4, (18, a4))] [] M (p_L_replica M a0 a1 a2 a3 a4) := by
  unfold p_L_replica
  refine XE.go (st_aload (j := 4) (pc' := 2) (by decide +kernel) rfl (by decide) rfl) ?_
  refine XE.go (st_iconst (n := 0) (pc' := 3) (by decide +kernel) (w_eq (by decide) (by decide)) rfl) ?_
  refine XE.go (st_aload_n (j := 0) (i := 0) (pc' := 4) (by decide +kernel) rfl rfl (by decide) rfl) ?_
  refine XE.go (st_iload_n (j := 1) (i := 1) (pc' := 5) (by decide +kernel) rfl rfl rfl) ?_
  refine XE.go (st_iload_n (j := 2) (i := 2) (pc' := 6) (by decide +kernel) rfl rfl rfl) ?_
  refine XE.go (st_iload_n (j := 3) (i := 3) (pc' := 7) (by decide +kernel) rfl rfl rfl) ?_
  refine XE.gd_ (fun g1 => ?_)
  refine XE.cTH (pc' := 10) (st := [(0, 0), (18, a4)]) hf_L_replica (fun r hr => ct_X10_replica g1 r hr) (fun r hr => run_V (st := [(0, 0), (18, a4)]) (by decide +kernel) co_L_replica_115 (ct_X10_replica g1 r hr) rfl g1 rfl rfl (Nat.le_of_ble_eq_true rfl)) rfl rfl (fun v2 M3 => ?_)
  refine XE.go (st_i2l (pc' := 11) (by decide +kernel) rfl) ?_
  refine XE.gd_ (fun g4 => ?_)
  refine XE.goM (st_ast (k := 15) (tp := 2) (pc' := 12) (by decide +kernel) rfl ak_15 rfl (by decide) rfl (Or.inr (Or.inr ⟨rfl, rfl, rfl, rfl⟩)) g4.1 g4.2.1 g4.2.2) (fun M5 => ?_)
  refine XE.go (st_goto (off := 11) (pc' := 23) (by decide +kernel) (by decide)) ?_
  refine XE.go (st_iconst (n := 0) (pc' := 24) (by decide +kernel) (w_eq (by decide) (by decide)) rfl) ?_
  exact XE.rt rfl (X_iret (by decide +kernel) rfl)
theorem ct_L_replica {D : Dt} {M : Mm} {a0 a1 a2 a3 a4 : Int} (r : (Int × Mm)) (hr : p_L_replica M a0 a1 a2 a3 a4 = some r) : CT D 1 mu_L_replica [(14, a0), (0, a1), (0, a2), (0, a3), (18, a4)] M (.inl (some (0, r.1))) r.2 := CT.of (by decide +kernel) rfl (Nat.le_of_ble_eq_true rfl) (xe_L_replica r hr)
def p_L_offsetAt (M : Mm) (a0 a1 a2 a3 : Int) : Option (Int × Mm) := gd (a0 ≠ 0) ((p_X10_offsetAt M a0 a1 a2).bind (hnT (fun x M => if x = 1 then some (1, M) else none) (fun v2 M3 => gd (aok a3 0) ((some (wr M3 a3 0 v2)).bind fun M5 => some (0, M5)))))
set_option maxRecDepth 100000 in
set_option maxHeartbeats 4000000 in
theorem xe_L_offsetAt {D : Dt} {M : Mm} {a0 a1 a2 a3 : Int} : XE D 1 mu_L_offsetAt (EW 0) 0 [(0, (14, a0)), (1, (0, a1)), (2, (0, a2)), (3, (18, a3))] [] M (p_L_offsetAt M a0 a1 a2 a3) := by
  unfold p_L_offsetAt
  refine XE.go (st_aload_n (j := 3) (i := 3) (pc' := 1) (by decide +kernel) rfl rfl (by decide) rfl) ?_
  refine XE.go (st_iconst (n := 0) (pc' := 2) (by decide +kernel) (w_eq (by decide) (by decide)) rfl) ?_
  refine XE.go (st_aload_n (j := 0) (i := 0) (pc' := 3) (by decide +kernel) rfl rfl (by decide) rfl) ?_
  refine XE.go (st_iload_n (j := 1) (i := 1) (pc' := 4) (by decide +kernel) rfl rfl rfl) ?_
  refine XE.go (st_iload_n (j := 2) (i := 2) (pc' := 5) (by decide +kernel) rfl rfl rfl) ?_
  refine XE.gd_ (fun g1 => ?_)
  refine XE.cTH (pc' := 8) (st := [(0, 0), (18, a3)]) hf_L_offsetAt (fun r hr => ct_X10_offsetAt g1 r hr) (fun r hr => run_V (st := [(0, 0), (18, a3)]) (by decide +kernel) co_L_offsetAt_118 (ct_X10_offsetAt g1 r hr) rfl g1 rfl rfl (Nat.le_of_ble_eq_true rfl)) rfl rfl (fun v2 M3 => ?_)
  refine XE.go (st_i2l (pc' := 9) (by decide +kernel) rfl) ?_
  refine XE.gd_ (fun g4 => ?_)
  refine XE.goM (st_ast (k := 15) (tp := 2) (pc' := 10) (by decide +kernel) rfl ak_15 rfl (by decide) rfl (Or.inr (Or.inr ⟨rfl, rfl, rfl, rfl⟩)) g4.1 g4.2.1 g4.2.2) (fun M5 => ?_)
  refine XE.go (st_goto (off := 7) (pc' := 17) (by decide +kernel) (by decide)) ?_
  refine XE.go (st_iconst (n := 0) (pc' := 18) (by decide +kernel) (w_eq (by decide) (by decide)) rfl) ?_
  exact XE.rt rfl (X_iret (by decide +kernel) rfl)
theorem ct_L_offsetAt {D : Dt} {M : Mm} {a0 a1 a2 a3 : Int} (r : (Int × Mm)) (hr : p_L_offsetAt M a0 a1 a2 a3 = some r) : CT D 1 mu_L_offsetAt [(14, a0), (0, a1), (0, a2), (18, a3)] M (.inl (some (0, r.1))) r.2 := CT.of (by decide +kernel) rfl (Nat.le_of_ble_eq_true rfl) (xe_L_offsetAt r hr)
def p_L_value (M : Mm) (a0 a1 a2 a3 : Int) : Option (Int × Mm) := gd (a0 ≠ 0) ((p_X10_value M a0 a1 a2).bind (hnT (fun x M => if x = 1 then some (1, M) else none) (fun v2 M3 => gd (aok a3 0) ((some (wr M3 a3 0 v2)).bind fun M5 => some (0, M5)))))
set_option maxRecDepth 100000 in
set_option maxHeartbeats 4000000 in
theorem xe_L_value {D : Dt} {M : Mm} {a0 a1 a2 a3 : Int} : XE D 1 mu_L_value (EW 0) 0 [(0, (14, a0)), (1, (0, a1)), (2, (0, a2)), (3, (18, a3))] [] M (p_L_value M a0 a1 a2 a3) := by
  unfold p_L_value
  refine XE.go (st_aload_n (j := 3) (i := 3) (pc' := 1) (by decide +kernel) rfl rfl (by decide) rfl) ?_
  refine XE.go (st_iconst (n := 0) (pc' := 2) (by decide +kernel) (w_eq (by decide) (by decide)) rfl) ?_
  refine XE.go (st_aload_n (j := 0) (i := 0) (pc' := 3) (by decide +kernel) rfl rfl (by decide) rfl) ?_
  refine XE.go (st_iload_n (j := 1) (i := 1) (pc' := 4) (by decide +kernel) rfl rfl rfl) ?_
  refine XE.go (st_iload_n (j := 2) (i := 2) (pc' := 5) (by decide +kernel) rfl rfl rfl) ?_
  refine XE.gd_ (fun g1 => ?_)
  refine XE.cTH (pc' := 8) (st := [(0, 0), (18, a3)]) hf_L_value (fun r hr => ct_X10_value g1 r hr) (fun r hr => run_V (st := [(0, 0), (18, a3)]) (by decide +kernel) co_L_value_121 (ct_X10_value g1 r hr) rfl g1 rfl rfl (Nat.le_of_ble_eq_true rfl)) rfl rfl (fun v2 M3 => ?_)
  refine XE.go (st_i2l (pc' := 9) (by decide +kernel) rfl) ?_
  refine XE.gd_ (fun g4 => ?_)
  refine XE.goM (st_ast (k := 15) (tp := 2) (pc' := 10) (by decide +kernel) rfl ak_15 rfl (by decide) rfl (Or.inr (Or.inr ⟨rfl, rfl, rfl, rfl⟩)) g4.1 g4.2.1 g4.2.2) (fun M5 => ?_)
  refine XE.go (st_goto (off := 7) (pc' := 17) (by decide +kernel) (by decide)) ?_
  refine XE.go (st_iconst (n := 0) (pc' := 18) (by decide +kernel) (w_eq (by decide) (by decide)) rfl) ?_
  exact XE.rt rfl (X_iret (by decide +kernel) rfl)
theorem ct_L_value {D : Dt} {M : Mm} {a0 a1 a2 a3 : Int} (r : (Int × Mm)) (hr : p_L_value M a0 a1 a2 a3 = some r) : CT D 1 mu_L_value [(14, a0), (0, a1), (0, a2), (18, a3)] M (.inl (some (0, r.1))) r.2 := CT.of (by decide +kernel) rfl (Nat.le_of_ble_eq_true rfl) (xe_L_value r hr)
def p_L_sum (M : Mm) (a0 a1 a2 a3 a4 a5 : Int) : Option (Int × Mm) := gd (a0 ≠ 0) ((p_X10_sum M a0 a1 a2 a3 a4).bind (hnT (fun x M => if x = 1 then some (1, M) else none) (fun v2 M3 => gd (aok a5 0) ((some (wr M3 a5 0 v2)).bind fun M5 => some (0, M5)))))
set_option maxRecDepth 100000 in
set_option maxHeartbeats 4000000 in
theorem xe_L_sum {D : Dt} {M : Mm} {a0 a1 a2 a3 a4 a5 : Int} : XE D 1 mu_L_sum (EW 0) 0 [(0, (14, a0)), (1, (0, a1)), (2, (0, a2)), (3, (0, a3)), (4, (0, a4)), (5, (18, a5))] [] M (p_L_sum M a0 a1 a2 a3 a4 a5) := by
  unfold p_L_sum
  refine XE.go (st_aload (j := 5) (pc' := 2) (by decide +kernel) rfl (by decide) rfl) ?_
  refine XE.go (st_iconst (n := 0) (pc' := 3) (by decide +kernel) (w_eq (by decide) (by decide)) rfl) ?_
  refine XE.go (st_aload_n (j := 0) (i := 0) (pc' := 4) (by decide +kernel) rfl rfl (by decide) rfl) ?_
  refine XE.go (st_iload_n (j := 1) (i := 1) (pc' := 5) (by decide +kernel) rfl rfl rfl) ?_
  refine XE.go (st_iload_n (j := 2) (i := 2) (pc' := 6) (by decide +kernel) rfl rfl rfl) ?_
  refine XE.go (st_iload_n (j := 3) (i := 3) (pc' := 7) (by decide +kernel) rfl rfl rfl) ?_
  refine XE.go (st_iload (j := 4) (pc' := 9) (by decide +kernel) rfl rfl) ?_
  refine XE.gd_ (fun g1 => ?_)
  refine XE.cTH (pc' := 12) (st := [(0, 0), (18, a5)]) hf_L_sum (fun r hr => ct_X10_sum g1 r hr) (fun r hr => run_V (st := [(0, 0), (18, a5)]) (by decide +kernel) co_L_sum_124 (ct_X10_sum g1 r hr) rfl g1 rfl rfl (Nat.le_of_ble_eq_true rfl)) rfl rfl (fun v2 M3 => ?_)
  refine XE.go (st_i2l (pc' := 13) (by decide +kernel) rfl) ?_
  refine XE.gd_ (fun g4 => ?_)
  refine XE.goM (st_ast (k := 15) (tp := 2) (pc' := 14) (by decide +kernel) rfl ak_15 rfl (by decide) rfl (Or.inr (Or.inr ⟨rfl, rfl, rfl, rfl⟩)) g4.1 g4.2.1 g4.2.2) (fun M5 => ?_)
  refine XE.go (st_goto (off := 7) (pc' := 21) (by decide +kernel) (by decide)) ?_
  refine XE.go (st_iconst (n := 0) (pc' := 22) (by decide +kernel) (w_eq (by decide) (by decide)) rfl) ?_
  exact XE.rt rfl (X_iret (by decide +kernel) rfl)
theorem ct_L_sum {D : Dt} {M : Mm} {a0 a1 a2 a3 a4 a5 : Int} (r : (Int × Mm)) (hr : p_L_sum M a0 a1 a2 a3 a4 a5 = some r) : CT D 1 mu_L_sum [(14, a0), (0, a1), (0, a2), (0, a3), (0, a4), (18, a5)] M (.inl (some (0, r.1))) r.2 := CT.of (by decide +kernel) rfl (Nat.le_of_ble_eq_true rfl) (xe_L_sum r hr)
def p_L_share (M : Mm) (a0 a1 a2 a3 a4 : Int) : Option (Int × Mm) := gd (a0 ≠ 0) ((p_X10_share M a0 a1 a2 a3).bind (hnT (fun x M => if x = 1 then some (1, M) else if x = 2 then some (2, M) else none) (fun v2 M3 => gd (aok a4 0) ((some (wr M3 a4 0 v2)).bind fun M5 => some (0, M5)))))
set_option maxRecDepth 100000 in
set_option maxHeartbeats 4000000 in
theorem xe_L_share {D : Dt} {M : Mm} {a0 a1 a2 a3 a4 : Int} : XE D 1 mu_L_share (EW 0) 0 [(0, (14, a0)), (1, (0, a1)), (2, (0, a2)), (3, (0, a3)), (4, (18, a4))] [] M (p_L_share M a0 a1 a2 a3 a4) := by
  unfold p_L_share
  refine XE.go (st_aload (j := 4) (pc' := 2) (by decide +kernel) rfl (by decide) rfl) ?_
  refine XE.go (st_iconst (n := 0) (pc' := 3) (by decide +kernel) (w_eq (by decide) (by decide)) rfl) ?_
  refine XE.go (st_aload_n (j := 0) (i := 0) (pc' := 4) (by decide +kernel) rfl rfl (by decide) rfl) ?_
  refine XE.go (st_iload_n (j := 1) (i := 1) (pc' := 5) (by decide +kernel) rfl rfl rfl) ?_
  refine XE.go (st_iload_n (j := 2) (i := 2) (pc' := 6) (by decide +kernel) rfl rfl rfl) ?_
  refine XE.go (st_iload_n (j := 3) (i := 3) (pc' := 7) (by decide +kernel) rfl rfl rfl) ?_
  refine XE.gd_ (fun g1 => ?_)
  refine XE.cTH (pc' := 10) (st := [(0, 0), (18, a4)]) hf_L_share (fun r hr => ct_X10_share g1 r hr) (fun r hr => run_V (st := [(0, 0), (18, a4)]) (by decide +kernel) co_L_share_127 (ct_X10_share g1 r hr) rfl g1 rfl rfl (Nat.le_of_ble_eq_true rfl)) rfl rfl (fun v2 M3 => ?_)
  refine XE.go (st_i2l (pc' := 11) (by decide +kernel) rfl) ?_
  refine XE.gd_ (fun g4 => ?_)
  refine XE.goM (st_ast (k := 15) (tp := 2) (pc' := 12) (by decide +kernel) rfl ak_15 rfl (by decide) rfl (Or.inr (Or.inr ⟨rfl, rfl, rfl, rfl⟩)) g4.1 g4.2.1 g4.2.2) (fun M5 => ?_)
  refine XE.go (st_goto (off := 11) (pc' := 23) (by decide +kernel) (by decide)) ?_
  refine XE.go (st_iconst (n := 0) (pc' := 24) (by decide +kernel) (w_eq (by decide) (by decide)) rfl) ?_
  exact XE.rt rfl (X_iret (by decide +kernel) rfl)
theorem ct_L_share {D : Dt} {M : Mm} {a0 a1 a2 a3 a4 : Int} (r : (Int × Mm)) (hr : p_L_share M a0 a1 a2 a3 a4 = some r) : CT D 1 mu_L_share [(14, a0), (0, a1), (0, a2), (0, a3), (18, a4)] M (.inl (some (0, r.1))) r.2 := CT.of (by decide +kernel) rfl (Nat.le_of_ble_eq_true rfl) (xe_L_share r hr)
def p_L_member (M : Mm) (a0 a1 a2 a3 a4 : Int) : Option (Int × Mm) := gd (a0 ≠ 0) ((p_X10_member M a0 a1 a2 a3).bind (hnT (fun x M => if x = 1 then some (1, M) else if x = 2 then some (2, M) else none) (fun v2 M3 => gd (aok a4 0) ((some (wr M3 a4 0 v2)).bind fun M5 => some (0, M5)))))
set_option maxRecDepth 100000 in
set_option maxHeartbeats 4000000 in
theorem xe_L_member {D : Dt} {M : Mm} {a0 a1 a2 a3 a4 : Int} : XE D 1 mu_L_member (EW 0) 0 [(0, (14, a0)), (1, (0, a1)), (2, (0, a2)), (3, (0, a3)), (4, (18, a4))] [] M (p_L_member M a0 a1 a2 a3 a4) := by
  unfold p_L_member
  refine XE.go (st_aload (j := 4) (pc' := 2) (by decide +kernel) rfl (by decide) rfl) ?_
  refine XE.go (st_iconst (n := 0) (pc' := 3) (by decide +kernel) (w_eq (by decide) (by decide)) rfl) ?_
  refine XE.go (st_aload_n (j := 0) (i := 0) (pc' := 4) (by decide +kernel) rfl rfl (by decide) rfl) ?_
  refine XE.go (st_iload_n (j := 1) (i := 1) (pc' := 5) (by decide +kernel) rfl rfl rfl) ?_
  refine XE.go (st_iload_n (j := 2) (i := 2) (pc' := 6) (by decide +kernel) rfl rfl rfl) ?_
  refine XE.go (st_iload_n (j := 3) (i := 3) (pc' := 7) (by decide +kernel) rfl rfl rfl) ?_
  refine XE.gd_ (fun g1 => ?_)
  refine XE.cTH (pc' := 10) (st := [(0, 0), (18, a4)]) hf_L_member (fun r hr => ct_X10_member g1 r hr) (fun r hr => run_V (st := [(0, 0), (18, a4)]) (by decide +kernel) co_L_member_130 (ct_X10_member g1 r hr) rfl g1 rfl rfl (Nat.le_of_ble_eq_true rfl)) rfl rfl (fun v2 M3 => ?_)
  refine XE.go (st_i2l (pc' := 11) (by decide +kernel) rfl) ?_
  refine XE.gd_ (fun g4 => ?_)
  refine XE.goM (st_ast (k := 15) (tp := 2) (pc' := 12) (by decide +kernel) rfl ak_15 rfl (by decide) rfl (Or.inr (Or.inr ⟨rfl, rfl, rfl, rfl⟩)) g4.1 g4.2.1 g4.2.2) (fun M5 => ?_)
  refine XE.go (st_goto (off := 11) (pc' := 23) (by decide +kernel) (by decide)) ?_
  refine XE.go (st_iconst (n := 0) (pc' := 24) (by decide +kernel) (w_eq (by decide) (by decide)) rfl) ?_
  exact XE.rt rfl (X_iret (by decide +kernel) rfl)
theorem ct_L_member {D : Dt} {M : Mm} {a0 a1 a2 a3 a4 : Int} (r : (Int × Mm)) (hr : p_L_member M a0 a1 a2 a3 a4 = some r) : CT D 1 mu_L_member [(14, a0), (0, a1), (0, a2), (0, a3), (18, a4)] M (.inl (some (0, r.1))) r.2 := CT.of (by decide +kernel) rfl (Nat.le_of_ble_eq_true rfl) (xe_L_member r hr)
def p_L_hand (M : Mm) (a0 a1 a2 a3 a4 a5 : Int) : Option (Int × Mm) := gd (a0 ≠ 0) ((p_X10_hand M a0 a1 a2 a3 a4).bind (hnT (fun x M => if x = 1 then some (1, M) else if x = 2 then some (2, M) else none) (fun v2 M3 => gd (aok a5 0) ((some (wr M3 a5 0 v2)).bind fun M5 => some (0, M5)))))
set_option maxRecDepth 100000 in
set_option maxHeartbeats 4000000 in
theorem xe_L_hand {D : Dt} {M : Mm} {a0 a1 a2 a3 a4 a5 : Int} : XE D 1 mu_L_hand (EW 0) 0 [(0, (14, a0)), (1, (0, a1)), (2, (0, a2)), (3, (0, a3)), (4, (0, a4)), (5, (18, a5))] [] M (p_L_hand M a0 a1 a2 a3 a4 a5) := by
  unfold p_L_hand
  refine XE.go (st_aload (j := 5) (pc' := 2) (by decide +kernel) rfl (by decide) rfl) ?_
  refine XE.go (st_iconst (n := 0) (pc' := 3) (by decide +kernel) (w_eq (by decide) (by decide)) rfl) ?_
  refine XE.go (st_aload_n (j := 0) (i := 0) (pc' := 4) (by decide +kernel) rfl rfl (by decide) rfl) ?_
  refine XE.go (st_iload_n (j := 1) (i := 1) (pc' := 5) (by decide +kernel) rfl rfl rfl) ?_
  refine XE.go (st_iload_n (j := 2) (i := 2) (pc' := 6) (by decide +kernel) rfl rfl rfl) ?_
  refine XE.go (st_iload_n (j := 3) (i := 3) (pc' := 7) (by decide +kernel) rfl rfl rfl) ?_
  refine XE.go (st_iload (j := 4) (pc' := 9) (by decide +kernel) rfl rfl) ?_
  refine XE.gd_ (fun g1 => ?_)
  refine XE.cTH (pc' := 12) (st := [(0, 0), (18, a5)]) hf_L_hand (fun r hr => ct_X10_hand g1 r hr) (fun r hr => run_V (st := [(0, 0), (18, a5)]) (by decide +kernel) co_L_hand_133 (ct_X10_hand g1 r hr) rfl g1 rfl rfl (Nat.le_of_ble_eq_true rfl)) rfl rfl (fun v2 M3 => ?_)
  refine XE.go (st_i2l (pc' := 13) (by decide +kernel) rfl) ?_
  refine XE.gd_ (fun g4 => ?_)
  refine XE.goM (st_ast (k := 15) (tp := 2) (pc' := 14) (by decide +kernel) rfl ak_15 rfl (by decide) rfl (Or.inr (Or.inr ⟨rfl, rfl, rfl, rfl⟩)) g4.1 g4.2.1 g4.2.2) (fun M5 => ?_)
  refine XE.go (st_goto (off := 11) (pc' := 25) (by decide +kernel) (by decide)) ?_
  refine XE.go (st_iconst (n := 0) (pc' := 26) (by decide +kernel) (w_eq (by decide) (by decide)) rfl) ?_
  exact XE.rt rfl (X_iret (by decide +kernel) rfl)
theorem ct_L_hand {D : Dt} {M : Mm} {a0 a1 a2 a3 a4 a5 : Int} (r : (Int × Mm)) (hr : p_L_hand M a0 a1 a2 a3 a4 a5 = some r) : CT D 1 mu_L_hand [(14, a0), (0, a1), (0, a2), (0, a3), (0, a4), (18, a5)] M (.inl (some (0, r.1))) r.2 := CT.of (by decide +kernel) rfl (Nat.le_of_ble_eq_true rfl) (xe_L_hand r hr)
def p_L_waits (M : Mm) (a0 a1 a2 a3 a4 : Int) : Option (Int × Mm) := gd (a0 ≠ 0) ((p_X10_waits M a0 a1 a2 a3).bind (hnT (fun x M => if x = 1 then some (1, M) else if x = 2 then some (2, M) else none) (fun v2 M3 => gd (aok a4 0) ((some (wr M3 a4 0 v2)).bind fun M5 => some (0, M5)))))
set_option maxRecDepth 100000 in
set_option maxHeartbeats 4000000 in
theorem xe_L_waits {D : Dt} {M : Mm} {a0 a1 a2 a3 a4 : Int} : XE D 1 mu_L_waits (EW 0) 0 [(0, (14, a0)), (1, (0, a1)), (2, (0, a2)), (3, (0, a3)), (4, (18, a4))] [] M (p_L_waits M a0 a1 a2 a3 a4) := by
  unfold p_L_waits
  refine XE.go (st_aload (j := 4) (pc' := 2) (by decide +kernel) rfl (by decide) rfl) ?_
  refine XE.go (st_iconst (n := 0) (pc' := 3) (by decide +kernel) (w_eq (by decide) (by decide)) rfl) ?_
  refine XE.go (st_aload_n (j := 0) (i := 0) (pc' := 4) (by decide +kernel) rfl rfl (by decide) rfl) ?_
  refine XE.go (st_iload_n (j := 1) (i := 1) (pc' := 5) (by decide +kernel) rfl rfl rfl) ?_
  refine XE.go (st_iload_n (j := 2) (i := 2) (pc' := 6) (by decide +kernel) rfl rfl rfl) ?_
  refine XE.go (st_iload_n (j := 3) (i := 3) (pc' := 7) (by decide +kernel) rfl rfl rfl) ?_
  refine XE.gd_ (fun g1 => ?_)
  refine XE.cTH (pc' := 10) (st := [(0, 0), (18, a4)]) hf_L_waits (fun r hr => ct_X10_waits g1 r hr) (fun r hr => run_V (st := [(0, 0), (18, a4)]) (by decide +kernel) co_L_waits_136 (ct_X10_waits g1 r hr) rfl g1 rfl rfl (Nat.le_of_ble_eq_true rfl)) rfl rfl (fun v2 M3 => ?_)
  refine XE.go (st_i2l (pc' := 11) (by decide +kernel) rfl) ?_
  refine XE.gd_ (fun g4 => ?_)
  refine XE.goM (st_ast (k := 15) (tp := 2) (pc' := 12) (by decide +kernel) rfl ak_15 rfl (by decide) rfl (Or.inr (Or.inr ⟨rfl, rfl, rfl, rfl⟩)) g4.1 g4.2.1 g4.2.2) (fun M5 => ?_)
  refine XE.go (st_goto (off := 11) (pc' := 23) (by decide +kernel) (by decide)) ?_
  refine XE.go (st_iconst (n := 0) (pc' := 24) (by decide +kernel) (w_eq (by decide) (by decide)) rfl) ?_
  exact XE.rt rfl (X_iret (by decide +kernel) rfl)
theorem ct_L_waits {D : Dt} {M : Mm} {a0 a1 a2 a3 a4 : Int} (r : (Int × Mm)) (hr : p_L_waits M a0 a1 a2 a3 a4 = some r) : CT D 1 mu_L_waits [(14, a0), (0, a1), (0, a2), (0, a3), (18, a4)] M (.inl (some (0, r.1))) r.2 := CT.of (by decide +kernel) rfl (Nat.le_of_ble_eq_true rfl) (xe_L_waits r hr)
def p_L_dead (M : Mm) (a0 a1 a2 a3 : Int) : Option (Int × Mm) := gd (a0 ≠ 0) ((p_X10_dead M a0 a1 a2).bind (hnT (fun x M => if x = 1 then some (1, M) else none) (fun v2 M3 => gd (aok a3 0) ((some (wr M3 a3 0 v2)).bind fun M5 => some (0, M5)))))
set_option maxRecDepth 100000 in
set_option maxHeartbeats 4000000 in
theorem xe_L_dead {D : Dt} {M : Mm} {a0 a1 a2 a3 : Int} : XE D 1 mu_L_dead (EW 0) 0 [(0, (14, a0)), (1, (0, a1)), (2, (0, a2)), (3, (18, a3))] [] M (p_L_dead M a0 a1 a2 a3) := by
  unfold p_L_dead
  refine XE.go (st_aload_n (j := 3) (i := 3) (pc' := 1) (by decide +kernel) rfl rfl (by decide) rfl) ?_
  refine XE.go (st_iconst (n := 0) (pc' := 2) (by decide +kernel) (w_eq (by decide) (by decide)) rfl) ?_
  refine XE.go (st_aload_n (j := 0) (i := 0) (pc' := 3) (by decide +kernel) rfl rfl (by decide) rfl) ?_
  refine XE.go (st_iload_n (j := 1) (i := 1) (pc' := 4) (by decide +kernel) rfl rfl rfl) ?_
  refine XE.go (st_iload_n (j := 2) (i := 2) (pc' := 5) (by decide +kernel) rfl rfl rfl) ?_
  refine XE.gd_ (fun g1 => ?_)
  refine XE.cTH (pc' := 8) (st := [(0, 0), (18, a3)]) hf_L_dead (fun r hr => ct_X10_dead g1 r hr) (fun r hr => run_V (st := [(0, 0), (18, a3)]) (by decide +kernel) co_L_dead_139 (ct_X10_dead g1 r hr) rfl g1 rfl rfl (Nat.le_of_ble_eq_true rfl)) rfl rfl (fun v2 M3 => ?_)
  refine XE.go (st_i2l (pc' := 9) (by decide +kernel) rfl) ?_
  refine XE.gd_ (fun g4 => ?_)
  refine XE.goM (st_ast (k := 15) (tp := 2) (pc' := 10) (by decide +kernel) rfl ak_15 rfl (by decide) rfl (Or.inr (Or.inr ⟨rfl, rfl, rfl, rfl⟩)) g4.1 g4.2.1 g4.2.2) (fun M5 => ?_)
  refine XE.go (st_goto (off := 7) (pc' := 17) (by decide +kernel) (by decide)) ?_
  refine XE.go (st_iconst (n := 0) (pc' := 18) (by decide +kernel) (w_eq (by decide) (by decide)) rfl) ?_
  exact XE.rt rfl (X_iret (by decide +kernel) rfl)
theorem ct_L_dead {D : Dt} {M : Mm} {a0 a1 a2 a3 : Int} (r : (Int × Mm)) (hr : p_L_dead M a0 a1 a2 a3 = some r) : CT D 1 mu_L_dead [(14, a0), (0, a1), (0, a2), (18, a3)] M (.inl (some (0, r.1))) r.2 := CT.of (by decide +kernel) rfl (Nat.le_of_ble_eq_true rfl) (xe_L_dead r hr)
def p_L_seen (M : Mm) (a0 a1 a2 a3 : Int) : Option (Int × Mm) := gd (a0 ≠ 0) ((p_X10_seen M a0 a1 a2).bind (hnT (fun x M => if x = 1 then some (1, M) else none) (fun v2 M3 => gd (aok a3 0) ((some (wr M3 a3 0 v2)).bind fun M5 => some (0, M5)))))
set_option maxRecDepth 100000 in
set_option maxHeartbeats 4000000 in
theorem xe_L_seen {D : Dt} {M : Mm} {a0 a1 a2 a3 : Int} : XE D 1 mu_L_seen (EW 0) 0 [(0, (14, a0)), (1, (0, a1)), (2, (0, a2)), (3, (18, a3))] [] M (p_L_seen M a0 a1 a2 a3) := by
  unfold p_L_seen
  refine XE.go (st_aload_n (j := 3) (i := 3) (pc' := 1) (by decide +kernel) rfl rfl (by decide) rfl) ?_
  refine XE.go (st_iconst (n := 0) (pc' := 2) (by decide +kernel) (w_eq (by decide) (by decide)) rfl) ?_
  refine XE.go (st_aload_n (j := 0) (i := 0) (pc' := 3) (by decide +kernel) rfl rfl (by decide) rfl) ?_
  refine XE.go (st_iload_n (j := 1) (i := 1) (pc' := 4) (by decide +kernel) rfl rfl rfl) ?_
  refine XE.go (st_iload_n (j := 2) (i := 2) (pc' := 5) (by decide +kernel) rfl rfl rfl) ?_
  refine XE.gd_ (fun g1 => ?_)
  refine XE.cTH (pc' := 8) (st := [(0, 0), (18, a3)]) hf_L_seen (fun r hr => ct_X10_seen g1 r hr) (fun r hr => run_V (st := [(0, 0), (18, a3)]) (by decide +kernel) co_L_seen_142 (ct_X10_seen g1 r hr) rfl g1 rfl rfl (Nat.le_of_ble_eq_true rfl)) rfl rfl (fun v2 M3 => ?_)
  refine XE.go (st_i2l (pc' := 9) (by decide +kernel) rfl) ?_
  refine XE.gd_ (fun g4 => ?_)
  refine XE.goM (st_ast (k := 15) (tp := 2) (pc' := 10) (by decide +kernel) rfl ak_15 rfl (by decide) rfl (Or.inr (Or.inr ⟨rfl, rfl, rfl, rfl⟩)) g4.1 g4.2.1 g4.2.2) (fun M5 => ?_)
  refine XE.go (st_goto (off := 7) (pc' := 17) (by decide +kernel) (by decide)) ?_
  refine XE.go (st_iconst (n := 0) (pc' := 18) (by decide +kernel) (w_eq (by decide) (by decide)) rfl) ?_
  exact XE.rt rfl (X_iret (by decide +kernel) rfl)
theorem ct_L_seen {D : Dt} {M : Mm} {a0 a1 a2 a3 : Int} (r : (Int × Mm)) (hr : p_L_seen M a0 a1 a2 a3 = some r) : CT D 1 mu_L_seen [(14, a0), (0, a1), (0, a2), (18, a3)] M (.inl (some (0, r.1))) r.2 := CT.of (by decide +kernel) rfl (Nat.le_of_ble_eq_true rfl) (xe_L_seen r hr)
def p_L_count (M : Mm) (a0 a1 a2 : Int) : Option (Int × Mm) := gd (a0 ≠ 0) ((p_X10_count M a0 a1).bind (hnT (fun x M => if x = 2 then some (1, M) else none) (fun v2 M3 => gd (aok a2 0) ((some (wr M3 a2 0 v2)).bind fun M5 => some (0, M5)))))
set_option maxRecDepth 100000 in
set_option maxHeartbeats 4000000 in
theorem xe_L_count {D : Dt} {M : Mm} {a0 a1 a2 : Int} : XE D 1 mu_L_count (EW 0) 0 [(0, (14, a0)), (1, (0, a1)), (2, (18, a2))] [] M (p_L_count M a0 a1 a2) := by
  unfold p_L_count
  refine XE.go (st_aload_n (j := 2) (i := 2) (pc' := 1) (by decide +kernel) rfl rfl (by decide) rfl) ?_
  refine XE.go (st_iconst (n := 0) (pc' := 2) (by decide +kernel) (w_eq (by decide) (by decide)) rfl) ?_
  refine XE.go (st_aload_n (j := 0) (i := 0) (pc' := 3) (by decide +kernel) rfl rfl (by decide) rfl) ?_
  refine XE.go (st_iload_n (j := 1) (i := 1) (pc' := 4) (by decide +kernel) rfl rfl rfl) ?_
  refine XE.gd_ (fun g1 => ?_)
  refine XE.cTH (pc' := 7) (st := [(0, 0), (18, a2)]) hf_L_count (fun r hr => ct_X10_count g1 r hr) (fun r hr => run_V (st := [(0, 0), (18, a2)]) (by decide +kernel) co_L_count_145 (ct_X10_count g1 r hr) rfl g1 rfl rfl (Nat.le_of_ble_eq_true rfl)) rfl rfl (fun v2 M3 => ?_)
  refine XE.go (st_i2l (pc' := 8) (by decide +kernel) rfl) ?_
  refine XE.gd_ (fun g4 => ?_)
  refine XE.goM (st_ast (k := 15) (tp := 2) (pc' := 9) (by decide +kernel) rfl ak_15 rfl (by decide) rfl (Or.inr (Or.inr ⟨rfl, rfl, rfl, rfl⟩)) g4.1 g4.2.1 g4.2.2) (fun M5 => ?_)
  refine XE.go (st_goto (off := 6) (pc' := 15) (by decide +kernel) (by decide)) ?_
  refine XE.go (st_iconst (n := 0) (pc' := 16) (by decide +kernel) (w_eq (by decide) (by decide)) rfl) ?_
  exact XE.rt rfl (X_iret (by decide +kernel) rfl)
theorem ct_L_count {D : Dt} {M : Mm} {a0 a1 a2 : Int} (r : (Int × Mm)) (hr : p_L_count M a0 a1 a2 = some r) : CT D 1 mu_L_count [(14, a0), (0, a1), (18, a2)] M (.inl (some (0, r.1))) r.2 := CT.of (by decide +kernel) rfl (Nat.le_of_ble_eq_true rfl) (xe_L_count r hr)
def p_L_ofGroup (M : Mm) (a0 a1 a2 a3 : Int) : Option (Int × Mm) := gd (a0 ≠ 0) ((p_X10_ofGroup M a0 a1 a2).bind (hnT (fun x M => if x = 1 then some (1, M) else if x = 2 then some (2, M) else none) (fun v2 M3 => gd (aok a3 0) ((some (wr M3 a3 0 v2)).bind fun M5 => some (0, M5)))))
set_option maxRecDepth 100000 in
set_option maxHeartbeats 4000000 in
theorem xe_L_ofGroup {D : Dt} {M : Mm} {a0 a1 a2 a3 : Int} : XE D 1 mu_L_ofGroup (EW 0) 0 [(0, (14, a0)), (1, (0, a1)), (2, (0, a2)), (3, (18, a3))] [] M (p_L_ofGroup M a0 a1 a2 a3) := by
  unfold p_L_ofGroup
  refine XE.go (st_aload_n (j := 3) (i := 3) (pc' := 1) (by decide +kernel) rfl rfl (by decide) rfl) ?_
  refine XE.go (st_iconst (n := 0) (pc' := 2) (by decide +kernel) (w_eq (by decide) (by decide)) rfl) ?_
  refine XE.go (st_aload_n (j := 0) (i := 0) (pc' := 3) (by decide +kernel) rfl rfl (by decide) rfl) ?_
  refine XE.go (st_iload_n (j := 1) (i := 1) (pc' := 4) (by decide +kernel) rfl rfl rfl) ?_
  refine XE.go (st_iload_n (j := 2) (i := 2) (pc' := 5) (by decide +kernel) rfl rfl rfl) ?_
  refine XE.gd_ (fun g1 => ?_)
  refine XE.cTH (pc' := 8) (st := [(0, 0), (18, a3)]) hf_L_ofGroup (fun r hr => ct_X10_ofGroup g1 r hr) (fun r hr => run_V (st := [(0, 0), (18, a3)]) (by decide +kernel) co_L_ofGroup_148 (ct_X10_ofGroup g1 r hr) rfl g1 rfl rfl (Nat.le_of_ble_eq_true rfl)) rfl rfl (fun v2 M3 => ?_)
  refine XE.go (st_i2l (pc' := 9) (by decide +kernel) rfl) ?_
  refine XE.gd_ (fun g4 => ?_)
  refine XE.goM (st_ast (k := 15) (tp := 2) (pc' := 10) (by decide +kernel) rfl ak_15 rfl (by decide) rfl (Or.inr (Or.inr ⟨rfl, rfl, rfl, rfl⟩)) g4.1 g4.2.1 g4.2.2) (fun M5 => ?_)
  refine XE.go (st_goto (off := 11) (pc' := 21) (by decide +kernel) (by decide)) ?_
  refine XE.go (st_iconst (n := 0) (pc' := 22) (by decide +kernel) (w_eq (by decide) (by decide)) rfl) ?_
  exact XE.rt rfl (X_iret (by decide +kernel) rfl)
theorem ct_L_ofGroup {D : Dt} {M : Mm} {a0 a1 a2 a3 : Int} (r : (Int × Mm)) (hr : p_L_ofGroup M a0 a1 a2 a3 = some r) : CT D 1 mu_L_ofGroup [(14, a0), (0, a1), (0, a2), (18, a3)] M (.inl (some (0, r.1))) r.2 := CT.of (by decide +kernel) rfl (Nat.le_of_ble_eq_true rfl) (xe_L_ofGroup r hr)
def p_L_audit (M : Mm) (a0 a1 a2 : Int) : Option (Int × Mm) := gd (a0 ≠ 0) ((p_X10_audit M a0 a1).bind (hnT (fun x M => if x = 2 then some (1, M) else none) (fun v2 M3 => if v2 = 0 then gd (aok a2 0) ((some (wr M3 a2 0 0)).bind fun M7 => some (0, M7)) else gd (aok a2 0) ((some (wr M3 a2 0 1)).bind fun M9 => some (0, M9)))))
set_option maxRecDepth 100000 in
set_option maxHeartbeats 4000000 in
theorem xe_L_audit {D : Dt} {M : Mm} {a0 a1 a2 : Int} : XE D 1 mu_L_audit (EW 0) 0 [(0, (14, a0)), (1, (0, a1)), (2, (18, a2))] [] M (p_L_audit M a0 a1 a2) := by
  unfold p_L_audit
  refine XE.go (st_aload_n (j := 2) (i := 2) (pc' := 1) (by decide +kernel) rfl rfl (by decide) rfl) ?_
  refine XE.go (st_iconst (n := 0) (pc' := 2) (by decide +kernel) (w_eq (by decide) (by decide)) rfl) ?_
  refine XE.go (st_aload_n (j := 0) (i := 0) (pc' := 3) (by decide +kernel) rfl rfl (by decide) rfl) ?_
  refine XE.go (st_iload_n (j := 1) (i := 1) (pc' := 4) (by decide +kernel) rfl rfl rfl) ?_
  refine XE.gd_ (fun g1 => ?_)
  refine XE.cTH (pc' := 7) (st := [(0, 0), (18, a2)]) hf_L_audit (fun r hr => ct_X10_audit g1 r hr) (fun r hr => run_V (st := [(0, 0), (18, a2)]) (by decide +kernel) co_L_audit_151 (ct_X10_audit g1 r hr) rfl g1 rfl rfl (Nat.le_of_ble_eq_true rfl)) rfl rfl (fun v2 M3 => ?_)
  refine XE.ite (fun h4 => ?_) (fun h5 => ?_)
  · refine XE.go (st_if_eq_t (off := 7) (pc' := 14) (by decide +kernel) (by decide) h4) ?_
    refine XE.go (st_lconst (n := 0) (z := 0) (pc' := 15) (by decide +kernel) (by decide) (by decide) rfl) ?_
    refine XE.gd_ (fun g6 => ?_)
    refine XE.goM (st_ast (k := 15) (tp := 2) (pc' := 16) (by decide +kernel) rfl ak_15 rfl (by decide) rfl (Or.inr (Or.inr ⟨rfl, rfl, rfl, rfl⟩)) g6.1 g6.2.1 g6.2.2) (fun M7 => ?_)
    refine XE.go (st_goto (off := 6) (pc' := 22) (by decide +kernel) (by decide)) ?_
    refine XE.go (st_iconst (n := 0) (pc' := 23) (by decide +kernel) (w_eq (by decide) (by decide)) rfl) ?_
    exact XE.rt rfl (X_iret (by decide +kernel) rfl)
  · refine XE.go (st_if_eq_f (off := 7) (pc' := 10) (by decide +kernel) 14 (by decide) rfl h5) ?_
    refine XE.go (st_lconst (n := 1) (z := 1) (pc' := 11) (by decide +kernel) (by decide) (by decide) rfl) ?_
    refine XE.go (st_goto (off := 4) (pc' := 15) (by decide +kernel) (by decide)) ?_
    refine XE.gd_ (fun g8 => ?_)
    refine XE.goM (st_ast (k := 15) (tp := 2) (pc' := 16) (by decide +kernel) rfl ak_15 rfl (by decide) rfl (Or.inr (Or.inr ⟨rfl, rfl, rfl, rfl⟩)) g8.1 g8.2.1 g8.2.2) (fun M9 => ?_)
    refine XE.go (st_goto (off := 6) (pc' := 22) (by decide +kernel) (by decide)) ?_
    refine XE.go (st_iconst (n := 0) (pc' := 23) (by decide +kernel) (w_eq (by decide) (by decide)) rfl) ?_
    exact XE.rt rfl (X_iret (by decide +kernel) rfl)
theorem ct_L_audit {D : Dt} {M : Mm} {a0 a1 a2 : Int} (r : (Int × Mm)) (hr : p_L_audit M a0 a1 a2 = some r) : CT D 1 mu_L_audit [(14, a0), (0, a1), (18, a2)] M (.inl (some (0, r.1))) r.2 := CT.of (by decide +kernel) rfl (Nat.le_of_ble_eq_true rfl) (xe_L_audit r hr)
