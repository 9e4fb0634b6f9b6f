/-! THE LAW, arms of its switch, 1 (by program: walk.py, split_law.py) -/
set_option maxRecDepth 100000 in
set_option maxHeartbeats 4000000 in
theorem cx_L_15 {D : Dt} {kp : Nat} {kk763 : (Int × Mm) ⊕ ((Int × Mm) ⊕ Mm) → Option (Int × Mm)} (hx762 : ∀ y : Int × Mm, kk763 (.inr (.inl y)) = some y) (hc760 : ∀ s9 : Int × Mm, XE D kp mu_L_law (EW 0) 23 [(0, (100, (-1))), (1, (14, 11000)), (2, (15, 12000)), (3, (18, 15000)), (4, (0, s9.1))] [] s9.2 (kk763 (.inl s9))) (s9 : Int × Mm) : XE D (kp + 1) mu_L_law (EW 0) 1272 [(0, (100, (-1))), (1, (14, 11000)), (2, (15, 12000)), (3, (18, 15000)), (4, (0, s9.1))] [] s9.2 ((c_L_15 s9 (D.2.2.2.2.2.1 : Int) (fun i : Int => (D.2.2.2.2.2.2 i.toNat).toInt)).bind kk763) := by
  have h2 : (11000 : Int) ≠ 0 := by decide
  have h5 : (12000 : Int) ≠ 0 := by decide
  have h8 : (15000 : Int) ≠ 0 := by decide
  unfold c_L_15
  refine XE.go (st_aload_n (j := 1) (i := 1) (pc' := 1273) (by decide +kernel) rfl rfl (by decide) rfl) ?_
  refine XE.go (st_aload_n (j := 0) (i := 0) (pc' := 1274) (by decide +kernel) rfl rfl (by decide) rfl) ?_
  refine XE.go (st_iload (j := 4) (pc' := 1276) (by decide +kernel) rfl rfl) ?_
  refine XE.go (st_iconst (n := 1) (pc' := 1277) (by decide +kernel) (w_eq (by decide) (by decide)) rfl) ?_
  refine XE.go (st_iadd (pc' := 1278) (by decide +kernel) rfl) ?_
  refine XE.gdb (fun g1021 => ?_)
  refine XE.go (st_sld (pc' := 1279) (by decide +kernel) rfl g1021.1 g1021.2) ?_
  refine XE.go (st_aload_n (j := 0) (i := 0) (pc' := 1280) (by decide +kernel) rfl rfl (by decide) rfl) ?_
  refine XE.go (st_iload (j := 4) (pc' := 1282) (by decide +kernel) rfl rfl) ?_
  refine XE.go (st_iconst (n := 2) (pc' := 1283) (by decide +kernel) (w_eq (by decide) (by decide)) rfl) ?_
  refine XE.go (st_iadd (pc' := 1284) (by decide +kernel) rfl) ?_
  refine XE.gdb (fun g1022 => ?_)
  refine XE.go (st_sld (pc' := 1285) (by decide +kernel) rfl g1022.1 g1022.2) ?_
  refine XE.go (st_aload_n (j := 0) (i := 0) (pc' := 1286) (by decide +kernel) rfl rfl (by decide) rfl) ?_
  refine XE.go (st_iload (j := 4) (pc' := 1288) (by decide +kernel) rfl rfl) ?_
  refine XE.go (st_iconst (n := 3) (pc' := 1289) (by decide +kernel) (w_eq (by decide) (by decide)) rfl) ?_
  refine XE.go (st_iadd (pc' := 1290) (by decide +kernel) rfl) ?_
  refine XE.gdb (fun g1023 => ?_)
  refine XE.go (st_sld (pc' := 1291) (by decide +kernel) rfl g1023.1 g1023.2) ?_
  refine XE.go (st_aload_n (j := 3) (i := 3) (pc' := 1292) (by decide +kernel) rfl rfl (by decide) rfl) ?_
  refine XE.asc ?_
  refine XE.cW1 (pc' := 1295) (st := []) (fun r hr => ct_L_attach r hr) (fun r hr => run_S (st := []) (by decide +kernel) co_L_law_216 (ct_L_attach r hr) rfl rfl (Nat.le_of_ble_eq_true rfl)) rfl rfl (fun r1024 => ?_)
  refine XE.go (st_istore (j := 5) (pc' := 1297) (by decide +kernel)  rfl (by decide) rfl rfl) ?_
  refine XE.go (st_aload_n (j := 2) (i := 2) (pc' := 1298) (by decide +kernel) rfl rfl (by decide) rfl) ?_
  refine XE.go (st_aload_n (j := 0) (i := 0) (pc' := 1299) (by decide +kernel) rfl rfl (by decide) rfl) ?_
  refine XE.go (st_iload (j := 4) (pc' := 1301) (by decide +kernel) rfl rfl) ?_
  refine XE.go (st_iconst (n := 1) (pc' := 1302) (by decide +kernel) (w_eq (by decide) (by decide)) rfl) ?_
  refine XE.go (st_iadd (pc' := 1303) (by decide +kernel) rfl) ?_
  refine XE.gdb (fun g1025 => ?_)
  refine XE.go (st_sld (pc' := 1304) (by decide +kernel) rfl g1025.1 g1025.2) ?_
  refine XE.go (st_aload_n (j := 0) (i := 0) (pc' := 1305) (by decide +kernel) rfl rfl (by decide) rfl) ?_
  refine XE.go (st_iload (j := 4) (pc' := 1307) (by decide +kernel) rfl rfl) ?_
  refine XE.go (st_iconst (n := 2) (pc' := 1308) (by decide +kernel) (w_eq (by decide) (by decide)) rfl) ?_
  refine XE.go (st_iadd (pc' := 1309) (by decide +kernel) rfl) ?_
  refine XE.gdb (fun g1026 => ?_)
  refine XE.go (st_sld (pc' := 1310) (by decide +kernel) rfl g1026.1 g1026.2) ?_
  refine XE.go (st_aload_n (j := 0) (i := 0) (pc' := 1311) (by decide +kernel) rfl rfl (by decide) rfl) ?_
  refine XE.go (st_iload (j := 4) (pc' := 1313) (by decide +kernel) rfl rfl) ?_
  refine XE.go (st_iconst (n := 3) (pc' := 1314) (by decide +kernel) (w_eq (by decide) (by decide)) rfl) ?_
  refine XE.go (st_iadd (pc' := 1315) (by decide +kernel) rfl) ?_
  refine XE.gdb (fun g1027 => ?_)
  refine XE.go (st_sld (pc' := 1316) (by decide +kernel) rfl g1027.1 g1027.2) ?_
  refine XE.asc ?_
  refine XE.cW (pc' := 1319) (st := []) (fun r hr => ct_X11_attach h5 r hr) (fun r hr => run_V (st := []) (by decide +kernel) co_L_law_218 (ct_X11_attach h5 r hr) rfl h5 rfl rfl (Nat.le_of_ble_eq_true rfl)) rfl rfl (fun r1028 => ?_)
  refine XE.go (st_istore (j := 6) (pc' := 1321) (by decide +kernel)  rfl (by decide) rfl rfl) ?_
  refine XE.go (st_aload_n (j := 2) (i := 2) (pc' := 1322) (by decide +kernel) rfl rfl (by decide) rfl) ?_
  refine XE.asc ?_
  refine XE.cP (pc' := 1325) (st := []) (fun r hr => ct_X11_thrown h5 r hr) (fun r hr => run_V (st := []) (by decide +kernel) co_L_law_165 (ct_X11_thrown h5 r hr) rfl h5 rfl rfl (Nat.le_of_ble_eq_true rfl)) rfl rfl (fun r1029 => ?_)
  refine XE.go (st_iload (j := 5) (pc' := 1327) (by decide +kernel) rfl rfl) ?_
  refine XE.bite (fun h1030 => ?_) (fun h1031 => ?_)
  · refine XE.go (st_icmp_eq_t (off := 5) (pc' := 1332) (by decide +kernel) (by decide) h1030) ?_
    refine XE.go (st_iload (j := 5) (pc' := 1334) (by decide +kernel) rfl rfl) ?_
    refine XE.bite (fun h1032 => ?_) (fun h1033 => ?_)
    · refine XE.go (st_if_ne_f (off := 15) (pc' := 1337) (by decide +kernel) 1349 (by decide) rfl (not_not_intro h1032)) ?_
      refine XE.go (st_aload_n (j := 3) (i := 3) (pc' := 1338) (by decide +kernel) rfl rfl (by decide) rfl) ?_
      refine XE.go (st_iconst (n := 0) (pc' := 1339) (by decide +kernel) (w_eq (by decide) (by decide)) rfl) ?_
      refine XE.gdb (fun g1034 => ?_)
      refine XE.go (st_ald (k := 15) (tp := 2) (pc' := 1340) (by decide +kernel) rfl ak_15 rfl (by decide) rfl (Or.inr (Or.inr (Or.inl ⟨rfl, rfl⟩))) g1034.1 g1034.2.1 g1034.2.2) ?_
      refine XE.go (st_iload (j := 6) (pc' := 1342) (by decide +kernel) rfl rfl) ?_
      refine XE.go (st_i2l (pc' := 1343) (by decide +kernel) rfl) ?_
      refine XE.go (st_lcmp (pc' := 1344) (by decide +kernel) rfl) ?_
      refine XE.bite (fun h1035 => ?_) (fun h1036 => ?_)
      · refine XE.go (st_if_eq_t (off := 5) (pc' := 1349) (by decide +kernel) (by decide) h1035) ?_
        refine XE.go (st_goto (off := 1999) (pc' := 3348) (by decide +kernel) (by decide)) ?_
        refine XE.go (st_iinc (j := 4) (n := 6) (pc' := 3351) (by decide +kernel) rfl rfl (by decide) rfl rfl) ?_
        refine XE.go (st_goto (off := (-3328)) (pc' := 23) (by decide +kernel) (by decide)) ?_
        exact XE.pick [3, 4, 5, 6, 0] rfl (hc760 ((w (s9.1 + 6)), r1028.2))
      · refine XE.go (st_if_eq_f (off := 5) (pc' := 1347) (by decide +kernel) 1349 (by decide) rfl h1036) ?_
        refine XE.go (st_iconst (n := 0) (pc' := 1348) (by decide +kernel) (w_eq (by decide) (by decide)) rfl) ?_
        refine XE.cast (hx762 _) ?_
        exact XE.rt rfl (X_zret (by decide +kernel) rfl (by decide))
    · refine XE.go (st_if_ne_t (off := 15) (pc' := 1349) (by decide +kernel) (by decide) h1033) ?_
      refine XE.go (st_goto (off := 1999) (pc' := 3348) (by decide +kernel) (by decide)) ?_
      refine XE.go (st_iinc (j := 4) (n := 6) (pc' := 3351) (by decide +kernel) rfl rfl (by decide) rfl rfl) ?_
      refine XE.go (st_goto (off := (-3328)) (pc' := 23) (by decide +kernel) (by decide)) ?_
      exact XE.pick [3, 4, 5, 6, 0] rfl (hc760 ((w (s9.1 + 6)), r1028.2))
  · refine XE.go (st_icmp_eq_f (off := 5) (pc' := 1330) (by decide +kernel) 1332 (by decide) rfl h1031) ?_
    refine XE.go (st_iconst (n := 0) (pc' := 1331) (by decide +kernel) (w_eq (by decide) (by decide)) rfl) ?_
    refine XE.cast (hx762 _) ?_
    exact XE.rt rfl (X_zret (by decide +kernel) rfl (by decide))

set_option maxRecDepth 100000 in
set_option maxHeartbeats 4000000 in
theorem cx_L_16 {D : Dt} {kp : Nat} {kk763 : (Int × Mm) ⊕ ((Int × Mm) ⊕ Mm) → Option (Int × Mm)} (hx762 : ∀ y : Int × Mm, kk763 (.inr (.inl y)) = some y) (hc760 : ∀ s9 : Int × Mm, XE D kp mu_L_law (EW 0) 23 [(0, (100, (-1))), (1, (14, 11000)), (2, (15, 12000)), (3, (18, 15000)), (4, (0, s9.1))] [] s9.2 (kk763 (.inl s9))) (s9 : Int × Mm) : XE D (kp + 1) mu_L_law (EW 0) 1352 [(0, (100, (-1))), (1, (14, 11000)), (2, (15, 12000)), (3, (18, 15000)), (4, (0, s9.1))] [] s9.2 ((c_L_16 s9 (D.2.2.2.2.2.1 : Int) (fun i : Int => (D.2.2.2.2.2.2 i.toNat).toInt)).bind kk763) := by
  have h2 : (11000 : Int) ≠ 0 := by decide
  have h5 : (12000 : Int) ≠ 0 := by decide
  have h8 : (15000 : Int) ≠ 0 := by decide
  unfold c_L_16
  refine XE.go (st_aload_n (j := 1) (i := 1) (pc' := 1353) (by decide +kernel) rfl rfl (by decide) rfl) ?_
  refine XE.go (st_aload_n (j := 0) (i := 0) (pc' := 1354) (by decide +kernel) rfl rfl (by decide) rfl) ?_
  refine XE.go (st_iload (j := 4) (pc' := 1356) (by decide +kernel) rfl rfl) ?_
  refine XE.go (st_iconst (n := 1) (pc' := 1357) (by decide +kernel) (w_eq (by decide) (by decide)) rfl) ?_
  refine XE.go (st_iadd (pc' := 1358) (by decide +kernel) rfl) ?_
  refine XE.gdb (fun g1039 => ?_)
  refine XE.go (st_sld (pc' := 1359) (by decide +kernel) rfl g1039.1 g1039.2) ?_
  refine XE.go (st_aload_n (j := 3) (i := 3) (pc' := 1360) (by decide +kernel) rfl rfl (by decide) rfl) ?_
  refine XE.asc ?_
  refine XE.cW1 (pc' := 1363) (st := []) (fun r hr => ct_L_commit r hr) (fun r hr => run_S (st := []) (by decide +kernel) co_L_law_219 (ct_L_commit r hr) rfl rfl (Nat.le_of_ble_eq_true rfl)) rfl rfl (fun r1040 => ?_)
  refine XE.go (st_istore (j := 5) (pc' := 1365) (by decide +kernel)  rfl (by decide) rfl rfl) ?_
  refine XE.go (st_aload_n (j := 2) (i := 2) (pc' := 1366) (by decide +kernel) rfl rfl (by decide) rfl) ?_
  refine XE.go (st_aload_n (j := 0) (i := 0) (pc' := 1367) (by decide +kernel) rfl rfl (by decide) rfl) ?_
  refine XE.go (st_iload (j := 4) (pc' := 1369) (by decide +kernel) rfl rfl) ?_
  refine XE.go (st_iconst (n := 1) (pc' := 1370) (by decide +kernel) (w_eq (by decide) (by decide)) rfl) ?_
  refine XE.go (st_iadd (pc' := 1371) (by decide +kernel) rfl) ?_
  refine XE.gdb (fun g1041 => ?_)
  refine XE.go (st_sld (pc' := 1372) (by decide +kernel) rfl g1041.1 g1041.2) ?_
  refine XE.asc ?_
  refine XE.cW (pc' := 1375) (st := []) (fun r hr => ct_X11_commit h5 r hr) (fun r hr => run_V (st := []) (by decide +kernel) co_L_law_221 (ct_X11_commit h5 r hr) rfl h5 rfl rfl (Nat.le_of_ble_eq_true rfl)) rfl rfl (fun r1042 => ?_)
  refine XE.go (st_istore (j := 6) (pc' := 1377) (by decide +kernel)  rfl (by decide) rfl rfl) ?_
  refine XE.go (st_aload_n (j := 2) (i := 2) (pc' := 1378) (by decide +kernel) rfl rfl (by decide) rfl) ?_
  refine XE.asc ?_
  refine XE.cP (pc' := 1381) (st := []) (fun r hr => ct_X11_thrown h5 r hr) (fun r hr => run_V (st := []) (by decide +kernel) co_L_law_165 (ct_X11_thrown h5 r hr) rfl h5 rfl rfl (Nat.le_of_ble_eq_true rfl)) rfl rfl (fun r1043 => ?_)
  refine XE.go (st_iload (j := 5) (pc' := 1383) (by decide +kernel) rfl rfl) ?_
  refine XE.bite (fun h1044 => ?_) (fun h1045 => ?_)
  · refine XE.go (st_icmp_eq_t (off := 5) (pc' := 1388) (by decide +kernel) (by decide) h1044) ?_
    refine XE.go (st_iload (j := 5) (pc' := 1390) (by decide +kernel) rfl rfl) ?_
    refine XE.bite (fun h1046 => ?_) (fun h1047 => ?_)
    · refine XE.go (st_if_ne_f (off := 15) (pc' := 1393) (by decide +kernel) 1405 (by decide) rfl (not_not_intro h1046)) ?_
      refine XE.go (st_aload_n (j := 3) (i := 3) (pc' := 1394) (by decide +kernel) rfl rfl (by decide) rfl) ?_
      refine XE.go (st_iconst (n := 0) (pc' := 1395) (by decide +kernel) (w_eq (by decide) (by decide)) rfl) ?_
      refine XE.gdb (fun g1048 => ?_)
      refine XE.go (st_ald (k := 15) (tp := 2) (pc' := 1396) (by decide +kernel) rfl ak_15 rfl (by decide) rfl (Or.inr (Or.inr (Or.inl ⟨rfl, rfl⟩))) g1048.1 g1048.2.1 g1048.2.2) ?_
      refine XE.go (st_iload (j := 6) (pc' := 1398) (by decide +kernel) rfl rfl) ?_
      refine XE.go (st_i2l (pc' := 1399) (by decide +kernel) rfl) ?_
      refine XE.go (st_lcmp (pc' := 1400) (by decide +kernel) rfl) ?_
      refine XE.bite (fun h1049 => ?_) (fun h1050 => ?_)
      · refine XE.go (st_if_eq_t (off := 5) (pc' := 1405) (by decide +kernel) (by decide) h1049) ?_
        refine XE.go (st_goto (off := 1943) (pc' := 3348) (by decide +kernel) (by decide)) ?_
        refine XE.go (st_iinc (j := 4) (n := 6) (pc' := 3351) (by decide +kernel) rfl rfl (by decide) rfl rfl) ?_
        refine XE.go (st_goto (off := (-3328)) (pc' := 23) (by decide +kernel) (by decide)) ?_
        exact XE.pick [3, 4, 5, 6, 0] rfl (hc760 ((w (s9.1 + 6)), r1042.2))
      · refine XE.go (st_if_eq_f (off := 5) (pc' := 1403) (by decide +kernel) 1405 (by decide) rfl h1050) ?_
        refine XE.go (st_iconst (n := 0) (pc' := 1404) (by decide +kernel) (w_eq (by decide) (by decide)) rfl) ?_
        refine XE.cast (hx762 _) ?_
        exact XE.rt rfl (X_zret (by decide +kernel) rfl (by decide))
    · refine XE.go (st_if_ne_t (off := 15) (pc' := 1405) (by decide +kernel) (by decide) h1047) ?_
      refine XE.go (st_goto (off := 1943) (pc' := 3348) (by decide +kernel) (by decide)) ?_
      refine XE.go (st_iinc (j := 4) (n := 6) (pc' := 3351) (by decide +kernel) rfl rfl (by decide) rfl rfl) ?_
      refine XE.go (st_goto (off := (-3328)) (pc' := 23) (by decide +kernel) (by decide)) ?_
      exact XE.pick [3, 4, 5, 6, 0] rfl (hc760 ((w (s9.1 + 6)), r1042.2))
  · refine XE.go (st_icmp_eq_f (off := 5) (pc' := 1386) (by decide +kernel) 1388 (by decide) rfl h1045) ?_
    refine XE.go (st_iconst (n := 0) (pc' := 1387) (by decide +kernel) (w_eq (by decide) (by decide)) rfl) ?_
    refine XE.cast (hx762 _) ?_
    exact XE.rt rfl (X_zret (by decide +kernel) rfl (by decide))

set_option maxRecDepth 100000 in
set_option maxHeartbeats 4000000 in
theorem cx_L_17 {D : Dt} {kp : Nat} {kk763 : (Int × Mm) ⊕ ((Int × Mm) ⊕ Mm) → Option (Int × Mm)} (hx762 : ∀ y : Int × Mm, kk763 (.inr (.inl y)) = some y) (hc760 : ∀ s9 : Int × Mm, XE D kp mu_L_law (EW 0) 23 [(0, (100, (-1))), (1, (14, 11000)), (2, (15, 12000)), (3, (18, 15000)), (4, (0, s9.1))] [] s9.2 (kk763 (.inl s9))) (s9 : Int × Mm) : XE D (kp + 1) mu_L_law (EW 0) 1408 [(0, (100, (-1))), (1, (14, 11000)), (2, (15, 12000)), (3, (18, 15000)), (4, (0, s9.1))] [] s9.2 ((c_L_17 s9 (D.2.2.2.2.2.1 : Int) (fun i : Int => (D.2.2.2.2.2.2 i.toNat).toInt)).bind kk763) := by
  have h2 : (11000 : Int) ≠ 0 := by decide
  have h5 : (12000 : Int) ≠ 0 := by decide
  have h8 : (15000 : Int) ≠ 0 := by decide
  unfold c_L_17
  refine XE.go (st_aload_n (j := 1) (i := 1) (pc' := 1409) (by decide +kernel) rfl rfl (by decide) rfl) ?_
  refine XE.go (st_aload_n (j := 0) (i := 0) (pc' := 1410) (by decide +kernel) rfl rfl (by decide) rfl) ?_
  refine XE.go (st_iload (j := 4) (pc' := 1412) (by decide +kernel) rfl rfl) ?_
  refine XE.go (st_iconst (n := 1) (pc' := 1413) (by decide +kernel) (w_eq (by decide) (by decide)) rfl) ?_
  refine XE.go (st_iadd (pc' := 1414) (by decide +kernel) rfl) ?_
  refine XE.gdb (fun g1053 => ?_)
  refine XE.go (st_sld (pc' := 1415) (by decide +kernel) rfl g1053.1 g1053.2) ?_
  refine XE.go (st_aload_n (j := 3) (i := 3) (pc' := 1416) (by decide +kernel) rfl rfl (by decide) rfl) ?_
  refine XE.asc ?_
  refine XE.cW1 (pc' := 1419) (st := []) (fun r hr => ct_L_abort r hr) (fun r hr => run_S (st := []) (by decide +kernel) co_L_law_222 (ct_L_abort r hr) rfl rfl (Nat.le_of_ble_eq_true rfl)) rfl rfl (fun r1054 => ?_)
  refine XE.go (st_istore (j := 5) (pc' := 1421) (by decide +kernel)  rfl (by decide) rfl rfl) ?_
  refine XE.go (st_aload_n (j := 2) (i := 2) (pc' := 1422) (by decide +kernel) rfl rfl (by decide) rfl) ?_
  refine XE.go (st_aload_n (j := 0) (i := 0) (pc' := 1423) (by decide +kernel) rfl rfl (by decide) rfl) ?_
  refine XE.go (st_iload (j := 4) (pc' := 1425) (by decide +kernel) rfl rfl) ?_
  refine XE.go (st_iconst (n := 1) (pc' := 1426) (by decide +kernel) (w_eq (by decide) (by decide)) rfl) ?_
  refine XE.go (st_iadd (pc' := 1427) (by decide +kernel) rfl) ?_
  refine XE.gdb (fun g1055 => ?_)
  refine XE.go (st_sld (pc' := 1428) (by decide +kernel) rfl g1055.1 g1055.2) ?_
  refine XE.asc ?_
  refine XE.cW (pc' := 1431) (st := []) (fun r hr => ct_X11_abort h5 r hr) (fun r hr => run_V (st := []) (by decide +kernel) co_L_law_224 (ct_X11_abort h5 r hr) rfl h5 rfl rfl (Nat.le_of_ble_eq_true rfl)) rfl rfl (fun r1056 => ?_)
  refine XE.go (st_istore (j := 6) (pc' := 1433) (by decide +kernel)  rfl (by decide) rfl rfl) ?_
  refine XE.go (st_aload_n (j := 2) (i := 2) (pc' := 1434) (by decide +kernel) rfl rfl (by decide) rfl) ?_
  refine XE.asc ?_
  refine XE.cP (pc' := 1437) (st := []) (fun r hr => ct_X11_thrown h5 r hr) (fun r hr => run_V (st := []) (by decide +kernel) co_L_law_165 (ct_X11_thrown h5 r hr) rfl h5 rfl rfl (Nat.le_of_ble_eq_true rfl)) rfl rfl (fun r1057 => ?_)
  refine XE.go (st_iload (j := 5) (pc' := 1439) (by decide +kernel) rfl rfl) ?_
  refine XE.bite (fun h1058 => ?_) (fun h1059 => ?_)
  · refine XE.go (st_icmp_eq_t (off := 5) (pc' := 1444) (by decide +kernel) (by decide) h1058) ?_
    refine XE.go (st_iload (j := 5) (pc' := 1446) (by decide +kernel) rfl rfl) ?_
    refine XE.bite (fun h1060 => ?_) (fun h1061 => ?_)
    · refine XE.go (st_if_ne_f (off := 15) (pc' := 1449) (by decide +kernel) 1461 (by decide) rfl (not_not_intro h1060)) ?_
      refine XE.go (st_aload_n (j := 3) (i := 3) (pc' := 1450) (by decide +kernel) rfl rfl (by decide) rfl) ?_
      refine XE.go (st_iconst (n := 0) (pc' := 1451) (by decide +kernel) (w_eq (by decide) (by decide)) rfl) ?_
      refine XE.gdb (fun g1062 => ?_)
      refine XE.go (st_ald (k := 15) (tp := 2) (pc' := 1452) (by decide +kernel) rfl ak_15 rfl (by decide) rfl (Or.inr (Or.inr (Or.inl ⟨rfl, rfl⟩))) g1062.1 g1062.2.1 g1062.2.2) ?_
      refine XE.go (st_iload (j := 6) (pc' := 1454) (by decide +kernel) rfl rfl) ?_
      refine XE.go (st_i2l (pc' := 1455) (by decide +kernel) rfl) ?_
      refine XE.go (st_lcmp (pc' := 1456) (by decide +kernel) rfl) ?_
      refine XE.bite (fun h1063 => ?_) (fun h1064 => ?_)
      · refine XE.go (st_if_eq_t (off := 5) (pc' := 1461) (by decide +kernel) (by decide) h1063) ?_
        refine XE.go (st_goto (off := 1887) (pc' := 3348) (by decide +kernel) (by decide)) ?_
        refine XE.go (st_iinc (j := 4) (n := 6) (pc' := 3351) (by decide +kernel) rfl rfl (by decide) rfl rfl) ?_
        refine XE.go (st_goto (off := (-3328)) (pc' := 23) (by decide +kernel) (by decide)) ?_
        exact XE.pick [3, 4, 5, 6, 0] rfl (hc760 ((w (s9.1 + 6)), r1056.2))
      · refine XE.go (st_if_eq_f (off := 5) (pc' := 1459) (by decide +kernel) 1461 (by decide) rfl h1064) ?_
        refine XE.go (st_iconst (n := 0) (pc' := 1460) (by decide +kernel) (w_eq (by decide) (by decide)) rfl) ?_
        refine XE.cast (hx762 _) ?_
        exact XE.rt rfl (X_zret (by decide +kernel) rfl (by decide))
    · refine XE.go (st_if_ne_t (off := 15) (pc' := 1461) (by decide +kernel) (by decide) h1061) ?_
      refine XE.go (st_goto (off := 1887) (pc' := 3348) (by decide +kernel) (by decide)) ?_
      refine XE.go (st_iinc (j := 4) (n := 6) (pc' := 3351) (by decide +kernel) rfl rfl (by decide) rfl rfl) ?_
      refine XE.go (st_goto (off := (-3328)) (pc' := 23) (by decide +kernel) (by decide)) ?_
      exact XE.pick [3, 4, 5, 6, 0] rfl (hc760 ((w (s9.1 + 6)), r1056.2))
  · refine XE.go (st_icmp_eq_f (off := 5) (pc' := 1442) (by decide +kernel) 1444 (by decide) rfl h1059) ?_
    refine XE.go (st_iconst (n := 0) (pc' := 1443) (by decide +kernel) (w_eq (by decide) (by decide)) rfl) ?_
    refine XE.cast (hx762 _) ?_
    exact XE.rt rfl (X_zret (by decide +kernel) rfl (by decide))

set_option maxRecDepth 100000 in
set_option maxHeartbeats 4000000 in
theorem cx_L_18 {D : Dt} {kp : Nat} {kk763 : (Int × Mm) ⊕ ((Int × Mm) ⊕ Mm) → Option (Int × Mm)} (hx762 : ∀ y : Int × Mm, kk763 (.inr (.inl y)) = some y) (hc760 : ∀ s9 : Int × Mm, XE D kp mu_L_law (EW 0) 23 [(0, (100, (-1))), (1, (14, 11000)), (2, (15, 12000)), (3, (18, 15000)), (4, (0, s9.1))] [] s9.2 (kk763 (.inl s9))) (s9 : Int × Mm) : XE D (kp + 1) mu_L_law (EW 0) 1464 [(0, (100, (-1))), (1, (14, 11000)), (2, (15, 12000)), (3, (18, 15000)), (4, (0, s9.1))] [] s9.2 ((c_L_18 s9 (D.2.2.2.2.2.1 : Int) (fun i : Int => (D.2.2.2.2.2.2 i.toNat).toInt)).bind kk763) := by
  have h2 : (11000 : Int) ≠ 0 := by decide
  have h5 : (12000 : Int) ≠ 0 := by decide
  have h8 : (15000 : Int) ≠ 0 := by decide
  unfold c_L_18
  refine XE.go (st_aload_n (j := 1) (i := 1) (pc' := 1465) (by decide +kernel) rfl rfl (by decide) rfl) ?_
  refine XE.go (st_aload_n (j := 0) (i := 0) (pc' := 1466) (by decide +kernel) rfl rfl (by decide) rfl) ?_
  refine XE.go (st_iload (j := 4) (pc' := 1468) (by decide +kernel) rfl rfl) ?_
  refine XE.go (st_iconst (n := 1) (pc' := 1469) (by decide +kernel) (w_eq (by decide) (by decide)) rfl) ?_
  refine XE.go (st_iadd (pc' := 1470) (by decide +kernel) rfl) ?_
  refine XE.gdb (fun g1067 => ?_)
  refine XE.go (st_sld (pc' := 1471) (by decide +kernel) rfl g1067.1 g1067.2) ?_
  refine XE.go (st_aload_n (j := 3) (i := 3) (pc' := 1472) (by decide +kernel) rfl rfl (by decide) rfl) ?_
  refine XE.asc ?_
  refine XE.cW1 (pc' := 1475) (st := []) (fun r hr => ct_L_group r hr) (fun r hr => run_S (st := []) (by decide +kernel) co_L_law_225 (ct_L_group r hr) rfl rfl (Nat.le_of_ble_eq_true rfl)) rfl rfl (fun r1068 => ?_)
  refine XE.go (st_istore (j := 5) (pc' := 1477) (by decide +kernel)  rfl (by decide) rfl rfl) ?_
  refine XE.go (st_aload_n (j := 2) (i := 2) (pc' := 1478) (by decide +kernel) rfl rfl (by decide) rfl) ?_
  refine XE.go (st_aload_n (j := 0) (i := 0) (pc' := 1479) (by decide +kernel) rfl rfl (by decide) rfl) ?_
  refine XE.go (st_iload (j := 4) (pc' := 1481) (by decide +kernel) rfl rfl) ?_
  refine XE.go (st_iconst (n := 1) (pc' := 1482) (by decide +kernel) (w_eq (by decide) (by decide)) rfl) ?_
  refine XE.go (st_iadd (pc' := 1483) (by decide +kernel) rfl) ?_
  refine XE.gdb (fun g1069 => ?_)
  refine XE.go (st_sld (pc' := 1484) (by decide +kernel) rfl g1069.1 g1069.2) ?_
  refine XE.asc ?_
  refine XE.cW (pc' := 1487) (st := []) (fun r hr => ct_X11_group h5 r hr) (fun r hr => run_V (st := []) (by decide +kernel) co_L_law_227 (ct_X11_group h5 r hr) rfl h5 rfl rfl (Nat.le_of_ble_eq_true rfl)) rfl rfl (fun r1070 => ?_)
  refine XE.go (st_istore (j := 6) (pc' := 1489) (by decide +kernel)  rfl (by decide) rfl rfl) ?_
  refine XE.go (st_aload_n (j := 2) (i := 2) (pc' := 1490) (by decide +kernel) rfl rfl (by decide) rfl) ?_
  refine XE.asc ?_
  refine XE.cP (pc' := 1493) (st := []) (fun r hr => ct_X11_thrown h5 r hr) (fun r hr => run_V (st := []) (by decide +kernel) co_L_law_165 (ct_X11_thrown h5 r hr) rfl h5 rfl rfl (Nat.le_of_ble_eq_true rfl)) rfl rfl (fun r1071 => ?_)
  refine XE.go (st_iload (j := 5) (pc' := 1495) (by decide +kernel) rfl rfl) ?_
  refine XE.bite (fun h1072 => ?_) (fun h1073 => ?_)
  · refine XE.go (st_icmp_eq_t (off := 5) (pc' := 1500) (by decide +kernel) (by decide) h1072) ?_
    refine XE.go (st_iload (j := 5) (pc' := 1502) (by decide +kernel) rfl rfl) ?_
    refine XE.bite (fun h1074 => ?_) (fun h1075 => ?_)
    · refine XE.go (st_if_ne_f (off := 15) (pc' := 1505) (by decide +kernel) 1517 (by decide) rfl (not_not_intro h1074)) ?_
      refine XE.go (st_aload_n (j := 3) (i := 3) (pc' := 1506) (by decide +kernel) rfl rfl (by decide) rfl) ?_
      refine XE.go (st_iconst (n := 0) (pc' := 1507) (by decide +kernel) (w_eq (by decide) (by decide)) rfl) ?_
      refine XE.gdb (fun g1076 => ?_)
      refine XE.go (st_ald (k := 15) (tp := 2) (pc' := 1508) (by decide +kernel) rfl ak_15 rfl (by decide) rfl (Or.inr (Or.inr (Or.inl ⟨rfl, rfl⟩))) g1076.1 g1076.2.1 g1076.2.2) ?_
      refine XE.go (st_iload (j := 6) (pc' := 1510) (by decide +kernel) rfl rfl) ?_
      refine XE.go (st_i2l (pc' := 1511) (by decide +kernel) rfl) ?_
      refine XE.go (st_lcmp (pc' := 1512) (by decide +kernel) rfl) ?_
      refine XE.bite (fun h1077 => ?_) (fun h1078 => ?_)
      · refine XE.go (st_if_eq_t (off := 5) (pc' := 1517) (by decide +kernel) (by decide) h1077) ?_
        refine XE.go (st_goto (off := 1831) (pc' := 3348) (by decide +kernel) (by decide)) ?_
        refine XE.go (st_iinc (j := 4) (n := 6) (pc' := 3351) (by decide +kernel) rfl rfl (by decide) rfl rfl) ?_
        refine XE.go (st_goto (off := (-3328)) (pc' := 23) (by decide +kernel) (by decide)) ?_
        exact XE.pick [3, 4, 5, 6, 0] rfl (hc760 ((w (s9.1 + 6)), r1070.2))
      · refine XE.go (st_if_eq_f (off := 5) (pc' := 1515) (by decide +kernel) 1517 (by decide) rfl h1078) ?_
        refine XE.go (st_iconst (n := 0) (pc' := 1516) (by decide +kernel) (w_eq (by decide) (by decide)) rfl) ?_
        refine XE.cast (hx762 _) ?_
        exact XE.rt rfl (X_zret (by decide +kernel) rfl (by decide))
    · refine XE.go (st_if_ne_t (off := 15) (pc' := 1517) (by decide +kernel) (by decide) h1075) ?_
      refine XE.go (st_goto (off := 1831) (pc' := 3348) (by decide +kernel) (by decide)) ?_
      refine XE.go (st_iinc (j := 4) (n := 6) (pc' := 3351) (by decide +kernel) rfl rfl (by decide) rfl rfl) ?_
      refine XE.go (st_goto (off := (-3328)) (pc' := 23) (by decide +kernel) (by decide)) ?_
      exact XE.pick [3, 4, 5, 6, 0] rfl (hc760 ((w (s9.1 + 6)), r1070.2))
  · refine XE.go (st_icmp_eq_f (off := 5) (pc' := 1498) (by decide +kernel) 1500 (by decide) rfl h1073) ?_
    refine XE.go (st_iconst (n := 0) (pc' := 1499) (by decide +kernel) (w_eq (by decide) (by decide)) rfl) ?_
    refine XE.cast (hx762 _) ?_
    exact XE.rt rfl (X_zret (by decide +kernel) rfl (by decide))

set_option maxRecDepth 100000 in
set_option maxHeartbeats 4000000 in
theorem cx_L_19 {D : Dt} {kp : Nat} {kk763 : (Int × Mm) ⊕ ((Int × Mm) ⊕ Mm) → Option (Int × Mm)} (hx762 : ∀ y : Int × Mm, kk763 (.inr (.inl y)) = some y) (hc760 : ∀ s9 : Int × Mm, XE D kp mu_L_law (EW 0) 23 [(0, (100, (-1))), (1, (14, 11000)), (2, (15, 12000)), (3, (18, 15000)), (4, (0, s9.1))] [] s9.2 (kk763 (.inl s9))) (s9 : Int × Mm) : XE D (kp + 1) mu_L_law (EW 0) 1520 [(0, (100, (-1))), (1, (14, 11000)), (2, (15, 12000)), (3, (18, 15000)), (4, (0, s9.1))] [] s9.2 ((c_L_19 s9 (D.2.2.2.2.2.1 : Int) (fun i : Int => (D.2.2.2.2.2.2 i.toNat).toInt)).bind kk763) := by
  have h2 : (11000 : Int) ≠ 0 := by decide
  have h5 : (12000 : Int) ≠ 0 := by decide
  have h8 : (15000 : Int) ≠ 0 := by decide
  unfold c_L_19
  refine XE.go (st_aload_n (j := 1) (i := 1) (pc' := 1521) (by decide +kernel) rfl rfl (by decide) rfl) ?_
  refine XE.go (st_aload_n (j := 0) (i := 0) (pc' := 1522) (by decide +kernel) rfl rfl (by decide) rfl) ?_
  refine XE.go (st_iload (j := 4) (pc' := 1524) (by decide +kernel) rfl rfl) ?_
  refine XE.go (st_iconst (n := 1) (pc' := 1525) (by decide +kernel) (w_eq (by decide) (by decide)) rfl) ?_
  refine XE.go (st_iadd (pc' := 1526) (by decide +kernel) rfl) ?_
  refine XE.gdb (fun g1081 => ?_)
  refine XE.go (st_sld (pc' := 1527) (by decide +kernel) rfl g1081.1 g1081.2) ?_
  refine XE.go (st_aload_n (j := 3) (i := 3) (pc' := 1528) (by decide +kernel) rfl rfl (by decide) rfl) ?_
  refine XE.asc ?_
  refine XE.cW1 (pc' := 1531) (st := []) (fun r hr => ct_L_join r hr) (fun r hr => run_S (st := []) (by decide +kernel) co_L_law_228 (ct_L_join r hr) rfl rfl (Nat.le_of_ble_eq_true rfl)) rfl rfl (fun r1082 => ?_)
  refine XE.go (st_istore (j := 5) (pc' := 1533) (by decide +kernel)  rfl (by decide) rfl rfl) ?_
  refine XE.go (st_aload_n (j := 2) (i := 2) (pc' := 1534) (by decide +kernel) rfl rfl (by decide) rfl) ?_
  refine XE.go (st_aload_n (j := 0) (i := 0) (pc' := 1535) (by decide +kernel) rfl rfl (by decide) rfl) ?_
  refine XE.go (st_iload (j := 4) (pc' := 1537) (by decide +kernel) rfl rfl) ?_
  refine XE.go (st_iconst (n := 1) (pc' := 1538) (by decide +kernel) (w_eq (by decide) (by decide)) rfl) ?_
  refine XE.go (st_iadd (pc' := 1539) (by decide +kernel) rfl) ?_
  refine XE.gdb (fun g1083 => ?_)
  refine XE.go (st_sld (pc' := 1540) (by decide +kernel) rfl g1083.1 g1083.2) ?_
  refine XE.asc ?_
  refine XE.cW (pc' := 1543) (st := []) (fun r hr => ct_X11_join h5 r hr) (fun r hr => run_V (st := []) (by decide +kernel) co_L_law_230 (ct_X11_join h5 r hr) rfl h5 rfl rfl (Nat.le_of_ble_eq_true rfl)) rfl rfl (fun r1084 => ?_)
  refine XE.go (st_istore (j := 6) (pc' := 1545) (by decide +kernel)  rfl (by decide) rfl rfl) ?_
  refine XE.go (st_aload_n (j := 2) (i := 2) (pc' := 1546) (by decide +kernel) rfl rfl (by decide) rfl) ?_
  refine XE.asc ?_
  refine XE.cP (pc' := 1549) (st := []) (fun r hr => ct_X11_thrown h5 r hr) (fun r hr => run_V (st := []) (by decide +kernel) co_L_law_165 (ct_X11_thrown h5 r hr) rfl h5 rfl rfl (Nat.le_of_ble_eq_true rfl)) rfl rfl (fun r1085 => ?_)
  refine XE.go (st_iload (j := 5) (pc' := 1551) (by decide +kernel) rfl rfl) ?_
  refine XE.bite (fun h1086 => ?_) (fun h1087 => ?_)
  · refine XE.go (st_icmp_eq_t (off := 5) (pc' := 1556) (by decide +kernel) (by decide) h1086) ?_
    refine XE.go (st_iload (j := 5) (pc' := 1558) (by decide +kernel) rfl rfl) ?_
    refine XE.bite (fun h1088 => ?_) (fun h1089 => ?_)
    · refine XE.go (st_if_ne_f (off := 15) (pc' := 1561) (by decide +kernel) 1573 (by decide) rfl (not_not_intro h1088)) ?_
      refine XE.go (st_aload_n (j := 3) (i := 3) (pc' := 1562) (by decide +kernel) rfl rfl (by decide) rfl) ?_
      refine XE.go (st_iconst (n := 0) (pc' := 1563) (by decide +kernel) (w_eq (by decide) (by decide)) rfl) ?_
      refine XE.gdb (fun g1090 => ?_)
      refine XE.go (st_ald (k := 15) (tp := 2) (pc' := 1564) (by decide +kernel) rfl ak_15 rfl (by decide) rfl (Or.inr (Or.inr (Or.inl ⟨rfl, rfl⟩))) g1090.1 g1090.2.1 g1090.2.2) ?_
      refine XE.go (st_iload (j := 6) (pc' := 1566) (by decide +kernel) rfl rfl) ?_
      refine XE.go (st_i2l (pc' := 1567) (by decide +kernel) rfl) ?_
      refine XE.go (st_lcmp (pc' := 1568) (by decide +kernel) rfl) ?_
      refine XE.bite (fun h1091 => ?_) (fun h1092 => ?_)
      · refine XE.go (st_if_eq_t (off := 5) (pc' := 1573) (by decide +kernel) (by decide) h1091) ?_
        refine XE.go (st_goto (off := 1775) (pc' := 3348) (by decide +kernel) (by decide)) ?_
        refine XE.go (st_iinc (j := 4) (n := 6) (pc' := 3351) (by decide +kernel) rfl rfl (by decide) rfl rfl) ?_
        refine XE.go (st_goto (off := (-3328)) (pc' := 23) (by decide +kernel) (by decide)) ?_
        exact XE.pick [3, 4, 5, 6, 0] rfl (hc760 ((w (s9.1 + 6)), r1084.2))
      · refine XE.go (st_if_eq_f (off := 5) (pc' := 1571) (by decide +kernel) 1573 (by decide) rfl h1092) ?_
        refine XE.go (st_iconst (n := 0) (pc' := 1572) (by decide +kernel) (w_eq (by decide) (by decide)) rfl) ?_
        refine XE.cast (hx762 _) ?_
        exact XE.rt rfl (X_zret (by decide +kernel) rfl (by decide))
    · refine XE.go (st_if_ne_t (off := 15) (pc' := 1573) (by decide +kernel) (by decide) h1089) ?_
      refine XE.go (st_goto (off := 1775) (pc' := 3348) (by decide +kernel) (by decide)) ?_
      refine XE.go (st_iinc (j := 4) (n := 6) (pc' := 3351) (by decide +kernel) rfl rfl (by decide) rfl rfl) ?_
      refine XE.go (st_goto (off := (-3328)) (pc' := 23) (by decide +kernel) (by decide)) ?_
      exact XE.pick [3, 4, 5, 6, 0] rfl (hc760 ((w (s9.1 + 6)), r1084.2))
  · refine XE.go (st_icmp_eq_f (off := 5) (pc' := 1554) (by decide +kernel) 1556 (by decide) rfl h1087) ?_
    refine XE.go (st_iconst (n := 0) (pc' := 1555) (by decide +kernel) (w_eq (by decide) (by decide)) rfl) ?_
    refine XE.cast (hx762 _) ?_
    exact XE.rt rfl (X_zret (by decide +kernel) rfl (by decide))

set_option maxRecDepth 100000 in
set_option maxHeartbeats 4000000 in
theorem cx_L_20 {D : Dt} {kp : Nat} {kk763 : (Int × Mm) ⊕ ((Int × Mm) ⊕ Mm) → Option (Int × Mm)} (hx762 : ∀ y : Int × Mm, kk763 (.inr (.inl y)) = some y) (hc760 : ∀ s9 : Int × Mm, XE D kp mu_L_law (EW 0) 23 [(0, (100, (-1))), (1, (14, 11000)), (2, (15, 12000)), (3, (18, 15000)), (4, (0, s9.1))] [] s9.2 (kk763 (.inl s9))) (s9 : Int × Mm) : XE D (kp + 1) mu_L_law (EW 0) 1576 [(0, (100, (-1))), (1, (14, 11000)), (2, (15, 12000)), (3, (18, 15000)), (4, (0, s9.1))] [] s9.2 ((c_L_20 s9 (D.2.2.2.2.2.1 : Int) (fun i : Int => (D.2.2.2.2.2.2 i.toNat).toInt)).bind kk763) := by
  have h2 : (11000 : Int) ≠ 0 := by decide
  have h5 : (12000 : Int) ≠ 0 := by decide
  have h8 : (15000 : Int) ≠ 0 := by decide
  unfold c_L_20
  refine XE.go (st_aload_n (j := 1) (i := 1) (pc' := 1577) (by decide +kernel) rfl rfl (by decide) rfl) ?_
  refine XE.go (st_aload_n (j := 0) (i := 0) (pc' := 1578) (by decide +kernel) rfl rfl (by decide) rfl) ?_
  refine XE.go (st_iload (j := 4) (pc' := 1580) (by decide +kernel) rfl rfl) ?_
  refine XE.go (st_iconst (n := 1) (pc' := 1581) (by decide +kernel) (w_eq (by decide) (by decide)) rfl) ?_
  refine XE.go (st_iadd (pc' := 1582) (by decide +kernel) rfl) ?_
  refine XE.gdb (fun g1095 => ?_)
  refine XE.go (st_sld (pc' := 1583) (by decide +kernel) rfl g1095.1 g1095.2) ?_
  refine XE.go (st_aload_n (j := 0) (i := 0) (pc' := 1584) (by decide +kernel) rfl rfl (by decide) rfl) ?_
  refine XE.go (st_iload (j := 4) (pc' := 1586) (by decide +kernel) rfl rfl) ?_
  refine XE.go (st_iconst (n := 2) (pc' := 1587) (by decide +kernel) (w_eq (by decide) (by decide)) rfl) ?_
  refine XE.go (st_iadd (pc' := 1588) (by decide +kernel) rfl) ?_
  refine XE.gdb (fun g1096 => ?_)
  refine XE.go (st_sld (pc' := 1589) (by decide +kernel) rfl g1096.1 g1096.2) ?_
  refine XE.go (st_aload_n (j := 3) (i := 3) (pc' := 1590) (by decide +kernel) rfl rfl (by decide) rfl) ?_
  refine XE.asc ?_
  refine XE.cW1 (pc' := 1593) (st := []) (fun r hr => ct_L_leave r hr) (fun r hr => run_S (st := []) (by decide +kernel) co_L_law_231 (ct_L_leave r hr) rfl rfl (Nat.le_of_ble_eq_true rfl)) rfl rfl (fun r1097 => ?_)
  refine XE.go (st_istore (j := 5) (pc' := 1595) (by decide +kernel)  rfl (by decide) rfl rfl) ?_
  refine XE.go (st_aload_n (j := 2) (i := 2) (pc' := 1596) (by decide +kernel) rfl rfl (by decide) rfl) ?_
  refine XE.go (st_aload_n (j := 0) (i := 0) (pc' := 1597) (by decide +kernel) rfl rfl (by decide) rfl) ?_
  refine XE.go (st_iload (j := 4) (pc' := 1599) (by decide +kernel) rfl rfl) ?_
  refine XE.go (st_iconst (n := 1) (pc' := 1600) (by decide +kernel) (w_eq (by decide) (by decide)) rfl) ?_
  refine XE.go (st_iadd (pc' := 1601) (by decide +kernel) rfl) ?_
  refine XE.gdb (fun g1098 => ?_)
  refine XE.go (st_sld (pc' := 1602) (by decide +kernel) rfl g1098.1 g1098.2) ?_
  refine XE.go (st_aload_n (j := 0) (i := 0) (pc' := 1603) (by decide +kernel) rfl rfl (by decide) rfl) ?_
  refine XE.go (st_iload (j := 4) (pc' := 1605) (by decide +kernel) rfl rfl) ?_
  refine XE.go (st_iconst (n := 2) (pc' := 1606) (by decide +kernel) (w_eq (by decide) (by decide)) rfl) ?_
  refine XE.go (st_iadd (pc' := 1607) (by decide +kernel) rfl) ?_
  refine XE.gdb (fun g1099 => ?_)
  refine XE.go (st_sld (pc' := 1608) (by decide +kernel) rfl g1099.1 g1099.2) ?_
  refine XE.asc ?_
  refine XE.cW (pc' := 1611) (st := []) (fun r hr => ct_X11_leave h5 r hr) (fun r hr => run_V (st := []) (by decide +kernel) co_L_law_233 (ct_X11_leave h5 r hr) rfl h5 rfl rfl (Nat.le_of_ble_eq_true rfl)) rfl rfl (fun r1100 => ?_)
  refine XE.go (st_istore (j := 6) (pc' := 1613) (by decide +kernel)  rfl (by decide) rfl rfl) ?_
  refine XE.go (st_aload_n (j := 2) (i := 2) (pc' := 1614) (by decide +kernel) rfl rfl (by decide) rfl) ?_
  refine XE.asc ?_
  refine XE.cP (pc' := 1617) (st := []) (fun r hr => ct_X11_thrown h5 r hr) (fun r hr => run_V (st := []) (by decide +kernel) co_L_law_165 (ct_X11_thrown h5 r hr) rfl h5 rfl rfl (Nat.le_of_ble_eq_true rfl)) rfl rfl (fun r1101 => ?_)
  refine XE.go (st_iload (j := 5) (pc' := 1619) (by decide +kernel) rfl rfl) ?_
  refine XE.bite (fun h1102 => ?_) (fun h1103 => ?_)
  · refine XE.go (st_icmp_eq_t (off := 5) (pc' := 1624) (by decide +kernel) (by decide) h1102) ?_
    refine XE.go (st_iload (j := 5) (pc' := 1626) (by decide +kernel) rfl rfl) ?_
    refine XE.bite (fun h1104 => ?_) (fun h1105 => ?_)
    · refine XE.go (st_if_ne_f (off := 15) (pc' := 1629) (by decide +kernel) 1641 (by decide) rfl (not_not_intro h1104)) ?_
      refine XE.go (st_aload_n (j := 3) (i := 3) (pc' := 1630) (by decide +kernel) rfl rfl (by decide) rfl) ?_
      refine XE.go (st_iconst (n := 0) (pc' := 1631) (by decide +kernel) (w_eq (by decide) (by decide)) rfl) ?_
      refine XE.gdb (fun g1106 => ?_)
      refine XE.go (st_ald (k := 15) (tp := 2) (pc' := 1632) (by decide +kernel) rfl ak_15 rfl (by decide) rfl (Or.inr (Or.inr (Or.inl ⟨rfl, rfl⟩))) g1106.1 g1106.2.1 g1106.2.2) ?_
      refine XE.go (st_iload (j := 6) (pc' := 1634) (by decide +kernel) rfl rfl) ?_
      refine XE.go (st_i2l (pc' := 1635) (by decide +kernel) rfl) ?_
      refine XE.go (st_lcmp (pc' := 1636) (by decide +kernel) rfl) ?_
      refine XE.bite (fun h1107 => ?_) (fun h1108 => ?_)
      · refine XE.go (st_if_eq_t (off := 5) (pc' := 1641) (by decide +kernel) (by decide) h1107) ?_
        refine XE.go (st_goto (off := 1707) (pc' := 3348) (by decide +kernel) (by decide)) ?_
        refine XE.go (st_iinc (j := 4) (n := 6) (pc' := 3351) (by decide +kernel) rfl rfl (by decide) rfl rfl) ?_
        refine XE.go (st_goto (off := (-3328)) (pc' := 23) (by decide +kernel) (by decide)) ?_
        exact XE.pick [3, 4, 5, 6, 0] rfl (hc760 ((w (s9.1 + 6)), r1100.2))
      · refine XE.go (st_if_eq_f (off := 5) (pc' := 1639) (by decide +kernel) 1641 (by decide) rfl h1108) ?_
        refine XE.go (st_iconst (n := 0) (pc' := 1640) (by decide +kernel) (w_eq (by decide) (by decide)) rfl) ?_
        refine XE.cast (hx762 _) ?_
        exact XE.rt rfl (X_zret (by decide +kernel) rfl (by decide))
    · refine XE.go (st_if_ne_t (off := 15) (pc' := 1641) (by decide +kernel) (by decide) h1105) ?_
      refine XE.go (st_goto (off := 1707) (pc' := 3348) (by decide +kernel) (by decide)) ?_
      refine XE.go (st_iinc (j := 4) (n := 6) (pc' := 3351) (by decide +kernel) rfl rfl (by decide) rfl rfl) ?_
      refine XE.go (st_goto (off := (-3328)) (pc' := 23) (by decide +kernel) (by decide)) ?_
      exact XE.pick [3, 4, 5, 6, 0] rfl (hc760 ((w (s9.1 + 6)), r1100.2))
  · refine XE.go (st_icmp_eq_f (off := 5) (pc' := 1622) (by decide +kernel) 1624 (by decide) rfl h1103) ?_
    refine XE.go (st_iconst (n := 0) (pc' := 1623) (by decide +kernel) (w_eq (by decide) (by decide)) rfl) ?_
    refine XE.cast (hx762 _) ?_
    exact XE.rt rfl (X_zret (by decide +kernel) rfl (by decide))

set_option maxRecDepth 100000 in
set_option maxHeartbeats 4000000 in
theorem cx_L_21 {D : Dt} {kp : Nat} {kk763 : (Int × Mm) ⊕ ((Int × Mm) ⊕ Mm) → Option (Int × Mm)} (hx762 : ∀ y : Int × Mm, kk763 (.inr (.inl y)) = some y) (hc760 : ∀ s9 : Int × Mm, XE D kp mu_L_law (EW 0) 23 [(0, (100, (-1))), (1, (14, 11000)), (2, (15, 12000)), (3, (18, 15000)), (4, (0, s9.1))] [] s9.2 (kk763 (.inl s9))) (s9 : Int × Mm) : XE D (kp + 1) mu_L_law (EW 0) 1644 [(0, (100, (-1))), (1, (14, 11000)), (2, (15, 12000)), (3, (18, 15000)), (4, (0, s9.1))] [] s9.2 ((c_L_21 s9 (D.2.2.2.2.2.1 : Int) (fun i : Int => (D.2.2.2.2.2.2 i.toNat).toInt)).bind kk763) := by
  have h2 : (11000 : Int) ≠ 0 := by decide
  have h5 : (12000 : Int) ≠ 0 := by decide
  have h8 : (15000 : Int) ≠ 0 := by decide
  unfold c_L_21
  refine XE.go (st_aload_n (j := 1) (i := 1) (pc' := 1645) (by decide +kernel) rfl rfl (by decide) rfl) ?_
  refine XE.go (st_aload_n (j := 0) (i := 0) (pc' := 1646) (by decide +kernel) rfl rfl (by decide) rfl) ?_
  refine XE.go (st_iload (j := 4) (pc' := 1648) (by decide +kernel) rfl rfl) ?_
  refine XE.go (st_iconst (n := 1) (pc' := 1649) (by decide +kernel) (w_eq (by decide) (by decide)) rfl) ?_
  refine XE.go (st_iadd (pc' := 1650) (by decide +kernel) rfl) ?_
  refine XE.gdb (fun g1111 => ?_)
  refine XE.go (st_sld (pc' := 1651) (by decide +kernel) rfl g1111.1 g1111.2) ?_
  refine XE.go (st_aload_n (j := 0) (i := 0) (pc' := 1652) (by decide +kernel) rfl rfl (by decide) rfl) ?_
  refine XE.go (st_iload (j := 4) (pc' := 1654) (by decide +kernel) rfl rfl) ?_
  refine XE.go (st_iconst (n := 2) (pc' := 1655) (by decide +kernel) (w_eq (by decide) (by decide)) rfl) ?_
  refine XE.go (st_iadd (pc' := 1656) (by decide +kernel) rfl) ?_
  refine XE.gdb (fun g1112 => ?_)
  refine XE.go (st_sld (pc' := 1657) (by decide +kernel) rfl g1112.1 g1112.2) ?_
  refine XE.go (st_aload_n (j := 3) (i := 3) (pc' := 1658) (by decide +kernel) rfl rfl (by decide) rfl) ?_
  refine XE.asc ?_
  refine XE.cW1 (pc' := 1661) (st := []) (fun r hr => ct_L_beat r hr) (fun r hr => run_S (st := []) (by decide +kernel) co_L_law_234 (ct_L_beat r hr) rfl rfl (Nat.le_of_ble_eq_true rfl)) rfl rfl (fun r1113 => ?_)
  refine XE.go (st_istore (j := 5) (pc' := 1663) (by decide +kernel)  rfl (by decide) rfl rfl) ?_
  refine XE.go (st_aload_n (j := 2) (i := 2) (pc' := 1664) (by decide +kernel) rfl rfl (by decide) rfl) ?_
  refine XE.go (st_aload_n (j := 0) (i := 0) (pc' := 1665) (by decide +kernel) rfl rfl (by decide) rfl) ?_
  refine XE.go (st_iload (j := 4) (pc' := 1667) (by decide +kernel) rfl rfl) ?_
  refine XE.go (st_iconst (n := 1) (pc' := 1668) (by decide +kernel) (w_eq (by decide) (by decide)) rfl) ?_
  refine XE.go (st_iadd (pc' := 1669) (by decide +kernel) rfl) ?_
  refine XE.gdb (fun g1114 => ?_)
  refine XE.go (st_sld (pc' := 1670) (by decide +kernel) rfl g1114.1 g1114.2) ?_
  refine XE.go (st_aload_n (j := 0) (i := 0) (pc' := 1671) (by decide +kernel) rfl rfl (by decide) rfl) ?_
  refine XE.go (st_iload (j := 4) (pc' := 1673) (by decide +kernel) rfl rfl) ?_
  refine XE.go (st_iconst (n := 2) (pc' := 1674) (by decide +kernel) (w_eq (by decide) (by decide)) rfl) ?_
  refine XE.go (st_iadd (pc' := 1675) (by decide +kernel) rfl) ?_
  refine XE.gdb (fun g1115 => ?_)
  refine XE.go (st_sld (pc' := 1676) (by decide +kernel) rfl g1115.1 g1115.2) ?_
  refine XE.asc ?_
  refine XE.cW (pc' := 1679) (st := []) (fun r hr => ct_X11_beat h5 r hr) (fun r hr => run_V (st := []) (by decide +kernel) co_L_law_236 (ct_X11_beat h5 r hr) rfl h5 rfl rfl (Nat.le_of_ble_eq_true rfl)) rfl rfl (fun r1116 => ?_)
  refine XE.go (st_istore (j := 6) (pc' := 1681) (by decide +kernel)  rfl (by decide) rfl rfl) ?_
  refine XE.go (st_aload_n (j := 2) (i := 2) (pc' := 1682) (by decide +kernel) rfl rfl (by decide) rfl) ?_
  refine XE.asc ?_
  refine XE.cP (pc' := 1685) (st := []) (fun r hr => ct_X11_thrown h5 r hr) (fun r hr => run_V (st := []) (by decide +kernel) co_L_law_165 (ct_X11_thrown h5 r hr) rfl h5 rfl rfl (Nat.le_of_ble_eq_true rfl)) rfl rfl (fun r1117 => ?_)
  refine XE.go (st_iload (j := 5) (pc' := 1687) (by decide +kernel) rfl rfl) ?_
  refine XE.bite (fun h1118 => ?_) (fun h1119 => ?_)
  · refine XE.go (st_icmp_eq_t (off := 5) (pc' := 1692) (by decide +kernel) (by decide) h1118) ?_
    refine XE.go (st_iload (j := 5) (pc' := 1694) (by decide +kernel) rfl rfl) ?_
    refine XE.bite (fun h1120 => ?_) (fun h1121 => ?_)
    · refine XE.go (st_if_ne_f (off := 15) (pc' := 1697) (by decide +kernel) 1709 (by decide) rfl (not_not_intro h1120)) ?_
      refine XE.go (st_aload_n (j := 3) (i := 3) (pc' := 1698) (by decide +kernel) rfl rfl (by decide) rfl) ?_
      refine XE.go (st_iconst (n := 0) (pc' := 1699) (by decide +kernel) (w_eq (by decide) (by decide)) rfl) ?_
      refine XE.gdb (fun g1122 => ?_)
      refine XE.go (st_ald (k := 15) (tp := 2) (pc' := 1700) (by decide +kernel) rfl ak_15 rfl (by decide) rfl (Or.inr (Or.inr (Or.inl ⟨rfl, rfl⟩))) g1122.1 g1122.2.1 g1122.2.2) ?_
      refine XE.go (st_iload (j := 6) (pc' := 1702) (by decide +kernel) rfl rfl) ?_
      refine XE.go (st_i2l (pc' := 1703) (by decide +kernel) rfl) ?_
      refine XE.go (st_lcmp (pc' := 1704) (by decide +kernel) rfl) ?_
      refine XE.bite (fun h1123 => ?_) (fun h1124 => ?_)
      · refine XE.go (st_if_eq_t (off := 5) (pc' := 1709) (by decide +kernel) (by decide) h1123) ?_
        refine XE.go (st_goto (off := 1639) (pc' := 3348) (by decide +kernel) (by decide)) ?_
        refine XE.go (st_iinc (j := 4) (n := 6) (pc' := 3351) (by decide +kernel) rfl rfl (by decide) rfl rfl) ?_
        refine XE.go (st_goto (off := (-3328)) (pc' := 23) (by decide +kernel) (by decide)) ?_
        exact XE.pick [3, 4, 5, 6, 0] rfl (hc760 ((w (s9.1 + 6)), r1116.2))
      · refine XE.go (st_if_eq_f (off := 5) (pc' := 1707) (by decide +kernel) 1709 (by decide) rfl h1124) ?_
        refine XE.go (st_iconst (n := 0) (pc' := 1708) (by decide +kernel) (w_eq (by decide) (by decide)) rfl) ?_
        refine XE.cast (hx762 _) ?_
        exact XE.rt rfl (X_zret (by decide +kernel) rfl (by decide))
    · refine XE.go (st_if_ne_t (off := 15) (pc' := 1709) (by decide +kernel) (by decide) h1121) ?_
      refine XE.go (st_goto (off := 1639) (pc' := 3348) (by decide +kernel) (by decide)) ?_
      refine XE.go (st_iinc (j := 4) (n := 6) (pc' := 3351) (by decide +kernel) rfl rfl (by decide) rfl rfl) ?_
      refine XE.go (st_goto (off := (-3328)) (pc' := 23) (by decide +kernel) (by decide)) ?_
      exact XE.pick [3, 4, 5, 6, 0] rfl (hc760 ((w (s9.1 + 6)), r1116.2))
  · refine XE.go (st_icmp_eq_f (off := 5) (pc' := 1690) (by decide +kernel) 1692 (by decide) rfl h1119) ?_
    refine XE.go (st_iconst (n := 0) (pc' := 1691) (by decide +kernel) (w_eq (by decide) (by decide)) rfl) ?_
    refine XE.cast (hx762 _) ?_
    exact XE.rt rfl (X_zret (by decide +kernel) rfl (by decide))

set_option maxRecDepth 100000 in
set_option maxHeartbeats 4000000 in
theorem cx_L_22 {D : Dt} {kp : Nat} {kk763 : (Int × Mm) ⊕ ((Int × Mm) ⊕ Mm) → Option (Int × Mm)} (hx762 : ∀ y : Int × Mm, kk763 (.inr (.inl y)) = some y) (hc760 : ∀ s9 : Int × Mm, XE D kp mu_L_law (EW 0) 23 [(0, (100, (-1))), (1, (14, 11000)), (2, (15, 12000)), (3, (18, 15000)), (4, (0, s9.1))] [] s9.2 (kk763 (.inl s9))) (s9 : Int × Mm) : XE D (kp + 1) mu_L_law (EW 0) 1712 [(0, (100, (-1))), (1, (14, 11000)), (2, (15, 12000)), (3, (18, 15000)), (4, (0, s9.1))] [] s9.2 ((c_L_22 s9 (D.2.2.2.2.2.1 : Int) (fun i : Int => (D.2.2.2.2.2.2 i.toNat).toInt)).bind kk763) := by
  have h2 : (11000 : Int) ≠ 0 := by decide
  have h5 : (12000 : Int) ≠ 0 := by decide
  have h8 : (15000 : Int) ≠ 0 := by decide
  unfold c_L_22
  refine XE.go (st_aload_n (j := 1) (i := 1) (pc' := 1713) (by decide +kernel) rfl rfl (by decide) rfl) ?_
  refine XE.go (st_aload_n (j := 0) (i := 0) (pc' := 1714) (by decide +kernel) rfl rfl (by decide) rfl) ?_
  refine XE.go (st_iload (j := 4) (pc' := 1716) (by decide +kernel) rfl rfl) ?_
  refine XE.go (st_iconst (n := 1) (pc' := 1717) (by decide +kernel) (w_eq (by decide) (by decide)) rfl) ?_
  refine XE.go (st_iadd (pc' := 1718) (by decide +kernel) rfl) ?_
  refine XE.gdb (fun g1127 => ?_)
  refine XE.go (st_sld (pc' := 1719) (by decide +kernel) rfl g1127.1 g1127.2) ?_
  refine XE.go (st_aload_n (j := 0) (i := 0) (pc' := 1720) (by decide +kernel) rfl rfl (by decide) rfl) ?_
  refine XE.go (st_iload (j := 4) (pc' := 1722) (by decide +kernel) rfl rfl) ?_
  refine XE.go (st_iconst (n := 2) (pc' := 1723) (by decide +kernel) (w_eq (by decide) (by decide)) rfl) ?_
  refine XE.go (st_iadd (pc' := 1724) (by decide +kernel) rfl) ?_
  refine XE.gdb (fun g1128 => ?_)
  refine XE.go (st_sld (pc' := 1725) (by decide +kernel) rfl g1128.1 g1128.2) ?_
  refine XE.go (st_aload_n (j := 0) (i := 0) (pc' := 1726) (by decide +kernel) rfl rfl (by decide) rfl) ?_
  refine XE.go (st_iload (j := 4) (pc' := 1728) (by decide +kernel) rfl rfl) ?_
  refine XE.go (st_iconst (n := 3) (pc' := 1729) (by decide +kernel) (w_eq (by decide) (by decide)) rfl) ?_
  refine XE.go (st_iadd (pc' := 1730) (by decide +kernel) rfl) ?_
  refine XE.gdb (fun g1129 => ?_)
  refine XE.go (st_sld (pc' := 1731) (by decide +kernel) rfl g1129.1 g1129.2) ?_
  refine XE.go (st_aload_n (j := 3) (i := 3) (pc' := 1732) (by decide +kernel) rfl rfl (by decide) rfl) ?_
  refine XE.asc ?_
  refine XE.cW1 (pc' := 1735) (st := []) (fun r hr => ct_L_credits r hr) (fun r hr => run_S (st := []) (by decide +kernel) co_L_law_237 (ct_L_credits r hr) rfl rfl (Nat.le_of_ble_eq_true rfl)) rfl rfl (fun r1130 => ?_)
  refine XE.go (st_istore (j := 5) (pc' := 1737) (by decide +kernel)  rfl (by decide) rfl rfl) ?_
  refine XE.go (st_aload_n (j := 2) (i := 2) (pc' := 1738) (by decide +kernel) rfl rfl (by decide) rfl) ?_
  refine XE.go (st_aload_n (j := 0) (i := 0) (pc' := 1739) (by decide +kernel) rfl rfl (by decide) rfl) ?_
  refine XE.go (st_iload (j := 4) (pc' := 1741) (by decide +kernel) rfl rfl) ?_
  refine XE.go (st_iconst (n := 1) (pc' := 1742) (by decide +kernel) (w_eq (by decide) (by decide)) rfl) ?_
  refine XE.go (st_iadd (pc' := 1743) (by decide +kernel) rfl) ?_
  refine XE.gdb (fun g1131 => ?_)
  refine XE.go (st_sld (pc' := 1744) (by decide +kernel) rfl g1131.1 g1131.2) ?_
  refine XE.go (st_aload_n (j := 0) (i := 0) (pc' := 1745) (by decide +kernel) rfl rfl (by decide) rfl) ?_
  refine XE.go (st_iload (j := 4) (pc' := 1747) (by decide +kernel) rfl rfl) ?_
  refine XE.go (st_iconst (n := 2) (pc' := 1748) (by decide +kernel) (w_eq (by decide) (by decide)) rfl) ?_
  refine XE.go (st_iadd (pc' := 1749) (by decide +kernel) rfl) ?_
  refine XE.gdb (fun g1132 => ?_)
  refine XE.go (st_sld (pc' := 1750) (by decide +kernel) rfl g1132.1 g1132.2) ?_
  refine XE.go (st_aload_n (j := 0) (i := 0) (pc' := 1751) (by decide +kernel) rfl rfl (by decide) rfl) ?_
  refine XE.go (st_iload (j := 4) (pc' := 1753) (by decide +kernel) rfl rfl) ?_
  refine XE.go (st_iconst (n := 3) (pc' := 1754) (by decide +kernel) (w_eq (by decide) (by decide)) rfl) ?_
  refine XE.go (st_iadd (pc' := 1755) (by decide +kernel) rfl) ?_
  refine XE.gdb (fun g1133 => ?_)
  refine XE.go (st_sld (pc' := 1756) (by decide +kernel) rfl g1133.1 g1133.2) ?_
  refine XE.asc ?_
  refine XE.cW (pc' := 1759) (st := []) (fun r hr => ct_X11_credits h5 r hr) (fun r hr => run_V (st := []) (by decide +kernel) co_L_law_239 (ct_X11_credits h5 r hr) rfl h5 rfl rfl (Nat.le_of_ble_eq_true rfl)) rfl rfl (fun r1134 => ?_)
  refine XE.go (st_istore (j := 6) (pc' := 1761) (by decide +kernel)  rfl (by decide) rfl rfl) ?_
  refine XE.go (st_aload_n (j := 2) (i := 2) (pc' := 1762) (by decide +kernel) rfl rfl (by decide) rfl) ?_
  refine XE.asc ?_
  refine XE.cP (pc' := 1765) (st := []) (fun r hr => ct_X11_thrown h5 r hr) (fun r hr => run_V (st := []) (by decide +kernel) co_L_law_165 (ct_X11_thrown h5 r hr) rfl h5 rfl rfl (Nat.le_of_ble_eq_true rfl)) rfl rfl (fun r1135 => ?_)
  refine XE.go (st_iload (j := 5) (pc' := 1767) (by decide +kernel) rfl rfl) ?_
  refine XE.bite (fun h1136 => ?_) (fun h1137 => ?_)
  · refine XE.go (st_icmp_eq_t (off := 5) (pc' := 1772) (by decide +kernel) (by decide) h1136) ?_
    refine XE.go (st_iload (j := 5) (pc' := 1774) (by decide +kernel) rfl rfl) ?_
    refine XE.bite (fun h1138 => ?_) (fun h1139 => ?_)
    · refine XE.go (st_if_ne_f (off := 15) (pc' := 1777) (by decide +kernel) 1789 (by decide) rfl (not_not_intro h1138)) ?_
      refine XE.go (st_aload_n (j := 3) (i := 3) (pc' := 1778) (by decide +kernel) rfl rfl (by decide) rfl) ?_
      refine XE.go (st_iconst (n := 0) (pc' := 1779) (by decide +kernel) (w_eq (by decide) (by decide)) rfl) ?_
      refine XE.gdb (fun g1140 => ?_)
      refine XE.go (st_ald (k := 15) (tp := 2) (pc' := 1780) (by decide +kernel) rfl ak_15 rfl (by decide) rfl (Or.inr (Or.inr (Or.inl ⟨rfl, rfl⟩))) g1140.1 g1140.2.1 g1140.2.2) ?_
      refine XE.go (st_iload (j := 6) (pc' := 1782) (by decide +kernel) rfl rfl) ?_
      refine XE.go (st_i2l (pc' := 1783) (by decide +kernel) rfl) ?_
      refine XE.go (st_lcmp (pc' := 1784) (by decide +kernel) rfl) ?_
      refine XE.bite (fun h1141 => ?_) (fun h1142 => ?_)
      · refine XE.go (st_if_eq_t (off := 5) (pc' := 1789) (by decide +kernel) (by decide) h1141) ?_
        refine XE.go (st_goto (off := 1559) (pc' := 3348) (by decide +kernel) (by decide)) ?_
        refine XE.go (st_iinc (j := 4) (n := 6) (pc' := 3351) (by decide +kernel) rfl rfl (by decide) rfl rfl) ?_
        refine XE.go (st_goto (off := (-3328)) (pc' := 23) (by decide +kernel) (by decide)) ?_
        exact XE.pick [3, 4, 5, 6, 0] rfl (hc760 ((w (s9.1 + 6)), r1134.2))
      · refine XE.go (st_if_eq_f (off := 5) (pc' := 1787) (by decide +kernel) 1789 (by decide) rfl h1142) ?_
        refine XE.go (st_iconst (n := 0) (pc' := 1788) (by decide +kernel) (w_eq (by decide) (by decide)) rfl) ?_
        refine XE.cast (hx762 _) ?_
        exact XE.rt rfl (X_zret (by decide +kernel) rfl (by decide))
    · refine XE.go (st_if_ne_t (off := 15) (pc' := 1789) (by decide +kernel) (by decide) h1139) ?_
      refine XE.go (st_goto (off := 1559) (pc' := 3348) (by decide +kernel) (by decide)) ?_
      refine XE.go (st_iinc (j := 4) (n := 6) (pc' := 3351) (by decide +kernel) rfl rfl (by decide) rfl rfl) ?_
      refine XE.go (st_goto (off := (-3328)) (pc' := 23) (by decide +kernel) (by decide)) ?_
      exact XE.pick [3, 4, 5, 6, 0] rfl (hc760 ((w (s9.1 + 6)), r1134.2))
  · refine XE.go (st_icmp_eq_f (off := 5) (pc' := 1770) (by decide +kernel) 1772 (by decide) rfl h1137) ?_
    refine XE.go (st_iconst (n := 0) (pc' := 1771) (by decide +kernel) (w_eq (by decide) (by decide)) rfl) ?_
    refine XE.cast (hx762 _) ?_
    exact XE.rt rfl (X_zret (by decide +kernel) rfl (by decide))

set_option maxRecDepth 100000 in
set_option maxHeartbeats 4000000 in
theorem cx_L_23 {D : Dt} {kp : Nat} {kk763 : (Int × Mm) ⊕ ((Int × Mm) ⊕ Mm) → Option (Int × Mm)} (hx762 : ∀ y : Int × Mm, kk763 (.inr (.inl y)) = some y) (hc760 : ∀ s9 : Int × Mm, XE D kp mu_L_law (EW 0) 23 [(0, (100, (-1))), (1, (14, 11000)), (2, (15, 12000)), (3, (18, 15000)), (4, (0, s9.1))] [] s9.2 (kk763 (.inl s9))) (s9 : Int × Mm) : XE D (kp + 1) mu_L_law (EW 0) 1792 [(0, (100, (-1))), (1, (14, 11000)), (2, (15, 12000)), (3, (18, 15000)), (4, (0, s9.1))] [] s9.2 ((c_L_23 s9 (D.2.2.2.2.2.1 : Int) (fun i : Int => (D.2.2.2.2.2.2 i.toNat).toInt)).bind kk763) := by
  have h2 : (11000 : Int) ≠ 0 := by decide
  have h5 : (12000 : Int) ≠ 0 := by decide
  have h8 : (15000 : Int) ≠ 0 := by decide
  unfold c_L_23
  refine XE.go (st_aload_n (j := 1) (i := 1) (pc' := 1793) (by decide +kernel) rfl rfl (by decide) rfl) ?_
  refine XE.go (st_aload_n (j := 0) (i := 0) (pc' := 1794) (by decide +kernel) rfl rfl (by decide) rfl) ?_
  refine XE.go (st_iload (j := 4) (pc' := 1796) (by decide +kernel) rfl rfl) ?_
  refine XE.go (st_iconst (n := 1) (pc' := 1797) (by decide +kernel) (w_eq (by decide) (by decide)) rfl) ?_
  refine XE.go (st_iadd (pc' := 1798) (by decide +kernel) rfl) ?_
  refine XE.gdb (fun g1145 => ?_)
  refine XE.go (st_sld (pc' := 1799) (by decide +kernel) rfl g1145.1 g1145.2) ?_
  refine XE.go (st_aload_n (j := 0) (i := 0) (pc' := 1800) (by decide +kernel) rfl rfl (by decide) rfl) ?_
  refine XE.go (st_iload (j := 4) (pc' := 1802) (by decide +kernel) rfl rfl) ?_
  refine XE.go (st_iconst (n := 2) (pc' := 1803) (by decide +kernel) (w_eq (by decide) (by decide)) rfl) ?_
  refine XE.go (st_iadd (pc' := 1804) (by decide +kernel) rfl) ?_
  refine XE.gdb (fun g1146 => ?_)
  refine XE.go (st_sld (pc' := 1805) (by decide +kernel) rfl g1146.1 g1146.2) ?_
  refine XE.go (st_aload_n (j := 3) (i := 3) (pc' := 1806) (by decide +kernel) rfl rfl (by decide) rfl) ?_
  refine XE.asc ?_
  refine XE.cW1 (pc' := 1809) (st := []) (fun r hr => ct_L_read r hr) (fun r hr => run_S (st := []) (by decide +kernel) co_L_law_240 (ct_L_read r hr) rfl rfl (Nat.le_of_ble_eq_true rfl)) rfl rfl (fun r1147 => ?_)
  refine XE.go (st_istore (j := 5) (pc' := 1811) (by decide +kernel)  rfl (by decide) rfl rfl) ?_
  refine XE.go (st_aload_n (j := 2) (i := 2) (pc' := 1812) (by decide +kernel) rfl rfl (by decide) rfl) ?_
  refine XE.go (st_aload_n (j := 0) (i := 0) (pc' := 1813) (by decide +kernel) rfl rfl (by decide) rfl) ?_
  refine XE.go (st_iload (j := 4) (pc' := 1815) (by decide +kernel) rfl rfl) ?_
  refine XE.go (st_iconst (n := 1) (pc' := 1816) (by decide +kernel) (w_eq (by decide) (by decide)) rfl) ?_
  refine XE.go (st_iadd (pc' := 1817) (by decide +kernel) rfl) ?_
  refine XE.gdb (fun g1148 => ?_)
  refine XE.go (st_sld (pc' := 1818) (by decide +kernel) rfl g1148.1 g1148.2) ?_
  refine XE.go (st_aload_n (j := 0) (i := 0) (pc' := 1819) (by decide +kernel) rfl rfl (by decide) rfl) ?_
  refine XE.go (st_iload (j := 4) (pc' := 1821) (by decide +kernel) rfl rfl) ?_
  refine XE.go (st_iconst (n := 2) (pc' := 1822) (by decide +kernel) (w_eq (by decide) (by decide)) rfl) ?_
  refine XE.go (st_iadd (pc' := 1823) (by decide +kernel) rfl) ?_
  refine XE.gdb (fun g1149 => ?_)
  refine XE.go (st_sld (pc' := 1824) (by decide +kernel) rfl g1149.1 g1149.2) ?_
  refine XE.asc ?_
  refine XE.cW (pc' := 1827) (st := []) (fun r hr => ct_X11_read h5 r hr) (fun r hr => run_V (st := []) (by decide +kernel) co_L_law_242 (ct_X11_read h5 r hr) rfl h5 rfl rfl (Nat.le_of_ble_eq_true rfl)) rfl rfl (fun r1150 => ?_)
  refine XE.go (st_istore (j := 6) (pc' := 1829) (by decide +kernel)  rfl (by decide) rfl rfl) ?_
  refine XE.go (st_aload_n (j := 2) (i := 2) (pc' := 1830) (by decide +kernel) rfl rfl (by decide) rfl) ?_
  refine XE.asc ?_
  refine XE.cP (pc' := 1833) (st := []) (fun r hr => ct_X11_thrown h5 r hr) (fun r hr => run_V (st := []) (by decide +kernel) co_L_law_165 (ct_X11_thrown h5 r hr) rfl h5 rfl rfl (Nat.le_of_ble_eq_true rfl)) rfl rfl (fun r1151 => ?_)
  refine XE.go (st_iload (j := 5) (pc' := 1835) (by decide +kernel) rfl rfl) ?_
  refine XE.bite (fun h1152 => ?_) (fun h1153 => ?_)
  · refine XE.go (st_icmp_eq_t (off := 5) (pc' := 1840) (by decide +kernel) (by decide) h1152) ?_
    refine XE.go (st_iload (j := 5) (pc' := 1842) (by decide +kernel) rfl rfl) ?_
    refine XE.bite (fun h1154 => ?_) (fun h1155 => ?_)
    · refine XE.go (st_if_ne_f (off := 15) (pc' := 1845) (by decide +kernel) 1857 (by decide) rfl (not_not_intro h1154)) ?_
      refine XE.go (st_aload_n (j := 3) (i := 3) (pc' := 1846) (by decide +kernel) rfl rfl (by decide) rfl) ?_
      refine XE.go (st_iconst (n := 0) (pc' := 1847) (by decide +kernel) (w_eq (by decide) (by decide)) rfl) ?_
      refine XE.gdb (fun g1156 => ?_)
      refine XE.go (st_ald (k := 15) (tp := 2) (pc' := 1848) (by decide +kernel) rfl ak_15 rfl (by decide) rfl (Or.inr (Or.inr (Or.inl ⟨rfl, rfl⟩))) g1156.1 g1156.2.1 g1156.2.2) ?_
      refine XE.go (st_iload (j := 6) (pc' := 1850) (by decide +kernel) rfl rfl) ?_
      refine XE.go (st_i2l (pc' := 1851) (by decide +kernel) rfl) ?_
      refine XE.go (st_lcmp (pc' := 1852) (by decide +kernel) rfl) ?_
      refine XE.bite (fun h1157 => ?_) (fun h1158 => ?_)
      · refine XE.go (st_if_eq_t (off := 5) (pc' := 1857) (by decide +kernel) (by decide) h1157) ?_
        refine XE.go (st_goto (off := 1491) (pc' := 3348) (by decide +kernel) (by decide)) ?_
        refine XE.go (st_iinc (j := 4) (n := 6) (pc' := 3351) (by decide +kernel) rfl rfl (by decide) rfl rfl) ?_
        refine XE.go (st_goto (off := (-3328)) (pc' := 23) (by decide +kernel) (by decide)) ?_
        exact XE.pick [3, 4, 5, 6, 0] rfl (hc760 ((w (s9.1 + 6)), r1150.2))
      · refine XE.go (st_if_eq_f (off := 5) (pc' := 1855) (by decide +kernel) 1857 (by decide) rfl h1158) ?_
        refine XE.go (st_iconst (n := 0) (pc' := 1856) (by decide +kernel) (w_eq (by decide) (by decide)) rfl) ?_
        refine XE.cast (hx762 _) ?_
        exact XE.rt rfl (X_zret (by decide +kernel) rfl (by decide))
    · refine XE.go (st_if_ne_t (off := 15) (pc' := 1857) (by decide +kernel) (by decide) h1155) ?_
      refine XE.go (st_goto (off := 1491) (pc' := 3348) (by decide +kernel) (by decide)) ?_
      refine XE.go (st_iinc (j := 4) (n := 6) (pc' := 3351) (by decide +kernel) rfl rfl (by decide) rfl rfl) ?_
      refine XE.go (st_goto (off := (-3328)) (pc' := 23) (by decide +kernel) (by decide)) ?_
      exact XE.pick [3, 4, 5, 6, 0] rfl (hc760 ((w (s9.1 + 6)), r1150.2))
  · refine XE.go (st_icmp_eq_f (off := 5) (pc' := 1838) (by decide +kernel) 1840 (by decide) rfl h1153) ?_
    refine XE.go (st_iconst (n := 0) (pc' := 1839) (by decide +kernel) (w_eq (by decide) (by decide)) rfl) ?_
    refine XE.cast (hx762 _) ?_
    exact XE.rt rfl (X_zret (by decide +kernel) rfl (by decide))

set_option maxRecDepth 100000 in
set_option maxHeartbeats 4000000 in
theorem cx_L_24 {D : Dt} {kp : Nat} {kk763 : (Int × Mm) ⊕ ((Int × Mm) ⊕ Mm) → Option (Int × Mm)} (hx762 : ∀ y : Int × Mm, kk763 (.inr (.inl y)) = some y) (hc760 : ∀ s9 : Int × Mm, XE D kp mu_L_law (EW 0) 23 [(0, (100, (-1))), (1, (14, 11000)), (2, (15, 12000)), (3, (18, 15000)), (4, (0, s9.1))] [] s9.2 (kk763 (.inl s9))) (s9 : Int × Mm) : XE D (kp + 1) mu_L_law (EW 0) 1860 [(0, (100, (-1))), (1, (14, 11000)), (2, (15, 12000)), (3, (18, 15000)), (4, (0, s9.1))] [] s9.2 ((c_L_24 s9 (D.2.2.2.2.2.1 : Int) (fun i : Int => (D.2.2.2.2.2.2 i.toNat).toInt)).bind kk763) := by
  have h2 : (11000 : Int) ≠ 0 := by decide
  have h5 : (12000 : Int) ≠ 0 := by decide
  have h8 : (15000 : Int) ≠ 0 := by decide
  unfold c_L_24
  refine XE.go (st_aload_n (j := 1) (i := 1) (pc' := 1861) (by decide +kernel) rfl rfl (by decide) rfl) ?_
  refine XE.go (st_aload_n (j := 0) (i := 0) (pc' := 1862) (by decide +kernel) rfl rfl (by decide) rfl) ?_
  refine XE.go (st_iload (j := 4) (pc' := 1864) (by decide +kernel) rfl rfl) ?_
  refine XE.go (st_iconst (n := 1) (pc' := 1865) (by decide +kernel) (w_eq (by decide) (by decide)) rfl) ?_
  refine XE.go (st_iadd (pc' := 1866) (by decide +kernel) rfl) ?_
  refine XE.gdb (fun g1161 => ?_)
  refine XE.go (st_sld (pc' := 1867) (by decide +kernel) rfl g1161.1 g1161.2) ?_
  refine XE.go (st_aload_n (j := 0) (i := 0) (pc' := 1868) (by decide +kernel) rfl rfl (by decide) rfl) ?_
  refine XE.go (st_iload (j := 4) (pc' := 1870) (by decide +kernel) rfl rfl) ?_
  refine XE.go (st_iconst (n := 2) (pc' := 1871) (by decide +kernel) (w_eq (by decide) (by decide)) rfl) ?_
  refine XE.go (st_iadd (pc' := 1872) (by decide +kernel) rfl) ?_
  refine XE.gdb (fun g1162 => ?_)
  refine XE.go (st_sld (pc' := 1873) (by decide +kernel) rfl g1162.1 g1162.2) ?_
  refine XE.go (st_aload_n (j := 0) (i := 0) (pc' := 1874) (by decide +kernel) rfl rfl (by decide) rfl) ?_
  refine XE.go (st_iload (j := 4) (pc' := 1876) (by decide +kernel) rfl rfl) ?_
  refine XE.go (st_iconst (n := 3) (pc' := 1877) (by decide +kernel) (w_eq (by decide) (by decide)) rfl) ?_
  refine XE.go (st_iadd (pc' := 1878) (by decide +kernel) rfl) ?_
  refine XE.gdb (fun g1163 => ?_)
  refine XE.go (st_sld (pc' := 1879) (by decide +kernel) rfl g1163.1 g1163.2) ?_
  refine XE.go (st_aload_n (j := 3) (i := 3) (pc' := 1880) (by decide +kernel) rfl rfl (by decide) rfl) ?_
  refine XE.asc ?_
  refine XE.cW1 (pc' := 1883) (st := []) (fun r hr => ct_L_done r hr) (fun r hr => run_S (st := []) (by decide +kernel) co_L_law_243 (ct_L_done r hr) rfl rfl (Nat.le_of_ble_eq_true rfl)) rfl rfl (fun r1164 => ?_)
  refine XE.go (st_istore (j := 5) (pc' := 1885) (by decide +kernel)  rfl (by decide) rfl rfl) ?_
  refine XE.go (st_aload_n (j := 2) (i := 2) (pc' := 1886) (by decide +kernel) rfl rfl (by decide) rfl) ?_
  refine XE.go (st_aload_n (j := 0) (i := 0) (pc' := 1887) (by decide +kernel) rfl rfl (by decide) rfl) ?_
  refine XE.go (st_iload (j := 4) (pc' := 1889) (by decide +kernel) rfl rfl) ?_
  refine XE.go (st_iconst (n := 1) (pc' := 1890) (by decide +kernel) (w_eq (by decide) (by decide)) rfl) ?_
  refine XE.go (st_iadd (pc' := 1891) (by decide +kernel) rfl) ?_
  refine XE.gdb (fun g1165 => ?_)
  refine XE.go (st_sld (pc' := 1892) (by decide +kernel) rfl g1165.1 g1165.2) ?_
  refine XE.go (st_aload_n (j := 0) (i := 0) (pc' := 1893) (by decide +kernel) rfl rfl (by decide) rfl) ?_
  refine XE.go (st_iload (j := 4) (pc' := 1895) (by decide +kernel) rfl rfl) ?_
  refine XE.go (st_iconst (n := 2) (pc' := 1896) (by decide +kernel) (w_eq (by decide) (by decide)) rfl) ?_
  refine XE.go (st_iadd (pc' := 1897) (by decide +kernel) rfl) ?_
  refine XE.gdb (fun g1166 => ?_)
  refine XE.go (st_sld (pc' := 1898) (by decide +kernel) rfl g1166.1 g1166.2) ?_
  refine XE.go (st_aload_n (j := 0) (i := 0) (pc' := 1899) (by decide +kernel) rfl rfl (by decide) rfl) ?_
  refine XE.go (st_iload (j := 4) (pc' := 1901) (by decide +kernel) rfl rfl) ?_
  refine XE.go (st_iconst (n := 3) (pc' := 1902) (by decide +kernel) (w_eq (by decide) (by decide)) rfl) ?_
  refine XE.go (st_iadd (pc' := 1903) (by decide +kernel) rfl) ?_
  refine XE.gdb (fun g1167 => ?_)
  refine XE.go (st_sld (pc' := 1904) (by decide +kernel) rfl g1167.1 g1167.2) ?_
  refine XE.asc ?_
  refine XE.cW (pc' := 1907) (st := []) (fun r hr => ct_X11_done h5 r hr) (fun r hr => run_V (st := []) (by decide +kernel) co_L_law_245 (ct_X11_done h5 r hr) rfl h5 rfl rfl (Nat.le_of_ble_eq_true rfl)) rfl rfl (fun r1168 => ?_)
  refine XE.go (st_istore (j := 6) (pc' := 1909) (by decide +kernel)  rfl (by decide) rfl rfl) ?_
  refine XE.go (st_aload_n (j := 2) (i := 2) (pc' := 1910) (by decide +kernel) rfl rfl (by decide) rfl) ?_
  refine XE.asc ?_
  refine XE.cP (pc' := 1913) (st := []) (fun r hr => ct_X11_thrown h5 r hr) (fun r hr => run_V (st := []) (by decide +kernel) co_L_law_165 (ct_X11_thrown h5 r hr) rfl h5 rfl rfl (Nat.le_of_ble_eq_true rfl)) rfl rfl (fun r1169 => ?_)
  refine XE.go (st_iload (j := 5) (pc' := 1915) (by decide +kernel) rfl rfl) ?_
  refine XE.bite (fun h1170 => ?_) (fun h1171 => ?_)
  · refine XE.go (st_icmp_eq_t (off := 5) (pc' := 1920) (by decide +kernel) (by decide) h1170) ?_
    refine XE.go (st_iload (j := 5) (pc' := 1922) (by decide +kernel) rfl rfl) ?_
    refine XE.bite (fun h1172 => ?_) (fun h1173 => ?_)
    · refine XE.go (st_if_ne_f (off := 15) (pc' := 1925) (by decide +kernel) 1937 (by decide) rfl (not_not_intro h1172)) ?_
      refine XE.go (st_aload_n (j := 3) (i := 3) (pc' := 1926) (by decide +kernel) rfl rfl (by decide) rfl) ?_
      refine XE.go (st_iconst (n := 0) (pc' := 1927) (by decide +kernel) (w_eq (by decide) (by decide)) rfl) ?_
      refine XE.gdb (fun g1174 => ?_)
      refine XE.go (st_ald (k := 15) (tp := 2) (pc' := 1928) (by decide +kernel) rfl ak_15 rfl (by decide) rfl (Or.inr (Or.inr (Or.inl ⟨rfl, rfl⟩))) g1174.1 g1174.2.1 g1174.2.2) ?_
      refine XE.go (st_iload (j := 6) (pc' := 1930) (by decide +kernel) rfl rfl) ?_
      refine XE.go (st_i2l (pc' := 1931) (by decide +kernel) rfl) ?_
      refine XE.go (st_lcmp (pc' := 1932) (by decide +kernel) rfl) ?_
      refine XE.bite (fun h1175 => ?_) (fun h1176 => ?_)
      · refine XE.go (st_if_eq_t (off := 5) (pc' := 1937) (by decide +kernel) (by decide) h1175) ?_
        refine XE.go (st_goto (off := 1411) (pc' := 3348) (by decide +kernel) (by decide)) ?_
        refine XE.go (st_iinc (j := 4) (n := 6) (pc' := 3351) (by decide +kernel) rfl rfl (by decide) rfl rfl) ?_
        refine XE.go (st_goto (off := (-3328)) (pc' := 23) (by decide +kernel) (by decide)) ?_
        exact XE.pick [3, 4, 5, 6, 0] rfl (hc760 ((w (s9.1 + 6)), r1168.2))
      · refine XE.go (st_if_eq_f (off := 5) (pc' := 1935) (by decide +kernel) 1937 (by decide) rfl h1176) ?_
        refine XE.go (st_iconst (n := 0) (pc' := 1936) (by decide +kernel) (w_eq (by decide) (by decide)) rfl) ?_
        refine XE.cast (hx762 _) ?_
        exact XE.rt rfl (X_zret (by decide +kernel) rfl (by decide))
    · refine XE.go (st_if_ne_t (off := 15) (pc' := 1937) (by decide +kernel) (by decide) h1173) ?_
      refine XE.go (st_goto (off := 1411) (pc' := 3348) (by decide +kernel) (by decide)) ?_
      refine XE.go (st_iinc (j := 4) (n := 6) (pc' := 3351) (by decide +kernel) rfl rfl (by decide) rfl rfl) ?_
      refine XE.go (st_goto (off := (-3328)) (pc' := 23) (by decide +kernel) (by decide)) ?_
      exact XE.pick [3, 4, 5, 6, 0] rfl (hc760 ((w (s9.1 + 6)), r1168.2))
  · refine XE.go (st_icmp_eq_f (off := 5) (pc' := 1918) (by decide +kernel) 1920 (by decide) rfl h1171) ?_
    refine XE.go (st_iconst (n := 0) (pc' := 1919) (by decide +kernel) (w_eq (by decide) (by decide)) rfl) ?_
    refine XE.cast (hx762 _) ?_
    exact XE.rt rfl (X_zret (by decide +kernel) rfl (by decide))

set_option maxRecDepth 100000 in
set_option maxHeartbeats 4000000 in
theorem cx_L_25 {D : Dt} {kp : Nat} {kk763 : (Int × Mm) ⊕ ((Int × Mm) ⊕ Mm) → Option (Int × Mm)} (hx762 : ∀ y : Int × Mm, kk763 (.inr (.inl y)) = some y) (hc760 : ∀ s9 : Int × Mm, XE D kp mu_L_law (EW 0) 23 [(0, (100, (-1))), (1, (14, 11000)), (2, (15, 12000)), (3, (18, 15000)), (4, (0, s9.1))] [] s9.2 (kk763 (.inl s9))) (s9 : Int × Mm) : XE D (kp + 1) mu_L_law (EW 0) 1940 [(0, (100, (-1))), (1, (14, 11000)), (2, (15, 12000)), (3, (18, 15000)), (4, (0, s9.1))] [] s9.2 ((c_L_25 s9 (D.2.2.2.2.2.1 : Int) (fun i : Int => (D.2.2.2.2.2.2 i.toNat).toInt)).bind kk763) := by
  have h2 : (11000 : Int) ≠ 0 := by decide
  have h5 : (12000 : Int) ≠ 0 := by decide
  have h8 : (15000 : Int) ≠ 0 := by decide
  unfold c_L_25
  refine XE.go (st_aload_n (j := 1) (i := 1) (pc' := 1941) (by decide +kernel) rfl rfl (by decide) rfl) ?_
  refine XE.go (st_aload_n (j := 0) (i := 0) (pc' := 1942) (by decide +kernel) rfl rfl (by decide) rfl) ?_
  refine XE.go (st_iload (j := 4) (pc' := 1944) (by decide +kernel) rfl rfl) ?_
  refine XE.go (st_iconst (n := 1) (pc' := 1945) (by decide +kernel) (w_eq (by decide) (by decide)) rfl) ?_
  refine XE.go (st_iadd (pc' := 1946) (by decide +kernel) rfl) ?_
  refine XE.gdb (fun g1179 => ?_)
  refine XE.go (st_sld (pc' := 1947) (by decide +kernel) rfl g1179.1 g1179.2) ?_
  refine XE.go (st_aload_n (j := 0) (i := 0) (pc' := 1948) (by decide +kernel) rfl rfl (by decide) rfl) ?_
  refine XE.go (st_iload (j := 4) (pc' := 1950) (by decide +kernel) rfl rfl) ?_
  refine XE.go (st_iconst (n := 2) (pc' := 1951) (by decide +kernel) (w_eq (by decide) (by decide)) rfl) ?_
  refine XE.go (st_iadd (pc' := 1952) (by decide +kernel) rfl) ?_
  refine XE.gdb (fun g1180 => ?_)
  refine XE.go (st_sld (pc' := 1953) (by decide +kernel) rfl g1180.1 g1180.2) ?_
  refine XE.go (st_aload_n (j := 0) (i := 0) (pc' := 1954) (by decide +kernel) rfl rfl (by decide) rfl) ?_
  refine XE.go (st_iload (j := 4) (pc' := 1956) (by decide +kernel) rfl rfl) ?_
  refine XE.go (st_iconst (n := 3) (pc' := 1957) (by decide +kernel) (w_eq (by decide) (by decide)) rfl) ?_
  refine XE.go (st_iadd (pc' := 1958) (by decide +kernel) rfl) ?_
  refine XE.gdb (fun g1181 => ?_)
  refine XE.go (st_sld (pc' := 1959) (by decide +kernel) rfl g1181.1 g1181.2) ?_
  refine XE.go (st_aload_n (j := 3) (i := 3) (pc' := 1960) (by decide +kernel) rfl rfl (by decide) rfl) ?_
  refine XE.asc ?_
  refine XE.cW1 (pc' := 1963) (st := []) (fun r hr => ct_L_retry r hr) (fun r hr => run_S (st := []) (by decide +kernel) co_L_law_246 (ct_L_retry r hr) rfl rfl (Nat.le_of_ble_eq_true rfl)) rfl rfl (fun r1182 => ?_)
  refine XE.go (st_istore (j := 5) (pc' := 1965) (by decide +kernel)  rfl (by decide) rfl rfl) ?_
  refine XE.go (st_aload_n (j := 2) (i := 2) (pc' := 1966) (by decide +kernel) rfl rfl (by decide) rfl) ?_
  refine XE.go (st_aload_n (j := 0) (i := 0) (pc' := 1967) (by decide +kernel) rfl rfl (by decide) rfl) ?_
  refine XE.go (st_iload (j := 4) (pc' := 1969) (by decide +kernel) rfl rfl) ?_
  refine XE.go (st_iconst (n := 1) (pc' := 1970) (by decide +kernel) (w_eq (by decide) (by decide)) rfl) ?_
  refine XE.go (st_iadd (pc' := 1971) (by decide +kernel) rfl) ?_
  refine XE.gdb (fun g1183 => ?_)
  refine XE.go (st_sld (pc' := 1972) (by decide +kernel) rfl g1183.1 g1183.2) ?_
  refine XE.go (st_aload_n (j := 0) (i := 0) (pc' := 1973) (by decide +kernel) rfl rfl (by decide) rfl) ?_
  refine XE.go (st_iload (j := 4) (pc' := 1975) (by decide +kernel) rfl rfl) ?_
  refine XE.go (st_iconst (n := 2) (pc' := 1976) (by decide +kernel) (w_eq (by decide) (by decide)) rfl) ?_
  refine XE.go (st_iadd (pc' := 1977) (by decide +kernel) rfl) ?_
  refine XE.gdb (fun g1184 => ?_)
  refine XE.go (st_sld (pc' := 1978) (by decide +kernel) rfl g1184.1 g1184.2) ?_
  refine XE.go (st_aload_n (j := 0) (i := 0) (pc' := 1979) (by decide +kernel) rfl rfl (by decide) rfl) ?_
  refine XE.go (st_iload (j := 4) (pc' := 1981) (by decide +kernel) rfl rfl) ?_
  refine XE.go (st_iconst (n := 3) (pc' := 1982) (by decide +kernel) (w_eq (by decide) (by decide)) rfl) ?_
  refine XE.go (st_iadd (pc' := 1983) (by decide +kernel) rfl) ?_
  refine XE.gdb (fun g1185 => ?_)
  refine XE.go (st_sld (pc' := 1984) (by decide +kernel) rfl g1185.1 g1185.2) ?_
  refine XE.asc ?_
  refine XE.cW (pc' := 1987) (st := []) (fun r hr => ct_X11_retry h5 r hr) (fun r hr => run_V (st := []) (by decide +kernel) co_L_law_248 (ct_X11_retry h5 r hr) rfl h5 rfl rfl (Nat.le_of_ble_eq_true rfl)) rfl rfl (fun r1186 => ?_)
  refine XE.go (st_istore (j := 6) (pc' := 1989) (by decide +kernel)  rfl (by decide) rfl rfl) ?_
  refine XE.go (st_aload_n (j := 2) (i := 2) (pc' := 1990) (by decide +kernel) rfl rfl (by decide) rfl) ?_
  refine XE.asc ?_
  refine XE.cP (pc' := 1993) (st := []) (fun r hr => ct_X11_thrown h5 r hr) (fun r hr => run_V (st := []) (by decide +kernel) co_L_law_165 (ct_X11_thrown h5 r hr) rfl h5 rfl rfl (Nat.le_of_ble_eq_true rfl)) rfl rfl (fun r1187 => ?_)
  refine XE.go (st_iload (j := 5) (pc' := 1995) (by decide +kernel) rfl rfl) ?_
  refine XE.bite (fun h1188 => ?_) (fun h1189 => ?_)
  · refine XE.go (st_icmp_eq_t (off := 5) (pc' := 2000) (by decide +kernel) (by decide) h1188) ?_
    refine XE.go (st_iload (j := 5) (pc' := 2002) (by decide +kernel) rfl rfl) ?_
    refine XE.bite (fun h1190 => ?_) (fun h1191 => ?_)
    · refine XE.go (st_if_ne_f (off := 15) (pc' := 2005) (by decide +kernel) 2017 (by decide) rfl (not_not_intro h1190)) ?_
      refine XE.go (st_aload_n (j := 3) (i := 3) (pc' := 2006) (by decide +kernel) rfl rfl (by decide) rfl) ?_
      refine XE.go (st_iconst (n := 0) (pc' := 2007) (by decide +kernel) (w_eq (by decide) (by decide)) rfl) ?_
      refine XE.gdb (fun g1192 => ?_)
      refine XE.go (st_ald (k := 15) (tp := 2) (pc' := 2008) (by decide +kernel) rfl ak_15 rfl (by decide) rfl (Or.inr (Or.inr (Or.inl ⟨rfl, rfl⟩))) g1192.1 g1192.2.1 g1192.2.2) ?_
      refine XE.go (st_iload (j := 6) (pc' := 2010) (by decide +kernel) rfl rfl) ?_
      refine XE.go (st_i2l (pc' := 2011) (by decide +kernel) rfl) ?_
      refine XE.go (st_lcmp (pc' := 2012) (by decide +kernel) rfl) ?_
      refine XE.bite (fun h1193 => ?_) (fun h1194 => ?_)
      · refine XE.go (st_if_eq_t (off := 5) (pc' := 2017) (by decide +kernel) (by decide) h1193) ?_
        refine XE.go (st_goto (off := 1331) (pc' := 3348) (by decide +kernel) (by decide)) ?_
        refine XE.go (st_iinc (j := 4) (n := 6) (pc' := 3351) (by decide +kernel) rfl rfl (by decide) rfl rfl) ?_
        refine XE.go (st_goto (off := (-3328)) (pc' := 23) (by decide +kernel) (by decide)) ?_
        exact XE.pick [3, 4, 5, 6, 0] rfl (hc760 ((w (s9.1 + 6)), r1186.2))
      · refine XE.go (st_if_eq_f (off := 5) (pc' := 2015) (by decide +kernel) 2017 (by decide) rfl h1194) ?_
        refine XE.go (st_iconst (n := 0) (pc' := 2016) (by decide +kernel) (w_eq (by decide) (by decide)) rfl) ?_
        refine XE.cast (hx762 _) ?_
        exact XE.rt rfl (X_zret (by decide +kernel) rfl (by decide))
    · refine XE.go (st_if_ne_t (off := 15) (pc' := 2017) (by decide +kernel) (by decide) h1191) ?_
      refine XE.go (st_goto (off := 1331) (pc' := 3348) (by decide +kernel) (by decide)) ?_
      refine XE.go (st_iinc (j := 4) (n := 6) (pc' := 3351) (by decide +kernel) rfl rfl (by decide) rfl rfl) ?_
      refine XE.go (st_goto (off := (-3328)) (pc' := 23) (by decide +kernel) (by decide)) ?_
      exact XE.pick [3, 4, 5, 6, 0] rfl (hc760 ((w (s9.1 + 6)), r1186.2))
  · refine XE.go (st_icmp_eq_f (off := 5) (pc' := 1998) (by decide +kernel) 2000 (by decide) rfl h1189) ?_
    refine XE.go (st_iconst (n := 0) (pc' := 1999) (by decide +kernel) (w_eq (by decide) (by decide)) rfl) ?_
    refine XE.cast (hx762 _) ?_
    exact XE.rt rfl (X_zret (by decide +kernel) rfl (by decide))

set_option maxRecDepth 100000 in
set_option maxHeartbeats 4000000 in
theorem cx_L_26 {D : Dt} {kp : Nat} {kk763 : (Int × Mm) ⊕ ((Int × Mm) ⊕ Mm) → Option (Int × Mm)} (hx762 : ∀ y : Int × Mm, kk763 (.inr (.inl y)) = some y) (hc760 : ∀ s9 : Int × Mm, XE D kp mu_L_law (EW 0) 23 [(0, (100, (-1))), (1, (14, 11000)), (2, (15, 12000)), (3, (18, 15000)), (4, (0, s9.1))] [] s9.2 (kk763 (.inl s9))) (s9 : Int × Mm) : XE D (kp + 1) mu_L_law (EW 0) 2020 [(0, (100, (-1))), (1, (14, 11000)), (2, (15, 12000)), (3, (18, 15000)), (4, (0, s9.1))] [] s9.2 ((c_L_26 s9 (D.2.2.2.2.2.1 : Int) (fun i : Int => (D.2.2.2.2.2.2 i.toNat).toInt)).bind kk763) := by
  have h2 : (11000 : Int) ≠ 0 := by decide
  have h5 : (12000 : Int) ≠ 0 := by decide
  have h8 : (15000 : Int) ≠ 0 := by decide
  unfold c_L_26
  refine XE.go (st_aload_n (j := 1) (i := 1) (pc' := 2021) (by decide +kernel) rfl rfl (by decide) rfl) ?_
  refine XE.go (st_aload_n (j := 0) (i := 0) (pc' := 2022) (by decide +kernel) rfl rfl (by decide) rfl) ?_
  refine XE.go (st_iload (j := 4) (pc' := 2024) (by decide +kernel) rfl rfl) ?_
  refine XE.go (st_iconst (n := 1) (pc' := 2025) (by decide +kernel) (w_eq (by decide) (by decide)) rfl) ?_
  refine XE.go (st_iadd (pc' := 2026) (by decide +kernel) rfl) ?_
  refine XE.gdb (fun g1197 => ?_)
  refine XE.go (st_sld (pc' := 2027) (by decide +kernel) rfl g1197.1 g1197.2) ?_
  refine XE.go (st_aload_n (j := 0) (i := 0) (pc' := 2028) (by decide +kernel) rfl rfl (by decide) rfl) ?_
  refine XE.go (st_iload (j := 4) (pc' := 2030) (by decide +kernel) rfl rfl) ?_
  refine XE.go (st_iconst (n := 2) (pc' := 2031) (by decide +kernel) (w_eq (by decide) (by decide)) rfl) ?_
  refine XE.go (st_iadd (pc' := 2032) (by decide +kernel) rfl) ?_
  refine XE.gdb (fun g1198 => ?_)
  refine XE.go (st_sld (pc' := 2033) (by decide +kernel) rfl g1198.1 g1198.2) ?_
  refine XE.go (st_aload_n (j := 3) (i := 3) (pc' := 2034) (by decide +kernel) rfl rfl (by decide) rfl) ?_
  refine XE.asc ?_
  refine XE.cW1 (pc' := 2037) (st := []) (fun r hr => ct_L_commitOffsets r hr) (fun r hr => run_S (st := []) (by decide +kernel) co_L_law_249 (ct_L_commitOffsets r hr) rfl rfl (Nat.le_of_ble_eq_true rfl)) rfl rfl (fun r1199 => ?_)
  refine XE.go (st_istore (j := 5) (pc' := 2039) (by decide +kernel)  rfl (by decide) rfl rfl) ?_
  refine XE.go (st_aload_n (j := 2) (i := 2) (pc' := 2040) (by decide +kernel) rfl rfl (by decide) rfl) ?_
  refine XE.go (st_aload_n (j := 0) (i := 0) (pc' := 2041) (by decide +kernel) rfl rfl (by decide) rfl) ?_
  refine XE.go (st_iload (j := 4) (pc' := 2043) (by decide +kernel) rfl rfl) ?_
  refine XE.go (st_iconst (n := 1) (pc' := 2044) (by decide +kernel) (w_eq (by decide) (by decide)) rfl) ?_
  refine XE.go (st_iadd (pc' := 2045) (by decide +kernel) rfl) ?_
  refine XE.gdb (fun g1200 => ?_)
  refine XE.go (st_sld (pc' := 2046) (by decide +kernel) rfl g1200.1 g1200.2) ?_
  refine XE.go (st_aload_n (j := 0) (i := 0) (pc' := 2047) (by decide +kernel) rfl rfl (by decide) rfl) ?_
  refine XE.go (st_iload (j := 4) (pc' := 2049) (by decide +kernel) rfl rfl) ?_
  refine XE.go (st_iconst (n := 2) (pc' := 2050) (by decide +kernel) (w_eq (by decide) (by decide)) rfl) ?_
  refine XE.go (st_iadd (pc' := 2051) (by decide +kernel) rfl) ?_
  refine XE.gdb (fun g1201 => ?_)
  refine XE.go (st_sld (pc' := 2052) (by decide +kernel) rfl g1201.1 g1201.2) ?_
  refine XE.asc ?_
  refine XE.cW (pc' := 2055) (st := []) (fun r hr => ct_X11_commitOffsets h5 r hr) (fun r hr => run_V (st := []) (by decide +kernel) co_L_law_251 (ct_X11_commitOffsets h5 r hr) rfl h5 rfl rfl (Nat.le_of_ble_eq_true rfl)) rfl rfl (fun r1202 => ?_)
  refine XE.go (st_istore (j := 6) (pc' := 2057) (by decide +kernel)  rfl (by decide) rfl rfl) ?_
  refine XE.go (st_aload_n (j := 2) (i := 2) (pc' := 2058) (by decide +kernel) rfl rfl (by decide) rfl) ?_
  refine XE.asc ?_
  refine XE.cP (pc' := 2061) (st := []) (fun r hr => ct_X11_thrown h5 r hr) (fun r hr => run_V (st := []) (by decide +kernel) co_L_law_165 (ct_X11_thrown h5 r hr) rfl h5 rfl rfl (Nat.le_of_ble_eq_true rfl)) rfl rfl (fun r1203 => ?_)
  refine XE.go (st_iload (j := 5) (pc' := 2063) (by decide +kernel) rfl rfl) ?_
  refine XE.bite (fun h1204 => ?_) (fun h1205 => ?_)
  · refine XE.go (st_icmp_eq_t (off := 5) (pc' := 2068) (by decide +kernel) (by decide) h1204) ?_
    refine XE.go (st_iload (j := 5) (pc' := 2070) (by decide +kernel) rfl rfl) ?_
    refine XE.bite (fun h1206 => ?_) (fun h1207 => ?_)
    · refine XE.go (st_if_ne_f (off := 15) (pc' := 2073) (by decide +kernel) 2085 (by decide) rfl (not_not_intro h1206)) ?_
      refine XE.go (st_aload_n (j := 3) (i := 3) (pc' := 2074) (by decide +kernel) rfl rfl (by decide) rfl) ?_
      refine XE.go (st_iconst (n := 0) (pc' := 2075) (by decide +kernel) (w_eq (by decide) (by decide)) rfl) ?_
      refine XE.gdb (fun g1208 => ?_)
      refine XE.go (st_ald (k := 15) (tp := 2) (pc' := 2076) (by decide +kernel) rfl ak_15 rfl (by decide) rfl (Or.inr (Or.inr (Or.inl ⟨rfl, rfl⟩))) g1208.1 g1208.2.1 g1208.2.2) ?_
      refine XE.go (st_iload (j := 6) (pc' := 2078) (by decide +kernel) rfl rfl) ?_
      refine XE.go (st_i2l (pc' := 2079) (by decide +kernel) rfl) ?_
      refine XE.go (st_lcmp (pc' := 2080) (by decide +kernel) rfl) ?_
      refine XE.bite (fun h1209 => ?_) (fun h1210 => ?_)
      · refine XE.go (st_if_eq_t (off := 5) (pc' := 2085) (by decide +kernel) (by decide) h1209) ?_
        refine XE.go (st_goto (off := 1263) (pc' := 3348) (by decide +kernel) (by decide)) ?_
        refine XE.go (st_iinc (j := 4) (n := 6) (pc' := 3351) (by decide +kernel) rfl rfl (by decide) rfl rfl) ?_
        refine XE.go (st_goto (off := (-3328)) (pc' := 23) (by decide +kernel) (by decide)) ?_
        exact XE.pick [3, 4, 5, 6, 0] rfl (hc760 ((w (s9.1 + 6)), r1202.2))
      · refine XE.go (st_if_eq_f (off := 5) (pc' := 2083) (by decide +kernel) 2085 (by decide) rfl h1210) ?_
        refine XE.go (st_iconst (n := 0) (pc' := 2084) (by decide +kernel) (w_eq (by decide) (by decide)) rfl) ?_
        refine XE.cast (hx762 _) ?_
        exact XE.rt rfl (X_zret (by decide +kernel) rfl (by decide))
    · refine XE.go (st_if_ne_t (off := 15) (pc' := 2085) (by decide +kernel) (by decide) h1207) ?_
      refine XE.go (st_goto (off := 1263) (pc' := 3348) (by decide +kernel) (by decide)) ?_
      refine XE.go (st_iinc (j := 4) (n := 6) (pc' := 3351) (by decide +kernel) rfl rfl (by decide) rfl rfl) ?_
      refine XE.go (st_goto (off := (-3328)) (pc' := 23) (by decide +kernel) (by decide)) ?_
      exact XE.pick [3, 4, 5, 6, 0] rfl (hc760 ((w (s9.1 + 6)), r1202.2))
  · refine XE.go (st_icmp_eq_f (off := 5) (pc' := 2066) (by decide +kernel) 2068 (by decide) rfl h1205) ?_
    refine XE.go (st_iconst (n := 0) (pc' := 2067) (by decide +kernel) (w_eq (by decide) (by decide)) rfl) ?_
    refine XE.cast (hx762 _) ?_
    exact XE.rt rfl (X_zret (by decide +kernel) rfl (by decide))

set_option maxRecDepth 100000 in
set_option maxHeartbeats 4000000 in
theorem cx_L_27 {D : Dt} {kp : Nat} {kk763 : (Int × Mm) ⊕ ((Int × Mm) ⊕ Mm) → Option (Int × Mm)} (hx762 : ∀ y : Int × Mm, kk763 (.inr (.inl y)) = some y) (hc760 : ∀ s9 : Int × Mm, XE D kp mu_L_law (EW 0) 23 [(0, (100, (-1))), (1, (14, 11000)), (2, (15, 12000)), (3, (18, 15000)), (4, (0, s9.1))] [] s9.2 (kk763 (.inl s9))) (s9 : Int × Mm) : XE D (kp + 1) mu_L_law (EW 0) 2088 [(0, (100, (-1))), (1, (14, 11000)), (2, (15, 12000)), (3, (18, 15000)), (4, (0, s9.1))] [] s9.2 ((c_L_27 s9 (D.2.2.2.2.2.1 : Int) (fun i : Int => (D.2.2.2.2.2.2 i.toNat).toInt)).bind kk763) := by
  have h2 : (11000 : Int) ≠ 0 := by decide
  have h5 : (12000 : Int) ≠ 0 := by decide
  have h8 : (15000 : Int) ≠ 0 := by decide
  unfold c_L_27
  refine XE.go (st_aload_n (j := 1) (i := 1) (pc' := 2089) (by decide +kernel) rfl rfl (by decide) rfl) ?_
  refine XE.go (st_aload_n (j := 0) (i := 0) (pc' := 2090) (by decide +kernel) rfl rfl (by decide) rfl) ?_
  refine XE.go (st_iload (j := 4) (pc' := 2092) (by decide +kernel) rfl rfl) ?_
  refine XE.go (st_iconst (n := 1) (pc' := 2093) (by decide +kernel) (w_eq (by decide) (by decide)) rfl) ?_
  refine XE.go (st_iadd (pc' := 2094) (by decide +kernel) rfl) ?_
  refine XE.gdb (fun g1213 => ?_)
  refine XE.go (st_sld (pc' := 2095) (by decide +kernel) rfl g1213.1 g1213.2) ?_
  refine XE.go (st_aload_n (j := 0) (i := 0) (pc' := 2096) (by decide +kernel) rfl rfl (by decide) rfl) ?_
  refine XE.go (st_iload (j := 4) (pc' := 2098) (by decide +kernel) rfl rfl) ?_
  refine XE.go (st_iconst (n := 2) (pc' := 2099) (by decide +kernel) (w_eq (by decide) (by decide)) rfl) ?_
  refine XE.go (st_iadd (pc' := 2100) (by decide +kernel) rfl) ?_
  refine XE.gdb (fun g1214 => ?_)
  refine XE.go (st_sld (pc' := 2101) (by decide +kernel) rfl g1214.1 g1214.2) ?_
  refine XE.go (st_aload_n (j := 0) (i := 0) (pc' := 2102) (by decide +kernel) rfl rfl (by decide) rfl) ?_
  refine XE.go (st_iload (j := 4) (pc' := 2104) (by decide +kernel) rfl rfl) ?_
  refine XE.go (st_iconst (n := 3) (pc' := 2105) (by decide +kernel) (w_eq (by decide) (by decide)) rfl) ?_
  refine XE.go (st_iadd (pc' := 2106) (by decide +kernel) rfl) ?_
  refine XE.gdb (fun g1215 => ?_)
  refine XE.go (st_sld (pc' := 2107) (by decide +kernel) rfl g1215.1 g1215.2) ?_
  refine XE.go (st_aload_n (j := 3) (i := 3) (pc' := 2108) (by decide +kernel) rfl rfl (by decide) rfl) ?_
  refine XE.asc ?_
  refine XE.cW1 (pc' := 2111) (st := []) (fun r hr => ct_L_seek r hr) (fun r hr => run_S (st := []) (by decide +kernel) co_L_law_252 (ct_L_seek r hr) rfl rfl (Nat.le_of_ble_eq_true rfl)) rfl rfl (fun r1216 => ?_)
  refine XE.go (st_istore (j := 5) (pc' := 2113) (by decide +kernel)  rfl (by decide) rfl rfl) ?_
  refine XE.go (st_aload_n (j := 2) (i := 2) (pc' := 2114) (by decide +kernel) rfl rfl (by decide) rfl) ?_
  refine XE.go (st_aload_n (j := 0) (i := 0) (pc' := 2115) (by decide +kernel) rfl rfl (by decide) rfl) ?_
  refine XE.go (st_iload (j := 4) (pc' := 2117) (by decide +kernel) rfl rfl) ?_
  refine XE.go (st_iconst (n := 1) (pc' := 2118) (by decide +kernel) (w_eq (by decide) (by decide)) rfl) ?_
  refine XE.go (st_iadd (pc' := 2119) (by decide +kernel) rfl) ?_
  refine XE.gdb (fun g1217 => ?_)
  refine XE.go (st_sld (pc' := 2120) (by decide +kernel) rfl g1217.1 g1217.2) ?_
  refine XE.go (st_aload_n (j := 0) (i := 0) (pc' := 2121) (by decide +kernel) rfl rfl (by decide) rfl) ?_
  refine XE.go (st_iload (j := 4) (pc' := 2123) (by decide +kernel) rfl rfl) ?_
  refine XE.go (st_iconst (n := 2) (pc' := 2124) (by decide +kernel) (w_eq (by decide) (by decide)) rfl) ?_
  refine XE.go (st_iadd (pc' := 2125) (by decide +kernel) rfl) ?_
  refine XE.gdb (fun g1218 => ?_)
  refine XE.go (st_sld (pc' := 2126) (by decide +kernel) rfl g1218.1 g1218.2) ?_
  refine XE.go (st_aload_n (j := 0) (i := 0) (pc' := 2127) (by decide +kernel) rfl rfl (by decide) rfl) ?_
  refine XE.go (st_iload (j := 4) (pc' := 2129) (by decide +kernel) rfl rfl) ?_
  refine XE.go (st_iconst (n := 3) (pc' := 2130) (by decide +kernel) (w_eq (by decide) (by decide)) rfl) ?_
  refine XE.go (st_iadd (pc' := 2131) (by decide +kernel) rfl) ?_
  refine XE.gdb (fun g1219 => ?_)
  refine XE.go (st_sld (pc' := 2132) (by decide +kernel) rfl g1219.1 g1219.2) ?_
  refine XE.asc ?_
  refine XE.cW (pc' := 2135) (st := []) (fun r hr => ct_X11_seek h5 r hr) (fun r hr => run_V (st := []) (by decide +kernel) co_L_law_254 (ct_X11_seek h5 r hr) rfl h5 rfl rfl (Nat.le_of_ble_eq_true rfl)) rfl rfl (fun r1220 => ?_)
  refine XE.go (st_istore (j := 6) (pc' := 2137) (by decide +kernel)  rfl (by decide) rfl rfl) ?_
  refine XE.go (st_aload_n (j := 2) (i := 2) (pc' := 2138) (by decide +kernel) rfl rfl (by decide) rfl) ?_
  refine XE.asc ?_
  refine XE.cP (pc' := 2141) (st := []) (fun r hr => ct_X11_thrown h5 r hr) (fun r hr => run_V (st := []) (by decide +kernel) co_L_law_165 (ct_X11_thrown h5 r hr) rfl h5 rfl rfl (Nat.le_of_ble_eq_true rfl)) rfl rfl (fun r1221 => ?_)
  refine XE.go (st_iload (j := 5) (pc' := 2143) (by decide +kernel) rfl rfl) ?_
  refine XE.bite (fun h1222 => ?_) (fun h1223 => ?_)
  · refine XE.go (st_icmp_eq_t (off := 5) (pc' := 2148) (by decide +kernel) (by decide) h1222) ?_
    refine XE.go (st_iload (j := 5) (pc' := 2150) (by decide +kernel) rfl rfl) ?_
    refine XE.bite (fun h1224 => ?_) (fun h1225 => ?_)
    · refine XE.go (st_if_ne_f (off := 15) (pc' := 2153) (by decide +kernel) 2165 (by decide) rfl (not_not_intro h1224)) ?_
      refine XE.go (st_aload_n (j := 3) (i := 3) (pc' := 2154) (by decide +kernel) rfl rfl (by decide) rfl) ?_
      refine XE.go (st_iconst (n := 0) (pc' := 2155) (by decide +kernel) (w_eq (by decide) (by decide)) rfl) ?_
      refine XE.gdb (fun g1226 => ?_)
      refine XE.go (st_ald (k := 15) (tp := 2) (pc' := 2156) (by decide +kernel) rfl ak_15 rfl (by decide) rfl (Or.inr (Or.inr (Or.inl ⟨rfl, rfl⟩))) g1226.1 g1226.2.1 g1226.2.2) ?_
      refine XE.go (st_iload (j := 6) (pc' := 2158) (by decide +kernel) rfl rfl) ?_
      refine XE.go (st_i2l (pc' := 2159) (by decide +kernel) rfl) ?_
      refine XE.go (st_lcmp (pc' := 2160) (by decide +kernel) rfl) ?_
      refine XE.bite (fun h1227 => ?_) (fun h1228 => ?_)
      · refine XE.go (st_if_eq_t (off := 5) (pc' := 2165) (by decide +kernel) (by decide) h1227) ?_
        refine XE.go (st_goto (off := 1183) (pc' := 3348) (by decide +kernel) (by decide)) ?_
        refine XE.go (st_iinc (j := 4) (n := 6) (pc' := 3351) (by decide +kernel) rfl rfl (by decide) rfl rfl) ?_
        refine XE.go (st_goto (off := (-3328)) (pc' := 23) (by decide +kernel) (by decide)) ?_
        exact XE.pick [3, 4, 5, 6, 0] rfl (hc760 ((w (s9.1 + 6)), r1220.2))
      · refine XE.go (st_if_eq_f (off := 5) (pc' := 2163) (by decide +kernel) 2165 (by decide) rfl h1228) ?_
        refine XE.go (st_iconst (n := 0) (pc' := 2164) (by decide +kernel) (w_eq (by decide) (by decide)) rfl) ?_
        refine XE.cast (hx762 _) ?_
        exact XE.rt rfl (X_zret (by decide +kernel) rfl (by decide))
    · refine XE.go (st_if_ne_t (off := 15) (pc' := 2165) (by decide +kernel) (by decide) h1225) ?_
      refine XE.go (st_goto (off := 1183) (pc' := 3348) (by decide +kernel) (by decide)) ?_
      refine XE.go (st_iinc (j := 4) (n := 6) (pc' := 3351) (by decide +kernel) rfl rfl (by decide) rfl rfl) ?_
      refine XE.go (st_goto (off := (-3328)) (pc' := 23) (by decide +kernel) (by decide)) ?_
      exact XE.pick [3, 4, 5, 6, 0] rfl (hc760 ((w (s9.1 + 6)), r1220.2))
  · refine XE.go (st_icmp_eq_f (off := 5) (pc' := 2146) (by decide +kernel) 2148 (by decide) rfl h1223) ?_
    refine XE.go (st_iconst (n := 0) (pc' := 2147) (by decide +kernel) (w_eq (by decide) (by decide)) rfl) ?_
    refine XE.cast (hx762 _) ?_
    exact XE.rt rfl (X_zret (by decide +kernel) rfl (by decide))

set_option maxRecDepth 100000 in
set_option maxHeartbeats 4000000 in
theorem cx_L_28 {D : Dt} {kp : Nat} {kk763 : (Int × Mm) ⊕ ((Int × Mm) ⊕ Mm) → Option (Int × Mm)} (hx762 : ∀ y : Int × Mm, kk763 (.inr (.inl y)) = some y) (hc760 : ∀ s9 : Int × Mm, XE D kp mu_L_law (EW 0) 23 [(0, (100, (-1))), (1, (14, 11000)), (2, (15, 12000)), (3, (18, 15000)), (4, (0, s9.1))] [] s9.2 (kk763 (.inl s9))) (s9 : Int × Mm) : XE D (kp + 1) mu_L_law (EW 0) 2168 [(0, (100, (-1))), (1, (14, 11000)), (2, (15, 12000)), (3, (18, 15000)), (4, (0, s9.1))] [] s9.2 ((c_L_28 s9 (D.2.2.2.2.2.1 : Int) (fun i : Int => (D.2.2.2.2.2.2 i.toNat).toInt)).bind kk763) := by
  have h2 : (11000 : Int) ≠ 0 := by decide
  have h5 : (12000 : Int) ≠ 0 := by decide
  have h8 : (15000 : Int) ≠ 0 := by decide
  unfold c_L_28
  refine XE.go (st_aload_n (j := 1) (i := 1) (pc' := 2169) (by decide +kernel) rfl rfl (by decide) rfl) ?_
  refine XE.go (st_aload_n (j := 0) (i := 0) (pc' := 2170) (by decide +kernel) rfl rfl (by decide) rfl) ?_
  refine XE.go (st_iload (j := 4) (pc' := 2172) (by decide +kernel) rfl rfl) ?_
  refine XE.go (st_iconst (n := 1) (pc' := 2173) (by decide +kernel) (w_eq (by decide) (by decide)) rfl) ?_
  refine XE.go (st_iadd (pc' := 2174) (by decide +kernel) rfl) ?_
  refine XE.gdb (fun g1231 => ?_)
  refine XE.go (st_sld (pc' := 2175) (by decide +kernel) rfl g1231.1 g1231.2) ?_
  refine XE.go (st_aload_n (j := 0) (i := 0) (pc' := 2176) (by decide +kernel) rfl rfl (by decide) rfl) ?_
  refine XE.go (st_iload (j := 4) (pc' := 2178) (by decide +kernel) rfl rfl) ?_
  refine XE.go (st_iconst (n := 2) (pc' := 2179) (by decide +kernel) (w_eq (by decide) (by decide)) rfl) ?_
  refine XE.go (st_iadd (pc' := 2180) (by decide +kernel) rfl) ?_
  refine XE.gdb (fun g1232 => ?_)
  refine XE.go (st_sld (pc' := 2181) (by decide +kernel) rfl g1232.1 g1232.2) ?_
  refine XE.go (st_aload_n (j := 3) (i := 3) (pc' := 2182) (by decide +kernel) rfl rfl (by decide) rfl) ?_
  refine XE.asc ?_
  refine XE.cW1 (pc' := 2185) (st := []) (fun r hr => ct_L_message r hr) (fun r hr => run_S (st := []) (by decide +kernel) co_L_law_255 (ct_L_message r hr) rfl rfl (Nat.le_of_ble_eq_true rfl)) rfl rfl (fun r1233 => ?_)
  refine XE.go (st_istore (j := 5) (pc' := 2187) (by decide +kernel)  rfl (by decide) rfl rfl) ?_
  refine XE.go (st_aload_n (j := 2) (i := 2) (pc' := 2188) (by decide +kernel) rfl rfl (by decide) rfl) ?_
  refine XE.go (st_aload_n (j := 0) (i := 0) (pc' := 2189) (by decide +kernel) rfl rfl (by decide) rfl) ?_
  refine XE.go (st_iload (j := 4) (pc' := 2191) (by decide +kernel) rfl rfl) ?_
  refine XE.go (st_iconst (n := 1) (pc' := 2192) (by decide +kernel) (w_eq (by decide) (by decide)) rfl) ?_
  refine XE.go (st_iadd (pc' := 2193) (by decide +kernel) rfl) ?_
  refine XE.gdb (fun g1234 => ?_)
  refine XE.go (st_sld (pc' := 2194) (by decide +kernel) rfl g1234.1 g1234.2) ?_
  refine XE.go (st_aload_n (j := 0) (i := 0) (pc' := 2195) (by decide +kernel) rfl rfl (by decide) rfl) ?_
  refine XE.go (st_iload (j := 4) (pc' := 2197) (by decide +kernel) rfl rfl) ?_
  refine XE.go (st_iconst (n := 2) (pc' := 2198) (by decide +kernel) (w_eq (by decide) (by decide)) rfl) ?_
  refine XE.go (st_iadd (pc' := 2199) (by decide +kernel) rfl) ?_
  refine XE.gdb (fun g1235 => ?_)
  refine XE.go (st_sld (pc' := 2200) (by decide +kernel) rfl g1235.1 g1235.2) ?_
  refine XE.asc ?_
  refine XE.cW (pc' := 2203) (st := []) (fun r hr => ct_X11_message h5 r hr) (fun r hr => run_V (st := []) (by decide +kernel) co_L_law_257 (ct_X11_message h5 r hr) rfl h5 rfl rfl (Nat.le_of_ble_eq_true rfl)) rfl rfl (fun r1236 => ?_)
  refine XE.go (st_istore (j := 6) (pc' := 2205) (by decide +kernel)  rfl (by decide) rfl rfl) ?_
  refine XE.go (st_aload_n (j := 2) (i := 2) (pc' := 2206) (by decide +kernel) rfl rfl (by decide) rfl) ?_
  refine XE.asc ?_
  refine XE.cP (pc' := 2209) (st := []) (fun r hr => ct_X11_thrown h5 r hr) (fun r hr => run_V (st := []) (by decide +kernel) co_L_law_165 (ct_X11_thrown h5 r hr) rfl h5 rfl rfl (Nat.le_of_ble_eq_true rfl)) rfl rfl (fun r1237 => ?_)
  refine XE.go (st_iload (j := 5) (pc' := 2211) (by decide +kernel) rfl rfl) ?_
  refine XE.bite (fun h1238 => ?_) (fun h1239 => ?_)
  · refine XE.go (st_icmp_eq_t (off := 5) (pc' := 2216) (by decide +kernel) (by decide) h1238) ?_
    refine XE.go (st_iload (j := 5) (pc' := 2218) (by decide +kernel) rfl rfl) ?_
    refine XE.bite (fun h1240 => ?_) (fun h1241 => ?_)
    · refine XE.go (st_if_ne_f (off := 15) (pc' := 2221) (by decide +kernel) 2233 (by decide) rfl (not_not_intro h1240)) ?_
      refine XE.go (st_aload_n (j := 3) (i := 3) (pc' := 2222) (by decide +kernel) rfl rfl (by decide) rfl) ?_
      refine XE.go (st_iconst (n := 0) (pc' := 2223) (by decide +kernel) (w_eq (by decide) (by decide)) rfl) ?_
      refine XE.gdb (fun g1242 => ?_)
      refine XE.go (st_ald (k := 15) (tp := 2) (pc' := 2224) (by decide +kernel) rfl ak_15 rfl (by decide) rfl (Or.inr (Or.inr (Or.inl ⟨rfl, rfl⟩))) g1242.1 g1242.2.1 g1242.2.2) ?_
      refine XE.go (st_iload (j := 6) (pc' := 2226) (by decide +kernel) rfl rfl) ?_
      refine XE.go (st_i2l (pc' := 2227) (by decide +kernel) rfl) ?_
      refine XE.go (st_lcmp (pc' := 2228) (by decide +kernel) rfl) ?_
      refine XE.bite (fun h1243 => ?_) (fun h1244 => ?_)
      · refine XE.go (st_if_eq_t (off := 5) (pc' := 2233) (by decide +kernel) (by decide) h1243) ?_
        refine XE.go (st_goto (off := 1115) (pc' := 3348) (by decide +kernel) (by decide)) ?_
        refine XE.go (st_iinc (j := 4) (n := 6) (pc' := 3351) (by decide +kernel) rfl rfl (by decide) rfl rfl) ?_
        refine XE.go (st_goto (off := (-3328)) (pc' := 23) (by decide +kernel) (by decide)) ?_
        exact XE.pick [3, 4, 5, 6, 0] rfl (hc760 ((w (s9.1 + 6)), r1236.2))
      · refine XE.go (st_if_eq_f (off := 5) (pc' := 2231) (by decide +kernel) 2233 (by decide) rfl h1244) ?_
        refine XE.go (st_iconst (n := 0) (pc' := 2232) (by decide +kernel) (w_eq (by decide) (by decide)) rfl) ?_
        refine XE.cast (hx762 _) ?_
        exact XE.rt rfl (X_zret (by decide +kernel) rfl (by decide))
    · refine XE.go (st_if_ne_t (off := 15) (pc' := 2233) (by decide +kernel) (by decide) h1241) ?_
      refine XE.go (st_goto (off := 1115) (pc' := 3348) (by decide +kernel) (by decide)) ?_
      refine XE.go (st_iinc (j := 4) (n := 6) (pc' := 3351) (by decide +kernel) rfl rfl (by decide) rfl rfl) ?_
      refine XE.go (st_goto (off := (-3328)) (pc' := 23) (by decide +kernel) (by decide)) ?_
      exact XE.pick [3, 4, 5, 6, 0] rfl (hc760 ((w (s9.1 + 6)), r1236.2))
  · refine XE.go (st_icmp_eq_f (off := 5) (pc' := 2214) (by decide +kernel) 2216 (by decide) rfl h1239) ?_
    refine XE.go (st_iconst (n := 0) (pc' := 2215) (by decide +kernel) (w_eq (by decide) (by decide)) rfl) ?_
    refine XE.cast (hx762 _) ?_
    exact XE.rt rfl (X_zret (by decide +kernel) rfl (by decide))

set_option maxRecDepth 100000 in
set_option maxHeartbeats 4000000 in
theorem cx_L_29 {D : Dt} {kp : Nat} {kk763 : (Int × Mm) ⊕ ((Int × Mm) ⊕ Mm) → Option (Int × Mm)} (hx762 : ∀ y : Int × Mm, kk763 (.inr (.inl y)) = some y) (hc760 : ∀ s9 : Int × Mm, XE D kp mu_L_law (EW 0) 23 [(0, (100, (-1))), (1, (14, 11000)), (2, (15, 12000)), (3, (18, 15000)), (4, (0, s9.1))] [] s9.2 (kk763 (.inl s9))) (s9 : Int × Mm) : XE D (kp + 1) mu_L_law (EW 0) 2236 [(0, (100, (-1))), (1, (14, 11000)), (2, (15, 12000)), (3, (18, 15000)), (4, (0, s9.1))] [] s9.2 ((c_L_29 s9 (D.2.2.2.2.2.1 : Int) (fun i : Int => (D.2.2.2.2.2.2 i.toNat).toInt)).bind kk763) := by
  have h2 : (11000 : Int) ≠ 0 := by decide
  have h5 : (12000 : Int) ≠ 0 := by decide
  have h8 : (15000 : Int) ≠ 0 := by decide
  unfold c_L_29
  refine XE.go (st_aload_n (j := 1) (i := 1) (pc' := 2237) (by decide +kernel) rfl rfl (by decide) rfl) ?_
  refine XE.go (st_aload_n (j := 0) (i := 0) (pc' := 2238) (by decide +kernel) rfl rfl (by decide) rfl) ?_
  refine XE.go (st_iload (j := 4) (pc' := 2240) (by decide +kernel) rfl rfl) ?_
  refine XE.go (st_iconst (n := 1) (pc' := 2241) (by decide +kernel) (w_eq (by decide) (by decide)) rfl) ?_
  refine XE.go (st_iadd (pc' := 2242) (by decide +kernel) rfl) ?_
  refine XE.gdb (fun g1247 => ?_)
  refine XE.go (st_sld (pc' := 2243) (by decide +kernel) rfl g1247.1 g1247.2) ?_
  refine XE.go (st_aload_n (j := 0) (i := 0) (pc' := 2244) (by decide +kernel) rfl rfl (by decide) rfl) ?_
  refine XE.go (st_iload (j := 4) (pc' := 2246) (by decide +kernel) rfl rfl) ?_
  refine XE.go (st_iconst (n := 2) (pc' := 2247) (by decide +kernel) (w_eq (by decide) (by decide)) rfl) ?_
  refine XE.go (st_iadd (pc' := 2248) (by decide +kernel) rfl) ?_
  refine XE.gdb (fun g1248 => ?_)
  refine XE.go (st_sld (pc' := 2249) (by decide +kernel) rfl g1248.1 g1248.2) ?_
  refine XE.go (st_aload_n (j := 3) (i := 3) (pc' := 2250) (by decide +kernel) rfl rfl (by decide) rfl) ?_
  refine XE.asc ?_
  refine XE.cW1 (pc' := 2253) (st := []) (fun r hr => ct_L_at r hr) (fun r hr => run_S (st := []) (by decide +kernel) co_L_law_258 (ct_L_at r hr) rfl rfl (Nat.le_of_ble_eq_true rfl)) rfl rfl (fun r1249 => ?_)
  refine XE.go (st_istore (j := 5) (pc' := 2255) (by decide +kernel)  rfl (by decide) rfl rfl) ?_
  refine XE.go (st_aload_n (j := 2) (i := 2) (pc' := 2256) (by decide +kernel) rfl rfl (by decide) rfl) ?_
  refine XE.go (st_aload_n (j := 0) (i := 0) (pc' := 2257) (by decide +kernel) rfl rfl (by decide) rfl) ?_
  refine XE.go (st_iload (j := 4) (pc' := 2259) (by decide +kernel) rfl rfl) ?_
  refine XE.go (st_iconst (n := 1) (pc' := 2260) (by decide +kernel) (w_eq (by decide) (by decide)) rfl) ?_
  refine XE.go (st_iadd (pc' := 2261) (by decide +kernel) rfl) ?_
  refine XE.gdb (fun g1250 => ?_)
  refine XE.go (st_sld (pc' := 2262) (by decide +kernel) rfl g1250.1 g1250.2) ?_
  refine XE.go (st_aload_n (j := 0) (i := 0) (pc' := 2263) (by decide +kernel) rfl rfl (by decide) rfl) ?_
  refine XE.go (st_iload (j := 4) (pc' := 2265) (by decide +kernel) rfl rfl) ?_
  refine XE.go (st_iconst (n := 2) (pc' := 2266) (by decide +kernel) (w_eq (by decide) (by decide)) rfl) ?_
  refine XE.go (st_iadd (pc' := 2267) (by decide +kernel) rfl) ?_
  refine XE.gdb (fun g1251 => ?_)
  refine XE.go (st_sld (pc' := 2268) (by decide +kernel) rfl g1251.1 g1251.2) ?_
  refine XE.asc ?_
  refine XE.cW (pc' := 2271) (st := []) (fun r hr => ct_X11_at h5 r hr) (fun r hr => run_V (st := []) (by decide +kernel) co_L_law_260 (ct_X11_at h5 r hr) rfl h5 rfl rfl (Nat.le_of_ble_eq_true rfl)) rfl rfl (fun r1252 => ?_)
  refine XE.go (st_istore (j := 6) (pc' := 2273) (by decide +kernel)  rfl (by decide) rfl rfl) ?_
  refine XE.go (st_aload_n (j := 2) (i := 2) (pc' := 2274) (by decide +kernel) rfl rfl (by decide) rfl) ?_
  refine XE.asc ?_
  refine XE.cP (pc' := 2277) (st := []) (fun r hr => ct_X11_thrown h5 r hr) (fun r hr => run_V (st := []) (by decide +kernel) co_L_law_165 (ct_X11_thrown h5 r hr) rfl h5 rfl rfl (Nat.le_of_ble_eq_true rfl)) rfl rfl (fun r1253 => ?_)
  refine XE.go (st_iload (j := 5) (pc' := 2279) (by decide +kernel) rfl rfl) ?_
  refine XE.bite (fun h1254 => ?_) (fun h1255 => ?_)
  · refine XE.go (st_icmp_eq_t (off := 5) (pc' := 2284) (by decide +kernel) (by decide) h1254) ?_
    refine XE.go (st_iload (j := 5) (pc' := 2286) (by decide +kernel) rfl rfl) ?_
    refine XE.bite (fun h1256 => ?_) (fun h1257 => ?_)
    · refine XE.go (st_if_ne_f (off := 15) (pc' := 2289) (by decide +kernel) 2301 (by decide) rfl (not_not_intro h1256)) ?_
      refine XE.go (st_aload_n (j := 3) (i := 3) (pc' := 2290) (by decide +kernel) rfl rfl (by decide) rfl) ?_
      refine XE.go (st_iconst (n := 0) (pc' := 2291) (by decide +kernel) (w_eq (by decide) (by decide)) rfl) ?_
      refine XE.gdb (fun g1258 => ?_)
      refine XE.go (st_ald (k := 15) (tp := 2) (pc' := 2292) (by decide +kernel) rfl ak_15 rfl (by decide) rfl (Or.inr (Or.inr (Or.inl ⟨rfl, rfl⟩))) g1258.1 g1258.2.1 g1258.2.2) ?_
      refine XE.go (st_iload (j := 6) (pc' := 2294) (by decide +kernel) rfl rfl) ?_
      refine XE.go (st_i2l (pc' := 2295) (by decide +kernel) rfl) ?_
      refine XE.go (st_lcmp (pc' := 2296) (by decide +kernel) rfl) ?_
      refine XE.bite (fun h1259 => ?_) (fun h1260 => ?_)
      · refine XE.go (st_if_eq_t (off := 5) (pc' := 2301) (by decide +kernel) (by decide) h1259) ?_
        refine XE.go (st_goto (off := 1047) (pc' := 3348) (by decide +kernel) (by decide)) ?_
        refine XE.go (st_iinc (j := 4) (n := 6) (pc' := 3351) (by decide +kernel) rfl rfl (by decide) rfl rfl) ?_
        refine XE.go (st_goto (off := (-3328)) (pc' := 23) (by decide +kernel) (by decide)) ?_
        exact XE.pick [3, 4, 5, 6, 0] rfl (hc760 ((w (s9.1 + 6)), r1252.2))
      · refine XE.go (st_if_eq_f (off := 5) (pc' := 2299) (by decide +kernel) 2301 (by decide) rfl h1260) ?_
        refine XE.go (st_iconst (n := 0) (pc' := 2300) (by decide +kernel) (w_eq (by decide) (by decide)) rfl) ?_
        refine XE.cast (hx762 _) ?_
        exact XE.rt rfl (X_zret (by decide +kernel) rfl (by decide))
    · refine XE.go (st_if_ne_t (off := 15) (pc' := 2301) (by decide +kernel) (by decide) h1257) ?_
      refine XE.go (st_goto (off := 1047) (pc' := 3348) (by decide +kernel) (by decide)) ?_
      refine XE.go (st_iinc (j := 4) (n := 6) (pc' := 3351) (by decide +kernel) rfl rfl (by decide) rfl rfl) ?_
      refine XE.go (st_goto (off := (-3328)) (pc' := 23) (by decide +kernel) (by decide)) ?_
      exact XE.pick [3, 4, 5, 6, 0] rfl (hc760 ((w (s9.1 + 6)), r1252.2))
  · refine XE.go (st_icmp_eq_f (off := 5) (pc' := 2282) (by decide +kernel) 2284 (by decide) rfl h1255) ?_
    refine XE.go (st_iconst (n := 0) (pc' := 2283) (by decide +kernel) (w_eq (by decide) (by decide)) rfl) ?_
    refine XE.cast (hx762 _) ?_
    exact XE.rt rfl (X_zret (by decide +kernel) rfl (by decide))

