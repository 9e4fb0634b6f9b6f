/-! THE LAW, arms of its switch, 2 (by program: walk.py, split_law.py) -/
set_option maxRecDepth 100000 in
set_option maxHeartbeats 4000000 in
theorem cx_L_30 {D : Dt} {kp : Nat} {kk763 : (Int × Mm) ⊕ ((Int × Mm) ⊕ Mm) → Option (Int × Mm)} (hx762 : ∀ y : Int × Mm, kk763 (.inr (.inl y)) = some y) (hc760 : ∀ s9 : Int × Mm, XE D kp mu_L_law (EW 0) 23 [(0, (100, (-1))), (1, (14, 11000)), (2, (15, 12000)), (3, (18, 15000)), (4, (0, s9.1))] [] s9.2 (kk763 (.inl s9))) (s9 : Int × Mm) : XE D (kp + 1) mu_L_law (EW 0) 2304 [(0, (100, (-1))), (1, (14, 11000)), (2, (15, 12000)), (3, (18, 15000)), (4, (0, s9.1))] [] s9.2 ((c_L_30 s9 (D.2.2.2.2.2.1 : Int) (fun i : Int => (D.2.2.2.2.2.2 i.toNat).toInt)).bind kk763) := by
  have h2 : (11000 : Int) ≠ 0 := by decide
  have h5 : (12000 : Int) ≠ 0 := by decide
  have h8 : (15000 : Int) ≠ 0 := by decide
  unfold c_L_30
  refine XE.go (st_aload_n (j := 1) (i := 1) (pc' := 2305) (by decide +kernel) rfl rfl (by decide) rfl) ?_
  refine XE.go (st_aload_n (j := 0) (i := 0) (pc' := 2306) (by decide +kernel) rfl rfl (by decide) rfl) ?_
  refine XE.go (st_iload (j := 4) (pc' := 2308) (by decide +kernel) rfl rfl) ?_
  refine XE.go (st_iconst (n := 1) (pc' := 2309) (by decide +kernel) (w_eq (by decide) (by decide)) rfl) ?_
  refine XE.go (st_iadd (pc' := 2310) (by decide +kernel) rfl) ?_
  refine XE.gdb (fun g1263 => ?_)
  refine XE.go (st_sld (pc' := 2311) (by decide +kernel) rfl g1263.1 g1263.2) ?_
  refine XE.go (st_aload_n (j := 0) (i := 0) (pc' := 2312) (by decide +kernel) rfl rfl (by decide) rfl) ?_
  refine XE.go (st_iload (j := 4) (pc' := 2314) (by decide +kernel) rfl rfl) ?_
  refine XE.go (st_iconst (n := 2) (pc' := 2315) (by decide +kernel) (w_eq (by decide) (by decide)) rfl) ?_
  refine XE.go (st_iadd (pc' := 2316) (by decide +kernel) rfl) ?_
  refine XE.gdb (fun g1264 => ?_)
  refine XE.go (st_sld (pc' := 2317) (by decide +kernel) rfl g1264.1 g1264.2) ?_
  refine XE.go (st_aload_n (j := 3) (i := 3) (pc' := 2318) (by decide +kernel) rfl rfl (by decide) rfl) ?_
  refine XE.asc ?_
  refine XE.cW1 (pc' := 2321) (st := []) (fun r hr => ct_L_partition r hr) (fun r hr => run_S (st := []) (by decide +kernel) co_L_law_261 (ct_L_partition r hr) rfl rfl (Nat.le_of_ble_eq_true rfl)) rfl rfl (fun r1265 => ?_)
  refine XE.go (st_istore (j := 5) (pc' := 2323) (by decide +kernel)  rfl (by decide) rfl rfl) ?_
  refine XE.go (st_aload_n (j := 2) (i := 2) (pc' := 2324) (by decide +kernel) rfl rfl (by decide) rfl) ?_
  refine XE.go (st_aload_n (j := 0) (i := 0) (pc' := 2325) (by decide +kernel) rfl rfl (by decide) rfl) ?_
  refine XE.go (st_iload (j := 4) (pc' := 2327) (by decide +kernel) rfl rfl) ?_
  refine XE.go (st_iconst (n := 1) (pc' := 2328) (by decide +kernel) (w_eq (by decide) (by decide)) rfl) ?_
  refine XE.go (st_iadd (pc' := 2329) (by decide +kernel) rfl) ?_
  refine XE.gdb (fun g1266 => ?_)
  refine XE.go (st_sld (pc' := 2330) (by decide +kernel) rfl g1266.1 g1266.2) ?_
  refine XE.go (st_aload_n (j := 0) (i := 0) (pc' := 2331) (by decide +kernel) rfl rfl (by decide) rfl) ?_
  refine XE.go (st_iload (j := 4) (pc' := 2333) (by decide +kernel) rfl rfl) ?_
  refine XE.go (st_iconst (n := 2) (pc' := 2334) (by decide +kernel) (w_eq (by decide) (by decide)) rfl) ?_
  refine XE.go (st_iadd (pc' := 2335) (by decide +kernel) rfl) ?_
  refine XE.gdb (fun g1267 => ?_)
  refine XE.go (st_sld (pc' := 2336) (by decide +kernel) rfl g1267.1 g1267.2) ?_
  refine XE.asc ?_
  refine XE.cW (pc' := 2339) (st := []) (fun r hr => ct_X11_partition h5 r hr) (fun r hr => run_V (st := []) (by decide +kernel) co_L_law_263 (ct_X11_partition h5 r hr) rfl h5 rfl rfl (Nat.le_of_ble_eq_true rfl)) rfl rfl (fun r1268 => ?_)
  refine XE.go (st_istore (j := 6) (pc' := 2341) (by decide +kernel)  rfl (by decide) rfl rfl) ?_
  refine XE.go (st_aload_n (j := 2) (i := 2) (pc' := 2342) (by decide +kernel) rfl rfl (by decide) rfl) ?_
  refine XE.asc ?_
  refine XE.cP (pc' := 2345) (st := []) (fun r hr => ct_X11_thrown h5 r hr) (fun r hr => run_V (st := []) (by decide +kernel) co_L_law_165 (ct_X11_thrown h5 r hr) rfl h5 rfl rfl (Nat.le_of_ble_eq_true rfl)) rfl rfl (fun r1269 => ?_)
  refine XE.go (st_iload (j := 5) (pc' := 2347) (by decide +kernel) rfl rfl) ?_
  refine XE.bite (fun h1270 => ?_) (fun h1271 => ?_)
  · refine XE.go (st_icmp_eq_t (off := 5) (pc' := 2352) (by decide +kernel) (by decide) h1270) ?_
    refine XE.go (st_iload (j := 5) (pc' := 2354) (by decide +kernel) rfl rfl) ?_
    refine XE.bite (fun h1272 => ?_) (fun h1273 => ?_)
    · refine XE.go (st_if_ne_f (off := 15) (pc' := 2357) (by decide +kernel) 2369 (by decide) rfl (not_not_intro h1272)) ?_
      refine XE.go (st_aload_n (j := 3) (i := 3) (pc' := 2358) (by decide +kernel) rfl rfl (by decide) rfl) ?_
      refine XE.go (st_iconst (n := 0) (pc' := 2359) (by decide +kernel) (w_eq (by decide) (by decide)) rfl) ?_
      refine XE.gdb (fun g1274 => ?_)
      refine XE.go (st_ald (k := 15) (tp := 2) (pc' := 2360) (by decide +kernel) rfl ak_15 rfl (by decide) rfl (Or.inr (Or.inr (Or.inl ⟨rfl, rfl⟩))) g1274.1 g1274.2.1 g1274.2.2) ?_
      refine XE.go (st_iload (j := 6) (pc' := 2362) (by decide +kernel) rfl rfl) ?_
      refine XE.go (st_i2l (pc' := 2363) (by decide +kernel) rfl) ?_
      refine XE.go (st_lcmp (pc' := 2364) (by decide +kernel) rfl) ?_
      refine XE.bite (fun h1275 => ?_) (fun h1276 => ?_)
      · refine XE.go (st_if_eq_t (off := 5) (pc' := 2369) (by decide +kernel) (by decide) h1275) ?_
        refine XE.go (st_goto (off := 979) (pc' := 3348) (by decide +kernel) (by decide)) ?_
        refine XE.go (st_iinc (j := 4) (n := 6) (pc' := 3351) (by decide +kernel) rfl rfl (by decide) rfl rfl) ?_
        refine XE.go (st_goto (off := (-3328)) (pc' := 23) (by decide +kernel) (by decide)) ?_
        exact XE.pick [3, 4, 5, 6, 0] rfl (hc760 ((w (s9.1 + 6)), r1268.2))
      · refine XE.go (st_if_eq_f (off := 5) (pc' := 2367) (by decide +kernel) 2369 (by decide) rfl h1276) ?_
        refine XE.go (st_iconst (n := 0) (pc' := 2368) (by decide +kernel) (w_eq (by decide) (by decide)) rfl) ?_
        refine XE.cast (hx762 _) ?_
        exact XE.rt rfl (X_zret (by decide +kernel) rfl (by decide))
    · refine XE.go (st_if_ne_t (off := 15) (pc' := 2369) (by decide +kernel) (by decide) h1273) ?_
      refine XE.go (st_goto (off := 979) (pc' := 3348) (by decide +kernel) (by decide)) ?_
      refine XE.go (st_iinc (j := 4) (n := 6) (pc' := 3351) (by decide +kernel) rfl rfl (by decide) rfl rfl) ?_
      refine XE.go (st_goto (off := (-3328)) (pc' := 23) (by decide +kernel) (by decide)) ?_
      exact XE.pick [3, 4, 5, 6, 0] rfl (hc760 ((w (s9.1 + 6)), r1268.2))
  · refine XE.go (st_icmp_eq_f (off := 5) (pc' := 2350) (by decide +kernel) 2352 (by decide) rfl h1271) ?_
    refine XE.go (st_iconst (n := 0) (pc' := 2351) (by decide +kernel) (w_eq (by decide) (by decide)) rfl) ?_
    refine XE.cast (hx762 _) ?_
    exact XE.rt rfl (X_zret (by decide +kernel) rfl (by decide))

set_option maxRecDepth 100000 in
set_option maxHeartbeats 4000000 in
theorem cx_L_31 {D : Dt} {kp : Nat} {kk763 : (Int × Mm) ⊕ ((Int × Mm) ⊕ Mm) → Option (Int × Mm)} (hx762 : ∀ y : Int × Mm, kk763 (.inr (.inl y)) = some y) (hc760 : ∀ s9 : Int × Mm, XE D kp mu_L_law (EW 0) 23 [(0, (100, (-1))), (1, (14, 11000)), (2, (15, 12000)), (3, (18, 15000)), (4, (0, s9.1))] [] s9.2 (kk763 (.inl s9))) (s9 : Int × Mm) : XE D (kp + 1) mu_L_law (EW 0) 2372 [(0, (100, (-1))), (1, (14, 11000)), (2, (15, 12000)), (3, (18, 15000)), (4, (0, s9.1))] [] s9.2 ((c_L_31 s9 (D.2.2.2.2.2.1 : Int) (fun i : Int => (D.2.2.2.2.2.2 i.toNat).toInt)).bind kk763) := by
  have h2 : (11000 : Int) ≠ 0 := by decide
  have h5 : (12000 : Int) ≠ 0 := by decide
  have h8 : (15000 : Int) ≠ 0 := by decide
  unfold c_L_31
  refine XE.go (st_aload_n (j := 1) (i := 1) (pc' := 2373) (by decide +kernel) rfl rfl (by decide) rfl) ?_
  refine XE.go (st_aload_n (j := 0) (i := 0) (pc' := 2374) (by decide +kernel) rfl rfl (by decide) rfl) ?_
  refine XE.go (st_iload (j := 4) (pc' := 2376) (by decide +kernel) rfl rfl) ?_
  refine XE.go (st_iconst (n := 1) (pc' := 2377) (by decide +kernel) (w_eq (by decide) (by decide)) rfl) ?_
  refine XE.go (st_iadd (pc' := 2378) (by decide +kernel) rfl) ?_
  refine XE.gdb (fun g1279 => ?_)
  refine XE.go (st_sld (pc' := 2379) (by decide +kernel) rfl g1279.1 g1279.2) ?_
  refine XE.go (st_aload_n (j := 0) (i := 0) (pc' := 2380) (by decide +kernel) rfl rfl (by decide) rfl) ?_
  refine XE.go (st_iload (j := 4) (pc' := 2382) (by decide +kernel) rfl rfl) ?_
  refine XE.go (st_iconst (n := 2) (pc' := 2383) (by decide +kernel) (w_eq (by decide) (by decide)) rfl) ?_
  refine XE.go (st_iadd (pc' := 2384) (by decide +kernel) rfl) ?_
  refine XE.gdb (fun g1280 => ?_)
  refine XE.go (st_sld (pc' := 2385) (by decide +kernel) rfl g1280.1 g1280.2) ?_
  refine XE.go (st_aload_n (j := 0) (i := 0) (pc' := 2386) (by decide +kernel) rfl rfl (by decide) rfl) ?_
  refine XE.go (st_iload (j := 4) (pc' := 2388) (by decide +kernel) rfl rfl) ?_
  refine XE.go (st_iconst (n := 3) (pc' := 2389) (by decide +kernel) (w_eq (by decide) (by decide)) rfl) ?_
  refine XE.go (st_iadd (pc' := 2390) (by decide +kernel) rfl) ?_
  refine XE.gdb (fun g1281 => ?_)
  refine XE.go (st_sld (pc' := 2391) (by decide +kernel) rfl g1281.1 g1281.2) ?_
  refine XE.go (st_aload_n (j := 3) (i := 3) (pc' := 2392) (by decide +kernel) rfl rfl (by decide) rfl) ?_
  refine XE.asc ?_
  refine XE.cW1 (pc' := 2395) (st := []) (fun r hr => ct_L_replica r hr) (fun r hr => run_S (st := []) (by decide +kernel) co_L_law_264 (ct_L_replica r hr) rfl rfl (Nat.le_of_ble_eq_true rfl)) rfl rfl (fun r1282 => ?_)
  refine XE.go (st_istore (j := 5) (pc' := 2397) (by decide +kernel)  rfl (by decide) rfl rfl) ?_
  refine XE.go (st_aload_n (j := 2) (i := 2) (pc' := 2398) (by decide +kernel) rfl rfl (by decide) rfl) ?_
  refine XE.go (st_aload_n (j := 0) (i := 0) (pc' := 2399) (by decide +kernel) rfl rfl (by decide) rfl) ?_
  refine XE.go (st_iload (j := 4) (pc' := 2401) (by decide +kernel) rfl rfl) ?_
  refine XE.go (st_iconst (n := 1) (pc' := 2402) (by decide +kernel) (w_eq (by decide) (by decide)) rfl) ?_
  refine XE.go (st_iadd (pc' := 2403) (by decide +kernel) rfl) ?_
  refine XE.gdb (fun g1283 => ?_)
  refine XE.go (st_sld (pc' := 2404) (by decide +kernel) rfl g1283.1 g1283.2) ?_
  refine XE.go (st_aload_n (j := 0) (i := 0) (pc' := 2405) (by decide +kernel) rfl rfl (by decide) rfl) ?_
  refine XE.go (st_iload (j := 4) (pc' := 2407) (by decide +kernel) rfl rfl) ?_
  refine XE.go (st_iconst (n := 2) (pc' := 2408) (by decide +kernel) (w_eq (by decide) (by decide)) rfl) ?_
  refine XE.go (st_iadd (pc' := 2409) (by decide +kernel) rfl) ?_
  refine XE.gdb (fun g1284 => ?_)
  refine XE.go (st_sld (pc' := 2410) (by decide +kernel) rfl g1284.1 g1284.2) ?_
  refine XE.go (st_aload_n (j := 0) (i := 0) (pc' := 2411) (by decide +kernel) rfl rfl (by decide) rfl) ?_
  refine XE.go (st_iload (j := 4) (pc' := 2413) (by decide +kernel) rfl rfl) ?_
  refine XE.go (st_iconst (n := 3) (pc' := 2414) (by decide +kernel) (w_eq (by decide) (by decide)) rfl) ?_
  refine XE.go (st_iadd (pc' := 2415) (by decide +kernel) rfl) ?_
  refine XE.gdb (fun g1285 => ?_)
  refine XE.go (st_sld (pc' := 2416) (by decide +kernel) rfl g1285.1 g1285.2) ?_
  refine XE.asc ?_
  refine XE.cW (pc' := 2419) (st := []) (fun r hr => ct_X11_replica h5 r hr) (fun r hr => run_V (st := []) (by decide +kernel) co_L_law_266 (ct_X11_replica h5 r hr) rfl h5 rfl rfl (Nat.le_of_ble_eq_true rfl)) rfl rfl (fun r1286 => ?_)
  refine XE.go (st_istore (j := 6) (pc' := 2421) (by decide +kernel)  rfl (by decide) rfl rfl) ?_
  refine XE.go (st_aload_n (j := 2) (i := 2) (pc' := 2422) (by decide +kernel) rfl rfl (by decide) rfl) ?_
  refine XE.asc ?_
  refine XE.cP (pc' := 2425) (st := []) (fun r hr => ct_X11_thrown h5 r hr) (fun r hr => run_V (st := []) (by decide +kernel) co_L_law_165 (ct_X11_thrown h5 r hr) rfl h5 rfl rfl (Nat.le_of_ble_eq_true rfl)) rfl rfl (fun r1287 => ?_)
  refine XE.go (st_iload (j := 5) (pc' := 2427) (by decide +kernel) rfl rfl) ?_
  refine XE.bite (fun h1288 => ?_) (fun h1289 => ?_)
  · refine XE.go (st_icmp_eq_t (off := 5) (pc' := 2432) (by decide +kernel) (by decide) h1288) ?_
    refine XE.go (st_iload (j := 5) (pc' := 2434) (by decide +kernel) rfl rfl) ?_
    refine XE.bite (fun h1290 => ?_) (fun h1291 => ?_)
    · refine XE.go (st_if_ne_f (off := 15) (pc' := 2437) (by decide +kernel) 2449 (by decide) rfl (not_not_intro h1290)) ?_
      refine XE.go (st_aload_n (j := 3) (i := 3) (pc' := 2438) (by decide +kernel) rfl rfl (by decide) rfl) ?_
      refine XE.go (st_iconst (n := 0) (pc' := 2439) (by decide +kernel) (w_eq (by decide) (by decide)) rfl) ?_
      refine XE.gdb (fun g1292 => ?_)
      refine XE.go (st_ald (k := 15) (tp := 2) (pc' := 2440) (by decide +kernel) rfl ak_15 rfl (by decide) rfl (Or.inr (Or.inr (Or.inl ⟨rfl, rfl⟩))) g1292.1 g1292.2.1 g1292.2.2) ?_
      refine XE.go (st_iload (j := 6) (pc' := 2442) (by decide +kernel) rfl rfl) ?_
      refine XE.go (st_i2l (pc' := 2443) (by decide +kernel) rfl) ?_
      refine XE.go (st_lcmp (pc' := 2444) (by decide +kernel) rfl) ?_
      refine XE.bite (fun h1293 => ?_) (fun h1294 => ?_)
      · refine XE.go (st_if_eq_t (off := 5) (pc' := 2449) (by decide +kernel) (by decide) h1293) ?_
        refine XE.go (st_goto (off := 899) (pc' := 3348) (by decide +kernel) (by decide)) ?_
        refine XE.go (st_iinc (j := 4) (n := 6) (pc' := 3351) (by decide +kernel) rfl rfl (by decide) rfl rfl) ?_
        refine XE.go (st_goto (off := (-3328)) (pc' := 23) (by decide +kernel) (by decide)) ?_
        exact XE.pick [3, 4, 5, 6, 0] rfl (hc760 ((w (s9.1 + 6)), r1286.2))
      · refine XE.go (st_if_eq_f (off := 5) (pc' := 2447) (by decide +kernel) 2449 (by decide) rfl h1294) ?_
        refine XE.go (st_iconst (n := 0) (pc' := 2448) (by decide +kernel) (w_eq (by decide) (by decide)) rfl) ?_
        refine XE.cast (hx762 _) ?_
        exact XE.rt rfl (X_zret (by decide +kernel) rfl (by decide))
    · refine XE.go (st_if_ne_t (off := 15) (pc' := 2449) (by decide +kernel) (by decide) h1291) ?_
      refine XE.go (st_goto (off := 899) (pc' := 3348) (by decide +kernel) (by decide)) ?_
      refine XE.go (st_iinc (j := 4) (n := 6) (pc' := 3351) (by decide +kernel) rfl rfl (by decide) rfl rfl) ?_
      refine XE.go (st_goto (off := (-3328)) (pc' := 23) (by decide +kernel) (by decide)) ?_
      exact XE.pick [3, 4, 5, 6, 0] rfl (hc760 ((w (s9.1 + 6)), r1286.2))
  · refine XE.go (st_icmp_eq_f (off := 5) (pc' := 2430) (by decide +kernel) 2432 (by decide) rfl h1289) ?_
    refine XE.go (st_iconst (n := 0) (pc' := 2431) (by decide +kernel) (w_eq (by decide) (by decide)) rfl) ?_
    refine XE.cast (hx762 _) ?_
    exact XE.rt rfl (X_zret (by decide +kernel) rfl (by decide))

set_option maxRecDepth 100000 in
set_option maxHeartbeats 4000000 in
theorem cx_L_32 {D : Dt} {kp : Nat} {kk763 : (Int × Mm) ⊕ ((Int × Mm) ⊕ Mm) → Option (Int × Mm)} (hx762 : ∀ y : Int × Mm, kk763 (.inr (.inl y)) = some y) (hc760 : ∀ s9 : Int × Mm, XE D kp mu_L_law (EW 0) 23 [(0, (100, (-1))), (1, (14, 11000)), (2, (15, 12000)), (3, (18, 15000)), (4, (0, s9.1))] [] s9.2 (kk763 (.inl s9))) (s9 : Int × Mm) : XE D (kp + 1) mu_L_law (EW 0) 2452 [(0, (100, (-1))), (1, (14, 11000)), (2, (15, 12000)), (3, (18, 15000)), (4, (0, s9.1))] [] s9.2 ((c_L_32 s9 (D.2.2.2.2.2.1 : Int) (fun i : Int => (D.2.2.2.2.2.2 i.toNat).toInt)).bind kk763) := by
  have h2 : (11000 : Int) ≠ 0 := by decide
  have h5 : (12000 : Int) ≠ 0 := by decide
  have h8 : (15000 : Int) ≠ 0 := by decide
  unfold c_L_32
  refine XE.go (st_aload_n (j := 1) (i := 1) (pc' := 2453) (by decide +kernel) rfl rfl (by decide) rfl) ?_
  refine XE.go (st_aload_n (j := 0) (i := 0) (pc' := 2454) (by decide +kernel) rfl rfl (by decide) rfl) ?_
  refine XE.go (st_iload (j := 4) (pc' := 2456) (by decide +kernel) rfl rfl) ?_
  refine XE.go (st_iconst (n := 1) (pc' := 2457) (by decide +kernel) (w_eq (by decide) (by decide)) rfl) ?_
  refine XE.go (st_iadd (pc' := 2458) (by decide +kernel) rfl) ?_
  refine XE.gdb (fun g1297 => ?_)
  refine XE.go (st_sld (pc' := 2459) (by decide +kernel) rfl g1297.1 g1297.2) ?_
  refine XE.go (st_aload_n (j := 0) (i := 0) (pc' := 2460) (by decide +kernel) rfl rfl (by decide) rfl) ?_
  refine XE.go (st_iload (j := 4) (pc' := 2462) (by decide +kernel) rfl rfl) ?_
  refine XE.go (st_iconst (n := 2) (pc' := 2463) (by decide +kernel) (w_eq (by decide) (by decide)) rfl) ?_
  refine XE.go (st_iadd (pc' := 2464) (by decide +kernel) rfl) ?_
  refine XE.gdb (fun g1298 => ?_)
  refine XE.go (st_sld (pc' := 2465) (by decide +kernel) rfl g1298.1 g1298.2) ?_
  refine XE.go (st_aload_n (j := 3) (i := 3) (pc' := 2466) (by decide +kernel) rfl rfl (by decide) rfl) ?_
  refine XE.asc ?_
  refine XE.cW1 (pc' := 2469) (st := []) (fun r hr => ct_L_offsetAt r hr) (fun r hr => run_S (st := []) (by decide +kernel) co_L_law_267 (ct_L_offsetAt r hr) rfl rfl (Nat.le_of_ble_eq_true rfl)) rfl rfl (fun r1299 => ?_)
  refine XE.go (st_istore (j := 5) (pc' := 2471) (by decide +kernel)  rfl (by decide) rfl rfl) ?_
  refine XE.go (st_aload_n (j := 2) (i := 2) (pc' := 2472) (by decide +kernel) rfl rfl (by decide) rfl) ?_
  refine XE.go (st_aload_n (j := 0) (i := 0) (pc' := 2473) (by decide +kernel) rfl rfl (by decide) rfl) ?_
  refine XE.go (st_iload (j := 4) (pc' := 2475) (by decide +kernel) rfl rfl) ?_
  refine XE.go (st_iconst (n := 1) (pc' := 2476) (by decide +kernel) (w_eq (by decide) (by decide)) rfl) ?_
  refine XE.go (st_iadd (pc' := 2477) (by decide +kernel) rfl) ?_
  refine XE.gdb (fun g1300 => ?_)
  refine XE.go (st_sld (pc' := 2478) (by decide +kernel) rfl g1300.1 g1300.2) ?_
  refine XE.go (st_aload_n (j := 0) (i := 0) (pc' := 2479) (by decide +kernel) rfl rfl (by decide) rfl) ?_
  refine XE.go (st_iload (j := 4) (pc' := 2481) (by decide +kernel) rfl rfl) ?_
  refine XE.go (st_iconst (n := 2) (pc' := 2482) (by decide +kernel) (w_eq (by decide) (by decide)) rfl) ?_
  refine XE.go (st_iadd (pc' := 2483) (by decide +kernel) rfl) ?_
  refine XE.gdb (fun g1301 => ?_)
  refine XE.go (st_sld (pc' := 2484) (by decide +kernel) rfl g1301.1 g1301.2) ?_
  refine XE.asc ?_
  refine XE.cW (pc' := 2487) (st := []) (fun r hr => ct_X11_offsetAt h5 r hr) (fun r hr => run_V (st := []) (by decide +kernel) co_L_law_269 (ct_X11_offsetAt h5 r hr) rfl h5 rfl rfl (Nat.le_of_ble_eq_true rfl)) rfl rfl (fun r1302 => ?_)
  refine XE.go (st_istore (j := 6) (pc' := 2489) (by decide +kernel)  rfl (by decide) rfl rfl) ?_
  refine XE.go (st_aload_n (j := 2) (i := 2) (pc' := 2490) (by decide +kernel) rfl rfl (by decide) rfl) ?_
  refine XE.asc ?_
  refine XE.cP (pc' := 2493) (st := []) (fun r hr => ct_X11_thrown h5 r hr) (fun r hr => run_V (st := []) (by decide +kernel) co_L_law_165 (ct_X11_thrown h5 r hr) rfl h5 rfl rfl (Nat.le_of_ble_eq_true rfl)) rfl rfl (fun r1303 => ?_)
  refine XE.go (st_iload (j := 5) (pc' := 2495) (by decide +kernel) rfl rfl) ?_
  refine XE.bite (fun h1304 => ?_) (fun h1305 => ?_)
  · refine XE.go (st_icmp_eq_t (off := 5) (pc' := 2500) (by decide +kernel) (by decide) h1304) ?_
    refine XE.go (st_iload (j := 5) (pc' := 2502) (by decide +kernel) rfl rfl) ?_
    refine XE.bite (fun h1306 => ?_) (fun h1307 => ?_)
    · refine XE.go (st_if_ne_f (off := 15) (pc' := 2505) (by decide +kernel) 2517 (by decide) rfl (not_not_intro h1306)) ?_
      refine XE.go (st_aload_n (j := 3) (i := 3) (pc' := 2506) (by decide +kernel) rfl rfl (by decide) rfl) ?_
      refine XE.go (st_iconst (n := 0) (pc' := 2507) (by decide +kernel) (w_eq (by decide) (by decide)) rfl) ?_
      refine XE.gdb (fun g1308 => ?_)
      refine XE.go (st_ald (k := 15) (tp := 2) (pc' := 2508) (by decide +kernel) rfl ak_15 rfl (by decide) rfl (Or.inr (Or.inr (Or.inl ⟨rfl, rfl⟩))) g1308.1 g1308.2.1 g1308.2.2) ?_
      refine XE.go (st_iload (j := 6) (pc' := 2510) (by decide +kernel) rfl rfl) ?_
      refine XE.go (st_i2l (pc' := 2511) (by decide +kernel) rfl) ?_
      refine XE.go (st_lcmp (pc' := 2512) (by decide +kernel) rfl) ?_
      refine XE.bite (fun h1309 => ?_) (fun h1310 => ?_)
      · refine XE.go (st_if_eq_t (off := 5) (pc' := 2517) (by decide +kernel) (by decide) h1309) ?_
        refine XE.go (st_goto (off := 831) (pc' := 3348) (by decide +kernel) (by decide)) ?_
        refine XE.go (st_iinc (j := 4) (n := 6) (pc' := 3351) (by decide +kernel) rfl rfl (by decide) rfl rfl) ?_
        refine XE.go (st_goto (off := (-3328)) (pc' := 23) (by decide +kernel) (by decide)) ?_
        exact XE.pick [3, 4, 5, 6, 0] rfl (hc760 ((w (s9.1 + 6)), r1302.2))
      · refine XE.go (st_if_eq_f (off := 5) (pc' := 2515) (by decide +kernel) 2517 (by decide) rfl h1310) ?_
        refine XE.go (st_iconst (n := 0) (pc' := 2516) (by decide +kernel) (w_eq (by decide) (by decide)) rfl) ?_
        refine XE.cast (hx762 _) ?_
        exact XE.rt rfl (X_zret (by decide +kernel) rfl (by decide))
    · refine XE.go (st_if_ne_t (off := 15) (pc' := 2517) (by decide +kernel) (by decide) h1307) ?_
      refine XE.go (st_goto (off := 831) (pc' := 3348) (by decide +kernel) (by decide)) ?_
      refine XE.go (st_iinc (j := 4) (n := 6) (pc' := 3351) (by decide +kernel) rfl rfl (by decide) rfl rfl) ?_
      refine XE.go (st_goto (off := (-3328)) (pc' := 23) (by decide +kernel) (by decide)) ?_
      exact XE.pick [3, 4, 5, 6, 0] rfl (hc760 ((w (s9.1 + 6)), r1302.2))
  · refine XE.go (st_icmp_eq_f (off := 5) (pc' := 2498) (by decide +kernel) 2500 (by decide) rfl h1305) ?_
    refine XE.go (st_iconst (n := 0) (pc' := 2499) (by decide +kernel) (w_eq (by decide) (by decide)) rfl) ?_
    refine XE.cast (hx762 _) ?_
    exact XE.rt rfl (X_zret (by decide +kernel) rfl (by decide))

set_option maxRecDepth 100000 in
set_option maxHeartbeats 4000000 in
theorem cx_L_33 {D : Dt} {kp : Nat} {kk763 : (Int × Mm) ⊕ ((Int × Mm) ⊕ Mm) → Option (Int × Mm)} (hx762 : ∀ y : Int × Mm, kk763 (.inr (.inl y)) = some y) (hc760 : ∀ s9 : Int × Mm, XE D kp mu_L_law (EW 0) 23 [(0, (100, (-1))), (1, (14, 11000)), (2, (15, 12000)), (3, (18, 15000)), (4, (0, s9.1))] [] s9.2 (kk763 (.inl s9))) (s9 : Int × Mm) : XE D (kp + 1) mu_L_law (EW 0) 2520 [(0, (100, (-1))), (1, (14, 11000)), (2, (15, 12000)), (3, (18, 15000)), (4, (0, s9.1))] [] s9.2 ((c_L_33 s9 (D.2.2.2.2.2.1 : Int) (fun i : Int => (D.2.2.2.2.2.2 i.toNat).toInt)).bind kk763) := by
  have h2 : (11000 : Int) ≠ 0 := by decide
  have h5 : (12000 : Int) ≠ 0 := by decide
  have h8 : (15000 : Int) ≠ 0 := by decide
  unfold c_L_33
  refine XE.go (st_aload_n (j := 1) (i := 1) (pc' := 2521) (by decide +kernel) rfl rfl (by decide) rfl) ?_
  refine XE.go (st_aload_n (j := 0) (i := 0) (pc' := 2522) (by decide +kernel) rfl rfl (by decide) rfl) ?_
  refine XE.go (st_iload (j := 4) (pc' := 2524) (by decide +kernel) rfl rfl) ?_
  refine XE.go (st_iconst (n := 1) (pc' := 2525) (by decide +kernel) (w_eq (by decide) (by decide)) rfl) ?_
  refine XE.go (st_iadd (pc' := 2526) (by decide +kernel) rfl) ?_
  refine XE.gdb (fun g1313 => ?_)
  refine XE.go (st_sld (pc' := 2527) (by decide +kernel) rfl g1313.1 g1313.2) ?_
  refine XE.go (st_aload_n (j := 0) (i := 0) (pc' := 2528) (by decide +kernel) rfl rfl (by decide) rfl) ?_
  refine XE.go (st_iload (j := 4) (pc' := 2530) (by decide +kernel) rfl rfl) ?_
  refine XE.go (st_iconst (n := 2) (pc' := 2531) (by decide +kernel) (w_eq (by decide) (by decide)) rfl) ?_
  refine XE.go (st_iadd (pc' := 2532) (by decide +kernel) rfl) ?_
  refine XE.gdb (fun g1314 => ?_)
  refine XE.go (st_sld (pc' := 2533) (by decide +kernel) rfl g1314.1 g1314.2) ?_
  refine XE.go (st_aload_n (j := 3) (i := 3) (pc' := 2534) (by decide +kernel) rfl rfl (by decide) rfl) ?_
  refine XE.asc ?_
  refine XE.cW1 (pc' := 2537) (st := []) (fun r hr => ct_L_value r hr) (fun r hr => run_S (st := []) (by decide +kernel) co_L_law_270 (ct_L_value r hr) rfl rfl (Nat.le_of_ble_eq_true rfl)) rfl rfl (fun r1315 => ?_)
  refine XE.go (st_istore (j := 5) (pc' := 2539) (by decide +kernel)  rfl (by decide) rfl rfl) ?_
  refine XE.go (st_aload_n (j := 2) (i := 2) (pc' := 2540) (by decide +kernel) rfl rfl (by decide) rfl) ?_
  refine XE.go (st_aload_n (j := 0) (i := 0) (pc' := 2541) (by decide +kernel) rfl rfl (by decide) rfl) ?_
  refine XE.go (st_iload (j := 4) (pc' := 2543) (by decide +kernel) rfl rfl) ?_
  refine XE.go (st_iconst (n := 1) (pc' := 2544) (by decide +kernel) (w_eq (by decide) (by decide)) rfl) ?_
  refine XE.go (st_iadd (pc' := 2545) (by decide +kernel) rfl) ?_
  refine XE.gdb (fun g1316 => ?_)
  refine XE.go (st_sld (pc' := 2546) (by decide +kernel) rfl g1316.1 g1316.2) ?_
  refine XE.go (st_aload_n (j := 0) (i := 0) (pc' := 2547) (by decide +kernel) rfl rfl (by decide) rfl) ?_
  refine XE.go (st_iload (j := 4) (pc' := 2549) (by decide +kernel) rfl rfl) ?_
  refine XE.go (st_iconst (n := 2) (pc' := 2550) (by decide +kernel) (w_eq (by decide) (by decide)) rfl) ?_
  refine XE.go (st_iadd (pc' := 2551) (by decide +kernel) rfl) ?_
  refine XE.gdb (fun g1317 => ?_)
  refine XE.go (st_sld (pc' := 2552) (by decide +kernel) rfl g1317.1 g1317.2) ?_
  refine XE.asc ?_
  refine XE.cW (pc' := 2555) (st := []) (fun r hr => ct_X11_value h5 r hr) (fun r hr => run_V (st := []) (by decide +kernel) co_L_law_272 (ct_X11_value h5 r hr) rfl h5 rfl rfl (Nat.le_of_ble_eq_true rfl)) rfl rfl (fun r1318 => ?_)
  refine XE.go (st_istore (j := 6) (pc' := 2557) (by decide +kernel)  rfl (by decide) rfl rfl) ?_
  refine XE.go (st_aload_n (j := 2) (i := 2) (pc' := 2558) (by decide +kernel) rfl rfl (by decide) rfl) ?_
  refine XE.asc ?_
  refine XE.cP (pc' := 2561) (st := []) (fun r hr => ct_X11_thrown h5 r hr) (fun r hr => run_V (st := []) (by decide +kernel) co_L_law_165 (ct_X11_thrown h5 r hr) rfl h5 rfl rfl (Nat.le_of_ble_eq_true rfl)) rfl rfl (fun r1319 => ?_)
  refine XE.go (st_iload (j := 5) (pc' := 2563) (by decide +kernel) rfl rfl) ?_
  refine XE.bite (fun h1320 => ?_) (fun h1321 => ?_)
  · refine XE.go (st_icmp_eq_t (off := 5) (pc' := 2568) (by decide +kernel) (by decide) h1320) ?_
    refine XE.go (st_iload (j := 5) (pc' := 2570) (by decide +kernel) rfl rfl) ?_
    refine XE.bite (fun h1322 => ?_) (fun h1323 => ?_)
    · refine XE.go (st_if_ne_f (off := 15) (pc' := 2573) (by decide +kernel) 2585 (by decide) rfl (not_not_intro h1322)) ?_
      refine XE.go (st_aload_n (j := 3) (i := 3) (pc' := 2574) (by decide +kernel) rfl rfl (by decide) rfl) ?_
      refine XE.go (st_iconst (n := 0) (pc' := 2575) (by decide +kernel) (w_eq (by decide) (by decide)) rfl) ?_
      refine XE.gdb (fun g1324 => ?_)
      refine XE.go (st_ald (k := 15) (tp := 2) (pc' := 2576) (by decide +kernel) rfl ak_15 rfl (by decide) rfl (Or.inr (Or.inr (Or.inl ⟨rfl, rfl⟩))) g1324.1 g1324.2.1 g1324.2.2) ?_
      refine XE.go (st_iload (j := 6) (pc' := 2578) (by decide +kernel) rfl rfl) ?_
      refine XE.go (st_i2l (pc' := 2579) (by decide +kernel) rfl) ?_
      refine XE.go (st_lcmp (pc' := 2580) (by decide +kernel) rfl) ?_
      refine XE.bite (fun h1325 => ?_) (fun h1326 => ?_)
      · refine XE.go (st_if_eq_t (off := 5) (pc' := 2585) (by decide +kernel) (by decide) h1325) ?_
        refine XE.go (st_goto (off := 763) (pc' := 3348) (by decide +kernel) (by decide)) ?_
        refine XE.go (st_iinc (j := 4) (n := 6) (pc' := 3351) (by decide +kernel) rfl rfl (by decide) rfl rfl) ?_
        refine XE.go (st_goto (off := (-3328)) (pc' := 23) (by decide +kernel) (by decide)) ?_
        exact XE.pick [3, 4, 5, 6, 0] rfl (hc760 ((w (s9.1 + 6)), r1318.2))
      · refine XE.go (st_if_eq_f (off := 5) (pc' := 2583) (by decide +kernel) 2585 (by decide) rfl h1326) ?_
        refine XE.go (st_iconst (n := 0) (pc' := 2584) (by decide +kernel) (w_eq (by decide) (by decide)) rfl) ?_
        refine XE.cast (hx762 _) ?_
        exact XE.rt rfl (X_zret (by decide +kernel) rfl (by decide))
    · refine XE.go (st_if_ne_t (off := 15) (pc' := 2585) (by decide +kernel) (by decide) h1323) ?_
      refine XE.go (st_goto (off := 763) (pc' := 3348) (by decide +kernel) (by decide)) ?_
      refine XE.go (st_iinc (j := 4) (n := 6) (pc' := 3351) (by decide +kernel) rfl rfl (by decide) rfl rfl) ?_
      refine XE.go (st_goto (off := (-3328)) (pc' := 23) (by decide +kernel) (by decide)) ?_
      exact XE.pick [3, 4, 5, 6, 0] rfl (hc760 ((w (s9.1 + 6)), r1318.2))
  · refine XE.go (st_icmp_eq_f (off := 5) (pc' := 2566) (by decide +kernel) 2568 (by decide) rfl h1321) ?_
    refine XE.go (st_iconst (n := 0) (pc' := 2567) (by decide +kernel) (w_eq (by decide) (by decide)) rfl) ?_
    refine XE.cast (hx762 _) ?_
    exact XE.rt rfl (X_zret (by decide +kernel) rfl (by decide))

set_option maxRecDepth 100000 in
set_option maxHeartbeats 4000000 in
theorem cx_L_34 {D : Dt} {kp : Nat} {kk763 : (Int × Mm) ⊕ ((Int × Mm) ⊕ Mm) → Option (Int × Mm)} (hx762 : ∀ y : Int × Mm, kk763 (.inr (.inl y)) = some y) (hc760 : ∀ s9 : Int × Mm, XE D kp mu_L_law (EW 0) 23 [(0, (100, (-1))), (1, (14, 11000)), (2, (15, 12000)), (3, (18, 15000)), (4, (0, s9.1))] [] s9.2 (kk763 (.inl s9))) (s9 : Int × Mm) : XE D (kp + 1) mu_L_law (EW 0) 2588 [(0, (100, (-1))), (1, (14, 11000)), (2, (15, 12000)), (3, (18, 15000)), (4, (0, s9.1))] [] s9.2 ((c_L_34 s9 (D.2.2.2.2.2.1 : Int) (fun i : Int => (D.2.2.2.2.2.2 i.toNat).toInt)).bind kk763) := by
  have h2 : (11000 : Int) ≠ 0 := by decide
  have h5 : (12000 : Int) ≠ 0 := by decide
  have h8 : (15000 : Int) ≠ 0 := by decide
  unfold c_L_34
  refine XE.go (st_aload_n (j := 1) (i := 1) (pc' := 2589) (by decide +kernel) rfl rfl (by decide) rfl) ?_
  refine XE.go (st_aload_n (j := 0) (i := 0) (pc' := 2590) (by decide +kernel) rfl rfl (by decide) rfl) ?_
  refine XE.go (st_iload (j := 4) (pc' := 2592) (by decide +kernel) rfl rfl) ?_
  refine XE.go (st_iconst (n := 1) (pc' := 2593) (by decide +kernel) (w_eq (by decide) (by decide)) rfl) ?_
  refine XE.go (st_iadd (pc' := 2594) (by decide +kernel) rfl) ?_
  refine XE.gdb (fun g1329 => ?_)
  refine XE.go (st_sld (pc' := 2595) (by decide +kernel) rfl g1329.1 g1329.2) ?_
  refine XE.go (st_aload_n (j := 0) (i := 0) (pc' := 2596) (by decide +kernel) rfl rfl (by decide) rfl) ?_
  refine XE.go (st_iload (j := 4) (pc' := 2598) (by decide +kernel) rfl rfl) ?_
  refine XE.go (st_iconst (n := 2) (pc' := 2599) (by decide +kernel) (w_eq (by decide) (by decide)) rfl) ?_
  refine XE.go (st_iadd (pc' := 2600) (by decide +kernel) rfl) ?_
  refine XE.gdb (fun g1330 => ?_)
  refine XE.go (st_sld (pc' := 2601) (by decide +kernel) rfl g1330.1 g1330.2) ?_
  refine XE.go (st_aload_n (j := 0) (i := 0) (pc' := 2602) (by decide +kernel) rfl rfl (by decide) rfl) ?_
  refine XE.go (st_iload (j := 4) (pc' := 2604) (by decide +kernel) rfl rfl) ?_
  refine XE.go (st_iconst (n := 3) (pc' := 2605) (by decide +kernel) (w_eq (by decide) (by decide)) rfl) ?_
  refine XE.go (st_iadd (pc' := 2606) (by decide +kernel) rfl) ?_
  refine XE.gdb (fun g1331 => ?_)
  refine XE.go (st_sld (pc' := 2607) (by decide +kernel) rfl g1331.1 g1331.2) ?_
  refine XE.go (st_aload_n (j := 0) (i := 0) (pc' := 2608) (by decide +kernel) rfl rfl (by decide) rfl) ?_
  refine XE.go (st_iload (j := 4) (pc' := 2610) (by decide +kernel) rfl rfl) ?_
  refine XE.go (st_iconst (n := 4) (pc' := 2611) (by decide +kernel) (w_eq (by decide) (by decide)) rfl) ?_
  refine XE.go (st_iadd (pc' := 2612) (by decide +kernel) rfl) ?_
  refine XE.gdb (fun g1332 => ?_)
  refine XE.go (st_sld (pc' := 2613) (by decide +kernel) rfl g1332.1 g1332.2) ?_
  refine XE.go (st_aload_n (j := 3) (i := 3) (pc' := 2614) (by decide +kernel) rfl rfl (by decide) rfl) ?_
  refine XE.asc ?_
  refine XE.cW1 (pc' := 2617) (st := []) (fun r hr => ct_L_sum r hr) (fun r hr => run_S (st := []) (by decide +kernel) co_L_law_273 (ct_L_sum r hr) rfl rfl (Nat.le_of_ble_eq_true rfl)) rfl rfl (fun r1333 => ?_)
  refine XE.go (st_istore (j := 5) (pc' := 2619) (by decide +kernel)  rfl (by decide) rfl rfl) ?_
  refine XE.go (st_aload_n (j := 2) (i := 2) (pc' := 2620) (by decide +kernel) rfl rfl (by decide) rfl) ?_
  refine XE.go (st_aload_n (j := 0) (i := 0) (pc' := 2621) (by decide +kernel) rfl rfl (by decide) rfl) ?_
  refine XE.go (st_iload (j := 4) (pc' := 2623) (by decide +kernel) rfl rfl) ?_
  refine XE.go (st_iconst (n := 1) (pc' := 2624) (by decide +kernel) (w_eq (by decide) (by decide)) rfl) ?_
  refine XE.go (st_iadd (pc' := 2625) (by decide +kernel) rfl) ?_
  refine XE.gdb (fun g1334 => ?_)
  refine XE.go (st_sld (pc' := 2626) (by decide +kernel) rfl g1334.1 g1334.2) ?_
  refine XE.go (st_aload_n (j := 0) (i := 0) (pc' := 2627) (by decide +kernel) rfl rfl (by decide) rfl) ?_
  refine XE.go (st_iload (j := 4) (pc' := 2629) (by decide +kernel) rfl rfl) ?_
  refine XE.go (st_iconst (n := 2) (pc' := 2630) (by decide +kernel) (w_eq (by decide) (by decide)) rfl) ?_
  refine XE.go (st_iadd (pc' := 2631) (by decide +kernel) rfl) ?_
  refine XE.gdb (fun g1335 => ?_)
  refine XE.go (st_sld (pc' := 2632) (by decide +kernel) rfl g1335.1 g1335.2) ?_
  refine XE.go (st_aload_n (j := 0) (i := 0) (pc' := 2633) (by decide +kernel) rfl rfl (by decide) rfl) ?_
  refine XE.go (st_iload (j := 4) (pc' := 2635) (by decide +kernel) rfl rfl) ?_
  refine XE.go (st_iconst (n := 3) (pc' := 2636) (by decide +kernel) (w_eq (by decide) (by decide)) rfl) ?_
  refine XE.go (st_iadd (pc' := 2637) (by decide +kernel) rfl) ?_
  refine XE.gdb (fun g1336 => ?_)
  refine XE.go (st_sld (pc' := 2638) (by decide +kernel) rfl g1336.1 g1336.2) ?_
  refine XE.go (st_aload_n (j := 0) (i := 0) (pc' := 2639) (by decide +kernel) rfl rfl (by decide) rfl) ?_
  refine XE.go (st_iload (j := 4) (pc' := 2641) (by decide +kernel) rfl rfl) ?_
  refine XE.go (st_iconst (n := 4) (pc' := 2642) (by decide +kernel) (w_eq (by decide) (by decide)) rfl) ?_
  refine XE.go (st_iadd (pc' := 2643) (by decide +kernel) rfl) ?_
  refine XE.gdb (fun g1337 => ?_)
  refine XE.go (st_sld (pc' := 2644) (by decide +kernel) rfl g1337.1 g1337.2) ?_
  refine XE.asc ?_
  refine XE.cW (pc' := 2647) (st := []) (fun r hr => ct_X11_sum h5 r hr) (fun r hr => run_V (st := []) (by decide +kernel) co_L_law_275 (ct_X11_sum h5 r hr) rfl h5 rfl rfl (Nat.le_of_ble_eq_true rfl)) rfl rfl (fun r1338 => ?_)
  refine XE.go (st_istore (j := 6) (pc' := 2649) (by decide +kernel)  rfl (by decide) rfl rfl) ?_
  refine XE.go (st_aload_n (j := 2) (i := 2) (pc' := 2650) (by decide +kernel) rfl rfl (by decide) rfl) ?_
  refine XE.asc ?_
  refine XE.cP (pc' := 2653) (st := []) (fun r hr => ct_X11_thrown h5 r hr) (fun r hr => run_V (st := []) (by decide +kernel) co_L_law_165 (ct_X11_thrown h5 r hr) rfl h5 rfl rfl (Nat.le_of_ble_eq_true rfl)) rfl rfl (fun r1339 => ?_)
  refine XE.go (st_iload (j := 5) (pc' := 2655) (by decide +kernel) rfl rfl) ?_
  refine XE.bite (fun h1340 => ?_) (fun h1341 => ?_)
  · refine XE.go (st_icmp_eq_t (off := 5) (pc' := 2660) (by decide +kernel) (by decide) h1340) ?_
    refine XE.go (st_iload (j := 5) (pc' := 2662) (by decide +kernel) rfl rfl) ?_
    refine XE.bite (fun h1342 => ?_) (fun h1343 => ?_)
    · refine XE.go (st_if_ne_f (off := 15) (pc' := 2665) (by decide +kernel) 2677 (by decide) rfl (not_not_intro h1342)) ?_
      refine XE.go (st_aload_n (j := 3) (i := 3) (pc' := 2666) (by decide +kernel) rfl rfl (by decide) rfl) ?_
      refine XE.go (st_iconst (n := 0) (pc' := 2667) (by decide +kernel) (w_eq (by decide) (by decide)) rfl) ?_
      refine XE.gdb (fun g1344 => ?_)
      refine XE.go (st_ald (k := 15) (tp := 2) (pc' := 2668) (by decide +kernel) rfl ak_15 rfl (by decide) rfl (Or.inr (Or.inr (Or.inl ⟨rfl, rfl⟩))) g1344.1 g1344.2.1 g1344.2.2) ?_
      refine XE.go (st_iload (j := 6) (pc' := 2670) (by decide +kernel) rfl rfl) ?_
      refine XE.go (st_i2l (pc' := 2671) (by decide +kernel) rfl) ?_
      refine XE.go (st_lcmp (pc' := 2672) (by decide +kernel) rfl) ?_
      refine XE.bite (fun h1345 => ?_) (fun h1346 => ?_)
      · refine XE.go (st_if_eq_t (off := 5) (pc' := 2677) (by decide +kernel) (by decide) h1345) ?_
        refine XE.go (st_goto (off := 671) (pc' := 3348) (by decide +kernel) (by decide)) ?_
        refine XE.go (st_iinc (j := 4) (n := 6) (pc' := 3351) (by decide +kernel) rfl rfl (by decide) rfl rfl) ?_
        refine XE.go (st_goto (off := (-3328)) (pc' := 23) (by decide +kernel) (by decide)) ?_
        exact XE.pick [3, 4, 5, 6, 0] rfl (hc760 ((w (s9.1 + 6)), r1338.2))
      · refine XE.go (st_if_eq_f (off := 5) (pc' := 2675) (by decide +kernel) 2677 (by decide) rfl h1346) ?_
        refine XE.go (st_iconst (n := 0) (pc' := 2676) (by decide +kernel) (w_eq (by decide) (by decide)) rfl) ?_
        refine XE.cast (hx762 _) ?_
        exact XE.rt rfl (X_zret (by decide +kernel) rfl (by decide))
    · refine XE.go (st_if_ne_t (off := 15) (pc' := 2677) (by decide +kernel) (by decide) h1343) ?_
      refine XE.go (st_goto (off := 671) (pc' := 3348) (by decide +kernel) (by decide)) ?_
      refine XE.go (st_iinc (j := 4) (n := 6) (pc' := 3351) (by decide +kernel) rfl rfl (by decide) rfl rfl) ?_
      refine XE.go (st_goto (off := (-3328)) (pc' := 23) (by decide +kernel) (by decide)) ?_
      exact XE.pick [3, 4, 5, 6, 0] rfl (hc760 ((w (s9.1 + 6)), r1338.2))
  · refine XE.go (st_icmp_eq_f (off := 5) (pc' := 2658) (by decide +kernel) 2660 (by decide) rfl h1341) ?_
    refine XE.go (st_iconst (n := 0) (pc' := 2659) (by decide +kernel) (w_eq (by decide) (by decide)) rfl) ?_
    refine XE.cast (hx762 _) ?_
    exact XE.rt rfl (X_zret (by decide +kernel) rfl (by decide))

set_option maxRecDepth 100000 in
set_option maxHeartbeats 4000000 in
theorem cx_L_35 {D : Dt} {kp : Nat} {kk763 : (Int × Mm) ⊕ ((Int × Mm) ⊕ Mm) → Option (Int × Mm)} (hx762 : ∀ y : Int × Mm, kk763 (.inr (.inl y)) = some y) (hc760 : ∀ s9 : Int × Mm, XE D kp mu_L_law (EW 0) 23 [(0, (100, (-1))), (1, (14, 11000)), (2, (15, 12000)), (3, (18, 15000)), (4, (0, s9.1))] [] s9.2 (kk763 (.inl s9))) (s9 : Int × Mm) : XE D (kp + 1) mu_L_law (EW 0) 2680 [(0, (100, (-1))), (1, (14, 11000)), (2, (15, 12000)), (3, (18, 15000)), (4, (0, s9.1))] [] s9.2 ((c_L_35 s9 (D.2.2.2.2.2.1 : Int) (fun i : Int => (D.2.2.2.2.2.2 i.toNat).toInt)).bind kk763) := by
  have h2 : (11000 : Int) ≠ 0 := by decide
  have h5 : (12000 : Int) ≠ 0 := by decide
  have h8 : (15000 : Int) ≠ 0 := by decide
  unfold c_L_35
  refine XE.go (st_aload_n (j := 1) (i := 1) (pc' := 2681) (by decide +kernel) rfl rfl (by decide) rfl) ?_
  refine XE.go (st_aload_n (j := 0) (i := 0) (pc' := 2682) (by decide +kernel) rfl rfl (by decide) rfl) ?_
  refine XE.go (st_iload (j := 4) (pc' := 2684) (by decide +kernel) rfl rfl) ?_
  refine XE.go (st_iconst (n := 1) (pc' := 2685) (by decide +kernel) (w_eq (by decide) (by decide)) rfl) ?_
  refine XE.go (st_iadd (pc' := 2686) (by decide +kernel) rfl) ?_
  refine XE.gdb (fun g1349 => ?_)
  refine XE.go (st_sld (pc' := 2687) (by decide +kernel) rfl g1349.1 g1349.2) ?_
  refine XE.go (st_aload_n (j := 0) (i := 0) (pc' := 2688) (by decide +kernel) rfl rfl (by decide) rfl) ?_
  refine XE.go (st_iload (j := 4) (pc' := 2690) (by decide +kernel) rfl rfl) ?_
  refine XE.go (st_iconst (n := 2) (pc' := 2691) (by decide +kernel) (w_eq (by decide) (by decide)) rfl) ?_
  refine XE.go (st_iadd (pc' := 2692) (by decide +kernel) rfl) ?_
  refine XE.gdb (fun g1350 => ?_)
  refine XE.go (st_sld (pc' := 2693) (by decide +kernel) rfl g1350.1 g1350.2) ?_
  refine XE.go (st_aload_n (j := 0) (i := 0) (pc' := 2694) (by decide +kernel) rfl rfl (by decide) rfl) ?_
  refine XE.go (st_iload (j := 4) (pc' := 2696) (by decide +kernel) rfl rfl) ?_
  refine XE.go (st_iconst (n := 3) (pc' := 2697) (by decide +kernel) (w_eq (by decide) (by decide)) rfl) ?_
  refine XE.go (st_iadd (pc' := 2698) (by decide +kernel) rfl) ?_
  refine XE.gdb (fun g1351 => ?_)
  refine XE.go (st_sld (pc' := 2699) (by decide +kernel) rfl g1351.1 g1351.2) ?_
  refine XE.go (st_aload_n (j := 3) (i := 3) (pc' := 2700) (by decide +kernel) rfl rfl (by decide) rfl) ?_
  refine XE.asc ?_
  refine XE.cW1 (pc' := 2703) (st := []) (fun r hr => ct_L_share r hr) (fun r hr => run_S (st := []) (by decide +kernel) co_L_law_276 (ct_L_share r hr) rfl rfl (Nat.le_of_ble_eq_true rfl)) rfl rfl (fun r1352 => ?_)
  refine XE.go (st_istore (j := 5) (pc' := 2705) (by decide +kernel)  rfl (by decide) rfl rfl) ?_
  refine XE.go (st_aload_n (j := 2) (i := 2) (pc' := 2706) (by decide +kernel) rfl rfl (by decide) rfl) ?_
  refine XE.go (st_aload_n (j := 0) (i := 0) (pc' := 2707) (by decide +kernel) rfl rfl (by decide) rfl) ?_
  refine XE.go (st_iload (j := 4) (pc' := 2709) (by decide +kernel) rfl rfl) ?_
  refine XE.go (st_iconst (n := 1) (pc' := 2710) (by decide +kernel) (w_eq (by decide) (by decide)) rfl) ?_
  refine XE.go (st_iadd (pc' := 2711) (by decide +kernel) rfl) ?_
  refine XE.gdb (fun g1353 => ?_)
  refine XE.go (st_sld (pc' := 2712) (by decide +kernel) rfl g1353.1 g1353.2) ?_
  refine XE.go (st_aload_n (j := 0) (i := 0) (pc' := 2713) (by decide +kernel) rfl rfl (by decide) rfl) ?_
  refine XE.go (st_iload (j := 4) (pc' := 2715) (by decide +kernel) rfl rfl) ?_
  refine XE.go (st_iconst (n := 2) (pc' := 2716) (by decide +kernel) (w_eq (by decide) (by decide)) rfl) ?_
  refine XE.go (st_iadd (pc' := 2717) (by decide +kernel) rfl) ?_
  refine XE.gdb (fun g1354 => ?_)
  refine XE.go (st_sld (pc' := 2718) (by decide +kernel) rfl g1354.1 g1354.2) ?_
  refine XE.go (st_aload_n (j := 0) (i := 0) (pc' := 2719) (by decide +kernel) rfl rfl (by decide) rfl) ?_
  refine XE.go (st_iload (j := 4) (pc' := 2721) (by decide +kernel) rfl rfl) ?_
  refine XE.go (st_iconst (n := 3) (pc' := 2722) (by decide +kernel) (w_eq (by decide) (by decide)) rfl) ?_
  refine XE.go (st_iadd (pc' := 2723) (by decide +kernel) rfl) ?_
  refine XE.gdb (fun g1355 => ?_)
  refine XE.go (st_sld (pc' := 2724) (by decide +kernel) rfl g1355.1 g1355.2) ?_
  refine XE.asc ?_
  refine XE.cW (pc' := 2727) (st := []) (fun r hr => ct_X11_share h5 r hr) (fun r hr => run_V (st := []) (by decide +kernel) co_L_law_278 (ct_X11_share h5 r hr) rfl h5 rfl rfl (Nat.le_of_ble_eq_true rfl)) rfl rfl (fun r1356 => ?_)
  refine XE.go (st_istore (j := 6) (pc' := 2729) (by decide +kernel)  rfl (by decide) rfl rfl) ?_
  refine XE.go (st_aload_n (j := 2) (i := 2) (pc' := 2730) (by decide +kernel) rfl rfl (by decide) rfl) ?_
  refine XE.asc ?_
  refine XE.cP (pc' := 2733) (st := []) (fun r hr => ct_X11_thrown h5 r hr) (fun r hr => run_V (st := []) (by decide +kernel) co_L_law_165 (ct_X11_thrown h5 r hr) rfl h5 rfl rfl (Nat.le_of_ble_eq_true rfl)) rfl rfl (fun r1357 => ?_)
  refine XE.go (st_iload (j := 5) (pc' := 2735) (by decide +kernel) rfl rfl) ?_
  refine XE.bite (fun h1358 => ?_) (fun h1359 => ?_)
  · refine XE.go (st_icmp_eq_t (off := 5) (pc' := 2740) (by decide +kernel) (by decide) h1358) ?_
    refine XE.go (st_iload (j := 5) (pc' := 2742) (by decide +kernel) rfl rfl) ?_
    refine XE.bite (fun h1360 => ?_) (fun h1361 => ?_)
    · refine XE.go (st_if_ne_f (off := 15) (pc' := 2745) (by decide +kernel) 2757 (by decide) rfl (not_not_intro h1360)) ?_
      refine XE.go (st_aload_n (j := 3) (i := 3) (pc' := 2746) (by decide +kernel) rfl rfl (by decide) rfl) ?_
      refine XE.go (st_iconst (n := 0) (pc' := 2747) (by decide +kernel) (w_eq (by decide) (by decide)) rfl) ?_
      refine XE.gdb (fun g1362 => ?_)
      refine XE.go (st_ald (k := 15) (tp := 2) (pc' := 2748) (by decide +kernel) rfl ak_15 rfl (by decide) rfl (Or.inr (Or.inr (Or.inl ⟨rfl, rfl⟩))) g1362.1 g1362.2.1 g1362.2.2) ?_
      refine XE.go (st_iload (j := 6) (pc' := 2750) (by decide +kernel) rfl rfl) ?_
      refine XE.go (st_i2l (pc' := 2751) (by decide +kernel) rfl) ?_
      refine XE.go (st_lcmp (pc' := 2752) (by decide +kernel) rfl) ?_
      refine XE.bite (fun h1363 => ?_) (fun h1364 => ?_)
      · refine XE.go (st_if_eq_t (off := 5) (pc' := 2757) (by decide +kernel) (by decide) h1363) ?_
        refine XE.go (st_goto (off := 591) (pc' := 3348) (by decide +kernel) (by decide)) ?_
        refine XE.go (st_iinc (j := 4) (n := 6) (pc' := 3351) (by decide +kernel) rfl rfl (by decide) rfl rfl) ?_
        refine XE.go (st_goto (off := (-3328)) (pc' := 23) (by decide +kernel) (by decide)) ?_
        exact XE.pick [3, 4, 5, 6, 0] rfl (hc760 ((w (s9.1 + 6)), r1356.2))
      · refine XE.go (st_if_eq_f (off := 5) (pc' := 2755) (by decide +kernel) 2757 (by decide) rfl h1364) ?_
        refine XE.go (st_iconst (n := 0) (pc' := 2756) (by decide +kernel) (w_eq (by decide) (by decide)) rfl) ?_
        refine XE.cast (hx762 _) ?_
        exact XE.rt rfl (X_zret (by decide +kernel) rfl (by decide))
    · refine XE.go (st_if_ne_t (off := 15) (pc' := 2757) (by decide +kernel) (by decide) h1361) ?_
      refine XE.go (st_goto (off := 591) (pc' := 3348) (by decide +kernel) (by decide)) ?_
      refine XE.go (st_iinc (j := 4) (n := 6) (pc' := 3351) (by decide +kernel) rfl rfl (by decide) rfl rfl) ?_
      refine XE.go (st_goto (off := (-3328)) (pc' := 23) (by decide +kernel) (by decide)) ?_
      exact XE.pick [3, 4, 5, 6, 0] rfl (hc760 ((w (s9.1 + 6)), r1356.2))
  · refine XE.go (st_icmp_eq_f (off := 5) (pc' := 2738) (by decide +kernel) 2740 (by decide) rfl h1359) ?_
    refine XE.go (st_iconst (n := 0) (pc' := 2739) (by decide +kernel) (w_eq (by decide) (by decide)) rfl) ?_
    refine XE.cast (hx762 _) ?_
    exact XE.rt rfl (X_zret (by decide +kernel) rfl (by decide))

set_option maxRecDepth 100000 in
set_option maxHeartbeats 4000000 in
theorem cx_L_36 {D : Dt} {kp : Nat} {kk763 : (Int × Mm) ⊕ ((Int × Mm) ⊕ Mm) → Option (Int × Mm)} (hx762 : ∀ y : Int × Mm, kk763 (.inr (.inl y)) = some y) (hc760 : ∀ s9 : Int × Mm, XE D kp mu_L_law (EW 0) 23 [(0, (100, (-1))), (1, (14, 11000)), (2, (15, 12000)), (3, (18, 15000)), (4, (0, s9.1))] [] s9.2 (kk763 (.inl s9))) (s9 : Int × Mm) : XE D (kp + 1) mu_L_law (EW 0) 2760 [(0, (100, (-1))), (1, (14, 11000)), (2, (15, 12000)), (3, (18, 15000)), (4, (0, s9.1))] [] s9.2 ((c_L_36 s9 (D.2.2.2.2.2.1 : Int) (fun i : Int => (D.2.2.2.2.2.2 i.toNat).toInt)).bind kk763) := by
  have h2 : (11000 : Int) ≠ 0 := by decide
  have h5 : (12000 : Int) ≠ 0 := by decide
  have h8 : (15000 : Int) ≠ 0 := by decide
  unfold c_L_36
  refine XE.go (st_aload_n (j := 1) (i := 1) (pc' := 2761) (by decide +kernel) rfl rfl (by decide) rfl) ?_
  refine XE.go (st_aload_n (j := 0) (i := 0) (pc' := 2762) (by decide +kernel) rfl rfl (by decide) rfl) ?_
  refine XE.go (st_iload (j := 4) (pc' := 2764) (by decide +kernel) rfl rfl) ?_
  refine XE.go (st_iconst (n := 1) (pc' := 2765) (by decide +kernel) (w_eq (by decide) (by decide)) rfl) ?_
  refine XE.go (st_iadd (pc' := 2766) (by decide +kernel) rfl) ?_
  refine XE.gdb (fun g1367 => ?_)
  refine XE.go (st_sld (pc' := 2767) (by decide +kernel) rfl g1367.1 g1367.2) ?_
  refine XE.go (st_aload_n (j := 0) (i := 0) (pc' := 2768) (by decide +kernel) rfl rfl (by decide) rfl) ?_
  refine XE.go (st_iload (j := 4) (pc' := 2770) (by decide +kernel) rfl rfl) ?_
  refine XE.go (st_iconst (n := 2) (pc' := 2771) (by decide +kernel) (w_eq (by decide) (by decide)) rfl) ?_
  refine XE.go (st_iadd (pc' := 2772) (by decide +kernel) rfl) ?_
  refine XE.gdb (fun g1368 => ?_)
  refine XE.go (st_sld (pc' := 2773) (by decide +kernel) rfl g1368.1 g1368.2) ?_
  refine XE.go (st_aload_n (j := 0) (i := 0) (pc' := 2774) (by decide +kernel) rfl rfl (by decide) rfl) ?_
  refine XE.go (st_iload (j := 4) (pc' := 2776) (by decide +kernel) rfl rfl) ?_
  refine XE.go (st_iconst (n := 3) (pc' := 2777) (by decide +kernel) (w_eq (by decide) (by decide)) rfl) ?_
  refine XE.go (st_iadd (pc' := 2778) (by decide +kernel) rfl) ?_
  refine XE.gdb (fun g1369 => ?_)
  refine XE.go (st_sld (pc' := 2779) (by decide +kernel) rfl g1369.1 g1369.2) ?_
  refine XE.go (st_aload_n (j := 3) (i := 3) (pc' := 2780) (by decide +kernel) rfl rfl (by decide) rfl) ?_
  refine XE.asc ?_
  refine XE.cW1 (pc' := 2783) (st := []) (fun r hr => ct_L_member r hr) (fun r hr => run_S (st := []) (by decide +kernel) co_L_law_279 (ct_L_member r hr) rfl rfl (Nat.le_of_ble_eq_true rfl)) rfl rfl (fun r1370 => ?_)
  refine XE.go (st_istore (j := 5) (pc' := 2785) (by decide +kernel)  rfl (by decide) rfl rfl) ?_
  refine XE.go (st_aload_n (j := 2) (i := 2) (pc' := 2786) (by decide +kernel) rfl rfl (by decide) rfl) ?_
  refine XE.go (st_aload_n (j := 0) (i := 0) (pc' := 2787) (by decide +kernel) rfl rfl (by decide) rfl) ?_
  refine XE.go (st_iload (j := 4) (pc' := 2789) (by decide +kernel) rfl rfl) ?_
  refine XE.go (st_iconst (n := 1) (pc' := 2790) (by decide +kernel) (w_eq (by decide) (by decide)) rfl) ?_
  refine XE.go (st_iadd (pc' := 2791) (by decide +kernel) rfl) ?_
  refine XE.gdb (fun g1371 => ?_)
  refine XE.go (st_sld (pc' := 2792) (by decide +kernel) rfl g1371.1 g1371.2) ?_
  refine XE.go (st_aload_n (j := 0) (i := 0) (pc' := 2793) (by decide +kernel) rfl rfl (by decide) rfl) ?_
  refine XE.go (st_iload (j := 4) (pc' := 2795) (by decide +kernel) rfl rfl) ?_
  refine XE.go (st_iconst (n := 2) (pc' := 2796) (by decide +kernel) (w_eq (by decide) (by decide)) rfl) ?_
  refine XE.go (st_iadd (pc' := 2797) (by decide +kernel) rfl) ?_
  refine XE.gdb (fun g1372 => ?_)
  refine XE.go (st_sld (pc' := 2798) (by decide +kernel) rfl g1372.1 g1372.2) ?_
  refine XE.go (st_aload_n (j := 0) (i := 0) (pc' := 2799) (by decide +kernel) rfl rfl (by decide) rfl) ?_
  refine XE.go (st_iload (j := 4) (pc' := 2801) (by decide +kernel) rfl rfl) ?_
  refine XE.go (st_iconst (n := 3) (pc' := 2802) (by decide +kernel) (w_eq (by decide) (by decide)) rfl) ?_
  refine XE.go (st_iadd (pc' := 2803) (by decide +kernel) rfl) ?_
  refine XE.gdb (fun g1373 => ?_)
  refine XE.go (st_sld (pc' := 2804) (by decide +kernel) rfl g1373.1 g1373.2) ?_
  refine XE.asc ?_
  refine XE.cW (pc' := 2807) (st := []) (fun r hr => ct_X11_member h5 r hr) (fun r hr => run_V (st := []) (by decide +kernel) co_L_law_281 (ct_X11_member h5 r hr) rfl h5 rfl rfl (Nat.le_of_ble_eq_true rfl)) rfl rfl (fun r1374 => ?_)
  refine XE.go (st_istore (j := 6) (pc' := 2809) (by decide +kernel)  rfl (by decide) rfl rfl) ?_
  refine XE.go (st_aload_n (j := 2) (i := 2) (pc' := 2810) (by decide +kernel) rfl rfl (by decide) rfl) ?_
  refine XE.asc ?_
  refine XE.cP (pc' := 2813) (st := []) (fun r hr => ct_X11_thrown h5 r hr) (fun r hr => run_V (st := []) (by decide +kernel) co_L_law_165 (ct_X11_thrown h5 r hr) rfl h5 rfl rfl (Nat.le_of_ble_eq_true rfl)) rfl rfl (fun r1375 => ?_)
  refine XE.go (st_iload (j := 5) (pc' := 2815) (by decide +kernel) rfl rfl) ?_
  refine XE.bite (fun h1376 => ?_) (fun h1377 => ?_)
  · refine XE.go (st_icmp_eq_t (off := 5) (pc' := 2820) (by decide +kernel) (by decide) h1376) ?_
    refine XE.go (st_iload (j := 5) (pc' := 2822) (by decide +kernel) rfl rfl) ?_
    refine XE.bite (fun h1378 => ?_) (fun h1379 => ?_)
    · refine XE.go (st_if_ne_f (off := 15) (pc' := 2825) (by decide +kernel) 2837 (by decide) rfl (not_not_intro h1378)) ?_
      refine XE.go (st_aload_n (j := 3) (i := 3) (pc' := 2826) (by decide +kernel) rfl rfl (by decide) rfl) ?_
      refine XE.go (st_iconst (n := 0) (pc' := 2827) (by decide +kernel) (w_eq (by decide) (by decide)) rfl) ?_
      refine XE.gdb (fun g1380 => ?_)
      refine XE.go (st_ald (k := 15) (tp := 2) (pc' := 2828) (by decide +kernel) rfl ak_15 rfl (by decide) rfl (Or.inr (Or.inr (Or.inl ⟨rfl, rfl⟩))) g1380.1 g1380.2.1 g1380.2.2) ?_
      refine XE.go (st_iload (j := 6) (pc' := 2830) (by decide +kernel) rfl rfl) ?_
      refine XE.go (st_i2l (pc' := 2831) (by decide +kernel) rfl) ?_
      refine XE.go (st_lcmp (pc' := 2832) (by decide +kernel) rfl) ?_
      refine XE.bite (fun h1381 => ?_) (fun h1382 => ?_)
      · refine XE.go (st_if_eq_t (off := 5) (pc' := 2837) (by decide +kernel) (by decide) h1381) ?_
        refine XE.go (st_goto (off := 511) (pc' := 3348) (by decide +kernel) (by decide)) ?_
        refine XE.go (st_iinc (j := 4) (n := 6) (pc' := 3351) (by decide +kernel) rfl rfl (by decide) rfl rfl) ?_
        refine XE.go (st_goto (off := (-3328)) (pc' := 23) (by decide +kernel) (by decide)) ?_
        exact XE.pick [3, 4, 5, 6, 0] rfl (hc760 ((w (s9.1 + 6)), r1374.2))
      · refine XE.go (st_if_eq_f (off := 5) (pc' := 2835) (by decide +kernel) 2837 (by decide) rfl h1382) ?_
        refine XE.go (st_iconst (n := 0) (pc' := 2836) (by decide +kernel) (w_eq (by decide) (by decide)) rfl) ?_
        refine XE.cast (hx762 _) ?_
        exact XE.rt rfl (X_zret (by decide +kernel) rfl (by decide))
    · refine XE.go (st_if_ne_t (off := 15) (pc' := 2837) (by decide +kernel) (by decide) h1379) ?_
      refine XE.go (st_goto (off := 511) (pc' := 3348) (by decide +kernel) (by decide)) ?_
      refine XE.go (st_iinc (j := 4) (n := 6) (pc' := 3351) (by decide +kernel) rfl rfl (by decide) rfl rfl) ?_
      refine XE.go (st_goto (off := (-3328)) (pc' := 23) (by decide +kernel) (by decide)) ?_
      exact XE.pick [3, 4, 5, 6, 0] rfl (hc760 ((w (s9.1 + 6)), r1374.2))
  · refine XE.go (st_icmp_eq_f (off := 5) (pc' := 2818) (by decide +kernel) 2820 (by decide) rfl h1377) ?_
    refine XE.go (st_iconst (n := 0) (pc' := 2819) (by decide +kernel) (w_eq (by decide) (by decide)) rfl) ?_
    refine XE.cast (hx762 _) ?_
    exact XE.rt rfl (X_zret (by decide +kernel) rfl (by decide))

set_option maxRecDepth 100000 in
set_option maxHeartbeats 4000000 in
theorem cx_L_37 {D : Dt} {kp : Nat} {kk763 : (Int × Mm) ⊕ ((Int × Mm) ⊕ Mm) → Option (Int × Mm)} (hx762 : ∀ y : Int × Mm, kk763 (.inr (.inl y)) = some y) (hc760 : ∀ s9 : Int × Mm, XE D kp mu_L_law (EW 0) 23 [(0, (100, (-1))), (1, (14, 11000)), (2, (15, 12000)), (3, (18, 15000)), (4, (0, s9.1))] [] s9.2 (kk763 (.inl s9))) (s9 : Int × Mm) : XE D (kp + 1) mu_L_law (EW 0) 2840 [(0, (100, (-1))), (1, (14, 11000)), (2, (15, 12000)), (3, (18, 15000)), (4, (0, s9.1))] [] s9.2 ((c_L_37 s9 (D.2.2.2.2.2.1 : Int) (fun i : Int => (D.2.2.2.2.2.2 i.toNat).toInt)).bind kk763) := by
  have h2 : (11000 : Int) ≠ 0 := by decide
  have h5 : (12000 : Int) ≠ 0 := by decide
  have h8 : (15000 : Int) ≠ 0 := by decide
  unfold c_L_37
  refine XE.go (st_aload_n (j := 1) (i := 1) (pc' := 2841) (by decide +kernel) rfl rfl (by decide) rfl) ?_
  refine XE.go (st_aload_n (j := 0) (i := 0) (pc' := 2842) (by decide +kernel) rfl rfl (by decide) rfl) ?_
  refine XE.go (st_iload (j := 4) (pc' := 2844) (by decide +kernel) rfl rfl) ?_
  refine XE.go (st_iconst (n := 1) (pc' := 2845) (by decide +kernel) (w_eq (by decide) (by decide)) rfl) ?_
  refine XE.go (st_iadd (pc' := 2846) (by decide +kernel) rfl) ?_
  refine XE.gdb (fun g1385 => ?_)
  refine XE.go (st_sld (pc' := 2847) (by decide +kernel) rfl g1385.1 g1385.2) ?_
  refine XE.go (st_aload_n (j := 0) (i := 0) (pc' := 2848) (by decide +kernel) rfl rfl (by decide) rfl) ?_
  refine XE.go (st_iload (j := 4) (pc' := 2850) (by decide +kernel) rfl rfl) ?_
  refine XE.go (st_iconst (n := 2) (pc' := 2851) (by decide +kernel) (w_eq (by decide) (by decide)) rfl) ?_
  refine XE.go (st_iadd (pc' := 2852) (by decide +kernel) rfl) ?_
  refine XE.gdb (fun g1386 => ?_)
  refine XE.go (st_sld (pc' := 2853) (by decide +kernel) rfl g1386.1 g1386.2) ?_
  refine XE.go (st_aload_n (j := 0) (i := 0) (pc' := 2854) (by decide +kernel) rfl rfl (by decide) rfl) ?_
  refine XE.go (st_iload (j := 4) (pc' := 2856) (by decide +kernel) rfl rfl) ?_
  refine XE.go (st_iconst (n := 3) (pc' := 2857) (by decide +kernel) (w_eq (by decide) (by decide)) rfl) ?_
  refine XE.go (st_iadd (pc' := 2858) (by decide +kernel) rfl) ?_
  refine XE.gdb (fun g1387 => ?_)
  refine XE.go (st_sld (pc' := 2859) (by decide +kernel) rfl g1387.1 g1387.2) ?_
  refine XE.go (st_aload_n (j := 0) (i := 0) (pc' := 2860) (by decide +kernel) rfl rfl (by decide) rfl) ?_
  refine XE.go (st_iload (j := 4) (pc' := 2862) (by decide +kernel) rfl rfl) ?_
  refine XE.go (st_iconst (n := 4) (pc' := 2863) (by decide +kernel) (w_eq (by decide) (by decide)) rfl) ?_
  refine XE.go (st_iadd (pc' := 2864) (by decide +kernel) rfl) ?_
  refine XE.gdb (fun g1388 => ?_)
  refine XE.go (st_sld (pc' := 2865) (by decide +kernel) rfl g1388.1 g1388.2) ?_
  refine XE.go (st_aload_n (j := 3) (i := 3) (pc' := 2866) (by decide +kernel) rfl rfl (by decide) rfl) ?_
  refine XE.asc ?_
  refine XE.cW1 (pc' := 2869) (st := []) (fun r hr => ct_L_hand r hr) (fun r hr => run_S (st := []) (by decide +kernel) co_L_law_282 (ct_L_hand r hr) rfl rfl (Nat.le_of_ble_eq_true rfl)) rfl rfl (fun r1389 => ?_)
  refine XE.go (st_istore (j := 5) (pc' := 2871) (by decide +kernel)  rfl (by decide) rfl rfl) ?_
  refine XE.go (st_aload_n (j := 2) (i := 2) (pc' := 2872) (by decide +kernel) rfl rfl (by decide) rfl) ?_
  refine XE.go (st_aload_n (j := 0) (i := 0) (pc' := 2873) (by decide +kernel) rfl rfl (by decide) rfl) ?_
  refine XE.go (st_iload (j := 4) (pc' := 2875) (by decide +kernel) rfl rfl) ?_
  refine XE.go (st_iconst (n := 1) (pc' := 2876) (by decide +kernel) (w_eq (by decide) (by decide)) rfl) ?_
  refine XE.go (st_iadd (pc' := 2877) (by decide +kernel) rfl) ?_
  refine XE.gdb (fun g1390 => ?_)
  refine XE.go (st_sld (pc' := 2878) (by decide +kernel) rfl g1390.1 g1390.2) ?_
  refine XE.go (st_aload_n (j := 0) (i := 0) (pc' := 2879) (by decide +kernel) rfl rfl (by decide) rfl) ?_
  refine XE.go (st_iload (j := 4) (pc' := 2881) (by decide +kernel) rfl rfl) ?_
  refine XE.go (st_iconst (n := 2) (pc' := 2882) (by decide +kernel) (w_eq (by decide) (by decide)) rfl) ?_
  refine XE.go (st_iadd (pc' := 2883) (by decide +kernel) rfl) ?_
  refine XE.gdb (fun g1391 => ?_)
  refine XE.go (st_sld (pc' := 2884) (by decide +kernel) rfl g1391.1 g1391.2) ?_
  refine XE.go (st_aload_n (j := 0) (i := 0) (pc' := 2885) (by decide +kernel) rfl rfl (by decide) rfl) ?_
  refine XE.go (st_iload (j := 4) (pc' := 2887) (by decide +kernel) rfl rfl) ?_
  refine XE.go (st_iconst (n := 3) (pc' := 2888) (by decide +kernel) (w_eq (by decide) (by decide)) rfl) ?_
  refine XE.go (st_iadd (pc' := 2889) (by decide +kernel) rfl) ?_
  refine XE.gdb (fun g1392 => ?_)
  refine XE.go (st_sld (pc' := 2890) (by decide +kernel) rfl g1392.1 g1392.2) ?_
  refine XE.go (st_aload_n (j := 0) (i := 0) (pc' := 2891) (by decide +kernel) rfl rfl (by decide) rfl) ?_
  refine XE.go (st_iload (j := 4) (pc' := 2893) (by decide +kernel) rfl rfl) ?_
  refine XE.go (st_iconst (n := 4) (pc' := 2894) (by decide +kernel) (w_eq (by decide) (by decide)) rfl) ?_
  refine XE.go (st_iadd (pc' := 2895) (by decide +kernel) rfl) ?_
  refine XE.gdb (fun g1393 => ?_)
  refine XE.go (st_sld (pc' := 2896) (by decide +kernel) rfl g1393.1 g1393.2) ?_
  refine XE.asc ?_
  refine XE.cW (pc' := 2899) (st := []) (fun r hr => ct_X11_hand h5 r hr) (fun r hr => run_V (st := []) (by decide +kernel) co_L_law_284 (ct_X11_hand h5 r hr) rfl h5 rfl rfl (Nat.le_of_ble_eq_true rfl)) rfl rfl (fun r1394 => ?_)
  refine XE.go (st_istore (j := 6) (pc' := 2901) (by decide +kernel)  rfl (by decide) rfl rfl) ?_
  refine XE.go (st_aload_n (j := 2) (i := 2) (pc' := 2902) (by decide +kernel) rfl rfl (by decide) rfl) ?_
  refine XE.asc ?_
  refine XE.cP (pc' := 2905) (st := []) (fun r hr => ct_X11_thrown h5 r hr) (fun r hr => run_V (st := []) (by decide +kernel) co_L_law_165 (ct_X11_thrown h5 r hr) rfl h5 rfl rfl (Nat.le_of_ble_eq_true rfl)) rfl rfl (fun r1395 => ?_)
  refine XE.go (st_iload (j := 5) (pc' := 2907) (by decide +kernel) rfl rfl) ?_
  refine XE.bite (fun h1396 => ?_) (fun h1397 => ?_)
  · refine XE.go (st_icmp_eq_t (off := 5) (pc' := 2912) (by decide +kernel) (by decide) h1396) ?_
    refine XE.go (st_iload (j := 5) (pc' := 2914) (by decide +kernel) rfl rfl) ?_
    refine XE.bite (fun h1398 => ?_) (fun h1399 => ?_)
    · refine XE.go (st_if_ne_f (off := 15) (pc' := 2917) (by decide +kernel) 2929 (by decide) rfl (not_not_intro h1398)) ?_
      refine XE.go (st_aload_n (j := 3) (i := 3) (pc' := 2918) (by decide +kernel) rfl rfl (by decide) rfl) ?_
      refine XE.go (st_iconst (n := 0) (pc' := 2919) (by decide +kernel) (w_eq (by decide) (by decide)) rfl) ?_
      refine XE.gdb (fun g1400 => ?_)
      refine XE.go (st_ald (k := 15) (tp := 2) (pc' := 2920) (by decide +kernel) rfl ak_15 rfl (by decide) rfl (Or.inr (Or.inr (Or.inl ⟨rfl, rfl⟩))) g1400.1 g1400.2.1 g1400.2.2) ?_
      refine XE.go (st_iload (j := 6) (pc' := 2922) (by decide +kernel) rfl rfl) ?_
      refine XE.go (st_i2l (pc' := 2923) (by decide +kernel) rfl) ?_
      refine XE.go (st_lcmp (pc' := 2924) (by decide +kernel) rfl) ?_
      refine XE.bite (fun h1401 => ?_) (fun h1402 => ?_)
      · refine XE.go (st_if_eq_t (off := 5) (pc' := 2929) (by decide +kernel) (by decide) h1401) ?_
        refine XE.go (st_goto (off := 419) (pc' := 3348) (by decide +kernel) (by decide)) ?_
        refine XE.go (st_iinc (j := 4) (n := 6) (pc' := 3351) (by decide +kernel) rfl rfl (by decide) rfl rfl) ?_
        refine XE.go (st_goto (off := (-3328)) (pc' := 23) (by decide +kernel) (by decide)) ?_
        exact XE.pick [3, 4, 5, 6, 0] rfl (hc760 ((w (s9.1 + 6)), r1394.2))
      · refine XE.go (st_if_eq_f (off := 5) (pc' := 2927) (by decide +kernel) 2929 (by decide) rfl h1402) ?_
        refine XE.go (st_iconst (n := 0) (pc' := 2928) (by decide +kernel) (w_eq (by decide) (by decide)) rfl) ?_
        refine XE.cast (hx762 _) ?_
        exact XE.rt rfl (X_zret (by decide +kernel) rfl (by decide))
    · refine XE.go (st_if_ne_t (off := 15) (pc' := 2929) (by decide +kernel) (by decide) h1399) ?_
      refine XE.go (st_goto (off := 419) (pc' := 3348) (by decide +kernel) (by decide)) ?_
      refine XE.go (st_iinc (j := 4) (n := 6) (pc' := 3351) (by decide +kernel) rfl rfl (by decide) rfl rfl) ?_
      refine XE.go (st_goto (off := (-3328)) (pc' := 23) (by decide +kernel) (by decide)) ?_
      exact XE.pick [3, 4, 5, 6, 0] rfl (hc760 ((w (s9.1 + 6)), r1394.2))
  · refine XE.go (st_icmp_eq_f (off := 5) (pc' := 2910) (by decide +kernel) 2912 (by decide) rfl h1397) ?_
    refine XE.go (st_iconst (n := 0) (pc' := 2911) (by decide +kernel) (w_eq (by decide) (by decide)) rfl) ?_
    refine XE.cast (hx762 _) ?_
    exact XE.rt rfl (X_zret (by decide +kernel) rfl (by decide))

set_option maxRecDepth 100000 in
set_option maxHeartbeats 4000000 in
theorem cx_L_38 {D : Dt} {kp : Nat} {kk763 : (Int × Mm) ⊕ ((Int × Mm) ⊕ Mm) → Option (Int × Mm)} (hx762 : ∀ y : Int × Mm, kk763 (.inr (.inl y)) = some y) (hc760 : ∀ s9 : Int × Mm, XE D kp mu_L_law (EW 0) 23 [(0, (100, (-1))), (1, (14, 11000)), (2, (15, 12000)), (3, (18, 15000)), (4, (0, s9.1))] [] s9.2 (kk763 (.inl s9))) (s9 : Int × Mm) : XE D (kp + 1) mu_L_law (EW 0) 2932 [(0, (100, (-1))), (1, (14, 11000)), (2, (15, 12000)), (3, (18, 15000)), (4, (0, s9.1))] [] s9.2 ((c_L_38 s9 (D.2.2.2.2.2.1 : Int) (fun i : Int => (D.2.2.2.2.2.2 i.toNat).toInt)).bind kk763) := by
  have h2 : (11000 : Int) ≠ 0 := by decide
  have h5 : (12000 : Int) ≠ 0 := by decide
  have h8 : (15000 : Int) ≠ 0 := by decide
  unfold c_L_38
  refine XE.go (st_aload_n (j := 1) (i := 1) (pc' := 2933) (by decide +kernel) rfl rfl (by decide) rfl) ?_
  refine XE.go (st_aload_n (j := 0) (i := 0) (pc' := 2934) (by decide +kernel) rfl rfl (by decide) rfl) ?_
  refine XE.go (st_iload (j := 4) (pc' := 2936) (by decide +kernel) rfl rfl) ?_
  refine XE.go (st_iconst (n := 1) (pc' := 2937) (by decide +kernel) (w_eq (by decide) (by decide)) rfl) ?_
  refine XE.go (st_iadd (pc' := 2938) (by decide +kernel) rfl) ?_
  refine XE.gdb (fun g1405 => ?_)
  refine XE.go (st_sld (pc' := 2939) (by decide +kernel) rfl g1405.1 g1405.2) ?_
  refine XE.go (st_aload_n (j := 0) (i := 0) (pc' := 2940) (by decide +kernel) rfl rfl (by decide) rfl) ?_
  refine XE.go (st_iload (j := 4) (pc' := 2942) (by decide +kernel) rfl rfl) ?_
  refine XE.go (st_iconst (n := 2) (pc' := 2943) (by decide +kernel) (w_eq (by decide) (by decide)) rfl) ?_
  refine XE.go (st_iadd (pc' := 2944) (by decide +kernel) rfl) ?_
  refine XE.gdb (fun g1406 => ?_)
  refine XE.go (st_sld (pc' := 2945) (by decide +kernel) rfl g1406.1 g1406.2) ?_
  refine XE.go (st_aload_n (j := 0) (i := 0) (pc' := 2946) (by decide +kernel) rfl rfl (by decide) rfl) ?_
  refine XE.go (st_iload (j := 4) (pc' := 2948) (by decide +kernel) rfl rfl) ?_
  refine XE.go (st_iconst (n := 3) (pc' := 2949) (by decide +kernel) (w_eq (by decide) (by decide)) rfl) ?_
  refine XE.go (st_iadd (pc' := 2950) (by decide +kernel) rfl) ?_
  refine XE.gdb (fun g1407 => ?_)
  refine XE.go (st_sld (pc' := 2951) (by decide +kernel) rfl g1407.1 g1407.2) ?_
  refine XE.go (st_aload_n (j := 3) (i := 3) (pc' := 2952) (by decide +kernel) rfl rfl (by decide) rfl) ?_
  refine XE.asc ?_
  refine XE.cW1 (pc' := 2955) (st := []) (fun r hr => ct_L_waits r hr) (fun r hr => run_S (st := []) (by decide +kernel) co_L_law_285 (ct_L_waits r hr) rfl rfl (Nat.le_of_ble_eq_true rfl)) rfl rfl (fun r1408 => ?_)
  refine XE.go (st_istore (j := 5) (pc' := 2957) (by decide +kernel)  rfl (by decide) rfl rfl) ?_
  refine XE.go (st_aload_n (j := 2) (i := 2) (pc' := 2958) (by decide +kernel) rfl rfl (by decide) rfl) ?_
  refine XE.go (st_aload_n (j := 0) (i := 0) (pc' := 2959) (by decide +kernel) rfl rfl (by decide) rfl) ?_
  refine XE.go (st_iload (j := 4) (pc' := 2961) (by decide +kernel) rfl rfl) ?_
  refine XE.go (st_iconst (n := 1) (pc' := 2962) (by decide +kernel) (w_eq (by decide) (by decide)) rfl) ?_
  refine XE.go (st_iadd (pc' := 2963) (by decide +kernel) rfl) ?_
  refine XE.gdb (fun g1409 => ?_)
  refine XE.go (st_sld (pc' := 2964) (by decide +kernel) rfl g1409.1 g1409.2) ?_
  refine XE.go (st_aload_n (j := 0) (i := 0) (pc' := 2965) (by decide +kernel) rfl rfl (by decide) rfl) ?_
  refine XE.go (st_iload (j := 4) (pc' := 2967) (by decide +kernel) rfl rfl) ?_
  refine XE.go (st_iconst (n := 2) (pc' := 2968) (by decide +kernel) (w_eq (by decide) (by decide)) rfl) ?_
  refine XE.go (st_iadd (pc' := 2969) (by decide +kernel) rfl) ?_
  refine XE.gdb (fun g1410 => ?_)
  refine XE.go (st_sld (pc' := 2970) (by decide +kernel) rfl g1410.1 g1410.2) ?_
  refine XE.go (st_aload_n (j := 0) (i := 0) (pc' := 2971) (by decide +kernel) rfl rfl (by decide) rfl) ?_
  refine XE.go (st_iload (j := 4) (pc' := 2973) (by decide +kernel) rfl rfl) ?_
  refine XE.go (st_iconst (n := 3) (pc' := 2974) (by decide +kernel) (w_eq (by decide) (by decide)) rfl) ?_
  refine XE.go (st_iadd (pc' := 2975) (by decide +kernel) rfl) ?_
  refine XE.gdb (fun g1411 => ?_)
  refine XE.go (st_sld (pc' := 2976) (by decide +kernel) rfl g1411.1 g1411.2) ?_
  refine XE.asc ?_
  refine XE.cW (pc' := 2979) (st := []) (fun r hr => ct_X11_waits h5 r hr) (fun r hr => run_V (st := []) (by decide +kernel) co_L_law_287 (ct_X11_waits h5 r hr) rfl h5 rfl rfl (Nat.le_of_ble_eq_true rfl)) rfl rfl (fun r1412 => ?_)
  refine XE.go (st_istore (j := 6) (pc' := 2981) (by decide +kernel)  rfl (by decide) rfl rfl) ?_
  refine XE.go (st_aload_n (j := 2) (i := 2) (pc' := 2982) (by decide +kernel) rfl rfl (by decide) rfl) ?_
  refine XE.asc ?_
  refine XE.cP (pc' := 2985) (st := []) (fun r hr => ct_X11_thrown h5 r hr) (fun r hr => run_V (st := []) (by decide +kernel) co_L_law_165 (ct_X11_thrown h5 r hr) rfl h5 rfl rfl (Nat.le_of_ble_eq_true rfl)) rfl rfl (fun r1413 => ?_)
  refine XE.go (st_iload (j := 5) (pc' := 2987) (by decide +kernel) rfl rfl) ?_
  refine XE.bite (fun h1414 => ?_) (fun h1415 => ?_)
  · refine XE.go (st_icmp_eq_t (off := 5) (pc' := 2992) (by decide +kernel) (by decide) h1414) ?_
    refine XE.go (st_iload (j := 5) (pc' := 2994) (by decide +kernel) rfl rfl) ?_
    refine XE.bite (fun h1416 => ?_) (fun h1417 => ?_)
    · refine XE.go (st_if_ne_f (off := 15) (pc' := 2997) (by decide +kernel) 3009 (by decide) rfl (not_not_intro h1416)) ?_
      refine XE.go (st_aload_n (j := 3) (i := 3) (pc' := 2998) (by decide +kernel) rfl rfl (by decide) rfl) ?_
      refine XE.go (st_iconst (n := 0) (pc' := 2999) (by decide +kernel) (w_eq (by decide) (by decide)) rfl) ?_
      refine XE.gdb (fun g1418 => ?_)
      refine XE.go (st_ald (k := 15) (tp := 2) (pc' := 3000) (by decide +kernel) rfl ak_15 rfl (by decide) rfl (Or.inr (Or.inr (Or.inl ⟨rfl, rfl⟩))) g1418.1 g1418.2.1 g1418.2.2) ?_
      refine XE.go (st_iload (j := 6) (pc' := 3002) (by decide +kernel) rfl rfl) ?_
      refine XE.go (st_i2l (pc' := 3003) (by decide +kernel) rfl) ?_
      refine XE.go (st_lcmp (pc' := 3004) (by decide +kernel) rfl) ?_
      refine XE.bite (fun h1419 => ?_) (fun h1420 => ?_)
      · refine XE.go (st_if_eq_t (off := 5) (pc' := 3009) (by decide +kernel) (by decide) h1419) ?_
        refine XE.go (st_goto (off := 339) (pc' := 3348) (by decide +kernel) (by decide)) ?_
        refine XE.go (st_iinc (j := 4) (n := 6) (pc' := 3351) (by decide +kernel) rfl rfl (by decide) rfl rfl) ?_
        refine XE.go (st_goto (off := (-3328)) (pc' := 23) (by decide +kernel) (by decide)) ?_
        exact XE.pick [3, 4, 5, 6, 0] rfl (hc760 ((w (s9.1 + 6)), r1412.2))
      · refine XE.go (st_if_eq_f (off := 5) (pc' := 3007) (by decide +kernel) 3009 (by decide) rfl h1420) ?_
        refine XE.go (st_iconst (n := 0) (pc' := 3008) (by decide +kernel) (w_eq (by decide) (by decide)) rfl) ?_
        refine XE.cast (hx762 _) ?_
        exact XE.rt rfl (X_zret (by decide +kernel) rfl (by decide))
    · refine XE.go (st_if_ne_t (off := 15) (pc' := 3009) (by decide +kernel) (by decide) h1417) ?_
      refine XE.go (st_goto (off := 339) (pc' := 3348) (by decide +kernel) (by decide)) ?_
      refine XE.go (st_iinc (j := 4) (n := 6) (pc' := 3351) (by decide +kernel) rfl rfl (by decide) rfl rfl) ?_
      refine XE.go (st_goto (off := (-3328)) (pc' := 23) (by decide +kernel) (by decide)) ?_
      exact XE.pick [3, 4, 5, 6, 0] rfl (hc760 ((w (s9.1 + 6)), r1412.2))
  · refine XE.go (st_icmp_eq_f (off := 5) (pc' := 2990) (by decide +kernel) 2992 (by decide) rfl h1415) ?_
    refine XE.go (st_iconst (n := 0) (pc' := 2991) (by decide +kernel) (w_eq (by decide) (by decide)) rfl) ?_
    refine XE.cast (hx762 _) ?_
    exact XE.rt rfl (X_zret (by decide +kernel) rfl (by decide))

set_option maxRecDepth 100000 in
set_option maxHeartbeats 4000000 in
theorem cx_L_39 {D : Dt} {kp : Nat} {kk763 : (Int × Mm) ⊕ ((Int × Mm) ⊕ Mm) → Option (Int × Mm)} (hx762 : ∀ y : Int × Mm, kk763 (.inr (.inl y)) = some y) (hc760 : ∀ s9 : Int × Mm, XE D kp mu_L_law (EW 0) 23 [(0, (100, (-1))), (1, (14, 11000)), (2, (15, 12000)), (3, (18, 15000)), (4, (0, s9.1))] [] s9.2 (kk763 (.inl s9))) (s9 : Int × Mm) : XE D (kp + 1) mu_L_law (EW 0) 3012 [(0, (100, (-1))), (1, (14, 11000)), (2, (15, 12000)), (3, (18, 15000)), (4, (0, s9.1))] [] s9.2 ((c_L_39 s9 (D.2.2.2.2.2.1 : Int) (fun i : Int => (D.2.2.2.2.2.2 i.toNat).toInt)).bind kk763) := by
  have h2 : (11000 : Int) ≠ 0 := by decide
  have h5 : (12000 : Int) ≠ 0 := by decide
  have h8 : (15000 : Int) ≠ 0 := by decide
  unfold c_L_39
  refine XE.go (st_aload_n (j := 1) (i := 1) (pc' := 3013) (by decide +kernel) rfl rfl (by decide) rfl) ?_
  refine XE.go (st_aload_n (j := 0) (i := 0) (pc' := 3014) (by decide +kernel) rfl rfl (by decide) rfl) ?_
  refine XE.go (st_iload (j := 4) (pc' := 3016) (by decide +kernel) rfl rfl) ?_
  refine XE.go (st_iconst (n := 1) (pc' := 3017) (by decide +kernel) (w_eq (by decide) (by decide)) rfl) ?_
  refine XE.go (st_iadd (pc' := 3018) (by decide +kernel) rfl) ?_
  refine XE.gdb (fun g1423 => ?_)
  refine XE.go (st_sld (pc' := 3019) (by decide +kernel) rfl g1423.1 g1423.2) ?_
  refine XE.go (st_aload_n (j := 0) (i := 0) (pc' := 3020) (by decide +kernel) rfl rfl (by decide) rfl) ?_
  refine XE.go (st_iload (j := 4) (pc' := 3022) (by decide +kernel) rfl rfl) ?_
  refine XE.go (st_iconst (n := 2) (pc' := 3023) (by decide +kernel) (w_eq (by decide) (by decide)) rfl) ?_
  refine XE.go (st_iadd (pc' := 3024) (by decide +kernel) rfl) ?_
  refine XE.gdb (fun g1424 => ?_)
  refine XE.go (st_sld (pc' := 3025) (by decide +kernel) rfl g1424.1 g1424.2) ?_
  refine XE.go (st_aload_n (j := 3) (i := 3) (pc' := 3026) (by decide +kernel) rfl rfl (by decide) rfl) ?_
  refine XE.asc ?_
  refine XE.cW1 (pc' := 3029) (st := []) (fun r hr => ct_L_dead r hr) (fun r hr => run_S (st := []) (by decide +kernel) co_L_law_288 (ct_L_dead r hr) rfl rfl (Nat.le_of_ble_eq_true rfl)) rfl rfl (fun r1425 => ?_)
  refine XE.go (st_istore (j := 5) (pc' := 3031) (by decide +kernel)  rfl (by decide) rfl rfl) ?_
  refine XE.go (st_aload_n (j := 2) (i := 2) (pc' := 3032) (by decide +kernel) rfl rfl (by decide) rfl) ?_
  refine XE.go (st_aload_n (j := 0) (i := 0) (pc' := 3033) (by decide +kernel) rfl rfl (by decide) rfl) ?_
  refine XE.go (st_iload (j := 4) (pc' := 3035) (by decide +kernel) rfl rfl) ?_
  refine XE.go (st_iconst (n := 1) (pc' := 3036) (by decide +kernel) (w_eq (by decide) (by decide)) rfl) ?_
  refine XE.go (st_iadd (pc' := 3037) (by decide +kernel) rfl) ?_
  refine XE.gdb (fun g1426 => ?_)
  refine XE.go (st_sld (pc' := 3038) (by decide +kernel) rfl g1426.1 g1426.2) ?_
  refine XE.go (st_aload_n (j := 0) (i := 0) (pc' := 3039) (by decide +kernel) rfl rfl (by decide) rfl) ?_
  refine XE.go (st_iload (j := 4) (pc' := 3041) (by decide +kernel) rfl rfl) ?_
  refine XE.go (st_iconst (n := 2) (pc' := 3042) (by decide +kernel) (w_eq (by decide) (by decide)) rfl) ?_
  refine XE.go (st_iadd (pc' := 3043) (by decide +kernel) rfl) ?_
  refine XE.gdb (fun g1427 => ?_)
  refine XE.go (st_sld (pc' := 3044) (by decide +kernel) rfl g1427.1 g1427.2) ?_
  refine XE.asc ?_
  refine XE.cW (pc' := 3047) (st := []) (fun r hr => ct_X11_dead h5 r hr) (fun r hr => run_V (st := []) (by decide +kernel) co_L_law_290 (ct_X11_dead h5 r hr) rfl h5 rfl rfl (Nat.le_of_ble_eq_true rfl)) rfl rfl (fun r1428 => ?_)
  refine XE.go (st_istore (j := 6) (pc' := 3049) (by decide +kernel)  rfl (by decide) rfl rfl) ?_
  refine XE.go (st_aload_n (j := 2) (i := 2) (pc' := 3050) (by decide +kernel) rfl rfl (by decide) rfl) ?_
  refine XE.asc ?_
  refine XE.cP (pc' := 3053) (st := []) (fun r hr => ct_X11_thrown h5 r hr) (fun r hr => run_V (st := []) (by decide +kernel) co_L_law_165 (ct_X11_thrown h5 r hr) rfl h5 rfl rfl (Nat.le_of_ble_eq_true rfl)) rfl rfl (fun r1429 => ?_)
  refine XE.go (st_iload (j := 5) (pc' := 3055) (by decide +kernel) rfl rfl) ?_
  refine XE.bite (fun h1430 => ?_) (fun h1431 => ?_)
  · refine XE.go (st_icmp_eq_t (off := 5) (pc' := 3060) (by decide +kernel) (by decide) h1430) ?_
    refine XE.go (st_iload (j := 5) (pc' := 3062) (by decide +kernel) rfl rfl) ?_
    refine XE.bite (fun h1432 => ?_) (fun h1433 => ?_)
    · refine XE.go (st_if_ne_f (off := 15) (pc' := 3065) (by decide +kernel) 3077 (by decide) rfl (not_not_intro h1432)) ?_
      refine XE.go (st_aload_n (j := 3) (i := 3) (pc' := 3066) (by decide +kernel) rfl rfl (by decide) rfl) ?_
      refine XE.go (st_iconst (n := 0) (pc' := 3067) (by decide +kernel) (w_eq (by decide) (by decide)) rfl) ?_
      refine XE.gdb (fun g1434 => ?_)
      refine XE.go (st_ald (k := 15) (tp := 2) (pc' := 3068) (by decide +kernel) rfl ak_15 rfl (by decide) rfl (Or.inr (Or.inr (Or.inl ⟨rfl, rfl⟩))) g1434.1 g1434.2.1 g1434.2.2) ?_
      refine XE.go (st_iload (j := 6) (pc' := 3070) (by decide +kernel) rfl rfl) ?_
      refine XE.go (st_i2l (pc' := 3071) (by decide +kernel) rfl) ?_
      refine XE.go (st_lcmp (pc' := 3072) (by decide +kernel) rfl) ?_
      refine XE.bite (fun h1435 => ?_) (fun h1436 => ?_)
      · refine XE.go (st_if_eq_t (off := 5) (pc' := 3077) (by decide +kernel) (by decide) h1435) ?_
        refine XE.go (st_goto (off := 271) (pc' := 3348) (by decide +kernel) (by decide)) ?_
        refine XE.go (st_iinc (j := 4) (n := 6) (pc' := 3351) (by decide +kernel) rfl rfl (by decide) rfl rfl) ?_
        refine XE.go (st_goto (off := (-3328)) (pc' := 23) (by decide +kernel) (by decide)) ?_
        exact XE.pick [3, 4, 5, 6, 0] rfl (hc760 ((w (s9.1 + 6)), r1428.2))
      · refine XE.go (st_if_eq_f (off := 5) (pc' := 3075) (by decide +kernel) 3077 (by decide) rfl h1436) ?_
        refine XE.go (st_iconst (n := 0) (pc' := 3076) (by decide +kernel) (w_eq (by decide) (by decide)) rfl) ?_
        refine XE.cast (hx762 _) ?_
        exact XE.rt rfl (X_zret (by decide +kernel) rfl (by decide))
    · refine XE.go (st_if_ne_t (off := 15) (pc' := 3077) (by decide +kernel) (by decide) h1433) ?_
      refine XE.go (st_goto (off := 271) (pc' := 3348) (by decide +kernel) (by decide)) ?_
      refine XE.go (st_iinc (j := 4) (n := 6) (pc' := 3351) (by decide +kernel) rfl rfl (by decide) rfl rfl) ?_
      refine XE.go (st_goto (off := (-3328)) (pc' := 23) (by decide +kernel) (by decide)) ?_
      exact XE.pick [3, 4, 5, 6, 0] rfl (hc760 ((w (s9.1 + 6)), r1428.2))
  · refine XE.go (st_icmp_eq_f (off := 5) (pc' := 3058) (by decide +kernel) 3060 (by decide) rfl h1431) ?_
    refine XE.go (st_iconst (n := 0) (pc' := 3059) (by decide +kernel) (w_eq (by decide) (by decide)) rfl) ?_
    refine XE.cast (hx762 _) ?_
    exact XE.rt rfl (X_zret (by decide +kernel) rfl (by decide))

set_option maxRecDepth 100000 in
set_option maxHeartbeats 4000000 in
theorem cx_L_40 {D : Dt} {kp : Nat} {kk763 : (Int × Mm) ⊕ ((Int × Mm) ⊕ Mm) → Option (Int × Mm)} (hx762 : ∀ y : Int × Mm, kk763 (.inr (.inl y)) = some y) (hc760 : ∀ s9 : Int × Mm, XE D kp mu_L_law (EW 0) 23 [(0, (100, (-1))), (1, (14, 11000)), (2, (15, 12000)), (3, (18, 15000)), (4, (0, s9.1))] [] s9.2 (kk763 (.inl s9))) (s9 : Int × Mm) : XE D (kp + 1) mu_L_law (EW 0) 3080 [(0, (100, (-1))), (1, (14, 11000)), (2, (15, 12000)), (3, (18, 15000)), (4, (0, s9.1))] [] s9.2 ((c_L_40 s9 (D.2.2.2.2.2.1 : Int) (fun i : Int => (D.2.2.2.2.2.2 i.toNat).toInt)).bind kk763) := by
  have h2 : (11000 : Int) ≠ 0 := by decide
  have h5 : (12000 : Int) ≠ 0 := by decide
  have h8 : (15000 : Int) ≠ 0 := by decide
  unfold c_L_40
  refine XE.go (st_aload_n (j := 1) (i := 1) (pc' := 3081) (by decide +kernel) rfl rfl (by decide) rfl) ?_
  refine XE.go (st_aload_n (j := 0) (i := 0) (pc' := 3082) (by decide +kernel) rfl rfl (by decide) rfl) ?_
  refine XE.go (st_iload (j := 4) (pc' := 3084) (by decide +kernel) rfl rfl) ?_
  refine XE.go (st_iconst (n := 1) (pc' := 3085) (by decide +kernel) (w_eq (by decide) (by decide)) rfl) ?_
  refine XE.go (st_iadd (pc' := 3086) (by decide +kernel) rfl) ?_
  refine XE.gdb (fun g1439 => ?_)
  refine XE.go (st_sld (pc' := 3087) (by decide +kernel) rfl g1439.1 g1439.2) ?_
  refine XE.go (st_aload_n (j := 0) (i := 0) (pc' := 3088) (by decide +kernel) rfl rfl (by decide) rfl) ?_
  refine XE.go (st_iload (j := 4) (pc' := 3090) (by decide +kernel) rfl rfl) ?_
  refine XE.go (st_iconst (n := 2) (pc' := 3091) (by decide +kernel) (w_eq (by decide) (by decide)) rfl) ?_
  refine XE.go (st_iadd (pc' := 3092) (by decide +kernel) rfl) ?_
  refine XE.gdb (fun g1440 => ?_)
  refine XE.go (st_sld (pc' := 3093) (by decide +kernel) rfl g1440.1 g1440.2) ?_
  refine XE.go (st_aload_n (j := 3) (i := 3) (pc' := 3094) (by decide +kernel) rfl rfl (by decide) rfl) ?_
  refine XE.asc ?_
  refine XE.cW1 (pc' := 3097) (st := []) (fun r hr => ct_L_seen r hr) (fun r hr => run_S (st := []) (by decide +kernel) co_L_law_291 (ct_L_seen r hr) rfl rfl (Nat.le_of_ble_eq_true rfl)) rfl rfl (fun r1441 => ?_)
  refine XE.go (st_istore (j := 5) (pc' := 3099) (by decide +kernel)  rfl (by decide) rfl rfl) ?_
  refine XE.go (st_aload_n (j := 2) (i := 2) (pc' := 3100) (by decide +kernel) rfl rfl (by decide) rfl) ?_
  refine XE.go (st_aload_n (j := 0) (i := 0) (pc' := 3101) (by decide +kernel) rfl rfl (by decide) rfl) ?_
  refine XE.go (st_iload (j := 4) (pc' := 3103) (by decide +kernel) rfl rfl) ?_
  refine XE.go (st_iconst (n := 1) (pc' := 3104) (by decide +kernel) (w_eq (by decide) (by decide)) rfl) ?_
  refine XE.go (st_iadd (pc' := 3105) (by decide +kernel) rfl) ?_
  refine XE.gdb (fun g1442 => ?_)
  refine XE.go (st_sld (pc' := 3106) (by decide +kernel) rfl g1442.1 g1442.2) ?_
  refine XE.go (st_aload_n (j := 0) (i := 0) (pc' := 3107) (by decide +kernel) rfl rfl (by decide) rfl) ?_
  refine XE.go (st_iload (j := 4) (pc' := 3109) (by decide +kernel) rfl rfl) ?_
  refine XE.go (st_iconst (n := 2) (pc' := 3110) (by decide +kernel) (w_eq (by decide) (by decide)) rfl) ?_
  refine XE.go (st_iadd (pc' := 3111) (by decide +kernel) rfl) ?_
  refine XE.gdb (fun g1443 => ?_)
  refine XE.go (st_sld (pc' := 3112) (by decide +kernel) rfl g1443.1 g1443.2) ?_
  refine XE.asc ?_
  refine XE.cW (pc' := 3115) (st := []) (fun r hr => ct_X11_seen h5 r hr) (fun r hr => run_V (st := []) (by decide +kernel) co_L_law_293 (ct_X11_seen h5 r hr) rfl h5 rfl rfl (Nat.le_of_ble_eq_true rfl)) rfl rfl (fun r1444 => ?_)
  refine XE.go (st_istore (j := 6) (pc' := 3117) (by decide +kernel)  rfl (by decide) rfl rfl) ?_
  refine XE.go (st_aload_n (j := 2) (i := 2) (pc' := 3118) (by decide +kernel) rfl rfl (by decide) rfl) ?_
  refine XE.asc ?_
  refine XE.cP (pc' := 3121) (st := []) (fun r hr => ct_X11_thrown h5 r hr) (fun r hr => run_V (st := []) (by decide +kernel) co_L_law_165 (ct_X11_thrown h5 r hr) rfl h5 rfl rfl (Nat.le_of_ble_eq_true rfl)) rfl rfl (fun r1445 => ?_)
  refine XE.go (st_iload (j := 5) (pc' := 3123) (by decide +kernel) rfl rfl) ?_
  refine XE.bite (fun h1446 => ?_) (fun h1447 => ?_)
  · refine XE.go (st_icmp_eq_t (off := 5) (pc' := 3128) (by decide +kernel) (by decide) h1446) ?_
    refine XE.go (st_iload (j := 5) (pc' := 3130) (by decide +kernel) rfl rfl) ?_
    refine XE.bite (fun h1448 => ?_) (fun h1449 => ?_)
    · refine XE.go (st_if_ne_f (off := 15) (pc' := 3133) (by decide +kernel) 3145 (by decide) rfl (not_not_intro h1448)) ?_
      refine XE.go (st_aload_n (j := 3) (i := 3) (pc' := 3134) (by decide +kernel) rfl rfl (by decide) rfl) ?_
      refine XE.go (st_iconst (n := 0) (pc' := 3135) (by decide +kernel) (w_eq (by decide) (by decide)) rfl) ?_
      refine XE.gdb (fun g1450 => ?_)
      refine XE.go (st_ald (k := 15) (tp := 2) (pc' := 3136) (by decide +kernel) rfl ak_15 rfl (by decide) rfl (Or.inr (Or.inr (Or.inl ⟨rfl, rfl⟩))) g1450.1 g1450.2.1 g1450.2.2) ?_
      refine XE.go (st_iload (j := 6) (pc' := 3138) (by decide +kernel) rfl rfl) ?_
      refine XE.go (st_i2l (pc' := 3139) (by decide +kernel) rfl) ?_
      refine XE.go (st_lcmp (pc' := 3140) (by decide +kernel) rfl) ?_
      refine XE.bite (fun h1451 => ?_) (fun h1452 => ?_)
      · refine XE.go (st_if_eq_t (off := 5) (pc' := 3145) (by decide +kernel) (by decide) h1451) ?_
        refine XE.go (st_goto (off := 203) (pc' := 3348) (by decide +kernel) (by decide)) ?_
        refine XE.go (st_iinc (j := 4) (n := 6) (pc' := 3351) (by decide +kernel) rfl rfl (by decide) rfl rfl) ?_
        refine XE.go (st_goto (off := (-3328)) (pc' := 23) (by decide +kernel) (by decide)) ?_
        exact XE.pick [3, 4, 5, 6, 0] rfl (hc760 ((w (s9.1 + 6)), r1444.2))
      · refine XE.go (st_if_eq_f (off := 5) (pc' := 3143) (by decide +kernel) 3145 (by decide) rfl h1452) ?_
        refine XE.go (st_iconst (n := 0) (pc' := 3144) (by decide +kernel) (w_eq (by decide) (by decide)) rfl) ?_
        refine XE.cast (hx762 _) ?_
        exact XE.rt rfl (X_zret (by decide +kernel) rfl (by decide))
    · refine XE.go (st_if_ne_t (off := 15) (pc' := 3145) (by decide +kernel) (by decide) h1449) ?_
      refine XE.go (st_goto (off := 203) (pc' := 3348) (by decide +kernel) (by decide)) ?_
      refine XE.go (st_iinc (j := 4) (n := 6) (pc' := 3351) (by decide +kernel) rfl rfl (by decide) rfl rfl) ?_
      refine XE.go (st_goto (off := (-3328)) (pc' := 23) (by decide +kernel) (by decide)) ?_
      exact XE.pick [3, 4, 5, 6, 0] rfl (hc760 ((w (s9.1 + 6)), r1444.2))
  · refine XE.go (st_icmp_eq_f (off := 5) (pc' := 3126) (by decide +kernel) 3128 (by decide) rfl h1447) ?_
    refine XE.go (st_iconst (n := 0) (pc' := 3127) (by decide +kernel) (w_eq (by decide) (by decide)) rfl) ?_
    refine XE.cast (hx762 _) ?_
    exact XE.rt rfl (X_zret (by decide +kernel) rfl (by decide))

set_option maxRecDepth 100000 in
set_option maxHeartbeats 4000000 in
theorem cx_L_41 {D : Dt} {kp : Nat} {kk763 : (Int × Mm) ⊕ ((Int × Mm) ⊕ Mm) → Option (Int × Mm)} (hx762 : ∀ y : Int × Mm, kk763 (.inr (.inl y)) = some y) (hc760 : ∀ s9 : Int × Mm, XE D kp mu_L_law (EW 0) 23 [(0, (100, (-1))), (1, (14, 11000)), (2, (15, 12000)), (3, (18, 15000)), (4, (0, s9.1))] [] s9.2 (kk763 (.inl s9))) (s9 : Int × Mm) : XE D (kp + 1) mu_L_law (EW 0) 3148 [(0, (100, (-1))), (1, (14, 11000)), (2, (15, 12000)), (3, (18, 15000)), (4, (0, s9.1))] [] s9.2 ((c_L_41 s9 (D.2.2.2.2.2.1 : Int) (fun i : Int => (D.2.2.2.2.2.2 i.toNat).toInt)).bind kk763) := by
  have h2 : (11000 : Int) ≠ 0 := by decide
  have h5 : (12000 : Int) ≠ 0 := by decide
  have h8 : (15000 : Int) ≠ 0 := by decide
  unfold c_L_41
  refine XE.go (st_aload_n (j := 1) (i := 1) (pc' := 3149) (by decide +kernel) rfl rfl (by decide) rfl) ?_
  refine XE.go (st_aload_n (j := 0) (i := 0) (pc' := 3150) (by decide +kernel) rfl rfl (by decide) rfl) ?_
  refine XE.go (st_iload (j := 4) (pc' := 3152) (by decide +kernel) rfl rfl) ?_
  refine XE.go (st_iconst (n := 1) (pc' := 3153) (by decide +kernel) (w_eq (by decide) (by decide)) rfl) ?_
  refine XE.go (st_iadd (pc' := 3154) (by decide +kernel) rfl) ?_
  refine XE.gdb (fun g1455 => ?_)
  refine XE.go (st_sld (pc' := 3155) (by decide +kernel) rfl g1455.1 g1455.2) ?_
  refine XE.go (st_aload_n (j := 3) (i := 3) (pc' := 3156) (by decide +kernel) rfl rfl (by decide) rfl) ?_
  refine XE.asc ?_
  refine XE.cW1 (pc' := 3159) (st := []) (fun r hr => ct_L_count r hr) (fun r hr => run_S (st := []) (by decide +kernel) co_L_law_294 (ct_L_count r hr) rfl rfl (Nat.le_of_ble_eq_true rfl)) rfl rfl (fun r1456 => ?_)
  refine XE.go (st_istore (j := 5) (pc' := 3161) (by decide +kernel)  rfl (by decide) rfl rfl) ?_
  refine XE.go (st_aload_n (j := 2) (i := 2) (pc' := 3162) (by decide +kernel) rfl rfl (by decide) rfl) ?_
  refine XE.go (st_aload_n (j := 0) (i := 0) (pc' := 3163) (by decide +kernel) rfl rfl (by decide) rfl) ?_
  refine XE.go (st_iload (j := 4) (pc' := 3165) (by decide +kernel) rfl rfl) ?_
  refine XE.go (st_iconst (n := 1) (pc' := 3166) (by decide +kernel) (w_eq (by decide) (by decide)) rfl) ?_
  refine XE.go (st_iadd (pc' := 3167) (by decide +kernel) rfl) ?_
  refine XE.gdb (fun g1457 => ?_)
  refine XE.go (st_sld (pc' := 3168) (by decide +kernel) rfl g1457.1 g1457.2) ?_
  refine XE.asc ?_
  refine XE.cW (pc' := 3171) (st := []) (fun r hr => ct_X11_count h5 r hr) (fun r hr => run_V (st := []) (by decide +kernel) co_L_law_296 (ct_X11_count h5 r hr) rfl h5 rfl rfl (Nat.le_of_ble_eq_true rfl)) rfl rfl (fun r1458 => ?_)
  refine XE.go (st_istore (j := 6) (pc' := 3173) (by decide +kernel)  rfl (by decide) rfl rfl) ?_
  refine XE.go (st_aload_n (j := 2) (i := 2) (pc' := 3174) (by decide +kernel) rfl rfl (by decide) rfl) ?_
  refine XE.asc ?_
  refine XE.cP (pc' := 3177) (st := []) (fun r hr => ct_X11_thrown h5 r hr) (fun r hr => run_V (st := []) (by decide +kernel) co_L_law_165 (ct_X11_thrown h5 r hr) rfl h5 rfl rfl (Nat.le_of_ble_eq_true rfl)) rfl rfl (fun r1459 => ?_)
  refine XE.go (st_iload (j := 5) (pc' := 3179) (by decide +kernel) rfl rfl) ?_
  refine XE.bite (fun h1460 => ?_) (fun h1461 => ?_)
  · refine XE.go (st_icmp_eq_t (off := 5) (pc' := 3184) (by decide +kernel) (by decide) h1460) ?_
    refine XE.go (st_iload (j := 5) (pc' := 3186) (by decide +kernel) rfl rfl) ?_
    refine XE.bite (fun h1462 => ?_) (fun h1463 => ?_)
    · refine XE.go (st_if_ne_f (off := 15) (pc' := 3189) (by decide +kernel) 3201 (by decide) rfl (not_not_intro h1462)) ?_
      refine XE.go (st_aload_n (j := 3) (i := 3) (pc' := 3190) (by decide +kernel) rfl rfl (by decide) rfl) ?_
      refine XE.go (st_iconst (n := 0) (pc' := 3191) (by decide +kernel) (w_eq (by decide) (by decide)) rfl) ?_
      refine XE.gdb (fun g1464 => ?_)
      refine XE.go (st_ald (k := 15) (tp := 2) (pc' := 3192) (by decide +kernel) rfl ak_15 rfl (by decide) rfl (Or.inr (Or.inr (Or.inl ⟨rfl, rfl⟩))) g1464.1 g1464.2.1 g1464.2.2) ?_
      refine XE.go (st_iload (j := 6) (pc' := 3194) (by decide +kernel) rfl rfl) ?_
      refine XE.go (st_i2l (pc' := 3195) (by decide +kernel) rfl) ?_
      refine XE.go (st_lcmp (pc' := 3196) (by decide +kernel) rfl) ?_
      refine XE.bite (fun h1465 => ?_) (fun h1466 => ?_)
      · refine XE.go (st_if_eq_t (off := 5) (pc' := 3201) (by decide +kernel) (by decide) h1465) ?_
        refine XE.go (st_goto (off := 147) (pc' := 3348) (by decide +kernel) (by decide)) ?_
        refine XE.go (st_iinc (j := 4) (n := 6) (pc' := 3351) (by decide +kernel) rfl rfl (by decide) rfl rfl) ?_
        refine XE.go (st_goto (off := (-3328)) (pc' := 23) (by decide +kernel) (by decide)) ?_
        exact XE.pick [3, 4, 5, 6, 0] rfl (hc760 ((w (s9.1 + 6)), r1458.2))
      · refine XE.go (st_if_eq_f (off := 5) (pc' := 3199) (by decide +kernel) 3201 (by decide) rfl h1466) ?_
        refine XE.go (st_iconst (n := 0) (pc' := 3200) (by decide +kernel) (w_eq (by decide) (by decide)) rfl) ?_
        refine XE.cast (hx762 _) ?_
        exact XE.rt rfl (X_zret (by decide +kernel) rfl (by decide))
    · refine XE.go (st_if_ne_t (off := 15) (pc' := 3201) (by decide +kernel) (by decide) h1463) ?_
      refine XE.go (st_goto (off := 147) (pc' := 3348) (by decide +kernel) (by decide)) ?_
      refine XE.go (st_iinc (j := 4) (n := 6) (pc' := 3351) (by decide +kernel) rfl rfl (by decide) rfl rfl) ?_
      refine XE.go (st_goto (off := (-3328)) (pc' := 23) (by decide +kernel) (by decide)) ?_
      exact XE.pick [3, 4, 5, 6, 0] rfl (hc760 ((w (s9.1 + 6)), r1458.2))
  · refine XE.go (st_icmp_eq_f (off := 5) (pc' := 3182) (by decide +kernel) 3184 (by decide) rfl h1461) ?_
    refine XE.go (st_iconst (n := 0) (pc' := 3183) (by decide +kernel) (w_eq (by decide) (by decide)) rfl) ?_
    refine XE.cast (hx762 _) ?_
    exact XE.rt rfl (X_zret (by decide +kernel) rfl (by decide))

set_option maxRecDepth 100000 in
set_option maxHeartbeats 4000000 in
theorem cx_L_42 {D : Dt} {kp : Nat} {kk763 : (Int × Mm) ⊕ ((Int × Mm) ⊕ Mm) → Option (Int × Mm)} (hx762 : ∀ y : Int × Mm, kk763 (.inr (.inl y)) = some y) (hc760 : ∀ s9 : Int × Mm, XE D kp mu_L_law (EW 0) 23 [(0, (100, (-1))), (1, (14, 11000)), (2, (15, 12000)), (3, (18, 15000)), (4, (0, s9.1))] [] s9.2 (kk763 (.inl s9))) (s9 : Int × Mm) : XE D (kp + 1) mu_L_law (EW 0) 3204 [(0, (100, (-1))), (1, (14, 11000)), (2, (15, 12000)), (3, (18, 15000)), (4, (0, s9.1))] [] s9.2 ((c_L_42 s9 (D.2.2.2.2.2.1 : Int) (fun i : Int => (D.2.2.2.2.2.2 i.toNat).toInt)).bind kk763) := by
  have h2 : (11000 : Int) ≠ 0 := by decide
  have h5 : (12000 : Int) ≠ 0 := by decide
  have h8 : (15000 : Int) ≠ 0 := by decide
  unfold c_L_42
  refine XE.go (st_aload_n (j := 1) (i := 1) (pc' := 3205) (by decide +kernel) rfl rfl (by decide) rfl) ?_
  refine XE.go (st_aload_n (j := 0) (i := 0) (pc' := 3206) (by decide +kernel) rfl rfl (by decide) rfl) ?_
  refine XE.go (st_iload (j := 4) (pc' := 3208) (by decide +kernel) rfl rfl) ?_
  refine XE.go (st_iconst (n := 1) (pc' := 3209) (by decide +kernel) (w_eq (by decide) (by decide)) rfl) ?_
  refine XE.go (st_iadd (pc' := 3210) (by decide +kernel) rfl) ?_
  refine XE.gdb (fun g1469 => ?_)
  refine XE.go (st_sld (pc' := 3211) (by decide +kernel) rfl g1469.1 g1469.2) ?_
  refine XE.go (st_aload_n (j := 0) (i := 0) (pc' := 3212) (by decide +kernel) rfl rfl (by decide) rfl) ?_
  refine XE.go (st_iload (j := 4) (pc' := 3214) (by decide +kernel) rfl rfl) ?_
  refine XE.go (st_iconst (n := 2) (pc' := 3215) (by decide +kernel) (w_eq (by decide) (by decide)) rfl) ?_
  refine XE.go (st_iadd (pc' := 3216) (by decide +kernel) rfl) ?_
  refine XE.gdb (fun g1470 => ?_)
  refine XE.go (st_sld (pc' := 3217) (by decide +kernel) rfl g1470.1 g1470.2) ?_
  refine XE.go (st_aload_n (j := 3) (i := 3) (pc' := 3218) (by decide +kernel) rfl rfl (by decide) rfl) ?_
  refine XE.asc ?_
  refine XE.cW1 (pc' := 3221) (st := []) (fun r hr => ct_L_ofGroup r hr) (fun r hr => run_S (st := []) (by decide +kernel) co_L_law_297 (ct_L_ofGroup r hr) rfl rfl (Nat.le_of_ble_eq_true rfl)) rfl rfl (fun r1471 => ?_)
  refine XE.go (st_istore (j := 5) (pc' := 3223) (by decide +kernel)  rfl (by decide) rfl rfl) ?_
  refine XE.go (st_aload_n (j := 2) (i := 2) (pc' := 3224) (by decide +kernel) rfl rfl (by decide) rfl) ?_
  refine XE.go (st_aload_n (j := 0) (i := 0) (pc' := 3225) (by decide +kernel) rfl rfl (by decide) rfl) ?_
  refine XE.go (st_iload (j := 4) (pc' := 3227) (by decide +kernel) rfl rfl) ?_
  refine XE.go (st_iconst (n := 1) (pc' := 3228) (by decide +kernel) (w_eq (by decide) (by decide)) rfl) ?_
  refine XE.go (st_iadd (pc' := 3229) (by decide +kernel) rfl) ?_
  refine XE.gdb (fun g1472 => ?_)
  refine XE.go (st_sld (pc' := 3230) (by decide +kernel) rfl g1472.1 g1472.2) ?_
  refine XE.go (st_aload_n (j := 0) (i := 0) (pc' := 3231) (by decide +kernel) rfl rfl (by decide) rfl) ?_
  refine XE.go (st_iload (j := 4) (pc' := 3233) (by decide +kernel) rfl rfl) ?_
  refine XE.go (st_iconst (n := 2) (pc' := 3234) (by decide +kernel) (w_eq (by decide) (by decide)) rfl) ?_
  refine XE.go (st_iadd (pc' := 3235) (by decide +kernel) rfl) ?_
  refine XE.gdb (fun g1473 => ?_)
  refine XE.go (st_sld (pc' := 3236) (by decide +kernel) rfl g1473.1 g1473.2) ?_
  refine XE.asc ?_
  refine XE.cW (pc' := 3239) (st := []) (fun r hr => ct_X11_ofGroup h5 r hr) (fun r hr => run_V (st := []) (by decide +kernel) co_L_law_299 (ct_X11_ofGroup h5 r hr) rfl h5 rfl rfl (Nat.le_of_ble_eq_true rfl)) rfl rfl (fun r1474 => ?_)
  refine XE.go (st_istore (j := 6) (pc' := 3241) (by decide +kernel)  rfl (by decide) rfl rfl) ?_
  refine XE.go (st_aload_n (j := 2) (i := 2) (pc' := 3242) (by decide +kernel) rfl rfl (by decide) rfl) ?_
  refine XE.asc ?_
  refine XE.cP (pc' := 3245) (st := []) (fun r hr => ct_X11_thrown h5 r hr) (fun r hr => run_V (st := []) (by decide +kernel) co_L_law_165 (ct_X11_thrown h5 r hr) rfl h5 rfl rfl (Nat.le_of_ble_eq_true rfl)) rfl rfl (fun r1475 => ?_)
  refine XE.go (st_iload (j := 5) (pc' := 3247) (by decide +kernel) rfl rfl) ?_
  refine XE.bite (fun h1476 => ?_) (fun h1477 => ?_)
  · refine XE.go (st_icmp_eq_t (off := 5) (pc' := 3252) (by decide +kernel) (by decide) h1476) ?_
    refine XE.go (st_iload (j := 5) (pc' := 3254) (by decide +kernel) rfl rfl) ?_
    refine XE.bite (fun h1478 => ?_) (fun h1479 => ?_)
    · refine XE.go (st_if_ne_f (off := 15) (pc' := 3257) (by decide +kernel) 3269 (by decide) rfl (not_not_intro h1478)) ?_
      refine XE.go (st_aload_n (j := 3) (i := 3) (pc' := 3258) (by decide +kernel) rfl rfl (by decide) rfl) ?_
      refine XE.go (st_iconst (n := 0) (pc' := 3259) (by decide +kernel) (w_eq (by decide) (by decide)) rfl) ?_
      refine XE.gdb (fun g1480 => ?_)
      refine XE.go (st_ald (k := 15) (tp := 2) (pc' := 3260) (by decide +kernel) rfl ak_15 rfl (by decide) rfl (Or.inr (Or.inr (Or.inl ⟨rfl, rfl⟩))) g1480.1 g1480.2.1 g1480.2.2) ?_
      refine XE.go (st_iload (j := 6) (pc' := 3262) (by decide +kernel) rfl rfl) ?_
      refine XE.go (st_i2l (pc' := 3263) (by decide +kernel) rfl) ?_
      refine XE.go (st_lcmp (pc' := 3264) (by decide +kernel) rfl) ?_
      refine XE.bite (fun h1481 => ?_) (fun h1482 => ?_)
      · refine XE.go (st_if_eq_t (off := 5) (pc' := 3269) (by decide +kernel) (by decide) h1481) ?_
        refine XE.go (st_goto (off := 79) (pc' := 3348) (by decide +kernel) (by decide)) ?_
        refine XE.go (st_iinc (j := 4) (n := 6) (pc' := 3351) (by decide +kernel) rfl rfl (by decide) rfl rfl) ?_
        refine XE.go (st_goto (off := (-3328)) (pc' := 23) (by decide +kernel) (by decide)) ?_
        exact XE.pick [3, 4, 5, 6, 0] rfl (hc760 ((w (s9.1 + 6)), r1474.2))
      · refine XE.go (st_if_eq_f (off := 5) (pc' := 3267) (by decide +kernel) 3269 (by decide) rfl h1482) ?_
        refine XE.go (st_iconst (n := 0) (pc' := 3268) (by decide +kernel) (w_eq (by decide) (by decide)) rfl) ?_
        refine XE.cast (hx762 _) ?_
        exact XE.rt rfl (X_zret (by decide +kernel) rfl (by decide))
    · refine XE.go (st_if_ne_t (off := 15) (pc' := 3269) (by decide +kernel) (by decide) h1479) ?_
      refine XE.go (st_goto (off := 79) (pc' := 3348) (by decide +kernel) (by decide)) ?_
      refine XE.go (st_iinc (j := 4) (n := 6) (pc' := 3351) (by decide +kernel) rfl rfl (by decide) rfl rfl) ?_
      refine XE.go (st_goto (off := (-3328)) (pc' := 23) (by decide +kernel) (by decide)) ?_
      exact XE.pick [3, 4, 5, 6, 0] rfl (hc760 ((w (s9.1 + 6)), r1474.2))
  · refine XE.go (st_icmp_eq_f (off := 5) (pc' := 3250) (by decide +kernel) 3252 (by decide) rfl h1477) ?_
    refine XE.go (st_iconst (n := 0) (pc' := 3251) (by decide +kernel) (w_eq (by decide) (by decide)) rfl) ?_
    refine XE.cast (hx762 _) ?_
    exact XE.rt rfl (X_zret (by decide +kernel) rfl (by decide))

set_option maxRecDepth 100000 in
set_option maxHeartbeats 4000000 in
theorem cx_L_43 {D : Dt} {kp : Nat} {kk763 : (Int × Mm) ⊕ ((Int × Mm) ⊕ Mm) → Option (Int × Mm)} (hx762 : ∀ y : Int × Mm, kk763 (.inr (.inl y)) = some y) (hc760 : ∀ s9 : Int × Mm, XE D kp mu_L_law (EW 0) 23 [(0, (100, (-1))), (1, (14, 11000)), (2, (15, 12000)), (3, (18, 15000)), (4, (0, s9.1))] [] s9.2 (kk763 (.inl s9))) (s9 : Int × Mm) : XE D (kp + 1) mu_L_law (EW 0) 3272 [(0, (100, (-1))), (1, (14, 11000)), (2, (15, 12000)), (3, (18, 15000)), (4, (0, s9.1))] [] s9.2 ((c_L_43 s9 (D.2.2.2.2.2.1 : Int) (fun i : Int => (D.2.2.2.2.2.2 i.toNat).toInt)).bind kk763) := by
  have h2 : (11000 : Int) ≠ 0 := by decide
  have h5 : (12000 : Int) ≠ 0 := by decide
  have h8 : (15000 : Int) ≠ 0 := by decide
  unfold c_L_43
  refine XE.go (st_aload_n (j := 1) (i := 1) (pc' := 3273) (by decide +kernel) rfl rfl (by decide) rfl) ?_
  refine XE.go (st_aload_n (j := 0) (i := 0) (pc' := 3274) (by decide +kernel) rfl rfl (by decide) rfl) ?_
  refine XE.go (st_iload (j := 4) (pc' := 3276) (by decide +kernel) rfl rfl) ?_
  refine XE.go (st_iconst (n := 1) (pc' := 3277) (by decide +kernel) (w_eq (by decide) (by decide)) rfl) ?_
  refine XE.go (st_iadd (pc' := 3278) (by decide +kernel) rfl) ?_
  refine XE.gdb (fun g1485 => ?_)
  refine XE.go (st_sld (pc' := 3279) (by decide +kernel) rfl g1485.1 g1485.2) ?_
  refine XE.go (st_aload_n (j := 3) (i := 3) (pc' := 3280) (by decide +kernel) rfl rfl (by decide) rfl) ?_
  refine XE.asc ?_
  refine XE.cW1 (pc' := 3283) (st := []) (fun r hr => ct_L_audit r hr) (fun r hr => run_S (st := []) (by decide +kernel) co_L_law_300 (ct_L_audit r hr) rfl rfl (Nat.le_of_ble_eq_true rfl)) rfl rfl (fun r1486 => ?_)
  refine XE.go (st_istore (j := 5) (pc' := 3285) (by decide +kernel)  rfl (by decide) rfl rfl) ?_
  refine XE.go (st_aload_n (j := 2) (i := 2) (pc' := 3286) (by decide +kernel) rfl rfl (by decide) rfl) ?_
  refine XE.go (st_aload_n (j := 0) (i := 0) (pc' := 3287) (by decide +kernel) rfl rfl (by decide) rfl) ?_
  refine XE.go (st_iload (j := 4) (pc' := 3289) (by decide +kernel) rfl rfl) ?_
  refine XE.go (st_iconst (n := 1) (pc' := 3290) (by decide +kernel) (w_eq (by decide) (by decide)) rfl) ?_
  refine XE.go (st_iadd (pc' := 3291) (by decide +kernel) rfl) ?_
  refine XE.gdb (fun g1487 => ?_)
  refine XE.go (st_sld (pc' := 3292) (by decide +kernel) rfl g1487.1 g1487.2) ?_
  refine XE.asc ?_
  refine XE.cW (pc' := 3295) (st := []) (fun r hr => ct_X11_audit h5 r hr) (fun r hr => run_V (st := []) (by decide +kernel) co_L_law_302 (ct_X11_audit h5 r hr) rfl h5 rfl rfl (Nat.le_of_ble_eq_true rfl)) rfl rfl (fun r1488 => ?_)
  refine XE.go (st_istore (j := 6) (pc' := 3297) (by decide +kernel)  rfl (by decide) rfl rfl) ?_
  refine XE.go (st_aload_n (j := 2) (i := 2) (pc' := 3298) (by decide +kernel) rfl rfl (by decide) rfl) ?_
  refine XE.asc ?_
  refine XE.cP (pc' := 3301) (st := []) (fun r hr => ct_X11_thrown h5 r hr) (fun r hr => run_V (st := []) (by decide +kernel) co_L_law_165 (ct_X11_thrown h5 r hr) rfl h5 rfl rfl (Nat.le_of_ble_eq_true rfl)) rfl rfl (fun r1489 => ?_)
  refine XE.go (st_iload (j := 5) (pc' := 3303) (by decide +kernel) rfl rfl) ?_
  refine XE.bite (fun h1490 => ?_) (fun h1491 => ?_)
  · refine XE.go (st_icmp_eq_t (off := 5) (pc' := 3308) (by decide +kernel) (by decide) h1490) ?_
    refine XE.go (st_iload (j := 5) (pc' := 3310) (by decide +kernel) rfl rfl) ?_
    refine XE.bite (fun h1492 => ?_) (fun h1493 => ?_)
    · refine XE.go (st_if_ne_f (off := 22) (pc' := 3313) (by decide +kernel) 3332 (by decide) rfl (not_not_intro h1492)) ?_
      refine XE.go (st_aload_n (j := 3) (i := 3) (pc' := 3314) (by decide +kernel) rfl rfl (by decide) rfl) ?_
      refine XE.go (st_iconst (n := 0) (pc' := 3315) (by decide +kernel) (w_eq (by decide) (by decide)) rfl) ?_
      refine XE.gdb (fun g1494 => ?_)
      refine XE.go (st_ald (k := 15) (tp := 2) (pc' := 3316) (by decide +kernel) rfl ak_15 rfl (by decide) rfl (Or.inr (Or.inr (Or.inl ⟨rfl, rfl⟩))) g1494.1 g1494.2.1 g1494.2.2) ?_
      refine XE.go (st_iload (j := 6) (pc' := 3318) (by decide +kernel) rfl rfl) ?_
      refine XE.asc ?_
      refine XE.join (pcJ := 3326) (LJ := fun (s1495 : Int) => [(0, (100, (-1))), (1, (14, 11000)), (2, (15, 12000)), (3, (18, 15000)), (4, (0, s9.1))]) (sJ := fun (s1495 : Int) => [(2, s1495), (2, (rd r1488.2 15000 0))]) (MJ := fun (s1495 : Int) => r1488.2) (fun kk1498 hk1496 => ?_) (fun s1495 => ?_)
      · refine XE.bite (fun h1499 => ?_) (fun h1500 => ?_)
        · refine XE.go (st_if_eq_t (off := 7) (pc' := 3325) (by decide +kernel) (by decide) h1499) ?_
          refine XE.go (st_lconst (n := 0) (z := 0) (pc' := 3326) (by decide +kernel) (by decide) (by decide) rfl) ?_
          exact XE.pick [2, 3, 4, 5, 6] rfl (hk1496 0)
        · refine XE.go (st_if_eq_f (off := 7) (pc' := 3321) (by decide +kernel) 3325 (by decide) rfl h1500) ?_
          refine XE.go (st_lconst (n := 1) (z := 1) (pc' := 3322) (by decide +kernel) (by decide) (by decide) rfl) ?_
          refine XE.go (st_goto (off := 4) (pc' := 3326) (by decide +kernel) (by decide)) ?_
          exact XE.pick [2, 3, 4, 5, 6] rfl (hk1496 1)
      · refine XE.go (st_lcmp (pc' := 3327) (by decide +kernel) rfl) ?_
        refine XE.bite (fun h1501 => ?_) (fun h1502 => ?_)
        · refine XE.go (st_if_eq_t (off := 5) (pc' := 3332) (by decide +kernel) (by decide) h1501) ?_
          refine XE.go (st_goto (off := 16) (pc' := 3348) (by decide +kernel) (by decide)) ?_
          refine XE.go (st_iinc (j := 4) (n := 6) (pc' := 3351) (by decide +kernel) rfl rfl (by decide) rfl rfl) ?_
          refine XE.go (st_goto (off := (-3328)) (pc' := 23) (by decide +kernel) (by decide)) ?_
          exact XE.pick [1, 2, 3, 4, 0] rfl (hc760 ((w (s9.1 + 6)), r1488.2))
        · refine XE.go (st_if_eq_f (off := 5) (pc' := 3330) (by decide +kernel) 3332 (by decide) rfl h1502) ?_
          refine XE.go (st_iconst (n := 0) (pc' := 3331) (by decide +kernel) (w_eq (by decide) (by decide)) rfl) ?_
          refine XE.cast (hx762 _) ?_
          exact XE.rt rfl (X_zret (by decide +kernel) rfl (by decide))
    · refine XE.go (st_if_ne_t (off := 22) (pc' := 3332) (by decide +kernel) (by decide) h1493) ?_
      refine XE.go (st_goto (off := 16) (pc' := 3348) (by decide +kernel) (by decide)) ?_
      refine XE.go (st_iinc (j := 4) (n := 6) (pc' := 3351) (by decide +kernel) rfl rfl (by decide) rfl rfl) ?_
      refine XE.go (st_goto (off := (-3328)) (pc' := 23) (by decide +kernel) (by decide)) ?_
      exact XE.pick [3, 4, 5, 6, 0] rfl (hc760 ((w (s9.1 + 6)), r1488.2))
  · refine XE.go (st_icmp_eq_f (off := 5) (pc' := 3306) (by decide +kernel) 3308 (by decide) rfl h1491) ?_
    refine XE.go (st_iconst (n := 0) (pc' := 3307) (by decide +kernel) (w_eq (by decide) (by decide)) rfl) ?_
    refine XE.cast (hx762 _) ?_
    exact XE.rt rfl (X_zret (by decide +kernel) rfl (by decide))

set_option maxRecDepth 100000 in
set_option maxHeartbeats 4000000 in
theorem cx_L_44 {D : Dt} {kp : Nat} {kk763 : (Int × Mm) ⊕ ((Int × Mm) ⊕ Mm) → Option (Int × Mm)} (hx762 : ∀ y : Int × Mm, kk763 (.inr (.inl y)) = some y) (hc760 : ∀ s9 : Int × Mm, XE D kp mu_L_law (EW 0) 23 [(0, (100, (-1))), (1, (14, 11000)), (2, (15, 12000)), (3, (18, 15000)), (4, (0, s9.1))] [] s9.2 (kk763 (.inl s9))) (s9 : Int × Mm) : XE D (kp + 1) mu_L_law (EW 0) 3335 [(0, (100, (-1))), (1, (14, 11000)), (2, (15, 12000)), (3, (18, 15000)), (4, (0, s9.1))] [] s9.2 ((c_L_44 s9).bind kk763) := by
  have h2 : (11000 : Int) ≠ 0 := by decide
  have h5 : (12000 : Int) ≠ 0 := by decide
  have h8 : (15000 : Int) ≠ 0 := by decide
  unfold c_L_44
  refine XE.mono1 ?_
  refine XE.go (st_aload_n (j := 1) (i := 1) (pc' := 3336) (by decide +kernel) rfl rfl (by decide) rfl) ?_
  refine XE.asc ?_
  refine XE.cP (pc' := 3339) (st := []) (fun r hr => ct_X10_digest h2 r hr) (fun r hr => run_V (st := []) (by decide +kernel) co_L_law_303 (ct_X10_digest h2 r hr) rfl h2 rfl rfl (Nat.le_of_ble_eq_true rfl)) rfl rfl (fun r1505 => ?_)
  refine XE.go (st_aload_n (j := 2) (i := 2) (pc' := 3340) (by decide +kernel) rfl rfl (by decide) rfl) ?_
  refine XE.asc ?_
  refine XE.cW (pc' := 3343) (st := [(0, r1505)]) (fun r hr => ct_X11_digest h5 r hr) (fun r hr => run_V (st := [(0, r1505)]) (by decide +kernel) co_L_law_306 (ct_X11_digest h5 r hr) rfl h5 rfl rfl (Nat.le_of_ble_eq_true rfl)) rfl rfl (fun r1506 => ?_)
  refine XE.bite (fun h1507 => ?_) (fun h1508 => ?_)
  · refine XE.go (st_icmp_eq_t (off := 5) (pc' := 3348) (by decide +kernel) (by decide) h1507) ?_
    refine XE.go (st_iinc (j := 4) (n := 6) (pc' := 3351) (by decide +kernel) rfl rfl (by decide) rfl rfl) ?_
    refine XE.go (st_goto (off := (-3328)) (pc' := 23) (by decide +kernel) (by decide)) ?_
    exact XE.pick [1, 2, 3, 4, 0] rfl (hc760 ((w (s9.1 + 6)), r1506.2))
  · refine XE.go (st_icmp_eq_f (off := 5) (pc' := 3346) (by decide +kernel) 3348 (by decide) rfl h1508) ?_
    refine XE.go (st_iconst (n := 0) (pc' := 3347) (by decide +kernel) (w_eq (by decide) (by decide)) rfl) ?_
    refine XE.cast (hx762 _) ?_
    exact XE.rt rfl (X_zret (by decide +kernel) rfl (by decide))

