/-! THE LAW, its walk out of the arms -/
set_option maxRecDepth 100000 in
set_option maxHeartbeats 4000000 in
theorem xe_L_law {D : Dt} {M : Mm} : XE D 1000 mu_L_law (EW 0) 0 [(0, (100, (-1)))] [] M (p_L_law M (D.2.2.2.2.2.1 : Int) (fun i => (D.2.2.2.2.2.2 i.toNat).toInt)) := by
  unfold p_L_law
  refine XE.alo_ (fun q1 q2 => st_new (pc' := 3) (by decide +kernel) rfl cls_10 nw_RL_8 rfl rfl q1 q2) (by decide) (fun M1 h2 => ?_)
  refine XE.go (st_dup (pc' := 4) (by decide +kernel) rfl rfl) ?_
  refine XE.cV (pc' := 7) (st := [(14, 11000)]) (fun r hr => ct_X10_init h2 r hr) (fun r hr => run_I (st := [(14, 11000)]) (by decide +kernel) co_L_law_155 (ct_X10_init h2 r hr) (by decide) h2 rfl rfl (Nat.le_of_ble_eq_true rfl)) rfl rfl (fun M3 => ?_)
  refine XE.go (st_astore_n (j := 1) (i := 1) (pc' := 8) (by decide +kernel) rfl (by decide) rfl (by decide) rfl rfl) ?_
  refine XE.alo_ (fun q1 q2 => st_new (pc' := 11) (by decide +kernel) rfl cls_11 nw_RL_156 rfl rfl q1 q2) (by decide) (fun M4 h5 => ?_)
  refine XE.go (st_dup (pc' := 12) (by decide +kernel) rfl rfl) ?_
  refine XE.cV (pc' := 15) (st := [(15, 12000)]) (fun r hr => ct_X11_init h5 r hr) (fun r hr => run_I (st := [(15, 12000)]) (by decide +kernel) co_L_law_158 (ct_X11_init h5 r hr) (by decide) h5 rfl rfl (Nat.le_of_ble_eq_true rfl)) rfl rfl (fun M6 => ?_)
  refine XE.go (st_astore_n (j := 2) (i := 2) (pc' := 16) (by decide +kernel) rfl (by decide) rfl (by decide) rfl rfl) ?_
  refine XE.go (st_iconst (n := 1) (pc' := 17) (by decide +kernel) (w_eq (by decide) (by decide)) rfl) ?_
  refine XE.ala_ (fun q1 q2 q3 => st_newa (atype := .long) (pc' := 19) (by decide +kernel) rfl ak_15 rfl (bg_9 233 rfl rfl) (by simp) rfl q1 q2 q3 rfl) (by decide) (fun M7 h8 => ?_)
  refine XE.go (st_astore_n (j := 3) (i := 3) (pc' := 20) (by decide +kernel) rfl (by decide) rfl (by decide) rfl rfl) ?_
  refine XE.go (st_iconst (n := 0) (pc' := 21) (by decide +kernel) (w_eq (by decide) (by decide)) rfl) ?_
  refine XE.go (st_istore (j := 4) (pc' := 23) (by decide +kernel)  rfl (by decide) rfl rfl) ?_
  refine XE.pick [4, 3, 2, 1, 0] (L' := [(0, (100, (-1))), (1, (14, 11000)), (2, (15, 12000)), (3, (18, 15000)), (4, (0, 0))]) rfl ?_
  refine XE.loopKX (pcL := 23) (pcE := 3354) (LL := fun (s9 : Int × Mm) => [(0, (100, (-1))), (1, (14, 11000)), (2, (15, 12000)), (3, (18, 15000)), (4, (0, s9.1))]) (sL := fun _ => []) (ML := fun (s9 : Int × Mm) => s9.2) (LE := fun (t10 : Mm) => []) (sE := fun _ => []) (ME := fun (t10 : Mm) => t10) (fun kp kk763 hx762 hc760 he761 s9 => ?_) (fun kp t10 => ?_) 1000 (0, M7)
  · unfold b_L_law_23
    refine XE.go (st_iload (j := 4) (pc' := 25) (by decide +kernel) rfl rfl) ?_
    refine XE.go (st_aload_n (j := 0) (i := 0) (pc' := 26) (by decide +kernel) rfl rfl (by decide) rfl) ?_
    refine XE.go (st_slen (pc' := 27) (by decide +kernel) rfl) ?_
    refine XE.go (st_bipush (n := 6) (pc' := 29) (by decide +kernel) (by decide) (w_eq (by decide) (by decide)) rfl) ?_
    refine XE.go (st_isub (pc' := 30) (by decide +kernel) rfl) ?_
    refine XE.bite (fun h764 => ?_) (fun h765 => ?_)
    · refine XE.go (st_icmp_gt_t (off := 3324) (pc' := 3354) (by decide +kernel) (by decide) h764) ?_
      exact XE.pick [] rfl (he761 s9.2)
    · refine XE.go (st_icmp_gt_f (off := 3324) (pc' := 33) (by decide +kernel) 3354 (by decide) rfl h765) ?_
      refine XE.go (st_aload_n (j := 0) (i := 0) (pc' := 34) (by decide +kernel) rfl rfl (by decide) rfl) ?_
      refine XE.go (st_iload (j := 4) (pc' := 36) (by decide +kernel) rfl rfl) ?_
      refine XE.gdb (fun g766 => ?_)
      refine XE.go (st_sld (pc' := 37) (by decide +kernel) rfl g766.1 g766.2) ?_
      refine XE.go (st_bipush (n := 63) (pc' := 39) (by decide +kernel) (by decide) (w_eq (by decide) (by decide)) rfl) ?_
      refine XE.go (st_iand (pc' := 40) (by decide +kernel) rfl) ?_
      refine XE.bite (fun h767 => ?_) (fun h768 => ?_)
      · refine XE.go (st_tab_in (dflt := 3308) (lo := 0) (hi := 44) (offs := #[196, 292, 372, 428, 484, 540, 596, 652, 708, 752, 820, 912, 1004, 1108, 1176, 1232, 1312, 1368, 1424, 1480, 1536, 1604, 1672, 1752, 1820, 1900, 1980, 2048, 2128, 2196, 2264, 2332, 2412, 2480, 2548, 2640, 2720, 2800, 2892, 2972, 3040, 3108, 3164, 3232, 3295]) (len := 196) (off := 196) (pc' := 236) (by decide +kernel) 0 h767 (by decide) (by decide) (by decide) (by decide)) ?_
        exact cx_L_0 hx762 hc760 s9
      refine XE.bite (fun h797 => ?_) (fun h798 => ?_)
      · refine XE.go (st_tab_in (dflt := 3308) (lo := 0) (hi := 44) (offs := #[196, 292, 372, 428, 484, 540, 596, 652, 708, 752, 820, 912, 1004, 1108, 1176, 1232, 1312, 1368, 1424, 1480, 1536, 1604, 1672, 1752, 1820, 1900, 1980, 2048, 2128, 2196, 2264, 2332, 2412, 2480, 2548, 2640, 2720, 2800, 2892, 2972, 3040, 3108, 3164, 3232, 3295]) (len := 196) (off := 292) (pc' := 332) (by decide +kernel) 1 h797 (by decide) (by decide) (by decide) (by decide)) ?_
        exact cx_L_1 hx762 hc760 s9
      refine XE.bite (fun h815 => ?_) (fun h816 => ?_)
      · refine XE.go (st_tab_in (dflt := 3308) (lo := 0) (hi := 44) (offs := #[196, 292, 372, 428, 484, 540, 596, 652, 708, 752, 820, 912, 1004, 1108, 1176, 1232, 1312, 1368, 1424, 1480, 1536, 1604, 1672, 1752, 1820, 1900, 1980, 2048, 2128, 2196, 2264, 2332, 2412, 2480, 2548, 2640, 2720, 2800, 2892, 2972, 3040, 3108, 3164, 3232, 3295]) (len := 196) (off := 372) (pc' := 412) (by decide +kernel) 2 h815 (by decide) (by decide) (by decide) (by decide)) ?_
        exact cx_L_2 hx762 hc760 s9
      refine XE.bite (fun h829 => ?_) (fun h830 => ?_)
      · refine XE.go (st_tab_in (dflt := 3308) (lo := 0) (hi := 44) (offs := #[196, 292, 372, 428, 484, 540, 596, 652, 708, 752, 820, 912, 1004, 1108, 1176, 1232, 1312, 1368, 1424, 1480, 1536, 1604, 1672, 1752, 1820, 1900, 1980, 2048, 2128, 2196, 2264, 2332, 2412, 2480, 2548, 2640, 2720, 2800, 2892, 2972, 3040, 3108, 3164, 3232, 3295]) (len := 196) (off := 428) (pc' := 468) (by decide +kernel) 3 h829 (by decide) (by decide) (by decide) (by decide)) ?_
        exact cx_L_3 hx762 hc760 s9
      refine XE.bite (fun h843 => ?_) (fun h844 => ?_)
      · refine XE.go (st_tab_in (dflt := 3308) (lo := 0) (hi := 44) (offs := #[196, 292, 372, 428, 484, 540, 596, 652, 708, 752, 820, 912, 1004, 1108, 1176, 1232, 1312, 1368, 1424, 1480, 1536, 1604, 1672, 1752, 1820, 1900, 1980, 2048, 2128, 2196, 2264, 2332, 2412, 2480, 2548, 2640, 2720, 2800, 2892, 2972, 3040, 3108, 3164, 3232, 3295]) (len := 196) (off := 484) (pc' := 524) (by decide +kernel) 4 h843 (by decide) (by decide) (by decide) (by decide)) ?_
        exact cx_L_4 hx762 hc760 s9
      refine XE.bite (fun h857 => ?_) (fun h858 => ?_)
      · refine XE.go (st_tab_in (dflt := 3308) (lo := 0) (hi := 44) (offs := #[196, 292, 372, 428, 484, 540, 596, 652, 708, 752, 820, 912, 1004, 1108, 1176, 1232, 1312, 1368, 1424, 1480, 1536, 1604, 1672, 1752, 1820, 1900, 1980, 2048, 2128, 2196, 2264, 2332, 2412, 2480, 2548, 2640, 2720, 2800, 2892, 2972, 3040, 3108, 3164, 3232, 3295]) (len := 196) (off := 540) (pc' := 580) (by decide +kernel) 5 h857 (by decide) (by decide) (by decide) (by decide)) ?_
        exact cx_L_5 hx762 hc760 s9
      refine XE.bite (fun h871 => ?_) (fun h872 => ?_)
      · refine XE.go (st_tab_in (dflt := 3308) (lo := 0) (hi := 44) (offs := #[196, 292, 372, 428, 484, 540, 596, 652, 708, 752, 820, 912, 1004, 1108, 1176, 1232, 1312, 1368, 1424, 1480, 1536, 1604, 1672, 1752, 1820, 1900, 1980, 2048, 2128, 2196, 2264, 2332, 2412, 2480, 2548, 2640, 2720, 2800, 2892, 2972, 3040, 3108, 3164, 3232, 3295]) (len := 196) (off := 596) (pc' := 636) (by decide +kernel) 6 h871 (by decide) (by decide) (by decide) (by decide)) ?_
        exact cx_L_6 hx762 hc760 s9
      refine XE.bite (fun h885 => ?_) (fun h886 => ?_)
      · refine XE.go (st_tab_in (dflt := 3308) (lo := 0) (hi := 44) (offs := #[196, 292, 372, 428, 484, 540, 596, 652, 708, 752, 820, 912, 1004, 1108, 1176, 1232, 1312, 1368, 1424, 1480, 1536, 1604, 1672, 1752, 1820, 1900, 1980, 2048, 2128, 2196, 2264, 2332, 2412, 2480, 2548, 2640, 2720, 2800, 2892, 2972, 3040, 3108, 3164, 3232, 3295]) (len := 196) (off := 652) (pc' := 692) (by decide +kernel) 7 h885 (by decide) (by decide) (by decide) (by decide)) ?_
        exact cx_L_7 hx762 hc760 s9
      refine XE.bite (fun h899 => ?_) (fun h900 => ?_)
      · refine XE.go (st_tab_in (dflt := 3308) (lo := 0) (hi := 44) (offs := #[196, 292, 372, 428, 484, 540, 596, 652, 708, 752, 820, 912, 1004, 1108, 1176, 1232, 1312, 1368, 1424, 1480, 1536, 1604, 1672, 1752, 1820, 1900, 1980, 2048, 2128, 2196, 2264, 2332, 2412, 2480, 2548, 2640, 2720, 2800, 2892, 2972, 3040, 3108, 3164, 3232, 3295]) (len := 196) (off := 708) (pc' := 748) (by decide +kernel) 8 h899 (by decide) (by decide) (by decide) (by decide)) ?_
        exact cx_L_8 hx762 hc760 s9
      refine XE.bite (fun h911 => ?_) (fun h912 => ?_)
      · refine XE.go (st_tab_in (dflt := 3308) (lo := 0) (hi := 44) (offs := #[196, 292, 372, 428, 484, 540, 596, 652, 708, 752, 820, 912, 1004, 1108, 1176, 1232, 1312, 1368, 1424, 1480, 1536, 1604, 1672, 1752, 1820, 1900, 1980, 2048, 2128, 2196, 2264, 2332, 2412, 2480, 2548, 2640, 2720, 2800, 2892, 2972, 3040, 3108, 3164, 3232, 3295]) (len := 196) (off := 752) (pc' := 792) (by decide +kernel) 9 h911 (by decide) (by decide) (by decide) (by decide)) ?_
        exact cx_L_9 hx762 hc760 s9
      refine XE.bite (fun h927 => ?_) (fun h928 => ?_)
      · refine XE.go (st_tab_in (dflt := 3308) (lo := 0) (hi := 44) (offs := #[196, 292, 372, 428, 484, 540, 596, 652, 708, 752, 820, 912, 1004, 1108, 1176, 1232, 1312, 1368, 1424, 1480, 1536, 1604, 1672, 1752, 1820, 1900, 1980, 2048, 2128, 2196, 2264, 2332, 2412, 2480, 2548, 2640, 2720, 2800, 2892, 2972, 3040, 3108, 3164, 3232, 3295]) (len := 196) (off := 820) (pc' := 860) (by decide +kernel) 10 h927 (by decide) (by decide) (by decide) (by decide)) ?_
        exact cx_L_10 hx762 hc760 s9
      refine XE.bite (fun h947 => ?_) (fun h948 => ?_)
      · refine XE.go (st_tab_in (dflt := 3308) (lo := 0) (hi := 44) (offs := #[196, 292, 372, 428, 484, 540, 596, 652, 708, 752, 820, 912, 1004, 1108, 1176, 1232, 1312, 1368, 1424, 1480, 1536, 1604, 1672, 1752, 1820, 1900, 1980, 2048, 2128, 2196, 2264, 2332, 2412, 2480, 2548, 2640, 2720, 2800, 2892, 2972, 3040, 3108, 3164, 3232, 3295]) (len := 196) (off := 912) (pc' := 952) (by decide +kernel) 11 h947 (by decide) (by decide) (by decide) (by decide)) ?_
        exact cx_L_11 hx762 hc760 s9
      refine XE.bite (fun h967 => ?_) (fun h968 => ?_)
      · refine XE.go (st_tab_in (dflt := 3308) (lo := 0) (hi := 44) (offs := #[196, 292, 372, 428, 484, 540, 596, 652, 708, 752, 820, 912, 1004, 1108, 1176, 1232, 1312, 1368, 1424, 1480, 1536, 1604, 1672, 1752, 1820, 1900, 1980, 2048, 2128, 2196, 2264, 2332, 2412, 2480, 2548, 2640, 2720, 2800, 2892, 2972, 3040, 3108, 3164, 3232, 3295]) (len := 196) (off := 1004) (pc' := 1044) (by decide +kernel) 12 h967 (by decide) (by decide) (by decide) (by decide)) ?_
        exact cx_L_12 hx762 hc760 s9
      refine XE.bite (fun h989 => ?_) (fun h990 => ?_)
      · refine XE.go (st_tab_in (dflt := 3308) (lo := 0) (hi := 44) (offs := #[196, 292, 372, 428, 484, 540, 596, 652, 708, 752, 820, 912, 1004, 1108, 1176, 1232, 1312, 1368, 1424, 1480, 1536, 1604, 1672, 1752, 1820, 1900, 1980, 2048, 2128, 2196, 2264, 2332, 2412, 2480, 2548, 2640, 2720, 2800, 2892, 2972, 3040, 3108, 3164, 3232, 3295]) (len := 196) (off := 1108) (pc' := 1148) (by decide +kernel) 13 h989 (by decide) (by decide) (by decide) (by decide)) ?_
        exact cx_L_13 hx762 hc760 s9
      refine XE.bite (fun h1005 => ?_) (fun h1006 => ?_)
      · refine XE.go (st_tab_in (dflt := 3308) (lo := 0) (hi := 44) (offs := #[196, 292, 372, 428, 484, 540, 596, 652, 708, 752, 820, 912, 1004, 1108, 1176, 1232, 1312, 1368, 1424, 1480, 1536, 1604, 1672, 1752, 1820, 1900, 1980, 2048, 2128, 2196, 2264, 2332, 2412, 2480, 2548, 2640, 2720, 2800, 2892, 2972, 3040, 3108, 3164, 3232, 3295]) (len := 196) (off := 1176) (pc' := 1216) (by decide +kernel) 14 h1005 (by decide) (by decide) (by decide) (by decide)) ?_
        exact cx_L_14 hx762 hc760 s9
      refine XE.bite (fun h1019 => ?_) (fun h1020 => ?_)
      · refine XE.go (st_tab_in (dflt := 3308) (lo := 0) (hi := 44) (offs := #[196, 292, 372, 428, 484, 540, 596, 652, 708, 752, 820, 912, 1004, 1108, 1176, 1232, 1312, 1368, 1424, 1480, 1536, 1604, 1672, 1752, 1820, 1900, 1980, 2048, 2128, 2196, 2264, 2332, 2412, 2480, 2548, 2640, 2720, 2800, 2892, 2972, 3040, 3108, 3164, 3232, 3295]) (len := 196) (off := 1232) (pc' := 1272) (by decide +kernel) 15 h1019 (by decide) (by decide) (by decide) (by decide)) ?_
        exact cx_L_15 hx762 hc760 s9
      refine XE.bite (fun h1037 => ?_) (fun h1038 => ?_)
      · refine XE.go (st_tab_in (dflt := 3308) (lo := 0) (hi := 44) (offs := #[196, 292, 372, 428, 484, 540, 596, 652, 708, 752, 820, 912, 1004, 1108, 1176, 1232, 1312, 1368, 1424, 1480, 1536, 1604, 1672, 1752, 1820, 1900, 1980, 2048, 2128, 2196, 2264, 2332, 2412, 2480, 2548, 2640, 2720, 2800, 2892, 2972, 3040, 3108, 3164, 3232, 3295]) (len := 196) (off := 1312) (pc' := 1352) (by decide +kernel) 16 h1037 (by decide) (by decide) (by decide) (by decide)) ?_
        exact cx_L_16 hx762 hc760 s9
      refine XE.bite (fun h1051 => ?_) (fun h1052 => ?_)
      · refine XE.go (st_tab_in (dflt := 3308) (lo := 0) (hi := 44) (offs := #[196, 292, 372, 428, 484, 540, 596, 652, 708, 752, 820, 912, 1004, 1108, 1176, 1232, 1312, 1368, 1424, 1480, 1536, 1604, 1672, 1752, 1820, 1900, 1980, 2048, 2128, 2196, 2264, 2332, 2412, 2480, 2548, 2640, 2720, 2800, 2892, 2972, 3040, 3108, 3164, 3232, 3295]) (len := 196) (off := 1368) (pc' := 1408) (by decide +kernel) 17 h1051 (by decide) (by decide) (by decide) (by decide)) ?_
        exact cx_L_17 hx762 hc760 s9
      refine XE.bite (fun h1065 => ?_) (fun h1066 => ?_)
      · refine XE.go (st_tab_in (dflt := 3308) (lo := 0) (hi := 44) (offs := #[196, 292, 372, 428, 484, 540, 596, 652, 708, 752, 820, 912, 1004, 1108, 1176, 1232, 1312, 1368, 1424, 1480, 1536, 1604, 1672, 1752, 1820, 1900, 1980, 2048, 2128, 2196, 2264, 2332, 2412, 2480, 2548, 2640, 2720, 2800, 2892, 2972, 3040, 3108, 3164, 3232, 3295]) (len := 196) (off := 1424) (pc' := 1464) (by decide +kernel) 18 h1065 (by decide) (by decide) (by decide) (by decide)) ?_
        exact cx_L_18 hx762 hc760 s9
      refine XE.bite (fun h1079 => ?_) (fun h1080 => ?_)
      · refine XE.go (st_tab_in (dflt := 3308) (lo := 0) (hi := 44) (offs := #[196, 292, 372, 428, 484, 540, 596, 652, 708, 752, 820, 912, 1004, 1108, 1176, 1232, 1312, 1368, 1424, 1480, 1536, 1604, 1672, 1752, 1820, 1900, 1980, 2048, 2128, 2196, 2264, 2332, 2412, 2480, 2548, 2640, 2720, 2800, 2892, 2972, 3040, 3108, 3164, 3232, 3295]) (len := 196) (off := 1480) (pc' := 1520) (by decide +kernel) 19 h1079 (by decide) (by decide) (by decide) (by decide)) ?_
        exact cx_L_19 hx762 hc760 s9
      refine XE.bite (fun h1093 => ?_) (fun h1094 => ?_)
      · refine XE.go (st_tab_in (dflt := 3308) (lo := 0) (hi := 44) (offs := #[196, 292, 372, 428, 484, 540, 596, 652, 708, 752, 820, 912, 1004, 1108, 1176, 1232, 1312, 1368, 1424, 1480, 1536, 1604, 1672, 1752, 1820, 1900, 1980, 2048, 2128, 2196, 2264, 2332, 2412, 2480, 2548, 2640, 2720, 2800, 2892, 2972, 3040, 3108, 3164, 3232, 3295]) (len := 196) (off := 1536) (pc' := 1576) (by decide +kernel) 20 h1093 (by decide) (by decide) (by decide) (by decide)) ?_
        exact cx_L_20 hx762 hc760 s9
      refine XE.bite (fun h1109 => ?_) (fun h1110 => ?_)
      · refine XE.go (st_tab_in (dflt := 3308) (lo := 0) (hi := 44) (offs := #[196, 292, 372, 428, 484, 540, 596, 652, 708, 752, 820, 912, 1004, 1108, 1176, 1232, 1312, 1368, 1424, 1480, 1536, 1604, 1672, 1752, 1820, 1900, 1980, 2048, 2128, 2196, 2264, 2332, 2412, 2480, 2548, 2640, 2720, 2800, 2892, 2972, 3040, 3108, 3164, 3232, 3295]) (len := 196) (off := 1604) (pc' := 1644) (by decide +kernel) 21 h1109 (by decide) (by decide) (by decide) (by decide)) ?_
        exact cx_L_21 hx762 hc760 s9
      refine XE.bite (fun h1125 => ?_) (fun h1126 => ?_)
      · refine XE.go (st_tab_in (dflt := 3308) (lo := 0) (hi := 44) (offs := #[196, 292, 372, 428, 484, 540, 596, 652, 708, 752, 820, 912, 1004, 1108, 1176, 1232, 1312, 1368, 1424, 1480, 1536, 1604, 1672, 1752, 1820, 1900, 1980, 2048, 2128, 2196, 2264, 2332, 2412, 2480, 2548, 2640, 2720, 2800, 2892, 2972, 3040, 3108, 3164, 3232, 3295]) (len := 196) (off := 1672) (pc' := 1712) (by decide +kernel) 22 h1125 (by decide) (by decide) (by decide) (by decide)) ?_
        exact cx_L_22 hx762 hc760 s9
      refine XE.bite (fun h1143 => ?_) (fun h1144 => ?_)
      · refine XE.go (st_tab_in (dflt := 3308) (lo := 0) (hi := 44) (offs := #[196, 292, 372, 428, 484, 540, 596, 652, 708, 752, 820, 912, 1004, 1108, 1176, 1232, 1312, 1368, 1424, 1480, 1536, 1604, 1672, 1752, 1820, 1900, 1980, 2048, 2128, 2196, 2264, 2332, 2412, 2480, 2548, 2640, 2720, 2800, 2892, 2972, 3040, 3108, 3164, 3232, 3295]) (len := 196) (off := 1752) (pc' := 1792) (by decide +kernel) 23 h1143 (by decide) (by decide) (by decide) (by decide)) ?_
        exact cx_L_23 hx762 hc760 s9
      refine XE.bite (fun h1159 => ?_) (fun h1160 => ?_)
      · refine XE.go (st_tab_in (dflt := 3308) (lo := 0) (hi := 44) (offs := #[196, 292, 372, 428, 484, 540, 596, 652, 708, 752, 820, 912, 1004, 1108, 1176, 1232, 1312, 1368, 1424, 1480, 1536, 1604, 1672, 1752, 1820, 1900, 1980, 2048, 2128, 2196, 2264, 2332, 2412, 2480, 2548, 2640, 2720, 2800, 2892, 2972, 3040, 3108, 3164, 3232, 3295]) (len := 196) (off := 1820) (pc' := 1860) (by decide +kernel) 24 h1159 (by decide) (by decide) (by decide) (by decide)) ?_
        exact cx_L_24 hx762 hc760 s9
      refine XE.bite (fun h1177 => ?_) (fun h1178 => ?_)
      · refine XE.go (st_tab_in (dflt := 3308) (lo := 0) (hi := 44) (offs := #[196, 292, 372, 428, 484, 540, 596, 652, 708, 752, 820, 912, 1004, 1108, 1176, 1232, 1312, 1368, 1424, 1480, 1536, 1604, 1672, 1752, 1820, 1900, 1980, 2048, 2128, 2196, 2264, 2332, 2412, 2480, 2548, 2640, 2720, 2800, 2892, 2972, 3040, 3108, 3164, 3232, 3295]) (len := 196) (off := 1900) (pc' := 1940) (by decide +kernel) 25 h1177 (by decide) (by decide) (by decide) (by decide)) ?_
        exact cx_L_25 hx762 hc760 s9
      refine XE.bite (fun h1195 => ?_) (fun h1196 => ?_)
      · refine XE.go (st_tab_in (dflt := 3308) (lo := 0) (hi := 44) (offs := #[196, 292, 372, 428, 484, 540, 596, 652, 708, 752, 820, 912, 1004, 1108, 1176, 1232, 1312, 1368, 1424, 1480, 1536, 1604, 1672, 1752, 1820, 1900, 1980, 2048, 2128, 2196, 2264, 2332, 2412, 2480, 2548, 2640, 2720, 2800, 2892, 2972, 3040, 3108, 3164, 3232, 3295]) (len := 196) (off := 1980) (pc' := 2020) (by decide +kernel) 26 h1195 (by decide) (by decide) (by decide) (by decide)) ?_
        exact cx_L_26 hx762 hc760 s9
      refine XE.bite (fun h1211 => ?_) (fun h1212 => ?_)
      · refine XE.go (st_tab_in (dflt := 3308) (lo := 0) (hi := 44) (offs := #[196, 292, 372, 428, 484, 540, 596, 652, 708, 752, 820, 912, 1004, 1108, 1176, 1232, 1312, 1368, 1424, 1480, 1536, 1604, 1672, 1752, 1820, 1900, 1980, 2048, 2128, 2196, 2264, 2332, 2412, 2480, 2548, 2640, 2720, 2800, 2892, 2972, 3040, 3108, 3164, 3232, 3295]) (len := 196) (off := 2048) (pc' := 2088) (by decide +kernel) 27 h1211 (by decide) (by decide) (by decide) (by decide)) ?_
        exact cx_L_27 hx762 hc760 s9
      refine XE.bite (fun h1229 => ?_) (fun h1230 => ?_)
      · refine XE.go (st_tab_in (dflt := 3308) (lo := 0) (hi := 44) (offs := #[196, 292, 372, 428, 484, 540, 596, 652, 708, 752, 820, 912, 1004, 1108, 1176, 1232, 1312, 1368, 1424, 1480, 1536, 1604, 1672, 1752, 1820, 1900, 1980, 2048, 2128, 2196, 2264, 2332, 2412, 2480, 2548, 2640, 2720, 2800, 2892, 2972, 3040, 3108, 3164, 3232, 3295]) (len := 196) (off := 2128) (pc' := 2168) (by decide +kernel) 28 h1229 (by decide) (by decide) (by decide) (by decide)) ?_
        exact cx_L_28 hx762 hc760 s9
      refine XE.bite (fun h1245 => ?_) (fun h1246 => ?_)
      · refine XE.go (st_tab_in (dflt := 3308) (lo := 0) (hi := 44) (offs := #[196, 292, 372, 428, 484, 540, 596, 652, 708, 752, 820, 912, 1004, 1108, 1176, 1232, 1312, 1368, 1424, 1480, 1536, 1604, 1672, 1752, 1820, 1900, 1980, 2048, 2128, 2196, 2264, 2332, 2412, 2480, 2548, 2640, 2720, 2800, 2892, 2972, 3040, 3108, 3164, 3232, 3295]) (len := 196) (off := 2196) (pc' := 2236) (by decide +kernel) 29 h1245 (by decide) (by decide) (by decide) (by decide)) ?_
        exact cx_L_29 hx762 hc760 s9
      refine XE.bite (fun h1261 => ?_) (fun h1262 => ?_)
      · refine XE.go (st_tab_in (dflt := 3308) (lo := 0) (hi := 44) (offs := #[196, 292, 372, 428, 484, 540, 596, 652, 708, 752, 820, 912, 1004, 1108, 1176, 1232, 1312, 1368, 1424, 1480, 1536, 1604, 1672, 1752, 1820, 1900, 1980, 2048, 2128, 2196, 2264, 2332, 2412, 2480, 2548, 2640, 2720, 2800, 2892, 2972, 3040, 3108, 3164, 3232, 3295]) (len := 196) (off := 2264) (pc' := 2304) (by decide +kernel) 30 h1261 (by decide) (by decide) (by decide) (by decide)) ?_
        exact cx_L_30 hx762 hc760 s9
      refine XE.bite (fun h1277 => ?_) (fun h1278 => ?_)
      · refine XE.go (st_tab_in (dflt := 3308) (lo := 0) (hi := 44) (offs := #[196, 292, 372, 428, 484, 540, 596, 652, 708, 752, 820, 912, 1004, 1108, 1176, 1232, 1312, 1368, 1424, 1480, 1536, 1604, 1672, 1752, 1820, 1900, 1980, 2048, 2128, 2196, 2264, 2332, 2412, 2480, 2548, 2640, 2720, 2800, 2892, 2972, 3040, 3108, 3164, 3232, 3295]) (len := 196) (off := 2332) (pc' := 2372) (by decide +kernel) 31 h1277 (by decide) (by decide) (by decide) (by decide)) ?_
        exact cx_L_31 hx762 hc760 s9
      refine XE.bite (fun h1295 => ?_) (fun h1296 => ?_)
      · refine XE.go (st_tab_in (dflt := 3308) (lo := 0) (hi := 44) (offs := #[196, 292, 372, 428, 484, 540, 596, 652, 708, 752, 820, 912, 1004, 1108, 1176, 1232, 1312, 1368, 1424, 1480, 1536, 1604, 1672, 1752, 1820, 1900, 1980, 2048, 2128, 2196, 2264, 2332, 2412, 2480, 2548, 2640, 2720, 2800, 2892, 2972, 3040, 3108, 3164, 3232, 3295]) (len := 196) (off := 2412) (pc' := 2452) (by decide +kernel) 32 h1295 (by decide) (by decide) (by decide) (by decide)) ?_
        exact cx_L_32 hx762 hc760 s9
      refine XE.bite (fun h1311 => ?_) (fun h1312 => ?_)
      · refine XE.go (st_tab_in (dflt := 3308) (lo := 0) (hi := 44) (offs := #[196, 292, 372, 428, 484, 540, 596, 652, 708, 752, 820, 912, 1004, 1108, 1176, 1232, 1312, 1368, 1424, 1480, 1536, 1604, 1672, 1752, 1820, 1900, 1980, 2048, 2128, 2196, 2264, 2332, 2412, 2480, 2548, 2640, 2720, 2800, 2892, 2972, 3040, 3108, 3164, 3232, 3295]) (len := 196) (off := 2480) (pc' := 2520) (by decide +kernel) 33 h1311 (by decide) (by decide) (by decide) (by decide)) ?_
        exact cx_L_33 hx762 hc760 s9
      refine XE.bite (fun h1327 => ?_) (fun h1328 => ?_)
      · refine XE.go (st_tab_in (dflt := 3308) (lo := 0) (hi := 44) (offs := #[196, 292, 372, 428, 484, 540, 596, 652, 708, 752, 820, 912, 1004, 1108, 1176, 1232, 1312, 1368, 1424, 1480, 1536, 1604, 1672, 1752, 1820, 1900, 1980, 2048, 2128, 2196, 2264, 2332, 2412, 2480, 2548, 2640, 2720, 2800, 2892, 2972, 3040, 3108, 3164, 3232, 3295]) (len := 196) (off := 2548) (pc' := 2588) (by decide +kernel) 34 h1327 (by decide) (by decide) (by decide) (by decide)) ?_
        exact cx_L_34 hx762 hc760 s9
      refine XE.bite (fun h1347 => ?_) (fun h1348 => ?_)
      · refine XE.go (st_tab_in (dflt := 3308) (lo := 0) (hi := 44) (offs := #[196, 292, 372, 428, 484, 540, 596, 652, 708, 752, 820, 912, 1004, 1108, 1176, 1232, 1312, 1368, 1424, 1480, 1536, 1604, 1672, 1752, 1820, 1900, 1980, 2048, 2128, 2196, 2264, 2332, 2412, 2480, 2548, 2640, 2720, 2800, 2892, 2972, 3040, 3108, 3164, 3232, 3295]) (len := 196) (off := 2640) (pc' := 2680) (by decide +kernel) 35 h1347 (by decide) (by decide) (by decide) (by decide)) ?_
        exact cx_L_35 hx762 hc760 s9
      refine XE.bite (fun h1365 => ?_) (fun h1366 => ?_)
      · refine XE.go (st_tab_in (dflt := 3308) (lo := 0) (hi := 44) (offs := #[196, 292, 372, 428, 484, 540, 596, 652, 708, 752, 820, 912, 1004, 1108, 1176, 1232, 1312, 1368, 1424, 1480, 1536, 1604, 1672, 1752, 1820, 1900, 1980, 2048, 2128, 2196, 2264, 2332, 2412, 2480, 2548, 2640, 2720, 2800, 2892, 2972, 3040, 3108, 3164, 3232, 3295]) (len := 196) (off := 2720) (pc' := 2760) (by decide +kernel) 36 h1365 (by decide) (by decide) (by decide) (by decide)) ?_
        exact cx_L_36 hx762 hc760 s9
      refine XE.bite (fun h1383 => ?_) (fun h1384 => ?_)
      · refine XE.go (st_tab_in (dflt := 3308) (lo := 0) (hi := 44) (offs := #[196, 292, 372, 428, 484, 540, 596, 652, 708, 752, 820, 912, 1004, 1108, 1176, 1232, 1312, 1368, 1424, 1480, 1536, 1604, 1672, 1752, 1820, 1900, 1980, 2048, 2128, 2196, 2264, 2332, 2412, 2480, 2548, 2640, 2720, 2800, 2892, 2972, 3040, 3108, 3164, 3232, 3295]) (len := 196) (off := 2800) (pc' := 2840) (by decide +kernel) 37 h1383 (by decide) (by decide) (by decide) (by decide)) ?_
        exact cx_L_37 hx762 hc760 s9
      refine XE.bite (fun h1403 => ?_) (fun h1404 => ?_)
      · refine XE.go (st_tab_in (dflt := 3308) (lo := 0) (hi := 44) (offs := #[196, 292, 372, 428, 484, 540, 596, 652, 708, 752, 820, 912, 1004, 1108, 1176, 1232, 1312, 1368, 1424, 1480, 1536, 1604, 1672, 1752, 1820, 1900, 1980, 2048, 2128, 2196, 2264, 2332, 2412, 2480, 2548, 2640, 2720, 2800, 2892, 2972, 3040, 3108, 3164, 3232, 3295]) (len := 196) (off := 2892) (pc' := 2932) (by decide +kernel) 38 h1403 (by decide) (by decide) (by decide) (by decide)) ?_
        exact cx_L_38 hx762 hc760 s9
      refine XE.bite (fun h1421 => ?_) (fun h1422 => ?_)
      · refine XE.go (st_tab_in (dflt := 3308) (lo := 0) (hi := 44) (offs := #[196, 292, 372, 428, 484, 540, 596, 652, 708, 752, 820, 912, 1004, 1108, 1176, 1232, 1312, 1368, 1424, 1480, 1536, 1604, 1672, 1752, 1820, 1900, 1980, 2048, 2128, 2196, 2264, 2332, 2412, 2480, 2548, 2640, 2720, 2800, 2892, 2972, 3040, 3108, 3164, 3232, 3295]) (len := 196) (off := 2972) (pc' := 3012) (by decide +kernel) 39 h1421 (by decide) (by decide) (by decide) (by decide)) ?_
        exact cx_L_39 hx762 hc760 s9
      refine XE.bite (fun h1437 => ?_) (fun h1438 => ?_)
      · refine XE.go (st_tab_in (dflt := 3308) (lo := 0) (hi := 44) (offs := #[196, 292, 372, 428, 484, 540, 596, 652, 708, 752, 820, 912, 1004, 1108, 1176, 1232, 1312, 1368, 1424, 1480, 1536, 1604, 1672, 1752, 1820, 1900, 1980, 2048, 2128, 2196, 2264, 2332, 2412, 2480, 2548, 2640, 2720, 2800, 2892, 2972, 3040, 3108, 3164, 3232, 3295]) (len := 196) (off := 3040) (pc' := 3080) (by decide +kernel) 40 h1437 (by decide) (by decide) (by decide) (by decide)) ?_
        exact cx_L_40 hx762 hc760 s9
      refine XE.bite (fun h1453 => ?_) (fun h1454 => ?_)
      · refine XE.go (st_tab_in (dflt := 3308) (lo := 0) (hi := 44) (offs := #[196, 292, 372, 428, 484, 540, 596, 652, 708, 752, 820, 912, 1004, 1108, 1176, 1232, 1312, 1368, 1424, 1480, 1536, 1604, 1672, 1752, 1820, 1900, 1980, 2048, 2128, 2196, 2264, 2332, 2412, 2480, 2548, 2640, 2720, 2800, 2892, 2972, 3040, 3108, 3164, 3232, 3295]) (len := 196) (off := 3108) (pc' := 3148) (by decide +kernel) 41 h1453 (by decide) (by decide) (by decide) (by decide)) ?_
        exact cx_L_41 hx762 hc760 s9
      refine XE.bite (fun h1467 => ?_) (fun h1468 => ?_)
      · refine XE.go (st_tab_in (dflt := 3308) (lo := 0) (hi := 44) (offs := #[196, 292, 372, 428, 484, 540, 596, 652, 708, 752, 820, 912, 1004, 1108, 1176, 1232, 1312, 1368, 1424, 1480, 1536, 1604, 1672, 1752, 1820, 1900, 1980, 2048, 2128, 2196, 2264, 2332, 2412, 2480, 2548, 2640, 2720, 2800, 2892, 2972, 3040, 3108, 3164, 3232, 3295]) (len := 196) (off := 3164) (pc' := 3204) (by decide +kernel) 42 h1467 (by decide) (by decide) (by decide) (by decide)) ?_
        exact cx_L_42 hx762 hc760 s9
      refine XE.bite (fun h1483 => ?_) (fun h1484 => ?_)
      · refine XE.go (st_tab_in (dflt := 3308) (lo := 0) (hi := 44) (offs := #[196, 292, 372, 428, 484, 540, 596, 652, 708, 752, 820, 912, 1004, 1108, 1176, 1232, 1312, 1368, 1424, 1480, 1536, 1604, 1672, 1752, 1820, 1900, 1980, 2048, 2128, 2196, 2264, 2332, 2412, 2480, 2548, 2640, 2720, 2800, 2892, 2972, 3040, 3108, 3164, 3232, 3295]) (len := 196) (off := 3232) (pc' := 3272) (by decide +kernel) 43 h1483 (by decide) (by decide) (by decide) (by decide)) ?_
        exact cx_L_43 hx762 hc760 s9
      refine XE.bite (fun h1503 => ?_) (fun h1504 => ?_)
      · refine XE.go (st_tab_in (dflt := 3308) (lo := 0) (hi := 44) (offs := #[196, 292, 372, 428, 484, 540, 596, 652, 708, 752, 820, 912, 1004, 1108, 1176, 1232, 1312, 1368, 1424, 1480, 1536, 1604, 1672, 1752, 1820, 1900, 1980, 2048, 2128, 2196, 2264, 2332, 2412, 2480, 2548, 2640, 2720, 2800, 2892, 2972, 3040, 3108, 3164, 3232, 3295]) (len := 196) (off := 3295) (pc' := 3335) (by decide +kernel) 44 h1503 (by decide) (by decide) (by decide) (by decide)) ?_
        exact cx_L_44 hx762 hc760 s9
      refine XE.go (st_tab_out (dflt := 3308) (lo := 0) (hi := 44) (offs := #[196, 292, 372, 428, 484, 540, 596, 652, 708, 752, 820, 912, 1004, 1108, 1176, 1232, 1312, 1368, 1424, 1480, 1536, 1604, 1672, 1752, 1820, 1900, 1980, 2048, 2128, 2196, 2264, 2332, 2412, 2480, 2548, 2640, 2720, 2800, 2892, 2972, 3040, 3108, 3164, 3232, 3295]) (len := 196) (pc' := 3348) (by decide +kernel) (by have e0 : ian ((fun i : Int => (D.2.2.2.2.2.2 i.toNat).toInt) s9.1) 63 = ian (D.2.2.2.2.2.2 s9.1.toNat).toInt 63 := rfl; omega) (by decide)) ?_
      refine XE.mono1 ?_
      refine XE.go (st_iinc (j := 4) (n := 6) (pc' := 3351) (by decide +kernel) rfl rfl (by decide) rfl rfl) ?_
      refine XE.go (st_goto (off := (-3328)) (pc' := 23) (by decide +kernel) (by decide)) ?_
      exact XE.pick [1, 2, 3, 4, 0] rfl (hc760 ((w (s9.1 + 6)), s9.2))
  · refine XE.go (st_iconst (n := 1) (pc' := 3355) (by decide +kernel) (w_eq (by decide) (by decide)) rfl) ?_
    exact XE.rt rfl (X_zret (by decide +kernel) rfl (by decide))
theorem ct_L_law {D : Dt} {M : Mm} (r : (Int × Mm)) (hr : p_L_law M (D.2.2.2.2.2.1 : Int) (fun i => (D.2.2.2.2.2.2 i.toNat).toInt) = some r) : CT D 1000 mu_L_law [(100, (-1))] M (.inl (some (0, r.1))) r.2 := CT.of (by decide +kernel) rfl (Nat.le_of_ble_eq_true rfl) (xe_L_law r hr)
