def b_L_some_58 (r1 : Int × Mm) (s5 : Int × Int) : Option ((Int × Int) ⊕ ((Int × Mm) ⊕ (Unit))) := if s5.2 < 12 then if (ian (shr r1.1 s5.2) 1) = 1 then if s5.1 = 0 then some (.inr (.inl (s5.2, r1.2))) else some (.inl ((w (s5.1 + (-1))), (w (s5.2 + 1)))) else some (.inl (s5.1, (w (s5.2 + 1)))) else some (.inr (.inr ()))
def b_L_some_13 (r1 : Int × Mm) (s2 : Int × Int) : Option ((Int × Int) ⊕ (Int)) := if s2.2 < 12 then (some ((w (s2.1 + (ian (shr r1.1 s2.2) 1))))).bind fun v41 => some (.inl (v41, (w (s2.2 + 1)))) else some (.inr s2.1)
def p_L_some (M : Mm) (sl : Int) (sc : Int → Int) (a0 a2 : Int) : Option (Int × Mm) := (q_L_ofGroup M a0 0 1).bind fun r1 => (lp (b_L_some_13 r1) 13 (0, 0)).bind fun (t3 : Int) => (if t3 = 0 then some (0) else (p_L_cell r1.2 sl sc a2 t3).bind fun r33 => some (r33) : Option (Int)).bind fun (s4 : Int) => (lp (b_L_some_58 r1) 13 (s4, 0)).bind (Sum.elim some fun (t6 : Unit) => some (0, r1.2))
set_option maxRecDepth 100000 in
set_option maxHeartbeats 4000000 in
theorem xe_L_some {D : Dt} {M : Mm} {a0 a2 : Int} : XE D 1 mu_L_some (EW 0) 0 [(0, (14, a0)), (1, (100, (-1))), (2, (0, a2))] [] M (p_L_some M (D.2.2.2.2.2.1 : Int) (fun i => (D.2.2.2.2.2.2 i.toNat).toInt) a0 a2) := by
  unfold p_L_some
  refine XE.go (st_aload_n (j := 0) (i := 0) (pc' := 1) (by decide +kernel) rfl rfl (by decide) rfl) ?_
  refine XE.go (st_iconst (n := 0) (pc' := 2) (by decide +kernel) (w_eq (by decide) (by decide)) rfl) ?_
  refine XE.go (st_iconst (n := 1) (pc' := 3) (by decide +kernel) (w_eq (by decide) (by decide)) rfl) ?_
  refine XE.cWk (κ1 := 1) (κ2 := 0) (by omega) (pc' := 6) (st := []) (fun r hr => cq_L_ofGroup r hr) (fun r hr => run_S (st := []) (by decide +kernel) co_L_some_129 (cq_L_ofGroup r hr) rfl rfl (Nat.le_of_ble_eq_true rfl)) rfl rfl (fun r1 => ?_)
  refine XE.go (st_istore_n (j := 3) (i := 3) (pc' := 7) (by decide +kernel) rfl rfl (by decide) rfl rfl) ?_
  refine XE.go (st_iconst (n := 0) (pc' := 8) (by decide +kernel) (w_eq (by decide) (by decide)) rfl) ?_
  refine XE.go (st_istore (j := 4) (pc' := 10) (by decide +kernel)  rfl (by decide) rfl rfl) ?_
  refine XE.go (st_iconst (n := 0) (pc' := 11) (by decide +kernel) (w_eq (by decide) (by decide)) rfl) ?_
  refine XE.go (st_istore (j := 5) (pc' := 13) (by decide +kernel)  rfl (by decide) rfl rfl) ?_
  refine XE.pick [4, 5, 2, 1, 0] (L' := [(1, (100, (-1))), (2, (0, a2)), (3, (0, r1.1)), (4, (0, 0)), (5, (0, 0))]) rfl ?_
  refine XE.loopJk (b := 0) (e := 0) (by omega) (n := 13) (s0 := (0, 0)) (pcL := 13) (pcE := 37) (LL := fun (s2 : Int × Int) => [(1, (100, (-1))), (2, (0, a2)), (3, (0, r1.1)), (4, (0, s2.1)), (5, (0, s2.2))]) (sL := fun _ => []) (ML := fun (s2 : Int × Int) => r1.2) (LE := fun (t3 : Int) => [(1, (100, (-1))), (2, (0, a2)), (3, (0, r1.1)), (4, (0, t3))]) (sE := fun _ => []) (ME := fun (t3 : Int) => r1.2) (fun kp34 hkp34 kk38 hc35 he36 s2 => ?_) (fun t3 => ?_)
  · unfold b_L_some_13
    refine XE.go (st_iload (j := 5) (pc' := 15) (by decide +kernel) rfl rfl) ?_
    refine XE.go (st_bipush (n := 12) (pc' := 17) (by decide +kernel) (by decide) (w_eq (by decide) (by decide)) rfl) ?_
    refine XE.bite (fun h39 => ?_) (fun h40 => ?_)
    · refine XE.go (st_icmp_ge_f (off := 20) (pc' := 20) (by decide +kernel) 37 (by decide) rfl (Int.not_le.mpr h39)) ?_
      refine XE.go (st_iload (j := 4) (pc' := 22) (by decide +kernel) rfl rfl) ?_
      refine XE.go (st_iload_n (j := 3) (i := 3) (pc' := 23) (by decide +kernel) rfl rfl rfl) ?_
      refine XE.go (st_iload (j := 5) (pc' := 25) (by decide +kernel) rfl rfl) ?_
      refine XE.go (st_ishr (pc' := 26) (by decide +kernel) rfl) ?_
      refine XE.go (st_iconst (n := 1) (pc' := 27) (by decide +kernel) (w_eq (by decide) (by decide)) rfl) ?_
      refine XE.go (st_iand (pc' := 28) (by decide +kernel) rfl) ?_
      refine XE.go (st_iadd (pc' := 29) (by decide +kernel) rfl) ?_
      refine XE.asc ?_
      refine XE.gen (fun v41 e42 => ?_)
      refine XE.go (st_istore (j := 4) (pc' := 31) (by decide +kernel)  rfl (by decide) rfl rfl) ?_
      refine XE.go (st_iinc (j := 5) (n := 1) (pc' := 34) (by decide +kernel) rfl rfl (by decide) rfl rfl) ?_
      refine XE.go (st_goto (off := (-21)) (pc' := 13) (by decide +kernel) (by decide)) ?_
      exact XE.mono (by omega) (XE.pick [2, 3, 4, 1, 0] rfl (hc35 (v41, (w (s2.2 + 1)))))
    · refine XE.go (st_icmp_ge_t (off := 20) (pc' := 37) (by decide +kernel) (by decide) (Int.not_lt.mp h40)) ?_
      exact XE.mono (by omega) (XE.pick [0, 1, 2, 3] rfl (he36 s2.1))
  · refine XE.go (st_iload (j := 4) (pc' := 39) (by decide +kernel) rfl rfl) ?_
    refine XE.joink (κ1 := 0) (pcJ := 53) (LJ := fun (s4 : Int) => [(3, (0, r1.1))]) (sJ := fun (s4 : Int) => [(0, s4)]) (MJ := fun (s4 : Int) => r1.2) (fun kk30 hk28 => ?_) (fun s4 => ?_)
    · refine XE.bite (fun h31 => ?_) (fun h32 => ?_)
      · refine XE.go (st_if_ne_f (off := 7) (pc' := 42) (by decide +kernel) 46 (by decide) rfl (not_not_intro h31)) ?_
        refine XE.go (st_iconst (n := 0) (pc' := 43) (by decide +kernel) (w_eq (by decide) (by decide)) rfl) ?_
        refine XE.go (st_goto (off := 10) (pc' := 53) (by decide +kernel) (by decide)) ?_
        exact XE.mono (by omega) (XE.pick [2] rfl (hk28 0))
      · refine XE.go (st_if_ne_t (off := 7) (pc' := 46) (by decide +kernel) (by decide) h32) ?_
        refine XE.go (st_aload_n (j := 1) (i := 1) (pc' := 47) (by decide +kernel) rfl rfl (by decide) rfl) ?_
        refine XE.go (st_iload_n (j := 2) (i := 2) (pc' := 48) (by decide +kernel) rfl rfl rfl) ?_
        refine XE.go (st_iload (j := 4) (pc' := 50) (by decide +kernel) rfl rfl) ?_
        refine XE.asc ?_
        refine XE.cP (pc' := 53) (st := []) (fun r hr => ct_L_cell r hr) (fun r hr => run_S (st := []) (by decide +kernel) co_L_some_134 (ct_L_cell r hr) rfl rfl (Nat.le_of_ble_eq_true rfl)) rfl rfl (fun r33 => ?_)
        exact XE.mono (by omega) (XE.pick [2] rfl (hk28 r33))
    · refine XE.go (st_istore (j := 5) (pc' := 55) (by decide +kernel)  rfl (by decide) rfl rfl) ?_
      refine XE.go (st_iconst (n := 0) (pc' := 56) (by decide +kernel) (w_eq (by decide) (by decide)) rfl) ?_
      refine XE.go (st_istore (j := 6) (pc' := 58) (by decide +kernel)  rfl (by decide) rfl rfl) ?_
      refine XE.pick [2, 1, 0] (L' := [(3, (0, r1.1)), (5, (0, s4)), (6, (0, 0))]) rfl ?_
      refine XE.loopXk (b := 0) (e := 0) (by omega) (n := 13) (s0 := (s4, 0)) (pcL := 58) (pcE := 92) (LL := fun (s5 : Int × Int) => [(3, (0, r1.1)), (5, (0, s5.1)), (6, (0, s5.2))]) (sL := fun _ => []) (ML := fun (s5 : Int × Int) => r1.2) (LE := fun (t6 : Unit) => []) (sE := fun _ => []) (ME := fun (t6 : Unit) => r1.2) (fun kp7 hkp7 kk21 hx20 hc18 he19 s5 => ?_) (fun t6 => ?_)
      · unfold b_L_some_58
        refine XE.go (st_iload (j := 6) (pc' := 60) (by decide +kernel) rfl rfl) ?_
        refine XE.go (st_bipush (n := 12) (pc' := 62) (by decide +kernel) (by decide) (w_eq (by decide) (by decide)) rfl) ?_
        refine XE.bite (fun h22 => ?_) (fun h23 => ?_)
        · refine XE.go (st_icmp_ge_f (off := 30) (pc' := 65) (by decide +kernel) 92 (by decide) rfl (Int.not_le.mpr h22)) ?_
          refine XE.go (st_iload_n (j := 3) (i := 3) (pc' := 66) (by decide +kernel) rfl rfl rfl) ?_
          refine XE.go (st_iload (j := 6) (pc' := 68) (by decide +kernel) rfl rfl) ?_
          refine XE.go (st_ishr (pc' := 69) (by decide +kernel) rfl) ?_
          refine XE.go (st_iconst (n := 1) (pc' := 70) (by decide +kernel) (w_eq (by decide) (by decide)) rfl) ?_
          refine XE.go (st_iand (pc' := 71) (by decide +kernel) rfl) ?_
          refine XE.go (st_iconst (n := 1) (pc' := 72) (by decide +kernel) (w_eq (by decide) (by decide)) rfl) ?_
          refine XE.bite (fun h24 => ?_) (fun h25 => ?_)
          · refine XE.go (st_icmp_ne_f (off := 14) (pc' := 75) (by decide +kernel) 86 (by decide) rfl (not_not_intro h24)) ?_
            refine XE.go (st_iload (j := 5) (pc' := 77) (by decide +kernel) rfl rfl) ?_
            refine XE.bite (fun h26 => ?_) (fun h27 => ?_)
            · refine XE.go (st_if_ne_f (off := 6) (pc' := 80) (by decide +kernel) 83 (by decide) rfl (not_not_intro h26)) ?_
              refine XE.go (st_iload (j := 6) (pc' := 82) (by decide +kernel) rfl rfl) ?_
              refine XE.cast (hx20 _) ?_
              exact XE.rt rfl (X_iret (by decide +kernel) rfl)
            · refine XE.go (st_if_ne_t (off := 6) (pc' := 83) (by decide +kernel) (by decide) h27) ?_
              refine XE.go (st_iinc (j := 5) (n := (-1)) (pc' := 86) (by decide +kernel) rfl rfl (by decide) rfl rfl) ?_
              refine XE.go (st_iinc (j := 6) (n := 1) (pc' := 89) (by decide +kernel) rfl rfl (by decide) rfl rfl) ?_
              refine XE.go (st_goto (off := (-31)) (pc' := 58) (by decide +kernel) (by decide)) ?_
              exact XE.mono (by omega) (XE.pick [2, 1, 0] rfl (hc18 ((w (s5.1 + (-1))), (w (s5.2 + 1)))))
          · refine XE.go (st_icmp_ne_t (off := 14) (pc' := 86) (by decide +kernel) (by decide) h25) ?_
            refine XE.go (st_iinc (j := 6) (n := 1) (pc' := 89) (by decide +kernel) rfl rfl (by decide) rfl rfl) ?_
            refine XE.go (st_goto (off := (-31)) (pc' := 58) (by decide +kernel) (by decide)) ?_
            exact XE.mono (by omega) (XE.pick [1, 2, 0] rfl (hc18 (s5.1, (w (s5.2 + 1)))))
        · refine XE.go (st_icmp_ge_t (off := 30) (pc' := 92) (by decide +kernel) (by decide) (Int.not_lt.mp h23)) ?_
          exact XE.mono (by omega) (XE.pick [] rfl (he19 ()))
      · refine XE.go (st_iconst (n := 0) (pc' := 93) (by decide +kernel) (w_eq (by decide) (by decide)) rfl) ?_
        exact XE.rt rfl (X_iret (by decide +kernel) rfl)
theorem ct_L_some {D : Dt} {M : Mm} {a0 a2 : Int} (r : (Int × Mm)) (hr : p_L_some M (D.2.2.2.2.2.1 : Int) (fun i => (D.2.2.2.2.2.2 i.toNat).toInt) a0 a2 = some r) : CT D 1 mu_L_some [(14, a0), (100, (-1)), (0, a2)] M (.inl (some (0, r.1))) r.2 := CT.of (by decide +kernel) rfl (Nat.le_of_ble_eq_true rfl) (xe_L_some r hr)
def p_L_reads (M : Mm) (a0 a1 a2 a3 : Int) : Option (Int × Mm) := (q_L_read M a0 0 a1).bind fun r1 => if r1.1 < 0 then some (1, r1.2) else (q_L_message r1.2 a0 r1.1 0).bind fun r4 => (q_L_message r4.2 a0 r1.1 1).bind fun r5 => (q_L_message r5.2 a0 r1.1 4).bind fun r6 => (q_L_message r6.2 a0 r1.1 3).bind fun r7 => (q_L_message r7.2 a0 r1.1 5).bind fun r8 => (some ((w ((w (5 * r7.1)) + r8.1)))).bind fun v9 => (if r4.1 = 1 then if r5.1 = 0 then some (1) else if r5.1 = 2 then some (1) else some (0) else if r4.1 = 3 then if r5.1 = 0 then some (1) else if r5.1 = 2 then some (1) else some (0) else some (0) : Option (Int)).bind fun (s11 : Int) => (q_L_seen r8.2 a0 0 r1.1).bind fun r12 => (if r12.1 = 1 then gd (aok a3 v9) ((if r6.1 < (rd r12.2 a3 v9) then some (0) else (p_L_has r12.2 a2 r1.1).bind fun r34 => if r34 = 0 then some (1) else some (0) : Option (Int)).bind fun (s24 : Int) => (some ((ian s11 s24))).bind fun v25 => gd (aok a3 v9) ((some (wr r12.2 a3 v9 (w (r6.1 + 1)))).bind fun M28 => some ((v25, M28)))) else some ((s11, r12.2)) : Option (Int × Mm)).bind fun (s13 : Int × Mm) => gd (aok a2 (shr r1.1 6)) (gd (aok a2 (shr r1.1 6)) ((some (wr s13.2 a2 (shr r1.1 6) (lio (rd s13.2 a2 (shr r1.1 6)) (lsl 1 (ian r1.1 63))))).bind fun M16 => gd (s13.1 = 0 ∨ s13.1 = 1) (some (s13.1, M16))))
set_option maxRecDepth 100000 in
set_option maxHeartbeats 4000000 in
theorem xe_L_reads {D : Dt} {M : Mm} {a0 a1 a2 a3 : Int} : XE D 7 mu_L_reads (EW 0) 0 [(0, (14, a0)), (1, (0, a1)), (2, (18, a2)), (3, (16, a3))] [] M (p_L_reads M a0 a1 a2 a3) := by
  unfold p_L_reads
  refine XE.go (st_aload_n (j := 0) (i := 0) (pc' := 1) (by decide +kernel) rfl rfl (by decide) rfl) ?_
  refine XE.go (st_iconst (n := 0) (pc' := 2) (by decide +kernel) (w_eq (by decide) (by decide)) rfl) ?_
  refine XE.go (st_iload_n (j := 1) (i := 1) (pc' := 3) (by decide +kernel) rfl rfl rfl) ?_
  refine XE.cWk (κ1 := 1) (κ2 := 6) (by omega) (pc' := 6) (st := []) (fun r hr => cq_L_read r hr) (fun r hr => run_S (st := []) (by decide +kernel) co_L_reads_138 (cq_L_read r hr) rfl rfl (Nat.le_of_ble_eq_true rfl)) rfl rfl (fun r1 => ?_)
  refine XE.go (st_istore (j := 4) (pc' := 8) (by decide +kernel)  rfl (by decide) rfl rfl) ?_
  refine XE.go (st_iload (j := 4) (pc' := 10) (by decide +kernel) rfl rfl) ?_
  refine XE.ite (fun h2 => ?_) (fun h3 => ?_)
  · refine XE.go (st_if_ge_f (off := 5) (pc' := 13) (by decide +kernel) 15 (by decide) rfl (Int.not_le.mpr h2)) ?_
    refine XE.go (st_iconst (n := 1) (pc' := 14) (by decide +kernel) (w_eq (by decide) (by decide)) rfl) ?_
    exact XE.rt rfl (X_zret (by decide +kernel) rfl (by decide))
  · refine XE.go (st_if_ge_t (off := 5) (pc' := 15) (by decide +kernel) (by decide) (Int.not_lt.mp h3)) ?_
    refine XE.go (st_aload_n (j := 0) (i := 0) (pc' := 16) (by decide +kernel) rfl rfl (by decide) rfl) ?_
    refine XE.go (st_iload (j := 4) (pc' := 18) (by decide +kernel) rfl rfl) ?_
    refine XE.go (st_iconst (n := 0) (pc' := 19) (by decide +kernel) (w_eq (by decide) (by decide)) rfl) ?_
    refine XE.cWk (κ1 := 1) (κ2 := 5) (by omega) (pc' := 22) (st := []) (fun r hr => cq_L_message r hr) (fun r hr => run_S (st := []) (by decide +kernel) co_L_reads_140 (cq_L_message r hr) rfl rfl (Nat.le_of_ble_eq_true rfl)) rfl rfl (fun r4 => ?_)
    refine XE.go (st_istore (j := 5) (pc' := 24) (by decide +kernel)  rfl (by decide) rfl rfl) ?_
    refine XE.go (st_aload_n (j := 0) (i := 0) (pc' := 25) (by decide +kernel) rfl rfl (by decide) rfl) ?_
    refine XE.go (st_iload (j := 4) (pc' := 27) (by decide +kernel) rfl rfl) ?_
    refine XE.go (st_iconst (n := 1) (pc' := 28) (by decide +kernel) (w_eq (by decide) (by decide)) rfl) ?_
    refine XE.cWk (κ1 := 1) (κ2 := 4) (by omega) (pc' := 31) (st := []) (fun r hr => cq_L_message r hr) (fun r hr => run_S (st := []) (by decide +kernel) co_L_reads_140 (cq_L_message r hr) rfl rfl (Nat.le_of_ble_eq_true rfl)) rfl rfl (fun r5 => ?_)
    refine XE.go (st_istore (j := 6) (pc' := 33) (by decide +kernel)  rfl (by decide) rfl rfl) ?_
    refine XE.go (st_aload_n (j := 0) (i := 0) (pc' := 34) (by decide +kernel) rfl rfl (by decide) rfl) ?_
    refine XE.go (st_iload (j := 4) (pc' := 36) (by decide +kernel) rfl rfl) ?_
    refine XE.go (st_iconst (n := 4) (pc' := 37) (by decide +kernel) (w_eq (by decide) (by decide)) rfl) ?_
    refine XE.cWk (κ1 := 1) (κ2 := 3) (by omega) (pc' := 40) (st := []) (fun r hr => cq_L_message r hr) (fun r hr => run_S (st := []) (by decide +kernel) co_L_reads_140 (cq_L_message r hr) rfl rfl (Nat.le_of_ble_eq_true rfl)) rfl rfl (fun r6 => ?_)
    refine XE.go (st_istore (j := 7) (pc' := 42) (by decide +kernel)  rfl (by decide) rfl rfl) ?_
    refine XE.go (st_iconst (n := 5) (pc' := 43) (by decide +kernel) (w_eq (by decide) (by decide)) rfl) ?_
    refine XE.go (st_aload_n (j := 0) (i := 0) (pc' := 44) (by decide +kernel) rfl rfl (by decide) rfl) ?_
    refine XE.go (st_iload (j := 4) (pc' := 46) (by decide +kernel) rfl rfl) ?_
    refine XE.go (st_iconst (n := 3) (pc' := 47) (by decide +kernel) (w_eq (by decide) (by decide)) rfl) ?_
    refine XE.cWk (κ1 := 1) (κ2 := 2) (by omega) (pc' := 50) (st := [(0, 5)]) (fun r hr => cq_L_message r hr) (fun r hr => run_S (st := [(0, 5)]) (by decide +kernel) co_L_reads_140 (cq_L_message r hr) rfl rfl (Nat.le_of_ble_eq_true rfl)) rfl rfl (fun r7 => ?_)
    refine XE.go (st_imul (pc' := 51) (by decide +kernel) rfl) ?_
    refine XE.go (st_aload_n (j := 0) (i := 0) (pc' := 52) (by decide +kernel) rfl rfl (by decide) rfl) ?_
    refine XE.go (st_iload (j := 4) (pc' := 54) (by decide +kernel) rfl rfl) ?_
    refine XE.go (st_iconst (n := 5) (pc' := 55) (by decide +kernel) (w_eq (by decide) (by decide)) rfl) ?_
    refine XE.cWk (κ1 := 1) (κ2 := 1) (by omega) (pc' := 58) (st := [(0, (w (5 * r7.1)))]) (fun r hr => cq_L_message r hr) (fun r hr => run_S (st := [(0, (w (5 * r7.1)))]) (by decide +kernel) co_L_reads_140 (cq_L_message r hr) rfl rfl (Nat.le_of_ble_eq_true rfl)) rfl rfl (fun r8 => ?_)
    refine XE.go (st_iadd (pc' := 59) (by decide +kernel) rfl) ?_
    refine XE.gen (fun v9 e10 => ?_)
    refine XE.go (st_istore (j := 8) (pc' := 61) (by decide +kernel)  rfl (by decide) rfl rfl) ?_
    refine XE.go (st_iload (j := 5) (pc' := 63) (by decide +kernel) rfl rfl) ?_
    refine XE.go (st_iconst (n := 1) (pc' := 64) (by decide +kernel) (w_eq (by decide) (by decide)) rfl) ?_
    refine XE.joink (κ1 := 1) (pcJ := 89) (LJ := fun (s11 : Int) => [(0, (14, a0)), (2, (18, a2)), (3, (16, a3)), (4, (0, r1.1)), (7, (0, r6.1)), (8, (0, v9))]) (sJ := fun (s11 : Int) => [(0, s11)]) (MJ := fun (s11 : Int) => r8.2) (fun kk39 hk37 => ?_) (fun s11 => ?_)
    · refine XE.bite (fun h40 => ?_) (fun h41 => ?_)
      · refine XE.go (st_icmp_eq_t (off := 9) (pc' := 73) (by decide +kernel) (by decide) h40) ?_
        refine XE.go (st_iload (j := 6) (pc' := 75) (by decide +kernel) rfl rfl) ?_
        refine XE.bite (fun h42 => ?_) (fun h43 => ?_)
        · refine XE.go (st_if_eq_t (off := 9) (pc' := 84) (by decide +kernel) (by decide) h42) ?_
          refine XE.go (st_iconst (n := 1) (pc' := 85) (by decide +kernel) (w_eq (by decide) (by decide)) rfl) ?_
          refine XE.go (st_goto (off := 4) (pc' := 89) (by decide +kernel) (by decide)) ?_
          exact XE.mono (by omega) (XE.pick [5, 7, 8, 4, 1, 0] rfl (hk37 1))
        · refine XE.go (st_if_eq_f (off := 9) (pc' := 78) (by decide +kernel) 84 (by decide) rfl h43) ?_
          refine XE.go (st_iload (j := 6) (pc' := 80) (by decide +kernel) rfl rfl) ?_
          refine XE.go (st_iconst (n := 2) (pc' := 81) (by decide +kernel) (w_eq (by decide) (by decide)) rfl) ?_
          refine XE.bite (fun h44 => ?_) (fun h45 => ?_)
          · refine XE.go (st_icmp_ne_f (off := 7) (pc' := 84) (by decide +kernel) 88 (by decide) rfl (not_not_intro h44)) ?_
            refine XE.go (st_iconst (n := 1) (pc' := 85) (by decide +kernel) (w_eq (by decide) (by decide)) rfl) ?_
            refine XE.go (st_goto (off := 4) (pc' := 89) (by decide +kernel) (by decide)) ?_
            exact XE.mono (by omega) (XE.pick [5, 7, 8, 4, 1, 0] rfl (hk37 1))
          · refine XE.go (st_icmp_ne_t (off := 7) (pc' := 88) (by decide +kernel) (by decide) h45) ?_
            refine XE.go (st_iconst (n := 0) (pc' := 89) (by decide +kernel) (w_eq (by decide) (by decide)) rfl) ?_
            exact XE.mono (by omega) (XE.pick [5, 7, 8, 4, 1, 0] rfl (hk37 0))
      · refine XE.go (st_icmp_eq_f (off := 9) (pc' := 67) (by decide +kernel) 73 (by decide) rfl h41) ?_
        refine XE.go (st_iload (j := 5) (pc' := 69) (by decide +kernel) rfl rfl) ?_
        refine XE.go (st_iconst (n := 3) (pc' := 70) (by decide +kernel) (w_eq (by decide) (by decide)) rfl) ?_
        refine XE.bite (fun h46 => ?_) (fun h47 => ?_)
        · refine XE.go (st_icmp_ne_f (off := 18) (pc' := 73) (by decide +kernel) 88 (by decide) rfl (not_not_intro h46)) ?_
          refine XE.go (st_iload (j := 6) (pc' := 75) (by decide +kernel) rfl rfl) ?_
          refine XE.bite (fun h48 => ?_) (fun h49 => ?_)
          · refine XE.go (st_if_eq_t (off := 9) (pc' := 84) (by decide +kernel) (by decide) h48) ?_
            refine XE.go (st_iconst (n := 1) (pc' := 85) (by decide +kernel) (w_eq (by decide) (by decide)) rfl) ?_
            refine XE.go (st_goto (off := 4) (pc' := 89) (by decide +kernel) (by decide)) ?_
            exact XE.mono (by omega) (XE.pick [5, 7, 8, 4, 1, 0] rfl (hk37 1))
          · refine XE.go (st_if_eq_f (off := 9) (pc' := 78) (by decide +kernel) 84 (by decide) rfl h49) ?_
            refine XE.go (st_iload (j := 6) (pc' := 80) (by decide +kernel) rfl rfl) ?_
            refine XE.go (st_iconst (n := 2) (pc' := 81) (by decide +kernel) (w_eq (by decide) (by decide)) rfl) ?_
            refine XE.bite (fun h50 => ?_) (fun h51 => ?_)
            · refine XE.go (st_icmp_ne_f (off := 7) (pc' := 84) (by decide +kernel) 88 (by decide) rfl (not_not_intro h50)) ?_
              refine XE.go (st_iconst (n := 1) (pc' := 85) (by decide +kernel) (w_eq (by decide) (by decide)) rfl) ?_
              refine XE.go (st_goto (off := 4) (pc' := 89) (by decide +kernel) (by decide)) ?_
              exact XE.mono (by omega) (XE.pick [5, 7, 8, 4, 1, 0] rfl (hk37 1))
            · refine XE.go (st_icmp_ne_t (off := 7) (pc' := 88) (by decide +kernel) (by decide) h51) ?_
              refine XE.go (st_iconst (n := 0) (pc' := 89) (by decide +kernel) (w_eq (by decide) (by decide)) rfl) ?_
              exact XE.mono (by omega) (XE.pick [5, 7, 8, 4, 1, 0] rfl (hk37 0))
        · refine XE.go (st_icmp_ne_t (off := 18) (pc' := 88) (by decide +kernel) (by decide) h47) ?_
          refine XE.go (st_iconst (n := 0) (pc' := 89) (by decide +kernel) (w_eq (by decide) (by decide)) rfl) ?_
          exact XE.mono (by omega) (XE.pick [5, 7, 8, 4, 1, 0] rfl (hk37 0))
    · refine XE.go (st_istore (j := 9) (pc' := 91) (by decide +kernel)  rfl (by decide) rfl rfl) ?_
      refine XE.go (st_aload_n (j := 0) (i := 0) (pc' := 92) (by decide +kernel) rfl rfl (by decide) rfl) ?_
      refine XE.go (st_iconst (n := 0) (pc' := 93) (by decide +kernel) (w_eq (by decide) (by decide)) rfl) ?_
      refine XE.go (st_iload (j := 4) (pc' := 95) (by decide +kernel) rfl rfl) ?_
      refine XE.cWk (κ1 := 1) (κ2 := 0) (by omega) (pc' := 98) (st := []) (fun r hr => cq_L_seen r hr) (fun r hr => run_S (st := []) (by decide +kernel) co_L_reads_142 (cq_L_seen r hr) rfl rfl (Nat.le_of_ble_eq_true rfl)) rfl rfl (fun r12 => ?_)
      refine XE.go (st_iconst (n := 1) (pc' := 99) (by decide +kernel) (w_eq (by decide) (by decide)) rfl) ?_
      refine XE.joink (κ1 := 0) (pcJ := 138) (LJ := fun (s13 : Int × Mm) => [(2, (18, a2)), (4, (0, r1.1)), (9, (0, s13.1))]) (sJ := fun (s13 : Int × Mm) => []) (MJ := fun (s13 : Int × Mm) => s13.2) (fun kk20 hk18 => ?_) (fun s13 => ?_)
      · refine XE.bite (fun h21 => ?_) (fun h22 => ?_)
        · refine XE.go (st_icmp_ne_f (off := 39) (pc' := 102) (by decide +kernel) 138 (by decide) rfl (not_not_intro h21)) ?_
          refine XE.go (st_iload (j := 9) (pc' := 104) (by decide +kernel) rfl rfl) ?_
          refine XE.go (st_iload (j := 7) (pc' := 106) (by decide +kernel) rfl rfl) ?_
          refine XE.go (st_aload_n (j := 3) (i := 3) (pc' := 107) (by decide +kernel) rfl rfl (by decide) rfl) ?_
          refine XE.go (st_iload (j := 8) (pc' := 109) (by decide +kernel) rfl rfl) ?_
          refine XE.gdb (fun g23 => ?_)
          refine XE.go (st_ald (k := 13) (tp := 0) (pc' := 110) (by decide +kernel) rfl ak_13 rfl (by decide) rfl (Or.inl ⟨rfl, rfl⟩) g23.1 g23.2.1 g23.2.2) ?_
          refine XE.asc ?_
          refine XE.joink (κ1 := 0) (pcJ := 127) (LJ := fun (s24 : Int) => [(2, (18, a2)), (3, (16, a3)), (4, (0, r1.1)), (7, (0, r6.1)), (8, (0, v9))]) (sJ := fun (s24 : Int) => [(0, s24), (0, s11)]) (MJ := fun (s24 : Int) => r12.2) (fun kk31 hk29 => ?_) (fun s24 => ?_)
          · refine XE.bite (fun h32 => ?_) (fun h33 => ?_)
            · refine XE.go (st_icmp_lt_t (off := 16) (pc' := 126) (by decide +kernel) (by decide) h32) ?_
              refine XE.go (st_iconst (n := 0) (pc' := 127) (by decide +kernel) (w_eq (by decide) (by decide)) rfl) ?_
              exact XE.mono (by omega) (XE.pick [2, 3, 4, 5, 6] rfl (hk29 0))
            · refine XE.go (st_icmp_lt_f (off := 16) (pc' := 113) (by decide +kernel) 126 (by decide) rfl h33) ?_
              refine XE.go (st_aload_n (j := 2) (i := 2) (pc' := 114) (by decide +kernel) rfl rfl (by decide) rfl) ?_
              refine XE.go (st_iload (j := 4) (pc' := 116) (by decide +kernel) rfl rfl) ?_
              refine XE.asc ?_
              refine XE.cP (pc' := 119) (st := [(0, s11)]) (fun r hr => ct_L_has r hr) (fun r hr => run_S (st := [(0, s11)]) (by decide +kernel) co_L_reads_144 (ct_L_has r hr) rfl rfl (Nat.le_of_ble_eq_true rfl)) rfl rfl (fun r34 => ?_)
              refine XE.bite (fun h35 => ?_) (fun h36 => ?_)
              · refine XE.go (st_if_ne_f (off := 7) (pc' := 122) (by decide +kernel) 126 (by decide) rfl (not_not_intro h35)) ?_
                refine XE.go (st_iconst (n := 1) (pc' := 123) (by decide +kernel) (w_eq (by decide) (by decide)) rfl) ?_
                refine XE.go (st_goto (off := 4) (pc' := 127) (by decide +kernel) (by decide)) ?_
                exact XE.mono (by omega) (XE.pick [2, 3, 4, 5, 6] rfl (hk29 1))
              · refine XE.go (st_if_ne_t (off := 7) (pc' := 126) (by decide +kernel) (by decide) h36) ?_
                refine XE.go (st_iconst (n := 0) (pc' := 127) (by decide +kernel) (w_eq (by decide) (by decide)) rfl) ?_
                exact XE.mono (by omega) (XE.pick [2, 3, 4, 5, 6] rfl (hk29 0))
          · refine XE.go (st_iand (pc' := 128) (by decide +kernel) rfl) ?_
            refine XE.asc ?_
            refine XE.gen (fun v25 e26 => ?_)
            refine XE.go (st_istore (j := 9) (pc' := 130) (by decide +kernel)  rfl (by decide) rfl rfl) ?_
            refine XE.go (st_aload_n (j := 3) (i := 3) (pc' := 131) (by decide +kernel) rfl rfl (by decide) rfl) ?_
            refine XE.go (st_iload (j := 8) (pc' := 133) (by decide +kernel) rfl rfl) ?_
            refine XE.go (st_iload (j := 7) (pc' := 135) (by decide +kernel) rfl rfl) ?_
            refine XE.go (st_iconst (n := 1) (pc' := 136) (by decide +kernel) (w_eq (by decide) (by decide)) rfl) ?_
            refine XE.go (st_iadd (pc' := 137) (by decide +kernel) rfl) ?_
            refine XE.gdb (fun g27 => ?_)
            refine XE.asc ?_
            refine XE.goM (st_ast (k := 13) (tp := 0) (pc' := 138) (by decide +kernel) rfl ak_13 rfl (by decide) rfl (Or.inl ⟨rfl, rfl, rfl, rfl⟩) g27.1 g27.2.1 g27.2.2) (fun M28 => ?_)
            exact XE.mono (by omega) (XE.pick [1, 3, 0] rfl (hk18 (v25, M28)))
        · refine XE.go (st_icmp_ne_t (off := 39) (pc' := 138) (by decide +kernel) (by decide) h22) ?_
          exact XE.mono (by omega) (XE.pick [2, 4, 0] rfl (hk18 (s11, r12.2)))
      · refine XE.go (st_aload_n (j := 2) (i := 2) (pc' := 139) (by decide +kernel) rfl rfl (by decide) rfl) ?_
        refine XE.go (st_iload (j := 4) (pc' := 141) (by decide +kernel) rfl rfl) ?_
        refine XE.go (st_bipush (n := 6) (pc' := 143) (by decide +kernel) (by decide) (w_eq (by decide) (by decide)) rfl) ?_
        refine XE.go (st_ishr (pc' := 144) (by decide +kernel) rfl) ?_
        refine XE.go (st_dup2 (pc' := 145) (by decide +kernel) rfl rfl rfl) ?_
        refine XE.gd_ (fun g14 => ?_)
        refine XE.go (st_ald (k := 15) (tp := 2) (pc' := 146) (by decide +kernel) rfl ak_15 rfl (by decide) rfl (Or.inr (Or.inr (Or.inl ⟨rfl, rfl⟩))) g14.1 g14.2.1 g14.2.2) ?_
        refine XE.go (st_lconst (n := 1) (z := 1) (pc' := 147) (by decide +kernel) (by decide) (by decide) rfl) ?_
        refine XE.go (st_iload (j := 4) (pc' := 149) (by decide +kernel) rfl rfl) ?_
        refine XE.go (st_bipush (n := 63) (pc' := 151) (by decide +kernel) (by decide) (w_eq (by decide) (by decide)) rfl) ?_
        refine XE.go (st_iand (pc' := 152) (by decide +kernel) rfl) ?_
        refine XE.go (st_lshl (pc' := 153) (by decide +kernel) rfl) ?_
        refine XE.go (st_lor (pc' := 154) (by decide +kernel) rfl) ?_
        refine XE.gd_ (fun g15 => ?_)
        refine XE.goM (st_ast (k := 15) (tp := 2) (pc' := 155) (by decide +kernel) rfl ak_15 rfl (by decide) rfl (Or.inr (Or.inr ⟨rfl, rfl, rfl, rfl⟩)) g15.1 g15.2.1 g15.2.2) (fun M16 => ?_)
        refine XE.go (st_iload (j := 9) (pc' := 157) (by decide +kernel) rfl rfl) ?_
        refine XE.gd_ (fun g17 => ?_)
        exact XE.rt rfl (X_zret (by decide +kernel) rfl g17)
theorem ct_L_reads {D : Dt} {M : Mm} {a0 a1 a2 a3 : Int} (r : (Int × Mm)) (hr : p_L_reads M a0 a1 a2 a3 = some r) : CT D 7 mu_L_reads [(14, a0), (0, a1), (18, a2), (16, a3)] M (.inl (some (0, r.1))) r.2 := CT.of (by decide +kernel) rfl (Nat.le_of_ble_eq_true rfl) (xe_L_reads r hr)
def b_L_thins_42 (a2 : Int) (a0 : Int) (s5 : Int × Int × Mm) : Option ((Int × Int × Mm) ⊕ (Int × Mm)) := if s5.2.1 < 5 then gd (aok a2 (w (15 + s5.2.1))) ((q_L_value s5.2.2 a0 0 s5.2.1).bind fun r16 => if (rd s5.2.2 a2 (w (15 + s5.2.1))) = r16.1 then (some ((ian s5.1 1))).bind fun v19 => some (.inl (v19, (w (s5.2.1 + 1)), r16.2)) else (some ((ian s5.1 0))).bind fun v21 => some (.inl (v21, (w (s5.2.1 + 1)), r16.2))) else some (.inr (s5.1, s5.2.2))
def b_L_thins_2 (a0 : Int) (a2 : Int) (s1 : Int × Mm) : Option ((Int × Mm) ⊕ (Mm)) := if s1.1 < 5 then (q_L_value s1.2 a0 0 s1.1).bind fun r35 => gd (aok a2 (w (15 + s1.1))) ((some (wr r35.2 a2 (w (15 + s1.1)) r35.1)).bind fun M37 => some (.inl ((w (s1.1 + 1)), M37))) else some (.inr s1.2)
def p_L_thins (M : Mm) (a0 a1 a2 : Int) : Option (Int × Mm) := (lp (b_L_thins_2 a0 a2) 6 (0, M)).bind fun (t2 : Mm) => (q_L_compact t2 a0 a1).bind fun r3 => (if r3.1 < 0 then some (0) else some (1) : Option (Int)).bind fun (s4 : Int) => (lp (b_L_thins_42 a2 a0) 6 (s4, 0, r3.2)).bind fun (t6 : Int × Mm) => gd (t6.1 = 0 ∨ t6.1 = 1) (some (t6.1, t6.2))
set_option maxRecDepth 100000 in
set_option maxHeartbeats 4000000 in
theorem xe_L_thins {D : Dt} {M : Mm} {a0 a1 a2 : Int} : XE D 13 mu_L_thins (EW 0) 0 [(0, (14, a0)), (1, (0, a1)), (2, (16, a2))] [] M (p_L_thins M a0 a1 a2) := by
  unfold p_L_thins
  refine XE.go (st_iconst (n := 0) (pc' := 1) (by decide +kernel) (w_eq (by decide) (by decide)) rfl) ?_
  refine XE.go (st_istore_n (j := 3) (i := 3) (pc' := 2) (by decide +kernel) rfl rfl (by decide) rfl rfl) ?_
  refine XE.pick [1, 2, 3, 0] (L' := [(0, (14, a0)), (1, (0, a1)), (2, (16, a2)), (3, (0, 0))]) rfl ?_
  refine XE.loopJk (b := 1) (e := 7) (by omega) (n := 6) (s0 := (0, M)) (pcL := 2) (pcE := 25) (LL := fun (s1 : Int × Mm) => [(0, (14, a0)), (1, (0, a1)), (2, (16, a2)), (3, (0, s1.1))]) (sL := fun _ => []) (ML := fun (s1 : Int × Mm) => s1.2) (LE := fun (t2 : Mm) => [(0, (14, a0)), (1, (0, a1)), (2, (16, a2))]) (sE := fun _ => []) (ME := fun (t2 : Mm) => t2) (fun kp28 hkp28 kk32 hc29 he30 s1 => ?_) (fun t2 => ?_)
  · unfold b_L_thins_2
    refine XE.go (st_iload_n (j := 3) (i := 3) (pc' := 3) (by decide +kernel) rfl rfl rfl) ?_
    refine XE.go (st_iconst (n := 5) (pc' := 4) (by decide +kernel) (w_eq (by decide) (by decide)) rfl) ?_
    refine XE.bite (fun h33 => ?_) (fun h34 => ?_)
    · refine XE.go (st_icmp_ge_f (off := 21) (pc' := 7) (by decide +kernel) 25 (by decide) rfl (Int.not_le.mpr h33)) ?_
      refine XE.go (st_aload_n (j := 2) (i := 2) (pc' := 8) (by decide +kernel) rfl rfl (by decide) rfl) ?_
      refine XE.go (st_bipush (n := 15) (pc' := 10) (by decide +kernel) (by decide) (w_eq (by decide) (by decide)) rfl) ?_
      refine XE.go (st_iload_n (j := 3) (i := 3) (pc' := 11) (by decide +kernel) rfl rfl rfl) ?_
      refine XE.go (st_iadd (pc' := 12) (by decide +kernel) rfl) ?_
      refine XE.go (st_aload_n (j := 0) (i := 0) (pc' := 13) (by decide +kernel) rfl rfl (by decide) rfl) ?_
      refine XE.go (st_iconst (n := 0) (pc' := 14) (by decide +kernel) (w_eq (by decide) (by decide)) rfl) ?_
      refine XE.go (st_iload_n (j := 3) (i := 3) (pc' := 15) (by decide +kernel) rfl rfl rfl) ?_
      refine XE.asc ?_
      refine XE.cWk (κ1 := 1) (κ2 := kp28 + 0) (by omega) (pc' := 18) (st := [(0, (w (15 + s1.1))), (16, a2)]) (fun r hr => cq_L_value r hr) (fun r hr => run_S (st := [(0, (w (15 + s1.1))), (16, a2)]) (by decide +kernel) co_L_thins_148 (cq_L_value r hr) rfl rfl (Nat.le_of_ble_eq_true rfl)) rfl rfl (fun r35 => ?_)
      refine XE.gdb (fun g36 => ?_)
      refine XE.asc ?_
      refine XE.goM (st_ast (k := 13) (tp := 0) (pc' := 19) (by decide +kernel) rfl ak_13 rfl (by decide) rfl (Or.inl ⟨rfl, rfl, rfl, rfl⟩) g36.1 g36.2.1 g36.2.2) (fun M37 => ?_)
      refine XE.go (st_iinc (j := 3) (n := 1) (pc' := 22) (by decide +kernel) rfl rfl (by decide) rfl rfl) ?_
      refine XE.go (st_goto (off := (-20)) (pc' := 2) (by decide +kernel) (by decide)) ?_
      exact XE.mono (by omega) (XE.pick [1, 2, 3, 0] rfl (hc29 ((w (s1.1 + 1)), M37)))
    · refine XE.go (st_icmp_ge_t (off := 21) (pc' := 25) (by decide +kernel) (by decide) (Int.not_lt.mp h34)) ?_
      exact XE.mono (by omega) (XE.pick [0, 1, 2] rfl (he30 s1.2))
  · refine XE.go (st_aload_n (j := 0) (i := 0) (pc' := 26) (by decide +kernel) rfl rfl (by decide) rfl) ?_
    refine XE.go (st_iload_n (j := 1) (i := 1) (pc' := 27) (by decide +kernel) rfl rfl rfl) ?_
    refine XE.cWk (κ1 := 1) (κ2 := 6) (by omega) (pc' := 30) (st := []) (fun r hr => cq_L_compact r hr) (fun r hr => run_S (st := []) (by decide +kernel) co_L_thins_150 (cq_L_compact r hr) rfl rfl (Nat.le_of_ble_eq_true rfl)) rfl rfl (fun r3 => ?_)
    refine XE.joink (κ1 := 6) (pcJ := 38) (LJ := fun (s4 : Int) => [(0, (14, a0)), (2, (16, a2))]) (sJ := fun (s4 : Int) => [(0, s4)]) (MJ := fun (s4 : Int) => r3.2) (fun kk25 hk23 => ?_) (fun s4 => ?_)
    · refine XE.bite (fun h26 => ?_) (fun h27 => ?_)
      · refine XE.go (st_if_lt_t (off := 7) (pc' := 37) (by decide +kernel) (by decide) h26) ?_
        refine XE.go (st_iconst (n := 0) (pc' := 38) (by decide +kernel) (w_eq (by decide) (by decide)) rfl) ?_
        exact XE.mono (by omega) (XE.pick [0, 2] rfl (hk23 0))
      · refine XE.go (st_if_lt_f (off := 7) (pc' := 33) (by decide +kernel) 37 (by decide) rfl h27) ?_
        refine XE.go (st_iconst (n := 1) (pc' := 34) (by decide +kernel) (w_eq (by decide) (by decide)) rfl) ?_
        refine XE.go (st_goto (off := 4) (pc' := 38) (by decide +kernel) (by decide)) ?_
        exact XE.mono (by omega) (XE.pick [0, 2] rfl (hk23 1))
    · refine XE.go (st_istore_n (j := 3) (i := 3) (pc' := 39) (by decide +kernel) rfl rfl (by decide) rfl rfl) ?_
      refine XE.go (st_iconst (n := 0) (pc' := 40) (by decide +kernel) (w_eq (by decide) (by decide)) rfl) ?_
      refine XE.go (st_istore (j := 4) (pc' := 42) (by decide +kernel)  rfl (by decide) rfl rfl) ?_
      refine XE.pick [2, 3, 1, 0] (L' := [(0, (14, a0)), (2, (16, a2)), (3, (0, s4)), (4, (0, 0))]) rfl ?_
      refine XE.loopJk (b := 1) (e := 0) (by omega) (n := 6) (s0 := (s4, 0, r3.2)) (pcL := 42) (pcE := 79) (LL := fun (s5 : Int × Int × Mm) => [(0, (14, a0)), (2, (16, a2)), (3, (0, s5.1)), (4, (0, s5.2.1))]) (sL := fun _ => []) (ML := fun (s5 : Int × Int × Mm) => s5.2.2) (LE := fun (t6 : Int × Mm) => [(3, (0, t6.1))]) (sE := fun _ => []) (ME := fun (t6 : Int × Mm) => t6.2) (fun kp8 hkp8 kk12 hc9 he10 s5 => ?_) (fun t6 => ?_)
      · unfold b_L_thins_42
        refine XE.go (st_iload (j := 4) (pc' := 44) (by decide +kernel) rfl rfl) ?_
        refine XE.go (st_iconst (n := 5) (pc' := 45) (by decide +kernel) (w_eq (by decide) (by decide)) rfl) ?_
        refine XE.bite (fun h13 => ?_) (fun h14 => ?_)
        · refine XE.go (st_icmp_ge_f (off := 34) (pc' := 48) (by decide +kernel) 79 (by decide) rfl (Int.not_le.mpr h13)) ?_
          refine XE.go (st_iload_n (j := 3) (i := 3) (pc' := 49) (by decide +kernel) rfl rfl rfl) ?_
          refine XE.go (st_aload_n (j := 2) (i := 2) (pc' := 50) (by decide +kernel) rfl rfl (by decide) rfl) ?_
          refine XE.go (st_bipush (n := 15) (pc' := 52) (by decide +kernel) (by decide) (w_eq (by decide) (by decide)) rfl) ?_
          refine XE.go (st_iload (j := 4) (pc' := 54) (by decide +kernel) rfl rfl) ?_
          refine XE.go (st_iadd (pc' := 55) (by decide +kernel) rfl) ?_
          refine XE.gdb (fun g15 => ?_)
          refine XE.go (st_ald (k := 13) (tp := 0) (pc' := 56) (by decide +kernel) rfl ak_13 rfl (by decide) rfl (Or.inl ⟨rfl, rfl⟩) g15.1 g15.2.1 g15.2.2) ?_
          refine XE.go (st_aload_n (j := 0) (i := 0) (pc' := 57) (by decide +kernel) rfl rfl (by decide) rfl) ?_
          refine XE.go (st_iconst (n := 0) (pc' := 58) (by decide +kernel) (w_eq (by decide) (by decide)) rfl) ?_
          refine XE.go (st_iload (j := 4) (pc' := 60) (by decide +kernel) rfl rfl) ?_
          refine XE.asc ?_
          refine XE.cWk (κ1 := 1) (κ2 := kp8 + 0) (by omega) (pc' := 63) (st := [(0, (rd s5.2.2 a2 (w (15 + s5.2.1)))), (0, s5.1)]) (fun r hr => cq_L_value r hr) (fun r hr => run_S (st := [(0, (rd s5.2.2 a2 (w (15 + s5.2.1)))), (0, s5.1)]) (by decide +kernel) co_L_thins_148 (cq_L_value r hr) rfl rfl (Nat.le_of_ble_eq_true rfl)) rfl rfl (fun r16 => ?_)
          refine XE.bite (fun h17 => ?_) (fun h18 => ?_)
          · refine XE.go (st_icmp_ne_f (off := 7) (pc' := 66) (by decide +kernel) 70 (by decide) rfl (not_not_intro h17)) ?_
            refine XE.go (st_iconst (n := 1) (pc' := 67) (by decide +kernel) (w_eq (by decide) (by decide)) rfl) ?_
            refine XE.go (st_goto (off := 4) (pc' := 71) (by decide +kernel) (by decide)) ?_
            refine XE.go (st_iand (pc' := 72) (by decide +kernel) rfl) ?_
            refine XE.asc ?_
            refine XE.gen (fun v19 e20 => ?_)
            refine XE.go (st_istore_n (j := 3) (i := 3) (pc' := 73) (by decide +kernel) rfl rfl (by decide) rfl rfl) ?_
            refine XE.go (st_iinc (j := 4) (n := 1) (pc' := 76) (by decide +kernel) rfl rfl (by decide) rfl rfl) ?_
            refine XE.go (st_goto (off := (-34)) (pc' := 42) (by decide +kernel) (by decide)) ?_
            exact XE.mono (by omega) (XE.pick [2, 3, 1, 0] rfl (hc9 (v19, (w (s5.2.1 + 1)), r16.2)))
          · refine XE.go (st_icmp_ne_t (off := 7) (pc' := 70) (by decide +kernel) (by decide) h18) ?_
            refine XE.go (st_iconst (n := 0) (pc' := 71) (by decide +kernel) (w_eq (by decide) (by decide)) rfl) ?_
            refine XE.go (st_iand (pc' := 72) (by decide +kernel) rfl) ?_
            refine XE.asc ?_
            refine XE.gen (fun v21 e22 => ?_)
            refine XE.go (st_istore_n (j := 3) (i := 3) (pc' := 73) (by decide +kernel) rfl rfl (by decide) rfl rfl) ?_
            refine XE.go (st_iinc (j := 4) (n := 1) (pc' := 76) (by decide +kernel) rfl rfl (by decide) rfl rfl) ?_
            refine XE.go (st_goto (off := (-34)) (pc' := 42) (by decide +kernel) (by decide)) ?_
            exact XE.mono (by omega) (XE.pick [2, 3, 1, 0] rfl (hc9 (v21, (w (s5.2.1 + 1)), r16.2)))
        · refine XE.go (st_icmp_ge_t (off := 34) (pc' := 79) (by decide +kernel) (by decide) (Int.not_lt.mp h14)) ?_
          exact XE.mono (by omega) (XE.pick [2] rfl (he10 (s5.1, s5.2.2)))
      · refine XE.go (st_iload_n (j := 3) (i := 3) (pc' := 80) (by decide +kernel) rfl rfl rfl) ?_
        refine XE.gd_ (fun g7 => ?_)
        exact XE.rt rfl (X_zret (by decide +kernel) rfl g7)
theorem ct_L_thins {D : Dt} {M : Mm} {a0 a1 a2 : Int} (r : (Int × Mm)) (hr : p_L_thins M a0 a1 a2 = some r) : CT D 13 mu_L_thins [(14, a0), (0, a1), (16, a2)] M (.inl (some (0, r.1))) r.2 := CT.of (by decide +kernel) rfl (Nat.le_of_ble_eq_true rfl) (xe_L_thins r hr)
def p_L_writes (M : Mm) (sl : Int) (sc : Int → Int) (a0 a2 : Int) : Option (Int × Mm) := (p_L_cell M sl sc (w (a2 + 1)) 2).bind fun r1 => (p_L_cell M sl sc a2 8).bind fun r2 => (if r2 = 0 then some (.inr M) else if r2 = 1 then some (.inr M) else if r2 = 2 then (p_L_cell M sl sc (w (a2 + 2)) 5).bind fun r50 => (p_L_cell M sl sc (w (a2 + 3)) 4000).bind fun r51 => (q_L_sendSome M a0 r1 0 (w (1 + r50)) r51).bind fun r52 => some (.inl (r52.1, r52.2)) else if r2 = 3 then (p_L_cell M sl sc (w (a2 + 2)) 5).bind fun r55 => (p_L_cell M sl sc (w (a2 + 3)) 20).bind fun r56 => (p_L_cell M sl sc (w (a2 + 4)) 6).bind fun r57 => (q_L_sendLater M a0 r1 0 r55 (w (r56 - 1)) (w (1 + r57))).bind fun r58 => some (.inl (r58.1, r58.2)) else if r2 = 4 then (q_L_begin M a0 r1).bind fun r61 => some (.inl (r61.1, r61.2)) else if r2 = 5 then (q_L_commit M a0 r1).bind fun r64 => some (.inl (r64.1, r64.2)) else if r2 = 6 then (p_L_cell M sl sc (w (a2 + 2)) 3).bind fun r67 => if r67 = 0 then (q_L_abort M a0 r1).bind fun r70 => some (.inl (r70.1, r70.2)) else (p_L_some M sl sc a0 (w (a2 + 3))).bind fun r71 => (q_L_attach r71.2 a0 r1 0 r71.1).bind fun r72 => some (.inl (r72.1, r72.2)) else (p_L_cell M sl sc (w (a2 + 2)) 3).bind fun r73 => (q_L_resend M a0 r1 r73).bind fun r74 => some (.inl (r74.1, r74.2)) : Option ((Int × Mm) ⊕ (Mm))).bind (Sum.elim some fun (s3 : Mm) => (p_L_cell s3 sl sc (w (a2 + 2)) 5).bind fun r4 => (p_L_cell s3 sl sc (w (a2 + 3)) 20).bind fun r5 => (q_L_send s3 a0 r1 0 r4 (w (r5 - 1))).bind fun r6 => some (r6.1, r6.2))
set_option maxRecDepth 100000 in
set_option maxHeartbeats 4000000 in
theorem xe_L_writes {D : Dt} {M : Mm} {a0 a2 : Int} : XE D 2 mu_L_writes (EW 0) 0 [(0, (14, a0)), (1, (100, (-1))), (2, (0, a2))] [] M (p_L_writes M (D.2.2.2.2.2.1 : Int) (fun i => (D.2.2.2.2.2.2 i.toNat).toInt) a0 a2) := by
  unfold p_L_writes
  refine XE.go (st_aload_n (j := 1) (i := 1) (pc' := 1) (by decide +kernel) rfl rfl (by decide) rfl) ?_
  refine XE.go (st_iload_n (j := 2) (i := 2) (pc' := 2) (by decide +kernel) rfl rfl rfl) ?_
  refine XE.go (st_iconst (n := 1) (pc' := 3) (by decide +kernel) (w_eq (by decide) (by decide)) rfl) ?_
  refine XE.go (st_iadd (pc' := 4) (by decide +kernel) rfl) ?_
  refine XE.go (st_iconst (n := 2) (pc' := 5) (by decide +kernel) (w_eq (by decide) (by decide)) rfl) ?_
  refine XE.cP (pc' := 8) (st := []) (fun r hr => ct_L_cell r hr) (fun r hr => run_S (st := []) (by decide +kernel) co_L_writes_134 (ct_L_cell r hr) rfl rfl (Nat.le_of_ble_eq_true rfl)) rfl rfl (fun r1 => ?_)
  refine XE.go (st_istore_n (j := 3) (i := 3) (pc' := 9) (by decide +kernel) rfl rfl (by decide) rfl rfl) ?_
  refine XE.go (st_aload_n (j := 1) (i := 1) (pc' := 10) (by decide +kernel) rfl rfl (by decide) rfl) ?_
  refine XE.go (st_iload_n (j := 2) (i := 2) (pc' := 11) (by decide +kernel) rfl rfl rfl) ?_
  refine XE.go (st_bipush (n := 8) (pc' := 13) (by decide +kernel) (by decide) (w_eq (by decide) (by decide)) rfl) ?_
  refine XE.cP (pc' := 16) (st := []) (fun r hr => ct_L_cell r hr) (fun r hr => run_S (st := []) (by decide +kernel) co_L_writes_134 (ct_L_cell r hr) rfl rfl (Nat.le_of_ble_eq_true rfl)) rfl rfl (fun r2 => ?_)
  refine XE.joinXk (κ1 := 1) (pcJ := 60) (LJ := fun (s3 : Mm) => [(0, (14, a0)), (1, (100, (-1))), (2, (0, a2)), (3, (0, r1))]) (sJ := fun (s3 : Mm) => []) (MJ := fun (s3 : Mm) => s3) (fun kk43 hx42 hk41 => ?_) (fun s3 => ?_)
  · refine XE.bite (fun h44 => ?_) (fun h45 => ?_)
    · refine XE.go (st_tab_in (dflt := 180) (lo := 0) (hi := 6) (offs := #[44, 44, 70, 97, 134, 140, 146]) (len := 44) (off := 44) (pc' := 60) (by decide +kernel) 0 h44 (by decide) (by decide) (by decide) (by decide)) ?_
      exact XE.mono (by omega) (XE.pick [1, 2, 3, 0] rfl (hk41 M))
    refine XE.bite (fun h46 => ?_) (fun h47 => ?_)
    · refine XE.go (st_tab_in (dflt := 180) (lo := 0) (hi := 6) (offs := #[44, 44, 70, 97, 134, 140, 146]) (len := 44) (off := 44) (pc' := 60) (by decide +kernel) 1 h46 (by decide) (by decide) (by decide) (by decide)) ?_
      exact XE.mono (by omega) (XE.pick [1, 2, 3, 0] rfl (hk41 M))
    refine XE.bite (fun h48 => ?_) (fun h49 => ?_)
    · refine XE.go (st_tab_in (dflt := 180) (lo := 0) (hi := 6) (offs := #[44, 44, 70, 97, 134, 140, 146]) (len := 44) (off := 70) (pc' := 86) (by decide +kernel) 2 h48 (by decide) (by decide) (by decide) (by decide)) ?_
      refine XE.go (st_aload_n (j := 0) (i := 0) (pc' := 87) (by decide +kernel) rfl rfl (by decide) rfl) ?_
      refine XE.go (st_iload_n (j := 3) (i := 3) (pc' := 88) (by decide +kernel) rfl rfl rfl) ?_
      refine XE.go (st_iconst (n := 0) (pc' := 89) (by decide +kernel) (w_eq (by decide) (by decide)) rfl) ?_
      refine XE.go (st_iconst (n := 1) (pc' := 90) (by decide +kernel) (w_eq (by decide) (by decide)) rfl) ?_
      refine XE.go (st_aload_n (j := 1) (i := 1) (pc' := 91) (by decide +kernel) rfl rfl (by decide) rfl) ?_
      refine XE.go (st_iload_n (j := 2) (i := 2) (pc' := 92) (by decide +kernel) rfl rfl rfl) ?_
      refine XE.go (st_iconst (n := 2) (pc' := 93) (by decide +kernel) (w_eq (by decide) (by decide)) rfl) ?_
      refine XE.go (st_iadd (pc' := 94) (by decide +kernel) rfl) ?_
      refine XE.go (st_iconst (n := 5) (pc' := 95) (by decide +kernel) (w_eq (by decide) (by decide)) rfl) ?_
      refine XE.asc ?_
      refine XE.cP (pc' := 98) (st := [(0, 1), (0, 0), (0, r1), (14, a0)]) (fun r hr => ct_L_cell r hr) (fun r hr => run_S (st := [(0, 1), (0, 0), (0, r1), (14, a0)]) (by decide +kernel) co_L_writes_134 (ct_L_cell r hr) rfl rfl (Nat.le_of_ble_eq_true rfl)) rfl rfl (fun r50 => ?_)
      refine XE.go (st_iadd (pc' := 99) (by decide +kernel) rfl) ?_
      refine XE.go (st_aload_n (j := 1) (i := 1) (pc' := 100) (by decide +kernel) rfl rfl (by decide) rfl) ?_
      refine XE.go (st_iload_n (j := 2) (i := 2) (pc' := 101) (by decide +kernel) rfl rfl rfl) ?_
      refine XE.go (st_iconst (n := 3) (pc' := 102) (by decide +kernel) (w_eq (by decide) (by decide)) rfl) ?_
      refine XE.go (st_iadd (pc' := 103) (by decide +kernel) rfl) ?_
      refine XE.go (st_sipush (n := 4000) (pc' := 106) (by decide +kernel) (by decide) (w_eq (by decide) (by decide)) rfl) ?_
      refine XE.asc ?_
      refine XE.cP (pc' := 109) (st := [(0, (w (1 + r50))), (0, 0), (0, r1), (14, a0)]) (fun r hr => ct_L_cell r hr) (fun r hr => run_S (st := [(0, (w (1 + r50))), (0, 0), (0, r1), (14, a0)]) (by decide +kernel) co_L_writes_134 (ct_L_cell r hr) rfl rfl (Nat.le_of_ble_eq_true rfl)) rfl rfl (fun r51 => ?_)
      refine XE.asc ?_
      refine XE.cWk (κ1 := 1) (κ2 := 0) (by omega) (pc' := 112) (st := []) (fun r hr => cq_L_sendSome r hr) (fun r hr => run_S (st := []) (by decide +kernel) co_L_writes_156 (cq_L_sendSome r hr) rfl rfl (Nat.le_of_ble_eq_true rfl)) rfl rfl (fun r52 => ?_)
      refine XE.cast (hx42 _) ?_
      exact XE.rt rfl (X_iret (by decide +kernel) rfl)
    refine XE.bite (fun h53 => ?_) (fun h54 => ?_)
    · refine XE.go (st_tab_in (dflt := 180) (lo := 0) (hi := 6) (offs := #[44, 44, 70, 97, 134, 140, 146]) (len := 44) (off := 97) (pc' := 113) (by decide +kernel) 3 h53 (by decide) (by decide) (by decide) (by decide)) ?_
      refine XE.go (st_aload_n (j := 0) (i := 0) (pc' := 114) (by decide +kernel) rfl rfl (by decide) rfl) ?_
      refine XE.go (st_iload_n (j := 3) (i := 3) (pc' := 115) (by decide +kernel) rfl rfl rfl) ?_
      refine XE.go (st_iconst (n := 0) (pc' := 116) (by decide +kernel) (w_eq (by decide) (by decide)) rfl) ?_
      refine XE.go (st_aload_n (j := 1) (i := 1) (pc' := 117) (by decide +kernel) rfl rfl (by decide) rfl) ?_
      refine XE.go (st_iload_n (j := 2) (i := 2) (pc' := 118) (by decide +kernel) rfl rfl rfl) ?_
      refine XE.go (st_iconst (n := 2) (pc' := 119) (by decide +kernel) (w_eq (by decide) (by decide)) rfl) ?_
      refine XE.go (st_iadd (pc' := 120) (by decide +kernel) rfl) ?_
      refine XE.go (st_iconst (n := 5) (pc' := 121) (by decide +kernel) (w_eq (by decide) (by decide)) rfl) ?_
      refine XE.asc ?_
      refine XE.cP (pc' := 124) (st := [(0, 0), (0, r1), (14, a0)]) (fun r hr => ct_L_cell r hr) (fun r hr => run_S (st := [(0, 0), (0, r1), (14, a0)]) (by decide +kernel) co_L_writes_134 (ct_L_cell r hr) rfl rfl (Nat.le_of_ble_eq_true rfl)) rfl rfl (fun r55 => ?_)
      refine XE.go (st_aload_n (j := 1) (i := 1) (pc' := 125) (by decide +kernel) rfl rfl (by decide) rfl) ?_
      refine XE.go (st_iload_n (j := 2) (i := 2) (pc' := 126) (by decide +kernel) rfl rfl rfl) ?_
      refine XE.go (st_iconst (n := 3) (pc' := 127) (by decide +kernel) (w_eq (by decide) (by decide)) rfl) ?_
      refine XE.go (st_iadd (pc' := 128) (by decide +kernel) rfl) ?_
      refine XE.go (st_bipush (n := 20) (pc' := 130) (by decide +kernel) (by decide) (w_eq (by decide) (by decide)) rfl) ?_
      refine XE.asc ?_
      refine XE.cP (pc' := 133) (st := [(0, r55), (0, 0), (0, r1), (14, a0)]) (fun r hr => ct_L_cell r hr) (fun r hr => run_S (st := [(0, r55), (0, 0), (0, r1), (14, a0)]) (by decide +kernel) co_L_writes_134 (ct_L_cell r hr) rfl rfl (Nat.le_of_ble_eq_true rfl)) rfl rfl (fun r56 => ?_)
      refine XE.go (st_iconst (n := 1) (pc' := 134) (by decide +kernel) (w_eq (by decide) (by decide)) rfl) ?_
      refine XE.go (st_isub (pc' := 135) (by decide +kernel) rfl) ?_
      refine XE.go (st_iconst (n := 1) (pc' := 136) (by decide +kernel) (w_eq (by decide) (by decide)) rfl) ?_
      refine XE.go (st_aload_n (j := 1) (i := 1) (pc' := 137) (by decide +kernel) rfl rfl (by decide) rfl) ?_
      refine XE.go (st_iload_n (j := 2) (i := 2) (pc' := 138) (by decide +kernel) rfl rfl rfl) ?_
      refine XE.go (st_iconst (n := 4) (pc' := 139) (by decide +kernel) (w_eq (by decide) (by decide)) rfl) ?_
      refine XE.go (st_iadd (pc' := 140) (by decide +kernel) rfl) ?_
      refine XE.go (st_bipush (n := 6) (pc' := 142) (by decide +kernel) (by decide) (w_eq (by decide) (by decide)) rfl) ?_
      refine XE.asc ?_
      refine XE.cP (pc' := 145) (st := [(0, 1), (0, (w (r56 - 1))), (0, r55), (0, 0), (0, r1), (14, a0)]) (fun r hr => ct_L_cell r hr) (fun r hr => run_S (st := [(0, 1), (0, (w (r56 - 1))), (0, r55), (0, 0), (0, r1), (14, a0)]) (by decide +kernel) co_L_writes_134 (ct_L_cell r hr) rfl rfl (Nat.le_of_ble_eq_true rfl)) rfl rfl (fun r57 => ?_)
      refine XE.go (st_iadd (pc' := 146) (by decide +kernel) rfl) ?_
      refine XE.asc ?_
      refine XE.cWk (κ1 := 1) (κ2 := 0) (by omega) (pc' := 149) (st := []) (fun r hr => cq_L_sendLater r hr) (fun r hr => run_S (st := []) (by decide +kernel) co_L_writes_158 (cq_L_sendLater r hr) rfl rfl (Nat.le_of_ble_eq_true rfl)) rfl rfl (fun r58 => ?_)
      refine XE.cast (hx42 _) ?_
      exact XE.rt rfl (X_iret (by decide +kernel) rfl)
    refine XE.bite (fun h59 => ?_) (fun h60 => ?_)
    · refine XE.go (st_tab_in (dflt := 180) (lo := 0) (hi := 6) (offs := #[44, 44, 70, 97, 134, 140, 146]) (len := 44) (off := 134) (pc' := 150) (by decide +kernel) 4 h59 (by decide) (by decide) (by decide) (by decide)) ?_
      refine XE.go (st_aload_n (j := 0) (i := 0) (pc' := 151) (by decide +kernel) rfl rfl (by decide) rfl) ?_
      refine XE.go (st_iload_n (j := 3) (i := 3) (pc' := 152) (by decide +kernel) rfl rfl rfl) ?_
      refine XE.asc ?_
      refine XE.cWk (κ1 := 1) (κ2 := 0) (by omega) (pc' := 155) (st := []) (fun r hr => cq_L_begin r hr) (fun r hr => run_S (st := []) (by decide +kernel) co_L_writes_161 (cq_L_begin r hr) rfl rfl (Nat.le_of_ble_eq_true rfl)) rfl rfl (fun r61 => ?_)
      refine XE.cast (hx42 _) ?_
      exact XE.rt rfl (X_iret (by decide +kernel) rfl)
    refine XE.bite (fun h62 => ?_) (fun h63 => ?_)
    · refine XE.go (st_tab_in (dflt := 180) (lo := 0) (hi := 6) (offs := #[44, 44, 70, 97, 134, 140, 146]) (len := 44) (off := 140) (pc' := 156) (by decide +kernel) 5 h62 (by decide) (by decide) (by decide) (by decide)) ?_
      refine XE.go (st_aload_n (j := 0) (i := 0) (pc' := 157) (by decide +kernel) rfl rfl (by decide) rfl) ?_
      refine XE.go (st_iload_n (j := 3) (i := 3) (pc' := 158) (by decide +kernel) rfl rfl rfl) ?_
      refine XE.asc ?_
      refine XE.cWk (κ1 := 1) (κ2 := 0) (by omega) (pc' := 161) (st := []) (fun r hr => cq_L_commit r hr) (fun r hr => run_S (st := []) (by decide +kernel) co_L_writes_163 (cq_L_commit r hr) rfl rfl (Nat.le_of_ble_eq_true rfl)) rfl rfl (fun r64 => ?_)
      refine XE.cast (hx42 _) ?_
      exact XE.rt rfl (X_iret (by decide +kernel) rfl)
    refine XE.bite (fun h65 => ?_) (fun h66 => ?_)
    · refine XE.go (st_tab_in (dflt := 180) (lo := 0) (hi := 6) (offs := #[44, 44, 70, 97, 134, 140, 146]) (len := 44) (off := 146) (pc' := 162) (by decide +kernel) 6 h65 (by decide) (by decide) (by decide) (by decide)) ?_
      refine XE.go (st_aload_n (j := 1) (i := 1) (pc' := 163) (by decide +kernel) rfl rfl (by decide) rfl) ?_
      refine XE.go (st_iload_n (j := 2) (i := 2) (pc' := 164) (by decide +kernel) rfl rfl rfl) ?_
      refine XE.go (st_iconst (n := 2) (pc' := 165) (by decide +kernel) (w_eq (by decide) (by decide)) rfl) ?_
      refine XE.go (st_iadd (pc' := 166) (by decide +kernel) rfl) ?_
      refine XE.go (st_iconst (n := 3) (pc' := 167) (by decide +kernel) (w_eq (by decide) (by decide)) rfl) ?_
      refine XE.asc ?_
      refine XE.cP (pc' := 170) (st := []) (fun r hr => ct_L_cell r hr) (fun r hr => run_S (st := []) (by decide +kernel) co_L_writes_134 (ct_L_cell r hr) rfl rfl (Nat.le_of_ble_eq_true rfl)) rfl rfl (fun r67 => ?_)
      refine XE.bite (fun h68 => ?_) (fun h69 => ?_)
      · refine XE.go (st_if_ne_f (off := 11) (pc' := 173) (by decide +kernel) 181 (by decide) rfl (not_not_intro h68)) ?_
        refine XE.go (st_aload_n (j := 0) (i := 0) (pc' := 174) (by decide +kernel) rfl rfl (by decide) rfl) ?_
        refine XE.go (st_iload_n (j := 3) (i := 3) (pc' := 175) (by decide +kernel) rfl rfl rfl) ?_
        refine XE.asc ?_
        refine XE.cWk (κ1 := 1) (κ2 := 0) (by omega) (pc' := 178) (st := []) (fun r hr => cq_L_abort r hr) (fun r hr => run_S (st := []) (by decide +kernel) co_L_writes_165 (cq_L_abort r hr) rfl rfl (Nat.le_of_ble_eq_true rfl)) rfl rfl (fun r70 => ?_)
        refine XE.go (st_goto (off := 17) (pc' := 195) (by decide +kernel) (by decide)) ?_
        refine XE.cast (hx42 _) ?_
        exact XE.rt rfl (X_iret (by decide +kernel) rfl)
      · refine XE.go (st_if_ne_t (off := 11) (pc' := 181) (by decide +kernel) (by decide) h69) ?_
        refine XE.go (st_aload_n (j := 0) (i := 0) (pc' := 182) (by decide +kernel) rfl rfl (by decide) rfl) ?_
        refine XE.go (st_iload_n (j := 3) (i := 3) (pc' := 183) (by decide +kernel) rfl rfl rfl) ?_
        refine XE.go (st_iconst (n := 0) (pc' := 184) (by decide +kernel) (w_eq (by decide) (by decide)) rfl) ?_
        refine XE.go (st_aload_n (j := 0) (i := 0) (pc' := 185) (by decide +kernel) rfl rfl (by decide) rfl) ?_
        refine XE.go (st_aload_n (j := 1) (i := 1) (pc' := 186) (by decide +kernel) rfl rfl (by decide) rfl) ?_
        refine XE.go (st_iload_n (j := 2) (i := 2) (pc' := 187) (by decide +kernel) rfl rfl rfl) ?_
        refine XE.go (st_iconst (n := 3) (pc' := 188) (by decide +kernel) (w_eq (by decide) (by decide)) rfl) ?_
        refine XE.go (st_iadd (pc' := 189) (by decide +kernel) rfl) ?_
        refine XE.asc ?_
        refine XE.cWk (κ1 := 1) (κ2 := 1) (by omega) (pc' := 192) (st := [(0, 0), (0, r1), (14, a0)]) (fun r hr => ct_L_some r hr) (fun r hr => run_S (st := [(0, 0), (0, r1), (14, a0)]) (by decide +kernel) co_L_writes_167 (ct_L_some r hr) rfl rfl (Nat.le_of_ble_eq_true rfl)) rfl rfl (fun r71 => ?_)
        refine XE.asc ?_
        refine XE.cWk (κ1 := 1) (κ2 := 0) (by omega) (pc' := 195) (st := []) (fun r hr => cq_L_attach r hr) (fun r hr => run_S (st := []) (by decide +kernel) co_L_writes_171 (cq_L_attach r hr) rfl rfl (Nat.le_of_ble_eq_true rfl)) rfl rfl (fun r72 => ?_)
        refine XE.cast (hx42 _) ?_
        exact XE.rt rfl (X_iret (by decide +kernel) rfl)
    refine XE.go (st_tab_out (dflt := 180) (lo := 0) (hi := 6) (offs := #[44, 44, 70, 97, 134, 140, 146]) (len := 44) (pc' := 196) (by decide +kernel) (by omega) (by decide)) ?_
    refine XE.go (st_aload_n (j := 0) (i := 0) (pc' := 197) (by decide +kernel) rfl rfl (by decide) rfl) ?_
    refine XE.go (st_iload_n (j := 3) (i := 3) (pc' := 198) (by decide +kernel) rfl rfl rfl) ?_
    refine XE.go (st_aload_n (j := 1) (i := 1) (pc' := 199) (by decide +kernel) rfl rfl (by decide) rfl) ?_
    refine XE.go (st_iload_n (j := 2) (i := 2) (pc' := 200) (by decide +kernel) rfl rfl rfl) ?_
    refine XE.go (st_iconst (n := 2) (pc' := 201) (by decide +kernel) (w_eq (by decide) (by decide)) rfl) ?_
    refine XE.go (st_iadd (pc' := 202) (by decide +kernel) rfl) ?_
    refine XE.go (st_iconst (n := 3) (pc' := 203) (by decide +kernel) (w_eq (by decide) (by decide)) rfl) ?_
    refine XE.asc ?_
    refine XE.cP (pc' := 206) (st := [(0, r1), (14, a0)]) (fun r hr => ct_L_cell r hr) (fun r hr => run_S (st := [(0, r1), (14, a0)]) (by decide +kernel) co_L_writes_134 (ct_L_cell r hr) rfl rfl (Nat.le_of_ble_eq_true rfl)) rfl rfl (fun r73 => ?_)
    refine XE.asc ?_
    refine XE.cWk (κ1 := 1) (κ2 := 0) (by omega) (pc' := 209) (st := []) (fun r hr => cq_L_resend r hr) (fun r hr => run_S (st := []) (by decide +kernel) co_L_writes_174 (cq_L_resend r hr) rfl rfl (Nat.le_of_ble_eq_true rfl)) rfl rfl (fun r74 => ?_)
    refine XE.cast (hx42 _) ?_
    exact XE.rt rfl (X_iret (by decide +kernel) rfl)
  · refine XE.go (st_aload_n (j := 0) (i := 0) (pc' := 61) (by decide +kernel) rfl rfl (by decide) rfl) ?_
    refine XE.go (st_iload_n (j := 3) (i := 3) (pc' := 62) (by decide +kernel) rfl rfl rfl) ?_
    refine XE.go (st_iconst (n := 0) (pc' := 63) (by decide +kernel) (w_eq (by decide) (by decide)) rfl) ?_
    refine XE.go (st_aload_n (j := 1) (i := 1) (pc' := 64) (by decide +kernel) rfl rfl (by decide) rfl) ?_
    refine XE.go (st_iload_n (j := 2) (i := 2) (pc' := 65) (by decide +kernel) rfl rfl rfl) ?_
    refine XE.go (st_iconst (n := 2) (pc' := 66) (by decide +kernel) (w_eq (by decide) (by decide)) rfl) ?_
    refine XE.go (st_iadd (pc' := 67) (by decide +kernel) rfl) ?_
    refine XE.go (st_iconst (n := 5) (pc' := 68) (by decide +kernel) (w_eq (by decide) (by decide)) rfl) ?_
    refine XE.cP (pc' := 71) (st := [(0, 0), (0, r1), (14, a0)]) (fun r hr => ct_L_cell r hr) (fun r hr => run_S (st := [(0, 0), (0, r1), (14, a0)]) (by decide +kernel) co_L_writes_134 (ct_L_cell r hr) rfl rfl (Nat.le_of_ble_eq_true rfl)) rfl rfl (fun r4 => ?_)
    refine XE.go (st_aload_n (j := 1) (i := 1) (pc' := 72) (by decide +kernel) rfl rfl (by decide) rfl) ?_
    refine XE.go (st_iload_n (j := 2) (i := 2) (pc' := 73) (by decide +kernel) rfl rfl rfl) ?_
    refine XE.go (st_iconst (n := 3) (pc' := 74) (by decide +kernel) (w_eq (by decide) (by decide)) rfl) ?_
    refine XE.go (st_iadd (pc' := 75) (by decide +kernel) rfl) ?_
    refine XE.go (st_bipush (n := 20) (pc' := 77) (by decide +kernel) (by decide) (w_eq (by decide) (by decide)) rfl) ?_
    refine XE.cP (pc' := 80) (st := [(0, r4), (0, 0), (0, r1), (14, a0)]) (fun r hr => ct_L_cell r hr) (fun r hr => run_S (st := [(0, r4), (0, 0), (0, r1), (14, a0)]) (by decide +kernel) co_L_writes_134 (ct_L_cell r hr) rfl rfl (Nat.le_of_ble_eq_true rfl)) rfl rfl (fun r5 => ?_)
    refine XE.go (st_iconst (n := 1) (pc' := 81) (by decide +kernel) (w_eq (by decide) (by decide)) rfl) ?_
    refine XE.go (st_isub (pc' := 82) (by decide +kernel) rfl) ?_
    refine XE.cWk (κ1 := 1) (κ2 := 0) (by omega) (pc' := 85) (st := []) (fun r hr => cq_L_send r hr) (fun r hr => run_S (st := []) (by decide +kernel) co_L_writes_153 (cq_L_send r hr) rfl rfl (Nat.le_of_ble_eq_true rfl)) rfl rfl (fun r6 => ?_)
    exact XE.rt rfl (X_iret (by decide +kernel) rfl)
theorem ct_L_writes {D : Dt} {M : Mm} {a0 a2 : Int} (r : (Int × Mm)) (hr : p_L_writes M (D.2.2.2.2.2.1 : Int) (fun i => (D.2.2.2.2.2.2 i.toNat).toInt) a0 a2 = some r) : CT D 2 mu_L_writes [(14, a0), (100, (-1)), (0, a2)] M (.inl (some (0, r.1))) r.2 := CT.of (by decide +kernel) rfl (Nat.le_of_ble_eq_true rfl) (xe_L_writes r hr)
def p_L_breaks (M : Mm) (sl : Int) (sc : Int → Int) (a0 a2 : Int) : Option (Int × Mm) := (p_L_cell M sl sc a2 6).bind fun r1 => if r1 = 0 then (p_L_cell M sl sc (w (a2 + 1)) 3).bind fun r4 => (q_L_fail M a0 r4).bind fun r5 => some (r5.1, r5.2) else if r1 = 1 then (p_L_cell M sl sc (w (a2 + 1)) 3).bind fun r8 => (q_L_restore M a0 r8).bind fun r9 => some (r9.1, r9.2) else if r1 = 2 then (p_L_cell M sl sc (w (a2 + 1)) 3).bind fun r12 => (q_L_fetch M a0 r12).bind fun r13 => some (r13.1, r13.2) else if r1 = 3 then (p_L_cell M sl sc (w (a2 + 1)) 4).bind fun r16 => (q_L_speed M a0 r16).bind fun r17 => some (r17.1, r17.2) else (p_L_cell M sl sc (w (a2 + 1)) 4).bind fun r18 => (q_L_tick M a0 (w (1 + r18))).bind fun r19 => some (r19.1, r19.2)
set_option maxRecDepth 100000 in
set_option maxHeartbeats 4000000 in
theorem xe_L_breaks {D : Dt} {M : Mm} {a0 a2 : Int} : XE D 1 mu_L_breaks (EW 0) 0 [(0, (14, a0)), (1, (100, (-1))), (2, (0, a2))] [] M (p_L_breaks M (D.2.2.2.2.2.1 : Int) (fun i => (D.2.2.2.2.2.2 i.toNat).toInt) a0 a2) := by
  unfold p_L_breaks
  refine XE.go (st_aload_n (j := 1) (i := 1) (pc' := 1) (by decide +kernel) rfl rfl (by decide) rfl) ?_
  refine XE.go (st_iload_n (j := 2) (i := 2) (pc' := 2) (by decide +kernel) rfl rfl rfl) ?_
  refine XE.go (st_bipush (n := 6) (pc' := 4) (by decide +kernel) (by decide) (w_eq (by decide) (by decide)) rfl) ?_
  refine XE.cP (pc' := 7) (st := []) (fun r hr => ct_L_cell r hr) (fun r hr => run_S (st := []) (by decide +kernel) co_L_breaks_134 (ct_L_cell r hr) rfl rfl (Nat.le_of_ble_eq_true rfl)) rfl rfl (fun r1 => ?_)
  refine XE.ite (fun h2 => ?_) (fun h3 => ?_)
  · refine XE.go (st_tab_in (dflt := 81) (lo := 0) (hi := 3) (offs := #[29, 42, 55, 68]) (len := 29) (off := 29) (pc' := 36) (by decide +kernel) 0 h2 (by decide) (by decide) (by decide) (by decide)) ?_
    refine XE.go (st_aload_n (j := 0) (i := 0) (pc' := 37) (by decide +kernel) rfl rfl (by decide) rfl) ?_
    refine XE.go (st_aload_n (j := 1) (i := 1) (pc' := 38) (by decide +kernel) rfl rfl (by decide) rfl) ?_
    refine XE.go (st_iload_n (j := 2) (i := 2) (pc' := 39) (by decide +kernel) rfl rfl rfl) ?_
    refine XE.go (st_iconst (n := 1) (pc' := 40) (by decide +kernel) (w_eq (by decide) (by decide)) rfl) ?_
    refine XE.go (st_iadd (pc' := 41) (by decide +kernel) rfl) ?_
    refine XE.go (st_iconst (n := 3) (pc' := 42) (by decide +kernel) (w_eq (by decide) (by decide)) rfl) ?_
    refine XE.cP (pc' := 45) (st := [(14, a0)]) (fun r hr => ct_L_cell r hr) (fun r hr => run_S (st := [(14, a0)]) (by decide +kernel) co_L_breaks_134 (ct_L_cell r hr) rfl rfl (Nat.le_of_ble_eq_true rfl)) rfl rfl (fun r4 => ?_)
    refine XE.cWk (κ1 := 1) (κ2 := 0) (by omega) (pc' := 48) (st := []) (fun r hr => cq_L_fail r hr) (fun r hr => run_S (st := []) (by decide +kernel) co_L_breaks_176 (cq_L_fail r hr) rfl rfl (Nat.le_of_ble_eq_true rfl)) rfl rfl (fun r5 => ?_)
    exact XE.rt rfl (X_iret (by decide +kernel) rfl)
  refine XE.ite (fun h6 => ?_) (fun h7 => ?_)
  · refine XE.go (st_tab_in (dflt := 81) (lo := 0) (hi := 3) (offs := #[29, 42, 55, 68]) (len := 29) (off := 42) (pc' := 49) (by decide +kernel) 1 h6 (by decide) (by decide) (by decide) (by decide)) ?_
    refine XE.go (st_aload_n (j := 0) (i := 0) (pc' := 50) (by decide +kernel) rfl rfl (by decide) rfl) ?_
    refine XE.go (st_aload_n (j := 1) (i := 1) (pc' := 51) (by decide +kernel) rfl rfl (by decide) rfl) ?_
    refine XE.go (st_iload_n (j := 2) (i := 2) (pc' := 52) (by decide +kernel) rfl rfl rfl) ?_
    refine XE.go (st_iconst (n := 1) (pc' := 53) (by decide +kernel) (w_eq (by decide) (by decide)) rfl) ?_
    refine XE.go (st_iadd (pc' := 54) (by decide +kernel) rfl) ?_
    refine XE.go (st_iconst (n := 3) (pc' := 55) (by decide +kernel) (w_eq (by decide) (by decide)) rfl) ?_
    refine XE.cP (pc' := 58) (st := [(14, a0)]) (fun r hr => ct_L_cell r hr) (fun r hr => run_S (st := [(14, a0)]) (by decide +kernel) co_L_breaks_134 (ct_L_cell r hr) rfl rfl (Nat.le_of_ble_eq_true rfl)) rfl rfl (fun r8 => ?_)
    refine XE.cWk (κ1 := 1) (κ2 := 0) (by omega) (pc' := 61) (st := []) (fun r hr => cq_L_restore r hr) (fun r hr => run_S (st := []) (by decide +kernel) co_L_breaks_178 (cq_L_restore r hr) rfl rfl (Nat.le_of_ble_eq_true rfl)) rfl rfl (fun r9 => ?_)
    exact XE.rt rfl (X_iret (by decide +kernel) rfl)
  refine XE.ite (fun h10 => ?_) (fun h11 => ?_)
  · refine XE.go (st_tab_in (dflt := 81) (lo := 0) (hi := 3) (offs := #[29, 42, 55, 68]) (len := 29) (off := 55) (pc' := 62) (by decide +kernel) 2 h10 (by decide) (by decide) (by decide) (by decide)) ?_
    refine XE.go (st_aload_n (j := 0) (i := 0) (pc' := 63) (by decide +kernel) rfl rfl (by decide) rfl) ?_
    refine XE.go (st_aload_n (j := 1) (i := 1) (pc' := 64) (by decide +kernel) rfl rfl (by decide) rfl) ?_
    refine XE.go (st_iload_n (j := 2) (i := 2) (pc' := 65) (by decide +kernel) rfl rfl rfl) ?_
    refine XE.go (st_iconst (n := 1) (pc' := 66) (by decide +kernel) (w_eq (by decide) (by decide)) rfl) ?_
    refine XE.go (st_iadd (pc' := 67) (by decide +kernel) rfl) ?_
    refine XE.go (st_iconst (n := 3) (pc' := 68) (by decide +kernel) (w_eq (by decide) (by decide)) rfl) ?_
    refine XE.cP (pc' := 71) (st := [(14, a0)]) (fun r hr => ct_L_cell r hr) (fun r hr => run_S (st := [(14, a0)]) (by decide +kernel) co_L_breaks_134 (ct_L_cell r hr) rfl rfl (Nat.le_of_ble_eq_true rfl)) rfl rfl (fun r12 => ?_)
    refine XE.cWk (κ1 := 1) (κ2 := 0) (by omega) (pc' := 74) (st := []) (fun r hr => cq_L_fetch r hr) (fun r hr => run_S (st := []) (by decide +kernel) co_L_breaks_180 (cq_L_fetch r hr) rfl rfl (Nat.le_of_ble_eq_true rfl)) rfl rfl (fun r13 => ?_)
    exact XE.rt rfl (X_iret (by decide +kernel) rfl)
  refine XE.ite (fun h14 => ?_) (fun h15 => ?_)
  · refine XE.go (st_tab_in (dflt := 81) (lo := 0) (hi := 3) (offs := #[29, 42, 55, 68]) (len := 29) (off := 68) (pc' := 75) (by decide +kernel) 3 h14 (by decide) (by decide) (by decide) (by decide)) ?_
    refine XE.go (st_aload_n (j := 0) (i := 0) (pc' := 76) (by decide +kernel) rfl rfl (by decide) rfl) ?_
    refine XE.go (st_aload_n (j := 1) (i := 1) (pc' := 77) (by decide +kernel) rfl rfl (by decide) rfl) ?_
    refine XE.go (st_iload_n (j := 2) (i := 2) (pc' := 78) (by decide +kernel) rfl rfl rfl) ?_
    refine XE.go (st_iconst (n := 1) (pc' := 79) (by decide +kernel) (w_eq (by decide) (by decide)) rfl) ?_
    refine XE.go (st_iadd (pc' := 80) (by decide +kernel) rfl) ?_
    refine XE.go (st_iconst (n := 4) (pc' := 81) (by decide +kernel) (w_eq (by decide) (by decide)) rfl) ?_
    refine XE.cP (pc' := 84) (st := [(14, a0)]) (fun r hr => ct_L_cell r hr) (fun r hr => run_S (st := [(14, a0)]) (by decide +kernel) co_L_breaks_134 (ct_L_cell r hr) rfl rfl (Nat.le_of_ble_eq_true rfl)) rfl rfl (fun r16 => ?_)
    refine XE.cWk (κ1 := 1) (κ2 := 0) (by omega) (pc' := 87) (st := []) (fun r hr => cq_L_speed r hr) (fun r hr => run_S (st := []) (by decide +kernel) co_L_breaks_182 (cq_L_speed r hr) rfl rfl (Nat.le_of_ble_eq_true rfl)) rfl rfl (fun r17 => ?_)
    exact XE.rt rfl (X_iret (by decide +kernel) rfl)
  refine XE.go (st_tab_out (dflt := 81) (lo := 0) (hi := 3) (offs := #[29, 42, 55, 68]) (len := 29) (pc' := 88) (by decide +kernel) (by omega) (by decide)) ?_
  refine XE.go (st_aload_n (j := 0) (i := 0) (pc' := 89) (by decide +kernel) rfl rfl (by decide) rfl) ?_
  refine XE.go (st_iconst (n := 1) (pc' := 90) (by decide +kernel) (w_eq (by decide) (by decide)) rfl) ?_
  refine XE.go (st_aload_n (j := 1) (i := 1) (pc' := 91) (by decide +kernel) rfl rfl (by decide) rfl) ?_
  refine XE.go (st_iload_n (j := 2) (i := 2) (pc' := 92) (by decide +kernel) rfl rfl rfl) ?_
  refine XE.go (st_iconst (n := 1) (pc' := 93) (by decide +kernel) (w_eq (by decide) (by decide)) rfl) ?_
  refine XE.go (st_iadd (pc' := 94) (by decide +kernel) rfl) ?_
  refine XE.go (st_iconst (n := 4) (pc' := 95) (by decide +kernel) (w_eq (by decide) (by decide)) rfl) ?_
  refine XE.cP (pc' := 98) (st := [(0, 1), (14, a0)]) (fun r hr => ct_L_cell r hr) (fun r hr => run_S (st := [(0, 1), (14, a0)]) (by decide +kernel) co_L_breaks_134 (ct_L_cell r hr) rfl rfl (Nat.le_of_ble_eq_true rfl)) rfl rfl (fun r18 => ?_)
  refine XE.go (st_iadd (pc' := 99) (by decide +kernel) rfl) ?_
  refine XE.cWk (κ1 := 1) (κ2 := 0) (by omega) (pc' := 102) (st := []) (fun r hr => cq_L_tick r hr) (fun r hr => run_S (st := []) (by decide +kernel) co_L_breaks_184 (cq_L_tick r hr) rfl rfl (Nat.le_of_ble_eq_true rfl)) rfl rfl (fun r19 => ?_)
  exact XE.rt rfl (X_iret (by decide +kernel) rfl)
theorem ct_L_breaks {D : Dt} {M : Mm} {a0 a2 : Int} (r : (Int × Mm)) (hr : p_L_breaks M (D.2.2.2.2.2.1 : Int) (fun i => (D.2.2.2.2.2.2 i.toNat).toInt) a0 a2 = some r) : CT D 1 mu_L_breaks [(14, a0), (100, (-1)), (0, a2)] M (.inl (some (0, r.1))) r.2 := CT.of (by decide +kernel) rfl (Nat.le_of_ble_eq_true rfl) (xe_L_breaks r hr)
def p_L_shares (M : Mm) (sl : Int) (sc : Int → Int) (a0 a2 : Int) : Option (Int × Mm) := (p_L_some M sl sc a0 (w (a2 + 1))).bind fun r1 => (p_L_cell r1.2 sl sc a2 7).bind fun r2 => if r2 = 0 then (q_L_ofGroup r1.2 a0 0 0).bind fun r5 => if r5.1 < 10 then (q_L_join r5.2 a0 0).bind fun r8 => some (r8.1, r8.2) else some (0, r5.2) else if r2 = 1 then (p_L_cell r1.2 sl sc (w (a2 + 2)) 3).bind fun r11 => if r11 = 0 then (q_L_leave r1.2 a0 0 r1.1).bind fun r14 => some (r14.1, r14.2) else some (0, r1.2) else if r2 = 2 then (q_L_commitOffsets r1.2 a0 0 r1.1).bind fun r17 => some (r17.1, r17.2) else if r2 = 3 then (p_L_cell r1.2 sl sc (w (a2 + 2)) 40).bind fun r20 => (q_L_retry r1.2 a0 0 r1.1 r20).bind fun r21 => some (r21.1, r21.2) else if r2 = 4 then (p_L_cell r1.2 sl sc (w (a2 + 2)) 40).bind fun r24 => (q_L_done r1.2 a0 0 r1.1 r24).bind fun r25 => some (r25.1, r25.2) else (q_L_beat r1.2 a0 0 r1.1).bind fun r26 => some (r26.1, r26.2)
set_option maxRecDepth 100000 in
set_option maxHeartbeats 4000000 in
theorem xe_L_shares {D : Dt} {M : Mm} {a0 a2 : Int} : XE D 3 mu_L_shares (EW 0) 0 [(0, (14, a0)), (1, (100, (-1))), (2, (0, a2))] [] M (p_L_shares M (D.2.2.2.2.2.1 : Int) (fun i => (D.2.2.2.2.2.2 i.toNat).toInt) a0 a2) := by
  unfold p_L_shares
  refine XE.go (st_aload_n (j := 0) (i := 0) (pc' := 1) (by decide +kernel) rfl rfl (by decide) rfl) ?_
  refine XE.go (st_aload_n (j := 1) (i := 1) (pc' := 2) (by decide +kernel) rfl rfl (by decide) rfl) ?_
  refine XE.go (st_iload_n (j := 2) (i := 2) (pc' := 3) (by decide +kernel) rfl rfl rfl) ?_
  refine XE.go (st_iconst (n := 1) (pc' := 4) (by decide +kernel) (w_eq (by decide) (by decide)) rfl) ?_
  refine XE.go (st_iadd (pc' := 5) (by decide +kernel) rfl) ?_
  refine XE.cWk (κ1 := 1) (κ2 := 2) (by omega) (pc' := 8) (st := []) (fun r hr => ct_L_some r hr) (fun r hr => run_S (st := []) (by decide +kernel) co_L_shares_167 (ct_L_some r hr) rfl rfl (Nat.le_of_ble_eq_true rfl)) rfl rfl (fun r1 => ?_)
  refine XE.go (st_istore_n (j := 3) (i := 3) (pc' := 9) (by decide +kernel) rfl rfl (by decide) rfl rfl) ?_
  refine XE.go (st_aload_n (j := 1) (i := 1) (pc' := 10) (by decide +kernel) rfl rfl (by decide) rfl) ?_
  refine XE.go (st_iload_n (j := 2) (i := 2) (pc' := 11) (by decide +kernel) rfl rfl rfl) ?_
  refine XE.go (st_bipush (n := 7) (pc' := 13) (by decide +kernel) (by decide) (w_eq (by decide) (by decide)) rfl) ?_
  refine XE.cP (pc' := 16) (st := []) (fun r hr => ct_L_cell r hr) (fun r hr => run_S (st := []) (by decide +kernel) co_L_shares_134 (ct_L_cell r hr) rfl rfl (Nat.le_of_ble_eq_true rfl)) rfl rfl (fun r2 => ?_)
  refine XE.ite (fun h3 => ?_) (fun h4 => ?_)
  · refine XE.go (st_tab_in (dflt := 118) (lo := 0) (hi := 4) (offs := #[36, 57, 79, 86, 102]) (len := 36) (off := 36) (pc' := 52) (by decide +kernel) 0 h3 (by decide) (by decide) (by decide) (by decide)) ?_
    refine XE.go (st_aload_n (j := 0) (i := 0) (pc' := 53) (by decide +kernel) rfl rfl (by decide) rfl) ?_
    refine XE.go (st_iconst (n := 0) (pc' := 54) (by decide +kernel) (w_eq (by decide) (by decide)) rfl) ?_
    refine XE.go (st_iconst (n := 0) (pc' := 55) (by decide +kernel) (w_eq (by decide) (by decide)) rfl) ?_
    refine XE.cWk (κ1 := 1) (κ2 := 1) (by omega) (pc' := 58) (st := []) (fun r hr => cq_L_ofGroup r hr) (fun r hr => run_S (st := []) (by decide +kernel) co_L_shares_129 (cq_L_ofGroup r hr) rfl rfl (Nat.le_of_ble_eq_true rfl)) rfl rfl (fun r5 => ?_)
    refine XE.go (st_bipush (n := 10) (pc' := 60) (by decide +kernel) (by decide) (w_eq (by decide) (by decide)) rfl) ?_
    refine XE.ite (fun h6 => ?_) (fun h7 => ?_)
    · refine XE.go (st_icmp_ge_f (off := 11) (pc' := 63) (by decide +kernel) 71 (by decide) rfl (Int.not_le.mpr h6)) ?_
      refine XE.go (st_aload_n (j := 0) (i := 0) (pc' := 64) (by decide +kernel) rfl rfl (by decide) rfl) ?_
      refine XE.go (st_iconst (n := 0) (pc' := 65) (by decide +kernel) (w_eq (by decide) (by decide)) rfl) ?_
      refine XE.cWk (κ1 := 1) (κ2 := 0) (by omega) (pc' := 68) (st := []) (fun r hr => cq_L_join r hr) (fun r hr => run_S (st := []) (by decide +kernel) co_L_shares_186 (cq_L_join r hr) rfl rfl (Nat.le_of_ble_eq_true rfl)) rfl rfl (fun r8 => ?_)
      refine XE.go (st_goto (off := 4) (pc' := 72) (by decide +kernel) (by decide)) ?_
      exact XE.rt rfl (X_iret (by decide +kernel) rfl)
    · refine XE.go (st_icmp_ge_t (off := 11) (pc' := 71) (by decide +kernel) (by decide) (Int.not_lt.mp h7)) ?_
      refine XE.go (st_iconst (n := 0) (pc' := 72) (by decide +kernel) (w_eq (by decide) (by decide)) rfl) ?_
      exact XE.rt rfl (X_iret (by decide +kernel) rfl)
  refine XE.ite (fun h9 => ?_) (fun h10 => ?_)
  · refine XE.go (st_tab_in (dflt := 118) (lo := 0) (hi := 4) (offs := #[36, 57, 79, 86, 102]) (len := 36) (off := 57) (pc' := 73) (by decide +kernel) 1 h9 (by decide) (by decide) (by decide) (by decide)) ?_
    refine XE.go (st_aload_n (j := 1) (i := 1) (pc' := 74) (by decide +kernel) rfl rfl (by decide) rfl) ?_
    refine XE.go (st_iload_n (j := 2) (i := 2) (pc' := 75) (by decide +kernel) rfl rfl rfl) ?_
    refine XE.go (st_iconst (n := 2) (pc' := 76) (by decide +kernel) (w_eq (by decide) (by decide)) rfl) ?_
    refine XE.go (st_iadd (pc' := 77) (by decide +kernel) rfl) ?_
    refine XE.go (st_iconst (n := 3) (pc' := 78) (by decide +kernel) (w_eq (by decide) (by decide)) rfl) ?_
    refine XE.cP (pc' := 81) (st := []) (fun r hr => ct_L_cell r hr) (fun r hr => run_S (st := []) (by decide +kernel) co_L_shares_134 (ct_L_cell r hr) rfl rfl (Nat.le_of_ble_eq_true rfl)) rfl rfl (fun r11 => ?_)
    refine XE.ite (fun h12 => ?_) (fun h13 => ?_)
    · refine XE.go (st_if_ne_f (off := 12) (pc' := 84) (by decide +kernel) 93 (by decide) rfl (not_not_intro h12)) ?_
      refine XE.go (st_aload_n (j := 0) (i := 0) (pc' := 85) (by decide +kernel) rfl rfl (by decide) rfl) ?_
      refine XE.go (st_iconst (n := 0) (pc' := 86) (by decide +kernel) (w_eq (by decide) (by decide)) rfl) ?_
      refine XE.go (st_iload_n (j := 3) (i := 3) (pc' := 87) (by decide +kernel) rfl rfl rfl) ?_
      refine XE.cWk (κ1 := 1) (κ2 := 0) (by omega) (pc' := 90) (st := []) (fun r hr => cq_L_leave r hr) (fun r hr => run_S (st := []) (by decide +kernel) co_L_shares_188 (cq_L_leave r hr) rfl rfl (Nat.le_of_ble_eq_true rfl)) rfl rfl (fun r14 => ?_)
      refine XE.go (st_goto (off := 4) (pc' := 94) (by decide +kernel) (by decide)) ?_
      exact XE.rt rfl (X_iret (by decide +kernel) rfl)
    · refine XE.go (st_if_ne_t (off := 12) (pc' := 93) (by decide +kernel) (by decide) h13) ?_
      refine XE.go (st_iconst (n := 0) (pc' := 94) (by decide +kernel) (w_eq (by decide) (by decide)) rfl) ?_
      exact XE.rt rfl (X_iret (by decide +kernel) rfl)
  refine XE.ite (fun h15 => ?_) (fun h16 => ?_)
  · refine XE.go (st_tab_in (dflt := 118) (lo := 0) (hi := 4) (offs := #[36, 57, 79, 86, 102]) (len := 36) (off := 79) (pc' := 95) (by decide +kernel) 2 h15 (by decide) (by decide) (by decide) (by decide)) ?_
    refine XE.go (st_aload_n (j := 0) (i := 0) (pc' := 96) (by decide +kernel) rfl rfl (by decide) rfl) ?_
    refine XE.go (st_iconst (n := 0) (pc' := 97) (by decide +kernel) (w_eq (by decide) (by decide)) rfl) ?_
    refine XE.go (st_iload_n (j := 3) (i := 3) (pc' := 98) (by decide +kernel) rfl rfl rfl) ?_
    refine XE.cWk (κ1 := 1) (κ2 := 0) (by omega) (pc' := 101) (st := []) (fun r hr => cq_L_commitOffsets r hr) (fun r hr => run_S (st := []) (by decide +kernel) co_L_shares_190 (cq_L_commitOffsets r hr) rfl rfl (Nat.le_of_ble_eq_true rfl)) rfl rfl (fun r17 => ?_)
    exact XE.rt rfl (X_iret (by decide +kernel) rfl)
  refine XE.ite (fun h18 => ?_) (fun h19 => ?_)
  · refine XE.go (st_tab_in (dflt := 118) (lo := 0) (hi := 4) (offs := #[36, 57, 79, 86, 102]) (len := 36) (off := 86) (pc' := 102) (by decide +kernel) 3 h18 (by decide) (by decide) (by decide) (by decide)) ?_
    refine XE.go (st_aload_n (j := 0) (i := 0) (pc' := 103) (by decide +kernel) rfl rfl (by decide) rfl) ?_
    refine XE.go (st_iconst (n := 0) (pc' := 104) (by decide +kernel) (w_eq (by decide) (by decide)) rfl) ?_
    refine XE.go (st_iload_n (j := 3) (i := 3) (pc' := 105) (by decide +kernel) rfl rfl rfl) ?_
    refine XE.go (st_aload_n (j := 1) (i := 1) (pc' := 106) (by decide +kernel) rfl rfl (by decide) rfl) ?_
    refine XE.go (st_iload_n (j := 2) (i := 2) (pc' := 107) (by decide +kernel) rfl rfl rfl) ?_
    refine XE.go (st_iconst (n := 2) (pc' := 108) (by decide +kernel) (w_eq (by decide) (by decide)) rfl) ?_
    refine XE.go (st_iadd (pc' := 109) (by decide +kernel) rfl) ?_
    refine XE.go (st_bipush (n := 40) (pc' := 111) (by decide +kernel) (by decide) (w_eq (by decide) (by decide)) rfl) ?_
    refine XE.cP (pc' := 114) (st := [(0, r1.1), (0, 0), (14, a0)]) (fun r hr => ct_L_cell r hr) (fun r hr => run_S (st := [(0, r1.1), (0, 0), (14, a0)]) (by decide +kernel) co_L_shares_134 (ct_L_cell r hr) rfl rfl (Nat.le_of_ble_eq_true rfl)) rfl rfl (fun r20 => ?_)
    refine XE.cWk (κ1 := 1) (κ2 := 0) (by omega) (pc' := 117) (st := []) (fun r hr => cq_L_retry r hr) (fun r hr => run_S (st := []) (by decide +kernel) co_L_shares_192 (cq_L_retry r hr) rfl rfl (Nat.le_of_ble_eq_true rfl)) rfl rfl (fun r21 => ?_)
    exact XE.rt rfl (X_iret (by decide +kernel) rfl)
  refine XE.ite (fun h22 => ?_) (fun h23 => ?_)
  · refine XE.go (st_tab_in (dflt := 118) (lo := 0) (hi := 4) (offs := #[36, 57, 79, 86, 102]) (len := 36) (off := 102) (pc' := 118) (by decide +kernel) 4 h22 (by decide) (by decide) (by decide) (by decide)) ?_
    refine XE.go (st_aload_n (j := 0) (i := 0) (pc' := 119) (by decide +kernel) rfl rfl (by decide) rfl) ?_
    refine XE.go (st_iconst (n := 0) (pc' := 120) (by decide +kernel) (w_eq (by decide) (by decide)) rfl) ?_
    refine XE.go (st_iload_n (j := 3) (i := 3) (pc' := 121) (by decide +kernel) rfl rfl rfl) ?_
    refine XE.go (st_aload_n (j := 1) (i := 1) (pc' := 122) (by decide +kernel) rfl rfl (by decide) rfl) ?_
    refine XE.go (st_iload_n (j := 2) (i := 2) (pc' := 123) (by decide +kernel) rfl rfl rfl) ?_
    refine XE.go (st_iconst (n := 2) (pc' := 124) (by decide +kernel) (w_eq (by decide) (by decide)) rfl) ?_
    refine XE.go (st_iadd (pc' := 125) (by decide +kernel) rfl) ?_
    refine XE.go (st_bipush (n := 40) (pc' := 127) (by decide +kernel) (by decide) (w_eq (by decide) (by decide)) rfl) ?_
    refine XE.cP (pc' := 130) (st := [(0, r1.1), (0, 0), (14, a0)]) (fun r hr => ct_L_cell r hr) (fun r hr => run_S (st := [(0, r1.1), (0, 0), (14, a0)]) (by decide +kernel) co_L_shares_134 (ct_L_cell r hr) rfl rfl (Nat.le_of_ble_eq_true rfl)) rfl rfl (fun r24 => ?_)
    refine XE.cWk (κ1 := 1) (κ2 := 0) (by omega) (pc' := 133) (st := []) (fun r hr => cq_L_done r hr) (fun r hr => run_S (st := []) (by decide +kernel) co_L_shares_194 (cq_L_done r hr) rfl rfl (Nat.le_of_ble_eq_true rfl)) rfl rfl (fun r25 => ?_)
    exact XE.rt rfl (X_iret (by decide +kernel) rfl)
  refine XE.go (st_tab_out (dflt := 118) (lo := 0) (hi := 4) (offs := #[36, 57, 79, 86, 102]) (len := 36) (pc' := 134) (by decide +kernel) (by omega) (by decide)) ?_
  refine XE.go (st_aload_n (j := 0) (i := 0) (pc' := 135) (by decide +kernel) rfl rfl (by decide) rfl) ?_
  refine XE.go (st_iconst (n := 0) (pc' := 136) (by decide +kernel) (w_eq (by decide) (by decide)) rfl) ?_
  refine XE.go (st_iload_n (j := 3) (i := 3) (pc' := 137) (by decide +kernel) rfl rfl rfl) ?_
  refine XE.cWk (κ1 := 1) (κ2 := 0) (by omega) (pc' := 140) (st := []) (fun r hr => cq_L_beat r hr) (fun r hr => run_S (st := []) (by decide +kernel) co_L_shares_196 (cq_L_beat r hr) rfl rfl (Nat.le_of_ble_eq_true rfl)) rfl rfl (fun r26 => ?_)
  exact XE.rt rfl (X_iret (by decide +kernel) rfl)
theorem ct_L_shares {D : Dt} {M : Mm} {a0 a2 : Int} (r : (Int × Mm)) (hr : p_L_shares M (D.2.2.2.2.2.1 : Int) (fun i => (D.2.2.2.2.2.2 i.toNat).toInt) a0 a2 = some r) : CT D 3 mu_L_shares [(14, a0), (100, (-1)), (0, a2)] M (.inl (some (0, r.1))) r.2 := CT.of (by decide +kernel) rfl (Nat.le_of_ble_eq_true rfl) (xe_L_shares r hr)
def b_L_stays_25 (r1 : Int × Mm) (a0 : Int) (a1 : Int) (s4 : Int × Int × Mm) : Option ((Int × Int × Mm) ⊕ (Int × Mm)) := if s4.2.1 < r1.1 then if s4.1 = 0 then some (.inr (s4.1, s4.2.2)) else (q_L_message s4.2.2 a0 s4.2.1 0).bind fun r16 => (p_L_has r16.2 a1 s4.2.1).bind fun r17 => (if r17 = 0 then some (1) else if r16.1 = 1 then some (1) else if r16.1 = 3 then some (1) else some (0) : Option (Int)).bind fun (s18 : Int) => if r16.1 = 1 then (q_L_message r16.2 a0 s4.2.1 3).bind fun r21 => (q_L_message r21.2 a0 s4.2.1 4).bind fun r22 => (q_L_at r22.2 a0 r21.1 r22.1).bind fun r23 => if r23.1 = s4.2.1 then (some ((ian s18 1))).bind fun v26 => some (.inl (v26, (w (s4.2.1 + 1)), r23.2)) else (some ((ian s18 0))).bind fun v28 => some (.inl (v28, (w (s4.2.1 + 1)), r23.2)) else (some ((ian s18 1))).bind fun v30 => some (.inl (v30, (w (s4.2.1 + 1)), r16.2)) else some (.inr (s4.1, s4.2.2))
def p_L_stays (M : Mm) (a0 a1 : Int) : Option (Int × Mm) := (q_L_count M a0 4).bind fun r1 => (q_L_audit r1.2 a0 6).bind fun r2 => (if r2.1 = 1 then some (1) else some (0) : Option (Int)).bind fun (s3 : Int) => (lp (b_L_stays_25 r1 a0 a1) 151 (s3, 0, r2.2)).bind fun (t5 : Int × Mm) => gd (t5.1 = 0 ∨ t5.1 = 1) (some (t5.1, t5.2))
set_option maxRecDepth 100000 in
set_option maxHeartbeats 4000000 in
theorem xe_L_stays {D : Dt} {M : Mm} {a0 a1 : Int} : XE D 606 mu_L_stays (EW 0) 0 [(0, (14, a0)), (1, (18, a1))] [] M (p_L_stays M a0 a1) := by
  unfold p_L_stays
  refine XE.go (st_aload_n (j := 0) (i := 0) (pc' := 1) (by decide +kernel) rfl rfl (by decide) rfl) ?_
  refine XE.go (st_iconst (n := 4) (pc' := 2) (by decide +kernel) (w_eq (by decide) (by decide)) rfl) ?_
  refine XE.cWk (κ1 := 1) (κ2 := 605) (by omega) (pc' := 5) (st := []) (fun r hr => cq_L_count r hr) (fun r hr => run_S (st := []) (by decide +kernel) co_L_stays_198 (cq_L_count r hr) rfl rfl (Nat.le_of_ble_eq_true rfl)) rfl rfl (fun r1 => ?_)
  refine XE.go (st_istore_n (j := 2) (i := 2) (pc' := 6) (by decide +kernel) rfl rfl (by decide) rfl rfl) ?_
  refine XE.go (st_aload_n (j := 0) (i := 0) (pc' := 7) (by decide +kernel) rfl rfl (by decide) rfl) ?_
  refine XE.go (st_bipush (n := 6) (pc' := 9) (by decide +kernel) (by decide) (w_eq (by decide) (by decide)) rfl) ?_
  refine XE.cWk (κ1 := 1) (κ2 := 604) (by omega) (pc' := 12) (st := []) (fun r hr => cq_L_audit r hr) (fun r hr => run_S (st := []) (by decide +kernel) co_L_stays_200 (cq_L_audit r hr) rfl rfl (Nat.le_of_ble_eq_true rfl)) rfl rfl (fun r2 => ?_)
  refine XE.go (st_iconst (n := 1) (pc' := 13) (by decide +kernel) (w_eq (by decide) (by decide)) rfl) ?_
  refine XE.joink (κ1 := 604) (pcJ := 21) (LJ := fun (s3 : Int) => [(0, (14, a0)), (1, (18, a1)), (2, (0, r1.1))]) (sJ := fun (s3 : Int) => [(0, s3)]) (MJ := fun (s3 : Int) => r2.2) (fun kk43 hk41 => ?_) (fun s3 => ?_)
  · refine XE.bite (fun h44 => ?_) (fun h45 => ?_)
    · refine XE.go (st_icmp_ne_f (off := 7) (pc' := 16) (by decide +kernel) 20 (by decide) rfl (not_not_intro h44)) ?_
      refine XE.go (st_iconst (n := 1) (pc' := 17) (by decide +kernel) (w_eq (by decide) (by decide)) rfl) ?_
      refine XE.go (st_goto (off := 4) (pc' := 21) (by decide +kernel) (by decide)) ?_
      exact XE.mono (by omega) (XE.pick [1, 2, 0] rfl (hk41 1))
    · refine XE.go (st_icmp_ne_t (off := 7) (pc' := 20) (by decide +kernel) (by decide) h45) ?_
      refine XE.go (st_iconst (n := 0) (pc' := 21) (by decide +kernel) (w_eq (by decide) (by decide)) rfl) ?_
      exact XE.mono (by omega) (XE.pick [1, 2, 0] rfl (hk41 0))
  · refine XE.go (st_istore_n (j := 3) (i := 3) (pc' := 22) (by decide +kernel) rfl rfl (by decide) rfl rfl) ?_
    refine XE.go (st_iconst (n := 0) (pc' := 23) (by decide +kernel) (w_eq (by decide) (by decide)) rfl) ?_
    refine XE.go (st_istore (j := 4) (pc' := 25) (by decide +kernel)  rfl (by decide) rfl rfl) ?_
    refine XE.pick [2, 3, 4, 1, 0] (L' := [(0, (14, a0)), (1, (18, a1)), (2, (0, r1.1)), (3, (0, s3)), (4, (0, 0))]) rfl ?_
    refine XE.loopJk (b := 4) (e := 0) (by omega) (n := 151) (s0 := (s3, 0, r2.2)) (pcL := 25) (pcE := 114) (LL := fun (s4 : Int × Int × Mm) => [(0, (14, a0)), (1, (18, a1)), (2, (0, r1.1)), (3, (0, s4.1)), (4, (0, s4.2.1))]) (sL := fun _ => []) (ML := fun (s4 : Int × Int × Mm) => s4.2.2) (LE := fun (t5 : Int × Mm) => [(3, (0, t5.1))]) (sE := fun _ => []) (ME := fun (t5 : Int × Mm) => t5.2) (fun kp7 hkp7 kk11 hc8 he9 s4 => ?_) (fun t5 => ?_)
    · unfold b_L_stays_25
      refine XE.go (st_iload (j := 4) (pc' := 27) (by decide +kernel) rfl rfl) ?_
      refine XE.go (st_iload_n (j := 2) (i := 2) (pc' := 28) (by decide +kernel) rfl rfl rfl) ?_
      refine XE.bite (fun h12 => ?_) (fun h13 => ?_)
      · refine XE.go (st_icmp_ge_f (off := 86) (pc' := 31) (by decide +kernel) 114 (by decide) rfl (Int.not_le.mpr h12)) ?_
        refine XE.go (st_iload_n (j := 3) (i := 3) (pc' := 32) (by decide +kernel) rfl rfl rfl) ?_
        refine XE.bite (fun h14 => ?_) (fun h15 => ?_)
        · refine XE.go (st_if_eq_t (off := 82) (pc' := 114) (by decide +kernel) (by decide) h14) ?_
          exact XE.mono (by omega) (XE.pick [3] rfl (he9 (s4.1, s4.2.2)))
        · refine XE.go (st_if_eq_f (off := 82) (pc' := 35) (by decide +kernel) 114 (by decide) rfl h15) ?_
          refine XE.go (st_aload_n (j := 0) (i := 0) (pc' := 36) (by decide +kernel) rfl rfl (by decide) rfl) ?_
          refine XE.go (st_iload (j := 4) (pc' := 38) (by decide +kernel) rfl rfl) ?_
          refine XE.go (st_iconst (n := 0) (pc' := 39) (by decide +kernel) (w_eq (by decide) (by decide)) rfl) ?_
          refine XE.asc ?_
          refine XE.cWk (κ1 := 1) (κ2 := kp7 + 3) (by omega) (pc' := 42) (st := []) (fun r hr => cq_L_message r hr) (fun r hr => run_S (st := []) (by decide +kernel) co_L_stays_140 (cq_L_message r hr) rfl rfl (Nat.le_of_ble_eq_true rfl)) rfl rfl (fun r16 => ?_)
          refine XE.go (st_istore (j := 5) (pc' := 44) (by decide +kernel)  rfl (by decide) rfl rfl) ?_
          refine XE.go (st_aload_n (j := 1) (i := 1) (pc' := 45) (by decide +kernel) rfl rfl (by decide) rfl) ?_
          refine XE.go (st_iload (j := 4) (pc' := 47) (by decide +kernel) rfl rfl) ?_
          refine XE.asc ?_
          refine XE.cP (pc' := 50) (st := []) (fun r hr => ct_L_has r hr) (fun r hr => run_S (st := []) (by decide +kernel) co_L_stays_144 (ct_L_has r hr) rfl rfl (Nat.le_of_ble_eq_true rfl)) rfl rfl (fun r17 => ?_)
          refine XE.asc ?_
          refine XE.joink (κ1 := kp7 + 3) (pcJ := 70) (LJ := fun (s18 : Int) => [(0, (14, a0)), (1, (18, a1)), (2, (0, r1.1)), (4, (0, s4.2.1)), (5, (0, r16.1))]) (sJ := fun (s18 : Int) => [(0, s18)]) (MJ := fun (s18 : Int) => r16.2) (fun kk34 hk32 => ?_) (fun s18 => ?_)
          · refine XE.bite (fun h35 => ?_) (fun h36 => ?_)
            · refine XE.go (st_if_eq_t (off := 15) (pc' := 65) (by decide +kernel) (by decide) h35) ?_
              refine XE.go (st_iconst (n := 1) (pc' := 66) (by decide +kernel) (w_eq (by decide) (by decide)) rfl) ?_
              refine XE.go (st_goto (off := 4) (pc' := 70) (by decide +kernel) (by decide)) ?_
              exact XE.mono (by omega) (XE.pick [1, 2, 3, 5, 0] rfl (hk32 1))
            · refine XE.go (st_if_eq_f (off := 15) (pc' := 53) (by decide +kernel) 65 (by decide) rfl h36) ?_
              refine XE.go (st_iload (j := 5) (pc' := 55) (by decide +kernel) rfl rfl) ?_
              refine XE.go (st_iconst (n := 1) (pc' := 56) (by decide +kernel) (w_eq (by decide) (by decide)) rfl) ?_
              refine XE.bite (fun h37 => ?_) (fun h38 => ?_)
              · refine XE.go (st_icmp_eq_t (off := 9) (pc' := 65) (by decide +kernel) (by decide) h37) ?_
                refine XE.go (st_iconst (n := 1) (pc' := 66) (by decide +kernel) (w_eq (by decide) (by decide)) rfl) ?_
                refine XE.go (st_goto (off := 4) (pc' := 70) (by decide +kernel) (by decide)) ?_
                exact XE.mono (by omega) (XE.pick [1, 2, 3, 5, 0] rfl (hk32 1))
              · refine XE.go (st_icmp_eq_f (off := 9) (pc' := 59) (by decide +kernel) 65 (by decide) rfl h38) ?_
                refine XE.go (st_iload (j := 5) (pc' := 61) (by decide +kernel) rfl rfl) ?_
                refine XE.go (st_iconst (n := 3) (pc' := 62) (by decide +kernel) (w_eq (by decide) (by decide)) rfl) ?_
                refine XE.bite (fun h39 => ?_) (fun h40 => ?_)
                · refine XE.go (st_icmp_ne_f (off := 7) (pc' := 65) (by decide +kernel) 69 (by decide) rfl (not_not_intro h39)) ?_
                  refine XE.go (st_iconst (n := 1) (pc' := 66) (by decide +kernel) (w_eq (by decide) (by decide)) rfl) ?_
                  refine XE.go (st_goto (off := 4) (pc' := 70) (by decide +kernel) (by decide)) ?_
                  exact XE.mono (by omega) (XE.pick [1, 2, 3, 5, 0] rfl (hk32 1))
                · refine XE.go (st_icmp_ne_t (off := 7) (pc' := 69) (by decide +kernel) (by decide) h40) ?_
                  refine XE.go (st_iconst (n := 0) (pc' := 70) (by decide +kernel) (w_eq (by decide) (by decide)) rfl) ?_
                  exact XE.mono (by omega) (XE.pick [1, 2, 3, 5, 0] rfl (hk32 0))
          · refine XE.go (st_istore_n (j := 3) (i := 3) (pc' := 71) (by decide +kernel) rfl rfl (by decide) rfl rfl) ?_
            refine XE.go (st_iload_n (j := 3) (i := 3) (pc' := 72) (by decide +kernel) rfl rfl rfl) ?_
            refine XE.go (st_iload (j := 5) (pc' := 74) (by decide +kernel) rfl rfl) ?_
            refine XE.go (st_iconst (n := 1) (pc' := 75) (by decide +kernel) (w_eq (by decide) (by decide)) rfl) ?_
            refine XE.bite (fun h19 => ?_) (fun h20 => ?_)
            · refine XE.go (st_icmp_ne_f (off := 26) (pc' := 78) (by decide +kernel) 101 (by decide) rfl (not_not_intro h19)) ?_
              refine XE.go (st_aload_n (j := 0) (i := 0) (pc' := 79) (by decide +kernel) rfl rfl (by decide) rfl) ?_
              refine XE.go (st_aload_n (j := 0) (i := 0) (pc' := 80) (by decide +kernel) rfl rfl (by decide) rfl) ?_
              refine XE.go (st_iload (j := 4) (pc' := 82) (by decide +kernel) rfl rfl) ?_
              refine XE.go (st_iconst (n := 3) (pc' := 83) (by decide +kernel) (w_eq (by decide) (by decide)) rfl) ?_
              refine XE.asc ?_
              refine XE.cWk (κ1 := 1) (κ2 := kp7 + 2) (by omega) (pc' := 86) (st := [(14, a0), (0, s18)]) (fun r hr => cq_L_message r hr) (fun r hr => run_S (st := [(14, a0), (0, s18)]) (by decide +kernel) co_L_stays_140 (cq_L_message r hr) rfl rfl (Nat.le_of_ble_eq_true rfl)) rfl rfl (fun r21 => ?_)
              refine XE.go (st_aload_n (j := 0) (i := 0) (pc' := 87) (by decide +kernel) rfl rfl (by decide) rfl) ?_
              refine XE.go (st_iload (j := 4) (pc' := 89) (by decide +kernel) rfl rfl) ?_
              refine XE.go (st_iconst (n := 4) (pc' := 90) (by decide +kernel) (w_eq (by decide) (by decide)) rfl) ?_
              refine XE.asc ?_
              refine XE.cWk (κ1 := 1) (κ2 := kp7 + 1) (by omega) (pc' := 93) (st := [(0, r21.1), (14, a0), (0, s18)]) (fun r hr => cq_L_message r hr) (fun r hr => run_S (st := [(0, r21.1), (14, a0), (0, s18)]) (by decide +kernel) co_L_stays_140 (cq_L_message r hr) rfl rfl (Nat.le_of_ble_eq_true rfl)) rfl rfl (fun r22 => ?_)
              refine XE.asc ?_
              refine XE.cWk (κ1 := 1) (κ2 := kp7 + 0) (by omega) (pc' := 96) (st := [(0, s18)]) (fun r hr => cq_L_at r hr) (fun r hr => run_S (st := [(0, s18)]) (by decide +kernel) co_L_stays_202 (cq_L_at r hr) rfl rfl (Nat.le_of_ble_eq_true rfl)) rfl rfl (fun r23 => ?_)
              refine XE.go (st_iload (j := 4) (pc' := 98) (by decide +kernel) rfl rfl) ?_
              refine XE.bite (fun h24 => ?_) (fun h25 => ?_)
              · refine XE.go (st_icmp_ne_f (off := 7) (pc' := 101) (by decide +kernel) 105 (by decide) rfl (not_not_intro h24)) ?_
                refine XE.go (st_iconst (n := 1) (pc' := 102) (by decide +kernel) (w_eq (by decide) (by decide)) rfl) ?_
                refine XE.go (st_goto (off := 4) (pc' := 106) (by decide +kernel) (by decide)) ?_
                refine XE.go (st_iand (pc' := 107) (by decide +kernel) rfl) ?_
                refine XE.asc ?_
                refine XE.gen (fun v26 e27 => ?_)
                refine XE.go (st_istore_n (j := 3) (i := 3) (pc' := 108) (by decide +kernel) rfl rfl (by decide) rfl rfl) ?_
                refine XE.go (st_iinc (j := 4) (n := 1) (pc' := 111) (by decide +kernel) rfl rfl (by decide) rfl rfl) ?_
                refine XE.go (st_goto (off := (-86)) (pc' := 25) (by decide +kernel) (by decide)) ?_
                exact XE.mono (by omega) (XE.pick [2, 3, 4, 1, 0] rfl (hc8 (v26, (w (s4.2.1 + 1)), r23.2)))
              · refine XE.go (st_icmp_ne_t (off := 7) (pc' := 105) (by decide +kernel) (by decide) h25) ?_
                refine XE.go (st_iconst (n := 0) (pc' := 106) (by decide +kernel) (w_eq (by decide) (by decide)) rfl) ?_
                refine XE.go (st_iand (pc' := 107) (by decide +kernel) rfl) ?_
                refine XE.asc ?_
                refine XE.gen (fun v28 e29 => ?_)
                refine XE.go (st_istore_n (j := 3) (i := 3) (pc' := 108) (by decide +kernel) rfl rfl (by decide) rfl rfl) ?_
                refine XE.go (st_iinc (j := 4) (n := 1) (pc' := 111) (by decide +kernel) rfl rfl (by decide) rfl rfl) ?_
                refine XE.go (st_goto (off := (-86)) (pc' := 25) (by decide +kernel) (by decide)) ?_
                exact XE.mono (by omega) (XE.pick [2, 3, 4, 1, 0] rfl (hc8 (v28, (w (s4.2.1 + 1)), r23.2)))
            · refine XE.go (st_icmp_ne_t (off := 26) (pc' := 101) (by decide +kernel) (by decide) h20) ?_
              refine XE.go (st_iconst (n := 1) (pc' := 102) (by decide +kernel) (w_eq (by decide) (by decide)) rfl) ?_
              refine XE.go (st_goto (off := 4) (pc' := 106) (by decide +kernel) (by decide)) ?_
              refine XE.go (st_iand (pc' := 107) (by decide +kernel) rfl) ?_
              refine XE.asc ?_
              refine XE.gen (fun v30 e31 => ?_)
              refine XE.go (st_istore_n (j := 3) (i := 3) (pc' := 108) (by decide +kernel) rfl rfl (by decide) rfl rfl) ?_
              refine XE.go (st_iinc (j := 4) (n := 1) (pc' := 111) (by decide +kernel) rfl rfl (by decide) rfl rfl) ?_
              refine XE.go (st_goto (off := (-86)) (pc' := 25) (by decide +kernel) (by decide)) ?_
              exact XE.mono (by omega) (XE.pick [2, 3, 4, 1, 0] rfl (hc8 (v30, (w (s4.2.1 + 1)), r16.2)))
      · refine XE.go (st_icmp_ge_t (off := 86) (pc' := 114) (by decide +kernel) (by decide) (Int.not_lt.mp h13)) ?_
        exact XE.mono (by omega) (XE.pick [3] rfl (he9 (s4.1, s4.2.2)))
    · refine XE.go (st_iload_n (j := 3) (i := 3) (pc' := 115) (by decide +kernel) rfl rfl rfl) ?_
      refine XE.gd_ (fun g6 => ?_)
      exact XE.rt rfl (X_zret (by decide +kernel) rfl g6)
theorem ct_L_stays {D : Dt} {M : Mm} {a0 a1 : Int} (r : (Int × Mm)) (hr : p_L_stays M a0 a1 = some r) : CT D 606 mu_L_stays [(14, a0), (18, a1)] M (.inl (some (0, r.1))) r.2 := CT.of (by decide +kernel) rfl (Nat.le_of_ble_eq_true rfl) (xe_L_stays r hr)
def b_L_beats_127 (a0 : Int) (s7 : Int × Int × Mm) : Option ((Int × Int × Mm) ⊕ (Int × Mm)) := if s7.2.1 < 3 then (q_L_share s7.2.2 a0 0 s7.2.1 0).bind fun r17 => if r17.1 < 0 then (some ((ian s7.1 0))).bind fun v20 => some (.inl (v20, (w (s7.2.1 + 1)), r17.2)) else (q_L_share r17.2 a0 0 s7.2.1 0).bind fun r22 => (q_L_share r22.2 a0 0 s7.2.1 1).bind fun r23 => if r22.1 = r23.1 then (some ((ian s7.1 1))).bind fun v26 => some (.inl (v26, (w (s7.2.1 + 1)), r23.2)) else (some ((ian s7.1 0))).bind fun v28 => some (.inl (v28, (w (s7.2.1 + 1)), r23.2)) else some (.inr (s7.1, s7.2.2))
def b_L_beats_49 (a0 : Int) (s3 : Int × Int × Int × Mm) : Option ((Int × Int × Int × Mm) ⊕ (Int × Int × Mm)) := if s3.2.2.1 < 12 then (q_L_member s3.2.2.2 a0 0 s3.2.2.1 0).bind fun r44 => (if r44.1 < 0 then some (s3.1) else if r44.1 < s3.1 then some (r44.1) else some (s3.1) : Option (Int)).bind fun (s45 : Int) => if s3.2.1 < r44.1 then some (.inl (s45, r44.1, (w (s3.2.2.1 + 1)), r44.2)) else some (.inl (s45, s3.2.1, (w (s3.2.2.1 + 1)), r44.2)) else some (.inr (s3.1, s3.2.1, s3.2.2.2))
def b_L_beats_9 (a0 : Int) (s89 : Int × Mm) : Option ((Int × Mm) ⊕ (((Int × Mm) ⊕ ((Int × Mm) ⊕ (Mm))) ⊕ (Mm))) := if s89.1 < 12 then (q_L_beat s89.2 a0 0 s89.1).bind fun r107 => if r107.1 < (-97) then some (.inr (.inl (.inr (.inl (0, r107.2))))) else some (.inl ((w (s89.1 + 1)), r107.2)) else some (.inr (.inr s89.2))
def b_L_beats_2 (a0 : Int) (s1 : Int × Mm) : Option ((Int × Mm) ⊕ ((Int × Mm) ⊕ (Mm))) := if s1.1 < 2 then (lp (b_L_beats_9 a0) 13 (0, s1.2)).bind (Sum.elim some fun (t90 : Mm) => some (.inl ((w (s1.1 + 1)), t90))) else some (.inr (.inr s1.2))
def p_L_beats (M : Mm) (a0 : Int) : Option (Int × Mm) := (lp (b_L_beats_2 a0) 3 (0, M)).bind (Sum.elim some fun (t2 : Mm) => (lp (b_L_beats_49 a0) 13 (9, 0, 0, t2)).bind fun (t4 : Int × Int × Mm) => (q_L_ofGroup t4.2.2 a0 0 2).bind fun r5 => (if r5.1 = 1 then if 1 < (w (t4.2.1 - t4.1)) then some (0) else some (1) else some (0) : Option (Int)).bind fun (s6 : Int) => (lp (b_L_beats_127 a0) 4 (s6, 0, r5.2)).bind fun (t8 : Int × Mm) => gd (t8.1 = 0 ∨ t8.1 = 1) (some (t8.1, t8.2)))
set_option maxRecDepth 100000 in
set_option maxHeartbeats 4000000 in
theorem xe_L_beats {D : Dt} {M : Mm} {a0 : Int} : XE D 65 mu_L_beats (EW 0) 0 [(0, (14, a0))] [] M (p_L_beats M a0) := by
  unfold p_L_beats
  refine XE.go (st_iconst (n := 0) (pc' := 1) (by decide +kernel) (w_eq (by decide) (by decide)) rfl) ?_
  refine XE.go (st_istore_n (j := 1) (i := 1) (pc' := 2) (by decide +kernel) rfl rfl (by decide) rfl rfl) ?_
  refine XE.pick [1, 0] (L' := [(0, (14, a0)), (1, (0, 0))]) rfl ?_
  refine XE.loopXk (b := 13) (e := 26) (by omega) (n := 3) (s0 := (0, M)) (pcL := 2) (pcE := 42) (LL := fun (s1 : Int × Mm) => [(0, (14, a0)), (1, (0, s1.1))]) (sL := fun _ => []) (ML := fun (s1 : Int × Mm) => s1.2) (LE := fun (t2 : Mm) => [(0, (14, a0))]) (sE := fun _ => []) (ME := fun (t2 : Mm) => t2) (fun kp55 hkp55 kk86 hx85 hc83 he84 s1 => ?_) (fun t2 => ?_)
  · unfold b_L_beats_2
    refine XE.go (st_iload_n (j := 1) (i := 1) (pc' := 3) (by decide +kernel) rfl rfl rfl) ?_
    refine XE.go (st_iconst (n := 2) (pc' := 4) (by decide +kernel) (w_eq (by decide) (by decide)) rfl) ?_
    refine XE.bite (fun h87 => ?_) (fun h88 => ?_)
    · refine XE.go (st_icmp_ge_f (off := 38) (pc' := 7) (by decide +kernel) 42 (by decide) rfl (Int.not_le.mpr h87)) ?_
      refine XE.go (st_iconst (n := 0) (pc' := 8) (by decide +kernel) (w_eq (by decide) (by decide)) rfl) ?_
      refine XE.go (st_istore_n (j := 2) (i := 2) (pc' := 9) (by decide +kernel) rfl rfl (by decide) rfl rfl) ?_
      refine XE.pick [1, 2, 0] (L' := [(0, (14, a0)), (1, (0, s1.1)), (2, (0, 0))]) rfl ?_
      refine XE.ascX ?_
      refine XE.loopXk (b := 1) (e := kp55 + 0) (by omega) (n := 13) (s0 := (0, s1.2)) (pcL := 9) (pcE := 36) (LL := fun (s89 : Int × Mm) => [(0, (14, a0)), (1, (0, s1.1)), (2, (0, s89.1))]) (sL := fun _ => []) (ML := fun (s89 : Int × Mm) => s89.2) (LE := fun (t90 : Mm) => [(0, (14, a0)), (1, (0, s1.1))]) (sE := fun _ => []) (ME := fun (t90 : Mm) => t90) (fun kp91 hkp91 kk104 hx103 hc101 he102 s89 => ?_) (fun t90 => ?_)
      · unfold b_L_beats_9
        refine XE.go (st_iload_n (j := 2) (i := 2) (pc' := 10) (by decide +kernel) rfl rfl rfl) ?_
        refine XE.go (st_bipush (n := 12) (pc' := 12) (by decide +kernel) (by decide) (w_eq (by decide) (by decide)) rfl) ?_
        refine XE.bite (fun h105 => ?_) (fun h106 => ?_)
        · refine XE.go (st_icmp_ge_f (off := 24) (pc' := 15) (by decide +kernel) 36 (by decide) rfl (Int.not_le.mpr h105)) ?_
          refine XE.go (st_aload_n (j := 0) (i := 0) (pc' := 16) (by decide +kernel) rfl rfl (by decide) rfl) ?_
          refine XE.go (st_iconst (n := 0) (pc' := 17) (by decide +kernel) (w_eq (by decide) (by decide)) rfl) ?_
          refine XE.go (st_iload_n (j := 2) (i := 2) (pc' := 18) (by decide +kernel) rfl rfl rfl) ?_
          refine XE.asc ?_
          refine XE.cWk (κ1 := 1) (κ2 := kp91 + 0) (by omega) (pc' := 21) (st := []) (fun r hr => cq_L_beat r hr) (fun r hr => run_S (st := []) (by decide +kernel) co_L_beats_196 (cq_L_beat r hr) rfl rfl (Nat.le_of_ble_eq_true rfl)) rfl rfl (fun r107 => ?_)
          refine XE.go (st_istore_n (j := 3) (i := 3) (pc' := 22) (by decide +kernel) rfl rfl (by decide) rfl rfl) ?_
          refine XE.go (st_iload_n (j := 3) (i := 3) (pc' := 23) (by decide +kernel) rfl rfl rfl) ?_
          refine XE.go (st_bipush (n := (-97)) (pc' := 25) (by decide +kernel) (by decide) (w_eq (by decide) (by decide)) rfl) ?_
          refine XE.bite (fun h108 => ?_) (fun h109 => ?_)
          · refine XE.go (st_icmp_ge_f (off := 5) (pc' := 28) (by decide +kernel) 30 (by decide) rfl (Int.not_le.mpr h108)) ?_
            refine XE.go (st_iconst (n := 0) (pc' := 29) (by decide +kernel) (w_eq (by decide) (by decide)) rfl) ?_
            refine XE.cast (hx103 _) ?_
            refine XE.cast (hx85 _) ?_
            exact XE.rt rfl (X_zret (by decide +kernel) rfl (by decide))
          · refine XE.go (st_icmp_ge_t (off := 5) (pc' := 30) (by decide +kernel) (by decide) (Int.not_lt.mp h109)) ?_
            refine XE.go (st_iinc (j := 2) (n := 1) (pc' := 33) (by decide +kernel) rfl rfl (by decide) rfl rfl) ?_
            refine XE.go (st_goto (off := (-24)) (pc' := 9) (by decide +kernel) (by decide)) ?_
            exact XE.mono (by omega) (XE.pick [2, 3, 0] rfl (hc101 ((w (s89.1 + 1)), r107.2)))
        · refine XE.go (st_icmp_ge_t (off := 24) (pc' := 36) (by decide +kernel) (by decide) (Int.not_lt.mp h106)) ?_
          exact XE.mono (by omega) (XE.pick [0, 1] rfl (he102 s89.2))
      · refine XE.go (st_iinc (j := 1) (n := 1) (pc' := 39) (by decide +kernel) rfl rfl (by decide) rfl rfl) ?_
        refine XE.go (st_goto (off := (-37)) (pc' := 2) (by decide +kernel) (by decide)) ?_
        exact XE.mono (by omega) (XE.pick [1, 0] rfl (hc83 ((w (s1.1 + 1)), t90)))
    · refine XE.go (st_icmp_ge_t (off := 38) (pc' := 42) (by decide +kernel) (by decide) (Int.not_lt.mp h88)) ?_
      exact XE.mono (by omega) (XE.pick [0] rfl (he84 s1.2))
  · refine XE.go (st_bipush (n := 9) (pc' := 44) (by decide +kernel) (by decide) (w_eq (by decide) (by decide)) rfl) ?_
    refine XE.go (st_istore_n (j := 1) (i := 1) (pc' := 45) (by decide +kernel) rfl rfl (by decide) rfl rfl) ?_
    refine XE.go (st_iconst (n := 0) (pc' := 46) (by decide +kernel) (w_eq (by decide) (by decide)) rfl) ?_
    refine XE.go (st_istore_n (j := 2) (i := 2) (pc' := 47) (by decide +kernel) rfl rfl (by decide) rfl rfl) ?_
    refine XE.go (st_iconst (n := 0) (pc' := 48) (by decide +kernel) (w_eq (by decide) (by decide)) rfl) ?_
    refine XE.go (st_istore_n (j := 3) (i := 3) (pc' := 49) (by decide +kernel) rfl rfl (by decide) rfl rfl) ?_
    refine XE.pick [3, 2, 1, 0] (L' := [(0, (14, a0)), (1, (0, 9)), (2, (0, 0)), (3, (0, 0))]) rfl ?_
    refine XE.loopJk (b := 1) (e := 13) (by omega) (n := 13) (s0 := (9, 0, 0, t2)) (pcL := 49) (pcE := 101) (LL := fun (s3 : Int × Int × Int × Mm) => [(0, (14, a0)), (1, (0, s3.1)), (2, (0, s3.2.1)), (3, (0, s3.2.2.1))]) (sL := fun _ => []) (ML := fun (s3 : Int × Int × Int × Mm) => s3.2.2.2) (LE := fun (t4 : Int × Int × Mm) => [(0, (14, a0)), (1, (0, t4.1)), (2, (0, t4.2.1))]) (sE := fun _ => []) (ME := fun (t4 : Int × Int × Mm) => t4.2.2) (fun kp37 hkp37 kk41 hc38 he39 s3 => ?_) (fun t4 => ?_)
    · unfold b_L_beats_49
      refine XE.go (st_iload_n (j := 3) (i := 3) (pc' := 50) (by decide +kernel) rfl rfl rfl) ?_
      refine XE.go (st_bipush (n := 12) (pc' := 52) (by decide +kernel) (by decide) (w_eq (by decide) (by decide)) rfl) ?_
      refine XE.bite (fun h42 => ?_) (fun h43 => ?_)
      · refine XE.go (st_icmp_ge_f (off := 49) (pc' := 55) (by decide +kernel) 101 (by decide) rfl (Int.not_le.mpr h42)) ?_
        refine XE.go (st_aload_n (j := 0) (i := 0) (pc' := 56) (by decide +kernel) rfl rfl (by decide) rfl) ?_
        refine XE.go (st_iconst (n := 0) (pc' := 57) (by decide +kernel) (w_eq (by decide) (by decide)) rfl) ?_
        refine XE.go (st_iload_n (j := 3) (i := 3) (pc' := 58) (by decide +kernel) rfl rfl rfl) ?_
        refine XE.go (st_iconst (n := 0) (pc' := 59) (by decide +kernel) (w_eq (by decide) (by decide)) rfl) ?_
        refine XE.asc ?_
        refine XE.cWk (κ1 := 1) (κ2 := kp37 + 0) (by omega) (pc' := 62) (st := []) (fun r hr => cq_L_member r hr) (fun r hr => run_S (st := []) (by decide +kernel) co_L_beats_204 (cq_L_member r hr) rfl rfl (Nat.le_of_ble_eq_true rfl)) rfl rfl (fun r44 => ?_)
        refine XE.go (st_istore (j := 4) (pc' := 64) (by decide +kernel)  rfl (by decide) rfl rfl) ?_
        refine XE.go (st_iload (j := 4) (pc' := 66) (by decide +kernel) rfl rfl) ?_
        refine XE.asc ?_
        refine XE.joink (κ1 := kp37 + 0) (pcJ := 81) (LJ := fun (s45 : Int) => [(0, (14, a0)), (2, (0, s3.2.1)), (3, (0, s3.2.2.1)), (4, (0, r44.1))]) (sJ := fun (s45 : Int) => [(0, s45)]) (MJ := fun (s45 : Int) => r44.2) (fun kk50 hk48 => ?_) (fun s45 => ?_)
        · refine XE.bite (fun h51 => ?_) (fun h52 => ?_)
          · refine XE.go (st_if_lt_t (off := 14) (pc' := 80) (by decide +kernel) (by decide) h51) ?_
            refine XE.go (st_iload_n (j := 1) (i := 1) (pc' := 81) (by decide +kernel) rfl rfl rfl) ?_
            exact XE.mono (by omega) (XE.pick [1, 3, 4, 0] rfl (hk48 s3.1))
          · refine XE.go (st_if_lt_f (off := 14) (pc' := 69) (by decide +kernel) 80 (by decide) rfl h52) ?_
            refine XE.go (st_iload (j := 4) (pc' := 71) (by decide +kernel) rfl rfl) ?_
            refine XE.go (st_iload_n (j := 1) (i := 1) (pc' := 72) (by decide +kernel) rfl rfl rfl) ?_
            refine XE.bite (fun h53 => ?_) (fun h54 => ?_)
            · refine XE.go (st_icmp_ge_f (off := 8) (pc' := 75) (by decide +kernel) 80 (by decide) rfl (Int.not_le.mpr h53)) ?_
              refine XE.go (st_iload (j := 4) (pc' := 77) (by decide +kernel) rfl rfl) ?_
              refine XE.go (st_goto (off := 4) (pc' := 81) (by decide +kernel) (by decide)) ?_
              exact XE.mono (by omega) (XE.pick [1, 3, 4, 0] rfl (hk48 r44.1))
            · refine XE.go (st_icmp_ge_t (off := 8) (pc' := 80) (by decide +kernel) (by decide) (Int.not_lt.mp h54)) ?_
              refine XE.go (st_iload_n (j := 1) (i := 1) (pc' := 81) (by decide +kernel) rfl rfl rfl) ?_
              exact XE.mono (by omega) (XE.pick [1, 3, 4, 0] rfl (hk48 s3.1))
        · refine XE.go (st_istore_n (j := 1) (i := 1) (pc' := 82) (by decide +kernel) rfl rfl (by decide) rfl rfl) ?_
          refine XE.go (st_iload (j := 4) (pc' := 84) (by decide +kernel) rfl rfl) ?_
          refine XE.go (st_iload_n (j := 2) (i := 2) (pc' := 85) (by decide +kernel) rfl rfl rfl) ?_
          refine XE.bite (fun h46 => ?_) (fun h47 => ?_)
          · refine XE.go (st_icmp_le_f (off := 8) (pc' := 88) (by decide +kernel) 93 (by decide) rfl (Int.not_le.mpr h46)) ?_
            refine XE.go (st_iload (j := 4) (pc' := 90) (by decide +kernel) rfl rfl) ?_
            refine XE.go (st_goto (off := 4) (pc' := 94) (by decide +kernel) (by decide)) ?_
            refine XE.go (st_istore_n (j := 2) (i := 2) (pc' := 95) (by decide +kernel) rfl rfl (by decide) rfl rfl) ?_
            refine XE.go (st_iinc (j := 3) (n := 1) (pc' := 98) (by decide +kernel) rfl rfl (by decide) rfl rfl) ?_
            refine XE.go (st_goto (off := (-49)) (pc' := 49) (by decide +kernel) (by decide)) ?_
            exact XE.mono (by omega) (XE.pick [3, 2, 1, 0] rfl (hc38 (s45, r44.1, (w (s3.2.2.1 + 1)), r44.2)))
          · refine XE.go (st_icmp_le_t (off := 8) (pc' := 93) (by decide +kernel) (by decide) (Int.not_lt.mp h47)) ?_
            refine XE.go (st_iload_n (j := 2) (i := 2) (pc' := 94) (by decide +kernel) rfl rfl rfl) ?_
            refine XE.go (st_istore_n (j := 2) (i := 2) (pc' := 95) (by decide +kernel) rfl rfl (by decide) rfl rfl) ?_
            refine XE.go (st_iinc (j := 3) (n := 1) (pc' := 98) (by decide +kernel) rfl rfl (by decide) rfl rfl) ?_
            refine XE.go (st_goto (off := (-49)) (pc' := 49) (by decide +kernel) (by decide)) ?_
            exact XE.mono (by omega) (XE.pick [3, 2, 1, 0] rfl (hc38 (s45, s3.2.1, (w (s3.2.2.1 + 1)), r44.2)))
      · refine XE.go (st_icmp_ge_t (off := 49) (pc' := 101) (by decide +kernel) (by decide) (Int.not_lt.mp h43)) ?_
        exact XE.mono (by omega) (XE.pick [0, 1, 2] rfl (he39 (s3.1, s3.2.1, s3.2.2.2)))
    · refine XE.go (st_aload_n (j := 0) (i := 0) (pc' := 102) (by decide +kernel) rfl rfl (by decide) rfl) ?_
      refine XE.go (st_iconst (n := 0) (pc' := 103) (by decide +kernel) (w_eq (by decide) (by decide)) rfl) ?_
      refine XE.go (st_iconst (n := 2) (pc' := 104) (by decide +kernel) (w_eq (by decide) (by decide)) rfl) ?_
      refine XE.cWk (κ1 := 1) (κ2 := 12) (by omega) (pc' := 107) (st := []) (fun r hr => cq_L_ofGroup r hr) (fun r hr => run_S (st := []) (by decide +kernel) co_L_beats_129 (cq_L_ofGroup r hr) rfl rfl (Nat.le_of_ble_eq_true rfl)) rfl rfl (fun r5 => ?_)
      refine XE.go (st_iconst (n := 1) (pc' := 108) (by decide +kernel) (w_eq (by decide) (by decide)) rfl) ?_
      refine XE.joink (κ1 := 12) (pcJ := 123) (LJ := fun (s6 : Int) => [(0, (14, a0))]) (sJ := fun (s6 : Int) => [(0, s6)]) (MJ := fun (s6 : Int) => r5.2) (fun kk32 hk30 => ?_) (fun s6 => ?_)
      · refine XE.bite (fun h33 => ?_) (fun h34 => ?_)
        · refine XE.go (st_icmp_ne_f (off := 14) (pc' := 111) (by decide +kernel) 122 (by decide) rfl (not_not_intro h33)) ?_
          refine XE.go (st_iload_n (j := 2) (i := 2) (pc' := 112) (by decide +kernel) rfl rfl rfl) ?_
          refine XE.go (st_iload_n (j := 1) (i := 1) (pc' := 113) (by decide +kernel) rfl rfl rfl) ?_
          refine XE.go (st_isub (pc' := 114) (by decide +kernel) rfl) ?_
          refine XE.go (st_iconst (n := 1) (pc' := 115) (by decide +kernel) (w_eq (by decide) (by decide)) rfl) ?_
          refine XE.bite (fun h35 => ?_) (fun h36 => ?_)
          · refine XE.go (st_icmp_gt_t (off := 7) (pc' := 122) (by decide +kernel) (by decide) h35) ?_
            refine XE.go (st_iconst (n := 0) (pc' := 123) (by decide +kernel) (w_eq (by decide) (by decide)) rfl) ?_
            exact XE.mono (by omega) (XE.pick [0] rfl (hk30 0))
          · refine XE.go (st_icmp_gt_f (off := 7) (pc' := 118) (by decide +kernel) 122 (by decide) rfl h36) ?_
            refine XE.go (st_iconst (n := 1) (pc' := 119) (by decide +kernel) (w_eq (by decide) (by decide)) rfl) ?_
            refine XE.go (st_goto (off := 4) (pc' := 123) (by decide +kernel) (by decide)) ?_
            exact XE.mono (by omega) (XE.pick [0] rfl (hk30 1))
        · refine XE.go (st_icmp_ne_t (off := 14) (pc' := 122) (by decide +kernel) (by decide) h34) ?_
          refine XE.go (st_iconst (n := 0) (pc' := 123) (by decide +kernel) (w_eq (by decide) (by decide)) rfl) ?_
          exact XE.mono (by omega) (XE.pick [0] rfl (hk30 0))
      · refine XE.go (st_istore_n (j := 3) (i := 3) (pc' := 124) (by decide +kernel) rfl rfl (by decide) rfl rfl) ?_
        refine XE.go (st_iconst (n := 0) (pc' := 125) (by decide +kernel) (w_eq (by decide) (by decide)) rfl) ?_
        refine XE.go (st_istore (j := 4) (pc' := 127) (by decide +kernel)  rfl (by decide) rfl rfl) ?_
        refine XE.pick [2, 1, 0] (L' := [(0, (14, a0)), (3, (0, s6)), (4, (0, 0))]) rfl ?_
        refine XE.loopJk (b := 3) (e := 0) (by omega) (n := 4) (s0 := (s6, 0, r5.2)) (pcL := 127) (pcE := 177) (LL := fun (s7 : Int × Int × Mm) => [(0, (14, a0)), (3, (0, s7.1)), (4, (0, s7.2.1))]) (sL := fun _ => []) (ML := fun (s7 : Int × Int × Mm) => s7.2.2) (LE := fun (t8 : Int × Mm) => [(3, (0, t8.1))]) (sE := fun _ => []) (ME := fun (t8 : Int × Mm) => t8.2) (fun kp10 hkp10 kk14 hc11 he12 s7 => ?_) (fun t8 => ?_)
        · unfold b_L_beats_127
          refine XE.go (st_iload (j := 4) (pc' := 129) (by decide +kernel) rfl rfl) ?_
          refine XE.go (st_iconst (n := 3) (pc' := 130) (by decide +kernel) (w_eq (by decide) (by decide)) rfl) ?_
          refine XE.bite (fun h15 => ?_) (fun h16 => ?_)
          · refine XE.go (st_icmp_ge_f (off := 47) (pc' := 133) (by decide +kernel) 177 (by decide) rfl (Int.not_le.mpr h15)) ?_
            refine XE.go (st_iload_n (j := 3) (i := 3) (pc' := 134) (by decide +kernel) rfl rfl rfl) ?_
            refine XE.go (st_aload_n (j := 0) (i := 0) (pc' := 135) (by decide +kernel) rfl rfl (by decide) rfl) ?_
            refine XE.go (st_iconst (n := 0) (pc' := 136) (by decide +kernel) (w_eq (by decide) (by decide)) rfl) ?_
            refine XE.go (st_iload (j := 4) (pc' := 138) (by decide +kernel) rfl rfl) ?_
            refine XE.go (st_iconst (n := 0) (pc' := 139) (by decide +kernel) (w_eq (by decide) (by decide)) rfl) ?_
            refine XE.asc ?_
            refine XE.cWk (κ1 := 1) (κ2 := kp10 + 2) (by omega) (pc' := 142) (st := [(0, s7.1)]) (fun r hr => cq_L_share r hr) (fun r hr => run_S (st := [(0, s7.1)]) (by decide +kernel) co_L_beats_206 (cq_L_share r hr) rfl rfl (Nat.le_of_ble_eq_true rfl)) rfl rfl (fun r17 => ?_)
            refine XE.bite (fun h18 => ?_) (fun h19 => ?_)
            · refine XE.go (st_if_lt_t (off := 26) (pc' := 168) (by decide +kernel) (by decide) h18) ?_
              refine XE.go (st_iconst (n := 0) (pc' := 169) (by decide +kernel) (w_eq (by decide) (by decide)) rfl) ?_
              refine XE.go (st_iand (pc' := 170) (by decide +kernel) rfl) ?_
              refine XE.asc ?_
              refine XE.gen (fun v20 e21 => ?_)
              refine XE.go (st_istore_n (j := 3) (i := 3) (pc' := 171) (by decide +kernel) rfl rfl (by decide) rfl rfl) ?_
              refine XE.go (st_iinc (j := 4) (n := 1) (pc' := 174) (by decide +kernel) rfl rfl (by decide) rfl rfl) ?_
              refine XE.go (st_goto (off := (-47)) (pc' := 127) (by decide +kernel) (by decide)) ?_
              exact XE.mono (by omega) (XE.pick [2, 1, 0] rfl (hc11 (v20, (w (s7.2.1 + 1)), r17.2)))
            · refine XE.go (st_if_lt_f (off := 26) (pc' := 145) (by decide +kernel) 168 (by decide) rfl h19) ?_
              refine XE.go (st_aload_n (j := 0) (i := 0) (pc' := 146) (by decide +kernel) rfl rfl (by decide) rfl) ?_
              refine XE.go (st_iconst (n := 0) (pc' := 147) (by decide +kernel) (w_eq (by decide) (by decide)) rfl) ?_
              refine XE.go (st_iload (j := 4) (pc' := 149) (by decide +kernel) rfl rfl) ?_
              refine XE.go (st_iconst (n := 0) (pc' := 150) (by decide +kernel) (w_eq (by decide) (by decide)) rfl) ?_
              refine XE.asc ?_
              refine XE.cWk (κ1 := 1) (κ2 := kp10 + 1) (by omega) (pc' := 153) (st := [(0, s7.1)]) (fun r hr => cq_L_share r hr) (fun r hr => run_S (st := [(0, s7.1)]) (by decide +kernel) co_L_beats_206 (cq_L_share r hr) rfl rfl (Nat.le_of_ble_eq_true rfl)) rfl rfl (fun r22 => ?_)
              refine XE.go (st_aload_n (j := 0) (i := 0) (pc' := 154) (by decide +kernel) rfl rfl (by decide) rfl) ?_
              refine XE.go (st_iconst (n := 0) (pc' := 155) (by decide +kernel) (w_eq (by decide) (by decide)) rfl) ?_
              refine XE.go (st_iload (j := 4) (pc' := 157) (by decide +kernel) rfl rfl) ?_
              refine XE.go (st_iconst (n := 1) (pc' := 158) (by decide +kernel) (w_eq (by decide) (by decide)) rfl) ?_
              refine XE.asc ?_
              refine XE.cWk (κ1 := 1) (κ2 := kp10 + 0) (by omega) (pc' := 161) (st := [(0, r22.1), (0, s7.1)]) (fun r hr => cq_L_share r hr) (fun r hr => run_S (st := [(0, r22.1), (0, s7.1)]) (by decide +kernel) co_L_beats_206 (cq_L_share r hr) rfl rfl (Nat.le_of_ble_eq_true rfl)) rfl rfl (fun r23 => ?_)
              refine XE.bite (fun h24 => ?_) (fun h25 => ?_)
              · refine XE.go (st_icmp_ne_f (off := 7) (pc' := 164) (by decide +kernel) 168 (by decide) rfl (not_not_intro h24)) ?_
                refine XE.go (st_iconst (n := 1) (pc' := 165) (by decide +kernel) (w_eq (by decide) (by decide)) rfl) ?_
                refine XE.go (st_goto (off := 4) (pc' := 169) (by decide +kernel) (by decide)) ?_
                refine XE.go (st_iand (pc' := 170) (by decide +kernel) rfl) ?_
                refine XE.asc ?_
                refine XE.gen (fun v26 e27 => ?_)
                refine XE.go (st_istore_n (j := 3) (i := 3) (pc' := 171) (by decide +kernel) rfl rfl (by decide) rfl rfl) ?_
                refine XE.go (st_iinc (j := 4) (n := 1) (pc' := 174) (by decide +kernel) rfl rfl (by decide) rfl rfl) ?_
                refine XE.go (st_goto (off := (-47)) (pc' := 127) (by decide +kernel) (by decide)) ?_
                exact XE.mono (by omega) (XE.pick [2, 1, 0] rfl (hc11 (v26, (w (s7.2.1 + 1)), r23.2)))
              · refine XE.go (st_icmp_ne_t (off := 7) (pc' := 168) (by decide +kernel) (by decide) h25) ?_
                refine XE.go (st_iconst (n := 0) (pc' := 169) (by decide +kernel) (w_eq (by decide) (by decide)) rfl) ?_
                refine XE.go (st_iand (pc' := 170) (by decide +kernel) rfl) ?_
                refine XE.asc ?_
                refine XE.gen (fun v28 e29 => ?_)
                refine XE.go (st_istore_n (j := 3) (i := 3) (pc' := 171) (by decide +kernel) rfl rfl (by decide) rfl rfl) ?_
                refine XE.go (st_iinc (j := 4) (n := 1) (pc' := 174) (by decide +kernel) rfl rfl (by decide) rfl rfl) ?_
                refine XE.go (st_goto (off := (-47)) (pc' := 127) (by decide +kernel) (by decide)) ?_
                exact XE.mono (by omega) (XE.pick [2, 1, 0] rfl (hc11 (v28, (w (s7.2.1 + 1)), r23.2)))
          · refine XE.go (st_icmp_ge_t (off := 47) (pc' := 177) (by decide +kernel) (by decide) (Int.not_lt.mp h16)) ?_
            exact XE.mono (by omega) (XE.pick [1] rfl (he12 (s7.1, s7.2.2)))
        · refine XE.go (st_iload_n (j := 3) (i := 3) (pc' := 178) (by decide +kernel) rfl rfl rfl) ?_
          refine XE.gd_ (fun g9 => ?_)
          exact XE.rt rfl (X_zret (by decide +kernel) rfl g9)
theorem ct_L_beats {D : Dt} {M : Mm} {a0 : Int} (r : (Int × Mm)) (hr : p_L_beats M a0 = some r) : CT D 65 mu_L_beats [(14, a0)] M (.inl (some (0, r.1))) r.2 := CT.of (by decide +kernel) rfl (Nat.le_of_ble_eq_true rfl) (xe_L_beats r hr)
def b_L_heals_127 (a0 : Int) (s11 : Int × Int × Mm) : Option ((Int × Int × Mm) ⊕ (Int × Mm)) := if s11.2.1 < 3 then (q_L_partition s11.2.2 a0 s11.2.1 1).bind fun r28 => if r28.1 < 0 then (some ((ian s11.1 0))).bind fun v31 => some (.inl (v31, (w (s11.2.1 + 1)), r28.2)) else (q_L_partition r28.2 a0 s11.2.1 2).bind fun r33 => if r33.1 = 7 then (q_L_partition r33.2 a0 s11.2.1 4).bind fun r36 => (q_L_partition r36.2 a0 s11.2.1 6).bind fun r37 => if r36.1 = r37.1 then (some ((ian s11.1 1))).bind fun v40 => some (.inl (v40, (w (s11.2.1 + 1)), r37.2)) else (some ((ian s11.1 0))).bind fun v42 => some (.inl (v42, (w (s11.2.1 + 1)), r37.2)) else (some ((ian s11.1 0))).bind fun v44 => some (.inl (v44, (w (s11.2.1 + 1)), r33.2)) else some (.inr (s11.1, s11.2.2))
def b_L_heals_94 (a0 : Int) (s8 : Int × Int × Mm) : Option ((Int × Int × Mm) ⊕ (Int × Mm)) := if s8.2.1 < 3 then (q_L_fetch s8.2.2 a0 s8.2.1).bind fun r58 => (some ((w (s8.1 + r58.1)))).bind fun v59 => some (.inl (v59, (w (s8.2.1 + 1)), r58.2)) else some (.inr (s8.1, s8.2.2))
def b_L_heals_66 (a0 : Int) (s6 : Int × Int × Mm) (s71 : Int × Int × Mm) : Option ((Int × Int × Mm) ⊕ (Int × Mm)) := if s71.2.1 < 3 then (q_L_resend s71.2.2 a0 s6.2.1 s71.2.1).bind fun r80 => (some ((w (s71.1 + r80.1)))).bind fun v81 => some (.inl (v81, (w (s71.2.1 + 1)), r80.2)) else some (.inr (s71.1, s71.2.2))
def b_L_heals_51 (a0 : Int) (s6 : Int × Int × Mm) : Option ((Int × Int × Mm) ⊕ (Int × Mm)) := if s6.2.1 < 2 then (q_L_abort s6.2.2 a0 s6.2.1).bind fun r68 => (some ((w (s6.1 + r68.1)))).bind fun v69 => (lp (b_L_heals_66 a0 s6) 4 (v69, 0, r68.2)).bind fun (t72 : Int × Mm) => some (.inl (t72.1, (w (s6.2.1 + 1)), t72.2)) else some (.inr (s6.1, s6.2.2))
def b_L_heals_30 (a0 : Int) (s4 : Int × Int × Mm) : Option ((Int × Int × Mm) ⊕ (Int × Mm)) := if s4.2.1 < 3 then (q_L_fetch s4.2.2 a0 s4.2.1).bind fun r90 => (some ((w (s4.1 + r90.1)))).bind fun v91 => some (.inl (v91, (w (s4.2.1 + 1)), r90.2)) else some (.inr (s4.1, s4.2.2))
def b_L_heals_9 (a0 : Int) (s2 : Int × Int × Mm) : Option ((Int × Int × Mm) ⊕ (Int × Mm)) := if s2.2.1 < 3 then (q_L_restore s2.2.2 a0 s2.2.1).bind fun r100 => (some ((w (s2.1 + r100.1)))).bind fun v101 => some (.inl (v101, (w (s2.2.1 + 1)), r100.2)) else some (.inr (s2.1, s2.2.2))
def p_L_heals (M : Mm) (a0 : Int) : Option (Int × Mm) := (q_L_speed M a0 9).bind fun r1 => (lp (b_L_heals_9 a0) 4 (r1.1, 0, r1.2)).bind fun (t3 : Int × Mm) => (lp (b_L_heals_30 a0) 4 (t3.1, 0, t3.2)).bind fun (t5 : Int × Mm) => (lp (b_L_heals_51 a0) 3 (t5.1, 0, t5.2)).bind fun (t7 : Int × Mm) => (lp (b_L_heals_94 a0) 4 (t7.1, 0, t7.2)).bind fun (t9 : Int × Mm) => (if (-100000) < t9.1 then some (1) else some (0) : Option (Int)).bind fun (s10 : Int) => (lp (b_L_heals_127 a0) 4 (s10, 0, t9.2)).bind fun (t12 : Int × Mm) => if t12.1 = 0 then some (0, t12.2) else (q_L_ofGroup t12.2 a0 0 1).bind fun r15 => if r15.1 = 0 then (q_L_join r15.2 a0 0).bind fun r18 => if r18.1 < 0 then some (0, r18.2) else some (1, r18.2) else some (1, r15.2)
set_option maxRecDepth 100000 in
set_option maxHeartbeats 4000000 in
theorem xe_L_heals {D : Dt} {M : Mm} {a0 : Int} : XE D 46 mu_L_heals (EW 0) 0 [(0, (14, a0))] [] M (p_L_heals M a0) := by
  unfold p_L_heals
  refine XE.go (st_aload_n (j := 0) (i := 0) (pc' := 1) (by decide +kernel) rfl rfl (by decide) rfl) ?_
  refine XE.go (st_bipush (n := 9) (pc' := 3) (by decide +kernel) (by decide) (w_eq (by decide) (by decide)) rfl) ?_
  refine XE.cWk (κ1 := 1) (κ2 := 45) (by omega) (pc' := 6) (st := []) (fun r hr => cq_L_speed r hr) (fun r hr => run_S (st := []) (by decide +kernel) co_L_heals_182 (cq_L_speed r hr) rfl rfl (Nat.le_of_ble_eq_true rfl)) rfl rfl (fun r1 => ?_)
  refine XE.go (st_istore_n (j := 1) (i := 1) (pc' := 7) (by decide +kernel) rfl rfl (by decide) rfl rfl) ?_
  refine XE.go (st_iconst (n := 0) (pc' := 8) (by decide +kernel) (w_eq (by decide) (by decide)) rfl) ?_
  refine XE.go (st_istore_n (j := 2) (i := 2) (pc' := 9) (by decide +kernel) rfl rfl (by decide) rfl rfl) ?_
  refine XE.pick [2, 1, 0] (L' := [(0, (14, a0)), (1, (0, r1.1)), (2, (0, 0))]) rfl ?_
  refine XE.loopJk (b := 1) (e := 41) (by omega) (n := 4) (s0 := (r1.1, 0, r1.2)) (pcL := 9) (pcE := 28) (LL := fun (s2 : Int × Int × Mm) => [(0, (14, a0)), (1, (0, s2.1)), (2, (0, s2.2.1))]) (sL := fun _ => []) (ML := fun (s2 : Int × Int × Mm) => s2.2.2) (LE := fun (t3 : Int × Mm) => [(0, (14, a0)), (1, (0, t3.1))]) (sE := fun _ => []) (ME := fun (t3 : Int × Mm) => t3.2) (fun kp93 hkp93 kk97 hc94 he95 s2 => ?_) (fun t3 => ?_)
  · unfold b_L_heals_9
    refine XE.go (st_iload_n (j := 2) (i := 2) (pc' := 10) (by decide +kernel) rfl rfl rfl) ?_
    refine XE.go (st_iconst (n := 3) (pc' := 11) (by decide +kernel) (w_eq (by decide) (by decide)) rfl) ?_
    refine XE.bite (fun h98 => ?_) (fun h99 => ?_)
    · refine XE.go (st_icmp_ge_f (off := 17) (pc' := 14) (by decide +kernel) 28 (by decide) rfl (Int.not_le.mpr h98)) ?_
      refine XE.go (st_iload_n (j := 1) (i := 1) (pc' := 15) (by decide +kernel) rfl rfl rfl) ?_
      refine XE.go (st_aload_n (j := 0) (i := 0) (pc' := 16) (by decide +kernel) rfl rfl (by decide) rfl) ?_
      refine XE.go (st_iload_n (j := 2) (i := 2) (pc' := 17) (by decide +kernel) rfl rfl rfl) ?_
      refine XE.asc ?_
      refine XE.cWk (κ1 := 1) (κ2 := kp93 + 0) (by omega) (pc' := 20) (st := [(0, s2.1)]) (fun r hr => cq_L_restore r hr) (fun r hr => run_S (st := [(0, s2.1)]) (by decide +kernel) co_L_heals_178 (cq_L_restore r hr) rfl rfl (Nat.le_of_ble_eq_true rfl)) rfl rfl (fun r100 => ?_)
      refine XE.go (st_iadd (pc' := 21) (by decide +kernel) rfl) ?_
      refine XE.asc ?_
      refine XE.gen (fun v101 e102 => ?_)
      refine XE.go (st_istore_n (j := 1) (i := 1) (pc' := 22) (by decide +kernel) rfl rfl (by decide) rfl rfl) ?_
      refine XE.go (st_iinc (j := 2) (n := 1) (pc' := 25) (by decide +kernel) rfl rfl (by decide) rfl rfl) ?_
      refine XE.go (st_goto (off := (-16)) (pc' := 9) (by decide +kernel) (by decide)) ?_
      exact XE.mono (by omega) (XE.pick [2, 1, 0] rfl (hc94 (v101, (w (s2.2.1 + 1)), r100.2)))
    · refine XE.go (st_icmp_ge_t (off := 17) (pc' := 28) (by decide +kernel) (by decide) (Int.not_lt.mp h99)) ?_
      exact XE.mono (by omega) (XE.pick [0, 1] rfl (he95 (s2.1, s2.2.2)))
  · refine XE.go (st_iconst (n := 0) (pc' := 29) (by decide +kernel) (w_eq (by decide) (by decide)) rfl) ?_
    refine XE.go (st_istore_n (j := 2) (i := 2) (pc' := 30) (by decide +kernel) rfl rfl (by decide) rfl rfl) ?_
    refine XE.pick [1, 2, 0] (L' := [(0, (14, a0)), (1, (0, t3.1)), (2, (0, 0))]) rfl ?_
    refine XE.loopJk (b := 1) (e := 37) (by omega) (n := 4) (s0 := (t3.1, 0, t3.2)) (pcL := 30) (pcE := 49) (LL := fun (s4 : Int × Int × Mm) => [(0, (14, a0)), (1, (0, s4.1)), (2, (0, s4.2.1))]) (sL := fun _ => []) (ML := fun (s4 : Int × Int × Mm) => s4.2.2) (LE := fun (t5 : Int × Mm) => [(0, (14, a0)), (1, (0, t5.1))]) (sE := fun _ => []) (ME := fun (t5 : Int × Mm) => t5.2) (fun kp83 hkp83 kk87 hc84 he85 s4 => ?_) (fun t5 => ?_)
    · unfold b_L_heals_30
      refine XE.go (st_iload_n (j := 2) (i := 2) (pc' := 31) (by decide +kernel) rfl rfl rfl) ?_
      refine XE.go (st_iconst (n := 3) (pc' := 32) (by decide +kernel) (w_eq (by decide) (by decide)) rfl) ?_
      refine XE.bite (fun h88 => ?_) (fun h89 => ?_)
      · refine XE.go (st_icmp_ge_f (off := 17) (pc' := 35) (by decide +kernel) 49 (by decide) rfl (Int.not_le.mpr h88)) ?_
        refine XE.go (st_iload_n (j := 1) (i := 1) (pc' := 36) (by decide +kernel) rfl rfl rfl) ?_
        refine XE.go (st_aload_n (j := 0) (i := 0) (pc' := 37) (by decide +kernel) rfl rfl (by decide) rfl) ?_
        refine XE.go (st_iload_n (j := 2) (i := 2) (pc' := 38) (by decide +kernel) rfl rfl rfl) ?_
        refine XE.asc ?_
        refine XE.cWk (κ1 := 1) (κ2 := kp83 + 0) (by omega) (pc' := 41) (st := [(0, s4.1)]) (fun r hr => cq_L_fetch r hr) (fun r hr => run_S (st := [(0, s4.1)]) (by decide +kernel) co_L_heals_180 (cq_L_fetch r hr) rfl rfl (Nat.le_of_ble_eq_true rfl)) rfl rfl (fun r90 => ?_)
        refine XE.go (st_iadd (pc' := 42) (by decide +kernel) rfl) ?_
        refine XE.asc ?_
        refine XE.gen (fun v91 e92 => ?_)
        refine XE.go (st_istore_n (j := 1) (i := 1) (pc' := 43) (by decide +kernel) rfl rfl (by decide) rfl rfl) ?_
        refine XE.go (st_iinc (j := 2) (n := 1) (pc' := 46) (by decide +kernel) rfl rfl (by decide) rfl rfl) ?_
        refine XE.go (st_goto (off := (-16)) (pc' := 30) (by decide +kernel) (by decide)) ?_
        exact XE.mono (by omega) (XE.pick [2, 1, 0] rfl (hc84 (v91, (w (s4.2.1 + 1)), r90.2)))
      · refine XE.go (st_icmp_ge_t (off := 17) (pc' := 49) (by decide +kernel) (by decide) (Int.not_lt.mp h89)) ?_
        exact XE.mono (by omega) (XE.pick [0, 1] rfl (he85 (s4.1, s4.2.2)))
    · refine XE.go (st_iconst (n := 0) (pc' := 50) (by decide +kernel) (w_eq (by decide) (by decide)) rfl) ?_
      refine XE.go (st_istore_n (j := 2) (i := 2) (pc' := 51) (by decide +kernel) rfl rfl (by decide) rfl rfl) ?_
      refine XE.pick [1, 2, 0] (L' := [(0, (14, a0)), (1, (0, t5.1)), (2, (0, 0))]) rfl ?_
      refine XE.loopJk (b := 5) (e := 22) (by omega) (n := 3) (s0 := (t5.1, 0, t5.2)) (pcL := 51) (pcE := 92) (LL := fun (s6 : Int × Int × Mm) => [(0, (14, a0)), (1, (0, s6.1)), (2, (0, s6.2.1))]) (sL := fun _ => []) (ML := fun (s6 : Int × Int × Mm) => s6.2.2) (LE := fun (t7 : Int × Mm) => [(0, (14, a0)), (1, (0, t7.1))]) (sE := fun _ => []) (ME := fun (t7 : Int × Mm) => t7.2) (fun kp61 hkp61 kk65 hc62 he63 s6 => ?_) (fun t7 => ?_)
      · unfold b_L_heals_51
        refine XE.go (st_iload_n (j := 2) (i := 2) (pc' := 52) (by decide +kernel) rfl rfl rfl) ?_
        refine XE.go (st_iconst (n := 2) (pc' := 53) (by decide +kernel) (w_eq (by decide) (by decide)) rfl) ?_
        refine XE.bite (fun h66 => ?_) (fun h67 => ?_)
        · refine XE.go (st_icmp_ge_f (off := 39) (pc' := 56) (by decide +kernel) 92 (by decide) rfl (Int.not_le.mpr h66)) ?_
          refine XE.go (st_iload_n (j := 1) (i := 1) (pc' := 57) (by decide +kernel) rfl rfl rfl) ?_
          refine XE.go (st_aload_n (j := 0) (i := 0) (pc' := 58) (by decide +kernel) rfl rfl (by decide) rfl) ?_
          refine XE.go (st_iload_n (j := 2) (i := 2) (pc' := 59) (by decide +kernel) rfl rfl rfl) ?_
          refine XE.asc ?_
          refine XE.cWk (κ1 := 1) (κ2 := kp61 + 4) (by omega) (pc' := 62) (st := [(0, s6.1)]) (fun r hr => cq_L_abort r hr) (fun r hr => run_S (st := [(0, s6.1)]) (by decide +kernel) co_L_heals_165 (cq_L_abort r hr) rfl rfl (Nat.le_of_ble_eq_true rfl)) rfl rfl (fun r68 => ?_)
          refine XE.go (st_iadd (pc' := 63) (by decide +kernel) rfl) ?_
          refine XE.asc ?_
          refine XE.gen (fun v69 e70 => ?_)
          refine XE.go (st_istore_n (j := 1) (i := 1) (pc' := 64) (by decide +kernel) rfl rfl (by decide) rfl rfl) ?_
          refine XE.go (st_iconst (n := 0) (pc' := 65) (by decide +kernel) (w_eq (by decide) (by decide)) rfl) ?_
          refine XE.go (st_istore_n (j := 3) (i := 3) (pc' := 66) (by decide +kernel) rfl rfl (by decide) rfl rfl) ?_
          refine XE.pick [2, 1, 3, 0] (L' := [(0, (14, a0)), (1, (0, v69)), (2, (0, s6.2.1)), (3, (0, 0))]) rfl ?_
          refine XE.asc ?_
          refine XE.loopJk (b := 1) (e := kp61 + 0) (by omega) (n := 4) (s0 := (v69, 0, r68.2)) (pcL := 66) (pcE := 86) (LL := fun (s71 : Int × Int × Mm) => [(0, (14, a0)), (1, (0, s71.1)), (2, (0, s6.2.1)), (3, (0, s71.2.1))]) (sL := fun _ => []) (ML := fun (s71 : Int × Int × Mm) => s71.2.2) (LE := fun (t72 : Int × Mm) => [(0, (14, a0)), (1, (0, t72.1)), (2, (0, s6.2.1))]) (sE := fun _ => []) (ME := fun (t72 : Int × Mm) => t72.2) (fun kp73 hkp73 kk77 hc74 he75 s71 => ?_) (fun t72 => ?_)
          · unfold b_L_heals_66
            refine XE.go (st_iload_n (j := 3) (i := 3) (pc' := 67) (by decide +kernel) rfl rfl rfl) ?_
            refine XE.go (st_iconst (n := 3) (pc' := 68) (by decide +kernel) (w_eq (by decide) (by decide)) rfl) ?_
            refine XE.bite (fun h78 => ?_) (fun h79 => ?_)
            · refine XE.go (st_icmp_ge_f (off := 18) (pc' := 71) (by decide +kernel) 86 (by decide) rfl (Int.not_le.mpr h78)) ?_
              refine XE.go (st_iload_n (j := 1) (i := 1) (pc' := 72) (by decide +kernel) rfl rfl rfl) ?_
              refine XE.go (st_aload_n (j := 0) (i := 0) (pc' := 73) (by decide +kernel) rfl rfl (by decide) rfl) ?_
              refine XE.go (st_iload_n (j := 2) (i := 2) (pc' := 74) (by decide +kernel) rfl rfl rfl) ?_
              refine XE.go (st_iload_n (j := 3) (i := 3) (pc' := 75) (by decide +kernel) rfl rfl rfl) ?_
              refine XE.asc ?_
              refine XE.cWk (κ1 := 1) (κ2 := kp73 + 0) (by omega) (pc' := 78) (st := [(0, s71.1)]) (fun r hr => cq_L_resend r hr) (fun r hr => run_S (st := [(0, s71.1)]) (by decide +kernel) co_L_heals_174 (cq_L_resend r hr) rfl rfl (Nat.le_of_ble_eq_true rfl)) rfl rfl (fun r80 => ?_)
              refine XE.go (st_iadd (pc' := 79) (by decide +kernel) rfl) ?_
              refine XE.asc ?_
              refine XE.gen (fun v81 e82 => ?_)
              refine XE.go (st_istore_n (j := 1) (i := 1) (pc' := 80) (by decide +kernel) rfl rfl (by decide) rfl rfl) ?_
              refine XE.go (st_iinc (j := 3) (n := 1) (pc' := 83) (by decide +kernel) rfl rfl (by decide) rfl rfl) ?_
              refine XE.go (st_goto (off := (-17)) (pc' := 66) (by decide +kernel) (by decide)) ?_
              exact XE.mono (by omega) (XE.pick [2, 1, 3, 0] rfl (hc74 (v81, (w (s71.2.1 + 1)), r80.2)))
            · refine XE.go (st_icmp_ge_t (off := 18) (pc' := 86) (by decide +kernel) (by decide) (Int.not_lt.mp h79)) ?_
              exact XE.mono (by omega) (XE.pick [0, 1, 2] rfl (he75 (s71.1, s71.2.2)))
          · refine XE.go (st_iinc (j := 2) (n := 1) (pc' := 89) (by decide +kernel) rfl rfl (by decide) rfl rfl) ?_
            refine XE.go (st_goto (off := (-38)) (pc' := 51) (by decide +kernel) (by decide)) ?_
            exact XE.mono (by omega) (XE.pick [1, 2, 0] rfl (hc62 (t72.1, (w (s6.2.1 + 1)), t72.2)))
        · refine XE.go (st_icmp_ge_t (off := 39) (pc' := 92) (by decide +kernel) (by decide) (Int.not_lt.mp h67)) ?_
          exact XE.mono (by omega) (XE.pick [0, 1] rfl (he63 (s6.1, s6.2.2)))
      · refine XE.go (st_iconst (n := 0) (pc' := 93) (by decide +kernel) (w_eq (by decide) (by decide)) rfl) ?_
        refine XE.go (st_istore_n (j := 2) (i := 2) (pc' := 94) (by decide +kernel) rfl rfl (by decide) rfl rfl) ?_
        refine XE.pick [1, 2, 0] (L' := [(0, (14, a0)), (1, (0, t7.1)), (2, (0, 0))]) rfl ?_
        refine XE.loopJk (b := 1) (e := 18) (by omega) (n := 4) (s0 := (t7.1, 0, t7.2)) (pcL := 94) (pcE := 113) (LL := fun (s8 : Int × Int × Mm) => [(0, (14, a0)), (1, (0, s8.1)), (2, (0, s8.2.1))]) (sL := fun _ => []) (ML := fun (s8 : Int × Int × Mm) => s8.2.2) (LE := fun (t9 : Int × Mm) => [(0, (14, a0)), (1, (0, t9.1))]) (sE := fun _ => []) (ME := fun (t9 : Int × Mm) => t9.2) (fun kp51 hkp51 kk55 hc52 he53 s8 => ?_) (fun t9 => ?_)
        · unfold b_L_heals_94
          refine XE.go (st_iload_n (j := 2) (i := 2) (pc' := 95) (by decide +kernel) rfl rfl rfl) ?_
          refine XE.go (st_iconst (n := 3) (pc' := 96) (by decide +kernel) (w_eq (by decide) (by decide)) rfl) ?_
          refine XE.bite (fun h56 => ?_) (fun h57 => ?_)
          · refine XE.go (st_icmp_ge_f (off := 17) (pc' := 99) (by decide +kernel) 113 (by decide) rfl (Int.not_le.mpr h56)) ?_
            refine XE.go (st_iload_n (j := 1) (i := 1) (pc' := 100) (by decide +kernel) rfl rfl rfl) ?_
            refine XE.go (st_aload_n (j := 0) (i := 0) (pc' := 101) (by decide +kernel) rfl rfl (by decide) rfl) ?_
            refine XE.go (st_iload_n (j := 2) (i := 2) (pc' := 102) (by decide +kernel) rfl rfl rfl) ?_
            refine XE.asc ?_
            refine XE.cWk (κ1 := 1) (κ2 := kp51 + 0) (by omega) (pc' := 105) (st := [(0, s8.1)]) (fun r hr => cq_L_fetch r hr) (fun r hr => run_S (st := [(0, s8.1)]) (by decide +kernel) co_L_heals_180 (cq_L_fetch r hr) rfl rfl (Nat.le_of_ble_eq_true rfl)) rfl rfl (fun r58 => ?_)
            refine XE.go (st_iadd (pc' := 106) (by decide +kernel) rfl) ?_
            refine XE.asc ?_
            refine XE.gen (fun v59 e60 => ?_)
            refine XE.go (st_istore_n (j := 1) (i := 1) (pc' := 107) (by decide +kernel) rfl rfl (by decide) rfl rfl) ?_
            refine XE.go (st_iinc (j := 2) (n := 1) (pc' := 110) (by decide +kernel) rfl rfl (by decide) rfl rfl) ?_
            refine XE.go (st_goto (off := (-16)) (pc' := 94) (by decide +kernel) (by decide)) ?_
            exact XE.mono (by omega) (XE.pick [2, 1, 0] rfl (hc52 (v59, (w (s8.2.1 + 1)), r58.2)))
          · refine XE.go (st_icmp_ge_t (off := 17) (pc' := 113) (by decide +kernel) (by decide) (Int.not_lt.mp h57)) ?_
            exact XE.mono (by omega) (XE.pick [0, 1] rfl (he53 (s8.1, s8.2.2)))
        · refine XE.go (st_iload_n (j := 1) (i := 1) (pc' := 114) (by decide +kernel) rfl rfl rfl) ?_
          refine XE.go (st_ldc (n := (-100000)) (index := 208) (pc' := 116) (by decide +kernel) (bg_6 122 rfl rfl) (w_eq (by decide) (by decide)) rfl) ?_
          refine XE.joink (κ1 := 18) (pcJ := 124) (LJ := fun (s10 : Int) => [(0, (14, a0))]) (sJ := fun (s10 : Int) => [(0, s10)]) (MJ := fun (s10 : Int) => t9.2) (fun kk48 hk46 => ?_) (fun s10 => ?_)
          · refine XE.bite (fun h49 => ?_) (fun h50 => ?_)
            · refine XE.go (st_icmp_le_f (off := 7) (pc' := 119) (by decide +kernel) 123 (by decide) rfl (Int.not_le.mpr h49)) ?_
              refine XE.go (st_iconst (n := 1) (pc' := 120) (by decide +kernel) (w_eq (by decide) (by decide)) rfl) ?_
              refine XE.go (st_goto (off := 4) (pc' := 124) (by decide +kernel) (by decide)) ?_
              exact XE.mono (by omega) (XE.pick [0] rfl (hk46 1))
            · refine XE.go (st_icmp_le_t (off := 7) (pc' := 123) (by decide +kernel) (by decide) (Int.not_lt.mp h50)) ?_
              refine XE.go (st_iconst (n := 0) (pc' := 124) (by decide +kernel) (w_eq (by decide) (by decide)) rfl) ?_
              exact XE.mono (by omega) (XE.pick [0] rfl (hk46 0))
          · refine XE.go (st_istore_n (j := 2) (i := 2) (pc' := 125) (by decide +kernel) rfl rfl (by decide) rfl rfl) ?_
            refine XE.go (st_iconst (n := 0) (pc' := 126) (by decide +kernel) (w_eq (by decide) (by decide)) rfl) ?_
            refine XE.go (st_istore_n (j := 3) (i := 3) (pc' := 127) (by decide +kernel) rfl rfl (by decide) rfl rfl) ?_
            refine XE.pick [2, 1, 0] (L' := [(0, (14, a0)), (2, (0, s10)), (3, (0, 0))]) rfl ?_
            refine XE.loopJk (b := 4) (e := 2) (by omega) (n := 4) (s0 := (s10, 0, t9.2)) (pcL := 127) (pcE := 182) (LL := fun (s11 : Int × Int × Mm) => [(0, (14, a0)), (2, (0, s11.1)), (3, (0, s11.2.1))]) (sL := fun _ => []) (ML := fun (s11 : Int × Int × Mm) => s11.2.2) (LE := fun (t12 : Int × Mm) => [(0, (14, a0)), (2, (0, t12.1))]) (sE := fun _ => []) (ME := fun (t12 : Int × Mm) => t12.2) (fun kp21 hkp21 kk25 hc22 he23 s11 => ?_) (fun t12 => ?_)
            · unfold b_L_heals_127
              refine XE.go (st_iload_n (j := 3) (i := 3) (pc' := 128) (by decide +kernel) rfl rfl rfl) ?_
              refine XE.go (st_iconst (n := 3) (pc' := 129) (by decide +kernel) (w_eq (by decide) (by decide)) rfl) ?_
              refine XE.bite (fun h26 => ?_) (fun h27 => ?_)
              · refine XE.go (st_icmp_ge_f (off := 53) (pc' := 132) (by decide +kernel) 182 (by decide) rfl (Int.not_le.mpr h26)) ?_
                refine XE.go (st_iload_n (j := 2) (i := 2) (pc' := 133) (by decide +kernel) rfl rfl rfl) ?_
                refine XE.go (st_aload_n (j := 0) (i := 0) (pc' := 134) (by decide +kernel) rfl rfl (by decide) rfl) ?_
                refine XE.go (st_iload_n (j := 3) (i := 3) (pc' := 135) (by decide +kernel) rfl rfl rfl) ?_
                refine XE.go (st_iconst (n := 1) (pc' := 136) (by decide +kernel) (w_eq (by decide) (by decide)) rfl) ?_
                refine XE.asc ?_
                refine XE.cWk (κ1 := 1) (κ2 := kp21 + 3) (by omega) (pc' := 139) (st := [(0, s11.1)]) (fun r hr => cq_L_partition r hr) (fun r hr => run_S (st := [(0, s11.1)]) (by decide +kernel) co_L_heals_209 (cq_L_partition r hr) rfl rfl (Nat.le_of_ble_eq_true rfl)) rfl rfl (fun r28 => ?_)
                refine XE.bite (fun h29 => ?_) (fun h30 => ?_)
                · refine XE.go (st_if_lt_t (off := 34) (pc' := 173) (by decide +kernel) (by decide) h29) ?_
                  refine XE.go (st_iconst (n := 0) (pc' := 174) (by decide +kernel) (w_eq (by decide) (by decide)) rfl) ?_
                  refine XE.go (st_iand (pc' := 175) (by decide +kernel) rfl) ?_
                  refine XE.asc ?_
                  refine XE.gen (fun v31 e32 => ?_)
                  refine XE.go (st_istore_n (j := 2) (i := 2) (pc' := 176) (by decide +kernel) rfl rfl (by decide) rfl rfl) ?_
                  refine XE.go (st_iinc (j := 3) (n := 1) (pc' := 179) (by decide +kernel) rfl rfl (by decide) rfl rfl) ?_
                  refine XE.go (st_goto (off := (-52)) (pc' := 127) (by decide +kernel) (by decide)) ?_
                  exact XE.mono (by omega) (XE.pick [2, 1, 0] rfl (hc22 (v31, (w (s11.2.1 + 1)), r28.2)))
                · refine XE.go (st_if_lt_f (off := 34) (pc' := 142) (by decide +kernel) 173 (by decide) rfl h30) ?_
                  refine XE.go (st_aload_n (j := 0) (i := 0) (pc' := 143) (by decide +kernel) rfl rfl (by decide) rfl) ?_
                  refine XE.go (st_iload_n (j := 3) (i := 3) (pc' := 144) (by decide +kernel) rfl rfl rfl) ?_
                  refine XE.go (st_iconst (n := 2) (pc' := 145) (by decide +kernel) (w_eq (by decide) (by decide)) rfl) ?_
                  refine XE.asc ?_
                  refine XE.cWk (κ1 := 1) (κ2 := kp21 + 2) (by omega) (pc' := 148) (st := [(0, s11.1)]) (fun r hr => cq_L_partition r hr) (fun r hr => run_S (st := [(0, s11.1)]) (by decide +kernel) co_L_heals_209 (cq_L_partition r hr) rfl rfl (Nat.le_of_ble_eq_true rfl)) rfl rfl (fun r33 => ?_)
                  refine XE.go (st_bipush (n := 7) (pc' := 150) (by decide +kernel) (by decide) (w_eq (by decide) (by decide)) rfl) ?_
                  refine XE.bite (fun h34 => ?_) (fun h35 => ?_)
                  · refine XE.go (st_icmp_ne_f (off := 23) (pc' := 153) (by decide +kernel) 173 (by decide) rfl (not_not_intro h34)) ?_
                    refine XE.go (st_aload_n (j := 0) (i := 0) (pc' := 154) (by decide +kernel) rfl rfl (by decide) rfl) ?_
                    refine XE.go (st_iload_n (j := 3) (i := 3) (pc' := 155) (by decide +kernel) rfl rfl rfl) ?_
                    refine XE.go (st_iconst (n := 4) (pc' := 156) (by decide +kernel) (w_eq (by decide) (by decide)) rfl) ?_
                    refine XE.asc ?_
                    refine XE.cWk (κ1 := 1) (κ2 := kp21 + 1) (by omega) (pc' := 159) (st := [(0, s11.1)]) (fun r hr => cq_L_partition r hr) (fun r hr => run_S (st := [(0, s11.1)]) (by decide +kernel) co_L_heals_209 (cq_L_partition r hr) rfl rfl (Nat.le_of_ble_eq_true rfl)) rfl rfl (fun r36 => ?_)
                    refine XE.go (st_aload_n (j := 0) (i := 0) (pc' := 160) (by decide +kernel) rfl rfl (by decide) rfl) ?_
                    refine XE.go (st_iload_n (j := 3) (i := 3) (pc' := 161) (by decide +kernel) rfl rfl rfl) ?_
                    refine XE.go (st_bipush (n := 6) (pc' := 163) (by decide +kernel) (by decide) (w_eq (by decide) (by decide)) rfl) ?_
                    refine XE.asc ?_
                    refine XE.cWk (κ1 := 1) (κ2 := kp21 + 0) (by omega) (pc' := 166) (st := [(0, r36.1), (0, s11.1)]) (fun r hr => cq_L_partition r hr) (fun r hr => run_S (st := [(0, r36.1), (0, s11.1)]) (by decide +kernel) co_L_heals_209 (cq_L_partition r hr) rfl rfl (Nat.le_of_ble_eq_true rfl)) rfl rfl (fun r37 => ?_)
                    refine XE.bite (fun h38 => ?_) (fun h39 => ?_)
                    · refine XE.go (st_icmp_ne_f (off := 7) (pc' := 169) (by decide +kernel) 173 (by decide) rfl (not_not_intro h38)) ?_
                      refine XE.go (st_iconst (n := 1) (pc' := 170) (by decide +kernel) (w_eq (by decide) (by decide)) rfl) ?_
                      refine XE.go (st_goto (off := 4) (pc' := 174) (by decide +kernel) (by decide)) ?_
                      refine XE.go (st_iand (pc' := 175) (by decide +kernel) rfl) ?_
                      refine XE.asc ?_
                      refine XE.gen (fun v40 e41 => ?_)
                      refine XE.go (st_istore_n (j := 2) (i := 2) (pc' := 176) (by decide +kernel) rfl rfl (by decide) rfl rfl) ?_
                      refine XE.go (st_iinc (j := 3) (n := 1) (pc' := 179) (by decide +kernel) rfl rfl (by decide) rfl rfl) ?_
                      refine XE.go (st_goto (off := (-52)) (pc' := 127) (by decide +kernel) (by decide)) ?_
                      exact XE.mono (by omega) (XE.pick [2, 1, 0] rfl (hc22 (v40, (w (s11.2.1 + 1)), r37.2)))
                    · refine XE.go (st_icmp_ne_t (off := 7) (pc' := 173) (by decide +kernel) (by decide) h39) ?_
                      refine XE.go (st_iconst (n := 0) (pc' := 174) (by decide +kernel) (w_eq (by decide) (by decide)) rfl) ?_
                      refine XE.go (st_iand (pc' := 175) (by decide +kernel) rfl) ?_
                      refine XE.asc ?_
                      refine XE.gen (fun v42 e43 => ?_)
                      refine XE.go (st_istore_n (j := 2) (i := 2) (pc' := 176) (by decide +kernel) rfl rfl (by decide) rfl rfl) ?_
                      refine XE.go (st_iinc (j := 3) (n := 1) (pc' := 179) (by decide +kernel) rfl rfl (by decide) rfl rfl) ?_
                      refine XE.go (st_goto (off := (-52)) (pc' := 127) (by decide +kernel) (by decide)) ?_
                      exact XE.mono (by omega) (XE.pick [2, 1, 0] rfl (hc22 (v42, (w (s11.2.1 + 1)), r37.2)))
                  · refine XE.go (st_icmp_ne_t (off := 23) (pc' := 173) (by decide +kernel) (by decide) h35) ?_
                    refine XE.go (st_iconst (n := 0) (pc' := 174) (by decide +kernel) (w_eq (by decide) (by decide)) rfl) ?_
                    refine XE.go (st_iand (pc' := 175) (by decide +kernel) rfl) ?_
                    refine XE.asc ?_
                    refine XE.gen (fun v44 e45 => ?_)
                    refine XE.go (st_istore_n (j := 2) (i := 2) (pc' := 176) (by decide +kernel) rfl rfl (by decide) rfl rfl) ?_
                    refine XE.go (st_iinc (j := 3) (n := 1) (pc' := 179) (by decide +kernel) rfl rfl (by decide) rfl rfl) ?_
                    refine XE.go (st_goto (off := (-52)) (pc' := 127) (by decide +kernel) (by decide)) ?_
                    exact XE.mono (by omega) (XE.pick [2, 1, 0] rfl (hc22 (v44, (w (s11.2.1 + 1)), r33.2)))
              · refine XE.go (st_icmp_ge_t (off := 53) (pc' := 182) (by decide +kernel) (by decide) (Int.not_lt.mp h27)) ?_
                exact XE.mono (by omega) (XE.pick [0, 1] rfl (he23 (s11.1, s11.2.2)))
            · refine XE.go (st_iload_n (j := 2) (i := 2) (pc' := 183) (by decide +kernel) rfl rfl rfl) ?_
              refine XE.ite (fun h13 => ?_) (fun h14 => ?_)
              · refine XE.go (st_if_eq_t (off := 24) (pc' := 207) (by decide +kernel) (by decide) h13) ?_
                refine XE.go (st_iconst (n := 0) (pc' := 208) (by decide +kernel) (w_eq (by decide) (by decide)) rfl) ?_
                exact XE.rt rfl (X_zret (by decide +kernel) rfl (by decide))
              · refine XE.go (st_if_eq_f (off := 24) (pc' := 186) (by decide +kernel) 207 (by decide) rfl h14) ?_
                refine XE.go (st_aload_n (j := 0) (i := 0) (pc' := 187) (by decide +kernel) rfl rfl (by decide) rfl) ?_
                refine XE.go (st_iconst (n := 0) (pc' := 188) (by decide +kernel) (w_eq (by decide) (by decide)) rfl) ?_
                refine XE.go (st_iconst (n := 1) (pc' := 189) (by decide +kernel) (w_eq (by decide) (by decide)) rfl) ?_
                refine XE.cWk (κ1 := 1) (κ2 := 1) (by omega) (pc' := 192) (st := []) (fun r hr => cq_L_ofGroup r hr) (fun r hr => run_S (st := []) (by decide +kernel) co_L_heals_129 (cq_L_ofGroup r hr) rfl rfl (Nat.le_of_ble_eq_true rfl)) rfl rfl (fun r15 => ?_)
                refine XE.ite (fun h16 => ?_) (fun h17 => ?_)
                · refine XE.go (st_if_ne_f (off := 11) (pc' := 195) (by decide +kernel) 203 (by decide) rfl (not_not_intro h16)) ?_
                  refine XE.go (st_aload_n (j := 0) (i := 0) (pc' := 196) (by decide +kernel) rfl rfl (by decide) rfl) ?_
                  refine XE.go (st_iconst (n := 0) (pc' := 197) (by decide +kernel) (w_eq (by decide) (by decide)) rfl) ?_
                  refine XE.cWk (κ1 := 1) (κ2 := 0) (by omega) (pc' := 200) (st := []) (fun r hr => cq_L_join r hr) (fun r hr => run_S (st := []) (by decide +kernel) co_L_heals_186 (cq_L_join r hr) rfl rfl (Nat.le_of_ble_eq_true rfl)) rfl rfl (fun r18 => ?_)
                  refine XE.ite (fun h19 => ?_) (fun h20 => ?_)
                  · refine XE.go (st_if_lt_t (off := 7) (pc' := 207) (by decide +kernel) (by decide) h19) ?_
                    refine XE.go (st_iconst (n := 0) (pc' := 208) (by decide +kernel) (w_eq (by decide) (by decide)) rfl) ?_
                    exact XE.rt rfl (X_zret (by decide +kernel) rfl (by decide))
                  · refine XE.go (st_if_lt_f (off := 7) (pc' := 203) (by decide +kernel) 207 (by decide) rfl h20) ?_
                    refine XE.go (st_iconst (n := 1) (pc' := 204) (by decide +kernel) (w_eq (by decide) (by decide)) rfl) ?_
                    refine XE.go (st_goto (off := 4) (pc' := 208) (by decide +kernel) (by decide)) ?_
                    exact XE.rt rfl (X_zret (by decide +kernel) rfl (by decide))
                · refine XE.go (st_if_ne_t (off := 11) (pc' := 203) (by decide +kernel) (by decide) h17) ?_
                  refine XE.go (st_iconst (n := 1) (pc' := 204) (by decide +kernel) (w_eq (by decide) (by decide)) rfl) ?_
                  refine XE.go (st_goto (off := 4) (pc' := 208) (by decide +kernel) (by decide)) ?_
                  exact XE.rt rfl (X_zret (by decide +kernel) rfl (by decide))
theorem ct_L_heals {D : Dt} {M : Mm} {a0 : Int} (r : (Int × Mm)) (hr : p_L_heals M a0 = some r) : CT D 46 mu_L_heals [(14, a0)] M (.inl (some (0, r.1))) r.2 := CT.of (by decide +kernel) rfl (Nat.le_of_ble_eq_true rfl) (xe_L_heals r hr)
def b_L_empties_2 (a0 : Int) (a1 : Int) (s1 : Int × Mm) : Option ((Int × Mm) ⊕ ((Mm) ⊕ (Mm))) := if s1.1 < 9 then (q_L_member s1.2 a0 0 a1 3).bind fun r23 => if 0 < r23.1 then (q_L_hand r23.2 a0 0 a1 0 0).bind fun r26 => (q_L_done r26.2 a0 0 a1 r26.1).bind fun r27 => if r27.1 < 0 then some (.inr (.inl (r27.2))) else some (.inl ((w (s1.1 + 1)), r27.2)) else some (.inr (.inr r23.2)) else some (.inr (.inr s1.2))
def p_L_empties (M : Mm) (a0 a1 : Int) : Option Mm := (lp (b_L_empties_2 a0 a1) 10 (0, M)).bind (Sum.elim some fun (t2 : Mm) => some (t2))
set_option maxRecDepth 100000 in
set_option maxHeartbeats 4000000 in
theorem xe_L_empties {D : Dt} {M : Mm} {a0 a1 : Int} : XE D 30 mu_L_empties EV 0 [(0, (14, a0)), (1, (0, a1))] [] M (p_L_empties M a0 a1) := by
  unfold p_L_empties
  refine XE.go (st_iconst (n := 0) (pc' := 1) (by decide +kernel) (w_eq (by decide) (by decide)) rfl) ?_
  refine XE.go (st_istore_n (j := 2) (i := 2) (pc' := 2) (by decide +kernel) rfl rfl (by decide) rfl rfl) ?_
  refine XE.pick [1, 2, 0] (L' := [(0, (14, a0)), (1, (0, a1)), (2, (0, 0))]) rfl ?_
  refine XE.loopXk (b := 3) (e := 0) (by omega) (n := 10) (s0 := (0, M)) (pcL := 2) (pcE := 42) (LL := fun (s1 : Int × Mm) => [(0, (14, a0)), (1, (0, a1)), (2, (0, s1.1))]) (sL := fun _ => []) (ML := fun (s1 : Int × Mm) => s1.2) (LE := fun (t2 : Mm) => []) (sE := fun _ => []) (ME := fun (t2 : Mm) => t2) (fun kp3 hkp3 kk20 hx19 hc17 he18 s1 => ?_) (fun t2 => ?_)
  · unfold b_L_empties_2
    refine XE.go (st_iload_n (j := 2) (i := 2) (pc' := 3) (by decide +kernel) rfl rfl rfl) ?_
    refine XE.go (st_bipush (n := 9) (pc' := 5) (by decide +kernel) (by decide) (w_eq (by decide) (by decide)) rfl) ?_
    refine XE.bite (fun h21 => ?_) (fun h22 => ?_)
    · refine XE.go (st_icmp_ge_f (off := 37) (pc' := 8) (by decide +kernel) 42 (by decide) rfl (Int.not_le.mpr h21)) ?_
      refine XE.go (st_aload_n (j := 0) (i := 0) (pc' := 9) (by decide +kernel) rfl rfl (by decide) rfl) ?_
      refine XE.go (st_iconst (n := 0) (pc' := 10) (by decide +kernel) (w_eq (by decide) (by decide)) rfl) ?_
      refine XE.go (st_iload_n (j := 1) (i := 1) (pc' := 11) (by decide +kernel) rfl rfl rfl) ?_
      refine XE.go (st_iconst (n := 3) (pc' := 12) (by decide +kernel) (w_eq (by decide) (by decide)) rfl) ?_
      refine XE.asc ?_
      refine XE.cWk (κ1 := 1) (κ2 := kp3 + 2) (by omega) (pc' := 15) (st := []) (fun r hr => cq_L_member r hr) (fun r hr => run_S (st := []) (by decide +kernel) co_L_empties_204 (cq_L_member r hr) rfl rfl (Nat.le_of_ble_eq_true rfl)) rfl rfl (fun r23 => ?_)
      refine XE.bite (fun h24 => ?_) (fun h25 => ?_)
      · refine XE.go (st_if_le_f (off := 27) (pc' := 18) (by decide +kernel) 42 (by decide) rfl (Int.not_le.mpr h24)) ?_
        refine XE.go (st_aload_n (j := 0) (i := 0) (pc' := 19) (by decide +kernel) rfl rfl (by decide) rfl) ?_
        refine XE.go (st_iconst (n := 0) (pc' := 20) (by decide +kernel) (w_eq (by decide) (by decide)) rfl) ?_
        refine XE.go (st_iload_n (j := 1) (i := 1) (pc' := 21) (by decide +kernel) rfl rfl rfl) ?_
        refine XE.go (st_aload_n (j := 0) (i := 0) (pc' := 22) (by decide +kernel) rfl rfl (by decide) rfl) ?_
        refine XE.go (st_iconst (n := 0) (pc' := 23) (by decide +kernel) (w_eq (by decide) (by decide)) rfl) ?_
        refine XE.go (st_iload_n (j := 1) (i := 1) (pc' := 24) (by decide +kernel) rfl rfl rfl) ?_
        refine XE.go (st_iconst (n := 0) (pc' := 25) (by decide +kernel) (w_eq (by decide) (by decide)) rfl) ?_
        refine XE.go (st_iconst (n := 0) (pc' := 26) (by decide +kernel) (w_eq (by decide) (by decide)) rfl) ?_
        refine XE.asc ?_
        refine XE.cWk (κ1 := 1) (κ2 := kp3 + 1) (by omega) (pc' := 29) (st := [(0, a1), (0, 0), (14, a0)]) (fun r hr => cq_L_hand r hr) (fun r hr => run_S (st := [(0, a1), (0, 0), (14, a0)]) (by decide +kernel) co_L_empties_223 (cq_L_hand r hr) rfl rfl (Nat.le_of_ble_eq_true rfl)) rfl rfl (fun r26 => ?_)
        refine XE.asc ?_
        refine XE.cWk (κ1 := 1) (κ2 := kp3 + 0) (by omega) (pc' := 32) (st := []) (fun r hr => cq_L_done r hr) (fun r hr => run_S (st := []) (by decide +kernel) co_L_empties_194 (cq_L_done r hr) rfl rfl (Nat.le_of_ble_eq_true rfl)) rfl rfl (fun r27 => ?_)
        refine XE.bite (fun h28 => ?_) (fun h29 => ?_)
        · refine XE.go (st_if_ge_f (off := 4) (pc' := 35) (by decide +kernel) 36 (by decide) rfl (Int.not_le.mpr h28)) ?_
          refine XE.cast (hx19 _) ?_
          exact XE.rt rfl (X_vret (by decide +kernel) rfl)
        · refine XE.go (st_if_ge_t (off := 4) (pc' := 36) (by decide +kernel) (by decide) (Int.not_lt.mp h29)) ?_
          refine XE.go (st_iinc (j := 2) (n := 1) (pc' := 39) (by decide +kernel) rfl rfl (by decide) rfl rfl) ?_
          refine XE.go (st_goto (off := (-37)) (pc' := 2) (by decide +kernel) (by decide)) ?_
          exact XE.mono (by omega) (XE.pick [1, 2, 0] rfl (hc17 ((w (s1.1 + 1)), r27.2)))
      · refine XE.go (st_if_le_t (off := 27) (pc' := 42) (by decide +kernel) (by decide) (Int.not_lt.mp h25)) ?_
        exact XE.mono (by omega) (XE.pick [] rfl (he18 r23.2))
    · refine XE.go (st_icmp_ge_t (off := 37) (pc' := 42) (by decide +kernel) (by decide) (Int.not_lt.mp h22)) ?_
      exact XE.mono (by omega) (XE.pick [] rfl (he18 s1.2))
  · exact XE.rt rfl (X_vret (by decide +kernel) rfl)
theorem ct_L_empties {D : Dt} {M : Mm} {a0 a1 : Int} (r : Mm) (hr : p_L_empties M a0 a1 = some r) : CT D 30 mu_L_empties [(14, a0), (0, a1)] M (.inl none) r := CT.of (by decide +kernel) rfl (Nat.le_of_ble_eq_true rfl) (xe_L_empties r hr)
def b_L_readsAll_38 (a0 : Int) (s14 : Int × Int × Mm) (a1 : Int) (a2 : Int) (s32 : Int × Int × Mm) : Option ((Int × Int × Mm) ⊕ (Int × Mm)) := if s32.2.1 < 24 then if s32.1 = 0 then some (.inr (s32.1, s32.2.2)) else (q_L_member s32.2.2 a0 0 s14.2.1 0).bind fun r43 => if r43.1 < 0 then some (.inr (s32.1, r43.2)) else (p_L_reads r43.2 a0 s14.2.1 a1 a2).bind fun r46 => (p_L_empties r46.2 a0 s14.2.1).bind fun M47 => some (.inl (r46.1, (w (s32.2.1 + 1)), M47)) else some (.inr (s32.1, s32.2.2))
def b_L_readsAll_24 (a0 : Int) (a1 : Int) (a2 : Int) (s14 : Int × Int × Mm) : Option ((Int × Int × Mm) ⊕ (Int × Mm)) := if s14.2.1 < 12 then if s14.1 = 0 then some (.inr (s14.1, s14.2.2)) else (lp (b_L_readsAll_38 a0 s14 a1 a2) 25 (s14.1, 0, s14.2.2)).bind fun (t33 : Int × Mm) => some (.inl (t33.1, (w (s14.2.1 + 1)), t33.2)) else some (.inr (s14.1, s14.2.2))
def b_L_readsAll_5 (a0 : Int) (a1 : Int) (a2 : Int) (s1 : Int × Int × Mm) : Option ((Int × Int × Mm) ⊕ (Int × Mm)) := if s1.2.1 < 16 then if s1.1 = 0 then some (.inr (s1.1, s1.2.2)) else (p_L_beats s1.2.2 a0).bind fun r13 => (lp (b_L_readsAll_24 a0 a1 a2) 13 (r13.1, 0, r13.2)).bind fun (t15 : Int × Mm) => (q_L_tick t15.2 a0 1).bind fun r16 => if 0 < r16.1 then (some ((ian t15.1 1))).bind fun v19 => some (.inl (v19, (w (s1.2.1 + 1)), r16.2)) else (some ((ian t15.1 0))).bind fun v21 => some (.inl (v21, (w (s1.2.1 + 1)), r16.2)) else some (.inr (s1.1, s1.2.2))
def p_L_readsAll (M : Mm) (a0 a1 a2 : Int) : Option (Int × Mm) := (lp (b_L_readsAll_5 a0 a1 a2) 17 (1, 0, M)).bind fun (t2 : Int × Mm) => gd (t2.1 = 0 ∨ t2.1 = 1) (some (t2.1, t2.2))
set_option maxRecDepth 100000 in
set_option maxHeartbeats 4000000 in
theorem xe_L_readsAll {D : Dt} {M : Mm} {a0 a1 a2 : Int} : XE D 211072 mu_L_readsAll (EW 0) 0 [(0, (14, a0)), (1, (18, a1)), (2, (16, a2))] [] M (p_L_readsAll M a0 a1 a2) := by
  unfold p_L_readsAll
  refine XE.go (st_iconst (n := 1) (pc' := 1) (by decide +kernel) (w_eq (by decide) (by decide)) rfl) ?_
  refine XE.go (st_istore_n (j := 3) (i := 3) (pc' := 2) (by decide +kernel) rfl rfl (by decide) rfl rfl) ?_
  refine XE.go (st_iconst (n := 0) (pc' := 3) (by decide +kernel) (w_eq (by decide) (by decide)) rfl) ?_
  refine XE.go (st_istore (j := 4) (pc' := 5) (by decide +kernel)  rfl (by decide) rfl rfl) ?_
  refine XE.pick [2, 3, 4, 1, 0] (L' := [(0, (14, a0)), (1, (18, a1)), (2, (16, a2)), (3, (0, 1)), (4, (0, 0))]) rfl ?_
  refine XE.loopJk (b := 12416) (e := 0) (by omega) (n := 17) (s0 := (1, 0, M)) (pcL := 5) (pcE := 109) (LL := fun (s1 : Int × Int × Mm) => [(0, (14, a0)), (1, (18, a1)), (2, (16, a2)), (3, (0, s1.1)), (4, (0, s1.2.1))]) (sL := fun _ => []) (ML := fun (s1 : Int × Int × Mm) => s1.2.2) (LE := fun (t2 : Int × Mm) => [(3, (0, t2.1))]) (sE := fun _ => []) (ME := fun (t2 : Int × Mm) => t2.2) (fun kp4 hkp4 kk8 hc5 he6 s1 => ?_) (fun t2 => ?_)
  · unfold b_L_readsAll_5
    refine XE.go (st_iload (j := 4) (pc' := 7) (by decide +kernel) rfl rfl) ?_
    refine XE.go (st_bipush (n := 16) (pc' := 9) (by decide +kernel) (by decide) (w_eq (by decide) (by decide)) rfl) ?_
    refine XE.bite (fun h9 => ?_) (fun h10 => ?_)
    · refine XE.go (st_icmp_ge_f (off := 100) (pc' := 12) (by decide +kernel) 109 (by decide) rfl (Int.not_le.mpr h9)) ?_
      refine XE.go (st_iload_n (j := 3) (i := 3) (pc' := 13) (by decide +kernel) rfl rfl rfl) ?_
      refine XE.bite (fun h11 => ?_) (fun h12 => ?_)
      · refine XE.go (st_if_eq_t (off := 96) (pc' := 109) (by decide +kernel) (by decide) h11) ?_
        exact XE.mono (by omega) (XE.pick [3] rfl (he6 (s1.1, s1.2.2)))
      · refine XE.go (st_if_eq_f (off := 96) (pc' := 16) (by decide +kernel) 109 (by decide) rfl h12) ?_
        refine XE.go (st_aload_n (j := 0) (i := 0) (pc' := 17) (by decide +kernel) rfl rfl (by decide) rfl) ?_
        refine XE.asc ?_
        refine XE.cWk (κ1 := 65) (κ2 := kp4 + 12351) (by omega) (pc' := 20) (st := []) (fun r hr => ct_L_beats r hr) (fun r hr => run_S (st := []) (by decide +kernel) co_L_readsAll_211 (ct_L_beats r hr) rfl rfl (Nat.le_of_ble_eq_true rfl)) rfl rfl (fun r13 => ?_)
        refine XE.go (st_istore_n (j := 3) (i := 3) (pc' := 21) (by decide +kernel) rfl rfl (by decide) rfl rfl) ?_
        refine XE.go (st_iconst (n := 0) (pc' := 22) (by decide +kernel) (w_eq (by decide) (by decide)) rfl) ?_
        refine XE.go (st_istore (j := 5) (pc' := 24) (by decide +kernel)  rfl (by decide) rfl rfl) ?_
        refine XE.pick [2, 3, 4, 1, 5, 0] (L' := [(0, (14, a0)), (1, (18, a1)), (2, (16, a2)), (3, (0, r13.1)), (4, (0, s1.2.1)), (5, (0, 0))]) rfl ?_
        refine XE.asc ?_
        refine XE.loopJk (b := 950) (e := kp4 + 1) (by omega) (n := 13) (s0 := (r13.1, 0, r13.2)) (pcL := 24) (pcE := 87) (LL := fun (s14 : Int × Int × Mm) => [(0, (14, a0)), (1, (18, a1)), (2, (16, a2)), (3, (0, s14.1)), (4, (0, s1.2.1)), (5, (0, s14.2.1))]) (sL := fun _ => []) (ML := fun (s14 : Int × Int × Mm) => s14.2.2) (LE := fun (t15 : Int × Mm) => [(0, (14, a0)), (1, (18, a1)), (2, (16, a2)), (3, (0, t15.1)), (4, (0, s1.2.1))]) (sE := fun _ => []) (ME := fun (t15 : Int × Mm) => t15.2) (fun kp23 hkp23 kk27 hc24 he25 s14 => ?_) (fun t15 => ?_)
        · unfold b_L_readsAll_24
          refine XE.go (st_iload (j := 5) (pc' := 26) (by decide +kernel) rfl rfl) ?_
          refine XE.go (st_bipush (n := 12) (pc' := 28) (by decide +kernel) (by decide) (w_eq (by decide) (by decide)) rfl) ?_
          refine XE.bite (fun h28 => ?_) (fun h29 => ?_)
          · refine XE.go (st_icmp_ge_f (off := 59) (pc' := 31) (by decide +kernel) 87 (by decide) rfl (Int.not_le.mpr h28)) ?_
            refine XE.go (st_iload_n (j := 3) (i := 3) (pc' := 32) (by decide +kernel) rfl rfl rfl) ?_
            refine XE.bite (fun h30 => ?_) (fun h31 => ?_)
            · refine XE.go (st_if_eq_t (off := 55) (pc' := 87) (by decide +kernel) (by decide) h30) ?_
              exact XE.mono (by omega) (XE.pick [0, 1, 2, 3, 4] rfl (he25 (s14.1, s14.2.2)))
            · refine XE.go (st_if_eq_f (off := 55) (pc' := 35) (by decide +kernel) 87 (by decide) rfl h31) ?_
              refine XE.go (st_iconst (n := 0) (pc' := 36) (by decide +kernel) (w_eq (by decide) (by decide)) rfl) ?_
              refine XE.go (st_istore (j := 6) (pc' := 38) (by decide +kernel)  rfl (by decide) rfl rfl) ?_
              refine XE.pick [1, 2, 3, 4, 5, 6, 0] (L' := [(0, (14, a0)), (1, (18, a1)), (2, (16, a2)), (3, (0, s14.1)), (4, (0, s1.2.1)), (5, (0, s14.2.1)), (6, (0, 0))]) rfl ?_
              refine XE.asc ?_
              refine XE.loopJk (b := 38) (e := kp23 + 0) (by omega) (n := 25) (s0 := (s14.1, 0, s14.2.2)) (pcL := 38) (pcE := 81) (LL := fun (s32 : Int × Int × Mm) => [(0, (14, a0)), (1, (18, a1)), (2, (16, a2)), (3, (0, s32.1)), (4, (0, s1.2.1)), (5, (0, s14.2.1)), (6, (0, s32.2.1))]) (sL := fun _ => []) (ML := fun (s32 : Int × Int × Mm) => s32.2.2) (LE := fun (t33 : Int × Mm) => [(0, (14, a0)), (1, (18, a1)), (2, (16, a2)), (3, (0, t33.1)), (4, (0, s1.2.1)), (5, (0, s14.2.1))]) (sE := fun _ => []) (ME := fun (t33 : Int × Mm) => t33.2) (fun kp34 hkp34 kk38 hc35 he36 s32 => ?_) (fun t33 => ?_)
              · unfold b_L_readsAll_38
                refine XE.go (st_iload (j := 6) (pc' := 40) (by decide +kernel) rfl rfl) ?_
                refine XE.go (st_bipush (n := 24) (pc' := 42) (by decide +kernel) (by decide) (w_eq (by decide) (by decide)) rfl) ?_
                refine XE.bite (fun h39 => ?_) (fun h40 => ?_)
                · refine XE.go (st_icmp_ge_f (off := 39) (pc' := 45) (by decide +kernel) 81 (by decide) rfl (Int.not_le.mpr h39)) ?_
                  refine XE.go (st_iload_n (j := 3) (i := 3) (pc' := 46) (by decide +kernel) rfl rfl rfl) ?_
                  refine XE.bite (fun h41 => ?_) (fun h42 => ?_)
                  · refine XE.go (st_if_eq_t (off := 35) (pc' := 81) (by decide +kernel) (by decide) h41) ?_
                    exact XE.mono (by omega) (XE.pick [0, 1, 2, 3, 4, 5] rfl (he36 (s32.1, s32.2.2)))
                  · refine XE.go (st_if_eq_f (off := 35) (pc' := 49) (by decide +kernel) 81 (by decide) rfl h42) ?_
                    refine XE.go (st_aload_n (j := 0) (i := 0) (pc' := 50) (by decide +kernel) rfl rfl (by decide) rfl) ?_
                    refine XE.go (st_iconst (n := 0) (pc' := 51) (by decide +kernel) (w_eq (by decide) (by decide)) rfl) ?_
                    refine XE.go (st_iload (j := 5) (pc' := 53) (by decide +kernel) rfl rfl) ?_
                    refine XE.go (st_iconst (n := 0) (pc' := 54) (by decide +kernel) (w_eq (by decide) (by decide)) rfl) ?_
                    refine XE.asc ?_
                    refine XE.cWk (κ1 := 1) (κ2 := kp34 + 37) (by omega) (pc' := 57) (st := []) (fun r hr => cq_L_member r hr) (fun r hr => run_S (st := []) (by decide +kernel) co_L_readsAll_204 (cq_L_member r hr) rfl rfl (Nat.le_of_ble_eq_true rfl)) rfl rfl (fun r43 => ?_)
                    refine XE.bite (fun h44 => ?_) (fun h45 => ?_)
                    · refine XE.go (st_if_lt_t (off := 24) (pc' := 81) (by decide +kernel) (by decide) h44) ?_
                      exact XE.mono (by omega) (XE.pick [0, 1, 2, 3, 4, 5] rfl (he36 (s32.1, r43.2)))
                    · refine XE.go (st_if_lt_f (off := 24) (pc' := 60) (by decide +kernel) 81 (by decide) rfl h45) ?_
                      refine XE.go (st_aload_n (j := 0) (i := 0) (pc' := 61) (by decide +kernel) rfl rfl (by decide) rfl) ?_
                      refine XE.go (st_iload (j := 5) (pc' := 63) (by decide +kernel) rfl rfl) ?_
                      refine XE.go (st_aload_n (j := 1) (i := 1) (pc' := 64) (by decide +kernel) rfl rfl (by decide) rfl) ?_
                      refine XE.go (st_aload_n (j := 2) (i := 2) (pc' := 65) (by decide +kernel) rfl rfl (by decide) rfl) ?_
                      refine XE.asc ?_
                      refine XE.cWk (κ1 := 7) (κ2 := kp34 + 30) (by omega) (pc' := 68) (st := []) (fun r hr => ct_L_reads r hr) (fun r hr => run_S (st := []) (by decide +kernel) co_L_readsAll_215 (ct_L_reads r hr) rfl rfl (Nat.le_of_ble_eq_true rfl)) rfl rfl (fun r46 => ?_)
                      refine XE.go (st_istore_n (j := 3) (i := 3) (pc' := 69) (by decide +kernel) rfl rfl (by decide) rfl rfl) ?_
                      refine XE.go (st_aload_n (j := 0) (i := 0) (pc' := 70) (by decide +kernel) rfl rfl (by decide) rfl) ?_
                      refine XE.go (st_iload (j := 5) (pc' := 72) (by decide +kernel) rfl rfl) ?_
                      refine XE.asc ?_
                      refine XE.cVk (κ1 := 30) (κ2 := kp34 + 0) (by omega) (pc' := 75) (st := []) (fun r hr => ct_L_empties r hr) (fun r hr => run_S (st := []) (by decide +kernel) co_L_readsAll_219 (ct_L_empties r hr) rfl rfl (Nat.le_of_ble_eq_true rfl)) rfl rfl (fun M47 => ?_)
                      refine XE.go (st_iinc (j := 6) (n := 1) (pc' := 78) (by decide +kernel) rfl rfl (by decide) rfl rfl) ?_
                      refine XE.go (st_goto (off := (-40)) (pc' := 38) (by decide +kernel) (by decide)) ?_
                      exact XE.mono (by omega) (XE.pick [2, 3, 4, 1, 5, 6, 0] rfl (hc35 (r46.1, (w (s32.2.1 + 1)), M47)))
                · refine XE.go (st_icmp_ge_t (off := 39) (pc' := 81) (by decide +kernel) (by decide) (Int.not_lt.mp h40)) ?_
                  exact XE.mono (by omega) (XE.pick [0, 1, 2, 3, 4, 5] rfl (he36 (s32.1, s32.2.2)))
              · refine XE.go (st_iinc (j := 5) (n := 1) (pc' := 84) (by decide +kernel) rfl rfl (by decide) rfl rfl) ?_
                refine XE.go (st_goto (off := (-60)) (pc' := 24) (by decide +kernel) (by decide)) ?_
                exact XE.mono (by omega) (XE.pick [1, 2, 3, 4, 5, 0] rfl (hc24 (t33.1, (w (s14.2.1 + 1)), t33.2)))
          · refine XE.go (st_icmp_ge_t (off := 59) (pc' := 87) (by decide +kernel) (by decide) (Int.not_lt.mp h29)) ?_
            exact XE.mono (by omega) (XE.pick [0, 1, 2, 3, 4] rfl (he25 (s14.1, s14.2.2)))
        · refine XE.go (st_iload_n (j := 3) (i := 3) (pc' := 88) (by decide +kernel) rfl rfl rfl) ?_
          refine XE.go (st_aload_n (j := 0) (i := 0) (pc' := 89) (by decide +kernel) rfl rfl (by decide) rfl) ?_
          refine XE.go (st_iconst (n := 1) (pc' := 90) (by decide +kernel) (w_eq (by decide) (by decide)) rfl) ?_
          refine XE.asc ?_
          refine XE.cWk (κ1 := 1) (κ2 := kp4 + 0) (by omega) (pc' := 93) (st := [(0, t15.1)]) (fun r hr => cq_L_tick r hr) (fun r hr => run_S (st := [(0, t15.1)]) (by decide +kernel) co_L_readsAll_184 (cq_L_tick r hr) rfl rfl (Nat.le_of_ble_eq_true rfl)) rfl rfl (fun r16 => ?_)
          refine XE.bite (fun h17 => ?_) (fun h18 => ?_)
          · refine XE.go (st_if_le_f (off := 7) (pc' := 96) (by decide +kernel) 100 (by decide) rfl (Int.not_le.mpr h17)) ?_
            refine XE.go (st_iconst (n := 1) (pc' := 97) (by decide +kernel) (w_eq (by decide) (by decide)) rfl) ?_
            refine XE.go (st_goto (off := 4) (pc' := 101) (by decide +kernel) (by decide)) ?_
            refine XE.go (st_iand (pc' := 102) (by decide +kernel) rfl) ?_
            refine XE.asc ?_
            refine XE.gen (fun v19 e20 => ?_)
            refine XE.go (st_istore_n (j := 3) (i := 3) (pc' := 103) (by decide +kernel) rfl rfl (by decide) rfl rfl) ?_
            refine XE.go (st_iinc (j := 4) (n := 1) (pc' := 106) (by decide +kernel) rfl rfl (by decide) rfl rfl) ?_
            refine XE.go (st_goto (off := (-101)) (pc' := 5) (by decide +kernel) (by decide)) ?_
            exact XE.mono (by omega) (XE.pick [2, 3, 4, 1, 0] rfl (hc5 (v19, (w (s1.2.1 + 1)), r16.2)))
          · refine XE.go (st_if_le_t (off := 7) (pc' := 100) (by decide +kernel) (by decide) (Int.not_lt.mp h18)) ?_
            refine XE.go (st_iconst (n := 0) (pc' := 101) (by decide +kernel) (w_eq (by decide) (by decide)) rfl) ?_
            refine XE.go (st_iand (pc' := 102) (by decide +kernel) rfl) ?_
            refine XE.asc ?_
            refine XE.gen (fun v21 e22 => ?_)
            refine XE.go (st_istore_n (j := 3) (i := 3) (pc' := 103) (by decide +kernel) rfl rfl (by decide) rfl rfl) ?_
            refine XE.go (st_iinc (j := 4) (n := 1) (pc' := 106) (by decide +kernel) rfl rfl (by decide) rfl rfl) ?_
            refine XE.go (st_goto (off := (-101)) (pc' := 5) (by decide +kernel) (by decide)) ?_
            exact XE.mono (by omega) (XE.pick [2, 3, 4, 1, 0] rfl (hc5 (v21, (w (s1.2.1 + 1)), r16.2)))
    · refine XE.go (st_icmp_ge_t (off := 100) (pc' := 109) (by decide +kernel) (by decide) (Int.not_lt.mp h10)) ?_
      exact XE.mono (by omega) (XE.pick [3] rfl (he6 (s1.1, s1.2.2)))
  · refine XE.go (st_iload_n (j := 3) (i := 3) (pc' := 110) (by decide +kernel) rfl rfl rfl) ?_
    refine XE.gd_ (fun g3 => ?_)
    exact XE.rt rfl (X_zret (by decide +kernel) rfl g3)
theorem ct_L_readsAll {D : Dt} {M : Mm} {a0 a1 a2 : Int} (r : (Int × Mm)) (hr : p_L_readsAll M a0 a1 a2 = some r) : CT D 211072 mu_L_readsAll [(14, a0), (18, a1), (16, a2)] M (.inl (some (0, r.1))) r.2 := CT.of (by decide +kernel) rfl (Nat.le_of_ble_eq_true rfl) (xe_L_readsAll r hr)
def b_L_law_305 (r23 : Int × Mm) (s24 : Int × Int × Mm) : Option ((Int × Int × Mm) ⊕ (Int × Mm)) := if s24.2.1 < r23.1 then (q_L_message s24.2.2 11000 s24.2.1 8).bind fun r34 => if r34.1 = 1 then (q_L_seen r34.2 11000 0 s24.2.1).bind fun r37 => if 0 < r37.1 then (some ((ian s24.1 1))).bind fun v40 => some (.inl (v40, (w (s24.2.1 + 1)), r37.2)) else (some ((ian s24.1 0))).bind fun v42 => some (.inl (v42, (w (s24.2.1 + 1)), r37.2)) else (some ((ian s24.1 1))).bind fun v44 => some (.inl (v44, (w (s24.2.1 + 1)), r34.2)) else some (.inr (s24.1, s24.2.2))
def b_L_law_78 (sl : Int) (sc : Int → Int) (s10 : Int × Int × Mm) : Option ((Int × Int × Mm) ⊕ (Int × Mm)) := if s10.2.1 < 40 then if s10.1 = 0 then some (.inr (s10.1, s10.2.2)) else (some ((w (6 * s10.2.1)))).bind fun v55 => (p_L_cell s10.2.2 sl sc v55 7).bind fun r57 => (if r57 = 0 then (p_L_writes s10.2.2 sl sc 11000 (w (v55 + 1))).bind fun r67 => if r67.1 < (-99) then some ((0, r67.2)) else some ((1, r67.2)) else if r57 = 1 then (p_L_writes s10.2.2 sl sc 11000 (w (v55 + 1))).bind fun r72 => if r72.1 < (-99) then some ((0, r72.2)) else some ((1, r72.2)) else if r57 = 2 then (p_L_breaks s10.2.2 sl sc 11000 (w (v55 + 1))).bind fun r77 => if r77.1 < (-99) then some ((0, r77.2)) else some ((1, r77.2)) else if r57 = 3 then (p_L_shares s10.2.2 sl sc 11000 (w (v55 + 1))).bind fun r82 => if r82.1 < (-99) then some ((0, r82.2)) else some ((1, r82.2)) else if r57 = 4 then (p_L_cell s10.2.2 sl sc (w (v55 + 1)) 3).bind fun r87 => (p_L_thins s10.2.2 11000 r87 13490).bind fun r88 => some ((r88.1, r88.2)) else (p_L_some s10.2.2 sl sc 11000 (w (v55 + 1))).bind fun r89 => (p_L_reads r89.2 11000 r89.1 15001 13490).bind fun r90 => some ((r90.1, r90.2)) : Option (Int × Mm)).bind fun (s58 : Int × Mm) => (p_L_stays s58.2 11000 15001).bind fun r59 => (some ((ian s58.1 r59.1))).bind fun v60 => some (.inl (v60, (w (s10.2.1 + 1)), r59.2)) else some (.inr (s10.1, s10.2.2))
def p_L_law (M : Mm) (sl : Int) (sc : Int → Int) : Option (Int × Mm) := (alo M 11 11000 16).bind fun M1 => (p_X10_init M1 11000).bind fun M3 => (ala M3 13 13490 20).bind fun M4 => (ala M4 15 15001 3).bind fun M6 => (q_L_topic M6 11000 3 3 1).bind fun r8 => (if r8.1 = 0 then (q_L_producer r8.2 11000).bind fun r96 => if r96.1 = 0 then (q_L_producer r96.2 11000).bind fun r99 => if r99.1 = 1 then (q_L_group r99.2 11000 1).bind fun r102 => if r102.1 = 0 then (q_L_join r102.2 11000 0).bind fun r105 => if r105.1 = 0 then (q_L_beat r105.2 11000 0 0).bind fun r108 => if r108.1 = 3 then some ((1, r108.2)) else some ((0, r108.2)) else some ((0, r105.2)) else some ((0, r102.2)) else some ((0, r99.2)) else some ((0, r96.2)) else some ((0, r8.2)) : Option (Int × Mm)).bind fun (s9 : Int × Mm) => (lp (b_L_law_78 sl sc) 41 (s9.1, 0, s9.2)).bind fun (t11 : Int × Mm) => if t11.1 = 0 then some (0, t11.2) else (p_L_heals t11.2 11000).bind fun r14 => if r14.1 = 0 then some (0, r14.2) else (p_L_readsAll r14.2 11000 15001 13490).bind fun r17 => if r17.1 = 0 then some (0, r17.2) else (p_L_stays r17.2 11000 15001).bind fun r20 => if r20.1 = 0 then some (0, r20.2) else (q_L_count r20.2 11000 4).bind fun r23 => (lp (b_L_law_305 r23) 151 (t11.1, 0, r23.2)).bind fun (t25 : Int × Mm) => gd (t25.1 = 0 ∨ t25.1 = 1) (some (t25.1, t25.2))
set_option maxRecDepth 100000 in
set_option maxHeartbeats 4000000 in
theorem xe_L_law {D : Dt} {M : Mm} : XE D 237412 mu_L_law (EW 0) 0 [(0, (100, (-1)))] [] M (p_L_law M (D.2.2.2.2.2.1 : Int) (fun i => (D.2.2.2.2.2.2 i.toNat).toInt)) := by
  unfold p_L_law
  refine XE.alo_ (fun q1 q2 q3 => st_new (pc' := 3) (by decide +kernel) rfl cls_10 nw_RL_9 rfl rfl q1 q2 q3) (by decide) (fun M1 h2 => ?_)
  refine XE.go (st_dup (pc' := 4) (by decide +kernel) rfl rfl) ?_
  refine XE.cV (pc' := 7) (st := [(14, 11000)]) (fun r hr => ct_X10_init h2 r hr) (fun r hr => run_I (st := [(14, 11000)]) (by decide +kernel) co_L_law_225 (ct_X10_init h2 r hr) (by decide) h2 rfl rfl (Nat.le_of_ble_eq_true rfl)) rfl rfl (fun M3 => ?_)
  refine XE.go (st_astore_n (j := 1) (i := 1) (pc' := 8) (by decide +kernel) rfl (by decide) rfl (by decide) rfl rfl) ?_
  refine XE.go (st_bipush (n := 20) (pc' := 10) (by decide +kernel) (by decide) (w_eq (by decide) (by decide)) rfl) ?_
  refine XE.ala_ (fun q1 q2 q3 q4 => st_newa (atype := .int) (pc' := 12) (by decide +kernel) rfl ak_13 rfl (bg_2 97 rfl rfl) (by simp) rfl q1 q2 q3 q4 rfl) (by decide) (fun M4 h5 => ?_)
  refine XE.go (st_astore_n (j := 2) (i := 2) (pc' := 13) (by decide +kernel) rfl (by decide) rfl (by decide) rfl rfl) ?_
  refine XE.go (st_iconst (n := 3) (pc' := 14) (by decide +kernel) (w_eq (by decide) (by decide)) rfl) ?_
  refine XE.ala_ (fun q1 q2 q3 q4 => st_newa (atype := .long) (pc' := 16) (by decide +kernel) rfl ak_15 rfl (bg_6 190 rfl rfl) (by simp) rfl q1 q2 q3 q4 rfl) (by decide) (fun M6 h7 => ?_)
  refine XE.go (st_astore_n (j := 3) (i := 3) (pc' := 17) (by decide +kernel) rfl (by decide) rfl (by decide) rfl rfl) ?_
  refine XE.go (st_aload_n (j := 1) (i := 1) (pc' := 18) (by decide +kernel) rfl rfl (by decide) rfl) ?_
  refine XE.go (st_iconst (n := 3) (pc' := 19) (by decide +kernel) (w_eq (by decide) (by decide)) rfl) ?_
  refine XE.go (st_iconst (n := 3) (pc' := 20) (by decide +kernel) (w_eq (by decide) (by decide)) rfl) ?_
  refine XE.go (st_iconst (n := 1) (pc' := 21) (by decide +kernel) (w_eq (by decide) (by decide)) rfl) ?_
  refine XE.cWk (κ1 := 1) (κ2 := 237411) (by omega) (pc' := 24) (st := []) (fun r hr => cq_L_topic r hr) (fun r hr => run_S (st := []) (by decide +kernel) co_L_law_226 (cq_L_topic r hr) rfl rfl (Nat.le_of_ble_eq_true rfl)) rfl rfl (fun r8 => ?_)
  refine XE.joink (κ1 := 237406) (pcJ := 73) (LJ := fun (s9 : Int × Mm) => [(0, (100, (-1))), (1, (14, 11000)), (2, (16, 13490)), (3, (18, 15001))]) (sJ := fun (s9 : Int × Mm) => [(0, s9.1)]) (MJ := fun (s9 : Int × Mm) => s9.2) (fun kk93 hk91 => ?_) (fun s9 => ?_)
  · refine XE.bite (fun h94 => ?_) (fun h95 => ?_)
    · refine XE.go (st_if_ne_f (off := 48) (pc' := 27) (by decide +kernel) 72 (by decide) rfl (not_not_intro h94)) ?_
      refine XE.go (st_aload_n (j := 1) (i := 1) (pc' := 28) (by decide +kernel) rfl rfl (by decide) rfl) ?_
      refine XE.asc ?_
      refine XE.cWk (κ1 := 1) (κ2 := 237410) (by omega) (pc' := 31) (st := []) (fun r hr => cq_L_producer r hr) (fun r hr => run_S (st := []) (by decide +kernel) co_L_law_229 (cq_L_producer r hr) rfl rfl (Nat.le_of_ble_eq_true rfl)) rfl rfl (fun r96 => ?_)
      refine XE.bite (fun h97 => ?_) (fun h98 => ?_)
      · refine XE.go (st_if_ne_f (off := 41) (pc' := 34) (by decide +kernel) 72 (by decide) rfl (not_not_intro h97)) ?_
        refine XE.go (st_aload_n (j := 1) (i := 1) (pc' := 35) (by decide +kernel) rfl rfl (by decide) rfl) ?_
        refine XE.asc ?_
        refine XE.cWk (κ1 := 1) (κ2 := 237409) (by omega) (pc' := 38) (st := []) (fun r hr => cq_L_producer r hr) (fun r hr => run_S (st := []) (by decide +kernel) co_L_law_229 (cq_L_producer r hr) rfl rfl (Nat.le_of_ble_eq_true rfl)) rfl rfl (fun r99 => ?_)
        refine XE.go (st_iconst (n := 1) (pc' := 39) (by decide +kernel) (w_eq (by decide) (by decide)) rfl) ?_
        refine XE.bite (fun h100 => ?_) (fun h101 => ?_)
        · refine XE.go (st_icmp_ne_f (off := 33) (pc' := 42) (by decide +kernel) 72 (by decide) rfl (not_not_intro h100)) ?_
          refine XE.go (st_aload_n (j := 1) (i := 1) (pc' := 43) (by decide +kernel) rfl rfl (by decide) rfl) ?_
          refine XE.go (st_iconst (n := 1) (pc' := 44) (by decide +kernel) (w_eq (by decide) (by decide)) rfl) ?_
          refine XE.asc ?_
          refine XE.cWk (κ1 := 1) (κ2 := 237408) (by omega) (pc' := 47) (st := []) (fun r hr => cq_L_group r hr) (fun r hr => run_S (st := []) (by decide +kernel) co_L_law_232 (cq_L_group r hr) rfl rfl (Nat.le_of_ble_eq_true rfl)) rfl rfl (fun r102 => ?_)
          refine XE.bite (fun h103 => ?_) (fun h104 => ?_)
          · refine XE.go (st_if_ne_f (off := 25) (pc' := 50) (by decide +kernel) 72 (by decide) rfl (not_not_intro h103)) ?_
            refine XE.go (st_aload_n (j := 1) (i := 1) (pc' := 51) (by decide +kernel) rfl rfl (by decide) rfl) ?_
            refine XE.go (st_iconst (n := 0) (pc' := 52) (by decide +kernel) (w_eq (by decide) (by decide)) rfl) ?_
            refine XE.asc ?_
            refine XE.cWk (κ1 := 1) (κ2 := 237407) (by omega) (pc' := 55) (st := []) (fun r hr => cq_L_join r hr) (fun r hr => run_S (st := []) (by decide +kernel) co_L_law_186 (cq_L_join r hr) rfl rfl (Nat.le_of_ble_eq_true rfl)) rfl rfl (fun r105 => ?_)
            refine XE.bite (fun h106 => ?_) (fun h107 => ?_)
            · refine XE.go (st_if_ne_f (off := 17) (pc' := 58) (by decide +kernel) 72 (by decide) rfl (not_not_intro h106)) ?_
              refine XE.go (st_aload_n (j := 1) (i := 1) (pc' := 59) (by decide +kernel) rfl rfl (by decide) rfl) ?_
              refine XE.go (st_iconst (n := 0) (pc' := 60) (by decide +kernel) (w_eq (by decide) (by decide)) rfl) ?_
              refine XE.go (st_iconst (n := 0) (pc' := 61) (by decide +kernel) (w_eq (by decide) (by decide)) rfl) ?_
              refine XE.asc ?_
              refine XE.cWk (κ1 := 1) (κ2 := 237406) (by omega) (pc' := 64) (st := []) (fun r hr => cq_L_beat r hr) (fun r hr => run_S (st := []) (by decide +kernel) co_L_law_196 (cq_L_beat r hr) rfl rfl (Nat.le_of_ble_eq_true rfl)) rfl rfl (fun r108 => ?_)
              refine XE.go (st_iconst (n := 3) (pc' := 65) (by decide +kernel) (w_eq (by decide) (by decide)) rfl) ?_
              refine XE.bite (fun h109 => ?_) (fun h110 => ?_)
              · refine XE.go (st_icmp_ne_f (off := 7) (pc' := 68) (by decide +kernel) 72 (by decide) rfl (not_not_intro h109)) ?_
                refine XE.go (st_iconst (n := 1) (pc' := 69) (by decide +kernel) (w_eq (by decide) (by decide)) rfl) ?_
                refine XE.go (st_goto (off := 4) (pc' := 73) (by decide +kernel) (by decide)) ?_
                exact XE.mono (by omega) (XE.pick [3, 2, 1, 0] rfl (hk91 (1, r108.2)))
              · refine XE.go (st_icmp_ne_t (off := 7) (pc' := 72) (by decide +kernel) (by decide) h110) ?_
                refine XE.go (st_iconst (n := 0) (pc' := 73) (by decide +kernel) (w_eq (by decide) (by decide)) rfl) ?_
                exact XE.mono (by omega) (XE.pick [3, 2, 1, 0] rfl (hk91 (0, r108.2)))
            · refine XE.go (st_if_ne_t (off := 17) (pc' := 72) (by decide +kernel) (by decide) h107) ?_
              refine XE.go (st_iconst (n := 0) (pc' := 73) (by decide +kernel) (w_eq (by decide) (by decide)) rfl) ?_
              exact XE.mono (by omega) (XE.pick [3, 2, 1, 0] rfl (hk91 (0, r105.2)))
          · refine XE.go (st_if_ne_t (off := 25) (pc' := 72) (by decide +kernel) (by decide) h104) ?_
            refine XE.go (st_iconst (n := 0) (pc' := 73) (by decide +kernel) (w_eq (by decide) (by decide)) rfl) ?_
            exact XE.mono (by omega) (XE.pick [3, 2, 1, 0] rfl (hk91 (0, r102.2)))
        · refine XE.go (st_icmp_ne_t (off := 33) (pc' := 72) (by decide +kernel) (by decide) h101) ?_
          refine XE.go (st_iconst (n := 0) (pc' := 73) (by decide +kernel) (w_eq (by decide) (by decide)) rfl) ?_
          exact XE.mono (by omega) (XE.pick [3, 2, 1, 0] rfl (hk91 (0, r99.2)))
      · refine XE.go (st_if_ne_t (off := 41) (pc' := 72) (by decide +kernel) (by decide) h98) ?_
        refine XE.go (st_iconst (n := 0) (pc' := 73) (by decide +kernel) (w_eq (by decide) (by decide)) rfl) ?_
        exact XE.mono (by omega) (XE.pick [3, 2, 1, 0] rfl (hk91 (0, r96.2)))
    · refine XE.go (st_if_ne_t (off := 48) (pc' := 72) (by decide +kernel) (by decide) h95) ?_
      refine XE.go (st_iconst (n := 0) (pc' := 73) (by decide +kernel) (w_eq (by decide) (by decide)) rfl) ?_
      exact XE.mono (by omega) (XE.pick [3, 2, 1, 0] rfl (hk91 (0, r8.2)))
  · refine XE.go (st_istore (j := 4) (pc' := 75) (by decide +kernel)  rfl (by decide) rfl rfl) ?_
    refine XE.go (st_iconst (n := 0) (pc' := 76) (by decide +kernel) (w_eq (by decide) (by decide)) rfl) ?_
    refine XE.go (st_istore (j := 5) (pc' := 78) (by decide +kernel)  rfl (by decide) rfl rfl) ?_
    refine XE.pick [2, 3, 4, 5, 1, 0] (L' := [(0, (100, (-1))), (1, (14, 11000)), (2, (16, 13490)), (3, (18, 15001)), (4, (0, s9.1)), (5, (0, 0))]) rfl ?_
    refine XE.loopJk (b := 619) (e := 212027) (by omega) (n := 41) (s0 := (s9.1, 0, s9.2)) (pcL := 78) (pcE := 264) (LL := fun (s10 : Int × Int × Mm) => [(0, (100, (-1))), (1, (14, 11000)), (2, (16, 13490)), (3, (18, 15001)), (4, (0, s10.1)), (5, (0, s10.2.1))]) (sL := fun _ => []) (ML := fun (s10 : Int × Int × Mm) => s10.2.2) (LE := fun (t11 : Int × Mm) => [(1, (14, 11000)), (2, (16, 13490)), (3, (18, 15001)), (4, (0, t11.1))]) (sE := fun _ => []) (ME := fun (t11 : Int × Mm) => t11.2) (fun kp46 hkp46 kk50 hc47 he48 s10 => ?_) (fun t11 => ?_)
    · unfold b_L_law_78
      refine XE.go (st_iload (j := 5) (pc' := 80) (by decide +kernel) rfl rfl) ?_
      refine XE.go (st_bipush (n := 40) (pc' := 82) (by decide +kernel) (by decide) (w_eq (by decide) (by decide)) rfl) ?_
      refine XE.bite (fun h51 => ?_) (fun h52 => ?_)
      · refine XE.go (st_icmp_ge_f (off := 182) (pc' := 85) (by decide +kernel) 264 (by decide) rfl (Int.not_le.mpr h51)) ?_
        refine XE.go (st_iload (j := 4) (pc' := 87) (by decide +kernel) rfl rfl) ?_
        refine XE.bite (fun h53 => ?_) (fun h54 => ?_)
        · refine XE.go (st_if_eq_t (off := 177) (pc' := 264) (by decide +kernel) (by decide) h53) ?_
          exact XE.mono (by omega) (XE.pick [1, 2, 3, 4] rfl (he48 (s10.1, s10.2.2)))
        · refine XE.go (st_if_eq_f (off := 177) (pc' := 90) (by decide +kernel) 264 (by decide) rfl h54) ?_
          refine XE.go (st_bipush (n := 6) (pc' := 92) (by decide +kernel) (by decide) (w_eq (by decide) (by decide)) rfl) ?_
          refine XE.go (st_iload (j := 5) (pc' := 94) (by decide +kernel) rfl rfl) ?_
          refine XE.go (st_imul (pc' := 95) (by decide +kernel) rfl) ?_
          refine XE.asc ?_
          refine XE.gen (fun v55 e56 => ?_)
          refine XE.go (st_istore (j := 6) (pc' := 97) (by decide +kernel)  rfl (by decide) rfl rfl) ?_
          refine XE.go (st_aload_n (j := 0) (i := 0) (pc' := 98) (by decide +kernel) rfl rfl (by decide) rfl) ?_
          refine XE.go (st_iload (j := 6) (pc' := 100) (by decide +kernel) rfl rfl) ?_
          refine XE.go (st_bipush (n := 7) (pc' := 102) (by decide +kernel) (by decide) (w_eq (by decide) (by decide)) rfl) ?_
          refine XE.asc ?_
          refine XE.cP (pc' := 105) (st := []) (fun r hr => ct_L_cell r hr) (fun r hr => run_S (st := []) (by decide +kernel) co_L_law_134 (ct_L_cell r hr) rfl rfl (Nat.le_of_ble_eq_true rfl)) rfl rfl (fun r57 => ?_)
          refine XE.asc ?_
          refine XE.joink (κ1 := kp46 + 606) (pcJ := 248) (LJ := fun (s58 : Int × Mm) => [(0, (100, (-1))), (1, (14, 11000)), (2, (16, 13490)), (3, (18, 15001)), (4, (0, s58.1)), (5, (0, s10.2.1))]) (sJ := fun (s58 : Int × Mm) => []) (MJ := fun (s58 : Int × Mm) => s58.2) (fun kk64 hk62 => ?_) (fun s58 => ?_)
          · refine XE.bite (fun h65 => ?_) (fun h66 => ?_)
            · refine XE.go (st_tab_in (dflt := 126) (lo := 0) (hi := 4) (offs := #[35, 35, 59, 83, 107]) (len := 35) (off := 35) (pc' := 140) (by decide +kernel) 0 h65 (by decide) (by decide) (by decide) (by decide)) ?_
              refine XE.go (st_aload_n (j := 1) (i := 1) (pc' := 141) (by decide +kernel) rfl rfl (by decide) rfl) ?_
              refine XE.go (st_aload_n (j := 0) (i := 0) (pc' := 142) (by decide +kernel) rfl rfl (by decide) rfl) ?_
              refine XE.go (st_iload (j := 6) (pc' := 144) (by decide +kernel) rfl rfl) ?_
              refine XE.go (st_iconst (n := 1) (pc' := 145) (by decide +kernel) (w_eq (by decide) (by decide)) rfl) ?_
              refine XE.go (st_iadd (pc' := 146) (by decide +kernel) rfl) ?_
              refine XE.asc ?_
              refine XE.cWk (κ1 := 2) (κ2 := kp46 + 606) (by omega) (pc' := 149) (st := []) (fun r hr => ct_L_writes r hr) (fun r hr => run_S (st := []) (by decide +kernel) co_L_law_234 (ct_L_writes r hr) rfl rfl (Nat.le_of_ble_eq_true rfl)) rfl rfl (fun r67 => ?_)
              refine XE.go (st_bipush (n := (-99)) (pc' := 151) (by decide +kernel) (by decide) (w_eq (by decide) (by decide)) rfl) ?_
              refine XE.bite (fun h68 => ?_) (fun h69 => ?_)
              · refine XE.go (st_icmp_lt_t (off := 7) (pc' := 158) (by decide +kernel) (by decide) h68) ?_
                refine XE.go (st_iconst (n := 0) (pc' := 159) (by decide +kernel) (w_eq (by decide) (by decide)) rfl) ?_
                refine XE.go (st_istore (j := 4) (pc' := 161) (by decide +kernel)  rfl (by decide) rfl rfl) ?_
                refine XE.go (st_goto (off := 87) (pc' := 248) (by decide +kernel) (by decide)) ?_
                exact XE.mono (by omega) (XE.pick [2, 3, 4, 5, 0, 6] rfl (hk62 (0, r67.2)))
              · refine XE.go (st_icmp_lt_f (off := 7) (pc' := 154) (by decide +kernel) 158 (by decide) rfl h69) ?_
                refine XE.go (st_iconst (n := 1) (pc' := 155) (by decide +kernel) (w_eq (by decide) (by decide)) rfl) ?_
                refine XE.go (st_goto (off := 4) (pc' := 159) (by decide +kernel) (by decide)) ?_
                refine XE.go (st_istore (j := 4) (pc' := 161) (by decide +kernel)  rfl (by decide) rfl rfl) ?_
                refine XE.go (st_goto (off := 87) (pc' := 248) (by decide +kernel) (by decide)) ?_
                exact XE.mono (by omega) (XE.pick [2, 3, 4, 5, 0, 6] rfl (hk62 (1, r67.2)))
            refine XE.bite (fun h70 => ?_) (fun h71 => ?_)
            · refine XE.go (st_tab_in (dflt := 126) (lo := 0) (hi := 4) (offs := #[35, 35, 59, 83, 107]) (len := 35) (off := 35) (pc' := 140) (by decide +kernel) 1 h70 (by decide) (by decide) (by decide) (by decide)) ?_
              refine XE.go (st_aload_n (j := 1) (i := 1) (pc' := 141) (by decide +kernel) rfl rfl (by decide) rfl) ?_
              refine XE.go (st_aload_n (j := 0) (i := 0) (pc' := 142) (by decide +kernel) rfl rfl (by decide) rfl) ?_
              refine XE.go (st_iload (j := 6) (pc' := 144) (by decide +kernel) rfl rfl) ?_
              refine XE.go (st_iconst (n := 1) (pc' := 145) (by decide +kernel) (w_eq (by decide) (by decide)) rfl) ?_
              refine XE.go (st_iadd (pc' := 146) (by decide +kernel) rfl) ?_
              refine XE.asc ?_
              refine XE.cWk (κ1 := 2) (κ2 := kp46 + 606) (by omega) (pc' := 149) (st := []) (fun r hr => ct_L_writes r hr) (fun r hr => run_S (st := []) (by decide +kernel) co_L_law_234 (ct_L_writes r hr) rfl rfl (Nat.le_of_ble_eq_true rfl)) rfl rfl (fun r72 => ?_)
              refine XE.go (st_bipush (n := (-99)) (pc' := 151) (by decide +kernel) (by decide) (w_eq (by decide) (by decide)) rfl) ?_
              refine XE.bite (fun h73 => ?_) (fun h74 => ?_)
              · refine XE.go (st_icmp_lt_t (off := 7) (pc' := 158) (by decide +kernel) (by decide) h73) ?_
                refine XE.go (st_iconst (n := 0) (pc' := 159) (by decide +kernel) (w_eq (by decide) (by decide)) rfl) ?_
                refine XE.go (st_istore (j := 4) (pc' := 161) (by decide +kernel)  rfl (by decide) rfl rfl) ?_
                refine XE.go (st_goto (off := 87) (pc' := 248) (by decide +kernel) (by decide)) ?_
                exact XE.mono (by omega) (XE.pick [2, 3, 4, 5, 0, 6] rfl (hk62 (0, r72.2)))
              · refine XE.go (st_icmp_lt_f (off := 7) (pc' := 154) (by decide +kernel) 158 (by decide) rfl h74) ?_
                refine XE.go (st_iconst (n := 1) (pc' := 155) (by decide +kernel) (w_eq (by decide) (by decide)) rfl) ?_
                refine XE.go (st_goto (off := 4) (pc' := 159) (by decide +kernel) (by decide)) ?_
                refine XE.go (st_istore (j := 4) (pc' := 161) (by decide +kernel)  rfl (by decide) rfl rfl) ?_
                refine XE.go (st_goto (off := 87) (pc' := 248) (by decide +kernel) (by decide)) ?_
                exact XE.mono (by omega) (XE.pick [2, 3, 4, 5, 0, 6] rfl (hk62 (1, r72.2)))
            refine XE.bite (fun h75 => ?_) (fun h76 => ?_)
            · refine XE.go (st_tab_in (dflt := 126) (lo := 0) (hi := 4) (offs := #[35, 35, 59, 83, 107]) (len := 35) (off := 59) (pc' := 164) (by decide +kernel) 2 h75 (by decide) (by decide) (by decide) (by decide)) ?_
              refine XE.go (st_aload_n (j := 1) (i := 1) (pc' := 165) (by decide +kernel) rfl rfl (by decide) rfl) ?_
              refine XE.go (st_aload_n (j := 0) (i := 0) (pc' := 166) (by decide +kernel) rfl rfl (by decide) rfl) ?_
              refine XE.go (st_iload (j := 6) (pc' := 168) (by decide +kernel) rfl rfl) ?_
              refine XE.go (st_iconst (n := 1) (pc' := 169) (by decide +kernel) (w_eq (by decide) (by decide)) rfl) ?_
              refine XE.go (st_iadd (pc' := 170) (by decide +kernel) rfl) ?_
              refine XE.asc ?_
              refine XE.cWk (κ1 := 1) (κ2 := kp46 + 606) (by omega) (pc' := 173) (st := []) (fun r hr => ct_L_breaks r hr) (fun r hr => run_S (st := []) (by decide +kernel) co_L_law_237 (ct_L_breaks r hr) rfl rfl (Nat.le_of_ble_eq_true rfl)) rfl rfl (fun r77 => ?_)
              refine XE.go (st_bipush (n := (-99)) (pc' := 175) (by decide +kernel) (by decide) (w_eq (by decide) (by decide)) rfl) ?_
              refine XE.bite (fun h78 => ?_) (fun h79 => ?_)
              · refine XE.go (st_icmp_lt_t (off := 7) (pc' := 182) (by decide +kernel) (by decide) h78) ?_
                refine XE.go (st_iconst (n := 0) (pc' := 183) (by decide +kernel) (w_eq (by decide) (by decide)) rfl) ?_
                refine XE.go (st_istore (j := 4) (pc' := 185) (by decide +kernel)  rfl (by decide) rfl rfl) ?_
                refine XE.go (st_goto (off := 63) (pc' := 248) (by decide +kernel) (by decide)) ?_
                exact XE.mono (by omega) (XE.pick [2, 3, 4, 5, 0, 6] rfl (hk62 (0, r77.2)))
              · refine XE.go (st_icmp_lt_f (off := 7) (pc' := 178) (by decide +kernel) 182 (by decide) rfl h79) ?_
                refine XE.go (st_iconst (n := 1) (pc' := 179) (by decide +kernel) (w_eq (by decide) (by decide)) rfl) ?_
                refine XE.go (st_goto (off := 4) (pc' := 183) (by decide +kernel) (by decide)) ?_
                refine XE.go (st_istore (j := 4) (pc' := 185) (by decide +kernel)  rfl (by decide) rfl rfl) ?_
                refine XE.go (st_goto (off := 63) (pc' := 248) (by decide +kernel) (by decide)) ?_
                exact XE.mono (by omega) (XE.pick [2, 3, 4, 5, 0, 6] rfl (hk62 (1, r77.2)))
            refine XE.bite (fun h80 => ?_) (fun h81 => ?_)
            · refine XE.go (st_tab_in (dflt := 126) (lo := 0) (hi := 4) (offs := #[35, 35, 59, 83, 107]) (len := 35) (off := 83) (pc' := 188) (by decide +kernel) 3 h80 (by decide) (by decide) (by decide) (by decide)) ?_
              refine XE.go (st_aload_n (j := 1) (i := 1) (pc' := 189) (by decide +kernel) rfl rfl (by decide) rfl) ?_
              refine XE.go (st_aload_n (j := 0) (i := 0) (pc' := 190) (by decide +kernel) rfl rfl (by decide) rfl) ?_
              refine XE.go (st_iload (j := 6) (pc' := 192) (by decide +kernel) rfl rfl) ?_
              refine XE.go (st_iconst (n := 1) (pc' := 193) (by decide +kernel) (w_eq (by decide) (by decide)) rfl) ?_
              refine XE.go (st_iadd (pc' := 194) (by decide +kernel) rfl) ?_
              refine XE.asc ?_
              refine XE.cWk (κ1 := 3) (κ2 := kp46 + 606) (by omega) (pc' := 197) (st := []) (fun r hr => ct_L_shares r hr) (fun r hr => run_S (st := []) (by decide +kernel) co_L_law_240 (ct_L_shares r hr) rfl rfl (Nat.le_of_ble_eq_true rfl)) rfl rfl (fun r82 => ?_)
              refine XE.go (st_bipush (n := (-99)) (pc' := 199) (by decide +kernel) (by decide) (w_eq (by decide) (by decide)) rfl) ?_
              refine XE.bite (fun h83 => ?_) (fun h84 => ?_)
              · refine XE.go (st_icmp_lt_t (off := 7) (pc' := 206) (by decide +kernel) (by decide) h83) ?_
                refine XE.go (st_iconst (n := 0) (pc' := 207) (by decide +kernel) (w_eq (by decide) (by decide)) rfl) ?_
                refine XE.go (st_istore (j := 4) (pc' := 209) (by decide +kernel)  rfl (by decide) rfl rfl) ?_
                refine XE.go (st_goto (off := 39) (pc' := 248) (by decide +kernel) (by decide)) ?_
                exact XE.mono (by omega) (XE.pick [2, 3, 4, 5, 0, 6] rfl (hk62 (0, r82.2)))
              · refine XE.go (st_icmp_lt_f (off := 7) (pc' := 202) (by decide +kernel) 206 (by decide) rfl h84) ?_
                refine XE.go (st_iconst (n := 1) (pc' := 203) (by decide +kernel) (w_eq (by decide) (by decide)) rfl) ?_
                refine XE.go (st_goto (off := 4) (pc' := 207) (by decide +kernel) (by decide)) ?_
                refine XE.go (st_istore (j := 4) (pc' := 209) (by decide +kernel)  rfl (by decide) rfl rfl) ?_
                refine XE.go (st_goto (off := 39) (pc' := 248) (by decide +kernel) (by decide)) ?_
                exact XE.mono (by omega) (XE.pick [2, 3, 4, 5, 0, 6] rfl (hk62 (1, r82.2)))
            refine XE.bite (fun h85 => ?_) (fun h86 => ?_)
            · refine XE.go (st_tab_in (dflt := 126) (lo := 0) (hi := 4) (offs := #[35, 35, 59, 83, 107]) (len := 35) (off := 107) (pc' := 212) (by decide +kernel) 4 h85 (by decide) (by decide) (by decide) (by decide)) ?_
              refine XE.go (st_aload_n (j := 1) (i := 1) (pc' := 213) (by decide +kernel) rfl rfl (by decide) rfl) ?_
              refine XE.go (st_aload_n (j := 0) (i := 0) (pc' := 214) (by decide +kernel) rfl rfl (by decide) rfl) ?_
              refine XE.go (st_iload (j := 6) (pc' := 216) (by decide +kernel) rfl rfl) ?_
              refine XE.go (st_iconst (n := 1) (pc' := 217) (by decide +kernel) (w_eq (by decide) (by decide)) rfl) ?_
              refine XE.go (st_iadd (pc' := 218) (by decide +kernel) rfl) ?_
              refine XE.go (st_iconst (n := 3) (pc' := 219) (by decide +kernel) (w_eq (by decide) (by decide)) rfl) ?_
              refine XE.asc ?_
              refine XE.cP (pc' := 222) (st := [(14, 11000)]) (fun r hr => ct_L_cell r hr) (fun r hr => run_S (st := [(14, 11000)]) (by decide +kernel) co_L_law_134 (ct_L_cell r hr) rfl rfl (Nat.le_of_ble_eq_true rfl)) rfl rfl (fun r87 => ?_)
              refine XE.go (st_aload_n (j := 2) (i := 2) (pc' := 223) (by decide +kernel) rfl rfl (by decide) rfl) ?_
              refine XE.asc ?_
              refine XE.cWk (κ1 := 13) (κ2 := kp46 + 606) (by omega) (pc' := 226) (st := []) (fun r hr => ct_L_thins r hr) (fun r hr => run_S (st := []) (by decide +kernel) co_L_law_243 (ct_L_thins r hr) rfl rfl (Nat.le_of_ble_eq_true rfl)) rfl rfl (fun r88 => ?_)
              refine XE.go (st_istore (j := 4) (pc' := 228) (by decide +kernel)  rfl (by decide) rfl rfl) ?_
              refine XE.go (st_goto (off := 20) (pc' := 248) (by decide +kernel) (by decide)) ?_
              exact XE.mono (by omega) (XE.pick [2, 3, 4, 5, 0, 6] rfl (hk62 (r88.1, r88.2)))
            refine XE.go (st_tab_out (dflt := 126) (lo := 0) (hi := 4) (offs := #[35, 35, 59, 83, 107]) (len := 35) (pc' := 231) (by decide +kernel) (by omega) (by decide)) ?_
            refine XE.go (st_aload_n (j := 1) (i := 1) (pc' := 232) (by decide +kernel) rfl rfl (by decide) rfl) ?_
            refine XE.go (st_aload_n (j := 1) (i := 1) (pc' := 233) (by decide +kernel) rfl rfl (by decide) rfl) ?_
            refine XE.go (st_aload_n (j := 0) (i := 0) (pc' := 234) (by decide +kernel) rfl rfl (by decide) rfl) ?_
            refine XE.go (st_iload (j := 6) (pc' := 236) (by decide +kernel) rfl rfl) ?_
            refine XE.go (st_iconst (n := 1) (pc' := 237) (by decide +kernel) (w_eq (by decide) (by decide)) rfl) ?_
            refine XE.go (st_iadd (pc' := 238) (by decide +kernel) rfl) ?_
            refine XE.asc ?_
            refine XE.cWk (κ1 := 1) (κ2 := kp46 + 613) (by omega) (pc' := 241) (st := [(14, 11000)]) (fun r hr => ct_L_some r hr) (fun r hr => run_S (st := [(14, 11000)]) (by decide +kernel) co_L_law_167 (ct_L_some r hr) rfl rfl (Nat.le_of_ble_eq_true rfl)) rfl rfl (fun r89 => ?_)
            refine XE.go (st_aload_n (j := 3) (i := 3) (pc' := 242) (by decide +kernel) rfl rfl (by decide) rfl) ?_
            refine XE.go (st_aload_n (j := 2) (i := 2) (pc' := 243) (by decide +kernel) rfl rfl (by decide) rfl) ?_
            refine XE.asc ?_
            refine XE.cWk (κ1 := 7) (κ2 := kp46 + 606) (by omega) (pc' := 246) (st := []) (fun r hr => ct_L_reads r hr) (fun r hr => run_S (st := []) (by decide +kernel) co_L_law_215 (ct_L_reads r hr) rfl rfl (Nat.le_of_ble_eq_true rfl)) rfl rfl (fun r90 => ?_)
            refine XE.go (st_istore (j := 4) (pc' := 248) (by decide +kernel)  rfl (by decide) rfl rfl) ?_
            exact XE.mono (by omega) (XE.pick [2, 3, 4, 5, 0, 6] rfl (hk62 (r90.1, r90.2)))
          · refine XE.go (st_iload (j := 4) (pc' := 250) (by decide +kernel) rfl rfl) ?_
            refine XE.go (st_aload_n (j := 1) (i := 1) (pc' := 251) (by decide +kernel) rfl rfl (by decide) rfl) ?_
            refine XE.go (st_aload_n (j := 3) (i := 3) (pc' := 252) (by decide +kernel) rfl rfl (by decide) rfl) ?_
            refine XE.asc ?_
            refine XE.cWk (κ1 := 606) (κ2 := kp46 + 0) (by omega) (pc' := 255) (st := [(0, s58.1)]) (fun r hr => ct_L_stays r hr) (fun r hr => run_S (st := [(0, s58.1)]) (by decide +kernel) co_L_law_247 (ct_L_stays r hr) rfl rfl (Nat.le_of_ble_eq_true rfl)) rfl rfl (fun r59 => ?_)
            refine XE.go (st_iand (pc' := 256) (by decide +kernel) rfl) ?_
            refine XE.asc ?_
            refine XE.gen (fun v60 e61 => ?_)
            refine XE.go (st_istore (j := 4) (pc' := 258) (by decide +kernel)  rfl (by decide) rfl rfl) ?_
            refine XE.go (st_iinc (j := 5) (n := 1) (pc' := 261) (by decide +kernel) rfl rfl (by decide) rfl rfl) ?_
            refine XE.go (st_goto (off := (-183)) (pc' := 78) (by decide +kernel) (by decide)) ?_
            exact XE.mono (by omega) (XE.pick [2, 3, 4, 5, 1, 0] rfl (hc47 (v60, (w (s10.2.1 + 1)), r59.2)))
      · refine XE.go (st_icmp_ge_t (off := 182) (pc' := 264) (by decide +kernel) (by decide) (Int.not_lt.mp h52)) ?_
        exact XE.mono (by omega) (XE.pick [1, 2, 3, 4] rfl (he48 (s10.1, s10.2.2)))
    · refine XE.go (st_iload (j := 4) (pc' := 266) (by decide +kernel) rfl rfl) ?_
      refine XE.ite (fun h12 => ?_) (fun h13 => ?_)
      · refine XE.go (st_if_eq_t (off := 27) (pc' := 293) (by decide +kernel) (by decide) h12) ?_
        refine XE.go (st_iconst (n := 0) (pc' := 294) (by decide +kernel) (w_eq (by decide) (by decide)) rfl) ?_
        exact XE.rt rfl (X_zret (by decide +kernel) rfl (by decide))
      · refine XE.go (st_if_eq_f (off := 27) (pc' := 269) (by decide +kernel) 293 (by decide) rfl h13) ?_
        refine XE.go (st_aload_n (j := 1) (i := 1) (pc' := 270) (by decide +kernel) rfl rfl (by decide) rfl) ?_
        refine XE.cWk (κ1 := 46) (κ2 := 211981) (by omega) (pc' := 273) (st := []) (fun r hr => ct_L_heals r hr) (fun r hr => run_S (st := []) (by decide +kernel) co_L_law_251 (ct_L_heals r hr) rfl rfl (Nat.le_of_ble_eq_true rfl)) rfl rfl (fun r14 => ?_)
        refine XE.ite (fun h15 => ?_) (fun h16 => ?_)
        · refine XE.go (st_if_eq_t (off := 20) (pc' := 293) (by decide +kernel) (by decide) h15) ?_
          refine XE.go (st_iconst (n := 0) (pc' := 294) (by decide +kernel) (w_eq (by decide) (by decide)) rfl) ?_
          exact XE.rt rfl (X_zret (by decide +kernel) rfl (by decide))
        · refine XE.go (st_if_eq_f (off := 20) (pc' := 276) (by decide +kernel) 293 (by decide) rfl h16) ?_
          refine XE.go (st_aload_n (j := 1) (i := 1) (pc' := 277) (by decide +kernel) rfl rfl (by decide) rfl) ?_
          refine XE.go (st_aload_n (j := 3) (i := 3) (pc' := 278) (by decide +kernel) rfl rfl (by decide) rfl) ?_
          refine XE.go (st_aload_n (j := 2) (i := 2) (pc' := 279) (by decide +kernel) rfl rfl (by decide) rfl) ?_
          refine XE.cWk (κ1 := 211072) (κ2 := 909) (by omega) (pc' := 282) (st := []) (fun r hr => ct_L_readsAll r hr) (fun r hr => run_S (st := []) (by decide +kernel) co_L_law_254 (ct_L_readsAll r hr) rfl rfl (Nat.le_of_ble_eq_true rfl)) rfl rfl (fun r17 => ?_)
          refine XE.ite (fun h18 => ?_) (fun h19 => ?_)
          · refine XE.go (st_if_eq_t (off := 11) (pc' := 293) (by decide +kernel) (by decide) h18) ?_
            refine XE.go (st_iconst (n := 0) (pc' := 294) (by decide +kernel) (w_eq (by decide) (by decide)) rfl) ?_
            exact XE.rt rfl (X_zret (by decide +kernel) rfl (by decide))
          · refine XE.go (st_if_eq_f (off := 11) (pc' := 285) (by decide +kernel) 293 (by decide) rfl h19) ?_
            refine XE.go (st_aload_n (j := 1) (i := 1) (pc' := 286) (by decide +kernel) rfl rfl (by decide) rfl) ?_
            refine XE.go (st_aload_n (j := 3) (i := 3) (pc' := 287) (by decide +kernel) rfl rfl (by decide) rfl) ?_
            refine XE.cWk (κ1 := 606) (κ2 := 303) (by omega) (pc' := 290) (st := []) (fun r hr => ct_L_stays r hr) (fun r hr => run_S (st := []) (by decide +kernel) co_L_law_247 (ct_L_stays r hr) rfl rfl (Nat.le_of_ble_eq_true rfl)) rfl rfl (fun r20 => ?_)
            refine XE.ite (fun h21 => ?_) (fun h22 => ?_)
            · refine XE.go (st_if_ne_f (off := 5) (pc' := 293) (by decide +kernel) 295 (by decide) rfl (not_not_intro h21)) ?_
              refine XE.go (st_iconst (n := 0) (pc' := 294) (by decide +kernel) (w_eq (by decide) (by decide)) rfl) ?_
              exact XE.rt rfl (X_zret (by decide +kernel) rfl (by decide))
            · refine XE.go (st_if_ne_t (off := 5) (pc' := 295) (by decide +kernel) (by decide) h22) ?_
              refine XE.go (st_aload_n (j := 1) (i := 1) (pc' := 296) (by decide +kernel) rfl rfl (by decide) rfl) ?_
              refine XE.go (st_iconst (n := 4) (pc' := 297) (by decide +kernel) (w_eq (by decide) (by decide)) rfl) ?_
              refine XE.cWk (κ1 := 1) (κ2 := 302) (by omega) (pc' := 300) (st := []) (fun r hr => cq_L_count r hr) (fun r hr => run_S (st := []) (by decide +kernel) co_L_law_198 (cq_L_count r hr) rfl rfl (Nat.le_of_ble_eq_true rfl)) rfl rfl (fun r23 => ?_)
              refine XE.go (st_istore (j := 5) (pc' := 302) (by decide +kernel)  rfl (by decide) rfl rfl) ?_
              refine XE.go (st_iconst (n := 0) (pc' := 303) (by decide +kernel) (w_eq (by decide) (by decide)) rfl) ?_
              refine XE.go (st_istore (j := 6) (pc' := 305) (by decide +kernel)  rfl (by decide) rfl rfl) ?_
              refine XE.pick [2, 5, 1, 0] (L' := [(1, (14, 11000)), (4, (0, t11.1)), (5, (0, r23.1)), (6, (0, 0))]) rfl ?_
              refine XE.loopJk (b := 2) (e := 0) (by omega) (n := 151) (s0 := (t11.1, 0, r23.2)) (pcL := 305) (pcE := 350) (LL := fun (s24 : Int × Int × Mm) => [(1, (14, 11000)), (4, (0, s24.1)), (5, (0, r23.1)), (6, (0, s24.2.1))]) (sL := fun _ => []) (ML := fun (s24 : Int × Int × Mm) => s24.2.2) (LE := fun (t25 : Int × Mm) => [(4, (0, t25.1))]) (sE := fun _ => []) (ME := fun (t25 : Int × Mm) => t25.2) (fun kp27 hkp27 kk31 hc28 he29 s24 => ?_) (fun t25 => ?_)
              · unfold b_L_law_305
                refine XE.go (st_iload (j := 6) (pc' := 307) (by decide +kernel) rfl rfl) ?_
                refine XE.go (st_iload (j := 5) (pc' := 309) (by decide +kernel) rfl rfl) ?_
                refine XE.bite (fun h32 => ?_) (fun h33 => ?_)
                · refine XE.go (st_icmp_ge_f (off := 41) (pc' := 312) (by decide +kernel) 350 (by decide) rfl (Int.not_le.mpr h32)) ?_
                  refine XE.go (st_iload (j := 4) (pc' := 314) (by decide +kernel) rfl rfl) ?_
                  refine XE.go (st_aload_n (j := 1) (i := 1) (pc' := 315) (by decide +kernel) rfl rfl (by decide) rfl) ?_
                  refine XE.go (st_iload (j := 6) (pc' := 317) (by decide +kernel) rfl rfl) ?_
                  refine XE.go (st_bipush (n := 8) (pc' := 319) (by decide +kernel) (by decide) (w_eq (by decide) (by decide)) rfl) ?_
                  refine XE.asc ?_
                  refine XE.cWk (κ1 := 1) (κ2 := kp27 + 1) (by omega) (pc' := 322) (st := [(0, s24.1)]) (fun r hr => cq_L_message r hr) (fun r hr => run_S (st := [(0, s24.1)]) (by decide +kernel) co_L_law_140 (cq_L_message r hr) rfl rfl (Nat.le_of_ble_eq_true rfl)) rfl rfl (fun r34 => ?_)
                  refine XE.go (st_iconst (n := 1) (pc' := 323) (by decide +kernel) (w_eq (by decide) (by decide)) rfl) ?_
                  refine XE.bite (fun h35 => ?_) (fun h36 => ?_)
                  · refine XE.go (st_icmp_ne_f (off := 13) (pc' := 326) (by decide +kernel) 336 (by decide) rfl (not_not_intro h35)) ?_
                    refine XE.go (st_aload_n (j := 1) (i := 1) (pc' := 327) (by decide +kernel) rfl rfl (by decide) rfl) ?_
                    refine XE.go (st_iconst (n := 0) (pc' := 328) (by decide +kernel) (w_eq (by decide) (by decide)) rfl) ?_
                    refine XE.go (st_iload (j := 6) (pc' := 330) (by decide +kernel) rfl rfl) ?_
                    refine XE.asc ?_
                    refine XE.cWk (κ1 := 1) (κ2 := kp27 + 0) (by omega) (pc' := 333) (st := [(0, s24.1)]) (fun r hr => cq_L_seen r hr) (fun r hr => run_S (st := [(0, s24.1)]) (by decide +kernel) co_L_law_142 (cq_L_seen r hr) rfl rfl (Nat.le_of_ble_eq_true rfl)) rfl rfl (fun r37 => ?_)
                    refine XE.bite (fun h38 => ?_) (fun h39 => ?_)
                    · refine XE.go (st_if_le_f (off := 7) (pc' := 336) (by decide +kernel) 340 (by decide) rfl (Int.not_le.mpr h38)) ?_
                      refine XE.go (st_iconst (n := 1) (pc' := 337) (by decide +kernel) (w_eq (by decide) (by decide)) rfl) ?_
                      refine XE.go (st_goto (off := 4) (pc' := 341) (by decide +kernel) (by decide)) ?_
                      refine XE.go (st_iand (pc' := 342) (by decide +kernel) rfl) ?_
                      refine XE.asc ?_
                      refine XE.gen (fun v40 e41 => ?_)
                      refine XE.go (st_istore (j := 4) (pc' := 344) (by decide +kernel)  rfl (by decide) rfl rfl) ?_
                      refine XE.go (st_iinc (j := 6) (n := 1) (pc' := 347) (by decide +kernel) rfl rfl (by decide) rfl rfl) ?_
                      refine XE.go (st_goto (off := (-42)) (pc' := 305) (by decide +kernel) (by decide)) ?_
                      exact XE.mono (by omega) (XE.pick [2, 1, 3, 0] rfl (hc28 (v40, (w (s24.2.1 + 1)), r37.2)))
                    · refine XE.go (st_if_le_t (off := 7) (pc' := 340) (by decide +kernel) (by decide) (Int.not_lt.mp h39)) ?_
                      refine XE.go (st_iconst (n := 0) (pc' := 341) (by decide +kernel) (w_eq (by decide) (by decide)) rfl) ?_
                      refine XE.go (st_iand (pc' := 342) (by decide +kernel) rfl) ?_
                      refine XE.asc ?_
                      refine XE.gen (fun v42 e43 => ?_)
                      refine XE.go (st_istore (j := 4) (pc' := 344) (by decide +kernel)  rfl (by decide) rfl rfl) ?_
                      refine XE.go (st_iinc (j := 6) (n := 1) (pc' := 347) (by decide +kernel) rfl rfl (by decide) rfl rfl) ?_
                      refine XE.go (st_goto (off := (-42)) (pc' := 305) (by decide +kernel) (by decide)) ?_
                      exact XE.mono (by omega) (XE.pick [2, 1, 3, 0] rfl (hc28 (v42, (w (s24.2.1 + 1)), r37.2)))
                  · refine XE.go (st_icmp_ne_t (off := 13) (pc' := 336) (by decide +kernel) (by decide) h36) ?_
                    refine XE.go (st_iconst (n := 1) (pc' := 337) (by decide +kernel) (w_eq (by decide) (by decide)) rfl) ?_
                    refine XE.go (st_goto (off := 4) (pc' := 341) (by decide +kernel) (by decide)) ?_
                    refine XE.go (st_iand (pc' := 342) (by decide +kernel) rfl) ?_
                    refine XE.asc ?_
                    refine XE.gen (fun v44 e45 => ?_)
                    refine XE.go (st_istore (j := 4) (pc' := 344) (by decide +kernel)  rfl (by decide) rfl rfl) ?_
                    refine XE.go (st_iinc (j := 6) (n := 1) (pc' := 347) (by decide +kernel) rfl rfl (by decide) rfl rfl) ?_
                    refine XE.go (st_goto (off := (-42)) (pc' := 305) (by decide +kernel) (by decide)) ?_
                    exact XE.mono (by omega) (XE.pick [2, 1, 3, 0] rfl (hc28 (v44, (w (s24.2.1 + 1)), r34.2)))
                · refine XE.go (st_icmp_ge_t (off := 41) (pc' := 350) (by decide +kernel) (by decide) (Int.not_lt.mp h33)) ?_
                  exact XE.mono (by omega) (XE.pick [1] rfl (he29 (s24.1, s24.2.2)))
              · refine XE.go (st_iload (j := 4) (pc' := 352) (by decide +kernel) rfl rfl) ?_
                refine XE.gd_ (fun g26 => ?_)
                exact XE.rt rfl (X_zret (by decide +kernel) rfl g26)
theorem ct_L_law {D : Dt} {M : Mm} (r : (Int × Mm)) (hr : p_L_law M (D.2.2.2.2.2.1 : Int) (fun i => (D.2.2.2.2.2.2 i.toNat).toInt) = some r) : CT D 237412 mu_L_law [(100, (-1))] M (.inl (some (0, r.1))) r.2 := CT.of (by decide +kernel) rfl (Nat.le_of_ble_eq_true rfl) (xe_L_law r hr)
