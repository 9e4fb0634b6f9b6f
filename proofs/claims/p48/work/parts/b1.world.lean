/-! THE START, b1: what holds at the law's entry (by program: gen_world.py) -/
theorem tb_w {b : Nat} {s : State} (hts : ∀ w ∈ lw_tbl, w.before #[Value.ref b] s = true) {w : Cond} (h : w ∈ tables_1) : w.before #[Value.ref b] s = true := hts w (List.mem_append_right _ h)
theorem arr_pr {b : Nat} {s : State} {ty : FieldType} (h : (Cond.arrayClass ty).before #[Value.ref b] s = true) : ∃ cA : ClassId, ArrOfT s cA ty ∧ s.vm.findClass ("[" ++ ty.toString) = some cA := by
  obtain ⟨c, k, comp, h1, h2, h3⟩ := Cond.arrayClass_spec h
  exact ⟨c, fun n z => ⟨fun k h => (by cases h), k, h2, comp, h3⟩, h1⟩
theorem arr_ob {b : Nat} {s : State} {C : String} (h : (Cond.arrayOver (.object C)).before #[Value.ref b] s = true) : ∃ cA : ClassId, ArrOfT s cA (.object C) ∧ va_RA s cA (.object C) := by
  obtain ⟨comp, c, k, h1, -, h2, h3, h4⟩ := Cond.arrayOver_spec h
  exact ⟨c, fun n z => ⟨fun k h => (by cases h), k, h2, comp, h3⟩, k, comp, h2, h3, h1, h4⟩
theorem in_0 : Cond.instantiable RX0 10 ∈ tables_1 := List.mem_of_getElem? (i := 347) (by decide +kernel)
theorem in_1 : Cond.instantiable RX1 7 ∈ tables_1 := List.mem_of_getElem? (i := 746) (by decide +kernel)
theorem in_2 : Cond.instantiable RX2 2 ∈ tables_1 := List.mem_of_getElem? (i := 359) (by decide +kernel)
theorem in_3 : Cond.instantiable RX3 7 ∈ tables_1 := List.mem_of_getElem? (i := 492) (by decide +kernel)
theorem in_4 : Cond.instantiable RX4 11 ∈ tables_1 := List.mem_of_getElem? (i := 873) (by decide +kernel)
theorem in_5 : Cond.instantiable RX5 6 ∈ tables_1 := List.mem_of_getElem? (i := 226) (by decide +kernel)
theorem in_6 : Cond.instantiable RX6 9 ∈ tables_1 := List.mem_of_getElem? (i := 299) (by decide +kernel)
theorem in_7 : Cond.instantiable RX7 5 ∈ tables_1 := List.mem_of_getElem? (i := 234) (by decide +kernel)
theorem in_8 : Cond.instantiable RX8 6 ∈ tables_1 := List.mem_of_getElem? (i := 417) (by decide +kernel)
theorem in_9 : Cond.instantiable RX9 7 ∈ tables_1 := List.mem_of_getElem? (i := 187) (by decide +kernel)
theorem in_10 : Cond.instantiable RX10 16 ∈ tables_1 := List.mem_of_getElem? (i := 20) (by decide +kernel)
theorem cls_all {b : Nat} {s : State} (hts : ∀ w ∈ lw_tbl, w.before #[Value.ref b] s = true) : ∃ (dC : Nat → ClassId) (dI : Nat → Nat → Nat), va_K (dC, dI) vwCl [] s := by
  have hb : ∀ w ∈ Big, w.before #[Value.ref b] s = true := fun w hw => hts w (List.mem_filter.mp hw).1
  obtain ⟨c0, i0, k0⟩ := u_known (C := RX0) (T := TX0) (N := 10) (n := 10) hb cls_0.2.2.1 (tb_w hts in_0)
  obtain ⟨c1, i1, k1⟩ := u_known (C := RX1) (T := TX1) (N := 7) (n := 7) hb cls_1.2.2.1 (tb_w hts in_1)
  obtain ⟨c2, i2, k2⟩ := u_known (C := RX2) (T := TX2) (N := 2) (n := 2) hb cls_2.2.2.1 (tb_w hts in_2)
  obtain ⟨c3, i3, k3⟩ := u_known (C := RX3) (T := TX3) (N := 7) (n := 7) hb cls_3.2.2.1 (tb_w hts in_3)
  obtain ⟨c4, i4, k4⟩ := u_known (C := RX4) (T := TX4) (N := 11) (n := 11) hb cls_4.2.2.1 (tb_w hts in_4)
  obtain ⟨c5, i5, k5⟩ := u_known (C := RX5) (T := TX5) (N := 6) (n := 6) hb cls_5.2.2.1 (tb_w hts in_5)
  obtain ⟨c6, i6, k6⟩ := u_known (C := RX6) (T := TX6) (N := 9) (n := 9) hb cls_6.2.2.1 (tb_w hts in_6)
  obtain ⟨c7, i7, k7⟩ := u_known (C := RX7) (T := TX7) (N := 5) (n := 5) hb cls_7.2.2.1 (tb_w hts in_7)
  obtain ⟨c8, i8, k8⟩ := u_known (C := RX8) (T := TX8) (N := 6) (n := 6) hb cls_8.2.2.1 (tb_w hts in_8)
  obtain ⟨c9, i9, k9⟩ := u_known (C := RX9) (T := TX9) (N := 7) (n := 7) hb cls_9.2.2.1 (tb_w hts in_9)
  obtain ⟨c10, i10, k10⟩ := u_known (C := RX10) (T := TX10) (N := 16) (n := 16) hb cls_10.2.2.1 (tb_w hts in_10)
  refine ⟨fun k => if k = 0 then c0 else if k = 1 then c1 else if k = 2 then c2 else if k = 3 then c3 else if k = 4 then c4 else if k = 5 then c5 else if k = 6 then c6 else if k = 7 then c7 else if k = 8 then c8 else if k = 9 then c9 else c10, fun k => if k = 0 then i0 else if k = 1 then i1 else if k = 2 then i2 else if k = 3 then i3 else if k = 4 then i4 else if k = 5 then i5 else if k = 6 then i6 else if k = 7 then i7 else if k = 8 then i8 else if k = 9 then i9 else i10, ⟨fun k q hq => ?_, fun k q h => by simp at h⟩⟩
  match k, hq with
  | 0, hq => cases hq; exact k0
  | 1, hq => cases hq; exact k1
  | 2, hq => cases hq; exact k2
  | 3, hq => cases hq; exact k3
  | 4, hq => cases hq; exact k4
  | 5, hq => cases hq; exact k5
  | 6, hq => cases hq; exact k6
  | 7, hq => cases hq; exact k7
  | 8, hq => cases hq; exact k8
  | 9, hq => cases hq; exact k9
  | 10, hq => cases hq; exact k10
  | k + 11, hq => simp [vwCl] at hq
theorem arr_all {b : Nat} {s : State} (hts : ∀ w ∈ lw_tbl, w.before #[Value.ref b] s = true) : (∃ dA : Nat → ClassId, ∀ q ∈ akinds, ArrOfT s (dA q.1) q.2 ∧ va_RA s (dA q.1) q.2) ∧ ∀ q ∈ akinds, ∀ C, q.2 = .object C → va_AO C s := by
  obtain ⟨c13, h13, r13⟩ := arr_pr (ty := .int) (tb_w hts (List.mem_of_getElem? (i := 337) (by decide +kernel)))
  obtain ⟨c15, h15, r15⟩ := arr_pr (ty := .long) (tb_w hts (List.mem_of_getElem? (i := 1390) (by decide +kernel)))
  have w25 : (Cond.arrayOver (.object "MessageBroker$Topic")).before #[Value.ref b] s = true := tb_w hts (List.mem_of_getElem? (i := 28) (by decide +kernel))
  obtain ⟨c25, h25, r25⟩ := arr_ob w25
  have w21 : (Cond.arrayOver (.object "MessageBroker$Partition")).before #[Value.ref b] s = true := tb_w hts (List.mem_of_getElem? (i := 30) (by decide +kernel))
  obtain ⟨c21, h21, r21⟩ := arr_ob w21
  have w22 : (Cond.arrayOver (.object "MessageBroker$Producer")).before #[Value.ref b] s = true := tb_w hts (List.mem_of_getElem? (i := 32) (by decide +kernel))
  obtain ⟨c22, h22, r22⟩ := arr_ob w22
  have w16 : (Cond.arrayOver (.object "MessageBroker$Group")).before #[Value.ref b] s = true := tb_w hts (List.mem_of_getElem? (i := 34) (by decide +kernel))
  obtain ⟨c16, h16, r16⟩ := arr_ob w16
  have w20 : (Cond.arrayOver (.object "MessageBroker$Message")).before #[Value.ref b] s = true := tb_w hts (List.mem_of_getElem? (i := 36) (by decide +kernel))
  obtain ⟨c20, h20, r20⟩ := arr_ob w20
  have w23 : (Cond.arrayOver (.object "MessageBroker$Replica")).before #[Value.ref b] s = true := tb_w hts (List.mem_of_getElem? (i := 232) (by decide +kernel))
  obtain ⟨c23, h23, r23⟩ := arr_ob w23
  have w24 : (Cond.arrayOver (.object "MessageBroker$Share")).before #[Value.ref b] s = true := tb_w hts (List.mem_of_getElem? (i := 353) (by decide +kernel))
  obtain ⟨c24, h24, r24⟩ := arr_ob w24
  have w19 : (Cond.arrayOver (.object "MessageBroker$Member")).before #[Value.ref b] s = true := tb_w hts (List.mem_of_getElem? (i := 355) (by decide +kernel))
  obtain ⟨c19, h19, r19⟩ := arr_ob w19
  have w17 : (Cond.arrayOver (.object "MessageBroker$Letter")).before #[Value.ref b] s = true := tb_w hts (List.mem_of_getElem? (i := 357) (by decide +kernel))
  obtain ⟨c17, h17, r17⟩ := arr_ob w17
  refine ⟨⟨fun k => if k = 13 then c13 else if k = 15 then c15 else if k = 25 then c25 else if k = 21 then c21 else if k = 22 then c22 else if k = 16 then c16 else if k = 20 then c20 else if k = 23 then c23 else if k = 24 then c24 else if k = 19 then c19 else c17, fun q hq => ?_⟩, fun q hq C hC => ?_⟩
  · unfold akinds at hq
    simp only [List.mem_cons, List.not_mem_nil, or_false] at hq
    rcases hq with rfl | rfl | rfl | rfl | rfl | rfl | rfl | rfl | rfl | rfl | rfl
    · exact ⟨h13, r13⟩
    · exact ⟨h15, r15⟩
    · exact ⟨h25, r25⟩
    · exact ⟨h21, r21⟩
    · exact ⟨h22, r22⟩
    · exact ⟨h16, r16⟩
    · exact ⟨h20, r20⟩
    · exact ⟨h23, r23⟩
    · exact ⟨h24, r24⟩
    · exact ⟨h19, r19⟩
    · exact ⟨h17, r17⟩
  · unfold akinds at hq
    simp only [List.mem_cons, List.not_mem_nil, or_false] at hq
    rcases hq with rfl | rfl | rfl | rfl | rfl | rfl | rfl | rfl | rfl | rfl | rfl
    · cases hC
    · cases hC
    · cases hC
      exact va_AO.of w25
    · cases hC
      exact va_AO.of w21
    · cases hC
      exact va_AO.of w22
    · cases hC
      exact va_AO.of w16
    · cases hC
      exact va_AO.of w20
    · cases hC
      exact va_AO.of w23
    · cases hC
      exact va_AO.of w24
    · cases hC
      exact va_AO.of w19
    · cases hC
      exact va_AO.of w17
theorem strs_in : ∀ q ∈ strs, q.1 = RX10 ∧ Cond.stringRef q.1 q.2.1 q.2.2 ∈ tables_1 := List.forall_mem_cons.mpr ⟨⟨rfl, List.mem_of_getElem? (i := 144) (by decide +kernel)⟩, List.forall_mem_cons.mpr ⟨⟨rfl, List.mem_of_getElem? (i := 180) (by decide +kernel)⟩, List.forall_mem_cons.mpr ⟨⟨rfl, List.mem_of_getElem? (i := 298) (by decide +kernel)⟩, List.forall_mem_cons.mpr ⟨⟨rfl, List.mem_of_getElem? (i := 345) (by decide +kernel)⟩, List.forall_mem_cons.mpr ⟨⟨rfl, List.mem_of_getElem? (i := 346) (by decide +kernel)⟩, List.forall_mem_cons.mpr ⟨⟨rfl, List.mem_of_getElem? (i := 476) (by decide +kernel)⟩, List.forall_mem_cons.mpr ⟨⟨rfl, List.mem_of_getElem? (i := 487) (by decide +kernel)⟩, List.forall_mem_cons.mpr ⟨⟨rfl, List.mem_of_getElem? (i := 567) (by decide +kernel)⟩, List.forall_mem_cons.mpr ⟨⟨rfl, List.mem_of_getElem? (i := 614) (by decide +kernel)⟩, List.forall_mem_cons.mpr ⟨⟨rfl, List.mem_of_getElem? (i := 805) (by decide +kernel)⟩, List.forall_mem_cons.mpr ⟨⟨rfl, List.mem_of_getElem? (i := 830) (by decide +kernel)⟩, List.forall_mem_cons.mpr ⟨⟨rfl, List.mem_of_getElem? (i := 831) (by decide +kernel)⟩, List.forall_mem_cons.mpr ⟨⟨rfl, List.mem_of_getElem? (i := 851) (by decide +kernel)⟩, List.forall_mem_cons.mpr ⟨⟨rfl, List.mem_of_getElem? (i := 868) (by decide +kernel)⟩, List.forall_mem_cons.mpr ⟨⟨rfl, List.mem_of_getElem? (i := 964) (by decide +kernel)⟩, List.forall_mem_cons.mpr ⟨⟨rfl, List.mem_of_getElem? (i := 976) (by decide +kernel)⟩, List.forall_mem_cons.mpr ⟨⟨rfl, List.mem_of_getElem? (i := 994) (by decide +kernel)⟩, List.forall_mem_cons.mpr ⟨⟨rfl, List.mem_of_getElem? (i := 1014) (by decide +kernel)⟩, List.forall_mem_cons.mpr ⟨⟨rfl, List.mem_of_getElem? (i := 1022) (by decide +kernel)⟩, List.forall_mem_cons.mpr ⟨⟨rfl, List.mem_of_getElem? (i := 1040) (by decide +kernel)⟩, List.forall_mem_cons.mpr ⟨⟨rfl, List.mem_of_getElem? (i := 1054) (by decide +kernel)⟩, List.forall_mem_cons.mpr ⟨⟨rfl, List.mem_of_getElem? (i := 1059) (by decide +kernel)⟩, List.forall_mem_cons.mpr ⟨⟨rfl, List.mem_of_getElem? (i := 1091) (by decide +kernel)⟩, List.forall_mem_cons.mpr ⟨⟨rfl, List.mem_of_getElem? (i := 1196) (by decide +kernel)⟩, List.forall_mem_cons.mpr ⟨⟨rfl, List.mem_of_getElem? (i := 1318) (by decide +kernel)⟩, List.forall_mem_cons.mpr ⟨⟨rfl, List.mem_of_getElem? (i := 1363) (by decide +kernel)⟩, List.forall_mem_cons.mpr ⟨⟨rfl, List.mem_of_getElem? (i := 1389) (by decide +kernel)⟩, fun _ h => absurd h List.not_mem_nil⟩⟩⟩⟩⟩⟩⟩⟩⟩⟩⟩⟩⟩⟩⟩⟩⟩⟩⟩⟩⟩⟩⟩⟩⟩⟩⟩
theorem kk_start {b L : Nat} {xs : Nat → Int32} {s : State} (hts : ∀ w ∈ lw_tbl, w.before #[Value.ref b] s = true) (hX : va_X b L xs s s.heap) (hbl : b < s.heap.size) (hL : L ≤ 260) (hgv : (Jvm.Cond.and given_1 narrow_1).before #[Value.ref b] s = true) : ∃ D : Dt, KK D s ∧ dlo D = s.heap.size ∧ D.2.2.2.2.1 = b ∧ D.2.2.2.2.2.1 = L ∧ D.2.2.2.2.2.2 = xs := by
  have hs := flat_of_before _ hgv
  obtain ⟨dC, dI, hK⟩ := cls_all hts
  obtain ⟨⟨dA, hA⟩, hO⟩ := arr_all hts
  refine ⟨(dC, dI, dA, s.heap.size, b, L, xs), ⟨hK, hA, ?_, ?_, fun q hq => ?_, hO, ?_, hX, hbl, Nat.le_refl _, (show L < 2 ^ 31 by omega), fun E hE => ?_, fun E hE F hF ne => ?_, fun E hE => ?_⟩, rfl, rfl, rfl, rfl⟩
  · exact vx_Zqof (tb_w hts (List.mem_of_getElem? (i := 130) (by decide +kernel))) (tb_w hts (List.mem_of_getElem? (i := 2) (by decide +kernel))) (hs (Cond.isRef (.static "java/lang/Throwable" "UNASSIGNED_STACK" "[Ljava/lang/StackTraceElement;")) (by decide +kernel)) (fun a h => Nat.not_le.mpr h)
  · exact vx_Zqof (tb_w hts (List.mem_of_getElem? (i := 132) (by decide +kernel))) (tb_w hts (List.mem_of_getElem? (i := 2) (by decide +kernel))) (hs (Cond.isRef (.static "java/lang/Throwable" "SUPPRESSED_SENTINEL" "Ljava/util/List;")) (by decide +kernel)) (fun a h => Nat.not_le.mpr h)
  · obtain ⟨e, hw⟩ := strs_in q hq
    have hc : s.vm.findClass q.1 = some (dC 10) := by rw [e]; exact (hK.1 10 _ rfl).2.1
    obtain ⟨k, cf, i, a, -, -, -, -, -, hev⟩ := Cond.stringRef_spec hc (tb_w hts hw)
    exact ⟨a, vk_R.of (tb_w hts hw) hev⟩
  · exact va_Nw.of rfl (tb_w hts (List.mem_of_getElem? (i := 348) (by decide +kernel)))
  · unfold exs at hE
    simp only [List.mem_cons, List.not_mem_nil, or_false] at hE
    rcases hE with rfl | rfl | rfl
    · exact va_Nw.of rfl (tb_w hts (List.mem_of_getElem? (i := 469) (by decide +kernel)))
    · exact va_Nw.of rfl (tb_w hts (List.mem_of_getElem? (i := 105) (by decide +kernel)))
    · exact va_Nw.of rfl (tb_w hts (List.mem_of_getElem? (i := 173) (by decide +kernel)))
  · unfold exs at hE hF
    simp only [List.mem_cons, List.not_mem_nil, or_false] at hE hF
    rcases hE with rfl | rfl | rfl <;> rcases hF with rfl | rfl | rfl
    · exact absurd rfl ne
    · exact va_Nc.of (hs (Cond.not (.castable "java/lang/IndexOutOfBoundsException" "java/lang/IllegalArgumentException")) (by decide +kernel))
    · exact va_Nc.of (hs (Cond.not (.castable "java/lang/IndexOutOfBoundsException" "java/lang/IllegalStateException")) (by decide +kernel))
    · exact va_Nc.of (hs (Cond.not (.castable "java/lang/IllegalArgumentException" "java/lang/IndexOutOfBoundsException")) (by decide +kernel))
    · exact absurd rfl ne
    · exact va_Nc.of (hs (Cond.not (.castable "java/lang/IllegalArgumentException" "java/lang/IllegalStateException")) (by decide +kernel))
    · exact va_Nc.of (hs (Cond.not (.castable "java/lang/IllegalStateException" "java/lang/IndexOutOfBoundsException")) (by decide +kernel))
    · exact va_Nc.of (hs (Cond.not (.castable "java/lang/IllegalStateException" "java/lang/IllegalArgumentException")) (by decide +kernel))
    · exact absurd rfl ne
  · unfold xsup at hE
    simp only [List.mem_cons, List.not_mem_nil, or_false] at hE
    rcases hE with rfl | rfl | rfl
    · exact va_Nw.of rfl (tb_w hts (List.mem_of_getElem? (i := 107) (by decide +kernel)))
    · exact va_Nw.of rfl (tb_w hts (List.mem_of_getElem? (i := 109) (by decide +kernel)))
    · exact va_Nw.of rfl (tb_w hts (List.mem_of_getElem? (i := 111) (by decide +kernel)))

