abbrev mu_L_cell : MI := (yL_cell, cL_cell, 3, (some .int), 0, 0, [])
abbrev mu_L_topic : MI := (yL_topic, cL_topic, 5, (some .int), 8, 129, [(0, 7, 8, 14), (0, 7, 13, 16), (0, 7, 18, 18)])
abbrev mu_L_compact : MI := (yL_compact, cL_compact, 3, (some .int), 8, 138, [(0, 5, 6, 14), (0, 5, 10, 16), (0, 5, 14, 18)])
abbrev mu_L_fail : MI := (yL_fail, cL_fail, 3, (some .int), 8, 128, [(0, 5, 6, 14), (0, 5, 10, 16), (0, 5, 14, 18)])
abbrev mu_L_restore : MI := (yL_restore, cL_restore, 3, (some .int), 8, 129, [(0, 5, 6, 14), (0, 5, 10, 16), (0, 5, 14, 18)])
abbrev mu_L_fetch : MI := (yL_fetch, cL_fetch, 3, (some .int), 8, 129, [(0, 5, 6, 14), (0, 5, 10, 16), (0, 5, 14, 18)])
abbrev mu_L_speed : MI := (yL_speed, cL_speed, 3, (some .int), 8, 126, [(0, 5, 6, 14), (0, 5, 10, 16), (0, 5, 14, 18)])
abbrev mu_L_tick : MI := (yL_tick, cL_tick, 3, (some .int), 8, 190, [(0, 5, 6, 14), (0, 5, 10, 16), (0, 5, 14, 18)])
abbrev mu_L_producer : MI := (yL_producer, cL_producer, 2, (some .int), 7, 103, [(0, 4, 5, 14), (0, 4, 9, 16), (0, 4, 13, 18)])
abbrev mu_L_sendSome : MI := (yL_sendSome, cL_sendSome, 6, (some .int), 8, 135, [(0, 9, 10, 14), (0, 9, 15, 16), (0, 9, 20, 18)])
abbrev mu_L_send : MI := (yL_send, cL_send, 6, (some .int), 8, 130, [(0, 9, 10, 14), (0, 9, 15, 16), (0, 9, 20, 18)])
abbrev mu_L_sendLater : MI := (yL_sendLater, cL_sendLater, 7, (some .int), 8, 132, [(0, 11, 12, 14), (0, 11, 17, 16), (0, 11, 22, 18)])
abbrev mu_L_resend : MI := (yL_resend, cL_resend, 4, (some .int), 8, 131, [(0, 6, 7, 14), (0, 6, 11, 16), (0, 6, 15, 18)])
abbrev mu_L_begin : MI := (yL_begin, cL_begin, 3, (some .int), 8, 126, [(0, 5, 6, 14), (0, 5, 10, 16), (0, 5, 14, 18)])
abbrev mu_L_attach : MI := (yL_attach, cL_attach, 5, (some .int), 8, 131, [(0, 7, 8, 14), (0, 7, 13, 16), (0, 7, 18, 18)])
abbrev mu_L_commit : MI := (yL_commit, cL_commit, 3, (some .int), 8, 127, [(0, 5, 6, 14), (0, 5, 10, 16), (0, 5, 14, 18)])
abbrev mu_L_abort : MI := (yL_abort, cL_abort, 3, (some .int), 8, 127, [(0, 5, 6, 14), (0, 5, 10, 16), (0, 5, 14, 18)])
abbrev mu_L_group : MI := (yL_group, cL_group, 3, (some .int), 7, 108, [(0, 5, 6, 14), (0, 5, 10, 16), (0, 5, 14, 18)])
abbrev mu_L_join : MI := (yL_join, cL_join, 3, (some .int), 8, 126, [(0, 5, 6, 14), (0, 5, 10, 16), (0, 5, 14, 18)])
abbrev mu_L_leave : MI := (yL_leave, cL_leave, 4, (some .int), 8, 142, [(0, 6, 7, 14), (0, 6, 11, 16), (0, 6, 15, 18)])
abbrev mu_L_beat : MI := (yL_beat, cL_beat, 4, (some .int), 8, 142, [(0, 6, 7, 14), (0, 6, 11, 16), (0, 6, 15, 18)])
abbrev mu_L_read : MI := (yL_read, cL_read, 4, (some .int), 8, 145, [(0, 6, 7, 14), (0, 6, 11, 16), (0, 6, 15, 18)])
abbrev mu_L_done : MI := (yL_done, cL_done, 5, (some .int), 8, 130, [(0, 7, 8, 14), (0, 7, 13, 16), (0, 7, 18, 18)])
abbrev mu_L_retry : MI := (yL_retry, cL_retry, 5, (some .int), 8, 140, [(0, 7, 8, 14), (0, 7, 13, 16), (0, 7, 18, 18)])
abbrev mu_L_commitOffsets : MI := (yL_commitOffsets, cL_commitOffsets, 4, (some .int), 8, 128, [(0, 6, 7, 14), (0, 6, 11, 16), (0, 6, 15, 18)])
abbrev mu_L_message : MI := (yL_message, cL_message, 4, (some .int), 8, 133, [(0, 6, 7, 14), (0, 6, 11, 16), (0, 6, 15, 18)])
abbrev mu_L_at : MI := (yL_at, cL_at, 4, (some .int), 8, 128, [(0, 6, 7, 14), (0, 6, 11, 16), (0, 6, 15, 18)])
abbrev mu_L_partition : MI := (yL_partition, cL_partition, 4, (some .int), 8, 127, [(0, 6, 7, 14), (0, 6, 11, 16), (0, 6, 15, 18)])
abbrev mu_L_value : MI := (yL_value, cL_value, 4, (some .int), 8, 128, [(0, 6, 7, 14), (0, 6, 11, 16), (0, 6, 15, 18)])
abbrev mu_L_share : MI := (yL_share, cL_share, 5, (some .int), 8, 142, [(0, 7, 8, 14), (0, 7, 13, 16), (0, 7, 18, 18)])
abbrev mu_L_member : MI := (yL_member, cL_member, 5, (some .int), 8, 130, [(0, 7, 8, 14), (0, 7, 13, 16), (0, 7, 18, 18)])
abbrev mu_L_hand : MI := (yL_hand, cL_hand, 6, (some .int), 8, 130, [(0, 9, 10, 14), (0, 9, 15, 16), (0, 9, 20, 18)])
abbrev mu_L_seen : MI := (yL_seen, cL_seen, 4, (some .int), 8, 128, [(0, 6, 7, 14), (0, 6, 11, 16), (0, 6, 15, 18)])
abbrev mu_L_count : MI := (yL_count, cL_count, 3, (some .int), 8, 125, [(0, 5, 6, 14), (0, 5, 10, 16), (0, 5, 14, 18)])
abbrev mu_L_ofGroup : MI := (yL_ofGroup, cL_ofGroup, 4, (some .int), 8, 127, [(0, 6, 7, 14), (0, 6, 11, 16), (0, 6, 15, 18)])
abbrev mu_L_audit : MI := (yL_audit, cL_audit, 3, (some .int), 8, 164, [(0, 13, 14, 16)])
abbrev mu_L_has : MI := (yL_has, cL_has, 2, (some .boolean), 0, 0, [])
abbrev mu_L_some : MI := (yL_some, cL_some, 7, (some .int), 9, 150, [])
abbrev mu_L_reads : MI := (yL_reads, cL_reads, 10, (some .boolean), 9, 168, [])
abbrev mu_L_thins : MI := (yL_thins, cL_thins, 5, (some .boolean), 9, 160, [])
abbrev mu_L_writes : MI := (yL_writes, cL_writes, 4, (some .int), 10, 176, [])
abbrev mu_L_breaks : MI := (yL_breaks, cL_breaks, 3, (some .int), 9, 212, [])
abbrev mu_L_shares : MI := (yL_shares, cL_shares, 4, (some .int), 10, 176, [])
abbrev mu_L_stays : MI := (yL_stays, cL_stays, 6, (some .boolean), 9, 186, [])
abbrev mu_L_beats : MI := (yL_beats, cL_beats, 5, (some .boolean), 9, 166, [])
abbrev mu_L_heals : MI := (yL_heals, cL_heals, 4, (some .boolean), 9, 154, [])
abbrev mu_L_empties : MI := (yL_empties, cL_empties, 3, none, 9, 155, [])
abbrev mu_L_readsAll : MI := (yL_readsAll, cL_readsAll, 7, (some .boolean), 10, 212, [])
abbrev mu_L_law : MI := (yL_law, cL_law, 7, (some .boolean), 11, 238, [])
set_option maxRecDepth 20000 in
theorem mo_X10_topic : MOK mu_X10_topic 3 := ⟨(bg_1 1 rfl rfl), (bg_1 99 rfl rfl), by decide⟩
set_option maxRecDepth 20000 in
theorem mv_X10_topic : Cond.instanceMethod mu_X10_topic.1 ∈ Big ∧ Cond.selects mu_X10_topic.1.cls mu_X10_topic.1 mu_X10_topic.1 ∈ Big := ⟨(bg_1 97 rfl rfl), (bg_1 98 rfl rfl)⟩
set_option maxRecDepth 20000 in
theorem co_L_topic_8 : CallV mu_L_topic mu_X10_topic 8 3 10 := ⟨⟨(bg_1 96 rfl rfl), mo_X10_topic.1, mo_X10_topic.2.1, mo_X10_topic.2.2, by decide, by decide⟩, mv_X10_topic.1, mv_X10_topic.2, rfl, _, _, cls_10⟩
set_option maxRecDepth 20000 in
theorem hk_L_topic_0 : HandOK mu_L_topic 4 "java/lang/IndexOutOfBoundsException" (-97) := ⟨[], ⟨0, 7, 8, 14⟩, [⟨0, 7, 13, 16⟩, ⟨0, 7, 18, 18⟩], rfl, (fun _ h => nomatch h), by decide, by decide, (bg_1 93 rfl rfl), by decide, ⟨4, 10, by decide, (Or.inl ⟨(by decide +kernel), rfl⟩), (by decide +kernel), by decide, (by decide +kernel)⟩, w_eq (by decide) (by decide), rfl⟩
theorem hk_L_topic_1 : HandOK mu_L_topic 4 "java/lang/IllegalArgumentException" (-98) := ⟨[⟨0, 7, 8, 14⟩], ⟨0, 7, 13, 16⟩, [⟨0, 7, 18, 18⟩], rfl, (List.forall_mem_cons.mpr ⟨⟨by decide, "java/lang/IndexOutOfBoundsException", by decide, (bg_1 93 rfl rfl), by decide⟩, (fun _ h => nomatch h)⟩), by decide, by decide, (bg_1 94 rfl rfl), by decide, ⟨4, 15, by decide, (Or.inl ⟨(by decide +kernel), rfl⟩), (by decide +kernel), by decide, (by decide +kernel)⟩, w_eq (by decide) (by decide), rfl⟩
theorem hk_L_topic_2 : HandOK mu_L_topic 4 "java/lang/IllegalStateException" (-99) := ⟨[⟨0, 7, 8, 14⟩, ⟨0, 7, 13, 16⟩], ⟨0, 7, 18, 18⟩, [], rfl, (List.forall_mem_cons.mpr ⟨⟨by decide, "java/lang/IndexOutOfBoundsException", by decide, (bg_1 93 rfl rfl), by decide⟩, (List.forall_mem_cons.mpr ⟨⟨by decide, "java/lang/IllegalArgumentException", by decide, (bg_1 94 rfl rfl), by decide⟩, (fun _ h => nomatch h)⟩)⟩), by decide, by decide, (bg_1 95 rfl rfl), by decide, ⟨4, 20, by decide, (Or.inl ⟨(by decide +kernel), rfl⟩), (by decide +kernel), by decide, (by decide +kernel)⟩, w_eq (by decide) (by decide), rfl⟩
theorem hf_L_topic : ∀ (x : Int) (M : Mm) (r : Int × Mm), x ≠ 0 → (if x = 1 then some ((-97), M) else if x = 2 then some ((-98), M) else if x = 3 then some ((-99), M) else none) = some r → r.2 = M ∧ HandOK mu_L_topic 4 (exn x) r.1 := by
  intro x M r _ h
  by_cases q0 : x = 1
  · rw [if_pos q0] at h; cases h; subst q0; exact ⟨rfl, hk_L_topic_0⟩
  rw [if_neg q0] at h
  by_cases q1 : x = 2
  · rw [if_pos q1] at h; cases h; subst q1; exact ⟨rfl, hk_L_topic_1⟩
  rw [if_neg q1] at h
  by_cases q2 : x = 3
  · rw [if_pos q2] at h; cases h; subst q2; exact ⟨rfl, hk_L_topic_2⟩
  rw [if_neg q2] at h
  exact nomatch h
set_option maxRecDepth 20000 in
theorem mo_X10_compact : MOK mu_X10_compact 1 := ⟨(bg_1 1 rfl rfl), (bg_4 105 rfl rfl), by decide⟩
set_option maxRecDepth 20000 in
theorem mv_X10_compact : Cond.instanceMethod mu_X10_compact.1 ∈ Big ∧ Cond.selects mu_X10_compact.1.cls mu_X10_compact.1 mu_X10_compact.1 ∈ Big := ⟨(bg_4 103 rfl rfl), (bg_4 104 rfl rfl)⟩
set_option maxRecDepth 20000 in
theorem co_L_compact_20 : CallV mu_L_compact mu_X10_compact 20 1 10 := ⟨⟨(bg_4 102 rfl rfl), mo_X10_compact.1, mo_X10_compact.2.1, mo_X10_compact.2.2, by decide, by decide⟩, mv_X10_compact.1, mv_X10_compact.2, rfl, _, _, cls_10⟩
set_option maxRecDepth 20000 in
theorem hk_L_compact_0 : HandOK mu_L_compact 2 "java/lang/IndexOutOfBoundsException" (-97) := ⟨[], ⟨0, 5, 6, 14⟩, [⟨0, 5, 10, 16⟩, ⟨0, 5, 14, 18⟩], rfl, (fun _ h => nomatch h), by decide, by decide, (bg_1 93 rfl rfl), by decide, ⟨2, 7, by decide, (Or.inr ⟨2, rfl, (by decide +kernel), rfl⟩), (by decide +kernel), by decide, (by decide +kernel)⟩, w_eq (by decide) (by decide), rfl⟩
theorem hk_L_compact_1 : HandOK mu_L_compact 2 "java/lang/IllegalArgumentException" (-98) := ⟨[⟨0, 5, 6, 14⟩], ⟨0, 5, 10, 16⟩, [⟨0, 5, 14, 18⟩], rfl, (List.forall_mem_cons.mpr ⟨⟨by decide, "java/lang/IndexOutOfBoundsException", by decide, (bg_1 93 rfl rfl), by decide⟩, (fun _ h => nomatch h)⟩), by decide, by decide, (bg_1 94 rfl rfl), by decide, ⟨2, 11, by decide, (Or.inr ⟨2, rfl, (by decide +kernel), rfl⟩), (by decide +kernel), by decide, (by decide +kernel)⟩, w_eq (by decide) (by decide), rfl⟩
theorem hk_L_compact_2 : HandOK mu_L_compact 2 "java/lang/IllegalStateException" (-99) := ⟨[⟨0, 5, 6, 14⟩, ⟨0, 5, 10, 16⟩], ⟨0, 5, 14, 18⟩, [], rfl, (List.forall_mem_cons.mpr ⟨⟨by decide, "java/lang/IndexOutOfBoundsException", by decide, (bg_1 93 rfl rfl), by decide⟩, (List.forall_mem_cons.mpr ⟨⟨by decide, "java/lang/IllegalArgumentException", by decide, (bg_1 94 rfl rfl), by decide⟩, (fun _ h => nomatch h)⟩)⟩), by decide, by decide, (bg_1 95 rfl rfl), by decide, ⟨2, 15, by decide, (Or.inr ⟨2, rfl, (by decide +kernel), rfl⟩), (by decide +kernel), by decide, (by decide +kernel)⟩, w_eq (by decide) (by decide), rfl⟩
theorem hf_L_compact : ∀ (x : Int) (M : Mm) (r : Int × Mm), x ≠ 0 → (if x = 1 then some ((-97), M) else if x = 2 then some ((-98), M) else if x = 3 then some ((-99), M) else none) = some r → r.2 = M ∧ HandOK mu_L_compact 2 (exn x) r.1 := by
  intro x M r _ h
  by_cases q0 : x = 1
  · rw [if_pos q0] at h; cases h; subst q0; exact ⟨rfl, hk_L_compact_0⟩
  rw [if_neg q0] at h
  by_cases q1 : x = 2
  · rw [if_pos q1] at h; cases h; subst q1; exact ⟨rfl, hk_L_compact_1⟩
  rw [if_neg q1] at h
  by_cases q2 : x = 3
  · rw [if_pos q2] at h; cases h; subst q2; exact ⟨rfl, hk_L_compact_2⟩
  rw [if_neg q2] at h
  exact nomatch h
set_option maxRecDepth 20000 in
theorem mo_X10_fail : MOK mu_X10_fail 1 := ⟨(bg_1 1 rfl rfl), (bg_5 90 rfl rfl), by decide⟩
set_option maxRecDepth 20000 in
theorem mv_X10_fail : Cond.instanceMethod mu_X10_fail.1 ∈ Big ∧ Cond.selects mu_X10_fail.1.cls mu_X10_fail.1 mu_X10_fail.1 ∈ Big := ⟨(bg_5 88 rfl rfl), (bg_5 89 rfl rfl)⟩
set_option maxRecDepth 20000 in
theorem co_L_fail_24 : CallV mu_L_fail mu_X10_fail 24 1 10 := ⟨⟨(bg_5 87 rfl rfl), mo_X10_fail.1, mo_X10_fail.2.1, mo_X10_fail.2.2, by decide, by decide⟩, mv_X10_fail.1, mv_X10_fail.2, rfl, _, _, cls_10⟩
set_option maxRecDepth 20000 in
theorem hk_L_fail_0 : HandOK mu_L_fail 2 "java/lang/IndexOutOfBoundsException" (-97) := ⟨[], ⟨0, 5, 6, 14⟩, [⟨0, 5, 10, 16⟩, ⟨0, 5, 14, 18⟩], rfl, (fun _ h => nomatch h), by decide, by decide, (bg_1 93 rfl rfl), by decide, ⟨2, 7, by decide, (Or.inr ⟨2, rfl, (by decide +kernel), rfl⟩), (by decide +kernel), by decide, (by decide +kernel)⟩, w_eq (by decide) (by decide), rfl⟩
theorem hk_L_fail_1 : HandOK mu_L_fail 2 "java/lang/IllegalArgumentException" (-98) := ⟨[⟨0, 5, 6, 14⟩], ⟨0, 5, 10, 16⟩, [⟨0, 5, 14, 18⟩], rfl, (List.forall_mem_cons.mpr ⟨⟨by decide, "java/lang/IndexOutOfBoundsException", by decide, (bg_1 93 rfl rfl), by decide⟩, (fun _ h => nomatch h)⟩), by decide, by decide, (bg_1 94 rfl rfl), by decide, ⟨2, 11, by decide, (Or.inr ⟨2, rfl, (by decide +kernel), rfl⟩), (by decide +kernel), by decide, (by decide +kernel)⟩, w_eq (by decide) (by decide), rfl⟩
theorem hk_L_fail_2 : HandOK mu_L_fail 2 "java/lang/IllegalStateException" (-99) := ⟨[⟨0, 5, 6, 14⟩, ⟨0, 5, 10, 16⟩], ⟨0, 5, 14, 18⟩, [], rfl, (List.forall_mem_cons.mpr ⟨⟨by decide, "java/lang/IndexOutOfBoundsException", by decide, (bg_1 93 rfl rfl), by decide⟩, (List.forall_mem_cons.mpr ⟨⟨by decide, "java/lang/IllegalArgumentException", by decide, (bg_1 94 rfl rfl), by decide⟩, (fun _ h => nomatch h)⟩)⟩), by decide, by decide, (bg_1 95 rfl rfl), by decide, ⟨2, 15, by decide, (Or.inr ⟨2, rfl, (by decide +kernel), rfl⟩), (by decide +kernel), by decide, (by decide +kernel)⟩, w_eq (by decide) (by decide), rfl⟩
theorem hf_L_fail : ∀ (x : Int) (M : Mm) (r : Int × Mm), x ≠ 0 → (if x = 1 then some ((-97), M) else if x = 2 then some ((-98), M) else if x = 3 then some ((-99), M) else none) = some r → r.2 = M ∧ HandOK mu_L_fail 2 (exn x) r.1 := by
  intro x M r _ h
  by_cases q0 : x = 1
  · rw [if_pos q0] at h; cases h; subst q0; exact ⟨rfl, hk_L_fail_0⟩
  rw [if_neg q0] at h
  by_cases q1 : x = 2
  · rw [if_pos q1] at h; cases h; subst q1; exact ⟨rfl, hk_L_fail_1⟩
  rw [if_neg q1] at h
  by_cases q2 : x = 3
  · rw [if_pos q2] at h; cases h; subst q2; exact ⟨rfl, hk_L_fail_2⟩
  rw [if_neg q2] at h
  exact nomatch h
set_option maxRecDepth 20000 in
theorem mo_X10_restore : MOK mu_X10_restore 1 := ⟨(bg_1 1 rfl rfl), (bg_5 130 rfl rfl), by decide⟩
set_option maxRecDepth 20000 in
theorem mv_X10_restore : Cond.instanceMethod mu_X10_restore.1 ∈ Big ∧ Cond.selects mu_X10_restore.1.cls mu_X10_restore.1 mu_X10_restore.1 ∈ Big := ⟨(bg_5 128 rfl rfl), (bg_5 129 rfl rfl)⟩
set_option maxRecDepth 20000 in
theorem co_L_restore_27 : CallV mu_L_restore mu_X10_restore 27 1 10 := ⟨⟨(bg_5 127 rfl rfl), mo_X10_restore.1, mo_X10_restore.2.1, mo_X10_restore.2.2, by decide, by decide⟩, mv_X10_restore.1, mv_X10_restore.2, rfl, _, _, cls_10⟩
set_option maxRecDepth 20000 in
theorem hk_L_restore_0 : HandOK mu_L_restore 2 "java/lang/IndexOutOfBoundsException" (-97) := ⟨[], ⟨0, 5, 6, 14⟩, [⟨0, 5, 10, 16⟩, ⟨0, 5, 14, 18⟩], rfl, (fun _ h => nomatch h), by decide, by decide, (bg_1 93 rfl rfl), by decide, ⟨2, 7, by decide, (Or.inr ⟨2, rfl, (by decide +kernel), rfl⟩), (by decide +kernel), by decide, (by decide +kernel)⟩, w_eq (by decide) (by decide), rfl⟩
theorem hk_L_restore_1 : HandOK mu_L_restore 2 "java/lang/IllegalArgumentException" (-98) := ⟨[⟨0, 5, 6, 14⟩], ⟨0, 5, 10, 16⟩, [⟨0, 5, 14, 18⟩], rfl, (List.forall_mem_cons.mpr ⟨⟨by decide, "java/lang/IndexOutOfBoundsException", by decide, (bg_1 93 rfl rfl), by decide⟩, (fun _ h => nomatch h)⟩), by decide, by decide, (bg_1 94 rfl rfl), by decide, ⟨2, 11, by decide, (Or.inr ⟨2, rfl, (by decide +kernel), rfl⟩), (by decide +kernel), by decide, (by decide +kernel)⟩, w_eq (by decide) (by decide), rfl⟩
theorem hk_L_restore_2 : HandOK mu_L_restore 2 "java/lang/IllegalStateException" (-99) := ⟨[⟨0, 5, 6, 14⟩, ⟨0, 5, 10, 16⟩], ⟨0, 5, 14, 18⟩, [], rfl, (List.forall_mem_cons.mpr ⟨⟨by decide, "java/lang/IndexOutOfBoundsException", by decide, (bg_1 93 rfl rfl), by decide⟩, (List.forall_mem_cons.mpr ⟨⟨by decide, "java/lang/IllegalArgumentException", by decide, (bg_1 94 rfl rfl), by decide⟩, (fun _ h => nomatch h)⟩)⟩), by decide, by decide, (bg_1 95 rfl rfl), by decide, ⟨2, 15, by decide, (Or.inr ⟨2, rfl, (by decide +kernel), rfl⟩), (by decide +kernel), by decide, (by decide +kernel)⟩, w_eq (by decide) (by decide), rfl⟩
theorem hf_L_restore : ∀ (x : Int) (M : Mm) (r : Int × Mm), x ≠ 0 → (if x = 1 then some ((-97), M) else if x = 2 then some ((-98), M) else if x = 3 then some ((-99), M) else none) = some r → r.2 = M ∧ HandOK mu_L_restore 2 (exn x) r.1 := by
  intro x M r _ h
  by_cases q0 : x = 1
  · rw [if_pos q0] at h; cases h; subst q0; exact ⟨rfl, hk_L_restore_0⟩
  rw [if_neg q0] at h
  by_cases q1 : x = 2
  · rw [if_pos q1] at h; cases h; subst q1; exact ⟨rfl, hk_L_restore_1⟩
  rw [if_neg q1] at h
  by_cases q2 : x = 3
  · rw [if_pos q2] at h; cases h; subst q2; exact ⟨rfl, hk_L_restore_2⟩
  rw [if_neg q2] at h
  exact nomatch h
set_option maxRecDepth 20000 in
theorem mo_X10_fetch : MOK mu_X10_fetch 1 := ⟨(bg_1 1 rfl rfl), (bg_5 138 rfl rfl), by decide⟩
set_option maxRecDepth 20000 in
theorem mv_X10_fetch : Cond.instanceMethod mu_X10_fetch.1 ∈ Big ∧ Cond.selects mu_X10_fetch.1.cls mu_X10_fetch.1 mu_X10_fetch.1 ∈ Big := ⟨(bg_5 136 rfl rfl), (bg_5 137 rfl rfl)⟩
set_option maxRecDepth 20000 in
theorem co_L_fetch_30 : CallV mu_L_fetch mu_X10_fetch 30 1 10 := ⟨⟨(bg_5 135 rfl rfl), mo_X10_fetch.1, mo_X10_fetch.2.1, mo_X10_fetch.2.2, by decide, by decide⟩, mv_X10_fetch.1, mv_X10_fetch.2, rfl, _, _, cls_10⟩
set_option maxRecDepth 20000 in
theorem hk_L_fetch_0 : HandOK mu_L_fetch 2 "java/lang/IndexOutOfBoundsException" (-97) := ⟨[], ⟨0, 5, 6, 14⟩, [⟨0, 5, 10, 16⟩, ⟨0, 5, 14, 18⟩], rfl, (fun _ h => nomatch h), by decide, by decide, (bg_1 93 rfl rfl), by decide, ⟨2, 7, by decide, (Or.inr ⟨2, rfl, (by decide +kernel), rfl⟩), (by decide +kernel), by decide, (by decide +kernel)⟩, w_eq (by decide) (by decide), rfl⟩
theorem hk_L_fetch_1 : HandOK mu_L_fetch 2 "java/lang/IllegalArgumentException" (-98) := ⟨[⟨0, 5, 6, 14⟩], ⟨0, 5, 10, 16⟩, [⟨0, 5, 14, 18⟩], rfl, (List.forall_mem_cons.mpr ⟨⟨by decide, "java/lang/IndexOutOfBoundsException", by decide, (bg_1 93 rfl rfl), by decide⟩, (fun _ h => nomatch h)⟩), by decide, by decide, (bg_1 94 rfl rfl), by decide, ⟨2, 11, by decide, (Or.inr ⟨2, rfl, (by decide +kernel), rfl⟩), (by decide +kernel), by decide, (by decide +kernel)⟩, w_eq (by decide) (by decide), rfl⟩
theorem hk_L_fetch_2 : HandOK mu_L_fetch 2 "java/lang/IllegalStateException" (-99) := ⟨[⟨0, 5, 6, 14⟩, ⟨0, 5, 10, 16⟩], ⟨0, 5, 14, 18⟩, [], rfl, (List.forall_mem_cons.mpr ⟨⟨by decide, "java/lang/IndexOutOfBoundsException", by decide, (bg_1 93 rfl rfl), by decide⟩, (List.forall_mem_cons.mpr ⟨⟨by decide, "java/lang/IllegalArgumentException", by decide, (bg_1 94 rfl rfl), by decide⟩, (fun _ h => nomatch h)⟩)⟩), by decide, by decide, (bg_1 95 rfl rfl), by decide, ⟨2, 15, by decide, (Or.inr ⟨2, rfl, (by decide +kernel), rfl⟩), (by decide +kernel), by decide, (by decide +kernel)⟩, w_eq (by decide) (by decide), rfl⟩
theorem hf_L_fetch : ∀ (x : Int) (M : Mm) (r : Int × Mm), x ≠ 0 → (if x = 1 then some ((-97), M) else if x = 2 then some ((-98), M) else if x = 3 then some ((-99), M) else none) = some r → r.2 = M ∧ HandOK mu_L_fetch 2 (exn x) r.1 := by
  intro x M r _ h
  by_cases q0 : x = 1
  · rw [if_pos q0] at h; cases h; subst q0; exact ⟨rfl, hk_L_fetch_0⟩
  rw [if_neg q0] at h
  by_cases q1 : x = 2
  · rw [if_pos q1] at h; cases h; subst q1; exact ⟨rfl, hk_L_fetch_1⟩
  rw [if_neg q1] at h
  by_cases q2 : x = 3
  · rw [if_pos q2] at h; cases h; subst q2; exact ⟨rfl, hk_L_fetch_2⟩
  rw [if_neg q2] at h
  exact nomatch h
set_option maxRecDepth 20000 in
theorem mo_X10_speed : MOK mu_X10_speed 1 := ⟨(bg_1 1 rfl rfl), (bg_5 149 rfl rfl), by decide⟩
set_option maxRecDepth 20000 in
theorem mv_X10_speed : Cond.instanceMethod mu_X10_speed.1 ∈ Big ∧ Cond.selects mu_X10_speed.1.cls mu_X10_speed.1 mu_X10_speed.1 ∈ Big := ⟨(bg_5 147 rfl rfl), (bg_5 148 rfl rfl)⟩
set_option maxRecDepth 20000 in
theorem co_L_speed_33 : CallV mu_L_speed mu_X10_speed 33 1 10 := ⟨⟨(bg_5 146 rfl rfl), mo_X10_speed.1, mo_X10_speed.2.1, mo_X10_speed.2.2, by decide, by decide⟩, mv_X10_speed.1, mv_X10_speed.2, rfl, _, _, cls_10⟩
set_option maxRecDepth 20000 in
theorem hk_L_speed_0 : HandOK mu_L_speed 2 "java/lang/IndexOutOfBoundsException" (-97) := ⟨[], ⟨0, 5, 6, 14⟩, [⟨0, 5, 10, 16⟩, ⟨0, 5, 14, 18⟩], rfl, (fun _ h => nomatch h), by decide, by decide, (bg_1 93 rfl rfl), by decide, ⟨2, 7, by decide, (Or.inr ⟨2, rfl, (by decide +kernel), rfl⟩), (by decide +kernel), by decide, (by decide +kernel)⟩, w_eq (by decide) (by decide), rfl⟩
theorem hk_L_speed_1 : HandOK mu_L_speed 2 "java/lang/IllegalArgumentException" (-98) := ⟨[⟨0, 5, 6, 14⟩], ⟨0, 5, 10, 16⟩, [⟨0, 5, 14, 18⟩], rfl, (List.forall_mem_cons.mpr ⟨⟨by decide, "java/lang/IndexOutOfBoundsException", by decide, (bg_1 93 rfl rfl), by decide⟩, (fun _ h => nomatch h)⟩), by decide, by decide, (bg_1 94 rfl rfl), by decide, ⟨2, 11, by decide, (Or.inr ⟨2, rfl, (by decide +kernel), rfl⟩), (by decide +kernel), by decide, (by decide +kernel)⟩, w_eq (by decide) (by decide), rfl⟩
theorem hk_L_speed_2 : HandOK mu_L_speed 2 "java/lang/IllegalStateException" (-99) := ⟨[⟨0, 5, 6, 14⟩, ⟨0, 5, 10, 16⟩], ⟨0, 5, 14, 18⟩, [], rfl, (List.forall_mem_cons.mpr ⟨⟨by decide, "java/lang/IndexOutOfBoundsException", by decide, (bg_1 93 rfl rfl), by decide⟩, (List.forall_mem_cons.mpr ⟨⟨by decide, "java/lang/IllegalArgumentException", by decide, (bg_1 94 rfl rfl), by decide⟩, (fun _ h => nomatch h)⟩)⟩), by decide, by decide, (bg_1 95 rfl rfl), by decide, ⟨2, 15, by decide, (Or.inr ⟨2, rfl, (by decide +kernel), rfl⟩), (by decide +kernel), by decide, (by decide +kernel)⟩, w_eq (by decide) (by decide), rfl⟩
theorem hf_L_speed : ∀ (x : Int) (M : Mm) (r : Int × Mm), x ≠ 0 → (if x = 1 then some ((-97), M) else if x = 2 then some ((-98), M) else if x = 3 then some ((-99), M) else none) = some r → r.2 = M ∧ HandOK mu_L_speed 2 (exn x) r.1 := by
  intro x M r _ h
  by_cases q0 : x = 1
  · rw [if_pos q0] at h; cases h; subst q0; exact ⟨rfl, hk_L_speed_0⟩
  rw [if_neg q0] at h
  by_cases q1 : x = 2
  · rw [if_pos q1] at h; cases h; subst q1; exact ⟨rfl, hk_L_speed_1⟩
  rw [if_neg q1] at h
  by_cases q2 : x = 3
  · rw [if_pos q2] at h; cases h; subst q2; exact ⟨rfl, hk_L_speed_2⟩
  rw [if_neg q2] at h
  exact nomatch h
set_option maxRecDepth 20000 in
theorem mo_X10_tick : MOK mu_X10_tick 1 := ⟨(bg_1 1 rfl rfl), (bg_5 156 rfl rfl), by decide⟩
set_option maxRecDepth 20000 in
theorem mv_X10_tick : Cond.instanceMethod mu_X10_tick.1 ∈ Big ∧ Cond.selects mu_X10_tick.1.cls mu_X10_tick.1 mu_X10_tick.1 ∈ Big := ⟨(bg_5 154 rfl rfl), (bg_5 155 rfl rfl)⟩
set_option maxRecDepth 20000 in
theorem co_L_tick_36 : CallV mu_L_tick mu_X10_tick 36 1 10 := ⟨⟨(bg_5 153 rfl rfl), mo_X10_tick.1, mo_X10_tick.2.1, mo_X10_tick.2.2, by decide, by decide⟩, mv_X10_tick.1, mv_X10_tick.2, rfl, _, _, cls_10⟩
set_option maxRecDepth 20000 in
theorem hk_L_tick_0 : HandOK mu_L_tick 2 "java/lang/IndexOutOfBoundsException" (-97) := ⟨[], ⟨0, 5, 6, 14⟩, [⟨0, 5, 10, 16⟩, ⟨0, 5, 14, 18⟩], rfl, (fun _ h => nomatch h), by decide, by decide, (bg_1 93 rfl rfl), by decide, ⟨2, 7, by decide, (Or.inr ⟨2, rfl, (by decide +kernel), rfl⟩), (by decide +kernel), by decide, (by decide +kernel)⟩, w_eq (by decide) (by decide), rfl⟩
theorem hk_L_tick_1 : HandOK mu_L_tick 2 "java/lang/IllegalArgumentException" (-98) := ⟨[⟨0, 5, 6, 14⟩], ⟨0, 5, 10, 16⟩, [⟨0, 5, 14, 18⟩], rfl, (List.forall_mem_cons.mpr ⟨⟨by decide, "java/lang/IndexOutOfBoundsException", by decide, (bg_1 93 rfl rfl), by decide⟩, (fun _ h => nomatch h)⟩), by decide, by decide, (bg_1 94 rfl rfl), by decide, ⟨2, 11, by decide, (Or.inr ⟨2, rfl, (by decide +kernel), rfl⟩), (by decide +kernel), by decide, (by decide +kernel)⟩, w_eq (by decide) (by decide), rfl⟩
theorem hk_L_tick_2 : HandOK mu_L_tick 2 "java/lang/IllegalStateException" (-99) := ⟨[⟨0, 5, 6, 14⟩, ⟨0, 5, 10, 16⟩], ⟨0, 5, 14, 18⟩, [], rfl, (List.forall_mem_cons.mpr ⟨⟨by decide, "java/lang/IndexOutOfBoundsException", by decide, (bg_1 93 rfl rfl), by decide⟩, (List.forall_mem_cons.mpr ⟨⟨by decide, "java/lang/IllegalArgumentException", by decide, (bg_1 94 rfl rfl), by decide⟩, (fun _ h => nomatch h)⟩)⟩), by decide, by decide, (bg_1 95 rfl rfl), by decide, ⟨2, 15, by decide, (Or.inr ⟨2, rfl, (by decide +kernel), rfl⟩), (by decide +kernel), by decide, (by decide +kernel)⟩, w_eq (by decide) (by decide), rfl⟩
theorem hf_L_tick : ∀ (x : Int) (M : Mm) (r : Int × Mm), x ≠ 0 → (if x = 1 then some ((-97), M) else if x = 2 then some ((-98), M) else if x = 3 then some ((-99), M) else none) = some r → r.2 = M ∧ HandOK mu_L_tick 2 (exn x) r.1 := by
  intro x M r _ h
  by_cases q0 : x = 1
  · rw [if_pos q0] at h; cases h; subst q0; exact ⟨rfl, hk_L_tick_0⟩
  rw [if_neg q0] at h
  by_cases q1 : x = 2
  · rw [if_pos q1] at h; cases h; subst q1; exact ⟨rfl, hk_L_tick_1⟩
  rw [if_neg q1] at h
  by_cases q2 : x = 3
  · rw [if_pos q2] at h; cases h; subst q2; exact ⟨rfl, hk_L_tick_2⟩
  rw [if_neg q2] at h
  exact nomatch h
set_option maxRecDepth 20000 in
theorem mo_X10_producer : MOK mu_X10_producer 0 := ⟨(bg_1 1 rfl rfl), (bg_2 57 rfl rfl), by decide⟩
set_option maxRecDepth 20000 in
theorem mv_X10_producer : Cond.instanceMethod mu_X10_producer.1 ∈ Big ∧ Cond.selects mu_X10_producer.1.cls mu_X10_producer.1 mu_X10_producer.1 ∈ Big := ⟨(bg_2 55 rfl rfl), (bg_2 56 rfl rfl)⟩
set_option maxRecDepth 20000 in
theorem co_L_producer_39 : CallV mu_L_producer mu_X10_producer 39 0 10 := ⟨⟨(bg_2 54 rfl rfl), mo_X10_producer.1, mo_X10_producer.2.1, mo_X10_producer.2.2, by decide, by decide⟩, mv_X10_producer.1, mv_X10_producer.2, rfl, _, _, cls_10⟩
set_option maxRecDepth 20000 in
theorem hk_L_producer_0 : HandOK mu_L_producer 1 "java/lang/IndexOutOfBoundsException" (-97) := ⟨[], ⟨0, 4, 5, 14⟩, [⟨0, 4, 9, 16⟩, ⟨0, 4, 13, 18⟩], rfl, (fun _ h => nomatch h), by decide, by decide, (bg_1 93 rfl rfl), by decide, ⟨1, 6, by decide, (Or.inr ⟨1, rfl, (by decide +kernel), rfl⟩), (by decide +kernel), by decide, (by decide +kernel)⟩, w_eq (by decide) (by decide), rfl⟩
theorem hk_L_producer_1 : HandOK mu_L_producer 1 "java/lang/IllegalArgumentException" (-98) := ⟨[⟨0, 4, 5, 14⟩], ⟨0, 4, 9, 16⟩, [⟨0, 4, 13, 18⟩], rfl, (List.forall_mem_cons.mpr ⟨⟨by decide, "java/lang/IndexOutOfBoundsException", by decide, (bg_1 93 rfl rfl), by decide⟩, (fun _ h => nomatch h)⟩), by decide, by decide, (bg_1 94 rfl rfl), by decide, ⟨1, 10, by decide, (Or.inr ⟨1, rfl, (by decide +kernel), rfl⟩), (by decide +kernel), by decide, (by decide +kernel)⟩, w_eq (by decide) (by decide), rfl⟩
theorem hk_L_producer_2 : HandOK mu_L_producer 1 "java/lang/IllegalStateException" (-99) := ⟨[⟨0, 4, 5, 14⟩, ⟨0, 4, 9, 16⟩], ⟨0, 4, 13, 18⟩, [], rfl, (List.forall_mem_cons.mpr ⟨⟨by decide, "java/lang/IndexOutOfBoundsException", by decide, (bg_1 93 rfl rfl), by decide⟩, (List.forall_mem_cons.mpr ⟨⟨by decide, "java/lang/IllegalArgumentException", by decide, (bg_1 94 rfl rfl), by decide⟩, (fun _ h => nomatch h)⟩)⟩), by decide, by decide, (bg_1 95 rfl rfl), by decide, ⟨1, 14, by decide, (Or.inr ⟨1, rfl, (by decide +kernel), rfl⟩), (by decide +kernel), by decide, (by decide +kernel)⟩, w_eq (by decide) (by decide), rfl⟩
theorem hf_L_producer : ∀ (x : Int) (M : Mm) (r : Int × Mm), x ≠ 0 → (if x = 1 then some ((-97), M) else if x = 2 then some ((-98), M) else if x = 3 then some ((-99), M) else none) = some r → r.2 = M ∧ HandOK mu_L_producer 1 (exn x) r.1 := by
  intro x M r _ h
  by_cases q0 : x = 1
  · rw [if_pos q0] at h; cases h; subst q0; exact ⟨rfl, hk_L_producer_0⟩
  rw [if_neg q0] at h
  by_cases q1 : x = 2
  · rw [if_pos q1] at h; cases h; subst q1; exact ⟨rfl, hk_L_producer_1⟩
  rw [if_neg q1] at h
  by_cases q2 : x = 3
  · rw [if_pos q2] at h; cases h; subst q2; exact ⟨rfl, hk_L_producer_2⟩
  rw [if_neg q2] at h
  exact nomatch h
set_option maxRecDepth 20000 in
theorem mo_X10_sendSome : MOK mu_X10_sendSome 4 := ⟨(bg_1 1 rfl rfl), (bg_4 235 rfl rfl), by decide⟩
set_option maxRecDepth 20000 in
theorem mv_X10_sendSome : Cond.instanceMethod mu_X10_sendSome.1 ∈ Big ∧ Cond.selects mu_X10_sendSome.1.cls mu_X10_sendSome.1 mu_X10_sendSome.1 ∈ Big := ⟨(bg_4 233 rfl rfl), (bg_4 234 rfl rfl)⟩
set_option maxRecDepth 20000 in
theorem co_L_sendSome_43 : CallV mu_L_sendSome mu_X10_sendSome 43 4 10 := ⟨⟨(bg_4 232 rfl rfl), mo_X10_sendSome.1, mo_X10_sendSome.2.1, mo_X10_sendSome.2.2, by decide, by decide⟩, mv_X10_sendSome.1, mv_X10_sendSome.2, rfl, _, _, cls_10⟩
set_option maxRecDepth 20000 in
theorem hk_L_sendSome_0 : HandOK mu_L_sendSome 6 "java/lang/IndexOutOfBoundsException" (-97) := ⟨[], ⟨0, 9, 10, 14⟩, [⟨0, 9, 15, 16⟩, ⟨0, 9, 20, 18⟩], rfl, (fun _ h => nomatch h), by decide, by decide, (bg_1 93 rfl rfl), by decide, ⟨5, 12, by decide, (Or.inl ⟨(by decide +kernel), rfl⟩), (by decide +kernel), by decide, (by decide +kernel)⟩, w_eq (by decide) (by decide), rfl⟩
theorem hk_L_sendSome_1 : HandOK mu_L_sendSome 6 "java/lang/IllegalArgumentException" (-98) := ⟨[⟨0, 9, 10, 14⟩], ⟨0, 9, 15, 16⟩, [⟨0, 9, 20, 18⟩], rfl, (List.forall_mem_cons.mpr ⟨⟨by decide, "java/lang/IndexOutOfBoundsException", by decide, (bg_1 93 rfl rfl), by decide⟩, (fun _ h => nomatch h)⟩), by decide, by decide, (bg_1 94 rfl rfl), by decide, ⟨5, 17, by decide, (Or.inl ⟨(by decide +kernel), rfl⟩), (by decide +kernel), by decide, (by decide +kernel)⟩, w_eq (by decide) (by decide), rfl⟩
theorem hk_L_sendSome_2 : HandOK mu_L_sendSome 6 "java/lang/IllegalStateException" (-99) := ⟨[⟨0, 9, 10, 14⟩, ⟨0, 9, 15, 16⟩], ⟨0, 9, 20, 18⟩, [], rfl, (List.forall_mem_cons.mpr ⟨⟨by decide, "java/lang/IndexOutOfBoundsException", by decide, (bg_1 93 rfl rfl), by decide⟩, (List.forall_mem_cons.mpr ⟨⟨by decide, "java/lang/IllegalArgumentException", by decide, (bg_1 94 rfl rfl), by decide⟩, (fun _ h => nomatch h)⟩)⟩), by decide, by decide, (bg_1 95 rfl rfl), by decide, ⟨5, 22, by decide, (Or.inl ⟨(by decide +kernel), rfl⟩), (by decide +kernel), by decide, (by decide +kernel)⟩, w_eq (by decide) (by decide), rfl⟩
theorem hf_L_sendSome : ∀ (x : Int) (M : Mm) (r : Int × Mm), x ≠ 0 → (if x = 1 then some ((-97), M) else if x = 2 then some ((-98), M) else if x = 3 then some ((-99), M) else none) = some r → r.2 = M ∧ HandOK mu_L_sendSome 6 (exn x) r.1 := by
  intro x M r _ h
  by_cases q0 : x = 1
  · rw [if_pos q0] at h; cases h; subst q0; exact ⟨rfl, hk_L_sendSome_0⟩
  rw [if_neg q0] at h
  by_cases q1 : x = 2
  · rw [if_pos q1] at h; cases h; subst q1; exact ⟨rfl, hk_L_sendSome_1⟩
  rw [if_neg q1] at h
  by_cases q2 : x = 3
  · rw [if_pos q2] at h; cases h; subst q2; exact ⟨rfl, hk_L_sendSome_2⟩
  rw [if_neg q2] at h
  exact nomatch h
set_option maxRecDepth 20000 in
theorem mo_X10_send : MOK mu_X10_send 4 := ⟨(bg_1 1 rfl rfl), (bg_4 126 rfl rfl), by decide⟩
set_option maxRecDepth 20000 in
theorem mv_X10_send : Cond.instanceMethod mu_X10_send.1 ∈ Big ∧ Cond.selects mu_X10_send.1.cls mu_X10_send.1 mu_X10_send.1 ∈ Big := ⟨(bg_4 124 rfl rfl), (bg_4 125 rfl rfl)⟩
set_option maxRecDepth 20000 in
theorem co_L_send_47 : CallV mu_L_send mu_X10_send 47 4 10 := ⟨⟨(bg_4 123 rfl rfl), mo_X10_send.1, mo_X10_send.2.1, mo_X10_send.2.2, by decide, by decide⟩, mv_X10_send.1, mv_X10_send.2, rfl, _, _, cls_10⟩
set_option maxRecDepth 20000 in
theorem hk_L_send_0 : HandOK mu_L_send 6 "java/lang/IndexOutOfBoundsException" (-97) := ⟨[], ⟨0, 9, 10, 14⟩, [⟨0, 9, 15, 16⟩, ⟨0, 9, 20, 18⟩], rfl, (fun _ h => nomatch h), by decide, by decide, (bg_1 93 rfl rfl), by decide, ⟨5, 12, by decide, (Or.inl ⟨(by decide +kernel), rfl⟩), (by decide +kernel), by decide, (by decide +kernel)⟩, w_eq (by decide) (by decide), rfl⟩
theorem hk_L_send_1 : HandOK mu_L_send 6 "java/lang/IllegalArgumentException" (-98) := ⟨[⟨0, 9, 10, 14⟩], ⟨0, 9, 15, 16⟩, [⟨0, 9, 20, 18⟩], rfl, (List.forall_mem_cons.mpr ⟨⟨by decide, "java/lang/IndexOutOfBoundsException", by decide, (bg_1 93 rfl rfl), by decide⟩, (fun _ h => nomatch h)⟩), by decide, by decide, (bg_1 94 rfl rfl), by decide, ⟨5, 17, by decide, (Or.inl ⟨(by decide +kernel), rfl⟩), (by decide +kernel), by decide, (by decide +kernel)⟩, w_eq (by decide) (by decide), rfl⟩
theorem hk_L_send_2 : HandOK mu_L_send 6 "java/lang/IllegalStateException" (-99) := ⟨[⟨0, 9, 10, 14⟩, ⟨0, 9, 15, 16⟩], ⟨0, 9, 20, 18⟩, [], rfl, (List.forall_mem_cons.mpr ⟨⟨by decide, "java/lang/IndexOutOfBoundsException", by decide, (bg_1 93 rfl rfl), by decide⟩, (List.forall_mem_cons.mpr ⟨⟨by decide, "java/lang/IllegalArgumentException", by decide, (bg_1 94 rfl rfl), by decide⟩, (fun _ h => nomatch h)⟩)⟩), by decide, by decide, (bg_1 95 rfl rfl), by decide, ⟨5, 22, by decide, (Or.inl ⟨(by decide +kernel), rfl⟩), (by decide +kernel), by decide, (by decide +kernel)⟩, w_eq (by decide) (by decide), rfl⟩
theorem hf_L_send : ∀ (x : Int) (M : Mm) (r : Int × Mm), x ≠ 0 → (if x = 1 then some ((-97), M) else if x = 2 then some ((-98), M) else if x = 3 then some ((-99), M) else none) = some r → r.2 = M ∧ HandOK mu_L_send 6 (exn x) r.1 := by
  intro x M r _ h
  by_cases q0 : x = 1
  · rw [if_pos q0] at h; cases h; subst q0; exact ⟨rfl, hk_L_send_0⟩
  rw [if_neg q0] at h
  by_cases q1 : x = 2
  · rw [if_pos q1] at h; cases h; subst q1; exact ⟨rfl, hk_L_send_1⟩
  rw [if_neg q1] at h
  by_cases q2 : x = 3
  · rw [if_pos q2] at h; cases h; subst q2; exact ⟨rfl, hk_L_send_2⟩
  rw [if_neg q2] at h
  exact nomatch h
set_option maxRecDepth 20000 in
theorem mo_X10_sendLater : MOK mu_X10_sendLater 5 := ⟨(bg_1 1 rfl rfl), (bg_5 3 rfl rfl), by decide⟩
set_option maxRecDepth 20000 in
theorem mv_X10_sendLater : Cond.instanceMethod mu_X10_sendLater.1 ∈ Big ∧ Cond.selects mu_X10_sendLater.1.cls mu_X10_sendLater.1 mu_X10_sendLater.1 ∈ Big := ⟨(bg_5 1 rfl rfl), (bg_5 2 rfl rfl)⟩
set_option maxRecDepth 20000 in
theorem co_L_sendLater_50 : CallV mu_L_sendLater mu_X10_sendLater 50 5 10 := ⟨⟨(bg_5 0 rfl rfl), mo_X10_sendLater.1, mo_X10_sendLater.2.1, mo_X10_sendLater.2.2, by decide, by decide⟩, mv_X10_sendLater.1, mv_X10_sendLater.2, rfl, _, _, cls_10⟩
set_option maxRecDepth 20000 in
theorem hk_L_sendLater_0 : HandOK mu_L_sendLater 8 "java/lang/IndexOutOfBoundsException" (-97) := ⟨[], ⟨0, 11, 12, 14⟩, [⟨0, 11, 17, 16⟩, ⟨0, 11, 22, 18⟩], rfl, (fun _ h => nomatch h), by decide, by decide, (bg_1 93 rfl rfl), by decide, ⟨6, 14, by decide, (Or.inl ⟨(by decide +kernel), rfl⟩), (by decide +kernel), by decide, (by decide +kernel)⟩, w_eq (by decide) (by decide), rfl⟩
theorem hk_L_sendLater_1 : HandOK mu_L_sendLater 8 "java/lang/IllegalArgumentException" (-98) := ⟨[⟨0, 11, 12, 14⟩], ⟨0, 11, 17, 16⟩, [⟨0, 11, 22, 18⟩], rfl, (List.forall_mem_cons.mpr ⟨⟨by decide, "java/lang/IndexOutOfBoundsException", by decide, (bg_1 93 rfl rfl), by decide⟩, (fun _ h => nomatch h)⟩), by decide, by decide, (bg_1 94 rfl rfl), by decide, ⟨6, 19, by decide, (Or.inl ⟨(by decide +kernel), rfl⟩), (by decide +kernel), by decide, (by decide +kernel)⟩, w_eq (by decide) (by decide), rfl⟩
theorem hk_L_sendLater_2 : HandOK mu_L_sendLater 8 "java/lang/IllegalStateException" (-99) := ⟨[⟨0, 11, 12, 14⟩, ⟨0, 11, 17, 16⟩], ⟨0, 11, 22, 18⟩, [], rfl, (List.forall_mem_cons.mpr ⟨⟨by decide, "java/lang/IndexOutOfBoundsException", by decide, (bg_1 93 rfl rfl), by decide⟩, (List.forall_mem_cons.mpr ⟨⟨by decide, "java/lang/IllegalArgumentException", by decide, (bg_1 94 rfl rfl), by decide⟩, (fun _ h => nomatch h)⟩)⟩), by decide, by decide, (bg_1 95 rfl rfl), by decide, ⟨6, 24, by decide, (Or.inl ⟨(by decide +kernel), rfl⟩), (by decide +kernel), by decide, (by decide +kernel)⟩, w_eq (by decide) (by decide), rfl⟩
theorem hf_L_sendLater : ∀ (x : Int) (M : Mm) (r : Int × Mm), x ≠ 0 → (if x = 1 then some ((-97), M) else if x = 2 then some ((-98), M) else if x = 3 then some ((-99), M) else none) = some r → r.2 = M ∧ HandOK mu_L_sendLater 8 (exn x) r.1 := by
  intro x M r _ h
  by_cases q0 : x = 1
  · rw [if_pos q0] at h; cases h; subst q0; exact ⟨rfl, hk_L_sendLater_0⟩
  rw [if_neg q0] at h
  by_cases q1 : x = 2
  · rw [if_pos q1] at h; cases h; subst q1; exact ⟨rfl, hk_L_sendLater_1⟩
  rw [if_neg q1] at h
  by_cases q2 : x = 3
  · rw [if_pos q2] at h; cases h; subst q2; exact ⟨rfl, hk_L_sendLater_2⟩
  rw [if_neg q2] at h
  exact nomatch h
set_option maxRecDepth 20000 in
theorem mo_X10_resend : MOK mu_X10_resend 2 := ⟨(bg_1 1 rfl rfl), (bg_5 79 rfl rfl), by decide⟩
set_option maxRecDepth 20000 in
theorem mv_X10_resend : Cond.instanceMethod mu_X10_resend.1 ∈ Big ∧ Cond.selects mu_X10_resend.1.cls mu_X10_resend.1 mu_X10_resend.1 ∈ Big := ⟨(bg_5 77 rfl rfl), (bg_5 78 rfl rfl)⟩
set_option maxRecDepth 20000 in
theorem co_L_resend_54 : CallV mu_L_resend mu_X10_resend 54 2 10 := ⟨⟨(bg_5 76 rfl rfl), mo_X10_resend.1, mo_X10_resend.2.1, mo_X10_resend.2.2, by decide, by decide⟩, mv_X10_resend.1, mv_X10_resend.2, rfl, _, _, cls_10⟩
set_option maxRecDepth 20000 in
theorem hk_L_resend_0 : HandOK mu_L_resend 3 "java/lang/IndexOutOfBoundsException" (-97) := ⟨[], ⟨0, 6, 7, 14⟩, [⟨0, 6, 11, 16⟩, ⟨0, 6, 15, 18⟩], rfl, (fun _ h => nomatch h), by decide, by decide, (bg_1 93 rfl rfl), by decide, ⟨3, 8, by decide, (Or.inr ⟨3, rfl, (by decide +kernel), rfl⟩), (by decide +kernel), by decide, (by decide +kernel)⟩, w_eq (by decide) (by decide), rfl⟩
theorem hk_L_resend_1 : HandOK mu_L_resend 3 "java/lang/IllegalArgumentException" (-98) := ⟨[⟨0, 6, 7, 14⟩], ⟨0, 6, 11, 16⟩, [⟨0, 6, 15, 18⟩], rfl, (List.forall_mem_cons.mpr ⟨⟨by decide, "java/lang/IndexOutOfBoundsException", by decide, (bg_1 93 rfl rfl), by decide⟩, (fun _ h => nomatch h)⟩), by decide, by decide, (bg_1 94 rfl rfl), by decide, ⟨3, 12, by decide, (Or.inr ⟨3, rfl, (by decide +kernel), rfl⟩), (by decide +kernel), by decide, (by decide +kernel)⟩, w_eq (by decide) (by decide), rfl⟩
theorem hk_L_resend_2 : HandOK mu_L_resend 3 "java/lang/IllegalStateException" (-99) := ⟨[⟨0, 6, 7, 14⟩, ⟨0, 6, 11, 16⟩], ⟨0, 6, 15, 18⟩, [], rfl, (List.forall_mem_cons.mpr ⟨⟨by decide, "java/lang/IndexOutOfBoundsException", by decide, (bg_1 93 rfl rfl), by decide⟩, (List.forall_mem_cons.mpr ⟨⟨by decide, "java/lang/IllegalArgumentException", by decide, (bg_1 94 rfl rfl), by decide⟩, (fun _ h => nomatch h)⟩)⟩), by decide, by decide, (bg_1 95 rfl rfl), by decide, ⟨3, 16, by decide, (Or.inr ⟨3, rfl, (by decide +kernel), rfl⟩), (by decide +kernel), by decide, (by decide +kernel)⟩, w_eq (by decide) (by decide), rfl⟩
theorem hf_L_resend : ∀ (x : Int) (M : Mm) (r : Int × Mm), x ≠ 0 → (if x = 1 then some ((-97), M) else if x = 2 then some ((-98), M) else if x = 3 then some ((-99), M) else none) = some r → r.2 = M ∧ HandOK mu_L_resend 3 (exn x) r.1 := by
  intro x M r _ h
  by_cases q0 : x = 1
  · rw [if_pos q0] at h; cases h; subst q0; exact ⟨rfl, hk_L_resend_0⟩
  rw [if_neg q0] at h
  by_cases q1 : x = 2
  · rw [if_pos q1] at h; cases h; subst q1; exact ⟨rfl, hk_L_resend_1⟩
  rw [if_neg q1] at h
  by_cases q2 : x = 3
  · rw [if_pos q2] at h; cases h; subst q2; exact ⟨rfl, hk_L_resend_2⟩
  rw [if_neg q2] at h
  exact nomatch h
set_option maxRecDepth 20000 in
theorem mo_X10_begin : MOK mu_X10_begin 1 := ⟨(bg_1 1 rfl rfl), (bg_5 15 rfl rfl), by decide⟩
set_option maxRecDepth 20000 in
theorem mv_X10_begin : Cond.instanceMethod mu_X10_begin.1 ∈ Big ∧ Cond.selects mu_X10_begin.1.cls mu_X10_begin.1 mu_X10_begin.1 ∈ Big := ⟨(bg_5 13 rfl rfl), (bg_5 14 rfl rfl)⟩
set_option maxRecDepth 20000 in
theorem co_L_begin_58 : CallV mu_L_begin mu_X10_begin 58 1 10 := ⟨⟨(bg_5 12 rfl rfl), mo_X10_begin.1, mo_X10_begin.2.1, mo_X10_begin.2.2, by decide, by decide⟩, mv_X10_begin.1, mv_X10_begin.2, rfl, _, _, cls_10⟩
set_option maxRecDepth 20000 in
theorem hk_L_begin_0 : HandOK mu_L_begin 2 "java/lang/IndexOutOfBoundsException" (-97) := ⟨[], ⟨0, 5, 6, 14⟩, [⟨0, 5, 10, 16⟩, ⟨0, 5, 14, 18⟩], rfl, (fun _ h => nomatch h), by decide, by decide, (bg_1 93 rfl rfl), by decide, ⟨2, 7, by decide, (Or.inr ⟨2, rfl, (by decide +kernel), rfl⟩), (by decide +kernel), by decide, (by decide +kernel)⟩, w_eq (by decide) (by decide), rfl⟩
theorem hk_L_begin_1 : HandOK mu_L_begin 2 "java/lang/IllegalArgumentException" (-98) := ⟨[⟨0, 5, 6, 14⟩], ⟨0, 5, 10, 16⟩, [⟨0, 5, 14, 18⟩], rfl, (List.forall_mem_cons.mpr ⟨⟨by decide, "java/lang/IndexOutOfBoundsException", by decide, (bg_1 93 rfl rfl), by decide⟩, (fun _ h => nomatch h)⟩), by decide, by decide, (bg_1 94 rfl rfl), by decide, ⟨2, 11, by decide, (Or.inr ⟨2, rfl, (by decide +kernel), rfl⟩), (by decide +kernel), by decide, (by decide +kernel)⟩, w_eq (by decide) (by decide), rfl⟩
theorem hk_L_begin_2 : HandOK mu_L_begin 2 "java/lang/IllegalStateException" (-99) := ⟨[⟨0, 5, 6, 14⟩, ⟨0, 5, 10, 16⟩], ⟨0, 5, 14, 18⟩, [], rfl, (List.forall_mem_cons.mpr ⟨⟨by decide, "java/lang/IndexOutOfBoundsException", by decide, (bg_1 93 rfl rfl), by decide⟩, (List.forall_mem_cons.mpr ⟨⟨by decide, "java/lang/IllegalArgumentException", by decide, (bg_1 94 rfl rfl), by decide⟩, (fun _ h => nomatch h)⟩)⟩), by decide, by decide, (bg_1 95 rfl rfl), by decide, ⟨2, 15, by decide, (Or.inr ⟨2, rfl, (by decide +kernel), rfl⟩), (by decide +kernel), by decide, (by decide +kernel)⟩, w_eq (by decide) (by decide), rfl⟩
theorem hf_L_begin : ∀ (x : Int) (M : Mm) (r : Int × Mm), x ≠ 0 → (if x = 1 then some ((-97), M) else if x = 2 then some ((-98), M) else if x = 3 then some ((-99), M) else none) = some r → r.2 = M ∧ HandOK mu_L_begin 2 (exn x) r.1 := by
  intro x M r _ h
  by_cases q0 : x = 1
  · rw [if_pos q0] at h; cases h; subst q0; exact ⟨rfl, hk_L_begin_0⟩
  rw [if_neg q0] at h
  by_cases q1 : x = 2
  · rw [if_pos q1] at h; cases h; subst q1; exact ⟨rfl, hk_L_begin_1⟩
  rw [if_neg q1] at h
  by_cases q2 : x = 3
  · rw [if_pos q2] at h; cases h; subst q2; exact ⟨rfl, hk_L_begin_2⟩
  rw [if_neg q2] at h
  exact nomatch h
set_option maxRecDepth 20000 in
theorem mo_X10_attach : MOK mu_X10_attach 3 := ⟨(bg_1 1 rfl rfl), (bg_5 61 rfl rfl), by decide⟩
set_option maxRecDepth 20000 in
theorem mv_X10_attach : Cond.instanceMethod mu_X10_attach.1 ∈ Big ∧ Cond.selects mu_X10_attach.1.cls mu_X10_attach.1 mu_X10_attach.1 ∈ Big := ⟨(bg_5 59 rfl rfl), (bg_5 60 rfl rfl)⟩
set_option maxRecDepth 20000 in
theorem co_L_attach_61 : CallV mu_L_attach mu_X10_attach 61 3 10 := ⟨⟨(bg_5 58 rfl rfl), mo_X10_attach.1, mo_X10_attach.2.1, mo_X10_attach.2.2, by decide, by decide⟩, mv_X10_attach.1, mv_X10_attach.2, rfl, _, _, cls_10⟩
set_option maxRecDepth 20000 in
theorem hk_L_attach_0 : HandOK mu_L_attach 4 "java/lang/IndexOutOfBoundsException" (-97) := ⟨[], ⟨0, 7, 8, 14⟩, [⟨0, 7, 13, 16⟩, ⟨0, 7, 18, 18⟩], rfl, (fun _ h => nomatch h), by decide, by decide, (bg_1 93 rfl rfl), by decide, ⟨4, 10, by decide, (Or.inl ⟨(by decide +kernel), rfl⟩), (by decide +kernel), by decide, (by decide +kernel)⟩, w_eq (by decide) (by decide), rfl⟩
theorem hk_L_attach_1 : HandOK mu_L_attach 4 "java/lang/IllegalArgumentException" (-98) := ⟨[⟨0, 7, 8, 14⟩], ⟨0, 7, 13, 16⟩, [⟨0, 7, 18, 18⟩], rfl, (List.forall_mem_cons.mpr ⟨⟨by decide, "java/lang/IndexOutOfBoundsException", by decide, (bg_1 93 rfl rfl), by decide⟩, (fun _ h => nomatch h)⟩), by decide, by decide, (bg_1 94 rfl rfl), by decide, ⟨4, 15, by decide, (Or.inl ⟨(by decide +kernel), rfl⟩), (by decide +kernel), by decide, (by decide +kernel)⟩, w_eq (by decide) (by decide), rfl⟩
theorem hk_L_attach_2 : HandOK mu_L_attach 4 "java/lang/IllegalStateException" (-99) := ⟨[⟨0, 7, 8, 14⟩, ⟨0, 7, 13, 16⟩], ⟨0, 7, 18, 18⟩, [], rfl, (List.forall_mem_cons.mpr ⟨⟨by decide, "java/lang/IndexOutOfBoundsException", by decide, (bg_1 93 rfl rfl), by decide⟩, (List.forall_mem_cons.mpr ⟨⟨by decide, "java/lang/IllegalArgumentException", by decide, (bg_1 94 rfl rfl), by decide⟩, (fun _ h => nomatch h)⟩)⟩), by decide, by decide, (bg_1 95 rfl rfl), by decide, ⟨4, 20, by decide, (Or.inl ⟨(by decide +kernel), rfl⟩), (by decide +kernel), by decide, (by decide +kernel)⟩, w_eq (by decide) (by decide), rfl⟩
theorem hf_L_attach : ∀ (x : Int) (M : Mm) (r : Int × Mm), x ≠ 0 → (if x = 1 then some ((-97), M) else if x = 2 then some ((-98), M) else if x = 3 then some ((-99), M) else none) = some r → r.2 = M ∧ HandOK mu_L_attach 4 (exn x) r.1 := by
  intro x M r _ h
  by_cases q0 : x = 1
  · rw [if_pos q0] at h; cases h; subst q0; exact ⟨rfl, hk_L_attach_0⟩
  rw [if_neg q0] at h
  by_cases q1 : x = 2
  · rw [if_pos q1] at h; cases h; subst q1; exact ⟨rfl, hk_L_attach_1⟩
  rw [if_neg q1] at h
  by_cases q2 : x = 3
  · rw [if_pos q2] at h; cases h; subst q2; exact ⟨rfl, hk_L_attach_2⟩
  rw [if_neg q2] at h
  exact nomatch h
set_option maxRecDepth 20000 in
theorem mo_X10_commit : MOK mu_X10_commit 1 := ⟨(bg_1 1 rfl rfl), (bg_5 23 rfl rfl), by decide⟩
set_option maxRecDepth 20000 in
theorem mv_X10_commit : Cond.instanceMethod mu_X10_commit.1 ∈ Big ∧ Cond.selects mu_X10_commit.1.cls mu_X10_commit.1 mu_X10_commit.1 ∈ Big := ⟨(bg_5 21 rfl rfl), (bg_5 22 rfl rfl)⟩
set_option maxRecDepth 20000 in
theorem co_L_commit_65 : CallV mu_L_commit mu_X10_commit 65 1 10 := ⟨⟨(bg_5 20 rfl rfl), mo_X10_commit.1, mo_X10_commit.2.1, mo_X10_commit.2.2, by decide, by decide⟩, mv_X10_commit.1, mv_X10_commit.2, rfl, _, _, cls_10⟩
set_option maxRecDepth 20000 in
theorem hk_L_commit_0 : HandOK mu_L_commit 2 "java/lang/IndexOutOfBoundsException" (-97) := ⟨[], ⟨0, 5, 6, 14⟩, [⟨0, 5, 10, 16⟩, ⟨0, 5, 14, 18⟩], rfl, (fun _ h => nomatch h), by decide, by decide, (bg_1 93 rfl rfl), by decide, ⟨2, 7, by decide, (Or.inr ⟨2, rfl, (by decide +kernel), rfl⟩), (by decide +kernel), by decide, (by decide +kernel)⟩, w_eq (by decide) (by decide), rfl⟩
theorem hk_L_commit_1 : HandOK mu_L_commit 2 "java/lang/IllegalArgumentException" (-98) := ⟨[⟨0, 5, 6, 14⟩], ⟨0, 5, 10, 16⟩, [⟨0, 5, 14, 18⟩], rfl, (List.forall_mem_cons.mpr ⟨⟨by decide, "java/lang/IndexOutOfBoundsException", by decide, (bg_1 93 rfl rfl), by decide⟩, (fun _ h => nomatch h)⟩), by decide, by decide, (bg_1 94 rfl rfl), by decide, ⟨2, 11, by decide, (Or.inr ⟨2, rfl, (by decide +kernel), rfl⟩), (by decide +kernel), by decide, (by decide +kernel)⟩, w_eq (by decide) (by decide), rfl⟩
theorem hk_L_commit_2 : HandOK mu_L_commit 2 "java/lang/IllegalStateException" (-99) := ⟨[⟨0, 5, 6, 14⟩, ⟨0, 5, 10, 16⟩], ⟨0, 5, 14, 18⟩, [], rfl, (List.forall_mem_cons.mpr ⟨⟨by decide, "java/lang/IndexOutOfBoundsException", by decide, (bg_1 93 rfl rfl), by decide⟩, (List.forall_mem_cons.mpr ⟨⟨by decide, "java/lang/IllegalArgumentException", by decide, (bg_1 94 rfl rfl), by decide⟩, (fun _ h => nomatch h)⟩)⟩), by decide, by decide, (bg_1 95 rfl rfl), by decide, ⟨2, 15, by decide, (Or.inr ⟨2, rfl, (by decide +kernel), rfl⟩), (by decide +kernel), by decide, (by decide +kernel)⟩, w_eq (by decide) (by decide), rfl⟩
theorem hf_L_commit : ∀ (x : Int) (M : Mm) (r : Int × Mm), x ≠ 0 → (if x = 1 then some ((-97), M) else if x = 2 then some ((-98), M) else if x = 3 then some ((-99), M) else none) = some r → r.2 = M ∧ HandOK mu_L_commit 2 (exn x) r.1 := by
  intro x M r _ h
  by_cases q0 : x = 1
  · rw [if_pos q0] at h; cases h; subst q0; exact ⟨rfl, hk_L_commit_0⟩
  rw [if_neg q0] at h
  by_cases q1 : x = 2
  · rw [if_pos q1] at h; cases h; subst q1; exact ⟨rfl, hk_L_commit_1⟩
  rw [if_neg q1] at h
  by_cases q2 : x = 3
  · rw [if_pos q2] at h; cases h; subst q2; exact ⟨rfl, hk_L_commit_2⟩
  rw [if_neg q2] at h
  exact nomatch h
set_option maxRecDepth 20000 in
theorem mo_X10_abort : MOK mu_X10_abort 1 := ⟨(bg_1 1 rfl rfl), (bg_5 53 rfl rfl), by decide⟩
set_option maxRecDepth 20000 in
theorem mv_X10_abort : Cond.instanceMethod mu_X10_abort.1 ∈ Big ∧ Cond.selects mu_X10_abort.1.cls mu_X10_abort.1 mu_X10_abort.1 ∈ Big := ⟨(bg_5 51 rfl rfl), (bg_5 52 rfl rfl)⟩
set_option maxRecDepth 20000 in
theorem co_L_abort_68 : CallV mu_L_abort mu_X10_abort 68 1 10 := ⟨⟨(bg_5 50 rfl rfl), mo_X10_abort.1, mo_X10_abort.2.1, mo_X10_abort.2.2, by decide, by decide⟩, mv_X10_abort.1, mv_X10_abort.2, rfl, _, _, cls_10⟩
set_option maxRecDepth 20000 in
theorem hk_L_abort_0 : HandOK mu_L_abort 2 "java/lang/IndexOutOfBoundsException" (-97) := ⟨[], ⟨0, 5, 6, 14⟩, [⟨0, 5, 10, 16⟩, ⟨0, 5, 14, 18⟩], rfl, (fun _ h => nomatch h), by decide, by decide, (bg_1 93 rfl rfl), by decide, ⟨2, 7, by decide, (Or.inr ⟨2, rfl, (by decide +kernel), rfl⟩), (by decide +kernel), by decide, (by decide +kernel)⟩, w_eq (by decide) (by decide), rfl⟩
theorem hk_L_abort_1 : HandOK mu_L_abort 2 "java/lang/IllegalArgumentException" (-98) := ⟨[⟨0, 5, 6, 14⟩], ⟨0, 5, 10, 16⟩, [⟨0, 5, 14, 18⟩], rfl, (List.forall_mem_cons.mpr ⟨⟨by decide, "java/lang/IndexOutOfBoundsException", by decide, (bg_1 93 rfl rfl), by decide⟩, (fun _ h => nomatch h)⟩), by decide, by decide, (bg_1 94 rfl rfl), by decide, ⟨2, 11, by decide, (Or.inr ⟨2, rfl, (by decide +kernel), rfl⟩), (by decide +kernel), by decide, (by decide +kernel)⟩, w_eq (by decide) (by decide), rfl⟩
theorem hk_L_abort_2 : HandOK mu_L_abort 2 "java/lang/IllegalStateException" (-99) := ⟨[⟨0, 5, 6, 14⟩, ⟨0, 5, 10, 16⟩], ⟨0, 5, 14, 18⟩, [], rfl, (List.forall_mem_cons.mpr ⟨⟨by decide, "java/lang/IndexOutOfBoundsException", by decide, (bg_1 93 rfl rfl), by decide⟩, (List.forall_mem_cons.mpr ⟨⟨by decide, "java/lang/IllegalArgumentException", by decide, (bg_1 94 rfl rfl), by decide⟩, (fun _ h => nomatch h)⟩)⟩), by decide, by decide, (bg_1 95 rfl rfl), by decide, ⟨2, 15, by decide, (Or.inr ⟨2, rfl, (by decide +kernel), rfl⟩), (by decide +kernel), by decide, (by decide +kernel)⟩, w_eq (by decide) (by decide), rfl⟩
theorem hf_L_abort : ∀ (x : Int) (M : Mm) (r : Int × Mm), x ≠ 0 → (if x = 1 then some ((-97), M) else if x = 2 then some ((-98), M) else if x = 3 then some ((-99), M) else none) = some r → r.2 = M ∧ HandOK mu_L_abort 2 (exn x) r.1 := by
  intro x M r _ h
  by_cases q0 : x = 1
  · rw [if_pos q0] at h; cases h; subst q0; exact ⟨rfl, hk_L_abort_0⟩
  rw [if_neg q0] at h
  by_cases q1 : x = 2
  · rw [if_pos q1] at h; cases h; subst q1; exact ⟨rfl, hk_L_abort_1⟩
  rw [if_neg q1] at h
  by_cases q2 : x = 3
  · rw [if_pos q2] at h; cases h; subst q2; exact ⟨rfl, hk_L_abort_2⟩
  rw [if_neg q2] at h
  exact nomatch h
set_option maxRecDepth 20000 in
theorem mo_X10_group : MOK mu_X10_group 1 := ⟨(bg_1 1 rfl rfl), (bg_2 104 rfl rfl), by decide⟩
set_option maxRecDepth 20000 in
theorem mv_X10_group : Cond.instanceMethod mu_X10_group.1 ∈ Big ∧ Cond.selects mu_X10_group.1.cls mu_X10_group.1 mu_X10_group.1 ∈ Big := ⟨(bg_2 102 rfl rfl), (bg_2 103 rfl rfl)⟩
set_option maxRecDepth 20000 in
theorem co_L_group_71 : CallV mu_L_group mu_X10_group 71 1 10 := ⟨⟨(bg_2 101 rfl rfl), mo_X10_group.1, mo_X10_group.2.1, mo_X10_group.2.2, by decide, by decide⟩, mv_X10_group.1, mv_X10_group.2, rfl, _, _, cls_10⟩
set_option maxRecDepth 20000 in
theorem hk_L_group_0 : HandOK mu_L_group 2 "java/lang/IndexOutOfBoundsException" (-97) := ⟨[], ⟨0, 5, 6, 14⟩, [⟨0, 5, 10, 16⟩, ⟨0, 5, 14, 18⟩], rfl, (fun _ h => nomatch h), by decide, by decide, (bg_1 93 rfl rfl), by decide, ⟨2, 7, by decide, (Or.inr ⟨2, rfl, (by decide +kernel), rfl⟩), (by decide +kernel), by decide, (by decide +kernel)⟩, w_eq (by decide) (by decide), rfl⟩
theorem hk_L_group_1 : HandOK mu_L_group 2 "java/lang/IllegalArgumentException" (-98) := ⟨[⟨0, 5, 6, 14⟩], ⟨0, 5, 10, 16⟩, [⟨0, 5, 14, 18⟩], rfl, (List.forall_mem_cons.mpr ⟨⟨by decide, "java/lang/IndexOutOfBoundsException", by decide, (bg_1 93 rfl rfl), by decide⟩, (fun _ h => nomatch h)⟩), by decide, by decide, (bg_1 94 rfl rfl), by decide, ⟨2, 11, by decide, (Or.inr ⟨2, rfl, (by decide +kernel), rfl⟩), (by decide +kernel), by decide, (by decide +kernel)⟩, w_eq (by decide) (by decide), rfl⟩
theorem hk_L_group_2 : HandOK mu_L_group 2 "java/lang/IllegalStateException" (-99) := ⟨[⟨0, 5, 6, 14⟩, ⟨0, 5, 10, 16⟩], ⟨0, 5, 14, 18⟩, [], rfl, (List.forall_mem_cons.mpr ⟨⟨by decide, "java/lang/IndexOutOfBoundsException", by decide, (bg_1 93 rfl rfl), by decide⟩, (List.forall_mem_cons.mpr ⟨⟨by decide, "java/lang/IllegalArgumentException", by decide, (bg_1 94 rfl rfl), by decide⟩, (fun _ h => nomatch h)⟩)⟩), by decide, by decide, (bg_1 95 rfl rfl), by decide, ⟨2, 15, by decide, (Or.inr ⟨2, rfl, (by decide +kernel), rfl⟩), (by decide +kernel), by decide, (by decide +kernel)⟩, w_eq (by decide) (by decide), rfl⟩
theorem hf_L_group : ∀ (x : Int) (M : Mm) (r : Int × Mm), x ≠ 0 → (if x = 1 then some ((-97), M) else if x = 2 then some ((-98), M) else if x = 3 then some ((-99), M) else none) = some r → r.2 = M ∧ HandOK mu_L_group 2 (exn x) r.1 := by
  intro x M r _ h
  by_cases q0 : x = 1
  · rw [if_pos q0] at h; cases h; subst q0; exact ⟨rfl, hk_L_group_0⟩
  rw [if_neg q0] at h
  by_cases q1 : x = 2
  · rw [if_pos q1] at h; cases h; subst q1; exact ⟨rfl, hk_L_group_1⟩
  rw [if_neg q1] at h
  by_cases q2 : x = 3
  · rw [if_pos q2] at h; cases h; subst q2; exact ⟨rfl, hk_L_group_2⟩
  rw [if_neg q2] at h
  exact nomatch h
set_option maxRecDepth 20000 in
theorem mo_X10_join : MOK mu_X10_join 1 := ⟨(bg_1 1 rfl rfl), (bg_2 222 rfl rfl), by decide⟩
set_option maxRecDepth 20000 in
theorem mv_X10_join : Cond.instanceMethod mu_X10_join.1 ∈ Big ∧ Cond.selects mu_X10_join.1.cls mu_X10_join.1 mu_X10_join.1 ∈ Big := ⟨(bg_2 220 rfl rfl), (bg_2 221 rfl rfl)⟩
set_option maxRecDepth 20000 in
theorem co_L_join_74 : CallV mu_L_join mu_X10_join 74 1 10 := ⟨⟨(bg_2 219 rfl rfl), mo_X10_join.1, mo_X10_join.2.1, mo_X10_join.2.2, by decide, by decide⟩, mv_X10_join.1, mv_X10_join.2, rfl, _, _, cls_10⟩
set_option maxRecDepth 20000 in
theorem hk_L_join_0 : HandOK mu_L_join 2 "java/lang/IndexOutOfBoundsException" (-97) := ⟨[], ⟨0, 5, 6, 14⟩, [⟨0, 5, 10, 16⟩, ⟨0, 5, 14, 18⟩], rfl, (fun _ h => nomatch h), by decide, by decide, (bg_1 93 rfl rfl), by decide, ⟨2, 7, by decide, (Or.inr ⟨2, rfl, (by decide +kernel), rfl⟩), (by decide +kernel), by decide, (by decide +kernel)⟩, w_eq (by decide) (by decide), rfl⟩
theorem hk_L_join_1 : HandOK mu_L_join 2 "java/lang/IllegalArgumentException" (-98) := ⟨[⟨0, 5, 6, 14⟩], ⟨0, 5, 10, 16⟩, [⟨0, 5, 14, 18⟩], rfl, (List.forall_mem_cons.mpr ⟨⟨by decide, "java/lang/IndexOutOfBoundsException", by decide, (bg_1 93 rfl rfl), by decide⟩, (fun _ h => nomatch h)⟩), by decide, by decide, (bg_1 94 rfl rfl), by decide, ⟨2, 11, by decide, (Or.inr ⟨2, rfl, (by decide +kernel), rfl⟩), (by decide +kernel), by decide, (by decide +kernel)⟩, w_eq (by decide) (by decide), rfl⟩
theorem hk_L_join_2 : HandOK mu_L_join 2 "java/lang/IllegalStateException" (-99) := ⟨[⟨0, 5, 6, 14⟩, ⟨0, 5, 10, 16⟩], ⟨0, 5, 14, 18⟩, [], rfl, (List.forall_mem_cons.mpr ⟨⟨by decide, "java/lang/IndexOutOfBoundsException", by decide, (bg_1 93 rfl rfl), by decide⟩, (List.forall_mem_cons.mpr ⟨⟨by decide, "java/lang/IllegalArgumentException", by decide, (bg_1 94 rfl rfl), by decide⟩, (fun _ h => nomatch h)⟩)⟩), by decide, by decide, (bg_1 95 rfl rfl), by decide, ⟨2, 15, by decide, (Or.inr ⟨2, rfl, (by decide +kernel), rfl⟩), (by decide +kernel), by decide, (by decide +kernel)⟩, w_eq (by decide) (by decide), rfl⟩
theorem hf_L_join : ∀ (x : Int) (M : Mm) (r : Int × Mm), x ≠ 0 → (if x = 1 then some ((-97), M) else if x = 2 then some ((-98), M) else if x = 3 then some ((-99), M) else none) = some r → r.2 = M ∧ HandOK mu_L_join 2 (exn x) r.1 := by
  intro x M r _ h
  by_cases q0 : x = 1
  · rw [if_pos q0] at h; cases h; subst q0; exact ⟨rfl, hk_L_join_0⟩
  rw [if_neg q0] at h
  by_cases q1 : x = 2
  · rw [if_pos q1] at h; cases h; subst q1; exact ⟨rfl, hk_L_join_1⟩
  rw [if_neg q1] at h
  by_cases q2 : x = 3
  · rw [if_pos q2] at h; cases h; subst q2; exact ⟨rfl, hk_L_join_2⟩
  rw [if_neg q2] at h
  exact nomatch h
set_option maxRecDepth 20000 in
theorem mo_X10_leave : MOK mu_X10_leave 2 := ⟨(bg_1 1 rfl rfl), (bg_5 208 rfl rfl), by decide⟩
set_option maxRecDepth 20000 in
theorem mv_X10_leave : Cond.instanceMethod mu_X10_leave.1 ∈ Big ∧ Cond.selects mu_X10_leave.1.cls mu_X10_leave.1 mu_X10_leave.1 ∈ Big := ⟨(bg_5 206 rfl rfl), (bg_5 207 rfl rfl)⟩
set_option maxRecDepth 20000 in
theorem co_L_leave_77 : CallV mu_L_leave mu_X10_leave 77 2 10 := ⟨⟨(bg_5 205 rfl rfl), mo_X10_leave.1, mo_X10_leave.2.1, mo_X10_leave.2.2, by decide, by decide⟩, mv_X10_leave.1, mv_X10_leave.2, rfl, _, _, cls_10⟩
set_option maxRecDepth 20000 in
theorem hk_L_leave_0 : HandOK mu_L_leave 3 "java/lang/IndexOutOfBoundsException" (-97) := ⟨[], ⟨0, 6, 7, 14⟩, [⟨0, 6, 11, 16⟩, ⟨0, 6, 15, 18⟩], rfl, (fun _ h => nomatch h), by decide, by decide, (bg_1 93 rfl rfl), by decide, ⟨3, 8, by decide, (Or.inr ⟨3, rfl, (by decide +kernel), rfl⟩), (by decide +kernel), by decide, (by decide +kernel)⟩, w_eq (by decide) (by decide), rfl⟩
theorem hk_L_leave_1 : HandOK mu_L_leave 3 "java/lang/IllegalArgumentException" (-98) := ⟨[⟨0, 6, 7, 14⟩], ⟨0, 6, 11, 16⟩, [⟨0, 6, 15, 18⟩], rfl, (List.forall_mem_cons.mpr ⟨⟨by decide, "java/lang/IndexOutOfBoundsException", by decide, (bg_1 93 rfl rfl), by decide⟩, (fun _ h => nomatch h)⟩), by decide, by decide, (bg_1 94 rfl rfl), by decide, ⟨3, 12, by decide, (Or.inr ⟨3, rfl, (by decide +kernel), rfl⟩), (by decide +kernel), by decide, (by decide +kernel)⟩, w_eq (by decide) (by decide), rfl⟩
theorem hk_L_leave_2 : HandOK mu_L_leave 3 "java/lang/IllegalStateException" (-99) := ⟨[⟨0, 6, 7, 14⟩, ⟨0, 6, 11, 16⟩], ⟨0, 6, 15, 18⟩, [], rfl, (List.forall_mem_cons.mpr ⟨⟨by decide, "java/lang/IndexOutOfBoundsException", by decide, (bg_1 93 rfl rfl), by decide⟩, (List.forall_mem_cons.mpr ⟨⟨by decide, "java/lang/IllegalArgumentException", by decide, (bg_1 94 rfl rfl), by decide⟩, (fun _ h => nomatch h)⟩)⟩), by decide, by decide, (bg_1 95 rfl rfl), by decide, ⟨3, 16, by decide, (Or.inr ⟨3, rfl, (by decide +kernel), rfl⟩), (by decide +kernel), by decide, (by decide +kernel)⟩, w_eq (by decide) (by decide), rfl⟩
theorem hf_L_leave : ∀ (x : Int) (M : Mm) (r : Int × Mm), x ≠ 0 → (if x = 1 then some ((-97), M) else if x = 2 then some ((-98), M) else if x = 3 then some ((-99), M) else none) = some r → r.2 = M ∧ HandOK mu_L_leave 3 (exn x) r.1 := by
  intro x M r _ h
  by_cases q0 : x = 1
  · rw [if_pos q0] at h; cases h; subst q0; exact ⟨rfl, hk_L_leave_0⟩
  rw [if_neg q0] at h
  by_cases q1 : x = 2
  · rw [if_pos q1] at h; cases h; subst q1; exact ⟨rfl, hk_L_leave_1⟩
  rw [if_neg q1] at h
  by_cases q2 : x = 3
  · rw [if_pos q2] at h; cases h; subst q2; exact ⟨rfl, hk_L_leave_2⟩
  rw [if_neg q2] at h
  exact nomatch h
set_option maxRecDepth 20000 in
theorem mo_X10_beat : MOK mu_X10_beat 2 := ⟨(bg_1 1 rfl rfl), (bg_3 83 rfl rfl), by decide⟩
set_option maxRecDepth 20000 in
theorem mv_X10_beat : Cond.instanceMethod mu_X10_beat.1 ∈ Big ∧ Cond.selects mu_X10_beat.1.cls mu_X10_beat.1 mu_X10_beat.1 ∈ Big := ⟨(bg_3 81 rfl rfl), (bg_3 82 rfl rfl)⟩
set_option maxRecDepth 20000 in
theorem co_L_beat_80 : CallV mu_L_beat mu_X10_beat 80 2 10 := ⟨⟨(bg_3 80 rfl rfl), mo_X10_beat.1, mo_X10_beat.2.1, mo_X10_beat.2.2, by decide, by decide⟩, mv_X10_beat.1, mv_X10_beat.2, rfl, _, _, cls_10⟩
set_option maxRecDepth 20000 in
theorem hk_L_beat_0 : HandOK mu_L_beat 3 "java/lang/IndexOutOfBoundsException" (-97) := ⟨[], ⟨0, 6, 7, 14⟩, [⟨0, 6, 11, 16⟩, ⟨0, 6, 15, 18⟩], rfl, (fun _ h => nomatch h), by decide, by decide, (bg_1 93 rfl rfl), by decide, ⟨3, 8, by decide, (Or.inr ⟨3, rfl, (by decide +kernel), rfl⟩), (by decide +kernel), by decide, (by decide +kernel)⟩, w_eq (by decide) (by decide), rfl⟩
theorem hk_L_beat_1 : HandOK mu_L_beat 3 "java/lang/IllegalArgumentException" (-98) := ⟨[⟨0, 6, 7, 14⟩], ⟨0, 6, 11, 16⟩, [⟨0, 6, 15, 18⟩], rfl, (List.forall_mem_cons.mpr ⟨⟨by decide, "java/lang/IndexOutOfBoundsException", by decide, (bg_1 93 rfl rfl), by decide⟩, (fun _ h => nomatch h)⟩), by decide, by decide, (bg_1 94 rfl rfl), by decide, ⟨3, 12, by decide, (Or.inr ⟨3, rfl, (by decide +kernel), rfl⟩), (by decide +kernel), by decide, (by decide +kernel)⟩, w_eq (by decide) (by decide), rfl⟩
theorem hk_L_beat_2 : HandOK mu_L_beat 3 "java/lang/IllegalStateException" (-99) := ⟨[⟨0, 6, 7, 14⟩, ⟨0, 6, 11, 16⟩], ⟨0, 6, 15, 18⟩, [], rfl, (List.forall_mem_cons.mpr ⟨⟨by decide, "java/lang/IndexOutOfBoundsException", by decide, (bg_1 93 rfl rfl), by decide⟩, (List.forall_mem_cons.mpr ⟨⟨by decide, "java/lang/IllegalArgumentException", by decide, (bg_1 94 rfl rfl), by decide⟩, (fun _ h => nomatch h)⟩)⟩), by decide, by decide, (bg_1 95 rfl rfl), by decide, ⟨3, 16, by decide, (Or.inr ⟨3, rfl, (by decide +kernel), rfl⟩), (by decide +kernel), by decide, (by decide +kernel)⟩, w_eq (by decide) (by decide), rfl⟩
theorem hf_L_beat : ∀ (x : Int) (M : Mm) (r : Int × Mm), x ≠ 0 → (if x = 1 then some ((-97), M) else if x = 2 then some ((-98), M) else if x = 3 then some ((-99), M) else none) = some r → r.2 = M ∧ HandOK mu_L_beat 3 (exn x) r.1 := by
  intro x M r _ h
  by_cases q0 : x = 1
  · rw [if_pos q0] at h; cases h; subst q0; exact ⟨rfl, hk_L_beat_0⟩
  rw [if_neg q0] at h
  by_cases q1 : x = 2
  · rw [if_pos q1] at h; cases h; subst q1; exact ⟨rfl, hk_L_beat_1⟩
  rw [if_neg q1] at h
  by_cases q2 : x = 3
  · rw [if_pos q2] at h; cases h; subst q2; exact ⟨rfl, hk_L_beat_2⟩
  rw [if_neg q2] at h
  exact nomatch h
set_option maxRecDepth 20000 in
theorem mo_X10_read : MOK mu_X10_read 2 := ⟨(bg_1 1 rfl rfl), (bg_3 217 rfl rfl), by decide⟩
set_option maxRecDepth 20000 in
theorem mv_X10_read : Cond.instanceMethod mu_X10_read.1 ∈ Big ∧ Cond.selects mu_X10_read.1.cls mu_X10_read.1 mu_X10_read.1 ∈ Big := ⟨(bg_3 215 rfl rfl), (bg_3 216 rfl rfl)⟩
set_option maxRecDepth 20000 in
theorem co_L_read_83 : CallV mu_L_read mu_X10_read 83 2 10 := ⟨⟨(bg_3 214 rfl rfl), mo_X10_read.1, mo_X10_read.2.1, mo_X10_read.2.2, by decide, by decide⟩, mv_X10_read.1, mv_X10_read.2, rfl, _, _, cls_10⟩
set_option maxRecDepth 20000 in
theorem hk_L_read_0 : HandOK mu_L_read 3 "java/lang/IndexOutOfBoundsException" (-97) := ⟨[], ⟨0, 6, 7, 14⟩, [⟨0, 6, 11, 16⟩, ⟨0, 6, 15, 18⟩], rfl, (fun _ h => nomatch h), by decide, by decide, (bg_1 93 rfl rfl), by decide, ⟨3, 8, by decide, (Or.inr ⟨3, rfl, (by decide +kernel), rfl⟩), (by decide +kernel), by decide, (by decide +kernel)⟩, w_eq (by decide) (by decide), rfl⟩
theorem hk_L_read_1 : HandOK mu_L_read 3 "java/lang/IllegalArgumentException" (-98) := ⟨[⟨0, 6, 7, 14⟩], ⟨0, 6, 11, 16⟩, [⟨0, 6, 15, 18⟩], rfl, (List.forall_mem_cons.mpr ⟨⟨by decide, "java/lang/IndexOutOfBoundsException", by decide, (bg_1 93 rfl rfl), by decide⟩, (fun _ h => nomatch h)⟩), by decide, by decide, (bg_1 94 rfl rfl), by decide, ⟨3, 12, by decide, (Or.inr ⟨3, rfl, (by decide +kernel), rfl⟩), (by decide +kernel), by decide, (by decide +kernel)⟩, w_eq (by decide) (by decide), rfl⟩
theorem hk_L_read_2 : HandOK mu_L_read 3 "java/lang/IllegalStateException" (-99) := ⟨[⟨0, 6, 7, 14⟩, ⟨0, 6, 11, 16⟩], ⟨0, 6, 15, 18⟩, [], rfl, (List.forall_mem_cons.mpr ⟨⟨by decide, "java/lang/IndexOutOfBoundsException", by decide, (bg_1 93 rfl rfl), by decide⟩, (List.forall_mem_cons.mpr ⟨⟨by decide, "java/lang/IllegalArgumentException", by decide, (bg_1 94 rfl rfl), by decide⟩, (fun _ h => nomatch h)⟩)⟩), by decide, by decide, (bg_1 95 rfl rfl), by decide, ⟨3, 16, by decide, (Or.inr ⟨3, rfl, (by decide +kernel), rfl⟩), (by decide +kernel), by decide, (by decide +kernel)⟩, w_eq (by decide) (by decide), rfl⟩
theorem hf_L_read : ∀ (x : Int) (M : Mm) (r : Int × Mm), x ≠ 0 → (if x = 1 then some ((-97), M) else if x = 2 then some ((-98), M) else if x = 3 then some ((-99), M) else none) = some r → r.2 = M ∧ HandOK mu_L_read 3 (exn x) r.1 := by
  intro x M r _ h
  by_cases q0 : x = 1
  · rw [if_pos q0] at h; cases h; subst q0; exact ⟨rfl, hk_L_read_0⟩
  rw [if_neg q0] at h
  by_cases q1 : x = 2
  · rw [if_pos q1] at h; cases h; subst q1; exact ⟨rfl, hk_L_read_1⟩
  rw [if_neg q1] at h
  by_cases q2 : x = 3
  · rw [if_pos q2] at h; cases h; subst q2; exact ⟨rfl, hk_L_read_2⟩
  rw [if_neg q2] at h
  exact nomatch h
set_option maxRecDepth 20000 in
theorem mo_X10_done : MOK mu_X10_done 3 := ⟨(bg_1 1 rfl rfl), (bg_6 12 rfl rfl), by decide⟩
set_option maxRecDepth 20000 in
theorem mv_X10_done : Cond.instanceMethod mu_X10_done.1 ∈ Big ∧ Cond.selects mu_X10_done.1.cls mu_X10_done.1 mu_X10_done.1 ∈ Big := ⟨(bg_6 10 rfl rfl), (bg_6 11 rfl rfl)⟩
set_option maxRecDepth 20000 in
theorem co_L_done_86 : CallV mu_L_done mu_X10_done 86 3 10 := ⟨⟨(bg_6 9 rfl rfl), mo_X10_done.1, mo_X10_done.2.1, mo_X10_done.2.2, by decide, by decide⟩, mv_X10_done.1, mv_X10_done.2, rfl, _, _, cls_10⟩
set_option maxRecDepth 20000 in
theorem hk_L_done_0 : HandOK mu_L_done 4 "java/lang/IndexOutOfBoundsException" (-97) := ⟨[], ⟨0, 7, 8, 14⟩, [⟨0, 7, 13, 16⟩, ⟨0, 7, 18, 18⟩], rfl, (fun _ h => nomatch h), by decide, by decide, (bg_1 93 rfl rfl), by decide, ⟨4, 10, by decide, (Or.inl ⟨(by decide +kernel), rfl⟩), (by decide +kernel), by decide, (by decide +kernel)⟩, w_eq (by decide) (by decide), rfl⟩
theorem hk_L_done_1 : HandOK mu_L_done 4 "java/lang/IllegalArgumentException" (-98) := ⟨[⟨0, 7, 8, 14⟩], ⟨0, 7, 13, 16⟩, [⟨0, 7, 18, 18⟩], rfl, (List.forall_mem_cons.mpr ⟨⟨by decide, "java/lang/IndexOutOfBoundsException", by decide, (bg_1 93 rfl rfl), by decide⟩, (fun _ h => nomatch h)⟩), by decide, by decide, (bg_1 94 rfl rfl), by decide, ⟨4, 15, by decide, (Or.inl ⟨(by decide +kernel), rfl⟩), (by decide +kernel), by decide, (by decide +kernel)⟩, w_eq (by decide) (by decide), rfl⟩
theorem hk_L_done_2 : HandOK mu_L_done 4 "java/lang/IllegalStateException" (-99) := ⟨[⟨0, 7, 8, 14⟩, ⟨0, 7, 13, 16⟩], ⟨0, 7, 18, 18⟩, [], rfl, (List.forall_mem_cons.mpr ⟨⟨by decide, "java/lang/IndexOutOfBoundsException", by decide, (bg_1 93 rfl rfl), by decide⟩, (List.forall_mem_cons.mpr ⟨⟨by decide, "java/lang/IllegalArgumentException", by decide, (bg_1 94 rfl rfl), by decide⟩, (fun _ h => nomatch h)⟩)⟩), by decide, by decide, (bg_1 95 rfl rfl), by decide, ⟨4, 20, by decide, (Or.inl ⟨(by decide +kernel), rfl⟩), (by decide +kernel), by decide, (by decide +kernel)⟩, w_eq (by decide) (by decide), rfl⟩
theorem hf_L_done : ∀ (x : Int) (M : Mm) (r : Int × Mm), x ≠ 0 → (if x = 1 then some ((-97), M) else if x = 2 then some ((-98), M) else if x = 3 then some ((-99), M) else none) = some r → r.2 = M ∧ HandOK mu_L_done 4 (exn x) r.1 := by
  intro x M r _ h
  by_cases q0 : x = 1
  · rw [if_pos q0] at h; cases h; subst q0; exact ⟨rfl, hk_L_done_0⟩
  rw [if_neg q0] at h
  by_cases q1 : x = 2
  · rw [if_pos q1] at h; cases h; subst q1; exact ⟨rfl, hk_L_done_1⟩
  rw [if_neg q1] at h
  by_cases q2 : x = 3
  · rw [if_pos q2] at h; cases h; subst q2; exact ⟨rfl, hk_L_done_2⟩
  rw [if_neg q2] at h
  exact nomatch h
set_option maxRecDepth 20000 in
theorem mo_X10_retry : MOK mu_X10_retry 3 := ⟨(bg_1 1 rfl rfl), (bg_5 228 rfl rfl), by decide⟩
set_option maxRecDepth 20000 in
theorem mv_X10_retry : Cond.instanceMethod mu_X10_retry.1 ∈ Big ∧ Cond.selects mu_X10_retry.1.cls mu_X10_retry.1 mu_X10_retry.1 ∈ Big := ⟨(bg_5 226 rfl rfl), (bg_5 227 rfl rfl)⟩
set_option maxRecDepth 20000 in
theorem co_L_retry_89 : CallV mu_L_retry mu_X10_retry 89 3 10 := ⟨⟨(bg_5 225 rfl rfl), mo_X10_retry.1, mo_X10_retry.2.1, mo_X10_retry.2.2, by decide, by decide⟩, mv_X10_retry.1, mv_X10_retry.2, rfl, _, _, cls_10⟩
set_option maxRecDepth 20000 in
theorem hk_L_retry_0 : HandOK mu_L_retry 4 "java/lang/IndexOutOfBoundsException" (-97) := ⟨[], ⟨0, 7, 8, 14⟩, [⟨0, 7, 13, 16⟩, ⟨0, 7, 18, 18⟩], rfl, (fun _ h => nomatch h), by decide, by decide, (bg_1 93 rfl rfl), by decide, ⟨4, 10, by decide, (Or.inl ⟨(by decide +kernel), rfl⟩), (by decide +kernel), by decide, (by decide +kernel)⟩, w_eq (by decide) (by decide), rfl⟩
theorem hk_L_retry_1 : HandOK mu_L_retry 4 "java/lang/IllegalArgumentException" (-98) := ⟨[⟨0, 7, 8, 14⟩], ⟨0, 7, 13, 16⟩, [⟨0, 7, 18, 18⟩], rfl, (List.forall_mem_cons.mpr ⟨⟨by decide, "java/lang/IndexOutOfBoundsException", by decide, (bg_1 93 rfl rfl), by decide⟩, (fun _ h => nomatch h)⟩), by decide, by decide, (bg_1 94 rfl rfl), by decide, ⟨4, 15, by decide, (Or.inl ⟨(by decide +kernel), rfl⟩), (by decide +kernel), by decide, (by decide +kernel)⟩, w_eq (by decide) (by decide), rfl⟩
theorem hk_L_retry_2 : HandOK mu_L_retry 4 "java/lang/IllegalStateException" (-99) := ⟨[⟨0, 7, 8, 14⟩, ⟨0, 7, 13, 16⟩], ⟨0, 7, 18, 18⟩, [], rfl, (List.forall_mem_cons.mpr ⟨⟨by decide, "java/lang/IndexOutOfBoundsException", by decide, (bg_1 93 rfl rfl), by decide⟩, (List.forall_mem_cons.mpr ⟨⟨by decide, "java/lang/IllegalArgumentException", by decide, (bg_1 94 rfl rfl), by decide⟩, (fun _ h => nomatch h)⟩)⟩), by decide, by decide, (bg_1 95 rfl rfl), by decide, ⟨4, 20, by decide, (Or.inl ⟨(by decide +kernel), rfl⟩), (by decide +kernel), by decide, (by decide +kernel)⟩, w_eq (by decide) (by decide), rfl⟩
theorem hf_L_retry : ∀ (x : Int) (M : Mm) (r : Int × Mm), x ≠ 0 → (if x = 1 then some ((-97), M) else if x = 2 then some ((-98), M) else if x = 3 then some ((-99), M) else none) = some r → r.2 = M ∧ HandOK mu_L_retry 4 (exn x) r.1 := by
  intro x M r _ h
  by_cases q0 : x = 1
  · rw [if_pos q0] at h; cases h; subst q0; exact ⟨rfl, hk_L_retry_0⟩
  rw [if_neg q0] at h
  by_cases q1 : x = 2
  · rw [if_pos q1] at h; cases h; subst q1; exact ⟨rfl, hk_L_retry_1⟩
  rw [if_neg q1] at h
  by_cases q2 : x = 3
  · rw [if_pos q2] at h; cases h; subst q2; exact ⟨rfl, hk_L_retry_2⟩
  rw [if_neg q2] at h
  exact nomatch h
set_option maxRecDepth 20000 in
theorem mo_X10_commitOffsets : MOK mu_X10_commitOffsets 2 := ⟨(bg_1 1 rfl rfl), (bg_5 216 rfl rfl), by decide⟩
set_option maxRecDepth 20000 in
theorem mv_X10_commitOffsets : Cond.instanceMethod mu_X10_commitOffsets.1 ∈ Big ∧ Cond.selects mu_X10_commitOffsets.1.cls mu_X10_commitOffsets.1 mu_X10_commitOffsets.1 ∈ Big := ⟨(bg_5 214 rfl rfl), (bg_5 215 rfl rfl)⟩
set_option maxRecDepth 20000 in
theorem co_L_commitOffsets_92 : CallV mu_L_commitOffsets mu_X10_commitOffsets 92 2 10 := ⟨⟨(bg_5 213 rfl rfl), mo_X10_commitOffsets.1, mo_X10_commitOffsets.2.1, mo_X10_commitOffsets.2.2, by decide, by decide⟩, mv_X10_commitOffsets.1, mv_X10_commitOffsets.2, rfl, _, _, cls_10⟩
set_option maxRecDepth 20000 in
theorem hk_L_commitOffsets_0 : HandOK mu_L_commitOffsets 3 "java/lang/IndexOutOfBoundsException" (-97) := ⟨[], ⟨0, 6, 7, 14⟩, [⟨0, 6, 11, 16⟩, ⟨0, 6, 15, 18⟩], rfl, (fun _ h => nomatch h), by decide, by decide, (bg_1 93 rfl rfl), by decide, ⟨3, 8, by decide, (Or.inr ⟨3, rfl, (by decide +kernel), rfl⟩), (by decide +kernel), by decide, (by decide +kernel)⟩, w_eq (by decide) (by decide), rfl⟩
theorem hk_L_commitOffsets_1 : HandOK mu_L_commitOffsets 3 "java/lang/IllegalArgumentException" (-98) := ⟨[⟨0, 6, 7, 14⟩], ⟨0, 6, 11, 16⟩, [⟨0, 6, 15, 18⟩], rfl, (List.forall_mem_cons.mpr ⟨⟨by decide, "java/lang/IndexOutOfBoundsException", by decide, (bg_1 93 rfl rfl), by decide⟩, (fun _ h => nomatch h)⟩), by decide, by decide, (bg_1 94 rfl rfl), by decide, ⟨3, 12, by decide, (Or.inr ⟨3, rfl, (by decide +kernel), rfl⟩), (by decide +kernel), by decide, (by decide +kernel)⟩, w_eq (by decide) (by decide), rfl⟩
theorem hk_L_commitOffsets_2 : HandOK mu_L_commitOffsets 3 "java/lang/IllegalStateException" (-99) := ⟨[⟨0, 6, 7, 14⟩, ⟨0, 6, 11, 16⟩], ⟨0, 6, 15, 18⟩, [], rfl, (List.forall_mem_cons.mpr ⟨⟨by decide, "java/lang/IndexOutOfBoundsException", by decide, (bg_1 93 rfl rfl), by decide⟩, (List.forall_mem_cons.mpr ⟨⟨by decide, "java/lang/IllegalArgumentException", by decide, (bg_1 94 rfl rfl), by decide⟩, (fun _ h => nomatch h)⟩)⟩), by decide, by decide, (bg_1 95 rfl rfl), by decide, ⟨3, 16, by decide, (Or.inr ⟨3, rfl, (by decide +kernel), rfl⟩), (by decide +kernel), by decide, (by decide +kernel)⟩, w_eq (by decide) (by decide), rfl⟩
theorem hf_L_commitOffsets : ∀ (x : Int) (M : Mm) (r : Int × Mm), x ≠ 0 → (if x = 1 then some ((-97), M) else if x = 2 then some ((-98), M) else if x = 3 then some ((-99), M) else none) = some r → r.2 = M ∧ HandOK mu_L_commitOffsets 3 (exn x) r.1 := by
  intro x M r _ h
  by_cases q0 : x = 1
  · rw [if_pos q0] at h; cases h; subst q0; exact ⟨rfl, hk_L_commitOffsets_0⟩
  rw [if_neg q0] at h
  by_cases q1 : x = 2
  · rw [if_pos q1] at h; cases h; subst q1; exact ⟨rfl, hk_L_commitOffsets_1⟩
  rw [if_neg q1] at h
  by_cases q2 : x = 3
  · rw [if_pos q2] at h; cases h; subst q2; exact ⟨rfl, hk_L_commitOffsets_2⟩
  rw [if_neg q2] at h
  exact nomatch h
set_option maxRecDepth 20000 in
theorem mo_X10_message : MOK mu_X10_message 2 := ⟨(bg_1 1 rfl rfl), (bg_3 129 rfl rfl), by decide⟩
set_option maxRecDepth 20000 in
theorem mv_X10_message : Cond.instanceMethod mu_X10_message.1 ∈ Big ∧ Cond.selects mu_X10_message.1.cls mu_X10_message.1 mu_X10_message.1 ∈ Big := ⟨(bg_3 127 rfl rfl), (bg_3 128 rfl rfl)⟩
set_option maxRecDepth 20000 in
theorem co_L_message_95 : CallV mu_L_message mu_X10_message 95 2 10 := ⟨⟨(bg_3 126 rfl rfl), mo_X10_message.1, mo_X10_message.2.1, mo_X10_message.2.2, by decide, by decide⟩, mv_X10_message.1, mv_X10_message.2, rfl, _, _, cls_10⟩
set_option maxRecDepth 20000 in
theorem hk_L_message_0 : HandOK mu_L_message 3 "java/lang/IndexOutOfBoundsException" (-97) := ⟨[], ⟨0, 6, 7, 14⟩, [⟨0, 6, 11, 16⟩, ⟨0, 6, 15, 18⟩], rfl, (fun _ h => nomatch h), by decide, by decide, (bg_1 93 rfl rfl), by decide, ⟨3, 8, by decide, (Or.inr ⟨3, rfl, (by decide +kernel), rfl⟩), (by decide +kernel), by decide, (by decide +kernel)⟩, w_eq (by decide) (by decide), rfl⟩
theorem hk_L_message_1 : HandOK mu_L_message 3 "java/lang/IllegalArgumentException" (-98) := ⟨[⟨0, 6, 7, 14⟩], ⟨0, 6, 11, 16⟩, [⟨0, 6, 15, 18⟩], rfl, (List.forall_mem_cons.mpr ⟨⟨by decide, "java/lang/IndexOutOfBoundsException", by decide, (bg_1 93 rfl rfl), by decide⟩, (fun _ h => nomatch h)⟩), by decide, by decide, (bg_1 94 rfl rfl), by decide, ⟨3, 12, by decide, (Or.inr ⟨3, rfl, (by decide +kernel), rfl⟩), (by decide +kernel), by decide, (by decide +kernel)⟩, w_eq (by decide) (by decide), rfl⟩
theorem hk_L_message_2 : HandOK mu_L_message 3 "java/lang/IllegalStateException" (-99) := ⟨[⟨0, 6, 7, 14⟩, ⟨0, 6, 11, 16⟩], ⟨0, 6, 15, 18⟩, [], rfl, (List.forall_mem_cons.mpr ⟨⟨by decide, "java/lang/IndexOutOfBoundsException", by decide, (bg_1 93 rfl rfl), by decide⟩, (List.forall_mem_cons.mpr ⟨⟨by decide, "java/lang/IllegalArgumentException", by decide, (bg_1 94 rfl rfl), by decide⟩, (fun _ h => nomatch h)⟩)⟩), by decide, by decide, (bg_1 95 rfl rfl), by decide, ⟨3, 16, by decide, (Or.inr ⟨3, rfl, (by decide +kernel), rfl⟩), (by decide +kernel), by decide, (by decide +kernel)⟩, w_eq (by decide) (by decide), rfl⟩
theorem hf_L_message : ∀ (x : Int) (M : Mm) (r : Int × Mm), x ≠ 0 → (if x = 1 then some ((-97), M) else if x = 2 then some ((-98), M) else if x = 3 then some ((-99), M) else none) = some r → r.2 = M ∧ HandOK mu_L_message 3 (exn x) r.1 := by
  intro x M r _ h
  by_cases q0 : x = 1
  · rw [if_pos q0] at h; cases h; subst q0; exact ⟨rfl, hk_L_message_0⟩
  rw [if_neg q0] at h
  by_cases q1 : x = 2
  · rw [if_pos q1] at h; cases h; subst q1; exact ⟨rfl, hk_L_message_1⟩
  rw [if_neg q1] at h
  by_cases q2 : x = 3
  · rw [if_pos q2] at h; cases h; subst q2; exact ⟨rfl, hk_L_message_2⟩
  rw [if_neg q2] at h
  exact nomatch h
set_option maxRecDepth 20000 in
theorem mo_X10_at : MOK mu_X10_at 2 := ⟨(bg_1 1 rfl rfl), (bg_6 117 rfl rfl), by decide⟩
set_option maxRecDepth 20000 in
theorem mv_X10_at : Cond.instanceMethod mu_X10_at.1 ∈ Big ∧ Cond.selects mu_X10_at.1.cls mu_X10_at.1 mu_X10_at.1 ∈ Big := ⟨(bg_6 115 rfl rfl), (bg_6 116 rfl rfl)⟩
set_option maxRecDepth 20000 in
theorem co_L_at_98 : CallV mu_L_at mu_X10_at 98 2 10 := ⟨⟨(bg_6 114 rfl rfl), mo_X10_at.1, mo_X10_at.2.1, mo_X10_at.2.2, by decide, by decide⟩, mv_X10_at.1, mv_X10_at.2, rfl, _, _, cls_10⟩
set_option maxRecDepth 20000 in
theorem hk_L_at_0 : HandOK mu_L_at 3 "java/lang/IndexOutOfBoundsException" (-97) := ⟨[], ⟨0, 6, 7, 14⟩, [⟨0, 6, 11, 16⟩, ⟨0, 6, 15, 18⟩], rfl, (fun _ h => nomatch h), by decide, by decide, (bg_1 93 rfl rfl), by decide, ⟨3, 8, by decide, (Or.inr ⟨3, rfl, (by decide +kernel), rfl⟩), (by decide +kernel), by decide, (by decide +kernel)⟩, w_eq (by decide) (by decide), rfl⟩
theorem hk_L_at_1 : HandOK mu_L_at 3 "java/lang/IllegalArgumentException" (-98) := ⟨[⟨0, 6, 7, 14⟩], ⟨0, 6, 11, 16⟩, [⟨0, 6, 15, 18⟩], rfl, (List.forall_mem_cons.mpr ⟨⟨by decide, "java/lang/IndexOutOfBoundsException", by decide, (bg_1 93 rfl rfl), by decide⟩, (fun _ h => nomatch h)⟩), by decide, by decide, (bg_1 94 rfl rfl), by decide, ⟨3, 12, by decide, (Or.inr ⟨3, rfl, (by decide +kernel), rfl⟩), (by decide +kernel), by decide, (by decide +kernel)⟩, w_eq (by decide) (by decide), rfl⟩
theorem hk_L_at_2 : HandOK mu_L_at 3 "java/lang/IllegalStateException" (-99) := ⟨[⟨0, 6, 7, 14⟩, ⟨0, 6, 11, 16⟩], ⟨0, 6, 15, 18⟩, [], rfl, (List.forall_mem_cons.mpr ⟨⟨by decide, "java/lang/IndexOutOfBoundsException", by decide, (bg_1 93 rfl rfl), by decide⟩, (List.forall_mem_cons.mpr ⟨⟨by decide, "java/lang/IllegalArgumentException", by decide, (bg_1 94 rfl rfl), by decide⟩, (fun _ h => nomatch h)⟩)⟩), by decide, by decide, (bg_1 95 rfl rfl), by decide, ⟨3, 16, by decide, (Or.inr ⟨3, rfl, (by decide +kernel), rfl⟩), (by decide +kernel), by decide, (by decide +kernel)⟩, w_eq (by decide) (by decide), rfl⟩
theorem hf_L_at : ∀ (x : Int) (M : Mm) (r : Int × Mm), x ≠ 0 → (if x = 1 then some ((-97), M) else if x = 2 then some ((-98), M) else if x = 3 then some ((-99), M) else none) = some r → r.2 = M ∧ HandOK mu_L_at 3 (exn x) r.1 := by
  intro x M r _ h
  by_cases q0 : x = 1
  · rw [if_pos q0] at h; cases h; subst q0; exact ⟨rfl, hk_L_at_0⟩
  rw [if_neg q0] at h
  by_cases q1 : x = 2
  · rw [if_pos q1] at h; cases h; subst q1; exact ⟨rfl, hk_L_at_1⟩
  rw [if_neg q1] at h
  by_cases q2 : x = 3
  · rw [if_pos q2] at h; cases h; subst q2; exact ⟨rfl, hk_L_at_2⟩
  rw [if_neg q2] at h
  exact nomatch h
set_option maxRecDepth 20000 in
theorem mo_X10_partition : MOK mu_X10_partition 2 := ⟨(bg_1 1 rfl rfl), (bg_6 129 rfl rfl), by decide⟩
set_option maxRecDepth 20000 in
theorem mv_X10_partition : Cond.instanceMethod mu_X10_partition.1 ∈ Big ∧ Cond.selects mu_X10_partition.1.cls mu_X10_partition.1 mu_X10_partition.1 ∈ Big := ⟨(bg_6 127 rfl rfl), (bg_6 128 rfl rfl)⟩
set_option maxRecDepth 20000 in
theorem co_L_partition_101 : CallV mu_L_partition mu_X10_partition 101 2 10 := ⟨⟨(bg_6 126 rfl rfl), mo_X10_partition.1, mo_X10_partition.2.1, mo_X10_partition.2.2, by decide, by decide⟩, mv_X10_partition.1, mv_X10_partition.2, rfl, _, _, cls_10⟩
set_option maxRecDepth 20000 in
theorem hk_L_partition_0 : HandOK mu_L_partition 3 "java/lang/IndexOutOfBoundsException" (-97) := ⟨[], ⟨0, 6, 7, 14⟩, [⟨0, 6, 11, 16⟩, ⟨0, 6, 15, 18⟩], rfl, (fun _ h => nomatch h), by decide, by decide, (bg_1 93 rfl rfl), by decide, ⟨3, 8, by decide, (Or.inr ⟨3, rfl, (by decide +kernel), rfl⟩), (by decide +kernel), by decide, (by decide +kernel)⟩, w_eq (by decide) (by decide), rfl⟩
theorem hk_L_partition_1 : HandOK mu_L_partition 3 "java/lang/IllegalArgumentException" (-98) := ⟨[⟨0, 6, 7, 14⟩], ⟨0, 6, 11, 16⟩, [⟨0, 6, 15, 18⟩], rfl, (List.forall_mem_cons.mpr ⟨⟨by decide, "java/lang/IndexOutOfBoundsException", by decide, (bg_1 93 rfl rfl), by decide⟩, (fun _ h => nomatch h)⟩), by decide, by decide, (bg_1 94 rfl rfl), by decide, ⟨3, 12, by decide, (Or.inr ⟨3, rfl, (by decide +kernel), rfl⟩), (by decide +kernel), by decide, (by decide +kernel)⟩, w_eq (by decide) (by decide), rfl⟩
theorem hk_L_partition_2 : HandOK mu_L_partition 3 "java/lang/IllegalStateException" (-99) := ⟨[⟨0, 6, 7, 14⟩, ⟨0, 6, 11, 16⟩], ⟨0, 6, 15, 18⟩, [], rfl, (List.forall_mem_cons.mpr ⟨⟨by decide, "java/lang/IndexOutOfBoundsException", by decide, (bg_1 93 rfl rfl), by decide⟩, (List.forall_mem_cons.mpr ⟨⟨by decide, "java/lang/IllegalArgumentException", by decide, (bg_1 94 rfl rfl), by decide⟩, (fun _ h => nomatch h)⟩)⟩), by decide, by decide, (bg_1 95 rfl rfl), by decide, ⟨3, 16, by decide, (Or.inr ⟨3, rfl, (by decide +kernel), rfl⟩), (by decide +kernel), by decide, (by decide +kernel)⟩, w_eq (by decide) (by decide), rfl⟩
theorem hf_L_partition : ∀ (x : Int) (M : Mm) (r : Int × Mm), x ≠ 0 → (if x = 1 then some ((-97), M) else if x = 2 then some ((-98), M) else if x = 3 then some ((-99), M) else none) = some r → r.2 = M ∧ HandOK mu_L_partition 3 (exn x) r.1 := by
  intro x M r _ h
  by_cases q0 : x = 1
  · rw [if_pos q0] at h; cases h; subst q0; exact ⟨rfl, hk_L_partition_0⟩
  rw [if_neg q0] at h
  by_cases q1 : x = 2
  · rw [if_pos q1] at h; cases h; subst q1; exact ⟨rfl, hk_L_partition_1⟩
  rw [if_neg q1] at h
  by_cases q2 : x = 3
  · rw [if_pos q2] at h; cases h; subst q2; exact ⟨rfl, hk_L_partition_2⟩
  rw [if_neg q2] at h
  exact nomatch h
set_option maxRecDepth 20000 in
theorem mo_X10_value : MOK mu_X10_value 2 := ⟨(bg_1 1 rfl rfl), (bg_4 80 rfl rfl), by decide⟩
set_option maxRecDepth 20000 in
theorem mv_X10_value : Cond.instanceMethod mu_X10_value.1 ∈ Big ∧ Cond.selects mu_X10_value.1.cls mu_X10_value.1 mu_X10_value.1 ∈ Big := ⟨(bg_4 78 rfl rfl), (bg_4 79 rfl rfl)⟩
set_option maxRecDepth 20000 in
theorem co_L_value_104 : CallV mu_L_value mu_X10_value 104 2 10 := ⟨⟨(bg_4 77 rfl rfl), mo_X10_value.1, mo_X10_value.2.1, mo_X10_value.2.2, by decide, by decide⟩, mv_X10_value.1, mv_X10_value.2, rfl, _, _, cls_10⟩
set_option maxRecDepth 20000 in
theorem hk_L_value_0 : HandOK mu_L_value 3 "java/lang/IndexOutOfBoundsException" (-97) := ⟨[], ⟨0, 6, 7, 14⟩, [⟨0, 6, 11, 16⟩, ⟨0, 6, 15, 18⟩], rfl, (fun _ h => nomatch h), by decide, by decide, (bg_1 93 rfl rfl), by decide, ⟨3, 8, by decide, (Or.inr ⟨3, rfl, (by decide +kernel), rfl⟩), (by decide +kernel), by decide, (by decide +kernel)⟩, w_eq (by decide) (by decide), rfl⟩
theorem hk_L_value_1 : HandOK mu_L_value 3 "java/lang/IllegalArgumentException" (-98) := ⟨[⟨0, 6, 7, 14⟩], ⟨0, 6, 11, 16⟩, [⟨0, 6, 15, 18⟩], rfl, (List.forall_mem_cons.mpr ⟨⟨by decide, "java/lang/IndexOutOfBoundsException", by decide, (bg_1 93 rfl rfl), by decide⟩, (fun _ h => nomatch h)⟩), by decide, by decide, (bg_1 94 rfl rfl), by decide, ⟨3, 12, by decide, (Or.inr ⟨3, rfl, (by decide +kernel), rfl⟩), (by decide +kernel), by decide, (by decide +kernel)⟩, w_eq (by decide) (by decide), rfl⟩
theorem hk_L_value_2 : HandOK mu_L_value 3 "java/lang/IllegalStateException" (-99) := ⟨[⟨0, 6, 7, 14⟩, ⟨0, 6, 11, 16⟩], ⟨0, 6, 15, 18⟩, [], rfl, (List.forall_mem_cons.mpr ⟨⟨by decide, "java/lang/IndexOutOfBoundsException", by decide, (bg_1 93 rfl rfl), by decide⟩, (List.forall_mem_cons.mpr ⟨⟨by decide, "java/lang/IllegalArgumentException", by decide, (bg_1 94 rfl rfl), by decide⟩, (fun _ h => nomatch h)⟩)⟩), by decide, by decide, (bg_1 95 rfl rfl), by decide, ⟨3, 16, by decide, (Or.inr ⟨3, rfl, (by decide +kernel), rfl⟩), (by decide +kernel), by decide, (by decide +kernel)⟩, w_eq (by decide) (by decide), rfl⟩
theorem hf_L_value : ∀ (x : Int) (M : Mm) (r : Int × Mm), x ≠ 0 → (if x = 1 then some ((-97), M) else if x = 2 then some ((-98), M) else if x = 3 then some ((-99), M) else none) = some r → r.2 = M ∧ HandOK mu_L_value 3 (exn x) r.1 := by
  intro x M r _ h
  by_cases q0 : x = 1
  · rw [if_pos q0] at h; cases h; subst q0; exact ⟨rfl, hk_L_value_0⟩
  rw [if_neg q0] at h
  by_cases q1 : x = 2
  · rw [if_pos q1] at h; cases h; subst q1; exact ⟨rfl, hk_L_value_1⟩
  rw [if_neg q1] at h
  by_cases q2 : x = 3
  · rw [if_pos q2] at h; cases h; subst q2; exact ⟨rfl, hk_L_value_2⟩
  rw [if_neg q2] at h
  exact nomatch h
set_option maxRecDepth 20000 in
theorem mo_X10_share : MOK mu_X10_share 3 := ⟨(bg_1 1 rfl rfl), (bg_6 158 rfl rfl), by decide⟩
set_option maxRecDepth 20000 in
theorem mv_X10_share : Cond.instanceMethod mu_X10_share.1 ∈ Big ∧ Cond.selects mu_X10_share.1.cls mu_X10_share.1 mu_X10_share.1 ∈ Big := ⟨(bg_6 156 rfl rfl), (bg_6 157 rfl rfl)⟩
set_option maxRecDepth 20000 in
theorem co_L_share_107 : CallV mu_L_share mu_X10_share 107 3 10 := ⟨⟨(bg_6 155 rfl rfl), mo_X10_share.1, mo_X10_share.2.1, mo_X10_share.2.2, by decide, by decide⟩, mv_X10_share.1, mv_X10_share.2, rfl, _, _, cls_10⟩
set_option maxRecDepth 20000 in
theorem hk_L_share_0 : HandOK mu_L_share 4 "java/lang/IndexOutOfBoundsException" (-97) := ⟨[], ⟨0, 7, 8, 14⟩, [⟨0, 7, 13, 16⟩, ⟨0, 7, 18, 18⟩], rfl, (fun _ h => nomatch h), by decide, by decide, (bg_1 93 rfl rfl), by decide, ⟨4, 10, by decide, (Or.inl ⟨(by decide +kernel), rfl⟩), (by decide +kernel), by decide, (by decide +kernel)⟩, w_eq (by decide) (by decide), rfl⟩
theorem hk_L_share_1 : HandOK mu_L_share 4 "java/lang/IllegalArgumentException" (-98) := ⟨[⟨0, 7, 8, 14⟩], ⟨0, 7, 13, 16⟩, [⟨0, 7, 18, 18⟩], rfl, (List.forall_mem_cons.mpr ⟨⟨by decide, "java/lang/IndexOutOfBoundsException", by decide, (bg_1 93 rfl rfl), by decide⟩, (fun _ h => nomatch h)⟩), by decide, by decide, (bg_1 94 rfl rfl), by decide, ⟨4, 15, by decide, (Or.inl ⟨(by decide +kernel), rfl⟩), (by decide +kernel), by decide, (by decide +kernel)⟩, w_eq (by decide) (by decide), rfl⟩
theorem hk_L_share_2 : HandOK mu_L_share 4 "java/lang/IllegalStateException" (-99) := ⟨[⟨0, 7, 8, 14⟩, ⟨0, 7, 13, 16⟩], ⟨0, 7, 18, 18⟩, [], rfl, (List.forall_mem_cons.mpr ⟨⟨by decide, "java/lang/IndexOutOfBoundsException", by decide, (bg_1 93 rfl rfl), by decide⟩, (List.forall_mem_cons.mpr ⟨⟨by decide, "java/lang/IllegalArgumentException", by decide, (bg_1 94 rfl rfl), by decide⟩, (fun _ h => nomatch h)⟩)⟩), by decide, by decide, (bg_1 95 rfl rfl), by decide, ⟨4, 20, by decide, (Or.inl ⟨(by decide +kernel), rfl⟩), (by decide +kernel), by decide, (by decide +kernel)⟩, w_eq (by decide) (by decide), rfl⟩
theorem hf_L_share : ∀ (x : Int) (M : Mm) (r : Int × Mm), x ≠ 0 → (if x = 1 then some ((-97), M) else if x = 2 then some ((-98), M) else if x = 3 then some ((-99), M) else none) = some r → r.2 = M ∧ HandOK mu_L_share 4 (exn x) r.1 := by
  intro x M r _ h
  by_cases q0 : x = 1
  · rw [if_pos q0] at h; cases h; subst q0; exact ⟨rfl, hk_L_share_0⟩
  rw [if_neg q0] at h
  by_cases q1 : x = 2
  · rw [if_pos q1] at h; cases h; subst q1; exact ⟨rfl, hk_L_share_1⟩
  rw [if_neg q1] at h
  by_cases q2 : x = 3
  · rw [if_pos q2] at h; cases h; subst q2; exact ⟨rfl, hk_L_share_2⟩
  rw [if_neg q2] at h
  exact nomatch h
set_option maxRecDepth 20000 in
theorem mo_X10_member : MOK mu_X10_member 3 := ⟨(bg_1 1 rfl rfl), (bg_6 150 rfl rfl), by decide⟩
set_option maxRecDepth 20000 in
theorem mv_X10_member : Cond.instanceMethod mu_X10_member.1 ∈ Big ∧ Cond.selects mu_X10_member.1.cls mu_X10_member.1 mu_X10_member.1 ∈ Big := ⟨(bg_6 148 rfl rfl), (bg_6 149 rfl rfl)⟩
set_option maxRecDepth 20000 in
theorem co_L_member_110 : CallV mu_L_member mu_X10_member 110 3 10 := ⟨⟨(bg_6 147 rfl rfl), mo_X10_member.1, mo_X10_member.2.1, mo_X10_member.2.2, by decide, by decide⟩, mv_X10_member.1, mv_X10_member.2, rfl, _, _, cls_10⟩
set_option maxRecDepth 20000 in
theorem hk_L_member_0 : HandOK mu_L_member 4 "java/lang/IndexOutOfBoundsException" (-97) := ⟨[], ⟨0, 7, 8, 14⟩, [⟨0, 7, 13, 16⟩, ⟨0, 7, 18, 18⟩], rfl, (fun _ h => nomatch h), by decide, by decide, (bg_1 93 rfl rfl), by decide, ⟨4, 10, by decide, (Or.inl ⟨(by decide +kernel), rfl⟩), (by decide +kernel), by decide, (by decide +kernel)⟩, w_eq (by decide) (by decide), rfl⟩
theorem hk_L_member_1 : HandOK mu_L_member 4 "java/lang/IllegalArgumentException" (-98) := ⟨[⟨0, 7, 8, 14⟩], ⟨0, 7, 13, 16⟩, [⟨0, 7, 18, 18⟩], rfl, (List.forall_mem_cons.mpr ⟨⟨by decide, "java/lang/IndexOutOfBoundsException", by decide, (bg_1 93 rfl rfl), by decide⟩, (fun _ h => nomatch h)⟩), by decide, by decide, (bg_1 94 rfl rfl), by decide, ⟨4, 15, by decide, (Or.inl ⟨(by decide +kernel), rfl⟩), (by decide +kernel), by decide, (by decide +kernel)⟩, w_eq (by decide) (by decide), rfl⟩
theorem hk_L_member_2 : HandOK mu_L_member 4 "java/lang/IllegalStateException" (-99) := ⟨[⟨0, 7, 8, 14⟩, ⟨0, 7, 13, 16⟩], ⟨0, 7, 18, 18⟩, [], rfl, (List.forall_mem_cons.mpr ⟨⟨by decide, "java/lang/IndexOutOfBoundsException", by decide, (bg_1 93 rfl rfl), by decide⟩, (List.forall_mem_cons.mpr ⟨⟨by decide, "java/lang/IllegalArgumentException", by decide, (bg_1 94 rfl rfl), by decide⟩, (fun _ h => nomatch h)⟩)⟩), by decide, by decide, (bg_1 95 rfl rfl), by decide, ⟨4, 20, by decide, (Or.inl ⟨(by decide +kernel), rfl⟩), (by decide +kernel), by decide, (by decide +kernel)⟩, w_eq (by decide) (by decide), rfl⟩
theorem hf_L_member : ∀ (x : Int) (M : Mm) (r : Int × Mm), x ≠ 0 → (if x = 1 then some ((-97), M) else if x = 2 then some ((-98), M) else if x = 3 then some ((-99), M) else none) = some r → r.2 = M ∧ HandOK mu_L_member 4 (exn x) r.1 := by
  intro x M r _ h
  by_cases q0 : x = 1
  · rw [if_pos q0] at h; cases h; subst q0; exact ⟨rfl, hk_L_member_0⟩
  rw [if_neg q0] at h
  by_cases q1 : x = 2
  · rw [if_pos q1] at h; cases h; subst q1; exact ⟨rfl, hk_L_member_1⟩
  rw [if_neg q1] at h
  by_cases q2 : x = 3
  · rw [if_pos q2] at h; cases h; subst q2; exact ⟨rfl, hk_L_member_2⟩
  rw [if_neg q2] at h
  exact nomatch h
set_option maxRecDepth 20000 in
theorem mo_X10_hand : MOK mu_X10_hand 4 := ⟨(bg_1 1 rfl rfl), (bg_6 184 rfl rfl), by decide⟩
set_option maxRecDepth 20000 in
theorem mv_X10_hand : Cond.instanceMethod mu_X10_hand.1 ∈ Big ∧ Cond.selects mu_X10_hand.1.cls mu_X10_hand.1 mu_X10_hand.1 ∈ Big := ⟨(bg_6 182 rfl rfl), (bg_6 183 rfl rfl)⟩
set_option maxRecDepth 20000 in
theorem co_L_hand_113 : CallV mu_L_hand mu_X10_hand 113 4 10 := ⟨⟨(bg_6 181 rfl rfl), mo_X10_hand.1, mo_X10_hand.2.1, mo_X10_hand.2.2, by decide, by decide⟩, mv_X10_hand.1, mv_X10_hand.2, rfl, _, _, cls_10⟩
set_option maxRecDepth 20000 in
theorem hk_L_hand_0 : HandOK mu_L_hand 6 "java/lang/IndexOutOfBoundsException" (-97) := ⟨[], ⟨0, 9, 10, 14⟩, [⟨0, 9, 15, 16⟩, ⟨0, 9, 20, 18⟩], rfl, (fun _ h => nomatch h), by decide, by decide, (bg_1 93 rfl rfl), by decide, ⟨5, 12, by decide, (Or.inl ⟨(by decide +kernel), rfl⟩), (by decide +kernel), by decide, (by decide +kernel)⟩, w_eq (by decide) (by decide), rfl⟩
theorem hk_L_hand_1 : HandOK mu_L_hand 6 "java/lang/IllegalArgumentException" (-98) := ⟨[⟨0, 9, 10, 14⟩], ⟨0, 9, 15, 16⟩, [⟨0, 9, 20, 18⟩], rfl, (List.forall_mem_cons.mpr ⟨⟨by decide, "java/lang/IndexOutOfBoundsException", by decide, (bg_1 93 rfl rfl), by decide⟩, (fun _ h => nomatch h)⟩), by decide, by decide, (bg_1 94 rfl rfl), by decide, ⟨5, 17, by decide, (Or.inl ⟨(by decide +kernel), rfl⟩), (by decide +kernel), by decide, (by decide +kernel)⟩, w_eq (by decide) (by decide), rfl⟩
theorem hk_L_hand_2 : HandOK mu_L_hand 6 "java/lang/IllegalStateException" (-99) := ⟨[⟨0, 9, 10, 14⟩, ⟨0, 9, 15, 16⟩], ⟨0, 9, 20, 18⟩, [], rfl, (List.forall_mem_cons.mpr ⟨⟨by decide, "java/lang/IndexOutOfBoundsException", by decide, (bg_1 93 rfl rfl), by decide⟩, (List.forall_mem_cons.mpr ⟨⟨by decide, "java/lang/IllegalArgumentException", by decide, (bg_1 94 rfl rfl), by decide⟩, (fun _ h => nomatch h)⟩)⟩), by decide, by decide, (bg_1 95 rfl rfl), by decide, ⟨5, 22, by decide, (Or.inl ⟨(by decide +kernel), rfl⟩), (by decide +kernel), by decide, (by decide +kernel)⟩, w_eq (by decide) (by decide), rfl⟩
theorem hf_L_hand : ∀ (x : Int) (M : Mm) (r : Int × Mm), x ≠ 0 → (if x = 1 then some ((-97), M) else if x = 2 then some ((-98), M) else if x = 3 then some ((-99), M) else none) = some r → r.2 = M ∧ HandOK mu_L_hand 6 (exn x) r.1 := by
  intro x M r _ h
  by_cases q0 : x = 1
  · rw [if_pos q0] at h; cases h; subst q0; exact ⟨rfl, hk_L_hand_0⟩
  rw [if_neg q0] at h
  by_cases q1 : x = 2
  · rw [if_pos q1] at h; cases h; subst q1; exact ⟨rfl, hk_L_hand_1⟩
  rw [if_neg q1] at h
  by_cases q2 : x = 3
  · rw [if_pos q2] at h; cases h; subst q2; exact ⟨rfl, hk_L_hand_2⟩
  rw [if_neg q2] at h
  exact nomatch h
set_option maxRecDepth 20000 in
theorem mo_X10_seen : MOK mu_X10_seen 2 := ⟨(bg_1 1 rfl rfl), (bg_3 167 rfl rfl), by decide⟩
set_option maxRecDepth 20000 in
theorem mv_X10_seen : Cond.instanceMethod mu_X10_seen.1 ∈ Big ∧ Cond.selects mu_X10_seen.1.cls mu_X10_seen.1 mu_X10_seen.1 ∈ Big := ⟨(bg_3 165 rfl rfl), (bg_3 166 rfl rfl)⟩
set_option maxRecDepth 20000 in
theorem co_L_seen_116 : CallV mu_L_seen mu_X10_seen 116 2 10 := ⟨⟨(bg_3 164 rfl rfl), mo_X10_seen.1, mo_X10_seen.2.1, mo_X10_seen.2.2, by decide, by decide⟩, mv_X10_seen.1, mv_X10_seen.2, rfl, _, _, cls_10⟩
set_option maxRecDepth 20000 in
theorem hk_L_seen_0 : HandOK mu_L_seen 3 "java/lang/IndexOutOfBoundsException" (-97) := ⟨[], ⟨0, 6, 7, 14⟩, [⟨0, 6, 11, 16⟩, ⟨0, 6, 15, 18⟩], rfl, (fun _ h => nomatch h), by decide, by decide, (bg_1 93 rfl rfl), by decide, ⟨3, 8, by decide, (Or.inr ⟨3, rfl, (by decide +kernel), rfl⟩), (by decide +kernel), by decide, (by decide +kernel)⟩, w_eq (by decide) (by decide), rfl⟩
theorem hk_L_seen_1 : HandOK mu_L_seen 3 "java/lang/IllegalArgumentException" (-98) := ⟨[⟨0, 6, 7, 14⟩], ⟨0, 6, 11, 16⟩, [⟨0, 6, 15, 18⟩], rfl, (List.forall_mem_cons.mpr ⟨⟨by decide, "java/lang/IndexOutOfBoundsException", by decide, (bg_1 93 rfl rfl), by decide⟩, (fun _ h => nomatch h)⟩), by decide, by decide, (bg_1 94 rfl rfl), by decide, ⟨3, 12, by decide, (Or.inr ⟨3, rfl, (by decide +kernel), rfl⟩), (by decide +kernel), by decide, (by decide +kernel)⟩, w_eq (by decide) (by decide), rfl⟩
theorem hk_L_seen_2 : HandOK mu_L_seen 3 "java/lang/IllegalStateException" (-99) := ⟨[⟨0, 6, 7, 14⟩, ⟨0, 6, 11, 16⟩], ⟨0, 6, 15, 18⟩, [], rfl, (List.forall_mem_cons.mpr ⟨⟨by decide, "java/lang/IndexOutOfBoundsException", by decide, (bg_1 93 rfl rfl), by decide⟩, (List.forall_mem_cons.mpr ⟨⟨by decide, "java/lang/IllegalArgumentException", by decide, (bg_1 94 rfl rfl), by decide⟩, (fun _ h => nomatch h)⟩)⟩), by decide, by decide, (bg_1 95 rfl rfl), by decide, ⟨3, 16, by decide, (Or.inr ⟨3, rfl, (by decide +kernel), rfl⟩), (by decide +kernel), by decide, (by decide +kernel)⟩, w_eq (by decide) (by decide), rfl⟩
theorem hf_L_seen : ∀ (x : Int) (M : Mm) (r : Int × Mm), x ≠ 0 → (if x = 1 then some ((-97), M) else if x = 2 then some ((-98), M) else if x = 3 then some ((-99), M) else none) = some r → r.2 = M ∧ HandOK mu_L_seen 3 (exn x) r.1 := by
  intro x M r _ h
  by_cases q0 : x = 1
  · rw [if_pos q0] at h; cases h; subst q0; exact ⟨rfl, hk_L_seen_0⟩
  rw [if_neg q0] at h
  by_cases q1 : x = 2
  · rw [if_pos q1] at h; cases h; subst q1; exact ⟨rfl, hk_L_seen_1⟩
  rw [if_neg q1] at h
  by_cases q2 : x = 3
  · rw [if_pos q2] at h; cases h; subst q2; exact ⟨rfl, hk_L_seen_2⟩
  rw [if_neg q2] at h
  exact nomatch h
set_option maxRecDepth 20000 in
theorem mo_X10_count : MOK mu_X10_count 1 := ⟨(bg_1 1 rfl rfl), (bg_3 178 rfl rfl), by decide⟩
set_option maxRecDepth 20000 in
theorem mv_X10_count : Cond.instanceMethod mu_X10_count.1 ∈ Big ∧ Cond.selects mu_X10_count.1.cls mu_X10_count.1 mu_X10_count.1 ∈ Big := ⟨(bg_3 176 rfl rfl), (bg_3 177 rfl rfl)⟩
set_option maxRecDepth 20000 in
theorem co_L_count_119 : CallV mu_L_count mu_X10_count 119 1 10 := ⟨⟨(bg_3 175 rfl rfl), mo_X10_count.1, mo_X10_count.2.1, mo_X10_count.2.2, by decide, by decide⟩, mv_X10_count.1, mv_X10_count.2, rfl, _, _, cls_10⟩
set_option maxRecDepth 20000 in
theorem hk_L_count_0 : HandOK mu_L_count 2 "java/lang/IndexOutOfBoundsException" (-97) := ⟨[], ⟨0, 5, 6, 14⟩, [⟨0, 5, 10, 16⟩, ⟨0, 5, 14, 18⟩], rfl, (fun _ h => nomatch h), by decide, by decide, (bg_1 93 rfl rfl), by decide, ⟨2, 7, by decide, (Or.inr ⟨2, rfl, (by decide +kernel), rfl⟩), (by decide +kernel), by decide, (by decide +kernel)⟩, w_eq (by decide) (by decide), rfl⟩
theorem hk_L_count_1 : HandOK mu_L_count 2 "java/lang/IllegalArgumentException" (-98) := ⟨[⟨0, 5, 6, 14⟩], ⟨0, 5, 10, 16⟩, [⟨0, 5, 14, 18⟩], rfl, (List.forall_mem_cons.mpr ⟨⟨by decide, "java/lang/IndexOutOfBoundsException", by decide, (bg_1 93 rfl rfl), by decide⟩, (fun _ h => nomatch h)⟩), by decide, by decide, (bg_1 94 rfl rfl), by decide, ⟨2, 11, by decide, (Or.inr ⟨2, rfl, (by decide +kernel), rfl⟩), (by decide +kernel), by decide, (by decide +kernel)⟩, w_eq (by decide) (by decide), rfl⟩
theorem hk_L_count_2 : HandOK mu_L_count 2 "java/lang/IllegalStateException" (-99) := ⟨[⟨0, 5, 6, 14⟩, ⟨0, 5, 10, 16⟩], ⟨0, 5, 14, 18⟩, [], rfl, (List.forall_mem_cons.mpr ⟨⟨by decide, "java/lang/IndexOutOfBoundsException", by decide, (bg_1 93 rfl rfl), by decide⟩, (List.forall_mem_cons.mpr ⟨⟨by decide, "java/lang/IllegalArgumentException", by decide, (bg_1 94 rfl rfl), by decide⟩, (fun _ h => nomatch h)⟩)⟩), by decide, by decide, (bg_1 95 rfl rfl), by decide, ⟨2, 15, by decide, (Or.inr ⟨2, rfl, (by decide +kernel), rfl⟩), (by decide +kernel), by decide, (by decide +kernel)⟩, w_eq (by decide) (by decide), rfl⟩
theorem hf_L_count : ∀ (x : Int) (M : Mm) (r : Int × Mm), x ≠ 0 → (if x = 1 then some ((-97), M) else if x = 2 then some ((-98), M) else if x = 3 then some ((-99), M) else none) = some r → r.2 = M ∧ HandOK mu_L_count 2 (exn x) r.1 := by
  intro x M r _ h
  by_cases q0 : x = 1
  · rw [if_pos q0] at h; cases h; subst q0; exact ⟨rfl, hk_L_count_0⟩
  rw [if_neg q0] at h
  by_cases q1 : x = 2
  · rw [if_pos q1] at h; cases h; subst q1; exact ⟨rfl, hk_L_count_1⟩
  rw [if_neg q1] at h
  by_cases q2 : x = 3
  · rw [if_pos q2] at h; cases h; subst q2; exact ⟨rfl, hk_L_count_2⟩
  rw [if_neg q2] at h
  exact nomatch h
set_option maxRecDepth 20000 in
theorem mo_X10_ofGroup : MOK mu_X10_ofGroup 2 := ⟨(bg_1 1 rfl rfl), (bg_3 196 rfl rfl), by decide⟩
set_option maxRecDepth 20000 in
theorem mv_X10_ofGroup : Cond.instanceMethod mu_X10_ofGroup.1 ∈ Big ∧ Cond.selects mu_X10_ofGroup.1.cls mu_X10_ofGroup.1 mu_X10_ofGroup.1 ∈ Big := ⟨(bg_3 194 rfl rfl), (bg_3 195 rfl rfl)⟩
set_option maxRecDepth 20000 in
theorem co_L_ofGroup_122 : CallV mu_L_ofGroup mu_X10_ofGroup 122 2 10 := ⟨⟨(bg_3 193 rfl rfl), mo_X10_ofGroup.1, mo_X10_ofGroup.2.1, mo_X10_ofGroup.2.2, by decide, by decide⟩, mv_X10_ofGroup.1, mv_X10_ofGroup.2, rfl, _, _, cls_10⟩
set_option maxRecDepth 20000 in
theorem hk_L_ofGroup_0 : HandOK mu_L_ofGroup 3 "java/lang/IndexOutOfBoundsException" (-97) := ⟨[], ⟨0, 6, 7, 14⟩, [⟨0, 6, 11, 16⟩, ⟨0, 6, 15, 18⟩], rfl, (fun _ h => nomatch h), by decide, by decide, (bg_1 93 rfl rfl), by decide, ⟨3, 8, by decide, (Or.inr ⟨3, rfl, (by decide +kernel), rfl⟩), (by decide +kernel), by decide, (by decide +kernel)⟩, w_eq (by decide) (by decide), rfl⟩
theorem hk_L_ofGroup_1 : HandOK mu_L_ofGroup 3 "java/lang/IllegalArgumentException" (-98) := ⟨[⟨0, 6, 7, 14⟩], ⟨0, 6, 11, 16⟩, [⟨0, 6, 15, 18⟩], rfl, (List.forall_mem_cons.mpr ⟨⟨by decide, "java/lang/IndexOutOfBoundsException", by decide, (bg_1 93 rfl rfl), by decide⟩, (fun _ h => nomatch h)⟩), by decide, by decide, (bg_1 94 rfl rfl), by decide, ⟨3, 12, by decide, (Or.inr ⟨3, rfl, (by decide +kernel), rfl⟩), (by decide +kernel), by decide, (by decide +kernel)⟩, w_eq (by decide) (by decide), rfl⟩
theorem hk_L_ofGroup_2 : HandOK mu_L_ofGroup 3 "java/lang/IllegalStateException" (-99) := ⟨[⟨0, 6, 7, 14⟩, ⟨0, 6, 11, 16⟩], ⟨0, 6, 15, 18⟩, [], rfl, (List.forall_mem_cons.mpr ⟨⟨by decide, "java/lang/IndexOutOfBoundsException", by decide, (bg_1 93 rfl rfl), by decide⟩, (List.forall_mem_cons.mpr ⟨⟨by decide, "java/lang/IllegalArgumentException", by decide, (bg_1 94 rfl rfl), by decide⟩, (fun _ h => nomatch h)⟩)⟩), by decide, by decide, (bg_1 95 rfl rfl), by decide, ⟨3, 16, by decide, (Or.inr ⟨3, rfl, (by decide +kernel), rfl⟩), (by decide +kernel), by decide, (by decide +kernel)⟩, w_eq (by decide) (by decide), rfl⟩
theorem hf_L_ofGroup : ∀ (x : Int) (M : Mm) (r : Int × Mm), x ≠ 0 → (if x = 1 then some ((-97), M) else if x = 2 then some ((-98), M) else if x = 3 then some ((-99), M) else none) = some r → r.2 = M ∧ HandOK mu_L_ofGroup 3 (exn x) r.1 := by
  intro x M r _ h
  by_cases q0 : x = 1
  · rw [if_pos q0] at h; cases h; subst q0; exact ⟨rfl, hk_L_ofGroup_0⟩
  rw [if_neg q0] at h
  by_cases q1 : x = 2
  · rw [if_pos q1] at h; cases h; subst q1; exact ⟨rfl, hk_L_ofGroup_1⟩
  rw [if_neg q1] at h
  by_cases q2 : x = 3
  · rw [if_pos q2] at h; cases h; subst q2; exact ⟨rfl, hk_L_ofGroup_2⟩
  rw [if_neg q2] at h
  exact nomatch h
set_option maxRecDepth 20000 in
theorem mo_X10_audit : MOK mu_X10_audit 1 := ⟨(bg_1 1 rfl rfl), (bg_6 23 rfl rfl), by decide⟩
set_option maxRecDepth 20000 in
theorem mv_X10_audit : Cond.instanceMethod mu_X10_audit.1 ∈ Big ∧ Cond.selects mu_X10_audit.1.cls mu_X10_audit.1 mu_X10_audit.1 ∈ Big := ⟨(bg_6 21 rfl rfl), (bg_6 22 rfl rfl)⟩
set_option maxRecDepth 20000 in
theorem co_L_audit_125 : CallV mu_L_audit mu_X10_audit 125 1 10 := ⟨⟨(bg_6 20 rfl rfl), mo_X10_audit.1, mo_X10_audit.2.1, mo_X10_audit.2.2, by decide, by decide⟩, mv_X10_audit.1, mv_X10_audit.2, rfl, _, _, cls_10⟩
set_option maxRecDepth 20000 in
theorem hk_L_audit_0 : HandOK mu_L_audit 2 "java/lang/IllegalArgumentException" (-98) := ⟨[], ⟨0, 13, 14, 16⟩, [], rfl, (fun _ h => nomatch h), by decide, by decide, (bg_1 94 rfl rfl), by decide, ⟨2, 15, by decide, (Or.inr ⟨2, rfl, (by decide +kernel), rfl⟩), (by decide +kernel), by decide, (by decide +kernel)⟩, w_eq (by decide) (by decide), rfl⟩
theorem hf_L_audit : ∀ (x : Int) (M : Mm) (r : Int × Mm), x ≠ 0 → (if x = 2 then some ((-98), M) else none) = some r → r.2 = M ∧ HandOK mu_L_audit 2 (exn x) r.1 := by
  intro x M r _ h
  by_cases q0 : x = 2
  · rw [if_pos q0] at h; cases h; subst q0; exact ⟨rfl, hk_L_audit_0⟩
  rw [if_neg q0] at h
  exact nomatch h
set_option maxRecDepth 20000 in
theorem mo_L_ofGroup : MOK mu_L_ofGroup 3 := ⟨(bg_1 0 rfl rfl), (bg_3 192 rfl rfl), by decide⟩
set_option maxRecDepth 20000 in
theorem ms_L_ofGroup : Cond.static mu_L_ofGroup.1 ∈ Big := (bg_3 191 rfl rfl)
set_option maxRecDepth 20000 in
theorem co_L_some_129 : CallS mu_L_some mu_L_ofGroup 129 3 := ⟨⟨(bg_3 190 rfl rfl), mo_L_ofGroup.1, mo_L_ofGroup.2.1, mo_L_ofGroup.2.2, by decide, by decide⟩, ms_L_ofGroup⟩
set_option maxRecDepth 20000 in
theorem mo_L_cell : MOK mu_L_cell 3 := ⟨(bg_1 0 rfl rfl), (bg_1 88 rfl rfl), by decide⟩
set_option maxRecDepth 20000 in
theorem ms_L_cell : Cond.static mu_L_cell.1 ∈ Big := (bg_1 87 rfl rfl)
set_option maxRecDepth 20000 in
theorem co_L_some_134 : CallS mu_L_some mu_L_cell 134 3 := ⟨⟨(bg_1 86 rfl rfl), mo_L_cell.1, mo_L_cell.2.1, mo_L_cell.2.2, by decide, by decide⟩, ms_L_cell⟩
set_option maxRecDepth 20000 in
theorem mo_L_read : MOK mu_L_read 3 := ⟨(bg_1 0 rfl rfl), (bg_3 213 rfl rfl), by decide⟩
set_option maxRecDepth 20000 in
theorem ms_L_read : Cond.static mu_L_read.1 ∈ Big := (bg_3 212 rfl rfl)
set_option maxRecDepth 20000 in
theorem co_L_reads_138 : CallS mu_L_reads mu_L_read 138 3 := ⟨⟨(bg_3 211 rfl rfl), mo_L_read.1, mo_L_read.2.1, mo_L_read.2.2, by decide, by decide⟩, ms_L_read⟩
set_option maxRecDepth 20000 in
theorem mo_L_message : MOK mu_L_message 3 := ⟨(bg_1 0 rfl rfl), (bg_3 125 rfl rfl), by decide⟩
set_option maxRecDepth 20000 in
theorem ms_L_message : Cond.static mu_L_message.1 ∈ Big := (bg_3 124 rfl rfl)
set_option maxRecDepth 20000 in
theorem co_L_reads_140 : CallS mu_L_reads mu_L_message 140 3 := ⟨⟨(bg_3 123 rfl rfl), mo_L_message.1, mo_L_message.2.1, mo_L_message.2.2, by decide, by decide⟩, ms_L_message⟩
set_option maxRecDepth 20000 in
theorem mo_L_seen : MOK mu_L_seen 3 := ⟨(bg_1 0 rfl rfl), (bg_3 163 rfl rfl), by decide⟩
set_option maxRecDepth 20000 in
theorem ms_L_seen : Cond.static mu_L_seen.1 ∈ Big := (bg_3 162 rfl rfl)
set_option maxRecDepth 20000 in
theorem co_L_reads_142 : CallS mu_L_reads mu_L_seen 142 3 := ⟨⟨(bg_3 161 rfl rfl), mo_L_seen.1, mo_L_seen.2.1, mo_L_seen.2.2, by decide, by decide⟩, ms_L_seen⟩
set_option maxRecDepth 20000 in
theorem mo_L_has : MOK mu_L_has 2 := ⟨(bg_1 0 rfl rfl), (bg_4 70 rfl rfl), by decide⟩
set_option maxRecDepth 20000 in
theorem ms_L_has : Cond.static mu_L_has.1 ∈ Big := (bg_4 69 rfl rfl)
set_option maxRecDepth 20000 in
theorem co_L_reads_144 : CallS mu_L_reads mu_L_has 144 2 := ⟨⟨(bg_4 68 rfl rfl), mo_L_has.1, mo_L_has.2.1, mo_L_has.2.2, by decide, by decide⟩, ms_L_has⟩
set_option maxRecDepth 20000 in
theorem mo_L_compact : MOK mu_L_compact 2 := ⟨(bg_1 0 rfl rfl), (bg_4 101 rfl rfl), by decide⟩
set_option maxRecDepth 20000 in
theorem ms_L_compact : Cond.static mu_L_compact.1 ∈ Big := (bg_4 100 rfl rfl)
set_option maxRecDepth 20000 in
theorem co_L_thins_150 : CallS mu_L_thins mu_L_compact 150 2 := ⟨⟨(bg_4 99 rfl rfl), mo_L_compact.1, mo_L_compact.2.1, mo_L_compact.2.2, by decide, by decide⟩, ms_L_compact⟩
set_option maxRecDepth 20000 in
theorem mo_L_value : MOK mu_L_value 3 := ⟨(bg_1 0 rfl rfl), (bg_4 76 rfl rfl), by decide⟩
set_option maxRecDepth 20000 in
theorem ms_L_value : Cond.static mu_L_value.1 ∈ Big := (bg_4 75 rfl rfl)
set_option maxRecDepth 20000 in
theorem co_L_thins_148 : CallS mu_L_thins mu_L_value 148 3 := ⟨⟨(bg_4 74 rfl rfl), mo_L_value.1, mo_L_value.2.1, mo_L_value.2.2, by decide, by decide⟩, ms_L_value⟩
set_option maxRecDepth 20000 in
theorem co_L_writes_134 : CallS mu_L_writes mu_L_cell 134 3 := ⟨⟨(bg_1 86 rfl rfl), mo_L_cell.1, mo_L_cell.2.1, mo_L_cell.2.2, by decide, by decide⟩, ms_L_cell⟩
set_option maxRecDepth 20000 in
theorem mo_L_send : MOK mu_L_send 5 := ⟨(bg_1 0 rfl rfl), (bg_4 122 rfl rfl), by decide⟩
set_option maxRecDepth 20000 in
theorem ms_L_send : Cond.static mu_L_send.1 ∈ Big := (bg_4 121 rfl rfl)
set_option maxRecDepth 20000 in
theorem co_L_writes_153 : CallS mu_L_writes mu_L_send 153 5 := ⟨⟨(bg_4 120 rfl rfl), mo_L_send.1, mo_L_send.2.1, mo_L_send.2.2, by decide, by decide⟩, ms_L_send⟩
set_option maxRecDepth 20000 in
theorem mo_L_sendSome : MOK mu_L_sendSome 5 := ⟨(bg_1 0 rfl rfl), (bg_4 231 rfl rfl), by decide⟩
set_option maxRecDepth 20000 in
theorem ms_L_sendSome : Cond.static mu_L_sendSome.1 ∈ Big := (bg_4 230 rfl rfl)
set_option maxRecDepth 20000 in
theorem co_L_writes_156 : CallS mu_L_writes mu_L_sendSome 156 5 := ⟨⟨(bg_4 229 rfl rfl), mo_L_sendSome.1, mo_L_sendSome.2.1, mo_L_sendSome.2.2, by decide, by decide⟩, ms_L_sendSome⟩
set_option maxRecDepth 20000 in
theorem mo_L_sendLater : MOK mu_L_sendLater 6 := ⟨(bg_1 0 rfl rfl), (bg_4 239 rfl rfl), by decide⟩
set_option maxRecDepth 20000 in
theorem ms_L_sendLater : Cond.static mu_L_sendLater.1 ∈ Big := (bg_4 238 rfl rfl)
set_option maxRecDepth 20000 in
theorem co_L_writes_158 : CallS mu_L_writes mu_L_sendLater 158 6 := ⟨⟨(bg_4 237 rfl rfl), mo_L_sendLater.1, mo_L_sendLater.2.1, mo_L_sendLater.2.2, by decide, by decide⟩, ms_L_sendLater⟩
set_option maxRecDepth 20000 in
theorem mo_L_begin : MOK mu_L_begin 2 := ⟨(bg_1 0 rfl rfl), (bg_5 11 rfl rfl), by decide⟩
set_option maxRecDepth 20000 in
theorem ms_L_begin : Cond.static mu_L_begin.1 ∈ Big := (bg_5 10 rfl rfl)
set_option maxRecDepth 20000 in
theorem co_L_writes_161 : CallS mu_L_writes mu_L_begin 161 2 := ⟨⟨(bg_5 9 rfl rfl), mo_L_begin.1, mo_L_begin.2.1, mo_L_begin.2.2, by decide, by decide⟩, ms_L_begin⟩
set_option maxRecDepth 20000 in
theorem mo_L_commit : MOK mu_L_commit 2 := ⟨(bg_1 0 rfl rfl), (bg_5 19 rfl rfl), by decide⟩
set_option maxRecDepth 20000 in
theorem ms_L_commit : Cond.static mu_L_commit.1 ∈ Big := (bg_5 18 rfl rfl)
set_option maxRecDepth 20000 in
theorem co_L_writes_163 : CallS mu_L_writes mu_L_commit 163 2 := ⟨⟨(bg_5 17 rfl rfl), mo_L_commit.1, mo_L_commit.2.1, mo_L_commit.2.2, by decide, by decide⟩, ms_L_commit⟩
set_option maxRecDepth 20000 in
theorem mo_L_abort : MOK mu_L_abort 2 := ⟨(bg_1 0 rfl rfl), (bg_5 49 rfl rfl), by decide⟩
set_option maxRecDepth 20000 in
theorem ms_L_abort : Cond.static mu_L_abort.1 ∈ Big := (bg_5 48 rfl rfl)
set_option maxRecDepth 20000 in
theorem co_L_writes_165 : CallS mu_L_writes mu_L_abort 165 2 := ⟨⟨(bg_5 47 rfl rfl), mo_L_abort.1, mo_L_abort.2.1, mo_L_abort.2.2, by decide, by decide⟩, ms_L_abort⟩
set_option maxRecDepth 20000 in
theorem mo_L_some : MOK mu_L_some 3 := ⟨(bg_1 0 rfl rfl), (bg_3 189 rfl rfl), by decide⟩
set_option maxRecDepth 20000 in
theorem ms_L_some : Cond.static mu_L_some.1 ∈ Big := (bg_3 188 rfl rfl)
set_option maxRecDepth 20000 in
theorem co_L_writes_167 : CallS mu_L_writes mu_L_some 167 3 := ⟨⟨(bg_3 187 rfl rfl), mo_L_some.1, mo_L_some.2.1, mo_L_some.2.2, by decide, by decide⟩, ms_L_some⟩
set_option maxRecDepth 20000 in
theorem mo_L_attach : MOK mu_L_attach 4 := ⟨(bg_1 0 rfl rfl), (bg_5 57 rfl rfl), by decide⟩
set_option maxRecDepth 20000 in
theorem ms_L_attach : Cond.static mu_L_attach.1 ∈ Big := (bg_5 56 rfl rfl)
set_option maxRecDepth 20000 in
theorem co_L_writes_171 : CallS mu_L_writes mu_L_attach 171 4 := ⟨⟨(bg_5 55 rfl rfl), mo_L_attach.1, mo_L_attach.2.1, mo_L_attach.2.2, by decide, by decide⟩, ms_L_attach⟩
set_option maxRecDepth 20000 in
theorem mo_L_resend : MOK mu_L_resend 3 := ⟨(bg_1 0 rfl rfl), (bg_5 75 rfl rfl), by decide⟩
set_option maxRecDepth 20000 in
theorem ms_L_resend : Cond.static mu_L_resend.1 ∈ Big := (bg_5 74 rfl rfl)
set_option maxRecDepth 20000 in
theorem co_L_writes_174 : CallS mu_L_writes mu_L_resend 174 3 := ⟨⟨(bg_5 73 rfl rfl), mo_L_resend.1, mo_L_resend.2.1, mo_L_resend.2.2, by decide, by decide⟩, ms_L_resend⟩
set_option maxRecDepth 20000 in
theorem co_L_breaks_134 : CallS mu_L_breaks mu_L_cell 134 3 := ⟨⟨(bg_1 86 rfl rfl), mo_L_cell.1, mo_L_cell.2.1, mo_L_cell.2.2, by decide, by decide⟩, ms_L_cell⟩
set_option maxRecDepth 20000 in
theorem mo_L_fail : MOK mu_L_fail 2 := ⟨(bg_1 0 rfl rfl), (bg_5 86 rfl rfl), by decide⟩
set_option maxRecDepth 20000 in
theorem ms_L_fail : Cond.static mu_L_fail.1 ∈ Big := (bg_5 85 rfl rfl)
set_option maxRecDepth 20000 in
theorem co_L_breaks_176 : CallS mu_L_breaks mu_L_fail 176 2 := ⟨⟨(bg_5 84 rfl rfl), mo_L_fail.1, mo_L_fail.2.1, mo_L_fail.2.2, by decide, by decide⟩, ms_L_fail⟩
set_option maxRecDepth 20000 in
theorem mo_L_restore : MOK mu_L_restore 2 := ⟨(bg_1 0 rfl rfl), (bg_5 126 rfl rfl), by decide⟩
set_option maxRecDepth 20000 in
theorem ms_L_restore : Cond.static mu_L_restore.1 ∈ Big := (bg_5 125 rfl rfl)
set_option maxRecDepth 20000 in
theorem co_L_breaks_178 : CallS mu_L_breaks mu_L_restore 178 2 := ⟨⟨(bg_5 124 rfl rfl), mo_L_restore.1, mo_L_restore.2.1, mo_L_restore.2.2, by decide, by decide⟩, ms_L_restore⟩
set_option maxRecDepth 20000 in
theorem mo_L_fetch : MOK mu_L_fetch 2 := ⟨(bg_1 0 rfl rfl), (bg_5 134 rfl rfl), by decide⟩
set_option maxRecDepth 20000 in
theorem ms_L_fetch : Cond.static mu_L_fetch.1 ∈ Big := (bg_5 133 rfl rfl)
set_option maxRecDepth 20000 in
theorem co_L_breaks_180 : CallS mu_L_breaks mu_L_fetch 180 2 := ⟨⟨(bg_5 132 rfl rfl), mo_L_fetch.1, mo_L_fetch.2.1, mo_L_fetch.2.2, by decide, by decide⟩, ms_L_fetch⟩
set_option maxRecDepth 20000 in
theorem mo_L_speed : MOK mu_L_speed 2 := ⟨(bg_1 0 rfl rfl), (bg_5 145 rfl rfl), by decide⟩
set_option maxRecDepth 20000 in
theorem ms_L_speed : Cond.static mu_L_speed.1 ∈ Big := (bg_5 144 rfl rfl)
set_option maxRecDepth 20000 in
theorem co_L_breaks_182 : CallS mu_L_breaks mu_L_speed 182 2 := ⟨⟨(bg_5 143 rfl rfl), mo_L_speed.1, mo_L_speed.2.1, mo_L_speed.2.2, by decide, by decide⟩, ms_L_speed⟩
set_option maxRecDepth 20000 in
theorem mo_L_tick : MOK mu_L_tick 2 := ⟨(bg_1 0 rfl rfl), (bg_5 152 rfl rfl), by decide⟩
set_option maxRecDepth 20000 in
theorem ms_L_tick : Cond.static mu_L_tick.1 ∈ Big := (bg_5 151 rfl rfl)
set_option maxRecDepth 20000 in
theorem co_L_breaks_184 : CallS mu_L_breaks mu_L_tick 184 2 := ⟨⟨(bg_5 150 rfl rfl), mo_L_tick.1, mo_L_tick.2.1, mo_L_tick.2.2, by decide, by decide⟩, ms_L_tick⟩
set_option maxRecDepth 20000 in
theorem co_L_shares_167 : CallS mu_L_shares mu_L_some 167 3 := ⟨⟨(bg_3 187 rfl rfl), mo_L_some.1, mo_L_some.2.1, mo_L_some.2.2, by decide, by decide⟩, ms_L_some⟩
set_option maxRecDepth 20000 in
theorem co_L_shares_134 : CallS mu_L_shares mu_L_cell 134 3 := ⟨⟨(bg_1 86 rfl rfl), mo_L_cell.1, mo_L_cell.2.1, mo_L_cell.2.2, by decide, by decide⟩, ms_L_cell⟩
set_option maxRecDepth 20000 in
theorem co_L_shares_129 : CallS mu_L_shares mu_L_ofGroup 129 3 := ⟨⟨(bg_3 190 rfl rfl), mo_L_ofGroup.1, mo_L_ofGroup.2.1, mo_L_ofGroup.2.2, by decide, by decide⟩, ms_L_ofGroup⟩
set_option maxRecDepth 20000 in
theorem mo_L_join : MOK mu_L_join 2 := ⟨(bg_1 0 rfl rfl), (bg_2 218 rfl rfl), by decide⟩
set_option maxRecDepth 20000 in
theorem ms_L_join : Cond.static mu_L_join.1 ∈ Big := (bg_2 217 rfl rfl)
set_option maxRecDepth 20000 in
theorem co_L_shares_186 : CallS mu_L_shares mu_L_join 186 2 := ⟨⟨(bg_2 216 rfl rfl), mo_L_join.1, mo_L_join.2.1, mo_L_join.2.2, by decide, by decide⟩, ms_L_join⟩
set_option maxRecDepth 20000 in
theorem mo_L_leave : MOK mu_L_leave 3 := ⟨(bg_1 0 rfl rfl), (bg_5 204 rfl rfl), by decide⟩
set_option maxRecDepth 20000 in
theorem ms_L_leave : Cond.static mu_L_leave.1 ∈ Big := (bg_5 203 rfl rfl)
set_option maxRecDepth 20000 in
theorem co_L_shares_188 : CallS mu_L_shares mu_L_leave 188 3 := ⟨⟨(bg_5 202 rfl rfl), mo_L_leave.1, mo_L_leave.2.1, mo_L_leave.2.2, by decide, by decide⟩, ms_L_leave⟩
set_option maxRecDepth 20000 in
theorem mo_L_commitOffsets : MOK mu_L_commitOffsets 3 := ⟨(bg_1 0 rfl rfl), (bg_5 212 rfl rfl), by decide⟩
set_option maxRecDepth 20000 in
theorem ms_L_commitOffsets : Cond.static mu_L_commitOffsets.1 ∈ Big := (bg_5 211 rfl rfl)
set_option maxRecDepth 20000 in
theorem co_L_shares_190 : CallS mu_L_shares mu_L_commitOffsets 190 3 := ⟨⟨(bg_5 210 rfl rfl), mo_L_commitOffsets.1, mo_L_commitOffsets.2.1, mo_L_commitOffsets.2.2, by decide, by decide⟩, ms_L_commitOffsets⟩
set_option maxRecDepth 20000 in
theorem mo_L_retry : MOK mu_L_retry 4 := ⟨(bg_1 0 rfl rfl), (bg_5 224 rfl rfl), by decide⟩
set_option maxRecDepth 20000 in
theorem ms_L_retry : Cond.static mu_L_retry.1 ∈ Big := (bg_5 223 rfl rfl)
set_option maxRecDepth 20000 in
theorem co_L_shares_192 : CallS mu_L_shares mu_L_retry 192 4 := ⟨⟨(bg_5 222 rfl rfl), mo_L_retry.1, mo_L_retry.2.1, mo_L_retry.2.2, by decide, by decide⟩, ms_L_retry⟩
set_option maxRecDepth 20000 in
theorem mo_L_done : MOK mu_L_done 4 := ⟨(bg_1 0 rfl rfl), (bg_6 8 rfl rfl), by decide⟩
set_option maxRecDepth 20000 in
theorem ms_L_done : Cond.static mu_L_done.1 ∈ Big := (bg_6 7 rfl rfl)
set_option maxRecDepth 20000 in
theorem co_L_shares_194 : CallS mu_L_shares mu_L_done 194 4 := ⟨⟨(bg_6 6 rfl rfl), mo_L_done.1, mo_L_done.2.1, mo_L_done.2.2, by decide, by decide⟩, ms_L_done⟩
set_option maxRecDepth 20000 in
theorem mo_L_beat : MOK mu_L_beat 3 := ⟨(bg_1 0 rfl rfl), (bg_3 79 rfl rfl), by decide⟩
set_option maxRecDepth 20000 in
theorem ms_L_beat : Cond.static mu_L_beat.1 ∈ Big := (bg_3 78 rfl rfl)
set_option maxRecDepth 20000 in
theorem co_L_shares_196 : CallS mu_L_shares mu_L_beat 196 3 := ⟨⟨(bg_3 77 rfl rfl), mo_L_beat.1, mo_L_beat.2.1, mo_L_beat.2.2, by decide, by decide⟩, ms_L_beat⟩
set_option maxRecDepth 20000 in
theorem mo_L_count : MOK mu_L_count 2 := ⟨(bg_1 0 rfl rfl), (bg_3 174 rfl rfl), by decide⟩
set_option maxRecDepth 20000 in
theorem ms_L_count : Cond.static mu_L_count.1 ∈ Big := (bg_3 173 rfl rfl)
set_option maxRecDepth 20000 in
theorem co_L_stays_198 : CallS mu_L_stays mu_L_count 198 2 := ⟨⟨(bg_3 172 rfl rfl), mo_L_count.1, mo_L_count.2.1, mo_L_count.2.2, by decide, by decide⟩, ms_L_count⟩
set_option maxRecDepth 20000 in
theorem mo_L_audit : MOK mu_L_audit 2 := ⟨(bg_1 0 rfl rfl), (bg_6 19 rfl rfl), by decide⟩
set_option maxRecDepth 20000 in
theorem ms_L_audit : Cond.static mu_L_audit.1 ∈ Big := (bg_6 18 rfl rfl)
set_option maxRecDepth 20000 in
theorem co_L_stays_200 : CallS mu_L_stays mu_L_audit 200 2 := ⟨⟨(bg_6 17 rfl rfl), mo_L_audit.1, mo_L_audit.2.1, mo_L_audit.2.2, by decide, by decide⟩, ms_L_audit⟩
set_option maxRecDepth 20000 in
theorem co_L_stays_140 : CallS mu_L_stays mu_L_message 140 3 := ⟨⟨(bg_3 123 rfl rfl), mo_L_message.1, mo_L_message.2.1, mo_L_message.2.2, by decide, by decide⟩, ms_L_message⟩
set_option maxRecDepth 20000 in
theorem co_L_stays_144 : CallS mu_L_stays mu_L_has 144 2 := ⟨⟨(bg_4 68 rfl rfl), mo_L_has.1, mo_L_has.2.1, mo_L_has.2.2, by decide, by decide⟩, ms_L_has⟩
set_option maxRecDepth 20000 in
theorem mo_L_at : MOK mu_L_at 3 := ⟨(bg_1 0 rfl rfl), (bg_6 113 rfl rfl), by decide⟩
set_option maxRecDepth 20000 in
theorem ms_L_at : Cond.static mu_L_at.1 ∈ Big := (bg_6 112 rfl rfl)
set_option maxRecDepth 20000 in
theorem co_L_stays_202 : CallS mu_L_stays mu_L_at 202 3 := ⟨⟨(bg_6 111 rfl rfl), mo_L_at.1, mo_L_at.2.1, mo_L_at.2.2, by decide, by decide⟩, ms_L_at⟩
set_option maxRecDepth 20000 in
theorem co_L_beats_129 : CallS mu_L_beats mu_L_ofGroup 129 3 := ⟨⟨(bg_3 190 rfl rfl), mo_L_ofGroup.1, mo_L_ofGroup.2.1, mo_L_ofGroup.2.2, by decide, by decide⟩, ms_L_ofGroup⟩
set_option maxRecDepth 20000 in
theorem mo_L_share : MOK mu_L_share 4 := ⟨(bg_1 0 rfl rfl), (bg_6 154 rfl rfl), by decide⟩
set_option maxRecDepth 20000 in
theorem ms_L_share : Cond.static mu_L_share.1 ∈ Big := (bg_6 153 rfl rfl)
set_option maxRecDepth 20000 in
theorem co_L_beats_206 : CallS mu_L_beats mu_L_share 206 4 := ⟨⟨(bg_6 152 rfl rfl), mo_L_share.1, mo_L_share.2.1, mo_L_share.2.2, by decide, by decide⟩, ms_L_share⟩
set_option maxRecDepth 20000 in
theorem mo_L_member : MOK mu_L_member 4 := ⟨(bg_1 0 rfl rfl), (bg_6 146 rfl rfl), by decide⟩
set_option maxRecDepth 20000 in
theorem ms_L_member : Cond.static mu_L_member.1 ∈ Big := (bg_6 145 rfl rfl)
set_option maxRecDepth 20000 in
theorem co_L_beats_204 : CallS mu_L_beats mu_L_member 204 4 := ⟨⟨(bg_6 144 rfl rfl), mo_L_member.1, mo_L_member.2.1, mo_L_member.2.2, by decide, by decide⟩, ms_L_member⟩
set_option maxRecDepth 20000 in
theorem co_L_beats_196 : CallS mu_L_beats mu_L_beat 196 3 := ⟨⟨(bg_3 77 rfl rfl), mo_L_beat.1, mo_L_beat.2.1, mo_L_beat.2.2, by decide, by decide⟩, ms_L_beat⟩
set_option maxRecDepth 20000 in
theorem co_L_heals_182 : CallS mu_L_heals mu_L_speed 182 2 := ⟨⟨(bg_5 143 rfl rfl), mo_L_speed.1, mo_L_speed.2.1, mo_L_speed.2.2, by decide, by decide⟩, ms_L_speed⟩
set_option maxRecDepth 20000 in
theorem co_L_heals_129 : CallS mu_L_heals mu_L_ofGroup 129 3 := ⟨⟨(bg_3 190 rfl rfl), mo_L_ofGroup.1, mo_L_ofGroup.2.1, mo_L_ofGroup.2.2, by decide, by decide⟩, ms_L_ofGroup⟩
set_option maxRecDepth 20000 in
theorem co_L_heals_186 : CallS mu_L_heals mu_L_join 186 2 := ⟨⟨(bg_2 216 rfl rfl), mo_L_join.1, mo_L_join.2.1, mo_L_join.2.2, by decide, by decide⟩, ms_L_join⟩
set_option maxRecDepth 20000 in
theorem mo_L_partition : MOK mu_L_partition 3 := ⟨(bg_1 0 rfl rfl), (bg_6 125 rfl rfl), by decide⟩
set_option maxRecDepth 20000 in
theorem ms_L_partition : Cond.static mu_L_partition.1 ∈ Big := (bg_6 124 rfl rfl)
set_option maxRecDepth 20000 in
theorem co_L_heals_209 : CallS mu_L_heals mu_L_partition 209 3 := ⟨⟨(bg_6 123 rfl rfl), mo_L_partition.1, mo_L_partition.2.1, mo_L_partition.2.2, by decide, by decide⟩, ms_L_partition⟩
set_option maxRecDepth 20000 in
theorem co_L_heals_180 : CallS mu_L_heals mu_L_fetch 180 2 := ⟨⟨(bg_5 132 rfl rfl), mo_L_fetch.1, mo_L_fetch.2.1, mo_L_fetch.2.2, by decide, by decide⟩, ms_L_fetch⟩
set_option maxRecDepth 20000 in
theorem co_L_heals_165 : CallS mu_L_heals mu_L_abort 165 2 := ⟨⟨(bg_5 47 rfl rfl), mo_L_abort.1, mo_L_abort.2.1, mo_L_abort.2.2, by decide, by decide⟩, ms_L_abort⟩
set_option maxRecDepth 20000 in
theorem co_L_heals_174 : CallS mu_L_heals mu_L_resend 174 3 := ⟨⟨(bg_5 73 rfl rfl), mo_L_resend.1, mo_L_resend.2.1, mo_L_resend.2.2, by decide, by decide⟩, ms_L_resend⟩
set_option maxRecDepth 20000 in
theorem co_L_heals_178 : CallS mu_L_heals mu_L_restore 178 2 := ⟨⟨(bg_5 124 rfl rfl), mo_L_restore.1, mo_L_restore.2.1, mo_L_restore.2.2, by decide, by decide⟩, ms_L_restore⟩
set_option maxRecDepth 20000 in
theorem co_L_empties_204 : CallS mu_L_empties mu_L_member 204 4 := ⟨⟨(bg_6 144 rfl rfl), mo_L_member.1, mo_L_member.2.1, mo_L_member.2.2, by decide, by decide⟩, ms_L_member⟩
set_option maxRecDepth 20000 in
theorem mo_L_hand : MOK mu_L_hand 5 := ⟨(bg_1 0 rfl rfl), (bg_6 180 rfl rfl), by decide⟩
set_option maxRecDepth 20000 in
theorem ms_L_hand : Cond.static mu_L_hand.1 ∈ Big := (bg_6 179 rfl rfl)
set_option maxRecDepth 20000 in
theorem co_L_empties_223 : CallS mu_L_empties mu_L_hand 223 5 := ⟨⟨(bg_6 178 rfl rfl), mo_L_hand.1, mo_L_hand.2.1, mo_L_hand.2.2, by decide, by decide⟩, ms_L_hand⟩
set_option maxRecDepth 20000 in
theorem co_L_empties_194 : CallS mu_L_empties mu_L_done 194 4 := ⟨⟨(bg_6 6 rfl rfl), mo_L_done.1, mo_L_done.2.1, mo_L_done.2.2, by decide, by decide⟩, ms_L_done⟩
set_option maxRecDepth 20000 in
theorem mo_L_beats : MOK mu_L_beats 1 := ⟨(bg_1 0 rfl rfl), (bg_6 143 rfl rfl), by decide⟩
set_option maxRecDepth 20000 in
theorem ms_L_beats : Cond.static mu_L_beats.1 ∈ Big := (bg_6 142 rfl rfl)
set_option maxRecDepth 20000 in
theorem co_L_readsAll_211 : CallS mu_L_readsAll mu_L_beats 211 1 := ⟨⟨(bg_6 141 rfl rfl), mo_L_beats.1, mo_L_beats.2.1, mo_L_beats.2.2, by decide, by decide⟩, ms_L_beats⟩
set_option maxRecDepth 20000 in
theorem co_L_readsAll_184 : CallS mu_L_readsAll mu_L_tick 184 2 := ⟨⟨(bg_5 150 rfl rfl), mo_L_tick.1, mo_L_tick.2.1, mo_L_tick.2.2, by decide, by decide⟩, ms_L_tick⟩
set_option maxRecDepth 20000 in
theorem co_L_readsAll_204 : CallS mu_L_readsAll mu_L_member 204 4 := ⟨⟨(bg_6 144 rfl rfl), mo_L_member.1, mo_L_member.2.1, mo_L_member.2.2, by decide, by decide⟩, ms_L_member⟩
set_option maxRecDepth 20000 in
theorem mo_L_reads : MOK mu_L_reads 4 := ⟨(bg_1 0 rfl rfl), (bg_3 210 rfl rfl), by decide⟩
set_option maxRecDepth 20000 in
theorem ms_L_reads : Cond.static mu_L_reads.1 ∈ Big := (bg_3 209 rfl rfl)
set_option maxRecDepth 20000 in
theorem co_L_readsAll_215 : CallS mu_L_readsAll mu_L_reads 215 4 := ⟨⟨(bg_3 208 rfl rfl), mo_L_reads.1, mo_L_reads.2.1, mo_L_reads.2.2, by decide, by decide⟩, ms_L_reads⟩
set_option maxRecDepth 20000 in
theorem mo_L_empties : MOK mu_L_empties 2 := ⟨(bg_1 0 rfl rfl), (bg_6 177 rfl rfl), by decide⟩
set_option maxRecDepth 20000 in
theorem ms_L_empties : Cond.static mu_L_empties.1 ∈ Big := (bg_6 176 rfl rfl)
set_option maxRecDepth 20000 in
theorem co_L_readsAll_219 : CallS mu_L_readsAll mu_L_empties 219 2 := ⟨⟨(bg_6 175 rfl rfl), mo_L_empties.1, mo_L_empties.2.1, mo_L_empties.2.2, by decide, by decide⟩, ms_L_empties⟩
set_option maxRecDepth 20000 in
theorem mo_X10_init : MOK mu_X10_init 0 := ⟨(bg_1 1 rfl rfl), (bg_1 23 rfl rfl), by decide⟩
set_option maxRecDepth 20000 in
theorem co_L_law_225 : CallI mu_L_law mu_X10_init 225 0 := ⟨⟨(bg_1 21 rfl rfl), mo_X10_init.1, mo_X10_init.2.1, mo_X10_init.2.2, by decide, by decide⟩, (bg_1 22 rfl rfl), rfl, rfl, rfl⟩
set_option maxRecDepth 20000 in
theorem mo_L_topic : MOK mu_L_topic 4 := ⟨(bg_1 0 rfl rfl), (bg_1 92 rfl rfl), by decide⟩
set_option maxRecDepth 20000 in
theorem ms_L_topic : Cond.static mu_L_topic.1 ∈ Big := (bg_1 91 rfl rfl)
set_option maxRecDepth 20000 in
theorem co_L_law_226 : CallS mu_L_law mu_L_topic 226 4 := ⟨⟨(bg_1 90 rfl rfl), mo_L_topic.1, mo_L_topic.2.1, mo_L_topic.2.2, by decide, by decide⟩, ms_L_topic⟩
set_option maxRecDepth 20000 in
theorem mo_L_heals : MOK mu_L_heals 1 := ⟨(bg_1 0 rfl rfl), (bg_6 121 rfl rfl), by decide⟩
set_option maxRecDepth 20000 in
theorem ms_L_heals : Cond.static mu_L_heals.1 ∈ Big := (bg_6 120 rfl rfl)
set_option maxRecDepth 20000 in
theorem co_L_law_251 : CallS mu_L_law mu_L_heals 251 1 := ⟨⟨(bg_6 119 rfl rfl), mo_L_heals.1, mo_L_heals.2.1, mo_L_heals.2.2, by decide, by decide⟩, ms_L_heals⟩
set_option maxRecDepth 20000 in
theorem mo_L_readsAll : MOK mu_L_readsAll 3 := ⟨(bg_1 0 rfl rfl), (bg_6 140 rfl rfl), by decide⟩
set_option maxRecDepth 20000 in
theorem ms_L_readsAll : Cond.static mu_L_readsAll.1 ∈ Big := (bg_6 139 rfl rfl)
set_option maxRecDepth 20000 in
theorem co_L_law_254 : CallS mu_L_law mu_L_readsAll 254 3 := ⟨⟨(bg_6 138 rfl rfl), mo_L_readsAll.1, mo_L_readsAll.2.1, mo_L_readsAll.2.2, by decide, by decide⟩, ms_L_readsAll⟩
set_option maxRecDepth 20000 in
theorem mo_L_stays : MOK mu_L_stays 2 := ⟨(bg_1 0 rfl rfl), (bg_6 16 rfl rfl), by decide⟩
set_option maxRecDepth 20000 in
theorem ms_L_stays : Cond.static mu_L_stays.1 ∈ Big := (bg_6 15 rfl rfl)
set_option maxRecDepth 20000 in
theorem co_L_law_247 : CallS mu_L_law mu_L_stays 247 2 := ⟨⟨(bg_6 14 rfl rfl), mo_L_stays.1, mo_L_stays.2.1, mo_L_stays.2.2, by decide, by decide⟩, ms_L_stays⟩
set_option maxRecDepth 20000 in
theorem co_L_law_198 : CallS mu_L_law mu_L_count 198 2 := ⟨⟨(bg_3 172 rfl rfl), mo_L_count.1, mo_L_count.2.1, mo_L_count.2.2, by decide, by decide⟩, ms_L_count⟩
set_option maxRecDepth 20000 in
theorem co_L_law_140 : CallS mu_L_law mu_L_message 140 3 := ⟨⟨(bg_3 123 rfl rfl), mo_L_message.1, mo_L_message.2.1, mo_L_message.2.2, by decide, by decide⟩, ms_L_message⟩
set_option maxRecDepth 20000 in
theorem co_L_law_142 : CallS mu_L_law mu_L_seen 142 3 := ⟨⟨(bg_3 161 rfl rfl), mo_L_seen.1, mo_L_seen.2.1, mo_L_seen.2.2, by decide, by decide⟩, ms_L_seen⟩
set_option maxRecDepth 20000 in
theorem co_L_law_134 : CallS mu_L_law mu_L_cell 134 3 := ⟨⟨(bg_1 86 rfl rfl), mo_L_cell.1, mo_L_cell.2.1, mo_L_cell.2.2, by decide, by decide⟩, ms_L_cell⟩
set_option maxRecDepth 20000 in
theorem mo_L_writes : MOK mu_L_writes 3 := ⟨(bg_1 0 rfl rfl), (bg_4 119 rfl rfl), by decide⟩
set_option maxRecDepth 20000 in
theorem ms_L_writes : Cond.static mu_L_writes.1 ∈ Big := (bg_4 118 rfl rfl)
set_option maxRecDepth 20000 in
theorem co_L_law_234 : CallS mu_L_law mu_L_writes 234 3 := ⟨⟨(bg_4 117 rfl rfl), mo_L_writes.1, mo_L_writes.2.1, mo_L_writes.2.2, by decide, by decide⟩, ms_L_writes⟩
set_option maxRecDepth 20000 in
theorem mo_L_breaks : MOK mu_L_breaks 3 := ⟨(bg_1 0 rfl rfl), (bg_5 83 rfl rfl), by decide⟩
set_option maxRecDepth 20000 in
theorem ms_L_breaks : Cond.static mu_L_breaks.1 ∈ Big := (bg_5 82 rfl rfl)
set_option maxRecDepth 20000 in
theorem co_L_law_237 : CallS mu_L_law mu_L_breaks 237 3 := ⟨⟨(bg_5 81 rfl rfl), mo_L_breaks.1, mo_L_breaks.2.1, mo_L_breaks.2.2, by decide, by decide⟩, ms_L_breaks⟩
set_option maxRecDepth 20000 in
theorem mo_L_shares : MOK mu_L_shares 3 := ⟨(bg_1 0 rfl rfl), (bg_5 201 rfl rfl), by decide⟩
set_option maxRecDepth 20000 in
theorem ms_L_shares : Cond.static mu_L_shares.1 ∈ Big := (bg_5 200 rfl rfl)
set_option maxRecDepth 20000 in
theorem co_L_law_240 : CallS mu_L_law mu_L_shares 240 3 := ⟨⟨(bg_5 199 rfl rfl), mo_L_shares.1, mo_L_shares.2.1, mo_L_shares.2.2, by decide, by decide⟩, ms_L_shares⟩
set_option maxRecDepth 20000 in
theorem mo_L_thins : MOK mu_L_thins 3 := ⟨(bg_1 0 rfl rfl), (bg_4 73 rfl rfl), by decide⟩
set_option maxRecDepth 20000 in
theorem ms_L_thins : Cond.static mu_L_thins.1 ∈ Big := (bg_4 72 rfl rfl)
set_option maxRecDepth 20000 in
theorem co_L_law_243 : CallS mu_L_law mu_L_thins 243 3 := ⟨⟨(bg_4 71 rfl rfl), mo_L_thins.1, mo_L_thins.2.1, mo_L_thins.2.2, by decide, by decide⟩, ms_L_thins⟩
set_option maxRecDepth 20000 in
theorem co_L_law_167 : CallS mu_L_law mu_L_some 167 3 := ⟨⟨(bg_3 187 rfl rfl), mo_L_some.1, mo_L_some.2.1, mo_L_some.2.2, by decide, by decide⟩, ms_L_some⟩
set_option maxRecDepth 20000 in
theorem co_L_law_215 : CallS mu_L_law mu_L_reads 215 4 := ⟨⟨(bg_3 208 rfl rfl), mo_L_reads.1, mo_L_reads.2.1, mo_L_reads.2.2, by decide, by decide⟩, ms_L_reads⟩
set_option maxRecDepth 20000 in
theorem mo_L_producer : MOK mu_L_producer 1 := ⟨(bg_1 0 rfl rfl), (bg_2 53 rfl rfl), by decide⟩
set_option maxRecDepth 20000 in
theorem ms_L_producer : Cond.static mu_L_producer.1 ∈ Big := (bg_2 52 rfl rfl)
set_option maxRecDepth 20000 in
theorem co_L_law_229 : CallS mu_L_law mu_L_producer 229 1 := ⟨⟨(bg_2 51 rfl rfl), mo_L_producer.1, mo_L_producer.2.1, mo_L_producer.2.2, by decide, by decide⟩, ms_L_producer⟩
set_option maxRecDepth 20000 in
theorem mo_L_group : MOK mu_L_group 2 := ⟨(bg_1 0 rfl rfl), (bg_2 100 rfl rfl), by decide⟩
set_option maxRecDepth 20000 in
theorem ms_L_group : Cond.static mu_L_group.1 ∈ Big := (bg_2 99 rfl rfl)
set_option maxRecDepth 20000 in
theorem co_L_law_232 : CallS mu_L_law mu_L_group 232 2 := ⟨⟨(bg_2 98 rfl rfl), mo_L_group.1, mo_L_group.2.1, mo_L_group.2.2, by decide, by decide⟩, ms_L_group⟩
set_option maxRecDepth 20000 in
theorem co_L_law_186 : CallS mu_L_law mu_L_join 186 2 := ⟨⟨(bg_2 216 rfl rfl), mo_L_join.1, mo_L_join.2.1, mo_L_join.2.2, by decide, by decide⟩, ms_L_join⟩
set_option maxRecDepth 20000 in
theorem co_L_law_196 : CallS mu_L_law mu_L_beat 196 3 := ⟨⟨(bg_3 77 rfl rfl), mo_L_beat.1, mo_L_beat.2.1, mo_L_beat.2.2, by decide, by decide⟩, ms_L_beat⟩
set_option maxRecDepth 20000 in
theorem nw_RL_9 : Cond.classLink RL 9 RX10 ∈ Big ∧ Cond.instantiable RX10 16 ∈ Big ∧ Cond.initialized RX10 ∈ Big := ⟨(bg_1 19 rfl rfl), (bg_1 20 rfl rfl), (bg_1 1 rfl rfl)⟩
