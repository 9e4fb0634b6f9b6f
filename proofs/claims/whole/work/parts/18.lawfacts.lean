abbrev mu_L_topic : MI := (yL_topic, cL_topic, 6, (some .int), 8, 129, [(0, 12, 15, 13), (0, 12, 19, 15)])
abbrev mu_L_retain : MI := (yL_retain, cL_retain, 6, (some .int), 8, 129, [(0, 12, 15, 21), (0, 12, 19, 13), (0, 12, 23, 15)])
abbrev mu_L_compact : MI := (yL_compact, cL_compact, 4, (some .int), 8, 138, [(0, 9, 12, 21), (0, 9, 15, 15)])
abbrev mu_L_fail : MI := (yL_fail, cL_fail, 4, (some .int), 8, 128, [(0, 9, 12, 21), (0, 9, 15, 15)])
abbrev mu_L_restore : MI := (yL_restore, cL_restore, 4, (some .int), 8, 129, [(0, 9, 12, 21), (0, 9, 15, 15)])
abbrev mu_L_fetch : MI := (yL_fetch, cL_fetch, 4, (some .int), 8, 129, [(0, 9, 12, 21), (0, 9, 15, 15)])
abbrev mu_L_speed : MI := (yL_speed, cL_speed, 4, (some .int), 8, 126, [(0, 9, 12, 13)])
abbrev mu_L_tick : MI := (yL_tick, cL_tick, 4, (some .int), 8, 190, [(0, 9, 12, 13)])
abbrev mu_L_producer : MI := (yL_producer, cL_producer, 3, (some .int), 7, 103, [(0, 8, 11, 15)])
abbrev mu_L_quota : MI := (yL_quota, cL_quota, 5, (some .int), 8, 128, [(0, 10, 13, 21), (0, 10, 17, 13)])
abbrev mu_L_send : MI := (yL_send, cL_send, 7, (some .int), 8, 130, [(0, 14, 17, 21), (0, 14, 21, 13), (0, 14, 25, 15)])
abbrev mu_L_sendSome : MI := (yL_sendSome, cL_sendSome, 7, (some .int), 8, 135, [(0, 14, 17, 21), (0, 14, 21, 13)])
abbrev mu_L_sendLater : MI := (yL_sendLater, cL_sendLater, 8, (some .int), 8, 132, [(0, 16, 19, 21), (0, 16, 23, 13), (0, 16, 27, 15)])
abbrev mu_L_resend : MI := (yL_resend, cL_resend, 5, (some .int), 8, 131, [(0, 10, 13, 21), (0, 10, 17, 15)])
abbrev mu_L_begin : MI := (yL_begin, cL_begin, 4, (some .int), 8, 126, [(0, 9, 12, 21), (0, 9, 15, 15)])
abbrev mu_L_attach : MI := (yL_attach, cL_attach, 6, (some .int), 8, 131, [(0, 12, 15, 21), (0, 12, 19, 15)])
abbrev mu_L_commit : MI := (yL_commit, cL_commit, 4, (some .int), 8, 127, [(0, 9, 12, 21), (0, 9, 15, 15)])
abbrev mu_L_abort : MI := (yL_abort, cL_abort, 4, (some .int), 8, 127, [(0, 9, 12, 21), (0, 9, 15, 15)])
abbrev mu_L_group : MI := (yL_group, cL_group, 4, (some .int), 7, 108, [(0, 9, 12, 13), (0, 9, 15, 15)])
abbrev mu_L_join : MI := (yL_join, cL_join, 4, (some .int), 8, 126, [(0, 9, 12, 21), (0, 9, 15, 15)])
abbrev mu_L_leave : MI := (yL_leave, cL_leave, 5, (some .int), 8, 142, [(0, 10, 13, 21)])
abbrev mu_L_beat : MI := (yL_beat, cL_beat, 5, (some .int), 8, 142, [(0, 10, 13, 21)])
abbrev mu_L_credits : MI := (yL_credits, cL_credits, 6, (some .int), 8, 130, [(0, 12, 15, 21), (0, 12, 19, 13), (0, 12, 23, 15)])
abbrev mu_L_read : MI := (yL_read, cL_read, 5, (some .int), 8, 145, [(0, 10, 13, 21)])
abbrev mu_L_done : MI := (yL_done, cL_done, 6, (some .int), 8, 130, [(0, 12, 15, 21), (0, 12, 19, 15)])
abbrev mu_L_retry : MI := (yL_retry, cL_retry, 6, (some .int), 8, 140, [(0, 12, 15, 21), (0, 12, 19, 15)])
abbrev mu_L_commitOffsets : MI := (yL_commitOffsets, cL_commitOffsets, 5, (some .int), 8, 128, [(0, 10, 13, 21)])
abbrev mu_L_seek : MI := (yL_seek, cL_seek, 6, (some .int), 8, 130, [(0, 12, 15, 21), (0, 12, 19, 13), (0, 12, 23, 15)])
abbrev mu_L_message : MI := (yL_message, cL_message, 5, (some .int), 8, 133, [(0, 10, 13, 21), (0, 10, 17, 13)])
abbrev mu_L_at : MI := (yL_at, cL_at, 5, (some .int), 8, 128, [(0, 10, 13, 21)])
abbrev mu_L_partition : MI := (yL_partition, cL_partition, 5, (some .int), 8, 127, [(0, 10, 13, 21), (0, 10, 17, 13)])
abbrev mu_L_replica : MI := (yL_replica, cL_replica, 6, (some .int), 8, 129, [(0, 12, 15, 21), (0, 12, 19, 13)])
abbrev mu_L_offsetAt : MI := (yL_offsetAt, cL_offsetAt, 5, (some .int), 8, 130, [(0, 10, 13, 21)])
abbrev mu_L_value : MI := (yL_value, cL_value, 5, (some .int), 8, 128, [(0, 10, 13, 21)])
abbrev mu_L_sum : MI := (yL_sum, cL_sum, 7, (some .int), 8, 133, [(0, 14, 17, 21)])
abbrev mu_L_share : MI := (yL_share, cL_share, 6, (some .int), 8, 142, [(0, 12, 15, 21), (0, 12, 19, 13)])
abbrev mu_L_member : MI := (yL_member, cL_member, 6, (some .int), 8, 130, [(0, 12, 15, 21), (0, 12, 19, 13)])
abbrev mu_L_hand : MI := (yL_hand, cL_hand, 7, (some .int), 8, 130, [(0, 14, 17, 21), (0, 14, 21, 13)])
abbrev mu_L_waits : MI := (yL_waits, cL_waits, 6, (some .int), 8, 128, [(0, 12, 15, 21), (0, 12, 19, 13)])
abbrev mu_L_dead : MI := (yL_dead, cL_dead, 5, (some .int), 8, 126, [(0, 10, 13, 21)])
abbrev mu_L_seen : MI := (yL_seen, cL_seen, 5, (some .int), 8, 128, [(0, 10, 13, 21)])
abbrev mu_L_count : MI := (yL_count, cL_count, 4, (some .int), 8, 125, [(0, 9, 12, 13)])
abbrev mu_L_ofGroup : MI := (yL_ofGroup, cL_ofGroup, 5, (some .int), 8, 127, [(0, 10, 13, 21), (0, 10, 17, 13)])
abbrev mu_L_audit : MI := (yL_audit, cL_audit, 4, (some .int), 8, 164, [(0, 16, 19, 13)])
abbrev mu_L_law : MI := (yL_law, cL_law, 7, (some .boolean), 9, 213, [])
set_option maxRecDepth 20000 in
theorem mo_X10_topic : MOK mu_X10_topic 3 := ⟨(bg_1 1 rfl rfl), (bg_1 199 rfl rfl), by decide⟩
set_option maxRecDepth 20000 in
theorem mv_X10_topic : Cond.instanceMethod mu_X10_topic.1 ∈ Big ∧ Cond.selects mu_X10_topic.1.cls mu_X10_topic.1 mu_X10_topic.1 ∈ Big := ⟨(bg_1 197 rfl rfl), (bg_1 198 rfl rfl)⟩
set_option maxRecDepth 20000 in
theorem co_L_topic_7 : CallV mu_L_topic mu_X10_topic 7 3 10 := ⟨⟨(bg_1 196 rfl rfl), mo_X10_topic.1, mo_X10_topic.2.1, mo_X10_topic.2.2, by decide, by decide⟩, mv_X10_topic.1, mv_X10_topic.2, rfl, _, _, cls_10⟩
set_option maxRecDepth 20000 in
theorem hk_L_topic_0 : HandOK mu_L_topic 7 "java/lang/IllegalArgumentException" 1 := ⟨[], ⟨0, 12, 15, 13⟩, [⟨0, 12, 19, 15⟩], rfl, (fun _ h => nomatch h), by decide, by decide, (bg_1 194 rfl rfl), by decide, ⟨5, 17, by decide, (Or.inl ⟨(by decide +kernel), rfl⟩), (by decide +kernel), (by decide +kernel)⟩, w_eq (by decide) (by decide), rfl⟩
theorem hk_L_topic_1 : HandOK mu_L_topic 7 "java/lang/IllegalStateException" 2 := ⟨[⟨0, 12, 15, 13⟩], ⟨0, 12, 19, 15⟩, [], rfl, (List.forall_mem_cons.mpr ⟨⟨by decide, "java/lang/IllegalArgumentException", by decide, (bg_1 194 rfl rfl), by decide⟩, (fun _ h => nomatch h)⟩), by decide, by decide, (bg_1 195 rfl rfl), by decide, ⟨5, 21, by decide, (Or.inl ⟨(by decide +kernel), rfl⟩), (by decide +kernel), (by decide +kernel)⟩, w_eq (by decide) (by decide), rfl⟩
theorem hf_L_topic : ∀ (x : Int) (M : Mm) (r : Int × Mm), x ≠ 0 → (if x = 2 then some (1, M) else if x = 3 then some (2, M) else none) = some r → r.2 = M ∧ HandOK mu_L_topic 7 (exn x) r.1 := by
  intro x M r _ h
  by_cases q0 : x = 2
  · rw [if_pos q0] at h; cases h; subst q0; exact ⟨rfl, hk_L_topic_0⟩
  rw [if_neg q0] at h
  by_cases q1 : x = 3
  · rw [if_pos q1] at h; cases h; subst q1; exact ⟨rfl, hk_L_topic_1⟩
  rw [if_neg q1] at h
  exact nomatch h
set_option maxRecDepth 20000 in
theorem mo_X10_retain : MOK mu_X10_retain 3 := ⟨(bg_1 1 rfl rfl), (bg_2 157 rfl rfl), by decide⟩
set_option maxRecDepth 20000 in
theorem mv_X10_retain : Cond.instanceMethod mu_X10_retain.1 ∈ Big ∧ Cond.selects mu_X10_retain.1.cls mu_X10_retain.1 mu_X10_retain.1 ∈ Big := ⟨(bg_2 155 rfl rfl), (bg_2 156 rfl rfl)⟩
set_option maxRecDepth 20000 in
theorem co_L_retain_17 : CallV mu_L_retain mu_X10_retain 17 3 10 := ⟨⟨(bg_2 154 rfl rfl), mo_X10_retain.1, mo_X10_retain.2.1, mo_X10_retain.2.2, by decide, by decide⟩, mv_X10_retain.1, mv_X10_retain.2, rfl, _, _, cls_10⟩
set_option maxRecDepth 20000 in
theorem hk_L_retain_0 : HandOK mu_L_retain 7 "java/lang/IndexOutOfBoundsException" 1 := ⟨[], ⟨0, 12, 15, 21⟩, [⟨0, 12, 19, 13⟩, ⟨0, 12, 23, 15⟩], rfl, (fun _ h => nomatch h), by decide, by decide, (bg_2 153 rfl rfl), by decide, ⟨5, 17, by decide, (Or.inl ⟨(by decide +kernel), rfl⟩), (by decide +kernel), (by decide +kernel)⟩, w_eq (by decide) (by decide), rfl⟩
theorem hk_L_retain_1 : HandOK mu_L_retain 7 "java/lang/IllegalArgumentException" 2 := ⟨[⟨0, 12, 15, 21⟩], ⟨0, 12, 19, 13⟩, [⟨0, 12, 23, 15⟩], rfl, (List.forall_mem_cons.mpr ⟨⟨by decide, "java/lang/IndexOutOfBoundsException", by decide, (bg_2 153 rfl rfl), by decide⟩, (fun _ h => nomatch h)⟩), by decide, by decide, (bg_1 194 rfl rfl), by decide, ⟨5, 21, by decide, (Or.inl ⟨(by decide +kernel), rfl⟩), (by decide +kernel), (by decide +kernel)⟩, w_eq (by decide) (by decide), rfl⟩
theorem hk_L_retain_2 : HandOK mu_L_retain 7 "java/lang/IllegalStateException" 3 := ⟨[⟨0, 12, 15, 21⟩, ⟨0, 12, 19, 13⟩], ⟨0, 12, 23, 15⟩, [], rfl, (List.forall_mem_cons.mpr ⟨⟨by decide, "java/lang/IndexOutOfBoundsException", by decide, (bg_2 153 rfl rfl), by decide⟩, (List.forall_mem_cons.mpr ⟨⟨by decide, "java/lang/IllegalArgumentException", by decide, (bg_1 194 rfl rfl), by decide⟩, (fun _ h => nomatch h)⟩)⟩), by decide, by decide, (bg_1 195 rfl rfl), by decide, ⟨5, 25, by decide, (Or.inl ⟨(by decide +kernel), rfl⟩), (by decide +kernel), (by decide +kernel)⟩, w_eq (by decide) (by decide), rfl⟩
theorem hf_L_retain : ∀ (x : Int) (M : Mm) (r : Int × Mm), x ≠ 0 → (if x = 1 then some (1, M) else if x = 2 then some (2, M) else if x = 3 then some (3, M) else none) = some r → r.2 = M ∧ HandOK mu_L_retain 7 (exn x) r.1 := by
  intro x M r _ h
  by_cases q0 : x = 1
  · rw [if_pos q0] at h; cases h; subst q0; exact ⟨rfl, hk_L_retain_0⟩
  rw [if_neg q0] at h
  by_cases q1 : x = 2
  · rw [if_pos q1] at h; cases h; subst q1; exact ⟨rfl, hk_L_retain_1⟩
  rw [if_neg q1] at h
  by_cases q2 : x = 3
  · rw [if_pos q2] at h; cases h; subst q2; exact ⟨rfl, hk_L_retain_2⟩
  rw [if_neg q2] at h
  exact nomatch h
set_option maxRecDepth 20000 in
theorem mo_X10_compact : MOK mu_X10_compact 1 := ⟨(bg_1 1 rfl rfl), (bg_2 185 rfl rfl), by decide⟩
set_option maxRecDepth 20000 in
theorem mv_X10_compact : Cond.instanceMethod mu_X10_compact.1 ∈ Big ∧ Cond.selects mu_X10_compact.1.cls mu_X10_compact.1 mu_X10_compact.1 ∈ Big := ⟨(bg_2 183 rfl rfl), (bg_2 184 rfl rfl)⟩
set_option maxRecDepth 20000 in
theorem co_L_compact_23 : CallV mu_L_compact mu_X10_compact 23 1 10 := ⟨⟨(bg_2 182 rfl rfl), mo_X10_compact.1, mo_X10_compact.2.1, mo_X10_compact.2.2, by decide, by decide⟩, mv_X10_compact.1, mv_X10_compact.2, rfl, _, _, cls_10⟩
set_option maxRecDepth 20000 in
theorem hk_L_compact_0 : HandOK mu_L_compact 4 "java/lang/IndexOutOfBoundsException" 1 := ⟨[], ⟨0, 9, 12, 21⟩, [⟨0, 9, 15, 15⟩], rfl, (fun _ h => nomatch h), by decide, by decide, (bg_2 153 rfl rfl), by decide, ⟨3, 13, by decide, (Or.inr ⟨3, rfl, (by decide +kernel), rfl⟩), (by decide +kernel), (by decide +kernel)⟩, w_eq (by decide) (by decide), rfl⟩
theorem hk_L_compact_1 : HandOK mu_L_compact 4 "java/lang/IllegalStateException" 2 := ⟨[⟨0, 9, 12, 21⟩], ⟨0, 9, 15, 15⟩, [], rfl, (List.forall_mem_cons.mpr ⟨⟨by decide, "java/lang/IndexOutOfBoundsException", by decide, (bg_2 153 rfl rfl), by decide⟩, (fun _ h => nomatch h)⟩), by decide, by decide, (bg_1 195 rfl rfl), by decide, ⟨3, 16, by decide, (Or.inr ⟨3, rfl, (by decide +kernel), rfl⟩), (by decide +kernel), (by decide +kernel)⟩, w_eq (by decide) (by decide), rfl⟩
theorem hf_L_compact : ∀ (x : Int) (M : Mm) (r : Int × Mm), x ≠ 0 → (if x = 1 then some (1, M) else if x = 3 then some (2, M) else none) = some r → r.2 = M ∧ HandOK mu_L_compact 4 (exn x) r.1 := by
  intro x M r _ h
  by_cases q0 : x = 1
  · rw [if_pos q0] at h; cases h; subst q0; exact ⟨rfl, hk_L_compact_0⟩
  rw [if_neg q0] at h
  by_cases q1 : x = 3
  · rw [if_pos q1] at h; cases h; subst q1; exact ⟨rfl, hk_L_compact_1⟩
  rw [if_neg q1] at h
  exact nomatch h
set_option maxRecDepth 20000 in
theorem mo_X10_fail : MOK mu_X10_fail 1 := ⟨(bg_1 1 rfl rfl), (bg_2 208 rfl rfl), by decide⟩
set_option maxRecDepth 20000 in
theorem mv_X10_fail : Cond.instanceMethod mu_X10_fail.1 ∈ Big ∧ Cond.selects mu_X10_fail.1.cls mu_X10_fail.1 mu_X10_fail.1 ∈ Big := ⟨(bg_2 206 rfl rfl), (bg_2 207 rfl rfl)⟩
set_option maxRecDepth 20000 in
theorem co_L_fail_27 : CallV mu_L_fail mu_X10_fail 27 1 10 := ⟨⟨(bg_2 205 rfl rfl), mo_X10_fail.1, mo_X10_fail.2.1, mo_X10_fail.2.2, by decide, by decide⟩, mv_X10_fail.1, mv_X10_fail.2, rfl, _, _, cls_10⟩
set_option maxRecDepth 20000 in
theorem hk_L_fail_0 : HandOK mu_L_fail 4 "java/lang/IndexOutOfBoundsException" 1 := ⟨[], ⟨0, 9, 12, 21⟩, [⟨0, 9, 15, 15⟩], rfl, (fun _ h => nomatch h), by decide, by decide, (bg_2 153 rfl rfl), by decide, ⟨3, 13, by decide, (Or.inr ⟨3, rfl, (by decide +kernel), rfl⟩), (by decide +kernel), (by decide +kernel)⟩, w_eq (by decide) (by decide), rfl⟩
theorem hk_L_fail_1 : HandOK mu_L_fail 4 "java/lang/IllegalStateException" 2 := ⟨[⟨0, 9, 12, 21⟩], ⟨0, 9, 15, 15⟩, [], rfl, (List.forall_mem_cons.mpr ⟨⟨by decide, "java/lang/IndexOutOfBoundsException", by decide, (bg_2 153 rfl rfl), by decide⟩, (fun _ h => nomatch h)⟩), by decide, by decide, (bg_1 195 rfl rfl), by decide, ⟨3, 16, by decide, (Or.inr ⟨3, rfl, (by decide +kernel), rfl⟩), (by decide +kernel), (by decide +kernel)⟩, w_eq (by decide) (by decide), rfl⟩
theorem hf_L_fail : ∀ (x : Int) (M : Mm) (r : Int × Mm), x ≠ 0 → (if x = 1 then some (1, M) else if x = 3 then some (2, M) else none) = some r → r.2 = M ∧ HandOK mu_L_fail 4 (exn x) r.1 := by
  intro x M r _ h
  by_cases q0 : x = 1
  · rw [if_pos q0] at h; cases h; subst q0; exact ⟨rfl, hk_L_fail_0⟩
  rw [if_neg q0] at h
  by_cases q1 : x = 3
  · rw [if_pos q1] at h; cases h; subst q1; exact ⟨rfl, hk_L_fail_1⟩
  rw [if_neg q1] at h
  exact nomatch h
set_option maxRecDepth 20000 in
theorem mo_X10_restore : MOK mu_X10_restore 1 := ⟨(bg_1 1 rfl rfl), (bg_3 9 rfl rfl), by decide⟩
set_option maxRecDepth 20000 in
theorem mv_X10_restore : Cond.instanceMethod mu_X10_restore.1 ∈ Big ∧ Cond.selects mu_X10_restore.1.cls mu_X10_restore.1 mu_X10_restore.1 ∈ Big := ⟨(bg_3 7 rfl rfl), (bg_3 8 rfl rfl)⟩
set_option maxRecDepth 20000 in
theorem co_L_restore_30 : CallV mu_L_restore mu_X10_restore 30 1 10 := ⟨⟨(bg_3 6 rfl rfl), mo_X10_restore.1, mo_X10_restore.2.1, mo_X10_restore.2.2, by decide, by decide⟩, mv_X10_restore.1, mv_X10_restore.2, rfl, _, _, cls_10⟩
set_option maxRecDepth 20000 in
theorem hk_L_restore_0 : HandOK mu_L_restore 4 "java/lang/IndexOutOfBoundsException" 1 := ⟨[], ⟨0, 9, 12, 21⟩, [⟨0, 9, 15, 15⟩], rfl, (fun _ h => nomatch h), by decide, by decide, (bg_2 153 rfl rfl), by decide, ⟨3, 13, by decide, (Or.inr ⟨3, rfl, (by decide +kernel), rfl⟩), (by decide +kernel), (by decide +kernel)⟩, w_eq (by decide) (by decide), rfl⟩
theorem hk_L_restore_1 : HandOK mu_L_restore 4 "java/lang/IllegalStateException" 2 := ⟨[⟨0, 9, 12, 21⟩], ⟨0, 9, 15, 15⟩, [], rfl, (List.forall_mem_cons.mpr ⟨⟨by decide, "java/lang/IndexOutOfBoundsException", by decide, (bg_2 153 rfl rfl), by decide⟩, (fun _ h => nomatch h)⟩), by decide, by decide, (bg_1 195 rfl rfl), by decide, ⟨3, 16, by decide, (Or.inr ⟨3, rfl, (by decide +kernel), rfl⟩), (by decide +kernel), (by decide +kernel)⟩, w_eq (by decide) (by decide), rfl⟩
theorem hf_L_restore : ∀ (x : Int) (M : Mm) (r : Int × Mm), x ≠ 0 → (if x = 1 then some (1, M) else if x = 3 then some (2, M) else none) = some r → r.2 = M ∧ HandOK mu_L_restore 4 (exn x) r.1 := by
  intro x M r _ h
  by_cases q0 : x = 1
  · rw [if_pos q0] at h; cases h; subst q0; exact ⟨rfl, hk_L_restore_0⟩
  rw [if_neg q0] at h
  by_cases q1 : x = 3
  · rw [if_pos q1] at h; cases h; subst q1; exact ⟨rfl, hk_L_restore_1⟩
  rw [if_neg q1] at h
  exact nomatch h
set_option maxRecDepth 20000 in
theorem mo_X10_fetch : MOK mu_X10_fetch 1 := ⟨(bg_1 1 rfl rfl), (bg_3 17 rfl rfl), by decide⟩
set_option maxRecDepth 20000 in
theorem mv_X10_fetch : Cond.instanceMethod mu_X10_fetch.1 ∈ Big ∧ Cond.selects mu_X10_fetch.1.cls mu_X10_fetch.1 mu_X10_fetch.1 ∈ Big := ⟨(bg_3 15 rfl rfl), (bg_3 16 rfl rfl)⟩
set_option maxRecDepth 20000 in
theorem co_L_fetch_33 : CallV mu_L_fetch mu_X10_fetch 33 1 10 := ⟨⟨(bg_3 14 rfl rfl), mo_X10_fetch.1, mo_X10_fetch.2.1, mo_X10_fetch.2.2, by decide, by decide⟩, mv_X10_fetch.1, mv_X10_fetch.2, rfl, _, _, cls_10⟩
set_option maxRecDepth 20000 in
theorem hk_L_fetch_0 : HandOK mu_L_fetch 4 "java/lang/IndexOutOfBoundsException" 1 := ⟨[], ⟨0, 9, 12, 21⟩, [⟨0, 9, 15, 15⟩], rfl, (fun _ h => nomatch h), by decide, by decide, (bg_2 153 rfl rfl), by decide, ⟨3, 13, by decide, (Or.inr ⟨3, rfl, (by decide +kernel), rfl⟩), (by decide +kernel), (by decide +kernel)⟩, w_eq (by decide) (by decide), rfl⟩
theorem hk_L_fetch_1 : HandOK mu_L_fetch 4 "java/lang/IllegalStateException" 2 := ⟨[⟨0, 9, 12, 21⟩], ⟨0, 9, 15, 15⟩, [], rfl, (List.forall_mem_cons.mpr ⟨⟨by decide, "java/lang/IndexOutOfBoundsException", by decide, (bg_2 153 rfl rfl), by decide⟩, (fun _ h => nomatch h)⟩), by decide, by decide, (bg_1 195 rfl rfl), by decide, ⟨3, 16, by decide, (Or.inr ⟨3, rfl, (by decide +kernel), rfl⟩), (by decide +kernel), (by decide +kernel)⟩, w_eq (by decide) (by decide), rfl⟩
theorem hf_L_fetch : ∀ (x : Int) (M : Mm) (r : Int × Mm), x ≠ 0 → (if x = 1 then some (1, M) else if x = 3 then some (2, M) else none) = some r → r.2 = M ∧ HandOK mu_L_fetch 4 (exn x) r.1 := by
  intro x M r _ h
  by_cases q0 : x = 1
  · rw [if_pos q0] at h; cases h; subst q0; exact ⟨rfl, hk_L_fetch_0⟩
  rw [if_neg q0] at h
  by_cases q1 : x = 3
  · rw [if_pos q1] at h; cases h; subst q1; exact ⟨rfl, hk_L_fetch_1⟩
  rw [if_neg q1] at h
  exact nomatch h
set_option maxRecDepth 20000 in
theorem mo_X10_speed : MOK mu_X10_speed 1 := ⟨(bg_1 1 rfl rfl), (bg_3 28 rfl rfl), by decide⟩
set_option maxRecDepth 20000 in
theorem mv_X10_speed : Cond.instanceMethod mu_X10_speed.1 ∈ Big ∧ Cond.selects mu_X10_speed.1.cls mu_X10_speed.1 mu_X10_speed.1 ∈ Big := ⟨(bg_3 26 rfl rfl), (bg_3 27 rfl rfl)⟩
set_option maxRecDepth 20000 in
theorem co_L_speed_36 : CallV mu_L_speed mu_X10_speed 36 1 10 := ⟨⟨(bg_3 25 rfl rfl), mo_X10_speed.1, mo_X10_speed.2.1, mo_X10_speed.2.2, by decide, by decide⟩, mv_X10_speed.1, mv_X10_speed.2, rfl, _, _, cls_10⟩
set_option maxRecDepth 20000 in
theorem hk_L_speed_0 : HandOK mu_L_speed 4 "java/lang/IllegalArgumentException" 1 := ⟨[], ⟨0, 9, 12, 13⟩, [], rfl, (fun _ h => nomatch h), by decide, by decide, (bg_1 194 rfl rfl), by decide, ⟨3, 13, by decide, (Or.inr ⟨3, rfl, (by decide +kernel), rfl⟩), (by decide +kernel), (by decide +kernel)⟩, w_eq (by decide) (by decide), rfl⟩
theorem hf_L_speed : ∀ (x : Int) (M : Mm) (r : Int × Mm), x ≠ 0 → (if x = 2 then some (1, M) else none) = some r → r.2 = M ∧ HandOK mu_L_speed 4 (exn x) r.1 := by
  intro x M r _ h
  by_cases q0 : x = 2
  · rw [if_pos q0] at h; cases h; subst q0; exact ⟨rfl, hk_L_speed_0⟩
  rw [if_neg q0] at h
  exact nomatch h
set_option maxRecDepth 20000 in
theorem mo_X10_tick : MOK mu_X10_tick 1 := ⟨(bg_1 1 rfl rfl), (bg_3 35 rfl rfl), by decide⟩
set_option maxRecDepth 20000 in
theorem mv_X10_tick : Cond.instanceMethod mu_X10_tick.1 ∈ Big ∧ Cond.selects mu_X10_tick.1.cls mu_X10_tick.1 mu_X10_tick.1 ∈ Big := ⟨(bg_3 33 rfl rfl), (bg_3 34 rfl rfl)⟩
set_option maxRecDepth 20000 in
theorem co_L_tick_39 : CallV mu_L_tick mu_X10_tick 39 1 10 := ⟨⟨(bg_3 32 rfl rfl), mo_X10_tick.1, mo_X10_tick.2.1, mo_X10_tick.2.2, by decide, by decide⟩, mv_X10_tick.1, mv_X10_tick.2, rfl, _, _, cls_10⟩
set_option maxRecDepth 20000 in
theorem hk_L_tick_0 : HandOK mu_L_tick 4 "java/lang/IllegalArgumentException" 1 := ⟨[], ⟨0, 9, 12, 13⟩, [], rfl, (fun _ h => nomatch h), by decide, by decide, (bg_1 194 rfl rfl), by decide, ⟨3, 13, by decide, (Or.inr ⟨3, rfl, (by decide +kernel), rfl⟩), (by decide +kernel), (by decide +kernel)⟩, w_eq (by decide) (by decide), rfl⟩
theorem hf_L_tick : ∀ (x : Int) (M : Mm) (r : Int × Mm), x ≠ 0 → (if x = 2 then some (1, M) else none) = some r → r.2 = M ∧ HandOK mu_L_tick 4 (exn x) r.1 := by
  intro x M r _ h
  by_cases q0 : x = 2
  · rw [if_pos q0] at h; cases h; subst q0; exact ⟨rfl, hk_L_tick_0⟩
  rw [if_neg q0] at h
  exact nomatch h
set_option maxRecDepth 20000 in
theorem mo_X10_producer : MOK mu_X10_producer 0 := ⟨(bg_1 1 rfl rfl), (bg_3 137 rfl rfl), by decide⟩
set_option maxRecDepth 20000 in
theorem mv_X10_producer : Cond.instanceMethod mu_X10_producer.1 ∈ Big ∧ Cond.selects mu_X10_producer.1.cls mu_X10_producer.1 mu_X10_producer.1 ∈ Big := ⟨(bg_3 135 rfl rfl), (bg_3 136 rfl rfl)⟩
set_option maxRecDepth 20000 in
theorem co_L_producer_42 : CallV mu_L_producer mu_X10_producer 42 0 10 := ⟨⟨(bg_3 134 rfl rfl), mo_X10_producer.1, mo_X10_producer.2.1, mo_X10_producer.2.2, by decide, by decide⟩, mv_X10_producer.1, mv_X10_producer.2, rfl, _, _, cls_10⟩
set_option maxRecDepth 20000 in
theorem hk_L_producer_0 : HandOK mu_L_producer 3 "java/lang/IllegalStateException" 1 := ⟨[], ⟨0, 8, 11, 15⟩, [], rfl, (fun _ h => nomatch h), by decide, by decide, (bg_1 195 rfl rfl), by decide, ⟨2, 12, by decide, (Or.inr ⟨2, rfl, (by decide +kernel), rfl⟩), (by decide +kernel), (by decide +kernel)⟩, w_eq (by decide) (by decide), rfl⟩
theorem hf_L_producer : ∀ (x : Int) (M : Mm) (r : Int × Mm), x ≠ 0 → (if x = 3 then some (1, M) else none) = some r → r.2 = M ∧ HandOK mu_L_producer 3 (exn x) r.1 := by
  intro x M r _ h
  by_cases q0 : x = 3
  · rw [if_pos q0] at h; cases h; subst q0; exact ⟨rfl, hk_L_producer_0⟩
  rw [if_neg q0] at h
  exact nomatch h
set_option maxRecDepth 20000 in
theorem mo_X10_quota : MOK mu_X10_quota 2 := ⟨(bg_1 1 rfl rfl), (bg_3 184 rfl rfl), by decide⟩
set_option maxRecDepth 20000 in
theorem mv_X10_quota : Cond.instanceMethod mu_X10_quota.1 ∈ Big ∧ Cond.selects mu_X10_quota.1.cls mu_X10_quota.1 mu_X10_quota.1 ∈ Big := ⟨(bg_3 182 rfl rfl), (bg_3 183 rfl rfl)⟩
set_option maxRecDepth 20000 in
theorem co_L_quota_46 : CallV mu_L_quota mu_X10_quota 46 2 10 := ⟨⟨(bg_3 181 rfl rfl), mo_X10_quota.1, mo_X10_quota.2.1, mo_X10_quota.2.2, by decide, by decide⟩, mv_X10_quota.1, mv_X10_quota.2, rfl, _, _, cls_10⟩
set_option maxRecDepth 20000 in
theorem hk_L_quota_0 : HandOK mu_L_quota 5 "java/lang/IndexOutOfBoundsException" 1 := ⟨[], ⟨0, 10, 13, 21⟩, [⟨0, 10, 17, 13⟩], rfl, (fun _ h => nomatch h), by decide, by decide, (bg_2 153 rfl rfl), by decide, ⟨4, 15, by decide, (Or.inl ⟨(by decide +kernel), rfl⟩), (by decide +kernel), (by decide +kernel)⟩, w_eq (by decide) (by decide), rfl⟩
theorem hk_L_quota_1 : HandOK mu_L_quota 5 "java/lang/IllegalArgumentException" 2 := ⟨[⟨0, 10, 13, 21⟩], ⟨0, 10, 17, 13⟩, [], rfl, (List.forall_mem_cons.mpr ⟨⟨by decide, "java/lang/IndexOutOfBoundsException", by decide, (bg_2 153 rfl rfl), by decide⟩, (fun _ h => nomatch h)⟩), by decide, by decide, (bg_1 194 rfl rfl), by decide, ⟨4, 19, by decide, (Or.inl ⟨(by decide +kernel), rfl⟩), (by decide +kernel), (by decide +kernel)⟩, w_eq (by decide) (by decide), rfl⟩
theorem hf_L_quota : ∀ (x : Int) (M : Mm) (r : Int × Mm), x ≠ 0 → (if x = 1 then some (1, M) else if x = 2 then some (2, M) else none) = some r → r.2 = M ∧ HandOK mu_L_quota 5 (exn x) r.1 := by
  intro x M r _ h
  by_cases q0 : x = 1
  · rw [if_pos q0] at h; cases h; subst q0; exact ⟨rfl, hk_L_quota_0⟩
  rw [if_neg q0] at h
  by_cases q1 : x = 2
  · rw [if_pos q1] at h; cases h; subst q1; exact ⟨rfl, hk_L_quota_1⟩
  rw [if_neg q1] at h
  exact nomatch h
set_option maxRecDepth 20000 in
theorem mo_X10_send : MOK mu_X10_send 4 := ⟨(bg_1 1 rfl rfl), (bg_3 196 rfl rfl), by decide⟩
set_option maxRecDepth 20000 in
theorem mv_X10_send : Cond.instanceMethod mu_X10_send.1 ∈ Big ∧ Cond.selects mu_X10_send.1.cls mu_X10_send.1 mu_X10_send.1 ∈ Big := ⟨(bg_3 194 rfl rfl), (bg_3 195 rfl rfl)⟩
set_option maxRecDepth 20000 in
theorem co_L_send_50 : CallV mu_L_send mu_X10_send 50 4 10 := ⟨⟨(bg_3 193 rfl rfl), mo_X10_send.1, mo_X10_send.2.1, mo_X10_send.2.2, by decide, by decide⟩, mv_X10_send.1, mv_X10_send.2, rfl, _, _, cls_10⟩
set_option maxRecDepth 20000 in
theorem hk_L_send_0 : HandOK mu_L_send 9 "java/lang/IndexOutOfBoundsException" 1 := ⟨[], ⟨0, 14, 17, 21⟩, [⟨0, 14, 21, 13⟩, ⟨0, 14, 25, 15⟩], rfl, (fun _ h => nomatch h), by decide, by decide, (bg_2 153 rfl rfl), by decide, ⟨6, 19, by decide, (Or.inl ⟨(by decide +kernel), rfl⟩), (by decide +kernel), (by decide +kernel)⟩, w_eq (by decide) (by decide), rfl⟩
theorem hk_L_send_1 : HandOK mu_L_send 9 "java/lang/IllegalArgumentException" 2 := ⟨[⟨0, 14, 17, 21⟩], ⟨0, 14, 21, 13⟩, [⟨0, 14, 25, 15⟩], rfl, (List.forall_mem_cons.mpr ⟨⟨by decide, "java/lang/IndexOutOfBoundsException", by decide, (bg_2 153 rfl rfl), by decide⟩, (fun _ h => nomatch h)⟩), by decide, by decide, (bg_1 194 rfl rfl), by decide, ⟨6, 23, by decide, (Or.inl ⟨(by decide +kernel), rfl⟩), (by decide +kernel), (by decide +kernel)⟩, w_eq (by decide) (by decide), rfl⟩
theorem hk_L_send_2 : HandOK mu_L_send 9 "java/lang/IllegalStateException" 3 := ⟨[⟨0, 14, 17, 21⟩, ⟨0, 14, 21, 13⟩], ⟨0, 14, 25, 15⟩, [], rfl, (List.forall_mem_cons.mpr ⟨⟨by decide, "java/lang/IndexOutOfBoundsException", by decide, (bg_2 153 rfl rfl), by decide⟩, (List.forall_mem_cons.mpr ⟨⟨by decide, "java/lang/IllegalArgumentException", by decide, (bg_1 194 rfl rfl), by decide⟩, (fun _ h => nomatch h)⟩)⟩), by decide, by decide, (bg_1 195 rfl rfl), by decide, ⟨6, 27, by decide, (Or.inl ⟨(by decide +kernel), rfl⟩), (by decide +kernel), (by decide +kernel)⟩, w_eq (by decide) (by decide), rfl⟩
theorem hf_L_send : ∀ (x : Int) (M : Mm) (r : Int × Mm), x ≠ 0 → (if x = 1 then some (1, M) else if x = 2 then some (2, M) else if x = 3 then some (3, M) else none) = some r → r.2 = M ∧ HandOK mu_L_send 9 (exn x) r.1 := by
  intro x M r _ h
  by_cases q0 : x = 1
  · rw [if_pos q0] at h; cases h; subst q0; exact ⟨rfl, hk_L_send_0⟩
  rw [if_neg q0] at h
  by_cases q1 : x = 2
  · rw [if_pos q1] at h; cases h; subst q1; exact ⟨rfl, hk_L_send_1⟩
  rw [if_neg q1] at h
  by_cases q2 : x = 3
  · rw [if_pos q2] at h; cases h; subst q2; exact ⟨rfl, hk_L_send_2⟩
  rw [if_neg q2] at h
  exact nomatch h
set_option maxRecDepth 20000 in
theorem mo_X10_sendSome : MOK mu_X10_sendSome 4 := ⟨(bg_1 1 rfl rfl), (bg_4 51 rfl rfl), by decide⟩
set_option maxRecDepth 20000 in
theorem mv_X10_sendSome : Cond.instanceMethod mu_X10_sendSome.1 ∈ Big ∧ Cond.selects mu_X10_sendSome.1.cls mu_X10_sendSome.1 mu_X10_sendSome.1 ∈ Big := ⟨(bg_4 49 rfl rfl), (bg_4 50 rfl rfl)⟩
set_option maxRecDepth 20000 in
theorem co_L_sendSome_54 : CallV mu_L_sendSome mu_X10_sendSome 54 4 10 := ⟨⟨(bg_4 48 rfl rfl), mo_X10_sendSome.1, mo_X10_sendSome.2.1, mo_X10_sendSome.2.2, by decide, by decide⟩, mv_X10_sendSome.1, mv_X10_sendSome.2, rfl, _, _, cls_10⟩
set_option maxRecDepth 20000 in
theorem hk_L_sendSome_0 : HandOK mu_L_sendSome 9 "java/lang/IndexOutOfBoundsException" 1 := ⟨[], ⟨0, 14, 17, 21⟩, [⟨0, 14, 21, 13⟩], rfl, (fun _ h => nomatch h), by decide, by decide, (bg_2 153 rfl rfl), by decide, ⟨6, 19, by decide, (Or.inl ⟨(by decide +kernel), rfl⟩), (by decide +kernel), (by decide +kernel)⟩, w_eq (by decide) (by decide), rfl⟩
theorem hk_L_sendSome_1 : HandOK mu_L_sendSome 9 "java/lang/IllegalArgumentException" 2 := ⟨[⟨0, 14, 17, 21⟩], ⟨0, 14, 21, 13⟩, [], rfl, (List.forall_mem_cons.mpr ⟨⟨by decide, "java/lang/IndexOutOfBoundsException", by decide, (bg_2 153 rfl rfl), by decide⟩, (fun _ h => nomatch h)⟩), by decide, by decide, (bg_1 194 rfl rfl), by decide, ⟨6, 23, by decide, (Or.inl ⟨(by decide +kernel), rfl⟩), (by decide +kernel), (by decide +kernel)⟩, w_eq (by decide) (by decide), rfl⟩
theorem hf_L_sendSome : ∀ (x : Int) (M : Mm) (r : Int × Mm), x ≠ 0 → (if x = 1 then some (1, M) else if x = 2 then some (2, M) else none) = some r → r.2 = M ∧ HandOK mu_L_sendSome 9 (exn x) r.1 := by
  intro x M r _ h
  by_cases q0 : x = 1
  · rw [if_pos q0] at h; cases h; subst q0; exact ⟨rfl, hk_L_sendSome_0⟩
  rw [if_neg q0] at h
  by_cases q1 : x = 2
  · rw [if_pos q1] at h; cases h; subst q1; exact ⟨rfl, hk_L_sendSome_1⟩
  rw [if_neg q1] at h
  exact nomatch h
set_option maxRecDepth 20000 in
theorem mo_X10_sendLater : MOK mu_X10_sendLater 5 := ⟨(bg_1 1 rfl rfl), (bg_4 59 rfl rfl), by decide⟩
set_option maxRecDepth 20000 in
theorem mv_X10_sendLater : Cond.instanceMethod mu_X10_sendLater.1 ∈ Big ∧ Cond.selects mu_X10_sendLater.1.cls mu_X10_sendLater.1 mu_X10_sendLater.1 ∈ Big := ⟨(bg_4 57 rfl rfl), (bg_4 58 rfl rfl)⟩
set_option maxRecDepth 20000 in
theorem co_L_sendLater_57 : CallV mu_L_sendLater mu_X10_sendLater 57 5 10 := ⟨⟨(bg_4 56 rfl rfl), mo_X10_sendLater.1, mo_X10_sendLater.2.1, mo_X10_sendLater.2.2, by decide, by decide⟩, mv_X10_sendLater.1, mv_X10_sendLater.2, rfl, _, _, cls_10⟩
set_option maxRecDepth 20000 in
theorem hk_L_sendLater_0 : HandOK mu_L_sendLater 11 "java/lang/IndexOutOfBoundsException" 1 := ⟨[], ⟨0, 16, 19, 21⟩, [⟨0, 16, 23, 13⟩, ⟨0, 16, 27, 15⟩], rfl, (fun _ h => nomatch h), by decide, by decide, (bg_2 153 rfl rfl), by decide, ⟨7, 21, by decide, (Or.inl ⟨(by decide +kernel), rfl⟩), (by decide +kernel), (by decide +kernel)⟩, w_eq (by decide) (by decide), rfl⟩
theorem hk_L_sendLater_1 : HandOK mu_L_sendLater 11 "java/lang/IllegalArgumentException" 2 := ⟨[⟨0, 16, 19, 21⟩], ⟨0, 16, 23, 13⟩, [⟨0, 16, 27, 15⟩], rfl, (List.forall_mem_cons.mpr ⟨⟨by decide, "java/lang/IndexOutOfBoundsException", by decide, (bg_2 153 rfl rfl), by decide⟩, (fun _ h => nomatch h)⟩), by decide, by decide, (bg_1 194 rfl rfl), by decide, ⟨7, 25, by decide, (Or.inl ⟨(by decide +kernel), rfl⟩), (by decide +kernel), (by decide +kernel)⟩, w_eq (by decide) (by decide), rfl⟩
theorem hk_L_sendLater_2 : HandOK mu_L_sendLater 11 "java/lang/IllegalStateException" 3 := ⟨[⟨0, 16, 19, 21⟩, ⟨0, 16, 23, 13⟩], ⟨0, 16, 27, 15⟩, [], rfl, (List.forall_mem_cons.mpr ⟨⟨by decide, "java/lang/IndexOutOfBoundsException", by decide, (bg_2 153 rfl rfl), by decide⟩, (List.forall_mem_cons.mpr ⟨⟨by decide, "java/lang/IllegalArgumentException", by decide, (bg_1 194 rfl rfl), by decide⟩, (fun _ h => nomatch h)⟩)⟩), by decide, by decide, (bg_1 195 rfl rfl), by decide, ⟨7, 29, by decide, (Or.inl ⟨(by decide +kernel), rfl⟩), (by decide +kernel), (by decide +kernel)⟩, w_eq (by decide) (by decide), rfl⟩
theorem hf_L_sendLater : ∀ (x : Int) (M : Mm) (r : Int × Mm), x ≠ 0 → (if x = 1 then some (1, M) else if x = 2 then some (2, M) else if x = 3 then some (3, M) else none) = some r → r.2 = M ∧ HandOK mu_L_sendLater 11 (exn x) r.1 := by
  intro x M r _ h
  by_cases q0 : x = 1
  · rw [if_pos q0] at h; cases h; subst q0; exact ⟨rfl, hk_L_sendLater_0⟩
  rw [if_neg q0] at h
  by_cases q1 : x = 2
  · rw [if_pos q1] at h; cases h; subst q1; exact ⟨rfl, hk_L_sendLater_1⟩
  rw [if_neg q1] at h
  by_cases q2 : x = 3
  · rw [if_pos q2] at h; cases h; subst q2; exact ⟨rfl, hk_L_sendLater_2⟩
  rw [if_neg q2] at h
  exact nomatch h
set_option maxRecDepth 20000 in
theorem mo_X10_resend : MOK mu_X10_resend 2 := ⟨(bg_1 1 rfl rfl), (bg_4 71 rfl rfl), by decide⟩
set_option maxRecDepth 20000 in
theorem mv_X10_resend : Cond.instanceMethod mu_X10_resend.1 ∈ Big ∧ Cond.selects mu_X10_resend.1.cls mu_X10_resend.1 mu_X10_resend.1 ∈ Big := ⟨(bg_4 69 rfl rfl), (bg_4 70 rfl rfl)⟩
set_option maxRecDepth 20000 in
theorem co_L_resend_61 : CallV mu_L_resend mu_X10_resend 61 2 10 := ⟨⟨(bg_4 68 rfl rfl), mo_X10_resend.1, mo_X10_resend.2.1, mo_X10_resend.2.2, by decide, by decide⟩, mv_X10_resend.1, mv_X10_resend.2, rfl, _, _, cls_10⟩
set_option maxRecDepth 20000 in
theorem hk_L_resend_0 : HandOK mu_L_resend 5 "java/lang/IndexOutOfBoundsException" 1 := ⟨[], ⟨0, 10, 13, 21⟩, [⟨0, 10, 17, 15⟩], rfl, (fun _ h => nomatch h), by decide, by decide, (bg_2 153 rfl rfl), by decide, ⟨4, 15, by decide, (Or.inl ⟨(by decide +kernel), rfl⟩), (by decide +kernel), (by decide +kernel)⟩, w_eq (by decide) (by decide), rfl⟩
theorem hk_L_resend_1 : HandOK mu_L_resend 5 "java/lang/IllegalStateException" 2 := ⟨[⟨0, 10, 13, 21⟩], ⟨0, 10, 17, 15⟩, [], rfl, (List.forall_mem_cons.mpr ⟨⟨by decide, "java/lang/IndexOutOfBoundsException", by decide, (bg_2 153 rfl rfl), by decide⟩, (fun _ h => nomatch h)⟩), by decide, by decide, (bg_1 195 rfl rfl), by decide, ⟨4, 19, by decide, (Or.inl ⟨(by decide +kernel), rfl⟩), (by decide +kernel), (by decide +kernel)⟩, w_eq (by decide) (by decide), rfl⟩
theorem hf_L_resend : ∀ (x : Int) (M : Mm) (r : Int × Mm), x ≠ 0 → (if x = 1 then some (1, M) else if x = 3 then some (2, M) else none) = some r → r.2 = M ∧ HandOK mu_L_resend 5 (exn x) r.1 := by
  intro x M r _ h
  by_cases q0 : x = 1
  · rw [if_pos q0] at h; cases h; subst q0; exact ⟨rfl, hk_L_resend_0⟩
  rw [if_neg q0] at h
  by_cases q1 : x = 3
  · rw [if_pos q1] at h; cases h; subst q1; exact ⟨rfl, hk_L_resend_1⟩
  rw [if_neg q1] at h
  exact nomatch h
set_option maxRecDepth 20000 in
theorem mo_X10_begin : MOK mu_X10_begin 1 := ⟨(bg_1 1 rfl rfl), (bg_4 79 rfl rfl), by decide⟩
set_option maxRecDepth 20000 in
theorem mv_X10_begin : Cond.instanceMethod mu_X10_begin.1 ∈ Big ∧ Cond.selects mu_X10_begin.1.cls mu_X10_begin.1 mu_X10_begin.1 ∈ Big := ⟨(bg_4 77 rfl rfl), (bg_4 78 rfl rfl)⟩
set_option maxRecDepth 20000 in
theorem co_L_begin_64 : CallV mu_L_begin mu_X10_begin 64 1 10 := ⟨⟨(bg_4 76 rfl rfl), mo_X10_begin.1, mo_X10_begin.2.1, mo_X10_begin.2.2, by decide, by decide⟩, mv_X10_begin.1, mv_X10_begin.2, rfl, _, _, cls_10⟩
set_option maxRecDepth 20000 in
theorem hk_L_begin_0 : HandOK mu_L_begin 4 "java/lang/IndexOutOfBoundsException" 1 := ⟨[], ⟨0, 9, 12, 21⟩, [⟨0, 9, 15, 15⟩], rfl, (fun _ h => nomatch h), by decide, by decide, (bg_2 153 rfl rfl), by decide, ⟨3, 13, by decide, (Or.inr ⟨3, rfl, (by decide +kernel), rfl⟩), (by decide +kernel), (by decide +kernel)⟩, w_eq (by decide) (by decide), rfl⟩
theorem hk_L_begin_1 : HandOK mu_L_begin 4 "java/lang/IllegalStateException" 2 := ⟨[⟨0, 9, 12, 21⟩], ⟨0, 9, 15, 15⟩, [], rfl, (List.forall_mem_cons.mpr ⟨⟨by decide, "java/lang/IndexOutOfBoundsException", by decide, (bg_2 153 rfl rfl), by decide⟩, (fun _ h => nomatch h)⟩), by decide, by decide, (bg_1 195 rfl rfl), by decide, ⟨3, 16, by decide, (Or.inr ⟨3, rfl, (by decide +kernel), rfl⟩), (by decide +kernel), (by decide +kernel)⟩, w_eq (by decide) (by decide), rfl⟩
theorem hf_L_begin : ∀ (x : Int) (M : Mm) (r : Int × Mm), x ≠ 0 → (if x = 1 then some (1, M) else if x = 3 then some (2, M) else none) = some r → r.2 = M ∧ HandOK mu_L_begin 4 (exn x) r.1 := by
  intro x M r _ h
  by_cases q0 : x = 1
  · rw [if_pos q0] at h; cases h; subst q0; exact ⟨rfl, hk_L_begin_0⟩
  rw [if_neg q0] at h
  by_cases q1 : x = 3
  · rw [if_pos q1] at h; cases h; subst q1; exact ⟨rfl, hk_L_begin_1⟩
  rw [if_neg q1] at h
  exact nomatch h
set_option maxRecDepth 20000 in
theorem mo_X10_attach : MOK mu_X10_attach 3 := ⟨(bg_1 1 rfl rfl), (bg_4 87 rfl rfl), by decide⟩
set_option maxRecDepth 20000 in
theorem mv_X10_attach : Cond.instanceMethod mu_X10_attach.1 ∈ Big ∧ Cond.selects mu_X10_attach.1.cls mu_X10_attach.1 mu_X10_attach.1 ∈ Big := ⟨(bg_4 85 rfl rfl), (bg_4 86 rfl rfl)⟩
set_option maxRecDepth 20000 in
theorem co_L_attach_67 : CallV mu_L_attach mu_X10_attach 67 3 10 := ⟨⟨(bg_4 84 rfl rfl), mo_X10_attach.1, mo_X10_attach.2.1, mo_X10_attach.2.2, by decide, by decide⟩, mv_X10_attach.1, mv_X10_attach.2, rfl, _, _, cls_10⟩
set_option maxRecDepth 20000 in
theorem hk_L_attach_0 : HandOK mu_L_attach 7 "java/lang/IndexOutOfBoundsException" 1 := ⟨[], ⟨0, 12, 15, 21⟩, [⟨0, 12, 19, 15⟩], rfl, (fun _ h => nomatch h), by decide, by decide, (bg_2 153 rfl rfl), by decide, ⟨5, 17, by decide, (Or.inl ⟨(by decide +kernel), rfl⟩), (by decide +kernel), (by decide +kernel)⟩, w_eq (by decide) (by decide), rfl⟩
theorem hk_L_attach_1 : HandOK mu_L_attach 7 "java/lang/IllegalStateException" 2 := ⟨[⟨0, 12, 15, 21⟩], ⟨0, 12, 19, 15⟩, [], rfl, (List.forall_mem_cons.mpr ⟨⟨by decide, "java/lang/IndexOutOfBoundsException", by decide, (bg_2 153 rfl rfl), by decide⟩, (fun _ h => nomatch h)⟩), by decide, by decide, (bg_1 195 rfl rfl), by decide, ⟨5, 21, by decide, (Or.inl ⟨(by decide +kernel), rfl⟩), (by decide +kernel), (by decide +kernel)⟩, w_eq (by decide) (by decide), rfl⟩
theorem hf_L_attach : ∀ (x : Int) (M : Mm) (r : Int × Mm), x ≠ 0 → (if x = 1 then some (1, M) else if x = 3 then some (2, M) else none) = some r → r.2 = M ∧ HandOK mu_L_attach 7 (exn x) r.1 := by
  intro x M r _ h
  by_cases q0 : x = 1
  · rw [if_pos q0] at h; cases h; subst q0; exact ⟨rfl, hk_L_attach_0⟩
  rw [if_neg q0] at h
  by_cases q1 : x = 3
  · rw [if_pos q1] at h; cases h; subst q1; exact ⟨rfl, hk_L_attach_1⟩
  rw [if_neg q1] at h
  exact nomatch h
set_option maxRecDepth 20000 in
theorem mo_X10_commit : MOK mu_X10_commit 1 := ⟨(bg_1 1 rfl rfl), (bg_4 118 rfl rfl), by decide⟩
set_option maxRecDepth 20000 in
theorem mv_X10_commit : Cond.instanceMethod mu_X10_commit.1 ∈ Big ∧ Cond.selects mu_X10_commit.1.cls mu_X10_commit.1 mu_X10_commit.1 ∈ Big := ⟨(bg_4 116 rfl rfl), (bg_4 117 rfl rfl)⟩
set_option maxRecDepth 20000 in
theorem co_L_commit_70 : CallV mu_L_commit mu_X10_commit 70 1 10 := ⟨⟨(bg_4 115 rfl rfl), mo_X10_commit.1, mo_X10_commit.2.1, mo_X10_commit.2.2, by decide, by decide⟩, mv_X10_commit.1, mv_X10_commit.2, rfl, _, _, cls_10⟩
set_option maxRecDepth 20000 in
theorem hk_L_commit_0 : HandOK mu_L_commit 4 "java/lang/IndexOutOfBoundsException" 1 := ⟨[], ⟨0, 9, 12, 21⟩, [⟨0, 9, 15, 15⟩], rfl, (fun _ h => nomatch h), by decide, by decide, (bg_2 153 rfl rfl), by decide, ⟨3, 13, by decide, (Or.inr ⟨3, rfl, (by decide +kernel), rfl⟩), (by decide +kernel), (by decide +kernel)⟩, w_eq (by decide) (by decide), rfl⟩
theorem hk_L_commit_1 : HandOK mu_L_commit 4 "java/lang/IllegalStateException" 2 := ⟨[⟨0, 9, 12, 21⟩], ⟨0, 9, 15, 15⟩, [], rfl, (List.forall_mem_cons.mpr ⟨⟨by decide, "java/lang/IndexOutOfBoundsException", by decide, (bg_2 153 rfl rfl), by decide⟩, (fun _ h => nomatch h)⟩), by decide, by decide, (bg_1 195 rfl rfl), by decide, ⟨3, 16, by decide, (Or.inr ⟨3, rfl, (by decide +kernel), rfl⟩), (by decide +kernel), (by decide +kernel)⟩, w_eq (by decide) (by decide), rfl⟩
theorem hf_L_commit : ∀ (x : Int) (M : Mm) (r : Int × Mm), x ≠ 0 → (if x = 1 then some (1, M) else if x = 3 then some (2, M) else none) = some r → r.2 = M ∧ HandOK mu_L_commit 4 (exn x) r.1 := by
  intro x M r _ h
  by_cases q0 : x = 1
  · rw [if_pos q0] at h; cases h; subst q0; exact ⟨rfl, hk_L_commit_0⟩
  rw [if_neg q0] at h
  by_cases q1 : x = 3
  · rw [if_pos q1] at h; cases h; subst q1; exact ⟨rfl, hk_L_commit_1⟩
  rw [if_neg q1] at h
  exact nomatch h
set_option maxRecDepth 20000 in
theorem mo_X10_abort : MOK mu_X10_abort 1 := ⟨(bg_1 1 rfl rfl), (bg_4 142 rfl rfl), by decide⟩
set_option maxRecDepth 20000 in
theorem mv_X10_abort : Cond.instanceMethod mu_X10_abort.1 ∈ Big ∧ Cond.selects mu_X10_abort.1.cls mu_X10_abort.1 mu_X10_abort.1 ∈ Big := ⟨(bg_4 140 rfl rfl), (bg_4 141 rfl rfl)⟩
set_option maxRecDepth 20000 in
theorem co_L_abort_73 : CallV mu_L_abort mu_X10_abort 73 1 10 := ⟨⟨(bg_4 139 rfl rfl), mo_X10_abort.1, mo_X10_abort.2.1, mo_X10_abort.2.2, by decide, by decide⟩, mv_X10_abort.1, mv_X10_abort.2, rfl, _, _, cls_10⟩
set_option maxRecDepth 20000 in
theorem hk_L_abort_0 : HandOK mu_L_abort 4 "java/lang/IndexOutOfBoundsException" 1 := ⟨[], ⟨0, 9, 12, 21⟩, [⟨0, 9, 15, 15⟩], rfl, (fun _ h => nomatch h), by decide, by decide, (bg_2 153 rfl rfl), by decide, ⟨3, 13, by decide, (Or.inr ⟨3, rfl, (by decide +kernel), rfl⟩), (by decide +kernel), (by decide +kernel)⟩, w_eq (by decide) (by decide), rfl⟩
theorem hk_L_abort_1 : HandOK mu_L_abort 4 "java/lang/IllegalStateException" 2 := ⟨[⟨0, 9, 12, 21⟩], ⟨0, 9, 15, 15⟩, [], rfl, (List.forall_mem_cons.mpr ⟨⟨by decide, "java/lang/IndexOutOfBoundsException", by decide, (bg_2 153 rfl rfl), by decide⟩, (fun _ h => nomatch h)⟩), by decide, by decide, (bg_1 195 rfl rfl), by decide, ⟨3, 16, by decide, (Or.inr ⟨3, rfl, (by decide +kernel), rfl⟩), (by decide +kernel), (by decide +kernel)⟩, w_eq (by decide) (by decide), rfl⟩
theorem hf_L_abort : ∀ (x : Int) (M : Mm) (r : Int × Mm), x ≠ 0 → (if x = 1 then some (1, M) else if x = 3 then some (2, M) else none) = some r → r.2 = M ∧ HandOK mu_L_abort 4 (exn x) r.1 := by
  intro x M r _ h
  by_cases q0 : x = 1
  · rw [if_pos q0] at h; cases h; subst q0; exact ⟨rfl, hk_L_abort_0⟩
  rw [if_neg q0] at h
  by_cases q1 : x = 3
  · rw [if_pos q1] at h; cases h; subst q1; exact ⟨rfl, hk_L_abort_1⟩
  rw [if_neg q1] at h
  exact nomatch h
set_option maxRecDepth 20000 in
theorem mo_X10_group : MOK mu_X10_group 1 := ⟨(bg_1 1 rfl rfl), (bg_4 150 rfl rfl), by decide⟩
set_option maxRecDepth 20000 in
theorem mv_X10_group : Cond.instanceMethod mu_X10_group.1 ∈ Big ∧ Cond.selects mu_X10_group.1.cls mu_X10_group.1 mu_X10_group.1 ∈ Big := ⟨(bg_4 148 rfl rfl), (bg_4 149 rfl rfl)⟩
set_option maxRecDepth 20000 in
theorem co_L_group_76 : CallV mu_L_group mu_X10_group 76 1 10 := ⟨⟨(bg_4 147 rfl rfl), mo_X10_group.1, mo_X10_group.2.1, mo_X10_group.2.2, by decide, by decide⟩, mv_X10_group.1, mv_X10_group.2, rfl, _, _, cls_10⟩
set_option maxRecDepth 20000 in
theorem hk_L_group_0 : HandOK mu_L_group 4 "java/lang/IllegalArgumentException" 1 := ⟨[], ⟨0, 9, 12, 13⟩, [⟨0, 9, 15, 15⟩], rfl, (fun _ h => nomatch h), by decide, by decide, (bg_1 194 rfl rfl), by decide, ⟨3, 13, by decide, (Or.inr ⟨3, rfl, (by decide +kernel), rfl⟩), (by decide +kernel), (by decide +kernel)⟩, w_eq (by decide) (by decide), rfl⟩
theorem hk_L_group_1 : HandOK mu_L_group 4 "java/lang/IllegalStateException" 2 := ⟨[⟨0, 9, 12, 13⟩], ⟨0, 9, 15, 15⟩, [], rfl, (List.forall_mem_cons.mpr ⟨⟨by decide, "java/lang/IllegalArgumentException", by decide, (bg_1 194 rfl rfl), by decide⟩, (fun _ h => nomatch h)⟩), by decide, by decide, (bg_1 195 rfl rfl), by decide, ⟨3, 16, by decide, (Or.inr ⟨3, rfl, (by decide +kernel), rfl⟩), (by decide +kernel), (by decide +kernel)⟩, w_eq (by decide) (by decide), rfl⟩
theorem hf_L_group : ∀ (x : Int) (M : Mm) (r : Int × Mm), x ≠ 0 → (if x = 2 then some (1, M) else if x = 3 then some (2, M) else none) = some r → r.2 = M ∧ HandOK mu_L_group 4 (exn x) r.1 := by
  intro x M r _ h
  by_cases q0 : x = 2
  · rw [if_pos q0] at h; cases h; subst q0; exact ⟨rfl, hk_L_group_0⟩
  rw [if_neg q0] at h
  by_cases q1 : x = 3
  · rw [if_pos q1] at h; cases h; subst q1; exact ⟨rfl, hk_L_group_1⟩
  rw [if_neg q1] at h
  exact nomatch h
set_option maxRecDepth 20000 in
theorem mo_X10_join : MOK mu_X10_join 1 := ⟨(bg_1 1 rfl rfl), (bg_5 29 rfl rfl), by decide⟩
set_option maxRecDepth 20000 in
theorem mv_X10_join : Cond.instanceMethod mu_X10_join.1 ∈ Big ∧ Cond.selects mu_X10_join.1.cls mu_X10_join.1 mu_X10_join.1 ∈ Big := ⟨(bg_5 27 rfl rfl), (bg_5 28 rfl rfl)⟩
set_option maxRecDepth 20000 in
theorem co_L_join_79 : CallV mu_L_join mu_X10_join 79 1 10 := ⟨⟨(bg_5 26 rfl rfl), mo_X10_join.1, mo_X10_join.2.1, mo_X10_join.2.2, by decide, by decide⟩, mv_X10_join.1, mv_X10_join.2, rfl, _, _, cls_10⟩
set_option maxRecDepth 20000 in
theorem hk_L_join_0 : HandOK mu_L_join 4 "java/lang/IndexOutOfBoundsException" 1 := ⟨[], ⟨0, 9, 12, 21⟩, [⟨0, 9, 15, 15⟩], rfl, (fun _ h => nomatch h), by decide, by decide, (bg_2 153 rfl rfl), by decide, ⟨3, 13, by decide, (Or.inr ⟨3, rfl, (by decide +kernel), rfl⟩), (by decide +kernel), (by decide +kernel)⟩, w_eq (by decide) (by decide), rfl⟩
theorem hk_L_join_1 : HandOK mu_L_join 4 "java/lang/IllegalStateException" 2 := ⟨[⟨0, 9, 12, 21⟩], ⟨0, 9, 15, 15⟩, [], rfl, (List.forall_mem_cons.mpr ⟨⟨by decide, "java/lang/IndexOutOfBoundsException", by decide, (bg_2 153 rfl rfl), by decide⟩, (fun _ h => nomatch h)⟩), by decide, by decide, (bg_1 195 rfl rfl), by decide, ⟨3, 16, by decide, (Or.inr ⟨3, rfl, (by decide +kernel), rfl⟩), (by decide +kernel), (by decide +kernel)⟩, w_eq (by decide) (by decide), rfl⟩
theorem hf_L_join : ∀ (x : Int) (M : Mm) (r : Int × Mm), x ≠ 0 → (if x = 1 then some (1, M) else if x = 3 then some (2, M) else none) = some r → r.2 = M ∧ HandOK mu_L_join 4 (exn x) r.1 := by
  intro x M r _ h
  by_cases q0 : x = 1
  · rw [if_pos q0] at h; cases h; subst q0; exact ⟨rfl, hk_L_join_0⟩
  rw [if_neg q0] at h
  by_cases q1 : x = 3
  · rw [if_pos q1] at h; cases h; subst q1; exact ⟨rfl, hk_L_join_1⟩
  rw [if_neg q1] at h
  exact nomatch h
set_option maxRecDepth 20000 in
theorem mo_X10_leave : MOK mu_X10_leave 2 := ⟨(bg_1 1 rfl rfl), (bg_5 82 rfl rfl), by decide⟩
set_option maxRecDepth 20000 in
theorem mv_X10_leave : Cond.instanceMethod mu_X10_leave.1 ∈ Big ∧ Cond.selects mu_X10_leave.1.cls mu_X10_leave.1 mu_X10_leave.1 ∈ Big := ⟨(bg_5 80 rfl rfl), (bg_5 81 rfl rfl)⟩
set_option maxRecDepth 20000 in
theorem co_L_leave_82 : CallV mu_L_leave mu_X10_leave 82 2 10 := ⟨⟨(bg_5 79 rfl rfl), mo_X10_leave.1, mo_X10_leave.2.1, mo_X10_leave.2.2, by decide, by decide⟩, mv_X10_leave.1, mv_X10_leave.2, rfl, _, _, cls_10⟩
set_option maxRecDepth 20000 in
theorem hk_L_leave_0 : HandOK mu_L_leave 5 "java/lang/IndexOutOfBoundsException" 1 := ⟨[], ⟨0, 10, 13, 21⟩, [], rfl, (fun _ h => nomatch h), by decide, by decide, (bg_2 153 rfl rfl), by decide, ⟨4, 15, by decide, (Or.inl ⟨(by decide +kernel), rfl⟩), (by decide +kernel), (by decide +kernel)⟩, w_eq (by decide) (by decide), rfl⟩
theorem hf_L_leave : ∀ (x : Int) (M : Mm) (r : Int × Mm), x ≠ 0 → (if x = 1 then some (1, M) else none) = some r → r.2 = M ∧ HandOK mu_L_leave 5 (exn x) r.1 := by
  intro x M r _ h
  by_cases q0 : x = 1
  · rw [if_pos q0] at h; cases h; subst q0; exact ⟨rfl, hk_L_leave_0⟩
  rw [if_neg q0] at h
  exact nomatch h
set_option maxRecDepth 20000 in
theorem mo_X10_beat : MOK mu_X10_beat 2 := ⟨(bg_1 1 rfl rfl), (bg_5 90 rfl rfl), by decide⟩
set_option maxRecDepth 20000 in
theorem mv_X10_beat : Cond.instanceMethod mu_X10_beat.1 ∈ Big ∧ Cond.selects mu_X10_beat.1.cls mu_X10_beat.1 mu_X10_beat.1 ∈ Big := ⟨(bg_5 88 rfl rfl), (bg_5 89 rfl rfl)⟩
set_option maxRecDepth 20000 in
theorem co_L_beat_85 : CallV mu_L_beat mu_X10_beat 85 2 10 := ⟨⟨(bg_5 87 rfl rfl), mo_X10_beat.1, mo_X10_beat.2.1, mo_X10_beat.2.2, by decide, by decide⟩, mv_X10_beat.1, mv_X10_beat.2, rfl, _, _, cls_10⟩
set_option maxRecDepth 20000 in
theorem hk_L_beat_0 : HandOK mu_L_beat 5 "java/lang/IndexOutOfBoundsException" 1 := ⟨[], ⟨0, 10, 13, 21⟩, [], rfl, (fun _ h => nomatch h), by decide, by decide, (bg_2 153 rfl rfl), by decide, ⟨4, 15, by decide, (Or.inl ⟨(by decide +kernel), rfl⟩), (by decide +kernel), (by decide +kernel)⟩, w_eq (by decide) (by decide), rfl⟩
theorem hf_L_beat : ∀ (x : Int) (M : Mm) (r : Int × Mm), x ≠ 0 → (if x = 1 then some (1, M) else none) = some r → r.2 = M ∧ HandOK mu_L_beat 5 (exn x) r.1 := by
  intro x M r _ h
  by_cases q0 : x = 1
  · rw [if_pos q0] at h; cases h; subst q0; exact ⟨rfl, hk_L_beat_0⟩
  rw [if_neg q0] at h
  exact nomatch h
set_option maxRecDepth 20000 in
theorem mo_X10_credits : MOK mu_X10_credits 3 := ⟨(bg_1 1 rfl rfl), (bg_5 108 rfl rfl), by decide⟩
set_option maxRecDepth 20000 in
theorem mv_X10_credits : Cond.instanceMethod mu_X10_credits.1 ∈ Big ∧ Cond.selects mu_X10_credits.1.cls mu_X10_credits.1 mu_X10_credits.1 ∈ Big := ⟨(bg_5 106 rfl rfl), (bg_5 107 rfl rfl)⟩
set_option maxRecDepth 20000 in
theorem co_L_credits_88 : CallV mu_L_credits mu_X10_credits 88 3 10 := ⟨⟨(bg_5 105 rfl rfl), mo_X10_credits.1, mo_X10_credits.2.1, mo_X10_credits.2.2, by decide, by decide⟩, mv_X10_credits.1, mv_X10_credits.2, rfl, _, _, cls_10⟩
set_option maxRecDepth 20000 in
theorem hk_L_credits_0 : HandOK mu_L_credits 7 "java/lang/IndexOutOfBoundsException" 1 := ⟨[], ⟨0, 12, 15, 21⟩, [⟨0, 12, 19, 13⟩, ⟨0, 12, 23, 15⟩], rfl, (fun _ h => nomatch h), by decide, by decide, (bg_2 153 rfl rfl), by decide, ⟨5, 17, by decide, (Or.inl ⟨(by decide +kernel), rfl⟩), (by decide +kernel), (by decide +kernel)⟩, w_eq (by decide) (by decide), rfl⟩
theorem hk_L_credits_1 : HandOK mu_L_credits 7 "java/lang/IllegalArgumentException" 2 := ⟨[⟨0, 12, 15, 21⟩], ⟨0, 12, 19, 13⟩, [⟨0, 12, 23, 15⟩], rfl, (List.forall_mem_cons.mpr ⟨⟨by decide, "java/lang/IndexOutOfBoundsException", by decide, (bg_2 153 rfl rfl), by decide⟩, (fun _ h => nomatch h)⟩), by decide, by decide, (bg_1 194 rfl rfl), by decide, ⟨5, 21, by decide, (Or.inl ⟨(by decide +kernel), rfl⟩), (by decide +kernel), (by decide +kernel)⟩, w_eq (by decide) (by decide), rfl⟩
theorem hk_L_credits_2 : HandOK mu_L_credits 7 "java/lang/IllegalStateException" 3 := ⟨[⟨0, 12, 15, 21⟩, ⟨0, 12, 19, 13⟩], ⟨0, 12, 23, 15⟩, [], rfl, (List.forall_mem_cons.mpr ⟨⟨by decide, "java/lang/IndexOutOfBoundsException", by decide, (bg_2 153 rfl rfl), by decide⟩, (List.forall_mem_cons.mpr ⟨⟨by decide, "java/lang/IllegalArgumentException", by decide, (bg_1 194 rfl rfl), by decide⟩, (fun _ h => nomatch h)⟩)⟩), by decide, by decide, (bg_1 195 rfl rfl), by decide, ⟨5, 25, by decide, (Or.inl ⟨(by decide +kernel), rfl⟩), (by decide +kernel), (by decide +kernel)⟩, w_eq (by decide) (by decide), rfl⟩
theorem hf_L_credits : ∀ (x : Int) (M : Mm) (r : Int × Mm), x ≠ 0 → (if x = 1 then some (1, M) else if x = 2 then some (2, M) else if x = 3 then some (3, M) else none) = some r → r.2 = M ∧ HandOK mu_L_credits 7 (exn x) r.1 := by
  intro x M r _ h
  by_cases q0 : x = 1
  · rw [if_pos q0] at h; cases h; subst q0; exact ⟨rfl, hk_L_credits_0⟩
  rw [if_neg q0] at h
  by_cases q1 : x = 2
  · rw [if_pos q1] at h; cases h; subst q1; exact ⟨rfl, hk_L_credits_1⟩
  rw [if_neg q1] at h
  by_cases q2 : x = 3
  · rw [if_pos q2] at h; cases h; subst q2; exact ⟨rfl, hk_L_credits_2⟩
  rw [if_neg q2] at h
  exact nomatch h
set_option maxRecDepth 20000 in
theorem mo_X10_read : MOK mu_X10_read 2 := ⟨(bg_1 1 rfl rfl), (bg_5 116 rfl rfl), by decide⟩
set_option maxRecDepth 20000 in
theorem mv_X10_read : Cond.instanceMethod mu_X10_read.1 ∈ Big ∧ Cond.selects mu_X10_read.1.cls mu_X10_read.1 mu_X10_read.1 ∈ Big := ⟨(bg_5 114 rfl rfl), (bg_5 115 rfl rfl)⟩
set_option maxRecDepth 20000 in
theorem co_L_read_91 : CallV mu_L_read mu_X10_read 91 2 10 := ⟨⟨(bg_5 113 rfl rfl), mo_X10_read.1, mo_X10_read.2.1, mo_X10_read.2.2, by decide, by decide⟩, mv_X10_read.1, mv_X10_read.2, rfl, _, _, cls_10⟩
set_option maxRecDepth 20000 in
theorem hk_L_read_0 : HandOK mu_L_read 5 "java/lang/IndexOutOfBoundsException" 1 := ⟨[], ⟨0, 10, 13, 21⟩, [], rfl, (fun _ h => nomatch h), by decide, by decide, (bg_2 153 rfl rfl), by decide, ⟨4, 15, by decide, (Or.inl ⟨(by decide +kernel), rfl⟩), (by decide +kernel), (by decide +kernel)⟩, w_eq (by decide) (by decide), rfl⟩
theorem hf_L_read : ∀ (x : Int) (M : Mm) (r : Int × Mm), x ≠ 0 → (if x = 1 then some (1, M) else none) = some r → r.2 = M ∧ HandOK mu_L_read 5 (exn x) r.1 := by
  intro x M r _ h
  by_cases q0 : x = 1
  · rw [if_pos q0] at h; cases h; subst q0; exact ⟨rfl, hk_L_read_0⟩
  rw [if_neg q0] at h
  exact nomatch h
set_option maxRecDepth 20000 in
theorem mo_X10_done : MOK mu_X10_done 3 := ⟨(bg_1 1 rfl rfl), (bg_5 199 rfl rfl), by decide⟩
set_option maxRecDepth 20000 in
theorem mv_X10_done : Cond.instanceMethod mu_X10_done.1 ∈ Big ∧ Cond.selects mu_X10_done.1.cls mu_X10_done.1 mu_X10_done.1 ∈ Big := ⟨(bg_5 197 rfl rfl), (bg_5 198 rfl rfl)⟩
set_option maxRecDepth 20000 in
theorem co_L_done_94 : CallV mu_L_done mu_X10_done 94 3 10 := ⟨⟨(bg_5 196 rfl rfl), mo_X10_done.1, mo_X10_done.2.1, mo_X10_done.2.2, by decide, by decide⟩, mv_X10_done.1, mv_X10_done.2, rfl, _, _, cls_10⟩
set_option maxRecDepth 20000 in
theorem hk_L_done_0 : HandOK mu_L_done 7 "java/lang/IndexOutOfBoundsException" 1 := ⟨[], ⟨0, 12, 15, 21⟩, [⟨0, 12, 19, 15⟩], rfl, (fun _ h => nomatch h), by decide, by decide, (bg_2 153 rfl rfl), by decide, ⟨5, 17, by decide, (Or.inl ⟨(by decide +kernel), rfl⟩), (by decide +kernel), (by decide +kernel)⟩, w_eq (by decide) (by decide), rfl⟩
theorem hk_L_done_1 : HandOK mu_L_done 7 "java/lang/IllegalStateException" 2 := ⟨[⟨0, 12, 15, 21⟩], ⟨0, 12, 19, 15⟩, [], rfl, (List.forall_mem_cons.mpr ⟨⟨by decide, "java/lang/IndexOutOfBoundsException", by decide, (bg_2 153 rfl rfl), by decide⟩, (fun _ h => nomatch h)⟩), by decide, by decide, (bg_1 195 rfl rfl), by decide, ⟨5, 21, by decide, (Or.inl ⟨(by decide +kernel), rfl⟩), (by decide +kernel), (by decide +kernel)⟩, w_eq (by decide) (by decide), rfl⟩
theorem hf_L_done : ∀ (x : Int) (M : Mm) (r : Int × Mm), x ≠ 0 → (if x = 1 then some (1, M) else if x = 3 then some (2, M) else none) = some r → r.2 = M ∧ HandOK mu_L_done 7 (exn x) r.1 := by
  intro x M r _ h
  by_cases q0 : x = 1
  · rw [if_pos q0] at h; cases h; subst q0; exact ⟨rfl, hk_L_done_0⟩
  rw [if_neg q0] at h
  by_cases q1 : x = 3
  · rw [if_pos q1] at h; cases h; subst q1; exact ⟨rfl, hk_L_done_1⟩
  rw [if_neg q1] at h
  exact nomatch h
set_option maxRecDepth 20000 in
theorem mo_X10_retry : MOK mu_X10_retry 3 := ⟨(bg_1 1 rfl rfl), (bg_5 215 rfl rfl), by decide⟩
set_option maxRecDepth 20000 in
theorem mv_X10_retry : Cond.instanceMethod mu_X10_retry.1 ∈ Big ∧ Cond.selects mu_X10_retry.1.cls mu_X10_retry.1 mu_X10_retry.1 ∈ Big := ⟨(bg_5 213 rfl rfl), (bg_5 214 rfl rfl)⟩
set_option maxRecDepth 20000 in
theorem co_L_retry_97 : CallV mu_L_retry mu_X10_retry 97 3 10 := ⟨⟨(bg_5 212 rfl rfl), mo_X10_retry.1, mo_X10_retry.2.1, mo_X10_retry.2.2, by decide, by decide⟩, mv_X10_retry.1, mv_X10_retry.2, rfl, _, _, cls_10⟩
set_option maxRecDepth 20000 in
theorem hk_L_retry_0 : HandOK mu_L_retry 7 "java/lang/IndexOutOfBoundsException" 1 := ⟨[], ⟨0, 12, 15, 21⟩, [⟨0, 12, 19, 15⟩], rfl, (fun _ h => nomatch h), by decide, by decide, (bg_2 153 rfl rfl), by decide, ⟨5, 17, by decide, (Or.inl ⟨(by decide +kernel), rfl⟩), (by decide +kernel), (by decide +kernel)⟩, w_eq (by decide) (by decide), rfl⟩
theorem hk_L_retry_1 : HandOK mu_L_retry 7 "java/lang/IllegalStateException" 2 := ⟨[⟨0, 12, 15, 21⟩], ⟨0, 12, 19, 15⟩, [], rfl, (List.forall_mem_cons.mpr ⟨⟨by decide, "java/lang/IndexOutOfBoundsException", by decide, (bg_2 153 rfl rfl), by decide⟩, (fun _ h => nomatch h)⟩), by decide, by decide, (bg_1 195 rfl rfl), by decide, ⟨5, 21, by decide, (Or.inl ⟨(by decide +kernel), rfl⟩), (by decide +kernel), (by decide +kernel)⟩, w_eq (by decide) (by decide), rfl⟩
theorem hf_L_retry : ∀ (x : Int) (M : Mm) (r : Int × Mm), x ≠ 0 → (if x = 1 then some (1, M) else if x = 3 then some (2, M) else none) = some r → r.2 = M ∧ HandOK mu_L_retry 7 (exn x) r.1 := by
  intro x M r _ h
  by_cases q0 : x = 1
  · rw [if_pos q0] at h; cases h; subst q0; exact ⟨rfl, hk_L_retry_0⟩
  rw [if_neg q0] at h
  by_cases q1 : x = 3
  · rw [if_pos q1] at h; cases h; subst q1; exact ⟨rfl, hk_L_retry_1⟩
  rw [if_neg q1] at h
  exact nomatch h
set_option maxRecDepth 20000 in
theorem mo_X10_commitOffsets : MOK mu_X10_commitOffsets 2 := ⟨(bg_1 1 rfl rfl), (bg_5 231 rfl rfl), by decide⟩
set_option maxRecDepth 20000 in
theorem mv_X10_commitOffsets : Cond.instanceMethod mu_X10_commitOffsets.1 ∈ Big ∧ Cond.selects mu_X10_commitOffsets.1.cls mu_X10_commitOffsets.1 mu_X10_commitOffsets.1 ∈ Big := ⟨(bg_5 229 rfl rfl), (bg_5 230 rfl rfl)⟩
set_option maxRecDepth 20000 in
theorem co_L_commitOffsets_100 : CallV mu_L_commitOffsets mu_X10_commitOffsets 100 2 10 := ⟨⟨(bg_5 228 rfl rfl), mo_X10_commitOffsets.1, mo_X10_commitOffsets.2.1, mo_X10_commitOffsets.2.2, by decide, by decide⟩, mv_X10_commitOffsets.1, mv_X10_commitOffsets.2, rfl, _, _, cls_10⟩
set_option maxRecDepth 20000 in
theorem hk_L_commitOffsets_0 : HandOK mu_L_commitOffsets 5 "java/lang/IndexOutOfBoundsException" 1 := ⟨[], ⟨0, 10, 13, 21⟩, [], rfl, (fun _ h => nomatch h), by decide, by decide, (bg_2 153 rfl rfl), by decide, ⟨4, 15, by decide, (Or.inl ⟨(by decide +kernel), rfl⟩), (by decide +kernel), (by decide +kernel)⟩, w_eq (by decide) (by decide), rfl⟩
theorem hf_L_commitOffsets : ∀ (x : Int) (M : Mm) (r : Int × Mm), x ≠ 0 → (if x = 1 then some (1, M) else none) = some r → r.2 = M ∧ HandOK mu_L_commitOffsets 5 (exn x) r.1 := by
  intro x M r _ h
  by_cases q0 : x = 1
  · rw [if_pos q0] at h; cases h; subst q0; exact ⟨rfl, hk_L_commitOffsets_0⟩
  rw [if_neg q0] at h
  exact nomatch h
set_option maxRecDepth 20000 in
theorem mo_X10_seek : MOK mu_X10_seek 3 := ⟨(bg_1 1 rfl rfl), (bg_6 3 rfl rfl), by decide⟩
set_option maxRecDepth 20000 in
theorem mv_X10_seek : Cond.instanceMethod mu_X10_seek.1 ∈ Big ∧ Cond.selects mu_X10_seek.1.cls mu_X10_seek.1 mu_X10_seek.1 ∈ Big := ⟨(bg_6 1 rfl rfl), (bg_6 2 rfl rfl)⟩
set_option maxRecDepth 20000 in
theorem co_L_seek_103 : CallV mu_L_seek mu_X10_seek 103 3 10 := ⟨⟨(bg_6 0 rfl rfl), mo_X10_seek.1, mo_X10_seek.2.1, mo_X10_seek.2.2, by decide, by decide⟩, mv_X10_seek.1, mv_X10_seek.2, rfl, _, _, cls_10⟩
set_option maxRecDepth 20000 in
theorem hk_L_seek_0 : HandOK mu_L_seek 7 "java/lang/IndexOutOfBoundsException" 1 := ⟨[], ⟨0, 12, 15, 21⟩, [⟨0, 12, 19, 13⟩, ⟨0, 12, 23, 15⟩], rfl, (fun _ h => nomatch h), by decide, by decide, (bg_2 153 rfl rfl), by decide, ⟨5, 17, by decide, (Or.inl ⟨(by decide +kernel), rfl⟩), (by decide +kernel), (by decide +kernel)⟩, w_eq (by decide) (by decide), rfl⟩
theorem hk_L_seek_1 : HandOK mu_L_seek 7 "java/lang/IllegalArgumentException" 2 := ⟨[⟨0, 12, 15, 21⟩], ⟨0, 12, 19, 13⟩, [⟨0, 12, 23, 15⟩], rfl, (List.forall_mem_cons.mpr ⟨⟨by decide, "java/lang/IndexOutOfBoundsException", by decide, (bg_2 153 rfl rfl), by decide⟩, (fun _ h => nomatch h)⟩), by decide, by decide, (bg_1 194 rfl rfl), by decide, ⟨5, 21, by decide, (Or.inl ⟨(by decide +kernel), rfl⟩), (by decide +kernel), (by decide +kernel)⟩, w_eq (by decide) (by decide), rfl⟩
theorem hk_L_seek_2 : HandOK mu_L_seek 7 "java/lang/IllegalStateException" 3 := ⟨[⟨0, 12, 15, 21⟩, ⟨0, 12, 19, 13⟩], ⟨0, 12, 23, 15⟩, [], rfl, (List.forall_mem_cons.mpr ⟨⟨by decide, "java/lang/IndexOutOfBoundsException", by decide, (bg_2 153 rfl rfl), by decide⟩, (List.forall_mem_cons.mpr ⟨⟨by decide, "java/lang/IllegalArgumentException", by decide, (bg_1 194 rfl rfl), by decide⟩, (fun _ h => nomatch h)⟩)⟩), by decide, by decide, (bg_1 195 rfl rfl), by decide, ⟨5, 25, by decide, (Or.inl ⟨(by decide +kernel), rfl⟩), (by decide +kernel), (by decide +kernel)⟩, w_eq (by decide) (by decide), rfl⟩
theorem hf_L_seek : ∀ (x : Int) (M : Mm) (r : Int × Mm), x ≠ 0 → (if x = 1 then some (1, M) else if x = 2 then some (2, M) else if x = 3 then some (3, M) else none) = some r → r.2 = M ∧ HandOK mu_L_seek 7 (exn x) r.1 := by
  intro x M r _ h
  by_cases q0 : x = 1
  · rw [if_pos q0] at h; cases h; subst q0; exact ⟨rfl, hk_L_seek_0⟩
  rw [if_neg q0] at h
  by_cases q1 : x = 2
  · rw [if_pos q1] at h; cases h; subst q1; exact ⟨rfl, hk_L_seek_1⟩
  rw [if_neg q1] at h
  by_cases q2 : x = 3
  · rw [if_pos q2] at h; cases h; subst q2; exact ⟨rfl, hk_L_seek_2⟩
  rw [if_neg q2] at h
  exact nomatch h
set_option maxRecDepth 20000 in
theorem mo_X10_message : MOK mu_X10_message 2 := ⟨(bg_1 1 rfl rfl), (bg_6 20 rfl rfl), by decide⟩
set_option maxRecDepth 20000 in
theorem mv_X10_message : Cond.instanceMethod mu_X10_message.1 ∈ Big ∧ Cond.selects mu_X10_message.1.cls mu_X10_message.1 mu_X10_message.1 ∈ Big := ⟨(bg_6 18 rfl rfl), (bg_6 19 rfl rfl)⟩
set_option maxRecDepth 20000 in
theorem co_L_message_106 : CallV mu_L_message mu_X10_message 106 2 10 := ⟨⟨(bg_6 17 rfl rfl), mo_X10_message.1, mo_X10_message.2.1, mo_X10_message.2.2, by decide, by decide⟩, mv_X10_message.1, mv_X10_message.2, rfl, _, _, cls_10⟩
set_option maxRecDepth 20000 in
theorem hk_L_message_0 : HandOK mu_L_message 5 "java/lang/IndexOutOfBoundsException" 1 := ⟨[], ⟨0, 10, 13, 21⟩, [⟨0, 10, 17, 13⟩], rfl, (fun _ h => nomatch h), by decide, by decide, (bg_2 153 rfl rfl), by decide, ⟨4, 15, by decide, (Or.inl ⟨(by decide +kernel), rfl⟩), (by decide +kernel), (by decide +kernel)⟩, w_eq (by decide) (by decide), rfl⟩
theorem hk_L_message_1 : HandOK mu_L_message 5 "java/lang/IllegalArgumentException" 2 := ⟨[⟨0, 10, 13, 21⟩], ⟨0, 10, 17, 13⟩, [], rfl, (List.forall_mem_cons.mpr ⟨⟨by decide, "java/lang/IndexOutOfBoundsException", by decide, (bg_2 153 rfl rfl), by decide⟩, (fun _ h => nomatch h)⟩), by decide, by decide, (bg_1 194 rfl rfl), by decide, ⟨4, 19, by decide, (Or.inl ⟨(by decide +kernel), rfl⟩), (by decide +kernel), (by decide +kernel)⟩, w_eq (by decide) (by decide), rfl⟩
theorem hf_L_message : ∀ (x : Int) (M : Mm) (r : Int × Mm), x ≠ 0 → (if x = 1 then some (1, M) else if x = 2 then some (2, M) else none) = some r → r.2 = M ∧ HandOK mu_L_message 5 (exn x) r.1 := by
  intro x M r _ h
  by_cases q0 : x = 1
  · rw [if_pos q0] at h; cases h; subst q0; exact ⟨rfl, hk_L_message_0⟩
  rw [if_neg q0] at h
  by_cases q1 : x = 2
  · rw [if_pos q1] at h; cases h; subst q1; exact ⟨rfl, hk_L_message_1⟩
  rw [if_neg q1] at h
  exact nomatch h
set_option maxRecDepth 20000 in
theorem mo_X10_at : MOK mu_X10_at 2 := ⟨(bg_1 1 rfl rfl), (bg_6 32 rfl rfl), by decide⟩
set_option maxRecDepth 20000 in
theorem mv_X10_at : Cond.instanceMethod mu_X10_at.1 ∈ Big ∧ Cond.selects mu_X10_at.1.cls mu_X10_at.1 mu_X10_at.1 ∈ Big := ⟨(bg_6 30 rfl rfl), (bg_6 31 rfl rfl)⟩
set_option maxRecDepth 20000 in
theorem co_L_at_109 : CallV mu_L_at mu_X10_at 109 2 10 := ⟨⟨(bg_6 29 rfl rfl), mo_X10_at.1, mo_X10_at.2.1, mo_X10_at.2.2, by decide, by decide⟩, mv_X10_at.1, mv_X10_at.2, rfl, _, _, cls_10⟩
set_option maxRecDepth 20000 in
theorem hk_L_at_0 : HandOK mu_L_at 5 "java/lang/IndexOutOfBoundsException" 1 := ⟨[], ⟨0, 10, 13, 21⟩, [], rfl, (fun _ h => nomatch h), by decide, by decide, (bg_2 153 rfl rfl), by decide, ⟨4, 15, by decide, (Or.inl ⟨(by decide +kernel), rfl⟩), (by decide +kernel), (by decide +kernel)⟩, w_eq (by decide) (by decide), rfl⟩
theorem hf_L_at : ∀ (x : Int) (M : Mm) (r : Int × Mm), x ≠ 0 → (if x = 1 then some (1, M) else none) = some r → r.2 = M ∧ HandOK mu_L_at 5 (exn x) r.1 := by
  intro x M r _ h
  by_cases q0 : x = 1
  · rw [if_pos q0] at h; cases h; subst q0; exact ⟨rfl, hk_L_at_0⟩
  rw [if_neg q0] at h
  exact nomatch h
set_option maxRecDepth 20000 in
theorem mo_X10_partition : MOK mu_X10_partition 2 := ⟨(bg_1 1 rfl rfl), (bg_6 40 rfl rfl), by decide⟩
set_option maxRecDepth 20000 in
theorem mv_X10_partition : Cond.instanceMethod mu_X10_partition.1 ∈ Big ∧ Cond.selects mu_X10_partition.1.cls mu_X10_partition.1 mu_X10_partition.1 ∈ Big := ⟨(bg_6 38 rfl rfl), (bg_6 39 rfl rfl)⟩
set_option maxRecDepth 20000 in
theorem co_L_partition_112 : CallV mu_L_partition mu_X10_partition 112 2 10 := ⟨⟨(bg_6 37 rfl rfl), mo_X10_partition.1, mo_X10_partition.2.1, mo_X10_partition.2.2, by decide, by decide⟩, mv_X10_partition.1, mv_X10_partition.2, rfl, _, _, cls_10⟩
set_option maxRecDepth 20000 in
theorem hk_L_partition_0 : HandOK mu_L_partition 5 "java/lang/IndexOutOfBoundsException" 1 := ⟨[], ⟨0, 10, 13, 21⟩, [⟨0, 10, 17, 13⟩], rfl, (fun _ h => nomatch h), by decide, by decide, (bg_2 153 rfl rfl), by decide, ⟨4, 15, by decide, (Or.inl ⟨(by decide +kernel), rfl⟩), (by decide +kernel), (by decide +kernel)⟩, w_eq (by decide) (by decide), rfl⟩
theorem hk_L_partition_1 : HandOK mu_L_partition 5 "java/lang/IllegalArgumentException" 2 := ⟨[⟨0, 10, 13, 21⟩], ⟨0, 10, 17, 13⟩, [], rfl, (List.forall_mem_cons.mpr ⟨⟨by decide, "java/lang/IndexOutOfBoundsException", by decide, (bg_2 153 rfl rfl), by decide⟩, (fun _ h => nomatch h)⟩), by decide, by decide, (bg_1 194 rfl rfl), by decide, ⟨4, 19, by decide, (Or.inl ⟨(by decide +kernel), rfl⟩), (by decide +kernel), (by decide +kernel)⟩, w_eq (by decide) (by decide), rfl⟩
theorem hf_L_partition : ∀ (x : Int) (M : Mm) (r : Int × Mm), x ≠ 0 → (if x = 1 then some (1, M) else if x = 2 then some (2, M) else none) = some r → r.2 = M ∧ HandOK mu_L_partition 5 (exn x) r.1 := by
  intro x M r _ h
  by_cases q0 : x = 1
  · rw [if_pos q0] at h; cases h; subst q0; exact ⟨rfl, hk_L_partition_0⟩
  rw [if_neg q0] at h
  by_cases q1 : x = 2
  · rw [if_pos q1] at h; cases h; subst q1; exact ⟨rfl, hk_L_partition_1⟩
  rw [if_neg q1] at h
  exact nomatch h
set_option maxRecDepth 20000 in
theorem mo_X10_replica : MOK mu_X10_replica 3 := ⟨(bg_1 1 rfl rfl), (bg_6 47 rfl rfl), by decide⟩
set_option maxRecDepth 20000 in
theorem mv_X10_replica : Cond.instanceMethod mu_X10_replica.1 ∈ Big ∧ Cond.selects mu_X10_replica.1.cls mu_X10_replica.1 mu_X10_replica.1 ∈ Big := ⟨(bg_6 45 rfl rfl), (bg_6 46 rfl rfl)⟩
set_option maxRecDepth 20000 in
theorem co_L_replica_115 : CallV mu_L_replica mu_X10_replica 115 3 10 := ⟨⟨(bg_6 44 rfl rfl), mo_X10_replica.1, mo_X10_replica.2.1, mo_X10_replica.2.2, by decide, by decide⟩, mv_X10_replica.1, mv_X10_replica.2, rfl, _, _, cls_10⟩
set_option maxRecDepth 20000 in
theorem hk_L_replica_0 : HandOK mu_L_replica 7 "java/lang/IndexOutOfBoundsException" 1 := ⟨[], ⟨0, 12, 15, 21⟩, [⟨0, 12, 19, 13⟩], rfl, (fun _ h => nomatch h), by decide, by decide, (bg_2 153 rfl rfl), by decide, ⟨5, 17, by decide, (Or.inl ⟨(by decide +kernel), rfl⟩), (by decide +kernel), (by decide +kernel)⟩, w_eq (by decide) (by decide), rfl⟩
theorem hk_L_replica_1 : HandOK mu_L_replica 7 "java/lang/IllegalArgumentException" 2 := ⟨[⟨0, 12, 15, 21⟩], ⟨0, 12, 19, 13⟩, [], rfl, (List.forall_mem_cons.mpr ⟨⟨by decide, "java/lang/IndexOutOfBoundsException", by decide, (bg_2 153 rfl rfl), by decide⟩, (fun _ h => nomatch h)⟩), by decide, by decide, (bg_1 194 rfl rfl), by decide, ⟨5, 21, by decide, (Or.inl ⟨(by decide +kernel), rfl⟩), (by decide +kernel), (by decide +kernel)⟩, w_eq (by decide) (by decide), rfl⟩
theorem hf_L_replica : ∀ (x : Int) (M : Mm) (r : Int × Mm), x ≠ 0 → (if x = 1 then some (1, M) else if x = 2 then some (2, M) else none) = some r → r.2 = M ∧ HandOK mu_L_replica 7 (exn x) r.1 := by
  intro x M r _ h
  by_cases q0 : x = 1
  · rw [if_pos q0] at h; cases h; subst q0; exact ⟨rfl, hk_L_replica_0⟩
  rw [if_neg q0] at h
  by_cases q1 : x = 2
  · rw [if_pos q1] at h; cases h; subst q1; exact ⟨rfl, hk_L_replica_1⟩
  rw [if_neg q1] at h
  exact nomatch h
set_option maxRecDepth 20000 in
theorem mo_X10_offsetAt : MOK mu_X10_offsetAt 2 := ⟨(bg_1 1 rfl rfl), (bg_6 58 rfl rfl), by decide⟩
set_option maxRecDepth 20000 in
theorem mv_X10_offsetAt : Cond.instanceMethod mu_X10_offsetAt.1 ∈ Big ∧ Cond.selects mu_X10_offsetAt.1.cls mu_X10_offsetAt.1 mu_X10_offsetAt.1 ∈ Big := ⟨(bg_6 56 rfl rfl), (bg_6 57 rfl rfl)⟩
set_option maxRecDepth 20000 in
theorem co_L_offsetAt_118 : CallV mu_L_offsetAt mu_X10_offsetAt 118 2 10 := ⟨⟨(bg_6 55 rfl rfl), mo_X10_offsetAt.1, mo_X10_offsetAt.2.1, mo_X10_offsetAt.2.2, by decide, by decide⟩, mv_X10_offsetAt.1, mv_X10_offsetAt.2, rfl, _, _, cls_10⟩
set_option maxRecDepth 20000 in
theorem hk_L_offsetAt_0 : HandOK mu_L_offsetAt 5 "java/lang/IndexOutOfBoundsException" 1 := ⟨[], ⟨0, 10, 13, 21⟩, [], rfl, (fun _ h => nomatch h), by decide, by decide, (bg_2 153 rfl rfl), by decide, ⟨4, 15, by decide, (Or.inl ⟨(by decide +kernel), rfl⟩), (by decide +kernel), (by decide +kernel)⟩, w_eq (by decide) (by decide), rfl⟩
theorem hf_L_offsetAt : ∀ (x : Int) (M : Mm) (r : Int × Mm), x ≠ 0 → (if x = 1 then some (1, M) else none) = some r → r.2 = M ∧ HandOK mu_L_offsetAt 5 (exn x) r.1 := by
  intro x M r _ h
  by_cases q0 : x = 1
  · rw [if_pos q0] at h; cases h; subst q0; exact ⟨rfl, hk_L_offsetAt_0⟩
  rw [if_neg q0] at h
  exact nomatch h
set_option maxRecDepth 20000 in
theorem mo_X10_value : MOK mu_X10_value 2 := ⟨(bg_1 1 rfl rfl), (bg_6 65 rfl rfl), by decide⟩
set_option maxRecDepth 20000 in
theorem mv_X10_value : Cond.instanceMethod mu_X10_value.1 ∈ Big ∧ Cond.selects mu_X10_value.1.cls mu_X10_value.1 mu_X10_value.1 ∈ Big := ⟨(bg_6 63 rfl rfl), (bg_6 64 rfl rfl)⟩
set_option maxRecDepth 20000 in
theorem co_L_value_121 : CallV mu_L_value mu_X10_value 121 2 10 := ⟨⟨(bg_6 62 rfl rfl), mo_X10_value.1, mo_X10_value.2.1, mo_X10_value.2.2, by decide, by decide⟩, mv_X10_value.1, mv_X10_value.2, rfl, _, _, cls_10⟩
set_option maxRecDepth 20000 in
theorem hk_L_value_0 : HandOK mu_L_value 5 "java/lang/IndexOutOfBoundsException" 1 := ⟨[], ⟨0, 10, 13, 21⟩, [], rfl, (fun _ h => nomatch h), by decide, by decide, (bg_2 153 rfl rfl), by decide, ⟨4, 15, by decide, (Or.inl ⟨(by decide +kernel), rfl⟩), (by decide +kernel), (by decide +kernel)⟩, w_eq (by decide) (by decide), rfl⟩
theorem hf_L_value : ∀ (x : Int) (M : Mm) (r : Int × Mm), x ≠ 0 → (if x = 1 then some (1, M) else none) = some r → r.2 = M ∧ HandOK mu_L_value 5 (exn x) r.1 := by
  intro x M r _ h
  by_cases q0 : x = 1
  · rw [if_pos q0] at h; cases h; subst q0; exact ⟨rfl, hk_L_value_0⟩
  rw [if_neg q0] at h
  exact nomatch h
set_option maxRecDepth 20000 in
theorem mo_X10_sum : MOK mu_X10_sum 4 := ⟨(bg_1 1 rfl rfl), (bg_6 72 rfl rfl), by decide⟩
set_option maxRecDepth 20000 in
theorem mv_X10_sum : Cond.instanceMethod mu_X10_sum.1 ∈ Big ∧ Cond.selects mu_X10_sum.1.cls mu_X10_sum.1 mu_X10_sum.1 ∈ Big := ⟨(bg_6 70 rfl rfl), (bg_6 71 rfl rfl)⟩
set_option maxRecDepth 20000 in
theorem co_L_sum_124 : CallV mu_L_sum mu_X10_sum 124 4 10 := ⟨⟨(bg_6 69 rfl rfl), mo_X10_sum.1, mo_X10_sum.2.1, mo_X10_sum.2.2, by decide, by decide⟩, mv_X10_sum.1, mv_X10_sum.2, rfl, _, _, cls_10⟩
set_option maxRecDepth 20000 in
theorem hk_L_sum_0 : HandOK mu_L_sum 9 "java/lang/IndexOutOfBoundsException" 1 := ⟨[], ⟨0, 14, 17, 21⟩, [], rfl, (fun _ h => nomatch h), by decide, by decide, (bg_2 153 rfl rfl), by decide, ⟨6, 19, by decide, (Or.inl ⟨(by decide +kernel), rfl⟩), (by decide +kernel), (by decide +kernel)⟩, w_eq (by decide) (by decide), rfl⟩
theorem hf_L_sum : ∀ (x : Int) (M : Mm) (r : Int × Mm), x ≠ 0 → (if x = 1 then some (1, M) else none) = some r → r.2 = M ∧ HandOK mu_L_sum 9 (exn x) r.1 := by
  intro x M r _ h
  by_cases q0 : x = 1
  · rw [if_pos q0] at h; cases h; subst q0; exact ⟨rfl, hk_L_sum_0⟩
  rw [if_neg q0] at h
  exact nomatch h
set_option maxRecDepth 20000 in
theorem mo_X10_share : MOK mu_X10_share 3 := ⟨(bg_1 1 rfl rfl), (bg_6 80 rfl rfl), by decide⟩
set_option maxRecDepth 20000 in
theorem mv_X10_share : Cond.instanceMethod mu_X10_share.1 ∈ Big ∧ Cond.selects mu_X10_share.1.cls mu_X10_share.1 mu_X10_share.1 ∈ Big := ⟨(bg_6 78 rfl rfl), (bg_6 79 rfl rfl)⟩
set_option maxRecDepth 20000 in
theorem co_L_share_127 : CallV mu_L_share mu_X10_share 127 3 10 := ⟨⟨(bg_6 77 rfl rfl), mo_X10_share.1, mo_X10_share.2.1, mo_X10_share.2.2, by decide, by decide⟩, mv_X10_share.1, mv_X10_share.2, rfl, _, _, cls_10⟩
set_option maxRecDepth 20000 in
theorem hk_L_share_0 : HandOK mu_L_share 7 "java/lang/IndexOutOfBoundsException" 1 := ⟨[], ⟨0, 12, 15, 21⟩, [⟨0, 12, 19, 13⟩], rfl, (fun _ h => nomatch h), by decide, by decide, (bg_2 153 rfl rfl), by decide, ⟨5, 17, by decide, (Or.inl ⟨(by decide +kernel), rfl⟩), (by decide +kernel), (by decide +kernel)⟩, w_eq (by decide) (by decide), rfl⟩
theorem hk_L_share_1 : HandOK mu_L_share 7 "java/lang/IllegalArgumentException" 2 := ⟨[⟨0, 12, 15, 21⟩], ⟨0, 12, 19, 13⟩, [], rfl, (List.forall_mem_cons.mpr ⟨⟨by decide, "java/lang/IndexOutOfBoundsException", by decide, (bg_2 153 rfl rfl), by decide⟩, (fun _ h => nomatch h)⟩), by decide, by decide, (bg_1 194 rfl rfl), by decide, ⟨5, 21, by decide, (Or.inl ⟨(by decide +kernel), rfl⟩), (by decide +kernel), (by decide +kernel)⟩, w_eq (by decide) (by decide), rfl⟩
theorem hf_L_share : ∀ (x : Int) (M : Mm) (r : Int × Mm), x ≠ 0 → (if x = 1 then some (1, M) else if x = 2 then some (2, M) else none) = some r → r.2 = M ∧ HandOK mu_L_share 7 (exn x) r.1 := by
  intro x M r _ h
  by_cases q0 : x = 1
  · rw [if_pos q0] at h; cases h; subst q0; exact ⟨rfl, hk_L_share_0⟩
  rw [if_neg q0] at h
  by_cases q1 : x = 2
  · rw [if_pos q1] at h; cases h; subst q1; exact ⟨rfl, hk_L_share_1⟩
  rw [if_neg q1] at h
  exact nomatch h
set_option maxRecDepth 20000 in
theorem mo_X10_member : MOK mu_X10_member 3 := ⟨(bg_1 1 rfl rfl), (bg_6 87 rfl rfl), by decide⟩
set_option maxRecDepth 20000 in
theorem mv_X10_member : Cond.instanceMethod mu_X10_member.1 ∈ Big ∧ Cond.selects mu_X10_member.1.cls mu_X10_member.1 mu_X10_member.1 ∈ Big := ⟨(bg_6 85 rfl rfl), (bg_6 86 rfl rfl)⟩
set_option maxRecDepth 20000 in
theorem co_L_member_130 : CallV mu_L_member mu_X10_member 130 3 10 := ⟨⟨(bg_6 84 rfl rfl), mo_X10_member.1, mo_X10_member.2.1, mo_X10_member.2.2, by decide, by decide⟩, mv_X10_member.1, mv_X10_member.2, rfl, _, _, cls_10⟩
set_option maxRecDepth 20000 in
theorem hk_L_member_0 : HandOK mu_L_member 7 "java/lang/IndexOutOfBoundsException" 1 := ⟨[], ⟨0, 12, 15, 21⟩, [⟨0, 12, 19, 13⟩], rfl, (fun _ h => nomatch h), by decide, by decide, (bg_2 153 rfl rfl), by decide, ⟨5, 17, by decide, (Or.inl ⟨(by decide +kernel), rfl⟩), (by decide +kernel), (by decide +kernel)⟩, w_eq (by decide) (by decide), rfl⟩
theorem hk_L_member_1 : HandOK mu_L_member 7 "java/lang/IllegalArgumentException" 2 := ⟨[⟨0, 12, 15, 21⟩], ⟨0, 12, 19, 13⟩, [], rfl, (List.forall_mem_cons.mpr ⟨⟨by decide, "java/lang/IndexOutOfBoundsException", by decide, (bg_2 153 rfl rfl), by decide⟩, (fun _ h => nomatch h)⟩), by decide, by decide, (bg_1 194 rfl rfl), by decide, ⟨5, 21, by decide, (Or.inl ⟨(by decide +kernel), rfl⟩), (by decide +kernel), (by decide +kernel)⟩, w_eq (by decide) (by decide), rfl⟩
theorem hf_L_member : ∀ (x : Int) (M : Mm) (r : Int × Mm), x ≠ 0 → (if x = 1 then some (1, M) else if x = 2 then some (2, M) else none) = some r → r.2 = M ∧ HandOK mu_L_member 7 (exn x) r.1 := by
  intro x M r _ h
  by_cases q0 : x = 1
  · rw [if_pos q0] at h; cases h; subst q0; exact ⟨rfl, hk_L_member_0⟩
  rw [if_neg q0] at h
  by_cases q1 : x = 2
  · rw [if_pos q1] at h; cases h; subst q1; exact ⟨rfl, hk_L_member_1⟩
  rw [if_neg q1] at h
  exact nomatch h
set_option maxRecDepth 20000 in
theorem mo_X10_hand : MOK mu_X10_hand 4 := ⟨(bg_1 1 rfl rfl), (bg_6 95 rfl rfl), by decide⟩
set_option maxRecDepth 20000 in
theorem mv_X10_hand : Cond.instanceMethod mu_X10_hand.1 ∈ Big ∧ Cond.selects mu_X10_hand.1.cls mu_X10_hand.1 mu_X10_hand.1 ∈ Big := ⟨(bg_6 93 rfl rfl), (bg_6 94 rfl rfl)⟩
set_option maxRecDepth 20000 in
theorem co_L_hand_133 : CallV mu_L_hand mu_X10_hand 133 4 10 := ⟨⟨(bg_6 92 rfl rfl), mo_X10_hand.1, mo_X10_hand.2.1, mo_X10_hand.2.2, by decide, by decide⟩, mv_X10_hand.1, mv_X10_hand.2, rfl, _, _, cls_10⟩
set_option maxRecDepth 20000 in
theorem hk_L_hand_0 : HandOK mu_L_hand 9 "java/lang/IndexOutOfBoundsException" 1 := ⟨[], ⟨0, 14, 17, 21⟩, [⟨0, 14, 21, 13⟩], rfl, (fun _ h => nomatch h), by decide, by decide, (bg_2 153 rfl rfl), by decide, ⟨6, 19, by decide, (Or.inl ⟨(by decide +kernel), rfl⟩), (by decide +kernel), (by decide +kernel)⟩, w_eq (by decide) (by decide), rfl⟩
theorem hk_L_hand_1 : HandOK mu_L_hand 9 "java/lang/IllegalArgumentException" 2 := ⟨[⟨0, 14, 17, 21⟩], ⟨0, 14, 21, 13⟩, [], rfl, (List.forall_mem_cons.mpr ⟨⟨by decide, "java/lang/IndexOutOfBoundsException", by decide, (bg_2 153 rfl rfl), by decide⟩, (fun _ h => nomatch h)⟩), by decide, by decide, (bg_1 194 rfl rfl), by decide, ⟨6, 23, by decide, (Or.inl ⟨(by decide +kernel), rfl⟩), (by decide +kernel), (by decide +kernel)⟩, w_eq (by decide) (by decide), rfl⟩
theorem hf_L_hand : ∀ (x : Int) (M : Mm) (r : Int × Mm), x ≠ 0 → (if x = 1 then some (1, M) else if x = 2 then some (2, M) else none) = some r → r.2 = M ∧ HandOK mu_L_hand 9 (exn x) r.1 := by
  intro x M r _ h
  by_cases q0 : x = 1
  · rw [if_pos q0] at h; cases h; subst q0; exact ⟨rfl, hk_L_hand_0⟩
  rw [if_neg q0] at h
  by_cases q1 : x = 2
  · rw [if_pos q1] at h; cases h; subst q1; exact ⟨rfl, hk_L_hand_1⟩
  rw [if_neg q1] at h
  exact nomatch h
set_option maxRecDepth 20000 in
theorem mo_X10_waits : MOK mu_X10_waits 3 := ⟨(bg_1 1 rfl rfl), (bg_6 107 rfl rfl), by decide⟩
set_option maxRecDepth 20000 in
theorem mv_X10_waits : Cond.instanceMethod mu_X10_waits.1 ∈ Big ∧ Cond.selects mu_X10_waits.1.cls mu_X10_waits.1 mu_X10_waits.1 ∈ Big := ⟨(bg_6 105 rfl rfl), (bg_6 106 rfl rfl)⟩
set_option maxRecDepth 20000 in
theorem co_L_waits_136 : CallV mu_L_waits mu_X10_waits 136 3 10 := ⟨⟨(bg_6 104 rfl rfl), mo_X10_waits.1, mo_X10_waits.2.1, mo_X10_waits.2.2, by decide, by decide⟩, mv_X10_waits.1, mv_X10_waits.2, rfl, _, _, cls_10⟩
set_option maxRecDepth 20000 in
theorem hk_L_waits_0 : HandOK mu_L_waits 7 "java/lang/IndexOutOfBoundsException" 1 := ⟨[], ⟨0, 12, 15, 21⟩, [⟨0, 12, 19, 13⟩], rfl, (fun _ h => nomatch h), by decide, by decide, (bg_2 153 rfl rfl), by decide, ⟨5, 17, by decide, (Or.inl ⟨(by decide +kernel), rfl⟩), (by decide +kernel), (by decide +kernel)⟩, w_eq (by decide) (by decide), rfl⟩
theorem hk_L_waits_1 : HandOK mu_L_waits 7 "java/lang/IllegalArgumentException" 2 := ⟨[⟨0, 12, 15, 21⟩], ⟨0, 12, 19, 13⟩, [], rfl, (List.forall_mem_cons.mpr ⟨⟨by decide, "java/lang/IndexOutOfBoundsException", by decide, (bg_2 153 rfl rfl), by decide⟩, (fun _ h => nomatch h)⟩), by decide, by decide, (bg_1 194 rfl rfl), by decide, ⟨5, 21, by decide, (Or.inl ⟨(by decide +kernel), rfl⟩), (by decide +kernel), (by decide +kernel)⟩, w_eq (by decide) (by decide), rfl⟩
theorem hf_L_waits : ∀ (x : Int) (M : Mm) (r : Int × Mm), x ≠ 0 → (if x = 1 then some (1, M) else if x = 2 then some (2, M) else none) = some r → r.2 = M ∧ HandOK mu_L_waits 7 (exn x) r.1 := by
  intro x M r _ h
  by_cases q0 : x = 1
  · rw [if_pos q0] at h; cases h; subst q0; exact ⟨rfl, hk_L_waits_0⟩
  rw [if_neg q0] at h
  by_cases q1 : x = 2
  · rw [if_pos q1] at h; cases h; subst q1; exact ⟨rfl, hk_L_waits_1⟩
  rw [if_neg q1] at h
  exact nomatch h
set_option maxRecDepth 20000 in
theorem mo_X10_dead : MOK mu_X10_dead 2 := ⟨(bg_1 1 rfl rfl), (bg_6 114 rfl rfl), by decide⟩
set_option maxRecDepth 20000 in
theorem mv_X10_dead : Cond.instanceMethod mu_X10_dead.1 ∈ Big ∧ Cond.selects mu_X10_dead.1.cls mu_X10_dead.1 mu_X10_dead.1 ∈ Big := ⟨(bg_6 112 rfl rfl), (bg_6 113 rfl rfl)⟩
set_option maxRecDepth 20000 in
theorem co_L_dead_139 : CallV mu_L_dead mu_X10_dead 139 2 10 := ⟨⟨(bg_6 111 rfl rfl), mo_X10_dead.1, mo_X10_dead.2.1, mo_X10_dead.2.2, by decide, by decide⟩, mv_X10_dead.1, mv_X10_dead.2, rfl, _, _, cls_10⟩
set_option maxRecDepth 20000 in
theorem hk_L_dead_0 : HandOK mu_L_dead 5 "java/lang/IndexOutOfBoundsException" 1 := ⟨[], ⟨0, 10, 13, 21⟩, [], rfl, (fun _ h => nomatch h), by decide, by decide, (bg_2 153 rfl rfl), by decide, ⟨4, 15, by decide, (Or.inl ⟨(by decide +kernel), rfl⟩), (by decide +kernel), (by decide +kernel)⟩, w_eq (by decide) (by decide), rfl⟩
theorem hf_L_dead : ∀ (x : Int) (M : Mm) (r : Int × Mm), x ≠ 0 → (if x = 1 then some (1, M) else none) = some r → r.2 = M ∧ HandOK mu_L_dead 5 (exn x) r.1 := by
  intro x M r _ h
  by_cases q0 : x = 1
  · rw [if_pos q0] at h; cases h; subst q0; exact ⟨rfl, hk_L_dead_0⟩
  rw [if_neg q0] at h
  exact nomatch h
set_option maxRecDepth 20000 in
theorem mo_X10_seen : MOK mu_X10_seen 2 := ⟨(bg_1 1 rfl rfl), (bg_6 121 rfl rfl), by decide⟩
set_option maxRecDepth 20000 in
theorem mv_X10_seen : Cond.instanceMethod mu_X10_seen.1 ∈ Big ∧ Cond.selects mu_X10_seen.1.cls mu_X10_seen.1 mu_X10_seen.1 ∈ Big := ⟨(bg_6 119 rfl rfl), (bg_6 120 rfl rfl)⟩
set_option maxRecDepth 20000 in
theorem co_L_seen_142 : CallV mu_L_seen mu_X10_seen 142 2 10 := ⟨⟨(bg_6 118 rfl rfl), mo_X10_seen.1, mo_X10_seen.2.1, mo_X10_seen.2.2, by decide, by decide⟩, mv_X10_seen.1, mv_X10_seen.2, rfl, _, _, cls_10⟩
set_option maxRecDepth 20000 in
theorem hk_L_seen_0 : HandOK mu_L_seen 5 "java/lang/IndexOutOfBoundsException" 1 := ⟨[], ⟨0, 10, 13, 21⟩, [], rfl, (fun _ h => nomatch h), by decide, by decide, (bg_2 153 rfl rfl), by decide, ⟨4, 15, by decide, (Or.inl ⟨(by decide +kernel), rfl⟩), (by decide +kernel), (by decide +kernel)⟩, w_eq (by decide) (by decide), rfl⟩
theorem hf_L_seen : ∀ (x : Int) (M : Mm) (r : Int × Mm), x ≠ 0 → (if x = 1 then some (1, M) else none) = some r → r.2 = M ∧ HandOK mu_L_seen 5 (exn x) r.1 := by
  intro x M r _ h
  by_cases q0 : x = 1
  · rw [if_pos q0] at h; cases h; subst q0; exact ⟨rfl, hk_L_seen_0⟩
  rw [if_neg q0] at h
  exact nomatch h
set_option maxRecDepth 20000 in
theorem mo_X10_count : MOK mu_X10_count 1 := ⟨(bg_1 1 rfl rfl), (bg_6 129 rfl rfl), by decide⟩
set_option maxRecDepth 20000 in
theorem mv_X10_count : Cond.instanceMethod mu_X10_count.1 ∈ Big ∧ Cond.selects mu_X10_count.1.cls mu_X10_count.1 mu_X10_count.1 ∈ Big := ⟨(bg_6 127 rfl rfl), (bg_6 128 rfl rfl)⟩
set_option maxRecDepth 20000 in
theorem co_L_count_145 : CallV mu_L_count mu_X10_count 145 1 10 := ⟨⟨(bg_6 126 rfl rfl), mo_X10_count.1, mo_X10_count.2.1, mo_X10_count.2.2, by decide, by decide⟩, mv_X10_count.1, mv_X10_count.2, rfl, _, _, cls_10⟩
set_option maxRecDepth 20000 in
theorem hk_L_count_0 : HandOK mu_L_count 4 "java/lang/IllegalArgumentException" 1 := ⟨[], ⟨0, 9, 12, 13⟩, [], rfl, (fun _ h => nomatch h), by decide, by decide, (bg_1 194 rfl rfl), by decide, ⟨3, 13, by decide, (Or.inr ⟨3, rfl, (by decide +kernel), rfl⟩), (by decide +kernel), (by decide +kernel)⟩, w_eq (by decide) (by decide), rfl⟩
theorem hf_L_count : ∀ (x : Int) (M : Mm) (r : Int × Mm), x ≠ 0 → (if x = 2 then some (1, M) else none) = some r → r.2 = M ∧ HandOK mu_L_count 4 (exn x) r.1 := by
  intro x M r _ h
  by_cases q0 : x = 2
  · rw [if_pos q0] at h; cases h; subst q0; exact ⟨rfl, hk_L_count_0⟩
  rw [if_neg q0] at h
  exact nomatch h
set_option maxRecDepth 20000 in
theorem mo_X10_ofGroup : MOK mu_X10_ofGroup 2 := ⟨(bg_1 1 rfl rfl), (bg_6 144 rfl rfl), by decide⟩
set_option maxRecDepth 20000 in
theorem mv_X10_ofGroup : Cond.instanceMethod mu_X10_ofGroup.1 ∈ Big ∧ Cond.selects mu_X10_ofGroup.1.cls mu_X10_ofGroup.1 mu_X10_ofGroup.1 ∈ Big := ⟨(bg_6 142 rfl rfl), (bg_6 143 rfl rfl)⟩
set_option maxRecDepth 20000 in
theorem co_L_ofGroup_148 : CallV mu_L_ofGroup mu_X10_ofGroup 148 2 10 := ⟨⟨(bg_6 141 rfl rfl), mo_X10_ofGroup.1, mo_X10_ofGroup.2.1, mo_X10_ofGroup.2.2, by decide, by decide⟩, mv_X10_ofGroup.1, mv_X10_ofGroup.2, rfl, _, _, cls_10⟩
set_option maxRecDepth 20000 in
theorem hk_L_ofGroup_0 : HandOK mu_L_ofGroup 5 "java/lang/IndexOutOfBoundsException" 1 := ⟨[], ⟨0, 10, 13, 21⟩, [⟨0, 10, 17, 13⟩], rfl, (fun _ h => nomatch h), by decide, by decide, (bg_2 153 rfl rfl), by decide, ⟨4, 15, by decide, (Or.inl ⟨(by decide +kernel), rfl⟩), (by decide +kernel), (by decide +kernel)⟩, w_eq (by decide) (by decide), rfl⟩
theorem hk_L_ofGroup_1 : HandOK mu_L_ofGroup 5 "java/lang/IllegalArgumentException" 2 := ⟨[⟨0, 10, 13, 21⟩], ⟨0, 10, 17, 13⟩, [], rfl, (List.forall_mem_cons.mpr ⟨⟨by decide, "java/lang/IndexOutOfBoundsException", by decide, (bg_2 153 rfl rfl), by decide⟩, (fun _ h => nomatch h)⟩), by decide, by decide, (bg_1 194 rfl rfl), by decide, ⟨4, 19, by decide, (Or.inl ⟨(by decide +kernel), rfl⟩), (by decide +kernel), (by decide +kernel)⟩, w_eq (by decide) (by decide), rfl⟩
theorem hf_L_ofGroup : ∀ (x : Int) (M : Mm) (r : Int × Mm), x ≠ 0 → (if x = 1 then some (1, M) else if x = 2 then some (2, M) else none) = some r → r.2 = M ∧ HandOK mu_L_ofGroup 5 (exn x) r.1 := by
  intro x M r _ h
  by_cases q0 : x = 1
  · rw [if_pos q0] at h; cases h; subst q0; exact ⟨rfl, hk_L_ofGroup_0⟩
  rw [if_neg q0] at h
  by_cases q1 : x = 2
  · rw [if_pos q1] at h; cases h; subst q1; exact ⟨rfl, hk_L_ofGroup_1⟩
  rw [if_neg q1] at h
  exact nomatch h
set_option maxRecDepth 20000 in
theorem mo_X10_audit : MOK mu_X10_audit 1 := ⟨(bg_1 1 rfl rfl), (bg_6 151 rfl rfl), by decide⟩
set_option maxRecDepth 20000 in
theorem mv_X10_audit : Cond.instanceMethod mu_X10_audit.1 ∈ Big ∧ Cond.selects mu_X10_audit.1.cls mu_X10_audit.1 mu_X10_audit.1 ∈ Big := ⟨(bg_6 149 rfl rfl), (bg_6 150 rfl rfl)⟩
set_option maxRecDepth 20000 in
theorem co_L_audit_151 : CallV mu_L_audit mu_X10_audit 151 1 10 := ⟨⟨(bg_6 148 rfl rfl), mo_X10_audit.1, mo_X10_audit.2.1, mo_X10_audit.2.2, by decide, by decide⟩, mv_X10_audit.1, mv_X10_audit.2, rfl, _, _, cls_10⟩
set_option maxRecDepth 20000 in
theorem hk_L_audit_0 : HandOK mu_L_audit 4 "java/lang/IllegalArgumentException" 1 := ⟨[], ⟨0, 16, 19, 13⟩, [], rfl, (fun _ h => nomatch h), by decide, by decide, (bg_1 194 rfl rfl), by decide, ⟨3, 20, by decide, (Or.inr ⟨3, rfl, (by decide +kernel), rfl⟩), (by decide +kernel), (by decide +kernel)⟩, w_eq (by decide) (by decide), rfl⟩
theorem hf_L_audit : ∀ (x : Int) (M : Mm) (r : Int × Mm), x ≠ 0 → (if x = 2 then some (1, M) else none) = some r → r.2 = M ∧ HandOK mu_L_audit 4 (exn x) r.1 := by
  intro x M r _ h
  by_cases q0 : x = 2
  · rw [if_pos q0] at h; cases h; subst q0; exact ⟨rfl, hk_L_audit_0⟩
  rw [if_neg q0] at h
  exact nomatch h
set_option maxRecDepth 20000 in
theorem mo_X10_init : MOK mu_X10_init 0 := ⟨(bg_1 1 rfl rfl), (bg_1 24 rfl rfl), by decide⟩
set_option maxRecDepth 20000 in
theorem co_L_law_155 : CallI mu_L_law mu_X10_init 155 0 := ⟨⟨(bg_1 22 rfl rfl), mo_X10_init.1, mo_X10_init.2.1, mo_X10_init.2.2, by decide, by decide⟩, (bg_1 23 rfl rfl), rfl, rfl, rfl⟩
set_option maxRecDepth 20000 in
theorem mo_X11_init : MOK mu_X11_init 0 := ⟨(bg_1 2 rfl rfl), (bg_6 239 rfl rfl), by decide⟩
set_option maxRecDepth 20000 in
theorem co_L_law_158 : CallI mu_L_law mu_X11_init 158 0 := ⟨⟨(bg_6 237 rfl rfl), mo_X11_init.1, mo_X11_init.2.1, mo_X11_init.2.2, by decide, by decide⟩, (bg_6 238 rfl rfl), rfl, rfl, rfl⟩
set_option maxRecDepth 20000 in
theorem mo_L_topic : MOK mu_L_topic 5 := ⟨(bg_1 0 rfl rfl), (bg_1 193 rfl rfl), by decide⟩
set_option maxRecDepth 20000 in
theorem ms_L_topic : Cond.static mu_L_topic.1 ∈ Big := (bg_1 192 rfl rfl)
set_option maxRecDepth 20000 in
theorem co_L_law_159 : CallS mu_L_law mu_L_topic 159 5 := ⟨⟨(bg_1 191 rfl rfl), mo_L_topic.1, mo_L_topic.2.1, mo_L_topic.2.2, by decide, by decide⟩, ms_L_topic⟩
set_option maxRecDepth 20000 in
theorem mo_X11_topic : MOK mu_X11_topic 3 := ⟨(bg_1 2 rfl rfl), (bg_7 214 rfl rfl), by decide⟩
set_option maxRecDepth 20000 in
theorem mv_X11_topic : Cond.instanceMethod mu_X11_topic.1 ∈ Big ∧ Cond.selects mu_X11_topic.1.cls mu_X11_topic.1 mu_X11_topic.1 ∈ Big := ⟨(bg_7 212 rfl rfl), (bg_7 213 rfl rfl)⟩
set_option maxRecDepth 20000 in
theorem co_L_law_164 : CallV mu_L_law mu_X11_topic 164 3 11 := ⟨⟨(bg_7 211 rfl rfl), mo_X11_topic.1, mo_X11_topic.2.1, mo_X11_topic.2.2, by decide, by decide⟩, mv_X11_topic.1, mv_X11_topic.2, rfl, _, _, cls_11⟩
set_option maxRecDepth 20000 in
theorem mo_X11_thrown : MOK mu_X11_thrown 0 := ⟨(bg_1 2 rfl rfl), (bg_7 210 rfl rfl), by decide⟩
set_option maxRecDepth 20000 in
theorem mv_X11_thrown : Cond.instanceMethod mu_X11_thrown.1 ∈ Big ∧ Cond.selects mu_X11_thrown.1.cls mu_X11_thrown.1 mu_X11_thrown.1 ∈ Big := ⟨(bg_7 208 rfl rfl), (bg_7 209 rfl rfl)⟩
set_option maxRecDepth 20000 in
theorem co_L_law_165 : CallV mu_L_law mu_X11_thrown 165 0 11 := ⟨⟨(bg_7 207 rfl rfl), mo_X11_thrown.1, mo_X11_thrown.2.1, mo_X11_thrown.2.2, by decide, by decide⟩, mv_X11_thrown.1, mv_X11_thrown.2, rfl, _, _, cls_11⟩
set_option maxRecDepth 20000 in
theorem mo_L_retain : MOK mu_L_retain 5 := ⟨(bg_1 0 rfl rfl), (bg_2 152 rfl rfl), by decide⟩
set_option maxRecDepth 20000 in
theorem ms_L_retain : Cond.static mu_L_retain.1 ∈ Big := (bg_2 151 rfl rfl)
set_option maxRecDepth 20000 in
theorem co_L_law_168 : CallS mu_L_law mu_L_retain 168 5 := ⟨⟨(bg_2 150 rfl rfl), mo_L_retain.1, mo_L_retain.2.1, mo_L_retain.2.2, by decide, by decide⟩, ms_L_retain⟩
set_option maxRecDepth 20000 in
theorem mo_X11_retain : MOK mu_X11_retain 3 := ⟨(bg_1 2 rfl rfl), (bg_7 226 rfl rfl), by decide⟩
set_option maxRecDepth 20000 in
theorem mv_X11_retain : Cond.instanceMethod mu_X11_retain.1 ∈ Big ∧ Cond.selects mu_X11_retain.1.cls mu_X11_retain.1 mu_X11_retain.1 ∈ Big := ⟨(bg_7 224 rfl rfl), (bg_7 225 rfl rfl)⟩
set_option maxRecDepth 20000 in
theorem co_L_law_171 : CallV mu_L_law mu_X11_retain 171 3 11 := ⟨⟨(bg_7 223 rfl rfl), mo_X11_retain.1, mo_X11_retain.2.1, mo_X11_retain.2.2, by decide, by decide⟩, mv_X11_retain.1, mv_X11_retain.2, rfl, _, _, cls_11⟩
set_option maxRecDepth 20000 in
theorem mo_L_compact : MOK mu_L_compact 3 := ⟨(bg_1 0 rfl rfl), (bg_2 181 rfl rfl), by decide⟩
set_option maxRecDepth 20000 in
theorem ms_L_compact : Cond.static mu_L_compact.1 ∈ Big := (bg_2 180 rfl rfl)
set_option maxRecDepth 20000 in
theorem co_L_law_172 : CallS mu_L_law mu_L_compact 172 3 := ⟨⟨(bg_2 179 rfl rfl), mo_L_compact.1, mo_L_compact.2.1, mo_L_compact.2.2, by decide, by decide⟩, ms_L_compact⟩
set_option maxRecDepth 20000 in
theorem mo_X11_compact : MOK mu_X11_compact 1 := ⟨(bg_1 2 rfl rfl), (bg_7 236 rfl rfl), by decide⟩
set_option maxRecDepth 20000 in
theorem mv_X11_compact : Cond.instanceMethod mu_X11_compact.1 ∈ Big ∧ Cond.selects mu_X11_compact.1.cls mu_X11_compact.1 mu_X11_compact.1 ∈ Big := ⟨(bg_7 234 rfl rfl), (bg_7 235 rfl rfl)⟩
set_option maxRecDepth 20000 in
theorem co_L_law_175 : CallV mu_L_law mu_X11_compact 175 1 11 := ⟨⟨(bg_7 233 rfl rfl), mo_X11_compact.1, mo_X11_compact.2.1, mo_X11_compact.2.2, by decide, by decide⟩, mv_X11_compact.1, mv_X11_compact.2, rfl, _, _, cls_11⟩
set_option maxRecDepth 20000 in
theorem mo_L_fail : MOK mu_L_fail 3 := ⟨(bg_1 0 rfl rfl), (bg_2 204 rfl rfl), by decide⟩
set_option maxRecDepth 20000 in
theorem ms_L_fail : Cond.static mu_L_fail.1 ∈ Big := (bg_2 203 rfl rfl)
set_option maxRecDepth 20000 in
theorem co_L_law_176 : CallS mu_L_law mu_L_fail 176 3 := ⟨⟨(bg_2 202 rfl rfl), mo_L_fail.1, mo_L_fail.2.1, mo_L_fail.2.2, by decide, by decide⟩, ms_L_fail⟩
set_option maxRecDepth 20000 in
theorem mo_X11_fail : MOK mu_X11_fail 1 := ⟨(bg_1 2 rfl rfl), (bg_8 23 rfl rfl), by decide⟩
set_option maxRecDepth 20000 in
theorem mv_X11_fail : Cond.instanceMethod mu_X11_fail.1 ∈ Big ∧ Cond.selects mu_X11_fail.1.cls mu_X11_fail.1 mu_X11_fail.1 ∈ Big := ⟨(bg_8 21 rfl rfl), (bg_8 22 rfl rfl)⟩
set_option maxRecDepth 20000 in
theorem co_L_law_178 : CallV mu_L_law mu_X11_fail 178 1 11 := ⟨⟨(bg_8 20 rfl rfl), mo_X11_fail.1, mo_X11_fail.2.1, mo_X11_fail.2.2, by decide, by decide⟩, mv_X11_fail.1, mv_X11_fail.2, rfl, _, _, cls_11⟩
set_option maxRecDepth 20000 in
theorem mo_L_restore : MOK mu_L_restore 3 := ⟨(bg_1 0 rfl rfl), (bg_3 5 rfl rfl), by decide⟩
set_option maxRecDepth 20000 in
theorem ms_L_restore : Cond.static mu_L_restore.1 ∈ Big := (bg_3 4 rfl rfl)
set_option maxRecDepth 20000 in
theorem co_L_law_179 : CallS mu_L_law mu_L_restore 179 3 := ⟨⟨(bg_3 3 rfl rfl), mo_L_restore.1, mo_L_restore.2.1, mo_L_restore.2.2, by decide, by decide⟩, ms_L_restore⟩
set_option maxRecDepth 20000 in
theorem mo_X11_restore : MOK mu_X11_restore 1 := ⟨(bg_1 2 rfl rfl), (bg_8 59 rfl rfl), by decide⟩
set_option maxRecDepth 20000 in
theorem mv_X11_restore : Cond.instanceMethod mu_X11_restore.1 ∈ Big ∧ Cond.selects mu_X11_restore.1.cls mu_X11_restore.1 mu_X11_restore.1 ∈ Big := ⟨(bg_8 57 rfl rfl), (bg_8 58 rfl rfl)⟩
set_option maxRecDepth 20000 in
theorem co_L_law_181 : CallV mu_L_law mu_X11_restore 181 1 11 := ⟨⟨(bg_8 56 rfl rfl), mo_X11_restore.1, mo_X11_restore.2.1, mo_X11_restore.2.2, by decide, by decide⟩, mv_X11_restore.1, mv_X11_restore.2, rfl, _, _, cls_11⟩
set_option maxRecDepth 20000 in
theorem mo_L_fetch : MOK mu_L_fetch 3 := ⟨(bg_1 0 rfl rfl), (bg_3 13 rfl rfl), by decide⟩
set_option maxRecDepth 20000 in
theorem ms_L_fetch : Cond.static mu_L_fetch.1 ∈ Big := (bg_3 12 rfl rfl)
set_option maxRecDepth 20000 in
theorem co_L_law_182 : CallS mu_L_law mu_L_fetch 182 3 := ⟨⟨(bg_3 11 rfl rfl), mo_L_fetch.1, mo_L_fetch.2.1, mo_L_fetch.2.2, by decide, by decide⟩, ms_L_fetch⟩
set_option maxRecDepth 20000 in
theorem mo_X11_fetch : MOK mu_X11_fetch 1 := ⟨(bg_1 2 rfl rfl), (bg_8 63 rfl rfl), by decide⟩
set_option maxRecDepth 20000 in
theorem mv_X11_fetch : Cond.instanceMethod mu_X11_fetch.1 ∈ Big ∧ Cond.selects mu_X11_fetch.1.cls mu_X11_fetch.1 mu_X11_fetch.1 ∈ Big := ⟨(bg_8 61 rfl rfl), (bg_8 62 rfl rfl)⟩
set_option maxRecDepth 20000 in
theorem co_L_law_184 : CallV mu_L_law mu_X11_fetch 184 1 11 := ⟨⟨(bg_8 60 rfl rfl), mo_X11_fetch.1, mo_X11_fetch.2.1, mo_X11_fetch.2.2, by decide, by decide⟩, mv_X11_fetch.1, mv_X11_fetch.2, rfl, _, _, cls_11⟩
set_option maxRecDepth 20000 in
theorem mo_L_speed : MOK mu_L_speed 3 := ⟨(bg_1 0 rfl rfl), (bg_3 24 rfl rfl), by decide⟩
set_option maxRecDepth 20000 in
theorem ms_L_speed : Cond.static mu_L_speed.1 ∈ Big := (bg_3 23 rfl rfl)
set_option maxRecDepth 20000 in
theorem co_L_law_185 : CallS mu_L_law mu_L_speed 185 3 := ⟨⟨(bg_3 22 rfl rfl), mo_L_speed.1, mo_L_speed.2.1, mo_L_speed.2.2, by decide, by decide⟩, ms_L_speed⟩
set_option maxRecDepth 20000 in
theorem mo_X11_speed : MOK mu_X11_speed 1 := ⟨(bg_1 2 rfl rfl), (bg_8 71 rfl rfl), by decide⟩
set_option maxRecDepth 20000 in
theorem mv_X11_speed : Cond.instanceMethod mu_X11_speed.1 ∈ Big ∧ Cond.selects mu_X11_speed.1.cls mu_X11_speed.1 mu_X11_speed.1 ∈ Big := ⟨(bg_8 69 rfl rfl), (bg_8 70 rfl rfl)⟩
set_option maxRecDepth 20000 in
theorem co_L_law_187 : CallV mu_L_law mu_X11_speed 187 1 11 := ⟨⟨(bg_8 68 rfl rfl), mo_X11_speed.1, mo_X11_speed.2.1, mo_X11_speed.2.2, by decide, by decide⟩, mv_X11_speed.1, mv_X11_speed.2, rfl, _, _, cls_11⟩
set_option maxRecDepth 20000 in
theorem mo_L_tick : MOK mu_L_tick 3 := ⟨(bg_1 0 rfl rfl), (bg_3 31 rfl rfl), by decide⟩
set_option maxRecDepth 20000 in
theorem ms_L_tick : Cond.static mu_L_tick.1 ∈ Big := (bg_3 30 rfl rfl)
set_option maxRecDepth 20000 in
theorem co_L_law_188 : CallS mu_L_law mu_L_tick 188 3 := ⟨⟨(bg_3 29 rfl rfl), mo_L_tick.1, mo_L_tick.2.1, mo_L_tick.2.2, by decide, by decide⟩, ms_L_tick⟩
set_option maxRecDepth 20000 in
theorem mo_X11_tick : MOK mu_X11_tick 1 := ⟨(bg_1 2 rfl rfl), (bg_8 76 rfl rfl), by decide⟩
set_option maxRecDepth 20000 in
theorem mv_X11_tick : Cond.instanceMethod mu_X11_tick.1 ∈ Big ∧ Cond.selects mu_X11_tick.1.cls mu_X11_tick.1 mu_X11_tick.1 ∈ Big := ⟨(bg_8 74 rfl rfl), (bg_8 75 rfl rfl)⟩
set_option maxRecDepth 20000 in
theorem co_L_law_190 : CallV mu_L_law mu_X11_tick 190 1 11 := ⟨⟨(bg_8 73 rfl rfl), mo_X11_tick.1, mo_X11_tick.2.1, mo_X11_tick.2.2, by decide, by decide⟩, mv_X11_tick.1, mv_X11_tick.2, rfl, _, _, cls_11⟩
set_option maxRecDepth 20000 in
theorem mo_L_producer : MOK mu_L_producer 2 := ⟨(bg_1 0 rfl rfl), (bg_3 133 rfl rfl), by decide⟩
set_option maxRecDepth 20000 in
theorem ms_L_producer : Cond.static mu_L_producer.1 ∈ Big := (bg_3 132 rfl rfl)
set_option maxRecDepth 20000 in
theorem co_L_law_191 : CallS mu_L_law mu_L_producer 191 2 := ⟨⟨(bg_3 131 rfl rfl), mo_L_producer.1, mo_L_producer.2.1, mo_L_producer.2.2, by decide, by decide⟩, ms_L_producer⟩
set_option maxRecDepth 20000 in
theorem mo_X11_producer : MOK mu_X11_producer 0 := ⟨(bg_1 2 rfl rfl), (bg_8 177 rfl rfl), by decide⟩
set_option maxRecDepth 20000 in
theorem mv_X11_producer : Cond.instanceMethod mu_X11_producer.1 ∈ Big ∧ Cond.selects mu_X11_producer.1.cls mu_X11_producer.1 mu_X11_producer.1 ∈ Big := ⟨(bg_8 175 rfl rfl), (bg_8 176 rfl rfl)⟩
set_option maxRecDepth 20000 in
theorem co_L_law_194 : CallV mu_L_law mu_X11_producer 194 0 11 := ⟨⟨(bg_8 174 rfl rfl), mo_X11_producer.1, mo_X11_producer.2.1, mo_X11_producer.2.2, by decide, by decide⟩, mv_X11_producer.1, mv_X11_producer.2, rfl, _, _, cls_11⟩
set_option maxRecDepth 20000 in
theorem mo_L_quota : MOK mu_L_quota 4 := ⟨(bg_1 0 rfl rfl), (bg_3 180 rfl rfl), by decide⟩
set_option maxRecDepth 20000 in
theorem ms_L_quota : Cond.static mu_L_quota.1 ∈ Big := (bg_3 179 rfl rfl)
set_option maxRecDepth 20000 in
theorem co_L_law_195 : CallS mu_L_law mu_L_quota 195 4 := ⟨⟨(bg_3 178 rfl rfl), mo_L_quota.1, mo_L_quota.2.1, mo_L_quota.2.2, by decide, by decide⟩, ms_L_quota⟩
set_option maxRecDepth 20000 in
theorem mo_X11_quota : MOK mu_X11_quota 2 := ⟨(bg_1 2 rfl rfl), (bg_8 181 rfl rfl), by decide⟩
set_option maxRecDepth 20000 in
theorem mv_X11_quota : Cond.instanceMethod mu_X11_quota.1 ∈ Big ∧ Cond.selects mu_X11_quota.1.cls mu_X11_quota.1 mu_X11_quota.1 ∈ Big := ⟨(bg_8 179 rfl rfl), (bg_8 180 rfl rfl)⟩
set_option maxRecDepth 20000 in
theorem co_L_law_198 : CallV mu_L_law mu_X11_quota 198 2 11 := ⟨⟨(bg_8 178 rfl rfl), mo_X11_quota.1, mo_X11_quota.2.1, mo_X11_quota.2.2, by decide, by decide⟩, mv_X11_quota.1, mv_X11_quota.2, rfl, _, _, cls_11⟩
set_option maxRecDepth 20000 in
theorem mo_L_send : MOK mu_L_send 6 := ⟨(bg_1 0 rfl rfl), (bg_3 192 rfl rfl), by decide⟩
set_option maxRecDepth 20000 in
theorem ms_L_send : Cond.static mu_L_send.1 ∈ Big := (bg_3 191 rfl rfl)
set_option maxRecDepth 20000 in
theorem co_L_law_199 : CallS mu_L_law mu_L_send 199 6 := ⟨⟨(bg_3 190 rfl rfl), mo_L_send.1, mo_L_send.2.1, mo_L_send.2.2, by decide, by decide⟩, ms_L_send⟩
set_option maxRecDepth 20000 in
theorem mo_X11_send : MOK mu_X11_send 4 := ⟨(bg_1 2 rfl rfl), (bg_8 190 rfl rfl), by decide⟩
set_option maxRecDepth 20000 in
theorem mv_X11_send : Cond.instanceMethod mu_X11_send.1 ∈ Big ∧ Cond.selects mu_X11_send.1.cls mu_X11_send.1 mu_X11_send.1 ∈ Big := ⟨(bg_8 188 rfl rfl), (bg_8 189 rfl rfl)⟩
set_option maxRecDepth 20000 in
theorem co_L_law_202 : CallV mu_L_law mu_X11_send 202 4 11 := ⟨⟨(bg_8 187 rfl rfl), mo_X11_send.1, mo_X11_send.2.1, mo_X11_send.2.2, by decide, by decide⟩, mv_X11_send.1, mv_X11_send.2, rfl, _, _, cls_11⟩
set_option maxRecDepth 20000 in
theorem mo_L_sendSome : MOK mu_L_sendSome 6 := ⟨(bg_1 0 rfl rfl), (bg_4 47 rfl rfl), by decide⟩
set_option maxRecDepth 20000 in
theorem ms_L_sendSome : Cond.static mu_L_sendSome.1 ∈ Big := (bg_4 46 rfl rfl)
set_option maxRecDepth 20000 in
theorem co_L_law_203 : CallS mu_L_law mu_L_sendSome 203 6 := ⟨⟨(bg_4 45 rfl rfl), mo_L_sendSome.1, mo_L_sendSome.2.1, mo_L_sendSome.2.2, by decide, by decide⟩, ms_L_sendSome⟩
set_option maxRecDepth 20000 in
theorem mo_X11_sendSome : MOK mu_X11_sendSome 4 := ⟨(bg_1 2 rfl rfl), (bg_8 211 rfl rfl), by decide⟩
set_option maxRecDepth 20000 in
theorem mv_X11_sendSome : Cond.instanceMethod mu_X11_sendSome.1 ∈ Big ∧ Cond.selects mu_X11_sendSome.1.cls mu_X11_sendSome.1 mu_X11_sendSome.1 ∈ Big := ⟨(bg_8 209 rfl rfl), (bg_8 210 rfl rfl)⟩
set_option maxRecDepth 20000 in
theorem co_L_law_205 : CallV mu_L_law mu_X11_sendSome 205 4 11 := ⟨⟨(bg_8 208 rfl rfl), mo_X11_sendSome.1, mo_X11_sendSome.2.1, mo_X11_sendSome.2.2, by decide, by decide⟩, mv_X11_sendSome.1, mv_X11_sendSome.2, rfl, _, _, cls_11⟩
set_option maxRecDepth 20000 in
theorem mo_L_sendLater : MOK mu_L_sendLater 7 := ⟨(bg_1 0 rfl rfl), (bg_4 55 rfl rfl), by decide⟩
set_option maxRecDepth 20000 in
theorem ms_L_sendLater : Cond.static mu_L_sendLater.1 ∈ Big := (bg_4 54 rfl rfl)
set_option maxRecDepth 20000 in
theorem co_L_law_206 : CallS mu_L_law mu_L_sendLater 206 7 := ⟨⟨(bg_4 53 rfl rfl), mo_L_sendLater.1, mo_L_sendLater.2.1, mo_L_sendLater.2.2, by decide, by decide⟩, ms_L_sendLater⟩
set_option maxRecDepth 20000 in
theorem mo_X11_sendLater : MOK mu_X11_sendLater 5 := ⟨(bg_1 2 rfl rfl), (bg_8 217 rfl rfl), by decide⟩
set_option maxRecDepth 20000 in
theorem mv_X11_sendLater : Cond.instanceMethod mu_X11_sendLater.1 ∈ Big ∧ Cond.selects mu_X11_sendLater.1.cls mu_X11_sendLater.1 mu_X11_sendLater.1 ∈ Big := ⟨(bg_8 215 rfl rfl), (bg_8 216 rfl rfl)⟩
set_option maxRecDepth 20000 in
theorem co_L_law_209 : CallV mu_L_law mu_X11_sendLater 209 5 11 := ⟨⟨(bg_8 214 rfl rfl), mo_X11_sendLater.1, mo_X11_sendLater.2.1, mo_X11_sendLater.2.2, by decide, by decide⟩, mv_X11_sendLater.1, mv_X11_sendLater.2, rfl, _, _, cls_11⟩
set_option maxRecDepth 20000 in
theorem mo_L_resend : MOK mu_L_resend 4 := ⟨(bg_1 0 rfl rfl), (bg_4 67 rfl rfl), by decide⟩
set_option maxRecDepth 20000 in
theorem ms_L_resend : Cond.static mu_L_resend.1 ∈ Big := (bg_4 66 rfl rfl)
set_option maxRecDepth 20000 in
theorem co_L_law_210 : CallS mu_L_law mu_L_resend 210 4 := ⟨⟨(bg_4 65 rfl rfl), mo_L_resend.1, mo_L_resend.2.1, mo_L_resend.2.2, by decide, by decide⟩, ms_L_resend⟩
set_option maxRecDepth 20000 in
theorem mo_X11_resend : MOK mu_X11_resend 2 := ⟨(bg_1 2 rfl rfl), (bg_8 222 rfl rfl), by decide⟩
set_option maxRecDepth 20000 in
theorem mv_X11_resend : Cond.instanceMethod mu_X11_resend.1 ∈ Big ∧ Cond.selects mu_X11_resend.1.cls mu_X11_resend.1 mu_X11_resend.1 ∈ Big := ⟨(bg_8 220 rfl rfl), (bg_8 221 rfl rfl)⟩
set_option maxRecDepth 20000 in
theorem co_L_law_212 : CallV mu_L_law mu_X11_resend 212 2 11 := ⟨⟨(bg_8 219 rfl rfl), mo_X11_resend.1, mo_X11_resend.2.1, mo_X11_resend.2.2, by decide, by decide⟩, mv_X11_resend.1, mv_X11_resend.2, rfl, _, _, cls_11⟩
set_option maxRecDepth 20000 in
theorem mo_L_begin : MOK mu_L_begin 3 := ⟨(bg_1 0 rfl rfl), (bg_4 75 rfl rfl), by decide⟩
set_option maxRecDepth 20000 in
theorem ms_L_begin : Cond.static mu_L_begin.1 ∈ Big := (bg_4 74 rfl rfl)
set_option maxRecDepth 20000 in
theorem co_L_law_213 : CallS mu_L_law mu_L_begin 213 3 := ⟨⟨(bg_4 73 rfl rfl), mo_L_begin.1, mo_L_begin.2.1, mo_L_begin.2.2, by decide, by decide⟩, ms_L_begin⟩
set_option maxRecDepth 20000 in
theorem mo_X11_begin : MOK mu_X11_begin 1 := ⟨(bg_1 2 rfl rfl), (bg_8 226 rfl rfl), by decide⟩
set_option maxRecDepth 20000 in
theorem mv_X11_begin : Cond.instanceMethod mu_X11_begin.1 ∈ Big ∧ Cond.selects mu_X11_begin.1.cls mu_X11_begin.1 mu_X11_begin.1 ∈ Big := ⟨(bg_8 224 rfl rfl), (bg_8 225 rfl rfl)⟩
set_option maxRecDepth 20000 in
theorem co_L_law_215 : CallV mu_L_law mu_X11_begin 215 1 11 := ⟨⟨(bg_8 223 rfl rfl), mo_X11_begin.1, mo_X11_begin.2.1, mo_X11_begin.2.2, by decide, by decide⟩, mv_X11_begin.1, mv_X11_begin.2, rfl, _, _, cls_11⟩
set_option maxRecDepth 20000 in
theorem mo_L_attach : MOK mu_L_attach 5 := ⟨(bg_1 0 rfl rfl), (bg_4 83 rfl rfl), by decide⟩
set_option maxRecDepth 20000 in
theorem ms_L_attach : Cond.static mu_L_attach.1 ∈ Big := (bg_4 82 rfl rfl)
set_option maxRecDepth 20000 in
theorem co_L_law_216 : CallS mu_L_law mu_L_attach 216 5 := ⟨⟨(bg_4 81 rfl rfl), mo_L_attach.1, mo_L_attach.2.1, mo_L_attach.2.2, by decide, by decide⟩, ms_L_attach⟩
set_option maxRecDepth 20000 in
theorem mo_X11_attach : MOK mu_X11_attach 3 := ⟨(bg_1 2 rfl rfl), (bg_8 234 rfl rfl), by decide⟩
set_option maxRecDepth 20000 in
theorem mv_X11_attach : Cond.instanceMethod mu_X11_attach.1 ∈ Big ∧ Cond.selects mu_X11_attach.1.cls mu_X11_attach.1 mu_X11_attach.1 ∈ Big := ⟨(bg_8 232 rfl rfl), (bg_8 233 rfl rfl)⟩
set_option maxRecDepth 20000 in
theorem co_L_law_218 : CallV mu_L_law mu_X11_attach 218 3 11 := ⟨⟨(bg_8 231 rfl rfl), mo_X11_attach.1, mo_X11_attach.2.1, mo_X11_attach.2.2, by decide, by decide⟩, mv_X11_attach.1, mv_X11_attach.2, rfl, _, _, cls_11⟩
set_option maxRecDepth 20000 in
theorem mo_L_commit : MOK mu_L_commit 3 := ⟨(bg_1 0 rfl rfl), (bg_4 114 rfl rfl), by decide⟩
set_option maxRecDepth 20000 in
theorem ms_L_commit : Cond.static mu_L_commit.1 ∈ Big := (bg_4 113 rfl rfl)
set_option maxRecDepth 20000 in
theorem co_L_law_219 : CallS mu_L_law mu_L_commit 219 3 := ⟨⟨(bg_4 112 rfl rfl), mo_L_commit.1, mo_L_commit.2.1, mo_L_commit.2.2, by decide, by decide⟩, ms_L_commit⟩
set_option maxRecDepth 20000 in
theorem mo_X11_commit : MOK mu_X11_commit 1 := ⟨(bg_1 2 rfl rfl), (bg_9 15 rfl rfl), by decide⟩
set_option maxRecDepth 20000 in
theorem mv_X11_commit : Cond.instanceMethod mu_X11_commit.1 ∈ Big ∧ Cond.selects mu_X11_commit.1.cls mu_X11_commit.1 mu_X11_commit.1 ∈ Big := ⟨(bg_9 13 rfl rfl), (bg_9 14 rfl rfl)⟩
set_option maxRecDepth 20000 in
theorem co_L_law_221 : CallV mu_L_law mu_X11_commit 221 1 11 := ⟨⟨(bg_9 12 rfl rfl), mo_X11_commit.1, mo_X11_commit.2.1, mo_X11_commit.2.2, by decide, by decide⟩, mv_X11_commit.1, mv_X11_commit.2, rfl, _, _, cls_11⟩
set_option maxRecDepth 20000 in
theorem mo_L_abort : MOK mu_L_abort 3 := ⟨(bg_1 0 rfl rfl), (bg_4 138 rfl rfl), by decide⟩
set_option maxRecDepth 20000 in
theorem ms_L_abort : Cond.static mu_L_abort.1 ∈ Big := (bg_4 137 rfl rfl)
set_option maxRecDepth 20000 in
theorem co_L_law_222 : CallS mu_L_law mu_L_abort 222 3 := ⟨⟨(bg_4 136 rfl rfl), mo_L_abort.1, mo_L_abort.2.1, mo_L_abort.2.2, by decide, by decide⟩, ms_L_abort⟩
set_option maxRecDepth 20000 in
theorem mo_X11_abort : MOK mu_X11_abort 1 := ⟨(bg_1 2 rfl rfl), (bg_9 35 rfl rfl), by decide⟩
set_option maxRecDepth 20000 in
theorem mv_X11_abort : Cond.instanceMethod mu_X11_abort.1 ∈ Big ∧ Cond.selects mu_X11_abort.1.cls mu_X11_abort.1 mu_X11_abort.1 ∈ Big := ⟨(bg_9 33 rfl rfl), (bg_9 34 rfl rfl)⟩
set_option maxRecDepth 20000 in
theorem co_L_law_224 : CallV mu_L_law mu_X11_abort 224 1 11 := ⟨⟨(bg_9 32 rfl rfl), mo_X11_abort.1, mo_X11_abort.2.1, mo_X11_abort.2.2, by decide, by decide⟩, mv_X11_abort.1, mv_X11_abort.2, rfl, _, _, cls_11⟩
set_option maxRecDepth 20000 in
theorem mo_L_group : MOK mu_L_group 3 := ⟨(bg_1 0 rfl rfl), (bg_4 146 rfl rfl), by decide⟩
set_option maxRecDepth 20000 in
theorem ms_L_group : Cond.static mu_L_group.1 ∈ Big := (bg_4 145 rfl rfl)
set_option maxRecDepth 20000 in
theorem co_L_law_225 : CallS mu_L_law mu_L_group 225 3 := ⟨⟨(bg_4 144 rfl rfl), mo_L_group.1, mo_L_group.2.1, mo_L_group.2.2, by decide, by decide⟩, ms_L_group⟩
set_option maxRecDepth 20000 in
theorem mo_X11_group : MOK mu_X11_group 1 := ⟨(bg_1 2 rfl rfl), (bg_9 126 rfl rfl), by decide⟩
set_option maxRecDepth 20000 in
theorem mv_X11_group : Cond.instanceMethod mu_X11_group.1 ∈ Big ∧ Cond.selects mu_X11_group.1.cls mu_X11_group.1 mu_X11_group.1 ∈ Big := ⟨(bg_9 124 rfl rfl), (bg_9 125 rfl rfl)⟩
set_option maxRecDepth 20000 in
theorem co_L_law_227 : CallV mu_L_law mu_X11_group 227 1 11 := ⟨⟨(bg_9 123 rfl rfl), mo_X11_group.1, mo_X11_group.2.1, mo_X11_group.2.2, by decide, by decide⟩, mv_X11_group.1, mv_X11_group.2, rfl, _, _, cls_11⟩
set_option maxRecDepth 20000 in
theorem mo_L_join : MOK mu_L_join 3 := ⟨(bg_1 0 rfl rfl), (bg_5 25 rfl rfl), by decide⟩
set_option maxRecDepth 20000 in
theorem ms_L_join : Cond.static mu_L_join.1 ∈ Big := (bg_5 24 rfl rfl)
set_option maxRecDepth 20000 in
theorem co_L_law_228 : CallS mu_L_law mu_L_join 228 3 := ⟨⟨(bg_5 23 rfl rfl), mo_L_join.1, mo_L_join.2.1, mo_L_join.2.2, by decide, by decide⟩, ms_L_join⟩
set_option maxRecDepth 20000 in
theorem mo_X11_join : MOK mu_X11_join 1 := ⟨(bg_1 2 rfl rfl), (bg_9 130 rfl rfl), by decide⟩
set_option maxRecDepth 20000 in
theorem mv_X11_join : Cond.instanceMethod mu_X11_join.1 ∈ Big ∧ Cond.selects mu_X11_join.1.cls mu_X11_join.1 mu_X11_join.1 ∈ Big := ⟨(bg_9 128 rfl rfl), (bg_9 129 rfl rfl)⟩
set_option maxRecDepth 20000 in
theorem co_L_law_230 : CallV mu_L_law mu_X11_join 230 1 11 := ⟨⟨(bg_9 127 rfl rfl), mo_X11_join.1, mo_X11_join.2.1, mo_X11_join.2.2, by decide, by decide⟩, mv_X11_join.1, mv_X11_join.2, rfl, _, _, cls_11⟩
set_option maxRecDepth 20000 in
theorem mo_L_leave : MOK mu_L_leave 4 := ⟨(bg_1 0 rfl rfl), (bg_5 78 rfl rfl), by decide⟩
set_option maxRecDepth 20000 in
theorem ms_L_leave : Cond.static mu_L_leave.1 ∈ Big := (bg_5 77 rfl rfl)
set_option maxRecDepth 20000 in
theorem co_L_law_231 : CallS mu_L_law mu_L_leave 231 4 := ⟨⟨(bg_5 76 rfl rfl), mo_L_leave.1, mo_L_leave.2.1, mo_L_leave.2.2, by decide, by decide⟩, ms_L_leave⟩
set_option maxRecDepth 20000 in
theorem mo_X11_leave : MOK mu_X11_leave 2 := ⟨(bg_1 2 rfl rfl), (bg_9 134 rfl rfl), by decide⟩
set_option maxRecDepth 20000 in
theorem mv_X11_leave : Cond.instanceMethod mu_X11_leave.1 ∈ Big ∧ Cond.selects mu_X11_leave.1.cls mu_X11_leave.1 mu_X11_leave.1 ∈ Big := ⟨(bg_9 132 rfl rfl), (bg_9 133 rfl rfl)⟩
set_option maxRecDepth 20000 in
theorem co_L_law_233 : CallV mu_L_law mu_X11_leave 233 2 11 := ⟨⟨(bg_9 131 rfl rfl), mo_X11_leave.1, mo_X11_leave.2.1, mo_X11_leave.2.2, by decide, by decide⟩, mv_X11_leave.1, mv_X11_leave.2, rfl, _, _, cls_11⟩
set_option maxRecDepth 20000 in
theorem mo_L_beat : MOK mu_L_beat 4 := ⟨(bg_1 0 rfl rfl), (bg_5 86 rfl rfl), by decide⟩
set_option maxRecDepth 20000 in
theorem ms_L_beat : Cond.static mu_L_beat.1 ∈ Big := (bg_5 85 rfl rfl)
set_option maxRecDepth 20000 in
theorem co_L_law_234 : CallS mu_L_law mu_L_beat 234 4 := ⟨⟨(bg_5 84 rfl rfl), mo_L_beat.1, mo_L_beat.2.1, mo_L_beat.2.2, by decide, by decide⟩, ms_L_beat⟩
set_option maxRecDepth 20000 in
theorem mo_X11_beat : MOK mu_X11_beat 2 := ⟨(bg_1 2 rfl rfl), (bg_9 138 rfl rfl), by decide⟩
set_option maxRecDepth 20000 in
theorem mv_X11_beat : Cond.instanceMethod mu_X11_beat.1 ∈ Big ∧ Cond.selects mu_X11_beat.1.cls mu_X11_beat.1 mu_X11_beat.1 ∈ Big := ⟨(bg_9 136 rfl rfl), (bg_9 137 rfl rfl)⟩
set_option maxRecDepth 20000 in
theorem co_L_law_236 : CallV mu_L_law mu_X11_beat 236 2 11 := ⟨⟨(bg_9 135 rfl rfl), mo_X11_beat.1, mo_X11_beat.2.1, mo_X11_beat.2.2, by decide, by decide⟩, mv_X11_beat.1, mv_X11_beat.2, rfl, _, _, cls_11⟩
set_option maxRecDepth 20000 in
theorem mo_L_credits : MOK mu_L_credits 5 := ⟨(bg_1 0 rfl rfl), (bg_5 104 rfl rfl), by decide⟩
set_option maxRecDepth 20000 in
theorem ms_L_credits : Cond.static mu_L_credits.1 ∈ Big := (bg_5 103 rfl rfl)
set_option maxRecDepth 20000 in
theorem co_L_law_237 : CallS mu_L_law mu_L_credits 237 5 := ⟨⟨(bg_5 102 rfl rfl), mo_L_credits.1, mo_L_credits.2.1, mo_L_credits.2.2, by decide, by decide⟩, ms_L_credits⟩
set_option maxRecDepth 20000 in
theorem mo_X11_credits : MOK mu_X11_credits 3 := ⟨(bg_1 2 rfl rfl), (bg_9 146 rfl rfl), by decide⟩
set_option maxRecDepth 20000 in
theorem mv_X11_credits : Cond.instanceMethod mu_X11_credits.1 ∈ Big ∧ Cond.selects mu_X11_credits.1.cls mu_X11_credits.1 mu_X11_credits.1 ∈ Big := ⟨(bg_9 144 rfl rfl), (bg_9 145 rfl rfl)⟩
set_option maxRecDepth 20000 in
theorem co_L_law_239 : CallV mu_L_law mu_X11_credits 239 3 11 := ⟨⟨(bg_9 143 rfl rfl), mo_X11_credits.1, mo_X11_credits.2.1, mo_X11_credits.2.2, by decide, by decide⟩, mv_X11_credits.1, mv_X11_credits.2, rfl, _, _, cls_11⟩
set_option maxRecDepth 20000 in
theorem mo_L_read : MOK mu_L_read 4 := ⟨(bg_1 0 rfl rfl), (bg_5 112 rfl rfl), by decide⟩
set_option maxRecDepth 20000 in
theorem ms_L_read : Cond.static mu_L_read.1 ∈ Big := (bg_5 111 rfl rfl)
set_option maxRecDepth 20000 in
theorem co_L_law_240 : CallS mu_L_law mu_L_read 240 4 := ⟨⟨(bg_5 110 rfl rfl), mo_L_read.1, mo_L_read.2.1, mo_L_read.2.2, by decide, by decide⟩, ms_L_read⟩
set_option maxRecDepth 20000 in
theorem mo_X11_read : MOK mu_X11_read 2 := ⟨(bg_1 2 rfl rfl), (bg_9 150 rfl rfl), by decide⟩
set_option maxRecDepth 20000 in
theorem mv_X11_read : Cond.instanceMethod mu_X11_read.1 ∈ Big ∧ Cond.selects mu_X11_read.1.cls mu_X11_read.1 mu_X11_read.1 ∈ Big := ⟨(bg_9 148 rfl rfl), (bg_9 149 rfl rfl)⟩
set_option maxRecDepth 20000 in
theorem co_L_law_242 : CallV mu_L_law mu_X11_read 242 2 11 := ⟨⟨(bg_9 147 rfl rfl), mo_X11_read.1, mo_X11_read.2.1, mo_X11_read.2.2, by decide, by decide⟩, mv_X11_read.1, mv_X11_read.2, rfl, _, _, cls_11⟩
set_option maxRecDepth 20000 in
theorem mo_L_done : MOK mu_L_done 5 := ⟨(bg_1 0 rfl rfl), (bg_5 195 rfl rfl), by decide⟩
set_option maxRecDepth 20000 in
theorem ms_L_done : Cond.static mu_L_done.1 ∈ Big := (bg_5 194 rfl rfl)
set_option maxRecDepth 20000 in
theorem co_L_law_243 : CallS mu_L_law mu_L_done 243 5 := ⟨⟨(bg_5 193 rfl rfl), mo_L_done.1, mo_L_done.2.1, mo_L_done.2.2, by decide, by decide⟩, ms_L_done⟩
set_option maxRecDepth 20000 in
theorem mo_X11_done : MOK mu_X11_done 3 := ⟨(bg_1 2 rfl rfl), (bg_9 182 rfl rfl), by decide⟩
set_option maxRecDepth 20000 in
theorem mv_X11_done : Cond.instanceMethod mu_X11_done.1 ∈ Big ∧ Cond.selects mu_X11_done.1.cls mu_X11_done.1 mu_X11_done.1 ∈ Big := ⟨(bg_9 180 rfl rfl), (bg_9 181 rfl rfl)⟩
set_option maxRecDepth 20000 in
theorem co_L_law_245 : CallV mu_L_law mu_X11_done 245 3 11 := ⟨⟨(bg_9 179 rfl rfl), mo_X11_done.1, mo_X11_done.2.1, mo_X11_done.2.2, by decide, by decide⟩, mv_X11_done.1, mv_X11_done.2, rfl, _, _, cls_11⟩
set_option maxRecDepth 20000 in
theorem mo_L_retry : MOK mu_L_retry 5 := ⟨(bg_1 0 rfl rfl), (bg_5 211 rfl rfl), by decide⟩
set_option maxRecDepth 20000 in
theorem ms_L_retry : Cond.static mu_L_retry.1 ∈ Big := (bg_5 210 rfl rfl)
set_option maxRecDepth 20000 in
theorem co_L_law_246 : CallS mu_L_law mu_L_retry 246 5 := ⟨⟨(bg_5 209 rfl rfl), mo_L_retry.1, mo_L_retry.2.1, mo_L_retry.2.2, by decide, by decide⟩, ms_L_retry⟩
set_option maxRecDepth 20000 in
theorem mo_X11_retry : MOK mu_X11_retry 3 := ⟨(bg_1 2 rfl rfl), (bg_9 186 rfl rfl), by decide⟩
set_option maxRecDepth 20000 in
theorem mv_X11_retry : Cond.instanceMethod mu_X11_retry.1 ∈ Big ∧ Cond.selects mu_X11_retry.1.cls mu_X11_retry.1 mu_X11_retry.1 ∈ Big := ⟨(bg_9 184 rfl rfl), (bg_9 185 rfl rfl)⟩
set_option maxRecDepth 20000 in
theorem co_L_law_248 : CallV mu_L_law mu_X11_retry 248 3 11 := ⟨⟨(bg_9 183 rfl rfl), mo_X11_retry.1, mo_X11_retry.2.1, mo_X11_retry.2.2, by decide, by decide⟩, mv_X11_retry.1, mv_X11_retry.2, rfl, _, _, cls_11⟩
set_option maxRecDepth 20000 in
theorem mo_L_commitOffsets : MOK mu_L_commitOffsets 4 := ⟨(bg_1 0 rfl rfl), (bg_5 227 rfl rfl), by decide⟩
set_option maxRecDepth 20000 in
theorem ms_L_commitOffsets : Cond.static mu_L_commitOffsets.1 ∈ Big := (bg_5 226 rfl rfl)
set_option maxRecDepth 20000 in
theorem co_L_law_249 : CallS mu_L_law mu_L_commitOffsets 249 4 := ⟨⟨(bg_5 225 rfl rfl), mo_L_commitOffsets.1, mo_L_commitOffsets.2.1, mo_L_commitOffsets.2.2, by decide, by decide⟩, ms_L_commitOffsets⟩
set_option maxRecDepth 20000 in
theorem mo_X11_commitOffsets : MOK mu_X11_commitOffsets 2 := ⟨(bg_1 2 rfl rfl), (bg_9 190 rfl rfl), by decide⟩
set_option maxRecDepth 20000 in
theorem mv_X11_commitOffsets : Cond.instanceMethod mu_X11_commitOffsets.1 ∈ Big ∧ Cond.selects mu_X11_commitOffsets.1.cls mu_X11_commitOffsets.1 mu_X11_commitOffsets.1 ∈ Big := ⟨(bg_9 188 rfl rfl), (bg_9 189 rfl rfl)⟩
set_option maxRecDepth 20000 in
theorem co_L_law_251 : CallV mu_L_law mu_X11_commitOffsets 251 2 11 := ⟨⟨(bg_9 187 rfl rfl), mo_X11_commitOffsets.1, mo_X11_commitOffsets.2.1, mo_X11_commitOffsets.2.2, by decide, by decide⟩, mv_X11_commitOffsets.1, mv_X11_commitOffsets.2, rfl, _, _, cls_11⟩
set_option maxRecDepth 20000 in
theorem mo_L_seek : MOK mu_L_seek 5 := ⟨(bg_1 0 rfl rfl), (bg_5 239 rfl rfl), by decide⟩
set_option maxRecDepth 20000 in
theorem ms_L_seek : Cond.static mu_L_seek.1 ∈ Big := (bg_5 238 rfl rfl)
set_option maxRecDepth 20000 in
theorem co_L_law_252 : CallS mu_L_law mu_L_seek 252 5 := ⟨⟨(bg_5 237 rfl rfl), mo_L_seek.1, mo_L_seek.2.1, mo_L_seek.2.2, by decide, by decide⟩, ms_L_seek⟩
set_option maxRecDepth 20000 in
theorem mo_X11_seek : MOK mu_X11_seek 3 := ⟨(bg_1 2 rfl rfl), (bg_9 194 rfl rfl), by decide⟩
set_option maxRecDepth 20000 in
theorem mv_X11_seek : Cond.instanceMethod mu_X11_seek.1 ∈ Big ∧ Cond.selects mu_X11_seek.1.cls mu_X11_seek.1 mu_X11_seek.1 ∈ Big := ⟨(bg_9 192 rfl rfl), (bg_9 193 rfl rfl)⟩
set_option maxRecDepth 20000 in
theorem co_L_law_254 : CallV mu_L_law mu_X11_seek 254 3 11 := ⟨⟨(bg_9 191 rfl rfl), mo_X11_seek.1, mo_X11_seek.2.1, mo_X11_seek.2.2, by decide, by decide⟩, mv_X11_seek.1, mv_X11_seek.2, rfl, _, _, cls_11⟩
set_option maxRecDepth 20000 in
theorem mo_L_message : MOK mu_L_message 4 := ⟨(bg_1 0 rfl rfl), (bg_6 16 rfl rfl), by decide⟩
set_option maxRecDepth 20000 in
theorem ms_L_message : Cond.static mu_L_message.1 ∈ Big := (bg_6 15 rfl rfl)
set_option maxRecDepth 20000 in
theorem co_L_law_255 : CallS mu_L_law mu_L_message 255 4 := ⟨⟨(bg_6 14 rfl rfl), mo_L_message.1, mo_L_message.2.1, mo_L_message.2.2, by decide, by decide⟩, ms_L_message⟩
set_option maxRecDepth 20000 in
theorem mo_X11_message : MOK mu_X11_message 2 := ⟨(bg_1 2 rfl rfl), (bg_9 39 rfl rfl), by decide⟩
set_option maxRecDepth 20000 in
theorem mv_X11_message : Cond.instanceMethod mu_X11_message.1 ∈ Big ∧ Cond.selects mu_X11_message.1.cls mu_X11_message.1 mu_X11_message.1 ∈ Big := ⟨(bg_9 37 rfl rfl), (bg_9 38 rfl rfl)⟩
set_option maxRecDepth 20000 in
theorem co_L_law_257 : CallV mu_L_law mu_X11_message 257 2 11 := ⟨⟨(bg_9 36 rfl rfl), mo_X11_message.1, mo_X11_message.2.1, mo_X11_message.2.2, by decide, by decide⟩, mv_X11_message.1, mv_X11_message.2, rfl, _, _, cls_11⟩
set_option maxRecDepth 20000 in
theorem mo_L_at : MOK mu_L_at 4 := ⟨(bg_1 0 rfl rfl), (bg_6 28 rfl rfl), by decide⟩
set_option maxRecDepth 20000 in
theorem ms_L_at : Cond.static mu_L_at.1 ∈ Big := (bg_6 27 rfl rfl)
set_option maxRecDepth 20000 in
theorem co_L_law_258 : CallS mu_L_law mu_L_at 258 4 := ⟨⟨(bg_6 26 rfl rfl), mo_L_at.1, mo_L_at.2.1, mo_L_at.2.2, by decide, by decide⟩, ms_L_at⟩
set_option maxRecDepth 20000 in
theorem mo_X11_at : MOK mu_X11_at 2 := ⟨(bg_1 2 rfl rfl), (bg_9 52 rfl rfl), by decide⟩
set_option maxRecDepth 20000 in
theorem mv_X11_at : Cond.instanceMethod mu_X11_at.1 ∈ Big ∧ Cond.selects mu_X11_at.1.cls mu_X11_at.1 mu_X11_at.1 ∈ Big := ⟨(bg_9 50 rfl rfl), (bg_9 51 rfl rfl)⟩
set_option maxRecDepth 20000 in
theorem co_L_law_260 : CallV mu_L_law mu_X11_at 260 2 11 := ⟨⟨(bg_9 49 rfl rfl), mo_X11_at.1, mo_X11_at.2.1, mo_X11_at.2.2, by decide, by decide⟩, mv_X11_at.1, mv_X11_at.2, rfl, _, _, cls_11⟩
set_option maxRecDepth 20000 in
theorem mo_L_partition : MOK mu_L_partition 4 := ⟨(bg_1 0 rfl rfl), (bg_6 36 rfl rfl), by decide⟩
set_option maxRecDepth 20000 in
theorem ms_L_partition : Cond.static mu_L_partition.1 ∈ Big := (bg_6 35 rfl rfl)
set_option maxRecDepth 20000 in
theorem co_L_law_261 : CallS mu_L_law mu_L_partition 261 4 := ⟨⟨(bg_6 34 rfl rfl), mo_L_partition.1, mo_L_partition.2.1, mo_L_partition.2.2, by decide, by decide⟩, ms_L_partition⟩
set_option maxRecDepth 20000 in
theorem mo_X11_partition : MOK mu_X11_partition 2 := ⟨(bg_1 2 rfl rfl), (bg_9 56 rfl rfl), by decide⟩
set_option maxRecDepth 20000 in
theorem mv_X11_partition : Cond.instanceMethod mu_X11_partition.1 ∈ Big ∧ Cond.selects mu_X11_partition.1.cls mu_X11_partition.1 mu_X11_partition.1 ∈ Big := ⟨(bg_9 54 rfl rfl), (bg_9 55 rfl rfl)⟩
set_option maxRecDepth 20000 in
theorem co_L_law_263 : CallV mu_L_law mu_X11_partition 263 2 11 := ⟨⟨(bg_9 53 rfl rfl), mo_X11_partition.1, mo_X11_partition.2.1, mo_X11_partition.2.2, by decide, by decide⟩, mv_X11_partition.1, mv_X11_partition.2, rfl, _, _, cls_11⟩
set_option maxRecDepth 20000 in
theorem mo_L_replica : MOK mu_L_replica 5 := ⟨(bg_1 0 rfl rfl), (bg_6 43 rfl rfl), by decide⟩
set_option maxRecDepth 20000 in
theorem ms_L_replica : Cond.static mu_L_replica.1 ∈ Big := (bg_6 42 rfl rfl)
set_option maxRecDepth 20000 in
theorem co_L_law_264 : CallS mu_L_law mu_L_replica 264 5 := ⟨⟨(bg_6 41 rfl rfl), mo_L_replica.1, mo_L_replica.2.1, mo_L_replica.2.2, by decide, by decide⟩, ms_L_replica⟩
set_option maxRecDepth 20000 in
theorem mo_X11_replica : MOK mu_X11_replica 3 := ⟨(bg_1 2 rfl rfl), (bg_9 65 rfl rfl), by decide⟩
set_option maxRecDepth 20000 in
theorem mv_X11_replica : Cond.instanceMethod mu_X11_replica.1 ∈ Big ∧ Cond.selects mu_X11_replica.1.cls mu_X11_replica.1 mu_X11_replica.1 ∈ Big := ⟨(bg_9 63 rfl rfl), (bg_9 64 rfl rfl)⟩
set_option maxRecDepth 20000 in
theorem co_L_law_266 : CallV mu_L_law mu_X11_replica 266 3 11 := ⟨⟨(bg_9 62 rfl rfl), mo_X11_replica.1, mo_X11_replica.2.1, mo_X11_replica.2.2, by decide, by decide⟩, mv_X11_replica.1, mv_X11_replica.2, rfl, _, _, cls_11⟩
set_option maxRecDepth 20000 in
theorem mo_L_offsetAt : MOK mu_L_offsetAt 4 := ⟨(bg_1 0 rfl rfl), (bg_6 54 rfl rfl), by decide⟩
set_option maxRecDepth 20000 in
theorem ms_L_offsetAt : Cond.static mu_L_offsetAt.1 ∈ Big := (bg_6 53 rfl rfl)
set_option maxRecDepth 20000 in
theorem co_L_law_267 : CallS mu_L_law mu_L_offsetAt 267 4 := ⟨⟨(bg_6 52 rfl rfl), mo_L_offsetAt.1, mo_L_offsetAt.2.1, mo_L_offsetAt.2.2, by decide, by decide⟩, ms_L_offsetAt⟩
set_option maxRecDepth 20000 in
theorem mo_X11_offsetAt : MOK mu_X11_offsetAt 2 := ⟨(bg_1 2 rfl rfl), (bg_9 69 rfl rfl), by decide⟩
set_option maxRecDepth 20000 in
theorem mv_X11_offsetAt : Cond.instanceMethod mu_X11_offsetAt.1 ∈ Big ∧ Cond.selects mu_X11_offsetAt.1.cls mu_X11_offsetAt.1 mu_X11_offsetAt.1 ∈ Big := ⟨(bg_9 67 rfl rfl), (bg_9 68 rfl rfl)⟩
set_option maxRecDepth 20000 in
theorem co_L_law_269 : CallV mu_L_law mu_X11_offsetAt 269 2 11 := ⟨⟨(bg_9 66 rfl rfl), mo_X11_offsetAt.1, mo_X11_offsetAt.2.1, mo_X11_offsetAt.2.2, by decide, by decide⟩, mv_X11_offsetAt.1, mv_X11_offsetAt.2, rfl, _, _, cls_11⟩
set_option maxRecDepth 20000 in
theorem mo_L_value : MOK mu_L_value 4 := ⟨(bg_1 0 rfl rfl), (bg_6 61 rfl rfl), by decide⟩
set_option maxRecDepth 20000 in
theorem ms_L_value : Cond.static mu_L_value.1 ∈ Big := (bg_6 60 rfl rfl)
set_option maxRecDepth 20000 in
theorem co_L_law_270 : CallS mu_L_law mu_L_value 270 4 := ⟨⟨(bg_6 59 rfl rfl), mo_L_value.1, mo_L_value.2.1, mo_L_value.2.2, by decide, by decide⟩, ms_L_value⟩
set_option maxRecDepth 20000 in
theorem mo_X11_value : MOK mu_X11_value 2 := ⟨(bg_1 2 rfl rfl), (bg_9 73 rfl rfl), by decide⟩
set_option maxRecDepth 20000 in
theorem mv_X11_value : Cond.instanceMethod mu_X11_value.1 ∈ Big ∧ Cond.selects mu_X11_value.1.cls mu_X11_value.1 mu_X11_value.1 ∈ Big := ⟨(bg_9 71 rfl rfl), (bg_9 72 rfl rfl)⟩
set_option maxRecDepth 20000 in
theorem co_L_law_272 : CallV mu_L_law mu_X11_value 272 2 11 := ⟨⟨(bg_9 70 rfl rfl), mo_X11_value.1, mo_X11_value.2.1, mo_X11_value.2.2, by decide, by decide⟩, mv_X11_value.1, mv_X11_value.2, rfl, _, _, cls_11⟩
set_option maxRecDepth 20000 in
theorem mo_L_sum : MOK mu_L_sum 6 := ⟨(bg_1 0 rfl rfl), (bg_6 68 rfl rfl), by decide⟩
set_option maxRecDepth 20000 in
theorem ms_L_sum : Cond.static mu_L_sum.1 ∈ Big := (bg_6 67 rfl rfl)
set_option maxRecDepth 20000 in
theorem co_L_law_273 : CallS mu_L_law mu_L_sum 273 6 := ⟨⟨(bg_6 66 rfl rfl), mo_L_sum.1, mo_L_sum.2.1, mo_L_sum.2.2, by decide, by decide⟩, ms_L_sum⟩
set_option maxRecDepth 20000 in
theorem mo_X11_sum : MOK mu_X11_sum 4 := ⟨(bg_1 2 rfl rfl), (bg_9 77 rfl rfl), by decide⟩
set_option maxRecDepth 20000 in
theorem mv_X11_sum : Cond.instanceMethod mu_X11_sum.1 ∈ Big ∧ Cond.selects mu_X11_sum.1.cls mu_X11_sum.1 mu_X11_sum.1 ∈ Big := ⟨(bg_9 75 rfl rfl), (bg_9 76 rfl rfl)⟩
set_option maxRecDepth 20000 in
theorem co_L_law_275 : CallV mu_L_law mu_X11_sum 275 4 11 := ⟨⟨(bg_9 74 rfl rfl), mo_X11_sum.1, mo_X11_sum.2.1, mo_X11_sum.2.2, by decide, by decide⟩, mv_X11_sum.1, mv_X11_sum.2, rfl, _, _, cls_11⟩
set_option maxRecDepth 20000 in
theorem mo_L_share : MOK mu_L_share 5 := ⟨(bg_1 0 rfl rfl), (bg_6 76 rfl rfl), by decide⟩
set_option maxRecDepth 20000 in
theorem ms_L_share : Cond.static mu_L_share.1 ∈ Big := (bg_6 75 rfl rfl)
set_option maxRecDepth 20000 in
theorem co_L_law_276 : CallS mu_L_law mu_L_share 276 5 := ⟨⟨(bg_6 74 rfl rfl), mo_L_share.1, mo_L_share.2.1, mo_L_share.2.2, by decide, by decide⟩, ms_L_share⟩
set_option maxRecDepth 20000 in
theorem mo_X11_share : MOK mu_X11_share 3 := ⟨(bg_1 2 rfl rfl), (bg_9 202 rfl rfl), by decide⟩
set_option maxRecDepth 20000 in
theorem mv_X11_share : Cond.instanceMethod mu_X11_share.1 ∈ Big ∧ Cond.selects mu_X11_share.1.cls mu_X11_share.1 mu_X11_share.1 ∈ Big := ⟨(bg_9 200 rfl rfl), (bg_9 201 rfl rfl)⟩
set_option maxRecDepth 20000 in
theorem co_L_law_278 : CallV mu_L_law mu_X11_share 278 3 11 := ⟨⟨(bg_9 199 rfl rfl), mo_X11_share.1, mo_X11_share.2.1, mo_X11_share.2.2, by decide, by decide⟩, mv_X11_share.1, mv_X11_share.2, rfl, _, _, cls_11⟩
set_option maxRecDepth 20000 in
theorem mo_L_member : MOK mu_L_member 5 := ⟨(bg_1 0 rfl rfl), (bg_6 83 rfl rfl), by decide⟩
set_option maxRecDepth 20000 in
theorem ms_L_member : Cond.static mu_L_member.1 ∈ Big := (bg_6 82 rfl rfl)
set_option maxRecDepth 20000 in
theorem co_L_law_279 : CallS mu_L_law mu_L_member 279 5 := ⟨⟨(bg_6 81 rfl rfl), mo_L_member.1, mo_L_member.2.1, mo_L_member.2.2, by decide, by decide⟩, ms_L_member⟩
set_option maxRecDepth 20000 in
theorem mo_X11_member : MOK mu_X11_member 3 := ⟨(bg_1 2 rfl rfl), (bg_9 206 rfl rfl), by decide⟩
set_option maxRecDepth 20000 in
theorem mv_X11_member : Cond.instanceMethod mu_X11_member.1 ∈ Big ∧ Cond.selects mu_X11_member.1.cls mu_X11_member.1 mu_X11_member.1 ∈ Big := ⟨(bg_9 204 rfl rfl), (bg_9 205 rfl rfl)⟩
set_option maxRecDepth 20000 in
theorem co_L_law_281 : CallV mu_L_law mu_X11_member 281 3 11 := ⟨⟨(bg_9 203 rfl rfl), mo_X11_member.1, mo_X11_member.2.1, mo_X11_member.2.2, by decide, by decide⟩, mv_X11_member.1, mv_X11_member.2, rfl, _, _, cls_11⟩
set_option maxRecDepth 20000 in
theorem mo_L_hand : MOK mu_L_hand 6 := ⟨(bg_1 0 rfl rfl), (bg_6 91 rfl rfl), by decide⟩
set_option maxRecDepth 20000 in
theorem ms_L_hand : Cond.static mu_L_hand.1 ∈ Big := (bg_6 90 rfl rfl)
set_option maxRecDepth 20000 in
theorem co_L_law_282 : CallS mu_L_law mu_L_hand 282 6 := ⟨⟨(bg_6 89 rfl rfl), mo_L_hand.1, mo_L_hand.2.1, mo_L_hand.2.2, by decide, by decide⟩, ms_L_hand⟩
set_option maxRecDepth 20000 in
theorem mo_X11_hand : MOK mu_X11_hand 4 := ⟨(bg_1 2 rfl rfl), (bg_9 211 rfl rfl), by decide⟩
set_option maxRecDepth 20000 in
theorem mv_X11_hand : Cond.instanceMethod mu_X11_hand.1 ∈ Big ∧ Cond.selects mu_X11_hand.1.cls mu_X11_hand.1 mu_X11_hand.1 ∈ Big := ⟨(bg_9 209 rfl rfl), (bg_9 210 rfl rfl)⟩
set_option maxRecDepth 20000 in
theorem co_L_law_284 : CallV mu_L_law mu_X11_hand 284 4 11 := ⟨⟨(bg_9 208 rfl rfl), mo_X11_hand.1, mo_X11_hand.2.1, mo_X11_hand.2.2, by decide, by decide⟩, mv_X11_hand.1, mv_X11_hand.2, rfl, _, _, cls_11⟩
set_option maxRecDepth 20000 in
theorem mo_L_waits : MOK mu_L_waits 5 := ⟨(bg_1 0 rfl rfl), (bg_6 103 rfl rfl), by decide⟩
set_option maxRecDepth 20000 in
theorem ms_L_waits : Cond.static mu_L_waits.1 ∈ Big := (bg_6 102 rfl rfl)
set_option maxRecDepth 20000 in
theorem co_L_law_285 : CallS mu_L_law mu_L_waits 285 5 := ⟨⟨(bg_6 101 rfl rfl), mo_L_waits.1, mo_L_waits.2.1, mo_L_waits.2.2, by decide, by decide⟩, ms_L_waits⟩
set_option maxRecDepth 20000 in
theorem mo_X11_waits : MOK mu_X11_waits 3 := ⟨(bg_1 2 rfl rfl), (bg_9 215 rfl rfl), by decide⟩
set_option maxRecDepth 20000 in
theorem mv_X11_waits : Cond.instanceMethod mu_X11_waits.1 ∈ Big ∧ Cond.selects mu_X11_waits.1.cls mu_X11_waits.1 mu_X11_waits.1 ∈ Big := ⟨(bg_9 213 rfl rfl), (bg_9 214 rfl rfl)⟩
set_option maxRecDepth 20000 in
theorem co_L_law_287 : CallV mu_L_law mu_X11_waits 287 3 11 := ⟨⟨(bg_9 212 rfl rfl), mo_X11_waits.1, mo_X11_waits.2.1, mo_X11_waits.2.2, by decide, by decide⟩, mv_X11_waits.1, mv_X11_waits.2, rfl, _, _, cls_11⟩
set_option maxRecDepth 20000 in
theorem mo_L_dead : MOK mu_L_dead 4 := ⟨(bg_1 0 rfl rfl), (bg_6 110 rfl rfl), by decide⟩
set_option maxRecDepth 20000 in
theorem ms_L_dead : Cond.static mu_L_dead.1 ∈ Big := (bg_6 109 rfl rfl)
set_option maxRecDepth 20000 in
theorem co_L_law_288 : CallS mu_L_law mu_L_dead 288 4 := ⟨⟨(bg_6 108 rfl rfl), mo_L_dead.1, mo_L_dead.2.1, mo_L_dead.2.2, by decide, by decide⟩, ms_L_dead⟩
set_option maxRecDepth 20000 in
theorem mo_X11_dead : MOK mu_X11_dead 2 := ⟨(bg_1 2 rfl rfl), (bg_9 223 rfl rfl), by decide⟩
set_option maxRecDepth 20000 in
theorem mv_X11_dead : Cond.instanceMethod mu_X11_dead.1 ∈ Big ∧ Cond.selects mu_X11_dead.1.cls mu_X11_dead.1 mu_X11_dead.1 ∈ Big := ⟨(bg_9 221 rfl rfl), (bg_9 222 rfl rfl)⟩
set_option maxRecDepth 20000 in
theorem co_L_law_290 : CallV mu_L_law mu_X11_dead 290 2 11 := ⟨⟨(bg_9 220 rfl rfl), mo_X11_dead.1, mo_X11_dead.2.1, mo_X11_dead.2.2, by decide, by decide⟩, mv_X11_dead.1, mv_X11_dead.2, rfl, _, _, cls_11⟩
set_option maxRecDepth 20000 in
theorem mo_L_seen : MOK mu_L_seen 4 := ⟨(bg_1 0 rfl rfl), (bg_6 117 rfl rfl), by decide⟩
set_option maxRecDepth 20000 in
theorem ms_L_seen : Cond.static mu_L_seen.1 ∈ Big := (bg_6 116 rfl rfl)
set_option maxRecDepth 20000 in
theorem co_L_law_291 : CallS mu_L_law mu_L_seen 291 4 := ⟨⟨(bg_6 115 rfl rfl), mo_L_seen.1, mo_L_seen.2.1, mo_L_seen.2.2, by decide, by decide⟩, ms_L_seen⟩
set_option maxRecDepth 20000 in
theorem mo_X11_seen : MOK mu_X11_seen 2 := ⟨(bg_1 2 rfl rfl), (bg_9 227 rfl rfl), by decide⟩
set_option maxRecDepth 20000 in
theorem mv_X11_seen : Cond.instanceMethod mu_X11_seen.1 ∈ Big ∧ Cond.selects mu_X11_seen.1.cls mu_X11_seen.1 mu_X11_seen.1 ∈ Big := ⟨(bg_9 225 rfl rfl), (bg_9 226 rfl rfl)⟩
set_option maxRecDepth 20000 in
theorem co_L_law_293 : CallV mu_L_law mu_X11_seen 293 2 11 := ⟨⟨(bg_9 224 rfl rfl), mo_X11_seen.1, mo_X11_seen.2.1, mo_X11_seen.2.2, by decide, by decide⟩, mv_X11_seen.1, mv_X11_seen.2, rfl, _, _, cls_11⟩
set_option maxRecDepth 20000 in
theorem mo_L_count : MOK mu_L_count 3 := ⟨(bg_1 0 rfl rfl), (bg_6 125 rfl rfl), by decide⟩
set_option maxRecDepth 20000 in
theorem ms_L_count : Cond.static mu_L_count.1 ∈ Big := (bg_6 124 rfl rfl)
set_option maxRecDepth 20000 in
theorem co_L_law_294 : CallS mu_L_law mu_L_count 294 3 := ⟨⟨(bg_6 123 rfl rfl), mo_L_count.1, mo_L_count.2.1, mo_L_count.2.2, by decide, by decide⟩, ms_L_count⟩
set_option maxRecDepth 20000 in
theorem mo_X11_count : MOK mu_X11_count 1 := ⟨(bg_1 2 rfl rfl), (bg_9 81 rfl rfl), by decide⟩
set_option maxRecDepth 20000 in
theorem mv_X11_count : Cond.instanceMethod mu_X11_count.1 ∈ Big ∧ Cond.selects mu_X11_count.1.cls mu_X11_count.1 mu_X11_count.1 ∈ Big := ⟨(bg_9 79 rfl rfl), (bg_9 80 rfl rfl)⟩
set_option maxRecDepth 20000 in
theorem co_L_law_296 : CallV mu_L_law mu_X11_count 296 1 11 := ⟨⟨(bg_9 78 rfl rfl), mo_X11_count.1, mo_X11_count.2.1, mo_X11_count.2.2, by decide, by decide⟩, mv_X11_count.1, mv_X11_count.2, rfl, _, _, cls_11⟩
set_option maxRecDepth 20000 in
theorem mo_L_ofGroup : MOK mu_L_ofGroup 4 := ⟨(bg_1 0 rfl rfl), (bg_6 140 rfl rfl), by decide⟩
set_option maxRecDepth 20000 in
theorem ms_L_ofGroup : Cond.static mu_L_ofGroup.1 ∈ Big := (bg_6 139 rfl rfl)
set_option maxRecDepth 20000 in
theorem co_L_law_297 : CallS mu_L_law mu_L_ofGroup 297 4 := ⟨⟨(bg_6 138 rfl rfl), mo_L_ofGroup.1, mo_L_ofGroup.2.1, mo_L_ofGroup.2.2, by decide, by decide⟩, ms_L_ofGroup⟩
set_option maxRecDepth 20000 in
theorem mo_X11_ofGroup : MOK mu_X11_ofGroup 2 := ⟨(bg_1 2 rfl rfl), (bg_9 231 rfl rfl), by decide⟩
set_option maxRecDepth 20000 in
theorem mv_X11_ofGroup : Cond.instanceMethod mu_X11_ofGroup.1 ∈ Big ∧ Cond.selects mu_X11_ofGroup.1.cls mu_X11_ofGroup.1 mu_X11_ofGroup.1 ∈ Big := ⟨(bg_9 229 rfl rfl), (bg_9 230 rfl rfl)⟩
set_option maxRecDepth 20000 in
theorem co_L_law_299 : CallV mu_L_law mu_X11_ofGroup 299 2 11 := ⟨⟨(bg_9 228 rfl rfl), mo_X11_ofGroup.1, mo_X11_ofGroup.2.1, mo_X11_ofGroup.2.2, by decide, by decide⟩, mv_X11_ofGroup.1, mv_X11_ofGroup.2, rfl, _, _, cls_11⟩
set_option maxRecDepth 20000 in
theorem mo_L_audit : MOK mu_L_audit 3 := ⟨(bg_1 0 rfl rfl), (bg_6 147 rfl rfl), by decide⟩
set_option maxRecDepth 20000 in
theorem ms_L_audit : Cond.static mu_L_audit.1 ∈ Big := (bg_6 146 rfl rfl)
set_option maxRecDepth 20000 in
theorem co_L_law_300 : CallS mu_L_law mu_L_audit 300 3 := ⟨⟨(bg_6 145 rfl rfl), mo_L_audit.1, mo_L_audit.2.1, mo_L_audit.2.2, by decide, by decide⟩, ms_L_audit⟩
set_option maxRecDepth 20000 in
theorem mo_X11_audit : MOK mu_X11_audit 1 := ⟨(bg_1 2 rfl rfl), (bg_9 93 rfl rfl), by decide⟩
set_option maxRecDepth 20000 in
theorem mv_X11_audit : Cond.instanceMethod mu_X11_audit.1 ∈ Big ∧ Cond.selects mu_X11_audit.1.cls mu_X11_audit.1 mu_X11_audit.1 ∈ Big := ⟨(bg_9 91 rfl rfl), (bg_9 92 rfl rfl)⟩
set_option maxRecDepth 20000 in
theorem co_L_law_302 : CallV mu_L_law mu_X11_audit 302 1 11 := ⟨⟨(bg_9 90 rfl rfl), mo_X11_audit.1, mo_X11_audit.2.1, mo_X11_audit.2.2, by decide, by decide⟩, mv_X11_audit.1, mv_X11_audit.2, rfl, _, _, cls_11⟩
set_option maxRecDepth 20000 in
theorem mo_X10_digest : MOK mu_X10_digest 0 := ⟨(bg_1 1 rfl rfl), (bg_1 90 rfl rfl), by decide⟩
set_option maxRecDepth 20000 in
theorem mv_X10_digest : Cond.instanceMethod mu_X10_digest.1 ∈ Big ∧ Cond.selects mu_X10_digest.1.cls mu_X10_digest.1 mu_X10_digest.1 ∈ Big := ⟨(bg_1 88 rfl rfl), (bg_1 89 rfl rfl)⟩
set_option maxRecDepth 20000 in
theorem co_L_law_303 : CallV mu_L_law mu_X10_digest 303 0 10 := ⟨⟨(bg_1 87 rfl rfl), mo_X10_digest.1, mo_X10_digest.2.1, mo_X10_digest.2.2, by decide, by decide⟩, mv_X10_digest.1, mv_X10_digest.2, rfl, _, _, cls_10⟩
set_option maxRecDepth 20000 in
theorem mo_X11_digest : MOK mu_X11_digest 0 := ⟨(bg_1 2 rfl rfl), (bg_9 102 rfl rfl), by decide⟩
set_option maxRecDepth 20000 in
theorem mv_X11_digest : Cond.instanceMethod mu_X11_digest.1 ∈ Big ∧ Cond.selects mu_X11_digest.1.cls mu_X11_digest.1 mu_X11_digest.1 ∈ Big := ⟨(bg_9 100 rfl rfl), (bg_9 101 rfl rfl)⟩
set_option maxRecDepth 20000 in
theorem co_L_law_306 : CallV mu_L_law mu_X11_digest 306 0 11 := ⟨⟨(bg_9 99 rfl rfl), mo_X11_digest.1, mo_X11_digest.2.1, mo_X11_digest.2.2, by decide, by decide⟩, mv_X11_digest.1, mv_X11_digest.2, rfl, _, _, cls_11⟩
set_option maxRecDepth 20000 in
theorem nw_RL_156 : Cond.classLink RL 156 RX11 ∈ Big ∧ Cond.instantiable RX11 68 ∈ Big ∧ Cond.initialized RX11 ∈ Big := ⟨(bg_6 235 rfl rfl), (bg_6 236 rfl rfl), (bg_1 2 rfl rfl)⟩
set_option maxRecDepth 20000 in
theorem nw_RL_8 : Cond.classLink RL 8 RX10 ∈ Big ∧ Cond.instantiable RX10 16 ∈ Big ∧ Cond.initialized RX10 ∈ Big := ⟨(bg_1 20 rfl rfl), (bg_1 21 rfl rfl), (bg_1 1 rfl rfl)⟩
