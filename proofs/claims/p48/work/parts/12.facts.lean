/-! FACTS THAT THE WALKS USE (by program) -/
theorem bg_all {ws : List Cond} (h : ∀ w ∈ ws, w ∈ tables_1 ∧ goodWord w = true) : ∀ w ∈ ws, w ∈ Big := fun w hw => List.mem_filter.mpr ⟨List.mem_append_right _ (h w hw).1, (h w hw).2⟩
theorem tb_1 {w : Cond} (h : w ∈ tables_1_1) : w ∈ tables_1 := (List.mem_append_left _ h)
theorem bg_1 {w : Cond} (i : Nat) (h : tables_1_1[i]? = some w) (hg : goodWord w = true) : w ∈ Big := List.mem_filter.mpr ⟨List.mem_append_right _ (tb_1 (List.mem_of_getElem? h)), hg⟩
theorem tb_2 {w : Cond} (h : w ∈ tables_1_2) : w ∈ tables_1 := List.mem_append_right _ ((List.mem_append_left _ h))
theorem bg_2 {w : Cond} (i : Nat) (h : tables_1_2[i]? = some w) (hg : goodWord w = true) : w ∈ Big := List.mem_filter.mpr ⟨List.mem_append_right _ (tb_2 (List.mem_of_getElem? h)), hg⟩
theorem tb_3 {w : Cond} (h : w ∈ tables_1_3) : w ∈ tables_1 := List.mem_append_right _ (List.mem_append_right _ ((List.mem_append_left _ h)))
theorem bg_3 {w : Cond} (i : Nat) (h : tables_1_3[i]? = some w) (hg : goodWord w = true) : w ∈ Big := List.mem_filter.mpr ⟨List.mem_append_right _ (tb_3 (List.mem_of_getElem? h)), hg⟩
theorem tb_4 {w : Cond} (h : w ∈ tables_1_4) : w ∈ tables_1 := List.mem_append_right _ (List.mem_append_right _ (List.mem_append_right _ ((List.mem_append_left _ h))))
theorem bg_4 {w : Cond} (i : Nat) (h : tables_1_4[i]? = some w) (hg : goodWord w = true) : w ∈ Big := List.mem_filter.mpr ⟨List.mem_append_right _ (tb_4 (List.mem_of_getElem? h)), hg⟩
theorem tb_5 {w : Cond} (h : w ∈ tables_1_5) : w ∈ tables_1 := List.mem_append_right _ (List.mem_append_right _ (List.mem_append_right _ (List.mem_append_right _ ((List.mem_append_left _ h)))))
theorem bg_5 {w : Cond} (i : Nat) (h : tables_1_5[i]? = some w) (hg : goodWord w = true) : w ∈ Big := List.mem_filter.mpr ⟨List.mem_append_right _ (tb_5 (List.mem_of_getElem? h)), hg⟩
theorem tb_6 {w : Cond} (h : w ∈ tables_1_6) : w ∈ tables_1 := List.mem_append_right _ (List.mem_append_right _ (List.mem_append_right _ (List.mem_append_right _ (List.mem_append_right _ (h)))))
theorem bg_6 {w : Cond} (i : Nat) (h : tables_1_6[i]? = some w) (hg : goodWord w = true) : w ∈ Big := List.mem_filter.mpr ⟨List.mem_append_right _ (tb_6 (List.mem_of_getElem? h)), hg⟩
def MOK (μy : MI) (n : Nat) : Prop := Cond.initialized μy.1.cls ∈ Big ∧ mw μy ∈ Big ∧ (μy.1.cls ≠ "java/lang/invoke/MethodHandle" ∧ μy.1.cls ≠ "java/lang/invoke/VarHandle" ∧ (parseMethodDescriptor μy.1.desc).map (fun d => d.parameters.length) = some n)
set_option maxRecDepth 100000 in
theorem cls_0 : ClsOK 0 RX0 TX0 10 := ⟨rfl, by decide, bg_all (by decide +kernel), nmX0, tyX0, tyX0_ok, by decide +kernel⟩
set_option maxRecDepth 100000 in
theorem cls_1 : ClsOK 1 RX1 TX1 7 := ⟨rfl, by decide, bg_all (by decide +kernel), nmX1, tyX1, tyX1_ok, by decide +kernel⟩
set_option maxRecDepth 100000 in
theorem cls_2 : ClsOK 2 RX2 TX2 2 := ⟨rfl, by decide, bg_all (by decide +kernel), nmX2, tyX2, tyX2_ok, by decide +kernel⟩
set_option maxRecDepth 100000 in
theorem cls_3 : ClsOK 3 RX3 TX3 7 := ⟨rfl, by decide, bg_all (by decide +kernel), nmX3, tyX3, tyX3_ok, by decide +kernel⟩
set_option maxRecDepth 100000 in
theorem cls_4 : ClsOK 4 RX4 TX4 11 := ⟨rfl, by decide, bg_all (by decide +kernel), nmX4, tyX4, tyX4_ok, by decide +kernel⟩
set_option maxRecDepth 100000 in
theorem cls_5 : ClsOK 5 RX5 TX5 6 := ⟨rfl, by decide, bg_all (by decide +kernel), nmX5, tyX5, tyX5_ok, by decide +kernel⟩
set_option maxRecDepth 100000 in
theorem cls_6 : ClsOK 6 RX6 TX6 9 := ⟨rfl, by decide, bg_all (by decide +kernel), nmX6, tyX6, tyX6_ok, by decide +kernel⟩
set_option maxRecDepth 100000 in
theorem cls_7 : ClsOK 7 RX7 TX7 5 := ⟨rfl, by decide, bg_all (by decide +kernel), nmX7, tyX7, tyX7_ok, by decide +kernel⟩
set_option maxRecDepth 100000 in
theorem cls_8 : ClsOK 8 RX8 TX8 6 := ⟨rfl, by decide, bg_all (by decide +kernel), nmX8, tyX8, tyX8_ok, by decide +kernel⟩
set_option maxRecDepth 100000 in
theorem cls_9 : ClsOK 9 RX9 TX9 7 := ⟨rfl, by decide, bg_all (by decide +kernel), nmX9, tyX9, tyX9_ok, by decide +kernel⟩
set_option maxRecDepth 100000 in
theorem cls_10 : ClsOK 10 RX10 TX10 16 := ⟨rfl, by decide, bg_all (by decide +kernel), nmX10, tyX10, tyX10_ok, by decide +kernel⟩
theorem ak_13 : akind 13 (.int) := by unfold akind; decide +kernel
theorem ak_15 : akind 15 (.long) := by unfold akind; decide +kernel
theorem ak_25 : akind 25 (.object "MessageBroker$Topic") := by unfold akind; decide +kernel
theorem ak_21 : akind 21 (.object "MessageBroker$Partition") := by unfold akind; decide +kernel
theorem ak_22 : akind 22 (.object "MessageBroker$Producer") := by unfold akind; decide +kernel
theorem ak_16 : akind 16 (.object "MessageBroker$Group") := by unfold akind; decide +kernel
theorem ak_20 : akind 20 (.object "MessageBroker$Message") := by unfold akind; decide +kernel
theorem ak_23 : akind 23 (.object "MessageBroker$Replica") := by unfold akind; decide +kernel
theorem ak_24 : akind 24 (.object "MessageBroker$Share") := by unfold akind; decide +kernel
theorem ak_19 : akind 19 (.object "MessageBroker$Member") := by unfold akind; decide +kernel
theorem ak_17 : akind 17 (.object "MessageBroker$Letter") := by unfold akind; decide +kernel
abbrev mu_X10_init : MI := (yX10_init, cX10_init, 1, none, 1, 20, [])
abbrev mu_X10_requireWithin : MI := (yX10_requireWithin, cX10_requireWithin, 3, none, 6, 82, [])
abbrev mu_X9_init : MI := (yX9_init, cX9_init, 5, none, 1, 20, [])
abbrev mu_X7_init : MI := (yX7_init, cX7_init, 4, none, 1, 20, [])
abbrev mu_X5_init : MI := (yX5_init, cX5_init, 6, none, 2, 43, [])
abbrev mu_X10_makePartition : MI := (yX10_makePartition, cX10_makePartition, 4, none, 3, 68, [])
abbrev mu_X10_topic : MI := (yX10_topic, cX10_topic, 6, (some .int), 7, 104, [])
abbrev mu_X10_partitionOf : MI := (yX10_partitionOf, cX10_partitionOf, 3, (some (.object "MessageBroker$Partition")), 6, 82, [])
abbrev mu_J9_min_7cf53 : MI := (yJ9_min_7cf53, cJ9_min_7cf53, 2, (some .int), 0, 0, [])
abbrev mu_X5_highWatermark : MI := (yX5_highWatermark, cX5_highWatermark, 6, (some .int), 1, 21, [])
abbrev mu_X5_messageAt : MI := (yX5_messageAt, cX5_messageAt, 2, (some (.object "MessageBroker$Message")), 0, 0, [])
abbrev mu_X5_stableOffset : MI := (yX5_stableOffset, cX5_stableOffset, 4, (some .int), 2, 46, [])
abbrev mu_X5_storedAt : MI := (yX5_storedAt, cX5_storedAt, 3, (some (.object "MessageBroker$Message")), 1, 21, [])
abbrev mu_X4_isPlainOrCommitted : MI := (yX4_isPlainOrCommitted, cX4_isPlainOrCommitted, 1, (some .boolean), 0, 0, [])
abbrev mu_X5_readableAt : MI := (yX5_readableAt, cX5_readableAt, 4, (some (.object "MessageBroker$Message")), 2, 43, [])
abbrev mu_X5_lastReadable : MI := (yX5_lastReadable, cX5_lastReadable, 5, (some (.object "MessageBroker$Message")), 3, 66, [])
abbrev mu_X10_isCompactedAway : MI := (yX10_isCompactedAway, cX10_isCompactedAway, 3, (some .boolean), 4, 90, [])
abbrev mu_X10_compact : MI := (yX10_compact, cX10_compact, 7, (some .int), 7, 112, [])
abbrev mu_X10_requireBroker : MI := (yX10_requireBroker, cX10_requireBroker, 1, none, 6, 82, [])
abbrev mu_X10_isLive : MI := (yX10_isLive, cX10_isLive, 2, (some .boolean), 0, 0, [])
abbrev mu_X5_replicaOn : MI := (yX5_replicaOn, cX5_replicaOn, 6, (some (.object "MessageBroker$Replica")), 0, 0, [])
abbrev mu_X5_firstInSyncBut : MI := (yX5_firstInSyncBut, cX5_firstInSyncBut, 6, (some (.object "MessageBroker$Replica")), 0, 0, [])
abbrev mu_X5_takeAt : MI := (yX5_takeAt, cX5_takeAt, 3, (some (.object "MessageBroker$Message")), 1, 21, [])
abbrev mu_X10_settle : MI := (yX10_settle, cX10_settle, 6, (some .int), 0, 0, [])
abbrev mu_X10_cutFrom : MI := (yX10_cutFrom, cX10_cutFrom, 6, (some .int), 2, 43, [])
abbrev mu_X5_lowerEnds : MI := (yX5_lowerEnds, cX5_lowerEnds, 5, none, 0, 0, [])
abbrev mu_X10_loseReplica : MI := (yX10_loseReplica, cX10_loseReplica, 4, (some .int), 3, 68, [])
abbrev mu_X10_fail : MI := (yX10_fail, cX10_fail, 7, (some .int), 7, 102, [])
abbrev mu_X10_restore : MI := (yX10_restore, cX10_restore, 8, (some .int), 7, 102, [])
abbrev mu_X7_catchUp : MI := (yX7_catchUp, cX7_catchUp, 2, none, 0, 0, [])
abbrev mu_X10_fetch : MI := (yX10_fetch, cX10_fetch, 8, (some .int), 7, 102, [])
abbrev mu_X10_speed : MI := (yX10_speed, cX10_speed, 3, (some .int), 7, 104, [])
abbrev mu_X4_isPlainCutOf : MI := (yX4_isPlainCutOf, cX4_isPlainCutOf, 3, (some .boolean), 0, 0, [])
abbrev mu_X10_plainCutCount : MI := (yX10_plainCutCount, cX10_plainCutCount, 6, (some .int), 1, 22, [])
abbrev mu_X10_canAppend : MI := (yX10_canAppend, cX10_canAppend, 3, (some .boolean), 2, 47, [])
abbrev mu_X5_append : MI := (yX5_append, cX5_append, 3, none, 0, 0, [])
abbrev mu_X10_appendDelayed : MI := (yX10_appendDelayed, cX10_appendDelayed, 4, none, 3, 69, [])
abbrev mu_X10_isFollower : MI := (yX10_isFollower, cX10_isFollower, 3, (some .boolean), 1, 21, [])
abbrev mu_X10_copyAll : MI := (yX10_copyAll, cX10_copyAll, 6, none, 2, 43, [])
abbrev mu_X10_checkInSync : MI := (yX10_checkInSync, cX10_checkInSync, 6, none, 2, 43, [])
abbrev mu_X5_logEnd : MI := (yX5_logEnd, cX5_logEnd, 2, (some .int), 1, 25, [])
abbrev mu_X5_storedCount : MI := (yX5_storedCount, cX5_storedCount, 4, (some .int), 2, 46, [])
abbrev mu_X10_removeOld : MI := (yX10_removeOld, cX10_removeOld, 6, none, 3, 69, [])
abbrev mu_X2_get : MI := (yX2_get, cX2_get, 2, (some (.object "MessageBroker$Letter")), 0, 0, [])
abbrev mu_X2_removeLetter : MI := (yX2_removeLetter, cX2_removeLetter, 4, none, 0, 0, [])
abbrev mu_X1_isBefore : MI := (yX1_isBefore, cX1_isBefore, 2, (some .boolean), 0, 0, [])
abbrev mu_X2_addByDue : MI := (yX2_addByDue, cX2_addByDue, 5, none, 1, 21, [])
abbrev mu_X0_putInRow : MI := (yX0_putInRow, cX0_putInRow, 3, none, 2, 45, [])
abbrev mu_X0_giveUp : MI := (yX0_giveUp, cX0_giveUp, 6, none, 3, 67, [])
abbrev mu_X0_memberCount : MI := (yX0_memberCount, cX0_memberCount, 6, (some .int), 0, 0, [])
abbrev mu_X0_targetCount : MI := (yX0_targetCount, cX0_targetCount, 7, (some .int), 0, 0, [])
abbrev mu_X0_rankOf : MI := (yX0_rankOf, cX0_rankOf, 7, (some .int), 0, 0, [])
abbrev mu_X0_setFairShares : MI := (yX0_setFairShares, cX0_setFairShares, 7, none, 1, 26, [])
abbrev mu_X0_dropSurplus : MI := (yX0_dropSurplus, cX0_dropSurplus, 5, none, 0, 0, [])
abbrev mu_X0_firstBelowFairShare : MI := (yX0_firstBelowFairShare, cX0_firstBelowFairShare, 5, (some (.object "MessageBroker$Member")), 0, 0, [])
abbrev mu_X0_dealTargets : MI := (yX0_dealTargets, cX0_dealTargets, 5, none, 2, 52, [])
abbrev mu_X0_removeMember : MI := (yX0_removeMember, cX0_removeMember, 8, (some .int), 4, 92, [])
abbrev mu_X0_expelSilent : MI := (yX0_expelSilent, cX0_expelSilent, 6, none, 5, 119, [])
abbrev mu_X10_passTick : MI := (yX10_passTick, cX10_passTick, 5, none, 6, 144, [])
abbrev mu_X10_tick : MI := (yX10_tick, cX10_tick, 3, (some .int), 7, 168, [])
abbrev mu_X6_init : MI := (yX6_init, cX6_init, 2, none, 1, 20, [])
abbrev mu_X10_producer : MI := (yX10_producer, cX10_producer, 2, (some .int), 6, 82, [])
abbrev mu_X10_producerOf : MI := (yX10_producerOf, cX10_producerOf, 3, (some (.object "MessageBroker$Producer")), 6, 82, [])
abbrev mu_X10_topicOf : MI := (yX10_topicOf, cX10_topicOf, 3, (some (.object "MessageBroker$Topic")), 6, 82, [])
abbrev mu_J9_floorMod_7cf53 : MI := (yJ9_floorMod_7cf53, cJ9_floorMod_7cf53, 3, (some .int), 0, 0, [])
abbrev mu_X9_partitionFor : MI := (yX9_partitionFor, cX9_partitionFor, 3, (some (.object "MessageBroker$Partition")), 1, 22, [])
abbrev mu_X10_canSend : MI := (yX10_canSend, cX10_canSend, 3, (some .boolean), 3, 69, [])
abbrev mu_X4_init : MI := (yX4_init, cX4_init, 8, none, 1, 20, [])
abbrev mu_X10_keep : MI := (yX10_keep, cX10_keep, 2, none, 0, 0, [])
abbrev mu_X10_sendNow : MI := (yX10_sendNow, cX10_sendNow, 6, (some .int), 2, 47, [])
abbrev mu_X10_send : MI := (yX10_send, cX10_send, 7, (some .int), 7, 104, [])
abbrev mu_X10_sendSome : MI := (yX10_sendSome, cX10_sendSome, 12, (some .int), 7, 104, [])
abbrev mu_X10_delay : MI := (yX10_delay, cX10_delay, 5, none, 0, 0, [])
abbrev mu_X10_sendLater : MI := (yX10_sendLater, cX10_sendLater, 9, (some .int), 7, 104, [])
abbrev mu_X10_resend : MI := (yX10_resend, cX10_resend, 8, (some .int), 7, 104, [])
abbrev mu_X10_begin : MI := (yX10_begin, cX10_begin, 3, (some .int), 7, 104, [])
abbrev mu_X10_groupOf : MI := (yX10_groupOf, cX10_groupOf, 3, (some (.object "MessageBroker$Group")), 6, 82, [])
abbrev mu_X10_memberOf : MI := (yX10_memberOf, cX10_memberOf, 4, (some (.object "MessageBroker$Member")), 6, 82, [])
abbrev mu_X0_shareAt : MI := (yX0_shareAt, cX0_shareAt, 2, (some (.object "MessageBroker$Share")), 0, 0, [])
abbrev mu_X3_placeIn : MI := (yX3_placeIn, cX3_placeIn, 5, (some .int), 1, 21, [])
abbrev mu_X6_notePlaces : MI := (yX6_notePlaces, cX6_notePlaces, 7, (some .int), 2, 45, [])
abbrev mu_X10_attach : MI := (yX10_attach, cX10_attach, 7, (some .int), 7, 105, [])
abbrev mu_X10_isReplicated : MI := (yX10_isReplicated, cX10_isReplicated, 4, (some .boolean), 2, 46, [])
abbrev mu_X6_placesStand : MI := (yX6_placesStand, cX6_placesStand, 3, (some .boolean), 1, 21, [])
abbrev mu_X6_commitPlaces : MI := (yX6_commitPlaces, cX6_commitPlaces, 3, none, 1, 21, [])
abbrev mu_X6_endTransaction : MI := (yX6_endTransaction, cX6_endTransaction, 1, none, 0, 0, [])
abbrev mu_X10_commit : MI := (yX10_commit, cX10_commit, 4, (some .int), 7, 104, [])
abbrev mu_X10_abort : MI := (yX10_abort, cX10_abort, 4, (some .int), 7, 104, [])
abbrev mu_X2_init : MI := (yX2_init, cX2_init, 2, none, 1, 20, [])
abbrev mu_X0_init : MI := (yX0_init, cX0_init, 1, none, 2, 41, [])
abbrev mu_X8_init : MI := (yX8_init, cX8_init, 2, none, 1, 20, [])
abbrev mu_X0_addShare : MI := (yX0_addShare, cX0_addShare, 2, none, 2, 41, [])
abbrev mu_X10_group : MI := (yX10_group, cX10_group, 7, (some .int), 6, 82, [])
abbrev mu_X3_init : MI := (yX3_init, cX3_init, 3, none, 2, 41, [])
abbrev mu_X0_addMember : MI := (yX0_addMember, cX0_addMember, 3, (some .int), 3, 76, [])
abbrev mu_X10_join : MI := (yX10_join, cX10_join, 3, (some .int), 7, 104, [])
abbrev mu_X10_leave : MI := (yX10_leave, cX10_leave, 4, (some .int), 7, 119, [])
abbrev mu_J9_max_7cf53 : MI := (yJ9_max_7cf53, cJ9_max_7cf53, 2, (some .int), 0, 0, [])
abbrev mu_X0_followTargets : MI := (yX0_followTargets, cX0_followTargets, 7, none, 4, 92, [])
abbrev mu_X0_ownedCount : MI := (yX0_ownedCount, cX0_ownedCount, 7, (some .int), 0, 0, [])
abbrev mu_X10_beat : MI := (yX10_beat, cX10_beat, 5, (some .int), 7, 118, [])
abbrev mu_X1_isOfRow : MI := (yX1_isOfRow, cX1_isOfRow, 2, (some .boolean), 0, 0, [])
abbrev mu_X2_hasNoneOfRow : MI := (yX2_hasNoneOfRow, cX2_hasNoneOfRow, 5, (some .boolean), 1, 21, [])
abbrev mu_X0_firstDue : MI := (yX0_firstDue, cX0_firstDue, 6, (some (.object "MessageBroker$Letter")), 2, 45, [])
abbrev mu_X2_addLast : MI := (yX2_addLast, cX2_addLast, 2, none, 0, 0, [])
abbrev mu_X0_deliver : MI := (yX0_deliver, cX0_deliver, 4, (some (.object "MessageBroker$Letter")), 1, 21, [])
abbrev mu_X0_knownLetter : MI := (yX0_knownLetter, cX0_knownLetter, 2, (some (.object "MessageBroker$Letter")), 0, 0, [])
abbrev mu_X1_init : MI := (yX1_init, cX1_init, 2, none, 1, 20, [])
abbrev mu_X0_letterOf : MI := (yX0_letterOf, cX0_letterOf, 4, (some (.object "MessageBroker$Letter")), 2, 41, [])
abbrev mu_X0_nextOfLog : MI := (yX0_nextOfLog, cX0_nextOfLog, 7, (some (.object "MessageBroker$Letter")), 3, 69, [])
abbrev mu_X0_deliverNext : MI := (yX0_deliverNext, cX0_deliverNext, 7, (some (.object "MessageBroker$Letter")), 4, 95, [])
abbrev mu_X10_read : MI := (yX10_read, cX10_read, 5, (some .int), 7, 121, [])
abbrev mu_X2_ofMessage : MI := (yX2_ofMessage, cX2_ofMessage, 4, (some (.object "MessageBroker$Letter")), 1, 21, [])
abbrev mu_X10_letterInHand : MI := (yX10_letterInHand, cX10_letterInHand, 3, (some (.object "MessageBroker$Letter")), 6, 82, [])
abbrev mu_X10_done : MI := (yX10_done, cX10_done, 6, (some .int), 7, 105, [])
abbrev mu_X0_sendBackBehind : MI := (yX0_sendBackBehind, cX0_sendBackBehind, 6, none, 3, 67, [])
abbrev mu_X0_failLetter : MI := (yX0_failLetter, cX0_failLetter, 4, (some .int), 4, 92, [])
abbrev mu_X10_retry : MI := (yX10_retry, cX10_retry, 6, (some .int), 7, 115, [])
abbrev mu_X0_commitAll : MI := (yX0_commitAll, cX0_commitAll, 8, (some .int), 2, 45, [])
abbrev mu_X10_commitOffsets : MI := (yX10_commitOffsets, cX10_commitOffsets, 4, (some .int), 7, 105, [])
abbrev mu_X10_messageOf : MI := (yX10_messageOf, cX10_messageOf, 3, (some (.object "MessageBroker$Message")), 6, 82, [])
abbrev mu_X4_canBeRead : MI := (yX4_canBeRead, cX4_canBeRead, 1, (some .boolean), 3, 69, [])
abbrev mu_X10_tellMessage : MI := (yX10_tellMessage, cX10_tellMessage, 2, (some .int), 4, 89, [])
abbrev mu_X10_message : MI := (yX10_message, cX10_message, 4, (some .int), 7, 110, [])
abbrev mu_X10_at : MI := (yX10_at, cX10_at, 5, (some .int), 7, 104, [])
abbrev mu_X5_inSyncBits : MI := (yX5_inSyncBits, cX5_inSyncBits, 6, (some .int), 0, 0, [])
abbrev mu_X10_tellPartition : MI := (yX10_tellPartition, cX10_tellPartition, 2, (some .int), 3, 69, [])
abbrev mu_X10_partition : MI := (yX10_partition, cX10_partition, 4, (some .int), 7, 104, [])
abbrev mu_X10_value : MI := (yX10_value, cX10_value, 5, (some .int), 7, 104, [])
abbrev mu_X10_shareOf : MI := (yX10_shareOf, cX10_shareOf, 3, (some (.object "MessageBroker$Share")), 6, 82, [])
abbrev mu_X1_waitsOrIsDead : MI := (yX1_waitsOrIsDead, cX1_waitsOrIsDead, 1, (some .boolean), 0, 0, [])
abbrev mu_X0_lag : MI := (yX0_lag, cX0_lag, 7, (some .int), 3, 69, [])
abbrev mu_X2_countOf : MI := (yX2_countOf, cX2_countOf, 5, (some .int), 1, 21, [])
abbrev mu_X10_tellShare : MI := (yX10_tellShare, cX10_tellShare, 3, (some .int), 4, 95, [])
abbrev mu_X10_share : MI := (yX10_share, cX10_share, 6, (some .int), 7, 117, [])
abbrev mu_X10_member : MI := (yX10_member, cX10_member, 6, (some .int), 7, 105, [])
abbrev mu_X10_letterAt : MI := (yX10_letterAt, cX10_letterAt, 3, (some (.object "MessageBroker$Letter")), 6, 82, [])
abbrev mu_X10_hand : MI := (yX10_hand, cX10_hand, 6, (some .int), 7, 105, [])
abbrev mu_X10_seen : MI := (yX10_seen, cX10_seen, 5, (some .int), 7, 104, [])
abbrev mu_X10_openTransactions : MI := (yX10_openTransactions, cX10_openTransactions, 6, (some .int), 0, 0, [])
abbrev mu_X10_messagesIn : MI := (yX10_messagesIn, cX10_messagesIn, 7, (some .int), 0, 0, [])
abbrev mu_X10_count : MI := (yX10_count, cX10_count, 2, (some .int), 7, 104, [])
abbrev mu_X0_memberBits : MI := (yX0_memberBits, cX0_memberBits, 6, (some .int), 0, 0, [])
abbrev mu_X0_isAtRest : MI := (yX0_isAtRest, cX0_isAtRest, 5, (some .boolean), 1, 25, [])
abbrev mu_X10_tellGroup : MI := (yX10_tellGroup, cX10_tellGroup, 2, (some .int), 2, 49, [])
abbrev mu_X10_ofGroup : MI := (yX10_ofGroup, cX10_ofGroup, 4, (some .int), 7, 104, [])
abbrev mu_X4_standsAtItsOffset : MI := (yX4_standsAtItsOffset, cX4_standsAtItsOffset, 1, (some .boolean), 2, 46, [])
abbrev mu_X5_endsHold : MI := (yX5_endsHold, cX5_endsHold, 7, (some .boolean), 2, 46, [])
abbrev mu_X5_ticksHold : MI := (yX5_ticksHold, cX5_ticksHold, 4, (some .boolean), 2, 43, [])
abbrev mu_X10_logsHold : MI := (yX10_logsHold, cX10_logsHold, 5, (some .boolean), 3, 72, [])
abbrev mu_X4_isDelayed : MI := (yX4_isDelayed, cX4_isDelayed, 1, (some .boolean), 0, 0, [])
abbrev mu_X5_numbersRise : MI := (yX5_numbersRise, cX5_numbersRise, 7, (some .boolean), 1, 20, [])
abbrev mu_X10_producersHold : MI := (yX10_producersHold, cX10_producersHold, 9, (some .boolean), 2, 46, [])
abbrev mu_X10_wasDelivered : MI := (yX10_wasDelivered, cX10_wasDelivered, 7, (some .boolean), 1, 21, [])
abbrev mu_X10_transactionHolds : MI := (yX10_transactionHolds, cX10_transactionHolds, 2, (some .boolean), 4, 89, [])
abbrev mu_X10_transactionsHold : MI := (yX10_transactionsHold, cX10_transactionsHold, 5, (some .boolean), 5, 110, [])
abbrev mu_X0_orderHolds : MI := (yX0_orderHolds, cX0_orderHolds, 9, (some .boolean), 1, 21, [])
abbrev mu_X10_orderHolds : MI := (yX10_orderHolds, cX10_orderHolds, 5, (some .boolean), 2, 49, [])
abbrev mu_X0_readOffsetsHold : MI := (yX0_readOffsetsHold, cX0_readOffsetsHold, 7, (some .boolean), 3, 69, [])
abbrev mu_X0_offsetsHold : MI := (yX0_offsetsHold, cX0_offsetsHold, 5, (some .boolean), 4, 95, [])
abbrev mu_X10_offsetsHold : MI := (yX10_offsetsHold, cX10_offsetsHold, 5, (some .boolean), 5, 119, [])
abbrev mu_X0_isNoneOrMember : MI := (yX0_isNoneOrMember, cX0_isNoneOrMember, 6, (some .boolean), 0, 0, [])
abbrev mu_X0_sharesHold : MI := (yX0_sharesHold, cX0_sharesHold, 7, (some .boolean), 1, 26, [])
abbrev mu_X0_handHolds : MI := (yX0_handHolds, cX0_handHolds, 5, (some .boolean), 1, 21, [])
abbrev mu_X0_handsHold : MI := (yX0_handsHold, cX0_handsHold, 5, (some .boolean), 2, 45, [])
abbrev mu_X10_sharesHold : MI := (yX10_sharesHold, cX10_sharesHold, 5, (some .boolean), 3, 69, [])
abbrev mu_X10_audit : MI := (yX10_audit, cX10_audit, 2, (some .boolean), 7, 143, [])
set_option maxRecDepth 20000 in
theorem oi_RX10_1 : Cond.methodLink RX10 1 Lib.objectInit ∈ Big ∧ Cond.instanceMethod Lib.objectInit ∈ Big ∧ Cond.code Lib.objectInit ⟨#[0xb1]⟩ 1 none ∈ Big := ⟨(bg_1 24 rfl rfl), (bg_1 25 rfl rfl), (bg_1 26 rfl rfl)⟩
set_option maxRecDepth 20000 in
theorem fld_RX10_11 : FldOK 10 0 RX10 11 14 28 true RX10 TX10 16 := ⟨by decide, (bg_1 37 rfl rfl), rfl, rfl, rfl, by decide⟩
set_option maxRecDepth 20000 in
theorem fld_RX10_17 : FldOK 10 1 RX10 17 14 24 true RX10 TX10 16 := ⟨by decide, (bg_1 38 rfl rfl), rfl, rfl, rfl, by decide⟩
set_option maxRecDepth 20000 in
theorem fld_RX10_23 : FldOK 10 2 RX10 23 14 25 true RX10 TX10 16 := ⟨by decide, (bg_1 39 rfl rfl), rfl, rfl, rfl, by decide⟩
set_option maxRecDepth 20000 in
theorem fld_RX10_29 : FldOK 10 3 RX10 29 14 19 true RX10 TX10 16 := ⟨by decide, (bg_1 40 rfl rfl), rfl, rfl, rfl, by decide⟩
set_option maxRecDepth 20000 in
theorem fld_RX10_35 : FldOK 10 4 RX10 35 14 23 true RX10 TX10 16 := ⟨by decide, (bg_1 41 rfl rfl), rfl, rfl, rfl, by decide⟩
set_option maxRecDepth 20000 in
theorem fld_RX10_39 : FldOK 10 5 RX10 39 14 23 true RX10 TX10 16 := ⟨by decide, (bg_1 42 rfl rfl), rfl, rfl, rfl, by decide⟩
set_option maxRecDepth 20000 in
theorem fld_RX10_42 : FldOK 10 6 RX10 42 14 0 false RX10 TX10 16 := ⟨by decide, (bg_1 43 rfl rfl), rfl, rfl, rfl, by decide⟩
set_option maxRecDepth 20000 in
theorem fld_RX10_46 : FldOK 10 7 RX10 46 14 0 false RX10 TX10 16 := ⟨by decide, (bg_1 44 rfl rfl), rfl, rfl, rfl, by decide⟩
set_option maxRecDepth 20000 in
theorem fld_RX10_49 : FldOK 10 8 RX10 49 14 0 false RX10 TX10 16 := ⟨by decide, (bg_1 45 rfl rfl), rfl, rfl, rfl, by decide⟩
set_option maxRecDepth 20000 in
theorem fld_RX10_52 : FldOK 10 9 RX10 52 14 0 false RX10 TX10 16 := ⟨by decide, (bg_1 46 rfl rfl), rfl, rfl, rfl, by decide⟩
set_option maxRecDepth 20000 in
theorem fld_RX10_55 : FldOK 10 10 RX10 55 14 0 false RX10 TX10 16 := ⟨by decide, (bg_1 47 rfl rfl), rfl, rfl, rfl, by decide⟩
set_option maxRecDepth 20000 in
theorem fld_RX10_58 : FldOK 10 11 RX10 58 14 0 false RX10 TX10 16 := ⟨by decide, (bg_1 48 rfl rfl), rfl, rfl, rfl, by decide⟩
set_option maxRecDepth 20000 in
theorem fld_RX10_61 : FldOK 10 12 RX10 61 14 0 false RX10 TX10 16 := ⟨by decide, (bg_1 49 rfl rfl), rfl, rfl, rfl, by decide⟩
set_option maxRecDepth 20000 in
theorem fld_RX10_64 : FldOK 10 13 RX10 64 14 0 false RX10 TX10 16 := ⟨by decide, (bg_1 50 rfl rfl), rfl, rfl, rfl, by decide⟩
set_option maxRecDepth 20000 in
theorem fld_RX10_67 : FldOK 10 14 RX10 67 14 0 false RX10 TX10 16 := ⟨by decide, (bg_1 51 rfl rfl), rfl, rfl, rfl, by decide⟩
set_option maxRecDepth 20000 in
theorem fld_RX10_70 : FldOK 10 15 RX10 70 14 0 false RX10 TX10 16 := ⟨by decide, (bg_1 52 rfl rfl), rfl, rfl, rfl, by decide⟩
set_option maxRecDepth 20000 in
theorem tha_RX10_372 : (∀ w ∈ (vx_atS RX10 372 "java/lang/IllegalArgumentException" xnm).filter goodWord, w ∈ Big) ∧ (∀ w ∈ (vx_atS RX10 372 "java/lang/IllegalArgumentException" xnm).filter (fun w => !goodWord w), w ∈ [Cond.castable "java/lang/IllegalArgumentException" "java/lang/IllegalArgumentException", Cond.declares (Bundle.initS "java/lang/RuntimeException"), Cond.declares (Bundle.initS "java/lang/Exception"), Cond.declares (Bundle.initS "java/lang/Throwable")]) ∧ ∀ w ∈ vx_atS RX10 372 "java/lang/IllegalArgumentException" xnm, vx_ot w = true := ⟨bg_all (by decide +kernel), (by decide +kernel), (by decide +kernel)⟩
set_option maxRecDepth 20000 in
theorem thr_RX10_623 : ThrOK RX10 "java/lang/IllegalArgumentException" "out of range" 368 623 372 := ⟨by decide, by decide, (bg_1 103 rfl rfl), (bg_1 5 rfl rfl), by decide, tha_RX10_372.1, tha_RX10_372.2.1, tha_RX10_372.2.2⟩
set_option maxRecDepth 20000 in
theorem oi_RX9_3 : Cond.methodLink RX9 3 Lib.objectInit ∈ Big ∧ Cond.instanceMethod Lib.objectInit ∈ Big ∧ Cond.code Lib.objectInit ⟨#[0xb1]⟩ 1 none ∈ Big := ⟨(bg_1 191 rfl rfl), (bg_1 25 rfl rfl), (bg_1 26 rfl rfl)⟩
set_option maxRecDepth 20000 in
theorem fld_RX9_11 : FldOK 9 4 RX9 11 13 24 true RX9 TX9 7 := ⟨by decide, (bg_1 201 rfl rfl), rfl, rfl, rfl, by decide⟩
set_option maxRecDepth 20000 in
theorem fld_RX9_17 : FldOK 9 5 RX9 17 13 0 false RX9 TX9 7 := ⟨by decide, (bg_1 203 rfl rfl), rfl, rfl, rfl, by decide⟩
set_option maxRecDepth 20000 in
theorem fld_RX9_21 : FldOK 9 6 RX9 21 13 0 false RX9 TX9 7 := ⟨by decide, (bg_1 205 rfl rfl), rfl, rfl, rfl, by decide⟩
set_option maxRecDepth 20000 in
theorem fld_RX9_24 : FldOK 9 0 RX9 24 13 0 true RX9 TX9 7 := ⟨by decide, (bg_1 193 rfl rfl), rfl, rfl, rfl, by decide⟩
set_option maxRecDepth 20000 in
theorem fld_RX9_27 : FldOK 9 1 RX9 27 13 0 true RX9 TX9 7 := ⟨by decide, (bg_1 196 rfl rfl), rfl, rfl, rfl, by decide⟩
set_option maxRecDepth 20000 in
theorem fld_RX9_30 : FldOK 9 2 RX9 30 13 0 true RX9 TX9 7 := ⟨by decide, (bg_1 197 rfl rfl), rfl, rfl, rfl, by decide⟩
set_option maxRecDepth 20000 in
theorem fld_RX9_33 : FldOK 9 3 RX9 33 13 1 true RX9 TX9 7 := ⟨by decide, (bg_1 199 rfl rfl), rfl, rfl, rfl, by decide⟩
set_option maxRecDepth 20000 in
theorem oi_RX7_1 : Cond.methodLink RX7 1 Lib.objectInit ∈ Big ∧ Cond.instanceMethod Lib.objectInit ∈ Big ∧ Cond.code Lib.objectInit ⟨#[0xb1]⟩ 1 none ∈ Big := ⟨(bg_1 238 rfl rfl), (bg_1 25 rfl rfl), (bg_1 26 rfl rfl)⟩
set_option maxRecDepth 20000 in
theorem fld_RX7_7 : FldOK 7 2 RX7 7 11 0 false RX7 TX7 5 := ⟨by decide, (bg_2 5 rfl rfl), rfl, rfl, rfl, by decide⟩
set_option maxRecDepth 20000 in
theorem fld_RX7_13 : FldOK 7 4 RX7 13 11 1 false RX7 TX7 5 := ⟨by decide, (bg_2 10 rfl rfl), rfl, rfl, rfl, by decide⟩
set_option maxRecDepth 20000 in
theorem fld_RX7_17 : FldOK 7 0 RX7 17 11 0 true RX7 TX7 5 := ⟨by decide, (bg_1 239 rfl rfl), rfl, rfl, rfl, by decide⟩
set_option maxRecDepth 20000 in
theorem fld_RX7_20 : FldOK 7 1 RX7 20 11 0 true RX7 TX7 5 := ⟨by decide, (bg_2 2 rfl rfl), rfl, rfl, rfl, by decide⟩
set_option maxRecDepth 20000 in
theorem fld_RX7_23 : FldOK 7 3 RX7 23 11 0 false RX7 TX7 5 := ⟨by decide, (bg_2 8 rfl rfl), rfl, rfl, rfl, by decide⟩
set_option maxRecDepth 20000 in
theorem oi_RX5_3 : Cond.methodLink RX5 3 Lib.objectInit ∈ Big ∧ Cond.instanceMethod Lib.objectInit ∈ Big ∧ Cond.code Lib.objectInit ⟨#[0xb1]⟩ 1 none ∈ Big := ⟨(bg_1 230 rfl rfl), (bg_1 25 rfl rfl), (bg_1 26 rfl rfl)⟩
set_option maxRecDepth 20000 in
theorem fld_RX5_11 : FldOK 5 2 RX5 11 9 26 true RX5 TX5 6 := ⟨by decide, (bg_2 29 rfl rfl), rfl, rfl, rfl, by decide⟩
set_option maxRecDepth 20000 in
theorem fld_RX5_19 : FldOK 5 3 RX5 19 9 23 true RX5 TX5 6 := ⟨by decide, (bg_2 31 rfl rfl), rfl, rfl, rfl, by decide⟩
set_option maxRecDepth 20000 in
theorem fld_RX5_23 : FldOK 5 5 RX5 23 9 0 false RX5 TX5 6 := ⟨by decide, (bg_2 35 rfl rfl), rfl, rfl, rfl, by decide⟩
set_option maxRecDepth 20000 in
theorem fld_RX5_27 : FldOK 5 0 RX5 27 9 0 true RX5 TX5 6 := ⟨by decide, (bg_2 24 rfl rfl), rfl, rfl, rfl, by decide⟩
set_option maxRecDepth 20000 in
theorem fld_RX5_30 : FldOK 5 1 RX5 30 9 13 true RX5 TX5 6 := ⟨by decide, (bg_2 27 rfl rfl), rfl, rfl, rfl, by decide⟩
set_option maxRecDepth 20000 in
theorem fld_RX5_34 : FldOK 9 2 RX5 34 13 0 true RX9 TX9 7 := ⟨by decide, (bg_1 198 rfl rfl), rfl, rfl, rfl, by decide⟩
set_option maxRecDepth 20000 in
theorem fld_RX5_38 : FldOK 9 0 RX5 38 13 0 true RX9 TX9 7 := ⟨by decide, (bg_1 194 rfl rfl), rfl, rfl, rfl, by decide⟩
set_option maxRecDepth 20000 in
theorem mo_X7_init : MOK mu_X7_init 3 := ⟨(bg_1 9 rfl rfl), (bg_1 237 rfl rfl), by decide⟩
set_option maxRecDepth 20000 in
theorem co_X5_init_39 : CallI mu_X5_init mu_X7_init 39 3 := ⟨⟨(bg_1 235 rfl rfl), mo_X7_init.1, mo_X7_init.2.1, mo_X7_init.2.2, by decide, by decide⟩, (bg_1 236 rfl rfl), rfl, rfl, rfl⟩
set_option maxRecDepth 20000 in
theorem nw_RX5_9 : Cond.classLink RX5 9 RX7 ∈ Big ∧ Cond.instantiable RX7 5 ∈ Big ∧ Cond.initialized RX7 ∈ Big := ⟨(bg_1 231 rfl rfl), (bg_1 234 rfl rfl), (bg_1 9 rfl rfl)⟩
set_option maxRecDepth 20000 in
theorem fld_RX5_42 : FldOK 5 4 RX5 42 9 11 false RX5 TX5 6 := ⟨by decide, (bg_2 32 rfl rfl), rfl, rfl, rfl, by decide⟩
set_option maxRecDepth 20000 in
theorem mo_X5_init : MOK mu_X5_init 4 := ⟨(bg_1 8 rfl rfl), (bg_1 229 rfl rfl), by decide⟩
set_option maxRecDepth 20000 in
theorem co_X10_makePartition_94 : CallI mu_X10_makePartition mu_X5_init 94 4 := ⟨⟨(bg_1 227 rfl rfl), mo_X5_init.1, mo_X5_init.2.1, mo_X5_init.2.2, by decide, by decide⟩, (bg_1 228 rfl rfl), rfl, rfl, rfl⟩
set_option maxRecDepth 20000 in
theorem fld_RX10_97 : FldOK 9 4 RX10 97 13 24 true RX9 TX9 7 := ⟨by decide, (bg_1 202 rfl rfl), rfl, rfl, rfl, by decide⟩
set_option maxRecDepth 20000 in
theorem nw_RX10_15 : Cond.classLink RX10 15 RX5 ∈ Big ∧ Cond.instantiable RX5 6 ∈ Big ∧ Cond.initialized RX5 ∈ Big := ⟨(bg_1 29 rfl rfl), (bg_1 226 rfl rfl), (bg_1 8 rfl rfl)⟩
set_option maxRecDepth 20000 in
theorem mo_X10_requireWithin : MOK mu_X10_requireWithin 3 := ⟨(bg_1 1 rfl rfl), (bg_1 102 rfl rfl), by decide⟩
set_option maxRecDepth 20000 in
theorem ms_X10_requireWithin : Cond.static mu_X10_requireWithin.1 ∈ Big := (bg_1 101 rfl rfl)
set_option maxRecDepth 20000 in
theorem co_X10_topic_73 : CallS mu_X10_topic mu_X10_requireWithin 73 3 := ⟨⟨(bg_1 100 rfl rfl), mo_X10_requireWithin.1, mo_X10_requireWithin.2.1, mo_X10_requireWithin.2.2, by decide, by decide⟩, ms_X10_requireWithin⟩
set_option maxRecDepth 20000 in
theorem mo_X9_init : MOK mu_X9_init 4 := ⟨(bg_1 7 rfl rfl), (bg_1 190 rfl rfl), by decide⟩
set_option maxRecDepth 20000 in
theorem co_X10_topic_84 : CallI mu_X10_topic mu_X9_init 84 4 := ⟨⟨(bg_1 188 rfl rfl), mo_X9_init.1, mo_X9_init.2.1, mo_X9_init.2.2, by decide, by decide⟩, (bg_1 189 rfl rfl), rfl, rfl, rfl⟩
set_option maxRecDepth 20000 in
theorem mo_X10_makePartition : MOK mu_X10_makePartition 2 := ⟨(bg_1 1 rfl rfl), (bg_1 225 rfl rfl), by decide⟩
set_option maxRecDepth 20000 in
theorem mv_X10_makePartition : Cond.instanceMethod mu_X10_makePartition.1 ∈ Big ∧ Cond.selects mu_X10_makePartition.1.cls mu_X10_makePartition.1 mu_X10_makePartition.1 ∈ Big := ⟨(bg_1 224 rfl rfl), (bg_s 1 (by decide +kernel) rfl)⟩
set_option maxRecDepth 20000 in
theorem co_X10_topic_87 : CallV mu_X10_topic mu_X10_makePartition 87 2 10 := ⟨⟨(bg_1 222 rfl rfl), mo_X10_makePartition.1, mo_X10_makePartition.2.1, mo_X10_makePartition.2.2, by decide, by decide⟩, mv_X10_makePartition.1, mv_X10_makePartition.2, rfl, _, _, cls_10⟩
set_option maxRecDepth 20000 in
theorem fld_RX10_91 : FldOK 9 0 RX10 91 13 0 true RX9 TX9 7 := ⟨by decide, (bg_1 195 rfl rfl), rfl, rfl, rfl, by decide⟩
set_option maxRecDepth 20000 in
theorem nw_RX10_9 : Cond.classLink RX10 9 RX9 ∈ Big ∧ Cond.instantiable RX9 7 ∈ Big ∧ Cond.initialized RX9 ∈ Big := ⟨(bg_1 27 rfl rfl), (bg_1 187 rfl rfl), (bg_1 7 rfl rfl)⟩
set_option maxRecDepth 20000 in
theorem tha_RX10_81 : (∀ w ∈ (vx_atS RX10 81 "java/lang/IllegalStateException" xnm).filter goodWord, w ∈ Big) ∧ (∀ w ∈ (vx_atS RX10 81 "java/lang/IllegalStateException" xnm).filter (fun w => !goodWord w), w ∈ [Cond.castable "java/lang/IllegalStateException" "java/lang/IllegalStateException", Cond.declares (Bundle.initS "java/lang/RuntimeException"), Cond.declares (Bundle.initS "java/lang/Exception"), Cond.declares (Bundle.initS "java/lang/Throwable")]) ∧ ∀ w ∈ vx_atS RX10 81 "java/lang/IllegalStateException" xnm, vx_ot w = true := ⟨bg_all (by decide +kernel), (by decide +kernel), (by decide +kernel)⟩
set_option maxRecDepth 20000 in
theorem thr_RX10_79 : ThrOK RX10 "java/lang/IllegalStateException" "no room for a topic, or a broker is not live" 77 79 81 := ⟨by decide, by decide, (bg_1 171 rfl rfl), (bg_1 6 rfl rfl), by decide, tha_RX10_81.1, tha_RX10_81.2.1, tha_RX10_81.2.2⟩
set_option maxRecDepth 20000 in
theorem tha_RX10_485 : (∀ w ∈ (vx_atS RX10 485 "java/lang/IndexOutOfBoundsException" xnm).filter goodWord, w ∈ Big) ∧ (∀ w ∈ (vx_atS RX10 485 "java/lang/IndexOutOfBoundsException" xnm).filter (fun w => !goodWord w), w ∈ [Cond.castable "java/lang/IndexOutOfBoundsException" "java/lang/IndexOutOfBoundsException", Cond.declares (Bundle.initS "java/lang/RuntimeException"), Cond.declares (Bundle.initS "java/lang/Exception"), Cond.declares (Bundle.initS "java/lang/Throwable")]) ∧ ∀ w ∈ vx_atS RX10 485 "java/lang/IndexOutOfBoundsException" xnm, vx_ot w = true := ⟨bg_all (by decide +kernel), (by decide +kernel), (by decide +kernel)⟩
set_option maxRecDepth 20000 in
theorem thr_RX10_629 : ThrOK RX10 "java/lang/IndexOutOfBoundsException" "no such partition" 481 629 485 := ⟨by decide, by decide, (bg_2 227 rfl rfl), (bg_1 14 rfl rfl), by decide, tha_RX10_485.1, tha_RX10_485.2.1, tha_RX10_485.2.2⟩
set_option maxRecDepth 20000 in
theorem fld_RX5_49 : FldOK 7 4 RX5 49 11 1 false RX7 TX7 5 := ⟨by decide, (bg_2 11 rfl rfl), rfl, rfl, rfl, by decide⟩
set_option maxRecDepth 20000 in
theorem fld_RX5_53 : FldOK 7 2 RX5 53 11 0 false RX7 TX7 5 := ⟨by decide, (bg_2 6 rfl rfl), rfl, rfl, rfl, by decide⟩
set_option maxRecDepth 20000 in
theorem mo_J9_min_7cf53 : MOK mu_J9_min_7cf53 2 := ⟨(bg_1 16 rfl rfl), (bg_3 156 rfl rfl), by decide⟩
set_option maxRecDepth 20000 in
theorem ms_J9_min_7cf53 : Cond.static mu_J9_min_7cf53.1 ∈ Big := (bg_3 155 rfl rfl)
set_option maxRecDepth 20000 in
theorem co_X5_highWatermark_61 : CallS mu_X5_highWatermark mu_J9_min_7cf53 61 2 := ⟨⟨(bg_3 154 rfl rfl), mo_J9_min_7cf53.1, mo_J9_min_7cf53.2.1, mo_J9_min_7cf53.2.2, by decide, by decide⟩, ms_J9_min_7cf53⟩
set_option maxRecDepth 20000 in
theorem mo_X5_highWatermark : MOK mu_X5_highWatermark 0 := ⟨(bg_1 8 rfl rfl), (bg_3 153 rfl rfl), by decide⟩
set_option maxRecDepth 20000 in
theorem mv_X5_highWatermark : Cond.instanceMethod mu_X5_highWatermark.1 ∈ Big ∧ Cond.selects mu_X5_highWatermark.1.cls mu_X5_highWatermark.1 mu_X5_highWatermark.1 ∈ Big := ⟨(bg_3 151 rfl rfl), (bg_3 152 rfl rfl)⟩
set_option maxRecDepth 20000 in
theorem co_X5_stableOffset_67 : CallV mu_X5_stableOffset mu_X5_highWatermark 67 0 5 := ⟨⟨(bg_3 150 rfl rfl), mo_X5_highWatermark.1, mo_X5_highWatermark.2.1, mo_X5_highWatermark.2.2, by decide, by decide⟩, mv_X5_highWatermark.1, mv_X5_highWatermark.2, rfl, _, _, cls_5⟩
set_option maxRecDepth 20000 in
theorem mo_X5_messageAt : MOK mu_X5_messageAt 1 := ⟨(bg_1 8 rfl rfl), (bg_3 160 rfl rfl), by decide⟩
set_option maxRecDepth 20000 in
theorem mv_X5_messageAt : Cond.instanceMethod mu_X5_messageAt.1 ∈ Big ∧ Cond.selects mu_X5_messageAt.1.cls mu_X5_messageAt.1 mu_X5_messageAt.1 ∈ Big := ⟨(bg_3 159 rfl rfl), (bg_s 11 (by decide +kernel) rfl)⟩
set_option maxRecDepth 20000 in
theorem co_X5_stableOffset_71 : CallV mu_X5_stableOffset mu_X5_messageAt 71 1 5 := ⟨⟨(bg_3 157 rfl rfl), mo_X5_messageAt.1, mo_X5_messageAt.2.1, mo_X5_messageAt.2.2, by decide, by decide⟩, mv_X5_messageAt.1, mv_X5_messageAt.2, rfl, _, _, cls_5⟩
set_option maxRecDepth 20000 in
theorem fld_RX5_75 : FldOK 4 8 RX5 75 8 0 false RX4 TX4 11 := ⟨by decide, (bg_4 188 rfl rfl), rfl, rfl, rfl, by decide⟩
set_option maxRecDepth 20000 in
theorem co_X5_storedAt_71 : CallV mu_X5_storedAt mu_X5_messageAt 71 1 5 := ⟨⟨(bg_3 157 rfl rfl), mo_X5_messageAt.1, mo_X5_messageAt.2.1, mo_X5_messageAt.2.2, by decide, by decide⟩, mv_X5_messageAt.1, mv_X5_messageAt.2, rfl, _, _, cls_5⟩
set_option maxRecDepth 20000 in
theorem fld_RX5_78 : FldOK 4 7 RX5 78 8 0 false RX4 TX4 11 := ⟨by decide, (bg_4 185 rfl rfl), rfl, rfl, rfl, by decide⟩
set_option maxRecDepth 20000 in
theorem fld_RX4_44 : FldOK 4 8 RX4 44 8 0 false RX4 TX4 11 := ⟨by decide, (bg_4 186 rfl rfl), rfl, rfl, rfl, by decide⟩
set_option maxRecDepth 20000 in
theorem mo_X5_storedAt : MOK mu_X5_storedAt 1 := ⟨(bg_1 8 rfl rfl), (bg_4 19 rfl rfl), by decide⟩
set_option maxRecDepth 20000 in
theorem mv_X5_storedAt : Cond.instanceMethod mu_X5_storedAt.1 ∈ Big ∧ Cond.selects mu_X5_storedAt.1.cls mu_X5_storedAt.1 mu_X5_storedAt.1 ∈ Big := ⟨(bg_4 17 rfl rfl), (bg_4 18 rfl rfl)⟩
set_option maxRecDepth 20000 in
theorem co_X5_readableAt_81 : CallV mu_X5_readableAt mu_X5_storedAt 81 1 5 := ⟨⟨(bg_4 16 rfl rfl), mo_X5_storedAt.1, mo_X5_storedAt.2.1, mo_X5_storedAt.2.2, by decide, by decide⟩, mv_X5_storedAt.1, mv_X5_storedAt.2, rfl, _, _, cls_5⟩
set_option maxRecDepth 20000 in
theorem mo_X4_isPlainOrCommitted : MOK mu_X4_isPlainOrCommitted 0 := ⟨(bg_1 17 rfl rfl), (bg_3 145 rfl rfl), by decide⟩
set_option maxRecDepth 20000 in
theorem mv_X4_isPlainOrCommitted : Cond.instanceMethod mu_X4_isPlainOrCommitted.1 ∈ Big ∧ Cond.selects mu_X4_isPlainOrCommitted.1.cls mu_X4_isPlainOrCommitted.1 mu_X4_isPlainOrCommitted.1 ∈ Big := ⟨(bg_3 143 rfl rfl), (bg_3 144 rfl rfl)⟩
set_option maxRecDepth 20000 in
theorem co_X5_readableAt_84 : CallV mu_X5_readableAt mu_X4_isPlainOrCommitted 84 0 4 := ⟨⟨(bg_4 20 rfl rfl), mo_X4_isPlainOrCommitted.1, mo_X4_isPlainOrCommitted.2.1, mo_X4_isPlainOrCommitted.2.2, by decide, by decide⟩, mv_X4_isPlainOrCommitted.1, mv_X4_isPlainOrCommitted.2, rfl, _, _, cls_4⟩
set_option maxRecDepth 20000 in
theorem mo_X5_readableAt : MOK mu_X5_readableAt 2 := ⟨(bg_1 8 rfl rfl), (bg_4 15 rfl rfl), by decide⟩
set_option maxRecDepth 20000 in
theorem mv_X5_readableAt : Cond.instanceMethod mu_X5_readableAt.1 ∈ Big ∧ Cond.selects mu_X5_readableAt.1.cls mu_X5_readableAt.1 mu_X5_readableAt.1 ∈ Big := ⟨(bg_4 13 rfl rfl), (bg_4 14 rfl rfl)⟩
set_option maxRecDepth 20000 in
theorem co_X5_lastReadable_88 : CallV mu_X5_lastReadable mu_X5_readableAt 88 2 5 := ⟨⟨(bg_4 98 rfl rfl), mo_X5_readableAt.1, mo_X5_readableAt.2.1, mo_X5_readableAt.2.2, by decide, by decide⟩, mv_X5_readableAt.1, mv_X5_readableAt.2, rfl, _, _, cls_5⟩
set_option maxRecDepth 20000 in
theorem fld_RX5_92 : FldOK 4 3 RX5 92 8 0 true RX4 TX4 11 := ⟨by decide, (bg_4 176 rfl rfl), rfl, rfl, rfl, by decide⟩
set_option maxRecDepth 20000 in
theorem fld_RX10_141 : FldOK 4 8 RX10 141 8 0 false RX4 TX4 11 := ⟨by decide, (bg_4 187 rfl rfl), rfl, rfl, rfl, by decide⟩
set_option maxRecDepth 20000 in
theorem fld_RX10_144 : FldOK 4 2 RX10 144 8 9 true RX4 TX4 11 := ⟨by decide, (bg_4 170 rfl rfl), rfl, rfl, rfl, by decide⟩
set_option maxRecDepth 20000 in
theorem fld_RX10_148 : FldOK 4 3 RX10 148 8 0 true RX4 TX4 11 := ⟨by decide, (bg_4 175 rfl rfl), rfl, rfl, rfl, by decide⟩
set_option maxRecDepth 20000 in
theorem mo_X5_lastReadable : MOK mu_X5_lastReadable 2 := ⟨(bg_1 8 rfl rfl), (bg_4 97 rfl rfl), by decide⟩
set_option maxRecDepth 20000 in
theorem mv_X5_lastReadable : Cond.instanceMethod mu_X5_lastReadable.1 ∈ Big ∧ Cond.selects mu_X5_lastReadable.1.cls mu_X5_lastReadable.1 mu_X5_lastReadable.1 ∈ Big := ⟨(bg_4 95 rfl rfl), (bg_4 96 rfl rfl)⟩
set_option maxRecDepth 20000 in
theorem co_X10_isCompactedAway_151 : CallV mu_X10_isCompactedAway mu_X5_lastReadable 151 2 5 := ⟨⟨(bg_4 94 rfl rfl), mo_X5_lastReadable.1, mo_X5_lastReadable.2.1, mo_X5_lastReadable.2.2, by decide, by decide⟩, mv_X5_lastReadable.1, mv_X5_lastReadable.2, rfl, _, _, cls_5⟩
set_option maxRecDepth 20000 in
theorem fld_RX10_155 : FldOK 4 4 RX10 155 8 0 true RX4 TX4 11 := ⟨by decide, (bg_4 178 rfl rfl), rfl, rfl, rfl, by decide⟩
set_option maxRecDepth 20000 in
theorem fld_RX10_158 : FldOK 4 10 RX10 158 8 0 false RX4 TX4 11 := ⟨by decide, (bg_4 196 rfl rfl), rfl, rfl, rfl, by decide⟩
set_option maxRecDepth 20000 in
theorem mo_X10_partitionOf : MOK mu_X10_partitionOf 1 := ⟨(bg_1 1 rfl rfl), (bg_4 109 rfl rfl), by decide⟩
set_option maxRecDepth 20000 in
theorem mv_X10_partitionOf : Cond.instanceMethod mu_X10_partitionOf.1 ∈ Big ∧ Cond.selects mu_X10_partitionOf.1.cls mu_X10_partitionOf.1 mu_X10_partitionOf.1 ∈ Big := ⟨(bg_4 108 rfl rfl), (bg_s 19 (by decide +kernel) rfl)⟩
set_option maxRecDepth 20000 in
theorem co_X10_compact_116 : CallV mu_X10_compact mu_X10_partitionOf 116 1 10 := ⟨⟨(bg_4 106 rfl rfl), mo_X10_partitionOf.1, mo_X10_partitionOf.2.1, mo_X10_partitionOf.2.2, by decide, by decide⟩, mv_X10_partitionOf.1, mv_X10_partitionOf.2, rfl, _, _, cls_10⟩
set_option maxRecDepth 20000 in
theorem fld_RX10_120 : FldOK 5 1 RX10 120 9 13 true RX5 TX5 6 := ⟨by decide, (bg_2 28 rfl rfl), rfl, rfl, rfl, by decide⟩
set_option maxRecDepth 20000 in
theorem fld_RX10_104 : FldOK 9 3 RX10 104 13 1 true RX9 TX9 7 := ⟨by decide, (bg_1 200 rfl rfl), rfl, rfl, rfl, by decide⟩
set_option maxRecDepth 20000 in
theorem thr_RX10_124 : ThrOK RX10 "java/lang/IllegalStateException" "the topic is not compacted" 77 124 81 := ⟨by decide, by decide, (bg_1 171 rfl rfl), (bg_1 6 rfl rfl), by decide, tha_RX10_81.1, tha_RX10_81.2.1, tha_RX10_81.2.2⟩
set_option maxRecDepth 20000 in
theorem mo_X5_stableOffset : MOK mu_X5_stableOffset 0 := ⟨(bg_1 8 rfl rfl), (bg_3 149 rfl rfl), by decide⟩
set_option maxRecDepth 20000 in
theorem mv_X5_stableOffset : Cond.instanceMethod mu_X5_stableOffset.1 ∈ Big ∧ Cond.selects mu_X5_stableOffset.1.cls mu_X5_stableOffset.1 mu_X5_stableOffset.1 ∈ Big := ⟨(bg_3 147 rfl rfl), (bg_3 148 rfl rfl)⟩
set_option maxRecDepth 20000 in
theorem co_X10_compact_126 : CallV mu_X10_compact mu_X5_stableOffset 126 0 5 := ⟨⟨(bg_4 93 rfl rfl), mo_X5_stableOffset.1, mo_X5_stableOffset.2.1, mo_X5_stableOffset.2.2, by decide, by decide⟩, mv_X5_stableOffset.1, mv_X5_stableOffset.2, rfl, _, _, cls_5⟩
set_option maxRecDepth 20000 in
theorem co_X10_compact_130 : CallV mu_X10_compact mu_X5_storedAt 130 1 5 := ⟨⟨(bg_4 112 rfl rfl), mo_X5_storedAt.1, mo_X5_storedAt.2.1, mo_X5_storedAt.2.2, by decide, by decide⟩, mv_X5_storedAt.1, mv_X5_storedAt.2, rfl, _, _, cls_5⟩
set_option maxRecDepth 20000 in
theorem mo_X10_isCompactedAway : MOK mu_X10_isCompactedAway 2 := ⟨(bg_1 1 rfl rfl), (bg_4 116 rfl rfl), by decide⟩
set_option maxRecDepth 20000 in
theorem mv_X10_isCompactedAway : Cond.instanceMethod mu_X10_isCompactedAway.1 ∈ Big ∧ Cond.selects mu_X10_isCompactedAway.1.cls mu_X10_isCompactedAway.1 mu_X10_isCompactedAway.1 ∈ Big := ⟨(bg_4 115 rfl rfl), (bg_s 20 (by decide +kernel) rfl)⟩
set_option maxRecDepth 20000 in
theorem co_X10_compact_134 : CallV mu_X10_compact mu_X10_isCompactedAway 134 2 10 := ⟨⟨(bg_4 113 rfl rfl), mo_X10_isCompactedAway.1, mo_X10_isCompactedAway.2.1, mo_X10_isCompactedAway.2.2, by decide, by decide⟩, mv_X10_isCompactedAway.1, mv_X10_isCompactedAway.2, rfl, _, _, cls_10⟩
set_option maxRecDepth 20000 in
theorem fld_RX10_138 : FldOK 4 7 RX10 138 8 0 false RX4 TX4 11 := ⟨by decide, (bg_4 184 rfl rfl), rfl, rfl, rfl, by decide⟩
set_option maxRecDepth 20000 in
theorem thr_RX10_625 : ThrOK RX10 "java/lang/IndexOutOfBoundsException" "no such broker" 481 625 485 := ⟨by decide, by decide, (bg_2 227 rfl rfl), (bg_1 14 rfl rfl), by decide, tha_RX10_485.1, tha_RX10_485.2.1, tha_RX10_485.2.2⟩
set_option maxRecDepth 20000 in
theorem fld_RX5_46 : FldOK 7 1 RX5 46 11 0 true RX7 TX7 5 := ⟨by decide, (bg_2 3 rfl rfl), rfl, rfl, rfl, by decide⟩
set_option maxRecDepth 20000 in
theorem co_X5_takeAt_71 : CallV mu_X5_takeAt mu_X5_messageAt 71 1 5 := ⟨⟨(bg_3 157 rfl rfl), mo_X5_messageAt.1, mo_X5_messageAt.2.1, mo_X5_messageAt.2.2, by decide, by decide⟩, mv_X5_messageAt.1, mv_X5_messageAt.2, rfl, _, _, cls_5⟩
set_option maxRecDepth 20000 in
theorem fld_RX10_215 : FldOK 4 6 RX10 215 8 0 true RX4 TX4 11 := ⟨by decide, (bg_4 182 rfl rfl), rfl, rfl, rfl, by decide⟩
set_option maxRecDepth 20000 in
theorem mo_X5_takeAt : MOK mu_X5_takeAt 1 := ⟨(bg_1 8 rfl rfl), (bg_5 119 rfl rfl), by decide⟩
set_option maxRecDepth 20000 in
theorem mv_X5_takeAt : Cond.instanceMethod mu_X5_takeAt.1 ∈ Big ∧ Cond.selects mu_X5_takeAt.1.cls mu_X5_takeAt.1 mu_X5_takeAt.1 ∈ Big := ⟨(bg_5 117 rfl rfl), (bg_5 118 rfl rfl)⟩
set_option maxRecDepth 20000 in
theorem co_X10_cutFrom_202 : CallV mu_X10_cutFrom mu_X5_takeAt 202 1 5 := ⟨⟨(bg_5 116 rfl rfl), mo_X5_takeAt.1, mo_X5_takeAt.2.1, mo_X5_takeAt.2.2, by decide, by decide⟩, mv_X5_takeAt.1, mv_X5_takeAt.2, rfl, _, _, cls_5⟩
set_option maxRecDepth 20000 in
theorem fld_RX10_205 : FldOK 4 9 RX10 205 8 0 false RX4 TX4 11 := ⟨by decide, (bg_4 192 rfl rfl), rfl, rfl, rfl, by decide⟩
set_option maxRecDepth 20000 in
theorem fld_RX10_208 : FldOK 4 1 RX10 208 8 10 true RX4 TX4 11 := ⟨by decide, (bg_4 165 rfl rfl), rfl, rfl, rfl, by decide⟩
set_option maxRecDepth 20000 in
theorem fld_RX10_212 : FldOK 6 4 RX10 212 10 1 false RX6 TX6 9 := ⟨by decide, (bg_2 73 rfl rfl), rfl, rfl, rfl, by decide⟩
set_option maxRecDepth 20000 in
theorem mo_X10_settle : MOK mu_X10_settle 2 := ⟨(bg_1 1 rfl rfl), (bg_5 42 rfl rfl), by decide⟩
set_option maxRecDepth 20000 in
theorem mv_X10_settle : Cond.instanceMethod mu_X10_settle.1 ∈ Big ∧ Cond.selects mu_X10_settle.1.cls mu_X10_settle.1 mu_X10_settle.1 ∈ Big := ⟨(bg_5 41 rfl rfl), (bg_s 29 (by decide +kernel) rfl)⟩
set_option maxRecDepth 20000 in
theorem co_X10_cutFrom_218 : CallV mu_X10_cutFrom mu_X10_settle 218 2 10 := ⟨⟨(bg_5 39 rfl rfl), mo_X10_settle.1, mo_X10_settle.2.1, mo_X10_settle.2.2, by decide, by decide⟩, mv_X10_settle.1, mv_X10_settle.2, rfl, _, _, cls_10⟩
set_option maxRecDepth 20000 in
theorem fld_RX10_179 : FldOK 5 4 RX10 179 9 11 false RX5 TX5 6 := ⟨by decide, (bg_2 33 rfl rfl), rfl, rfl, rfl, by decide⟩
set_option maxRecDepth 20000 in
theorem mo_X5_firstInSyncBut : MOK mu_X5_firstInSyncBut 1 := ⟨(bg_1 8 rfl rfl), (bg_5 111 rfl rfl), by decide⟩
set_option maxRecDepth 20000 in
theorem mv_X5_firstInSyncBut : Cond.instanceMethod mu_X5_firstInSyncBut.1 ∈ Big ∧ Cond.selects mu_X5_firstInSyncBut.1.cls mu_X5_firstInSyncBut.1 mu_X5_firstInSyncBut.1 ∈ Big := ⟨(bg_5 109 rfl rfl), (bg_5 110 rfl rfl)⟩
set_option maxRecDepth 20000 in
theorem co_X10_loseReplica_188 : CallV mu_X10_loseReplica mu_X5_firstInSyncBut 188 1 5 := ⟨⟨(bg_5 108 rfl rfl), mo_X5_firstInSyncBut.1, mo_X5_firstInSyncBut.2.1, mo_X5_firstInSyncBut.2.2, by decide, by decide⟩, mv_X5_firstInSyncBut.1, mv_X5_firstInSyncBut.2, rfl, _, _, cls_5⟩
set_option maxRecDepth 20000 in
theorem fld_RX10_183 : FldOK 7 4 RX10 183 11 1 false RX7 TX7 5 := ⟨by decide, (bg_2 12 rfl rfl), rfl, rfl, rfl, by decide⟩
set_option maxRecDepth 20000 in
theorem fld_RX10_192 : FldOK 7 2 RX10 192 11 0 false RX7 TX7 5 := ⟨by decide, (bg_2 7 rfl rfl), rfl, rfl, rfl, by decide⟩
set_option maxRecDepth 20000 in
theorem mo_X10_cutFrom : MOK mu_X10_cutFrom 2 := ⟨(bg_1 1 rfl rfl), (bg_5 115 rfl rfl), by decide⟩
set_option maxRecDepth 20000 in
theorem mv_X10_cutFrom : Cond.instanceMethod mu_X10_cutFrom.1 ∈ Big ∧ Cond.selects mu_X10_cutFrom.1.cls mu_X10_cutFrom.1 mu_X10_cutFrom.1 ∈ Big := ⟨(bg_5 114 rfl rfl), (bg_s 32 (by decide +kernel) rfl)⟩
set_option maxRecDepth 20000 in
theorem co_X10_loseReplica_195 : CallV mu_X10_loseReplica mu_X10_cutFrom 195 2 10 := ⟨⟨(bg_5 112 rfl rfl), mo_X10_cutFrom.1, mo_X10_cutFrom.2.1, mo_X10_cutFrom.2.2, by decide, by decide⟩, mv_X10_cutFrom.1, mv_X10_cutFrom.2, rfl, _, _, cls_10⟩
set_option maxRecDepth 20000 in
theorem mo_X5_lowerEnds : MOK mu_X5_lowerEnds 0 := ⟨(bg_1 8 rfl rfl), (bg_5 123 rfl rfl), by decide⟩
set_option maxRecDepth 20000 in
theorem mv_X5_lowerEnds : Cond.instanceMethod mu_X5_lowerEnds.1 ∈ Big ∧ Cond.selects mu_X5_lowerEnds.1.cls mu_X5_lowerEnds.1 mu_X5_lowerEnds.1 ∈ Big := ⟨(bg_5 121 rfl rfl), (bg_5 122 rfl rfl)⟩
set_option maxRecDepth 20000 in
theorem co_X10_loseReplica_199 : CallV mu_X10_loseReplica mu_X5_lowerEnds 199 0 5 := ⟨⟨(bg_5 120 rfl rfl), mo_X5_lowerEnds.1, mo_X5_lowerEnds.2.1, mo_X5_lowerEnds.2.2, by decide, by decide⟩, mv_X5_lowerEnds.1, mv_X5_lowerEnds.2, rfl, _, _, cls_5⟩
set_option maxRecDepth 20000 in
theorem mo_X10_requireBroker : MOK mu_X10_requireBroker 1 := ⟨(bg_1 1 rfl rfl), (bg_5 93 rfl rfl), by decide⟩
set_option maxRecDepth 20000 in
theorem ms_X10_requireBroker : Cond.static mu_X10_requireBroker.1 ∈ Big := (bg_5 92 rfl rfl)
set_option maxRecDepth 20000 in
theorem co_X10_fail_161 : CallS mu_X10_fail mu_X10_requireBroker 161 1 := ⟨⟨(bg_5 91 rfl rfl), mo_X10_requireBroker.1, mo_X10_requireBroker.2.1, mo_X10_requireBroker.2.2, by decide, by decide⟩, ms_X10_requireBroker⟩
set_option maxRecDepth 20000 in
theorem mo_X10_isLive : MOK mu_X10_isLive 1 := ⟨(bg_1 1 rfl rfl), (bg_5 98 rfl rfl), by decide⟩
set_option maxRecDepth 20000 in
theorem mv_X10_isLive : Cond.instanceMethod mu_X10_isLive.1 ∈ Big ∧ Cond.selects mu_X10_isLive.1.cls mu_X10_isLive.1 mu_X10_isLive.1 ∈ Big := ⟨(bg_5 97 rfl rfl), (bg_s 30 (by decide +kernel) rfl)⟩
set_option maxRecDepth 20000 in
theorem co_X10_fail_165 : CallV mu_X10_fail mu_X10_isLive 165 1 10 := ⟨⟨(bg_5 95 rfl rfl), mo_X10_isLive.1, mo_X10_isLive.2.1, mo_X10_isLive.2.2, by decide, by decide⟩, mv_X10_isLive.1, mv_X10_isLive.2, rfl, _, _, cls_10⟩
set_option maxRecDepth 20000 in
theorem thr_RX10_169 : ThrOK RX10 "java/lang/IllegalStateException" "the broker is not live" 77 169 81 := ⟨by decide, by decide, (bg_1 171 rfl rfl), (bg_1 6 rfl rfl), by decide, tha_RX10_81.1, tha_RX10_81.2.1, tha_RX10_81.2.2⟩
set_option maxRecDepth 20000 in
theorem mo_X5_replicaOn : MOK mu_X5_replicaOn 1 := ⟨(bg_1 8 rfl rfl), (bg_5 103 rfl rfl), by decide⟩
set_option maxRecDepth 20000 in
theorem mv_X5_replicaOn : Cond.instanceMethod mu_X5_replicaOn.1 ∈ Big ∧ Cond.selects mu_X5_replicaOn.1.cls mu_X5_replicaOn.1 mu_X5_replicaOn.1 ∈ Big := ⟨(bg_5 101 rfl rfl), (bg_5 102 rfl rfl)⟩
set_option maxRecDepth 20000 in
theorem co_X10_fail_171 : CallV mu_X10_fail mu_X5_replicaOn 171 1 5 := ⟨⟨(bg_5 100 rfl rfl), mo_X5_replicaOn.1, mo_X5_replicaOn.2.1, mo_X5_replicaOn.2.2, by decide, by decide⟩, mv_X5_replicaOn.1, mv_X5_replicaOn.2, rfl, _, _, cls_5⟩
set_option maxRecDepth 20000 in
theorem mo_X10_loseReplica : MOK mu_X10_loseReplica 2 := ⟨(bg_1 1 rfl rfl), (bg_5 107 rfl rfl), by decide⟩
set_option maxRecDepth 20000 in
theorem mv_X10_loseReplica : Cond.instanceMethod mu_X10_loseReplica.1 ∈ Big ∧ Cond.selects mu_X10_loseReplica.1.cls mu_X10_loseReplica.1 mu_X10_loseReplica.1 ∈ Big := ⟨(bg_5 106 rfl rfl), (bg_s 31 (by decide +kernel) rfl)⟩
set_option maxRecDepth 20000 in
theorem co_X10_fail_175 : CallV mu_X10_fail mu_X10_loseReplica 175 2 10 := ⟨⟨(bg_5 104 rfl rfl), mo_X10_loseReplica.1, mo_X10_loseReplica.2.1, mo_X10_loseReplica.2.2, by decide, by decide⟩, mv_X10_loseReplica.1, mv_X10_loseReplica.2, rfl, _, _, cls_10⟩
set_option maxRecDepth 20000 in
theorem co_X10_restore_161 : CallS mu_X10_restore mu_X10_requireBroker 161 1 := ⟨⟨(bg_5 91 rfl rfl), mo_X10_requireBroker.1, mo_X10_requireBroker.2.1, mo_X10_requireBroker.2.2, by decide, by decide⟩, ms_X10_requireBroker⟩
set_option maxRecDepth 20000 in
theorem co_X10_restore_165 : CallV mu_X10_restore mu_X10_isLive 165 1 10 := ⟨⟨(bg_5 95 rfl rfl), mo_X10_isLive.1, mo_X10_isLive.2.1, mo_X10_isLive.2.2, by decide, by decide⟩, mv_X10_isLive.1, mv_X10_isLive.2, rfl, _, _, cls_10⟩
set_option maxRecDepth 20000 in
theorem co_X10_restore_171 : CallV mu_X10_restore mu_X5_replicaOn 171 1 5 := ⟨⟨(bg_5 100 rfl rfl), mo_X5_replicaOn.1, mo_X5_replicaOn.2.1, mo_X5_replicaOn.2.2, by decide, by decide⟩, mv_X5_replicaOn.1, mv_X5_replicaOn.2, rfl, _, _, cls_5⟩
set_option maxRecDepth 20000 in
theorem thr_RX10_222 : ThrOK RX10 "java/lang/IllegalStateException" "the broker is live" 77 222 81 := ⟨by decide, by decide, (bg_1 171 rfl rfl), (bg_1 6 rfl rfl), by decide, tha_RX10_81.1, tha_RX10_81.2.1, tha_RX10_81.2.2⟩
set_option maxRecDepth 20000 in
theorem co_X10_fetch_161 : CallS mu_X10_fetch mu_X10_requireBroker 161 1 := ⟨⟨(bg_5 91 rfl rfl), mo_X10_requireBroker.1, mo_X10_requireBroker.2.1, mo_X10_requireBroker.2.2, by decide, by decide⟩, ms_X10_requireBroker⟩
set_option maxRecDepth 20000 in
theorem co_X10_fetch_165 : CallV mu_X10_fetch mu_X10_isLive 165 1 10 := ⟨⟨(bg_5 95 rfl rfl), mo_X10_isLive.1, mo_X10_isLive.2.1, mo_X10_isLive.2.2, by decide, by decide⟩, mv_X10_isLive.1, mv_X10_isLive.2, rfl, _, _, cls_10⟩
set_option maxRecDepth 20000 in
theorem co_X10_fetch_171 : CallV mu_X10_fetch mu_X5_replicaOn 171 1 5 := ⟨⟨(bg_5 100 rfl rfl), mo_X5_replicaOn.1, mo_X5_replicaOn.2.1, mo_X5_replicaOn.2.2, by decide, by decide⟩, mv_X5_replicaOn.1, mv_X5_replicaOn.2, rfl, _, _, cls_5⟩
set_option maxRecDepth 20000 in
theorem mo_X7_catchUp : MOK mu_X7_catchUp 1 := ⟨(bg_1 9 rfl rfl), (bg_5 142 rfl rfl), by decide⟩
set_option maxRecDepth 20000 in
theorem mv_X7_catchUp : Cond.instanceMethod mu_X7_catchUp.1 ∈ Big ∧ Cond.selects mu_X7_catchUp.1.cls mu_X7_catchUp.1 mu_X7_catchUp.1 ∈ Big := ⟨(bg_5 140 rfl rfl), (bg_5 141 rfl rfl)⟩
set_option maxRecDepth 20000 in
theorem co_X10_fetch_224 : CallV mu_X10_fetch mu_X7_catchUp 224 1 7 := ⟨⟨(bg_5 139 rfl rfl), mo_X7_catchUp.1, mo_X7_catchUp.2.1, mo_X7_catchUp.2.2, by decide, by decide⟩, mv_X7_catchUp.1, mv_X7_catchUp.2, rfl, _, _, cls_7⟩
set_option maxRecDepth 20000 in
theorem co_X10_speed_73 : CallS mu_X10_speed mu_X10_requireWithin 73 3 := ⟨⟨(bg_1 100 rfl rfl), mo_X10_requireWithin.1, mo_X10_requireWithin.2.1, mo_X10_requireWithin.2.2, by decide, by decide⟩, ms_X10_requireWithin⟩
set_option maxRecDepth 20000 in
theorem fld_RX4_9 : FldOK 4 7 RX4 9 8 0 false RX4 TX4 11 := ⟨by decide, (bg_4 183 rfl rfl), rfl, rfl, rfl, by decide⟩
set_option maxRecDepth 20000 in
theorem fld_RX4_24 : FldOK 4 1 RX4 24 8 10 true RX4 TX4 11 := ⟨by decide, (bg_4 164 rfl rfl), rfl, rfl, rfl, by decide⟩
set_option maxRecDepth 20000 in
theorem fld_RX4_28 : FldOK 4 2 RX4 28 8 9 true RX4 TX4 11 := ⟨by decide, (bg_4 167 rfl rfl), rfl, rfl, rfl, by decide⟩
set_option maxRecDepth 20000 in
theorem mo_X4_isPlainCutOf : MOK mu_X4_isPlainCutOf 2 := ⟨(bg_1 17 rfl rfl), (bg_4 147 rfl rfl), by decide⟩
set_option maxRecDepth 20000 in
theorem mv_X4_isPlainCutOf : Cond.instanceMethod mu_X4_isPlainCutOf.1 ∈ Big ∧ Cond.selects mu_X4_isPlainCutOf.1.cls mu_X4_isPlainCutOf.1 mu_X4_isPlainCutOf.1 ∈ Big := ⟨(bg_4 145 rfl rfl), (bg_4 146 rfl rfl)⟩
set_option maxRecDepth 20000 in
theorem co_X10_plainCutCount_312 : CallV mu_X10_plainCutCount mu_X4_isPlainCutOf 312 2 4 := ⟨⟨(bg_4 144 rfl rfl), mo_X4_isPlainCutOf.1, mo_X4_isPlainCutOf.2.1, mo_X4_isPlainCutOf.2.2, by decide, by decide⟩, mv_X4_isPlainCutOf.1, mv_X4_isPlainCutOf.2, rfl, _, _, cls_4⟩
set_option maxRecDepth 20000 in
theorem mo_X10_plainCutCount : MOK mu_X10_plainCutCount 2 := ⟨(bg_1 1 rfl rfl), (bg_4 143 rfl rfl), by decide⟩
set_option maxRecDepth 20000 in
theorem mv_X10_plainCutCount : Cond.instanceMethod mu_X10_plainCutCount.1 ∈ Big ∧ Cond.selects mu_X10_plainCutCount.1.cls mu_X10_plainCutCount.1 mu_X10_plainCutCount.1 ∈ Big := ⟨(bg_4 142 rfl rfl), (bg_s 24 (by decide +kernel) rfl)⟩
set_option maxRecDepth 20000 in
theorem co_X10_canAppend_308 : CallV mu_X10_canAppend mu_X10_plainCutCount 308 2 10 := ⟨⟨(bg_4 140 rfl rfl), mo_X10_plainCutCount.1, mo_X10_plainCutCount.2.1, mo_X10_plainCutCount.2.2, by decide, by decide⟩, mv_X10_plainCutCount.1, mv_X10_plainCutCount.2, rfl, _, _, cls_10⟩
set_option maxRecDepth 20000 in
theorem fld_RX5_98 : FldOK 4 9 RX5 98 8 0 false RX4 TX4 11 := ⟨by decide, (bg_4 193 rfl rfl), rfl, rfl, rfl, by decide⟩
set_option maxRecDepth 20000 in
theorem fld_RX5_101 : FldOK 4 10 RX5 101 8 0 false RX4 TX4 11 := ⟨by decide, (bg_4 197 rfl rfl), rfl, rfl, rfl, by decide⟩
set_option maxRecDepth 20000 in
theorem fld_RX10_249 : FldOK 4 5 RX10 249 8 0 true RX4 TX4 11 := ⟨by decide, (bg_4 180 rfl rfl), rfl, rfl, rfl, by decide⟩
set_option maxRecDepth 20000 in
theorem mo_X10_canAppend : MOK mu_X10_canAppend 2 := ⟨(bg_1 1 rfl rfl), (bg_4 139 rfl rfl), by decide⟩
set_option maxRecDepth 20000 in
theorem mv_X10_canAppend : Cond.instanceMethod mu_X10_canAppend.1 ∈ Big ∧ Cond.selects mu_X10_canAppend.1.cls mu_X10_canAppend.1 mu_X10_canAppend.1 ∈ Big := ⟨(bg_4 138 rfl rfl), (bg_s 23 (by decide +kernel) rfl)⟩
set_option maxRecDepth 20000 in
theorem co_X10_appendDelayed_252 : CallV mu_X10_appendDelayed mu_X10_canAppend 252 2 10 := ⟨⟨(bg_4 136 rfl rfl), mo_X10_canAppend.1, mo_X10_canAppend.2.1, mo_X10_canAppend.2.2, by decide, by decide⟩, mv_X10_canAppend.1, mv_X10_canAppend.2, rfl, _, _, cls_10⟩
set_option maxRecDepth 20000 in
theorem mo_X5_append : MOK mu_X5_append 2 := ⟨(bg_1 8 rfl rfl), (bg_4 228 rfl rfl), by decide⟩
set_option maxRecDepth 20000 in
theorem mv_X5_append : Cond.instanceMethod mu_X5_append.1 ∈ Big ∧ Cond.selects mu_X5_append.1.cls mu_X5_append.1 mu_X5_append.1 ∈ Big := ⟨(bg_4 226 rfl rfl), (bg_4 227 rfl rfl)⟩
set_option maxRecDepth 20000 in
theorem co_X10_appendDelayed_256 : CallV mu_X10_appendDelayed mu_X5_append 256 2 5 := ⟨⟨(bg_4 225 rfl rfl), mo_X5_append.1, mo_X5_append.2.1, mo_X5_append.2.2, by decide, by decide⟩, mv_X5_append.1, mv_X5_append.2, rfl, _, _, cls_5⟩
set_option maxRecDepth 20000 in
theorem fld_RX10_276 : FldOK 7 1 RX10 276 11 0 true RX7 TX7 5 := ⟨by decide, (bg_2 4 rfl rfl), rfl, rfl, rfl, by decide⟩
set_option maxRecDepth 20000 in
theorem co_X10_isFollower_165 : CallV mu_X10_isFollower mu_X10_isLive 165 1 10 := ⟨⟨(bg_5 95 rfl rfl), mo_X10_isLive.1, mo_X10_isLive.2.1, mo_X10_isLive.2.2, by decide, by decide⟩, mv_X10_isLive.1, mv_X10_isLive.2, rfl, _, _, cls_10⟩
set_option maxRecDepth 20000 in
theorem fld_RX10_260 : FldOK 5 2 RX10 260 9 26 true RX5 TX5 6 := ⟨by decide, (bg_2 30 rfl rfl), rfl, rfl, rfl, by decide⟩
set_option maxRecDepth 20000 in
theorem mo_X10_isFollower : MOK mu_X10_isFollower 2 := ⟨(bg_1 1 rfl rfl), (bg_5 172 rfl rfl), by decide⟩
set_option maxRecDepth 20000 in
theorem mv_X10_isFollower : Cond.instanceMethod mu_X10_isFollower.1 ∈ Big ∧ Cond.selects mu_X10_isFollower.1.cls mu_X10_isFollower.1 mu_X10_isFollower.1 ∈ Big := ⟨(bg_5 171 rfl rfl), (bg_s 36 (by decide +kernel) rfl)⟩
set_option maxRecDepth 20000 in
theorem co_X10_copyAll_264 : CallV mu_X10_copyAll mu_X10_isFollower 264 2 10 := ⟨⟨(bg_5 169 rfl rfl), mo_X10_isFollower.1, mo_X10_isFollower.2.1, mo_X10_isFollower.2.2, by decide, by decide⟩, mv_X10_isFollower.1, mv_X10_isFollower.2, rfl, _, _, cls_10⟩
set_option maxRecDepth 20000 in
theorem co_X10_copyAll_268 : CallS mu_X10_copyAll mu_J9_min_7cf53 268 2 := ⟨⟨(bg_5 173 rfl rfl), mo_J9_min_7cf53.1, mo_J9_min_7cf53.2.1, mo_J9_min_7cf53.2.2, by decide, by decide⟩, ms_J9_min_7cf53⟩
set_option maxRecDepth 20000 in
theorem co_X10_checkInSync_264 : CallV mu_X10_checkInSync mu_X10_isFollower 264 2 10 := ⟨⟨(bg_5 169 rfl rfl), mo_X10_isFollower.1, mo_X10_isFollower.2.1, mo_X10_isFollower.2.2, by decide, by decide⟩, mv_X10_isFollower.1, mv_X10_isFollower.2, rfl, _, _, cls_10⟩
set_option maxRecDepth 20000 in
theorem co_X10_checkInSync_224 : CallV mu_X10_checkInSync mu_X7_catchUp 224 1 7 := ⟨⟨(bg_5 139 rfl rfl), mo_X7_catchUp.1, mo_X7_catchUp.2.1, mo_X7_catchUp.2.2, by decide, by decide⟩, mv_X7_catchUp.1, mv_X7_catchUp.2, rfl, _, _, cls_7⟩
set_option maxRecDepth 20000 in
theorem fld_RX10_273 : FldOK 7 3 RX10 273 11 0 false RX7 TX7 5 := ⟨by decide, (bg_2 9 rfl rfl), rfl, rfl, rfl, by decide⟩
set_option maxRecDepth 20000 in
theorem co_X5_logEnd_57 : CallV mu_X5_logEnd mu_X5_firstInSyncBut 57 1 5 := ⟨⟨(bg_5 190 rfl rfl), mo_X5_firstInSyncBut.1, mo_X5_firstInSyncBut.2.1, mo_X5_firstInSyncBut.2.2, by decide, by decide⟩, mv_X5_firstInSyncBut.1, mv_X5_firstInSyncBut.2, rfl, _, _, cls_5⟩
set_option maxRecDepth 20000 in
theorem mo_X5_logEnd : MOK mu_X5_logEnd 0 := ⟨(bg_1 8 rfl rfl), (bg_5 189 rfl rfl), by decide⟩
set_option maxRecDepth 20000 in
theorem mv_X5_logEnd : Cond.instanceMethod mu_X5_logEnd.1 ∈ Big ∧ Cond.selects mu_X5_logEnd.1.cls mu_X5_logEnd.1 mu_X5_logEnd.1 ∈ Big := ⟨(bg_5 187 rfl rfl), (bg_5 188 rfl rfl)⟩
set_option maxRecDepth 20000 in
theorem co_X5_storedCount_95 : CallV mu_X5_storedCount mu_X5_logEnd 95 0 5 := ⟨⟨(bg_5 186 rfl rfl), mo_X5_logEnd.1, mo_X5_logEnd.2.1, mo_X5_logEnd.2.2, by decide, by decide⟩, mv_X5_logEnd.1, mv_X5_logEnd.2, rfl, _, _, cls_5⟩
set_option maxRecDepth 20000 in
theorem co_X5_storedCount_81 : CallV mu_X5_storedCount mu_X5_storedAt 81 1 5 := ⟨⟨(bg_4 16 rfl rfl), mo_X5_storedAt.1, mo_X5_storedAt.2.1, mo_X5_storedAt.2.2, by decide, by decide⟩, mv_X5_storedAt.1, mv_X5_storedAt.2, rfl, _, _, cls_5⟩
set_option maxRecDepth 20000 in
theorem mo_X5_storedCount : MOK mu_X5_storedCount 0 := ⟨(bg_1 8 rfl rfl), (bg_5 185 rfl rfl), by decide⟩
set_option maxRecDepth 20000 in
theorem mv_X5_storedCount : Cond.instanceMethod mu_X5_storedCount.1 ∈ Big ∧ Cond.selects mu_X5_storedCount.1.cls mu_X5_storedCount.1 mu_X5_storedCount.1 ∈ Big := ⟨(bg_5 183 rfl rfl), (bg_5 184 rfl rfl)⟩
set_option maxRecDepth 20000 in
theorem co_X10_removeOld_279 : CallV mu_X10_removeOld mu_X5_storedCount 279 0 5 := ⟨⟨(bg_5 182 rfl rfl), mo_X5_storedCount.1, mo_X5_storedCount.2.1, mo_X5_storedCount.2.2, by decide, by decide⟩, mv_X5_storedCount.1, mv_X5_storedCount.2, rfl, _, _, cls_5⟩
set_option maxRecDepth 20000 in
theorem fld_RX10_282 : FldOK 5 5 RX10 282 9 0 false RX5 TX5 6 := ⟨by decide, (bg_2 36 rfl rfl), rfl, rfl, rfl, by decide⟩
set_option maxRecDepth 20000 in
theorem co_X10_removeOld_130 : CallV mu_X10_removeOld mu_X5_storedAt 130 1 5 := ⟨⟨(bg_4 112 rfl rfl), mo_X5_storedAt.1, mo_X5_storedAt.2.1, mo_X5_storedAt.2.2, by decide, by decide⟩, mv_X5_storedAt.1, mv_X5_storedAt.2, rfl, _, _, cls_5⟩
set_option maxRecDepth 20000 in
theorem fld_RX10_113 : FldOK 9 6 RX10 113 13 0 false RX9 TX9 7 := ⟨by decide, (bg_1 206 rfl rfl), rfl, rfl, rfl, by decide⟩
set_option maxRecDepth 20000 in
theorem fld_RX10_110 : FldOK 9 5 RX10 110 13 0 false RX9 TX9 7 := ⟨by decide, (bg_1 204 rfl rfl), rfl, rfl, rfl, by decide⟩
set_option maxRecDepth 20000 in
theorem co_X10_removeOld_126 : CallV mu_X10_removeOld mu_X5_stableOffset 126 0 5 := ⟨⟨(bg_4 93 rfl rfl), mo_X5_stableOffset.1, mo_X5_stableOffset.2.1, mo_X5_stableOffset.2.2, by decide, by decide⟩, mv_X5_stableOffset.1, mv_X5_stableOffset.2, rfl, _, _, cls_5⟩
set_option maxRecDepth 20000 in
theorem fld_RX2_7 : FldOK 2 1 RX2 7 6 0 false RX2 TX2 2 := ⟨by decide, (bg_2 126 rfl rfl), rfl, rfl, rfl, by decide⟩
set_option maxRecDepth 20000 in
theorem fld_RX2_15 : FldOK 2 0 RX2 15 6 20 true RX2 TX2 2 := ⟨by decide, (bg_2 125 rfl rfl), rfl, rfl, rfl, by decide⟩
set_option maxRecDepth 20000 in
theorem fld_RX1_15 : FldOK 1 2 RX1 15 5 0 false RX1 TX1 7 := ⟨by decide, (bg_4 39 rfl rfl), rfl, rfl, rfl, by decide⟩
set_option maxRecDepth 20000 in
theorem fld_RX1_31 : FldOK 1 0 RX1 31 5 8 true RX1 TX1 7 := ⟨by decide, (bg_4 31 rfl rfl), rfl, rfl, rfl, by decide⟩
set_option maxRecDepth 20000 in
theorem fld_RX1_44 : FldOK 4 0 RX1 44 8 0 true RX4 TX4 11 := ⟨by decide, (bg_4 160 rfl rfl), rfl, rfl, rfl, by decide⟩
set_option maxRecDepth 20000 in
theorem mo_X1_isBefore : MOK mu_X1_isBefore 1 := ⟨(bg_1 18 rfl rfl), (bg_3 115 rfl rfl), by decide⟩
set_option maxRecDepth 20000 in
theorem mv_X1_isBefore : Cond.instanceMethod mu_X1_isBefore.1 ∈ Big ∧ Cond.selects mu_X1_isBefore.1.cls mu_X1_isBefore.1 mu_X1_isBefore.1 ∈ Big := ⟨(bg_3 113 rfl rfl), (bg_3 114 rfl rfl)⟩
set_option maxRecDepth 20000 in
theorem co_X2_addByDue_32 : CallV mu_X2_addByDue mu_X1_isBefore 32 1 1 := ⟨⟨(bg_3 112 rfl rfl), mo_X1_isBefore.1, mo_X1_isBefore.2.1, mo_X1_isBefore.2.2, by decide, by decide⟩, mv_X1_isBefore.1, mv_X1_isBefore.2, rfl, _, _, cls_1⟩
set_option maxRecDepth 20000 in
theorem fld_RX0_165 : FldOK 1 1 RX0 165 5 0 false RX1 TX1 7 := ⟨by decide, (bg_4 37 rfl rfl), rfl, rfl, rfl, by decide⟩
set_option maxRecDepth 20000 in
theorem fld_RX0_176 : FldOK 1 2 RX0 176 5 0 false RX1 TX1 7 := ⟨by decide, (bg_4 40 rfl rfl), rfl, rfl, rfl, by decide⟩
set_option maxRecDepth 20000 in
theorem fld_RX0_34 : FldOK 0 3 RX0 34 4 6 true RX0 TX0 10 := ⟨by decide, (bg_2 139 rfl rfl), rfl, rfl, rfl, by decide⟩
set_option maxRecDepth 20000 in
theorem mo_X2_addByDue : MOK mu_X2_addByDue 1 := ⟨(bg_1 12 rfl rfl), (bg_3 111 rfl rfl), by decide⟩
set_option maxRecDepth 20000 in
theorem mv_X2_addByDue : Cond.instanceMethod mu_X2_addByDue.1 ∈ Big ∧ Cond.selects mu_X2_addByDue.1.cls mu_X2_addByDue.1 mu_X2_addByDue.1 ∈ Big := ⟨(bg_3 109 rfl rfl), (bg_3 110 rfl rfl)⟩
set_option maxRecDepth 20000 in
theorem co_X0_putInRow_179 : CallV mu_X0_putInRow mu_X2_addByDue 179 1 2 := ⟨⟨(bg_3 108 rfl rfl), mo_X2_addByDue.1, mo_X2_addByDue.2.1, mo_X2_addByDue.2.2, by decide, by decide⟩, mv_X2_addByDue.1, mv_X2_addByDue.2, rfl, _, _, cls_2⟩
set_option maxRecDepth 20000 in
theorem fld_RX0_76 : FldOK 8 1 RX0 76 12 7 false RX8 TX8 6 := ⟨by decide, (bg_2 188 rfl rfl), rfl, rfl, rfl, by decide⟩
set_option maxRecDepth 20000 in
theorem fld_RX0_146 : FldOK 3 1 RX0 146 7 6 true RX3 TX3 7 := ⟨by decide, (bg_3 23 rfl rfl), rfl, rfl, rfl, by decide⟩
set_option maxRecDepth 20000 in
theorem fld_RX0_149 : FldOK 2 1 RX0 149 6 0 false RX2 TX2 2 := ⟨by decide, (bg_2 128 rfl rfl), rfl, rfl, rfl, by decide⟩
set_option maxRecDepth 20000 in
theorem mo_X2_get : MOK mu_X2_get 1 := ⟨(bg_1 12 rfl rfl), (bg_3 99 rfl rfl), by decide⟩
set_option maxRecDepth 20000 in
theorem mv_X2_get : Cond.instanceMethod mu_X2_get.1 ∈ Big ∧ Cond.selects mu_X2_get.1.cls mu_X2_get.1 mu_X2_get.1 ∈ Big := ⟨(bg_3 97 rfl rfl), (bg_3 98 rfl rfl)⟩
set_option maxRecDepth 20000 in
theorem co_X0_giveUp_152 : CallV mu_X0_giveUp mu_X2_get 152 1 2 := ⟨⟨(bg_3 96 rfl rfl), mo_X2_get.1, mo_X2_get.2.1, mo_X2_get.2.2, by decide, by decide⟩, mv_X2_get.1, mv_X2_get.2, rfl, _, _, cls_2⟩
set_option maxRecDepth 20000 in
theorem fld_RX0_156 : FldOK 1 0 RX0 156 5 8 true RX1 TX1 7 := ⟨by decide, (bg_4 34 rfl rfl), rfl, rfl, rfl, by decide⟩
set_option maxRecDepth 20000 in
theorem fld_RX0_160 : FldOK 4 2 RX0 160 8 9 true RX4 TX4 11 := ⟨by decide, (bg_4 172 rfl rfl), rfl, rfl, rfl, by decide⟩
set_option maxRecDepth 20000 in
theorem fld_RX0_130 : FldOK 8 0 RX0 130 12 9 true RX8 TX8 6 := ⟨by decide, (bg_2 184 rfl rfl), rfl, rfl, rfl, by decide⟩
set_option maxRecDepth 20000 in
theorem mo_X2_removeLetter : MOK mu_X2_removeLetter 1 := ⟨(bg_1 12 rfl rfl), (bg_3 103 rfl rfl), by decide⟩
set_option maxRecDepth 20000 in
theorem mv_X2_removeLetter : Cond.instanceMethod mu_X2_removeLetter.1 ∈ Big ∧ Cond.selects mu_X2_removeLetter.1.cls mu_X2_removeLetter.1 mu_X2_removeLetter.1 ∈ Big := ⟨(bg_3 101 rfl rfl), (bg_3 102 rfl rfl)⟩
set_option maxRecDepth 20000 in
theorem co_X0_giveUp_161 : CallV mu_X0_giveUp mu_X2_removeLetter 161 1 2 := ⟨⟨(bg_3 100 rfl rfl), mo_X2_removeLetter.1, mo_X2_removeLetter.2.1, mo_X2_removeLetter.2.2, by decide, by decide⟩, mv_X2_removeLetter.1, mv_X2_removeLetter.2, rfl, _, _, cls_2⟩
set_option maxRecDepth 20000 in
theorem fld_RX0_168 : FldOK 1 4 RX0 168 5 1 false RX1 TX1 7 := ⟨by decide, (bg_4 46 rfl rfl), rfl, rfl, rfl, by decide⟩
set_option maxRecDepth 20000 in
theorem mo_X0_putInRow : MOK mu_X0_putInRow 2 := ⟨(bg_1 11 rfl rfl), (bg_3 107 rfl rfl), by decide⟩
set_option maxRecDepth 20000 in
theorem mv_X0_putInRow : Cond.instanceMethod mu_X0_putInRow.1 ∈ Big ∧ Cond.selects mu_X0_putInRow.1.cls mu_X0_putInRow.1 mu_X0_putInRow.1 ∈ Big := ⟨(bg_3 106 rfl rfl), (bg_s 9 (by decide +kernel) rfl)⟩
set_option maxRecDepth 20000 in
theorem co_X0_giveUp_172 : CallV mu_X0_giveUp mu_X0_putInRow 172 2 0 := ⟨⟨(bg_3 104 rfl rfl), mo_X0_putInRow.1, mo_X0_putInRow.2.1, mo_X0_putInRow.2.2, by decide, by decide⟩, mv_X0_putInRow.1, mv_X0_putInRow.2, rfl, _, _, cls_0⟩
set_option maxRecDepth 20000 in
theorem fld_RX0_19 : FldOK 0 1 RX0 19 4 22 true RX0 TX0 10 := ⟨by decide, (bg_2 136 rfl rfl), rfl, rfl, rfl, by decide⟩
set_option maxRecDepth 20000 in
theorem fld_RX0_11 : FldOK 0 0 RX0 11 4 27 true RX0 TX0 10 := ⟨by decide, (bg_2 135 rfl rfl), rfl, rfl, rfl, by decide⟩
set_option maxRecDepth 20000 in
theorem fld_RX0_80 : FldOK 8 2 RX0 80 12 7 false RX8 TX8 6 := ⟨by decide, (bg_2 191 rfl rfl), rfl, rfl, rfl, by decide⟩
set_option maxRecDepth 20000 in
theorem fld_RX0_114 : FldOK 3 5 RX0 114 7 0 false RX3 TX3 7 := ⟨by decide, (bg_3 34 rfl rfl), rfl, rfl, rfl, by decide⟩
set_option maxRecDepth 20000 in
theorem fld_RX0_75 : FldOK 3 0 RX0 75 7 0 true RX3 TX3 7 := ⟨by decide, (bg_3 20 rfl rfl), rfl, rfl, rfl, by decide⟩
set_option maxRecDepth 20000 in
theorem mo_X0_targetCount : MOK mu_X0_targetCount 1 := ⟨(bg_1 11 rfl rfl), (bg_3 64 rfl rfl), by decide⟩
set_option maxRecDepth 20000 in
theorem mv_X0_targetCount : Cond.instanceMethod mu_X0_targetCount.1 ∈ Big ∧ Cond.selects mu_X0_targetCount.1.cls mu_X0_targetCount.1 mu_X0_targetCount.1 ∈ Big := ⟨(bg_3 62 rfl rfl), (bg_3 63 rfl rfl)⟩
set_option maxRecDepth 20000 in
theorem co_X0_setFairShares_117 : CallV mu_X0_setFairShares mu_X0_targetCount 117 1 0 := ⟨⟨(bg_3 61 rfl rfl), mo_X0_targetCount.1, mo_X0_targetCount.2.1, mo_X0_targetCount.2.2, by decide, by decide⟩, mv_X0_targetCount.1, mv_X0_targetCount.2, rfl, _, _, cls_0⟩
set_option maxRecDepth 20000 in
theorem fld_RX0_51 : FldOK 0 8 RX0 51 4 0 false RX0 TX0 10 := ⟨by decide, (bg_2 150 rfl rfl), rfl, rfl, rfl, by decide⟩
set_option maxRecDepth 20000 in
theorem mo_X0_rankOf : MOK mu_X0_rankOf 1 := ⟨(bg_1 11 rfl rfl), (bg_3 68 rfl rfl), by decide⟩
set_option maxRecDepth 20000 in
theorem mv_X0_rankOf : Cond.instanceMethod mu_X0_rankOf.1 ∈ Big ∧ Cond.selects mu_X0_rankOf.1.cls mu_X0_rankOf.1 mu_X0_rankOf.1 ∈ Big := ⟨(bg_3 67 rfl rfl), (bg_s 5 (by decide +kernel) rfl)⟩
set_option maxRecDepth 20000 in
theorem co_X0_setFairShares_121 : CallV mu_X0_setFairShares mu_X0_rankOf 121 1 0 := ⟨⟨(bg_3 65 rfl rfl), mo_X0_rankOf.1, mo_X0_rankOf.2.1, mo_X0_rankOf.2.2, by decide, by decide⟩, mv_X0_rankOf.1, mv_X0_rankOf.2, rfl, _, _, cls_0⟩
set_option maxRecDepth 20000 in
theorem fld_RX0_124 : FldOK 3 6 RX0 124 7 0 false RX3 TX3 7 := ⟨by decide, (bg_3 36 rfl rfl), rfl, rfl, rfl, by decide⟩
set_option maxRecDepth 20000 in
theorem fld_RX0_48 : FldOK 0 7 RX0 48 4 0 false RX0 TX0 10 := ⟨by decide, (bg_2 148 rfl rfl), rfl, rfl, rfl, by decide⟩
set_option maxRecDepth 20000 in
theorem mo_X0_memberCount : MOK mu_X0_memberCount 0 := ⟨(bg_1 11 rfl rfl), (bg_3 6 rfl rfl), by decide⟩
set_option maxRecDepth 20000 in
theorem mv_X0_memberCount : Cond.instanceMethod mu_X0_memberCount.1 ∈ Big ∧ Cond.selects mu_X0_memberCount.1.cls mu_X0_memberCount.1 mu_X0_memberCount.1 ∈ Big := ⟨(bg_3 4 rfl rfl), (bg_3 5 rfl rfl)⟩
set_option maxRecDepth 20000 in
theorem co_X0_dealTargets_83 : CallV mu_X0_dealTargets mu_X0_memberCount 83 0 0 := ⟨⟨(bg_3 56 rfl rfl), mo_X0_memberCount.1, mo_X0_memberCount.2.1, mo_X0_memberCount.2.2, by decide, by decide⟩, mv_X0_memberCount.1, mv_X0_memberCount.2, rfl, _, _, cls_0⟩
set_option maxRecDepth 20000 in
theorem mo_X0_setFairShares : MOK mu_X0_setFairShares 1 := ⟨(bg_1 11 rfl rfl), (bg_3 60 rfl rfl), by decide⟩
set_option maxRecDepth 20000 in
theorem mv_X0_setFairShares : Cond.instanceMethod mu_X0_setFairShares.1 ∈ Big ∧ Cond.selects mu_X0_setFairShares.1.cls mu_X0_setFairShares.1 mu_X0_setFairShares.1 ∈ Big := ⟨(bg_3 59 rfl rfl), (bg_s 4 (by decide +kernel) rfl)⟩
set_option maxRecDepth 20000 in
theorem co_X0_dealTargets_104 : CallV mu_X0_dealTargets mu_X0_setFairShares 104 1 0 := ⟨⟨(bg_3 57 rfl rfl), mo_X0_setFairShares.1, mo_X0_setFairShares.2.1, mo_X0_setFairShares.2.2, by decide, by decide⟩, mv_X0_setFairShares.1, mv_X0_setFairShares.2, rfl, _, _, cls_0⟩
set_option maxRecDepth 20000 in
theorem mo_X0_dropSurplus : MOK mu_X0_dropSurplus 0 := ⟨(bg_1 11 rfl rfl), (bg_3 72 rfl rfl), by decide⟩
set_option maxRecDepth 20000 in
theorem mv_X0_dropSurplus : Cond.instanceMethod mu_X0_dropSurplus.1 ∈ Big ∧ Cond.selects mu_X0_dropSurplus.1.cls mu_X0_dropSurplus.1 mu_X0_dropSurplus.1 ∈ Big := ⟨(bg_3 71 rfl rfl), (bg_s 6 (by decide +kernel) rfl)⟩
set_option maxRecDepth 20000 in
theorem co_X0_dealTargets_107 : CallV mu_X0_dealTargets mu_X0_dropSurplus 107 0 0 := ⟨⟨(bg_3 69 rfl rfl), mo_X0_dropSurplus.1, mo_X0_dropSurplus.2.1, mo_X0_dropSurplus.2.2, by decide, by decide⟩, mv_X0_dropSurplus.1, mv_X0_dropSurplus.2, rfl, _, _, cls_0⟩
set_option maxRecDepth 20000 in
theorem mo_X0_firstBelowFairShare : MOK mu_X0_firstBelowFairShare 0 := ⟨(bg_1 11 rfl rfl), (bg_3 76 rfl rfl), by decide⟩
set_option maxRecDepth 20000 in
theorem mv_X0_firstBelowFairShare : Cond.instanceMethod mu_X0_firstBelowFairShare.1 ∈ Big ∧ Cond.selects mu_X0_firstBelowFairShare.1.cls mu_X0_firstBelowFairShare.1 mu_X0_firstBelowFairShare.1 ∈ Big := ⟨(bg_3 75 rfl rfl), (bg_s 7 (by decide +kernel) rfl)⟩
set_option maxRecDepth 20000 in
theorem co_X0_dealTargets_110 : CallV mu_X0_dealTargets mu_X0_firstBelowFairShare 110 0 0 := ⟨⟨(bg_3 73 rfl rfl), mo_X0_firstBelowFairShare.1, mo_X0_firstBelowFairShare.2.1, mo_X0_firstBelowFairShare.2.2, by decide, by decide⟩, mv_X0_firstBelowFairShare.1, mv_X0_firstBelowFairShare.2, rfl, _, _, cls_0⟩
set_option maxRecDepth 20000 in
theorem mo_X0_giveUp : MOK mu_X0_giveUp 3 := ⟨(bg_1 11 rfl rfl), (bg_3 95 rfl rfl), by decide⟩
set_option maxRecDepth 20000 in
theorem mv_X0_giveUp : Cond.instanceMethod mu_X0_giveUp.1 ∈ Big ∧ Cond.selects mu_X0_giveUp.1.cls mu_X0_giveUp.1 mu_X0_giveUp.1 ∈ Big := ⟨(bg_3 94 rfl rfl), (bg_s 8 (by decide +kernel) rfl)⟩
set_option maxRecDepth 20000 in
theorem co_X0_removeMember_93 : CallV mu_X0_removeMember mu_X0_giveUp 93 3 0 := ⟨⟨(bg_3 92 rfl rfl), mo_X0_giveUp.1, mo_X0_giveUp.2.1, mo_X0_giveUp.2.2, by decide, by decide⟩, mv_X0_giveUp.1, mv_X0_giveUp.2, rfl, _, _, cls_0⟩
set_option maxRecDepth 20000 in
theorem fld_RX0_45 : FldOK 0 6 RX0 45 4 0 false RX0 TX0 10 := ⟨by decide, (bg_2 145 rfl rfl), rfl, rfl, rfl, by decide⟩
set_option maxRecDepth 20000 in
theorem mo_X0_dealTargets : MOK mu_X0_dealTargets 0 := ⟨(bg_1 11 rfl rfl), (bg_3 55 rfl rfl), by decide⟩
set_option maxRecDepth 20000 in
theorem mv_X0_dealTargets : Cond.instanceMethod mu_X0_dealTargets.1 ∈ Big ∧ Cond.selects mu_X0_dealTargets.1.cls mu_X0_dealTargets.1 mu_X0_dealTargets.1 ∈ Big := ⟨(bg_3 54 rfl rfl), (bg_s 3 (by decide +kernel) rfl)⟩
set_option maxRecDepth 20000 in
theorem co_X0_removeMember_90 : CallV mu_X0_removeMember mu_X0_dealTargets 90 0 0 := ⟨⟨(bg_3 52 rfl rfl), mo_X0_dealTargets.1, mo_X0_dealTargets.2.1, mo_X0_dealTargets.2.2, by decide, by decide⟩, mv_X0_dealTargets.1, mv_X0_dealTargets.2, rfl, _, _, cls_0⟩
set_option maxRecDepth 20000 in
theorem fld_RX0_97 : FldOK 3 2 RX0 97 7 0 false RX3 TX3 7 := ⟨by decide, (bg_3 26 rfl rfl), rfl, rfl, rfl, by decide⟩
set_option maxRecDepth 20000 in
theorem mo_X0_removeMember : MOK mu_X0_removeMember 2 := ⟨(bg_1 11 rfl rfl), (bg_5 198 rfl rfl), by decide⟩
set_option maxRecDepth 20000 in
theorem mv_X0_removeMember : Cond.instanceMethod mu_X0_removeMember.1 ∈ Big ∧ Cond.selects mu_X0_removeMember.1.cls mu_X0_removeMember.1 mu_X0_removeMember.1 ∈ Big := ⟨(bg_5 196 rfl rfl), (bg_5 197 rfl rfl)⟩
set_option maxRecDepth 20000 in
theorem co_X0_expelSilent_100 : CallV mu_X0_expelSilent mu_X0_removeMember 100 2 0 := ⟨⟨(bg_5 195 rfl rfl), mo_X0_removeMember.1, mo_X0_removeMember.2.1, mo_X0_removeMember.2.2, by decide, by decide⟩, mv_X0_removeMember.1, mv_X0_removeMember.2, rfl, _, _, cls_0⟩
set_option maxRecDepth 20000 in
theorem mo_X10_appendDelayed : MOK mu_X10_appendDelayed 0 := ⟨(bg_1 1 rfl rfl), (bg_5 164 rfl rfl), by decide⟩
set_option maxRecDepth 20000 in
theorem mv_X10_appendDelayed : Cond.instanceMethod mu_X10_appendDelayed.1 ∈ Big ∧ Cond.selects mu_X10_appendDelayed.1.cls mu_X10_appendDelayed.1 mu_X10_appendDelayed.1 ∈ Big := ⟨(bg_5 163 rfl rfl), (bg_s 34 (by decide +kernel) rfl)⟩
set_option maxRecDepth 20000 in
theorem co_X10_passTick_230 : CallV mu_X10_passTick mu_X10_appendDelayed 230 0 10 := ⟨⟨(bg_5 161 rfl rfl), mo_X10_appendDelayed.1, mo_X10_appendDelayed.2.1, mo_X10_appendDelayed.2.2, by decide, by decide⟩, mv_X10_appendDelayed.1, mv_X10_appendDelayed.2, rfl, _, _, cls_10⟩
set_option maxRecDepth 20000 in
theorem mo_X10_copyAll : MOK mu_X10_copyAll 1 := ⟨(bg_1 1 rfl rfl), (bg_5 168 rfl rfl), by decide⟩
set_option maxRecDepth 20000 in
theorem mv_X10_copyAll : Cond.instanceMethod mu_X10_copyAll.1 ∈ Big ∧ Cond.selects mu_X10_copyAll.1.cls mu_X10_copyAll.1 mu_X10_copyAll.1 ∈ Big := ⟨(bg_5 167 rfl rfl), (bg_s 35 (by decide +kernel) rfl)⟩
set_option maxRecDepth 20000 in
theorem co_X10_passTick_233 : CallV mu_X10_passTick mu_X10_copyAll 233 1 10 := ⟨⟨(bg_5 165 rfl rfl), mo_X10_copyAll.1, mo_X10_copyAll.2.1, mo_X10_copyAll.2.2, by decide, by decide⟩, mv_X10_copyAll.1, mv_X10_copyAll.2, rfl, _, _, cls_10⟩
set_option maxRecDepth 20000 in
theorem mo_X10_checkInSync : MOK mu_X10_checkInSync 1 := ⟨(bg_1 1 rfl rfl), (bg_5 177 rfl rfl), by decide⟩
set_option maxRecDepth 20000 in
theorem mv_X10_checkInSync : Cond.instanceMethod mu_X10_checkInSync.1 ∈ Big ∧ Cond.selects mu_X10_checkInSync.1.cls mu_X10_checkInSync.1 mu_X10_checkInSync.1 ∈ Big := ⟨(bg_5 176 rfl rfl), (bg_s 37 (by decide +kernel) rfl)⟩
set_option maxRecDepth 20000 in
theorem co_X10_passTick_237 : CallV mu_X10_passTick mu_X10_checkInSync 237 1 10 := ⟨⟨(bg_5 174 rfl rfl), mo_X10_checkInSync.1, mo_X10_checkInSync.2.1, mo_X10_checkInSync.2.2, by decide, by decide⟩, mv_X10_checkInSync.1, mv_X10_checkInSync.2, rfl, _, _, cls_10⟩
set_option maxRecDepth 20000 in
theorem mo_X10_removeOld : MOK mu_X10_removeOld 1 := ⟨(bg_1 1 rfl rfl), (bg_5 181 rfl rfl), by decide⟩
set_option maxRecDepth 20000 in
theorem mv_X10_removeOld : Cond.instanceMethod mu_X10_removeOld.1 ∈ Big ∧ Cond.selects mu_X10_removeOld.1.cls mu_X10_removeOld.1 mu_X10_removeOld.1 ∈ Big := ⟨(bg_5 180 rfl rfl), (bg_s 38 (by decide +kernel) rfl)⟩
set_option maxRecDepth 20000 in
theorem co_X10_passTick_240 : CallV mu_X10_passTick mu_X10_removeOld 240 1 10 := ⟨⟨(bg_5 178 rfl rfl), mo_X10_removeOld.1, mo_X10_removeOld.2.1, mo_X10_removeOld.2.2, by decide, by decide⟩, mv_X10_removeOld.1, mv_X10_removeOld.2, rfl, _, _, cls_10⟩
set_option maxRecDepth 20000 in
theorem mo_X0_expelSilent : MOK mu_X0_expelSilent 1 := ⟨(bg_1 11 rfl rfl), (bg_5 194 rfl rfl), by decide⟩
set_option maxRecDepth 20000 in
theorem mv_X0_expelSilent : Cond.instanceMethod mu_X0_expelSilent.1 ∈ Big ∧ Cond.selects mu_X0_expelSilent.1.cls mu_X0_expelSilent.1 mu_X0_expelSilent.1 ∈ Big := ⟨(bg_5 192 rfl rfl), (bg_5 193 rfl rfl)⟩
set_option maxRecDepth 20000 in
theorem co_X10_passTick_243 : CallV mu_X10_passTick mu_X0_expelSilent 243 1 0 := ⟨⟨(bg_5 191 rfl rfl), mo_X0_expelSilent.1, mo_X0_expelSilent.2.1, mo_X0_expelSilent.2.2, by decide, by decide⟩, mv_X0_expelSilent.1, mv_X0_expelSilent.2, rfl, _, _, cls_0⟩
set_option maxRecDepth 20000 in
theorem fld_RX10_246 : FldOK 6 2 RX10 246 10 0 false RX6 TX6 9 := ⟨by decide, (bg_2 69 rfl rfl), rfl, rfl, rfl, by decide⟩
set_option maxRecDepth 20000 in
theorem co_X10_tick_73 : CallS mu_X10_tick mu_X10_requireWithin 73 3 := ⟨⟨(bg_1 100 rfl rfl), mo_X10_requireWithin.1, mo_X10_requireWithin.2.1, mo_X10_requireWithin.2.2, by decide, by decide⟩, ms_X10_requireWithin⟩
set_option maxRecDepth 20000 in
theorem mo_X10_passTick : MOK mu_X10_passTick 0 := ⟨(bg_1 1 rfl rfl), (bg_5 160 rfl rfl), by decide⟩
set_option maxRecDepth 20000 in
theorem mv_X10_passTick : Cond.instanceMethod mu_X10_passTick.1 ∈ Big ∧ Cond.selects mu_X10_passTick.1.cls mu_X10_passTick.1 mu_X10_passTick.1 ∈ Big := ⟨(bg_5 159 rfl rfl), (bg_s 33 (by decide +kernel) rfl)⟩
set_option maxRecDepth 20000 in
theorem co_X10_tick_227 : CallV mu_X10_tick mu_X10_passTick 227 0 10 := ⟨⟨(bg_5 157 rfl rfl), mo_X10_passTick.1, mo_X10_passTick.2.1, mo_X10_passTick.2.2, by decide, by decide⟩, mv_X10_passTick.1, mv_X10_passTick.2, rfl, _, _, cls_10⟩
set_option maxRecDepth 20000 in
theorem oi_RX6_3 : Cond.methodLink RX6 3 Lib.objectInit ∈ Big ∧ Cond.instanceMethod Lib.objectInit ∈ Big ∧ Cond.code Lib.objectInit ⟨#[0xb1]⟩ 1 none ∈ Big := ⟨(bg_2 63 rfl rfl), (bg_1 25 rfl rfl), (bg_1 26 rfl rfl)⟩
set_option maxRecDepth 20000 in
theorem fld_RX6_9 : FldOK 6 1 RX6 9 10 0 false RX6 TX6 9 := ⟨by decide, (bg_2 66 rfl rfl), rfl, rfl, rfl, by decide⟩
set_option maxRecDepth 20000 in
theorem fld_RX6_15 : FldOK 6 2 RX6 15 10 0 false RX6 TX6 9 := ⟨by decide, (bg_2 68 rfl rfl), rfl, rfl, rfl, by decide⟩
set_option maxRecDepth 20000 in
theorem fld_RX6_18 : FldOK 6 3 RX6 18 10 0 false RX6 TX6 9 := ⟨by decide, (bg_2 70 rfl rfl), rfl, rfl, rfl, by decide⟩
set_option maxRecDepth 20000 in
theorem fld_RX6_21 : FldOK 6 4 RX6 21 10 1 false RX6 TX6 9 := ⟨by decide, (bg_2 72 rfl rfl), rfl, rfl, rfl, by decide⟩
set_option maxRecDepth 20000 in
theorem fld_RX6_25 : FldOK 6 5 RX6 25 10 4 false RX6 TX6 9 := ⟨by decide, (bg_2 74 rfl rfl), rfl, rfl, rfl, by decide⟩
set_option maxRecDepth 20000 in
theorem fld_RX6_29 : FldOK 6 6 RX6 29 10 7 false RX6 TX6 9 := ⟨by decide, (bg_2 75 rfl rfl), rfl, rfl, rfl, by decide⟩
set_option maxRecDepth 20000 in
theorem fld_RX6_33 : FldOK 6 7 RX6 33 10 0 false RX6 TX6 9 := ⟨by decide, (bg_2 76 rfl rfl), rfl, rfl, rfl, by decide⟩
set_option maxRecDepth 20000 in
theorem fld_RX6_36 : FldOK 6 8 RX6 36 10 16 true RX6 TX6 9 := ⟨by decide, (bg_2 77 rfl rfl), rfl, rfl, rfl, by decide⟩
set_option maxRecDepth 20000 in
theorem fld_RX6_40 : FldOK 6 0 RX6 40 10 0 true RX6 TX6 9 := ⟨by decide, (bg_2 64 rfl rfl), rfl, rfl, rfl, by decide⟩
set_option maxRecDepth 20000 in
theorem mo_X6_init : MOK mu_X6_init 1 := ⟨(bg_1 10 rfl rfl), (bg_2 62 rfl rfl), by decide⟩
set_option maxRecDepth 20000 in
theorem co_X10_producer_287 : CallI mu_X10_producer mu_X6_init 287 1 := ⟨⟨(bg_2 60 rfl rfl), mo_X6_init.1, mo_X6_init.2.1, mo_X6_init.2.2, by decide, by decide⟩, (bg_2 61 rfl rfl), rfl, rfl, rfl⟩
set_option maxRecDepth 20000 in
theorem nw_RX10_21 : Cond.classLink RX10 21 RX6 ∈ Big ∧ Cond.instantiable RX6 9 ∈ Big ∧ Cond.initialized RX6 ∈ Big := ⟨(bg_1 31 rfl rfl), (bg_2 59 rfl rfl), (bg_1 10 rfl rfl)⟩
set_option maxRecDepth 20000 in
theorem thr_RX10_285 : ThrOK RX10 "java/lang/IllegalStateException" "no room for a producer" 77 285 81 := ⟨by decide, by decide, (bg_1 171 rfl rfl), (bg_1 6 rfl rfl), by decide, tha_RX10_81.1, tha_RX10_81.2.1, tha_RX10_81.2.2⟩
set_option maxRecDepth 20000 in
theorem thr_RX10_633 : ThrOK RX10 "java/lang/IndexOutOfBoundsException" "no such producer" 481 633 485 := ⟨by decide, by decide, (bg_2 227 rfl rfl), (bg_1 14 rfl rfl), by decide, tha_RX10_485.1, tha_RX10_485.2.1, tha_RX10_485.2.2⟩
set_option maxRecDepth 20000 in
theorem thr_RX10_627 : ThrOK RX10 "java/lang/IndexOutOfBoundsException" "no such topic" 481 627 485 := ⟨by decide, by decide, (bg_2 227 rfl rfl), (bg_1 14 rfl rfl), by decide, tha_RX10_485.1, tha_RX10_485.2.1, tha_RX10_485.2.2⟩
set_option maxRecDepth 20000 in
theorem mo_J9_floorMod_7cf53 : MOK mu_J9_floorMod_7cf53 2 := ⟨(bg_1 16 rfl rfl), (bg_4 92 rfl rfl), by decide⟩
set_option maxRecDepth 20000 in
theorem ms_J9_floorMod_7cf53 : Cond.static mu_J9_floorMod_7cf53.1 ∈ Big := (bg_4 91 rfl rfl)
set_option maxRecDepth 20000 in
theorem co_X9_partitionFor_37 : CallS mu_X9_partitionFor mu_J9_floorMod_7cf53 37 2 := ⟨⟨(bg_4 90 rfl rfl), mo_J9_floorMod_7cf53.1, mo_J9_floorMod_7cf53.2.1, mo_J9_floorMod_7cf53.2.2, by decide, by decide⟩, ms_J9_floorMod_7cf53⟩
set_option maxRecDepth 20000 in
theorem fld_RX10_293 : FldOK 6 1 RX10 293 10 0 false RX6 TX6 9 := ⟨by decide, (bg_2 67 rfl rfl), rfl, rfl, rfl, by decide⟩
set_option maxRecDepth 20000 in
theorem co_X10_canSend_252 : CallV mu_X10_canSend mu_X10_canAppend 252 2 10 := ⟨⟨(bg_4 136 rfl rfl), mo_X10_canAppend.1, mo_X10_canAppend.2.1, mo_X10_canAppend.2.2, by decide, by decide⟩, mv_X10_canAppend.1, mv_X10_canAppend.2, rfl, _, _, cls_10⟩
set_option maxRecDepth 20000 in
theorem oi_RX4_3 : Cond.methodLink RX4 3 Lib.objectInit ∈ Big ∧ Cond.instanceMethod Lib.objectInit ∈ Big ∧ Cond.code Lib.objectInit ⟨#[0xb1]⟩ 1 none ∈ Big := ⟨(bg_4 157 rfl rfl), (bg_1 25 rfl rfl), (bg_1 26 rfl rfl)⟩
set_option maxRecDepth 20000 in
theorem fld_RX4_15 : FldOK 4 9 RX4 15 8 0 false RX4 TX4 11 := ⟨by decide, (bg_4 189 rfl rfl), rfl, rfl, rfl, by decide⟩
set_option maxRecDepth 20000 in
theorem fld_RX4_18 : FldOK 4 10 RX4 18 8 0 false RX4 TX4 11 := ⟨by decide, (bg_4 195 rfl rfl), rfl, rfl, rfl, by decide⟩
set_option maxRecDepth 20000 in
theorem fld_RX4_21 : FldOK 4 0 RX4 21 8 0 true RX4 TX4 11 := ⟨by decide, (bg_4 158 rfl rfl), rfl, rfl, rfl, by decide⟩
set_option maxRecDepth 20000 in
theorem fld_RX4_32 : FldOK 4 3 RX4 32 8 0 true RX4 TX4 11 := ⟨by decide, (bg_4 173 rfl rfl), rfl, rfl, rfl, by decide⟩
set_option maxRecDepth 20000 in
theorem fld_RX4_35 : FldOK 4 4 RX4 35 8 0 true RX4 TX4 11 := ⟨by decide, (bg_4 177 rfl rfl), rfl, rfl, rfl, by decide⟩
set_option maxRecDepth 20000 in
theorem fld_RX4_38 : FldOK 4 5 RX4 38 8 0 true RX4 TX4 11 := ⟨by decide, (bg_4 179 rfl rfl), rfl, rfl, rfl, by decide⟩
set_option maxRecDepth 20000 in
theorem fld_RX4_41 : FldOK 4 6 RX4 41 8 0 true RX4 TX4 11 := ⟨by decide, (bg_4 181 rfl rfl), rfl, rfl, rfl, by decide⟩
set_option maxRecDepth 20000 in
theorem fld_RX10_315 : FldOK 6 3 RX10 315 10 0 false RX6 TX6 9 := ⟨by decide, (bg_2 71 rfl rfl), rfl, rfl, rfl, by decide⟩
set_option maxRecDepth 20000 in
theorem mo_X4_init : MOK mu_X4_init 7 := ⟨(bg_1 17 rfl rfl), (bg_4 156 rfl rfl), by decide⟩
set_option maxRecDepth 20000 in
theorem co_X10_sendNow_316 : CallI mu_X10_sendNow mu_X4_init 316 7 := ⟨⟨(bg_4 154 rfl rfl), mo_X4_init.1, mo_X4_init.2.1, mo_X4_init.2.2, by decide, by decide⟩, (bg_4 155 rfl rfl), rfl, rfl, rfl⟩
set_option maxRecDepth 20000 in
theorem mo_X10_keep : MOK mu_X10_keep 1 := ⟨(bg_1 1 rfl rfl), (bg_4 224 rfl rfl), by decide⟩
set_option maxRecDepth 20000 in
theorem mv_X10_keep : Cond.instanceMethod mu_X10_keep.1 ∈ Big ∧ Cond.selects mu_X10_keep.1.cls mu_X10_keep.1 mu_X10_keep.1 ∈ Big := ⟨(bg_4 223 rfl rfl), (bg_s 26 (by decide +kernel) rfl)⟩
set_option maxRecDepth 20000 in
theorem co_X10_sendNow_319 : CallV mu_X10_sendNow mu_X10_keep 319 1 10 := ⟨⟨(bg_4 221 rfl rfl), mo_X10_keep.1, mo_X10_keep.2.1, mo_X10_keep.2.2, by decide, by decide⟩, mv_X10_keep.1, mv_X10_keep.2, rfl, _, _, cls_10⟩
set_option maxRecDepth 20000 in
theorem co_X10_sendNow_256 : CallV mu_X10_sendNow mu_X5_append 256 2 5 := ⟨⟨(bg_4 225 rfl rfl), mo_X5_append.1, mo_X5_append.2.1, mo_X5_append.2.2, by decide, by decide⟩, mv_X5_append.1, mv_X5_append.2, rfl, _, _, cls_5⟩
set_option maxRecDepth 20000 in
theorem fld_RX10_323 : FldOK 4 0 RX10 323 8 0 true RX4 TX4 11 := ⟨by decide, (bg_4 163 rfl rfl), rfl, rfl, rfl, by decide⟩
set_option maxRecDepth 20000 in
theorem nw_RX10_33 : Cond.classLink RX10 33 RX4 ∈ Big ∧ Cond.instantiable RX4 11 ∈ Big ∧ Cond.initialized RX4 ∈ Big := ⟨(bg_1 35 rfl rfl), (bg_4 153 rfl rfl), (bg_1 17 rfl rfl)⟩
set_option maxRecDepth 20000 in
theorem mo_X10_producerOf : MOK mu_X10_producerOf 1 := ⟨(bg_1 1 rfl rfl), (bg_4 130 rfl rfl), by decide⟩
set_option maxRecDepth 20000 in
theorem mv_X10_producerOf : Cond.instanceMethod mu_X10_producerOf.1 ∈ Big ∧ Cond.selects mu_X10_producerOf.1.cls mu_X10_producerOf.1 mu_X10_producerOf.1 ∈ Big := ⟨(bg_4 129 rfl rfl), (bg_s 21 (by decide +kernel) rfl)⟩
set_option maxRecDepth 20000 in
theorem co_X10_send_289 : CallV mu_X10_send mu_X10_producerOf 289 1 10 := ⟨⟨(bg_4 127 rfl rfl), mo_X10_producerOf.1, mo_X10_producerOf.2.1, mo_X10_producerOf.2.2, by decide, by decide⟩, mv_X10_producerOf.1, mv_X10_producerOf.2, rfl, _, _, cls_10⟩
set_option maxRecDepth 20000 in
theorem mo_X10_topicOf : MOK mu_X10_topicOf 1 := ⟨(bg_1 1 rfl rfl), (bg_4 84 rfl rfl), by decide⟩
set_option maxRecDepth 20000 in
theorem mv_X10_topicOf : Cond.instanceMethod mu_X10_topicOf.1 ∈ Big ∧ Cond.selects mu_X10_topicOf.1.cls mu_X10_topicOf.1 mu_X10_topicOf.1 ∈ Big := ⟨(bg_4 83 rfl rfl), (bg_s 18 (by decide +kernel) rfl)⟩
set_option maxRecDepth 20000 in
theorem co_X10_send_100 : CallV mu_X10_send mu_X10_topicOf 100 1 10 := ⟨⟨(bg_4 81 rfl rfl), mo_X10_topicOf.1, mo_X10_topicOf.2.1, mo_X10_topicOf.2.2, by decide, by decide⟩, mv_X10_topicOf.1, mv_X10_topicOf.2, rfl, _, _, cls_10⟩
set_option maxRecDepth 20000 in
theorem mo_X9_partitionFor : MOK mu_X9_partitionFor 1 := ⟨(bg_1 7 rfl rfl), (bg_4 89 rfl rfl), by decide⟩
set_option maxRecDepth 20000 in
theorem mv_X9_partitionFor : Cond.instanceMethod mu_X9_partitionFor.1 ∈ Big ∧ Cond.selects mu_X9_partitionFor.1.cls mu_X9_partitionFor.1 mu_X9_partitionFor.1 ∈ Big := ⟨(bg_4 87 rfl rfl), (bg_4 88 rfl rfl)⟩
set_option maxRecDepth 20000 in
theorem co_X10_send_296 : CallV mu_X10_send mu_X9_partitionFor 296 1 9 := ⟨⟨(bg_4 86 rfl rfl), mo_X9_partitionFor.1, mo_X9_partitionFor.2.1, mo_X9_partitionFor.2.2, by decide, by decide⟩, mv_X9_partitionFor.1, mv_X9_partitionFor.2, rfl, _, _, cls_9⟩
set_option maxRecDepth 20000 in
theorem co_X10_send_73 : CallS mu_X10_send mu_X10_requireWithin 73 3 := ⟨⟨(bg_1 100 rfl rfl), mo_X10_requireWithin.1, mo_X10_requireWithin.2.1, mo_X10_requireWithin.2.2, by decide, by decide⟩, ms_X10_requireWithin⟩
set_option maxRecDepth 20000 in
theorem mo_X10_canSend : MOK mu_X10_canSend 2 := ⟨(bg_1 1 rfl rfl), (bg_4 135 rfl rfl), by decide⟩
set_option maxRecDepth 20000 in
theorem mv_X10_canSend : Cond.instanceMethod mu_X10_canSend.1 ∈ Big ∧ Cond.selects mu_X10_canSend.1.cls mu_X10_canSend.1 mu_X10_canSend.1 ∈ Big := ⟨(bg_4 134 rfl rfl), (bg_s 22 (by decide +kernel) rfl)⟩
set_option maxRecDepth 20000 in
theorem co_X10_send_299 : CallV mu_X10_send mu_X10_canSend 299 2 10 := ⟨⟨(bg_4 132 rfl rfl), mo_X10_canSend.1, mo_X10_canSend.2.1, mo_X10_canSend.2.2, by decide, by decide⟩, mv_X10_canSend.1, mv_X10_canSend.2, rfl, _, _, cls_10⟩
set_option maxRecDepth 20000 in
theorem thr_RX10_302 : ThrOK RX10 "java/lang/IllegalStateException" "the message cannot be sent" 77 302 81 := ⟨by decide, by decide, (bg_1 171 rfl rfl), (bg_1 6 rfl rfl), by decide, tha_RX10_81.1, tha_RX10_81.2.1, tha_RX10_81.2.2⟩
set_option maxRecDepth 20000 in
theorem mo_X10_sendNow : MOK mu_X10_sendNow 4 := ⟨(bg_1 1 rfl rfl), (bg_4 152 rfl rfl), by decide⟩
set_option maxRecDepth 20000 in
theorem mv_X10_sendNow : Cond.instanceMethod mu_X10_sendNow.1 ∈ Big ∧ Cond.selects mu_X10_sendNow.1.cls mu_X10_sendNow.1 mu_X10_sendNow.1 ∈ Big := ⟨(bg_4 151 rfl rfl), (bg_s 25 (by decide +kernel) rfl)⟩
set_option maxRecDepth 20000 in
theorem co_X10_send_304 : CallV mu_X10_send mu_X10_sendNow 304 4 10 := ⟨⟨(bg_4 149 rfl rfl), mo_X10_sendNow.1, mo_X10_sendNow.2.1, mo_X10_sendNow.2.2, by decide, by decide⟩, mv_X10_sendNow.1, mv_X10_sendNow.2, rfl, _, _, cls_10⟩
set_option maxRecDepth 20000 in
theorem co_X10_sendSome_289 : CallV mu_X10_sendSome mu_X10_producerOf 289 1 10 := ⟨⟨(bg_4 127 rfl rfl), mo_X10_producerOf.1, mo_X10_producerOf.2.1, mo_X10_producerOf.2.2, by decide, by decide⟩, mv_X10_producerOf.1, mv_X10_producerOf.2, rfl, _, _, cls_10⟩
set_option maxRecDepth 20000 in
theorem co_X10_sendSome_100 : CallV mu_X10_sendSome mu_X10_topicOf 100 1 10 := ⟨⟨(bg_4 81 rfl rfl), mo_X10_topicOf.1, mo_X10_topicOf.2.1, mo_X10_topicOf.2.2, by decide, by decide⟩, mv_X10_topicOf.1, mv_X10_topicOf.2, rfl, _, _, cls_10⟩
set_option maxRecDepth 20000 in
theorem co_X10_sendSome_73 : CallS mu_X10_sendSome mu_X10_requireWithin 73 3 := ⟨⟨(bg_1 100 rfl rfl), mo_X10_requireWithin.1, mo_X10_requireWithin.2.1, mo_X10_requireWithin.2.2, by decide, by decide⟩, ms_X10_requireWithin⟩
set_option maxRecDepth 20000 in
theorem co_X10_sendSome_296 : CallV mu_X10_sendSome mu_X9_partitionFor 296 1 9 := ⟨⟨(bg_4 86 rfl rfl), mo_X9_partitionFor.1, mo_X9_partitionFor.2.1, mo_X9_partitionFor.2.2, by decide, by decide⟩, mv_X9_partitionFor.1, mv_X9_partitionFor.2, rfl, _, _, cls_9⟩
set_option maxRecDepth 20000 in
theorem co_X10_sendSome_299 : CallV mu_X10_sendSome mu_X10_canSend 299 2 10 := ⟨⟨(bg_4 132 rfl rfl), mo_X10_canSend.1, mo_X10_canSend.2.1, mo_X10_canSend.2.2, by decide, by decide⟩, mv_X10_canSend.1, mv_X10_canSend.2, rfl, _, _, cls_10⟩
set_option maxRecDepth 20000 in
theorem co_X10_sendSome_304 : CallV mu_X10_sendSome mu_X10_sendNow 304 4 10 := ⟨⟨(bg_4 149 rfl rfl), mo_X10_sendNow.1, mo_X10_sendNow.2.1, mo_X10_sendNow.2.2, by decide, by decide⟩, mv_X10_sendNow.1, mv_X10_sendNow.2, rfl, _, _, cls_10⟩
set_option maxRecDepth 20000 in
theorem co_X10_sendLater_289 : CallV mu_X10_sendLater mu_X10_producerOf 289 1 10 := ⟨⟨(bg_4 127 rfl rfl), mo_X10_producerOf.1, mo_X10_producerOf.2.1, mo_X10_producerOf.2.2, by decide, by decide⟩, mv_X10_producerOf.1, mv_X10_producerOf.2, rfl, _, _, cls_10⟩
set_option maxRecDepth 20000 in
theorem co_X10_sendLater_100 : CallV mu_X10_sendLater mu_X10_topicOf 100 1 10 := ⟨⟨(bg_4 81 rfl rfl), mo_X10_topicOf.1, mo_X10_topicOf.2.1, mo_X10_topicOf.2.2, by decide, by decide⟩, mv_X10_topicOf.1, mv_X10_topicOf.2, rfl, _, _, cls_10⟩
set_option maxRecDepth 20000 in
theorem co_X10_sendLater_296 : CallV mu_X10_sendLater mu_X9_partitionFor 296 1 9 := ⟨⟨(bg_4 86 rfl rfl), mo_X9_partitionFor.1, mo_X9_partitionFor.2.1, mo_X9_partitionFor.2.2, by decide, by decide⟩, mv_X9_partitionFor.1, mv_X9_partitionFor.2, rfl, _, _, cls_9⟩
set_option maxRecDepth 20000 in
theorem co_X10_sendLater_73 : CallS mu_X10_sendLater mu_X10_requireWithin 73 3 := ⟨⟨(bg_1 100 rfl rfl), mo_X10_requireWithin.1, mo_X10_requireWithin.2.1, mo_X10_requireWithin.2.2, by decide, by decide⟩, ms_X10_requireWithin⟩
set_option maxRecDepth 20000 in
theorem thr_RX10_325 : ThrOK RX10 "java/lang/IllegalStateException" "no room for a message" 77 325 81 := ⟨by decide, by decide, (bg_1 171 rfl rfl), (bg_1 6 rfl rfl), by decide, tha_RX10_81.1, tha_RX10_81.2.1, tha_RX10_81.2.2⟩
set_option maxRecDepth 20000 in
theorem co_X10_sendLater_316 : CallI mu_X10_sendLater mu_X4_init 316 7 := ⟨⟨(bg_4 154 rfl rfl), mo_X4_init.1, mo_X4_init.2.1, mo_X4_init.2.2, by decide, by decide⟩, (bg_4 155 rfl rfl), rfl, rfl, rfl⟩
set_option maxRecDepth 20000 in
theorem co_X10_sendLater_319 : CallV mu_X10_sendLater mu_X10_keep 319 1 10 := ⟨⟨(bg_4 221 rfl rfl), mo_X10_keep.1, mo_X10_keep.2.1, mo_X10_keep.2.2, by decide, by decide⟩, mv_X10_keep.1, mv_X10_keep.2, rfl, _, _, cls_10⟩
set_option maxRecDepth 20000 in
theorem mo_X10_delay : MOK mu_X10_delay 1 := ⟨(bg_1 1 rfl rfl), (bg_5 8 rfl rfl), by decide⟩
set_option maxRecDepth 20000 in
theorem mv_X10_delay : Cond.instanceMethod mu_X10_delay.1 ∈ Big ∧ Cond.selects mu_X10_delay.1.cls mu_X10_delay.1 mu_X10_delay.1 ∈ Big := ⟨(bg_5 7 rfl rfl), (bg_s 27 (by decide +kernel) rfl)⟩
set_option maxRecDepth 20000 in
theorem co_X10_sendLater_327 : CallV mu_X10_sendLater mu_X10_delay 327 1 10 := ⟨⟨(bg_5 5 rfl rfl), mo_X10_delay.1, mo_X10_delay.2.1, mo_X10_delay.2.2, by decide, by decide⟩, mv_X10_delay.1, mv_X10_delay.2, rfl, _, _, cls_10⟩
set_option maxRecDepth 20000 in
theorem co_X10_resend_289 : CallV mu_X10_resend mu_X10_producerOf 289 1 10 := ⟨⟨(bg_4 127 rfl rfl), mo_X10_producerOf.1, mo_X10_producerOf.2.1, mo_X10_producerOf.2.2, by decide, by decide⟩, mv_X10_producerOf.1, mv_X10_producerOf.2, rfl, _, _, cls_10⟩
set_option maxRecDepth 20000 in
theorem co_X10_resend_116 : CallV mu_X10_resend mu_X10_partitionOf 116 1 10 := ⟨⟨(bg_4 106 rfl rfl), mo_X10_partitionOf.1, mo_X10_partitionOf.2.1, mo_X10_partitionOf.2.2, by decide, by decide⟩, mv_X10_partitionOf.1, mv_X10_partitionOf.2, rfl, _, _, cls_10⟩
set_option maxRecDepth 20000 in
theorem co_X10_resend_308 : CallV mu_X10_resend mu_X10_plainCutCount 308 2 10 := ⟨⟨(bg_4 140 rfl rfl), mo_X10_plainCutCount.1, mo_X10_plainCutCount.2.1, mo_X10_plainCutCount.2.2, by decide, by decide⟩, mv_X10_plainCutCount.1, mv_X10_plainCutCount.2, rfl, _, _, cls_10⟩
set_option maxRecDepth 20000 in
theorem thr_RX10_330 : ThrOK RX10 "java/lang/IllegalStateException" "the partition has no leader, or no room" 77 330 81 := ⟨by decide, by decide, (bg_1 171 rfl rfl), (bg_1 6 rfl rfl), by decide, tha_RX10_81.1, tha_RX10_81.2.1, tha_RX10_81.2.2⟩
set_option maxRecDepth 20000 in
theorem co_X10_resend_312 : CallV mu_X10_resend mu_X4_isPlainCutOf 312 2 4 := ⟨⟨(bg_4 144 rfl rfl), mo_X4_isPlainCutOf.1, mo_X4_isPlainCutOf.2.1, mo_X4_isPlainCutOf.2.2, by decide, by decide⟩, mv_X4_isPlainCutOf.1, mv_X4_isPlainCutOf.2, rfl, _, _, cls_4⟩
set_option maxRecDepth 20000 in
theorem co_X10_resend_256 : CallV mu_X10_resend mu_X5_append 256 2 5 := ⟨⟨(bg_4 225 rfl rfl), mo_X5_append.1, mo_X5_append.2.1, mo_X5_append.2.2, by decide, by decide⟩, mv_X5_append.1, mv_X5_append.2, rfl, _, _, cls_5⟩
set_option maxRecDepth 20000 in
theorem co_X10_begin_289 : CallV mu_X10_begin mu_X10_producerOf 289 1 10 := ⟨⟨(bg_4 127 rfl rfl), mo_X10_producerOf.1, mo_X10_producerOf.2.1, mo_X10_producerOf.2.2, by decide, by decide⟩, mv_X10_producerOf.1, mv_X10_producerOf.2, rfl, _, _, cls_10⟩
set_option maxRecDepth 20000 in
theorem thr_RX10_332 : ThrOK RX10 "java/lang/IllegalStateException" "a transaction goes on" 77 332 81 := ⟨by decide, by decide, (bg_1 171 rfl rfl), (bg_1 6 rfl rfl), by decide, tha_RX10_81.1, tha_RX10_81.2.1, tha_RX10_81.2.2⟩
set_option maxRecDepth 20000 in
theorem thr_RX10_637 : ThrOK RX10 "java/lang/IndexOutOfBoundsException" "no such group" 481 637 485 := ⟨by decide, by decide, (bg_2 227 rfl rfl), (bg_1 14 rfl rfl), by decide, tha_RX10_485.1, tha_RX10_485.2.1, tha_RX10_485.2.2⟩
set_option maxRecDepth 20000 in
theorem fld_RX10_639 : FldOK 0 1 RX10 639 4 22 true RX0 TX0 10 := ⟨by decide, (bg_2 137 rfl rfl), rfl, rfl, rfl, by decide⟩
set_option maxRecDepth 20000 in
theorem thr_RX10_643 : ThrOK RX10 "java/lang/IndexOutOfBoundsException" "no such member in the group" 481 643 485 := ⟨by decide, by decide, (bg_2 227 rfl rfl), (bg_1 14 rfl rfl), by decide, tha_RX10_485.1, tha_RX10_485.2.1, tha_RX10_485.2.2⟩
set_option maxRecDepth 20000 in
theorem fld_RX3_39 : FldOK 8 4 RX3 39 12 0 false RX8 TX8 6 := ⟨by decide, (bg_2 198 rfl rfl), rfl, rfl, rfl, by decide⟩
set_option maxRecDepth 20000 in
theorem fld_RX3_14 : FldOK 3 1 RX3 14 7 6 true RX3 TX3 7 := ⟨by decide, (bg_3 22 rfl rfl), rfl, rfl, rfl, by decide⟩
set_option maxRecDepth 20000 in
theorem fld_RX3_44 : FldOK 2 1 RX3 44 6 0 false RX2 TX2 2 := ⟨by decide, (bg_2 127 rfl rfl), rfl, rfl, rfl, by decide⟩
set_option maxRecDepth 20000 in
theorem co_X3_placeIn_47 : CallV mu_X3_placeIn mu_X2_get 47 1 2 := ⟨⟨(bg_5 71 rfl rfl), mo_X2_get.1, mo_X2_get.2.1, mo_X2_get.2.2, by decide, by decide⟩, mv_X2_get.1, mv_X2_get.2, rfl, _, _, cls_2⟩
set_option maxRecDepth 20000 in
theorem fld_RX3_51 : FldOK 1 4 RX3 51 5 1 false RX1 TX1 7 := ⟨by decide, (bg_4 45 rfl rfl), rfl, rfl, rfl, by decide⟩
set_option maxRecDepth 20000 in
theorem fld_RX3_57 : FldOK 1 0 RX3 57 5 8 true RX1 TX1 7 := ⟨by decide, (bg_4 32 rfl rfl), rfl, rfl, rfl, by decide⟩
set_option maxRecDepth 20000 in
theorem fld_RX3_61 : FldOK 4 2 RX3 61 8 9 true RX4 TX4 11 := ⟨by decide, (bg_4 169 rfl rfl), rfl, rfl, rfl, by decide⟩
set_option maxRecDepth 20000 in
theorem fld_RX3_67 : FldOK 8 0 RX3 67 12 9 true RX8 TX8 6 := ⟨by decide, (bg_2 183 rfl rfl), rfl, rfl, rfl, by decide⟩
set_option maxRecDepth 20000 in
theorem fld_RX3_68 : FldOK 4 9 RX3 68 8 0 false RX4 TX4 11 := ⟨by decide, (bg_4 190 rfl rfl), rfl, rfl, rfl, by decide⟩
set_option maxRecDepth 20000 in
theorem co_X3_placeIn_71 : CallS mu_X3_placeIn mu_J9_min_7cf53 71 2 := ⟨⟨(bg_5 72 rfl rfl), mo_J9_min_7cf53.1, mo_J9_min_7cf53.2.1, mo_J9_min_7cf53.2.2, by decide, by decide⟩, ms_J9_min_7cf53⟩
set_option maxRecDepth 20000 in
theorem mo_X0_shareAt : MOK mu_X0_shareAt 1 := ⟨(bg_1 11 rfl rfl), (bg_3 229 rfl rfl), by decide⟩
set_option maxRecDepth 20000 in
theorem mv_X0_shareAt : Cond.instanceMethod mu_X0_shareAt.1 ∈ Big ∧ Cond.selects mu_X0_shareAt.1.cls mu_X0_shareAt.1 mu_X0_shareAt.1 ∈ Big := ⟨(bg_3 227 rfl rfl), (bg_3 228 rfl rfl)⟩
set_option maxRecDepth 20000 in
theorem co_X6_notePlaces_43 : CallV mu_X6_notePlaces mu_X0_shareAt 43 1 0 := ⟨⟨(bg_5 33 rfl rfl), mo_X0_shareAt.1, mo_X0_shareAt.2.1, mo_X0_shareAt.2.2, by decide, by decide⟩, mv_X0_shareAt.1, mv_X0_shareAt.2, rfl, _, _, cls_0⟩
set_option maxRecDepth 20000 in
theorem fld_RX6_49 : FldOK 8 1 RX6 49 12 7 false RX8 TX8 6 := ⟨by decide, (bg_2 187 rfl rfl), rfl, rfl, rfl, by decide⟩
set_option maxRecDepth 20000 in
theorem mo_X3_placeIn : MOK mu_X3_placeIn 1 := ⟨(bg_1 15 rfl rfl), (bg_5 70 rfl rfl), by decide⟩
set_option maxRecDepth 20000 in
theorem mv_X3_placeIn : Cond.instanceMethod mu_X3_placeIn.1 ∈ Big ∧ Cond.selects mu_X3_placeIn.1.cls mu_X3_placeIn.1 mu_X3_placeIn.1 ∈ Big := ⟨(bg_5 68 rfl rfl), (bg_5 69 rfl rfl)⟩
set_option maxRecDepth 20000 in
theorem co_X6_notePlaces_54 : CallV mu_X6_notePlaces mu_X3_placeIn 54 1 3 := ⟨⟨(bg_5 67 rfl rfl), mo_X3_placeIn.1, mo_X3_placeIn.2.1, mo_X3_placeIn.2.2, by decide, by decide⟩, mv_X3_placeIn.1, mv_X3_placeIn.2, rfl, _, _, cls_3⟩
set_option maxRecDepth 20000 in
theorem fld_RX6_60 : FldOK 0 6 RX6 60 4 0 false RX0 TX0 10 := ⟨by decide, (bg_2 146 rfl rfl), rfl, rfl, rfl, by decide⟩
set_option maxRecDepth 20000 in
theorem co_X10_attach_289 : CallV mu_X10_attach mu_X10_producerOf 289 1 10 := ⟨⟨(bg_4 127 rfl rfl), mo_X10_producerOf.1, mo_X10_producerOf.2.1, mo_X10_producerOf.2.2, by decide, by decide⟩, mv_X10_producerOf.1, mv_X10_producerOf.2, rfl, _, _, cls_10⟩
set_option maxRecDepth 20000 in
theorem mo_X10_groupOf : MOK mu_X10_groupOf 1 := ⟨(bg_1 1 rfl rfl), (bg_2 226 rfl rfl), by decide⟩
set_option maxRecDepth 20000 in
theorem mv_X10_groupOf : Cond.instanceMethod mu_X10_groupOf.1 ∈ Big ∧ Cond.selects mu_X10_groupOf.1.cls mu_X10_groupOf.1 mu_X10_groupOf.1 ∈ Big := ⟨(bg_2 225 rfl rfl), (bg_s 2 (by decide +kernel) rfl)⟩
set_option maxRecDepth 20000 in
theorem co_X10_attach_334 : CallV mu_X10_attach mu_X10_groupOf 334 1 10 := ⟨⟨(bg_2 223 rfl rfl), mo_X10_groupOf.1, mo_X10_groupOf.2.1, mo_X10_groupOf.2.2, by decide, by decide⟩, mv_X10_groupOf.1, mv_X10_groupOf.2, rfl, _, _, cls_10⟩
set_option maxRecDepth 20000 in
theorem mo_X10_memberOf : MOK mu_X10_memberOf 2 := ⟨(bg_1 1 rfl rfl), (bg_3 86 rfl rfl), by decide⟩
set_option maxRecDepth 20000 in
theorem ms_X10_memberOf : Cond.static mu_X10_memberOf.1 ∈ Big := (bg_3 85 rfl rfl)
set_option maxRecDepth 20000 in
theorem co_X10_attach_338 : CallS mu_X10_attach mu_X10_memberOf 338 2 := ⟨⟨(bg_3 84 rfl rfl), mo_X10_memberOf.1, mo_X10_memberOf.2.1, mo_X10_memberOf.2.2, by decide, by decide⟩, ms_X10_memberOf⟩
set_option maxRecDepth 20000 in
theorem thr_RX10_342 : ThrOK RX10 "java/lang/IllegalStateException" "no transaction goes on, or it is broken" 77 342 81 := ⟨by decide, by decide, (bg_1 171 rfl rfl), (bg_1 6 rfl rfl), by decide, tha_RX10_81.1, tha_RX10_81.2.1, tha_RX10_81.2.2⟩
set_option maxRecDepth 20000 in
theorem mo_X6_notePlaces : MOK mu_X6_notePlaces 2 := ⟨(bg_1 10 rfl rfl), (bg_5 66 rfl rfl), by decide⟩
set_option maxRecDepth 20000 in
theorem mv_X6_notePlaces : Cond.instanceMethod mu_X6_notePlaces.1 ∈ Big ∧ Cond.selects mu_X6_notePlaces.1.cls mu_X6_notePlaces.1 mu_X6_notePlaces.1 ∈ Big := ⟨(bg_5 64 rfl rfl), (bg_5 65 rfl rfl)⟩
set_option maxRecDepth 20000 in
theorem co_X10_attach_344 : CallV mu_X10_attach mu_X6_notePlaces 344 2 6 := ⟨⟨(bg_5 63 rfl rfl), mo_X6_notePlaces.1, mo_X6_notePlaces.2.1, mo_X6_notePlaces.2.2, by decide, by decide⟩, mv_X6_notePlaces.1, mv_X6_notePlaces.2, rfl, _, _, cls_6⟩
set_option maxRecDepth 20000 in
theorem co_X10_isReplicated_363 : CallV mu_X10_isReplicated mu_X5_highWatermark 363 0 5 := ⟨⟨(bg_5 28 rfl rfl), mo_X5_highWatermark.1, mo_X5_highWatermark.2.1, mo_X5_highWatermark.2.2, by decide, by decide⟩, mv_X5_highWatermark.1, mv_X5_highWatermark.2, rfl, _, _, cls_5⟩
set_option maxRecDepth 20000 in
theorem co_X6_placesStand_43 : CallV mu_X6_placesStand mu_X0_shareAt 43 1 0 := ⟨⟨(bg_5 33 rfl rfl), mo_X0_shareAt.1, mo_X0_shareAt.2.1, mo_X0_shareAt.2.2, by decide, by decide⟩, mv_X0_shareAt.1, mv_X0_shareAt.2, rfl, _, _, cls_0⟩
set_option maxRecDepth 20000 in
theorem co_X6_commitPlaces_43 : CallV mu_X6_commitPlaces mu_X0_shareAt 43 1 0 := ⟨⟨(bg_5 33 rfl rfl), mo_X0_shareAt.1, mo_X0_shareAt.2.1, mo_X0_shareAt.2.2, by decide, by decide⟩, mv_X0_shareAt.1, mv_X0_shareAt.2, rfl, _, _, cls_0⟩
set_option maxRecDepth 20000 in
theorem fld_RX6_63 : FldOK 8 3 RX6 63 12 0 false RX8 TX8 6 := ⟨by decide, (bg_2 194 rfl rfl), rfl, rfl, rfl, by decide⟩
set_option maxRecDepth 20000 in
theorem co_X10_commit_289 : CallV mu_X10_commit mu_X10_producerOf 289 1 10 := ⟨⟨(bg_4 127 rfl rfl), mo_X10_producerOf.1, mo_X10_producerOf.2.1, mo_X10_producerOf.2.2, by decide, by decide⟩, mv_X10_producerOf.1, mv_X10_producerOf.2, rfl, _, _, cls_10⟩
set_option maxRecDepth 20000 in
theorem thr_RX10_355 : ThrOK RX10 "java/lang/IllegalStateException" "the transaction cannot be committed" 77 355 81 := ⟨by decide, by decide, (bg_1 171 rfl rfl), (bg_1 6 rfl rfl), by decide, tha_RX10_81.1, tha_RX10_81.2.1, tha_RX10_81.2.2⟩
set_option maxRecDepth 20000 in
theorem mo_X10_isReplicated : MOK mu_X10_isReplicated 1 := ⟨(bg_1 1 rfl rfl), (bg_5 27 rfl rfl), by decide⟩
set_option maxRecDepth 20000 in
theorem mv_X10_isReplicated : Cond.instanceMethod mu_X10_isReplicated.1 ∈ Big ∧ Cond.selects mu_X10_isReplicated.1.cls mu_X10_isReplicated.1 mu_X10_isReplicated.1 ∈ Big := ⟨(bg_5 26 rfl rfl), (bg_s 28 (by decide +kernel) rfl)⟩
set_option maxRecDepth 20000 in
theorem co_X10_commit_348 : CallV mu_X10_commit mu_X10_isReplicated 348 1 10 := ⟨⟨(bg_5 24 rfl rfl), mo_X10_isReplicated.1, mo_X10_isReplicated.2.1, mo_X10_isReplicated.2.2, by decide, by decide⟩, mv_X10_isReplicated.1, mv_X10_isReplicated.2, rfl, _, _, cls_10⟩
set_option maxRecDepth 20000 in
theorem mo_X6_placesStand : MOK mu_X6_placesStand 0 := ⟨(bg_1 10 rfl rfl), (bg_5 32 rfl rfl), by decide⟩
set_option maxRecDepth 20000 in
theorem mv_X6_placesStand : Cond.instanceMethod mu_X6_placesStand.1 ∈ Big ∧ Cond.selects mu_X6_placesStand.1.cls mu_X6_placesStand.1 mu_X6_placesStand.1 ∈ Big := ⟨(bg_5 30 rfl rfl), (bg_5 31 rfl rfl)⟩
set_option maxRecDepth 20000 in
theorem co_X10_commit_351 : CallV mu_X10_commit mu_X6_placesStand 351 0 6 := ⟨⟨(bg_5 29 rfl rfl), mo_X6_placesStand.1, mo_X6_placesStand.2.1, mo_X6_placesStand.2.2, by decide, by decide⟩, mv_X6_placesStand.1, mv_X6_placesStand.2, rfl, _, _, cls_6⟩
set_option maxRecDepth 20000 in
theorem mo_X6_commitPlaces : MOK mu_X6_commitPlaces 0 := ⟨(bg_1 10 rfl rfl), (bg_5 38 rfl rfl), by decide⟩
set_option maxRecDepth 20000 in
theorem mv_X6_commitPlaces : Cond.instanceMethod mu_X6_commitPlaces.1 ∈ Big ∧ Cond.selects mu_X6_commitPlaces.1.cls mu_X6_commitPlaces.1 mu_X6_commitPlaces.1 ∈ Big := ⟨(bg_5 36 rfl rfl), (bg_5 37 rfl rfl)⟩
set_option maxRecDepth 20000 in
theorem co_X10_commit_357 : CallV mu_X10_commit mu_X6_commitPlaces 357 0 6 := ⟨⟨(bg_5 35 rfl rfl), mo_X6_commitPlaces.1, mo_X6_commitPlaces.2.1, mo_X6_commitPlaces.2.2, by decide, by decide⟩, mv_X6_commitPlaces.1, mv_X6_commitPlaces.2, rfl, _, _, cls_6⟩
set_option maxRecDepth 20000 in
theorem co_X10_commit_218 : CallV mu_X10_commit mu_X10_settle 218 2 10 := ⟨⟨(bg_5 39 rfl rfl), mo_X10_settle.1, mo_X10_settle.2.1, mo_X10_settle.2.2, by decide, by decide⟩, mv_X10_settle.1, mv_X10_settle.2, rfl, _, _, cls_10⟩
set_option maxRecDepth 20000 in
theorem mo_X6_endTransaction : MOK mu_X6_endTransaction 0 := ⟨(bg_1 10 rfl rfl), (bg_5 46 rfl rfl), by decide⟩
set_option maxRecDepth 20000 in
theorem mv_X6_endTransaction : Cond.instanceMethod mu_X6_endTransaction.1 ∈ Big ∧ Cond.selects mu_X6_endTransaction.1.cls mu_X6_endTransaction.1 mu_X6_endTransaction.1 ∈ Big := ⟨(bg_5 44 rfl rfl), (bg_5 45 rfl rfl)⟩
set_option maxRecDepth 20000 in
theorem co_X10_commit_360 : CallV mu_X10_commit mu_X6_endTransaction 360 0 6 := ⟨⟨(bg_5 43 rfl rfl), mo_X6_endTransaction.1, mo_X6_endTransaction.2.1, mo_X6_endTransaction.2.2, by decide, by decide⟩, mv_X6_endTransaction.1, mv_X6_endTransaction.2, rfl, _, _, cls_6⟩
set_option maxRecDepth 20000 in
theorem co_X10_abort_289 : CallV mu_X10_abort mu_X10_producerOf 289 1 10 := ⟨⟨(bg_4 127 rfl rfl), mo_X10_producerOf.1, mo_X10_producerOf.2.1, mo_X10_producerOf.2.2, by decide, by decide⟩, mv_X10_producerOf.1, mv_X10_producerOf.2, rfl, _, _, cls_10⟩
set_option maxRecDepth 20000 in
theorem thr_RX10_366 : ThrOK RX10 "java/lang/IllegalStateException" "no transaction goes on" 77 366 81 := ⟨by decide, by decide, (bg_1 171 rfl rfl), (bg_1 6 rfl rfl), by decide, tha_RX10_81.1, tha_RX10_81.2.1, tha_RX10_81.2.2⟩
set_option maxRecDepth 20000 in
theorem co_X10_abort_218 : CallV mu_X10_abort mu_X10_settle 218 2 10 := ⟨⟨(bg_5 39 rfl rfl), mo_X10_settle.1, mo_X10_settle.2.1, mo_X10_settle.2.2, by decide, by decide⟩, mv_X10_settle.1, mv_X10_settle.2, rfl, _, _, cls_10⟩
set_option maxRecDepth 20000 in
theorem co_X10_abort_360 : CallV mu_X10_abort mu_X6_endTransaction 360 0 6 := ⟨⟨(bg_5 43 rfl rfl), mo_X6_endTransaction.1, mo_X6_endTransaction.2.1, mo_X6_endTransaction.2.2, by decide, by decide⟩, mv_X6_endTransaction.1, mv_X6_endTransaction.2, rfl, _, _, cls_6⟩
set_option maxRecDepth 20000 in
theorem oi_RX2_1 : Cond.methodLink RX2 1 Lib.objectInit ∈ Big ∧ Cond.instanceMethod Lib.objectInit ∈ Big ∧ Cond.code Lib.objectInit ⟨#[0xb1]⟩ 1 none ∈ Big := ⟨(bg_2 123 rfl rfl), (bg_1 25 rfl rfl), (bg_1 26 rfl rfl)⟩
set_option maxRecDepth 20000 in
theorem oi_RX0_3 : Cond.methodLink RX0 3 Lib.objectInit ∈ Big ∧ Cond.instanceMethod Lib.objectInit ∈ Big ∧ Cond.code Lib.objectInit ⟨#[0xb1]⟩ 1 none ∈ Big := ⟨(bg_2 111 rfl rfl), (bg_1 25 rfl rfl), (bg_1 26 rfl rfl)⟩
set_option maxRecDepth 20000 in
theorem fld_RX0_25 : FldOK 0 2 RX0 25 4 20 true RX0 TX0 10 := ⟨by decide, (bg_2 138 rfl rfl), rfl, rfl, rfl, by decide⟩
set_option maxRecDepth 20000 in
theorem mo_X2_init : MOK mu_X2_init 1 := ⟨(bg_1 12 rfl rfl), (bg_2 122 rfl rfl), by decide⟩
set_option maxRecDepth 20000 in
theorem co_X0_init_31 : CallI mu_X0_init mu_X2_init 31 1 := ⟨⟨(bg_2 120 rfl rfl), mo_X2_init.1, mo_X2_init.2.1, mo_X2_init.2.2, by decide, by decide⟩, (bg_2 121 rfl rfl), rfl, rfl, rfl⟩
set_option maxRecDepth 20000 in
theorem fld_RX0_38 : FldOK 0 4 RX0 38 4 6 true RX0 TX0 10 := ⟨by decide, (bg_2 141 rfl rfl), rfl, rfl, rfl, by decide⟩
set_option maxRecDepth 20000 in
theorem fld_RX0_41 : FldOK 0 5 RX0 41 4 0 false RX0 TX0 10 := ⟨by decide, (bg_2 143 rfl rfl), rfl, rfl, rfl, by decide⟩
set_option maxRecDepth 20000 in
theorem fld_RX0_54 : FldOK 0 9 RX0 54 4 0 false RX0 TX0 10 := ⟨by decide, (bg_2 151 rfl rfl), rfl, rfl, rfl, by decide⟩
set_option maxRecDepth 20000 in
theorem nw_RX0_29 : Cond.classLink RX0 29 RX2 ∈ Big ∧ Cond.instantiable RX2 2 ∈ Big ∧ Cond.initialized RX2 ∈ Big := ⟨(bg_2 118 rfl rfl), (bg_2 119 rfl rfl), (bg_1 12 rfl rfl)⟩
set_option maxRecDepth 20000 in
theorem oi_RX8_1 : Cond.methodLink RX8 1 Lib.objectInit ∈ Big ∧ Cond.instanceMethod Lib.objectInit ∈ Big ∧ Cond.code Lib.objectInit ⟨#[0xb1]⟩ 1 none ∈ Big := ⟨(bg_2 181 rfl rfl), (bg_1 25 rfl rfl), (bg_1 26 rfl rfl)⟩
set_option maxRecDepth 20000 in
theorem fld_RX8_7 : FldOK 8 1 RX8 7 12 7 false RX8 TX8 6 := ⟨by decide, (bg_2 186 rfl rfl), rfl, rfl, rfl, by decide⟩
set_option maxRecDepth 20000 in
theorem fld_RX8_13 : FldOK 8 2 RX8 13 12 7 false RX8 TX8 6 := ⟨by decide, (bg_2 190 rfl rfl), rfl, rfl, rfl, by decide⟩
set_option maxRecDepth 20000 in
theorem fld_RX8_16 : FldOK 8 3 RX8 16 12 0 false RX8 TX8 6 := ⟨by decide, (bg_2 193 rfl rfl), rfl, rfl, rfl, by decide⟩
set_option maxRecDepth 20000 in
theorem fld_RX8_20 : FldOK 8 4 RX8 20 12 0 false RX8 TX8 6 := ⟨by decide, (bg_2 197 rfl rfl), rfl, rfl, rfl, by decide⟩
set_option maxRecDepth 20000 in
theorem fld_RX8_23 : FldOK 8 5 RX8 23 12 0 false RX8 TX8 6 := ⟨by decide, (bg_2 201 rfl rfl), rfl, rfl, rfl, by decide⟩
set_option maxRecDepth 20000 in
theorem fld_RX8_26 : FldOK 8 0 RX8 26 12 9 true RX8 TX8 6 := ⟨by decide, (bg_2 182 rfl rfl), rfl, rfl, rfl, by decide⟩
set_option maxRecDepth 20000 in
theorem fld_RX0_57 : FldOK 5 0 RX0 57 9 0 true RX5 TX5 6 := ⟨by decide, (bg_2 25 rfl rfl), rfl, rfl, rfl, by decide⟩
set_option maxRecDepth 20000 in
theorem mo_X8_init : MOK mu_X8_init 1 := ⟨(bg_1 13 rfl rfl), (bg_2 180 rfl rfl), by decide⟩
set_option maxRecDepth 20000 in
theorem co_X0_addShare_62 : CallI mu_X0_addShare mu_X8_init 62 1 := ⟨⟨(bg_2 178 rfl rfl), mo_X8_init.1, mo_X8_init.2.1, mo_X8_init.2.2, by decide, by decide⟩, (bg_2 179 rfl rfl), rfl, rfl, rfl⟩
set_option maxRecDepth 20000 in
theorem nw_RX0_9 : Cond.classLink RX0 9 RX8 ∈ Big ∧ Cond.instantiable RX8 6 ∈ Big ∧ Cond.initialized RX8 ∈ Big := ⟨(bg_2 112 rfl rfl), (bg_2 177 rfl rfl), (bg_1 13 rfl rfl)⟩
set_option maxRecDepth 20000 in
theorem co_X10_group_375_a : Cond.initialized mu_X0_init.1.cls ∈ Big ∧ mw mu_X0_init ∈ Big ∧ (mu_X0_init.1.cls ≠ "java/lang/invoke/MethodHandle" ∧ mu_X0_init.1.cls ≠ "java/lang/invoke/VarHandle" ∧ (parseMethodDescriptor mu_X0_init.1.desc).map (fun d => d.parameters.length) = some 0) ∧ mu_X0_init.2.2.2.2.1 + 1 ≤ mu_X10_group.2.2.2.2.1 ∧ 8 + (mu_X0_init.2.2.1 + 11) + mu_X0_init.2.2.2.2.2.1 ≤ mu_X10_group.2.2.2.2.2.1 := ⟨(bg_1 11 rfl rfl), (bg_2 110 rfl rfl), by decide, by decide, by decide⟩
set_option maxRecDepth 20000 in
theorem co_X10_group_375_b : Cond.instanceMethod mu_X0_init.1 ∈ Big ∧ mu_X0_init.1.name = "<init>" ∧ mu_X0_init.2.2.2.1 = none ∧ mu_X0_init.2.2.2.2.2.2 = [] := ⟨(bg_2 109 rfl rfl), rfl, rfl, rfl⟩
set_option maxRecDepth 20000 in
theorem mo_X0_addShare : MOK mu_X0_addShare 1 := ⟨(bg_1 11 rfl rfl), (bg_2 176 rfl rfl), by decide⟩
set_option maxRecDepth 20000 in
theorem mv_X0_addShare : Cond.instanceMethod mu_X0_addShare.1 ∈ Big ∧ Cond.selects mu_X0_addShare.1.cls mu_X0_addShare.1 mu_X0_addShare.1 ∈ Big := ⟨(bg_2 174 rfl rfl), (bg_2 175 rfl rfl)⟩
set_option maxRecDepth 20000 in
theorem co_X10_group_376 : CallV mu_X10_group mu_X0_addShare 376 1 0 := ⟨⟨(bg_2 173 rfl rfl), mo_X0_addShare.1, mo_X0_addShare.2.1, mo_X0_addShare.2.2, by decide, by decide⟩, mv_X0_addShare.1, mv_X0_addShare.2, rfl, _, _, cls_0⟩
set_option maxRecDepth 20000 in
theorem nw_RX10_27 : Cond.classLink RX10 27 RX0 ∈ Big ∧ Cond.instantiable RX0 10 ∈ Big ∧ Cond.initialized RX0 ∈ Big := ⟨(bg_1 33 rfl rfl), (bg_2 107 rfl rfl), (bg_1 11 rfl rfl)⟩
set_option maxRecDepth 20000 in
theorem thr_RX10_373 : ThrOK RX10 "java/lang/IllegalStateException" "no room for a group" 77 373 81 := ⟨by decide, by decide, (bg_1 171 rfl rfl), (bg_1 6 rfl rfl), by decide, tha_RX10_81.1, tha_RX10_81.2.1, tha_RX10_81.2.2⟩
set_option maxRecDepth 20000 in
theorem thr_RX10_370 : ThrOK RX10 "java/lang/IllegalArgumentException" "no such topics" 368 370 372 := ⟨by decide, by decide, (bg_1 103 rfl rfl), (bg_1 5 rfl rfl), by decide, tha_RX10_372.1, tha_RX10_372.2.1, tha_RX10_372.2.2⟩
set_option maxRecDepth 20000 in
theorem oi_RX3_3 : Cond.methodLink RX3 3 Lib.objectInit ∈ Big ∧ Cond.instanceMethod Lib.objectInit ∈ Big ∧ Cond.code Lib.objectInit ⟨#[0xb1]⟩ 1 none ∈ Big := ⟨(bg_3 16 rfl rfl), (bg_1 25 rfl rfl), (bg_1 26 rfl rfl)⟩
set_option maxRecDepth 20000 in
theorem co_X3_init_11 : CallI mu_X3_init mu_X2_init 11 1 := ⟨⟨(bg_3 18 rfl rfl), mo_X2_init.1, mo_X2_init.2.1, mo_X2_init.2.2, by decide, by decide⟩, (bg_2 121 rfl rfl), rfl, rfl, rfl⟩
set_option maxRecDepth 20000 in
theorem fld_RX3_20 : FldOK 3 3 RX3 20 7 0 false RX3 TX3 7 := ⟨by decide, (bg_3 28 rfl rfl), rfl, rfl, rfl, by decide⟩
set_option maxRecDepth 20000 in
theorem fld_RX3_24 : FldOK 3 4 RX3 24 7 0 false RX3 TX3 7 := ⟨by decide, (bg_3 31 rfl rfl), rfl, rfl, rfl, by decide⟩
set_option maxRecDepth 20000 in
theorem fld_RX3_27 : FldOK 3 5 RX3 27 7 0 false RX3 TX3 7 := ⟨by decide, (bg_3 33 rfl rfl), rfl, rfl, rfl, by decide⟩
set_option maxRecDepth 20000 in
theorem fld_RX3_30 : FldOK 3 6 RX3 30 7 0 false RX3 TX3 7 := ⟨by decide, (bg_3 35 rfl rfl), rfl, rfl, rfl, by decide⟩
set_option maxRecDepth 20000 in
theorem fld_RX3_33 : FldOK 3 0 RX3 33 7 0 true RX3 TX3 7 := ⟨by decide, (bg_3 19 rfl rfl), rfl, rfl, rfl, by decide⟩
set_option maxRecDepth 20000 in
theorem fld_RX3_36 : FldOK 3 2 RX3 36 7 0 false RX3 TX3 7 := ⟨by decide, (bg_3 25 rfl rfl), rfl, rfl, rfl, by decide⟩
set_option maxRecDepth 20000 in
theorem nw_RX3_9 : Cond.classLink RX3 9 RX2 ∈ Big ∧ Cond.instantiable RX2 2 ∈ Big ∧ Cond.initialized RX2 ∈ Big := ⟨(bg_3 17 rfl rfl), (bg_2 119 rfl rfl), (bg_1 12 rfl rfl)⟩
set_option maxRecDepth 20000 in
theorem mo_X3_init : MOK mu_X3_init 2 := ⟨(bg_1 15 rfl rfl), (bg_3 15 rfl rfl), by decide⟩
set_option maxRecDepth 20000 in
theorem co_X0_addMember_87 : CallI mu_X0_addMember mu_X3_init 87 2 := ⟨⟨(bg_3 13 rfl rfl), mo_X3_init.1, mo_X3_init.2.1, mo_X3_init.2.2, by decide, by decide⟩, (bg_3 14 rfl rfl), rfl, rfl, rfl⟩
set_option maxRecDepth 20000 in
theorem co_X0_addMember_90 : CallV mu_X0_addMember mu_X0_dealTargets 90 0 0 := ⟨⟨(bg_3 52 rfl rfl), mo_X0_dealTargets.1, mo_X0_dealTargets.2.1, mo_X0_dealTargets.2.2, by decide, by decide⟩, mv_X0_dealTargets.1, mv_X0_dealTargets.2, rfl, _, _, cls_0⟩
set_option maxRecDepth 20000 in
theorem nw_RX0_17 : Cond.classLink RX0 17 RX3 ∈ Big ∧ Cond.instantiable RX3 7 ∈ Big ∧ Cond.initialized RX3 ∈ Big := ⟨(bg_2 114 rfl rfl), (bg_3 12 rfl rfl), (bg_1 15 rfl rfl)⟩
set_option maxRecDepth 20000 in
theorem co_X10_join_334 : CallV mu_X10_join mu_X10_groupOf 334 1 10 := ⟨⟨(bg_2 223 rfl rfl), mo_X10_groupOf.1, mo_X10_groupOf.2.1, mo_X10_groupOf.2.2, by decide, by decide⟩, mv_X10_groupOf.1, mv_X10_groupOf.2, rfl, _, _, cls_10⟩
set_option maxRecDepth 20000 in
theorem fld_RX10_379 : FldOK 0 5 RX10 379 4 0 false RX0 TX0 10 := ⟨by decide, (bg_2 144 rfl rfl), rfl, rfl, rfl, by decide⟩
set_option maxRecDepth 20000 in
theorem co_X10_join_382 : CallV mu_X10_join mu_X0_memberCount 382 0 0 := ⟨⟨(bg_3 3 rfl rfl), mo_X0_memberCount.1, mo_X0_memberCount.2.1, mo_X0_memberCount.2.2, by decide, by decide⟩, mv_X0_memberCount.1, mv_X0_memberCount.2, rfl, _, _, cls_0⟩
set_option maxRecDepth 20000 in
theorem mo_X0_addMember : MOK mu_X0_addMember 1 := ⟨(bg_1 11 rfl rfl), (bg_3 11 rfl rfl), by decide⟩
set_option maxRecDepth 20000 in
theorem mv_X0_addMember : Cond.instanceMethod mu_X0_addMember.1 ∈ Big ∧ Cond.selects mu_X0_addMember.1.cls mu_X0_addMember.1 mu_X0_addMember.1 ∈ Big := ⟨(bg_3 9 rfl rfl), (bg_3 10 rfl rfl)⟩
set_option maxRecDepth 20000 in
theorem co_X10_join_387 : CallV mu_X10_join mu_X0_addMember 387 1 0 := ⟨⟨(bg_3 8 rfl rfl), mo_X0_addMember.1, mo_X0_addMember.2.1, mo_X0_addMember.2.2, by decide, by decide⟩, mv_X0_addMember.1, mv_X0_addMember.2, rfl, _, _, cls_0⟩
set_option maxRecDepth 20000 in
theorem thr_RX10_385 : ThrOK RX10 "java/lang/IllegalStateException" "no room for a member" 77 385 81 := ⟨by decide, by decide, (bg_1 171 rfl rfl), (bg_1 6 rfl rfl), by decide, tha_RX10_81.1, tha_RX10_81.2.1, tha_RX10_81.2.2⟩
set_option maxRecDepth 20000 in
theorem co_X10_leave_334 : CallV mu_X10_leave mu_X10_groupOf 334 1 10 := ⟨⟨(bg_2 223 rfl rfl), mo_X10_groupOf.1, mo_X10_groupOf.2.1, mo_X10_groupOf.2.2, by decide, by decide⟩, mv_X10_groupOf.1, mv_X10_groupOf.2, rfl, _, _, cls_10⟩
set_option maxRecDepth 20000 in
theorem co_X10_leave_338 : CallS mu_X10_leave mu_X10_memberOf 338 2 := ⟨⟨(bg_3 84 rfl rfl), mo_X10_memberOf.1, mo_X10_memberOf.2.1, mo_X10_memberOf.2.2, by decide, by decide⟩, ms_X10_memberOf⟩
set_option maxRecDepth 20000 in
theorem co_X10_leave_391 : CallV mu_X10_leave mu_X0_removeMember 391 2 0 := ⟨⟨(bg_5 209 rfl rfl), mo_X0_removeMember.1, mo_X0_removeMember.2.1, mo_X0_removeMember.2.2, by decide, by decide⟩, mv_X0_removeMember.1, mv_X0_removeMember.2, rfl, _, _, cls_0⟩
set_option maxRecDepth 20000 in
theorem co_X0_followTargets_93 : CallV mu_X0_followTargets mu_X0_giveUp 93 3 0 := ⟨⟨(bg_3 92 rfl rfl), mo_X0_giveUp.1, mo_X0_giveUp.2.1, mo_X0_giveUp.2.2, by decide, by decide⟩, mv_X0_giveUp.1, mv_X0_giveUp.2, rfl, _, _, cls_0⟩
set_option maxRecDepth 20000 in
theorem fld_RX0_127 : FldOK 8 3 RX0 127 12 0 false RX8 TX8 6 := ⟨by decide, (bg_2 195 rfl rfl), rfl, rfl, rfl, by decide⟩
set_option maxRecDepth 20000 in
theorem fld_RX0_134 : FldOK 5 5 RX0 134 9 0 false RX5 TX5 6 := ⟨by decide, (bg_2 37 rfl rfl), rfl, rfl, rfl, by decide⟩
set_option maxRecDepth 20000 in
theorem mo_J9_max_7cf53 : MOK mu_J9_max_7cf53 2 := ⟨(bg_1 16 rfl rfl), (bg_3 118 rfl rfl), by decide⟩
set_option maxRecDepth 20000 in
theorem ms_J9_max_7cf53 : Cond.static mu_J9_max_7cf53.1 ∈ Big := (bg_3 117 rfl rfl)
set_option maxRecDepth 20000 in
theorem co_X0_followTargets_137 : CallS mu_X0_followTargets mu_J9_max_7cf53 137 2 := ⟨⟨(bg_3 116 rfl rfl), mo_J9_max_7cf53.1, mo_J9_max_7cf53.2.1, mo_J9_max_7cf53.2.2, by decide, by decide⟩, ms_J9_max_7cf53⟩
set_option maxRecDepth 20000 in
theorem fld_RX0_143 : FldOK 8 4 RX0 143 12 0 false RX8 TX8 6 := ⟨by decide, (bg_2 199 rfl rfl), rfl, rfl, rfl, by decide⟩
set_option maxRecDepth 20000 in
theorem co_X10_beat_334 : CallV mu_X10_beat mu_X10_groupOf 334 1 10 := ⟨⟨(bg_2 223 rfl rfl), mo_X10_groupOf.1, mo_X10_groupOf.2.1, mo_X10_groupOf.2.2, by decide, by decide⟩, mv_X10_groupOf.1, mv_X10_groupOf.2, rfl, _, _, cls_10⟩
set_option maxRecDepth 20000 in
theorem co_X10_beat_338 : CallS mu_X10_beat mu_X10_memberOf 338 2 := ⟨⟨(bg_3 84 rfl rfl), mo_X10_memberOf.1, mo_X10_memberOf.2.1, mo_X10_memberOf.2.2, by decide, by decide⟩, ms_X10_memberOf⟩
set_option maxRecDepth 20000 in
theorem fld_RX10_395 : FldOK 3 2 RX10 395 7 0 false RX3 TX3 7 := ⟨by decide, (bg_3 27 rfl rfl), rfl, rfl, rfl, by decide⟩
set_option maxRecDepth 20000 in
theorem mo_X0_followTargets : MOK mu_X0_followTargets 2 := ⟨(bg_1 11 rfl rfl), (bg_3 91 rfl rfl), by decide⟩
set_option maxRecDepth 20000 in
theorem mv_X0_followTargets : Cond.instanceMethod mu_X0_followTargets.1 ∈ Big ∧ Cond.selects mu_X0_followTargets.1.cls mu_X0_followTargets.1 mu_X0_followTargets.1 ∈ Big := ⟨(bg_3 89 rfl rfl), (bg_3 90 rfl rfl)⟩
set_option maxRecDepth 20000 in
theorem co_X10_beat_400 : CallV mu_X10_beat mu_X0_followTargets 400 2 0 := ⟨⟨(bg_3 88 rfl rfl), mo_X0_followTargets.1, mo_X0_followTargets.2.1, mo_X0_followTargets.2.2, by decide, by decide⟩, mv_X0_followTargets.1, mv_X0_followTargets.2, rfl, _, _, cls_0⟩
set_option maxRecDepth 20000 in
theorem mo_X0_ownedCount : MOK mu_X0_ownedCount 1 := ⟨(bg_1 11 rfl rfl), (bg_3 122 rfl rfl), by decide⟩
set_option maxRecDepth 20000 in
theorem mv_X0_ownedCount : Cond.instanceMethod mu_X0_ownedCount.1 ∈ Big ∧ Cond.selects mu_X0_ownedCount.1.cls mu_X0_ownedCount.1 mu_X0_ownedCount.1 ∈ Big := ⟨(bg_3 120 rfl rfl), (bg_3 121 rfl rfl)⟩
set_option maxRecDepth 20000 in
theorem co_X10_beat_404 : CallV mu_X10_beat mu_X0_ownedCount 404 1 0 := ⟨⟨(bg_3 119 rfl rfl), mo_X0_ownedCount.1, mo_X0_ownedCount.2.1, mo_X0_ownedCount.2.2, by decide, by decide⟩, mv_X0_ownedCount.1, mv_X0_ownedCount.2, rfl, _, _, cls_0⟩
set_option maxRecDepth 20000 in
theorem fld_RX1_35 : FldOK 4 2 RX1 35 8 9 true RX4 TX4 11 := ⟨by decide, (bg_4 168 rfl rfl), rfl, rfl, rfl, by decide⟩
set_option maxRecDepth 20000 in
theorem fld_RX1_41 : FldOK 4 3 RX1 41 8 0 true RX4 TX4 11 := ⟨by decide, (bg_4 174 rfl rfl), rfl, rfl, rfl, by decide⟩
set_option maxRecDepth 20000 in
theorem co_X2_hasNoneOfRow_19 : CallV mu_X2_hasNoneOfRow mu_X2_get 19 1 2 := ⟨⟨(bg_3 234 rfl rfl), mo_X2_get.1, mo_X2_get.2.1, mo_X2_get.2.2, by decide, by decide⟩, mv_X2_get.1, mv_X2_get.2, rfl, _, _, cls_2⟩
set_option maxRecDepth 20000 in
theorem mo_X1_isOfRow : MOK mu_X1_isOfRow 1 := ⟨(bg_1 18 rfl rfl), (bg_3 238 rfl rfl), by decide⟩
set_option maxRecDepth 20000 in
theorem mv_X1_isOfRow : Cond.instanceMethod mu_X1_isOfRow.1 ∈ Big ∧ Cond.selects mu_X1_isOfRow.1.cls mu_X1_isOfRow.1 mu_X1_isOfRow.1 ∈ Big := ⟨(bg_3 236 rfl rfl), (bg_3 237 rfl rfl)⟩
set_option maxRecDepth 20000 in
theorem co_X2_hasNoneOfRow_40 : CallV mu_X2_hasNoneOfRow mu_X1_isOfRow 40 1 1 := ⟨⟨(bg_3 235 rfl rfl), mo_X1_isOfRow.1, mo_X1_isOfRow.2.1, mo_X1_isOfRow.2.2, by decide, by decide⟩, mv_X1_isOfRow.1, mv_X1_isOfRow.2, rfl, _, _, cls_1⟩
set_option maxRecDepth 20000 in
theorem fld_RX2_23 : FldOK 1 0 RX2 23 5 8 true RX1 TX1 7 := ⟨by decide, (bg_4 33 rfl rfl), rfl, rfl, rfl, by decide⟩
set_option maxRecDepth 20000 in
theorem fld_RX2_44 : FldOK 4 9 RX2 44 8 0 false RX4 TX4 11 := ⟨by decide, (bg_4 191 rfl rfl), rfl, rfl, rfl, by decide⟩
set_option maxRecDepth 20000 in
theorem co_X0_firstDue_152 : CallV mu_X0_firstDue mu_X2_get 152 1 2 := ⟨⟨(bg_3 96 rfl rfl), mo_X2_get.1, mo_X2_get.2.1, mo_X2_get.2.2, by decide, by decide⟩, mv_X2_get.1, mv_X2_get.2, rfl, _, _, cls_2⟩
set_option maxRecDepth 20000 in
theorem co_X0_firstDue_196 : CallV mu_X0_firstDue mu_X0_shareAt 196 1 0 := ⟨⟨(bg_3 226 rfl rfl), mo_X0_shareAt.1, mo_X0_shareAt.2.1, mo_X0_shareAt.2.2, by decide, by decide⟩, mv_X0_shareAt.1, mv_X0_shareAt.2, rfl, _, _, cls_0⟩
set_option maxRecDepth 20000 in
theorem fld_RX0_208 : FldOK 4 9 RX0 208 8 0 false RX4 TX4 11 := ⟨by decide, (bg_4 194 rfl rfl), rfl, rfl, rfl, by decide⟩
set_option maxRecDepth 20000 in
theorem mo_X2_hasNoneOfRow : MOK mu_X2_hasNoneOfRow 2 := ⟨(bg_1 12 rfl rfl), (bg_3 233 rfl rfl), by decide⟩
set_option maxRecDepth 20000 in
theorem mv_X2_hasNoneOfRow : Cond.instanceMethod mu_X2_hasNoneOfRow.1 ∈ Big ∧ Cond.selects mu_X2_hasNoneOfRow.1.cls mu_X2_hasNoneOfRow.1 mu_X2_hasNoneOfRow.1 ∈ Big := ⟨(bg_3 231 rfl rfl), (bg_3 232 rfl rfl)⟩
set_option maxRecDepth 20000 in
theorem co_X0_firstDue_211 : CallV mu_X0_firstDue mu_X2_hasNoneOfRow 211 2 2 := ⟨⟨(bg_3 230 rfl rfl), mo_X2_hasNoneOfRow.1, mo_X2_hasNoneOfRow.2.1, mo_X2_hasNoneOfRow.2.2, by decide, by decide⟩, mv_X2_hasNoneOfRow.1, mv_X2_hasNoneOfRow.2, rfl, _, _, cls_2⟩
set_option maxRecDepth 20000 in
theorem fld_RX0_228 : FldOK 1 5 RX0 228 5 0 false RX1 TX1 7 := ⟨by decide, (bg_4 49 rfl rfl), rfl, rfl, rfl, by decide⟩
set_option maxRecDepth 20000 in
theorem fld_RX0_231 : FldOK 1 6 RX0 231 5 0 false RX1 TX1 7 := ⟨by decide, (bg_4 52 rfl rfl), rfl, rfl, rfl, by decide⟩
set_option maxRecDepth 20000 in
theorem mo_X2_addLast : MOK mu_X2_addLast 1 := ⟨(bg_1 12 rfl rfl), (bg_4 6 rfl rfl), by decide⟩
set_option maxRecDepth 20000 in
theorem mv_X2_addLast : Cond.instanceMethod mu_X2_addLast.1 ∈ Big ∧ Cond.selects mu_X2_addLast.1.cls mu_X2_addLast.1 mu_X2_addLast.1 ∈ Big := ⟨(bg_4 4 rfl rfl), (bg_4 5 rfl rfl)⟩
set_option maxRecDepth 20000 in
theorem co_X0_deliver_234 : CallV mu_X0_deliver mu_X2_addLast 234 1 2 := ⟨⟨(bg_4 3 rfl rfl), mo_X2_addLast.1, mo_X2_addLast.2.1, mo_X2_addLast.2.2, by decide, by decide⟩, mv_X2_addLast.1, mv_X2_addLast.2, rfl, _, _, cls_2⟩
set_option maxRecDepth 20000 in
theorem fld_RX0_65 : FldOK 4 0 RX0 65 8 0 true RX4 TX4 11 := ⟨by decide, (bg_4 161 rfl rfl), rfl, rfl, rfl, by decide⟩
set_option maxRecDepth 20000 in
theorem oi_RX1_3 : Cond.methodLink RX1 3 Lib.objectInit ∈ Big ∧ Cond.instanceMethod Lib.objectInit ∈ Big ∧ Cond.code Lib.objectInit ⟨#[0xb1]⟩ 1 none ∈ Big := ⟨(bg_4 30 rfl rfl), (bg_1 25 rfl rfl), (bg_1 26 rfl rfl)⟩
set_option maxRecDepth 20000 in
theorem fld_RX1_9 : FldOK 1 1 RX1 9 5 0 false RX1 TX1 7 := ⟨by decide, (bg_4 36 rfl rfl), rfl, rfl, rfl, by decide⟩
set_option maxRecDepth 20000 in
theorem fld_RX1_18 : FldOK 1 3 RX1 18 5 0 false RX1 TX1 7 := ⟨by decide, (bg_4 41 rfl rfl), rfl, rfl, rfl, by decide⟩
set_option maxRecDepth 20000 in
theorem fld_RX1_21 : FldOK 1 4 RX1 21 5 1 false RX1 TX1 7 := ⟨by decide, (bg_4 44 rfl rfl), rfl, rfl, rfl, by decide⟩
set_option maxRecDepth 20000 in
theorem fld_RX1_25 : FldOK 1 5 RX1 25 5 0 false RX1 TX1 7 := ⟨by decide, (bg_4 48 rfl rfl), rfl, rfl, rfl, by decide⟩
set_option maxRecDepth 20000 in
theorem fld_RX1_28 : FldOK 1 6 RX1 28 5 0 false RX1 TX1 7 := ⟨by decide, (bg_4 51 rfl rfl), rfl, rfl, rfl, by decide⟩
set_option maxRecDepth 20000 in
theorem mo_X0_knownLetter : MOK mu_X0_knownLetter 1 := ⟨(bg_1 11 rfl rfl), (bg_3 171 rfl rfl), by decide⟩
set_option maxRecDepth 20000 in
theorem mv_X0_knownLetter : Cond.instanceMethod mu_X0_knownLetter.1 ∈ Big ∧ Cond.selects mu_X0_knownLetter.1.cls mu_X0_knownLetter.1 mu_X0_knownLetter.1 ∈ Big := ⟨(bg_3 169 rfl rfl), (bg_3 170 rfl rfl)⟩
set_option maxRecDepth 20000 in
theorem co_X0_letterOf_68 : CallV mu_X0_letterOf mu_X0_knownLetter 68 1 0 := ⟨⟨(bg_4 25 rfl rfl), mo_X0_knownLetter.1, mo_X0_knownLetter.2.1, mo_X0_knownLetter.2.2, by decide, by decide⟩, mv_X0_knownLetter.1, mv_X0_knownLetter.2, rfl, _, _, cls_0⟩
set_option maxRecDepth 20000 in
theorem mo_X1_init : MOK mu_X1_init 1 := ⟨(bg_1 18 rfl rfl), (bg_4 29 rfl rfl), by decide⟩
set_option maxRecDepth 20000 in
theorem co_X0_letterOf_72 : CallI mu_X0_letterOf mu_X1_init 72 1 := ⟨⟨(bg_4 27 rfl rfl), mo_X1_init.1, mo_X1_init.2.1, mo_X1_init.2.2, by decide, by decide⟩, (bg_4 28 rfl rfl), rfl, rfl, rfl⟩
set_option maxRecDepth 20000 in
theorem nw_RX0_23 : Cond.classLink RX0 23 RX1 ∈ Big ∧ Cond.instantiable RX1 7 ∈ Big ∧ Cond.initialized RX1 ∈ Big := ⟨(bg_2 116 rfl rfl), (bg_4 26 rfl rfl), (bg_1 18 rfl rfl)⟩
set_option maxRecDepth 20000 in
theorem co_X0_nextOfLog_215 : CallV mu_X0_nextOfLog mu_X5_stableOffset 215 0 5 := ⟨⟨(bg_4 11 rfl rfl), mo_X5_stableOffset.1, mo_X5_stableOffset.2.1, mo_X5_stableOffset.2.2, by decide, by decide⟩, mv_X5_stableOffset.1, mv_X5_stableOffset.2, rfl, _, _, cls_5⟩
set_option maxRecDepth 20000 in
theorem co_X0_nextOfLog_218 : CallV mu_X0_nextOfLog mu_X5_readableAt 218 2 5 := ⟨⟨(bg_4 12 rfl rfl), mo_X5_readableAt.1, mo_X5_readableAt.2.1, mo_X5_readableAt.2.2, by decide, by decide⟩, mv_X5_readableAt.1, mv_X5_readableAt.2, rfl, _, _, cls_5⟩
set_option maxRecDepth 20000 in
theorem mo_X0_letterOf : MOK mu_X0_letterOf 1 := ⟨(bg_1 11 rfl rfl), (bg_4 24 rfl rfl), by decide⟩
set_option maxRecDepth 20000 in
theorem mv_X0_letterOf : Cond.instanceMethod mu_X0_letterOf.1 ∈ Big ∧ Cond.selects mu_X0_letterOf.1.cls mu_X0_letterOf.1 mu_X0_letterOf.1 ∈ Big := ⟨(bg_4 23 rfl rfl), (bg_s 17 (by decide +kernel) rfl)⟩
set_option maxRecDepth 20000 in
theorem co_X0_nextOfLog_222 : CallV mu_X0_nextOfLog mu_X0_letterOf 222 1 0 := ⟨⟨(bg_4 21 rfl rfl), mo_X0_letterOf.1, mo_X0_letterOf.2.1, mo_X0_letterOf.2.2, by decide, by decide⟩, mv_X0_letterOf.1, mv_X0_letterOf.2, rfl, _, _, cls_0⟩
set_option maxRecDepth 20000 in
theorem fld_RX0_225 : FldOK 1 3 RX0 225 5 0 false RX1 TX1 7 := ⟨by decide, (bg_4 42 rfl rfl), rfl, rfl, rfl, by decide⟩
set_option maxRecDepth 20000 in
theorem co_X0_nextOfLog_211 : CallV mu_X0_nextOfLog mu_X2_hasNoneOfRow 211 2 2 := ⟨⟨(bg_3 230 rfl rfl), mo_X2_hasNoneOfRow.1, mo_X2_hasNoneOfRow.2.1, mo_X2_hasNoneOfRow.2.2, by decide, by decide⟩, mv_X2_hasNoneOfRow.1, mv_X2_hasNoneOfRow.2, rfl, _, _, cls_2⟩
set_option maxRecDepth 20000 in
theorem co_X0_nextOfLog_172 : CallV mu_X0_nextOfLog mu_X0_putInRow 172 2 0 := ⟨⟨(bg_3 104 rfl rfl), mo_X0_putInRow.1, mo_X0_putInRow.2.1, mo_X0_putInRow.2.2, by decide, by decide⟩, mv_X0_putInRow.1, mv_X0_putInRow.2, rfl, _, _, cls_0⟩
set_option maxRecDepth 20000 in
theorem fld_RX0_182 : FldOK 3 3 RX0 182 7 0 false RX3 TX3 7 := ⟨by decide, (bg_3 29 rfl rfl), rfl, rfl, rfl, by decide⟩
set_option maxRecDepth 20000 in
theorem mo_X0_firstDue : MOK mu_X0_firstDue 2 := ⟨(bg_1 11 rfl rfl), (bg_3 225 rfl rfl), by decide⟩
set_option maxRecDepth 20000 in
theorem mv_X0_firstDue : Cond.instanceMethod mu_X0_firstDue.1 ∈ Big ∧ Cond.selects mu_X0_firstDue.1.cls mu_X0_firstDue.1 mu_X0_firstDue.1 ∈ Big := ⟨(bg_3 224 rfl rfl), (bg_s 14 (by decide +kernel) rfl)⟩
set_option maxRecDepth 20000 in
theorem co_X0_deliverNext_185 : CallV mu_X0_deliverNext mu_X0_firstDue 185 2 0 := ⟨⟨(bg_3 222 rfl rfl), mo_X0_firstDue.1, mo_X0_firstDue.2.1, mo_X0_firstDue.2.2, by decide, by decide⟩, mv_X0_firstDue.1, mv_X0_firstDue.2, rfl, _, _, cls_0⟩
set_option maxRecDepth 20000 in
theorem fld_RX0_193 : FldOK 3 4 RX0 193 7 0 false RX3 TX3 7 := ⟨by decide, (bg_3 32 rfl rfl), rfl, rfl, rfl, by decide⟩
set_option maxRecDepth 20000 in
theorem co_X0_deliverNext_196 : CallV mu_X0_deliverNext mu_X0_shareAt 196 1 0 := ⟨⟨(bg_3 226 rfl rfl), mo_X0_shareAt.1, mo_X0_shareAt.2.1, mo_X0_shareAt.2.2, by decide, by decide⟩, mv_X0_shareAt.1, mv_X0_shareAt.2, rfl, _, _, cls_0⟩
set_option maxRecDepth 20000 in
theorem fld_RX0_200 : FldOK 5 4 RX0 200 9 11 false RX5 TX5 6 := ⟨by decide, (bg_2 34 rfl rfl), rfl, rfl, rfl, by decide⟩
set_option maxRecDepth 20000 in
theorem mo_X0_nextOfLog : MOK mu_X0_nextOfLog 2 := ⟨(bg_1 11 rfl rfl), (bg_4 10 rfl rfl), by decide⟩
set_option maxRecDepth 20000 in
theorem mv_X0_nextOfLog : Cond.instanceMethod mu_X0_nextOfLog.1 ∈ Big ∧ Cond.selects mu_X0_nextOfLog.1.cls mu_X0_nextOfLog.1 mu_X0_nextOfLog.1 ∈ Big := ⟨(bg_4 9 rfl rfl), (bg_s 16 (by decide +kernel) rfl)⟩
set_option maxRecDepth 20000 in
theorem co_X0_deliverNext_204 : CallV mu_X0_deliverNext mu_X0_nextOfLog 204 2 0 := ⟨⟨(bg_4 7 rfl rfl), mo_X0_nextOfLog.1, mo_X0_nextOfLog.2.1, mo_X0_nextOfLog.2.2, by decide, by decide⟩, mv_X0_nextOfLog.1, mv_X0_nextOfLog.2, rfl, _, _, cls_0⟩
set_option maxRecDepth 20000 in
theorem mo_X0_deliver : MOK mu_X0_deliver 3 := ⟨(bg_1 11 rfl rfl), (bg_4 2 rfl rfl), by decide⟩
set_option maxRecDepth 20000 in
theorem mv_X0_deliver : Cond.instanceMethod mu_X0_deliver.1 ∈ Big ∧ Cond.selects mu_X0_deliver.1.cls mu_X0_deliver.1 mu_X0_deliver.1 ∈ Big := ⟨(bg_4 1 rfl rfl), (bg_s 15 (by decide +kernel) rfl)⟩
set_option maxRecDepth 20000 in
theorem co_X0_deliverNext_189 : CallV mu_X0_deliverNext mu_X0_deliver 189 3 0 := ⟨⟨(bg_3 239 rfl rfl), mo_X0_deliver.1, mo_X0_deliver.2.1, mo_X0_deliver.2.2, by decide, by decide⟩, mv_X0_deliver.1, mv_X0_deliver.2, rfl, _, _, cls_0⟩
set_option maxRecDepth 20000 in
theorem co_X0_deliverNext_161 : CallV mu_X0_deliverNext mu_X2_removeLetter 161 1 2 := ⟨⟨(bg_3 100 rfl rfl), mo_X2_removeLetter.1, mo_X2_removeLetter.2.1, mo_X2_removeLetter.2.2, by decide, by decide⟩, mv_X2_removeLetter.1, mv_X2_removeLetter.2, rfl, _, _, cls_2⟩
set_option maxRecDepth 20000 in
theorem co_X10_read_334 : CallV mu_X10_read mu_X10_groupOf 334 1 10 := ⟨⟨(bg_2 223 rfl rfl), mo_X10_groupOf.1, mo_X10_groupOf.2.1, mo_X10_groupOf.2.2, by decide, by decide⟩, mv_X10_groupOf.1, mv_X10_groupOf.2, rfl, _, _, cls_10⟩
set_option maxRecDepth 20000 in
theorem co_X10_read_338 : CallS mu_X10_read mu_X10_memberOf 338 2 := ⟨⟨(bg_3 84 rfl rfl), mo_X10_memberOf.1, mo_X10_memberOf.2.1, mo_X10_memberOf.2.2, by decide, by decide⟩, ms_X10_memberOf⟩
set_option maxRecDepth 20000 in
theorem mo_X0_deliverNext : MOK mu_X0_deliverNext 2 := ⟨(bg_1 11 rfl rfl), (bg_3 221 rfl rfl), by decide⟩
set_option maxRecDepth 20000 in
theorem mv_X0_deliverNext : Cond.instanceMethod mu_X0_deliverNext.1 ∈ Big ∧ Cond.selects mu_X0_deliverNext.1.cls mu_X0_deliverNext.1 mu_X0_deliverNext.1 ∈ Big := ⟨(bg_3 219 rfl rfl), (bg_3 220 rfl rfl)⟩
set_option maxRecDepth 20000 in
theorem co_X10_read_420 : CallV mu_X10_read mu_X0_deliverNext 420 2 0 := ⟨⟨(bg_3 218 rfl rfl), mo_X0_deliverNext.1, mo_X0_deliverNext.2.1, mo_X0_deliverNext.2.2, by decide, by decide⟩, mv_X0_deliverNext.1, mv_X0_deliverNext.2, rfl, _, _, cls_0⟩
set_option maxRecDepth 20000 in
theorem fld_RX10_424 : FldOK 1 0 RX10 424 5 8 true RX1 TX1 7 := ⟨by decide, (bg_4 35 rfl rfl), rfl, rfl, rfl, by decide⟩
set_option maxRecDepth 20000 in
theorem co_X2_ofMessage_19 : CallV mu_X2_ofMessage mu_X2_get 19 1 2 := ⟨⟨(bg_3 234 rfl rfl), mo_X2_get.1, mo_X2_get.2.1, mo_X2_get.2.2, by decide, by decide⟩, mv_X2_get.1, mv_X2_get.2, rfl, _, _, cls_2⟩
set_option maxRecDepth 20000 in
theorem fld_RX2_27 : FldOK 4 0 RX2 27 8 0 true RX4 TX4 11 := ⟨by decide, (bg_4 159 rfl rfl), rfl, rfl, rfl, by decide⟩
set_option maxRecDepth 20000 in
theorem fld_RX10_408 : FldOK 3 1 RX10 408 7 6 true RX3 TX3 7 := ⟨by decide, (bg_3 24 rfl rfl), rfl, rfl, rfl, by decide⟩
set_option maxRecDepth 20000 in
theorem mo_X2_ofMessage : MOK mu_X2_ofMessage 1 := ⟨(bg_1 12 rfl rfl), (bg_5 235 rfl rfl), by decide⟩
set_option maxRecDepth 20000 in
theorem mv_X2_ofMessage : Cond.instanceMethod mu_X2_ofMessage.1 ∈ Big ∧ Cond.selects mu_X2_ofMessage.1.cls mu_X2_ofMessage.1 mu_X2_ofMessage.1 ∈ Big := ⟨(bg_5 233 rfl rfl), (bg_5 234 rfl rfl)⟩
set_option maxRecDepth 20000 in
theorem co_X10_letterInHand_657 : CallV mu_X10_letterInHand mu_X2_ofMessage 657 1 2 := ⟨⟨(bg_5 232 rfl rfl), mo_X2_ofMessage.1, mo_X2_ofMessage.2.1, mo_X2_ofMessage.2.2, by decide, by decide⟩, mv_X2_ofMessage.1, mv_X2_ofMessage.2, rfl, _, _, cls_2⟩
set_option maxRecDepth 20000 in
theorem thr_RX10_660 : ThrOK RX10 "java/lang/IllegalStateException" "the message is not in the hand" 77 660 81 := ⟨by decide, by decide, (bg_1 171 rfl rfl), (bg_1 6 rfl rfl), by decide, tha_RX10_81.1, tha_RX10_81.2.1, tha_RX10_81.2.2⟩
set_option maxRecDepth 20000 in
theorem co_X10_done_334 : CallV mu_X10_done mu_X10_groupOf 334 1 10 := ⟨⟨(bg_2 223 rfl rfl), mo_X10_groupOf.1, mo_X10_groupOf.2.1, mo_X10_groupOf.2.2, by decide, by decide⟩, mv_X10_groupOf.1, mv_X10_groupOf.2, rfl, _, _, cls_10⟩
set_option maxRecDepth 20000 in
theorem co_X10_done_338 : CallS mu_X10_done mu_X10_memberOf 338 2 := ⟨⟨(bg_3 84 rfl rfl), mo_X10_memberOf.1, mo_X10_memberOf.2.1, mo_X10_memberOf.2.2, by decide, by decide⟩, ms_X10_memberOf⟩
set_option maxRecDepth 20000 in
theorem mo_X10_letterInHand : MOK mu_X10_letterInHand 2 := ⟨(bg_1 1 rfl rfl), (bg_5 231 rfl rfl), by decide⟩
set_option maxRecDepth 20000 in
theorem ms_X10_letterInHand : Cond.static mu_X10_letterInHand.1 ∈ Big := (bg_5 230 rfl rfl)
set_option maxRecDepth 20000 in
theorem co_X10_done_430 : CallS mu_X10_done mu_X10_letterInHand 430 2 := ⟨⟨(bg_5 229 rfl rfl), mo_X10_letterInHand.1, mo_X10_letterInHand.2.1, mo_X10_letterInHand.2.2, by decide, by decide⟩, ms_X10_letterInHand⟩
set_option maxRecDepth 20000 in
theorem fld_RX10_433 : FldOK 1 1 RX10 433 5 0 false RX1 TX1 7 := ⟨by decide, (bg_4 38 rfl rfl), rfl, rfl, rfl, by decide⟩
set_option maxRecDepth 20000 in
theorem co_X10_done_436 : CallV mu_X10_done mu_X2_removeLetter 436 1 2 := ⟨⟨(bg_6 13 rfl rfl), mo_X2_removeLetter.1, mo_X2_removeLetter.2.1, mo_X2_removeLetter.2.2, by decide, by decide⟩, mv_X2_removeLetter.1, mv_X2_removeLetter.2, rfl, _, _, cls_2⟩
set_option maxRecDepth 20000 in
theorem fld_RX10_412 : FldOK 2 1 RX10 412 6 0 false RX2 TX2 2 := ⟨by decide, (bg_2 129 rfl rfl), rfl, rfl, rfl, by decide⟩
set_option maxRecDepth 20000 in
theorem co_X0_sendBackBehind_152 : CallV mu_X0_sendBackBehind mu_X2_get 152 1 2 := ⟨⟨(bg_3 96 rfl rfl), mo_X2_get.1, mo_X2_get.2.1, mo_X2_get.2.2, by decide, by decide⟩, mv_X2_get.1, mv_X2_get.2, rfl, _, _, cls_2⟩
set_option maxRecDepth 20000 in
theorem co_X0_sendBackBehind_241 : CallV mu_X0_sendBackBehind mu_X1_isOfRow 241 1 1 := ⟨⟨(bg_6 5 rfl rfl), mo_X1_isOfRow.1, mo_X1_isOfRow.2.1, mo_X1_isOfRow.2.2, by decide, by decide⟩, mv_X1_isOfRow.1, mv_X1_isOfRow.2, rfl, _, _, cls_1⟩
set_option maxRecDepth 20000 in
theorem co_X0_sendBackBehind_161 : CallV mu_X0_sendBackBehind mu_X2_removeLetter 161 1 2 := ⟨⟨(bg_3 100 rfl rfl), mo_X2_removeLetter.1, mo_X2_removeLetter.2.1, mo_X2_removeLetter.2.2, by decide, by decide⟩, mv_X2_removeLetter.1, mv_X2_removeLetter.2, rfl, _, _, cls_2⟩
set_option maxRecDepth 20000 in
theorem co_X0_sendBackBehind_172 : CallV mu_X0_sendBackBehind mu_X0_putInRow 172 2 0 := ⟨⟨(bg_3 104 rfl rfl), mo_X0_putInRow.1, mo_X0_putInRow.2.1, mo_X0_putInRow.2.2, by decide, by decide⟩, mv_X0_putInRow.1, mv_X0_putInRow.2, rfl, _, _, cls_0⟩
set_option maxRecDepth 20000 in
theorem mo_X0_sendBackBehind : MOK mu_X0_sendBackBehind 3 := ⟨(bg_1 11 rfl rfl), (bg_6 4 rfl rfl), by decide⟩
set_option maxRecDepth 20000 in
theorem mv_X0_sendBackBehind : Cond.instanceMethod mu_X0_sendBackBehind.1 ∈ Big ∧ Cond.selects mu_X0_sendBackBehind.1.cls mu_X0_sendBackBehind.1 mu_X0_sendBackBehind.1 ∈ Big := ⟨(bg_6 3 rfl rfl), (bg_s 39 (by decide +kernel) rfl)⟩
set_option maxRecDepth 20000 in
theorem co_X0_failLetter_237 : CallV mu_X0_failLetter mu_X0_sendBackBehind 237 3 0 := ⟨⟨(bg_6 1 rfl rfl), mo_X0_sendBackBehind.1, mo_X0_sendBackBehind.2.1, mo_X0_sendBackBehind.2.2, by decide, by decide⟩, mv_X0_sendBackBehind.1, mv_X0_sendBackBehind.2, rfl, _, _, cls_0⟩
set_option maxRecDepth 20000 in
theorem co_X0_failLetter_161 : CallV mu_X0_failLetter mu_X2_removeLetter 161 1 2 := ⟨⟨(bg_3 100 rfl rfl), mo_X2_removeLetter.1, mo_X2_removeLetter.2.1, mo_X2_removeLetter.2.2, by decide, by decide⟩, mv_X2_removeLetter.1, mv_X2_removeLetter.2, rfl, _, _, cls_2⟩
set_option maxRecDepth 20000 in
theorem co_X0_failLetter_172 : CallV mu_X0_failLetter mu_X0_putInRow 172 2 0 := ⟨⟨(bg_3 104 rfl rfl), mo_X0_putInRow.1, mo_X0_putInRow.2.1, mo_X0_putInRow.2.2, by decide, by decide⟩, mv_X0_putInRow.1, mv_X0_putInRow.2, rfl, _, _, cls_0⟩
set_option maxRecDepth 20000 in
theorem co_X0_failLetter_234 : CallV mu_X0_failLetter mu_X2_addLast 234 1 2 := ⟨⟨(bg_4 3 rfl rfl), mo_X2_addLast.1, mo_X2_addLast.2.1, mo_X2_addLast.2.2, by decide, by decide⟩, mv_X2_addLast.1, mv_X2_addLast.2, rfl, _, _, cls_2⟩
set_option maxRecDepth 20000 in
theorem co_X10_retry_334 : CallV mu_X10_retry mu_X10_groupOf 334 1 10 := ⟨⟨(bg_2 223 rfl rfl), mo_X10_groupOf.1, mo_X10_groupOf.2.1, mo_X10_groupOf.2.2, by decide, by decide⟩, mv_X10_groupOf.1, mv_X10_groupOf.2, rfl, _, _, cls_10⟩
set_option maxRecDepth 20000 in
theorem co_X10_retry_338 : CallS mu_X10_retry mu_X10_memberOf 338 2 := ⟨⟨(bg_3 84 rfl rfl), mo_X10_memberOf.1, mo_X10_memberOf.2.1, mo_X10_memberOf.2.2, by decide, by decide⟩, ms_X10_memberOf⟩
set_option maxRecDepth 20000 in
theorem co_X10_retry_430 : CallS mu_X10_retry mu_X10_letterInHand 430 2 := ⟨⟨(bg_5 229 rfl rfl), mo_X10_letterInHand.1, mo_X10_letterInHand.2.1, mo_X10_letterInHand.2.2, by decide, by decide⟩, ms_X10_letterInHand⟩
set_option maxRecDepth 20000 in
theorem mo_X0_failLetter : MOK mu_X0_failLetter 3 := ⟨(bg_1 11 rfl rfl), (bg_6 0 rfl rfl), by decide⟩
set_option maxRecDepth 20000 in
theorem mv_X0_failLetter : Cond.instanceMethod mu_X0_failLetter.1 ∈ Big ∧ Cond.selects mu_X0_failLetter.1.cls mu_X0_failLetter.1 mu_X0_failLetter.1 ∈ Big := ⟨(bg_5 238 rfl rfl), (bg_5 239 rfl rfl)⟩
set_option maxRecDepth 20000 in
theorem co_X10_retry_440 : CallV mu_X10_retry mu_X0_failLetter 440 3 0 := ⟨⟨(bg_5 237 rfl rfl), mo_X0_failLetter.1, mo_X0_failLetter.2.1, mo_X0_failLetter.2.2, by decide, by decide⟩, mv_X0_failLetter.1, mv_X0_failLetter.2, rfl, _, _, cls_0⟩
set_option maxRecDepth 20000 in
theorem co_X0_commitAll_245 : CallV mu_X0_commitAll mu_X3_placeIn 245 1 3 := ⟨⟨(bg_5 221 rfl rfl), mo_X3_placeIn.1, mo_X3_placeIn.2.1, mo_X3_placeIn.2.2, by decide, by decide⟩, mv_X3_placeIn.1, mv_X3_placeIn.2, rfl, _, _, cls_3⟩
set_option maxRecDepth 20000 in
theorem co_X10_commitOffsets_334 : CallV mu_X10_commitOffsets mu_X10_groupOf 334 1 10 := ⟨⟨(bg_2 223 rfl rfl), mo_X10_groupOf.1, mo_X10_groupOf.2.1, mo_X10_groupOf.2.2, by decide, by decide⟩, mv_X10_groupOf.1, mv_X10_groupOf.2, rfl, _, _, cls_10⟩
set_option maxRecDepth 20000 in
theorem co_X10_commitOffsets_338 : CallS mu_X10_commitOffsets mu_X10_memberOf 338 2 := ⟨⟨(bg_3 84 rfl rfl), mo_X10_memberOf.1, mo_X10_memberOf.2.1, mo_X10_memberOf.2.2, by decide, by decide⟩, ms_X10_memberOf⟩
set_option maxRecDepth 20000 in
theorem mo_X0_commitAll : MOK mu_X0_commitAll 1 := ⟨(bg_1 11 rfl rfl), (bg_5 220 rfl rfl), by decide⟩
set_option maxRecDepth 20000 in
theorem mv_X0_commitAll : Cond.instanceMethod mu_X0_commitAll.1 ∈ Big ∧ Cond.selects mu_X0_commitAll.1.cls mu_X0_commitAll.1 mu_X0_commitAll.1 ∈ Big := ⟨(bg_5 218 rfl rfl), (bg_5 219 rfl rfl)⟩
set_option maxRecDepth 20000 in
theorem co_X10_commitOffsets_444 : CallV mu_X10_commitOffsets mu_X0_commitAll 444 1 0 := ⟨⟨(bg_5 217 rfl rfl), mo_X0_commitAll.1, mo_X0_commitAll.2.1, mo_X0_commitAll.2.2, by decide, by decide⟩, mv_X0_commitAll.1, mv_X0_commitAll.2, rfl, _, _, cls_0⟩
set_option maxRecDepth 20000 in
theorem thr_RX10_635 : ThrOK RX10 "java/lang/IndexOutOfBoundsException" "no such message" 481 635 485 := ⟨by decide, by decide, (bg_2 227 rfl rfl), (bg_1 14 rfl rfl), by decide, tha_RX10_485.1, tha_RX10_485.2.1, tha_RX10_485.2.2⟩
set_option maxRecDepth 20000 in
theorem co_X4_canBeRead_47 : CallV mu_X4_canBeRead mu_X4_isPlainOrCommitted 47 0 4 := ⟨⟨(bg_3 142 rfl rfl), mo_X4_isPlainOrCommitted.1, mo_X4_isPlainOrCommitted.2.1, mo_X4_isPlainOrCommitted.2.2, by decide, by decide⟩, mv_X4_isPlainOrCommitted.1, mv_X4_isPlainOrCommitted.2, rfl, _, _, cls_4⟩
set_option maxRecDepth 20000 in
theorem co_X4_canBeRead_51 : CallV mu_X4_canBeRead mu_X5_stableOffset 51 0 5 := ⟨⟨(bg_3 146 rfl rfl), mo_X5_stableOffset.1, mo_X5_stableOffset.2.1, mo_X5_stableOffset.2.2, by decide, by decide⟩, mv_X5_stableOffset.1, mv_X5_stableOffset.2, rfl, _, _, cls_5⟩
set_option maxRecDepth 20000 in
theorem fld_RX10_476 : FldOK 6 0 RX10 476 10 0 true RX6 TX6 9 := ⟨by decide, (bg_2 65 rfl rfl), rfl, rfl, rfl, by decide⟩
set_option maxRecDepth 20000 in
theorem fld_RX10_477 : FldOK 5 0 RX10 477 9 0 true RX5 TX5 6 := ⟨by decide, (bg_2 26 rfl rfl), rfl, rfl, rfl, by decide⟩
set_option maxRecDepth 20000 in
theorem mo_X4_canBeRead : MOK mu_X4_canBeRead 0 := ⟨(bg_1 17 rfl rfl), (bg_3 141 rfl rfl), by decide⟩
set_option maxRecDepth 20000 in
theorem mv_X4_canBeRead : Cond.instanceMethod mu_X4_canBeRead.1 ∈ Big ∧ Cond.selects mu_X4_canBeRead.1.cls mu_X4_canBeRead.1 mu_X4_canBeRead.1 ∈ Big := ⟨(bg_3 139 rfl rfl), (bg_3 140 rfl rfl)⟩
set_option maxRecDepth 20000 in
theorem co_X10_tellMessage_478 : CallV mu_X10_tellMessage mu_X4_canBeRead 478 0 4 := ⟨⟨(bg_3 138 rfl rfl), mo_X4_canBeRead.1, mo_X4_canBeRead.2.1, mo_X4_canBeRead.2.2, by decide, by decide⟩, mv_X4_canBeRead.1, mv_X4_canBeRead.2, rfl, _, _, cls_4⟩
set_option maxRecDepth 20000 in
theorem mo_X10_messageOf : MOK mu_X10_messageOf 1 := ⟨(bg_1 1 rfl rfl), (bg_3 133 rfl rfl), by decide⟩
set_option maxRecDepth 20000 in
theorem mv_X10_messageOf : Cond.instanceMethod mu_X10_messageOf.1 ∈ Big ∧ Cond.selects mu_X10_messageOf.1.cls mu_X10_messageOf.1 mu_X10_messageOf.1 ∈ Big := ⟨(bg_3 132 rfl rfl), (bg_s 10 (by decide +kernel) rfl)⟩
set_option maxRecDepth 20000 in
theorem co_X10_message_469 : CallV mu_X10_message mu_X10_messageOf 469 1 10 := ⟨⟨(bg_3 130 rfl rfl), mo_X10_messageOf.1, mo_X10_messageOf.2.1, mo_X10_messageOf.2.2, by decide, by decide⟩, mv_X10_messageOf.1, mv_X10_messageOf.2, rfl, _, _, cls_10⟩
set_option maxRecDepth 20000 in
theorem co_X10_message_73 : CallS mu_X10_message mu_X10_requireWithin 73 3 := ⟨⟨(bg_1 100 rfl rfl), mo_X10_requireWithin.1, mo_X10_requireWithin.2.1, mo_X10_requireWithin.2.2, by decide, by decide⟩, ms_X10_requireWithin⟩
set_option maxRecDepth 20000 in
theorem mo_X10_tellMessage : MOK mu_X10_tellMessage 2 := ⟨(bg_1 1 rfl rfl), (bg_3 137 rfl rfl), by decide⟩
set_option maxRecDepth 20000 in
theorem ms_X10_tellMessage : Cond.static mu_X10_tellMessage.1 ∈ Big := (bg_3 136 rfl rfl)
set_option maxRecDepth 20000 in
theorem co_X10_message_472 : CallS mu_X10_message mu_X10_tellMessage 472 2 := ⟨⟨(bg_3 135 rfl rfl), mo_X10_tellMessage.1, mo_X10_tellMessage.2.1, mo_X10_tellMessage.2.2, by decide, by decide⟩, ms_X10_tellMessage⟩
set_option maxRecDepth 20000 in
theorem co_X10_at_116 : CallV mu_X10_at mu_X10_partitionOf 116 1 10 := ⟨⟨(bg_4 106 rfl rfl), mo_X10_partitionOf.1, mo_X10_partitionOf.2.1, mo_X10_partitionOf.2.2, by decide, by decide⟩, mv_X10_partitionOf.1, mv_X10_partitionOf.2, rfl, _, _, cls_10⟩
set_option maxRecDepth 20000 in
theorem thr_RX10_483 : ThrOK RX10 "java/lang/IndexOutOfBoundsException" "the offset is below 0" 481 483 485 := ⟨by decide, by decide, (bg_2 227 rfl rfl), (bg_1 14 rfl rfl), by decide, tha_RX10_485.1, tha_RX10_485.2.1, tha_RX10_485.2.2⟩
set_option maxRecDepth 20000 in
theorem co_X10_at_130 : CallV mu_X10_at mu_X5_storedAt 130 1 5 := ⟨⟨(bg_4 112 rfl rfl), mo_X5_storedAt.1, mo_X5_storedAt.2.1, mo_X5_storedAt.2.2, by decide, by decide⟩, mv_X5_storedAt.1, mv_X5_storedAt.2, rfl, _, _, cls_5⟩
set_option maxRecDepth 20000 in
theorem fld_RX5_56 : FldOK 7 0 RX5 56 11 0 true RX7 TX7 5 := ⟨by decide, (bg_2 0 rfl rfl), rfl, rfl, rfl, by decide⟩
set_option maxRecDepth 20000 in
theorem fld_RX10_489 : FldOK 7 0 RX10 489 11 0 true RX7 TX7 5 := ⟨by decide, (bg_2 1 rfl rfl), rfl, rfl, rfl, by decide⟩
set_option maxRecDepth 20000 in
theorem mo_X5_inSyncBits : MOK mu_X5_inSyncBits 0 := ⟨(bg_1 8 rfl rfl), (bg_6 136 rfl rfl), by decide⟩
set_option maxRecDepth 20000 in
theorem mv_X5_inSyncBits : Cond.instanceMethod mu_X5_inSyncBits.1 ∈ Big ∧ Cond.selects mu_X5_inSyncBits.1.cls mu_X5_inSyncBits.1 mu_X5_inSyncBits.1 ∈ Big := ⟨(bg_6 134 rfl rfl), (bg_6 135 rfl rfl)⟩
set_option maxRecDepth 20000 in
theorem co_X10_tellPartition_490 : CallV mu_X10_tellPartition mu_X5_inSyncBits 490 0 5 := ⟨⟨(bg_6 133 rfl rfl), mo_X5_inSyncBits.1, mo_X5_inSyncBits.2.1, mo_X5_inSyncBits.2.2, by decide, by decide⟩, mv_X5_inSyncBits.1, mv_X5_inSyncBits.2, rfl, _, _, cls_5⟩
set_option maxRecDepth 20000 in
theorem co_X10_tellPartition_363 : CallV mu_X10_tellPartition mu_X5_highWatermark 363 0 5 := ⟨⟨(bg_5 28 rfl rfl), mo_X5_highWatermark.1, mo_X5_highWatermark.2.1, mo_X5_highWatermark.2.2, by decide, by decide⟩, mv_X5_highWatermark.1, mv_X5_highWatermark.2, rfl, _, _, cls_5⟩
set_option maxRecDepth 20000 in
theorem co_X10_tellPartition_126 : CallV mu_X10_tellPartition mu_X5_stableOffset 126 0 5 := ⟨⟨(bg_4 93 rfl rfl), mo_X5_stableOffset.1, mo_X5_stableOffset.2.1, mo_X5_stableOffset.2.2, by decide, by decide⟩, mv_X5_stableOffset.1, mv_X5_stableOffset.2, rfl, _, _, cls_5⟩
set_option maxRecDepth 20000 in
theorem co_X10_tellPartition_493 : CallV mu_X10_tellPartition mu_X5_logEnd 493 0 5 := ⟨⟨(bg_6 137 rfl rfl), mo_X5_logEnd.1, mo_X5_logEnd.2.1, mo_X5_logEnd.2.2, by decide, by decide⟩, mv_X5_logEnd.1, mv_X5_logEnd.2, rfl, _, _, cls_5⟩
set_option maxRecDepth 20000 in
theorem co_X10_tellPartition_279 : CallV mu_X10_tellPartition mu_X5_storedCount 279 0 5 := ⟨⟨(bg_5 182 rfl rfl), mo_X5_storedCount.1, mo_X5_storedCount.2.1, mo_X5_storedCount.2.2, by decide, by decide⟩, mv_X5_storedCount.1, mv_X5_storedCount.2, rfl, _, _, cls_5⟩
set_option maxRecDepth 20000 in
theorem co_X10_partition_116 : CallV mu_X10_partition mu_X10_partitionOf 116 1 10 := ⟨⟨(bg_4 106 rfl rfl), mo_X10_partitionOf.1, mo_X10_partitionOf.2.1, mo_X10_partitionOf.2.2, by decide, by decide⟩, mv_X10_partitionOf.1, mv_X10_partitionOf.2, rfl, _, _, cls_10⟩
set_option maxRecDepth 20000 in
theorem co_X10_partition_73 : CallS mu_X10_partition mu_X10_requireWithin 73 3 := ⟨⟨(bg_1 100 rfl rfl), mo_X10_requireWithin.1, mo_X10_requireWithin.2.1, mo_X10_requireWithin.2.2, by decide, by decide⟩, ms_X10_requireWithin⟩
set_option maxRecDepth 20000 in
theorem mo_X10_tellPartition : MOK mu_X10_tellPartition 2 := ⟨(bg_1 1 rfl rfl), (bg_6 132 rfl rfl), by decide⟩
set_option maxRecDepth 20000 in
theorem ms_X10_tellPartition : Cond.static mu_X10_tellPartition.1 ∈ Big := (bg_6 131 rfl rfl)
set_option maxRecDepth 20000 in
theorem co_X10_partition_486 : CallS mu_X10_partition mu_X10_tellPartition 486 2 := ⟨⟨(bg_6 130 rfl rfl), mo_X10_tellPartition.1, mo_X10_tellPartition.2.1, mo_X10_tellPartition.2.2, by decide, by decide⟩, ms_X10_tellPartition⟩
set_option maxRecDepth 20000 in
theorem co_X10_value_100 : CallV mu_X10_value mu_X10_topicOf 100 1 10 := ⟨⟨(bg_4 81 rfl rfl), mo_X10_topicOf.1, mo_X10_topicOf.2.1, mo_X10_topicOf.2.2, by decide, by decide⟩, mv_X10_topicOf.1, mv_X10_topicOf.2, rfl, _, _, cls_10⟩
set_option maxRecDepth 20000 in
theorem co_X10_value_296 : CallV mu_X10_value mu_X9_partitionFor 296 1 9 := ⟨⟨(bg_4 86 rfl rfl), mo_X9_partitionFor.1, mo_X9_partitionFor.2.1, mo_X9_partitionFor.2.2, by decide, by decide⟩, mv_X9_partitionFor.1, mv_X9_partitionFor.2, rfl, _, _, cls_9⟩
set_option maxRecDepth 20000 in
theorem co_X10_value_126 : CallV mu_X10_value mu_X5_stableOffset 126 0 5 := ⟨⟨(bg_4 93 rfl rfl), mo_X5_stableOffset.1, mo_X5_stableOffset.2.1, mo_X5_stableOffset.2.2, by decide, by decide⟩, mv_X5_stableOffset.1, mv_X5_stableOffset.2, rfl, _, _, cls_5⟩
set_option maxRecDepth 20000 in
theorem co_X10_value_151 : CallV mu_X10_value mu_X5_lastReadable 151 2 5 := ⟨⟨(bg_4 94 rfl rfl), mo_X5_lastReadable.1, mo_X5_lastReadable.2.1, mo_X5_lastReadable.2.2, by decide, by decide⟩, mv_X5_lastReadable.1, mv_X5_lastReadable.2, rfl, _, _, cls_5⟩
set_option maxRecDepth 20000 in
theorem co_X10_shareOf_645 : CallV mu_X10_shareOf mu_X0_shareAt 645 1 0 := ⟨⟨(bg_6 162 rfl rfl), mo_X0_shareAt.1, mo_X0_shareAt.2.1, mo_X0_shareAt.2.2, by decide, by decide⟩, mv_X0_shareAt.1, mv_X0_shareAt.2, rfl, _, _, cls_0⟩
set_option maxRecDepth 20000 in
theorem thr_RX10_649 : ThrOK RX10 "java/lang/IndexOutOfBoundsException" "the group has no such partition" 481 649 485 := ⟨by decide, by decide, (bg_2 227 rfl rfl), (bg_1 14 rfl rfl), by decide, tha_RX10_485.1, tha_RX10_485.2.1, tha_RX10_485.2.2⟩
set_option maxRecDepth 20000 in
theorem co_X0_lag_215 : CallV mu_X0_lag mu_X5_stableOffset 215 0 5 := ⟨⟨(bg_4 11 rfl rfl), mo_X5_stableOffset.1, mo_X5_stableOffset.2.1, mo_X5_stableOffset.2.2, by decide, by decide⟩, mv_X5_stableOffset.1, mv_X5_stableOffset.2, rfl, _, _, cls_5⟩
set_option maxRecDepth 20000 in
theorem co_X0_lag_218 : CallV mu_X0_lag mu_X5_readableAt 218 2 5 := ⟨⟨(bg_4 12 rfl rfl), mo_X5_readableAt.1, mo_X5_readableAt.2.1, mo_X5_readableAt.2.2, by decide, by decide⟩, mv_X5_readableAt.1, mv_X5_readableAt.2, rfl, _, _, cls_5⟩
set_option maxRecDepth 20000 in
theorem co_X0_lag_68 : CallV mu_X0_lag mu_X0_knownLetter 68 1 0 := ⟨⟨(bg_4 25 rfl rfl), mo_X0_knownLetter.1, mo_X0_knownLetter.2.1, mo_X0_knownLetter.2.2, by decide, by decide⟩, mv_X0_knownLetter.1, mv_X0_knownLetter.2, rfl, _, _, cls_0⟩
set_option maxRecDepth 20000 in
theorem mo_X1_waitsOrIsDead : MOK mu_X1_waitsOrIsDead 0 := ⟨(bg_1 18 rfl rfl), (bg_6 89 rfl rfl), by decide⟩
set_option maxRecDepth 20000 in
theorem mv_X1_waitsOrIsDead : Cond.instanceMethod mu_X1_waitsOrIsDead.1 ∈ Big ∧ Cond.selects mu_X1_waitsOrIsDead.1.cls mu_X1_waitsOrIsDead.1 mu_X1_waitsOrIsDead.1 ∈ Big := ⟨(bg_6 87 rfl rfl), (bg_6 88 rfl rfl)⟩
set_option maxRecDepth 20000 in
theorem co_X0_lag_249 : CallV mu_X0_lag mu_X1_waitsOrIsDead 249 0 1 := ⟨⟨(bg_6 86 rfl rfl), mo_X1_waitsOrIsDead.1, mo_X1_waitsOrIsDead.2.1, mo_X1_waitsOrIsDead.2.2, by decide, by decide⟩, mv_X1_waitsOrIsDead.1, mv_X1_waitsOrIsDead.2, rfl, _, _, cls_1⟩
set_option maxRecDepth 20000 in
theorem co_X2_countOf_19 : CallV mu_X2_countOf mu_X2_get 19 1 2 := ⟨⟨(bg_3 234 rfl rfl), mo_X2_get.1, mo_X2_get.2.1, mo_X2_get.2.2, by decide, by decide⟩, mv_X2_get.1, mv_X2_get.2, rfl, _, _, cls_2⟩
set_option maxRecDepth 20000 in
theorem fld_RX2_36 : FldOK 4 2 RX2 36 8 9 true RX4 TX4 11 := ⟨by decide, (bg_4 171 rfl rfl), rfl, rfl, rfl, by decide⟩
set_option maxRecDepth 20000 in
theorem fld_RX10_451 : FldOK 8 1 RX10 451 12 7 false RX8 TX8 6 := ⟨by decide, (bg_2 189 rfl rfl), rfl, rfl, rfl, by decide⟩
set_option maxRecDepth 20000 in
theorem fld_RX10_507 : FldOK 3 0 RX10 507 7 0 true RX3 TX3 7 := ⟨by decide, (bg_3 21 rfl rfl), rfl, rfl, rfl, by decide⟩
set_option maxRecDepth 20000 in
theorem fld_RX10_508 : FldOK 8 2 RX10 508 12 7 false RX8 TX8 6 := ⟨by decide, (bg_2 192 rfl rfl), rfl, rfl, rfl, by decide⟩
set_option maxRecDepth 20000 in
theorem fld_RX10_459 : FldOK 8 3 RX10 459 12 0 false RX8 TX8 6 := ⟨by decide, (bg_2 196 rfl rfl), rfl, rfl, rfl, by decide⟩
set_option maxRecDepth 20000 in
theorem fld_RX10_511 : FldOK 8 4 RX10 511 12 0 false RX8 TX8 6 := ⟨by decide, (bg_2 200 rfl rfl), rfl, rfl, rfl, by decide⟩
set_option maxRecDepth 20000 in
theorem mo_X0_lag : MOK mu_X0_lag 1 := ⟨(bg_1 11 rfl rfl), (bg_6 170 rfl rfl), by decide⟩
set_option maxRecDepth 20000 in
theorem mv_X0_lag : Cond.instanceMethod mu_X0_lag.1 ∈ Big ∧ Cond.selects mu_X0_lag.1.cls mu_X0_lag.1 mu_X0_lag.1 ∈ Big := ⟨(bg_6 168 rfl rfl), (bg_6 169 rfl rfl)⟩
set_option maxRecDepth 20000 in
theorem co_X10_tellShare_514 : CallV mu_X10_tellShare mu_X0_lag 514 1 0 := ⟨⟨(bg_6 167 rfl rfl), mo_X0_lag.1, mo_X0_lag.2.1, mo_X0_lag.2.2, by decide, by decide⟩, mv_X0_lag.1, mv_X0_lag.2, rfl, _, _, cls_0⟩
set_option maxRecDepth 20000 in
theorem fld_RX10_518 : FldOK 0 3 RX10 518 4 6 true RX0 TX0 10 := ⟨by decide, (bg_2 140 rfl rfl), rfl, rfl, rfl, by decide⟩
set_option maxRecDepth 20000 in
theorem fld_RX10_465 : FldOK 8 0 RX10 465 12 9 true RX8 TX8 6 := ⟨by decide, (bg_2 185 rfl rfl), rfl, rfl, rfl, by decide⟩
set_option maxRecDepth 20000 in
theorem mo_X2_countOf : MOK mu_X2_countOf 1 := ⟨(bg_1 12 rfl rfl), (bg_6 174 rfl rfl), by decide⟩
set_option maxRecDepth 20000 in
theorem mv_X2_countOf : Cond.instanceMethod mu_X2_countOf.1 ∈ Big ∧ Cond.selects mu_X2_countOf.1.cls mu_X2_countOf.1 mu_X2_countOf.1 ∈ Big := ⟨(bg_6 172 rfl rfl), (bg_6 173 rfl rfl)⟩
set_option maxRecDepth 20000 in
theorem co_X10_tellShare_521 : CallV mu_X10_tellShare mu_X2_countOf 521 1 2 := ⟨⟨(bg_6 171 rfl rfl), mo_X2_countOf.1, mo_X2_countOf.2.1, mo_X2_countOf.2.2, by decide, by decide⟩, mv_X2_countOf.1, mv_X2_countOf.2, rfl, _, _, cls_2⟩
set_option maxRecDepth 20000 in
theorem fld_RX10_525 : FldOK 0 4 RX10 525 4 6 true RX0 TX0 10 := ⟨by decide, (bg_2 142 rfl rfl), rfl, rfl, rfl, by decide⟩
set_option maxRecDepth 20000 in
theorem co_X10_share_334 : CallV mu_X10_share mu_X10_groupOf 334 1 10 := ⟨⟨(bg_2 223 rfl rfl), mo_X10_groupOf.1, mo_X10_groupOf.2.1, mo_X10_groupOf.2.2, by decide, by decide⟩, mv_X10_groupOf.1, mv_X10_groupOf.2, rfl, _, _, cls_10⟩
set_option maxRecDepth 20000 in
theorem mo_X10_shareOf : MOK mu_X10_shareOf 2 := ⟨(bg_1 1 rfl rfl), (bg_6 161 rfl rfl), by decide⟩
set_option maxRecDepth 20000 in
theorem ms_X10_shareOf : Cond.static mu_X10_shareOf.1 ∈ Big := (bg_6 160 rfl rfl)
set_option maxRecDepth 20000 in
theorem co_X10_share_447 : CallS mu_X10_share mu_X10_shareOf 447 2 := ⟨⟨(bg_6 159 rfl rfl), mo_X10_shareOf.1, mo_X10_shareOf.2.1, mo_X10_shareOf.2.2, by decide, by decide⟩, ms_X10_shareOf⟩
set_option maxRecDepth 20000 in
theorem co_X10_share_73 : CallS mu_X10_share mu_X10_requireWithin 73 3 := ⟨⟨(bg_1 100 rfl rfl), mo_X10_requireWithin.1, mo_X10_requireWithin.2.1, mo_X10_requireWithin.2.2, by decide, by decide⟩, ms_X10_requireWithin⟩
set_option maxRecDepth 20000 in
theorem mo_X10_tellShare : MOK mu_X10_tellShare 3 := ⟨(bg_1 1 rfl rfl), (bg_6 166 rfl rfl), by decide⟩
set_option maxRecDepth 20000 in
theorem ms_X10_tellShare : Cond.static mu_X10_tellShare.1 ∈ Big := (bg_6 165 rfl rfl)
set_option maxRecDepth 20000 in
theorem co_X10_share_503 : CallS mu_X10_share mu_X10_tellShare 503 3 := ⟨⟨(bg_6 164 rfl rfl), mo_X10_tellShare.1, mo_X10_tellShare.2.1, mo_X10_tellShare.2.2, by decide, by decide⟩, ms_X10_tellShare⟩
set_option maxRecDepth 20000 in
theorem co_X10_member_334 : CallV mu_X10_member mu_X10_groupOf 334 1 10 := ⟨⟨(bg_2 223 rfl rfl), mo_X10_groupOf.1, mo_X10_groupOf.2.1, mo_X10_groupOf.2.2, by decide, by decide⟩, mv_X10_groupOf.1, mv_X10_groupOf.2, rfl, _, _, cls_10⟩
set_option maxRecDepth 20000 in
theorem co_X10_member_338 : CallS mu_X10_member mu_X10_memberOf 338 2 := ⟨⟨(bg_3 84 rfl rfl), mo_X10_memberOf.1, mo_X10_memberOf.2.1, mo_X10_memberOf.2.2, by decide, by decide⟩, ms_X10_memberOf⟩
set_option maxRecDepth 20000 in
theorem co_X10_member_73 : CallS mu_X10_member mu_X10_requireWithin 73 3 := ⟨⟨(bg_1 100 rfl rfl), mo_X10_requireWithin.1, mo_X10_requireWithin.2.1, mo_X10_requireWithin.2.2, by decide, by decide⟩, ms_X10_requireWithin⟩
set_option maxRecDepth 20000 in
theorem co_X10_member_404 : CallV mu_X10_member mu_X0_ownedCount 404 1 0 := ⟨⟨(bg_3 119 rfl rfl), mo_X0_ownedCount.1, mo_X0_ownedCount.2.1, mo_X0_ownedCount.2.2, by decide, by decide⟩, mv_X0_ownedCount.1, mv_X0_ownedCount.2, rfl, _, _, cls_0⟩
set_option maxRecDepth 20000 in
theorem co_X10_member_528 : CallV mu_X10_member mu_X0_targetCount 528 1 0 := ⟨⟨(bg_6 151 rfl rfl), mo_X0_targetCount.1, mo_X0_targetCount.2.1, mo_X0_targetCount.2.2, by decide, by decide⟩, mv_X0_targetCount.1, mv_X0_targetCount.2, rfl, _, _, cls_0⟩
set_option maxRecDepth 20000 in
theorem fld_RX10_417 : FldOK 3 3 RX10 417 7 0 false RX3 TX3 7 := ⟨by decide, (bg_3 30 rfl rfl), rfl, rfl, rfl, by decide⟩
set_option maxRecDepth 20000 in
theorem co_X10_letterAt_651 : CallV mu_X10_letterAt mu_X2_get 651 1 2 := ⟨⟨(bg_6 188 rfl rfl), mo_X2_get.1, mo_X2_get.2.1, mo_X2_get.2.2, by decide, by decide⟩, mv_X2_get.1, mv_X2_get.2, rfl, _, _, cls_2⟩
set_option maxRecDepth 20000 in
theorem thr_RX10_655 : ThrOK RX10 "java/lang/IndexOutOfBoundsException" "no such place" 481 655 485 := ⟨by decide, by decide, (bg_2 227 rfl rfl), (bg_1 14 rfl rfl), by decide, tha_RX10_485.1, tha_RX10_485.2.1, tha_RX10_485.2.2⟩
set_option maxRecDepth 20000 in
theorem co_X10_hand_334 : CallV mu_X10_hand mu_X10_groupOf 334 1 10 := ⟨⟨(bg_2 223 rfl rfl), mo_X10_groupOf.1, mo_X10_groupOf.2.1, mo_X10_groupOf.2.2, by decide, by decide⟩, mv_X10_groupOf.1, mv_X10_groupOf.2, rfl, _, _, cls_10⟩
set_option maxRecDepth 20000 in
theorem co_X10_hand_338 : CallS mu_X10_hand mu_X10_memberOf 338 2 := ⟨⟨(bg_3 84 rfl rfl), mo_X10_memberOf.1, mo_X10_memberOf.2.1, mo_X10_memberOf.2.2, by decide, by decide⟩, ms_X10_memberOf⟩
set_option maxRecDepth 20000 in
theorem mo_X10_letterAt : MOK mu_X10_letterAt 2 := ⟨(bg_1 1 rfl rfl), (bg_6 187 rfl rfl), by decide⟩
set_option maxRecDepth 20000 in
theorem ms_X10_letterAt : Cond.static mu_X10_letterAt.1 ∈ Big := (bg_6 186 rfl rfl)
set_option maxRecDepth 20000 in
theorem co_X10_hand_531 : CallS mu_X10_hand mu_X10_letterAt 531 2 := ⟨⟨(bg_6 185 rfl rfl), mo_X10_letterAt.1, mo_X10_letterAt.2.1, mo_X10_letterAt.2.2, by decide, by decide⟩, ms_X10_letterAt⟩
set_option maxRecDepth 20000 in
theorem co_X10_hand_73 : CallS mu_X10_hand mu_X10_requireWithin 73 3 := ⟨⟨(bg_1 100 rfl rfl), mo_X10_requireWithin.1, mo_X10_requireWithin.2.1, mo_X10_requireWithin.2.2, by decide, by decide⟩, ms_X10_requireWithin⟩
set_option maxRecDepth 20000 in
theorem fld_RX10_535 : FldOK 1 3 RX10 535 5 0 false RX1 TX1 7 := ⟨by decide, (bg_4 43 rfl rfl), rfl, rfl, rfl, by decide⟩
set_option maxRecDepth 20000 in
theorem fld_RX10_538 : FldOK 1 4 RX10 538 5 1 false RX1 TX1 7 := ⟨by decide, (bg_4 47 rfl rfl), rfl, rfl, rfl, by decide⟩
set_option maxRecDepth 20000 in
theorem co_X10_seen_334 : CallV mu_X10_seen mu_X10_groupOf 334 1 10 := ⟨⟨(bg_2 223 rfl rfl), mo_X10_groupOf.1, mo_X10_groupOf.2.1, mo_X10_groupOf.2.2, by decide, by decide⟩, mv_X10_groupOf.1, mv_X10_groupOf.2, rfl, _, _, cls_10⟩
set_option maxRecDepth 20000 in
theorem co_X10_seen_469 : CallV mu_X10_seen mu_X10_messageOf 469 1 10 := ⟨⟨(bg_3 130 rfl rfl), mo_X10_messageOf.1, mo_X10_messageOf.2.1, mo_X10_messageOf.2.2, by decide, by decide⟩, mv_X10_messageOf.1, mv_X10_messageOf.2, rfl, _, _, cls_10⟩
set_option maxRecDepth 20000 in
theorem co_X10_seen_542 : CallV mu_X10_seen mu_X0_knownLetter 542 1 0 := ⟨⟨(bg_3 168 rfl rfl), mo_X0_knownLetter.1, mo_X0_knownLetter.2.1, mo_X0_knownLetter.2.2, by decide, by decide⟩, mv_X0_knownLetter.1, mv_X0_knownLetter.2, rfl, _, _, cls_0⟩
set_option maxRecDepth 20000 in
theorem fld_RX10_546 : FldOK 1 5 RX10 546 5 0 false RX1 TX1 7 := ⟨by decide, (bg_4 50 rfl rfl), rfl, rfl, rfl, by decide⟩
set_option maxRecDepth 20000 in
theorem co_X10_count_73 : CallS mu_X10_count mu_X10_requireWithin 73 3 := ⟨⟨(bg_1 100 rfl rfl), mo_X10_requireWithin.1, mo_X10_requireWithin.2.1, mo_X10_requireWithin.2.2, by decide, by decide⟩, ms_X10_requireWithin⟩
set_option maxRecDepth 20000 in
theorem mo_X10_openTransactions : MOK mu_X10_openTransactions 0 := ⟨(bg_1 1 rfl rfl), (bg_3 182 rfl rfl), by decide⟩
set_option maxRecDepth 20000 in
theorem mv_X10_openTransactions : Cond.instanceMethod mu_X10_openTransactions.1 ∈ Big ∧ Cond.selects mu_X10_openTransactions.1.cls mu_X10_openTransactions.1 mu_X10_openTransactions.1 ∈ Big := ⟨(bg_3 181 rfl rfl), (bg_s 12 (by decide +kernel) rfl)⟩
set_option maxRecDepth 20000 in
theorem co_X10_count_549 : CallV mu_X10_count mu_X10_openTransactions 549 0 10 := ⟨⟨(bg_3 179 rfl rfl), mo_X10_openTransactions.1, mo_X10_openTransactions.2.1, mo_X10_openTransactions.2.2, by decide, by decide⟩, mv_X10_openTransactions.1, mv_X10_openTransactions.2, rfl, _, _, cls_10⟩
set_option maxRecDepth 20000 in
theorem mo_X10_messagesIn : MOK mu_X10_messagesIn 1 := ⟨(bg_1 1 rfl rfl), (bg_3 186 rfl rfl), by decide⟩
set_option maxRecDepth 20000 in
theorem mv_X10_messagesIn : Cond.instanceMethod mu_X10_messagesIn.1 ∈ Big ∧ Cond.selects mu_X10_messagesIn.1.cls mu_X10_messagesIn.1 mu_X10_messagesIn.1 ∈ Big := ⟨(bg_3 185 rfl rfl), (bg_s 13 (by decide +kernel) rfl)⟩
set_option maxRecDepth 20000 in
theorem co_X10_count_552 : CallV mu_X10_count mu_X10_messagesIn 552 1 10 := ⟨⟨(bg_3 183 rfl rfl), mo_X10_messagesIn.1, mo_X10_messagesIn.2.1, mo_X10_messagesIn.2.2, by decide, by decide⟩, mv_X10_messagesIn.1, mv_X10_messagesIn.2, rfl, _, _, cls_10⟩
set_option maxRecDepth 20000 in
theorem co_X0_isAtRest_83 : CallV mu_X0_isAtRest mu_X0_memberCount 83 0 0 := ⟨⟨(bg_3 56 rfl rfl), mo_X0_memberCount.1, mo_X0_memberCount.2.1, mo_X0_memberCount.2.2, by decide, by decide⟩, mv_X0_memberCount.1, mv_X0_memberCount.2, rfl, _, _, cls_0⟩
set_option maxRecDepth 20000 in
theorem fld_RX10_559 : FldOK 0 6 RX10 559 4 0 false RX0 TX0 10 := ⟨by decide, (bg_2 147 rfl rfl), rfl, rfl, rfl, by decide⟩
set_option maxRecDepth 20000 in
theorem mo_X0_memberBits : MOK mu_X0_memberBits 0 := ⟨(bg_1 11 rfl rfl), (bg_3 203 rfl rfl), by decide⟩
set_option maxRecDepth 20000 in
theorem mv_X0_memberBits : Cond.instanceMethod mu_X0_memberBits.1 ∈ Big ∧ Cond.selects mu_X0_memberBits.1.cls mu_X0_memberBits.1 mu_X0_memberBits.1 ∈ Big := ⟨(bg_3 201 rfl rfl), (bg_3 202 rfl rfl)⟩
set_option maxRecDepth 20000 in
theorem co_X10_tellGroup_562 : CallV mu_X10_tellGroup mu_X0_memberBits 562 0 0 := ⟨⟨(bg_3 200 rfl rfl), mo_X0_memberBits.1, mo_X0_memberBits.2.1, mo_X0_memberBits.2.2, by decide, by decide⟩, mv_X0_memberBits.1, mv_X0_memberBits.2, rfl, _, _, cls_0⟩
set_option maxRecDepth 20000 in
theorem mo_X0_isAtRest : MOK mu_X0_isAtRest 0 := ⟨(bg_1 11 rfl rfl), (bg_3 207 rfl rfl), by decide⟩
set_option maxRecDepth 20000 in
theorem mv_X0_isAtRest : Cond.instanceMethod mu_X0_isAtRest.1 ∈ Big ∧ Cond.selects mu_X0_isAtRest.1.cls mu_X0_isAtRest.1 mu_X0_isAtRest.1 ∈ Big := ⟨(bg_3 205 rfl rfl), (bg_3 206 rfl rfl)⟩
set_option maxRecDepth 20000 in
theorem co_X10_tellGroup_565 : CallV mu_X10_tellGroup mu_X0_isAtRest 565 0 0 := ⟨⟨(bg_3 204 rfl rfl), mo_X0_isAtRest.1, mo_X0_isAtRest.2.1, mo_X0_isAtRest.2.2, by decide, by decide⟩, mv_X0_isAtRest.1, mv_X0_isAtRest.2, rfl, _, _, cls_0⟩
set_option maxRecDepth 20000 in
theorem fld_RX10_568 : FldOK 0 7 RX10 568 4 0 false RX0 TX0 10 := ⟨by decide, (bg_2 149 rfl rfl), rfl, rfl, rfl, by decide⟩
set_option maxRecDepth 20000 in
theorem co_X10_ofGroup_334 : CallV mu_X10_ofGroup mu_X10_groupOf 334 1 10 := ⟨⟨(bg_2 223 rfl rfl), mo_X10_groupOf.1, mo_X10_groupOf.2.1, mo_X10_groupOf.2.2, by decide, by decide⟩, mv_X10_groupOf.1, mv_X10_groupOf.2, rfl, _, _, cls_10⟩
set_option maxRecDepth 20000 in
theorem co_X10_ofGroup_73 : CallS mu_X10_ofGroup mu_X10_requireWithin 73 3 := ⟨⟨(bg_1 100 rfl rfl), mo_X10_requireWithin.1, mo_X10_requireWithin.2.1, mo_X10_requireWithin.2.2, by decide, by decide⟩, ms_X10_requireWithin⟩
set_option maxRecDepth 20000 in
theorem mo_X10_tellGroup : MOK mu_X10_tellGroup 2 := ⟨(bg_1 1 rfl rfl), (bg_3 199 rfl rfl), by decide⟩
set_option maxRecDepth 20000 in
theorem ms_X10_tellGroup : Cond.static mu_X10_tellGroup.1 ∈ Big := (bg_3 198 rfl rfl)
set_option maxRecDepth 20000 in
theorem co_X10_ofGroup_555 : CallS mu_X10_ofGroup mu_X10_tellGroup 555 2 := ⟨⟨(bg_3 197 rfl rfl), mo_X10_tellGroup.1, mo_X10_tellGroup.2.1, mo_X10_tellGroup.2.2, by decide, by decide⟩, ms_X10_tellGroup⟩
set_option maxRecDepth 20000 in
theorem co_X4_standsAtItsOffset_57 : CallV mu_X4_standsAtItsOffset mu_X5_logEnd 57 0 5 := ⟨⟨(bg_6 32 rfl rfl), mo_X5_logEnd.1, mo_X5_logEnd.2.1, mo_X5_logEnd.2.2, by decide, by decide⟩, mv_X5_logEnd.1, mv_X5_logEnd.2, rfl, _, _, cls_5⟩
set_option maxRecDepth 20000 in
theorem co_X4_standsAtItsOffset_60 : CallV mu_X4_standsAtItsOffset mu_X5_storedAt 60 1 5 := ⟨⟨(bg_6 33 rfl rfl), mo_X5_storedAt.1, mo_X5_storedAt.2.1, mo_X5_storedAt.2.2, by decide, by decide⟩, mv_X5_storedAt.1, mv_X5_storedAt.2, rfl, _, _, cls_5⟩
set_option maxRecDepth 20000 in
theorem co_X5_endsHold_95 : CallV mu_X5_endsHold mu_X5_logEnd 95 0 5 := ⟨⟨(bg_5 186 rfl rfl), mo_X5_logEnd.1, mo_X5_logEnd.2.1, mo_X5_logEnd.2.2, by decide, by decide⟩, mv_X5_logEnd.1, mv_X5_logEnd.2, rfl, _, _, cls_5⟩
set_option maxRecDepth 20000 in
theorem co_X5_endsHold_67 : CallV mu_X5_endsHold mu_X5_highWatermark 67 0 5 := ⟨⟨(bg_3 150 rfl rfl), mo_X5_highWatermark.1, mo_X5_highWatermark.2.1, mo_X5_highWatermark.2.2, by decide, by decide⟩, mv_X5_highWatermark.1, mv_X5_highWatermark.2, rfl, _, _, cls_5⟩
set_option maxRecDepth 20000 in
theorem co_X5_ticksHold_81 : CallV mu_X5_ticksHold mu_X5_storedAt 81 1 5 := ⟨⟨(bg_4 16 rfl rfl), mo_X5_storedAt.1, mo_X5_storedAt.2.1, mo_X5_storedAt.2.2, by decide, by decide⟩, mv_X5_storedAt.1, mv_X5_storedAt.2, rfl, _, _, cls_5⟩
set_option maxRecDepth 20000 in
theorem mo_X4_standsAtItsOffset : MOK mu_X4_standsAtItsOffset 0 := ⟨(bg_1 17 rfl rfl), (bg_6 31 rfl rfl), by decide⟩
set_option maxRecDepth 20000 in
theorem mv_X4_standsAtItsOffset : Cond.instanceMethod mu_X4_standsAtItsOffset.1 ∈ Big ∧ Cond.selects mu_X4_standsAtItsOffset.1.cls mu_X4_standsAtItsOffset.1 mu_X4_standsAtItsOffset.1 ∈ Big := ⟨(bg_6 29 rfl rfl), (bg_6 30 rfl rfl)⟩
set_option maxRecDepth 20000 in
theorem co_X10_logsHold_589 : CallV mu_X10_logsHold mu_X4_standsAtItsOffset 589 0 4 := ⟨⟨(bg_6 28 rfl rfl), mo_X4_standsAtItsOffset.1, mo_X4_standsAtItsOffset.2.1, mo_X4_standsAtItsOffset.2.2, by decide, by decide⟩, mv_X4_standsAtItsOffset.1, mv_X4_standsAtItsOffset.2, rfl, _, _, cls_4⟩
set_option maxRecDepth 20000 in
theorem mo_X5_endsHold : MOK mu_X5_endsHold 0 := ⟨(bg_1 8 rfl rfl), (bg_6 37 rfl rfl), by decide⟩
set_option maxRecDepth 20000 in
theorem mv_X5_endsHold : Cond.instanceMethod mu_X5_endsHold.1 ∈ Big ∧ Cond.selects mu_X5_endsHold.1.cls mu_X5_endsHold.1 mu_X5_endsHold.1 ∈ Big := ⟨(bg_6 35 rfl rfl), (bg_6 36 rfl rfl)⟩
set_option maxRecDepth 20000 in
theorem co_X10_logsHold_592 : CallV mu_X10_logsHold mu_X5_endsHold 592 0 5 := ⟨⟨(bg_6 34 rfl rfl), mo_X5_endsHold.1, mo_X5_endsHold.2.1, mo_X5_endsHold.2.2, by decide, by decide⟩, mv_X5_endsHold.1, mv_X5_endsHold.2, rfl, _, _, cls_5⟩
set_option maxRecDepth 20000 in
theorem mo_X5_ticksHold : MOK mu_X5_ticksHold 0 := ⟨(bg_1 8 rfl rfl), (bg_6 41 rfl rfl), by decide⟩
set_option maxRecDepth 20000 in
theorem mv_X5_ticksHold : Cond.instanceMethod mu_X5_ticksHold.1 ∈ Big ∧ Cond.selects mu_X5_ticksHold.1.cls mu_X5_ticksHold.1 mu_X5_ticksHold.1 ∈ Big := ⟨(bg_6 39 rfl rfl), (bg_6 40 rfl rfl)⟩
set_option maxRecDepth 20000 in
theorem co_X10_logsHold_595 : CallV mu_X10_logsHold mu_X5_ticksHold 595 0 5 := ⟨⟨(bg_6 38 rfl rfl), mo_X5_ticksHold.1, mo_X5_ticksHold.2.1, mo_X5_ticksHold.2.2, by decide, by decide⟩, mv_X5_ticksHold.1, mv_X5_ticksHold.2, rfl, _, _, cls_5⟩
set_option maxRecDepth 20000 in
theorem fld_RX5_104 : FldOK 4 1 RX5 104 8 10 true RX4 TX4 11 := ⟨by decide, (bg_4 166 rfl rfl), rfl, rfl, rfl, by decide⟩
set_option maxRecDepth 20000 in
theorem mo_X4_isDelayed : MOK mu_X4_isDelayed 0 := ⟨(bg_1 17 rfl rfl), (bg_6 53 rfl rfl), by decide⟩
set_option maxRecDepth 20000 in
theorem mv_X4_isDelayed : Cond.instanceMethod mu_X4_isDelayed.1 ∈ Big ∧ Cond.selects mu_X4_isDelayed.1.cls mu_X4_isDelayed.1 mu_X4_isDelayed.1 ∈ Big := ⟨(bg_6 51 rfl rfl), (bg_6 52 rfl rfl)⟩
set_option maxRecDepth 20000 in
theorem co_X5_numbersRise_108 : CallV mu_X5_numbersRise mu_X4_isDelayed 108 0 4 := ⟨⟨(bg_6 50 rfl rfl), mo_X4_isDelayed.1, mo_X4_isDelayed.2.1, mo_X4_isDelayed.2.2, by decide, by decide⟩, mv_X4_isDelayed.1, mv_X4_isDelayed.2, rfl, _, _, cls_4⟩
set_option maxRecDepth 20000 in
theorem co_X5_numbersRise_84 : CallV mu_X5_numbersRise mu_X4_isPlainOrCommitted 84 0 4 := ⟨⟨(bg_4 20 rfl rfl), mo_X4_isPlainOrCommitted.1, mo_X4_isPlainOrCommitted.2.1, mo_X4_isPlainOrCommitted.2.2, by decide, by decide⟩, mv_X4_isPlainOrCommitted.1, mv_X4_isPlainOrCommitted.2, rfl, _, _, cls_4⟩
set_option maxRecDepth 20000 in
theorem fld_RX5_111 : FldOK 4 0 RX5 111 8 0 true RX4 TX4 11 := ⟨by decide, (bg_4 162 rfl rfl), rfl, rfl, rfl, by decide⟩
set_option maxRecDepth 20000 in
theorem mo_X5_numbersRise : MOK mu_X5_numbersRise 1 := ⟨(bg_1 8 rfl rfl), (bg_6 49 rfl rfl), by decide⟩
set_option maxRecDepth 20000 in
theorem mv_X5_numbersRise : Cond.instanceMethod mu_X5_numbersRise.1 ∈ Big ∧ Cond.selects mu_X5_numbersRise.1.cls mu_X5_numbersRise.1 mu_X5_numbersRise.1 ∈ Big := ⟨(bg_6 47 rfl rfl), (bg_6 48 rfl rfl)⟩
set_option maxRecDepth 20000 in
theorem co_X10_producersHold_598 : CallV mu_X10_producersHold mu_X5_numbersRise 598 1 5 := ⟨⟨(bg_6 46 rfl rfl), mo_X5_numbersRise.1, mo_X5_numbersRise.2.1, mo_X5_numbersRise.2.2, by decide, by decide⟩, mv_X5_numbersRise.1, mv_X5_numbersRise.2, rfl, _, _, cls_5⟩
set_option maxRecDepth 20000 in
theorem co_X10_wasDelivered_542 : CallV mu_X10_wasDelivered mu_X0_knownLetter 542 1 0 := ⟨⟨(bg_3 168 rfl rfl), mo_X0_knownLetter.1, mo_X0_knownLetter.2.1, mo_X0_knownLetter.2.2, by decide, by decide⟩, mv_X0_knownLetter.1, mv_X0_knownLetter.2, rfl, _, _, cls_0⟩
set_option maxRecDepth 20000 in
theorem mo_X10_wasDelivered : MOK mu_X10_wasDelivered 1 := ⟨(bg_1 1 rfl rfl), (bg_6 65 rfl rfl), by decide⟩
set_option maxRecDepth 20000 in
theorem mv_X10_wasDelivered : Cond.instanceMethod mu_X10_wasDelivered.1 ∈ Big ∧ Cond.selects mu_X10_wasDelivered.1.cls mu_X10_wasDelivered.1 mu_X10_wasDelivered.1 ∈ Big := ⟨(bg_6 64 rfl rfl), (bg_s 44 (by decide +kernel) rfl)⟩
set_option maxRecDepth 20000 in
theorem co_X10_transactionHolds_606 : CallV mu_X10_transactionHolds mu_X10_wasDelivered 606 1 10 := ⟨⟨(bg_6 62 rfl rfl), mo_X10_wasDelivered.1, mo_X10_wasDelivered.2.1, mo_X10_wasDelivered.2.2, by decide, by decide⟩, mv_X10_wasDelivered.1, mv_X10_wasDelivered.2, rfl, _, _, cls_10⟩
set_option maxRecDepth 20000 in
theorem co_X10_transactionHolds_478 : CallV mu_X10_transactionHolds mu_X4_canBeRead 478 0 4 := ⟨⟨(bg_3 138 rfl rfl), mo_X4_canBeRead.1, mo_X4_canBeRead.2.1, mo_X4_canBeRead.2.2, by decide, by decide⟩, mv_X4_canBeRead.1, mv_X4_canBeRead.2, rfl, _, _, cls_4⟩
set_option maxRecDepth 20000 in
theorem mo_X10_transactionHolds : MOK mu_X10_transactionHolds 1 := ⟨(bg_1 1 rfl rfl), (bg_6 61 rfl rfl), by decide⟩
set_option maxRecDepth 20000 in
theorem mv_X10_transactionHolds : Cond.instanceMethod mu_X10_transactionHolds.1 ∈ Big ∧ Cond.selects mu_X10_transactionHolds.1.cls mu_X10_transactionHolds.1 mu_X10_transactionHolds.1 ∈ Big := ⟨(bg_6 60 rfl rfl), (bg_s 43 (by decide +kernel) rfl)⟩
set_option maxRecDepth 20000 in
theorem co_X10_transactionsHold_602 : CallV mu_X10_transactionsHold mu_X10_transactionHolds 602 1 10 := ⟨⟨(bg_6 58 rfl rfl), mo_X10_transactionHolds.1, mo_X10_transactionHolds.2.1, mo_X10_transactionHolds.2.2, by decide, by decide⟩, mv_X10_transactionHolds.1, mv_X10_transactionHolds.2, rfl, _, _, cls_10⟩
set_option maxRecDepth 20000 in
theorem co_X0_orderHolds_241 : CallV mu_X0_orderHolds mu_X1_isOfRow 241 1 1 := ⟨⟨(bg_6 5 rfl rfl), mo_X1_isOfRow.1, mo_X1_isOfRow.2.1, mo_X1_isOfRow.2.2, by decide, by decide⟩, mv_X1_isOfRow.1, mv_X1_isOfRow.2, rfl, _, _, cls_1⟩
set_option maxRecDepth 20000 in
theorem mo_X0_orderHolds : MOK mu_X0_orderHolds 0 := ⟨(bg_1 11 rfl rfl), (bg_6 73 rfl rfl), by decide⟩
set_option maxRecDepth 20000 in
theorem mv_X0_orderHolds : Cond.instanceMethod mu_X0_orderHolds.1 ∈ Big ∧ Cond.selects mu_X0_orderHolds.1.cls mu_X0_orderHolds.1 mu_X0_orderHolds.1 ∈ Big := ⟨(bg_6 71 rfl rfl), (bg_6 72 rfl rfl)⟩
set_option maxRecDepth 20000 in
theorem co_X10_orderHolds_609 : CallV mu_X10_orderHolds mu_X0_orderHolds 609 0 0 := ⟨⟨(bg_6 70 rfl rfl), mo_X0_orderHolds.1, mo_X0_orderHolds.2.1, mo_X0_orderHolds.2.2, by decide, by decide⟩, mv_X0_orderHolds.1, mv_X0_orderHolds.2, rfl, _, _, cls_0⟩
set_option maxRecDepth 20000 in
theorem co_X0_readOffsetsHold_215 : CallV mu_X0_readOffsetsHold mu_X5_stableOffset 215 0 5 := ⟨⟨(bg_4 11 rfl rfl), mo_X5_stableOffset.1, mo_X5_stableOffset.2.1, mo_X5_stableOffset.2.2, by decide, by decide⟩, mv_X5_stableOffset.1, mv_X5_stableOffset.2, rfl, _, _, cls_5⟩
set_option maxRecDepth 20000 in
theorem fld_RX0_257 : FldOK 8 5 RX0 257 12 0 false RX8 TX8 6 := ⟨by decide, (bg_2 202 rfl rfl), rfl, rfl, rfl, by decide⟩
set_option maxRecDepth 20000 in
theorem co_X0_readOffsetsHold_218 : CallV mu_X0_readOffsetsHold mu_X5_readableAt 218 2 5 := ⟨⟨(bg_4 12 rfl rfl), mo_X5_readableAt.1, mo_X5_readableAt.2.1, mo_X5_readableAt.2.2, by decide, by decide⟩, mv_X5_readableAt.1, mv_X5_readableAt.2, rfl, _, _, cls_5⟩
set_option maxRecDepth 20000 in
theorem co_X0_readOffsetsHold_68 : CallV mu_X0_readOffsetsHold mu_X0_knownLetter 68 1 0 := ⟨⟨(bg_4 25 rfl rfl), mo_X0_knownLetter.1, mo_X0_knownLetter.2.1, mo_X0_knownLetter.2.2, by decide, by decide⟩, mv_X0_knownLetter.1, mv_X0_knownLetter.2, rfl, _, _, cls_0⟩
set_option maxRecDepth 20000 in
theorem co_X0_readOffsetsHold_249 : CallV mu_X0_readOffsetsHold mu_X1_waitsOrIsDead 249 0 1 := ⟨⟨(bg_6 86 rfl rfl), mo_X1_waitsOrIsDead.1, mo_X1_waitsOrIsDead.2.1, mo_X1_waitsOrIsDead.2.2, by decide, by decide⟩, mv_X1_waitsOrIsDead.1, mv_X1_waitsOrIsDead.2, rfl, _, _, cls_1⟩
set_option maxRecDepth 20000 in
theorem mo_X0_readOffsetsHold : MOK mu_X0_readOffsetsHold 1 := ⟨(bg_1 11 rfl rfl), (bg_6 85 rfl rfl), by decide⟩
set_option maxRecDepth 20000 in
theorem mv_X0_readOffsetsHold : Cond.instanceMethod mu_X0_readOffsetsHold.1 ∈ Big ∧ Cond.selects mu_X0_readOffsetsHold.1.cls mu_X0_readOffsetsHold.1 mu_X0_readOffsetsHold.1 ∈ Big := ⟨(bg_6 84 rfl rfl), (bg_s 47 (by decide +kernel) rfl)⟩
set_option maxRecDepth 20000 in
theorem co_X0_offsetsHold_253 : CallV mu_X0_offsetsHold mu_X0_readOffsetsHold 253 1 0 := ⟨⟨(bg_6 82 rfl rfl), mo_X0_readOffsetsHold.1, mo_X0_readOffsetsHold.2.1, mo_X0_readOffsetsHold.2.2, by decide, by decide⟩, mv_X0_readOffsetsHold.1, mv_X0_readOffsetsHold.2, rfl, _, _, cls_0⟩
set_option maxRecDepth 20000 in
theorem mo_X0_offsetsHold : MOK mu_X0_offsetsHold 0 := ⟨(bg_1 11 rfl rfl), (bg_6 81 rfl rfl), by decide⟩
set_option maxRecDepth 20000 in
theorem mv_X0_offsetsHold : Cond.instanceMethod mu_X0_offsetsHold.1 ∈ Big ∧ Cond.selects mu_X0_offsetsHold.1.cls mu_X0_offsetsHold.1 mu_X0_offsetsHold.1 ∈ Big := ⟨(bg_6 79 rfl rfl), (bg_6 80 rfl rfl)⟩
set_option maxRecDepth 20000 in
theorem co_X10_offsetsHold_610 : CallV mu_X10_offsetsHold mu_X0_offsetsHold 610 0 0 := ⟨⟨(bg_6 78 rfl rfl), mo_X0_offsetsHold.1, mo_X0_offsetsHold.2.1, mo_X0_offsetsHold.2.2, by decide, by decide⟩, mv_X0_offsetsHold.1, mv_X0_offsetsHold.2, rfl, _, _, cls_0⟩
set_option maxRecDepth 20000 in
theorem co_X0_sharesHold_117 : CallV mu_X0_sharesHold mu_X0_targetCount 117 1 0 := ⟨⟨(bg_3 61 rfl rfl), mo_X0_targetCount.1, mo_X0_targetCount.2.1, mo_X0_targetCount.2.2, by decide, by decide⟩, mv_X0_targetCount.1, mv_X0_targetCount.2, rfl, _, _, cls_0⟩
set_option maxRecDepth 20000 in
theorem co_X0_sharesHold_260 : CallS mu_X0_sharesHold mu_J9_min_7cf53 260 2 := ⟨⟨(bg_6 98 rfl rfl), mo_J9_min_7cf53.1, mo_J9_min_7cf53.2.1, mo_J9_min_7cf53.2.2, by decide, by decide⟩, ms_J9_min_7cf53⟩
set_option maxRecDepth 20000 in
theorem co_X0_sharesHold_137 : CallS mu_X0_sharesHold mu_J9_max_7cf53 137 2 := ⟨⟨(bg_3 116 rfl rfl), mo_J9_max_7cf53.1, mo_J9_max_7cf53.2.1, mo_J9_max_7cf53.2.2, by decide, by decide⟩, ms_J9_max_7cf53⟩
set_option maxRecDepth 20000 in
theorem mo_X0_isNoneOrMember : MOK mu_X0_isNoneOrMember 1 := ⟨(bg_1 11 rfl rfl), (bg_6 102 rfl rfl), by decide⟩
set_option maxRecDepth 20000 in
theorem mv_X0_isNoneOrMember : Cond.instanceMethod mu_X0_isNoneOrMember.1 ∈ Big ∧ Cond.selects mu_X0_isNoneOrMember.1.cls mu_X0_isNoneOrMember.1 mu_X0_isNoneOrMember.1 ∈ Big := ⟨(bg_6 101 rfl rfl), (bg_s 49 (by decide +kernel) rfl)⟩
set_option maxRecDepth 20000 in
theorem co_X0_sharesHold_263 : CallV mu_X0_sharesHold mu_X0_isNoneOrMember 263 1 0 := ⟨⟨(bg_6 99 rfl rfl), mo_X0_isNoneOrMember.1, mo_X0_isNoneOrMember.2.1, mo_X0_isNoneOrMember.2.2, by decide, by decide⟩, mv_X0_isNoneOrMember.1, mv_X0_isNoneOrMember.2, rfl, _, _, cls_0⟩
set_option maxRecDepth 20000 in
theorem co_X0_handHolds_152 : CallV mu_X0_handHolds mu_X2_get 152 1 2 := ⟨⟨(bg_3 96 rfl rfl), mo_X2_get.1, mo_X2_get.2.1, mo_X2_get.2.2, by decide, by decide⟩, mv_X2_get.1, mv_X2_get.2, rfl, _, _, cls_2⟩
set_option maxRecDepth 20000 in
theorem co_X0_handHolds_196 : CallV mu_X0_handHolds mu_X0_shareAt 196 1 0 := ⟨⟨(bg_3 226 rfl rfl), mo_X0_shareAt.1, mo_X0_shareAt.2.1, mo_X0_shareAt.2.2, by decide, by decide⟩, mv_X0_shareAt.1, mv_X0_shareAt.2, rfl, _, _, cls_0⟩
set_option maxRecDepth 20000 in
theorem mo_X0_handHolds : MOK mu_X0_handHolds 1 := ⟨(bg_1 11 rfl rfl), (bg_6 110 rfl rfl), by decide⟩
set_option maxRecDepth 20000 in
theorem mv_X0_handHolds : Cond.instanceMethod mu_X0_handHolds.1 ∈ Big ∧ Cond.selects mu_X0_handHolds.1.cls mu_X0_handHolds.1 mu_X0_handHolds.1 ∈ Big := ⟨(bg_6 109 rfl rfl), (bg_s 50 (by decide +kernel) rfl)⟩
set_option maxRecDepth 20000 in
theorem co_X0_handsHold_267 : CallV mu_X0_handsHold mu_X0_handHolds 267 1 0 := ⟨⟨(bg_6 107 rfl rfl), mo_X0_handHolds.1, mo_X0_handHolds.2.1, mo_X0_handHolds.2.2, by decide, by decide⟩, mv_X0_handHolds.1, mv_X0_handHolds.2, rfl, _, _, cls_0⟩
set_option maxRecDepth 20000 in
theorem mo_X0_sharesHold : MOK mu_X0_sharesHold 0 := ⟨(bg_1 11 rfl rfl), (bg_6 97 rfl rfl), by decide⟩
set_option maxRecDepth 20000 in
theorem mv_X0_sharesHold : Cond.instanceMethod mu_X0_sharesHold.1 ∈ Big ∧ Cond.selects mu_X0_sharesHold.1.cls mu_X0_sharesHold.1 mu_X0_sharesHold.1 ∈ Big := ⟨(bg_6 95 rfl rfl), (bg_6 96 rfl rfl)⟩
set_option maxRecDepth 20000 in
theorem co_X10_sharesHold_611 : CallV mu_X10_sharesHold mu_X0_sharesHold 611 0 0 := ⟨⟨(bg_6 94 rfl rfl), mo_X0_sharesHold.1, mo_X0_sharesHold.2.1, mo_X0_sharesHold.2.2, by decide, by decide⟩, mv_X0_sharesHold.1, mv_X0_sharesHold.2, rfl, _, _, cls_0⟩
set_option maxRecDepth 20000 in
theorem mo_X0_handsHold : MOK mu_X0_handsHold 0 := ⟨(bg_1 11 rfl rfl), (bg_6 106 rfl rfl), by decide⟩
set_option maxRecDepth 20000 in
theorem mv_X0_handsHold : Cond.instanceMethod mu_X0_handsHold.1 ∈ Big ∧ Cond.selects mu_X0_handsHold.1.cls mu_X0_handsHold.1 mu_X0_handsHold.1 ∈ Big := ⟨(bg_6 104 rfl rfl), (bg_6 105 rfl rfl)⟩
set_option maxRecDepth 20000 in
theorem co_X10_sharesHold_612 : CallV mu_X10_sharesHold mu_X0_handsHold 612 0 0 := ⟨⟨(bg_6 103 rfl rfl), mo_X0_handsHold.1, mo_X0_handsHold.2.1, mo_X0_handsHold.2.2, by decide, by decide⟩, mv_X0_handsHold.1, mv_X0_handsHold.2, rfl, _, _, cls_0⟩
set_option maxRecDepth 20000 in
theorem co_X10_audit_73 : CallS mu_X10_audit mu_X10_requireWithin 73 3 := ⟨⟨(bg_1 100 rfl rfl), mo_X10_requireWithin.1, mo_X10_requireWithin.2.1, mo_X10_requireWithin.2.2, by decide, by decide⟩, ms_X10_requireWithin⟩
set_option maxRecDepth 20000 in
theorem mo_X10_logsHold : MOK mu_X10_logsHold 0 := ⟨(bg_1 1 rfl rfl), (bg_6 27 rfl rfl), by decide⟩
set_option maxRecDepth 20000 in
theorem mv_X10_logsHold : Cond.instanceMethod mu_X10_logsHold.1 ∈ Big ∧ Cond.selects mu_X10_logsHold.1.cls mu_X10_logsHold.1 mu_X10_logsHold.1 ∈ Big := ⟨(bg_6 26 rfl rfl), (bg_s 40 (by decide +kernel) rfl)⟩
set_option maxRecDepth 20000 in
theorem co_X10_audit_571 : CallV mu_X10_audit mu_X10_logsHold 571 0 10 := ⟨⟨(bg_6 24 rfl rfl), mo_X10_logsHold.1, mo_X10_logsHold.2.1, mo_X10_logsHold.2.2, by decide, by decide⟩, mv_X10_logsHold.1, mv_X10_logsHold.2, rfl, _, _, cls_10⟩
set_option maxRecDepth 20000 in
theorem mo_X10_producersHold : MOK mu_X10_producersHold 0 := ⟨(bg_1 1 rfl rfl), (bg_6 45 rfl rfl), by decide⟩
set_option maxRecDepth 20000 in
theorem mv_X10_producersHold : Cond.instanceMethod mu_X10_producersHold.1 ∈ Big ∧ Cond.selects mu_X10_producersHold.1.cls mu_X10_producersHold.1 mu_X10_producersHold.1 ∈ Big := ⟨(bg_6 44 rfl rfl), (bg_s 41 (by decide +kernel) rfl)⟩
set_option maxRecDepth 20000 in
theorem co_X10_audit_574 : CallV mu_X10_audit mu_X10_producersHold 574 0 10 := ⟨⟨(bg_6 42 rfl rfl), mo_X10_producersHold.1, mo_X10_producersHold.2.1, mo_X10_producersHold.2.2, by decide, by decide⟩, mv_X10_producersHold.1, mv_X10_producersHold.2, rfl, _, _, cls_10⟩
set_option maxRecDepth 20000 in
theorem mo_X10_transactionsHold : MOK mu_X10_transactionsHold 0 := ⟨(bg_1 1 rfl rfl), (bg_6 57 rfl rfl), by decide⟩
set_option maxRecDepth 20000 in
theorem mv_X10_transactionsHold : Cond.instanceMethod mu_X10_transactionsHold.1 ∈ Big ∧ Cond.selects mu_X10_transactionsHold.1.cls mu_X10_transactionsHold.1 mu_X10_transactionsHold.1 ∈ Big := ⟨(bg_6 56 rfl rfl), (bg_s 42 (by decide +kernel) rfl)⟩
set_option maxRecDepth 20000 in
theorem co_X10_audit_577 : CallV mu_X10_audit mu_X10_transactionsHold 577 0 10 := ⟨⟨(bg_6 54 rfl rfl), mo_X10_transactionsHold.1, mo_X10_transactionsHold.2.1, mo_X10_transactionsHold.2.2, by decide, by decide⟩, mv_X10_transactionsHold.1, mv_X10_transactionsHold.2, rfl, _, _, cls_10⟩
set_option maxRecDepth 20000 in
theorem mo_X10_orderHolds : MOK mu_X10_orderHolds 0 := ⟨(bg_1 1 rfl rfl), (bg_6 69 rfl rfl), by decide⟩
set_option maxRecDepth 20000 in
theorem mv_X10_orderHolds : Cond.instanceMethod mu_X10_orderHolds.1 ∈ Big ∧ Cond.selects mu_X10_orderHolds.1.cls mu_X10_orderHolds.1 mu_X10_orderHolds.1 ∈ Big := ⟨(bg_6 68 rfl rfl), (bg_s 45 (by decide +kernel) rfl)⟩
set_option maxRecDepth 20000 in
theorem co_X10_audit_580 : CallV mu_X10_audit mu_X10_orderHolds 580 0 10 := ⟨⟨(bg_6 66 rfl rfl), mo_X10_orderHolds.1, mo_X10_orderHolds.2.1, mo_X10_orderHolds.2.2, by decide, by decide⟩, mv_X10_orderHolds.1, mv_X10_orderHolds.2, rfl, _, _, cls_10⟩
set_option maxRecDepth 20000 in
theorem mo_X10_offsetsHold : MOK mu_X10_offsetsHold 0 := ⟨(bg_1 1 rfl rfl), (bg_6 77 rfl rfl), by decide⟩
set_option maxRecDepth 20000 in
theorem mv_X10_offsetsHold : Cond.instanceMethod mu_X10_offsetsHold.1 ∈ Big ∧ Cond.selects mu_X10_offsetsHold.1.cls mu_X10_offsetsHold.1 mu_X10_offsetsHold.1 ∈ Big := ⟨(bg_6 76 rfl rfl), (bg_s 46 (by decide +kernel) rfl)⟩
set_option maxRecDepth 20000 in
theorem co_X10_audit_583 : CallV mu_X10_audit mu_X10_offsetsHold 583 0 10 := ⟨⟨(bg_6 74 rfl rfl), mo_X10_offsetsHold.1, mo_X10_offsetsHold.2.1, mo_X10_offsetsHold.2.2, by decide, by decide⟩, mv_X10_offsetsHold.1, mv_X10_offsetsHold.2, rfl, _, _, cls_10⟩
set_option maxRecDepth 20000 in
theorem mo_X10_sharesHold : MOK mu_X10_sharesHold 0 := ⟨(bg_1 1 rfl rfl), (bg_6 93 rfl rfl), by decide⟩
set_option maxRecDepth 20000 in
theorem mv_X10_sharesHold : Cond.instanceMethod mu_X10_sharesHold.1 ∈ Big ∧ Cond.selects mu_X10_sharesHold.1.cls mu_X10_sharesHold.1 mu_X10_sharesHold.1 ∈ Big := ⟨(bg_6 92 rfl rfl), (bg_s 48 (by decide +kernel) rfl)⟩
set_option maxRecDepth 20000 in
theorem co_X10_audit_586 : CallV mu_X10_audit mu_X10_sharesHold 586 0 10 := ⟨⟨(bg_6 90 rfl rfl), mo_X10_sharesHold.1, mo_X10_sharesHold.2.1, mo_X10_sharesHold.2.2, by decide, by decide⟩, mv_X10_sharesHold.1, mv_X10_sharesHold.2, rfl, _, _, cls_10⟩
