/-! STEPS THAT LEAVE THE MEMORY AS IT IS, an instruction each -/
theorem tv_i {D : Dt} {M : Mm} {z : Int} : tv D M 0 z = .int (Int32.ofInt z) := rfl
theorem tv_l {D : Dt} {M : Mm} {z : Int} : tv D M 2 z = .long (Int64.ofInt z) := rfl
theorem tv_r {D : Dt} {M : Mm} {t : Nat} {z : Int} (h : 3 ≤ t) : tv D M t z = va_rf (rf D M z) := by
  unfold tv
  rw [if_neg (by omega), if_neg (by omega)]
theorem ok_i {M : Mm} {z : Int} (h : okV M (0, z)) : r32 z := tok_i.mp h
theorem ok_l {M : Mm} {z : Int} (h : okV M (2, z)) : r64 z := tok_l.mp h
theorem ok_int {M : Mm} {z : Int} (h : r32 z) : okV M (0, z) := tok_i.mpr h
theorem ok_lng {M : Mm} {z : Int} (h : r64 z) : okV M (2, z) := tok_l.mpr h
section LVQ
variable {p : Program} {l : Launch} {e : Env} {R : Room} {s : State} {m : MethodId} {args : Array Value} {below : List Frame} {meth : Method} {c : Code} {H : Heap} {locs : List Loc} {cells slots : Nat} {Q : State → Prop} {cc : ByteArray} {ls : Array Slot} {rest : List Value} {pc : Nat}
theorem lv_aloadq_n (hexec : p.tables.exec = Jvm.exec) (hb : c.code = cc) {k4 : Fin 4} {i : Nat} {x : Option Nat} (hdg : decode cc pc = .ok (.aload_n k4, 1)) (hi : (k4 : Nat) = i) (hl : ls[i]? = some (.val (va_rf x)))
    (k : W p l e R s m args below meth c H locs cells slots Q (F0 m (pc + 1) ls (va_rf x :: rest))) : W p l e R s m args below meth c H locs cells slots Q (F0 m pc ls (rest)) := by
  subst hi
  cases x with
  | some x => exact lv_aload_n hexec hb hdg rfl hl k
  | none =>
    have hl : ls[(k4 : Nat)]? = some (Slot.val Value.null) := hl
    have k : W p l e R s m args below meth c H locs cells slots Q (F0 m (pc + 1) ls (.null :: rest)) := k
    intro T hT X
    obtain ⟨t, a, b⟩ := k T hT X
    refine ⟨t, ?_, b⟩
    jvm_step X.here [X.here.top, hexec, hb, hdg, hl, Value.isRef]
    exact a
theorem lv_aloadq (hexec : p.tables.exec = Jvm.exec) (hb : c.code = cc) {i : Nat} {x : Option Nat} (hdg : decode cc pc = .ok (.aload i, 2)) (hl : ls[i]? = some (.val (va_rf x)))
    (k : W p l e R s m args below meth c H locs cells slots Q (F0 m (pc + 2) ls (va_rf x :: rest))) : W p l e R s m args below meth c H locs cells slots Q (F0 m pc ls (rest)) := by
  cases x with
  | some x => exact lv_aload hexec hb hdg hl k
  | none =>
    have hl : ls[i]? = some (Slot.val Value.null) := hl
    have k : W p l e R s m args below meth c H locs cells slots Q (F0 m (pc + 2) ls (.null :: rest)) := k
    intro T hT X
    obtain ⟨t, a, b⟩ := k T hT X
    refine ⟨t, ?_, b⟩
    jvm_step X.here [X.here.top, hexec, hb, hdg, hl, Value.isRef]
    exact a
theorem lv_astoreq_n (hexec : p.tables.exec = Jvm.exec) (hb : c.code = cc) {k : Fin 4} {i nL : Nat} {x : Option Nat} {lv : List (Nat × Value)} (hdg : decode cc pc = .ok (.astore_n k, 1)) (hi : (k : Nat) = i) (h : lv_has ls nL lv) (hn : i < nL)
    (kk : ∀ ls' : Array Slot, lv_has ls' nL ((i, va_rf x) :: lv.filter (fun q => !(q.1 == i) && !(q.1 + 1 == i && q.2.category == 2))) → W p l e R s m args below meth c H locs cells slots Q (F0 m (pc + 1) ls' rest)) : W p l e R s m args below meth c H locs cells slots Q (F0 m pc ls (va_rf x :: rest)) := by
  cases x with
  | some x => exact lv_astore_n hexec hb hdg hi h hn rfl kk
  | none =>
    subst hi
    obtain ⟨ls', e', h'⟩ := lv_store1 (v := .null) h hn rfl
    intro T hT X
    obtain ⟨t, a, b⟩ := kk ls' h' T hT X
    refine ⟨t, ?_, b⟩
    show Steps p.tables e below (T.setTop (F0 m pc ls (.null :: rest))) t
    jvm_step X.here [X.here.top, ↓top_set X.here.top, hexec, hb, hdg, e']
    exact ⟨rfl, a⟩
theorem lv_astoreq (hexec : p.tables.exec = Jvm.exec) (hb : c.code = cc) {i nL : Nat} {x : Option Nat} {lv : List (Nat × Value)} (hdg : decode cc pc = .ok (.astore i, 2)) (h : lv_has ls nL lv) (hn : i < nL)
    (kk : ∀ ls' : Array Slot, lv_has ls' nL ((i, va_rf x) :: lv.filter (fun q => !(q.1 == i) && !(q.1 + 1 == i && q.2.category == 2))) → W p l e R s m args below meth c H locs cells slots Q (F0 m (pc + 2) ls' rest)) : W p l e R s m args below meth c H locs cells slots Q (F0 m pc ls (va_rf x :: rest)) := by
  cases x with
  | some x => exact lv_astore hexec hb hdg h hn rfl kk
  | none =>
    obtain ⟨ls', e', h'⟩ := lv_store1 (v := .null) h hn rfl
    intro T hT X
    obtain ⟨t, a, b⟩ := kk ls' h' T hT X
    refine ⟨t, ?_, b⟩
    show Steps p.tables e below (T.setTop (F0 m pc ls (.null :: rest))) t
    jvm_step X.here [X.here.top, ↓top_set X.here.top, hexec, hb, hdg, e']
    exact ⟨rfl, a⟩
theorem lv_iincQ (hexec : p.tables.exec = Jvm.exec) (hb : c.code = cc) {i nL : Nat} {n z : Int} {lv : List (Nat × Value)} (hdg : decode cc pc = .ok (.iinc i n, 3)) (h : lv_has ls nL lv) (hx : ls[i]? = some (.val (.int (Int32.ofInt z)))) (hn : i < nL)
    (kk : ∀ ls' : Array Slot, lv_has ls' nL ((i, Value.int (Int32.ofInt (w (z + n)))) :: lv.filter (fun q => !(q.1 == i) && !(q.1 + 1 == i && q.2.category == 2))) → W p l e R s m args below meth c H locs cells slots Q (F0 m (pc + 3) ls' rest)) : W p l e R s m args below meth c H locs cells slots Q (F0 m pc ls rest) := by
  have h2 : lv_has ls nL ((i, .int (Int32.ofInt z)) :: lv) := ⟨h.1, h.2.1, fun q hq => by
    rcases List.mem_cons.mp hq with rfl | hq
    · exact hx
    · exact h.2.2 q hq⟩
  refine lv_iinc hexec hb hdg h2 (k := 0) rfl (w_add z n).symm hn rfl fun ls' h' => kk ls' ?_
  simpa using h'
end LVQ
theorem i2l_ok {x : Int} (h : r32 x) : (Int32.ofInt x).toInt64 = Int64.ofInt x := by
  rw [← Int64.toInt_inj, Int32.toInt_toInt64, wl_eq (r32_64 h)]
  exact w_r h
theorem lcp_r (x y : Int) : r32 (lcp x y) := by
  unfold lcp r32
  split
  · omega
  · split <;> omega
theorem lcp_ok {x y : Int} (hx : r64 x) (hy : r64 y) : Value.int (lg_cmp (Int64.ofInt x) (Int64.ofInt y)) = .int (Int32.ofInt (lcp x y)) := by
  congr 1
  unfold lg_cmp lcp
  by_cases h1 : y < x
  · rw [if_pos ((l_lt hy hx).mpr h1), if_neg (by omega), if_neg (by omega)]; rfl
  · rw [if_neg (fun q => h1 ((l_lt hy hx).mp q))]
    by_cases h2 : x = y
    · rw [if_pos ((l_eq hx hy).mpr h2), if_neg (by omega), if_pos h2]; rfl
    · rw [if_neg (fun q => h2 ((l_eq hx hy).mp q)), if_pos (by omega)]; rfl
section PSR
variable {D : Dt} {μ : MI} {pc pc' : Nat} {L L' : List (Nat × VV)} {st : List VV} {M : Mm}
theorem st_iconst {n : Int} (hd : decode μ.2.1 pc = .ok (.iconst n, 1)) (hn : w n = n) (hp : pc + 1 = pc') : St D μ pc L (st) M pc' L ((0, n) :: st) M := by
  subst hp
  exact St.of (fun hL hS _ => ok_cons (ok_int (hn ▸ r32_w n)) hS) (fun l p e R s m args below meth c H locs ls cells slots Q hL hS hW C En S hl k => lv_iconst C.1 C.2.1 hd rfl k)
theorem st_bipush {n : Int} (hd : decode μ.2.1 pc = .ok (.bipush n, 2)) (hn : (Int8.ofInt n).toInt32 = Int32.ofInt n) (hw : w n = n) (hp : pc + 2 = pc') : St D μ pc L (st) M pc' L ((0, n) :: st) M := by
  subst hp
  exact St.of (fun hL hS _ => ok_cons (ok_int (hw ▸ r32_w n)) hS) (fun l p e R s m args below meth c H locs ls cells slots Q hL hS hW C En S hl k => lv_bipush C.1 C.2.1 hd hn k)
theorem st_sipush {n : Int} (hd : decode μ.2.1 pc = .ok (.sipush n, 3)) (hn : (Int16.ofInt n).toInt32 = Int32.ofInt n) (hw : w n = n) (hp : pc + 3 = pc') : St D μ pc L (st) M pc' L ((0, n) :: st) M := by
  subst hp
  exact St.of (fun hL hS _ => ok_cons (ok_int (hw ▸ r32_w n)) hS) (fun l p e R s m args below meth c H locs ls cells slots Q hL hS hW C En S hl k => lv_sipush C.1 C.2.1 hd hn k)
theorem st_ldc {n : Int} {index : Nat} (hd : decode μ.2.1 pc = .ok (.ldc index, 2)) (hc : Cond.constant μ.1.cls index (Int32.ofInt n) ∈ Big) (hw : w n = n) (hp : pc + 2 = pc') : St D μ pc L (st) M pc' L ((0, n) :: st) M := by
  subst hp
  exact St.of (fun hL hS _ => ok_cons (ok_int (hw ▸ r32_w n)) hS) (fun l p e R s m args below meth c H locs ls cells slots Q hL hS hW C En S hl k => lv_ldc C.1 C.2.1 C.2.2.2.1 (C.2.2.2.2.1 _ hc) hd k)
theorem st_lconst {n : Fin 2} {z : Int} (hd : decode μ.2.1 pc = .ok (.lconst n, 1)) (hz : Int64.ofNat (n : Nat) = Int64.ofInt z) (hw : (0 : Int) ≤ z ∧ z < 100) (hp : pc + 1 = pc') : St D μ pc L (st) M pc' L ((2, z) :: st) M := by
  subst hp
  exact St.of (fun hL hS _ => ok_cons (ok_lng (by unfold r64; omega)) hS) (fun l p e R s m args below meth c H locs ls cells slots Q hL hS hW C En S hl k => lv_lconst C.1 C.2.1 hd hz k)
theorem st_ldc2 {n : Int} {index : Nat} (hd : decode μ.2.1 pc = .ok (.ldc2_w index, 3)) (hc : Cond.constantLong μ.1.cls index (Int64.ofInt n) ∈ Big) (hw : (-1000000 : Int) ≤ n ∧ n < 1000000) (hp : pc + 3 = pc') : St D μ pc L (st) M pc' L ((2, n) :: st) M := by
  subst hp
  exact St.of (fun hL hS _ => ok_cons (ok_lng (by unfold r64; omega)) hS) (fun l p e R s m args below meth c H locs ls cells slots Q hL hS hW C En S hl k => lv_ldc2 C.1 C.2.1 C.2.2.2.1 (C.2.2.2.2.1 _ hc) hd k)
theorem st_null {t : Nat} (hd : decode μ.2.1 pc = .ok (.aconst_null, 1)) (ht : 3 ≤ t) (hp : pc + 1 = pc') : St D μ pc L (st) M pc' L ((t, 0) :: st) M := by
  subst hp
  exact St.of (fun hL hS _ => ok_cons tok0 hS) (fun l p e R s m args below meth c H locs ls cells slots Q hL hS hW C En S hl k => lv_null C.1 C.2.1 hd (by rw [cvS, List.map_cons, show cv D M (t, 0) = .null from tv_r ht] at k; exact k))
theorem st_iload_n {i : Fin 4} {j : Nat} {z : Int} (hd : decode μ.2.1 pc = .ok (.iload_n i, 1)) (hj : (i : Nat) = j) (h : lk L j = some (0, z)) (hp : pc + 1 = pc') : St D μ pc L (st) M pc' L ((0, z) :: st) M := by
  subst hp
  exact St.of (fun hL hS _ => ok_cons (hL _ (lk_mem h)) hS) (fun l p e R s m args below meth c H locs ls cells slots Q hL hS hW C En S hl k => lv_iload_n C.1 C.2.1 hd hj (lk_at hl h) k)
theorem st_iload {j : Nat} {z : Int} (hd : decode μ.2.1 pc = .ok (.iload j, 2)) (h : lk L j = some (0, z)) (hp : pc + 2 = pc') : St D μ pc L (st) M pc' L ((0, z) :: st) M := by
  subst hp
  exact St.of (fun hL hS _ => ok_cons (hL _ (lk_mem h)) hS) (fun l p e R s m args below meth c H locs ls cells slots Q hL hS hW C En S hl k => lv_iload C.1 C.2.1 hd (lk_at hl h) k)
theorem st_lload_n {i : Fin 4} {j : Nat} {z : Int} (hd : decode μ.2.1 pc = .ok (.lload_n i, 1)) (hj : (i : Nat) = j) (h : lk L j = some (2, z)) (hp : pc + 1 = pc') : St D μ pc L (st) M pc' L ((2, z) :: st) M := by
  subst hp
  exact St.of (fun hL hS _ => ok_cons (hL _ (lk_mem h)) hS) (fun l p e R s m args below meth c H locs ls cells slots Q hL hS hW C En S hl k => lv_lload_n C.1 C.2.1 hd hj (lk_at hl h) k)
theorem st_lload {j : Nat} {z : Int} (hd : decode μ.2.1 pc = .ok (.lload j, 2)) (h : lk L j = some (2, z)) (hp : pc + 2 = pc') : St D μ pc L (st) M pc' L ((2, z) :: st) M := by
  subst hp
  exact St.of (fun hL hS _ => ok_cons (hL _ (lk_mem h)) hS) (fun l p e R s m args below meth c H locs ls cells slots Q hL hS hW C En S hl k => lv_lload C.1 C.2.1 hd (lk_at hl h) k)
theorem st_aload_n {i : Fin 4} {j t : Nat} {z : Int} (hd : decode μ.2.1 pc = .ok (.aload_n i, 1)) (hj : (i : Nat) = j) (h : lk L j = some (t, z)) (ht : 3 ≤ t) (hp : pc + 1 = pc') : St D μ pc L (st) M pc' L ((t, z) :: st) M := by
  subst hp
  exact St.of (fun hL hS _ => ok_cons (hL _ (lk_mem h)) hS) (fun l p e R s m args below meth c H locs ls cells slots Q hL hS hW C En S hl k => lv_aloadq_n (x := rf D M z) C.1 C.2.1 hd hj (by rw [← tv_r ht]; exact lk_at hl h) (by rw [← tv_r ht]; exact k))
theorem st_aload {j t : Nat} {z : Int} (hd : decode μ.2.1 pc = .ok (.aload j, 2)) (h : lk L j = some (t, z)) (ht : 3 ≤ t) (hp : pc + 2 = pc') : St D μ pc L (st) M pc' L ((t, z) :: st) M := by
  subst hp
  exact St.of (fun hL hS _ => ok_cons (hL _ (lk_mem h)) hS) (fun l p e R s m args below meth c H locs ls cells slots Q hL hS hW C En S hl k => lv_aloadq (x := rf D M z) C.1 C.2.1 hd (by rw [← tv_r ht]; exact lk_at hl h) (by rw [← tv_r ht]; exact k))
theorem st_istore_n {i : Fin 4} {j : Nat} {z : Int} (hd : decode μ.2.1 pc = .ok (.istore_n i, 1)) (hj : (i : Nat) = j) (hp : pc + 1 = pc') (hn : j < μ.2.2.1) (ho : lokst L j = true) (hL' : lst L j (0, z) = L') : St D μ pc L ((0, z) :: st) M pc' L' (st) M := by
  subst hp; subst hL'
  exact St.ofL (fun hL hS => ⟨lst_ok hL (ok_hd hS), ok_tl hS⟩) (fun l p e R s m args below meth c H locs ls cells slots Q C hl k => lv_istore_n C.1 C.2.1 hd hj hl hn rfl fun ls' h' => k ls' (lst_sub (v := (0, z)) ho h'))
theorem st_istore {j : Nat} {z : Int} (hd : decode μ.2.1 pc = .ok (.istore j, 2)) (hp : pc + 2 = pc') (hn : j < μ.2.2.1) (ho : lokst L j = true) (hL' : lst L j (0, z) = L') : St D μ pc L ((0, z) :: st) M pc' L' (st) M := by
  subst hp; subst hL'
  exact St.ofL (fun hL hS => ⟨lst_ok hL (ok_hd hS), ok_tl hS⟩) (fun l p e R s m args below meth c H locs ls cells slots Q C hl k => lv_istore C.1 C.2.1 hd hl hn rfl fun ls' h' => k ls' (lst_sub (v := (0, z)) ho h'))
theorem st_astore_n {i : Fin 4} {j t : Nat} {z : Int} (hd : decode μ.2.1 pc = .ok (.astore_n i, 1)) (hj : (i : Nat) = j) (ht : 3 ≤ t) (hp : pc + 1 = pc') (hn : j < μ.2.2.1) (ho : lokst L j = true) (hL' : lst L j (t, z) = L') : St D μ pc L ((t, z) :: st) M pc' L' (st) M := by
  subst hp; subst hL'
  exact St.ofL (fun hL hS => ⟨lst_ok hL (ok_hd hS), ok_tl hS⟩) (fun l p e R s m args below meth c H locs ls cells slots Q C hl k => by rw [cvS, List.map_cons, show cv D M (t, z) = _ from tv_r ht]; exact lv_astoreq_n C.1 C.2.1 hd hj hl hn fun ls' h' => k ls' (lst_sub (v := (t, z)) ho (by rw [show cv D M (t, z) = _ from tv_r ht]; exact h')))
theorem st_astore {j t : Nat} {z : Int} (hd : decode μ.2.1 pc = .ok (.astore j, 2)) (ht : 3 ≤ t) (hp : pc + 2 = pc') (hn : j < μ.2.2.1) (ho : lokst L j = true) (hL' : lst L j (t, z) = L') : St D μ pc L ((t, z) :: st) M pc' L' (st) M := by
  subst hp; subst hL'
  exact St.ofL (fun hL hS => ⟨lst_ok hL (ok_hd hS), ok_tl hS⟩) (fun l p e R s m args below meth c H locs ls cells slots Q C hl k => by rw [cvS, List.map_cons, show cv D M (t, z) = _ from tv_r ht]; exact lv_astoreq C.1 C.2.1 hd hl hn fun ls' h' => k ls' (lst_sub (v := (t, z)) ho (by rw [show cv D M (t, z) = _ from tv_r ht]; exact h')))
theorem st_iinc {j : Nat} {n z : Int} (hd : decode μ.2.1 pc = .ok (.iinc j n, 3)) (h : lk L j = some (0, z)) (hp : pc + 3 = pc') (hn : j < μ.2.2.1) (ho : lokst L j = true) (hL' : lst L j (0, w (z + n)) = L') : St D μ pc L (st) M pc' L' (st) M := by
  subst hp; subst hL'
  exact St.ofL (fun hL hS => ⟨lst_ok hL (ok_int (r32_w _)), hS⟩) (fun l p e R s m args below meth c H locs ls cells slots Q C hl k => lv_iincQ C.1 C.2.1 hd hl (lk_at hl h) hn fun ls' h' => k ls' (lst_sub (v := (0, w (z + n))) ho h'))
theorem st_iadd {x y : Int} (hd : decode μ.2.1 pc = .ok (.iadd, 1)) (hp : pc + 1 = pc') : St D μ pc L ((0, y) :: (0, x) :: st) M pc' L ((0, w (x + y)) :: st) M := by
  subst hp
  exact St.of (fun hL hS _ => ok_cons (ok_int (r32_t _)) (ok_tl (ok_tl hS))) (fun l p e R s m args below meth c H locs ls cells slots Q hL hS hW C En S hl k => lv_iadd C.1 C.2.1 hd (by rw [cvS, List.map_cons, show cv D M (0, w (x + y)) = .int _ from congrArg Value.int (w_add x y)] at k; exact k))
theorem st_isub {x y : Int} (hd : decode μ.2.1 pc = .ok (.isub, 1)) (hp : pc + 1 = pc') : St D μ pc L ((0, y) :: (0, x) :: st) M pc' L ((0, w (x - y)) :: st) M := by
  subst hp
  exact St.of (fun hL hS _ => ok_cons (ok_int (r32_t _)) (ok_tl (ok_tl hS))) (fun l p e R s m args below meth c H locs ls cells slots Q hL hS hW C En S hl k => lv_isub C.1 C.2.1 hd (by rw [cvS, List.map_cons, show cv D M (0, w (x - y)) = .int _ from congrArg Value.int (w_sub x y)] at k; exact k))
theorem st_imul {x y : Int} (hd : decode μ.2.1 pc = .ok (.imul, 1)) (hp : pc + 1 = pc') : St D μ pc L ((0, y) :: (0, x) :: st) M pc' L ((0, w (x * y)) :: st) M := by
  subst hp
  exact St.of (fun hL hS _ => ok_cons (ok_int (r32_t _)) (ok_tl (ok_tl hS))) (fun l p e R s m args below meth c H locs ls cells slots Q hL hS hW C En S hl k => lv_imul C.1 C.2.1 hd (by rw [cvS, List.map_cons, show cv D M (0, w (x * y)) = .int _ from congrArg Value.int (w_mul x y)] at k; exact k))
theorem st_ishl {x y : Int} (hd : decode μ.2.1 pc = .ok (.ishl, 1)) (hp : pc + 1 = pc') : St D μ pc L ((0, y) :: (0, x) :: st) M pc' L ((0, shl x y) :: st) M := by
  subst hp
  exact St.of (fun hL hS _ => ok_cons (ok_int (r32_t _)) (ok_tl (ok_tl hS))) (fun l p e R s m args below meth c H locs ls cells slots Q hL hS hW C En S hl k => lv_ishl C.1 C.2.1 hd (by rw [cvS, List.map_cons, show cv D M (0, shl x y) = .int _ from congrArg Value.int (ofInt_t _)] at k; exact k))
theorem st_ishr {x y : Int} (hd : decode μ.2.1 pc = .ok (.ishr, 1)) (hp : pc + 1 = pc') : St D μ pc L ((0, y) :: (0, x) :: st) M pc' L ((0, shr x y) :: st) M := by
  subst hp
  exact St.of (fun hL hS _ => ok_cons (ok_int (r32_t _)) (ok_tl (ok_tl hS))) (fun l p e R s m args below meth c H locs ls cells slots Q hL hS hW C En S hl k => lv_ishr C.1 C.2.1 hd (by rw [cvS, List.map_cons, show cv D M (0, shr x y) = .int _ from congrArg Value.int (ofInt_t _)] at k; exact k))
theorem st_iand {x y : Int} (hd : decode μ.2.1 pc = .ok (.iand, 1)) (hp : pc + 1 = pc') : St D μ pc L ((0, y) :: (0, x) :: st) M pc' L ((0, ian x y) :: st) M := by
  subst hp
  exact St.of (fun hL hS _ => ok_cons (ok_int (r32_t _)) (ok_tl (ok_tl hS))) (fun l p e R s m args below meth c H locs ls cells slots Q hL hS hW C En S hl k => lv_iand C.1 C.2.1 hd (by rw [cvS, List.map_cons, show cv D M (0, ian x y) = .int _ from congrArg Value.int (ofInt_t _)] at k; exact k))
theorem st_ior {x y : Int} (hd : decode μ.2.1 pc = .ok (.ior, 1)) (hp : pc + 1 = pc') : St D μ pc L ((0, y) :: (0, x) :: st) M pc' L ((0, ior x y) :: st) M := by
  subst hp
  exact St.of (fun hL hS _ => ok_cons (ok_int (r32_t _)) (ok_tl (ok_tl hS))) (fun l p e R s m args below meth c H locs ls cells slots Q hL hS hW C En S hl k => lv_ior C.1 C.2.1 hd (by rw [cvS, List.map_cons, show cv D M (0, ior x y) = .int _ from congrArg Value.int (ofInt_t _)] at k; exact k))
theorem st_ixor {x y : Int} (hd : decode μ.2.1 pc = .ok (.ixor, 1)) (hp : pc + 1 = pc') : St D μ pc L ((0, y) :: (0, x) :: st) M pc' L ((0, ixr x y) :: st) M := by
  subst hp
  exact St.of (fun hL hS _ => ok_cons (ok_int (r32_t _)) (ok_tl (ok_tl hS))) (fun l p e R s m args below meth c H locs ls cells slots Q hL hS hW C En S hl k => lv_ixor C.1 C.2.1 hd (by rw [cvS, List.map_cons, show cv D M (0, ixr x y) = .int _ from congrArg Value.int (ofInt_t _)] at k; exact k))
theorem st_iushr {x y : Int} (hd : decode μ.2.1 pc = .ok (.iushr, 1)) (hp : pc + 1 = pc') : St D μ pc L ((0, y) :: (0, x) :: st) M pc' L ((0, ush x y) :: st) M := by
  subst hp
  exact St.of (fun hL hS _ => ok_cons (ok_int (r32_t _)) (ok_tl (ok_tl hS))) (fun l p e R s m args below meth c H locs ls cells slots Q hL hS hW C En S hl k => lv_iushr C.1 C.2.1 hd rfl (by rw [cvS, List.map_cons, show cv D M (0, ush x y) = .int _ from congrArg Value.int (ofInt_t _)] at k; exact k))
theorem st_idiv {x y : Int} (hd : decode μ.2.1 pc = .ok (.idiv, 1)) (hy : y ≠ 0) (hp : pc + 1 = pc') : St D μ pc L ((0, y) :: (0, x) :: st) M pc' L ((0, idv x y) :: st) M := by
  subst hp
  exact St.of (fun hL hS _ => ok_cons (ok_int (r32_t _)) (ok_tl (ok_tl hS))) (fun l p e R s m args below meth c H locs ls cells slots Q hL hS hW C En S hl k => lv_idiv C.1 C.2.1 hd (fun q => hy ((i_eq (ok_i (ok_hd hS)) r32_0).mp q)) (by rw [cvS, List.map_cons, show cv D M (0, idv x y) = .int _ from congrArg Value.int (ofInt_t _)] at k; exact k))
theorem st_irem {x y : Int} (hd : decode μ.2.1 pc = .ok (.irem, 1)) (hy : y ≠ 0) (hp : pc + 1 = pc') : St D μ pc L ((0, y) :: (0, x) :: st) M pc' L ((0, irm x y) :: st) M := by
  subst hp
  exact St.of (fun hL hS _ => ok_cons (ok_int (r32_t _)) (ok_tl (ok_tl hS))) (fun l p e R s m args below meth c H locs ls cells slots Q hL hS hW C En S hl k => lv_irem C.1 C.2.1 hd (fun q => hy ((i_eq (ok_i (ok_hd hS)) r32_0).mp q)) (by rw [cvS, List.map_cons, show cv D M (0, irm x y) = .int _ from congrArg Value.int (ofInt_t _)] at k; exact k))
theorem st_i2l {x : Int} (hd : decode μ.2.1 pc = .ok (.i2l, 1)) (hp : pc + 1 = pc') : St D μ pc L ((0, x) :: st) M pc' L ((2, x) :: st) M := by
  subst hp
  exact St.of (fun hL hS _ => ok_cons (ok_lng (r32_64 (ok_i (ok_hd hS)))) (ok_tl hS)) (fun l p e R s m args below meth c H locs ls cells slots Q hL hS hW C En S hl k => lv_i2l C.1 C.2.1 hd (i2l_ok (ok_i (ok_hd hS))) k)
theorem st_lcmp {x y : Int} (hd : decode μ.2.1 pc = .ok (.lcmp, 1)) (hp : pc + 1 = pc') : St D μ pc L ((2, y) :: (2, x) :: st) M pc' L ((0, lcp x y) :: st) M := by
  subst hp
  exact St.of (fun hL hS _ => ok_cons (ok_int (lcp_r x y)) (ok_tl (ok_tl hS))) (fun l p e R s m args below meth c H locs ls cells slots Q hL hS hW C En S hl k => W.lcmp C.1 C.2.1 hd (by rw [lcp_ok (ok_l (ok_hd (ok_tl hS))) (ok_l (ok_hd hS))]; exact k))
theorem st_if_eq_t {x off : Int} (hd : decode μ.2.1 pc = .ok (.ifCond .eq off, 3)) (hp : (pc : Int) + off = (pc' : Int)) (hc : x = 0) : St D μ pc L ((0, x) :: st) M pc' L st M :=
  St.of (fun hL hS _ => ok_tl hS) (fun l p e R s m args below meth c H locs ls cells slots Q hL hS hW C En S hl k => lv_if_eq C.1 C.2.1 hd hp (fun _ => k) (fun q => absurd ((i_eq (ok_i (ok_hd hS)) r32_0).mpr hc) q))
theorem st_if_eq_f {x off : Int} (hd : decode μ.2.1 pc = .ok (.ifCond .eq off, 3)) (tgt : Nat) (ht : (pc : Int) + off = (tgt : Int)) (hp : pc + 3 = pc') (hc : ¬ (x = 0)) : St D μ pc L ((0, x) :: st) M pc' L st M := by
  subst hp
  exact St.of (fun hL hS _ => ok_tl hS) (fun l p e R s m args below meth c H locs ls cells slots Q hL hS hW C En S hl k => lv_if_eq C.1 C.2.1 hd ht (fun q => absurd ((i_eq (ok_i (ok_hd hS)) r32_0).mp q) hc) (fun _ => k))
theorem st_icmp_eq_t {x y off : Int} (hd : decode μ.2.1 pc = .ok (.if_icmp .eq off, 3)) (hp : (pc : Int) + off = (pc' : Int)) (hc : x = y) : St D μ pc L ((0, y) :: (0, x) :: st) M pc' L st M :=
  St.of (fun hL hS _ => ok_tl (ok_tl hS)) (fun l p e R s m args below meth c H locs ls cells slots Q hL hS hW C En S hl k => lv_icmp_eq C.1 C.2.1 hd hp (fun _ => k) (fun q => absurd ((i_eq (ok_i (ok_hd (ok_tl hS))) (ok_i (ok_hd hS))).mpr hc) q))
theorem st_icmp_eq_f {x y off : Int} (hd : decode μ.2.1 pc = .ok (.if_icmp .eq off, 3)) (tgt : Nat) (ht : (pc : Int) + off = (tgt : Int)) (hp : pc + 3 = pc') (hc : ¬ (x = y)) : St D μ pc L ((0, y) :: (0, x) :: st) M pc' L st M := by
  subst hp
  exact St.of (fun hL hS _ => ok_tl (ok_tl hS)) (fun l p e R s m args below meth c H locs ls cells slots Q hL hS hW C En S hl k => lv_icmp_eq C.1 C.2.1 hd ht (fun q => absurd ((i_eq (ok_i (ok_hd (ok_tl hS))) (ok_i (ok_hd hS))).mp q) hc) (fun _ => k))
theorem st_if_ne_t {x off : Int} (hd : decode μ.2.1 pc = .ok (.ifCond .ne off, 3)) (hp : (pc : Int) + off = (pc' : Int)) (hc : ¬ x = 0) : St D μ pc L ((0, x) :: st) M pc' L st M :=
  St.of (fun hL hS _ => ok_tl hS) (fun l p e R s m args below meth c H locs ls cells slots Q hL hS hW C En S hl k => lv_if_ne C.1 C.2.1 hd hp (fun _ => k) (fun q => absurd q ((not_congr (i_eq (ok_i (ok_hd hS)) r32_0)).mpr hc)))
theorem st_if_ne_f {x off : Int} (hd : decode μ.2.1 pc = .ok (.ifCond .ne off, 3)) (tgt : Nat) (ht : (pc : Int) + off = (tgt : Int)) (hp : pc + 3 = pc') (hc : ¬ (¬ x = 0)) : St D μ pc L ((0, x) :: st) M pc' L st M := by
  subst hp
  exact St.of (fun hL hS _ => ok_tl hS) (fun l p e R s m args below meth c H locs ls cells slots Q hL hS hW C En S hl k => lv_if_ne C.1 C.2.1 hd ht (fun q => absurd ((not_congr (i_eq (ok_i (ok_hd hS)) r32_0)).mp q) hc) (fun _ => k))
theorem st_icmp_ne_t {x y off : Int} (hd : decode μ.2.1 pc = .ok (.if_icmp .ne off, 3)) (hp : (pc : Int) + off = (pc' : Int)) (hc : ¬ x = y) : St D μ pc L ((0, y) :: (0, x) :: st) M pc' L st M :=
  St.of (fun hL hS _ => ok_tl (ok_tl hS)) (fun l p e R s m args below meth c H locs ls cells slots Q hL hS hW C En S hl k => lv_icmp_ne C.1 C.2.1 hd hp (fun _ => k) (fun q => absurd q ((not_congr (i_eq (ok_i (ok_hd (ok_tl hS))) (ok_i (ok_hd hS)))).mpr hc)))
theorem st_icmp_ne_f {x y off : Int} (hd : decode μ.2.1 pc = .ok (.if_icmp .ne off, 3)) (tgt : Nat) (ht : (pc : Int) + off = (tgt : Int)) (hp : pc + 3 = pc') (hc : ¬ (¬ x = y)) : St D μ pc L ((0, y) :: (0, x) :: st) M pc' L st M := by
  subst hp
  exact St.of (fun hL hS _ => ok_tl (ok_tl hS)) (fun l p e R s m args below meth c H locs ls cells slots Q hL hS hW C En S hl k => lv_icmp_ne C.1 C.2.1 hd ht (fun q => absurd ((not_congr (i_eq (ok_i (ok_hd (ok_tl hS))) (ok_i (ok_hd hS)))).mp q) hc) (fun _ => k))
theorem st_if_lt_t {x off : Int} (hd : decode μ.2.1 pc = .ok (.ifCond .lt off, 3)) (hp : (pc : Int) + off = (pc' : Int)) (hc : x < 0) : St D μ pc L ((0, x) :: st) M pc' L st M :=
  St.of (fun hL hS _ => ok_tl hS) (fun l p e R s m args below meth c H locs ls cells slots Q hL hS hW C En S hl k => lv_if_lt C.1 C.2.1 hd hp (fun _ => k) (fun q => absurd ((i_lt (ok_i (ok_hd hS)) r32_0).mpr hc) q))
theorem st_if_lt_f {x off : Int} (hd : decode μ.2.1 pc = .ok (.ifCond .lt off, 3)) (tgt : Nat) (ht : (pc : Int) + off = (tgt : Int)) (hp : pc + 3 = pc') (hc : ¬ (x < 0)) : St D μ pc L ((0, x) :: st) M pc' L st M := by
  subst hp
  exact St.of (fun hL hS _ => ok_tl hS) (fun l p e R s m args below meth c H locs ls cells slots Q hL hS hW C En S hl k => lv_if_lt C.1 C.2.1 hd ht (fun q => absurd ((i_lt (ok_i (ok_hd hS)) r32_0).mp q) hc) (fun _ => k))
theorem st_icmp_lt_t {x y off : Int} (hd : decode μ.2.1 pc = .ok (.if_icmp .lt off, 3)) (hp : (pc : Int) + off = (pc' : Int)) (hc : x < y) : St D μ pc L ((0, y) :: (0, x) :: st) M pc' L st M :=
  St.of (fun hL hS _ => ok_tl (ok_tl hS)) (fun l p e R s m args below meth c H locs ls cells slots Q hL hS hW C En S hl k => lv_icmp_lt C.1 C.2.1 hd hp (fun _ => k) (fun q => absurd ((i_lt (ok_i (ok_hd (ok_tl hS))) (ok_i (ok_hd hS))).mpr hc) q))
theorem st_icmp_lt_f {x y off : Int} (hd : decode μ.2.1 pc = .ok (.if_icmp .lt off, 3)) (tgt : Nat) (ht : (pc : Int) + off = (tgt : Int)) (hp : pc + 3 = pc') (hc : ¬ (x < y)) : St D μ pc L ((0, y) :: (0, x) :: st) M pc' L st M := by
  subst hp
  exact St.of (fun hL hS _ => ok_tl (ok_tl hS)) (fun l p e R s m args below meth c H locs ls cells slots Q hL hS hW C En S hl k => lv_icmp_lt C.1 C.2.1 hd ht (fun q => absurd ((i_lt (ok_i (ok_hd (ok_tl hS))) (ok_i (ok_hd hS))).mp q) hc) (fun _ => k))
theorem st_if_ge_t {x off : Int} (hd : decode μ.2.1 pc = .ok (.ifCond .ge off, 3)) (hp : (pc : Int) + off = (pc' : Int)) (hc : 0 ≤ x) : St D μ pc L ((0, x) :: st) M pc' L st M :=
  St.of (fun hL hS _ => ok_tl hS) (fun l p e R s m args below meth c H locs ls cells slots Q hL hS hW C En S hl k => lv_if_ge C.1 C.2.1 hd hp (fun _ => k) (fun q => absurd ((i_le r32_0 (ok_i (ok_hd hS))).mpr hc) q))
theorem st_if_ge_f {x off : Int} (hd : decode μ.2.1 pc = .ok (.ifCond .ge off, 3)) (tgt : Nat) (ht : (pc : Int) + off = (tgt : Int)) (hp : pc + 3 = pc') (hc : ¬ (0 ≤ x)) : St D μ pc L ((0, x) :: st) M pc' L st M := by
  subst hp
  exact St.of (fun hL hS _ => ok_tl hS) (fun l p e R s m args below meth c H locs ls cells slots Q hL hS hW C En S hl k => lv_if_ge C.1 C.2.1 hd ht (fun q => absurd ((i_le r32_0 (ok_i (ok_hd hS))).mp q) hc) (fun _ => k))
theorem st_icmp_ge_t {x y off : Int} (hd : decode μ.2.1 pc = .ok (.if_icmp .ge off, 3)) (hp : (pc : Int) + off = (pc' : Int)) (hc : y ≤ x) : St D μ pc L ((0, y) :: (0, x) :: st) M pc' L st M :=
  St.of (fun hL hS _ => ok_tl (ok_tl hS)) (fun l p e R s m args below meth c H locs ls cells slots Q hL hS hW C En S hl k => lv_icmp_ge C.1 C.2.1 hd hp (fun _ => k) (fun q => absurd ((i_le (ok_i (ok_hd hS)) (ok_i (ok_hd (ok_tl hS)))).mpr hc) q))
theorem st_icmp_ge_f {x y off : Int} (hd : decode μ.2.1 pc = .ok (.if_icmp .ge off, 3)) (tgt : Nat) (ht : (pc : Int) + off = (tgt : Int)) (hp : pc + 3 = pc') (hc : ¬ (y ≤ x)) : St D μ pc L ((0, y) :: (0, x) :: st) M pc' L st M := by
  subst hp
  exact St.of (fun hL hS _ => ok_tl (ok_tl hS)) (fun l p e R s m args below meth c H locs ls cells slots Q hL hS hW C En S hl k => lv_icmp_ge C.1 C.2.1 hd ht (fun q => absurd ((i_le (ok_i (ok_hd hS)) (ok_i (ok_hd (ok_tl hS)))).mp q) hc) (fun _ => k))
theorem st_if_gt_t {x off : Int} (hd : decode μ.2.1 pc = .ok (.ifCond .gt off, 3)) (hp : (pc : Int) + off = (pc' : Int)) (hc : 0 < x) : St D μ pc L ((0, x) :: st) M pc' L st M :=
  St.of (fun hL hS _ => ok_tl hS) (fun l p e R s m args below meth c H locs ls cells slots Q hL hS hW C En S hl k => lv_if_gt C.1 C.2.1 hd hp (fun _ => k) (fun q => absurd ((i_lt r32_0 (ok_i (ok_hd hS))).mpr hc) q))
theorem st_if_gt_f {x off : Int} (hd : decode μ.2.1 pc = .ok (.ifCond .gt off, 3)) (tgt : Nat) (ht : (pc : Int) + off = (tgt : Int)) (hp : pc + 3 = pc') (hc : ¬ (0 < x)) : St D μ pc L ((0, x) :: st) M pc' L st M := by
  subst hp
  exact St.of (fun hL hS _ => ok_tl hS) (fun l p e R s m args below meth c H locs ls cells slots Q hL hS hW C En S hl k => lv_if_gt C.1 C.2.1 hd ht (fun q => absurd ((i_lt r32_0 (ok_i (ok_hd hS))).mp q) hc) (fun _ => k))
theorem st_icmp_gt_t {x y off : Int} (hd : decode μ.2.1 pc = .ok (.if_icmp .gt off, 3)) (hp : (pc : Int) + off = (pc' : Int)) (hc : y < x) : St D μ pc L ((0, y) :: (0, x) :: st) M pc' L st M :=
  St.of (fun hL hS _ => ok_tl (ok_tl hS)) (fun l p e R s m args below meth c H locs ls cells slots Q hL hS hW C En S hl k => lv_icmp_gt C.1 C.2.1 hd hp (fun _ => k) (fun q => absurd ((i_lt (ok_i (ok_hd hS)) (ok_i (ok_hd (ok_tl hS)))).mpr hc) q))
theorem st_icmp_gt_f {x y off : Int} (hd : decode μ.2.1 pc = .ok (.if_icmp .gt off, 3)) (tgt : Nat) (ht : (pc : Int) + off = (tgt : Int)) (hp : pc + 3 = pc') (hc : ¬ (y < x)) : St D μ pc L ((0, y) :: (0, x) :: st) M pc' L st M := by
  subst hp
  exact St.of (fun hL hS _ => ok_tl (ok_tl hS)) (fun l p e R s m args below meth c H locs ls cells slots Q hL hS hW C En S hl k => lv_icmp_gt C.1 C.2.1 hd ht (fun q => absurd ((i_lt (ok_i (ok_hd hS)) (ok_i (ok_hd (ok_tl hS)))).mp q) hc) (fun _ => k))
theorem st_if_le_t {x off : Int} (hd : decode μ.2.1 pc = .ok (.ifCond .le off, 3)) (hp : (pc : Int) + off = (pc' : Int)) (hc : x ≤ 0) : St D μ pc L ((0, x) :: st) M pc' L st M :=
  St.of (fun hL hS _ => ok_tl hS) (fun l p e R s m args below meth c H locs ls cells slots Q hL hS hW C En S hl k => lv_if_le C.1 C.2.1 hd hp (fun _ => k) (fun q => absurd ((i_le (ok_i (ok_hd hS)) r32_0).mpr hc) q))
theorem st_if_le_f {x off : Int} (hd : decode μ.2.1 pc = .ok (.ifCond .le off, 3)) (tgt : Nat) (ht : (pc : Int) + off = (tgt : Int)) (hp : pc + 3 = pc') (hc : ¬ (x ≤ 0)) : St D μ pc L ((0, x) :: st) M pc' L st M := by
  subst hp
  exact St.of (fun hL hS _ => ok_tl hS) (fun l p e R s m args below meth c H locs ls cells slots Q hL hS hW C En S hl k => lv_if_le C.1 C.2.1 hd ht (fun q => absurd ((i_le (ok_i (ok_hd hS)) r32_0).mp q) hc) (fun _ => k))
theorem st_icmp_le_t {x y off : Int} (hd : decode μ.2.1 pc = .ok (.if_icmp .le off, 3)) (hp : (pc : Int) + off = (pc' : Int)) (hc : x ≤ y) : St D μ pc L ((0, y) :: (0, x) :: st) M pc' L st M :=
  St.of (fun hL hS _ => ok_tl (ok_tl hS)) (fun l p e R s m args below meth c H locs ls cells slots Q hL hS hW C En S hl k => lv_icmp_le C.1 C.2.1 hd hp (fun _ => k) (fun q => absurd ((i_le (ok_i (ok_hd (ok_tl hS))) (ok_i (ok_hd hS))).mpr hc) q))
theorem st_icmp_le_f {x y off : Int} (hd : decode μ.2.1 pc = .ok (.if_icmp .le off, 3)) (tgt : Nat) (ht : (pc : Int) + off = (tgt : Int)) (hp : pc + 3 = pc') (hc : ¬ (x ≤ y)) : St D μ pc L ((0, y) :: (0, x) :: st) M pc' L st M := by
  subst hp
  exact St.of (fun hL hS _ => ok_tl (ok_tl hS)) (fun l p e R s m args below meth c H locs ls cells slots Q hL hS hW C En S hl k => lv_icmp_le C.1 C.2.1 hd ht (fun q => absurd ((i_le (ok_i (ok_hd (ok_tl hS))) (ok_i (ok_hd hS))).mp q) hc) (fun _ => k))
theorem st_goto {off : Int} (hd : decode μ.2.1 pc = .ok (.goto off, 3)) (hp : (pc : Int) + off = (pc' : Int)) : St D μ pc L (st) M pc' L (st) M := by
  exact St.of (fun hL hS _ => hS) (fun l p e R s m args below meth c H locs ls cells slots Q hL hS hW C En S hl k => lv_goto C.1 C.2.1 hd hp k)
theorem cv_n {t : Nat} (ht : 3 ≤ t) : cv D M (t, 0) = .null := tv_r ht
theorem cv_s {t : Nat} {a : Int} (h : okV M (t, a)) (ht : 4 ≤ t) (h1 : t ≠ 100) (ha : a ≠ 0) : cv D M (t, a) = .ref (dlo D + (mAd M a - 1)) := by
  rw [show cv D M (t, a) = _ from tv_r (by omega), rf_s h ht h1 ha]; rfl
theorem st_ifnull_t {t : Nat} {a off : Int} (hd : decode μ.2.1 pc = .ok (.ifnull off, 3)) (ht : 4 ≤ t ∧ t ≠ 100) (ho : a = 0) (hp : (pc : Int) + off = (pc' : Int)) : St D μ pc L ((t, a) :: st) M pc' L (st) M := by
  exact St.of (fun hL hS _ => ok_tl hS) (fun l p e R s m args below meth c H locs ls cells slots Q hL hS hW C En S hl k => by rw [cvS, List.map_cons, ho, cv_n (by omega)]; exact lv_ifnullN C.1 C.2.1 hd hp k)
theorem st_ifnull_f {t : Nat} {a off : Int} (hd : decode μ.2.1 pc = .ok (.ifnull off, 3)) (ht : 4 ≤ t ∧ t ≠ 100) (ho : ¬ a = 0) (hp : pc + 3 = pc') : St D μ pc L ((t, a) :: st) M pc' L (st) M := by
  subst hp
  exact St.of (fun hL hS _ => ok_tl hS) (fun l p e R s m args below meth c H locs ls cells slots Q hL hS hW C En S hl k => by rw [cvS, List.map_cons, cv_s (ok_hd hS) ht.1 ht.2 ho]; exact lv_ifnull C.1 C.2.1 hd k)
theorem st_ifnonnull_t {t : Nat} {a off : Int} (hd : decode μ.2.1 pc = .ok (.ifnonnull off, 3)) (ht : 4 ≤ t ∧ t ≠ 100) (ho : ¬ a = 0) (hp : (pc : Int) + off = (pc' : Int)) : St D μ pc L ((t, a) :: st) M pc' L (st) M := by
  exact St.of (fun hL hS _ => ok_tl hS) (fun l p e R s m args below meth c H locs ls cells slots Q hL hS hW C En S hl k => by rw [cvS, List.map_cons, cv_s (ok_hd hS) ht.1 ht.2 ho]; exact lv_ifnonnull C.1 C.2.1 hd hp k)
theorem st_ifnonnull_f {t : Nat} {a off : Int} (hd : decode μ.2.1 pc = .ok (.ifnonnull off, 3)) (ht : 4 ≤ t ∧ t ≠ 100) (ho : a = 0) (hp : pc + 3 = pc') : St D μ pc L ((t, a) :: st) M pc' L (st) M := by
  subst hp
  exact St.of (fun hL hS _ => ok_tl hS) (fun l p e R s m args below meth c H locs ls cells slots Q hL hS hW C En S hl k => by rw [cvS, List.map_cons, ho, cv_n (by omega)]; exact lv_ifnonnullN C.1 C.2.1 hd k)
theorem rf_eq {D : Dt} {M : Mm} {H : Heap} {t1 t2 : Nat} {a b : Int} (En : Enc D M H) (h1 : okV M (t1, a)) (h2 : okV M (t2, b)) (q1 : 4 ≤ t1 ∧ t1 ≠ 100) (q2 : 4 ≤ t2 ∧ t2 ≠ 100) : rf D M a = rf D M b ↔ a = b := by
  refine ⟨fun h => ?_, fun h => by rw [h]⟩
  by_cases ha : a = 0
  · by_cases hb : b = 0
    · rw [ha, hb]
    · rw [ha, rf_s h2 q2.1 q2.2 hb] at h
      exact absurd h (by unfold rf; rw [if_pos rfl]; exact fun q => nomatch q)
  · by_cases hb : b = 0
    · rw [hb, rf_s h1 q1.1 q1.2 ha] at h
      exact absurd h (by unfold rf; rw [if_pos rfl]; exact fun q => nomatch q)
    · rw [rf_s h1 q1.1 q1.2 ha, rf_s h2 q2.1 q2.2 hb] at h
      have p1 := (tok_r h1 q1.1 q1.2 ha).2
      have p2 := (tok_r h2 q2.1 q2.2 hb).2
      have h3 : dlo D + (mAd M a - 1) = dlo D + (mAd M b - 1) := Option.some.inj h
      have p1 : 0 < mAd M a := p1
      have p2 : 0 < mAd M b := p2
      exact En.2.2 a b p1 (by omega)
theorem st_acmp_eq_t {t1 t2 : Nat} {a b off : Int} (hd : decode μ.2.1 pc = .ok (.if_acmp .eq off, 3)) (h1 : 4 ≤ t1 ∧ t1 ≠ 100) (h2 : 4 ≤ t2 ∧ t2 ≠ 100) (hc : a = b) (hp : (pc : Int) + off = (pc' : Int)) : St D μ pc L ((t2, b) :: (t1, a) :: st) M pc' L (st) M := by
  exact St.of (fun hL hS _ => ok_tl (ok_tl hS)) (fun l p e R s m args below meth c H locs ls cells slots Q hL hS hW C En S hl k => by rw [cvS, List.map_cons, List.map_cons, show cv D M (t2, b) = _ from tv_r (by omega), show cv D M (t1, a) = _ from tv_r (by omega)]; exact lv_acmp_eq C.1 C.2.1 hd hp (fun _ => k) (fun q => absurd ((rf_eq En (ok_hd (ok_tl hS)) (ok_hd hS) h1 h2).mpr hc) q))
theorem st_acmp_eq_f {t1 t2 : Nat} {a b off : Int} (hd : decode μ.2.1 pc = .ok (.if_acmp .eq off, 3)) (tgt : Nat) (ht : (pc : Int) + off = (tgt : Int)) (h1 : 4 ≤ t1 ∧ t1 ≠ 100) (h2 : 4 ≤ t2 ∧ t2 ≠ 100) (hc : ¬ a = b) (hp : pc + 3 = pc') : St D μ pc L ((t2, b) :: (t1, a) :: st) M pc' L (st) M := by
  subst hp
  exact St.of (fun hL hS _ => ok_tl (ok_tl hS)) (fun l p e R s m args below meth c H locs ls cells slots Q hL hS hW C En S hl k => by rw [cvS, List.map_cons, List.map_cons, show cv D M (t2, b) = _ from tv_r (by omega), show cv D M (t1, a) = _ from tv_r (by omega)]; exact lv_acmp_eq C.1 C.2.1 hd ht (fun q => absurd ((rf_eq En (ok_hd (ok_tl hS)) (ok_hd hS) h1 h2).mp q) hc) (fun _ => k))
theorem st_acmp_ne_t {t1 t2 : Nat} {a b off : Int} (hd : decode μ.2.1 pc = .ok (.if_acmp .ne off, 3)) (h1 : 4 ≤ t1 ∧ t1 ≠ 100) (h2 : 4 ≤ t2 ∧ t2 ≠ 100) (hc : ¬ a = b) (hp : (pc : Int) + off = (pc' : Int)) : St D μ pc L ((t2, b) :: (t1, a) :: st) M pc' L (st) M := by
  exact St.of (fun hL hS _ => ok_tl (ok_tl hS)) (fun l p e R s m args below meth c H locs ls cells slots Q hL hS hW C En S hl k => by rw [cvS, List.map_cons, List.map_cons, show cv D M (t2, b) = _ from tv_r (by omega), show cv D M (t1, a) = _ from tv_r (by omega)]; exact lv_acmp_ne C.1 C.2.1 hd hp (fun _ => k) (fun q => absurd ((rf_eq En (ok_hd (ok_tl hS)) (ok_hd hS) h1 h2).mp q) hc))
theorem st_acmp_ne_f {t1 t2 : Nat} {a b off : Int} (hd : decode μ.2.1 pc = .ok (.if_acmp .ne off, 3)) (tgt : Nat) (ht : (pc : Int) + off = (tgt : Int)) (h1 : 4 ≤ t1 ∧ t1 ≠ 100) (h2 : 4 ≤ t2 ∧ t2 ≠ 100) (hc : a = b) (hp : pc + 3 = pc') : St D μ pc L ((t2, b) :: (t1, a) :: st) M pc' L (st) M := by
  subst hp
  exact St.of (fun hL hS _ => ok_tl (ok_tl hS)) (fun l p e R s m args below meth c H locs ls cells slots Q hL hS hW C En S hl k => by rw [cvS, List.map_cons, List.map_cons, show cv D M (t2, b) = _ from tv_r (by omega), show cv D M (t1, a) = _ from tv_r (by omega)]; exact lv_acmp_ne C.1 C.2.1 hd ht (fun q => absurd ((rf_eq En (ok_hd (ok_tl hS)) (ok_hd hS) h1 h2).mpr hc) q) (fun _ => k))
theorem cv1 (D : Dt) (M : Mm) {v : VV} (h : isLong v = false) : (cv D M v).category = 1 := by rw [cv_cat, h]; rfl
theorem st_dup {v : VV} (hd : decode μ.2.1 pc = .ok (.dup, 1)) (hv : isLong v = false) (hp : pc + 1 = pc') : St D μ pc L (v :: st) M pc' L (v :: v :: st) M := by
  subst hp
  exact St.of (fun hL hS _ => ok_cons (ok_hd hS) hS) (fun l p e R s m args below meth c H locs ls cells slots Q hL hS hW C En S hl k => lv_dup C.1 C.2.1 hd (cv1 D M hv) k)
theorem st_dup2 {u v : VV} (hd : decode μ.2.1 pc = .ok (.dup2, 1)) (hu : isLong u = false) (hv : isLong v = false) (hp : pc + 1 = pc') : St D μ pc L (u :: v :: st) M pc' L (u :: v :: u :: v :: st) M := by
  subst hp
  exact St.of (fun hL hS _ => ok_cons (ok_hd hS) (ok_cons (ok_hd (ok_tl hS)) hS)) (fun l p e R s m args below meth c H locs ls cells slots Q hL hS hW C En S hl k => lv_dup2_11 C.1 C.2.1 hd (cv1 D M hu) (cv1 D M hv) k)
theorem st_pop {v : VV} (hd : decode μ.2.1 pc = .ok (.pop, 1)) (hv : isLong v = false) (hp : pc + 1 = pc') : St D μ pc L (v :: st) M pc' L (st) M := by
  subst hp
  exact St.of (fun hL hS _ => ok_tl hS) (fun l p e R s m args below meth c H locs ls cells slots Q hL hS hW C En S hl k => lv_pop C.1 C.2.1 hd (cv1 D M hv) k)
theorem st_tab_out {dflt lo hi : Int} {offs : Array Int} {len : Nat} {x : Int} (hd : decode μ.2.1 pc = .ok (.tableswitch dflt lo hi offs, len)) (h : x < lo ∨ hi < x) (hp : (pc : Int) + dflt = (pc' : Int)) : St D μ pc L ((0, x) :: st) M pc' L (st) M := by
  exact St.of (fun hL hS _ => ok_tl hS) (fun l p e R s m args below meth c H locs ls cells slots Q hL hS hW C En S hl k => lv_tableOut C.1 C.2.1 hd (by rw [show (Int32.ofInt x).toInt = x from w_r (ok_i (ok_hd hS))]; exact h) hp k)
theorem st_tab_in {dflt lo hi : Int} {offs : Array Int} {len : Nat} {x off : Int} (hd : decode μ.2.1 pc = .ok (.tableswitch dflt lo hi offs, len)) (k : Int) (hx : x = k) (h1 : ¬ k < lo) (h2 : ¬ hi < k) (ho : offs[(k - lo).toNat]? = some off) (hp : (pc : Int) + off = (pc' : Int)) : St D μ pc L ((0, x) :: st) M pc' L (st) M := by
  exact St.of (fun hL hS _ => ok_tl hS) (fun l p e R s m args below meth c H locs ls cells slots Q hL hS hW C En S hl k => by subst hx; exact lv_tableIn C.1 C.2.1 hd (by rw [show (Int32.ofInt x).toInt = x from w_r (ok_i (ok_hd hS))]; exact h1) (by rw [show (Int32.ofInt x).toInt = x from w_r (ok_i (ok_hd hS))]; exact h2) (by rw [show (Int32.ofInt x).toInt = x from w_r (ok_i (ok_hd hS))]; exact ho) hp k)
end PSR
