/-! STEPS THAT LEAVE THE MEMORY AS IT IS, an instruction each -/
section PSR
variable {D : Dt} {μ : MI} {pc pc' : Nat} {L : List (Nat × VV)} {st : List VV} {M : Mm}
theorem PS.of {st' : List VV} (hok : (∀ q ∈ L, okV D M q.2) → (∀ v ∈ st, okV D M v) → WT D M → ∀ v ∈ st', okV D M v)
    (h : ∀ (l : Launch) (p : Program) (e : Env) (R : Room) (s : State) (m : MethodId) (args : Array Value) (below : List Frame) (meth : Method) (c : Code) (H : Heap) (locs : List Loc) (ls : Array Slot) (cells slots : Nat) (Q : State → Prop),
      (∀ q ∈ L, okV D M q.2) → (∀ v ∈ st, okV D M v) → WT D M → Cx D μ l p R s m args meth c → Enc D M H → va_S (fun q => dlo D ≤ q) s.heap H locs → lv_has ls μ.2.2.1 (cvL D L) → cells ≤ R.cells → slots ≤ R.slots →
      W p l e R s m args below meth c H locs cells slots Q (F0 m pc' ls (st'.map (cv D))) →
      W p l e R s m args below meth c H locs cells slots Q (F0 m pc ls (st.map (cv D)))) : PS D μ pc L st M pc' L st' :=
  ⟨fun hL hS hW => ⟨hL, hok hL hS hW⟩, fun l p e R s m args below meth c H locs ls cells slots Q hL hS hW C En S hl hc hs k => h l p e R s m args below meth c H locs ls cells slots Q hL hS hW C En S hl hc hs (k ls hl)⟩
theorem ps_iconst {n : Int} (hd : decode μ.2.1 pc = .ok (.iconst n, 1)) (hp : pc + 1 = pc') : PS D μ pc L st M pc' L (vI n :: st) := by
  subst hp
  exact PS.of (fun _ hS _ => ok_cons trivial hS) (fun l p e R s m args below meth c H locs ls cells slots Q hL hS hW C En S hl hc hs k =>  lv_iconst C.1 C.2.1 hd rfl k)
theorem ps_bipush {n : Int} (hd : decode μ.2.1 pc = .ok (.bipush n, 2)) (hp : pc + 2 = pc') (hn : (Int8.ofInt n).toInt32 = Int32.ofInt n) : PS D μ pc L st M pc' L (vI n :: st) := by
  subst hp
  exact PS.of (fun _ hS _ => ok_cons trivial hS) (fun l p e R s m args below meth c H locs ls cells slots Q hL hS hW C En S hl hc hs k =>  lv_bipush C.1 C.2.1 hd hn k)
theorem ps_sipush {n : Int} (hd : decode μ.2.1 pc = .ok (.sipush n, 3)) (hp : pc + 3 = pc') (hn : (Int16.ofInt n).toInt32 = Int32.ofInt n) : PS D μ pc L st M pc' L (vI n :: st) := by
  subst hp
  exact PS.of (fun _ hS _ => ok_cons trivial hS) (fun l p e R s m args below meth c H locs ls cells slots Q hL hS hW C En S hl hc hs k =>  lv_sipush C.1 C.2.1 hd hn k)
theorem ps_lconst {n : Fin 2} {z : Int} (hd : decode μ.2.1 pc = .ok (.lconst n, 1)) (hp : pc + 1 = pc') (hz : Int64.ofNat (n : Nat) = Int64.ofInt z) : PS D μ pc L st M pc' L (vL z :: st) := by
  subst hp
  exact PS.of (fun _ hS _ => ok_cons trivial hS) (fun l p e R s m args below meth c H locs ls cells slots Q hL hS hW C En S hl hc hs k =>  lv_lconst C.1 C.2.1 hd hz k)
theorem ps_null {kd : Nat} (hd : decode μ.2.1 pc = .ok (.aconst_null, 1)) (hp : pc + 1 = pc') (hk : (kd == 50) = false) : PS D μ pc L st M pc' L (vR kd none :: st) := by
  subst hp
  refine PS.of (fun _ hS _ => ok_cons okR_none hS) (fun l p e R s m args below meth c H locs ls cells slots Q hL hS hW C En S hl hc hs k =>  lv_null C.1 C.2.1 hd ?_)
  have e1 : cv D (vR kd none) = .null := by
    show va_rf (sh D kd none) = .null
    unfold sh
    split <;> rfl
  rw [List.map_cons, e1] at k
  exact k
theorem ps_ldc {n : Int} {index : Nat} (hd : decode μ.2.1 pc = .ok (.ldc index, 2)) (hp : pc + 2 = pc') (hw : Cond.constant μ.1.cls index (Int32.ofInt n) ∈ Big) : PS D μ pc L st M pc' L (vI n :: st) := by
  subst hp
  exact PS.of (fun _ hS _ => ok_cons trivial hS) (fun l p e R s m args below meth c H locs ls cells slots Q hL hS hW C En S hl hc hs k =>  lv_ldc C.1 C.2.1 C.2.2.2.1 (C.2.2.2.2.1 _ hw) hd k)
theorem ps_ldc2 {n : Int} {index : Nat} (hd : decode μ.2.1 pc = .ok (.ldc2_w index, 3)) (hp : pc + 3 = pc') (hw : Cond.constantLong μ.1.cls index (Int64.ofInt n) ∈ Big) : PS D μ pc L st M pc' L (vL n :: st) := by
  subst hp
  exact PS.of (fun _ hS _ => ok_cons trivial hS) (fun l p e R s m args below meth c H locs ls cells slots Q hL hS hW C En S hl hc hs k =>  lv_ldc2 C.1 C.2.1 C.2.2.2.1 (C.2.2.2.2.1 _ hw) hd k)
theorem ps_iload_n {i : Fin 4} {j : Nat} {z : Int} (hd : decode μ.2.1 pc = .ok (.iload_n i, 1)) (hp : pc + 1 = pc') (hj : (i : Nat) = j) (h : lk L j = some (vI z)) : PS D μ pc L st M pc' L (vI z :: st) := by
  subst hp
  exact PS.of (fun _ hS _ => ok_cons trivial hS) (fun l p e R s m args below meth c H locs ls cells slots Q hL hS hW C En S hl hc hs k =>  lv_iload_n C.1 C.2.1 hd hj (lk_at hl h) k)
theorem ps_iload {j : Nat} {z : Int} (hd : decode μ.2.1 pc = .ok (.iload j, 2)) (hp : pc + 2 = pc') (h : lk L j = some (vI z)) : PS D μ pc L st M pc' L (vI z :: st) := by
  subst hp
  exact PS.of (fun _ hS _ => ok_cons trivial hS) (fun l p e R s m args below meth c H locs ls cells slots Q hL hS hW C En S hl hc hs k =>  lv_iload C.1 C.2.1 hd (lk_at hl h) k)
theorem ps_lload_n {i : Fin 4} {j : Nat} {z : Int} (hd : decode μ.2.1 pc = .ok (.lload_n i, 1)) (hp : pc + 1 = pc') (hj : (i : Nat) = j) (h : lk L j = some (vL z)) : PS D μ pc L st M pc' L (vL z :: st) := by
  subst hp
  exact PS.of (fun _ hS _ => ok_cons trivial hS) (fun l p e R s m args below meth c H locs ls cells slots Q hL hS hW C En S hl hc hs k =>  lv_lload_n C.1 C.2.1 hd hj (lk_at hl h) k)
theorem ps_lload {j : Nat} {z : Int} (hd : decode μ.2.1 pc = .ok (.lload j, 2)) (hp : pc + 2 = pc') (h : lk L j = some (vL z)) : PS D μ pc L st M pc' L (vL z :: st) := by
  subst hp
  exact PS.of (fun _ hS _ => ok_cons trivial hS) (fun l p e R s m args below meth c H locs ls cells slots Q hL hS hW C En S hl hc hs k =>  lv_lload C.1 C.2.1 hd (lk_at hl h) k)
theorem lv_aloadq_n {p : Program} {l : Launch} {e : Env} {R : Room} {s : State} {m : MethodId} {args : Array Value} {below : List Frame} {meth : Method} {c : Code} {H : Heap} {locs : List Loc} {cells slots : Nat} {Q : State → Prop} {cc : ByteArray} {ls : Array Slot} {rest : List Value} (hexec : p.tables.exec = Jvm.exec) (hb : c.code = cc) {k4 : Fin 4} {i : Nat} {x : Option Nat} (hdg : decode cc pc = .ok (.aload_n k4, 1)) (hi : (k4 : Nat) = i) (hl : ls[i]? = some (.val (va_rf x)))
    (k : W p l e R s m args below meth c H locs cells slots Q (F0 m (pc + 1) ls (va_rf x :: rest))) : W p l e R s m args below meth c H locs cells slots Q (F0 m pc ls (rest)) := by
  subst hi
  cases x with
  | some x => exact lv_aload_n hexec hb hdg rfl hl k
  | none =>
    have hl : ls[(k4 : Nat)]? = some (Slot.val Value.null) := hl
    have k : W p l e R s m args below meth c H locs cells slots Q (F0 m (pc + 1) ls (.null :: rest)) := k
    intro T hT X
    obtain ⟨t, a, b⟩ := k T hT X
    refine ⟨t, ?_, b⟩
    jvm_step X.here [X.here.top, hexec, hb, hdg, hl, Value.isRef]
    exact a
theorem lv_aloadq {p : Program} {l : Launch} {e : Env} {R : Room} {s : State} {m : MethodId} {args : Array Value} {below : List Frame} {meth : Method} {c : Code} {H : Heap} {locs : List Loc} {cells slots : Nat} {Q : State → Prop} {cc : ByteArray} {ls : Array Slot} {rest : List Value} (hexec : p.tables.exec = Jvm.exec) (hb : c.code = cc) {i : Nat} {x : Option Nat} (hdg : decode cc pc = .ok (.aload i, 2)) (hl : ls[i]? = some (.val (va_rf x)))
    (k : W p l e R s m args below meth c H locs cells slots Q (F0 m (pc + 2) ls (va_rf x :: rest))) : W p l e R s m args below meth c H locs cells slots Q (F0 m pc ls (rest)) := by
  cases x with
  | some x => exact lv_aload hexec hb hdg hl k
  | none =>
    have hl : ls[i]? = some (Slot.val Value.null) := hl
    have k : W p l e R s m args below meth c H locs cells slots Q (F0 m (pc + 2) ls (.null :: rest)) := k
    intro T hT X
    obtain ⟨t, a, b⟩ := k T hT X
    refine ⟨t, ?_, b⟩
    jvm_step X.here [X.here.top, hexec, hb, hdg, hl, Value.isRef]
    exact a
theorem ps_aload_n {i : Fin 4} {j kd : Nat} {o : Option Nat} (hd : decode μ.2.1 pc = .ok (.aload_n i, 1)) (hp : pc + 1 = pc') (hj : (i : Nat) = j) (h : lk L j = some (vR kd o)) : PS D μ pc L st M pc' L (vR kd o :: st) := by
  subst hp
  exact PS.of (fun hL hS _ => ok_cons (hL _ (lk_mem h)) hS) (fun l p e R s m args below meth c H locs ls cells slots Q hL hS hW C En S hl hc hs k =>  lv_aloadq_n C.1 C.2.1 hd hj (lk_at hl h) k)
theorem ps_aload {j kd : Nat} {o : Option Nat} (hd : decode μ.2.1 pc = .ok (.aload j, 2)) (hp : pc + 2 = pc') (h : lk L j = some (vR kd o)) : PS D μ pc L st M pc' L (vR kd o :: st) := by
  subst hp
  exact PS.of (fun hL hS _ => ok_cons (hL _ (lk_mem h)) hS) (fun l p e R s m args below meth c H locs ls cells slots Q hL hS hW C En S hl hc hs k =>  lv_aloadq C.1 C.2.1 hd (lk_at hl h) k)
theorem ps_istore_n {i : Fin 4} {j : Nat} {z : Int} (hd : decode μ.2.1 pc = .ok (.istore_n i, 1)) (hp : pc + 1 = pc') (hj : (i : Nat) = j) (hn : j < μ.2.2.1) (ho : lokst L j = true) : PS D μ pc L (vI z :: st) M pc' (lst L j (vI z)) st := by
  subst hp
  exact ⟨fun hL hS _ => ⟨lst_ok hL trivial, ok_tl hS⟩, fun l p e R s m args below meth c H locs ls cells slots Q hL hS hW C En S hl hc hs k =>  lv_istore_n C.1 C.2.1 hd hj hl hn rfl fun ls' h' => k ls' (lst_sub ho h')⟩
theorem ps_istore {j : Nat} {z : Int} (hd : decode μ.2.1 pc = .ok (.istore j, 2)) (hp : pc + 2 = pc') (hn : j < μ.2.2.1) (ho : lokst L j = true) : PS D μ pc L (vI z :: st) M pc' (lst L j (vI z)) st := by
  subst hp
  exact ⟨fun hL hS _ => ⟨lst_ok hL trivial, ok_tl hS⟩, fun l p e R s m args below meth c H locs ls cells slots Q hL hS hW C En S hl hc hs k =>  lv_istore C.1 C.2.1 hd hl hn rfl fun ls' h' => k ls' (lst_sub ho h')⟩
theorem lv_astoreq_n {p : Program} {l : Launch} {e : Env} {R : Room} {s : State} {m : MethodId} {args : Array Value} {below : List Frame} {meth : Method} {c : Code} {H : Heap} {locs : List Loc} {cells slots : Nat} {Q : State → Prop} {cc : ByteArray} {ls : Array Slot} {rest : List Value} (hexec : p.tables.exec = Jvm.exec) (hb : c.code = cc) {k : Fin 4} {i nL : Nat} {x : Option Nat} {lv : List (Nat × Value)} (hdg : decode cc pc = .ok (.astore_n k, 1)) (hi : (k : Nat) = i) (h : lv_has ls nL lv) (hn : i < nL)
    (kk : ∀ ls' : Array Slot, lv_has ls' nL ((i, va_rf x) :: lv.filter (fun q => !(q.1 == i) && !(q.1 + 1 == i && q.2.category == 2))) → W p l e R s m args below meth c H locs cells slots Q (F0 m (pc + 1) ls' rest)) : W p l e R s m args below meth c H locs cells slots Q (F0 m pc ls (va_rf x :: rest)) := by
  cases x with
  | some x => exact lv_astore_n hexec hb hdg hi h hn rfl kk
  | none =>
    subst hi
    obtain ⟨ls', e', h'⟩ := lv_store1 (v := .null) h hn rfl
    intro T hT X
    obtain ⟨t, a, b⟩ := kk ls' h' T hT X
    refine ⟨t, ?_, b⟩
    show Steps p.tables e below (T.setTop (F0 m pc ls (.null :: rest))) t
    jvm_step X.here [X.here.top, ↓top_set X.here.top, hexec, hb, hdg, e']
    exact ⟨rfl, a⟩
theorem lv_astoreq {p : Program} {l : Launch} {e : Env} {R : Room} {s : State} {m : MethodId} {args : Array Value} {below : List Frame} {meth : Method} {c : Code} {H : Heap} {locs : List Loc} {cells slots : Nat} {Q : State → Prop} {cc : ByteArray} {ls : Array Slot} {rest : List Value} (hexec : p.tables.exec = Jvm.exec) (hb : c.code = cc) {i nL : Nat} {x : Option Nat} {lv : List (Nat × Value)} (hdg : decode cc pc = .ok (.astore i, 2)) (h : lv_has ls nL lv) (hn : i < nL)
    (kk : ∀ ls' : Array Slot, lv_has ls' nL ((i, va_rf x) :: lv.filter (fun q => !(q.1 == i) && !(q.1 + 1 == i && q.2.category == 2))) → W p l e R s m args below meth c H locs cells slots Q (F0 m (pc + 2) ls' rest)) : W p l e R s m args below meth c H locs cells slots Q (F0 m pc ls (va_rf x :: rest)) := by
  cases x with
  | some x => exact lv_astore hexec hb hdg h hn rfl kk
  | none =>
    obtain ⟨ls', e', h'⟩ := lv_store1 (v := .null) h hn rfl
    intro T hT X
    obtain ⟨t, a, b⟩ := kk ls' h' T hT X
    refine ⟨t, ?_, b⟩
    show Steps p.tables e below (T.setTop (F0 m pc ls (.null :: rest))) t
    jvm_step X.here [X.here.top, ↓top_set X.here.top, hexec, hb, hdg, e']
    exact ⟨rfl, a⟩
theorem ps_astore_n {i : Fin 4} {j kd : Nat} {o : Option Nat} (hd : decode μ.2.1 pc = .ok (.astore_n i, 1)) (hp : pc + 1 = pc') (hj : (i : Nat) = j) (hn : j < μ.2.2.1) (ho : lokst L j = true) : PS D μ pc L (vR kd o :: st) M pc' (lst L j (vR kd o)) st := by
  subst hp
  exact ⟨fun hL hS _ => ⟨lst_ok hL (ok_hd hS), ok_tl hS⟩, fun l p e R s m args below meth c H locs ls cells slots Q hL hS hW C En S hl hc hs k =>  lv_astoreq_n C.1 C.2.1 hd hj hl hn fun ls' h' => k ls' (lst_sub ho h')⟩
theorem ps_astore {j kd : Nat} {o : Option Nat} (hd : decode μ.2.1 pc = .ok (.astore j, 2)) (hp : pc + 2 = pc') (hn : j < μ.2.2.1) (ho : lokst L j = true) : PS D μ pc L (vR kd o :: st) M pc' (lst L j (vR kd o)) st := by
  subst hp
  exact ⟨fun hL hS _ => ⟨lst_ok hL (ok_hd hS), ok_tl hS⟩, fun l p e R s m args below meth c H locs ls cells slots Q hL hS hW C En S hl hc hs k =>  lv_astoreq C.1 C.2.1 hd hl hn fun ls' h' => k ls' (lst_sub ho h')⟩
theorem lv_iincQ {p : Program} {l : Launch} {e : Env} {R : Room} {s : State} {m : MethodId} {args : Array Value} {below : List Frame} {meth : Method} {c : Code} {H : Heap} {locs : List Loc} {cells slots : Nat} {Q : State → Prop} {cc : ByteArray} {pc : Nat} {ls : Array Slot} {rest : List Value} (hexec : p.tables.exec = Jvm.exec) (hb : c.code = cc) {i nL : Nat} {n z : Int} {lv : List (Nat × Value)} (hdg : decode cc pc = .ok (.iinc i n, 3)) (h : lv_has ls nL lv) (hx : ls[i]? = some (.val (.int (Int32.ofInt z)))) (hn : i < nL)
    (kk : ∀ ls' : Array Slot, lv_has ls' nL ((i, Value.int (Int32.ofInt (z + n))) :: lv.filter (fun q => !(q.1 == i) && !(q.1 + 1 == i && q.2.category == 2))) → W p l e R s m args below meth c H locs cells slots Q (F0 m (pc + 3) ls' rest)) : W p l e R s m args below meth c H locs cells slots Q (F0 m pc ls rest) := by
  have h2 : lv_has ls nL ((i, .int (Int32.ofInt z)) :: lv) := ⟨h.1, h.2.1, fun q hq => by
    rcases List.mem_cons.mp hq with rfl | hq
    · exact hx
    · exact h.2.2 q hq⟩
  refine lv_iinc hexec hb hdg h2 (k := 0) rfl (w_add z n).symm hn rfl fun ls' h' => kk ls' ?_
  simpa using h'
theorem ps_iinc {j : Nat} {n z : Int} (hd : decode μ.2.1 pc = .ok (.iinc j n, 3)) (hp : pc + 3 = pc') (h : lk L j = some (vI z)) (hn : j < μ.2.2.1) (ho : lokst L j = true) : PS D μ pc L st M pc' (lst L j (vI (z + n))) st := by
  subst hp
  exact ⟨fun hL hS _ => ⟨lst_ok hL trivial, hS⟩, fun l p e R s m args below meth c H locs ls cells slots Q hL hS hW C En S hl hc hs k =>  lv_iincQ C.1 C.2.1 hd hl (lk_at hl h) hn fun ls' h' => k ls' (lst_sub ho h')⟩
theorem ps_iadd {x y : Int} (hd : decode μ.2.1 pc = .ok (.iadd, 1)) (hp : pc + 1 = pc') : PS D μ pc L (vI y :: vI x :: st) M pc' L (vI (x + y) :: st) := by
  subst hp
  refine PS.of (fun _ hS _ => ok_cons trivial (ok_tl (ok_tl hS))) (fun l p e R s m args below meth c H locs ls cells slots Q hL hS hW C En S hl hc hs k =>  lv_iadd C.1 C.2.1 hd ?_)
  rw [List.map_cons, show cv D (vI (x + y)) = .int _ from congrArg Value.int (w_add x y)] at k
  exact k
theorem ps_isub {x y : Int} (hd : decode μ.2.1 pc = .ok (.isub, 1)) (hp : pc + 1 = pc') : PS D μ pc L (vI y :: vI x :: st) M pc' L (vI (x - y) :: st) := by
  subst hp
  refine PS.of (fun _ hS _ => ok_cons trivial (ok_tl (ok_tl hS))) (fun l p e R s m args below meth c H locs ls cells slots Q hL hS hW C En S hl hc hs k =>  lv_isub C.1 C.2.1 hd ?_)
  rw [List.map_cons, show cv D (vI (x - y)) = .int _ from congrArg Value.int (w_sub x y)] at k
  exact k
theorem ps_imul {x y : Int} (hd : decode μ.2.1 pc = .ok (.imul, 1)) (hp : pc + 1 = pc') : PS D μ pc L (vI y :: vI x :: st) M pc' L (vI (x * y) :: st) := by
  subst hp
  refine PS.of (fun _ hS _ => ok_cons trivial (ok_tl (ok_tl hS))) (fun l p e R s m args below meth c H locs ls cells slots Q hL hS hW C En S hl hc hs k =>  lv_imul C.1 C.2.1 hd ?_)
  rw [List.map_cons, show cv D (vI (x * y)) = .int _ from congrArg Value.int (w_mul x y)] at k
  exact k
theorem cv_b (D : Dt) (x : Int32) : cv D (vI x.toInt) = .int x := congrArg Value.int (Int32.ofInt_toInt x)
def bAnd (x y : Int) : Int := (Int32.ofInt x &&& Int32.ofInt y).toInt
theorem ps_iand {x y : Int} (hd : decode μ.2.1 pc = .ok (.iand, 1)) (hp : pc + 1 = pc') : PS D μ pc L (vI y :: vI x :: st) M pc' L (vI (bAnd x y) :: st) := by
  subst hp
  refine PS.of (fun _ hS _ => ok_cons trivial (ok_tl (ok_tl hS))) (fun l p e R s m args below meth c H locs ls cells slots Q hL hS hW C En S hl hc hs k =>  lv_iand C.1 C.2.1 hd ?_)
  rw [List.map_cons, show cv D (vI (bAnd x y)) = .int _ from cv_b D _] at k
  exact k
def bOr (x y : Int) : Int := (Int32.ofInt x ||| Int32.ofInt y).toInt
theorem ps_ior {x y : Int} (hd : decode μ.2.1 pc = .ok (.ior, 1)) (hp : pc + 1 = pc') : PS D μ pc L (vI y :: vI x :: st) M pc' L (vI (bOr x y) :: st) := by
  subst hp
  refine PS.of (fun _ hS _ => ok_cons trivial (ok_tl (ok_tl hS))) (fun l p e R s m args below meth c H locs ls cells slots Q hL hS hW C En S hl hc hs k =>  lv_ior C.1 C.2.1 hd ?_)
  rw [List.map_cons, show cv D (vI (bOr x y)) = .int _ from cv_b D _] at k
  exact k
def bXor (x y : Int) : Int := (Int32.ofInt x ^^^ Int32.ofInt y).toInt
theorem ps_ixor {x y : Int} (hd : decode μ.2.1 pc = .ok (.ixor, 1)) (hp : pc + 1 = pc') : PS D μ pc L (vI y :: vI x :: st) M pc' L (vI (bXor x y) :: st) := by
  subst hp
  refine PS.of (fun _ hS _ => ok_cons trivial (ok_tl (ok_tl hS))) (fun l p e R s m args below meth c H locs ls cells slots Q hL hS hW C En S hl hc hs k =>  lv_ixor C.1 C.2.1 hd ?_)
  rw [List.map_cons, show cv D (vI (bXor x y)) = .int _ from cv_b D _] at k
  exact k
def bShl (x y : Int) : Int := (Int32.ofInt x <<< (Int32.ofInt y &&& 31)).toInt
def bShr (x y : Int) : Int := (Int32.ofInt x >>> (Int32.ofInt y &&& 31)).toInt
def bUsr (x y : Int) : Int := ((Int32.ofInt x).toUInt32 >>> ((Int32.ofInt y).toUInt32 &&& Int32.toUInt32 31)).toInt32.toInt
def jDiv (x y : Int) : Int := (Int32.ofInt x / Int32.ofInt y).toInt
def jRem (x y : Int) : Int := (Int32.ofInt x - Int32.ofInt x / Int32.ofInt y * Int32.ofInt y).toInt
def jCmp (x y : Int) : Int := if wl y < wl x then 1 else if wl x = wl y then 0 else -1
theorem ps_ishl {x y : Int} (hd : decode μ.2.1 pc = .ok (.ishl, 1)) (hp : pc + 1 = pc') : PS D μ pc L (vI y :: vI x :: st) M pc' L (vI (bShl x y) :: st) := by
  subst hp
  refine PS.of (fun _ hS _ => ok_cons trivial (ok_tl (ok_tl hS))) (fun l p e R s m args below meth c H locs ls cells slots Q hL hS hW C En S hl hc hs k =>  lv_ishl C.1 C.2.1 hd ?_)
  rw [List.map_cons, show cv D (vI (bShl x y)) = .int _ from cv_b D _] at k
  exact k
theorem ps_ishr {x y : Int} (hd : decode μ.2.1 pc = .ok (.ishr, 1)) (hp : pc + 1 = pc') : PS D μ pc L (vI y :: vI x :: st) M pc' L (vI (bShr x y) :: st) := by
  subst hp
  refine PS.of (fun _ hS _ => ok_cons trivial (ok_tl (ok_tl hS))) (fun l p e R s m args below meth c H locs ls cells slots Q hL hS hW C En S hl hc hs k =>  lv_ishr C.1 C.2.1 hd ?_)
  rw [List.map_cons, show cv D (vI (bShr x y)) = .int _ from cv_b D _] at k
  exact k
theorem ps_iushr {x y : Int} (hd : decode μ.2.1 pc = .ok (.iushr, 1)) (hp : pc + 1 = pc') : PS D μ pc L (vI y :: vI x :: st) M pc' L (vI (bUsr x y) :: st) := by
  subst hp
  refine PS.of (fun _ hS _ => ok_cons trivial (ok_tl (ok_tl hS))) (fun l p e R s m args below meth c H locs ls cells slots Q hL hS hW C En S hl hc hs k =>  lv_iushr C.1 C.2.1 hd rfl ?_)
  rw [List.map_cons, show cv D (vI (bUsr x y)) = .int _ from cv_b D _] at k
  exact k
theorem w_z {y : Int} (h : ¬ w y = 0) : ¬ Int32.ofInt y = 0 := fun q => h ((w_ee y 0).mp q)
theorem ps_idiv {x y : Int} (hd : decode μ.2.1 pc = .ok (.idiv, 1)) (hp : pc + 1 = pc') (hy : ¬ w y = 0) : PS D μ pc L (vI y :: vI x :: st) M pc' L (vI (jDiv x y) :: st) := by
  subst hp
  refine PS.of (fun _ hS _ => ok_cons trivial (ok_tl (ok_tl hS))) (fun l p e R s m args below meth c H locs ls cells slots Q hL hS hW C En S hl hc hs k =>  lv_idiv C.1 C.2.1 hd (w_z hy) ?_)
  rw [List.map_cons, show cv D (vI (jDiv x y)) = .int _ from cv_b D _] at k
  exact k
theorem ps_irem {x y : Int} (hd : decode μ.2.1 pc = .ok (.irem, 1)) (hp : pc + 1 = pc') (hy : ¬ w y = 0) : PS D μ pc L (vI y :: vI x :: st) M pc' L (vI (jRem x y) :: st) := by
  subst hp
  refine PS.of (fun _ hS _ => ok_cons trivial (ok_tl (ok_tl hS))) (fun l p e R s m args below meth c H locs ls cells slots Q hL hS hW C En S hl hc hs k =>  lv_irem C.1 C.2.1 hd (w_z hy) ?_)
  rw [List.map_cons, show cv D (vI (jRem x y)) = .int _ from cv_b D _] at k
  exact k
theorem w_l (x : Int) : (Int32.ofInt x).toInt64 = Int64.ofInt (w x) := by
  have h : (Int32.ofInt x).toInt64.toInt = w x := by first | exact Int32.toInt_toInt64 _ | simp [w]
  rw [← h, Int64.ofInt_toInt]
theorem ps_i2l {x : Int} (hd : decode μ.2.1 pc = .ok (.i2l, 1)) (hp : pc + 1 = pc') : PS D μ pc L (vI x :: st) M pc' L (vL (w x) :: st) := by
  subst hp
  exact PS.of (fun _ hS _ => ok_cons trivial (ok_tl hS)) (fun l p e R s m args below meth c H locs ls cells slots Q hL hS hW C En S hl hc hs k =>  lv_i2l C.1 C.2.1 hd (w_l x) k)
theorem jCmp_eq (x y : Int) : lg_cmp (Int64.ofInt x) (Int64.ofInt y) = Int32.ofInt (jCmp x y) := by
  have h1 : Int64.ofInt y < Int64.ofInt x ↔ wl y < wl x := Int64.lt_iff_toInt_lt
  have h2 : Int64.ofInt x = Int64.ofInt y ↔ wl x = wl y := Int64.toInt_inj.symm
  unfold jCmp lg_cmp
  by_cases a : wl y < wl x
  · rw [if_pos (h1.mpr a), if_pos a]; rfl
  · rw [if_neg (fun q => a (h1.mp q)), if_neg a]
    by_cases b : wl x = wl y
    · rw [if_pos (h2.mpr b), if_pos b]; rfl
    · rw [if_neg (fun q => b (h2.mp q)), if_neg b]; rfl
theorem ps_lcmp {x y : Int} (hd : decode μ.2.1 pc = .ok (.lcmp, 1)) (hp : pc + 1 = pc') : PS D μ pc L (vL y :: vL x :: st) M pc' L (vI (jCmp x y) :: st) := by
  subst hp
  refine PS.of (fun _ hS _ => ok_cons trivial (ok_tl (ok_tl hS))) (fun l p e R s m args below meth c H locs ls cells slots Q hL hS hW C En S hl hc hs k =>  W.lcmp C.1 C.2.1 hd ?_)
  rw [jCmp_eq]
  exact k
theorem ps_if_eq_t {x off : Int} (hd : decode μ.2.1 pc = .ok (.ifCond .eq off, 3)) (hp : (pc : Int) + off = (pc' : Int)) (hc : w x = 0) : PS D μ pc L (vI x :: st) M pc' L st :=
  PS.of (fun _ hS _ => ok_tl hS) (fun l p e R s m args below meth c H locs ls cells slots Q hL hS hW C En S hl _ _ k => lv_if_eq C.1 C.2.1 hd hp (fun _ => k) (fun q => absurd ((w_ee x 0).mpr hc) (by first | exact q | exact fun z => z q)))
theorem ps_if_eq_f {x off : Int} (hd : decode μ.2.1 pc = .ok (.ifCond .eq off, 3)) (tgt : Nat) (ht : (pc : Int) + off = (tgt : Int)) (hp : pc + 3 = pc') (hc : ¬ (w x = 0)) : PS D μ pc L (vI x :: st) M pc' L st := by
  subst hp
  exact PS.of (fun _ hS _ => ok_tl hS) (fun l p e R s m args below meth c H locs ls cells slots Q hL hS hW C En S hl _ _ k => lv_if_eq C.1 C.2.1 hd ht (fun q => absurd ((w_ee x 0).mp q) hc) (fun _ => k))
theorem ps_icmp_eq_t {x y off : Int} (hd : decode μ.2.1 pc = .ok (.if_icmp .eq off, 3)) (hp : (pc : Int) + off = (pc' : Int)) (hc : w x = w y) : PS D μ pc L (vI y :: vI x :: st) M pc' L st :=
  PS.of (fun _ hS _ => ok_tl (ok_tl hS)) (fun l p e R s m args below meth c H locs ls cells slots Q hL hS hW C En S hl _ _ k => lv_icmp_eq C.1 C.2.1 hd hp (fun _ => k) (fun q => absurd ((w_ee x y).mpr hc) (by first | exact q | exact fun z => z q)))
theorem ps_icmp_eq_f {x y off : Int} (hd : decode μ.2.1 pc = .ok (.if_icmp .eq off, 3)) (tgt : Nat) (ht : (pc : Int) + off = (tgt : Int)) (hp : pc + 3 = pc') (hc : ¬ (w x = w y)) : PS D μ pc L (vI y :: vI x :: st) M pc' L st := by
  subst hp
  exact PS.of (fun _ hS _ => ok_tl (ok_tl hS)) (fun l p e R s m args below meth c H locs ls cells slots Q hL hS hW C En S hl _ _ k => lv_icmp_eq C.1 C.2.1 hd ht (fun q => absurd ((w_ee x y).mp q) hc) (fun _ => k))
theorem ps_if_ne_t {x off : Int} (hd : decode μ.2.1 pc = .ok (.ifCond .ne off, 3)) (hp : (pc : Int) + off = (pc' : Int)) (hc : ¬ w x = 0) : PS D μ pc L (vI x :: st) M pc' L st :=
  PS.of (fun _ hS _ => ok_tl hS) (fun l p e R s m args below meth c H locs ls cells slots Q hL hS hW C En S hl _ _ k => lv_if_ne C.1 C.2.1 hd hp (fun _ => k) (fun q => absurd ((not_congr (w_ee x 0)).mpr hc) (by first | exact q | exact fun z => z q)))
theorem ps_if_ne_f {x off : Int} (hd : decode μ.2.1 pc = .ok (.ifCond .ne off, 3)) (tgt : Nat) (ht : (pc : Int) + off = (tgt : Int)) (hp : pc + 3 = pc') (hc : ¬ (¬ w x = 0)) : PS D μ pc L (vI x :: st) M pc' L st := by
  subst hp
  exact PS.of (fun _ hS _ => ok_tl hS) (fun l p e R s m args below meth c H locs ls cells slots Q hL hS hW C En S hl _ _ k => lv_if_ne C.1 C.2.1 hd ht (fun q => absurd ((not_congr (w_ee x 0)).mp q) hc) (fun _ => k))
theorem ps_icmp_ne_t {x y off : Int} (hd : decode μ.2.1 pc = .ok (.if_icmp .ne off, 3)) (hp : (pc : Int) + off = (pc' : Int)) (hc : ¬ w x = w y) : PS D μ pc L (vI y :: vI x :: st) M pc' L st :=
  PS.of (fun _ hS _ => ok_tl (ok_tl hS)) (fun l p e R s m args below meth c H locs ls cells slots Q hL hS hW C En S hl _ _ k => lv_icmp_ne C.1 C.2.1 hd hp (fun _ => k) (fun q => absurd ((not_congr (w_ee x y)).mpr hc) (by first | exact q | exact fun z => z q)))
theorem ps_icmp_ne_f {x y off : Int} (hd : decode μ.2.1 pc = .ok (.if_icmp .ne off, 3)) (tgt : Nat) (ht : (pc : Int) + off = (tgt : Int)) (hp : pc + 3 = pc') (hc : ¬ (¬ w x = w y)) : PS D μ pc L (vI y :: vI x :: st) M pc' L st := by
  subst hp
  exact PS.of (fun _ hS _ => ok_tl (ok_tl hS)) (fun l p e R s m args below meth c H locs ls cells slots Q hL hS hW C En S hl _ _ k => lv_icmp_ne C.1 C.2.1 hd ht (fun q => absurd ((not_congr (w_ee x y)).mp q) hc) (fun _ => k))
theorem ps_if_lt_t {x off : Int} (hd : decode μ.2.1 pc = .ok (.ifCond .lt off, 3)) (hp : (pc : Int) + off = (pc' : Int)) (hc : w x < 0) : PS D μ pc L (vI x :: st) M pc' L st :=
  PS.of (fun _ hS _ => ok_tl hS) (fun l p e R s m args below meth c H locs ls cells slots Q hL hS hW C En S hl _ _ k => lv_if_lt C.1 C.2.1 hd hp (fun _ => k) (fun q => absurd ((w_lt x 0).mpr hc) (by first | exact q | exact fun z => z q)))
theorem ps_if_lt_f {x off : Int} (hd : decode μ.2.1 pc = .ok (.ifCond .lt off, 3)) (tgt : Nat) (ht : (pc : Int) + off = (tgt : Int)) (hp : pc + 3 = pc') (hc : ¬ (w x < 0)) : PS D μ pc L (vI x :: st) M pc' L st := by
  subst hp
  exact PS.of (fun _ hS _ => ok_tl hS) (fun l p e R s m args below meth c H locs ls cells slots Q hL hS hW C En S hl _ _ k => lv_if_lt C.1 C.2.1 hd ht (fun q => absurd ((w_lt x 0).mp q) hc) (fun _ => k))
theorem ps_icmp_lt_t {x y off : Int} (hd : decode μ.2.1 pc = .ok (.if_icmp .lt off, 3)) (hp : (pc : Int) + off = (pc' : Int)) (hc : w x < w y) : PS D μ pc L (vI y :: vI x :: st) M pc' L st :=
  PS.of (fun _ hS _ => ok_tl (ok_tl hS)) (fun l p e R s m args below meth c H locs ls cells slots Q hL hS hW C En S hl _ _ k => lv_icmp_lt C.1 C.2.1 hd hp (fun _ => k) (fun q => absurd ((w_lt x y).mpr hc) (by first | exact q | exact fun z => z q)))
theorem ps_icmp_lt_f {x y off : Int} (hd : decode μ.2.1 pc = .ok (.if_icmp .lt off, 3)) (tgt : Nat) (ht : (pc : Int) + off = (tgt : Int)) (hp : pc + 3 = pc') (hc : ¬ (w x < w y)) : PS D μ pc L (vI y :: vI x :: st) M pc' L st := by
  subst hp
  exact PS.of (fun _ hS _ => ok_tl (ok_tl hS)) (fun l p e R s m args below meth c H locs ls cells slots Q hL hS hW C En S hl _ _ k => lv_icmp_lt C.1 C.2.1 hd ht (fun q => absurd ((w_lt x y).mp q) hc) (fun _ => k))
theorem ps_if_ge_t {x off : Int} (hd : decode μ.2.1 pc = .ok (.ifCond .ge off, 3)) (hp : (pc : Int) + off = (pc' : Int)) (hc : 0 ≤ w x) : PS D μ pc L (vI x :: st) M pc' L st :=
  PS.of (fun _ hS _ => ok_tl hS) (fun l p e R s m args below meth c H locs ls cells slots Q hL hS hW C En S hl _ _ k => lv_if_ge C.1 C.2.1 hd hp (fun _ => k) (fun q => absurd ((w_le 0 x).mpr hc) (by first | exact q | exact fun z => z q)))
theorem ps_if_ge_f {x off : Int} (hd : decode μ.2.1 pc = .ok (.ifCond .ge off, 3)) (tgt : Nat) (ht : (pc : Int) + off = (tgt : Int)) (hp : pc + 3 = pc') (hc : ¬ (0 ≤ w x)) : PS D μ pc L (vI x :: st) M pc' L st := by
  subst hp
  exact PS.of (fun _ hS _ => ok_tl hS) (fun l p e R s m args below meth c H locs ls cells slots Q hL hS hW C En S hl _ _ k => lv_if_ge C.1 C.2.1 hd ht (fun q => absurd ((w_le 0 x).mp q) hc) (fun _ => k))
theorem ps_icmp_ge_t {x y off : Int} (hd : decode μ.2.1 pc = .ok (.if_icmp .ge off, 3)) (hp : (pc : Int) + off = (pc' : Int)) (hc : w y ≤ w x) : PS D μ pc L (vI y :: vI x :: st) M pc' L st :=
  PS.of (fun _ hS _ => ok_tl (ok_tl hS)) (fun l p e R s m args below meth c H locs ls cells slots Q hL hS hW C En S hl _ _ k => lv_icmp_ge C.1 C.2.1 hd hp (fun _ => k) (fun q => absurd ((w_le y x).mpr hc) (by first | exact q | exact fun z => z q)))
theorem ps_icmp_ge_f {x y off : Int} (hd : decode μ.2.1 pc = .ok (.if_icmp .ge off, 3)) (tgt : Nat) (ht : (pc : Int) + off = (tgt : Int)) (hp : pc + 3 = pc') (hc : ¬ (w y ≤ w x)) : PS D μ pc L (vI y :: vI x :: st) M pc' L st := by
  subst hp
  exact PS.of (fun _ hS _ => ok_tl (ok_tl hS)) (fun l p e R s m args below meth c H locs ls cells slots Q hL hS hW C En S hl _ _ k => lv_icmp_ge C.1 C.2.1 hd ht (fun q => absurd ((w_le y x).mp q) hc) (fun _ => k))
theorem ps_if_gt_t {x off : Int} (hd : decode μ.2.1 pc = .ok (.ifCond .gt off, 3)) (hp : (pc : Int) + off = (pc' : Int)) (hc : 0 < w x) : PS D μ pc L (vI x :: st) M pc' L st :=
  PS.of (fun _ hS _ => ok_tl hS) (fun l p e R s m args below meth c H locs ls cells slots Q hL hS hW C En S hl _ _ k => lv_if_gt C.1 C.2.1 hd hp (fun _ => k) (fun q => absurd ((w_lt 0 x).mpr hc) (by first | exact q | exact fun z => z q)))
theorem ps_if_gt_f {x off : Int} (hd : decode μ.2.1 pc = .ok (.ifCond .gt off, 3)) (tgt : Nat) (ht : (pc : Int) + off = (tgt : Int)) (hp : pc + 3 = pc') (hc : ¬ (0 < w x)) : PS D μ pc L (vI x :: st) M pc' L st := by
  subst hp
  exact PS.of (fun _ hS _ => ok_tl hS) (fun l p e R s m args below meth c H locs ls cells slots Q hL hS hW C En S hl _ _ k => lv_if_gt C.1 C.2.1 hd ht (fun q => absurd ((w_lt 0 x).mp q) hc) (fun _ => k))
theorem ps_icmp_gt_t {x y off : Int} (hd : decode μ.2.1 pc = .ok (.if_icmp .gt off, 3)) (hp : (pc : Int) + off = (pc' : Int)) (hc : w y < w x) : PS D μ pc L (vI y :: vI x :: st) M pc' L st :=
  PS.of (fun _ hS _ => ok_tl (ok_tl hS)) (fun l p e R s m args below meth c H locs ls cells slots Q hL hS hW C En S hl _ _ k => lv_icmp_gt C.1 C.2.1 hd hp (fun _ => k) (fun q => absurd ((w_lt y x).mpr hc) (by first | exact q | exact fun z => z q)))
theorem ps_icmp_gt_f {x y off : Int} (hd : decode μ.2.1 pc = .ok (.if_icmp .gt off, 3)) (tgt : Nat) (ht : (pc : Int) + off = (tgt : Int)) (hp : pc + 3 = pc') (hc : ¬ (w y < w x)) : PS D μ pc L (vI y :: vI x :: st) M pc' L st := by
  subst hp
  exact PS.of (fun _ hS _ => ok_tl (ok_tl hS)) (fun l p e R s m args below meth c H locs ls cells slots Q hL hS hW C En S hl _ _ k => lv_icmp_gt C.1 C.2.1 hd ht (fun q => absurd ((w_lt y x).mp q) hc) (fun _ => k))
theorem ps_if_le_t {x off : Int} (hd : decode μ.2.1 pc = .ok (.ifCond .le off, 3)) (hp : (pc : Int) + off = (pc' : Int)) (hc : w x ≤ 0) : PS D μ pc L (vI x :: st) M pc' L st :=
  PS.of (fun _ hS _ => ok_tl hS) (fun l p e R s m args below meth c H locs ls cells slots Q hL hS hW C En S hl _ _ k => lv_if_le C.1 C.2.1 hd hp (fun _ => k) (fun q => absurd ((w_le x 0).mpr hc) (by first | exact q | exact fun z => z q)))
theorem ps_if_le_f {x off : Int} (hd : decode μ.2.1 pc = .ok (.ifCond .le off, 3)) (tgt : Nat) (ht : (pc : Int) + off = (tgt : Int)) (hp : pc + 3 = pc') (hc : ¬ (w x ≤ 0)) : PS D μ pc L (vI x :: st) M pc' L st := by
  subst hp
  exact PS.of (fun _ hS _ => ok_tl hS) (fun l p e R s m args below meth c H locs ls cells slots Q hL hS hW C En S hl _ _ k => lv_if_le C.1 C.2.1 hd ht (fun q => absurd ((w_le x 0).mp q) hc) (fun _ => k))
theorem ps_icmp_le_t {x y off : Int} (hd : decode μ.2.1 pc = .ok (.if_icmp .le off, 3)) (hp : (pc : Int) + off = (pc' : Int)) (hc : w x ≤ w y) : PS D μ pc L (vI y :: vI x :: st) M pc' L st :=
  PS.of (fun _ hS _ => ok_tl (ok_tl hS)) (fun l p e R s m args below meth c H locs ls cells slots Q hL hS hW C En S hl _ _ k => lv_icmp_le C.1 C.2.1 hd hp (fun _ => k) (fun q => absurd ((w_le x y).mpr hc) (by first | exact q | exact fun z => z q)))
theorem ps_icmp_le_f {x y off : Int} (hd : decode μ.2.1 pc = .ok (.if_icmp .le off, 3)) (tgt : Nat) (ht : (pc : Int) + off = (tgt : Int)) (hp : pc + 3 = pc') (hc : ¬ (w x ≤ w y)) : PS D μ pc L (vI y :: vI x :: st) M pc' L st := by
  subst hp
  exact PS.of (fun _ hS _ => ok_tl (ok_tl hS)) (fun l p e R s m args below meth c H locs ls cells slots Q hL hS hW C En S hl _ _ k => lv_icmp_le C.1 C.2.1 hd ht (fun q => absurd ((w_le x y).mp q) hc) (fun _ => k))
theorem ps_goto {off : Int} (hd : decode μ.2.1 pc = .ok (.goto off, 3)) (hp : (pc : Int) + off = (pc' : Int)) : PS D μ pc L st M pc' L st :=
  PS.of (fun _ hS _ => hS) (fun l p e R s m args below meth c H locs ls cells slots Q hL hS hW C En S hl hc hs k =>  lv_goto C.1 C.2.1 hd hp k)
theorem cv_n {D : Dt} {kd : Nat} {o : Option Nat} (h : o = none) : cv D (vR kd o) = .null := by
  subst h
  show va_rf (sh D kd none) = .null
  unfold sh
  split <;> rfl
theorem cv_s {D : Dt} {kd : Nat} {o : Option Nat} {a : Nat} (h : o = some a) (hk : kd < 50) : cv D (vR kd o) = .ref (dlo D + a) := by
  subst h
  show va_rf (sh D kd (some a)) = _
  unfold sh
  rw [if_neg (by omega)]
  rfl
theorem ps_ifnull_t {kd : Nat} {o : Option Nat} {off : Int} (hd : decode μ.2.1 pc = .ok (.ifnull off, 3)) (hp : (pc : Int) + off = (pc' : Int)) (ho : o = none) : PS D μ pc L (vR kd o :: st) M pc' L st :=
  PS.of (fun _ hS _ => ok_tl hS) (fun l p e R s m args below meth c H locs ls cells slots Q hL hS hW C En S hl hc hs k =>  by rw [List.map_cons, cv_n ho]; exact lv_ifnullN C.1 C.2.1 hd hp k)
theorem ps_ifnull_f {kd a : Nat} {o : Option Nat} {off : Int} (hd : decode μ.2.1 pc = .ok (.ifnull off, 3)) (hp : pc + 3 = pc') (ho : o = some a) (hk : kd < 50) : PS D μ pc L (vR kd o :: st) M pc' L st := by
  subst hp
  exact PS.of (fun _ hS _ => ok_tl hS) (fun l p e R s m args below meth c H locs ls cells slots Q hL hS hW C En S hl hc hs k =>  by rw [List.map_cons, cv_s ho hk]; exact lv_ifnull C.1 C.2.1 hd k)
theorem ps_ifnonnull_t {kd a : Nat} {o : Option Nat} {off : Int} (hd : decode μ.2.1 pc = .ok (.ifnonnull off, 3)) (hp : (pc : Int) + off = (pc' : Int)) (ho : o = some a) (hk : kd < 50) : PS D μ pc L (vR kd o :: st) M pc' L st :=
  PS.of (fun _ hS _ => ok_tl hS) (fun l p e R s m args below meth c H locs ls cells slots Q hL hS hW C En S hl hc hs k =>  by rw [List.map_cons, cv_s ho hk]; exact lv_ifnonnull C.1 C.2.1 hd hp k)
theorem ps_ifnonnull_f {kd : Nat} {o : Option Nat} {off : Int} (hd : decode μ.2.1 pc = .ok (.ifnonnull off, 3)) (hp : pc + 3 = pc') (ho : o = none) : PS D μ pc L (vR kd o :: st) M pc' L st := by
  subst hp
  exact PS.of (fun _ hS _ => ok_tl hS) (fun l p e R s m args below meth c H locs ls cells slots Q hL hS hW C En S hl hc hs k =>  by rw [List.map_cons, cv_n ho]; exact lv_ifnonnullN C.1 C.2.1 hd k)
theorem sh_eq {D : Dt} {k1 k2 : Nat} {a b : Option Nat} (h1 : k1 < 50) (h2 : k2 < 50) : sh D k1 a = sh D k2 b ↔ a = b := by
  unfold sh
  rw [if_neg (by omega), if_neg (by omega)]
  cases a <;> cases b <;> simp
theorem ps_acmp_eq_t {k1 k2 : Nat} {a b : Option Nat} {off : Int} (hd : decode μ.2.1 pc = .ok (.if_acmp .eq off, 3)) (hp : (pc : Int) + off = (pc' : Int)) (hc : a = b) (h1 : k1 < 50) (h2 : k2 < 50) : PS D μ pc L (vR k2 b :: vR k1 a :: st) M pc' L st :=
  PS.of (fun _ hS _ => ok_tl (ok_tl hS)) (fun l p e R s m args below meth c H locs ls cells slots Q hL hS hW C En S hl _ _ k => lv_acmp_eq C.1 C.2.1 hd hp (fun _ => k) (fun q => absurd ((sh_eq h1 h2).mpr hc) q))
theorem ps_acmp_eq_f {k1 k2 : Nat} {a b : Option Nat} {off : Int} (hd : decode μ.2.1 pc = .ok (.if_acmp .eq off, 3)) (tgt : Nat) (ht : (pc : Int) + off = (tgt : Int)) (hp : pc + 3 = pc') (hc : ¬ a = b) (h1 : k1 < 50) (h2 : k2 < 50) : PS D μ pc L (vR k2 b :: vR k1 a :: st) M pc' L st := by
  subst hp
  exact PS.of (fun _ hS _ => ok_tl (ok_tl hS)) (fun l p e R s m args below meth c H locs ls cells slots Q hL hS hW C En S hl _ _ k => lv_acmp_eq C.1 C.2.1 hd ht (fun q => absurd ((sh_eq h1 h2).mp q) hc) (fun _ => k))
theorem ps_acmp_ne_t {k1 k2 : Nat} {a b : Option Nat} {off : Int} (hd : decode μ.2.1 pc = .ok (.if_acmp .ne off, 3)) (hp : (pc : Int) + off = (pc' : Int)) (hc : ¬ a = b) (h1 : k1 < 50) (h2 : k2 < 50) : PS D μ pc L (vR k2 b :: vR k1 a :: st) M pc' L st :=
  PS.of (fun _ hS _ => ok_tl (ok_tl hS)) (fun l p e R s m args below meth c H locs ls cells slots Q hL hS hW C En S hl _ _ k => lv_acmp_ne C.1 C.2.1 hd hp (fun _ => k) (fun q => absurd ((sh_eq h1 h2).mp q) hc))
theorem ps_acmp_ne_f {k1 k2 : Nat} {a b : Option Nat} {off : Int} (hd : decode μ.2.1 pc = .ok (.if_acmp .ne off, 3)) (tgt : Nat) (ht : (pc : Int) + off = (tgt : Int)) (hp : pc + 3 = pc') (hc : a = b) (h1 : k1 < 50) (h2 : k2 < 50) : PS D μ pc L (vR k2 b :: vR k1 a :: st) M pc' L st := by
  subst hp
  exact PS.of (fun _ hS _ => ok_tl (ok_tl hS)) (fun l p e R s m args below meth c H locs ls cells slots Q hL hS hW C En S hl _ _ k => lv_acmp_ne C.1 C.2.1 hd ht (fun q => absurd ((sh_eq h1 h2).mpr hc) q) (fun _ => k))
theorem cv1 (D : Dt) {v : VV} (h : isLong v = false) : (cv D v).category = 1 := by rw [cv_cat, h]; rfl
theorem ps_dup {v : VV} (hd : decode μ.2.1 pc = .ok (.dup, 1)) (hp : pc + 1 = pc') (hv : isLong v = false) : PS D μ pc L (v :: st) M pc' L (v :: v :: st) := by
  subst hp
  exact PS.of (fun _ hS _ => ok_cons (ok_hd hS) hS) (fun l p e R s m args below meth c H locs ls cells slots Q hL hS hW C En S hl hc hs k =>  lv_dup C.1 C.2.1 hd (cv1 D hv) k)
theorem ps_dup2 {u v : VV} (hd : decode μ.2.1 pc = .ok (.dup2, 1)) (hp : pc + 1 = pc') (hu : isLong u = false) (hv : isLong v = false) : PS D μ pc L (u :: v :: st) M pc' L (u :: v :: u :: v :: st) := by
  subst hp
  exact PS.of (fun _ hS _ => ok_cons (ok_hd hS) (ok_cons (ok_hd (ok_tl hS)) hS)) (fun l p e R s m args below meth c H locs ls cells slots Q hL hS hW C En S hl hc hs k =>  lv_dup2_11 C.1 C.2.1 hd (cv1 D hu) (cv1 D hv) k)
theorem ps_pop {v : VV} (hd : decode μ.2.1 pc = .ok (.pop, 1)) (hp : pc + 1 = pc') (hv : isLong v = false) : PS D μ pc L (v :: st) M pc' L st := by
  subst hp
  exact PS.of (fun _ hS _ => ok_tl hS) (fun l p e R s m args below meth c H locs ls cells slots Q hL hS hW C En S hl hc hs k =>  lv_pop C.1 C.2.1 hd (cv1 D hv) k)
end PSR
