/-! RETURNS, THROWS, CALLS -/
/-- a method's own word -/
def mw (μ : MI) : Cond := match μ.2.2.2.2.2.2 with
  | [] => .code μ.1 μ.2.1 μ.2.2.1 μ.2.2.2.1
  | h => .codeWith μ.1 μ.2.1 μ.2.2.1 μ.2.2.2.1 h
def rmOf (μ : MI) (M M' : Mm) : Room := { frames := μ.2.2.2.2.1, cells := mX M' - mX M, slots := mS M' - mS M, locals := μ.2.2.2.2.2.1 }
def PcM (D : Dt) (avs : List VV) (M : Mm) : Array Value → State → Prop := fun as U => as = (cvS D M avs).toArray ∧ Enc D M U.heap ∧ KK D U
def CT (D : Dt) (κ : Nat) (μ : MI) (avs : List VV) (M : Mm) (o : Oc) (M' : Mm) : Prop :=
  (∀ v ∈ avs, okV M v) → WT M → Post κ M o M' ∧ ∀ l : Launch, l.stackTraces = false → vx_Met l μ.1 (mw μ :: Big) (rmOf μ M M') (PcM D avs M) (Qc D o M') (XC D o M') (mX M' - mX M) (mS M' - mS M) (fun q => dlo D ≤ q)
/-- arguments in their places -/
def lar : Nat → List VV → List (Nat × VV)
  | _, [] => []
  | i, v :: vs => (i, v) :: lar (if isLong v = true then i + 2 else i + 1) vs
def larn (vs : List VV) : Nat := (vs.map fun v => if isLong v = true then 2 else 1).sum
theorem lar_eq {D : Dt} {M : Mm} : ∀ (vs : List VV) (i : Nat), lv_args i (cvS D M vs) = cvL D M (lar i vs)
  | [], _ => rfl
  | v :: vs, i => by
    show (i, cv D M v) :: lv_args (if (cv D M v).category = 2 then i + 2 else i + 1) (cvS D M vs) = (i, cv D M v) :: cvL D M (lar (if isLong v = true then i + 2 else i + 1) vs)
    have e : (if (cv D M v).category = 2 then i + 2 else i + 1) = (if isLong v = true then i + 2 else i + 1) := by
      rw [cv_cat]
      by_cases h : isLong v = true
      · rw [if_pos h, if_pos h, if_pos rfl]
      · rw [if_neg h, if_neg h, if_neg (by decide)]
    rw [e, lar_eq vs]
theorem lar_mem : ∀ {vs : List VV} {i : Nat} {q : Nat × VV}, q ∈ lar i vs → q.2 ∈ vs
  | [], _, _, h => nomatch h
  | v :: vs, i, q, h => by
    rcases List.mem_cons.mp h with rfl | h
    · exact List.mem_cons_self
    · exact List.mem_cons_of_mem _ (lar_mem h)
theorem larn_eq {D : Dt} {M : Mm} : ∀ (vs : List VV), (lg_sl (cvS D M vs)).length = larn vs
  | [] => rfl
  | v :: vs => by
    have ih := larn_eq (D := D) (M := M) vs
    show (lg_sl (cv D M v :: cvS D M vs)).length = (if isLong v = true then 2 else 1) + larn vs
    unfold lg_sl at ih ⊢
    rw [List.flatMap_cons, List.length_append, ih, cv_cat]
    by_cases h : isLong v = true
    · rw [if_pos h, if_pos rfl]; rfl
    · rw [if_neg h, if_neg (by decide)]; rfl
theorem cx_ofW {l : Launch} {y : MethodName} {ws ws' : List Cond} {rm : Room} {Pc : Array Value → State → Prop} {Qc : Array Value → State → Outcome → State → Prop} {XC : String → State → State → Prop} {mc ms : Nat} {free : Addr → Prop} {cc : ByteArray} {maxL : Nat} {ret : Option FieldType}
    (hy : plainFor y = true) (hw : ws = Cond.code y cc maxL ret :: ws')
    (body : ∀ p e s m args below meth c s₁, BodyLoose p l y (headSpec ws rm) cc maxL ret e s m args below meth c s₁ → c.maxLocals = maxL → (∀ x ∈ c.exceptionTable.toList, False) → Pc args s →
      W p l e (headSpec ws rm).room s m args below meth c s.heap [] 0 0 (vx_MQ below Qc XC args s mc ms free) (entryFrame m args maxL)) : vx_Met l y ws rm Pc Qc XC mc ms free := by
  refine MetFree.of_bodySF (code := cc) (maxLocals := maxL) (ret := ret) hy ?_ ?_
  · intro args s m h hn
    obtain ⟨meth, c, h1, h2, h3, h4, h5, h6, -, -⟩ := Cond.code_spec hn (atoms_spec (ws := ws) h _ (by rw [hw]; exact List.mem_cons_self))
    exact ⟨meth, c, h1, h2, h3, h4, h5, h6⟩
  · intro p e s m args below meth c s₁ B hml hP _
    have hh0 : s₁.heap = s.heap := by rw [B.state]; rfl
    have ht : ∀ x ∈ c.exceptionTable.toList, False := by
      obtain ⟨meth9, c9, h1, h2, -, -, -, -, h7, -⟩ := Cond.code_spec B.named (atoms_spec (ws := ws) B.pre _ (by rw [hw]; exact List.mem_cons_self))
      cases Option.some.inj (h1.symm.trans B.method)
      cases Option.some.inj (h2.symm.trans (Stand.of_body B).code)
      intro x hx
      rw [Array.isEmpty_iff.mp h7] at hx
      cases hx
    obtain ⟨t, a1, o, b1, b2, b3⟩ := body p e s m args below meth c s₁ B hml ht hP s₁ hh0 (Stand.of_body B)
    exact ⟨t, o, a1, b1, b2, b3⟩
theorem cx_ofWH {l : Launch} {y : MethodName} {ws ws' : List Cond} {rm : Room} {Pc : Array Value → State → Prop} {Qc : Array Value → State → Outcome → State → Prop} {XC : String → State → State → Prop} {mc ms : Nat} {free : Addr → Prop} {cc : ByteArray} {maxL : Nat} {ret : Option FieldType} {hh : List (Nat × Nat × Nat × Nat)}
    (hy : plainFor y = true) (hw : ws = Cond.codeWith y cc maxL ret hh :: ws')
    (body : ∀ p e s m args below meth c s₁, BodyLoose p l y (headSpec ws rm) cc maxL ret e s m args below meth c s₁ → c.maxLocals = maxL → Pc args s →
      W p l e (headSpec ws rm).room s m args below meth c s.heap [] 0 0 (vx_MQ below Qc XC args s mc ms free) (entryFrame m args maxL)) : vx_Met l y ws rm Pc Qc XC mc ms free := by
  refine MetFree.of_bodySF (code := cc) (maxLocals := maxL) (ret := ret) hy ?_ ?_
  · intro args s m h hn
    obtain ⟨m9, meth, c, hn9, h1, h2, h3, h4, -, h5, h6, -⟩ := Cond.codeWith_spec (atoms_spec (ws := ws) h _ (by rw [hw]; exact List.mem_cons_self))
    cases hn.symm.trans hn9
    exact ⟨meth, c, h1, h2, h3, h4, h5, h6⟩
  · intro p e s m args below meth c s₁ B hml hP _
    have hh0 : s₁.heap = s.heap := by rw [B.state]; rfl
    obtain ⟨t, a1, o, b1, b2, b3⟩ := body p e s m args below meth c s₁ B hml hP s₁ hh0 (Stand.of_body B)
    exact ⟨t, o, a1, b1, b2, b3⟩
theorem CT.of {D : Dt} {κ : Nat} {μ : MI} {avs : List VV} {M M' : Mm} {o : Oc} {L : List (Nat × VV)} (hy : plainFor μ.1 = true) (hL : lar 0 avs = L) (hn : larn avs ≤ μ.2.2.1) (h : X D κ μ 0 L [] M o M') : CT D κ μ avs M o M' := by
  intro hav hW
  subst hL
  obtain ⟨h1, h2⟩ := h (fun q hq => hav _ (lar_mem hq)) (fun _ h => nomatch h) hW
  refine ⟨h1, fun l hl => ?_⟩
  have body : ∀ (p : Program) (e : Env) (s : State) (m : MethodId) (args : Array Value) (below : List Frame) (meth : Method) (c : Code) (s₁ : State),
      BodyLoose p l μ.1 (headSpec (mw μ :: Big) (rmOf μ M M')) μ.2.1 μ.2.2.1 μ.2.2.2.1 e s m args below meth c s₁ → c.maxLocals = μ.2.2.1 → c.exceptionTable.toList = tableOf μ.2.2.2.2.2.2 → PcM D avs M args s →
      W p l e (headSpec (mw μ :: Big) (rmOf μ M M')).room s m args below meth c s.heap [] 0 0 (vx_MQ below (Qc D o M') (XC D o M') args s (mX M' - mX M) (mS M' - mS M) (fun q => dlo D ≤ q)) (entryFrame m args μ.2.2.1) := by
    intro p e s m args below meth c s₁ B hml htab hP
    obtain ⟨rfl, hE, hK⟩ := hP
    have hts := atoms_spec (ws := mw μ :: Big) B.pre
    have hlv := lv_entry (cvS D M avs) (n := μ.2.2.1) (by rw [larn_eq]; exact hn)
    rw [lg_entry_eq]
    rw [lar_eq] at hlv
    exact h2 l p e _ s m _ below meth c s.heap [] _ _ _ 0 0 ⟨B.exec, B.bytes, hml, findClass_of_methodNamed B.named, fun w hw => hts w (List.mem_cons_of_mem _ hw), B.returns, B.notSynchronized, hl, hK, Nat.le_refl _, Nat.le_refl _, (name_of_methodNamed B.named B.method).1, htab⟩ hE va_S.rf hlv (by omega) (by omega) (Nat.le_refl _) (Nat.le_refl _)
  obtain ⟨y, cc, ml, rt, fr, lo, hh⟩ := μ
  cases hh with
  | nil =>
    refine cx_ofW hy rfl (fun p e s m args below meth c s₁ B hml ht hP => body p e s m args below meth c s₁ B hml ?_ hP)
    show c.exceptionTable.toList = tableOf []
    cases hx : c.exceptionTable.toList with
    | nil => rfl
    | cons x xs => exact absurd (ht x (by rw [hx]; exact List.mem_cons_self)) id
  | cons h1 hs =>
    refine cx_ofWH hy rfl (fun p e s m args below meth c s₁ B hml hP => body p e s m args below meth c s₁ B hml ?_ hP)
    exact vx_table (x := y) B (atoms_spec (ws := mw (y, cc, ml, rt, fr, lo, h1 :: hs) :: Big) B.pre _ List.mem_cons_self)
section RET
variable {D : Dt} {κ : Nat} {μ : MI} {pc : Nat} {L : List (Nat × VV)} {st : List VV} {M : Mm}
theorem X_of {o : Oc} {M' : Mm} (hg : (∀ v ∈ st, okV M v) → WT M → Post κ M o M')
    (h : ∀ (l : Launch) (p : Program) (e : Env) (R : Room) (s : State) (m : MethodId) (args : Array Value) (below : List Frame) (meth : Method) (c : Code) (H : Heap) (locs : List Loc) (ls : Array Slot) (mc ms cells slots : Nat),
      (∀ v ∈ st, okV M v) → WT M → Cx D μ l p R s m args meth c → Enc D M H → va_S (fun q => dlo D ≤ q) s.heap H locs → lv_has ls μ.2.2.1 (cvL D M L) → cells + (mX M' - mX M) ≤ mc → slots + (mS M' - mS M) ≤ ms → mc ≤ R.cells → ms ≤ R.slots →
      W p l e R s m args below meth c H locs cells slots (vx_MQ below (Qc D o M') (XC D o M') args s mc ms (fun q => dlo D ≤ q)) (F0 m pc ls (cvS D M st))) : X D κ μ pc L st M o M' :=
  fun _ hS hW => ⟨hg hS hW, fun l p e R s m args below meth c H locs ls mc ms cells slots C En S hl hc hs hmc hms => h l p e R s m args below meth c H locs ls mc ms cells slots hS hW C En S hl hc hs hmc hms⟩
theorem post_ret {v : Option VV} (hv : ∀ u, v = some u → okV M u) (hW : WT M) : Post κ M (.inl v) M := by
  refine ⟨Gr.rf, ?_, hW, Nat.le_add_right _ _⟩
  cases v with
  | none => trivial
  | some u => exact hv u rfl
theorem Qc_ret {s : State} {t : State} {H : Heap} {locs : List Loc} {args : Array Value} {v : Option VV} (En : Enc D M H) (S : va_S (fun q => dlo D ≤ q) s.heap H locs) (ht : t.heap = H) : Qc D (.inl v) M args s (.returned (v.map (cv D M))) t :=
  ⟨⟨v, rfl, rfl⟩, by rw [ht]; exact En, S.F ht⟩
theorem X_iret {z : Int} (hd : decode μ.2.1 pc = .ok (.ireturn, 1)) (hr : μ.2.2.2.1 = some .int) : X D κ μ pc L [(0, z)] M (.inl (some (0, z))) M :=
  X_of (fun hS hW => post_ret (fun u hu => by cases hu; exact ok_hd hS) hW) fun l p e R s m args below meth c H locs ls mc ms cells slots hS hW C En S hl hc hs hmc hms =>
    vx_ret (W.widen (by omega) (by omega) (W.iret (v := Int32.ofInt z) C.1 C.2.1 (C.ret.trans hr) (fun t ht _ => Qc_ret (v := some (0, z)) En S ht) S.2.2 hd C.lock))
theorem X_zret {z : Int} (hd : decode μ.2.1 pc = .ok (.ireturn, 1)) (hr : μ.2.2.2.1 = some .boolean) (hz : z = 0 ∨ z = 1) : X D κ μ pc L [(0, z)] M (.inl (some (0, z))) M :=
  X_of (fun hS hW => post_ret (fun u hu => by cases hu; exact ok_hd hS) hW) fun l p e R s m args below meth c H locs ls mc ms cells slots hS hW C En S hl hc hs hmc hms =>
    vx_ret (W.widen (by omega) (by omega) (W.zret (v := Int32.ofInt z) (ty := .boolean) C.1 C.2.1 (C.ret.trans hr) (by rcases hz with h | h <;> (subst h; rfl)) (fun t ht _ => Qc_ret (v := some (0, z)) En S ht) S.2.2 hd C.lock))
theorem X_aret {z : Int} {t : Nat} {rt : FieldType} (hd : decode μ.2.1 pc = .ok (.areturn, 1)) (hr : μ.2.2.2.1 = some rt) (hrt : (∃ n, rt = .object n) ∨ ∃ t, rt = .array t) (ht : 3 ≤ t) : X D κ μ pc L [(t, z)] M (.inl (some (t, z))) M :=
  X_of (fun hS hW => post_ret (fun u hu => by cases hu; exact ok_hd hS) hW) fun l p e R s m args below meth c H locs ls mc ms cells slots hS hW C En S hl hc hs hmc hms =>
    vx_ret (W.widen (by omega) (by omega) (W.aret (v := cv D M (t, z)) C.1 C.2.1 (C.ret.trans hr) hrt (by rw [show cv D M (t, z) = _ from tv_r ht]; cases rf D M z with
      | none => exact Or.inl rfl
      | some a => exact Or.inr ⟨a, rfl⟩) (fun u hu _ => Qc_ret (v := some (t, z)) En S hu) S.2.2 hd C.lock))
theorem X_vret (hd : decode μ.2.1 pc = .ok (.return_, 1)) (hr : μ.2.2.2.1 = none) : X D κ μ pc L [] M (.inl none) M :=
  X_of (fun hS hW => post_ret (fun u hu => nomatch hu) hW) fun l p e R s m args below meth c H locs ls mc ms cells slots hS hW C En S hl hc hs hmc hms =>
    vx_ret (W.widen (by omega) (by omega) (W.vret C.1 C.2.1 (C.ret.trans hr) (fun t ht _ => Qc_ret (v := none) En S ht) S.2.2 hd C.lock))
/-- the words of a throw by a class's own text -/
def xnm : List String := ["java/lang/RuntimeException", "java/lang/Exception"]
def ThrOK (own cls text : String) (ik is ic : Nat) : Prop := Bundle.fit cls = true ∧ cls ∈ exs ∧ Cond.classLink own ik cls ∈ Big ∧ Cond.initialized cls ∈ Big ∧ (own, is, text) ∈ strs ∧ (∀ w ∈ (vx_atS own ic cls xnm).filter goodWord, w ∈ Big) ∧ (∀ w ∈ (vx_atS own ic cls xnm).filter (fun w => !goodWord w), w ∈ [Cond.castable cls cls, Cond.declares (Bundle.initS "java/lang/RuntimeException"), Cond.declares (Bundle.initS "java/lang/Exception"), Cond.declares (Bundle.initS "java/lang/Throwable")]) ∧ ∀ w ∈ vx_atS own ic cls xnm, vx_ot w = true
theorem big_good {w : Cond} (h : w ∈ Big) : goodWord w = true := (List.mem_filter.mp h).2
theorem thr_ot {own cls text : String} {ik is ic : Nat} (T : ThrOK own cls text ik is ic) : ∀ w ∈ Cond.classLink own ik cls :: Cond.initialized cls :: vx_atS own ic cls xnm, vx_ot w = true := by
  intro w hw
  rcases List.mem_cons.mp hw with rfl | hw
  · unfold vx_ot; rw [big_good T.2.2.1, Bool.or_true]
  · rcases List.mem_cons.mp hw with rfl | hw
    · unfold vx_ot; rw [big_good T.2.2.2.1, Bool.or_true]
    · exact T.2.2.2.2.2.2.2 w hw
theorem thr_at {own cls text : String} {ik is ic : Nat} {args : Array Value} {s : State} (T : ThrOK own cls text ik is ic) (hb : ∀ w ∈ Big, w.before args s = true) (hk : KK D s) : ∀ w ∈ vx_atS own ic cls xnm, w.before args s = true :=
  vx_hat (fun w hw => hb w (T.2.2.2.2.2.1 w hw)) T.2.2.2.2.2.2.1 (by
    have hx := hk.2.2.2.2.2.2.2.2.2.2.2
    exact vx_c (va_Nw.use rfl (hx.1 _ T.2.1)) (vx_c (va_Nw.use rfl (hx.2.2 _ (by decide))) (vx_c (va_Nw.use rfl (hx.2.2 _ (by decide))) (vx_c (va_Nw.use rfl (hx.2.2 _ (by decide))) vx_n))))
theorem post_thr {E : String} (hW : WT M) : Post κ M (.inr E) (thr M) := ⟨Gr_thr, trivial, WT_thr hW, by show mT M + 1 ≤ mT M + κ + 1; omega⟩
theorem Enc_XC {s t : State} {H : Heap} {locs : List Loc} {E : String} (En : Enc D M H) (S : va_S (fun q => dlo D ≤ q) s.heap H locs) (hz : t.heap.size = H.size + 1) (ho : ∀ q : Nat, q < H.size → t.heap[q]? = H[q]?) : XC D (.inr E) (thr M) E s t :=
  ⟨rfl, Enc_thr En hz ho, by have := S.1; omega, fun q h1 h2 => (ho q (Nat.lt_of_lt_of_le h1 S.1)).trans (S.2.1 q h1 h2)⟩
theorem X_thr {cls text : String} {ik is ic : Nat} (d0 : decode μ.2.1 pc = .ok (.new ik, 3)) (d3 : decode μ.2.1 (pc + 3) = .ok (.dup, 1)) (d4 : decode μ.2.1 (pc + 4) = .ok (.ldc is, 2)) (d6 : decode μ.2.1 (pc + 6) = .ok (.invokespecial ic, 3)) (d9 : decode μ.2.1 (pc + 9) = .ok (.athrow, 1))
    (T : ThrOK μ.1.cls cls text ik is ic) (hh : μ.2.2.2.2.2.2 = []) (hf : 6 ≤ μ.2.2.2.2.1) (hlo : 82 ≤ μ.2.2.2.2.2.1) : X D κ μ pc L [] M (.inr cls) (thr M) :=
  X_of (fun hS hW => post_thr hW) fun l p e R s m args below meth c H locs ls mc ms cells slots hS hW C En S hl hc hs hmc hms => by
    have x1 : mX (thr M) - mX M = 1 := by show mX M + 1 - mX M = 1; omega
    have x2 : mS (thr M) - mS M = 6 := by show mS M + 6 - mS M = 6; omega
    rw [x1] at hc; rw [x2] at hs
    have h1 := C.fr; have h2 := C.lo
    obtain ⟨sa, hsa⟩ := C.kk.2.2.2.2.1 _ T.2.2.2.2.1
    exact vx_throwS (names := xnm) C.1 C.2.1 C.tr C.own T.1 (by decide) (C.big _ T.2.2.1) (C.big _ T.2.2.2.1) hsa (thr_at T C.big C.kk) (thr_ot T) C.kk.2.2.1 C.kk.2.2.2.1 S (hl.1.trans C.ml.symm) d0 d3 d4 d6 d9 (by rw [C.ex, hh]; exact fun _ h => nomatch h)
      (by show 5 < R.frames; omega) (by show 0 + 82 ≤ R.locals; omega) (by omega) (by omega) C.lock (fun t _ hz ho => Enc_XC En S hz ho) S.2.2 hc hs
theorem X_thrW {cls text : String} {ik is ic : Nat} (d0 : decode μ.2.1 pc = .ok (.new ik, 3)) (d3 : decode μ.2.1 (pc + 3) = .ok (.dup, 1)) (d4 : decode μ.2.1 (pc + 4) = .ok (.ldc_w is, 3)) (d7 : decode μ.2.1 (pc + 7) = .ok (.invokespecial ic, 3)) (d10 : decode μ.2.1 (pc + 10) = .ok (.athrow, 1))
    (T : ThrOK μ.1.cls cls text ik is ic) (hh : μ.2.2.2.2.2.2 = []) (hf : 6 ≤ μ.2.2.2.2.1) (hlo : 82 ≤ μ.2.2.2.2.2.1) : X D κ μ pc L [] M (.inr cls) (thr M) :=
  X_of (fun hS hW => post_thr hW) fun l p e R s m args below meth c H locs ls mc ms cells slots hS hW C En S hl hc hs hmc hms => by
    have x1 : mX (thr M) - mX M = 1 := by show mX M + 1 - mX M = 1; omega
    have x2 : mS (thr M) - mS M = 6 := by show mS M + 6 - mS M = 6; omega
    rw [x1] at hc; rw [x2] at hs
    have h1 := C.fr; have h2 := C.lo
    obtain ⟨sa, hsa⟩ := C.kk.2.2.2.2.1 _ T.2.2.2.2.1
    exact vx_throwSW (names := xnm) C.1 C.2.1 C.tr C.own T.1 (by decide) (C.big _ T.2.2.1) (C.big _ T.2.2.2.1) hsa (thr_at T C.big C.kk) (thr_ot T) C.kk.2.2.1 C.kk.2.2.2.1 S (hl.1.trans C.ml.symm) d0 d3 d4 d7 d10 (by rw [C.ex, hh]; exact fun _ h => nomatch h)
      (by show 5 < R.frames; omega) (by show 0 + 82 ≤ R.locals; omega) (by omega) (by omega) C.lock (fun t _ hz ho => Enc_XC En S hz ho) S.2.2 hc hs
end RET
