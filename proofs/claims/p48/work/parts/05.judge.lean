/-! THE JUDGEMENT: a method's body, from an instruction on, over the memory -/
def Big : List Cond := lw_tbl.filter goodWord
/-- a method: its name, code, locals, return type, frames and locals that its calls take, its table of handlers -/
abbrev MI : Type := MethodName × ByteArray × Nat × Option FieldType × Nat × Nat × List (Nat × Nat × Nat × Nat)
abbrev Oc : Type := Option VV ⊕ String
def strs : List (String × Nat × String) := [("MessageBroker", 623, "out of range"), ("MessageBroker", 79, "no room for a topic, or a broker is not live"), ("MessageBroker", 285, "no room for a producer"), ("MessageBroker", 370, "no such topics"), ("MessageBroker", 373, "no room for a group"), ("MessageBroker", 637, "no such group"), ("MessageBroker", 385, "no room for a member"), ("MessageBroker", 643, "no such member in the group"), ("MessageBroker", 635, "no such message"), ("MessageBroker", 627, "no such topic"), ("MessageBroker", 629, "no such partition"), ("MessageBroker", 124, "the topic is not compacted"), ("MessageBroker", 633, "no such producer"), ("MessageBroker", 302, "the message cannot be sent"), ("MessageBroker", 325, "no room for a message"), ("MessageBroker", 332, "a transaction goes on"), ("MessageBroker", 355, "the transaction cannot be committed"), ("MessageBroker", 366, "no transaction goes on"), ("MessageBroker", 342, "no transaction goes on, or it is broken"), ("MessageBroker", 330, "the partition has no leader, or no room"), ("MessageBroker", 625, "no such broker"), ("MessageBroker", 169, "the broker is not live"), ("MessageBroker", 222, "the broker is live"), ("MessageBroker", 660, "the message is not in the hand"), ("MessageBroker", 483, "the offset is below 0"), ("MessageBroker", 649, "the group has no such partition"), ("MessageBroker", 655, "no such place")]
def akinds : List (Nat × FieldType) := [(13, .int), (15, .long), (25, .object "MessageBroker$Topic"), (21, .object "MessageBroker$Partition"), (22, .object "MessageBroker$Producer"), (16, .object "MessageBroker$Group"), (20, .object "MessageBroker$Message"), (23, .object "MessageBroker$Replica"), (24, .object "MessageBroker$Share"), (19, .object "MessageBroker$Member"), (17, .object "MessageBroker$Letter")]
def exs : List String := ["java/lang/IndexOutOfBoundsException", "java/lang/IllegalArgumentException", "java/lang/IllegalStateException"]
def xsup : List String := ["java/lang/RuntimeException", "java/lang/Exception", "java/lang/Throwable"]
theorem nw_decl {x : MethodName} {s U : State} (hW : s.WarmedH U.vm) (h : va_Nw (.declares x) s) : va_Nw (.declares x) U := va_tabs rfl (rfl : (s.setVm U.vm).vm = U.vm) (by rw [Cond.declares_setVm hW.alike]; exact h)
def okO (M : Mm) (o : Oc) : Prop := match o with
  | .inl (some v) => okV M v
  | _ => True
def TB (κ : Nat) (o : Oc) (M M' : Mm) : Prop := mT M' ≤ mT M + κ + (match o with | .inl _ => 0 | .inr _ => 1)
def Post (κ : Nat) (M : Mm) (o : Oc) (M' : Mm) : Prop := Gr M M' ∧ okO M' o ∧ WT M' ∧ TB κ o M M'
def cvL (D : Dt) (M : Mm) (L : List (Nat × VV)) : List (Nat × Value) := L.map (fun q => (q.1, cv D M q.2))
abbrev cvS (D : Dt) (M : Mm) (st : List VV) : List Value := st.map (cv D M)
/-- what holds of the tables and of the old heap, in every state of the run -/
def KK (D : Dt) (U : State) : Prop :=
  va_K (D.1, D.2.1) vwCl [] U ∧ (∀ q ∈ akinds, ArrOfT U (D.2.2.1 q.1) q.2 ∧ va_RA U (D.2.2.1 q.1) q.2) ∧
  vx_Zq Bundle.tN "UNASSIGNED_STACK" Bundle.steD (fun q => dlo D ≤ q) U U.heap ∧ vx_Zq Bundle.tN "SUPPRESSED_SENTINEL" Bundle.listD (fun q => dlo D ≤ q) U U.heap ∧
  (∀ q ∈ strs, ∃ sa, vk_R q.1 q.2.1 q.2.2 sa U) ∧ (∀ q ∈ akinds, ∀ C, q.2 = .object C → va_AO C U) ∧ va_Nw (.methodLinkNest RX10 375 yX0_init RX10) U ∧
  va_X D.2.2.2.2.1 D.2.2.2.2.2.1 D.2.2.2.2.2.2 U U.heap ∧ D.2.2.2.2.1 < dlo D ∧ dlo D ≤ U.heap.size ∧ D.2.2.2.2.2.1 < 2 ^ 31 ∧
  (∀ E ∈ exs, va_Nw (.castable E E) U) ∧ (∀ E ∈ exs, ∀ F ∈ exs, E ≠ F → va_Nc E F U) ∧ ∀ E ∈ xsup, va_Nw (.declares (Bundle.initS E)) U
theorem KK.moved {D : Dt} {u U : State} (h : KK D u) (hW : u.WarmedH U.vm) (hz : dlo D ≤ U.heap.size) (hk : ∀ q : Nat, q < dlo D → U.heap[q]? = u.heap[q]?) : KK D U := by
  obtain ⟨h1, h2, h3, h4, h5, h6, h7, h8, h9, h10, h11, h12, h13, h14⟩ := h
  have hvm := hW.alike
  have hq : ∀ a : Nat, a < u.heap.size → ¬ dlo D ≤ a → U.heap[a]? = u.heap[a]? := fun a _ h => hk a (by omega)
  refine ⟨va_K.moved hvm h1, fun q hq => ⟨arrOfT_moved hvm (h2 q hq).1, (h2 q hq).2.moved hvm⟩, vx_Zq.moved hvm (h3.kept hq), vx_Zq.moved hvm (h4.kept hq), fun q hq => ?_, fun q hq C hC => va_AO.moved hvm (h6 q hq C hC), va_Nw.warmM hW h7, ?_, h9, hz, h11, fun E hE => va_Nw.warmC hW (h12 E hE), fun E hE F hF n => va_Nc.moved hvm (h13 E hE F hF n), fun E hE => nw_decl hW (h14 E hE)⟩
  · obtain ⟨sa, hs⟩ := h5 q hq
    exact ⟨sa, vk_R.warm hW hs⟩
  · exact va_X.moved hvm (h8.kept (hk _ h9))
def Cx (D : Dt) (μ : MI) (l : Launch) (p : Program) (R : Room) (s : State) (m : MethodId) (args : Array Value) (meth : Method) (c : Code) : Prop :=
  p.tables.exec = Jvm.exec ∧ c.code = μ.2.1 ∧ c.maxLocals = μ.2.2.1 ∧ s.vm.findClass μ.1.cls = some m.cls ∧ (∀ w ∈ Big, w.before args s = true) ∧ meth.sig.returnType = μ.2.2.2.1 ∧ meth.locks = false ∧ l.stackTraces = false ∧ KK D s ∧ μ.2.2.2.2.1 ≤ R.frames ∧ μ.2.2.2.2.2.1 ≤ R.locals ∧ meth.name = μ.1.name ∧ c.exceptionTable.toList = tableOf μ.2.2.2.2.2.2
def Qc (D : Dt) (o : Oc) (M' : Mm) : Array Value → State → Outcome → State → Prop := fun _ st oc t => (∃ v : Option VV, o = .inl v ∧ oc = .returned (v.map (cv D M'))) ∧ Enc D M' t.heap ∧ va_F (fun q => dlo D ≤ q) st t
def XC (D : Dt) (o : Oc) (M' : Mm) : String → State → State → Prop := fun E st t => o = .inr E ∧ Enc D M' t.heap ∧ va_F (fun q => dlo D ≤ q) st t
/-- the machine part: from here the method comes to its end with o, and the memory is M' -/
def XW (D : Dt) (μ : MI) (pc : Nat) (L : List (Nat × VV)) (st : List VV) (M : Mm) (o : Oc) (M' : Mm) : Prop :=
  ∀ (l : Launch) (p : Program) (e : Env) (R : Room) (s : State) (m : MethodId) (args : Array Value) (below : List Frame) (meth : Method) (c : Code) (H : Heap) (locs : List Loc) (ls : Array Slot) (mc ms cells slots : Nat),
    Cx D μ l p R s m args meth c → Enc D M H → va_S (fun q => dlo D ≤ q) s.heap H locs → lv_has ls μ.2.2.1 (cvL D M L) → cells + (mX M' - mX M) ≤ mc → slots + (mS M' - mS M) ≤ ms → mc ≤ R.cells → ms ≤ R.slots →
    W p l e R s m args below meth c H locs cells slots (vx_MQ below (Qc D o M') (XC D o M') args s mc ms (fun q => dlo D ≤ q)) (F0 m pc ls (cvS D M st))
def X (D : Dt) (κ : Nat) (μ : MI) (pc : Nat) (L : List (Nat × VV)) (st : List VV) (M : Mm) (o : Oc) (M' : Mm) : Prop :=
  (∀ q ∈ L, okV M q.2) → (∀ v ∈ st, okV M v) → WT M → Post κ M o M' ∧ XW D μ pc L st M o M'
def XE (D : Dt) (κ : Nat) (μ : MI) {ρ : Type} (E : ρ → Oc × Mm) (pc : Nat) (L : List (Nat × VV)) (st : List VV) (M : Mm) (e : Option ρ) : Prop := ∀ r, e = some r → X D κ μ pc L st M (E r).1 (E r).2
/-- a step -/
def St (D : Dt) (μ : MI) (pc : Nat) (L : List (Nat × VV)) (st : List VV) (M : Mm) (pc' : Nat) (L' : List (Nat × VV)) (st' : List VV) (M' : Mm) : Prop :=
  ((∀ q ∈ L, okV M q.2) → (∀ v ∈ st, okV M v) → WT M → (∀ q ∈ L', okV M' q.2) ∧ (∀ v ∈ st', okV M' v) ∧ WT M' ∧ Gr M M' ∧ mT M' = mT M) ∧
  ∀ (l : Launch) (p : Program) (e : Env) (R : Room) (s : State) (m : MethodId) (args : Array Value) (below : List Frame) (meth : Method) (c : Code) (H : Heap) (locs : List Loc) (ls : Array Slot) (cells slots : Nat) (Q : State → Prop),
    (∀ q ∈ L, okV M q.2) → (∀ v ∈ st, okV M v) → WT M → Cx D μ l p R s m args meth c → Enc D M H → va_S (fun q => dlo D ≤ q) s.heap H locs → lv_has ls μ.2.2.1 (cvL D M L) → cells + (mX M' - mX M) ≤ R.cells → slots + (mS M' - mS M) ≤ R.slots →
    (∀ (H' : Heap) (locs' : List Loc) (ls' : Array Slot), Enc D M' H' → va_S (fun q => dlo D ≤ q) s.heap H' locs' → lv_has ls' μ.2.2.1 (cvL D M' L') → W p l e R s m args below meth c H' locs' (cells + (mX M' - mX M)) (slots + (mS M' - mS M)) Q (F0 m pc' ls' (cvS D M' st'))) →
    W p l e R s m args below meth c H locs cells slots Q (F0 m pc ls (cvS D M st))
section XR
variable {D : Dt} {κ : Nat} {μ : MI} {ρ : Type} {E : ρ → Oc × Mm} {pc pc' : Nat} {L L' : List (Nat × VV)} {st st' : List VV} {M M' : Mm} {e : Option ρ}
theorem XE.go (h : St D μ pc L st M pc' L' st' M') (k : XE D κ μ E pc' L' st' M' e) : XE D κ μ E pc L st M e := by
  intro r hr hL hS hW
  obtain ⟨h1, h2⟩ := h
  obtain ⟨g1, g2, g3, g4, g5⟩ := h1 hL hS hW
  obtain ⟨⟨a1, a2, a3, a4⟩, a5⟩ := k r hr g1 g2 g3
  refine ⟨⟨g4.tr a1, a2, a3, ?_⟩, fun l p ev R s m args below meth c H locs ls mc ms cells slots C En S hl hc hs hmc hms => ?_⟩
  · unfold TB at a4 ⊢
    rw [g5] at a4; exact a4
  · have q1 := g4.1; have q2 := g4.2.1; have q3 := a1.1; have q4 := a1.2.1
    exact h2 l p ev R s m args below meth c H locs ls cells slots _ hL hS hW C En S hl (by omega) (by omega) fun H' locs' ls' En' S' hl' =>
      a5 l p ev R s m args below meth c H' locs' ls' mc ms _ _ C En' S' hl' (by omega) (by omega) hmc hms
theorem XE.none : XE D κ μ E pc L st M (Option.none : Option ρ) := fun _ h => nomatch h
theorem XE.ite {c : Prop} {_h : Decidable c} {e1 e2 : Option ρ} (h1 : c → XE D κ μ E pc L st M e1) (h2 : ¬ c → XE D κ μ E pc L st M e2) : XE D κ μ E pc L st M (if c then e1 else e2) := by
  by_cases hc : c
  · rw [if_pos hc]; exact h1 hc
  · rw [if_neg hc]; exact h2 hc
theorem XE.bite {τ : Type} {c : Prop} {_h : Decidable c} {e1 e2 : Option τ} {f : τ → Option ρ} (h1 : c → XE D κ μ E pc L st M (e1.bind f)) (h2 : ¬ c → XE D κ μ E pc L st M (e2.bind f)) : XE D κ μ E pc L st M ((if c then e1 else e2).bind f) := by
  by_cases hc : c
  · rw [if_pos hc]; exact h1 hc
  · rw [if_neg hc]; exact h2 hc
theorem XE.cast {e' : Option ρ} (h : e = e') (k : XE D κ μ E pc L st M e') : XE D κ μ E pc L st M e := h ▸ k
theorem XE.sub (hs : ∀ q ∈ L', q ∈ L) (k : XE D κ μ E pc L' st M e) : XE D κ μ E pc L st M e := by
  intro r hr hL hS hW
  obtain ⟨a1, a6⟩ := k r hr (fun q hq => hL q (hs q hq)) hS hW
  refine ⟨a1, fun l p ev R s m args below meth c H locs ls mc ms cells slots C En S hl hc hs' hmc hms => a6 l p ev R s m args below meth c H locs ls mc ms cells slots C En S ⟨hl.1, hl.2.1, fun q hq => ?_⟩ hc hs' hmc hms⟩
  obtain ⟨q0, h0, rfl⟩ := List.mem_map.mp hq
  exact hl.2.2 _ (List.mem_map.mpr ⟨q0, hs q0 h0, rfl⟩)
/-- fewer locals, by their places -/
theorem XE.pick (ks : List Nat) (h : ks.filterMap (fun k => L[k]?) = L') (k : XE D κ μ E pc L' st M e) : XE D κ μ E pc L st M e := XE.sub (fun q hq => by
  rw [← h] at hq
  obtain ⟨i, -, hi⟩ := List.mem_filterMap.mp hq
  exact List.mem_of_getElem? hi) k
/-- a loop: from its head, with any state; k is what follows it -/
theorem XE.loop {σ τ : Type} {f : σ → Option (σ ⊕ τ)} {k : τ → Option ρ} {pcL : Nat} {LL : σ → List (Nat × VV)} {sL : σ → List VV} {ML : σ → Mm}
    (hb : ∀ (kk : (σ ⊕ τ) → Option ρ), (∀ s, XE D κ μ E pcL (LL s) (sL s) (ML s) (kk (.inl s))) → (∀ t, kk (.inr t) = k t) → ∀ s, XE D κ μ E pcL (LL s) (sL s) (ML s) ((f s).bind kk)) (n : Nat) (s : σ) : XE D κ μ E pcL (LL s) (sL s) (ML s) ((lp f n s).bind k) := by
  induction n generalizing s with
  | zero => exact XE.none
  | succ n ih =>
    have h1 := hb (fun r => (Sum.elim (lp f n) some r).bind k) (fun s => ih s) (fun t => rfl) s
    have h2 : (lp f (n + 1) s).bind k = (f s).bind (fun r => (Sum.elim (lp f n) some r).bind k) := by
      show ((f s).bind (Sum.elim (lp f n) some)).bind k = _
      rw [Option.bind_assoc]
    rw [h2]
    exact h1
end XR
/-! locals -/
def lk (L : List (Nat × VV)) (i : Nat) : Option VV := (L.find? (fun q => q.1 == i)).map (·.2)
theorem lk_mem {L : List (Nat × VV)} {i : Nat} {v : VV} (h : lk L i = some v) : (i, v) ∈ L := by
  unfold lk at h
  cases hf : L.find? (fun q => q.1 == i) with
  | none => rw [hf] at h; cases h
  | some q =>
    rw [hf] at h
    have h1 := List.find?_some hf
    have h2 := List.mem_of_find?_eq_some hf
    have e1 : q.1 = i := by simpa using h1
    have e2 : q.2 = v := Option.some.inj h
    rw [← e1, ← e2]
    exact h2
theorem lk_at {D : Dt} {M : Mm} {L : List (Nat × VV)} {ls : Array Slot} {n i : Nat} {v : VV} (hl : lv_has ls n (cvL D M L)) (h : lk L i = some v) : ls[i]? = some (.val (cv D M v)) :=
  hl.2.2 (i, cv D M v) (List.mem_map.mpr ⟨(i, v), lk_mem h, rfl⟩)
/-- what is left of the locals behind a store at i -/
def lst (L : List (Nat × VV)) (i : Nat) (v : VV) : List (Nat × VV) := (i, v) :: L.filter (fun q => !(q.1 == i))
def isLong (v : VV) : Bool := v.1 == 2
def lokst (L : List (Nat × VV)) (i : Nat) : Bool := L.all (fun q => !(q.1 + 1 == i && isLong q.2))
theorem cv_cat (D : Dt) (M : Mm) (v : VV) : (cv D M v).category = if isLong v = true then 2 else 1 := by
  obtain ⟨t, z⟩ := v
  show (tv D M t z).category = if (t == 2) = true then 2 else 1
  unfold tv
  by_cases h : t < 2
  · rw [if_pos h, if_neg (by simp; omega)]; rfl
  · rw [if_neg h]
    by_cases h2 : t = 2
    · rw [if_pos h2, if_pos (by simp [h2])]; rfl
    · rw [if_neg h2, if_neg (by simp [h2])]
      cases rf D M z <;> rfl
theorem lst_sub {D : Dt} {M : Mm} {L : List (Nat × VV)} {i n : Nat} {v : VV} {ls' : Array Slot} (ho : lokst L i = true)
    (h : lv_has ls' n ((i, cv D M v) :: (cvL D M L).filter (fun q => !(q.1 == i) && !(q.1 + 1 == i && q.2.category == 2)))) : lv_has ls' n (cvL D M (lst L i v)) := by
  refine ⟨h.1, h.2.1, fun q hq => h.2.2 q ?_⟩
  obtain ⟨q0, h0, rfl⟩ := List.mem_map.mp hq
  rcases List.mem_cons.mp h0 with rfl | h0
  · exact List.mem_cons_self
  · refine List.mem_cons_of_mem _ ?_
    obtain ⟨g1, g2⟩ := List.mem_filter.mp h0
    refine List.mem_filter.mpr ⟨List.mem_map.mpr ⟨q0, g1, rfl⟩, ?_⟩
    have g3 := List.all_eq_true.mp ho q0 g1
    simp only [Bool.and_eq_true]
    refine ⟨g2, ?_⟩
    show (!(q0.1 + 1 == i && (cv D M q0.2).category == 2)) = true
    rw [cv_cat]
    cases hL : isLong q0.2 with
    | true => rw [hL] at g3; simpa using g3
    | false => simp
theorem lst_ok {M : Mm} {L : List (Nat × VV)} {i : Nat} {v : VV} (hL : ∀ q ∈ L, okV M q.2) (hv : okV M v) : ∀ q ∈ lst L i v, okV M q.2 := by
  intro q hq
  rcases List.mem_cons.mp hq with rfl | hq
  · exact hv
  · exact hL q (List.mem_filter.mp hq).1
theorem ok_cons {M : Mm} {v : VV} {st : List VV} (hv : okV M v) (hS : ∀ v ∈ st, okV M v) : ∀ u ∈ v :: st, okV M u := fun _ hu => (List.mem_cons.mp hu).elim (fun e => e ▸ hv) (hS _)
theorem ok_tl {M : Mm} {v : VV} {st : List VV} (hS : ∀ u ∈ v :: st, okV M u) : ∀ u ∈ st, okV M u := fun u hu => hS u (List.mem_cons_of_mem _ hu)
theorem ok_hd {M : Mm} {v : VV} {st : List VV} (hS : ∀ u ∈ v :: st, okV M u) : okV M v := hS v List.mem_cons_self
theorem cvL_up {D : Dt} {M M' : Mm} {L : List (Nat × VV)} (hL : ∀ q ∈ L, okV M q.2) (hg : Gr M M') : cvL D M' L = cvL D M L := List.map_congr_left fun q hq => by rw [show cv D M' q.2 = cv D M q.2 from tv.up (hL q hq) hg]
theorem cvS_up {D : Dt} {M M' : Mm} {st : List VV} (hS : ∀ v ∈ st, okV M v) (hg : Gr M M') : cvS D M' st = cvS D M st := List.map_congr_left fun v hv => tv.up (hS v hv) hg
theorem okL_up {M M' : Mm} {L : List (Nat × VV)} (hL : ∀ q ∈ L, okV M q.2) (hg : Gr M M') : ∀ q ∈ L, okV M' q.2 := fun q hq => (hL q hq).up hg
theorem okS_up {M M' : Mm} {st : List VV} (hS : ∀ v ∈ st, okV M v) (hg : Gr M M') : ∀ v ∈ st, okV M' v := fun v hv => (hS v hv).up hg
section PSR
variable {D : Dt} {μ : MI} {pc pc' : Nat} {L L' : List (Nat × VV)} {st st' : List VV} {M : Mm}
/-- a step that leaves the memory as it is; the locals too -/
theorem St.of (hok : (∀ q ∈ L, okV M q.2) → (∀ v ∈ st, okV M v) → WT M → ∀ v ∈ st', okV M v)
    (h : ∀ (l : Launch) (p : Program) (e : Env) (R : Room) (s : State) (m : MethodId) (args : Array Value) (below : List Frame) (meth : Method) (c : Code) (H : Heap) (locs : List Loc) (ls : Array Slot) (cells slots : Nat) (Q : State → Prop),
      (∀ q ∈ L, okV M q.2) → (∀ v ∈ st, okV M v) → WT M → Cx D μ l p R s m args meth c → Enc D M H → va_S (fun q => dlo D ≤ q) s.heap H locs → lv_has ls μ.2.2.1 (cvL D M L) →
      W p l e R s m args below meth c H locs cells slots Q (F0 m pc' ls (cvS D M st')) →
      W p l e R s m args below meth c H locs cells slots Q (F0 m pc ls (cvS D M st))) : St D μ pc L st M pc' L st' M :=
  ⟨fun hL hS hW => ⟨hL, hok hL hS hW, hW, Gr.rf, rfl⟩, fun l p e R s m args below meth c H locs ls cells slots Q hL hS hW C En S hl _ _ k => h l p e R s m args below meth c H locs ls cells slots Q hL hS hW C En S hl (by
    have k2 := k H locs ls En S hl
    rw [Nat.sub_self, Nat.sub_self, Nat.add_zero, Nat.add_zero] at k2
    exact k2)⟩
/-- a step that alters a local -/
theorem St.ofL (hok : (∀ q ∈ L, okV M q.2) → (∀ v ∈ st, okV M v) → (∀ q ∈ L', okV M q.2) ∧ ∀ v ∈ st', okV M v)
    (h : ∀ (l : Launch) (p : Program) (e : Env) (R : Room) (s : State) (m : MethodId) (args : Array Value) (below : List Frame) (meth : Method) (c : Code) (H : Heap) (locs : List Loc) (ls : Array Slot) (cells slots : Nat) (Q : State → Prop),
      Cx D μ l p R s m args meth c → lv_has ls μ.2.2.1 (cvL D M L) →
      (∀ ls' : Array Slot, lv_has ls' μ.2.2.1 (cvL D M L') → W p l e R s m args below meth c H locs cells slots Q (F0 m pc' ls' (cvS D M st'))) →
      W p l e R s m args below meth c H locs cells slots Q (F0 m pc ls (cvS D M st))) : St D μ pc L st M pc' L' st' M :=
  ⟨fun hL hS hW => ⟨(hok hL hS).1, (hok hL hS).2, hW, Gr.rf, rfl⟩, fun l p e R s m args below meth c H locs ls cells slots Q hL hS hW C En S hl _ _ k => h l p e R s m args below meth c H locs ls cells slots Q C hl (fun ls' hl' => by
    have k2 := k H locs ls' En S hl'
    rw [Nat.sub_self, Nat.sub_self, Nat.add_zero, Nat.add_zero] at k2
    exact k2)⟩
end PSR
