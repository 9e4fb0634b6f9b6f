/-! THE CLAIM OUT OF ONE WALK OF THE LAW'S BODY. Your part is whole_start (and what it stands on); all else here is the same for every law, but numbers. -/
def R_law : String := "MessageBrokerLaw"
def lw_P (b : Addr) (xs : List Int32) (args : Array Value) (s : State) : Prop := args = #[.ref b] ∧ s.IntsAt b xs ∧ xs.length ≤ 260 ∧ (Jvm.Cond.and given_1 narrow_1).before args s = true
def lw_Q (_ : Array Value) (s : State) (o : Outcome) (t : State) : Prop := o = .returned (some (.int 1)) ∧ Framed s o t [] 669551 7093046
def lw_Z (below : List Frame) (a : Array Value) (s : State) : State → Prop := fun t => ∃ o, t.status = .running ∧ Ended t below o ∧ lw_Q a s o t
/-- the law's own end, with 1 on the stack, nothing written that was there before, its room as the claim has it -/
theorem lw_ret {p : Program} {l : Launch} {e : Env} {s : State} {m : MethodId} {below : List Frame} {meth : Method} {c : Code} {b : Nat} (hx : p.tables.exec = Jvm.exec) (hb : c.code = code) (hr : meth.sig.returnType = ret) (hlocks : meth.locks = false) {pc : Nat} {H : Heap} {ls : Array Slot} (hdg : decode code pc = .ok (.ireturn, 1)) : W p l e room_1 s m #[Value.ref b] below meth c H [] 669551 7093046 (lw_Z below #[Value.ref b] s) (F0 m pc ls [.int 1]) := by
  intro T hT X
  obtain ⟨fs, hret, hrun, hended, hW, hframe⟩ := X.leave (v := some (.int 1)) (hlocks := hlocks) (fun h => by rw [hr] at h; cases h)
  have hmeth' : T.vm.method? m = some meth := X.method'
  refine ⟨T.setFrames fs, ?_, .returned (some (.int 1)), hrun, hended, rfl, ⟨_, rfl⟩, hW, hframe⟩
  jvm_step X.here [X.here.top, hx, hb, hdg, hmeth', hr, ret, narrow_b1]
  (try refine ⟨rfl, ?_⟩); (try refine ⟨rfl, ?_⟩)
  first | (intro acts; rw [hret _ acts rfl rfl rfl]) | rw [hret _ _ rfl rfl rfl]
  exact Steps.refl _
/-- what holds at the law's entry: the machine, the code, the tables' words (any of lw_tbl by 'hts w (by decide +kernel)'), the script of L ints xs at the cell b, what the Statement gives of the start (any of its parts by flat_of_before) -/
def lw_At (p : Program) (s : State) (m : MethodId) (meth : Method) (c : Code) (b L : Nat) (xs : Nat → Int32) : Prop :=
  p.tables.exec = Jvm.exec ∧ c.code = code ∧ meth.sig.returnType = ret ∧ c.maxLocals = 7 ∧ s.vm.findClass R_law = some m.cls ∧ (∀ w ∈ lw_tbl, w.before #[Value.ref b] s = true) ∧ va_X b L xs s s.heap ∧ b < s.heap.size ∧ meth.locks = false ∧ (Jvm.Cond.and given_1 narrow_1).before #[Value.ref b] s = true
-- ===== our part =====
theorem ln_150 {a : Int} (h : 15000 ≤ a) : ln a ≤ 150 := by
  unfold ln
  rw [if_neg (by omega), if_neg (by omega), if_neg (by omega)]
  rw [if_neg (by omega)]
  repeat' split
  all_goals decide
theorem nf_b (c : Nat) : nf c ≤ 68 := by
  unfold nf
  by_cases hc : c < ftl.length
  · have h1 : ftl.getD c [] ∈ ftl := by rw [List.getD_eq_getElem?_getD, List.getElem?_eq_getElem hc]; exact List.getElem_mem hc
    have h2 : ∀ l ∈ ftl, l.length ≤ 68 := by decide
    exact h2 _ h1
  · rw [List.getD_eq_getElem?_getD (l := ftl), List.getElem?_eq_none (by omega)]
    exact Nat.zero_le _
theorem sz_b1 (a : Int) : sz a ≤ 540 := by
  unfold sz
  split
  · have := nf_b (kd a - 1); omega
  · have := (ln_b a).2; omega
theorem sz_b2 {i : Nat} (h : ¬ (13000 ≤ i ∧ i < 15000)) : sz (i : Int) ≤ 150 := by
  unfold sz
  split
  · have := nf_b (kd (i : Int) - 1); omega
  · next hk =>
    have h1 : 15000 ≤ (i : Int) := by unfold kd at hk; omega
    have := ln_150 h1; omega
theorem sm_b {f : Nat → Nat} (h1 : ∀ i, f i ≤ 540) (h2 : ∀ i, ¬ (13000 ≤ i ∧ i < 15000) → f i ≤ 150) : ∀ n, sm f n ≤ 150 * n + 390 * (min n 15000 - 13000)
  | 0 => Nat.zero_le _
  | n + 1 => by
    show sm f n + f n ≤ _
    have ih := sm_b h1 h2 n
    by_cases q : 13000 ≤ n ∧ n < 15000
    · have := h1 n; omega
    · have := h2 n q; omega
theorem sm_1 {f : Nat → Nat} (h : ∀ i, f i ≤ 1) : ∀ n, sm f n ≤ n
  | 0 => Nat.le_refl _
  | n + 1 => by
    show sm f n + f n ≤ _
    have := sm_1 h n; have := h n; omega
theorem sm_0 {f : Nat → Nat} (h : ∀ i, f i = 0) : ∀ n, sm f n = 0
  | 0 => rfl
  | n + 1 => by
    show sm f n + f n = 0
    rw [sm_0 h n, h n]
theorem m0_ad (a : Int) : mAd M0 a = 0 := rfl
theorem m0_wt : WT M0 := by
  refine ⟨fun a ha => ?_, ?_, ?_⟩
  · rw [m0_ad] at ha; exact absurd ha (Nat.lt_irrefl 0)
  · rw [sm_0 (fun i => if_pos (m0_ad _))]; rfl
  · rw [sm_0 (fun i => if_pos (m0_ad _))]; rfl
theorem cn_room {M : Mm} (h : WT M) (ht : mT M ≤ 237412) : mX M ≤ 669551 ∧ mS M ≤ 7093046 := by
  obtain ⟨-, h1, h2⟩ := h
  have a1 := sm_1 (f := fun i => if mAd M (i : Int) = 0 then 0 else 1) (fun i => by split <;> omega) NU
  have a2 := sm_b (f := fun i => if mAd M (i : Int) = 0 then 0 else sz (i : Int)) (fun i => by
    split
    · omega
    · exact sz_b1 _) (fun i hi => by
    split
    · omega
    · exact sz_b2 hi) NU
  have e : NU = 28000 := rfl
  constructor
  · rw [h1]; rw [e] at a1 ⊢; omega
  · rw [h2]; rw [e] at a2 ⊢; omega
/-- from the entry, for every script of at most 260 ints, the law comes to its end with true -/
theorem whole_start {p : Program} {e : Env} {s : State} {m : MethodId} {below : List Frame} {meth : Method} {c : Code} (l : Launch) (hflags : l.flags = flags0) {b L : Nat} {xs : Nat → Int32} (hL : L ≤ 260) (C0 : lw_At p s m meth c b L xs) (hnm : meth.name = "law") (htab : c.exceptionTable.toList = []) : W p l e room_1 s m #[Value.ref b] below meth c s.heap [] 0 0 (lw_Z below #[Value.ref b] s) (entryFrame m ([Value.ref b] : List Value).toArray 7) := by
  obtain ⟨hx, hbc, hret, hml, hown, hts, hX, hbl, hlk, hgv⟩ := C0
  obtain ⟨D, hK, hlo, hb, hl, hxs⟩ := kk_start hts hX hbl hL hgv
  obtain ⟨M', hr⟩ := law_all48 (sl := (L : Int)) (sc := fun i => (xs i.toNat).toInt) (by omega) (by omega)
  have hr' : p_L_law M0 (D.2.2.2.2.2.1 : Int) (fun i => (D.2.2.2.2.2.2 i.toNat).toInt) = some (1, M') := by rw [hl, hxs]; exact hr
  obtain ⟨⟨hG, -, hW', hT'⟩, hXW⟩ := xe_L_law (D := D) (M := M0) (1, M') hr' (fun q hq => by
    cases List.mem_singleton.mp hq
    exact Or.inr (Or.inl ⟨rfl, rfl⟩)) (fun _ h => nomatch h) m0_wt
  have hT1 : mT M' ≤ 237412 := hT'
  obtain ⟨r1, r2⟩ := cn_room hW' hT1
  have hst : l.stackTraces = false := by unfold Launch.stackTraces; rw [hflags]; decide +kernel
  have hEnc : Enc D M0 s.heap := ⟨by rw [hlo]; rfl, fun a ha => absurd ha (Nat.lt_irrefl 0), fun a _ ha => absurd ha (Nat.lt_irrefl 0)⟩
  have hlv := lv_entry [Value.ref b] (n := 7) (Nat.le_of_ble_eq_true rfl)
  have hcv : lv_args 0 [Value.ref b] = cvL D M0 [(0, (100, (-1)))] := by
    show [(0, Value.ref b)] = [(0, va_rf (rf D M0 (-1)))]
    rw [show rf D M0 (-1) = some D.2.2.2.2.1 from rfl, hb]
    rfl
  rw [hcv] at hlv
  have key := hXW l p e room_1 s m #[Value.ref b] below meth c s.heap [] _ 669551 7093046 0 0 ⟨hx, hbc, hml, hown, fun w hw => hts w (List.mem_filter.mp hw).1, hret, hlk, hst, hK, by decide, by decide, hnm, htab⟩ hEnc va_S.rf hlv (by omega) (by omega) (Nat.le_refl _) (Nat.le_refl _)
  rw [lg_entry_eq]
  intro T hT X
  obtain ⟨t, a1, o, b1, b2, b3⟩ := key T hT X
  refine ⟨t, a1, o, b1, b2, ?_⟩
  rcases b3 with ⟨⟨⟨v, hv, ho⟩, -, -⟩, Lc, ⟨hF1, hF2, hF3⟩, hfree⟩ | ⟨q, -, E, ce, L9, hxc, -⟩
  · cases hv
    refine ⟨ho, hF1, hF2, ?_⟩
    obtain ⟨f1, f2, f3, f4, f5, f6⟩ := hF3
    refine ⟨f1, f2, f3, f4, f5, fun a cc ha => ?_⟩
    obtain ⟨c', g1, g2, g3, g4⟩ := f6 a cc ha
    refine ⟨c', g1, g2, g3, fun i _ => g4 i fun hin => ?_⟩
    have h1 : dlo D ≤ a := hfree _ hin
    have h2 : a < s.heap.size := (Array.getElem?_eq_some_iff.mp ha).1
    rw [hlo] at h1
    exact absurd h2 (Nat.not_lt.mpr h1)
  · exact nomatch hxc.1
set_option maxHeartbeats 4000000 in
theorem lw_walk (l : Launch) (hflags : l.flags = flags0) (b : Addr) (xs : List Int32) : MetFree l x (headSpec (Jvm.Cond.code x code maxLocals ret :: tables_1) room_1) (lw_P b xs) (fun _ _ _ _ _ => True) lw_Q := by
  refine MetFree.of_bodyS (code := code) (maxLocals := maxLocals) (ret := ret) (by decide) ?_ ?_
  · intro args s m h hn
    obtain ⟨meth, c, h1, h2, h3, h4, h5, h6, -, -⟩ := Cond.code_spec hn (atoms_spec (ws := Jvm.Cond.code x code maxLocals ret :: tables_1) h _ List.mem_cons_self)
    exact ⟨meth, c, h1, h2, h3, h4, h5, h6⟩
  · intro p e s m args below meth c s₁ B hml0 hP _
    obtain ⟨rfl, hx, hbd, hgv⟩ := hP
    obtain ⟨scr, harrAt, hlist, hof, hsmall⟩ := hx
    obtain ⟨hcb, hkn, -, -⟩ := State.arrayAt?_spec harrAt
    have hown : s.vm.findClass R_law = some m.cls := findClass_of_methodNamed B.named
    have hts0 : ∀ c ∈ (Jvm.Cond.code x code maxLocals ret :: tables_1), c.before #[Value.ref b] s = true := atoms_spec (ws := Jvm.Cond.code x code maxLocals ret :: tables_1) B.pre
    have hts : ∀ w ∈ lw_tbl, w.before #[Value.ref b] s = true := k2_hts_sels lw_privs (fun w hw => hts0 w (List.mem_cons_of_mem _ hw)) lw_privs_ok
    have hml : c.maxLocals = 7 := B.maxLocals_eq (hts0 _ List.mem_cons_self)
    have X₀ : Stand p l e room_1 s m #[Value.ref b] below meth c s₁ [] 0 0 := Stand.of_body B
    have htab : c.exceptionTable.toList = [] := by
      obtain ⟨meth9, c9, h1, h2, -, -, -, -, h7, -⟩ := Cond.code_spec B.named (hts0 _ List.mem_cons_self)
      cases Option.some.inj (h1.symm.trans B.method)
      cases Option.some.inj (h2.symm.trans X₀.code)
      rw [Array.isEmpty_iff.mp h7]
    have hh0 : s₁.heap = s.heap := by rw [B.state]; rfl
    have hsz : scr.slots.size = xs.length := by rw [← Array.length_toList, hlist, List.length_map]
    have hval : ∀ j : Nat, j < xs.length → scr.slots[j]? = some (.int (xs.getD j 0)) := fun j hj => by
      rw [← Array.getElem?_toList, hlist]
      simp [hj]
    have hbl : b < s.heap.size := (Array.getElem?_eq_some_iff.mp hcb).1
    have hX : va_X b xs.length (fun j => xs.getD j 0) s s.heap := ⟨scr, hcb, hof, hkn, hsz, hval⟩
    have K : W p l e room_1 s m #[Value.ref b] below meth c s₁.heap [] 0 0 (lw_Z below #[Value.ref b] s) (entryFrame m ([Value.ref b] : List Value).toArray 7) := by
      rw [hh0]
      exact whole_start l hflags hbd ⟨B.exec, B.bytes, B.returns, hml, hown, hts, hX, hbl, B.notSynchronized, hgv⟩ (name_of_methodNamed B.named B.method).1 htab
    obtain ⟨t, a1, o, b1, b2, b3⟩ := K s₁ rfl X₀
    exact ⟨t, o, a1, b1, b2, b3⟩
theorem lw_pre_spec {args : Array Value} {s : State} (h : (Jvm.Cond.and given_1 narrow_1).before args s = true) (hr : rest_1_c.before args s = true) : ∃ (b : Addr) (xs : List Int32), lw_P b xs args s := by
  have hs := flat_of_before _ h
  have hq := flat_of_before _ hr
  have hc : (Cond.count 1).before args s = true := hs _ (by decide +kernel)
  have harr : (Cond.arrayOf (.arg 0) .int).before args s = true := hs _ (by decide +kernel)
  have hle : (Cond.le (.length (.arg 0)) (.int 260)).before args s = true := hs _ (by decide +kernel)
  have hlen : (Cond.isInt (.length (.arg 0))).before args s = true := hq _ (by decide +kernel)
  have hall : (Cond.all (.arg 0) (.isInt (.elem (.arg 0) (.index 0)))).before args s = true := hq _ (by decide +kernel)
  obtain ⟨b, xs, hb, hx⟩ := State.ints_of_pre rfl harr hlen hall
  have hsm : xs.length < 2 ^ 31 := hx.choose_spec.2.2.2
  have hev : (Term.length (.arg 0)).eval args s none [] s = some (.int xs.length.toInt32) := hx.length_eval hb
  have hv := Cond.le_ints hev (show (Term.int 260).eval args s none [] s = some (.int 260) from rfl)
  have hd : xs.length.toInt32 ≤ 260 := by
    simpa [Cond.before, Cond.holds, hv] using hle
  have hN : xs.length ≤ 260 := (Int32.ofNat_le_ofNat hsm (by decide)).mp (show Int32.ofNat xs.length ≤ Int32.ofNat 260 from hd)
  exact ⟨b, xs, Cond.one_arg hc (show args[0]? = some (.ref b) from hb), hx, hN, h⟩
theorem lw_comes (l : Launch) (hflags : l.flags = flags0) : Comes l x (Jvm.Cond.code x code maxLocals ret :: tables_1) room_1 (fun tb e args s => Calls_1 tb e args s ∧ rest_1 tb e args s ∧ Pre_1 tb e args s)
    (fun _ _ args s o t => lw_Q args s o t) := by
  intro p e ha hc hk s m args below hf hfit hheap happ hpre
  obtain ⟨b, xs, hP⟩ := lw_pre_spec hpre.2.2 hpre.2.1
  obtain ⟨k, o, h1, h2, h3, hQ⟩ := lw_walk l hflags b xs p e ha hc hk s m args below hf ((Spec.applies_iff_loose hf).mp happ).1 hP trivial
  exact ⟨k, o, h1, h2, h3, hQ⟩
theorem lw_frame {s t : State} {o : Outcome} {args : Array Value} (h : Framed s o t [] 669551 7093046) :
    Framed s o t (fieldLocs frame_1_writes args s ++ arrayLocs frame_1_arrays args s ++ staticLocs frame_1_statics s) 669551 7093046 := h
theorem lw_limb (L : Cond) (hL : ∀ (args : Array Value) (s t : State), L.after args s (.returned (some (.int 1))) t = true) :
    ArmFor flags0 classFile x code maxLocals ret World_1 tables_1 room_1 Calls_1 rest_1 Pre_1
      (fun tb e a s o t => postC L tb e a s o t ∧ Framed s o t (fieldLocs frame_1_writes a s ++ arrayLocs frame_1_arrays a s ++ staticLocs frame_1_statics s) 669551 7093046) := by
  intro l hflags _ _ p e ha hc hk s m args below hf hfit hheap happ hpre
  obtain ⟨k, o, h1, h2, h3, rfl, hF⟩ := lw_comes l hflags p e ha hc hk s m args below hf hfit hheap happ hpre
  exact ⟨k, _, h1, h2, h3, hL args s _, lw_frame hF⟩
theorem i_vc : Claimed_1_1 ∧ Claimed_1_2 := ⟨lw_limb limb_1_1 (fun args s t => by simp [limb_1_1, Cond.after, Cond.holds, Cond.value]), lw_limb limb_1_2 (fun args s t => Cond.after_iff.mpr (by
  first | (rw [show limb_1_2 = Cond.eq .result (.int 1) from rfl, Cond.eq_ints (x := 1) (y := 1) rfl rfl]; simp; done) | (simp [limb_1_2, Cond.value, Term.eval]; done)))⟩
