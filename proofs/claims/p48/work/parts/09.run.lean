/-! CALLS -/
theorem bg_t {w : Cond} (i : Nat) (h : tables_1[i]? = some w) (hg : goodWord w = true) : w ∈ Big := List.mem_filter.mpr ⟨List.mem_append_right _ (List.mem_of_getElem? h), hg⟩
theorem bg_s {w : Cond} (i : Nat) (h : (k2_sels lw_privs)[i]? = some w) (hg : goodWord w = true) : w ∈ Big := List.mem_filter.mpr ⟨List.mem_append_left _ (List.mem_of_getElem? h), hg⟩
theorem goodIn_big {ws : List Cond} (h : ∀ w ∈ ws, w ∈ Big) : GoodIn Big ws := fun w hw => ⟨h w hw, good_of_word (big_good (h w hw))⟩
def stw (st : List VV) : Nat := (st.map fun v => if isLong v = true then 2 else 1).sum
theorem stw_eq {D : Dt} {M : Mm} : ∀ (st : List VV), ((cvS D M st).map fun v => v.category).sum = stw st
  | [] => rfl
  | v :: st => by
    have ih := stw_eq (D := D) (M := M) st
    show (cv D M v).category + ((cvS D M st).map fun v => v.category).sum = (if isLong v = true then 2 else 1) + stw st
    rw [ih, cv_cat]
def CallOK (μ μy : MI) (index n : Nat) : Prop := Cond.methodLink μ.1.cls index μy.1 ∈ Big ∧ Cond.initialized μy.1.cls ∈ Big ∧ mw μy ∈ Big ∧
  (μy.1.cls ≠ "java/lang/invoke/MethodHandle" ∧ μy.1.cls ≠ "java/lang/invoke/VarHandle" ∧ (parseMethodDescriptor μy.1.desc).map (fun d => d.parameters.length) = some n) ∧
  μy.2.2.2.2.1 + 1 ≤ μ.2.2.2.2.1 ∧ 8 + (μy.2.2.1 + 11) + μy.2.2.2.2.2.1 ≤ μ.2.2.2.2.2.1
def CallV (μ μy : MI) (index n c : Nat) : Prop := CallOK μ μy index n ∧ Cond.instanceMethod μy.1 ∈ Big ∧ Cond.selects μy.1.cls μy.1 μy.1 ∈ Big ∧ μy.2.2.2.2.2.2 = [] ∧ ∃ T N, ClsOK c μy.1.cls T N
def CallS (μ μy : MI) (index n : Nat) : Prop := CallOK μ μy index n ∧ Cond.static μy.1 ∈ Big
def CallI (μ μy : MI) (index n : Nat) : Prop := CallOK μ μy index n ∧ Cond.instanceMethod μy.1 ∈ Big ∧ μy.1.name = "<init>" ∧ μy.2.2.2.1 = none ∧ μy.2.2.2.2.2.2 = []
section RUN
variable {D : Dt} {κ : Nat} {μ μy : MI} {pc pc' : Nat} {L : List (Nat × VV)} {st st0 : List VV} {M M1 M' : Mm} {o o1 : Oc}
theorem pcm_blind {avs : List VV} : FrameBlind (PcM D avs M) := fun _ U _ _ h => ⟨h.1, h.2.1, KK.moved h.2.2 (State.WarmedH.refl U) h.2.2.2.2.2.2.2.2.2.2.2.1 (fun _ _ => rfl)⟩
theorem pcm_pre {avs : List VV} {s : State} {H : Heap} {locs : List Loc} (En : Enc D M H) (hK : KK D s) (S : va_S (fun q => dlo D ≤ q) s.heap H locs) (U : State) (hU : U.heap = H) (hW : s.WarmedH U.vm) : PcM D avs M (cvS D M avs).toArray U :=
  ⟨rfl, by rw [hU]; exact En, KK.moved hK hW (by rw [hU, En.1]; omega) (fun q hq => by rw [hU]; exact S.2.1 q (by have := hK.2.2.2.2.2.2.2.2.2.1; omega) (by omega))⟩
theorem W_run {p : Program} {l : Launch} {e : Env} {R : Room} {s : State} {m : MethodId} {args : Array Value} {below : List Frame} {meth : Method} {c : Code} {H : Heap} {locs : List Loc} {cells slots mc ms : Nat} {Q : State → Prop} {ls : Array Slot} {sv rest : List Value} {as : Array Value}
    (hr : vx_Run p l e R s m args below meth c H locs cells slots mc ms (F0 m pc ls sv) rest (Qc D o1 M1 as) (XC D o1 M1) (fun q => dlo D ≤ q)) (S : va_S (fun q => dlo D ≤ q) s.heap H locs)
    (kk : ∀ (v : Option VV) (H1 : Heap) (locs1 : List Loc), o1 = .inl v → Enc D M1 H1 → va_S (fun q => dlo D ≤ q) s.heap H1 locs1 → W p l e R s m args below meth c H1 locs1 (cells + mc) (slots + ms) Q (F0 m (pc + 3) ls ((v.map (cv D M1)).toList ++ rest)))
    (kx : ∀ (E : String) (ce : Cell) (q : Addr) (H1 : Heap) (locs1 : List Loc), o1 = .inr E → Enc D M1 H1 → va_S (fun q => dlo D ≤ q) s.heap H1 locs1 → H1[q]? = some ce → ce.vm = .none → s.vm.findClass E = some ce.cls → vx_W p l e R s m args below meth c H1 locs1 (cells + mc) (slots + ms) Q (F0 m pc ls rest) q) :
    W p l e R s m args below meth c H locs cells slots Q (F0 m pc ls sv) := by
  intro T hT X
  rcases hr T hT X with ⟨v, st₀, t, T', L, h0, X', hL, e1, e2, ⟨⟨v', hv, hv2⟩, hEn, hF⟩, st⟩ | ⟨q, st₀, t, T', L, E, ce, h0, X', hL, e1, e2, ⟨hE, hEn, hF⟩, hce, hcv, hcl, st⟩
  · cases hv2
    obtain ⟨-, -, k3⟩ := vx_keep h0 e1 S (fun _ _ h => h) (fun _ h => h) hL hF
    obtain ⟨t2, a1, b1⟩ := kk v' T'.heap (locs ++ L) hv (by rw [e1]; exact hEn) k3 T' rfl X'
    exact ⟨t2, st t2 a1, b1⟩
  · obtain ⟨-, -, k3⟩ := vx_keep h0 e1 S (fun _ _ h => h) (fun _ h => h) hL hF
    obtain ⟨t2, a1, b1⟩ := kx E ce q T'.heap (locs ++ L) hE (by rw [e1]; exact hEn) k3 (by rw [e1]; exact hce) hcv hcl T' rfl X'
    exact ⟨t2, st.trans a1, b1⟩
def RunOK (D : Dt) (μ : MI) (pc : Nat) (L : List (Nat × VV)) (st0 st : List VV) (M : Mm) (o1 : Oc) (M1 : Mm) : Prop :=
  ∀ (l : Launch) (p : Program) (e : Env) (R : Room) (s : State) (m : MethodId) (args : Array Value) (below : List Frame) (meth : Method) (c : Code) (H : Heap) (locs : List Loc) (ls : Array Slot) (cells slots : Nat),
    (∀ v ∈ st0, okV M v) → WT M → Cx D μ l p R s m args meth c → Enc D M H → va_S (fun q => dlo D ≤ q) s.heap H locs → lv_has ls μ.2.2.1 (cvL D M L) → cells + (mX M1 - mX M) ≤ R.cells → slots + (mS M1 - mS M) ≤ R.slots →
    ∃ as : Array Value, vx_Run p l e R s m args below meth c H locs cells slots (mX M1 - mX M) (mS M1 - mS M) (F0 m pc ls (cvS D M st0)) (cvS D M st) (Qc D o1 M1 as) (XC D o1 M1) (fun q => dlo D ≤ q)
theorem X_call {κ1 κ2 : Nat} (hP : (∀ v ∈ st0, okV M v) → WT M → (∀ v ∈ st, okV M v) ∧ Post κ1 M o1 M1) (run : RunOK D μ pc L st0 st M o1 M1) (hκ : κ = κ1 + κ2) (hpc : pc + 3 = pc')
    (kr : ∀ v, o1 = .inl v → X D κ2 μ pc' L (v.toList ++ st) M1 o M') (kx : ∀ E, o1 = .inr E → o = .inr E ∧ M' = M1 ∧ μ.2.2.2.2.2.2 = []) : X D κ μ pc L st0 M o M' := by
  subst hpc
  intro hL hS hW
  obtain ⟨hst, g1, g2, g3, g4⟩ := hP hS hW
  cases o1 with
  | inl v =>
    have hS1 : ∀ u ∈ v.toList ++ st, okV M1 u := fun u hu => by
      rcases List.mem_append.mp hu with h | h
      · cases v with
        | none => exact nomatch h
        | some v0 =>
          have : u = v0 := by simpa using h
          subst this
          exact g2
      · exact (hst u h).up g1
    obtain ⟨⟨a1, a2, a3, a4⟩, a5⟩ := kr v rfl (okL_up hL g1) hS1 g3
    refine ⟨⟨g1.tr a1, a2, a3, ?_⟩, fun l p ev R s m args below meth c H locs ls mc ms cells slots C En S hl hc hs hmc hms => ?_⟩
    · unfold TB at g4 a4 ⊢
      subst hκ
      have g4 : mT M1 ≤ mT M + κ1 + 0 := g4
      omega
    · have q1 := g1.1; have q2 := g1.2.1; have q3 := a1.1; have q4 := a1.2.1
      obtain ⟨as, hr⟩ := run l p ev R s m args below meth c H locs ls cells slots hS hW C En S hl (by omega) (by omega)
      refine W_run hr S (fun v' H1 locs1 hv En1 S1 => ?_) (fun E ce q H1 locs1 hE => nomatch hE)
      cases hv
      have h9 := a5 l p ev R s m args below meth c H1 locs1 ls mc ms (cells + (mX M1 - mX M)) (slots + (mS M1 - mS M)) C En1 S1 (by rw [cvL_up hL g1]; exact hl) (by omega) (by omega) hmc hms
      rw [show cvS D M1 (v.toList ++ st) = (v.map (cv D M1)).toList ++ cvS D M st from by
        rw [cvS, List.map_append]
        congr 1
        · cases v <;> rfl
        · exact cvS_up hst g1] at h9
      exact h9
  | inr E =>
    obtain ⟨rfl, rfl, hh⟩ := kx E rfl
    refine ⟨⟨g1, trivial, g3, ?_⟩, fun l p ev R s m args below meth c H locs ls mc ms cells slots C En S hl hc hs hmc hms => ?_⟩
    · unfold TB at g4 ⊢
      subst hκ
      have g4 : mT M' ≤ mT M + κ1 + 1 := g4
      show mT M' ≤ mT M + (κ1 + κ2) + 1
      omega
    · obtain ⟨as, hr⟩ := run l p ev R s m args below meth c H locs ls cells slots hS hW C En S hl (by omega) (by omega)
      refine W_run hr S (fun v' H1 locs1 hv => nomatch hv) (fun E' ce q H1 locs1 hE En1 S1 hce hcv hcl => ?_)
      cases hE
      exact vx_out (by rw [C.ex, hh]; exact fun _ h => nomatch h) C.lock hce hcv hcl (fun t ht _ => ⟨rfl, by rw [ht]; exact En1, S1.F ht⟩) S1.2.2 (by omega) (by omega)
theorem CT.post {avs : List VV} {κ1 : Nat} (hct : CT D κ1 μy avs M o1 M1) (hst0 : st0 = avs.reverse ++ st) : (∀ v ∈ st0, okV M v) → WT M → (∀ v ∈ st, okV M v) ∧ Post κ1 M o1 M1 := by
  intro hS hW
  subst hst0
  exact ⟨fun v hv => hS v (List.mem_append_right _ hv), (hct (fun v hv => hS v (List.mem_append_left _ (List.mem_reverse.mpr hv))) hW).1⟩
theorem cb_of {R : Room} {s : State} {args : Array Value} {index n : Nat} {m : MethodId} {meth : Method} {c : Code} {l : Launch} {p : Program} (K : CallOK μ μy index n) (hh : μy.2.2.2.2.2.2 = []) (C : Cx D μ l p R s m args meth c) :
    CallB R s args μ.1.cls index μy.1 μy.2.1 μy.2.2.1 μy.2.2.2.1 (mw μy :: Big) (rmOf μy M M1) (mX M1 - mX M) (mS M1 - mS M) n := by
  obtain ⟨k1, k2, k3, k4, k5, k6⟩ := K
  have h1 := C.fr; have h2 := C.lo
  have e : mw μy = Cond.code μy.1 μy.2.1 μy.2.2.1 μy.2.2.2.1 := by unfold mw; rw [hh]
  refine callB_of (ws' := Big) n C.big (goodIn_big fun w hw => ?_) (by rw [e]) rfl rfl (C.big _ k2) (C.big _ k1) k4 ⟨by show μy.2.2.2.2.1 + 1 ≤ R.frames; omega, by show 8 + (μy.2.2.1 + 11) + μy.2.2.2.2.2.1 ≤ R.locals; omega⟩
  rcases List.mem_cons.mp hw with rfl | h
  · exact k3
  · exact h
theorem run_V {index n c t0 κ1 : Nat} {a : Int} {as : List VV} (hd : decode μ.2.1 pc = .ok (.invokevirtual index, 3)) (K : CallV μ μy index n c) (hct : CT D κ1 μy ((t0, a) :: as) M o1 M1) (ht : t0 = c + 4) (ha : a ≠ 0) (hn : as.length = n) (hst0 : st0 = as.reverse ++ (t0, a) :: st) (hw : stw st ≤ 8) : RunOK D μ pc L st0 st M o1 M1 := by
  subst hst0; subst ht
  obtain ⟨K0, K1, K2, hh, T, N, hc, -⟩ := K
  have hc12 := vw_lt hc
  intro l p e R s m args below meth cd H locs ls cells slots hS hW C En S hl h1 h2
  have hav : ∀ v ∈ (c + 4, a) :: as, okV M v := fun v hv => hS v (by
    rcases List.mem_cons.mp hv with rfl | h
    · exact List.mem_append_right _ List.mem_cons_self
    · exact List.mem_append_left _ (List.mem_reverse.mpr h))
  obtain ⟨-, hM⟩ := hct hav hW
  have hra : okV M (c + 4, a) := hav _ List.mem_cons_self
  obtain ⟨g1, g2⟩ := tok_r hra (by show 4 ≤ c + 4; omega) (by show c + 4 ≠ 100; omega) ha
  have g1 : kd a = c + 1 := by have : kd a + 3 = c + 4 := g1; omega
  obtain ⟨cell, q1, q2, q3, -⟩ := cell_obj En g1 hc12 g2
  have hcr : cv D M (c + 4, a) = .ref (dlo D + (mAd M a - 1)) := cv_s hra (by omega) (by omega) ha
  have cw : CallW R s args μ.1.cls μy.1.cls index μy.1 μy.2.1 μy.2.2.1 μy.2.2.2.1 (mw μy :: Big) (rmOf μy M M1) (mX M1 - mX M) (mS M1 - mS M) n := ⟨cb_of K0 hh C, C.big _ K1, C.big _ K2⟩
  have hp : PreV s H μy.1.cls (dlo D + (mAd M a - 1)) (PcM D ((c + 4, a) :: as) M) (cvS D M as) := ⟨pcm_blind, ⟨cell, q1, by rw [q3]; rfl, by rw [q2]; exact (C.kk.1.1 c _ hc).2.1⟩, fun U hU hWm => by
    have h9 := pcm_pre (avs := (c + 4, a) :: as) En C.kk S U hU hWm
    rw [cvS, List.map_cons, hcr] at h9
    exact h9⟩
  exact ⟨_, vx_runV ⟨C.1, C.2.1, C.ml, C.own, C.big⟩ (hM l C.tr) cw hp rfl (by rw [cvS, List.length_map, hn]) hl.1 (by
    show cvS D M (as.reverse ++ (c + 4, a) :: st) = _
    rw [cvS, List.map_append, List.map_cons, hcr, List.map_reverse]) (by rw [stw_eq]; show 0 + stw st ≤ 8; omega) hd ⟨h1, h2⟩⟩
theorem run_S {index n κ1 : Nat} {as : List VV} (hd : decode μ.2.1 pc = .ok (.invokestatic index, 3)) (K : CallS μ μy index n) (hct : CT D κ1 μy as M o1 M1) (hn : as.length = n) (hst0 : st0 = as.reverse ++ st) (hw : stw st ≤ 8) : RunOK D μ pc L st0 st M o1 M1 := by
  subst hst0
  obtain ⟨K0, K1⟩ := K
  intro l p e R s m args below meth cd H locs ls cells slots hS hW C En S hl h1 h2
  obtain ⟨-, hM⟩ := hct (fun v hv => hS v (List.mem_append_left _ (List.mem_reverse.mpr hv))) hW
  have hp : PreS s H (PcM D as M) (cvS D M as) := ⟨pcm_blind, fun U hU hWm => pcm_pre En C.kk S U hU hWm⟩
  have hstk : cvS D M (as.reverse ++ st) = (cvS D M as).reverse ++ cvS D M st := by rw [cvS, List.map_append, List.map_reverse]
  have hM9 := hM l C.tr
  by_cases hh : μy.2.2.2.2.2.2 = []
  · exact ⟨_, vx_runS ⟨C.1, C.2.1, C.ml, C.own, C.big⟩ hM9 ⟨cb_of K0 hh C, C.big _ K1⟩ hp rfl (by rw [cvS, List.length_map, hn]) hl.1 hstk (by rw [stw_eq]; show 0 + stw st ≤ 8; omega) hd ⟨h1, h2⟩⟩
  · obtain ⟨k1, k2, k3, k4, k5, k6⟩ := K0
    have f1 := C.fr; have f2 := C.lo
    have e : mw μy = Cond.codeWith μy.1 μy.2.1 μy.2.2.1 μy.2.2.2.1 μy.2.2.2.2.2.2 := by
      unfold mw
      cases hx : μy.2.2.2.2.2.2 with
      | nil => exact absurd hx hh
      | cons a b => rfl
    have cw : vx_CSW R s args μ.1.cls index μy.1 μy.2.1 μy.2.2.1 μy.2.2.2.1 μy.2.2.2.2.2.2 (mw μy :: Big) (rmOf μy M M1) (mX M1 - mX M) (mS M1 - mS M) n :=
      vx_cwSW (ws' := Big) n C.big (goodIn_big fun w hw => by
        unfold va_wsS at hw
        rcases List.mem_append.mp hw with h | h
        · simp only [List.mem_cons, List.not_mem_nil, or_false] at h
          rcases h with rfl | rfl | rfl
          · exact k1
          · exact K1
          · exact k2
        · rcases List.mem_cons.mp h with rfl | h
          · exact k3
          · exact h) (by rw [e]) rfl rfl k4 ⟨by show μy.2.2.2.2.1 + 1 ≤ R.frames; omega, by show 8 + (μy.2.2.1 + 11) + μy.2.2.2.2.2.1 ≤ R.locals; omega⟩
    exact ⟨_, vx_runSX ⟨C.1, C.2.1, C.ml, C.own, C.big⟩ hM9 cw hp rfl (by rw [cvS, List.length_map, hn]) hl.1 hstk (by rw [stw_eq]; show 0 + stw st ≤ 8; omega) hd ⟨h1, h2⟩⟩
theorem met_of {l : Launch} {avs : List VV} {v : Option VV} {ws : List Cond} {rm : Room} {mc ms : Nat} {free : Addr → Prop} (h : vx_Met l μy.1 ws rm (PcM D avs M) (Qc D (.inl v) M1) (XC D (.inl v) M1) mc ms free) : Met l μy.1 ws rm (PcM D avs M) (Qc D (.inl v) M1) mc ms free := by
  intro p e h1 h2 h3 s m args below h4 h5 h6 h7
  obtain ⟨n, oc, g1, g2, g3, g4⟩ := h p e h1 h2 h3 s m args below h4 h5 h6 h7
  refine ⟨n, oc, g1, g2, g3, ?_⟩
  rcases g4 with g4 | ⟨q, -, E, ce, L, hx, -⟩
  · exact g4
  · exact nomatch hx.1
theorem va_vx {p : Program} {l : Launch} {e : Env} {R : Room} {s : State} {m : MethodId} {args : Array Value} {below : List Frame} {meth : Method} {c : Code} {H : Heap} {locs : List Loc} {cells slots mc ms : Nat} {g : JFrame} {rest : List Value} {Qa : State → Outcome → State → Prop} {XCx : String → State → State → Prop} {free : Addr → Prop}
    (h : va_Run p l e R s m args below meth c H locs cells slots mc ms g rest Qa free) : vx_Run p l e R s m args below meth c H locs cells slots mc ms g rest Qa XCx free := fun T hT X => Or.inl (h T hT X)
theorem run_I {index n κ1 t0 : Nat} {a : Int} {v : Option VV} {as : List VV} (hd : decode μ.2.1 pc = .ok (.invokespecial index, 3)) (K : CallI μ μy index n) (hct : CT D κ1 μy ((t0, a) :: as) M (.inl v) M1) (ht : 4 ≤ t0 ∧ t0 ≠ 100) (ha : a ≠ 0) (hn : as.length = n) (hst0 : st0 = as.reverse ++ (t0, a) :: st) (hw : stw st ≤ 8) : RunOK D μ pc L st0 st M (.inl v) M1 := by
  subst hst0
  obtain ⟨K0, K1, K2, hr, hh⟩ := K
  intro l p e R s m args below meth cd H locs ls cells slots hS hW C En S hl h1 h2
  have hav : ∀ v ∈ (t0, a) :: as, okV M v := fun v hv => hS v (by
    rcases List.mem_cons.mp hv with rfl | h
    · exact List.mem_append_right _ List.mem_cons_self
    · exact List.mem_append_left _ (List.mem_reverse.mpr h))
  obtain ⟨-, hM⟩ := hct hav hW
  have hcr : cv D M (t0, a) = .ref (dlo D + (mAd M a - 1)) := cv_s (hav _ List.mem_cons_self) ht.1 ht.2 ha
  have hp : PreS s H (PcM D ((t0, a) :: as) M) (.ref (dlo D + (mAd M a - 1)) :: cvS D M as) := ⟨pcm_blind, fun U hU hWm => by
    have h9 := pcm_pre (avs := (t0, a) :: as) En C.kk S U hU hWm
    rw [cvS, List.map_cons, hcr] at h9
    exact h9⟩
  have cb := cb_of (M := M) (M1 := M1) K0 hh C
  rw [hr] at cb
  exact ⟨_, va_vx (va_runI ⟨C.1, C.2.1, C.ml, C.own, C.big⟩ (met_of (hM l C.tr)) ⟨cb, K2, C.big _ K1⟩ hp rfl (by rw [cvS, List.length_map, hn]) hl.1 (by
    show cvS D M (as.reverse ++ (t0, a) :: st) = _
    rw [cvS, List.map_append, List.map_cons, hcr, List.map_reverse]) (by rw [stw_eq]; show 0 + stw st ≤ 8; omega) hd ⟨h1, h2⟩)⟩
end RUN
