/-! WHAT METHODS ANSWER: P a value, the memory as it was; W a value and a memory; V a memory; T a value or a throw (its number, 0: none); U nothing or a throw -/
def exn (x : Int) : String := if x = 1 then "java/lang/IndexOutOfBoundsException" else if x = 2 then "java/lang/IllegalArgumentException" else "java/lang/IllegalStateException"
def EP (t : Nat) (M : Mm) : Int → Oc × Mm := fun r => (.inl (some (t, r)), M)
def EW (t : Nat) : Int × Mm → Oc × Mm := fun r => (.inl (some (t, r.1)), r.2)
def EV : Mm → Oc × Mm := fun r => (.inl none, r)
def ET (t : Nat) : Int × Int × Mm → Oc × Mm := fun r => if r.1 = 0 then (.inl (some (t, r.2.1)), r.2.2) else (.inr (exn r.1), r.2.2)
def EU : Int × Mm → Oc × Mm := fun r => if r.1 = 0 then (.inl none, r.2) else (.inr (exn r.1), r.2)
theorem exn_in (x : Int) : exn x ∈ exs := by
  unfold exn
  split
  · decide
  · split <;> decide
section FORMS
variable {D : Dt} {κ κ1 κ2 : Nat} {μ μy : MI} {ρ : Type} {E : ρ → Oc × Mm} {pc pc' : Nat} {L : List (Nat × VV)} {st st0 : List VV} {M M1 : Mm} {avs : List VV} {t : Nat}
theorem XE.rt {r : ρ} {o : Oc} (h : E r = (o, M1)) (k : X D κ μ pc L st M o M1) : XE D κ μ E pc L st M (some r) := by
  intro r' hr
  cases hr
  rw [h]
  exact k
theorem XE.call {ρ1 : Type} {E1 : ρ1 → Oc × Mm} {e1 : Option ρ1} {kf : ρ1 → Option ρ} (hct : ∀ r, e1 = some r → CT D κ1 μy avs M (E1 r).1 (E1 r).2) (hrun : ∀ r, e1 = some r → RunOK D μ pc L st0 st M (E1 r).1 (E1 r).2) (hst0 : st0 = avs.reverse ++ st) (hκ : κ = κ1 + κ2) (hpc : pc + 3 = pc')
    (kr : ∀ r v, e1 = some r → (E1 r).1 = .inl v → XE D κ2 μ E pc' L (v.toList ++ st) (E1 r).2 (kf r)) (kx : ∀ r Ex, e1 = some r → (E1 r).1 = .inr Ex → μ.2.2.2.2.2.2 = [] ∧ ∀ r', kf r = some r' → E r' = (.inr Ex, (E1 r).2)) : XE D κ μ E pc L st0 M (e1.bind kf) := by
  intro r' hr'
  cases he : e1 with
  | none => rw [he] at hr'; exact nomatch hr'
  | some r =>
    rw [he] at hr'
    have hk : kf r = some r' := hr'
    exact X_call (CT.post (hct r he) hst0) (hrun r he) hκ hpc (fun v hv => kr r v he hv r' hk) (fun Ex hE => by
      obtain ⟨h1, h2⟩ := kx r Ex he hE
      have h3 := h2 r' hk
      exact ⟨by rw [h3], by rw [h3], h1⟩)
theorem XE.cP {e1 : Option Int} {kf : Int → Option ρ} (hct : ∀ r, e1 = some r → CT D 0 μy avs M (.inl (some (t, r))) M) (hrun : ∀ r, e1 = some r → RunOK D μ pc L st0 st M (.inl (some (t, r))) M) (hst0 : st0 = avs.reverse ++ st) (hpc : pc + 3 = pc')
    (k : ∀ r, XE D κ μ E pc' L ((t, r) :: st) M (kf r)) : XE D κ μ E pc L st0 M (e1.bind kf) :=
  XE.call (E1 := EP t M) hct hrun hst0 (Nat.zero_add κ).symm hpc (fun r v _ hv => by cases hv; exact k r) (fun r Ex _ h => nomatch h)
theorem XE.cW {e1 : Option (Int × Mm)} {kf : Int × Mm → Option ρ} (hct : ∀ r, e1 = some r → CT D 0 μy avs M (.inl (some (t, r.1))) r.2) (hrun : ∀ r, e1 = some r → RunOK D μ pc L st0 st M (.inl (some (t, r.1))) r.2) (hst0 : st0 = avs.reverse ++ st) (hpc : pc + 3 = pc')
    (k : ∀ r : Int × Mm, XE D κ μ E pc' L ((t, r.1) :: st) r.2 (kf r)) : XE D κ μ E pc L st0 M (e1.bind kf) :=
  XE.call (E1 := EW t) hct hrun hst0 (Nat.zero_add κ).symm hpc (fun r v _ hv => by cases hv; exact k r) (fun r Ex _ h => nomatch h)
theorem XE.cV {e1 : Option Mm} {kf : Mm → Option ρ} (hct : ∀ r, e1 = some r → CT D 0 μy avs M (.inl Option.none) r) (hrun : ∀ r, e1 = some r → RunOK D μ pc L st0 st M (.inl Option.none) r) (hst0 : st0 = avs.reverse ++ st) (hpc : pc + 3 = pc')
    (k : ∀ r : Mm, XE D κ μ E pc' L st r (kf r)) : XE D κ μ E pc L st0 M (e1.bind kf) :=
  XE.call (E1 := EV) hct hrun hst0 (Nat.zero_add κ).symm hpc (fun r v _ hv => by cases hv; exact k r) (fun r Ex _ h => nomatch h)
theorem ET_0 {r : Int × Int × Mm} (h : r.1 = 0) : ET t r = (.inl (some (t, r.2.1)), r.2.2) := if_pos h
theorem ET_1 {r : Int × Int × Mm} (h : ¬ r.1 = 0) : ET t r = (.inr (exn r.1), r.2.2) := if_neg h
theorem EU_0 {r : Int × Mm} (h : r.1 = 0) : EU r = (.inl none, r.2) := if_pos h
theorem EU_1 {r : Int × Mm} (h : ¬ r.1 = 0) : EU r = (.inr (exn r.1), r.2) := if_neg h
/-- what follows a call that may throw -/
def thT {ρ : Type} (f : Int → Int → Mm → Option ρ) (kf : Int → Mm → Option ρ) (r : Int × Int × Mm) : Option ρ := if r.1 = 0 then kf r.2.1 r.2.2 else f r.1 0 r.2.2
def thU {ρ : Type} (f : Int → Int → Mm → Option ρ) (kf : Mm → Option ρ) (r : Int × Mm) : Option ρ := if r.1 = 0 then kf r.2 else f r.1 0 r.2
/-- passing a throw on -/
def psT (x z : Int) (M : Mm) : Option (Int × Int × Mm) := some (x, z, M)
def psU (x _z : Int) (M : Mm) : Option (Int × Mm) := some (x, M)
theorem XE.cTg {e1 : Option (Int × Int × Mm)} {kf : Int → Mm → Option ρ} {f : Int → Int → Mm → Option ρ} (hf : ∀ x z M' r', x ≠ 0 → f x z M' = some r' → E r' = (.inr (exn x), M')) (hct : ∀ r, e1 = some r → CT D 0 μy avs M (ET t r).1 (ET t r).2) (hrun : ∀ r, e1 = some r → RunOK D μ pc L st0 st M (ET t r).1 (ET t r).2) (hst0 : st0 = avs.reverse ++ st) (hpc : pc + 3 = pc') (hh : μ.2.2.2.2.2.2 = [])
    (k : ∀ (v : Int) (M' : Mm), XE D κ μ E pc' L ((t, v) :: st) M' (kf v M')) : XE D κ μ E pc L st0 M (e1.bind (thT f kf)) :=
  XE.call (E1 := ET t) hct hrun hst0 (Nat.zero_add κ).symm hpc (fun r v _ hv => by
    unfold thT
    by_cases h : r.1 = 0
    · rw [ET_0 h] at hv ⊢; cases hv; rw [if_pos h]; exact k _ _
    · rw [ET_1 h] at hv; exact nomatch hv) (fun r Ex _ hv => ⟨hh, fun r' hr' => by
    unfold thT at hr'
    by_cases h : r.1 = 0
    · rw [ET_0 h] at hv; exact nomatch hv
    · rw [ET_1 h] at hv ⊢; cases hv; rw [if_neg h] at hr'; exact hf _ _ _ _ h hr'⟩)
theorem XE.cUg {e1 : Option (Int × Mm)} {kf : Mm → Option ρ} {f : Int → Int → Mm → Option ρ} (hf : ∀ x z M' r', x ≠ 0 → f x z M' = some r' → E r' = (.inr (exn x), M')) (hct : ∀ r, e1 = some r → CT D 0 μy avs M (EU r).1 (EU r).2) (hrun : ∀ r, e1 = some r → RunOK D μ pc L st0 st M (EU r).1 (EU r).2) (hst0 : st0 = avs.reverse ++ st) (hpc : pc + 3 = pc') (hh : μ.2.2.2.2.2.2 = [])
    (k : ∀ (M' : Mm), XE D κ μ E pc' L st M' (kf M')) : XE D κ μ E pc L st0 M (e1.bind (thU f kf)) :=
  XE.call (E1 := EU) hct hrun hst0 (Nat.zero_add κ).symm hpc (fun r v _ hv => by
    unfold thU
    by_cases h : r.1 = 0
    · rw [EU_0 h] at hv ⊢; cases hv; rw [if_pos h]; exact k _
    · rw [EU_1 h] at hv; exact nomatch hv) (fun r Ex _ hv => ⟨hh, fun r' hr' => by
    unfold thU at hr'
    by_cases h : r.1 = 0
    · rw [EU_0 h] at hv; exact nomatch hv
    · rw [EU_1 h] at hv ⊢; cases hv; rw [if_neg h] at hr'; exact hf _ _ _ _ h hr'⟩)
theorem hfT (x z : Int) (M' : Mm) (r' : Int × Int × Mm) (h : x ≠ 0) (hr : psT x z M' = some r') : ET t r' = (.inr (exn x), M') := by
  cases hr
  exact ET_1 h
theorem hfU (x z : Int) (M' : Mm) (r' : Int × Mm) (h : x ≠ 0) (hr : psU x z M' = some r') : EU r' = (.inr (exn x), M') := by
  cases hr
  exact EU_1 h
/-! a private constructor of a nest mate -/
theorem run_IN {index n t0 : Nat} {host : String} {a : Int} {v : Option VV} {as : List VV} (hd : decode μ.2.1 pc = .ok (.invokespecial index, 3)) (hl : ∀ s, KK D s → va_Nw (.methodLinkNest μ.1.cls index μy.1 host) s)
    (K : Cond.initialized μy.1.cls ∈ Big ∧ mw μy ∈ Big ∧ (μy.1.cls ≠ "java/lang/invoke/MethodHandle" ∧ μy.1.cls ≠ "java/lang/invoke/VarHandle" ∧ (parseMethodDescriptor μy.1.desc).map (fun d => d.parameters.length) = some n) ∧ μy.2.2.2.2.1 + 1 ≤ μ.2.2.2.2.1 ∧ 8 + (μy.2.2.1 + 11) + μy.2.2.2.2.2.1 ≤ μ.2.2.2.2.2.1)
    (K2 : Cond.instanceMethod μy.1 ∈ Big ∧ μy.1.name = "<init>" ∧ μy.2.2.2.1 = none ∧ μy.2.2.2.2.2.2 = []) (hct : CT D κ1 μy ((t0, a) :: as) M (.inl v) M1) (ht : 4 ≤ t0 ∧ t0 ≠ 100) (ha : a ≠ 0) (hn : as.length = n) (hst0 : st0 = as.reverse ++ (t0, a) :: st) (hw : stw st ≤ 8) : RunOK D μ pc L st0 st M (.inl v) M1 := by
  subst hst0
  obtain ⟨k2, k3, k4, k5, k6⟩ := K
  obtain ⟨K1, K2, hr, hh⟩ := K2
  intro l p e R s m args below meth cd H locs ls cells slots hS hW C En S hl9 h1 h2
  have hav : ∀ v ∈ (t0, a) :: as, okV M v := fun v hv => hS v (by
    rcases List.mem_cons.mp hv with rfl | h
    · exact List.mem_append_right _ List.mem_cons_self
    · exact List.mem_append_left _ (List.mem_reverse.mpr h))
  obtain ⟨-, hM⟩ := hct hav hW
  have hcr : cv D M (t0, a) = .ref (dlo D + (mAd M a - 1)) := cv_s (hav _ List.mem_cons_self) ht.1 ht.2 ha
  have hp : PreS s H (PcM D ((t0, a) :: as) M) (.ref (dlo D + (mAd M a - 1)) :: cvS D M as) := ⟨pcm_blind, fun U hU hWm => by
    have h9 := pcm_pre (avs := (t0, a) :: as) En C.kk S U hU hWm
    rw [cvS, List.map_cons, hcr] at h9
    exact h9⟩
  have f1 := C.fr; have f2 := C.lo
  have e0 : mw μy = Cond.code μy.1 μy.2.1 μy.2.2.1 none := by unfold mw; rw [hh, hr]
  have cw : va_CN R s args μ.1.cls index μy.1 host μy.2.1 μy.2.2.1 none (mw μy :: Big) (rmOf μy M M1) (mX M1 - mX M) (mS M1 - mS M) n :=
    va_cnB (ws' := Big) n C.big (goodIn_big fun w hw => by
      rcases List.mem_cons.mp hw with rfl | h
      · exact k3
      · exact h) (by rw [e0]) rfl rfl (hl s C.kk) (C.big _ k2) k4 ⟨by show μy.2.2.2.2.1 + 1 ≤ R.frames; omega, by show 8 + (μy.2.2.1 + 11) + μy.2.2.2.2.2.1 ≤ R.locals; omega⟩
  exact ⟨_, va_vx (va_runIN ⟨C.1, C.2.1, C.ml, C.own, C.big⟩ (met_of (hM l C.tr)) ⟨cw, K2, C.big _ K1⟩ hp rfl (by rw [cvS, List.length_map, hn]) hl9.1 (by
    show cvS D M (as.reverse ++ (t0, a) :: st) = _
    rw [cvS, List.map_append, List.map_cons, hcr, List.map_reverse]) (by rw [stw_eq]; show 0 + stw st ≤ 8; omega) hd ⟨h1, h2⟩)⟩
/-! Object.<init> -/
theorem st_oinit {idx t0 : Nat} {a : Int} (hd : decode μ.2.1 pc = .ok (.invokespecial idx, 3)) (hp : pc + 3 = pc') (K : Cond.methodLink μ.1.cls idx Lib.objectInit ∈ Big ∧ Cond.instanceMethod Lib.objectInit ∈ Big ∧ Cond.code Lib.objectInit ⟨#[0xb1]⟩ 1 none ∈ Big) (hf : 1 ≤ μ.2.2.2.2.1) (hlo : stw st + 12 ≤ μ.2.2.2.2.2.1) (ht : 4 ≤ t0 ∧ t0 ≠ 100) (ha : a ≠ 0) :
    St D μ pc L ((t0, a) :: st) M pc' L st M := by
  subst hp
  refine St.of (fun hL hS hW => ok_tl hS) (fun l p e R s m args below meth cd H locs ls cells slots Q hL hS hW Cc En S hl9 k => ?_)
  have f1 := Cc.fr; have f2 := Cc.lo
  rw [cvS, List.map_cons, cv_s (ok_hd hS) ht.1 ht.2 ha]
  exact W.objInit Cc.1 Cc.2.1 Cc.own (Cc.big _ K.1) (Cc.big _ K.2.1) (Cc.big _ K.2.2) rfl (hl9.1.trans Cc.ml.symm) rfl hd (by omega) (by rw [show (List.map (fun v => v.category) (List.map (cv D M) st)).sum = stw st from stw_eq st]; show 0 + stw st + 12 ≤ R.locals; omega) k
/-! a throw, at its place -/
theorem XE.thrT {cls text : String} {ik is ic : Nat} {x : Int} (d0 : decode μ.2.1 pc = .ok (.new ik, 3)) (d3 : decode μ.2.1 (pc + 3) = .ok (.dup, 1)) (d4 : decode μ.2.1 (pc + 4) = .ok (.ldc is, 2)) (d6 : decode μ.2.1 (pc + 6) = .ok (.invokespecial ic, 3)) (d9 : decode μ.2.1 (pc + 9) = .ok (.athrow, 1))
    (T : ThrOK μ.1.cls cls text ik is ic) (hh : μ.2.2.2.2.2.2 = []) (hf : 6 ≤ μ.2.2.2.2.1) (hlo : 82 ≤ μ.2.2.2.2.2.1) (hx : x ≠ 0 ∧ exn x = cls) : XE D κ μ (ET t) pc L [] M (psT x 0 (thr M)) := by
  intro r hr
  rw [hfT x 0 (thr M) r hx.1 hr, hx.2]
  exact X_thr d0 d3 d4 d6 d9 T hh hf hlo
theorem XE.thrTW {cls text : String} {ik is ic : Nat} {x : Int} (d0 : decode μ.2.1 pc = .ok (.new ik, 3)) (d3 : decode μ.2.1 (pc + 3) = .ok (.dup, 1)) (d4 : decode μ.2.1 (pc + 4) = .ok (.ldc_w is, 3)) (d7 : decode μ.2.1 (pc + 7) = .ok (.invokespecial ic, 3)) (d10 : decode μ.2.1 (pc + 10) = .ok (.athrow, 1))
    (T : ThrOK μ.1.cls cls text ik is ic) (hh : μ.2.2.2.2.2.2 = []) (hf : 6 ≤ μ.2.2.2.2.1) (hlo : 82 ≤ μ.2.2.2.2.2.1) (hx : x ≠ 0 ∧ exn x = cls) : XE D κ μ (ET t) pc L [] M (psT x 0 (thr M)) := by
  intro r hr
  rw [hfT x 0 (thr M) r hx.1 hr, hx.2]
  exact X_thrW d0 d3 d4 d7 d10 T hh hf hlo
theorem XE.thrUW {cls text : String} {ik is ic : Nat} {x : Int} (d0 : decode μ.2.1 pc = .ok (.new ik, 3)) (d3 : decode μ.2.1 (pc + 3) = .ok (.dup, 1)) (d4 : decode μ.2.1 (pc + 4) = .ok (.ldc_w is, 3)) (d7 : decode μ.2.1 (pc + 7) = .ok (.invokespecial ic, 3)) (d10 : decode μ.2.1 (pc + 10) = .ok (.athrow, 1))
    (T : ThrOK μ.1.cls cls text ik is ic) (hh : μ.2.2.2.2.2.2 = []) (hf : 6 ≤ μ.2.2.2.2.1) (hlo : 82 ≤ μ.2.2.2.2.2.1) (hx : x ≠ 0 ∧ exn x = cls) : XE D κ μ EU pc L [] M (psU x 0 (thr M)) := by
  intro r hr
  rw [hfU x 0 (thr M) r hx.1 hr, hx.2]
  exact X_thrW d0 d3 d4 d7 d10 T hh hf hlo
/-! a call whose throws the method itself catches, answering a number -/
def HandOK (μ : MI) (pc : Nat) (E : String) (n : Int) : Prop := ∃ (pre : List ExceptionTableEntry) (x : ExceptionTableEntry) (suf : List ExceptionTableEntry), tableOf μ.2.2.2.2.2.2 = pre ++ x :: suf ∧
  (∀ z ∈ pre, z.catchType ≠ 0 ∧ ∃ nm ∈ exs, Cond.classLink μ.1.cls z.catchType nm ∈ Big ∧ E ≠ nm) ∧ covers x pc = true ∧ x.catchType ≠ 0 ∧ Cond.classLink μ.1.cls x.catchType E ∈ Big ∧ E ∈ exs ∧
  (∃ (k : Nat) (hp : Nat), k < μ.2.2.1 ∧ ((decode μ.2.1 x.handlerPc = .ok (.astore k, 2) ∧ hp = x.handlerPc + 2) ∨ (∃ k4 : Fin 4, (k4 : Nat) = k ∧ decode μ.2.1 x.handlerPc = .ok (.astore_n k4, 1) ∧ hp = x.handlerPc + 1)) ∧
    decode μ.2.1 hp = .ok (.bipush n, 2) ∧ (Int8.ofInt n).toInt32 = Int32.ofInt n ∧ decode μ.2.1 (hp + 2) = .ok (.ireturn, 1)) ∧ w n = n ∧ μ.2.2.2.1 = some .int
theorem X_callH {o o1 : Oc} {M' : Mm} (hP : (∀ v ∈ st0, okV M v) → WT M → (∀ v ∈ st, okV M v) ∧ Post κ1 M o1 M1) (run : RunOK D μ pc L st0 st M o1 M1) (hκ : κ = κ1 + 1 + κ2) (hpc : pc + 3 = pc')
    (kr : ∀ v, o1 = .inl v → X D (κ2 + 1) μ pc' L (v.toList ++ st) M1 o M') (kx : ∀ E, o1 = .inr E → ∃ n, o = .inl (some (0, n)) ∧ M' = M1 ∧ HandOK μ pc E n) : X D κ μ pc L st0 M o M' := by
  cases o1 with
  | inl v => exact X_call hP run (by omega) hpc kr (fun E hE => nomatch hE)
  | inr E =>
    subst hpc
    intro hL hS hW
    obtain ⟨hst, g1, g2, g3, g4⟩ := hP hS hW
    obtain ⟨n, rfl, rfl, pre, x, suf, hsp, hpass, hcov, hct, hcl9, hE9, ⟨k, hp, hk, hast, hic, hi8, hir⟩, hwn, hrt⟩ := kx E rfl
    refine ⟨⟨g1, ok_int (hwn ▸ r32_w n), g3, ?_⟩, fun l p ev R s m args below meth c H locs ls mc ms cells slots C En S hl hc hs hmc hms => ?_⟩
    · unfold TB at g4 ⊢
      have g4 : mT M' ≤ mT M + κ1 + 1 := g4
      show mT M' ≤ mT M + κ + 0
      omega
    · obtain ⟨as, hr⟩ := run l p ev R s m args below meth c H locs ls cells slots hS hW C En S hl (by omega) (by omega)
      refine W_run hr S (fun v' H1 locs1 hv => nomatch hv) (fun E' ce q H1 locs1 hE En1 S1 hce hcv hcl => ?_)
      cases hE
      have hkk := C.kk.2.2.2.2.2.2.2.2.2.2.2
      refine vx_catch (own := μ.1.cls) (name := E) (E := E) C.own pre x suf (by rw [C.ex, hsp]) (fun z hz => ?_) hcov hct (C.big _ hcl9) (va_Nw.use rfl (hkk.1 E hE9)) hce hcv hcl ?_
      · obtain ⟨h1, nm, h2, h3, h4⟩ := hpass z hz
        exact Or.inr ⟨h1, nm, C.big _ h3, hkk.2.1 E hE9 nm h2 h4⟩
      · have fin2 : ∀ ls' : Array Slot, W p l ev R s m args below meth c H1 locs1 (cells + (mX M' - mX M)) (slots + (mS M' - mS M)) (vx_MQ below (Qc D (.inl (some (0, n))) M') (XC D (.inl (some (0, n))) M') args s mc ms (fun q => dlo D ≤ q)) (F0 m hp ls' []) := fun ls' =>
          lv_bipush C.1 C.2.1 hic hi8 (vx_ret (W.widen (by omega) (by omega) (W.iret (v := Int32.ofInt n) C.1 C.2.1 (C.ret.trans hrt) (fun t ht _ => Qc_ret (v := some (0, n)) En1 S1 ht) S1.2.2 hir C.lock)))
        rcases hast with ⟨h1, h2⟩ | ⟨k4, h0, h1, h2⟩
        · subst h2
          exact lv_astore C.1 C.2.1 h1 hl hk rfl fun ls' _ => fin2 ls'
        · subst h2
          exact lv_astore_n C.1 C.2.1 h1 h0 hl hk rfl fun ls' _ => fin2 ls'
/-- the law's own helpers: T called, its throws answered by numbers -/
def hnT {ρ : Type} (f : Int → Mm → Option ρ) (kf : Int → Mm → Option ρ) (r : Int × Int × Mm) : Option ρ := if r.1 = 0 then kf r.2.1 r.2.2 else f r.1 r.2.2
theorem XE.cTH {e1 : Option (Int × Int × Mm)} {kf f : Int → Mm → Option (Int × Mm)} (hf : ∀ x M' r', x ≠ 0 → f x M' = some r' → r'.2 = M' ∧ HandOK μ pc (exn x) r'.1) (hct : ∀ r, e1 = some r → CT D 0 μy avs M (ET t r).1 (ET t r).2) (hrun : ∀ r, e1 = some r → RunOK D μ pc L st0 st M (ET t r).1 (ET t r).2) (hst0 : st0 = avs.reverse ++ st) (hpc : pc + 3 = pc')
    (k : ∀ (v : Int) (M' : Mm), XE D 1 μ (EW 0) pc' L ((t, v) :: st) M' (kf v M')) : XE D 1 μ (EW 0) pc L st0 M (e1.bind (hnT f kf)) := by
  intro r' hr'
  cases he : e1 with
  | none => rw [he] at hr'; exact nomatch hr'
  | some r =>
    rw [he] at hr'
    have hk : hnT f kf r = some r' := hr'
    refine X_callH (κ1 := 0) (κ2 := 0) (CT.post (hct r he) hst0) (hrun r he) rfl hpc (fun v hv => ?_) (fun Ex hE => ?_)
    · unfold hnT at hk
      by_cases h : r.1 = 0
      · rw [if_pos h] at hk
        have h9 := k r.2.1 r.2.2 r' hk
        rw [ET_0 h] at hv ⊢
        cases hv
        exact h9
      · rw [ET_1 h] at hv; exact nomatch hv
    · unfold hnT at hk
      by_cases h : r.1 = 0
      · rw [ET_0 h] at hE; exact nomatch hE
      · rw [if_neg h] at hk
        obtain ⟨h1, h2⟩ := hf _ _ _ h hk
        rw [ET_1 h] at hE ⊢
        cases hE
        exact ⟨r'.1, rfl, h1, h2⟩
end FORMS
