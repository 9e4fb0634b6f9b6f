/-! STEPS THAT READ AND WRITE THE HEAP, AND MAKE THINGS -/
def tyM (ty : FieldType) (t : Nat) : Bool := match ty with
  | .int => t == 0
  | .boolean => t == 1
  | .object _ => decide (4 ≤ t)
  | .array _ => decide (4 ≤ t)
  | _ => false
def ClsOK (c : Nat) (C : String) (T : u_T) (N : Nat) : Prop := vwCl[c]? = some (C, T, N) ∧ nf c = N ∧ (∀ w ∈ u_ws C T N, w ∈ Big) ∧ (∀ a, a < N → ∀ b, b < N → a ≠ b → (T a).2.1 ≠ (T b).2.1) ∧
  ∃ ty : Nat → FieldType, (∀ k, k < N → parseFieldDescriptor (T k).2.2.1 = some (ty k)) ∧ ∀ k, k < N → tyM (ty k) (fty c k) = true
def FldOK (c j : Nat) (own : String) (index t0 t : Nat) (fin : Bool) (C : String) (T : u_T) (N : Nat) : Prop := j < N ∧ Cond.fieldLink own index C (T j).2.1 (T j).2.2.1 ∈ Big ∧ (T j).1 = C ∧ (T j).2.2.2 = fin ∧ t0 = c + 4 ∧ fty c j = t
section CXA
variable {D : Dt} {μ : MI} {l : Launch} {p : Program} {R : Room} {s : State} {m : MethodId} {args : Array Value} {meth : Method} {c : Code}
theorem Cx.own (C : Cx D μ l p R s m args meth c) : s.vm.findClass μ.1.cls = some m.cls := C.2.2.2.1
theorem Cx.big (C : Cx D μ l p R s m args meth c) : ∀ w ∈ Big, w.before args s = true := C.2.2.2.2.1
theorem Cx.ret (C : Cx D μ l p R s m args meth c) : meth.sig.returnType = μ.2.2.2.1 := C.2.2.2.2.2.1
theorem Cx.lock (C : Cx D μ l p R s m args meth c) : meth.locks = false := C.2.2.2.2.2.2.1
theorem Cx.tr (C : Cx D μ l p R s m args meth c) : l.stackTraces = false := C.2.2.2.2.2.2.2.1
theorem Cx.kk (C : Cx D μ l p R s m args meth c) : KK D s := C.2.2.2.2.2.2.2.2.1
theorem Cx.fr (C : Cx D μ l p R s m args meth c) : μ.2.2.2.2.1 ≤ R.frames := C.2.2.2.2.2.2.2.2.2.1
theorem Cx.lo (C : Cx D μ l p R s m args meth c) : μ.2.2.2.2.2.1 ≤ R.locals := C.2.2.2.2.2.2.2.2.2.2.1
theorem Cx.nm (C : Cx D μ l p R s m args meth c) : meth.name = μ.1.name := C.2.2.2.2.2.2.2.2.2.2.2.1
theorem Cx.ex (C : Cx D μ l p R s m args meth c) : c.exceptionTable.toList = tableOf μ.2.2.2.2.2.2 := C.2.2.2.2.2.2.2.2.2.2.2.2
theorem Cx.ml (C : Cx D μ l p R s m args meth c) : c.maxLocals = μ.2.2.1 := C.2.2.1
end CXA
theorem fits_rf (r : Option Nat) : (∀ C, fits (.object C) (va_rf r) = true ∧ narrow (.object C) (va_rf r) = va_rf r) ∧ ∀ T, fits (.array T) (va_rf r) = true ∧ narrow (.array T) (va_rf r) = va_rf r := by
  cases r <;> exact ⟨fun _ => ⟨rfl, rfl⟩, fun _ => ⟨rfl, rfl⟩⟩
theorem tyM_fit {D : Dt} {M : Mm} {ty : FieldType} {t : Nat} {z : Int} (h : tyM ty t = true) (hb : t = 1 → z = 0 ∨ z = 1) : narrow ty (tv D M t z) = tv D M t z ∧ fits ty (tv D M t z) = true := by
  cases ty with
  | int =>
    have e : t = 0 := by simpa [tyM] using h
    subst e
    exact ⟨rfl, rfl⟩
  | boolean =>
    have e : t = 1 := by simpa [tyM] using h
    subst e
    rcases hb rfl with e | e <;> (subst e; exact ⟨rfl, rfl⟩)
  | object C =>
    have e : 4 ≤ t := by simpa [tyM] using h
    rw [tv_r (by omega)]
    exact ⟨((fits_rf _).1 C).2, ((fits_rf _).1 C).1⟩
  | array C =>
    have e : 4 ≤ t := by simpa [tyM] using h
    rw [tv_r (by omega)]
    exact ⟨((fits_rf _).2 C).2, ((fits_rf _).2 C).1⟩
  | _ => simp [tyM] at h
theorem tyM_def {D : Dt} {M : Mm} {ty : FieldType} {t : Nat} (h : tyM ty t = true) : defaultValue ty = tv D M t 0 := by
  cases ty with
  | int =>
    have e : t = 0 := by simpa [tyM] using h
    subst e; rfl
  | boolean =>
    have e : t = 1 := by simpa [tyM] using h
    subst e; rfl
  | object C =>
    have e : 4 ≤ t := by simpa [tyM] using h
    rw [tv_r (by omega)]; rfl
  | array C =>
    have e : 4 ≤ t := by simpa [tyM] using h
    rw [tv_r (by omega)]; rfl
  | _ => simp [tyM] at h
section MEM
variable {D : Dt} {μ : MI} {pc pc' : Nat} {L : List (Nat × VV)} {st : List VV} {M : Mm}
theorem ref_ok {t : Nat} {a : Int} (h : okV M (t, a)) (hW : WT M) (ht : 4 ≤ t) (h1 : t ≠ 100) (ha : a ≠ 0) : kd a + 3 = t ∧ 0 < mAd M a := tok_r h ht h1 ha
theorem cell_obj {H : Heap} {c : Nat} {a : Int} (En : Enc D M H) (hk : kd a = c + 1) (hc : c < 12) (ha : 0 < mAd M a) : t_OB (dlo D + (mAd M a - 1)) (D.1 c) (nf c) (D.2.1 c) H (fun j => tv D M (fty c j) (rd M a j)) := by
  have h := (En.2.1 a ha).2
  unfold cellAt at h
  rw [if_pos (by omega), hk] at h
  exact h
theorem vw_lt {c : Nat} {x : vw_C} (h : vwCl[c]? = some x) : c < 12 := Nat.lt_of_lt_of_le (List.getElem?_eq_some_iff.mp h).1 (by decide)
theorem st_get {c j index t0 t tp : Nat} {ji a : Int} {fin : Bool} {C : String} {T : u_T} {N : Nat} (hd : decode μ.2.1 pc = .ok (.getfield index, 3)) (hp : pc + 3 = pc') (K : ClsOK c C T N) (F : FldOK c j μ.1.cls index t0 t fin C T N) (hji : (j : Int) = ji) (ht : lty t = tp) (ha : a ≠ 0) :
    St D μ pc L ((t0, a) :: st) M pc' L ((tp, rd M a ji) :: st) M := by
  subst hp; subst hji; subst ht
  obtain ⟨hc, hN, hu, hnm, ty, hty, htm⟩ := K
  obtain ⟨hj, hl, hC, hfin, ht0, htt⟩ := F
  have hc12 := vw_lt hc
  subst ht0
  have hat : (∀ v ∈ (c + 4, a) :: st, okV M v) → kd a = c + 1 ∧ 0 < mAd M a := fun hS => by
    obtain ⟨g1, g2⟩ := tok_r (ok_hd hS) (by show 4 ≤ c + 4; omega) (by show c + 4 ≠ 100; omega) ha
    exact ⟨by have : kd a + 3 = c + 4 := g1; omega, g2⟩
  refine St.of (fun hL hS hW => ok_cons ?_ (ok_tl hS)) (fun l p e R s m args below meth cd H locs ls cells slots Q hL hS hW Cc En S hl9 k => ?_)
  · obtain ⟨g1, g2⟩ := hat hS
    obtain ⟨-, h2, -⟩ := hW.1 a g2
    have h3 := h2 (by omega) j (by rw [g1]; show j < nf c; rw [hN]; exact hj)
    rw [g1, show c + 1 - 1 = c from rfl, htt] at h3
    exact tok_lt.mpr h3
  · obtain ⟨g1, g2⟩ := hat hS
    obtain ⟨cell, q1, q2, q3, q4⟩ := cell_obj En g1 hc12 g2
    have hK := Cc.kk.1
    obtain ⟨hSl, hfc, kC, hkC, hkind⟩ := hK.1 c _ hc
    obtain ⟨cf, kf, fi, f, hi, hsl⟩ := hSl j hj
    have hts := Cc.big
    rw [cvS, List.map_cons, cv_s (ok_hd hS) (by omega) (by omega) ha]
    rw [cvS, List.map_cons] at k
    refine W.getf (v := tv D M t (rd M a j)) Cc.1 Cc.2.1 Cc.own (hts _ hl) (cf := cf) (i := fi) (k := kf) (f := f) (by rw [← hC]; exact hi) (u_facts hfc hkC (u_lays hts hu hj) hi).1 q1 (by rw [q3]; exact fun h => by cases h) ?_ rfl rfl hd (by rw [← tv_lt]; exact k)
    rw [hsl, q4 j (by rw [hN]; exact hj)]
    show some (tv D M (fty c j) _) = _
    rw [htt]
theorem st_put {c j index t0 t tp : Nat} {ji a z : Int} {fin : Bool} {C : String} {T : u_T} {N : Nat} (hd : decode μ.2.1 pc = .ok (.putfield index, 3)) (hp : pc + 3 = pc') (K : ClsOK c C T N) (F : FldOK c j μ.1.cls index t0 t fin C T N) (hji : (j : Int) = ji) (ht : lty t = tp) (hb : t = 1 → z = 0 ∨ z = 1) (hf : fin = true → μ.1.name = "<init>" ∧ C = μ.1.cls) (ha : a ≠ 0) :
    St D μ pc L ((tp, z) :: (t0, a) :: st) M pc' L st (wr M a ji z) := by
  subst hp; subst hji; subst ht
  obtain ⟨hc, hN, hu, hnm, ty, hty, htm⟩ := K
  obtain ⟨hj, hl, hC, hfin, ht0, htt⟩ := F
  have hc12 := vw_lt hc
  subst ht0
  have hat : (∀ v ∈ (lty t, z) :: (c + 4, a) :: st, okV M v) → kd a = c + 1 ∧ 0 < mAd M a := fun hS => by
    obtain ⟨g1, g2⟩ := tok_r (ok_hd (ok_tl hS)) (by show 4 ≤ c + 4; omega) (by show c + 4 ≠ 100; omega) ha
    exact ⟨by have : kd a + 3 = c + 4 := g1; omega, g2⟩
  refine ⟨fun hL hS hW => ⟨hL, ok_tl (ok_tl hS), ?_, Gr_wr, rfl⟩, fun l p e R s m args below meth cd H locs ls cells slots Q hL hS hW Cc En S hl9 _ _ k => ?_⟩
  · obtain ⟨g1, g2⟩ := hat hS
    refine WT_wr hW g2 ⟨fun _ i hi _ => ?_, fun hk _ _ => absurd hk (by omega)⟩
    have e : i = j := by omega
    subst e
    rw [g1, show c + 1 - 1 = c from rfl, htt]
    exact tok_lt.mp (ok_hd hS)
  · obtain ⟨g1, g2⟩ := hat hS
    obtain ⟨cell, q1, q2, q3, q4⟩ := cell_obj En g1 hc12 g2
    have hK := Cc.kk.1
    obtain ⟨hSl, hfc, kC, hkC, hkind⟩ := hK.1 c _ hc
    obtain ⟨cf, kf, fi, f, hi, hsl⟩ := hSl j hj
    have hts := Cc.big
    have hap := va_apart (own := μ.1.cls) (D := (D.1, D.2.1)) hts hu ty hty hnm hK hc
    have htj := htm j hj
    rw [htt] at htj
    obtain ⟨hn, hfit⟩ := tyM_fit (D := D) (M := M) htj hb
    have hlay := hts _ (hu _ (u_in_lay hj))
    unfold u_lay at hlay
    have hst := (u_facts hfc hkC (u_lays hts hu hj) hi).1
    have hs1 : cell.slots[f.slot]? = some (tv D M (fty c j) (rd M a j)) := by rw [hsl]; exact q4 j (by rw [hN]; exact hj)
    have hlt : f.slot < cell.slots.size := k2_hasslot hs1
    have fin2 : ∀ (H' : Heap), H'[dlo D + (mAd M a - 1)]? = some (cell.setSlot f.slot (tv D M t z)) → H'.size = H.size → (∀ q, q ≠ dlo D + (mAd M a - 1) → H'[q]? = H[q]?) →
        W p l e R s m args below meth cd H' (locs ++ [⟨dlo D + (mAd M a - 1), f.slot⟩]) cells slots Q (F0 m (pc + 3) ls (cvS D M st)) := fun H' e1 e2 e3 => by
      have En' : Enc D (wr M a j z) H' := Enc_wr En g2 e2 e3 (by
        unfold cellAt
        rw [if_pos (by omega), g1]
        refine ⟨_, e1, q2, q3, fun i hi' => ?_⟩
        rw [hsl]
        have h9 := t_set q4 (by rw [hN]; exact hap) (by rw [hN]; exact hj) (tv D M t z) i hi'
        rw [show D.2.1 (c + 1 - 1) = D.2.1 c from rfl]
        refine h9.trans (congrArg some ?_)
        show updV _ j _ i = tv D (wr M a j z) (fty c i) (rd (wr M a j z) a i)
        rw [rd_wr]
        by_cases e : i = j
        · subst e
          rw [if_pos ⟨rfl, rfl⟩, htt]
          simp [updV, tv_wr]
        · rw [if_neg (fun q => e (by omega))]
          simp [updV, e, tv_wr])
      have k2 := k H' (locs ++ [⟨dlo D + (mAd M a - 1), f.slot⟩]) ls En' (va_S.put S e2 e3 (by show dlo D ≤ dlo D + (mAd M a - 1); omega)) hl9
      rw [show mX (wr M a j z) - mX M = 0 from Nat.sub_self _, show mS (wr M a j z) - mS M = 0 from Nat.sub_self _, Nat.add_zero, Nat.add_zero] at k2
      exact k2
    rw [cvS, List.map_cons, List.map_cons, cv_s (ok_hd (ok_tl hS)) (by omega) (by omega) ha, show cv D M (lty t, z) = tv D M t z from tv_lt]
    by_cases hf9 : (T j).2.2.2 = true
    · rw [if_pos hf9] at hlay
      obtain ⟨f1, f2⟩ := hf (hfin.symm.trans hf9)
      have hcf : m.cls = cf := by
        obtain ⟨_, _, c', _, _, _, -, -, hf', -, -, -, hown2, -⟩ := Cond.laysFinal_spec hlay
        have e1 : c' = cf := by have := hi.symm.trans hf'; simp at this; exact this.1.symm
        rw [hC, f2] at hown2
        rw [← e1]; exact Option.some.inj (Cc.own.symm.trans hown2)
      have h6 := u_fits hfc hkC hkind (Or.inr hlay) hi (hty j hj) hn hfit
      exact W.putFinK Cc.1 Cc.2.1 Cc.own (hts _ hl) (cf := cf) (i := fi) (k := kf) (f := f) (by rw [← hC]; exact hi) hst hcf (Cc.nm.trans f1) (by rw [q2]; exact h6) q1 q3 hlt rfl rfl hd fin2
    · rw [if_neg hf9] at hlay
      have h6 := u_store hfc hkC hkind hlay hi (hty j hj) hn hfit
      exact W.putK Cc.1 Cc.2.1 (f := f) ⟨Cc.own, hts _ hl, ⟨_, _, _, (by rw [← hC]; exact hi)⟩, hst⟩ (by rw [q2]; exact h6) q1 q3 hlt rfl rfl hd fin2
/-! arrays -/
theorem cell_arr {H : Heap} {a : Int} (En : Enc D M H) (hk : ¬ kd a < 13) (ha : 0 < mAd M a) : H[dlo D + (mAd M a - 1)]? = some (arrV (D.2.2.1 (kd a)) (ln a).toNat (fun i => tv D M (aty (kd a)) (rd M a i))) := by
  have h := (En.2.1 a ha).2
  unfold cellAt at h
  rw [if_neg hk] at h
  exact h
def akind (k : Nat) (ty : FieldType) : Prop := (k, ty) ∈ akinds
theorem arr_facts {s : State} {k : Nat} {ty : FieldType} (hK : KK D s) (h : akind k ty) : ArrOfT s (D.2.2.1 k) ty ∧ va_RA s (D.2.2.1 k) ty := hK.2.1 _ h
theorem arr_at {t0 k : Nat} {a : Int} {v : List VV} (hS : ∀ u ∈ (t0, a) :: v, okV M u) (ht : t0 = k + 3) (hk : 13 ≤ k ∧ k < 28) (ha : a ≠ 0) : kd a = k ∧ 0 < mAd M a := by
  obtain ⟨g1, g2⟩ := tok_r (ok_hd hS) (by show 4 ≤ t0; omega) (by show t0 ≠ 100; omega) ha
  exact ⟨by have : kd a + 3 = t0 := g1; omega, g2⟩
theorem st_ald {t0 k tp : Nat} {a i : Int} {ins : Instr} {ty : FieldType} (hd : decode μ.2.1 pc = .ok (ins, 1)) (hp : pc + 1 = pc') (hA : akind k ty) (ht : t0 = k + 3) (hk : 13 ≤ k ∧ k < 28) (htp : lty (aty k) = tp)
    (hi : (ins = .iaload ∧ ty = .int) ∨ (ins = .baload ∧ ty = .boolean) ∨ (ins = .laload ∧ ty = .long) ∨ (ins = .aaload ∧ ty.isReference = true)) (ha : a ≠ 0) (h0 : 0 ≤ i) (h1 : i < ln a) :
    St D μ pc L ((0, i) :: (t0, a) :: st) M pc' L ((tp, rd M a i) :: st) M := by
  subst hp; subst htp
  refine St.of (fun hL hS hW => ok_cons ?_ (ok_tl (ok_tl hS))) (fun l p e R s m args below meth cd H locs ls cells slots Q hL hS hW Cc En S hl9 kk => ?_)
  · obtain ⟨g1, g2⟩ := arr_at (ok_tl hS) ht hk ha
    obtain ⟨-, -, h3⟩ := hW.1 a g2
    have h4 := h3 (by omega) i h0 h1
    rw [g1] at h4
    exact tok_lt.mpr h4
  · obtain ⟨g1, g2⟩ := arr_at (ok_tl hS) ht hk ha
    have hcell := cell_arr En (by omega) g2
    have hAr := (arr_facts Cc.kk hA).1
    rw [g1] at hcell
    have hir := ok_i (ok_hd hS)
    have hb := ln_b a
    have hin : ¬ (Int32.ofInt i < 0 ∨ (arrV (D.2.2.1 k) (ln a).toNat (fun i => tv D M (aty k) (rd M a i))).slots.size ≤ (Int32.ofInt i).toNatClampNeg) := by
      rw [arrV_size]
      exact w_in hir h0 (by omega)
    have hv : (arrV (D.2.2.1 k) (ln a).toNat (fun i => tv D M (aty k) (rd M a i))).slots[(Int32.ofInt i).toNatClampNeg]? = some (tv D M (lty (aty k)) (rd M a i)) := by
      rw [w_clamp h0 hir, arrV_read _ _ (by omega), tv_lt]
      show some (tv D M (aty k) (rd M a (i.toNat : Int))) = _
      rw [Int.toNat_of_nonneg h0]
    rw [cvS, List.map_cons, List.map_cons, cv_s (ok_hd (ok_tl hS)) (by omega) (by omega) ha]
    rw [cvS, List.map_cons] at kk
    rcases hi with ⟨rfl, rfl⟩ | ⟨rfl, rfl⟩ | ⟨rfl, rfl⟩ | ⟨rfl, hr⟩
    · exact W.iald Cc.1 Cc.2.1 hcell (hAr _ _) (fun q => by cases q) hin hv rfl rfl hd kk
    · exact W.zald Cc.1 Cc.2.1 hcell (hAr _ _) (fun q => by cases q) hin hv rfl rfl hd kk
    · exact W.lald Cc.1 Cc.2.1 hcell (hAr _ _) (fun q => by cases q) hin hv rfl rfl hd kk
    · exact W.aald Cc.1 Cc.2.1 hcell (hAr _ _) hr (fun q => by cases q) hin hv rfl rfl hd kk
theorem Enc_arr {H H1 : Heap} {k : Nat} {a i z : Int} (En : Enc D M H) (g1 : kd a = k) (hk : 13 ≤ k) (g2 : 0 < mAd M a) (h0 : 0 ≤ i) (e : H1[dlo D + (mAd M a - 1)]? = some ((arrV (D.2.2.1 k) (ln a).toNat (fun i => tv D M (aty k) (rd M a i))).setSlot i.toNat (tv D M (aty k) z))) (hz : H1.size = H.size) (oq : ∀ q : Nat, q ≠ dlo D + (mAd M a - 1) → H1[q]? = H[q]?) : Enc D (wr M a i z) H1 := by
  refine Enc_wr En g2 hz oq ?_
  unfold cellAt
  rw [if_neg (by omega), g1]
  refine e.trans ?_
  rw [arrV_store]
  congr 2
  funext q
  show updV _ _ _ q = tv D (wr M a i z) (aty k) (rd (wr M a i z) a q)
  rw [rd_wr]
  by_cases hq : q = i.toNat
  · subst hq
    rw [if_pos ⟨rfl, by omega⟩]
    simp [updV, tv_wr]
  · rw [if_neg (fun z => hq (by omega))]
    simp [updV, hq, tv_wr]
theorem st_ast {t0 k tp : Nat} {a i z z' : Int} {ins : Instr} {ty : FieldType} (hd : decode μ.2.1 pc = .ok (ins, 1)) (hp : pc + 1 = pc') (hA : akind k ty) (ht : t0 = k + 3) (hk : 13 ≤ k ∧ k < 28) (htp : lty (aty k) = tp)
    (hi : (ins = .iastore ∧ ty = .int ∧ k = 13 ∧ z' = z) ∨ (ins = .bastore ∧ ty = .boolean ∧ k = 14 ∧ z' = ian z 1) ∨ (ins = .lastore ∧ ty = .long ∧ k = 15 ∧ z' = z)) (ha : a ≠ 0) (h0 : 0 ≤ i) (h1 : i < ln a) :
    St D μ pc L ((tp, z) :: (0, i) :: (t0, a) :: st) M pc' L st (wr M a i z') := by
  subst hp; subst htp
  have hok : (∀ v ∈ (lty (aty k), z) :: (0, i) :: (t0, a) :: st, okV M v) → tok M (aty k) z' := fun hS => by
    have h9 := tok_lt.mp (ok_hd hS)
    rcases hi with ⟨-, -, rfl, rfl⟩ | ⟨-, -, rfl, rfl⟩ | ⟨-, -, rfl, rfl⟩
    · exact h9
    · exact (tok_lt (t := 1)).mp (tok_i.mpr (r32_t _))
    · exact h9
  refine ⟨fun hL hS hW => ⟨hL, ok_tl (ok_tl (ok_tl hS)), ?_, Gr_wr, rfl⟩, fun l p e R s m args below meth cd H locs ls cells slots Q hL hS hW Cc En S hl9 _ _ kk => ?_⟩
  · obtain ⟨g1, g2⟩ := arr_at (ok_tl (ok_tl hS)) ht hk ha
    refine WT_wr hW g2 ⟨fun h => absurd h (by omega), fun _ _ _ => ?_⟩
    rw [g1]; exact hok hS
  · obtain ⟨g1, g2⟩ := arr_at (ok_tl (ok_tl hS)) ht hk ha
    have hcell := cell_arr En (by omega) g2
    have hAr := (arr_facts Cc.kk hA).1
    rw [g1] at hcell
    have hir := ok_i (ok_hd (ok_tl hS))
    have hb := ln_b a
    have hin : ¬ (Int32.ofInt i < 0 ∨ (arrV (D.2.2.1 k) (ln a).toNat (fun i => tv D M (aty k) (rd M a i))).slots.size ≤ (Int32.ofInt i).toNatClampNeg) := by
      rw [arrV_size]
      exact w_in hir h0 (by omega)
    have fin2 : ∀ (v : Value), v = tv D M (aty k) z' → ∀ (H' : Heap), H'[dlo D + (mAd M a - 1)]? = some ((arrV (D.2.2.1 k) (ln a).toNat (fun i => tv D M (aty k) (rd M a i))).setSlot (Int32.ofInt i).toNatClampNeg v) → H'.size = H.size → (∀ q, q ≠ dlo D + (mAd M a - 1) → H'[q]? = H[q]?) →
        W p l e R s m args below meth cd H' (locs ++ [⟨dlo D + (mAd M a - 1), (Int32.ofInt i).toNatClampNeg⟩]) cells slots Q (F0 m (pc + 1) ls (cvS D M st)) := fun v hv H' e1 e2 e3 => by
      subst hv
      have En' : Enc D (wr M a i z') H' := Enc_arr En g1 hk.1 g2 h0 (by rw [w_clamp h0 hir] at e1; exact e1) e2 e3
      have k2 := kk H' (locs ++ [⟨dlo D + (mAd M a - 1), (Int32.ofInt i).toNatClampNeg⟩]) ls En' (va_S.put S e2 e3 (by show dlo D ≤ dlo D + (mAd M a - 1); omega)) hl9
      rw [show mX (wr M a i z') - mX M = 0 from Nat.sub_self _, show mS (wr M a i z') - mS M = 0 from Nat.sub_self _, Nat.add_zero, Nat.add_zero] at k2
      exact k2
    rw [cvS, List.map_cons, List.map_cons, List.map_cons, cv_s (ok_hd (ok_tl (ok_tl hS))) (by omega) (by omega) ha]
    rcases hi with ⟨rfl, rfl, rfl, rfl⟩ | ⟨rfl, rfl, rfl, rfl⟩ | ⟨rfl, rfl, rfl, rfl⟩
    · exact W.iast Cc.1 Cc.2.1 hcell (hAr _ _) (fun q => by cases q) hin rfl rfl hd (fin2 _ rfl)
    · exact W.zast Cc.1 Cc.2.1 hcell (hAr _ _) (fun q => by cases q) hin rfl rfl hd (fin2 _ (congrArg Value.int (ofInt_t _).symm))
    · exact W.last Cc.1 Cc.2.1 hcell (hAr _ _) (fun q => by cases q) hin rfl rfl hd (fin2 _ rfl)
theorem st_aast {t0 k c t1 : Nat} {a i z : Int} {C : String} {T : u_T} {N : Nat} (hd : decode μ.2.1 pc = .ok (.aastore, 1)) (hp : pc + 1 = pc') (hA : akind k (.object C)) (K : ClsOK c C T N) (hkc : k = 16 + c) (ht : t0 = k + 3) (ht1 : t1 = c + 4) (ha : a ≠ 0) (h0 : 0 ≤ i) (h1 : i < ln a) :
    St D μ pc L ((t1, z) :: (0, i) :: (t0, a) :: st) M pc' L st (wr M a i z) := by
  subst hp; subst ht1
  obtain ⟨hc, hN, hu, hnm, ty, hty, htm⟩ := K
  have hc12 := vw_lt hc
  have hk : 13 ≤ k ∧ k < 28 := by omega
  have hat : aty k = c + 4 := by unfold aty; rw [if_neg (by omega), if_neg (by omega), if_neg (by omega)]; omega
  refine ⟨fun hL hS hW => ⟨hL, ok_tl (ok_tl (ok_tl hS)), ?_, Gr_wr, rfl⟩, fun l p e R s m args below meth cd H locs ls cells slots Q hL hS hW Cc En S hl9 _ _ kk => ?_⟩
  · obtain ⟨g1, g2⟩ := arr_at (ok_tl (ok_tl hS)) ht hk ha
    refine WT_wr hW g2 ⟨fun h => absurd h (by omega), fun _ _ _ => ?_⟩
    rw [g1, hat]; exact ok_hd hS
  · obtain ⟨g1, g2⟩ := arr_at (ok_tl (ok_tl hS)) ht hk ha
    have hcell := cell_arr En (by omega) g2
    obtain ⟨hAr, hRA⟩ := arr_facts Cc.kk hA
    rw [g1] at hcell
    have hir := ok_i (ok_hd (ok_tl hS))
    have hb := ln_b a
    have hin : ¬ (Int32.ofInt i < 0 ∨ (arrV (D.2.2.1 k) (ln a).toNat (fun i => tv D M (aty k) (rd M a i))).slots.size ≤ (Int32.ofInt i).toNatClampNeg) := by
      rw [arrV_size]
      exact w_in hir h0 (by omega)
    have fin2 : ∀ (v : Value), v = tv D M (aty k) z → ∀ (H' : Heap), H'[dlo D + (mAd M a - 1)]? = some ((arrV (D.2.2.1 k) (ln a).toNat (fun i => tv D M (aty k) (rd M a i))).setSlot (Int32.ofInt i).toNatClampNeg v) → H'.size = H.size → (∀ q, q ≠ dlo D + (mAd M a - 1) → H'[q]? = H[q]?) →
        W p l e R s m args below meth cd H' (locs ++ [⟨dlo D + (mAd M a - 1), (Int32.ofInt i).toNatClampNeg⟩]) cells slots Q (F0 m (pc + 1) ls (cvS D M st)) := fun v hv H' e1 e2 e3 => by
      subst hv
      have En' : Enc D (wr M a i z) H' := Enc_arr En g1 hk.1 g2 h0 (by rw [w_clamp h0 hir] at e1; exact e1) e2 e3
      have k2 := kk H' (locs ++ [⟨dlo D + (mAd M a - 1), (Int32.ofInt i).toNatClampNeg⟩]) ls En' (va_S.put S e2 e3 (by show dlo D ≤ dlo D + (mAd M a - 1); omega)) hl9
      rw [show mX (wr M a i z) - mX M = 0 from Nat.sub_self _, show mS (wr M a i z) - mS M = 0 from Nat.sub_self _, Nat.add_zero, Nat.add_zero] at k2
      exact k2
    rw [cvS, List.map_cons, List.map_cons, List.map_cons, cv_s (ok_hd (ok_tl (ok_tl hS))) (by omega) (by omega) ha]
    by_cases hz : z = 0
    · subst hz
      rw [cv_n (by omega)]
      exact va_WaastN (C := C) Cc.1 Cc.2.1 hcell (hAr _ _) (fun h => by cases h) hin rfl rfl hd (fin2 _ (by rw [hat]; exact (cv_n (t := c + 4) (by omega)).symm))
    · obtain ⟨v1, v2⟩ := tok_r (ok_hd hS) (by show 4 ≤ c + 4; omega) (by show c + 4 ≠ 100; omega) hz
      have v1 : kd z = c + 1 := by have : kd z + 3 = c + 4 := v1; omega
      obtain ⟨cellV, p1, p2, p3, -⟩ := cell_obj En v1 hc12 v2
      have hcls := (Cc.kk.1.1 c _ hc).2
      obtain ⟨kA, comp, k1, k2, k3, -⟩ := hRA
      have hcomp : comp = D.1 c := Option.some.inj (k3.symm.trans hcls.1)
      subst hcomp
      obtain ⟨kC, hkC, -⟩ := hcls.2
      rw [cv_s (ok_hd hS) (by omega) (by omega) hz]
      refine W.aast Cc.1 Cc.2.1 hcell (fun q h => by cases h) (fun h => by cases h) k1 k2 rfl hkC ⟨fun q => hin (Or.inl q), Nat.not_le.mp fun q => hin (Or.inr q)⟩ p1 (fun q h => by rw [p3] at h; cases h) (by rw [p2]; exact hkC) (by rw [p2]; exact va_assign hcls) rfl rfl hd (fin2 _ (by rw [hat]; exact (cv_s (t := c + 4) (ok_hd hS) (by omega) (by omega) hz).symm))
theorem st_alen {t0 k : Nat} {a : Int} {ty : FieldType} (hd : decode μ.2.1 pc = .ok (.arraylength, 1)) (hp : pc + 1 = pc') (hA : akind k ty) (ht : t0 = k + 3) (hk : 13 ≤ k ∧ k < 28) (ha : a ≠ 0) :
    St D μ pc L ((t0, a) :: st) M pc' L ((0, ln a) :: st) M := by
  subst hp
  have hb := ln_b a
  refine St.of (fun hL hS hW => ok_cons (ok_int (by unfold r32; omega)) (ok_tl hS)) (fun l p e R s m args below meth cd H locs ls cells slots Q hL hS hW Cc En S hl9 kk => ?_)
  obtain ⟨g1, g2⟩ := arr_at hS ht hk ha
  have hcell := cell_arr En (by omega) g2
  have hAr := (arr_facts Cc.kk hA).1
  rw [g1] at hcell
  rw [cvS, List.map_cons, cv_s (ok_hd hS) (by omega) (by omega) ha]
  rw [cvS, List.map_cons] at kk
  refine W.alen (n := Int32.ofInt (ln a)) Cc.1 Cc.2.1 hcell (hAr _ _) ?_ rfl rfl hd kk
  rw [arrV_size]
  show Int32.ofNat (ln a).toNat = Int32.ofInt (ln a)
  rw [← Int32.ofInt_eq_ofNat, Int.toNat_of_nonneg hb.1]
/-! the script -/
theorem st_sld {i : Int} (hd : decode μ.2.1 pc = .ok (.iaload, 1)) (hp : pc + 1 = pc') (h0 : 0 ≤ i) (h1 : i < (D.2.2.2.2.2.1 : Int)) :
    St D μ pc L ((0, i) :: (100, -1) :: st) M pc' L ((0, (D.2.2.2.2.2.2 i.toNat).toInt) :: st) M := by
  subst hp
  refine St.of (fun hL hS hW => ok_cons (ok_int (r32_t _)) (ok_tl (ok_tl hS))) (fun l p e R s m args below meth cd H locs ls cells slots Q hL hS hW Cc En S hl9 kk => ?_)
  have hir := ok_i (ok_hd hS)
  obtain ⟨-, -, -, -, -, -, -, hX, hb, -, hL31, -, -, -⟩ := Cc.kk
  rw [cvS, List.map_cons, show cv D M (0, (D.2.2.2.2.2.2 i.toNat).toInt) = .int (D.2.2.2.2.2.2 i.toNat) from congrArg Value.int (ofInt_t _), ← w_clamp h0 hir] at kk
  exact va_sld Cc.1 Cc.2.1 hX (by have := Cc.kk.2.2.2.2.2.2.2.2.2.1; omega) (show ¬ dlo D ≤ _ by omega) S (w_in hir h0 h1) hd kk
theorem st_slen (hd : decode μ.2.1 pc = .ok (.arraylength, 1)) (hp : pc + 1 = pc') :
    St D μ pc L ((100, -1) :: st) M pc' L ((0, w (D.2.2.2.2.2.1 : Int)) :: st) M := by
  subst hp
  refine St.of (fun hL hS hW => ok_cons (ok_int (r32_t _)) (ok_tl hS)) (fun l p e R s m args below meth cd H locs ls cells slots Q hL hS hW Cc En S hl9 kk => ?_)
  obtain ⟨-, -, -, -, -, -, -, hX, hb, -, hL31, -, -, -⟩ := Cc.kk
  rw [cvS, List.map_cons, show cv D M (0, w (D.2.2.2.2.2.1 : Int)) = .int (Int32.ofNat D.2.2.2.2.2.1) from congrArg Value.int (by rw [ofInt_w]; exact Int32.ofInt_eq_ofNat)] at kk
  exact va_slen Cc.1 Cc.2.1 hX (by have := Cc.kk.2.2.2.2.2.2.2.2.2.1; omega) (show ¬ dlo D ≤ _ by omega) S hd kk
/-! new things -/
theorem cv_nw {a : Int} {n t : Nat} (h0 : mAd M a = 0) (ht : t = kd a + 3) (hk : 1 ≤ kd a ∧ kd a < 28) : cv D (nw M a n) (t, a) = .ref (dlo D + mX M) ∧ okV (nw M a n) (t, a) := by
  have e1 : mAd (nw M a n) a = mX M + 1 := by rw [ad_nw, if_pos rfl]
  have hok : okV (nw M a n) (t, a) := by
    show tok _ t a
    unfold tok
    rw [if_neg (by omega), if_neg (by omega)]
    exact Or.inr (Or.inr ⟨ht.symm, by rw [e1]; omega⟩)
  have ha : a ≠ 0 := by
    intro e
    subst e
    have : kd 0 = 0 := by decide
    omega
  refine ⟨?_, hok⟩
  rw [cv_s hok (by omega) (by omega) ha, e1]
  rfl
theorem st_new {c index t0 : Nat} {a : Int} {n : Nat} {C : String} {T : u_T} {N : Nat} (hd : decode μ.2.1 pc = .ok (.new index, 3)) (hp : pc + 3 = pc') (K : ClsOK c C T N) (hl : Cond.classLink μ.1.cls index C ∈ Big ∧ Cond.instantiable C N ∈ Big ∧ Cond.initialized C ∈ Big) (hn : n = N) (ht : t0 = c + 4) (h0 : mAd M a = 0) (hk : kd a = c + 1) (hgh : gho a = false) :
    St D μ pc L st M pc' L ((t0, a) :: st) (nw M a n) := by
  subst hp; subst hn; subst ht
  obtain ⟨hc, hN, hu, hnm, ty, hty, htm⟩ := K
  have hc12 := vw_lt hc
  have hg : Gr M (nw M a n) := Gr_nw h0
  obtain ⟨cv1, ok1⟩ := cv_nw (D := D) (n := n) h0 (t := c + 4) (by omega) ⟨by omega, by omega⟩
  refine ⟨fun hL hS hW => ⟨okL_up hL hg, ok_cons ok1 (okS_up hS hg), WT_nw hW h0 (by omega) (by omega) hgh (by unfold sz; rw [if_pos (by omega), hk]; exact hN.symm), hg, rfl⟩, fun l p e R s m args below meth cd H locs ls cells slots Q hL hS hW Cc En S hl9 hcl hsl k => ?_⟩
  have hts := Cc.big
  have hKn := Cc.kk.1.1 c _ hc
  have x1 : mX (nw M a n) - mX M = 1 := by show mX M + 1 - mX M = 1; omega
  have x2 : mS (nw M a n) - mS M = n := by show mS M + n - mS M = n; omega
  rw [x1] at hcl; rw [x2] at hsl
  refine W.newcK Cc.1 Cc.2.1 Cc.own (hts _ hl.1) (hts _ hl.2.1) (hts _ hl.2.2) rfl hd hcl hsl hKn.2.1 rfl fun H1 kC hkC e1 z1 o1 => ?_
  have hb := u_born ty hts hu hKn hkC e1 hty
  have En' : Enc D (nw M a n) H1 := Enc_nw En hW h0 z1 o1 (by
    unfold cellAt
    rw [if_pos (by omega), ad_nw, if_pos rfl, hk, show c + 1 - 1 = c from rfl, show dlo D + (mX M + 1 - 1) = H.size by rw [En.1]; rfl, hN]
    refine hb.to fun i hi => ?_
    rw [rd_nw, if_pos rfl]
    exact tyM_def (htm i hi))
  have k2 := k H1 locs ls En' ⟨Nat.le_trans S.1 (by omega), fun x h1 h2 => (o1 x (Nat.lt_of_lt_of_le h1 S.1)).trans (S.2.1 x h1 h2), S.2.2⟩ (by rw [cvL_up hL hg]; exact hl9)
  rw [x1, x2, cvS, List.map_cons, cv1, show List.map (cv D (nw M a n)) st = cvS D M st from cvS_up hS hg] at k2
  rw [show H.size = dlo D + mX M from En.1]
  exact k2
theorem Enc_newarr {H H1 : Heap} {k : Nat} {a : Int} {n : Nat} {x : Value} (En : Enc D M H) (hW : WT M) (h0 : mAd M a = 0) (hk : kd a = k) (hk2 : 13 ≤ k) (hn : ln a = (n : Int)) (hx : x = tv D (nw M a n) (aty k) 0) (z1 : H1.size = H.size + 1) (o1 : ∀ q : Nat, q < H.size → H1[q]? = H[q]?) (e1 : H1[H.size]? = some (arrV (D.2.2.1 k) n (fun _ => x))) : Enc D (nw M a n) H1 := by
  refine Enc_nw En hW h0 z1 o1 ?_
  unfold cellAt
  rw [if_neg (by omega), ad_nw, if_pos rfl, hk, show dlo D + (mX M + 1 - 1) = H.size by rw [En.1]; rfl]
  refine e1.trans ?_
  rw [hn, hx]
  congr 2
  funext i
  rw [rd_nw, if_pos rfl]
theorem st_newa {k t0 : Nat} {a n : Int} {n' : Nat} {atype : ArrayType} {ty : FieldType} (hd : decode μ.2.1 pc = .ok (.newarray atype, 2)) (hp : pc + 2 = pc') (hA : akind k ty) (hty : newarray.typeOf atype = ty) (hw : Cond.arrayClass ty ∈ Big) (hk : (k = 13 ∧ ty = .int) ∨ (k = 14 ∧ ty = .boolean) ∨ (k = 15 ∧ ty = .long)) (ht : t0 = k + 3) (h0 : mAd M a = 0) (hka : kd a = k) (hn : ln a = n) (hgh : gho a = false) (hn' : n' = n.toNat) :
    St D μ pc L ((0, n) :: st) M pc' L ((t0, a) :: st) (nw M a n') := by
  subst hp; subst hty; subst ht
  have hb := ln_b a
  have hk28 : 13 ≤ k ∧ k < 28 := by rcases hk with h | h | h <;> omega
  have hg : Gr M (nw M a n') := Gr_nw h0
  obtain ⟨cv1, ok1⟩ := cv_nw (D := D) (n := n') h0 (t := k + 3) (by omega) ⟨by omega, by omega⟩
  refine ⟨fun hL hS hW => ⟨okL_up hL hg, ok_cons ok1 (okS_up (ok_tl hS) hg), WT_nw hW h0 (by omega) (by omega) hgh (by unfold sz; rw [if_neg (by omega), hn, hn']), hg, rfl⟩, fun l p e R s m args below meth cd H locs ls cells slots Q hL hS hW Cc En S hl9 hcl hsl kk => ?_⟩
  have hts := Cc.big
  have x1 : mX (nw M a n') - mX M = 1 := by show mX M + 1 - mX M = 1; omega
  have x2 : mS (nw M a n') - mS M = n' := by show mS M + n' - mS M = n'; omega
  rw [x1] at hcl; rw [x2] at hsl
  have hir := ok_i (ok_hd hS)
  have hcla : (Int32.ofInt n).toNatClampNeg = n' := by rw [w_clamp (by omega) hir, hn']
  have hcb : componentBytes (newarray.typeOf atype) ≤ 8 := by rcases hk with ⟨-, h⟩ | ⟨-, h⟩ | ⟨-, h⟩ <;> (rw [h]; decide)
  have hbyt : n' * componentBytes (newarray.typeOf atype) ≤ 536870912 := Nat.le_trans (Nat.mul_le_mul (show n' ≤ 540 by omega) hcb) (by decide)
  refine va_newaK (N := n') Cc.1 Cc.2.1 (hts _ hw) rfl hd (n := Int32.ofInt n) rfl (fun q => by have := (i_lt hir r32_0).mp q; omega) hcla hbyt hcl hsl rfl fun H1 cA e1 z1 o1 hAr hNm => ?_
  have hRA := (arr_facts Cc.kk hA).2
  have hcA : cA = D.2.2.1 k := by
    rcases hk with ⟨-, h⟩ | ⟨-, h⟩ | ⟨-, h⟩ <;> (rw [h] at hRA hNm; exact Option.some.inj (hNm.symm.trans hRA))
  subst hcA
  have En' : Enc D (nw M a n') H1 := Enc_newarr En hW h0 hka (by omega) (by rw [hn, hn']; omega) (by rcases hk with ⟨rfl, h⟩ | ⟨rfl, h⟩ | ⟨rfl, h⟩ <;> (rw [h]; rfl)) z1 o1 e1
  have k2 := kk H1 locs ls En' ⟨Nat.le_trans S.1 (by omega), fun x h1 h2 => (o1 x (Nat.lt_of_lt_of_le h1 S.1)).trans (S.2.1 x h1 h2), S.2.2⟩ (by rw [cvL_up hL hg]; exact hl9)
  rw [x1, x2, cvS, List.map_cons, cv1, show List.map (cv D (nw M a n')) st = cvS D M st from cvS_up (ok_tl hS) hg] at k2
  rw [show H.size = dlo D + mX M from En.1]
  exact k2
theorem st_anew {k t0 c index : Nat} {a n : Int} {n' : Nat} {C : String} (hd : decode μ.2.1 pc = .ok (.anewarray index, 3)) (hp : pc + 3 = pc') (hA : akind k (.object C)) (hl : Cond.classLink μ.1.cls index C ∈ Big) (hkc : k = 16 + c ∧ c < 12) (ht : t0 = k + 3) (h0 : mAd M a = 0) (hka : kd a = k) (hn : ln a = n) (hgh : gho a = false) (hn' : n' = n.toNat) :
    St D μ pc L ((0, n) :: st) M pc' L ((t0, a) :: st) (nw M a n') := by
  subst hp; subst ht
  have hb := ln_b a
  have hk28 : 13 ≤ k ∧ k < 28 := by omega
  have hat : aty k = c + 4 := by unfold aty; rw [if_neg (by omega), if_neg (by omega), if_neg (by omega)]; omega
  have hg : Gr M (nw M a n') := Gr_nw h0
  obtain ⟨cv1, ok1⟩ := cv_nw (D := D) (n := n') h0 (t := k + 3) (by omega) ⟨by omega, by omega⟩
  refine ⟨fun hL hS hW => ⟨okL_up hL hg, ok_cons ok1 (okS_up (ok_tl hS) hg), WT_nw hW h0 (by omega) (by omega) hgh (by unfold sz; rw [if_neg (by omega), hn, hn']), hg, rfl⟩, fun l p e R s m args below meth cd H locs ls cells slots Q hL hS hW Cc En S hl9 hcl hsl kk => ?_⟩
  have hts := Cc.big
  have x1 : mX (nw M a n') - mX M = 1 := by show mX M + 1 - mX M = 1; omega
  have x2 : mS (nw M a n') - mS M = n' := by show mS M + n' - mS M = n'; omega
  rw [x1] at hcl; rw [x2] at hsl
  have hir := ok_i (ok_hd hS)
  have hcla : (Int32.ofInt n).toNatClampNeg = n' := by rw [w_clamp (by omega) hir, hn']
  refine W.anew Cc.1 Cc.2.1 Cc.own (hts _ hl) (va_AO.use (Cc.kk.2.2.2.2.2.1 _ hA C rfl)) rfl hd (n := Int32.ofInt n) rfl (fun q => by have := (i_lt hir r32_0).mp q; omega) (by rw [hcla]; omega) hcl (by rw [hcla]; exact hsl) fun cA kA comp f1 f2 f3 f4 => ?_
  rw [hcla]
  generalize hH1 : H.push ({ cls := cA, slots := Array.replicate n' .null, vm := .none } : Cell) = H1
  have z1 : H1.size = H.size + 1 := by rw [← hH1, Array.size_push]
  have e1 : H1[H.size]? = some (arrV cA n' (fun _ => .null)) := by rw [← hH1, Array.getElem?_push_size, ← arrV_new]
  have o1 : ∀ q : Nat, q < H.size → H1[q]? = H[q]? := fun q hq => by rw [← hH1, Array.getElem?_push, if_neg (Nat.ne_of_lt hq)]
  obtain ⟨kA', comp', k1, k2, k3, k4⟩ := (arr_facts Cc.kk hA).2
  have hcA : cA = D.2.2.1 k := Option.some.inj (f1.symm.trans k4)
  subst hcA
  have En' : Enc D (nw M a n') H1 := Enc_newarr En hW h0 hka (by omega) (by rw [hn, hn']; omega) (by rw [hat]; exact (cv_n (t := c + 4) (by omega)).symm) z1 o1 e1
  have k2 := kk H1 locs ls En' ⟨Nat.le_trans S.1 (by omega), fun x h1 h2 => (o1 x (Nat.lt_of_lt_of_le h1 S.1)).trans (S.2.1 x h1 h2), S.2.2⟩ (by rw [cvL_up hL hg]; exact hl9)
  rw [x1, x2, cvS, List.map_cons, cv1, show List.map (cv D (nw M a n')) st = cvS D M st from cvS_up (ok_tl hS) hg] at k2
  rw [show H.size = dlo D + mX M from En.1]
  exact k2
end MEM
