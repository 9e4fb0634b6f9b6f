/-! FOR THE LAW: how many exceptions its methods may cost; long numbers; the ghost -/
section LAWR
variable {D : Dt} {κ κ' : Nat} {μ μy : MI} {ρ : Type} {E : ρ → Oc × Mm} {pc pc' : Nat} {L L' : List (Nat × VV)} {st st' st0 : List VV} {M M' : Mm} {avs : List VV} {t : Nat}
theorem XE.mono {e : Option ρ} (h : κ' ≤ κ) (k : XE D κ' μ E pc L st M e) : XE D κ μ E pc L st M e := by
  intro r hr hL hS hW
  obtain ⟨⟨a1, a2, a3, a4⟩, a5⟩ := k r hr hL hS hW
  refine ⟨⟨a1, a2, a3, ?_⟩, a5⟩
  unfold TB at a4 ⊢
  omega
theorem XE.cWk {e1 : Option (Int × Mm)} {kf : Int × Mm → Option ρ} {κ1 κ2 : Nat} (hκ : κ1 + κ2 ≤ κ) (hct : ∀ r, e1 = some r → CT D κ1 μy avs M (.inl (some (t, r.1))) r.2) (hrun : ∀ r, e1 = some r → RunOK D μ pc L st0 st M (.inl (some (t, r.1))) r.2) (hst0 : st0 = avs.reverse ++ st) (hpc : pc + 3 = pc')
    (k : ∀ r : Int × Mm, XE D κ2 μ E pc' L ((t, r.1) :: st) r.2 (kf r)) : XE D κ μ E pc L st0 M (e1.bind kf) :=
  XE.mono hκ (XE.call (E1 := EW t) (κ1 := κ1) (κ2 := κ2) hct hrun hst0 rfl hpc (fun r v _ hv => by cases hv; exact k r) (fun r Ex _ h => nomatch h))
theorem XE.cVk {e1 : Option Mm} {kf : Mm → Option ρ} {κ1 κ2 : Nat} (hκ : κ1 + κ2 ≤ κ) (hct : ∀ r, e1 = some r → CT D κ1 μy avs M (.inl Option.none) r) (hrun : ∀ r, e1 = some r → RunOK D μ pc L st0 st M (.inl Option.none) r) (hst0 : st0 = avs.reverse ++ st) (hpc : pc + 3 = pc')
    (k : ∀ r : Mm, XE D κ2 μ E pc' L st r (kf r)) : XE D κ μ E pc L st0 M (e1.bind kf) :=
  XE.mono hκ (XE.call (E1 := EV) (κ1 := κ1) (κ2 := κ2) hct hrun hst0 rfl hpc (fun r v _ hv => by cases hv; exact k r) (fun r Ex _ h => nomatch h))
theorem XE.joink {σ : Type} {e1 : Option σ} {k : σ → Option ρ} {κ1 : Nat} {pcJ : Nat} {LJ : σ → List (Nat × VV)} {sJ : σ → List VV} {MJ : σ → Mm}
    (h : ∀ kk : σ → Option ρ, (∀ s, XE D κ1 μ E pcJ (LJ s) (sJ s) (MJ s) (kk s)) → XE D κ μ E pc L st M (e1.bind kk)) (J : ∀ s, XE D κ1 μ E pcJ (LJ s) (sJ s) (MJ s) (k s)) : XE D κ μ E pc L st M (e1.bind k) := h k J
theorem XE.joinXk {σ Y : Type} {e1 : Option (Y ⊕ σ)} {k : σ → Option ρ} {ko : Y → Option ρ} {κ1 : Nat} {pcJ : Nat} {LJ : σ → List (Nat × VV)} {sJ : σ → List VV} {MJ : σ → Mm}
    (h : ∀ kk : Y ⊕ σ → Option ρ, (∀ y, kk (.inl y) = ko y) → (∀ s, XE D κ1 μ E pcJ (LJ s) (sJ s) (MJ s) (kk (.inr s))) → XE D κ μ E pc L st M (e1.bind kk)) (J : ∀ s, XE D κ1 μ E pcJ (LJ s) (sJ s) (MJ s) (k s)) : XE D κ μ E pc L st M (e1.bind (Sum.elim ko k)) :=
  h (Sum.elim ko k) (fun _ => rfl) J
theorem XE.loopk {σ τ : Type} {f : σ → Option (σ ⊕ τ)} {k : τ → Option ρ} {b e : Nat} {pcL : Nat} {LL : σ → List (Nat × VV)} {sL : σ → List VV} {ML : σ → Mm}
    (hb : ∀ κp, e ≤ κp → ∀ kk : (σ ⊕ τ) → Option ρ, (∀ s, XE D κp μ E pcL (LL s) (sL s) (ML s) (kk (.inl s))) → (∀ t, kk (.inr t) = k t) → ∀ s, XE D (κp + b) μ E pcL (LL s) (sL s) (ML s) ((f s).bind kk)) (n : Nat) (s : σ) : XE D (n * b + e) μ E pcL (LL s) (sL s) (ML s) ((lp f n s).bind k) := by
  induction n generalizing s with
  | zero => exact XE.none
  | succ n ih =>
    have h1 := hb (n * b + e) (Nat.le_add_left _ _) (fun r => (Sum.elim (lp f n) some r).bind k) (fun s => ih s) (fun t => rfl) s
    have h2 : (lp f (n + 1) s).bind k = (f s).bind (fun r => (Sum.elim (lp f n) some r).bind k) := by
      show ((f s).bind (Sum.elim (lp f n) some)).bind k = _
      rw [Option.bind_assoc]
    rw [h2]
    have h3 : (n + 1) * b + e = n * b + e + b := by rw [Nat.add_mul, Nat.one_mul]; omega
    rw [h3]
    exact h1
theorem XE.loopJk {σ τ : Type} {f : σ → Option (σ ⊕ τ)} {k : τ → Option ρ} {b e : Nat} {pcL pcE n : Nat} {LL : σ → List (Nat × VV)} {sL : σ → List VV} {ML : σ → Mm} {LE : τ → List (Nat × VV)} {sE : τ → List VV} {ME : τ → Mm} {s0 : σ} (hκ : n * b + e ≤ κ)
    (hb : ∀ κp, e ≤ κp → ∀ kk : σ ⊕ τ → Option ρ, (∀ s, XE D κp μ E pcL (LL s) (sL s) (ML s) (kk (.inl s))) → (∀ t, XE D e μ E pcE (LE t) (sE t) (ME t) (kk (.inr t))) → ∀ s, XE D (κp + b) μ E pcL (LL s) (sL s) (ML s) ((f s).bind kk))
    (J : ∀ t, XE D e μ E pcE (LE t) (sE t) (ME t) (k t)) : XE D κ μ E pcL (LL s0) (sL s0) (ML s0) ((lp f n s0).bind k) :=
  XE.mono hκ (XE.loopk (fun κp hp kk h1 h2 s => hb κp hp kk h1 (fun t => by rw [h2 t]; exact J t) s) n s0)
theorem XE.loopXk {σ τ Y : Type} {f : σ → Option (σ ⊕ (Y ⊕ τ))} {k : τ → Option ρ} {ko : Y → Option ρ} {b e : Nat} {pcL pcE n : Nat} {LL : σ → List (Nat × VV)} {sL : σ → List VV} {ML : σ → Mm} {LE : τ → List (Nat × VV)} {sE : τ → List VV} {ME : τ → Mm} {s0 : σ} (hκ : n * b + e ≤ κ)
    (hb : ∀ κp, e ≤ κp → ∀ kk : σ ⊕ (Y ⊕ τ) → Option ρ, (∀ y, kk (.inr (.inl y)) = ko y) → (∀ s, XE D κp μ E pcL (LL s) (sL s) (ML s) (kk (.inl s))) → (∀ t, XE D e μ E pcE (LE t) (sE t) (ME t) (kk (.inr (.inr t)))) → ∀ s, XE D (κp + b) μ E pcL (LL s) (sL s) (ML s) ((f s).bind kk))
    (J : ∀ t, XE D e μ E pcE (LE t) (sE t) (ME t) (k t)) : XE D κ μ E pcL (LL s0) (sL s0) (ML s0) ((lp f n s0).bind (Sum.elim ko k)) :=
  XE.mono hκ (XE.loopk (fun κp hp kk h1 h2 s => hb κp hp kk (fun y => h2 (.inl y)) h1 (fun t => by rw [h2 (.inr t)]; exact J t) s) n s0)
end LAWR
/-! long numbers -/
def lan (x y : Int) : Int := (Int64.ofInt x &&& Int64.ofInt y).toInt
def lio (x y : Int) : Int := (Int64.ofInt x ||| Int64.ofInt y).toInt
def lsl (x y : Int) : Int := (Int64.ofInt x <<< ((Int32.ofInt y).toInt64 &&& 63)).toInt
def lsr (x y : Int) : Int := (Int64.ofInt x >>> ((Int32.ofInt y).toInt64 &&& 63)).toInt
theorem r64_t (z : Int64) : r64 z.toInt := by
  have h1 := Int64.le_toInt z
  have h2 := Int64.toInt_lt z
  unfold r64
  omega
theorem ofLong_t (z : Int64) : Int64.ofInt z.toInt = z := Int64.ofInt_toInt _
section LONGR
variable {D : Dt} {μ : MI} {pc pc' : Nat} {L L' : List (Nat × VV)} {st : List VV} {M : Mm}
theorem st_land {x y : Int} (hd : decode μ.2.1 pc = .ok (.land, 1)) (hp : pc + 1 = pc') : St D μ pc L ((2, y) :: (2, x) :: st) M pc' L ((2, lan x y) :: st) M := by
  subst hp
  exact St.of (fun hL hS _ => ok_cons (ok_lng (r64_t _)) (ok_tl (ok_tl hS))) (fun l p e R s m args below meth c H locs ls cells slots Q hL hS hW C En S hl k => lv_land C.1 C.2.1 hd (by rw [cvS, List.map_cons, show cv D M (2, lan x y) = .long _ from congrArg Value.long (ofLong_t _)] at k; exact k))
theorem st_lor {x y : Int} (hd : decode μ.2.1 pc = .ok (.lor, 1)) (hp : pc + 1 = pc') : St D μ pc L ((2, y) :: (2, x) :: st) M pc' L ((2, lio x y) :: st) M := by
  subst hp
  exact St.of (fun hL hS _ => ok_cons (ok_lng (r64_t _)) (ok_tl (ok_tl hS))) (fun l p e R s m args below meth c H locs ls cells slots Q hL hS hW C En S hl k => lv_lor C.1 C.2.1 hd (by rw [cvS, List.map_cons, show cv D M (2, lio x y) = .long _ from congrArg Value.long (ofLong_t _)] at k; exact k))
theorem st_lshl {x y : Int} (hd : decode μ.2.1 pc = .ok (.lshl, 1)) (hp : pc + 1 = pc') : St D μ pc L ((0, y) :: (2, x) :: st) M pc' L ((2, lsl x y) :: st) M := by
  subst hp
  exact St.of (fun hL hS _ => ok_cons (ok_lng (r64_t _)) (ok_tl (ok_tl hS))) (fun l p e R s m args below meth c H locs ls cells slots Q hL hS hW C En S hl k => lv_lshl C.1 C.2.1 hd rfl (by rw [cvS, List.map_cons, show cv D M (2, lsl x y) = .long _ from congrArg Value.long (ofLong_t _)] at k; exact k))
theorem st_lshr {x y : Int} (hd : decode μ.2.1 pc = .ok (.lshr, 1)) (hp : pc + 1 = pc') : St D μ pc L ((0, y) :: (2, x) :: st) M pc' L ((2, lsr x y) :: st) M := by
  subst hp
  exact St.of (fun hL hS _ => ok_cons (ok_lng (r64_t _)) (ok_tl (ok_tl hS))) (fun l p e R s m args below meth c H locs ls cells slots Q hL hS hW C En S hl k => lv_lshr C.1 C.2.1 hd rfl (by rw [cvS, List.map_cons, show cv D M (2, lsr x y) = .long _ from congrArg Value.long (ofLong_t _)] at k; exact k))
end LONGR
/-! the ghost's cells may be put anew at any time: nothing of the heap is told by them -/
def ghm (M G : Mm) : Mm := ((fun a j => if gho a = true ∧ ¬ (a = 12000 ∧ j = 0) then G.1 a j else M.1 a j), M.2)
def ghq (e g : Option (Int × Mm)) : Option (Int × Mm) := e.bind fun r => g.bind fun z => some (r.1, ghm r.2 z.2)
theorem ad_gm {M G : Mm} : mAd (ghm M G) = mAd M := rfl
theorem tv_gm {D : Dt} {M G : Mm} : tv D (ghm M G) = tv D M := rfl
theorem rd_ghm {M G : Mm} {a j : Int} (h : gho a = false) : rd (ghm M G) a j = rd M a j := by
  show (if gho a = true ∧ ¬ (a = 12000 ∧ j = 0) then G.1 a j else M.1 a j) = M.1 a j
  rw [if_neg (fun z => by rw [h] at z; exact absurd z.1 (by decide))]
theorem WT_gm {M G : Mm} (h : WT M) : WT (ghm M G) := by
  refine ⟨fun b hb => ?_, h.2⟩
  obtain ⟨h1, h2, h3⟩ := h.1 b hb
  refine ⟨h1, fun hk i hi => ?_, fun hk i hi hl => ?_⟩
  · rw [rd_ghm h1.2.2]; exact h2 hk i hi
  · rw [rd_ghm h1.2.2]; exact h3 hk i hi hl
theorem Enc_gm {D : Dt} {M G : Mm} {H : Heap} (hW : WT M) (h : Enc D M H) : Enc D (ghm M G) H := by
  obtain ⟨h1, h2, h3⟩ := h
  refine ⟨h1, fun b hb => ⟨(h2 b hb).1, ?_⟩, h3⟩
  have h4 := (h2 b hb).2
  have h5 := (hW.1 b hb).1.2.2
  unfold cellAt at h4 ⊢
  by_cases hk : kd b < 13
  · rw [if_pos hk] at h4 ⊢
    refine h4.to fun i _ => ?_
    rw [rd_ghm h5]; rfl
  · rw [if_neg hk] at h4 ⊢
    refine h4.trans ?_
    congr 2
    funext i
    rw [rd_ghm h5]; rfl
theorem Gr_gm {M M' G : Mm} (h : Gr M M') : Gr M (ghm M' G) := h
theorem CT_ghm {D : Dt} {κ : Nat} {μ : MI} {avs : List VV} {M M' G : Mm} {z : Int} (h : CT D κ μ avs M (.inl (some (0, z))) M') : CT D κ μ avs M (.inl (some (0, z))) (ghm M' G) := by
  intro hav hW
  obtain ⟨⟨a1, a2, a3, a4⟩, a5⟩ := h hav hW
  refine ⟨⟨a1, a2, WT_gm a3, a4⟩, fun l hl => ?_⟩
  have a6 := a5 l hl
  intro p e h1 h2 h3 s m args below h4 h5 h6 h7
  obtain ⟨n, oc, g1, g2, g3, g4⟩ := a6 p e h1 h2 h3 s m args below h4 h5 h6 h7
  refine ⟨n, oc, g1, g2, g3, ?_⟩
  rcases g4 with ⟨⟨⟨v, hv, ho⟩, q2, q3⟩, q4⟩ | ⟨q, -, E, ce, L, hx, -⟩
  · exact Or.inl ⟨⟨⟨v, hv, ho⟩, Enc_gm a3 q2, q3⟩, q4⟩
  · exact nomatch hx.1
theorem CT_ghq {D : Dt} {μ : MI} {avs : List VV} {M : Mm} {e g : Option (Int × Mm)} {r : Int × Mm} (h : ∀ r, e = some r → CT D 1 μ avs M (.inl (some (0, r.1))) r.2) (hr : ghq e g = some r) : CT D 1 μ avs M (.inl (some (0, r.1))) r.2 := by
  unfold ghq at hr
  cases he : e with
  | none => rw [he] at hr; exact nomatch hr
  | some x =>
    rw [he] at hr
    cases hg : g with
    | none => rw [hg] at hr; exact nomatch hr
    | some y =>
      rw [hg] at hr
      have e2 : r = (x.1, ghm x.2 y.2) := (Option.some.inj hr).symm
      subst e2
      exact CT_ghm (h x he)
