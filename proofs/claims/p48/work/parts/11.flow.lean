/-! HOW A METHOD'S TEXT FLOWS: guards, joins, loops, named values, new memories -/
def gd {α : Type} (p : Prop) [Decidable p] (e : Option α) : Option α := if p then e else none
abbrev aok (a i : Int) : Prop := a ≠ 0 ∧ 0 ≤ i ∧ i < ln a
section FLOW
variable {D : Dt} {κ : Nat} {μ : MI} {ρ : Type} {E : ρ → Oc × Mm} {pc pc' : Nat} {L L' : List (Nat × VV)} {st st' : List VV} {M M' : Mm}
theorem XE.gd_ {p : Prop} {h : Decidable p} {e : Option ρ} (k : p → XE D κ μ E pc L st M e) : XE D κ μ E pc L st M (@gd ρ p h e) := by
  unfold gd
  by_cases hp : p
  · rw [if_pos hp]; exact k hp
  · rw [if_neg hp]; exact XE.none
theorem XE.gdb {τ : Type} {p : Prop} {h : Decidable p} {e : Option τ} {f : τ → Option ρ} (k : p → XE D κ μ E pc L st M (e.bind f)) : XE D κ μ E pc L st M ((@gd τ p h e).bind f) := by
  unfold gd
  by_cases hp : p
  · rw [if_pos hp]; exact k hp
  · rw [if_neg hp]; exact XE.none
theorem XE.asc {σ τ : Type} {e : Option σ} {f : σ → Option τ} {g : τ → Option ρ} (k : XE D κ μ E pc L st M (e.bind fun x => (f x).bind g)) : XE D κ μ E pc L st M ((e.bind f).bind g) := by
  rw [Option.bind_assoc]; exact k
theorem XE.ascX {σ Y : Type} {e : Option (Y ⊕ σ)} {f : σ → Option Y} {g : Y → Option ρ} (k : XE D κ μ E pc L st M (e.bind (Sum.elim g fun x => (f x).bind g))) : XE D κ μ E pc L st M ((e.bind (Sum.elim some f)).bind g) := by
  rw [Option.bind_assoc]
  have h : (fun x => (Sum.elim some f x).bind g) = Sum.elim g fun x => (f x).bind g := by
    funext x
    cases x <;> rfl
  rw [h]; exact k
theorem XE.join {σ : Type} {e1 : Option σ} {k : σ → Option ρ} {pcJ : Nat} {LJ : σ → List (Nat × VV)} {sJ : σ → List VV} {MJ : σ → Mm}
    (h : ∀ kk : σ → Option ρ, (∀ s, XE D κ μ E pcJ (LJ s) (sJ s) (MJ s) (kk s)) → XE D κ μ E pc L st M (e1.bind kk)) (J : ∀ s, XE D κ μ E pcJ (LJ s) (sJ s) (MJ s) (k s)) : XE D κ μ E pc L st M (e1.bind k) := h k J
theorem XE.joinX {σ Y : Type} {e1 : Option (Y ⊕ σ)} {k : σ → Option ρ} {ko : Y → Option ρ} {pcJ : Nat} {LJ : σ → List (Nat × VV)} {sJ : σ → List VV} {MJ : σ → Mm}
    (h : ∀ kk : Y ⊕ σ → Option ρ, (∀ y, kk (.inl y) = ko y) → (∀ s, XE D κ μ E pcJ (LJ s) (sJ s) (MJ s) (kk (.inr s))) → XE D κ μ E pc L st M (e1.bind kk)) (J : ∀ s, XE D κ μ E pcJ (LJ s) (sJ s) (MJ s) (k s)) : XE D κ μ E pc L st M (e1.bind (Sum.elim ko k)) :=
  h (Sum.elim ko k) (fun _ => rfl) J
theorem XE.loopJ {σ τ : Type} {f : σ → Option (σ ⊕ τ)} {k : τ → Option ρ} {pcL pcE n : Nat} {LL : σ → List (Nat × VV)} {sL : σ → List VV} {ML : σ → Mm} {LE : τ → List (Nat × VV)} {sE : τ → List VV} {ME : τ → Mm} {s0 : σ}
    (hb : ∀ kk : σ ⊕ τ → Option ρ, (∀ s, XE D κ μ E pcL (LL s) (sL s) (ML s) (kk (.inl s))) → (∀ t, XE D κ μ E pcE (LE t) (sE t) (ME t) (kk (.inr t))) → ∀ s, XE D κ μ E pcL (LL s) (sL s) (ML s) ((f s).bind kk))
    (J : ∀ t, XE D κ μ E pcE (LE t) (sE t) (ME t) (k t)) : XE D κ μ E pcL (LL s0) (sL s0) (ML s0) ((lp f n s0).bind k) :=
  XE.loop (fun kk h1 h2 s => hb kk h1 (fun t => by rw [h2 t]; exact J t) s) n s0
theorem XE.loopX {σ τ Y : Type} {f : σ → Option (σ ⊕ (Y ⊕ τ))} {k : τ → Option ρ} {ko : Y → Option ρ} {pcL pcE n : Nat} {LL : σ → List (Nat × VV)} {sL : σ → List VV} {ML : σ → Mm} {LE : τ → List (Nat × VV)} {sE : τ → List VV} {ME : τ → Mm} {s0 : σ}
    (hb : ∀ kk : σ ⊕ (Y ⊕ τ) → Option ρ, (∀ y, kk (.inr (.inl y)) = ko y) → (∀ s, XE D κ μ E pcL (LL s) (sL s) (ML s) (kk (.inl s))) → (∀ t, XE D κ μ E pcE (LE t) (sE t) (ME t) (kk (.inr (.inr t)))) → ∀ s, XE D κ μ E pcL (LL s) (sL s) (ML s) ((f s).bind kk))
    (J : ∀ t, XE D κ μ E pcE (LE t) (sE t) (ME t) (k t)) : XE D κ μ E pcL (LL s0) (sL s0) (ML s0) ((lp f n s0).bind (Sum.elim ko k)) :=
  XE.loop (fun kk h1 h2 s => hb kk (fun y => h2 (.inl y)) h1 (fun t => by rw [h2 (.inr t)]; exact J t) s) n s0
theorem XE.gen {x : Int} {t : Nat} {kf : Int → Option ρ} (k : ∀ v, v = x → XE D κ μ E pc L ((t, v) :: st) M (kf v)) : XE D κ μ E pc L ((t, x) :: st) M ((some x).bind kf) := k x rfl
theorem XE.goM {kf : Mm → Option ρ} (h : St D μ pc L st M pc' L' st' M') (k : ∀ M1, XE D κ μ E pc' L' st' M1 (kf M1)) : XE D κ μ E pc L st M ((some M').bind kf) := XE.go h (k M')
theorem kd_ne {a : Int} {k : Nat} (h : kd a = k) (hk : k ≠ 0) : a ≠ 0 := by
  intro e
  subst e
  exact hk (h.symm.trans (by decide))
theorem XE.alo_ {k n : Nat} {a : Int} {kf : Mm → Option ρ} (h : mAd M a = 0 → kd a = k → gho a = false → St D μ pc L st M pc' L' st' (nw M a n)) (hk : k ≠ 0) (kk : ∀ M1, a ≠ 0 → XE D κ μ E pc' L' st' M1 (kf M1)) : XE D κ μ E pc L st M ((alo M k a n).bind kf) := by
  unfold alo
  by_cases hp : mAd M a = 0 ∧ kd a = k ∧ gho a = false
  · rw [if_pos hp]; exact XE.go (h hp.1 hp.2.1 hp.2.2) (kk _ (kd_ne hp.2.1 hk))
  · rw [if_neg hp]; exact XE.none
theorem XE.ala_ {k : Nat} {a n : Int} {kf : Mm → Option ρ} (h : mAd M a = 0 → kd a = k → ln a = n → gho a = false → St D μ pc L st M pc' L' st' (nw M a n.toNat)) (hk : k ≠ 0) (kk : ∀ M1, a ≠ 0 → XE D κ μ E pc' L' st' M1 (kf M1)) : XE D κ μ E pc L st M ((ala M k a n).bind kf) := by
  unfold ala
  by_cases hp : mAd M a = 0 ∧ kd a = k ∧ ln a = n ∧ gho a = false
  · rw [if_pos hp]; exact XE.go (h hp.1 hp.2.1 hp.2.2.1 hp.2.2.2) (kk _ (kd_ne hp.2.1 hk))
  · rw [if_neg hp]; exact XE.none
theorem st_lk {dflt : Int} {ps : Array (Int × Int)} {len : Nat} {x off : Int} (hd : decode μ.2.1 pc = .ok (.lookupswitch dflt ps, len)) (hs : (ps.toList.zip (ps.toList.drop 1)).all (fun (a, next) => a.1 < next.1) = true) (ho : Op.lookupswitch.offset ps.toList dflt x = off) (hp : (pc : Int) + off = (pc' : Int)) : St D μ pc L ((0, x) :: st) M pc' L st M :=
  St.of (fun hL hS _ => ok_tl hS) (fun l p e R s m args below meth c H locs ls cells slots Q hL hS hW C En S hl k => lv_lookup C.1 C.2.1 hd hs (by rw [show (Int32.ofInt x).toInt = x from w_r (ok_i (ok_hd hS))]; exact ho) hp k)
end FLOW
