/-! FOR THE LAW: each turn of its loop may cost one exception -/
section LAWR
variable {D : Dt} {κ : Nat} {μ μy : MI} {ρ : Type} {E : ρ → Oc × Mm} {pc pc' : Nat} {L L' : List (Nat × VV)} {st st' st0 : List VV} {M M' : Mm} {avs : List VV} {t : Nat}
theorem XE.mono1 {e : Option ρ} (k : XE D κ μ E pc L st M e) : XE D (κ + 1) μ E pc L st M e := by
  intro r hr hL hS hW
  obtain ⟨⟨a1, a2, a3, a4⟩, a5⟩ := k r hr hL hS hW
  refine ⟨⟨a1, a2, a3, ?_⟩, a5⟩
  unfold TB at a4 ⊢
  omega
theorem XE.cW1 {e1 : Option (Int × Mm)} {kf : Int × Mm → Option ρ} (hct : ∀ r, e1 = some r → CT D 1 μy avs M (.inl (some (t, r.1))) r.2) (hrun : ∀ r, e1 = some r → RunOK D μ pc L st0 st M (.inl (some (t, r.1))) r.2) (hst0 : st0 = avs.reverse ++ st) (hpc : pc + 3 = pc')
    (k : ∀ r : Int × Mm, XE D κ μ E pc' L ((t, r.1) :: st) r.2 (kf r)) : XE D (κ + 1) μ E pc L st0 M (e1.bind kf) :=
  XE.call (E1 := EW t) (κ1 := 1) (κ2 := κ) hct hrun hst0 (by omega) hpc (fun r v _ hv => by cases hv; exact k r) (fun r Ex _ h => nomatch h)
theorem XE.joinXK {σ Y : Type} {e1 : Option (Y ⊕ σ)} {k : σ → Option ρ} {ko : Y → Option ρ} {pcJ : Nat} {LJ : σ → List (Nat × VV)} {sJ : σ → List VV} {MJ : σ → Mm}
    (h : ∀ kk : Y ⊕ σ → Option ρ, (∀ y, kk (.inl y) = ko y) → (∀ s, XE D κ μ E pcJ (LJ s) (sJ s) (MJ s) (kk (.inr s))) → XE D (κ + 1) μ E pc L st M (e1.bind kk)) (J : ∀ s, XE D κ μ E pcJ (LJ s) (sJ s) (MJ s) (k s)) : XE D (κ + 1) μ E pc L st M (e1.bind (Sum.elim ko k)) :=
  h (Sum.elim ko k) (fun _ => rfl) J
theorem XE.loopKX {σ τ Y : Type} {f : σ → Option (σ ⊕ (Y ⊕ τ))} {k : τ → Option ρ} {ko : Y → Option ρ} {pcL pcE : Nat} {LL : σ → List (Nat × VV)} {sL : σ → List VV} {ML : σ → Mm} {LE : τ → List (Nat × VV)} {sE : τ → List VV} {ME : τ → Mm}
    (hb : ∀ (κ : Nat) (kk : σ ⊕ (Y ⊕ τ) → Option ρ), (∀ y, kk (.inr (.inl y)) = ko y) → (∀ s, XE D κ μ E pcL (LL s) (sL s) (ML s) (kk (.inl s))) → (∀ t, XE D (κ + 1) μ E pcE (LE t) (sE t) (ME t) (kk (.inr (.inr t)))) → ∀ s, XE D (κ + 1) μ E pcL (LL s) (sL s) (ML s) ((f s).bind kk))
    (J : ∀ κ t, XE D κ μ E pcE (LE t) (sE t) (ME t) (k t)) (n : Nat) (s : σ) : XE D n μ E pcL (LL s) (sL s) (ML s) ((lp f n s).bind (Sum.elim ko k)) := by
  induction n generalizing s with
  | zero => exact XE.none
  | succ n ih =>
    have h1 := hb n (fun r => (Sum.elim (lp f n) some r).bind (Sum.elim ko k)) (fun y => rfl) (fun s => ih s) (fun t => J _ t) s
    have h2 : (lp f (n + 1) s).bind (Sum.elim ko k) = (f s).bind (fun r => (Sum.elim (lp f n) some r).bind (Sum.elim ko k)) := by
      show ((f s).bind (Sum.elim (lp f n) some)).bind (Sum.elim ko k) = _
      rw [Option.bind_assoc]
    rw [h2]
    exact h1
end LAWR
