/-! PURE PART, a09: brokers: speed, restore, fetch, fail -/
theorem loA_big {a : Int} (h : 13042 ≤ a) (h2 : a ≤ 13067) : loA a = false := by
  unfold loA
  simp
  omega
theorem OK2.rf {N : Nd} : OK2 N N := fun _ _ _ _ => rfl
theorem OK2.tr {N X Y : Nd} (a : OK2 N X) (b : OK2 X Y) (h : (N 12000 19) ≤ (X 12000 19)) : OK2 N Y := fun m m1 m2 h0 => by
  have e := a m m1 m2 h0
  rw [b m m1 (by omega) (by rw [e]; exact h0), e]
theorem OK2.ar {N X : Nd} (h : X 13025 = N 13025) : OK2 N X := fun _ _ _ _ => by rw [h]
/-- a call on brokers: Y is the table at its loops' begin -/
theorem EBr.lo {N Y X : Nd} (mo : Mo N X) (ok : OK2 N X) (lo : LO Y X) (ys : ∀ j, j ≠ 0 → j ≠ 1 → j ≠ 2 → j ≠ 3 → Y 12000 j = N 12000 j) (ya : ∀ a, a ≠ 12000 → Y a = N a) (hw : (N 12000 1) ≤ (Y 12000 1)) (nv : NV N → NV X) : EBr N X := by
  have sc : ∀ j, j ≠ 0 → j ≠ 1 → j ≠ 2 → j ≠ 3 → X 12000 j = N 12000 j := fun j a b c d => (lo.1 j).trans (ys j a b c d)
  have em : (X 12000 19) = (N 12000 19) := sc 19 (by decide) (by decide) (by decide) (by decide)
  have ym : (Y 12000 19) = (N 12000 19) := ys 19 (by decide) (by decide) (by decide) (by decide)
  refine ⟨mo, ok, fun a a1 a2 _ => (lo.2.1 a (loA_big a1 a2)).trans (ya a (by omega)), ⟨sc 4 (by decide) (by decide) (by decide) (by decide), sc 11 (by decide) (by decide) (by decide) (by decide), sc 30 (by decide) (by decide) (by decide) (by decide), sc 41 (by decide) (by decide) (by decide) (by decide)⟩, fun a ha => (lo.2.1 a ?_).trans (ya a (by omega)), by rw [lo.1]; exact hw, fun m m1 m2 => by omega, fun m m1 m2 h => Or.inl ?_, nv⟩
  · unfold loA
    simp
    omega
  · rw [em] at m2
    refine ⟨m2, ?_, ?_⟩
    · have q := (lo.2.2.1 m m1 (by rw [ym]; exact m2)).mp h
      rw [ya 13024 (by decide)] at q
      exact q
    · rw [lo.2.1 13028 (by decide), ya 13028 (by decide)]
theorem brk_ar {N X : Nd} (h1 : X 13012 = N 13012) (h2 : X 13007 = N 13007) (p r : Int) : brk X p r = brk N p r := by
  unfold brk
  rw [h1, h2]
theorem rpo_ar {N X : Nd} (h1 : X 13012 = N 13012) (h2 : X 13007 = N 13007) (h3 : X 13006 = N 13006) (p b : Int) : rpo X p b = rpo N p b := by
  unfold rpo brk
  rw [h1, h2, h3]
/-- restore, exactly -/
abbrev reC (N : Nd) (b p : Int) : Prop := rpo N p b < 3 ∧ N 13013 p < 0 ∧ bt (N 13014 p) (rpo N p b) = true
theorem reA_at {N : Nd} {b : Int} (h : 0 ≤ (N 12000 11)) : (∀ a, a ≠ 13013 → (reA N b).2 a = N a) ∧ ∀ p, 0 ≤ p → (reA N b).2 13013 p = if p < (N 12000 11) ∧ reC N b p then rpo N p b else N 13013 p := by
  have k := fo_inv (g := reG b) (i0 := 0) (n := ((N 12000 11)).toNat) (a := ((0 : Int), N)) (fun i s => (∀ a, a ≠ 13013 → s.2 a = N a) ∧ ∀ p, 0 ≤ p → s.2 13013 p = if p < i ∧ reC N b p then rpo N p b else N 13013 p) ⟨fun _ _ => rfl, fun p p1 => by rw [if_neg (by omega)]⟩ (fun i s i1 i2 ⟨h1, h2⟩ => by
    have rp : rpo s.2 i b = rpo N i b := rpo_ar (h1 _ (by decide)) (h1 _ (by decide)) (h1 _ (by decide)) i b
    have ld := h2 i i1
    rw [if_neg (by omega)] at ld
    have ec : (rpo s.2 i b < 3 ∧ s.2 13013 i < 0 ∧ bt (s.2 13014 i) (rpo s.2 i b) = true) ↔ reC N b i := by
      rw [rp, ld, h1 13014 (by decide)]
    unfold reG
    by_cases c : reC N b i
    · rw [if_pos (ec.mpr c)]
      refine ⟨fun a ha => ?_, fun p p1 => ?_⟩
      · rw [← h1 a ha]
        funext k
        exact if_neg (fun z => ha z.1)
      · show up s.2 13013 i (rpo s.2 i b) 13013 p = _
        rw [up_s, rp]
        by_cases e : p = i
        · rw [if_pos ⟨rfl, e⟩, if_pos ⟨by omega, by rw [e]; exact c⟩, e]
        · rw [if_neg (fun z => e z.2), h2 p p1]
          by_cases z : p < i ∧ reC N b p
          · rw [if_pos z, if_pos ⟨by omega, z.2⟩]
          · rw [if_neg z, if_neg (fun q => z ⟨by omega, q.2⟩)]
    · rw [if_neg (fun z => c (ec.mp z))]
      refine ⟨h1, fun p p1 => ?_⟩
      rw [h2 p p1]
      by_cases z : p < i ∧ reC N b p
      · rw [if_pos z, if_pos ⟨by omega, z.2⟩]
      · rw [if_neg z, if_neg (fun q => z ⟨by
          by_cases e : p = i
          · rw [e] at q; exact absurd q.2 c
          · omega, q.2⟩)])
  unfold reA
  rw [show (0 : Int) + ((((N 12000 11)).toNat : Nat) : Int) = (N 12000 11) by omega] at k
  exact k
theorem low_here {N : Nd} {p b : Int} (g : RG N) (p1 : 0 ≤ p) (p2 : p < (N 12000 11)) (h : brk N p (low (N 13014 p)) = b) : rpo N p b = low (N 13014 p) ∧ rpo N p b < 3 ∧ bt (N 13014 p) (rpo N p b) = true := by
  obtain ⟨-, -, -, -, -, a6, a7⟩ := g.p p p1 p2
  have lb := @low_b (N 13014 p)
  have li := low_in a7
  have lr := a6 _ lb.1 lb.2 li
  have e : rpo N p b = low (N 13014 p) := by
    unfold rpo
    refine ff_is lb.1 (by omega) (fun k k1 k2 => decide_eq_false fun q => ?_) (fun _ => decide_eq_true ⟨lr, h⟩)
    have := brk_ne (N := N) (p := p) k1 (by omega) lb.1 lb.2 (q.2.trans h.symm)
    omega
  exact ⟨e, by omega, by rw [e]; exact li⟩
theorem NV.re {N Y : Nd} {b : Int} (g : RG N) (b1 : 0 ≤ b) (b2 : b < 3) (hy : Y = up (up N 12000 0 0) 12000 2 (sbt ((N 12000 2)) b)) (h : NV N) : NV (reA Y b).2 := by
  have s2 := g.s.2.1
  have s6 := g.s.2.2.2.2.2.1
  have sb := sbt_ok s6.1 s6.2 b1 b2
  have ya : ∀ a, a ≠ 12000 → Y a = N a := fun a ha => by rw [hy]; funext k; rw [up_s, if_neg (fun z => ha z.1), up_s, if_neg (fun z => ha z.1)]
  have yp : (Y 12000 11) = (N 12000 11) := by rw [hy]; rfl
  have yl : (Y 12000 2) = sbt ((N 12000 2)) b := by rw [hy]; rfl
  obtain ⟨k1, k2⟩ := reA_at (N := Y) (b := b) (by rw [yp]; exact s2.1)
  intro p p1 p2 hl
  rw [k1 12000 (by decide), yp] at p2
  rw [k2 p p1, yp] at hl
  rw [k1 12000 (by decide), yl, k1 13014 (by decide), ya 13014 (by decide), brk_ar (k1 13012 (by decide)) (k1 13007 (by decide)), brk_ar (ya 13012 (by decide)) (ya 13007 (by decide))]
  have rp : rpo Y p b = rpo N p b := rpo_ar (ya _ (by decide)) (ya _ (by decide)) (ya _ (by decide)) p b
  by_cases c : reC Y b p
  · have rb := rpo_b c.1
    rw [if_pos ⟨p2, c⟩] at hl
    omega
  · rw [if_neg (fun z => c z.2), ya 13013 (by decide)] at hl
    have bn : brk N p (low (N 13014 p)) ≠ b := fun e => by
      have z := low_here g p1 p2 e
      refine c ⟨by rw [rp]; exact z.2.1, by rw [ya 13013 (by decide)]; exact hl, ?_⟩
      rw [ya 13014 (by decide), rp]
      exact z.2.2
    have bb : 0 ≤ brk N p (low (N 13014 p)) ∧ brk N p (low (N 13014 p)) < 3 := by
      unfold brk
      omega
    have q := sb.2 _ bb.1 bb.2
    rw [if_neg bn] at q
    have f := h p p1 p2 hl
    cases z : bt (sbt ((N 12000 2)) b) (brk N p (low (N 13014 p))) with
    | false => rfl
    | true => rw [q.mp z] at f; exact absurd f (by decide)
theorem EBr.re {N Y : Nd} {b : Int} (j : JN N) (b1 : 0 ≤ b) (b2 : b < 3) (hy : Y = up (up N 12000 0 0) 12000 2 (sbt ((N 12000 2)) b)) : EBr N (reA Y b).2 := by
  have s2 := j.g.s.2.1
  have s6 := j.g.s.2.2.2.2.2.1
  have sb := sbt_ok s6.1 s6.2 b1 b2
  have jz : JN (up N 12000 0 0) := j
  have jy : JN Y := by rw [hy]; exact jz.upLive sb.1
  have yp : (Y 12000 11) = (N 12000 11) := by rw [hy]; rfl
  have mo : Mo N (reA Y b).2 := by
    have q := (jy.reA (b := b)).2
    rw [hy] at q ⊢
    exact q
  refine EBr.lo (Y := Y) mo (OK2.ar ?_) (LO.reA jy) (fun i h0 _ h2 _ => by rw [hy, up_s, if_neg (fun z => h2 z.2), up_s, if_neg (fun z => h0 z.2)]) (fun a h => by rw [hy]; funext k; rw [up_s, if_neg (fun z => h z.1), up_s, if_neg (fun z => h z.1)]) (by rw [hy]; exact Int.le_refl _) (NV.re j.g b1 b2 hy)
  rw [(reA_at (N := Y) (b := b) (by rw [yp]; exact s2.1)).1 13025 (by decide), hy]
  rfl
