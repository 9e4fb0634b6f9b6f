/-! PURE PART, 48: what holds of messages and logs, and what a step may not take away -/
def SL (N : Nd) : Prop := ∀ m, 0 ≤ m → m < (N 12000 19) → ((N 13024 m = 1 ∨ N 13024 m = 3) → 0 ≤ N 13026 m ∧ N 13018 (60 * N 13021 m + N 13026 m) = m) ∧ ((N 13024 m = 0 ∨ N 13024 m = 2) → N 13026 m = -1)
def TK (N : Nd) : Prop := ∀ p k, 0 ≤ p → p < (N 12000 11) → 0 ≤ k → k < 60 → 0 ≤ N 13018 (60 * p + k) → 0 ≤ N 13027 (N 13018 (60 * p + k)) ∧ ∀ j, 0 ≤ j → j < k → 0 ≤ N 13018 (60 * p + j) → N 13027 (N 13018 (60 * p + j)) ≤ N 13027 (N 13018 (60 * p + k))
/-- neither delayed nor aborted -/
abbrev ndl (N : Nd) (m : Int) : Prop := N 13028 m = 0 ∧ N 13025 m ≠ 3
def NR1 (N : Nd) : Prop := ∀ p j k, 0 ≤ p → p < (N 12000 11) → 0 ≤ j → j < k → k < 60 → 0 ≤ N 13018 (60 * p + j) → 0 ≤ N 13018 (60 * p + k) → N 13020 (N 13018 (60 * p + j)) = N 13020 (N 13018 (60 * p + k)) → ndl N (N 13018 (60 * p + j)) → ndl N (N 13018 (60 * p + k)) → N 13018 (60 * p + j) < N 13018 (60 * p + k)
def NR2 (N : Nd) : Prop := ∀ c k, 0 ≤ c → c < (N 12000 19) → N 13024 c = 2 → N 13025 c = 0 → N 13028 c = 0 → 0 ≤ k → k < 60 → 0 ≤ N 13018 (60 * N 13021 c + k) → N 13020 (N 13018 (60 * N 13021 c + k)) = N 13020 c → ndl N (N 13018 (60 * N 13021 c + k)) → N 13018 (60 * N 13021 c + k) < c
def MS (N : Nd) : Prop := ∀ m, 0 ≤ m → m < (N 12000 19) → (N 13025 m = 2 → (N 13024 m = 1 ∨ N 13024 m = 3) ∧ N 13026 m < hw N (N 13021 m)) ∧ (N 13024 m = 3 → N 13026 m < so N (N 13021 m)) ∧ (N 13025 m = 0 ↔ N 13029 m = -1) ∧ (N 13025 m = 1 → N 13024 m = 1) ∧ (N 13024 m = 0 → 1 ≤ N 13028 m ∧ N 13025 m = 0)
def XS (N : Nd) : Prop := ∀ m x, 0 ≤ m → m < (N 12000 19) → 0 ≤ x → x < (N 12000 30) → 0 ≤ N 13033 x → N 13029 m = N 13033 x → N 13020 m = x ∧ N 13025 m ≠ 2 ∧ (N 14034 x = 0 → N 13025 m = 1)
def JN (N : Nd) : Prop := JT N ∧ (OT N ∧ XU N) ∧ SL N ∧ TK N ∧ NR1 N ∧ NR2 N ∧ MS N ∧ XS N
section
variable {N : Nd}
theorem JN.t (j : JN N) : JT N := j.1
theorem JN.g (j : JN N) : RG N := j.1.1.1
theorem JN.li (j : JN N) : LI N := j.1.1.2.1
theorem JN.lm (j : JN N) : LM N := j.1.1.2.2.1
theorem JN.fl (j : JN N) : FL N := j.1.1.2.2.2.1
theorem JN.fi (j : JN N) : FI N := j.1.1.2.2.2.2
theorem JN.en (j : JN N) : EN N := j.1.2
theorem JN.ot (j : JN N) : OT N := j.2.1.1
theorem JN.xu (j : JN N) : XU N := j.2.1.2
theorem JN.sl (j : JN N) : SL N := j.2.2.1
theorem JN.tk (j : JN N) : TK N := j.2.2.2.1
theorem JN.n1 (j : JN N) : NR1 N := j.2.2.2.2.1
theorem JN.n2 (j : JN N) : NR2 N := j.2.2.2.2.2.1
theorem JN.ms (j : JN N) : MS N := j.2.2.2.2.2.2.1
theorem JN.xs (j : JN N) : XS N := j.2.2.2.2.2.2.2
theorem JN.wd (j : JN N) : WD N := fun m h1 h2 h3 => ((j.ms m h1 h2).2.2.2.2 h3).1
theorem JN.jv (j : JN N) : JV N := ⟨j.g, j.li, j.ot, j.xu⟩
end
/-- what a step keeps -/
def Mo (N N' : Nd) : Prop := ((N 12000 11) ≤ (N' 12000 11) ∧ (N 12000 19) ≤ (N' 12000 19)) ∧ (∀ p, 0 ≤ p → p < (N 12000 11) → so N p ≤ so N' p ∧ N' 13012 p = N 13012 p ∧ N 13015 p ≤ N' 13015 p) ∧
  (∀ m, 0 ≤ m → m < (N 12000 19) → (N' 13021 m = N 13021 m ∧ N' 13022 m = N 13022 m) ∧ (N 13024 m = 3 → N' 13024 m = 3 ∧ N' 13026 m = N 13026 m) ∧ (canR N m → N' 13026 m = N 13026 m ∧ (N' 13024 m = 3 ∨ (N' 13024 m = 1 ∧ N' 13025 m = N 13025 m)))) ∧
  (∀ m, 0 ≤ m → m < (N' 12000 19) → N' 13021 m < (N 12000 11) → canR N' m → N' 13026 m < so N (N' 13021 m) → m < (N 12000 19) ∧ canR N m)
theorem Mo.rf {N : Nd} : Mo N N := ⟨⟨Int.le_refl _, Int.le_refl _⟩, fun _ _ _ => ⟨Int.le_refl _, rfl, Int.le_refl _⟩, fun _ _ _ => ⟨⟨rfl, rfl⟩, fun h => ⟨h, rfl⟩, fun h => ⟨rfl, Or.inr ⟨h.1, rfl⟩⟩⟩, fun _ _ h _ h2 _ => ⟨h, h2⟩⟩
theorem Mo.can {N N' : Nd} (g : RG N) (a : Mo N N') {m : Int} (h1 : 0 ≤ m) (h2 : m < (N 12000 19)) (h : canR N m) : N' 13024 m = 3 ∨ canR N' m := by
  have x := a.2.2.1 m h1 h2
  have gp := (g.m m h1 h2).2.1
  have y := (a.2.1 _ gp.1 gp.2).1
  rcases (x.2.2 h).2 with z | z
  · exact Or.inl z
  · refine Or.inr ⟨z.1, ?_, by rw [z.2]; exact h.2.2⟩
    rw [(x.2.2 h).1, x.1.1]
    have := h.2.1
    omega
theorem Mo.tr {N N1 N2 : Nd} (g : RG N) (a : Mo N N1) (b : Mo N1 N2) (g2 : RG N2) : Mo N N2 := by
  refine ⟨⟨by have := a.1; have := b.1; omega, by have := a.1; have := b.1; omega⟩, fun p p1 p2 => ?_, fun m m1 m2 => ?_, fun m m1 m2 m3 m4 m5 => ?_⟩
  · have x := a.2.1 p p1 p2; have y := b.2.1 p p1 (by have := a.1; omega)
    exact ⟨by omega, y.2.1.trans x.2.1, by omega⟩
  · have x := a.2.2.1 m m1 m2; have y := b.2.2.1 m m1 (by have := a.1; omega)
    refine ⟨⟨y.1.1.trans x.1.1, y.1.2.trans x.1.2⟩, fun h => ?_, fun h => ?_⟩
    · have x2 := x.2.1 h
      have y2 := y.2.1 x2.1
      exact ⟨y2.1, y2.2.trans x2.2⟩
    · have x2 := x.2.2 h
      rcases a.can g m1 m2 h with z | z
      · have y2 := y.2.1 z
        exact ⟨y2.2.trans x2.1, Or.inl y2.1⟩
      · have y2 := y.2.2 z
        refine ⟨y2.1.trans x2.1, ?_⟩
        rcases y2.2 with q | q
        · exact Or.inl q
        · refine Or.inr ⟨q.1, q.2.trans ?_⟩
          rcases x2.2 with r | r
          · have := z.1; omega
          · exact r.2
  · have p0 := (g2.m m m1 m2).2.1
    have y0 := a.2.1 _ p0.1 m3
    obtain ⟨c1, c2⟩ := b.2.2.2 m m1 m2 (by have := a.1; omega) m4 (by omega)
    have y := b.2.2.1 m m1 c1
    have y2 := y.2.2 c2
    refine a.2.2.2 m m1 c1 (by rw [← y.1.1]; exact m3) c2 ?_
    rw [← y2.1, ← y.1.1]; exact m5
/-- a high watermark that isn't lower, and fewer OPEN messages below it -/
theorem so_mono3 {N N' : Nd} {q : Int} (h0 : 0 ≤ hw N q) (h1 : ∀ k, 0 ≤ k → k < hw N q → opn N' q k = true → opn N q k = true) (h2 : hw N q ≤ hw N' q) : so N q ≤ so N' q := by
  have b1 := @ff_b (opn N q) (hw N q).toNat 0
  have b2 := @ff_b (opn N' q) (hw N' q).toNat 0
  unfold so
  by_cases e : ff (opn N' q) (hw N' q).toNat 0 < ff (opn N q) (hw N q).toNat 0
  · have n1 := ff_no b2.1 e
    have y1 := @ff_yes (opn N' q) (hw N' q).toNat 0 (by omega)
    rw [h1 _ b2.1 (by omega) y1] at n1; cases n1
  · omega
/-- only ends, in-sync sets and leaders are other -/
theorem JN.ends {N N' : Nd} (j : JN N) (t : JT N') (hk : ∀ a, a ≠ 13016 → a ≠ 13017 → a ≠ 13014 → a ≠ 13013 → N' a = N a) (hh : ∀ q, 0 ≤ q → q < (N 12000 11) → hw N q ≤ hw N' q) : JN N' ∧ Mo N N' := by
  have e0 := hk 12000 (by decide) (by decide) (by decide) (by decide)
  have e1 := hk 13018 (by decide) (by decide) (by decide) (by decide)
  have e2 := hk 13021 (by decide) (by decide) (by decide) (by decide)
  have e3 := hk 13026 (by decide) (by decide) (by decide) (by decide)
  have e4 := hk 13024 (by decide) (by decide) (by decide) (by decide)
  have e5 := hk 13025 (by decide) (by decide) (by decide) (by decide)
  have e6 := hk 13029 (by decide) (by decide) (by decide) (by decide)
  have e7 := hk 13020 (by decide) (by decide) (by decide) (by decide)
  have e8 := hk 13028 (by decide) (by decide) (by decide) (by decide)
  have e9 := hk 13027 (by decide) (by decide) (by decide) (by decide)
  have f1 := hk 13033 (by decide) (by decide) (by decide) (by decide)
  have f2 := hk 14034 (by decide) (by decide) (by decide) (by decide)
  have f3 := hk 13022 (by decide) (by decide) (by decide) (by decide)
  have f4 := hk 13012 (by decide) (by decide) (by decide) (by decide)
  have f5 := hk 13015 (by decide) (by decide) (by decide) (by decide)
  have hs : ∀ q, 0 ≤ q → q < (N 12000 11) → so N q ≤ so N' q := fun q q1 q2 => so_mono (hw_b j.g.e q1 q2).1 (by funext k; unfold opn; rw [e1, e5]) (hh q q1 q2)
  refine ⟨⟨t, ⟨?_, ?_⟩, ?_, ?_, ?_, ?_, ?_, ?_⟩, ⟨by rw [e0]; exact ⟨Int.le_refl _, Int.le_refl _⟩, fun p p1 p2 => ⟨hs p p1 p2, by rw [f4], by rw [f5]; exact Int.le_refl _⟩, fun m m1 m2 => ?_, fun m m1 m2 m3 m4 m5 => ?_⟩⟩
  · unfold OT; rw [e0, e5, e6, e7, f1]; exact j.ot
  · unfold XU; rw [e0, f1]; exact j.xu
  · unfold SL; rw [e0, e1, e2, e3, e4]; exact j.sl
  · unfold TK; rw [e0, e1, e9]; exact j.tk
  · unfold NR1 ndl; rw [e0, e1, e5, e7, e8]; exact j.n1
  · unfold NR2 ndl; rw [e0, e1, e2, e4, e5, e7, e8]; exact j.n2
  · intro m m1 m2
    rw [e0] at m2
    have x := j.ms m m1 m2
    have gp := (j.g.m m m1 m2).2.1
    have y := hs _ gp.1 gp.2
    have y2 := hh _ gp.1 gp.2
    rw [e2, e3, e4, e5, e6, e8]
    exact ⟨fun h => ⟨(x.1 h).1, by have := (x.1 h).2; omega⟩, fun h => by have := x.2.1 h; omega, x.2.2⟩
  · unfold XS; rw [e0, e5, e6, e7, f1, f2]; exact j.xs
  · rw [e2, e3, e4, e5, f3]
    exact ⟨⟨rfl, rfl⟩, fun h => ⟨h, rfl⟩, fun h => ⟨rfl, Or.inr ⟨h.1, rfl⟩⟩⟩
  · rw [e0] at m2
    refine ⟨m2, ?_⟩
    unfold canR at m4 ⊢
    rw [e3, e4, e5, e2] at m4
    rw [e3, e2] at m5
    exact ⟨m4.1, m5, m4.2.2⟩
/-- a message below the stable offset is removed -/
theorem JN.rm {N N' : Nd} {m : Int} (j : JN N) (t : JT N') (h1 : 0 ≤ m) (h2 : m < (N 12000 19)) (h3 : N 13024 m = 1) (h4 : N 13026 m < so N (N 13021 m)) (st : ∀ k, N' 13024 k = if k = m then 3 else N 13024 k) (hk : ∀ a, a ≠ 13024 → a ≠ 13015 → N' a = N a) (hp : ∀ p, N 13015 p ≤ N' 13015 p) : JN N' ∧ Mo N N' := by
  have no : N 13025 m ≠ 1 := fun h => by
    have s1 := (j.sl m h1 h2).1 (Or.inl h3)
    have gp := (j.g.m m h1 h2).2.1
    have n1 := ff_no (P := opn N (N 13021 m)) (n := (hw N (N 13021 m)).toNat) (i := 0) (k := N 13026 m) s1.1 h4
    have y : opn N (N 13021 m) (N 13026 m) = true := by
      unfold opn
      rw [s1.2]
      exact decide_eq_true ⟨h1, h⟩
    rw [y] at n1; cases n1
  have e0 := hk 12000 (by decide) (by decide)
  have e1 := hk 13018 (by decide) (by decide)
  have e2 := hk 13021 (by decide) (by decide)
  have e3 := hk 13026 (by decide) (by decide)
  have e5 := hk 13025 (by decide) (by decide)
  have e6 := hk 13029 (by decide) (by decide)
  have e7 := hk 13020 (by decide) (by decide)
  have e8 := hk 13028 (by decide) (by decide)
  have e9 := hk 13027 (by decide) (by decide)
  have f1 := hk 13033 (by decide) (by decide)
  have f2 := hk 14034 (by decide) (by decide)
  have f3 := hk 13022 (by decide) (by decide)
  have f4 := hk 13012 (by decide) (by decide)
  have hs : ∀ q, hw N' q = hw N q := fun q => by
    unfold hw; congr 1; funext r b; unfold hwS; rw [hk 13014 (by decide) (by decide), hk 13016 (by decide) (by decide)]
  have ss : ∀ q, so N' q = so N q := fun q => by
    unfold so; rw [hs]; congr 1; funext k; unfold opn; rw [e1, e5]
  refine ⟨⟨t, ⟨?_, ?_⟩, fun i i1 i2 => ?_, ?_, ?_, fun c k c1 c2 c3 => ?_, fun i i1 i2 => ?_, ?_⟩, ⟨by rw [e0]; exact ⟨Int.le_refl _, Int.le_refl _⟩, fun p _ _ => ⟨by rw [ss]; exact Int.le_refl _, by rw [f4], hp p⟩, fun i i1 i2 => ?_, fun i i1 i2 i3 i4 i5 => ?_⟩⟩
  · unfold OT; rw [e0, e5, e6, e7, f1]; exact j.ot
  · unfold XU; rw [e0, f1]; exact j.xu
  · rw [e0] at i2
    have x := j.sl i i1 i2
    rw [st, e3, e1, e2]
    by_cases e : i = m
    · subst e
      rw [if_pos rfl]
      exact ⟨fun _ => x.1 (Or.inl h3), fun h => by omega⟩
    · rw [if_neg e]; exact x
  · unfold TK; rw [e0, e1, e9]; exact j.tk
  · unfold NR1 ndl; rw [e0, e1, e5, e7, e8]; exact j.n1
  · rw [e0] at c2
    rw [st] at c3
    unfold ndl
    rw [e1, e2, e5, e7, e8]
    by_cases e : c = m
    · rw [if_pos e] at c3; omega
    · rw [if_neg e] at c3
      exact j.n2 c k c1 c2 c3
  · rw [e0] at i2
    have x := j.ms i i1 i2
    rw [st, e2, e3, e5, e6, e8, hs, ss]
    by_cases e : i = m
    · subst e
      rw [if_pos rfl]
      exact ⟨fun h => ⟨Or.inr rfl, (x.1 h).2⟩, fun _ => h4, x.2.2.1, fun h => absurd h no, fun h => by omega⟩
    · rw [if_neg e]; exact x
  · unfold XS; rw [e0, e5, e6, e7, f1, f2]; exact j.xs
  · rw [st, e2, e3, e5, f3]
    refine ⟨⟨rfl, rfl⟩, fun h => ⟨?_, rfl⟩, fun h => ⟨rfl, ?_⟩⟩
    · split
      · rfl
      · exact h
    · split
      · exact Or.inl rfl
      · exact Or.inr ⟨h.1, rfl⟩
  · rw [e0] at i2
    unfold canR at i4 ⊢
    rw [st, e3, e2, e5, ss] at i4
    have y := i4.1
    split at y
    · omega
    · exact ⟨i2, y, i4.2⟩
