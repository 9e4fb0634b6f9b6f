/-! PURE PART, 89: read: one message more is through with -/
/-- what a step of a read does: m is through with -/
def RD (C C' : Cd) (N N' : Nd) (g m : Int) : Prop := (KG g C C' ∧ MG g N N') ∧ (∀ x, 0 ≤ x → x < 150 → x ≠ m → Fdl C' g x = Fdl C g x ∧ N' 13059 (150 * g + x) = N 13059 (150 * g + x)) ∧ ((Fdl C' g m = Fdl C g m ∧ C' 1000 g 9 = C 1000 g 9) ∨ (Fdl C g m = 0 ∧ Fdl C' g m = C 1000 g 9 + 1 ∧ C' 1000 g 9 = C 1000 g 9 + 1)) ∧ Pd C' N' g m ∧ (∀ p, So C' g p = So C g p) ∧ (N' 13055 = N 13055 ∧ N' 13056 = N 13056 ∧ N' 13057 = N 13057 ∧ N' 13043 = N 13043) ∧ ∀ q, 0 ≤ q → q < 9 → q ≠ N 13021 m → N' 13058 (9 * g + q) = N 13058 (9 * g + q)
section RDS
variable {C C' : Cd} {N N' : Nd} {g m : Int}
theorem RD.pd (r : RD C C' N N' g m) {x : Int} (x1 : 0 ≤ x) (x2 : x < 150) (h : Pd C N g x) : Pd C' N' g x := by
  obtain ⟨-, r2, r3, r4, -⟩ := r
  by_cases e : x = m
  · rw [e]; exact r4
  · obtain ⟨y1, y2⟩ := r2 x x1 x2 e
    unfold Pd at h ⊢
    rw [y1, y2]
    exact h
theorem RD.bk (r : RD C C' N N' g m) {x : Int} (x1 : 0 ≤ x) (x2 : x < 150) (e : x ≠ m) (h : Pd C' N' g x) : Pd C N g x := by
  obtain ⟨-, r2, -⟩ := r
  obtain ⟨y1, y2⟩ := r2 x x1 x2 e
  unfold Pd at h ⊢
  rw [y1, y2] at h
  exact h
theorem RD.pk (G : RG N) (r : RD C C' N N' g m) : PK g C C' N N' := by
  have b5 := G.s.2.2.2.2.1
  have r0 := r
  obtain ⟨-, r2, r3, r4, r5, ⟨o1, o2, o3, o4⟩, r7⟩ := r
  refine ⟨by rw [o4]; exact Int.le_refl _, fun _ p hp => ⟨by rw [o2], Or.inl (by rw [o1]), fun _ => ⟨r5 p, fun b b1 b2 _ _ h => r0.pd b1 (by omega) h⟩⟩⟩
theorem GIn.rd (jn : JN N) (h : GIn C N g) (r : RD C C' N N' g m) (m1 : 0 ≤ m) (m2 : m < (N 12000 19)) (hl : N 13018 (60 * N 13021 m + N 13026 m) = m) (hs : So C g (N 13021 m) ≤ N 13026 m)
    (hro : N' 13058 (9 * g + N 13021 m) = N 13058 (9 * g + N 13021 m) ∨ (N' 13058 (9 * g + N 13021 m) = N 13026 m + 1 ∧ canR N m ∧ ∀ b, 0 ≤ b → b < (N 12000 19) → canR N b → N 13021 b = N 13021 m → N 13058 (9 * g + N 13021 m) ≤ N 13026 b → N 13026 b < N 13026 m → False))
    (c1 : Pd C N g m ∨ ∀ b, 0 ≤ b → b < (N 12000 19) → canR N b → N 13021 b = N 13021 m → So C g (N 13021 m) ≤ N 13026 b → N 13026 b < N 13026 m → Pd C N g b)
    (c3 : Fdl C g m = 0 → 0 < Fdl C' g m → ∀ b, 0 ≤ b → b < (N 12000 19) → b ≠ m → N 13059 (150 * g + b) = 1 → N 13021 m = N 13021 b → N 13022 m = N 13022 b → N 13026 m < N 13026 b)
    (c4 : Fdl C g m = 0 → ∀ a, 0 ≤ a → a < (N 12000 19) → a ≠ m → 0 < Fdl C g a → N 13021 a = N 13021 m → N 13022 a = N 13022 m → N 13026 a < N 13026 m)
    (cw : ∀ x, 0 ≤ x → x < 150 → (C' 2000 (150 * g + x) 1 = 2 ∨ C' 2000 (150 * g + x) 1 = 3) → 0 < Fdl C' g x) : GIn C' N' g := by
  have G := jn.g
  have b5 := G.s.2.2.2.2.1
  have s2 := G.s.2.1
  have r0 := r
  obtain ⟨⟨kc, kn⟩, r2, r3, r4, r5, ⟨o1, o2, o3, o4⟩, r7⟩ := r
  have sc : N' 12000 = N 12000 := kn.n0 (by decide)
  have mP : N' 13021 = N 13021 := kn.n0 (by decide)
  have mO : N' 13026 = N 13026 := kn.n0 (by decide)
  have mK : N' 13022 = N 13022 := kn.n0 (by decide)
  obtain ⟨x1, x2, x3, x4, x5, x6⟩ := h
  have f0 := fun x y1 y2 => (x6 x y1 y2).2.1
  have f9 := fun x y1 y2 => (x6 x y1 y2).2.2.1
  have fm : 0 ≤ Fdl C g m := f0 m m1 (by omega)
  have c9 : C 1000 g 9 ≤ C' 1000 g 9 := by omega
  have inj : ∀ b, 0 ≤ b → b < (N 12000 19) → canR N b → N 13021 b = N 13021 m → N 13026 b = N 13026 m → b = m := fun b b1 b2 hc hp ho => by
    have y := ((jn.sl b b1 b2).1 (Or.inl hc.1))
    rw [hp, ho, hl] at y
    omega
  unfold GIn
  rw [sc, mP, mO, mK, o1, o3]
  refine ⟨fun u v u1 u2 v1 v2 hp hc hq h1 h2 => ?_, fun v v1 v2 hc hg h1 h2 => ?_, fun u v u1 u2 v1 v2 h1 h2 h3 h4 h5 => ?_, fun u v u1 u2 v1 v2 h1 h2 h4 h5 => ?_, fun p hg => ?_, fun x y1 y2 => ?_⟩
  · have hc' := kn.can.mp hc
    rw [r5] at h1
    by_cases ev : v = m
    · rw [ev]; exact r4
    · by_cases eu : u = m
      · rw [eu] at hq h2
        refine r0.pd v1 (by omega) ?_
        rcases c1 with c1 | c1
        · exact x1 m v m1 m2 v1 v2 c1 hc' hq h1 h2
        · have ne : N 13026 v ≠ N 13026 m := fun q => ev (inj v v1 v2 hc' hq.symm q)
          exact c1 v v1 v2 hc' hq.symm (by rw [hq]; exact h1) (by omega)
      · exact r0.pd v1 (by omega) (x1 u v u1 u2 v1 v2 (r0.bk u1 (by omega) eu hp) hc' hq h1 h2)
  · have hc' := kn.can.mp hc
    have hg' := (kn.gr g _).mp hg
    rw [r5] at h1
    by_cases ev : v = m
    · rw [ev]; exact r4
    · refine r0.pd v1 (by omega) (x2 v v1 v2 hc' hg' h1 ?_)
      rcases h2 with h2 | ⟨h2, h3⟩
      · exact Or.inl h2
      · refine Or.inr ⟨h2, ?_⟩
        by_cases ep : N 13021 v = N 13021 m
        · rw [ep] at h3 ⊢
          rcases hro with hro | ⟨q1, q2, q3⟩
          · omega
          · have ne : N 13026 v ≠ N 13026 m := fun q => ev (inj v v1 v2 hc' ep q)
            by_cases q : N 13058 (9 * g + N 13021 m) ≤ N 13026 v
            · exact absurd (q3 v v1 v2 hc' ep q (by omega)) (fun z => z)
            · omega
        · rw [r7 _ hg'.1 (by have := hg'.2.1; omega) ep] at h3
          exact h3
  · by_cases ev : v = m
    · rw [ev] at h1 h2 h4 h5
      have eu : u ≠ m := fun q => by rw [q] at h3; omega
      rw [(r2 u u1 (by omega) eu).1] at h3
      rw [ev]
      exact c4 (by omega) u u1 u2 eu h3 h4 h5
    · obtain ⟨z1, z2⟩ := r2 v v1 (by omega) ev
      rw [z2] at h1
      rw [z1] at h2
      by_cases eu : u = m
      · rw [eu] at h3 h4 h5 ⊢
        by_cases q : Fdl C g m = 0
        · exact c3 q h3 v v1 v2 ev h1 h4 h5
        · exact x3 m v m1 m2 v1 v2 h1 h2 (by omega) h4 h5
      · rw [(r2 u u1 (by omega) eu).1] at h3
        exact x3 u v u1 u2 v1 v2 h1 h2 h3 h4 h5
  · by_cases ev : v = m
    · have eu : u ≠ m := fun q => by rw [ev, q] at h2; omega
      rw [(r2 u u1 (by omega) eu).1] at h1 h2
      rw [ev] at h2 h4 h5 ⊢
      by_cases q : Fdl C g m = 0
      · exact c4 q u u1 u2 eu h1 h4 h5
      · exact x4 u m u1 u2 m1 m2 h1 (by omega) h4 h5
    · rw [(r2 v v1 (by omega) ev).1] at h2
      by_cases eu : u = m
      · rw [eu] at h1 h2 h4 h5 ⊢
        have := f9 v v1 (by omega)
        exact x4 m v m1 m2 v1 v2 (by omega) (by omega) h4 h5
      · rw [(r2 u u1 (by omega) eu).1] at h1 h2
        exact x4 u v u1 u2 v1 v2 h1 h2 h4 h5
  · have hg' := (kn.gr g p).mp hg
    obtain ⟨y1, y2⟩ := x5 p hg'
    rw [r5, kn.so]
    refine ⟨y1, fun q => ?_⟩
    obtain ⟨z1, z2⟩ := y2 q
    by_cases ep : p = N 13021 m
    · rw [ep] at z1 z2 ⊢
      rcases hro with hro | ⟨q1, q2, q3⟩
      · rw [hro]; exact ⟨z1, z2⟩
      · have := q2.2.1
        rw [q1]
        omega
    · rw [r7 p hg'.1 (by have := hg'.2.1; omega) ep]
      exact ⟨z1, z2⟩
  · obtain ⟨-, z2, z3, z4⟩ := x6 x y1 y2
    refine ⟨cw x y1 y2, ?_, ?_, fun hp => ?_⟩
    · by_cases e : x = m
      · rw [e]; have := f9 m m1 (by omega); omega
      · rw [(r2 x y1 y2 e).1]; exact z2
    · by_cases e : x = m
      · rw [e]; have := f9 m m1 (by omega); omega
      · rw [(r2 x y1 y2 e).1]; omega
    · rw [r5]
      by_cases e : x = m
      · rw [e]; exact hs
      · exact z4 (r0.bk y1 y2 e hp)
/-- the log's next: what comes before it is through with; what was delivered lies before it -/
theorem GIn.lg (h : GIn C N g) (m1 : 0 ≤ m) (m2 : m < (N 12000 19)) (hc : canR N m) (hr : gR N g (N 13021 m)) (ow : N 13055 (9 * g + N 13021 m) ≠ -1) (hb : N 13058 (9 * g + N 13021 m) ≤ N 13026 m) (no : ∀ b, 0 ≤ b → b < (N 12000 19) → canR N b → N 13021 b = N 13021 m → N 13058 (9 * g + N 13021 m) ≤ N 13026 b → N 13026 b < N 13026 m → False) : So C g (N 13021 m) ≤ N 13026 m ∧ (∀ b, 0 ≤ b → b < (N 12000 19) → canR N b → N 13021 b = N 13021 m → So C g (N 13021 m) ≤ N 13026 b → N 13026 b < N 13026 m → Pd C N g b) ∧ (¬ Pd C N g m → ∀ a, 0 ≤ a → a < (N 12000 19) → 0 < Fdl C g a → N 13021 a = N 13021 m → N 13026 a < N 13026 m) := by
  obtain ⟨x1, x2, x3, x4, x5, x6⟩ := h
  have z := (x5 _ hr).2 ow
  refine ⟨by omega, fun b b1 b2 b3 b4 b5 b6 => ?_, fun np a a1 a2 a3 a4 => ?_⟩
  · refine x2 b b1 b2 b3 (by rw [b4]; exact hr) (by rw [b4]; exact b5) (Or.inr ⟨by rw [b4]; exact ow, ?_⟩)
    rw [b4]
    by_cases q : N 13058 (9 * g + N 13021 m) ≤ N 13026 b
    · exact absurd (no b b1 b2 b3 b4 q b6) (fun z => z)
    · omega
  · by_cases q : N 13026 a < N 13026 m
    · exact q
    · exact absurd (x1 a m a1 a2 m1 m2 (Or.inl a3) hc a4 (by omega) (by omega)) np
end RDS
