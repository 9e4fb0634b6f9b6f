/-! PURE PART, 99e: beat: a member takes, or gives up, a partition -/
def tkC (C : Cd) (g j p v : Int) : Cd := uq (uq C 9000 (9 * g + p) 1 (4000 + (12 * g + j))) 9000 (9 * g + p) 4 v
def tkN (N : Nd) (g j p v : Int) : Nd := up (up N 13055 (9 * g + p) j) 13058 (9 * g + p) v
section TAKE
variable {C : Cd} {N : Nd} {A : Ad} {g j p v : Int}
theorem GA.tk (G : RG N) (a : GA C N g) (g1 : 0 ≤ g) (j1 : 0 ≤ j) (j2 : j < 12) (hi : N 13047 (12 * g + j) = 1) (r : gR N g p) (p2 : p < 9) (ow : N 13055 (9 * g + p) = -1) (hv : 0 ≤ v ∧ v ≤ 60) : GA (tkC C g j p v) (tkN N g j p v) g := by
  have s5 := G.s.2.2.2.2.1
  have p1 := r.1
  have oe : ∀ q, tkN N g j p v 13055 (9 * g + q) = if q = p then j else N 13055 (9 * g + q) := fun q => by
    unfold tkN
    rw [up_s, if_neg (by omega), up_s]
    by_cases e : q = p
    · rw [if_pos (by omega), if_pos e]
    · rw [if_neg (by omega), if_neg e]
  have re : ∀ q, tkN N g j p v 13058 (9 * g + q) = if q = p then v else N 13058 (9 * g + q) := fun q => by
    unfold tkN
    rw [up_s]
    by_cases e : q = p
    · rw [if_pos (by omega), if_pos e]
    · rw [if_neg (by omega), if_neg e, up_s, if_neg (by omega)]
  refine ⟨a.o, fun q q1 q2 => ?_, a.me, fun z z1 z2 z3 => ?_, fun x x1 x2 => ?_, a.wa, a.de, a.nm, fun q q1 q2 => ?_, a.nu⟩
  · obtain ⟨x1, x2⟩ := a.sh q q1 q2
    refine ⟨x1, fun rq => ?_⟩
    obtain ⟨y0, y1, y2, y3, y4⟩ := x2 rq
    rw [oe, re]
    unfold tkC
    refine ⟨?_, ?_, ?_, ?_, ?_⟩
    · rw [uq_s, if_neg (by omega), uq_s, if_neg (by omega)]; exact y0
    · rw [uq_s, if_neg (by omega), uq_s]
      by_cases e : q = p
      · rw [if_pos (by omega), if_pos e]
        unfold obj
        rw [if_neg (by omega)]
      · rw [if_neg (by omega), if_neg e]; exact y1
    · rw [uq_s, if_neg (by omega), uq_s, if_neg (by omega)]; exact y2
    · rw [uq_s, if_neg (by omega), uq_s, if_neg (by omega)]; exact y3
    · rw [uq_s]
      by_cases e : q = p
      · rw [if_pos (by omega), if_pos e]
      · rw [if_neg (by omega), if_neg e, uq_s, if_neg (by omega)]; exact y4
  · obtain ⟨y1, y2⟩ := a.ha z z1 z2 z3
    refine ⟨y1, fun k k1 k2 => ?_⟩
    obtain ⟨b1, ⟨b2, b3, b4, b5⟩, b6⟩ := y2 k k1 k2
    have ne : N 13021 (hf N g z k) ≠ p := fun e => by
      rw [e] at b2
      omega
    refine ⟨b1, ⟨?_, b3, b4, fun q => ?_⟩, b6⟩
    · show tkN N g j p v 13055 (9 * g + N 13021 (hf N g z k)) = z
      rw [oe, if_neg ne]; exact b2
    · show N 13026 (hf N g z k) < tkN N g j p v 13058 (9 * g + N 13021 (hf N g z k))
      rw [re, if_neg ne]; exact b5 q
  · obtain ⟨x1', x2', x3', x4', x5', x6', x7', x8', x9', x0'⟩ := a.le x x1 x2
    refine ⟨x1', x2', x3', x4', x5', x6', x7', fun q => ?_, x9', x0'⟩
    have y := x8' q
    have ne : N 13021 x ≠ p := fun e => by
      have := y.1
      rw [e] at this
      exact this ow
    have e2 : tkN N g j p v 13055 (9 * g + N 13021 x) = N 13055 (9 * g + N 13021 x) := by rw [oe, if_neg ne]
    show tkN N g j p v 13055 (9 * g + N 13021 x) ≠ -1 ∧ ∃ k, 0 ≤ k ∧ k < hn N g (tkN N g j p v 13055 (9 * g + N 13021 x)) ∧ hf N g (tkN N g j p v 13055 (9 * g + N 13021 x)) k = x
    rw [e2]
    exact y
  · obtain ⟨⟨x1, x2⟩, x3, x4⟩ := a.np q q1 q2
    rw [oe, re]
    refine ⟨⟨?_, x2⟩, x3, ?_⟩
    · by_cases e : q = p
      · rw [if_pos e]
        exact Or.inr ⟨j1, j2, hi, by rw [e]; exact r⟩
      · rw [if_neg e]
        exact x1
    · split
      · exact hv
      · exact x4
theorem GIn.tk (jn : JN N) (h : GIn C N g) (r : gR N g p) (ow : N 13055 (9 * g + p) = -1) (hv : v = if N 13057 (9 * g + p) < N 13015 p then N 13015 p else N 13057 (9 * g + p)) : GIn (tkC C g j p v) (tkN N g j p v) g := by
  have s2 := jn.g.s.2.1
  have p1 := r.1
  have p2 := r.2.1
  have oe : ∀ q, tkN N g j p v 13055 (9 * g + q) = if q = p then j else N 13055 (9 * g + q) := fun q => by
    unfold tkN
    rw [up_s, if_neg (by omega), up_s]
    by_cases e : q = p
    · rw [if_pos (by omega), if_pos e]
    · rw [if_neg (by omega), if_neg e]
  have re : ∀ q, tkN N g j p v 13058 (9 * g + q) = if q = p then v else N 13058 (9 * g + q) := fun q => by
    unfold tkN
    rw [up_s]
    by_cases e : q = p
    · rw [if_pos (by omega), if_pos e]
    · rw [if_neg (by omega), if_neg e, up_s, if_neg (by omega)]
  have sq : ∀ q, So (tkC C g j p v) g q = So C g q := fun q => by
    show tkC C g j p v 9000 (9 * g + q) 5 = _
    unfold tkC
    rw [uq_s, if_neg (by omega), uq_s, if_neg (by omega)]
  obtain ⟨x1, x2, x3, x4, x5, x6⟩ := h
  refine ⟨fun u w u1 u2 v1 v2 hp hc hq h1 h2 => ?_, fun w v1 v2 hc hg h1 h2 => ?_, x3, x4, fun q hg => ?_, fun m m1 m2 => ?_⟩
  · rw [sq] at h1
    exact x1 u w u1 u2 v1 v2 hp hc hq h1 h2
  · rw [sq] at h1
    refine x2 w v1 v2 hc hg h1 ?_
    rcases h2 with h2 | ⟨h2, h3⟩
    · exact Or.inl h2
    · have h2' : tkN N g j p v 13055 (9 * g + N 13021 w) ≠ -1 := h2
      have h3' : N 13026 w < tkN N g j p v 13058 (9 * g + N 13021 w) := h3
      rw [oe] at h2'
      rw [re] at h3'
      by_cases e : N 13021 w = p
      · rw [if_pos e, hv] at h3'
        rw [e]
        refine Or.inl ?_
        by_cases c : N 13057 (9 * g + p) < N 13015 p
        · rw [if_pos c] at h3'
          exfalso
          have y := (jn.sl w v1 v2).1 (Or.inl hc.1)
          rw [e] at y
          have ob := (jn.g.m w v1 v2).2.2.2.2.2.1
          have fi := jn.fi p p1 p2
          by_cases t : N 14008 (N 13012 p) = 0
          · have := (fi.1 t (N 13026 w) y.1 ob.2 (by rw [y.2]; exact v1)).mp h3'
            rw [y.2] at this
            have s1 : N 13024 w = 1 := hc.1
            omega
          · have := fi.2.1 t
            omega
        · rw [if_neg c] at h3'
          exact h3'
      · rw [if_neg e] at h2' h3'
        exact Or.inr ⟨h2', h3'⟩
  · rw [sq]
    obtain ⟨y1, y2⟩ := x5 q hg
    refine ⟨y1, fun z => ?_⟩
    show So C g q ≤ tkN N g j p v 13058 (9 * g + q) ∧ (tkN N g j p v 13058 (9 * g + q) ≤ So C g q ∨ tkN N g j p v 13058 (9 * g + q) ≤ so N q)
    have z' : tkN N g j p v 13055 (9 * g + q) ≠ -1 := z
    rw [oe] at z'
    rw [re]
    by_cases e : q = p
    · rw [if_pos e, hv]
      have fi := (jn.fi p p1 p2).2.2
      rw [e] at y1 ⊢
      split <;> omega
    · rw [if_neg e] at z' ⊢
      exact y2 z'
  · obtain ⟨z1, z2, z3, z4⟩ := x6 m m1 m2
    refine ⟨z1, z2, z3, fun q => ?_⟩
    rw [sq]
    exact z4 q
theorem JJ.tk {n : Int} (jj : JJ n C N A) (g1 : 0 ≤ g) (g2 : g < (N 12000 41)) (j1 : 0 ≤ j) (j2 : j < 12) (hi : N 13047 (12 * g + j) = 1) (r : gR N g p) (ow : N 13055 (9 * g + p) = -1) (tg : N 13056 (9 * g + p) = j) (hv : v = if N 13057 (9 * g + p) < N 13015 p then N 13015 p else N 13057 (9 * g + p)) : JJ n (tkC C g j p v) (tkN N g j p v) A := by
  have G := jj.jn.g
  have s2 := G.s.2.1
  have p1 := r.1
  have p2 := r.2.1
  have gr := jj.gr g1 g2
  have cb := (gr.1.np p p1 (by omega)).2.1
  have fb := (G.p p p1 p2).2.2.2.1
  have kc : KG g C (tkC C g j p v) := (KG.rf.uq (by unfold inG; omega)).uq (by unfold inG; omega)
  have kn : MG g N (tkN N g j p v) := (MG.rf.up (by unfold inN; omega)).up (by unfold inN; omega)
  refine jj.grp g1 g2 kc kn ⟨gr.1.tk G g1 j1 j2 hi r (by omega) ow (by rw [hv]; split <;> omega), gr.2.tk jj.jn r ow hv⟩ ⟨Int.le_refl _, fun _ q hq => ⟨rfl, ?_, fun _ => ⟨?_, fun b b1 b2 _ _ h => h⟩⟩⟩ (jj.ne.grp (g := g) kn rfl rfl rfl) rfl (Int.le_refl n) (jj.b.2.2.2 g g1 g2) (jj.fs0 g1 g2 (Int.le_refl n) (fun _ _ _ => rfl) rfl)
  · by_cases e : q = p
    · refine Or.inr (Or.inr ?_)
      rw [e]
      refine ⟨ow, ?_⟩
      show tkN N g j p v 13055 (9 * g + p) = _
      unfold tkN
      rw [up_s, if_neg (by omega), up_s, if_pos ⟨rfl, rfl⟩]
      exact tg.symm
    · refine Or.inl ?_
      show tkN N g j p v 13055 (9 * g + q) = _
      unfold tkN
      rw [up_s, if_neg (by omega), up_s, if_neg (by omega)]
  · show tkC C g j p v 9000 (9 * g + q) 5 = _
    unfold tkC
    rw [uq_s, if_neg (by omega), uq_s, if_neg (by omega)]
theorem JJ.gv {n : Int} {C' : Cd} {N' : Nd} (jj : JJ n C N A) (g1 : 0 ≤ g) (g2 : g < (N 12000 41)) (p1 : 0 ≤ p) (p2 : p < 9) (tg : N 13055 (9 * g + p) ≠ N 13056 (9 * g + p)) (gr : GR C' N' g) (gv : GV g p C C' N N') : JJ n C' N' A := by
  obtain ⟨C2, N2, rfl, rfl, st⟩ := gv
  have G := jj.jn.g
  have s5 := G.s.2.2.2.2.1
  have kc : KG g C (uq C2 9000 (9 * g + p) 1 0) := st.1.uq (by unfold inG; omega)
  have kn : MG g N (up N2 13055 (9 * g + p) (-1)) := st.2.1.up (by unfold inN; omega)
  have ar : ∀ a, ¬ (13051 ≤ a ∧ a ≤ 13054) → ¬ (13059 ≤ a ∧ a ≤ 13063) → a ≠ 13046 → a ≠ 13055 → (up N2 13055 (9 * g + p) (-1)) a = N a := fun a h1 h2 h3 h4 => by
    funext i
    rw [up_s, if_neg (fun z => h4 z.1), st.2.2.2.2.1 a h1 h2 h3]
  have c1 : uq C2 9000 (9 * g + p) 1 0 1000 = C 1000 := by
    funext i z
    rw [uq_s, if_neg (by omega), st.kn.2.2.2.2.2]
  have c17 : uq C2 9000 (9 * g + p) 1 0 17000 = C 17000 := by
    funext i z
    rw [uq_s, if_neg (by omega), st.kn.1]
  refine jj.grp g1 g2 kc kn gr ⟨by rw [ar _ (by decide) (by decide) (by decide) (by decide)]; exact Int.le_refl _, fun _ q hq => ⟨by rw [ar _ (by decide) (by decide) (by decide) (by decide)], ?_, fun _ => ⟨?_, fun b b1 b2 _ _ h => ?_⟩⟩⟩ (jj.ne.grp (g := g) kn (ar _ (by decide) (by decide) (by decide) (by decide)) c17 rfl) (ar _ (by decide) (by decide) (by decide) (by decide)) (Int.le_refl n) (by rw [c1]; exact jj.b.2.2.2 g g1 g2) (jj.fs0 g1 g2 (Int.le_refl n) (fun x _ _ => by rw [uq_s, if_neg (by omega)]; exact st.2.2.2.1 _ 6 (Or.inr (Or.inr rfl))) (ar _ (by decide) (by decide) (by decide) (by decide)))
  · have ow2 : N2 13055 = N 13055 := st.2.2.2.2.1 _ (by decide) (by decide) (by decide)
    by_cases e : q = p
    · refine Or.inr (Or.inl ?_)
      rw [e, up_s, if_pos ⟨rfl, rfl⟩]
      exact ⟨rfl, tg⟩
    · refine Or.inl ?_
      rw [up_s, if_neg (by omega), ow2]
  · show uq C2 9000 (9 * g + p) 1 0 9000 (9 * g + q) 5 = _
    rw [uq_s, if_neg (by omega), st.kn.2.2.2.2.1]
  · have y := (st.2.2.2.2.2 b b1 (by omega)).mp h
    unfold Pd Fdl at y ⊢
    rw [uq_s, if_neg (by omega), up_s, if_neg (by omega)]
    exact y
end TAKE
