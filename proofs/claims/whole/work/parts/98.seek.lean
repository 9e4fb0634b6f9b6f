/-! PURE PART, 98: seek -/
def skN (N : Nd) (g p v : Int) : Nd := fdN (swI (up N 13057 (9 * g + p) v) g p ((N 12000 19))) g p
def skC (C : Cd) (g p v : Int) : Cd := uq (uq C 9000 (9 * g + p) 3 v) 9000 (9 * g + p) 5 v
section SK
variable {C C' : Cd} {N : Nd} {g p v n : Int} {f : Int → Int}
theorem GA.sk0 (a : GA C N g) (g1 : 0 ≤ g) (hp : 0 ≤ p ∧ p < 9) (hv : 0 ≤ v ∧ v ≤ 60) : GA (skC C g p v) (up N 13057 (9 * g + p) v) g := by
  refine ⟨a.o, fun q q1 q2 => ?_, a.me, a.ha, a.le, a.wa, a.de, a.nm, fun q q1 q2 => ?_, a.nu⟩
  · obtain ⟨x1, x2⟩ := a.sh q q1 q2
    refine ⟨x1, fun r => ?_⟩
    obtain ⟨y0, y1, y2, y3, y4⟩ := x2 r
    unfold skC
    refine ⟨?_, ?_, ?_, ?_, ?_⟩
    · rw [uq_s, if_neg (by omega), uq_s, if_neg (by omega)]; exact y0
    · rw [uq_s, if_neg (by omega), uq_s, if_neg (by omega)]; exact y1
    · rw [uq_s, if_neg (by omega), uq_s, if_neg (by omega)]; exact y2
    · rw [uq_s, if_neg (by omega), uq_s, up_s]
      by_cases e : q = p
      · rw [if_pos (by omega), if_pos (by omega)]
      · rw [if_neg (by omega), if_neg (by omega)]; exact y3
    · rw [uq_s, if_neg (by omega), uq_s, if_neg (by omega)]; exact y4
  · obtain ⟨x1, x2, x3⟩ := a.np q q1 q2
    refine ⟨x1, ?_, x3⟩
    rw [up_s]
    split
    · exact hv
    · exact x2
/-- what the model's table says then -/
theorem sk_all {M : Nd} (hd : ∀ k, 0 ≤ k → k < M 13046 g → 0 ≤ M 13063 (150 * g + k) ∧ M 13063 (150 * g + k) < 150) (h0 : 0 ≤ M 13046 g) (hm : M 13046 g ≤ 150) (g1 : 0 ≤ g) (s : Int) : (∀ b, b ≠ 13046 → b ≠ 13059 → b ≠ 13062 → b ≠ 13063 → fdN (swI M g p s) g p b = M b) ∧ fdN (swI M g p s) g p 13059 = swI M g p s 13059 ∧ (∀ q, q ≠ g → fdN (swI M g p s) g p 13046 q = M 13046 q) ∧ fdN (swI M g p s) g p 13046 g = cn (fdK M g p) (M 13046 g) ∧ (∀ q, q < 150 * g ∨ 150 * g + 150 ≤ q → fdN (swI M g p s) g p 13063 q = M 13063 q ∧ fdN (swI M g p s) g p 13062 q = M 13062 q) ∧ (∀ k, 0 ≤ k → k < M 13046 g → fdK M g p k = true → fdN (swI M g p s) g p 13063 (150 * g + cn (fdK M g p) k) = M 13063 (150 * g + k)) ∧ (∀ k, 0 ≤ k → k < M 13046 g → fdK M g p k = false → fdN (swI M g p s) g p 13062 (150 * g + M 13063 (150 * g + k)) = 0) ∧ ∀ y, (∀ k, 0 ≤ k → k < M 13046 g → fdK M g p k = false → M 13063 (150 * g + k) ≠ y) → fdN (swI M g p s) g p 13062 (150 * g + y) = M 13062 (150 * g + y) := by
  have a1 : swI M g p s 13046 = M 13046 := sw_ar (by decide)
  have a2 : swI M g p s 13063 = M 13063 := sw_ar (by decide)
  have a3 : swI M g p s 13062 = M 13062 := sw_ar (by decide)
  have a4 : swI M g p s 13021 = M 13021 := sw_ar (by decide)
  have ek : fdK (swI M g p s) g p = fdK M g p := by
    unfold fdK
    rw [a2, a4]
  obtain ⟨h1, h2, h3, h4, h5, h6, h7⟩ := FDP.upto (N := swI M g p s) (p := p) (by rw [a1, a2]; exact hd) (by rw [a1]; exact hm) (n := (M 13046 g).toNat) (by rw [a1]; omega)
  have en : (((M 13046 g).toNat : Nat) : Int) = M 13046 g := by omega
  rw [en] at h1 h4 h5 h6 h7
  rw [ek] at h1 h4 h6 h7
  rw [a2] at h3 h4 h5 h6 h7
  rw [a3] at h3 h7
  unfold fdN
  rw [a1]
  generalize fo (fdS g p) 0 (M 13046 g).toNat (0, swI M g p s) = r at *
  refine ⟨fun b b1 b2 b3 b4 => ?_, ?_, fun q hq => ?_, ?_, fun q hq => ⟨?_, ?_⟩, fun k k1 k2 k3 => ?_, fun k k1 k2 k3 => ?_, fun y hy => ?_⟩
  · funext q
    rw [up_s, if_neg (fun z => b1 z.1), h2 b b3 b4, sw_ar b2]
  · funext q
    rw [up_s, if_neg (by omega), h2 _ (by decide) (by decide)]
  · rw [up_s, if_neg (fun z => hq z.2), h2 _ (by decide) (by decide), a1]
  · rw [up_s, if_pos ⟨rfl, rfl⟩, h1]
  · rw [up_s, if_neg (by omega)]; exact (h3 q hq).1
  · rw [up_s, if_neg (by omega)]; exact (h3 q hq).2
  · rw [up_s, if_neg (by omega)]; exact h4 k k1 k2 k3
  · rw [up_s, if_neg (by omega)]; exact h6 k k1 k2 k3
  · rw [up_s, if_neg (by omega)]; exact h7 y hy
theorem GA.sk (G : RG N) (a : GA C N g) (g1 : 0 ≤ g) (g2 : g < 3) (p1 : 0 ≤ p) (ow : N 13055 (9 * g + p) = -1) (w : GW1 C N g n f) (F : FGT C C' N g p n f 150) : GA C' (fdN (swI N g p ((N 12000 19))) g p) g ∧ MG g N (fdN (swI N g p ((N 12000 19))) g p) ∧ KG g C C' ∧ ∀ y, 0 ≤ y → y < 150 → (N 13021 y = p → C' 2000 (150 * g + y) 1 = 0 ∧ Fdl C' g y = 0 ∧ fdN (swI N g p ((N 12000 19))) g p 13059 (150 * g + y) ≠ 1) ∧ (N 13021 y ≠ p → C' 2000 (150 * g + y) 1 = C 2000 (150 * g + y) 1 ∧ Fdl C' g y = Fdl C g y ∧ fdN (swI N g p ((N 12000 19))) g p 13059 (150 * g + y) = N 13059 (150 * g + y)) := by
  have s5 := G.s.2.2.2.2.1
  obtain ⟨d1, d2, d3, d4⟩ := a.de
  obtain ⟨n1, n2, n3, n4, n5, n6, n7, n8⟩ := sk_all (p := p) (M := N) (fun k k1 k2 => ⟨(d3 k k1 k2).1.1, (d3 k k1 k2).1.2.1⟩) d2.1 d2.2 g1 ((N 12000 19))
  have knw : ∀ y, 0 ≤ y → y < 150 → C 2000 (150 * g + y) 1 ≠ 0 → C 17000 g y ≠ 0 ∧ y < (N 12000 19) := fun y y1 y2 h => by
    have := a.le.lt y1 y2 h
    exact ⟨this.2.1, this.2.2.1⟩
  have wx : ∀ y, 0 ≤ y → y < 150 → (N 13059 (150 * g + y) = 1 → C 17000 g y ≠ 0 ∧ y < (N 12000 19)) := fun y y1 y2 h => knw y y1 y2 (by have := (a.le y y1 y2).2.2.2.2.2.1.mpr h; omega)
  have dx : ∀ y, 0 ≤ y → y < 150 → (N 13062 (150 * g + y) = 1 → C 17000 g y ≠ 0 ∧ y < (N 12000 19)) := fun y y1 y2 h => knw y y1 y2 (by have := (a.le y y1 y2).2.2.2.2.2.2.1.mpr h; omega)
  have fb : ∀ y, y < 150 → (fgb C N g p 150 y = true ↔ C 17000 g y ≠ 0 ∧ N 13021 y = p) := fun y y2 => by
    unfold fgb
    simp [y2]
  obtain ⟨F1, F2, ⟨w3, f3, F3, F4⟩, w4, f4, F5, F6⟩ := F
  have nw : ∀ y, 0 ≤ y → fdN (swI N g p ((N 12000 19))) g p 13059 (150 * g + y) = if y < (N 12000 19) ∧ N 13021 y = p then 0 else N 13059 (150 * g + y) := fun y y1 => by rw [n2, sw_w y1]
  have nd : ∀ y, 0 ≤ y → y < 150 → fdN (swI N g p ((N 12000 19))) g p 13062 (150 * g + y) = if N 13021 y = p then 0 else N 13062 (150 * g + y) := fun y y1 y2 => by
    by_cases e : N 13021 y = p
    · rw [if_pos e]
      by_cases q : N 13062 (150 * g + y) = 1
      · obtain ⟨k, k1, k2, k3⟩ := d4 y y1 y2 q
        have := n7 k k1 k2 (by unfold fdK; rw [k3]; simp [e])
        rw [k3] at this
        exact this
      · rw [n8 y (fun k k1 k2 _ k4 => q (by rw [← k4]; exact (d3 k k1 k2).1.2.2))]
        exact ((a.le y y1 y2).2.2.2.2.1.2).resolve_right q
    · rw [if_neg e]
      refine n8 y (fun k k1 k2 k3 k4 => ?_)
      unfold fdK at k3
      rw [k4] at k3
      simp at k3
      exact e k3
  have cz : ∀ y z, 0 ≤ y → y < 150 → (z = 1 ∨ z = 6) → N 13021 y = p → C' 2000 (150 * g + y) z = 0 := fun y z y1 y2 hz e => by
    rw [F2 y z y1 y2 hz]
    by_cases q : C 17000 g y = 0
    · have := (a.le y y1 y2).2.2.1 q
      split
      · rfl
      · rcases hz with hz | hz
        · rw [hz]; exact this.1
        · rw [hz]; exact this.2.1
    · rw [if_pos ((fb y y2).mpr ⟨q, e⟩)]
  have cs : ∀ y z, 0 ≤ y → y < 150 → (z = 1 ∨ z = 6) → N 13021 y ≠ p → C' 2000 (150 * g + y) z = C 2000 (150 * g + y) z := fun y z y1 y2 hz e => by
    rw [F2 y z y1 y2 hz, if_neg (fun q => e ((fb y y2).mp q).2)]
  have co : ∀ y z, z ≠ 1 → z ≠ 6 → C' 2000 (150 * g + y) z = C 2000 (150 * g + y) z := fun y z z1 z2 => F1 _ _ _ (by omega) (by omega) (by omega) (by omega) (by omega)
  have mg : MG g N (fdN (swI N g p ((N 12000 19))) g p) := fun b q hq => by
    unfold inN at hq
    by_cases b1 : b = 13046
    · rw [b1]; exact n3 q (by omega)
    · by_cases b2 : b = 13059
      · rw [b2, n2, sw_o (by omega)]
      · by_cases b3 : b = 13062
        · rw [b3]; exact (n5 q (by omega)).2
        · by_cases b4 : b = 13063
          · rw [b4]; exact (n5 q (by omega)).1
          · rw [n1 b b1 b2 b3 b4]
  have hr : ∀ q, gR (fdN (swI N g p ((N 12000 19))) g p) g q ↔ gR N g q := fun q => mg.gr g q
  refine ⟨?_, mg, fun b i z h => ?_, fun y y1 y2 => ⟨fun e => ⟨cz y 1 y1 y2 (Or.inl rfl) e, cz y 6 y1 y2 (Or.inr rfl) e, ?_⟩, fun e => ⟨cs y 1 y1 y2 (Or.inl rfl) e, cs y 6 y1 y2 (Or.inr rfl) e, ?_⟩⟩⟩
  · have an := n1
    have hcan : ∀ y, canR (fdN (swI N g p ((N 12000 19))) g p) y ↔ canR N y := fun y => mg.can
    generalize hN : fdN (swI N g p ((N 12000 19))) g p = N' at *
    refine ⟨?_, fun q q1 q2 => ?_, fun z z1 z2 => ?_, fun z z1 z2 z3 => ?_, fun x x1 x2 => ?_, ?_, ?_, fun z z1 z2 => ?_, fun q q1 q2 => ?_, ?_⟩
    · have o := a.o
      unfold GO at o ⊢
      rw [F1 _ _ _ (by omega) (by omega) (by omega) (by omega) (by omega), F1 _ _ _ (by omega) (by omega) (by omega) (by omega) (by omega), F1 _ _ _ (by omega) (by omega) (by omega) (by omega) (by omega), F1 _ _ _ (by omega) (by omega) (by omega) (by omega) (by omega), F1 _ _ _ (by omega) (by omega) (by omega) (by omega) (by omega), F1 _ _ _ (by omega) (by omega) (by omega) (by omega) (by omega), F1 _ _ _ (by omega) (by omega) (by omega) (by omega) (by omega), F1 _ _ _ (by omega) (by omega) (by omega) (by omega) (by omega), F1 _ _ _ (by omega) (by omega) (by omega) (by omega) (by omega), an _ (by decide) (by decide) (by decide) (by decide), an _ (by decide) (by decide) (by decide) (by decide), an _ (by decide) (by decide) (by decide) (by decide)]
      simp only [hr]
      exact o
    · have x := a.sh q q1 q2
      have e9 : ∀ y, C' 9000 (9 * g + q) y = C 9000 (9 * g + q) y := fun y => F1 _ _ _ (by omega) (by omega) (by omega) (by omega) (by omega)
      rw [F1 _ _ _ (by omega) (by omega) (by omega) (by omega) (by omega), e9, e9, e9, e9, e9, an 13055 (by decide) (by decide) (by decide) (by decide), an 13056 (by decide) (by decide) (by decide) (by decide), an 13057 (by decide) (by decide) (by decide) (by decide), an 13058 (by decide) (by decide) (by decide) (by decide)]
      simp only [hr]
      exact x
    · have x := a.me z z1 z2
      have e9 : ∀ y, C' 4000 (12 * g + z) y = C 4000 (12 * g + z) y := fun y => F1 _ _ _ (by omega) (by omega) (by omega) (by omega) (by omega)
      rw [F1 _ _ _ (by omega) (by omega) (by omega) (by omega) (by omega), e9, e9, e9, e9, e9, an _ (by decide) (by decide) (by decide) (by decide), an _ (by decide) (by decide) (by decide) (by decide), an _ (by decide) (by decide) (by decide) (by decide), an _ (by decide) (by decide) (by decide) (by decide)]
      exact x
    · rw [an _ (by decide) (by decide) (by decide) (by decide)] at z3
      have am := an 13051 (by decide) (by decide) (by decide) (by decide)
      have ah := an 13052 (by decide) (by decide) (by decide) (by decide)
      obtain ⟨y1, y2⟩ := a.ha z z1 z2 z3
      unfold hn hf
      rw [am, ah, an 13021 (by decide) (by decide) (by decide) (by decide), an 13026 (by decide) (by decide) (by decide) (by decide), an 13055 (by decide) (by decide) (by decide) (by decide), an 13058 (by decide) (by decide) (by decide) (by decide), an 12000 (by decide) (by decide) (by decide) (by decide), an 13053 (by decide) (by decide) (by decide) (by decide), an 13054 (by decide) (by decide) (by decide) (by decide)]
      refine ⟨⟨?_, ?_, fun i i1 i2 => ?_⟩, fun i i1 i2 => ?_⟩
      · rw [F1 _ _ _ (by omega) (by omega) (by omega) (by omega) (by omega)]; exact y1.1
      · rw [F1 _ _ _ (by omega) (by omega) (by omega) (by omega) (by omega)]; exact y1.2.1
      · rw [F1 _ _ _ (by omega) (by omega) (by omega) (by omega) (by omega)]; exact y1.2.2 i i1 i2
      · obtain ⟨⟨b1, b2, b3, b4, b5⟩, r6, r7⟩ := y2 i i1 i2
        have np' : N 13021 (hf N g z i) ≠ p := fun e => by
          have := r6.1
          rw [e] at this
          omega
        refine ⟨⟨b1, b2, ?_, ?_, ?_⟩, r6, r7⟩
        · rw [cs _ 1 b1 (by omega) (Or.inl rfl) np']; exact b3
        · rw [co _ _ (by decide) (by decide)]; exact b4
        · rw [co _ _ (by decide) (by decide)]; exact b5
    · obtain ⟨x1', x2', x3', x4', x5', x6', x7', x8', x9', x0'⟩ := a.le x x1 x2
      have e17 : C' 17000 g x = C 17000 g x := F1 _ _ _ (by omega) (by omega) (by omega) (by omega) (by omega)
      have x2'' : C 17000 g x ≠ 0 → x < (N 12000 19) ∧ C 2000 (150 * g + x) 0 = 5000 + x ∧ (N 13024 x = 3 ∨ canR N' x) ∧ gR N' g (N 13021 x) := fun q => by
        obtain ⟨y1, y2, y3, y4⟩ := x2' q
        exact ⟨y1, y2, y3.imp id (fun z => (hcan x).mpr z), (hr _).mpr y4⟩
      unfold hn hf
      rw [an 12000 (by decide) (by decide) (by decide) (by decide), an 13021 (by decide) (by decide) (by decide) (by decide), an 13024 (by decide) (by decide) (by decide) (by decide), an 13055 (by decide) (by decide) (by decide) (by decide), an 13060 (by decide) (by decide) (by decide) (by decide), an 13061 (by decide) (by decide) (by decide) (by decide), an 13064 (by decide) (by decide) (by decide) (by decide), an 13051 (by decide) (by decide) (by decide) (by decide), an 13052 (by decide) (by decide) (by decide) (by decide), e17, co x 0 (by decide) (by decide), co x 2 (by decide) (by decide), co x 3 (by decide) (by decide), co x 5 (by decide) (by decide), nw x x1, nd x x1 x2]
      by_cases e : N 13021 x = p
      · have wz : (if x < (N 12000 19) ∧ N 13021 x = p then 0 else N 13059 (150 * g + x)) = 0 := by
          split
          · rfl
          · rename_i q
            rcases x5'.1 with y | y
            · exact y
            · exact absurd ⟨(wx x x1 x2 y).2, e⟩ q
        rw [cz x 1 x1 x2 (Or.inl rfl) e, cz x 6 x1 x2 (Or.inr rfl) e, wz, if_pos e]
        exact ⟨x1', x2'', fun q => ⟨rfl, rfl, (x3' q).2.2⟩, x4', ⟨Or.inl rfl, Or.inl rfl⟩, ⟨fun q => absurd q (by decide), fun q => absurd q (by decide)⟩, ⟨fun q => absurd q (by decide), fun q => absurd q (by decide)⟩, fun q => absurd q (by decide), by decide, fun q => absurd q (by decide)⟩
      · rw [cs x 1 x1 x2 (Or.inl rfl) e, cs x 6 x1 x2 (Or.inr rfl) e, if_neg (fun q => e q.2), if_neg e]
        exact ⟨x1', x2'', x3', x4', x5', x6', x7', x8', x9', x0'⟩
    · refine ⟨w3, f3, F3, ?_, fun i i1 i2 => ?_, fun i k i1 i2 k2 => ?_, fun x x1 x2 hx => ?_⟩
      · have := F4.b w.2.1.1
        have := w.2.1.2
        omega
      · obtain ⟨k, k1, k2, k3, k4, k5⟩ := F4.sur w.2.1.1 i1 i2
        have q := w.2.2.1 k k1 k2
        rw [k5, nw _ q.1]
        refine ⟨q.1, q.2.1, ?_⟩
        rw [if_neg (fun z => ?_)]
        · exact q.2.2
        · have := (fb _ q.2.1).mpr ⟨(wx _ q.1 q.2.1 q.2.2).1, z.2⟩
          rw [this] at k3
          exact absurd k3 (by decide)
      · obtain ⟨s, t, s1, s2, s3, s4, s5'⟩ := F4.inj w.2.1.1 i1 i2 k2
        have := w.2.2.2.1 s t s1 s2 s3
        rw [s4, s5']
        unfold lw at this ⊢
        rw [an 13060 (by decide) (by decide) (by decide) (by decide)]
        exact this
      · rw [nw x x1] at hx
        split at hx
        · omega
        · rename_i c
          obtain ⟨k, k1, k2, k3⟩ := w.2.2.2.2 x x1 x2 hx
          have kk : (!fgb C N g p 150 (f k)) = true := by
            rw [k3]
            cases q : fgb C N g p 150 x
            · rfl
            · exact absurd ⟨(wx x x1 x2 hx).2, ((fb x x2).mp q).2⟩ c
          have l1 := cn_lt (K := fun k => !fgb C N g p 150 (f k)) k1 k2 kk
          have l2 := @cn_b (fun k => !fgb C N g p 150 (f k)) k k1
          refine ⟨_, l2.1, by rw [F4.1]; exact l1, ?_⟩
          rw [F4.2 k k1 k2 kk]
          exact k3
    · have kl : KpL (fun k => N 13063 (150 * g + k)) (N 13046 g) (fdK N g p) w4 f4 := F6.congr (fun k k1 k2 => by
        have q := (d3 k k1 k2).1
        unfold fdK
        have : fgb C N g p 150 (N 13063 (150 * g + k)) = decide (N 13021 (N 13063 (150 * g + k)) = p) := by
          unfold fgb
          have kn := (dx _ q.1 q.2.1 q.2.2).1
          simp [q.2.1, kn]
        simp only [this])
      have wq : w4 = N' 13046 g := by rw [n4]; exact kl.1
      have el : ∀ i, 0 ≤ i → i < w4 → ∃ k, 0 ≤ k ∧ k < N 13046 g ∧ fdK N g p k = true ∧ cn (fdK N g p) k = i ∧ f4 i = N 13063 (150 * g + k) ∧ N' 13063 (150 * g + i) = N 13063 (150 * g + k) := fun i i1 i2 => by
        obtain ⟨k, k1, k2, k3, k4, k5⟩ := kl.sur d2.1 i1 i2
        exact ⟨k, k1, k2, k3, k4, k5, by rw [← k4]; exact n6 k k1 k2 k3⟩
      have kb := kl.b d2.1
      refine ⟨⟨F5.1, by rw [← wq]; exact F5.2.1, fun i i1 i2 => ?_⟩, by omega, fun i i1 i2 => ?_, fun x x1 x2 hx => ?_⟩
      · obtain ⟨k, k1, k2, k3, k4, k5, k6⟩ := el i i1 (by omega)
        show C' 17103 g i = 2000 + (150 * g + N' 13063 (150 * g + i))
        rw [F5.2.2 i i1 (by omega), k5, k6]
      · obtain ⟨k, k1, k2, k3, k4, k5, k6⟩ := el i i1 (by omega)
        have q := d3 k k1 k2
        rw [k6, nd _ q.1.1 q.1.2.1, if_neg (fun z => by unfold fdK at k3; simp [z] at k3)]
        refine ⟨q.1, fun i' j1 j2 => ?_⟩
        obtain ⟨k', r1, r2, r3, r4, r5, r6⟩ := el i' j1 (by omega)
        rw [r6]
        refine q.2 k' r1 ?_
        by_cases z : k' < k
        · exact z
        · have := (@cn_mono (fdK N g p) k k' k1 (by omega)).1
          omega
      · rw [nd x x1 x2] at hx
        split at hx
        · omega
        · rename_i c
          obtain ⟨k, k1, k2, k3⟩ := d4 x x1 x2 hx
          have kk : fdK N g p k = true := by unfold fdK; rw [k3]; simp [c]
          have l1 := cn_lt k1 k2 kk
          have l2 := @cn_b (fdK N g p) k k1
          refine ⟨_, l2.1, by rw [n4]; exact l1, ?_⟩
          rw [n6 k k1 k2 kk]
          exact k3
    · unfold hn
      rw [an 13047 (by decide) (by decide) (by decide) (by decide), an 13044 (by decide) (by decide) (by decide) (by decide), an 13049 (by decide) (by decide) (by decide) (by decide), an 13050 (by decide) (by decide) (by decide) (by decide), an 13048 (by decide) (by decide) (by decide) (by decide), an 12000 (by decide) (by decide) (by decide) (by decide), an 13051 (by decide) (by decide) (by decide) (by decide)]
      exact a.nm z z1 z2
    · rw [an 13055 (by decide) (by decide) (by decide) (by decide), an 13056 (by decide) (by decide) (by decide) (by decide), an 13047 (by decide) (by decide) (by decide) (by decide), an 13057 (by decide) (by decide) (by decide) (by decide), an 13058 (by decide) (by decide) (by decide) (by decide)]
      simp only [hr]
      exact a.np q q1 q2
    · obtain ⟨y1, y2, y3, y4⟩ := a.nu
      have tc : ∀ i, tcn N' g i = tcn N g i := fun i => tcn_eq hr (fun p => by rw [an 13056 (by decide) (by decide) (by decide) (by decide)])
      have mc : mcn N' g = mcn N g := by unfold mcn; rw [an 13047 (by decide) (by decide) (by decide) (by decide)]
      unfold GNu
      rw [mc, an 13042 (by decide) (by decide) (by decide) (by decide), an 13044 (by decide) (by decide) (by decide) (by decide), an 13043 (by decide) (by decide) (by decide) (by decide), an 13047 (by decide) (by decide) (by decide) (by decide), an 12000 (by decide) (by decide) (by decide) (by decide)]
      simp only [tc]
      exact ⟨y1, y2, y3, y4⟩
  · unfold inG at h
    exact F1 b i z (by omega) (by omega) (by omega) (by omega) (by omega)
  · rw [nw y y1]
    split
    · decide
    · rename_i c
      exact fun q => c ⟨(wx y y1 y2 q).2, e⟩
  · rw [nw y y1, if_neg (fun q => e q.2)]
end SK
