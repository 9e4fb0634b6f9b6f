/-! PURE PART, 91: read: one message of the log is looked at -/
/-- what looking through its log does to a member's waiting messages -/
def LQ (g j : Int) (N N1 : Nd) : Prop := (∀ p, N 13058 (9 * g + p) ≤ N1 13058 (9 * g + p)) ∧ (∀ m, 0 ≤ m → m < 150 → N 13059 (150 * g + m) = 1 → N1 13059 (150 * g + m) = 1 ∧ N1 13060 (150 * g + m) = N 13060 (150 * g + m)) ∧
  ∀ m, 0 ≤ m → m < 150 → N1 13059 (150 * g + m) = 1 → N 13059 (150 * g + m) = 1 ∨ ((m < (N 12000 19) ∧ canR N m ∧ own N g j (N 13021 m) ∧ N 13058 (9 * g + N 13021 m) ≤ N 13026 m ∧ N 13026 m < N1 13058 (9 * g + N 13021 m)) ∧ N1 13060 (150 * g + m) = (N 12000 1) ∧ ∃ x, 0 ≤ x ∧ x < (N 12000 19) ∧ N 13059 (150 * g + x) = 1 ∧ N 13021 x = N 13021 m)
theorem LQ.rf {g j : Int} {N : Nd} : LQ g j N N := ⟨fun _ => Int.le_refl _, fun _ _ _ h => ⟨h, rfl⟩, fun _ _ _ h => Or.inl h⟩
/-- what looking through the log keeps -/
def LKp (g j : Int) (N N1 : Nd) : Prop := MG g N N1 ∧ (∀ a, a ≠ 13058 → a ≠ 13059 → a ≠ 13060 → a ≠ 13061 → N1 a = N a) ∧ LQ g j N N1
theorem LKp.rf {g j : Int} {N : Nd} : LKp g j N N := ⟨MG.rf, fun _ _ _ _ _ => rfl, LQ.rf⟩
theorem LKp.ow {g j : Int} {N N1 : Nd} (h : LKp g j N N1) (p : Int) : own N1 g j p ↔ own N g j p := by
  have e : N1 13055 = N 13055 := h.2.1 _ (by decide) (by decide) (by decide) (by decide)
  constructor
  · intro ⟨a, b⟩
    exact ⟨(h.1.gr g p).mp a, by rw [← e]; exact b⟩
  · intro ⟨a, b⟩
    exact ⟨(h.1.gr g p).mpr a, by rw [e]; exact b⟩
theorem LKp.tr {g j : Int} {N N1 N2 : Nd} (m150 : (N 12000 19) ≤ 150) (h : LKp g j N N1) (k : LKp g j N1 N2) : LKp g j N N2 := ⟨h.1.tr k.1, fun a a1 a2 a3 a4 => (k.2.1 a a1 a2 a3 a4).trans (h.2.1 a a1 a2 a3 a4), by
  have sc : N1 12000 = N 12000 := h.1.n0 (by decide)
  have mp : N1 13021 = N 13021 := h.1.n0 (by decide)
  have mo : N1 13026 = N 13026 := h.1.n0 (by decide)
  refine ⟨fun p => Int.le_trans (h.2.2.1 p) (k.2.2.1 p), fun m m1 m2 hw' => ?_, fun m m1 m2 hw' => ?_⟩
  · obtain ⟨a, b⟩ := h.2.2.2.1 m m1 m2 hw'
    obtain ⟨c, d⟩ := k.2.2.2.1 m m1 m2 a
    exact ⟨c, d.trans b⟩
  · rcases k.2.2.2.2 m m1 m2 hw' with a | ⟨⟨b1, b2, b3, b4, b5⟩, b6, x, x1, x2, x3, x4⟩
    · rcases h.2.2.2.2 m m1 m2 a with c | ⟨⟨c1, c2, c3, c4, c5⟩, c6, c7⟩
      · exact Or.inl c
      · refine Or.inr ⟨⟨c1, c2, c3, c4, ?_⟩, ?_, c7⟩
        · have := k.2.2.1 (N 13021 m)
          omega
        · rw [(k.2.2.2.1 m m1 m2 a).2]
          exact c6
    · rw [sc] at b1 b6
      rw [h.1.can] at b2
      rw [mp] at b3 b4 b5
      rw [mo] at b4 b5
      have b3' := (h.ow _).mp b3
      have := h.2.2.1 (N 13021 m)
      refine Or.inr ⟨⟨b1, b2, b3', by omega, b5⟩, b6, ?_⟩
      rw [sc] at x2
      rw [mp] at x4
      by_cases z : N 13059 (150 * g + x) = 1
      · exact ⟨x, x1, x2, z, x4⟩
      · have x5 : x < 150 := by omega
        rcases h.2.2.2.2 x x1 x5 x3 with y | ⟨-, -, y, y1, y2, y3, y4⟩
        · exact absurd y z
        · exact ⟨y, y1, y2, y3, y4.trans x4⟩⟩
/-- nothing of p is left to read -/
def NLE (N : Nd) (g p : Int) : Prop := ∀ b, 0 ≤ b → b < (N 12000 19) → canR N b → N 13021 b = p → N 13058 (9 * g + p) ≤ N 13026 b → False
theorem NLE.mono {g j p : Int} {N N1 : Nd} (h : LKp g j N N1) (u : NLE N g p) : NLE N1 g p := fun b b1 b2 b3 b4 b5 => by
  have sc : N1 12000 = N 12000 := h.1.n0 (by decide)
  have mp : N1 13021 = N 13021 := h.1.n0 (by decide)
  have mo : N1 13026 = N 13026 := h.1.n0 (by decide)
  rw [sc] at b2
  rw [h.1.can] at b3
  rw [mp] at b4
  rw [mo] at b5
  have := h.2.2.1 p
  exact u b b1 b2 b3 b4 (by omega)
/-- a message of the log is delivered -/
def DV (g j : Int) (N : Nd) (m : Int) (N1 : Nd) : Prop := ∃ Nx q, LKp g j N Nx ∧ own Nx g j q ∧ (m < (Nx 12000 19) ∧ canR Nx m ∧ Nx 13021 m = q ∧ Nx 13058 (9 * g + q) ≤ Nx 13026 m ∧ Nx 13059 (150 * g + m) ≠ 1) ∧ N1 = dlN (up (up Nx 13058 (9 * g + q) (Nx 13026 m + 1)) 13050 (12 * g + j) q) g j m 0 0
/-- no message of p that can be read from v up to o -/
def nob (N : Nd) (p v o : Int) : Prop := ∀ b, 0 ≤ b → b < (N 12000 19) → canR N b → N 13021 b = p → v ≤ N 13026 b → N 13026 b < o → False
/-- the log's next is found -/
def FND (n : Int) (C : Cd) (N : Nd) (A : Ad) (g p m : Int) (C' : Cd) (A' : Ad) : Prop := JJ n C N A ∧ (0 ≤ m ∧ m < (N 12000 19) ∧ canR N m ∧ N 13021 m = p) ∧ (0 ≤ N 13026 m ∧ N 13026 m < 60 ∧ N 13018 (60 * p + N 13026 m) = m ∧ N 13058 (9 * g + p) ≤ N 13026 m) ∧ nob N p (N 13058 (9 * g + p)) (N 13026 m) ∧ (N 13059 (150 * g + m) ≠ 1 ∧ ∀ x, 0 ≤ x → x < (N 12000 19) → N 13059 (150 * g + x) = 1 → ¬ (N 13021 x = N 13021 m ∧ N 13022 x = N 13022 m)) ∧ (GA C' (up N 13058 (9 * g + p) (N 13026 m + 1)) g ∧ NE C' (up N 13058 (9 * g + p) (N 13026 m + 1)) A' ∧ KG g C C') ∧ ((∀ x, Fdl C' g x = Fdl C g x) ∧ C' 1000 = C 1000 ∧ ∀ q, So C' g q = So C g q) ∧ (C' 17000 g m ≠ 0 ∧ C' 2000 (150 * g + m) 1 = 0 ∧ C' 2000 (150 * g + m) 3 = 0) ∧ ∀ x, 0 ≤ x → x < 150 → C' 2000 (150 * g + x) 1 = C 2000 (150 * g + x) 1
section LOOK1
variable {C : Cd} {N N0 : Nd} {A : Ad} {g j p o n : Int}
theorem look1 (jj : JJ n C N A) (g1 : 0 ≤ g) (g2 : g < (N 12000 41)) (j1 : 0 ≤ j) (j2 : j < 12) (hi : N 13047 (12 * g + j) = 1) (hw : own N g j p) (hb : N 13058 (9 * g + p) ≤ o) (rd : rdA N p o (so N p)) (no : nob N p (N 13058 (9 * g + p)) o) :
    (∃ C1 N1 A1, JJ n C1 N1 A1 ∧ LKp g j N N1 ∧ N1 13058 (9 * g + p) = o + 1 ∧ b_X0_nextOfLog_14 (so N p) (9000 + (9 * g + p)) (1000 + g) ((N 12000 1)) (o, mk C N0 A) = some (.inl (o + 1, mk C1 N0 A1)) ∧ ∀ C'' A'', b_X11_gLooksThrough_21 12000 p g j (-1, o, mk C'' N A'') = some (.inl (-1, nxo N1 p (o + 1), mk C'' N1 A''))) ∨
    (∃ C' A', N 13026 (N 13018 (60 * p + o)) = o ∧ FND n C N A g p (N 13018 (60 * p + o)) C' A' ∧ b_X0_nextOfLog_14 (so N p) (9000 + (9 * g + p)) (1000 + g) ((N 12000 1)) (o, mk C N0 A) = some (.inr (.inl (2000 + (150 * g + N 13018 (60 * p + o)), mk C' N0 A'))) ∧ ∀ C'' A'', ∃ x, b_X11_gLooksThrough_21 12000 p g j (-1, o, mk C'' N A'') = some (.inl (N 13018 (60 * p + o), x, mk C'' (up N 13058 (9 * g + p) (o + 1)) A''))) := by
  have G := jj.jn.g
  have s2 := G.s.2.1
  have s4 := G.s.2.2.2.1
  have s5 := G.s.2.2.2.2.1
  have s8 := G.s.2.2.2.2.2.2.2.1
  have g3 : g < 3 := by omega
  obtain ⟨hr, ho⟩ := hw
  have p1 := hr.1
  have p2 := hr.2.1
  obtain ⟨o1, o60, olt, ⟨m1, -⟩, -⟩ := id rd
  have m2 := (G.l p o p1 p2 o1 o60).2
  have lm := jj.jn.lm p o p1 p2 o1 o60 m1
  have rc := (rdA_can jj.jn p1 p2 o1 o60 m1).mp rd
  have hre := c_readableAt (N0 := N0) (A := A) (k := o) (st := so N p) G jj.c p1 p2
  rw [if_pos rd] at hre
  generalize hm : N 13018 (60 * p + o) = m at m1 m2 lm rc hre ⊢
  obtain ⟨lm1, lm2, -⟩ := lm
  have m150 : m < 150 := by omega
  have gr := jj.gr g1 g2
  have ga := gr.1
  have t0 := ((ga.sh p p1 (by omega)).2 hr).1
  have oneg : N 13055 (9 * g + N 13021 m) ≠ -1 := by rw [lm1]; omega
  have hl : N 13018 (60 * N 13021 m + N 13026 m) = m := by rw [lm1, lm2]; exact hm
  have no' : ∀ b, 0 ≤ b → b < (N 12000 19) → canR N b → N 13021 b = N 13021 m → N 13058 (9 * g + N 13021 m) ≤ N 13026 b → N 13026 b < N 13026 m → False := by
    rw [lm1, lm2]; exact no
  have lg := gr.2.lg m1 m2 rc (by rw [lm1]; exact hr) oneg (by rw [lm1, lm2]; exact hb) no'
  have aa : GA (uq C 9000 (9 * g + p) 4 (o + 1)) (up N 13058 (9 * g + p) (o + 1)) g := ga.ro g1 p1 (by omega) (by omega)
  have kc : KG g C (uq C 9000 (9 * g + p) 4 (o + 1)) := KG.rf.uq (by unfold inG; omega)
  have kn : MG g N (up N 13058 (9 * g + p) (o + 1)) := MG.rf.up (by unfold inN; omega)
  have jna := jj.jn.mg kn
  have cca := jj.c.mg kc kn
  have nea : NE (uq C 9000 (9 * g + p) 4 (o + 1)) (up N 13058 (9 * g + p) (o + 1)) A := jj.ne.grp kn rfl rfl rfl
  have rom : ∀ q, N 13058 (9 * g + q) ≤ (up N 13058 (9 * g + p) (o + 1)) 13058 (9 * g + q) := fun q => by
    rw [up_s]
    by_cases e : q = p
    · rw [if_pos ⟨rfl, by rw [e]⟩, e]
      omega
    · rw [if_neg (by omega)]
      exact Int.le_refl _
  have lka : LKp g j N (up N 13058 (9 * g + p) (o + 1)) := ⟨kn, fun a a1 _ _ _ => by funext i; rw [up_s, if_neg (fun q => a1 q.1)], rom, fun _ _ _ h => ⟨h, rfl⟩, fun _ _ _ h => Or.inl h⟩
  have roa : (up N 13058 (9 * g + p) (o + 1)) 13058 (9 * g + p) = o + 1 := by rw [up_s, if_pos ⟨rfl, rfl⟩]
  have ron : ∀ q, q ≠ p → (up N 13058 (9 * g + p) (o + 1)) 13058 (9 * g + q) = N 13058 (9 * g + q) := fun q h => by rw [up_s, if_neg (by omega)]
  obtain ⟨Cb, Ab, cl, ab, neb, kcb, fdb, unb, wb, eb⟩ := c_letter jna.g cca aa nea g1 g2 g3 m1 m2 (Or.inr (kn.can.mpr rc)) ((kn.gr g _).mpr (show gR N g (N 13021 m) by rw [lm1]; exact hr))
  have cl0 := cl N0
  have kb : KG g C Cb := kc.tr kcb
  have wbm : ∀ x, 0 ≤ x → x < 150 → Cb 2000 (150 * g + x) 1 = C 2000 (150 * g + x) 1 := fun x x1 x2 => by
    rw [wb x x1 x2, uq_s, if_neg (by omega)]
  have fbm : ∀ x, Fdl Cb g x = Fdl C g x := fun x => by
    rw [fdb x]
    show uq C 9000 (9 * g + p) 4 (o + 1) 2000 (150 * g + x) 6 = _
    rw [uq_s, if_neg (by omega)]
  have sbm : ∀ q, So Cb g q = So C g q := fun q => by
    show Cb 9000 (9 * g + q) 5 = _
    rw [eb 9000 (by decide) (by decide), uq_s, if_neg (by omega)]
  have b1k : Cb 1000 = C 1000 := by
    rw [eb 1000 (by decide) (by decide)]
    rfl
  obtain ⟨l1, l2, l3, l4, l5, l6, l7, l8, l9, l0⟩ := ab.le m m1 m150
  have hN1 : N 13059 (150 * g + m) = (up N 13058 (9 * g + p) (o + 1)) 13059 (150 * g + m) := rfl
  have hN2 : N 13062 (150 * g + m) = (up N 13058 (9 * g + p) (o + 1)) 13062 (150 * g + m) := rfl
  rw [← hN1] at l5 l6 l0
  rw [← hN2] at l5 l7
  have mp := fun C'' A'' => m_place (m := m) aa g1 g3 j1 j2 hi C'' A''
  have w01 : ∀ x, 0 ≤ x → x < 150 → (up N 13058 (9 * g + p) (o + 1)) 13059 (150 * g + x) = 0 ∨ (up N 13058 (9 * g + p) (o + 1)) 13059 (150 * g + x) = 1 := fun x x1 x2 => (ab.le x x1 x2).2.2.2.2.1.1
  have gn := fun C'' A'' => @m_gNextOffset (up N 13058 (9 * g + p) (o + 1)) p (o + 1) C'' A'' jna p1 p2 (by omega) (by omega)
  have hpw : hpl (up N 13058 (9 * g + p) (o + 1)) g j m < hn (up N 13058 (9 * g + p) (o + 1)) g j ↔ Cb 2000 (150 * g + m) 1 = 2 := by
    have h9 := ab.h9 j1 j2 hi
    constructor
    · intro q
      have hb' := @hpl_b (up N 13058 (9 * g + p) (o + 1)) g j m h9.1
      have y := ((ab.ha j j1 j2 hi).2 _ hb'.1 q).1.2.2.1
      rw [hpl_y h9.1 q] at y
      exact y
    · intro q
      obtain ⟨q1, k, k1, k2, k3⟩ := l8 q
      have oe : (up N 13058 (9 * g + p) (o + 1)) 13055 (9 * g + (up N 13058 (9 * g + p) (o + 1)) 13021 m) = j := by
        show N 13055 (9 * g + N 13021 m) = j
        rw [lm1]; exact ho
      rw [oe] at k2 k3
      rw [← (hpl_iff ab j1 j2 hi k1 k2).mp k3]
      exact k2
  by_cases w0 : Cb 2000 (150 * g + m) 1 = 0
  · have ac : GA (uq Cb 2000 (150 * g + m) 3 0) (up N 13058 (9 * g + p) (o + 1)) g := ab.at0 g1 m1 m150 w0
    have kcc : KG g C (uq Cb 2000 (150 * g + m) 3 0) := kb.uq (by unfold inG; omega)
    have ccc := jj.c.mg kcc kn
    have wz : N 13059 (150 * g + m) = 0 := l5.1.resolve_right (fun q => by have := l6.mpr q; omega)
    have dz : N 13062 (150 * g + m) = 0 := l5.2.resolve_right (fun q => by have := l7.mpr q; omega)
    have nh : ¬ hpl (up N 13058 (9 * g + p) (o + 1)) g j m < hn (up N 13058 (9 * g + p) (o + 1)) g j := fun q => by have := hpw.mp q; omega
    simp only [if_neg nh] at mp
    have o3 := ac.o.2.2.2.1
    obtain ⟨n', f, wl⟩ := ac.wa
    have ll := wl.ll ac.le
    obtain ⟨r, r1, r2, r3⟩ := c_noneOfRow (N0 := N0) (A := Ab) (m := m) (o := 60) (LPl.w g1 g3) wl.1 wl.2.1.1 wl.2.1.2 jna.g ccc g1 g3 ll m1 m2
    have rR : r = 1 ↔ ∀ x, 0 ≤ x → x < (N 12000 19) → N 13059 (150 * g + x) = 1 → ¬ (N 13021 x = N 13021 m ∧ N 13022 x = N 13022 m) := by
      rw [r3]
      constructor
      · intro q x x1 x2 x3 x4
        obtain ⟨i, i1, i2, i3⟩ := wl.2.2.2.2 x x1 (by omega) x3
        have y := q i i1 i2 (by rw [i3]; exact x4.1) (by rw [i3]; exact x4.2)
        rw [i3] at y
        have z := (G.m x x1 x2).2.2.2.2.2.1
        have y' : 60 ≤ N 13026 x := y
        omega
      · intro q k k1 k2 k3 k4
        have z := wl.2.2.1 k k1 k2
        exact absurd ⟨k3, k4⟩ (q (f k) z.1 (ll k k1 k2).2.1 z.2.2)
    have w0c : uq Cb 2000 (150 * g + m) 3 0 2000 (150 * g + m) 1 = 0 := by rw [uq_s, if_neg (by omega)]; exact w0
    have htc : uq Cb 2000 (150 * g + m) 3 0 2000 (150 * g + m) 3 = 0 := by rw [uq_s, if_pos ⟨rfl, rfl, rfl⟩]
    have unc : uq Cb 2000 (150 * g + m) 3 0 17000 g m ≠ 0 := by rw [uq_s, if_neg (by omega)]; exact unb
    by_cases R : ∀ x, 0 ≤ x → x < (N 12000 19) → N 13059 (150 * g + x) = 1 → ¬ (N 13021 x = N 13021 m ∧ N 13022 x = N 13022 m)
    · right
      have e1 := rR.mpr R
      rw [e1] at r1
      refine ⟨uq Cb 2000 (150 * g + m) 3 0, Ab, lm2, ⟨jj, ⟨m1, m2, rc, lm1⟩, ⟨by omega, by omega, by rw [lm2]; exact hm, by omega⟩, by rw [lm2]; exact no, ⟨by omega, R⟩, ⟨by rw [lm2]; exact ac, by rw [lm2]; exact neb.grp (g := g) MG.rf rfl rfl rfl, kcc⟩, ⟨fun x => ?_, ?_, fun q => ?_⟩, ⟨unc, w0c, htc⟩, fun x x1 x2 => ?_⟩, ?_, fun C'' A'' => ?_⟩
      · rw [← fbm x]
        show uq Cb 2000 (150 * g + m) 3 0 2000 (150 * g + x) 6 = _
        rw [uq_s, if_neg (by omega)]
      · rw [← b1k]
        rfl
      · rw [← sbm q]
        show uq Cb 2000 (150 * g + m) 3 0 9000 (9 * g + q) 5 = _
        rw [uq_s, if_neg (by omega)]
      · rw [← wbm x x1 x2, uq_s, if_neg (by omega)]
      · unfold b_X0_nextOfLog_14
        simp (disch := omega) only [aok, up_s, true_and, false_and, and_true, and_false, if_true, if_false, ↓reduceIte, ↓Option.bind_some, Int.reduceEq, Int.reduceNe, Int.reduceLT, Int.reduceLE, gd_true, gd_false, bind_b, q10, eq_self, reduceCtorEq, not_true_eq_false, not_false_eq_true, ne_eq, cr_11000, cr_15000, cr_16000, cr_20000, cr_20001, cr_21000, cr_22000, cr_25000, cr_1000, cr_2000, cr_3000, cr_3003, cr_3006, cr_4000, cr_5000, cr_6000, cr_7000, cr_8000, cr_9000, cr_10000, cr_13500, cr_17000, cr_17100, cr_17103, cr_17106, cr_19000, cr_20100, cr_21100, cr_23000, cr_24000, cw_11000, cw_15000, cw_16000, cw_20000, cw_20001, cw_21000, cw_22000, cw_25000, cw_1000, cw_2000, cw_3000, cw_3003, cw_3006, cw_4000, cw_5000, cw_6000, cw_7000, cw_8000, cw_9000, cw_10000, cw_13500, cw_17000, cw_17100, cw_17103, cw_17106, cw_19000, cw_20100, cw_21100, cw_23000, cw_24000, lc_13500, lc_15000, lc_16000, lc_17000, lc_17100, lc_17103, lc_17106, lc_19000, lc_20000, lc_20001, lc_20100, lc_21000, lc_21100, lc_22000, lc_23000, lc_24000, lc_25000, gd_t, w_eq, olt, t0, hre, cl0, w0, o3, r1, if_neg]
      · obtain ⟨r', f1, f2⟩ := m_gFirstOfRow (m := m) jna.g w01 g1 g3 m1 m2 C'' A''
        have e2 : r' = -1 := by
          rcases f2 with f2 | f2
          · exact f2.1
          · exact absurd f2.1.2.2.2 (R r' f2.1.1 f2.1.2.1 f2.1.2.2.1)
        rw [e2] at f1
        refine ⟨nxo (up N 13058 (9 * g + p) (o + 1)) p (o + 1), ?_⟩
        unfold b_X11_gLooksThrough_21
        simp (disch := omega) only [aok, up_s, true_and, false_and, and_true, and_false, if_true, if_false, ↓reduceIte, ↓Option.bind_some, Int.reduceEq, Int.reduceNe, Int.reduceLT, Int.reduceLE, gd_true, gd_false, bind_b, q10, eq_self, reduceCtorEq, not_true_eq_false, not_false_eq_true, ne_eq, pt_0, pt_1, pt_2, pt_3, pt_4, pt_5, pt_6, pt_7, pt_8, pt_9, pt_10, pt_11, pt_12, pt_13, pt_14, pt_15, pt_16, pt_17, pt_18, pt_19, pt_20, pt_21, pt_22, pt_23, pt_24, pt_25, pt_26, pt_27, pt_28, pt_29, pt_30, pt_31, pt_32, pt_33, pt_34, pt_35, pt_36, pt_37, pt_38, pt_39, pt_40, pt_41, pt_42, pt_43, pt_44, pt_45, pt_46, pt_47, pt_48, pt_49, pt_50, pt_51, pt_52, pt_53, pt_54, pt_55, pt_56, pt_57, pt_58, pt_59, pt_60, pt_61, pt_62, pt_63, pt_64, pt_65, pt_66, pt_67, pa_13005, pw_13005, pa_13006, pw_13006, pa_13007, pw_13007, pa_14008, pw_14008, pa_13009, pw_13009, pa_13010, pw_13010, pa_13012, pw_13012, pa_13013, pw_13013, pa_13014, pw_13014, pa_13015, pw_13015, pa_13016, pw_13016, pa_13017, pw_13017, pa_13018, pw_13018, pa_13020, pw_13020, pa_13021, pw_13021, pa_13022, pw_13022, pa_13023, pw_13023, pa_13024, pw_13024, pa_13025, pw_13025, pa_13026, pw_13026, pa_13027, pw_13027, pa_13028, pw_13028, pa_13029, pw_13029, pa_13031, pw_13031, pa_13032, pw_13032, pa_13033, pw_13033, pa_14034, pw_14034, pa_13035, pw_13035, pa_13036, pw_13036, pa_13037, pw_13037, pa_13038, pw_13038, pa_13039, pw_13039, pa_13042, pw_13042, pa_13043, pw_13043, pa_13044, pw_13044, pa_13045, pw_13045, pa_13046, pw_13046, pa_13047, pw_13047, pa_13048, pw_13048, pa_13049, pw_13049, pa_13050, pw_13050, pa_13051, pw_13051, pa_13052, pw_13052, pa_13053, pw_13053, pa_13054, pw_13054, pa_13055, pw_13055, pa_13056, pw_13056, pa_13057, pw_13057, pa_13058, pw_13058, pa_13059, pw_13059, pa_13060, pw_13060, pa_13061, pw_13061, pa_13062, pw_13062, pa_13063, pw_13063, pa_13064, pw_13064, pa_13065, pw_13065, pa_13066, pw_13066, pa_13067, pw_13067, ps_0, ps_1, ps_2, ps_3, ps_4, ps_11, ps_19, ps_30, ps_40, ps_41, ln_13005, ln_13006, ln_13007, ln_14008, ln_13009, ln_13010, ln_13012, ln_13013, ln_13014, ln_13015, ln_13016, ln_13017, ln_13018, ln_13020, ln_13021, ln_13022, ln_13023, ln_13024, ln_13025, ln_13026, ln_13027, ln_13028, ln_13029, ln_13031, ln_13032, ln_13033, ln_14034, ln_13035, ln_13036, ln_13037, ln_13038, ln_13039, ln_13042, ln_13043, ln_13044, ln_13045, ln_13046, ln_13047, ln_13048, ln_13049, ln_13050, ln_13051, ln_13052, ln_13053, ln_13054, ln_13055, ln_13056, ln_13057, ln_13058, ln_13059, ln_13060, ln_13061, ln_13062, ln_13063, ln_13064, ln_13065, ln_13066, ln_13067, gd_t, w_eq, hm, wz, dz, mp, f1, gn, if_neg]
    · left
      have e0 : r = 0 := r2.resolve_right (fun q => R (rR.mp q))
      rw [e0] at r1
      obtain ⟨M, pr, C1, hM, a1, lk⟩ := c_putInRow (N0 := N0) (A := Ab) (t := 0) (d := (N 12000 1)) (D := uq Cb 2000 (150 * g + m) 3 0) jna.g ccc ac g1 g3 m1 m150 unc w0c htc (by omega) (by omega) (by omega) (fun _ _ => rfl)
      have e9 : ∀ b i z, ¬ (b = 17100 ∧ i = g) → ¬ (b = 3000 ∧ i = g ∧ z = 1) → ¬ (b = 2000 ∧ i = 150 * g + m ∧ (z = 1 ∨ z = 2 ∨ z = 3)) → C1 b i z = Cb b i z := fun b i z z1 z2 z3 => by
        rw [lk b i z z1 z2]
        unfold rwC
        rw [uq_s, if_neg (by omega), uq_s, if_neg (by omega), uq_s, if_neg (by omega)]
      rw [ovr_eq (by
        funext i z
        rw [e9 _ _ _ (by omega) (by omega) (by omega), uq_s, if_neg (by omega)])] at hM
      rw [hM] at pr
      have kn1 : MG g N (irN (up N 13058 (9 * g + p) (o + 1)) g m ((N 12000 1)) 0) := kn.tr (MG.ir m1 m150)
      have ia : ∀ b, b ≠ 13059 → b ≠ 13060 → b ≠ 13061 → irN (up N 13058 (9 * g + p) (o + 1)) g m ((N 12000 1)) 0 b = (up N 13058 (9 * g + p) (o + 1)) b := fun b b1 b2 b3 => ir_ar b1 b2 b3
      have k1 : KG g C C1 := fun b i z h => by
        rw [e9 b i z (by unfold inG at h; omega) (by unfold inG at h; omega) (by unfold inG at h; omega)]
        exact kb b i z h
      have f1m : ∀ x, Fdl C1 g x = Fdl C g x := fun x => (e9 _ _ _ (by omega) (by omega) (by omega)).trans (fbm x)
      have s1m : ∀ q, So C1 g q = So C g q := fun q => (e9 _ _ _ (by omega) (by omega) (by omega)).trans (sbm q)
      have c19 : C1 1000 g 9 = C 1000 g 9 := by rw [e9 _ _ _ (by omega) (by omega) (by omega), b1k]
      have iw : irN (up N 13058 (9 * g + p) (o + 1)) g m ((N 12000 1)) 0 13059 (150 * g + m) = 1 := by rw [ir_w, if_pos rfl]
      have rr : RD C C1 N (irN (up N 13058 (9 * g + p) (o + 1)) g m ((N 12000 1)) 0) g m := ⟨⟨k1, kn1⟩, fun x x1 x2 x3 => ⟨f1m x, by rw [ir_w, if_neg (by omega)]; rfl⟩, Or.inl ⟨f1m m, c19⟩, Or.inr iw, s1m, ⟨by rw [ia _ (by decide) (by decide) (by decide)]; rfl, by rw [ia _ (by decide) (by decide) (by decide)]; rfl, by rw [ia _ (by decide) (by decide) (by decide)]; rfl, by rw [ia _ (by decide) (by decide) (by decide)]; rfl⟩, fun q q1 q2 q3 => by rw [ia _ (by decide) (by decide) (by decide)]; exact ron q (by rw [lm1] at q3; exact q3)⟩
      have gi := GIn.rd jj.jn gr.2 rr m1 m2 hl lg.1 (Or.inr ⟨by rw [lm1, lm2, ia _ (by decide) (by decide) (by decide)]; exact roa, rc, no'⟩) (Or.inr lg.2.1) (fun z z2 => by rw [f1m] at z2; omega) (fun z a a1 a2 a3 a4 a5 a6 => lg.2.2 (fun q => by rcases q with q | q <;> omega) a a1 a2 a4 a5) (fun x x1 x2 h => by
        rw [f1m]
        by_cases e : x = m
        · have y := (a1.le m m1 m150).2.2.2.2.2.1.mpr iw
          rw [e] at h
          omega
        · rw [e9 _ _ _ (by omega) (by omega) (by omega), wbm x x1 x2] at h
          exact gr.2.w6 x1 x2 h)
      have ne1 : NE C1 (irN (up N 13058 (9 * g + p) (o + 1)) g m ((N 12000 1)) 0) Ab := neb.grp (MG.ir m1 m150) (ia _ (by decide) (by decide) (by decide)) (by funext i z; exact e9 _ _ _ (by omega) (by omega) (by omega)) rfl
      have j1' : JJ n C1 (irN (up N 13058 (9 * g + p) (o + 1)) g m ((N 12000 1)) 0) Ab := jj.grp g1 g2 k1 kn1 ⟨a1, gi⟩ (rr.pk G) ne1 (ia _ (by decide) (by decide) (by decide)) (Int.le_refl n) (by rw [c19]; exact jj.b.2.2.2 g g1 g2) (jj.fs0 g1 g2 (Int.le_refl n) (fun x _ _ => f1m x) (ia _ (by decide) (by decide) (by decide)))
      have lki : LKp g j N (irN (up N 13058 (9 * g + p) (o + 1)) g m ((N 12000 1)) 0) := by
        refine ⟨kn1, fun a a1 a2 a3 a4 => (ia a a2 a3 a4).trans (by funext i; rw [up_s, if_neg (fun q => a1 q.1)]), fun q => ?_, fun x x1 x2 hx => ?_, fun x x1 x2 hx => ?_⟩
        · rw [ia 13058 (by decide) (by decide) (by decide)]
          exact rom q
        · have ne : x ≠ m := fun e => by rw [e] at hx; omega
          rw [ir_w, ir_d, if_neg (by omega), if_neg (by omega)]
          exact ⟨hx, rfl⟩
        · rw [ir_w] at hx
          by_cases e : x = m
          · right
            rw [e, ir_d, if_pos rfl, lm1, lm2, ia 13058 (by decide) (by decide) (by decide), roa]
            refine ⟨⟨m2, rc, ⟨hr, ho⟩, hb, by omega⟩, rfl, ?_⟩
            by_cases y : ∃ x, 0 ≤ x ∧ x < (N 12000 19) ∧ N 13059 (150 * g + x) = 1 ∧ N 13021 x = p
            · exact y
            · exact absurd (fun x x1 x2 x3 x4 => y ⟨x, x1, x2, x3, x4.1.trans lm1⟩) R
          · rw [if_neg (by omega)] at hx
            exact Or.inl hx
      refine ⟨C1, _, Ab, j1', lki, by rw [ia _ (by decide) (by decide) (by decide)]; exact roa, ?_, fun C'' A'' => ?_⟩
      · unfold b_X0_nextOfLog_14
        simp (disch := omega) only [aok, up_s, true_and, false_and, and_true, and_false, if_true, if_false, ↓reduceIte, ↓Option.bind_some, Int.reduceEq, Int.reduceNe, Int.reduceLT, Int.reduceLE, gd_true, gd_false, bind_b, q10, eq_self, reduceCtorEq, not_true_eq_false, not_false_eq_true, ne_eq, cr_11000, cr_15000, cr_16000, cr_20000, cr_20001, cr_21000, cr_22000, cr_25000, cr_1000, cr_2000, cr_3000, cr_3003, cr_3006, cr_4000, cr_5000, cr_6000, cr_7000, cr_8000, cr_9000, cr_10000, cr_13500, cr_17000, cr_17100, cr_17103, cr_17106, cr_19000, cr_20100, cr_21100, cr_23000, cr_24000, cw_11000, cw_15000, cw_16000, cw_20000, cw_20001, cw_21000, cw_22000, cw_25000, cw_1000, cw_2000, cw_3000, cw_3003, cw_3006, cw_4000, cw_5000, cw_6000, cw_7000, cw_8000, cw_9000, cw_10000, cw_13500, cw_17000, cw_17100, cw_17103, cw_17106, cw_19000, cw_20100, cw_21100, cw_23000, cw_24000, lc_13500, lc_15000, lc_16000, lc_17000, lc_17100, lc_17103, lc_17106, lc_19000, lc_20000, lc_20001, lc_20100, lc_21000, lc_21100, lc_22000, lc_23000, lc_24000, lc_25000, gd_t, w_eq, olt, t0, hre, cl0, w0, o3, r1, pr, if_neg]
      · obtain ⟨r', f1, f2⟩ := m_gFirstOfRow (m := m) jna.g w01 g1 g3 m1 m2 C'' A''
        have e2 : ¬ r' = -1 := by
          rcases f2 with f2 | f2
          · exact fun _ => R f2.2
          · have := f2.1.1; omega
        have mi := @m_intoRow C'' (up N 13058 (9 * g + p) (o + 1)) A'' g m ((N 12000 1)) 0 g1 g3 m1 m150
        have gn1 := @m_gNextOffset (irN (up N 13058 (9 * g + p) (o + 1)) g m ((N 12000 1)) 0) p (o + 1) C'' A'' j1'.jn p1 p2 (by omega) (by omega)
        unfold b_X11_gLooksThrough_21
        simp (disch := omega) only [aok, up_s, true_and, false_and, and_true, and_false, if_true, if_false, ↓reduceIte, ↓Option.bind_some, Int.reduceEq, Int.reduceNe, Int.reduceLT, Int.reduceLE, gd_true, gd_false, bind_b, q10, eq_self, reduceCtorEq, not_true_eq_false, not_false_eq_true, ne_eq, pt_0, pt_1, pt_2, pt_3, pt_4, pt_5, pt_6, pt_7, pt_8, pt_9, pt_10, pt_11, pt_12, pt_13, pt_14, pt_15, pt_16, pt_17, pt_18, pt_19, pt_20, pt_21, pt_22, pt_23, pt_24, pt_25, pt_26, pt_27, pt_28, pt_29, pt_30, pt_31, pt_32, pt_33, pt_34, pt_35, pt_36, pt_37, pt_38, pt_39, pt_40, pt_41, pt_42, pt_43, pt_44, pt_45, pt_46, pt_47, pt_48, pt_49, pt_50, pt_51, pt_52, pt_53, pt_54, pt_55, pt_56, pt_57, pt_58, pt_59, pt_60, pt_61, pt_62, pt_63, pt_64, pt_65, pt_66, pt_67, pa_13005, pw_13005, pa_13006, pw_13006, pa_13007, pw_13007, pa_14008, pw_14008, pa_13009, pw_13009, pa_13010, pw_13010, pa_13012, pw_13012, pa_13013, pw_13013, pa_13014, pw_13014, pa_13015, pw_13015, pa_13016, pw_13016, pa_13017, pw_13017, pa_13018, pw_13018, pa_13020, pw_13020, pa_13021, pw_13021, pa_13022, pw_13022, pa_13023, pw_13023, pa_13024, pw_13024, pa_13025, pw_13025, pa_13026, pw_13026, pa_13027, pw_13027, pa_13028, pw_13028, pa_13029, pw_13029, pa_13031, pw_13031, pa_13032, pw_13032, pa_13033, pw_13033, pa_14034, pw_14034, pa_13035, pw_13035, pa_13036, pw_13036, pa_13037, pw_13037, pa_13038, pw_13038, pa_13039, pw_13039, pa_13042, pw_13042, pa_13043, pw_13043, pa_13044, pw_13044, pa_13045, pw_13045, pa_13046, pw_13046, pa_13047, pw_13047, pa_13048, pw_13048, pa_13049, pw_13049, pa_13050, pw_13050, pa_13051, pw_13051, pa_13052, pw_13052, pa_13053, pw_13053, pa_13054, pw_13054, pa_13055, pw_13055, pa_13056, pw_13056, pa_13057, pw_13057, pa_13058, pw_13058, pa_13059, pw_13059, pa_13060, pw_13060, pa_13061, pw_13061, pa_13062, pw_13062, pa_13063, pw_13063, pa_13064, pw_13064, pa_13065, pw_13065, pa_13066, pw_13066, pa_13067, pw_13067, ps_0, ps_1, ps_2, ps_3, ps_4, ps_11, ps_19, ps_30, ps_40, ps_41, ln_13005, ln_13006, ln_13007, ln_14008, ln_13009, ln_13010, ln_13012, ln_13013, ln_13014, ln_13015, ln_13016, ln_13017, ln_13018, ln_13020, ln_13021, ln_13022, ln_13023, ln_13024, ln_13025, ln_13026, ln_13027, ln_13028, ln_13029, ln_13031, ln_13032, ln_13033, ln_14034, ln_13035, ln_13036, ln_13037, ln_13038, ln_13039, ln_13042, ln_13043, ln_13044, ln_13045, ln_13046, ln_13047, ln_13048, ln_13049, ln_13050, ln_13051, ln_13052, ln_13053, ln_13054, ln_13055, ln_13056, ln_13057, ln_13058, ln_13059, ln_13060, ln_13061, ln_13062, ln_13063, ln_13064, ln_13065, ln_13066, ln_13067, gd_t, w_eq, hm, wz, dz, mp, f1, e2, mi, gn1, if_neg]
  · left
    have pd : Pd C N g m := by
      by_cases q : Cb 2000 (150 * g + m) 1 = 1
      · exact Or.inr (l6.mp q)
      · exact Or.inl (gr.2.w6 m1 m150 (by rw [← wbm m m1 m150]; omega))
    have rr : RD C Cb N (up N 13058 (9 * g + p) (o + 1)) g m := ⟨⟨kb, kn⟩, fun x x1 x2 x3 => ⟨fbm x, rfl⟩, Or.inl ⟨fbm m, by rw [b1k]⟩, by unfold Pd; rw [fbm]; exact pd, sbm, ⟨rfl, rfl, rfl, rfl⟩, fun q q1 q2 q3 => ron q (by rw [lm1] at q3; exact q3)⟩
    have gi := GIn.rd jj.jn gr.2 rr m1 m2 hl lg.1 (Or.inr ⟨by rw [lm1, lm2]; exact roa, rc, no'⟩) (Or.inl pd) (fun z z2 => by rw [fbm] at z2; omega) (fun z a a1 a2 a3 a4 a5 a6 => gr.2.2.2.1 a m a1 a2 m1 m2 (pd.resolve_left (by omega)) z a4 a5 a6) (fun x x1 x2 h => by
        rw [fbm]
        rw [wbm x x1 x2] at h
        exact gr.2.w6 x1 x2 h)
    have j1' : JJ n Cb (up N 13058 (9 * g + p) (o + 1)) Ab := jj.grp g1 g2 kb kn ⟨ab, gi⟩ (rr.pk G) neb rfl (Int.le_refl n) (by rw [b1k]; exact jj.b.2.2.2 g g1 g2) (jj.fs0 g1 g2 (Int.le_refl n) (fun x _ _ => fbm x) rfl)
    refine ⟨Cb, _, Ab, j1', lka, roa, ?_, fun C'' A'' => ?_⟩
    · unfold b_X0_nextOfLog_14
      simp (disch := omega) only [aok, up_s, true_and, false_and, and_true, and_false, if_true, if_false, ↓reduceIte, ↓Option.bind_some, Int.reduceEq, Int.reduceNe, Int.reduceLT, Int.reduceLE, gd_true, gd_false, bind_b, q10, eq_self, reduceCtorEq, not_true_eq_false, not_false_eq_true, ne_eq, cr_11000, cr_15000, cr_16000, cr_20000, cr_20001, cr_21000, cr_22000, cr_25000, cr_1000, cr_2000, cr_3000, cr_3003, cr_3006, cr_4000, cr_5000, cr_6000, cr_7000, cr_8000, cr_9000, cr_10000, cr_13500, cr_17000, cr_17100, cr_17103, cr_17106, cr_19000, cr_20100, cr_21100, cr_23000, cr_24000, cw_11000, cw_15000, cw_16000, cw_20000, cw_20001, cw_21000, cw_22000, cw_25000, cw_1000, cw_2000, cw_3000, cw_3003, cw_3006, cw_4000, cw_5000, cw_6000, cw_7000, cw_8000, cw_9000, cw_10000, cw_13500, cw_17000, cw_17100, cw_17103, cw_17106, cw_19000, cw_20100, cw_21100, cw_23000, cw_24000, lc_13500, lc_15000, lc_16000, lc_17000, lc_17100, lc_17103, lc_17106, lc_19000, lc_20000, lc_20001, lc_20100, lc_21000, lc_21100, lc_22000, lc_23000, lc_24000, lc_25000, gd_t, w_eq, olt, t0, hre, cl0, w0, if_neg]
    · unfold b_X11_gLooksThrough_21
      by_cases q1 : Cb 2000 (150 * g + m) 1 = 1
      · have q := l6.mp q1
        simp (disch := omega) only [aok, up_s, true_and, false_and, and_true, and_false, if_true, if_false, ↓reduceIte, ↓Option.bind_some, Int.reduceEq, Int.reduceNe, Int.reduceLT, Int.reduceLE, gd_true, gd_false, bind_b, q10, eq_self, reduceCtorEq, not_true_eq_false, not_false_eq_true, ne_eq, pt_0, pt_1, pt_2, pt_3, pt_4, pt_5, pt_6, pt_7, pt_8, pt_9, pt_10, pt_11, pt_12, pt_13, pt_14, pt_15, pt_16, pt_17, pt_18, pt_19, pt_20, pt_21, pt_22, pt_23, pt_24, pt_25, pt_26, pt_27, pt_28, pt_29, pt_30, pt_31, pt_32, pt_33, pt_34, pt_35, pt_36, pt_37, pt_38, pt_39, pt_40, pt_41, pt_42, pt_43, pt_44, pt_45, pt_46, pt_47, pt_48, pt_49, pt_50, pt_51, pt_52, pt_53, pt_54, pt_55, pt_56, pt_57, pt_58, pt_59, pt_60, pt_61, pt_62, pt_63, pt_64, pt_65, pt_66, pt_67, pa_13005, pw_13005, pa_13006, pw_13006, pa_13007, pw_13007, pa_14008, pw_14008, pa_13009, pw_13009, pa_13010, pw_13010, pa_13012, pw_13012, pa_13013, pw_13013, pa_13014, pw_13014, pa_13015, pw_13015, pa_13016, pw_13016, pa_13017, pw_13017, pa_13018, pw_13018, pa_13020, pw_13020, pa_13021, pw_13021, pa_13022, pw_13022, pa_13023, pw_13023, pa_13024, pw_13024, pa_13025, pw_13025, pa_13026, pw_13026, pa_13027, pw_13027, pa_13028, pw_13028, pa_13029, pw_13029, pa_13031, pw_13031, pa_13032, pw_13032, pa_13033, pw_13033, pa_14034, pw_14034, pa_13035, pw_13035, pa_13036, pw_13036, pa_13037, pw_13037, pa_13038, pw_13038, pa_13039, pw_13039, pa_13042, pw_13042, pa_13043, pw_13043, pa_13044, pw_13044, pa_13045, pw_13045, pa_13046, pw_13046, pa_13047, pw_13047, pa_13048, pw_13048, pa_13049, pw_13049, pa_13050, pw_13050, pa_13051, pw_13051, pa_13052, pw_13052, pa_13053, pw_13053, pa_13054, pw_13054, pa_13055, pw_13055, pa_13056, pw_13056, pa_13057, pw_13057, pa_13058, pw_13058, pa_13059, pw_13059, pa_13060, pw_13060, pa_13061, pw_13061, pa_13062, pw_13062, pa_13063, pw_13063, pa_13064, pw_13064, pa_13065, pw_13065, pa_13066, pw_13066, pa_13067, pw_13067, ps_0, ps_1, ps_2, ps_3, ps_4, ps_11, ps_19, ps_30, ps_40, ps_41, ln_13005, ln_13006, ln_13007, ln_14008, ln_13009, ln_13010, ln_13012, ln_13013, ln_13014, ln_13015, ln_13016, ln_13017, ln_13018, ln_13020, ln_13021, ln_13022, ln_13023, ln_13024, ln_13025, ln_13026, ln_13027, ln_13028, ln_13029, ln_13031, ln_13032, ln_13033, ln_14034, ln_13035, ln_13036, ln_13037, ln_13038, ln_13039, ln_13042, ln_13043, ln_13044, ln_13045, ln_13046, ln_13047, ln_13048, ln_13049, ln_13050, ln_13051, ln_13052, ln_13053, ln_13054, ln_13055, ln_13056, ln_13057, ln_13058, ln_13059, ln_13060, ln_13061, ln_13062, ln_13063, ln_13064, ln_13065, ln_13066, ln_13067, gd_t, w_eq, hm, q, gn, if_neg]
      · have wz : N 13059 (150 * g + m) = 0 := l5.1.resolve_right (fun q => q1 (l6.mpr q))
        by_cases q2 : Cb 2000 (150 * g + m) 1 = 2
        · have q := hpw.mpr q2
          have hb' := @hpl_b (up N 13058 (9 * g + p) (o + 1)) g j m (ab.h9 j1 j2 hi).1
          simp only [if_pos q] at mp
          have q3 : ¬ hpl (up N 13058 (9 * g + p) (o + 1)) g j m = -1 := by omega
          simp (disch := omega) only [aok, up_s, true_and, false_and, and_true, and_false, if_true, if_false, ↓reduceIte, ↓Option.bind_some, Int.reduceEq, Int.reduceNe, Int.reduceLT, Int.reduceLE, gd_true, gd_false, bind_b, q10, eq_self, reduceCtorEq, not_true_eq_false, not_false_eq_true, ne_eq, pt_0, pt_1, pt_2, pt_3, pt_4, pt_5, pt_6, pt_7, pt_8, pt_9, pt_10, pt_11, pt_12, pt_13, pt_14, pt_15, pt_16, pt_17, pt_18, pt_19, pt_20, pt_21, pt_22, pt_23, pt_24, pt_25, pt_26, pt_27, pt_28, pt_29, pt_30, pt_31, pt_32, pt_33, pt_34, pt_35, pt_36, pt_37, pt_38, pt_39, pt_40, pt_41, pt_42, pt_43, pt_44, pt_45, pt_46, pt_47, pt_48, pt_49, pt_50, pt_51, pt_52, pt_53, pt_54, pt_55, pt_56, pt_57, pt_58, pt_59, pt_60, pt_61, pt_62, pt_63, pt_64, pt_65, pt_66, pt_67, pa_13005, pw_13005, pa_13006, pw_13006, pa_13007, pw_13007, pa_14008, pw_14008, pa_13009, pw_13009, pa_13010, pw_13010, pa_13012, pw_13012, pa_13013, pw_13013, pa_13014, pw_13014, pa_13015, pw_13015, pa_13016, pw_13016, pa_13017, pw_13017, pa_13018, pw_13018, pa_13020, pw_13020, pa_13021, pw_13021, pa_13022, pw_13022, pa_13023, pw_13023, pa_13024, pw_13024, pa_13025, pw_13025, pa_13026, pw_13026, pa_13027, pw_13027, pa_13028, pw_13028, pa_13029, pw_13029, pa_13031, pw_13031, pa_13032, pw_13032, pa_13033, pw_13033, pa_14034, pw_14034, pa_13035, pw_13035, pa_13036, pw_13036, pa_13037, pw_13037, pa_13038, pw_13038, pa_13039, pw_13039, pa_13042, pw_13042, pa_13043, pw_13043, pa_13044, pw_13044, pa_13045, pw_13045, pa_13046, pw_13046, pa_13047, pw_13047, pa_13048, pw_13048, pa_13049, pw_13049, pa_13050, pw_13050, pa_13051, pw_13051, pa_13052, pw_13052, pa_13053, pw_13053, pa_13054, pw_13054, pa_13055, pw_13055, pa_13056, pw_13056, pa_13057, pw_13057, pa_13058, pw_13058, pa_13059, pw_13059, pa_13060, pw_13060, pa_13061, pw_13061, pa_13062, pw_13062, pa_13063, pw_13063, pa_13064, pw_13064, pa_13065, pw_13065, pa_13066, pw_13066, pa_13067, pw_13067, ps_0, ps_1, ps_2, ps_3, ps_4, ps_11, ps_19, ps_30, ps_40, ps_41, ln_13005, ln_13006, ln_13007, ln_14008, ln_13009, ln_13010, ln_13012, ln_13013, ln_13014, ln_13015, ln_13016, ln_13017, ln_13018, ln_13020, ln_13021, ln_13022, ln_13023, ln_13024, ln_13025, ln_13026, ln_13027, ln_13028, ln_13029, ln_13031, ln_13032, ln_13033, ln_14034, ln_13035, ln_13036, ln_13037, ln_13038, ln_13039, ln_13042, ln_13043, ln_13044, ln_13045, ln_13046, ln_13047, ln_13048, ln_13049, ln_13050, ln_13051, ln_13052, ln_13053, ln_13054, ln_13055, ln_13056, ln_13057, ln_13058, ln_13059, ln_13060, ln_13061, ln_13062, ln_13063, ln_13064, ln_13065, ln_13066, ln_13067, gd_t, w_eq, hm, wz, mp, q3, gn, if_neg]
        · have nh : ¬ hpl (up N 13058 (9 * g + p) (o + 1)) g j m < hn (up N 13058 (9 * g + p) (o + 1)) g j := fun q => q2 (hpw.mp q)
          simp only [if_neg nh] at mp
          have q := l7.mp (by omega)
          simp (disch := omega) only [aok, up_s, true_and, false_and, and_true, and_false, if_true, if_false, ↓reduceIte, ↓Option.bind_some, Int.reduceEq, Int.reduceNe, Int.reduceLT, Int.reduceLE, gd_true, gd_false, bind_b, q10, eq_self, reduceCtorEq, not_true_eq_false, not_false_eq_true, ne_eq, pt_0, pt_1, pt_2, pt_3, pt_4, pt_5, pt_6, pt_7, pt_8, pt_9, pt_10, pt_11, pt_12, pt_13, pt_14, pt_15, pt_16, pt_17, pt_18, pt_19, pt_20, pt_21, pt_22, pt_23, pt_24, pt_25, pt_26, pt_27, pt_28, pt_29, pt_30, pt_31, pt_32, pt_33, pt_34, pt_35, pt_36, pt_37, pt_38, pt_39, pt_40, pt_41, pt_42, pt_43, pt_44, pt_45, pt_46, pt_47, pt_48, pt_49, pt_50, pt_51, pt_52, pt_53, pt_54, pt_55, pt_56, pt_57, pt_58, pt_59, pt_60, pt_61, pt_62, pt_63, pt_64, pt_65, pt_66, pt_67, pa_13005, pw_13005, pa_13006, pw_13006, pa_13007, pw_13007, pa_14008, pw_14008, pa_13009, pw_13009, pa_13010, pw_13010, pa_13012, pw_13012, pa_13013, pw_13013, pa_13014, pw_13014, pa_13015, pw_13015, pa_13016, pw_13016, pa_13017, pw_13017, pa_13018, pw_13018, pa_13020, pw_13020, pa_13021, pw_13021, pa_13022, pw_13022, pa_13023, pw_13023, pa_13024, pw_13024, pa_13025, pw_13025, pa_13026, pw_13026, pa_13027, pw_13027, pa_13028, pw_13028, pa_13029, pw_13029, pa_13031, pw_13031, pa_13032, pw_13032, pa_13033, pw_13033, pa_14034, pw_14034, pa_13035, pw_13035, pa_13036, pw_13036, pa_13037, pw_13037, pa_13038, pw_13038, pa_13039, pw_13039, pa_13042, pw_13042, pa_13043, pw_13043, pa_13044, pw_13044, pa_13045, pw_13045, pa_13046, pw_13046, pa_13047, pw_13047, pa_13048, pw_13048, pa_13049, pw_13049, pa_13050, pw_13050, pa_13051, pw_13051, pa_13052, pw_13052, pa_13053, pw_13053, pa_13054, pw_13054, pa_13055, pw_13055, pa_13056, pw_13056, pa_13057, pw_13057, pa_13058, pw_13058, pa_13059, pw_13059, pa_13060, pw_13060, pa_13061, pw_13061, pa_13062, pw_13062, pa_13063, pw_13063, pa_13064, pw_13064, pa_13065, pw_13065, pa_13066, pw_13066, pa_13067, pw_13067, ps_0, ps_1, ps_2, ps_3, ps_4, ps_11, ps_19, ps_30, ps_40, ps_41, ln_13005, ln_13006, ln_13007, ln_14008, ln_13009, ln_13010, ln_13012, ln_13013, ln_13014, ln_13015, ln_13016, ln_13017, ln_13018, ln_13020, ln_13021, ln_13022, ln_13023, ln_13024, ln_13025, ln_13026, ln_13027, ln_13028, ln_13029, ln_13031, ln_13032, ln_13033, ln_14034, ln_13035, ln_13036, ln_13037, ln_13038, ln_13039, ln_13042, ln_13043, ln_13044, ln_13045, ln_13046, ln_13047, ln_13048, ln_13049, ln_13050, ln_13051, ln_13052, ln_13053, ln_13054, ln_13055, ln_13056, ln_13057, ln_13058, ln_13059, ln_13060, ln_13061, ln_13062, ln_13063, ln_13064, ln_13065, ln_13066, ln_13067, gd_t, w_eq, hm, wz, mp, q, gn, if_neg]
end LOOK1
