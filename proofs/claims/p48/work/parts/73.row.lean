/-! PURE PART, 73: a message comes into its row, or is dead -/
def irN (N : Nd) (g m d t : Int) : Nd := up (up (up N 13059 (150 * g + m) 1) 13060 (150 * g + m) d) 13061 (150 * g + m) t
theorem m_intoRow {C : Cd} {N : Nd} {A : Ad} {g m d t : Int} (g1 : 0 ≤ g) (g2 : g < 3) (m1 : 0 ≤ m) (m2 : m < 150) : p_X11_gIntoRow (mk C N A) 12000 g m d t = some (mk C (irN N g m d t) A) := by
  unfold p_X11_gIntoRow irN
  simp (disch := omega) only [aok, up_s, true_and, false_and, and_true, and_false, if_true, if_false, ↓reduceIte, ↓Option.bind_some, Int.reduceEq, Int.reduceNe, Int.reduceLT, Int.reduceLE, gd_true, gd_false, bind_b, q10, eq_self, reduceCtorEq, not_true_eq_false, not_false_eq_true, ne_eq, pt_0, pt_1, pt_2, pt_3, pt_4, pt_5, pt_6, pt_7, pt_8, pt_9, pt_10, pt_11, pt_12, pt_13, pt_14, pt_15, pt_16, pt_17, pt_18, pt_19, pt_20, pt_21, pt_22, pt_23, pt_24, pt_25, pt_26, pt_27, pt_28, pt_29, pt_30, pt_31, pt_32, pt_33, pt_34, pt_35, pt_36, pt_37, pt_38, pt_39, pt_40, pt_41, pt_42, pt_43, pt_44, pt_45, pt_46, pt_47, pt_48, pt_49, pt_50, pt_51, pt_52, pt_53, pt_54, pt_55, pt_56, pt_57, pt_58, pt_59, pt_60, pt_61, pt_62, pt_63, pt_64, pt_65, pt_66, pt_67, pa_13005, pw_13005, pa_13006, pw_13006, pa_13007, pw_13007, pa_14008, pw_14008, pa_13009, pw_13009, pa_13010, pw_13010, pa_13012, pw_13012, pa_13013, pw_13013, pa_13014, pw_13014, pa_13015, pw_13015, pa_13016, pw_13016, pa_13017, pw_13017, pa_13018, pw_13018, pa_13020, pw_13020, pa_13021, pw_13021, pa_13022, pw_13022, pa_13023, pw_13023, pa_13024, pw_13024, pa_13025, pw_13025, pa_13026, pw_13026, pa_13027, pw_13027, pa_13028, pw_13028, pa_13029, pw_13029, pa_13031, pw_13031, pa_13032, pw_13032, pa_13033, pw_13033, pa_14034, pw_14034, pa_13035, pw_13035, pa_13036, pw_13036, pa_13037, pw_13037, pa_13038, pw_13038, pa_13039, pw_13039, pa_13042, pw_13042, pa_13043, pw_13043, pa_13044, pw_13044, pa_13045, pw_13045, pa_13046, pw_13046, pa_13047, pw_13047, pa_13048, pw_13048, pa_13049, pw_13049, pa_13050, pw_13050, pa_13051, pw_13051, pa_13052, pw_13052, pa_13053, pw_13053, pa_13054, pw_13054, pa_13055, pw_13055, pa_13056, pw_13056, pa_13057, pw_13057, pa_13058, pw_13058, pa_13059, pw_13059, pa_13060, pw_13060, pa_13061, pw_13061, pa_13062, pw_13062, pa_13063, pw_13063, pa_13064, pw_13064, pa_13065, pw_13065, pa_13066, pw_13066, pa_13067, pw_13067, ps_0, ps_1, ps_2, ps_3, ps_4, ps_11, ps_19, ps_30, ps_40, ps_41, ln_13005, ln_13006, ln_13007, ln_14008, ln_13009, ln_13010, ln_13012, ln_13013, ln_13014, ln_13015, ln_13016, ln_13017, ln_13018, ln_13020, ln_13021, ln_13022, ln_13023, ln_13024, ln_13025, ln_13026, ln_13027, ln_13028, ln_13029, ln_13031, ln_13032, ln_13033, ln_14034, ln_13035, ln_13036, ln_13037, ln_13038, ln_13039, ln_13042, ln_13043, ln_13044, ln_13045, ln_13046, ln_13047, ln_13048, ln_13049, ln_13050, ln_13051, ln_13052, ln_13053, ln_13054, ln_13055, ln_13056, ln_13057, ln_13058, ln_13059, ln_13060, ln_13061, ln_13062, ln_13063, ln_13064, ln_13065, ln_13066, ln_13067, gd_t, w_eq]
section ROW
variable {C : Cd} {N : Nd} {g m d t : Int}
theorem ir_ar {b : Int} (h1 : b ≠ 13059) (h2 : b ≠ 13060) (h3 : b ≠ 13061) : irN N g m d t b = N b := by
  funext i
  unfold irN
  rw [up_s, if_neg (fun q => h3 q.1), up_s, if_neg (fun q => h2 q.1), up_s, if_neg (fun q => h1 q.1)]
theorem ir_w {i : Int} : irN N g m d t 13059 i = if i = 150 * g + m then 1 else N 13059 i := by unfold irN; simp only [up_s, up_s, true_and, false_and, and_true, and_false, if_true, if_false, ↓reduceIte, ↓Option.bind_some, Int.reduceEq, Int.reduceNe, Int.reduceLT, Int.reduceLE, gd_true, gd_false, bind_b, q10, eq_self, reduceCtorEq, not_true_eq_false, not_false_eq_true, ne_eq]
theorem ir_d {i : Int} : irN N g m d t 13060 i = if i = 150 * g + m then d else N 13060 i := by unfold irN; simp only [up_s, up_s, true_and, false_and, and_true, and_false, if_true, if_false, ↓reduceIte, ↓Option.bind_some, Int.reduceEq, Int.reduceNe, Int.reduceLT, Int.reduceLE, gd_true, gd_false, bind_b, q10, eq_self, reduceCtorEq, not_true_eq_false, not_false_eq_true, ne_eq]
theorem ir_t {i : Int} : irN N g m d t 13061 i = if i = 150 * g + m then t else N 13061 i := by unfold irN; simp only [up_s, up_s, true_and, false_and, and_true, and_false, if_true, if_false, ↓reduceIte, ↓Option.bind_some, Int.reduceEq, Int.reduceNe, Int.reduceLT, Int.reduceLE, gd_true, gd_false, bind_b, q10, eq_self, reduceCtorEq, not_true_eq_false, not_false_eq_true, ne_eq]
theorem MG.ir (m1 : 0 ≤ m) (m2 : m < 150) : MG g N (irN N g m d t) := ((MG.rf.up (by unfold inN; omega)).up (by unfold inN; omega)).up (by unfold inN; omega)
/-- the letter's cells, as it comes into its row -/
def rwC (C : Cd) (g m d : Int) : Cd := uq (uq C 2000 (150 * g + m) 1 1) 2000 (150 * g + m) 2 d
theorem GA.row {C1 : Cd} {n q : Int} {f : Int → Int} (G : RG N) (a : GA C N g) (g1 : 0 ≤ g) (g2 : g < 3) (m1 : 0 ≤ m) (m2 : m < 150) (un : C 17000 g m ≠ 0) (w0 : C 2000 (150 * g + m) 1 = 0) (ht : C 2000 (150 * g + m) 3 = t) (t1 : 0 ≤ t) (t2 : t ≤ 2) (dd : 0 ≤ d ∧ d ≤ 400001000) (w : GW1 C N g n f) (n150 : n < 150) (q1 : 0 ≤ q) (q2 : q ≤ n) (hq : ∀ k, 0 ≤ k → k < n → (q ≤ k ↔ (d < N 13060 (150 * g + f k) ∨ (d = N 13060 (150 * g + f k) ∧ m < f k)))) (l : LSr C1 3000 17100 g g (n + 1) (inf f q m)) (lk : LK 3000 17100 g (rwC C g m d) C1) : GA C1 (irN N g m d t) g := by
  have s5 := G.s.2.2.2.2.1
  have lm := a.le m m1 m2
  have wm : N 13059 (150 * g + m) = 0 := by
    have b := lm.2.2.2.2.1.1
    have c := lm.2.2.2.2.2.1
    omega
  have e : ∀ b i z, ¬ (b = 17100 ∧ i = g) → ¬ (b = 3000 ∧ i = g ∧ z = 1) → ¬ (b = 2000 ∧ i = 150 * g + m ∧ (z = 1 ∨ z = 2)) → C1 b i z = C b i z := fun b i z z1 z2 z3 => by
    rw [lk b i z z1 z2]
    unfold rwC
    rw [uq_s, if_neg (by omega), uq_s, if_neg (by omega)]
  have e1 : C1 2000 (150 * g + m) 1 = 1 := by
    rw [lk _ _ _ (by omega) (by omega)]
    unfold rwC
    rw [uq_s, if_neg (by omega), uq_s, if_pos ⟨rfl, rfl, rfl⟩]
  have e2 : C1 2000 (150 * g + m) 2 = d := by
    rw [lk _ _ _ (by omega) (by omega)]
    unfold rwC
    rw [uq_s, if_pos ⟨rfl, rfl, rfl⟩]
  have fm : ∀ k, 0 ≤ k → k < n → f k ≠ m := fun k k1 k2 z => by
    have := (w.2.2.1 k k1 k2).2.2
    rw [z] at this
    omega
  refine ⟨?_, fun p p1 p2 => ?_, fun z z1 z2 => ?_, fun z z1 z2 z3 => ?_, fun x x1 x2 => ?_, ?_, ?_, fun z z1 z2 => a.nm z z1 z2, fun p p1 p2 => a.np p p1 p2, a.nu⟩
  · have o := a.o
    unfold GO at o ⊢
    rw [e _ _ _ (by omega) (by omega) (by omega), e _ _ _ (by omega) (by omega) (by omega), e _ _ _ (by omega) (by omega) (by omega), e _ _ _ (by omega) (by omega) (by omega), e _ _ _ (by omega) (by omega) (by omega), e _ _ _ (by omega) (by omega) (by omega), e _ _ _ (by omega) (by omega) (by omega), e _ _ _ (by omega) (by omega) (by omega), e _ _ _ (by omega) (by omega) (by omega)]
    exact o
  · have x := a.sh p p1 p2
    have e9 : ∀ z, C1 9000 (9 * g + p) z = C 9000 (9 * g + p) z := fun z => e _ _ _ (by omega) (by omega) (by omega)
    rw [e _ _ _ (by omega) (by omega) (by omega), e9, e9, e9, e9, e9]
    exact x
  · have x := a.me z z1 z2
    have e9 : ∀ y, C1 4000 (12 * g + z) y = C 4000 (12 * g + z) y := fun y => e _ _ _ (by omega) (by omega) (by omega)
    rw [e _ _ _ (by omega) (by omega) (by omega), e9, e9, e9, e9, e9]
    exact x
  · obtain ⟨y1, y2⟩ := a.ha z z1 z2 z3
    refine ⟨⟨?_, ?_, fun i i1 i2 => ?_⟩, fun i i1 i2 => ?_⟩
    · rw [e _ _ _ (by omega) (by omega) (by omega)]; exact y1.1
    · rw [e _ _ _ (by omega) (by omega) (by omega)]; exact y1.2.1
    · rw [e _ _ _ (by omega) (by omega) (by omega)]; exact y1.2.2 i i1 i2
    · obtain ⟨⟨b1, b2, b3, b4, b5⟩, r6⟩ := y2 i i1 i2
      have nm' : hf N g z i ≠ m := fun y => by rw [y] at b3; omega
      refine ⟨⟨b1, b2, ?_, ?_, ?_⟩, r6⟩
      · show C1 2000 (150 * g + hf N g z i) 1 = 2
        rw [e _ _ _ (by omega) (by omega) (by omega)]; exact b3
      · show C1 2000 (150 * g + hf N g z i) 3 = _
        rw [e _ _ _ (by omega) (by omega) (by omega)]; exact b4
      · show C1 2000 (150 * g + hf N g z i) 4 = _
        rw [e _ _ _ (by omega) (by omega) (by omega)]; exact b5
  · obtain ⟨x1', x2', x3', x4', x5', x6', x7', x8', x9', x0'⟩ := a.le x x1 x2
    have e17 : C1 17000 g x = C 17000 g x := e _ _ _ (by omega) (by omega) (by omega)
    have ee : ∀ z, z ≠ 1 → z ≠ 2 → C1 2000 (150 * g + x) z = C 2000 (150 * g + x) z := fun z hz hz2 => e _ _ _ (by omega) (by omega) (by omega)
    rw [e17, ee 0 (by decide) (by decide), ee 3 (by decide) (by decide), ee 5 (by decide) (by decide), ee 6 (by decide) (by decide), ir_w, ir_d, ir_t]
    by_cases ex : x = m
    · subst ex
      rw [e1, e2, if_pos rfl, if_pos rfl, if_pos rfl]
      have nd : ¬ N 13062 (150 * g + x) = 1 := fun z => by have := x7'.mpr z; omega
      exact ⟨x1', x2', fun z => absurd z un, x4', ⟨Or.inr rfl, x5'.2⟩, ⟨fun _ => rfl, fun _ => rfl⟩, ⟨fun z => by omega, fun z => absurd z nd⟩, fun z => by omega, by omega, fun _ => ⟨rfl, ht, t1, t2, dd⟩⟩
    · have ne : ¬ 150 * g + x = 150 * g + m := by omega
      rw [e _ _ 1 (by omega) (by omega) (by omega), e _ _ 2 (by omega) (by omega) (by omega), if_neg ne, if_neg ne, if_neg ne]
      exact ⟨x1', x2', x3', x4', x5', x6', x7', x8', x9', x0'⟩
  · refine ⟨n + 1, inf f q m, l, by omega, fun i i1 i2 => ?_, fun i k i1 i2 k2 => ?_, fun x x1 x2 hx => ?_⟩
    · rw [ir_w]
      unfold inf
      by_cases c : i < q
      · rw [if_pos c]
        have y := w.2.2.1 i i1 (by omega)
        refine ⟨y.1, y.2.1, ?_⟩
        split
        · rfl
        · exact y.2.2
      · rw [if_neg c]
        by_cases c2 : i = q
        · rw [if_pos c2]
          exact ⟨m1, m2, if_pos rfl⟩
        · rw [if_neg c2]
          have y := w.2.2.1 (i - 1) (by omega) (by omega)
          refine ⟨y.1, y.2.1, ?_⟩
          split
          · rfl
          · exact y.2.2
    · have old : ∀ s u, 0 ≤ s → s < u → u < n → lw (irN N g m d t) g (f s) (f u) := fun s u s1 s2 u2 => by
        have y := w.2.2.2.1 s u s1 s2 u2
        unfold lw at y ⊢
        have a1 := fm s s1 (by omega)
        have a2 := fm u (by omega) u2
        rw [ir_d, ir_d, if_neg (by omega), if_neg (by omega)]
        exact y
      have bef : ∀ s, 0 ≤ s → s < n → s < q → lw (irN N g m d t) g (f s) m := fun s s1 s2 s3 => by
        have y := hq s s1 s2
        have a1 := fm s s1 s2
        unfold lw
        rw [ir_d, ir_d, if_neg (by omega), if_pos rfl]
        omega
      have aft : ∀ s, 0 ≤ s → s < n → q ≤ s → lw (irN N g m d t) g m (f s) := fun s s1 s2 s3 => by
        have y := (hq s s1 s2).mp s3
        have a1 := fm s s1 s2
        unfold lw
        rw [ir_d, ir_d, if_pos rfl, if_neg (by omega)]
        exact y
      unfold inf
      by_cases c : i < q
      · rw [if_pos c]
        by_cases c2 : k < q
        · rw [if_pos c2]; exact old i k i1 i2 (by omega)
        · rw [if_neg c2]
          by_cases c3 : k = q
          · rw [if_pos c3]; exact bef i i1 (by omega) c
          · rw [if_neg c3]; exact old i (k - 1) i1 (by omega) (by omega)
      · rw [if_neg c, if_neg (show ¬ k < q by omega), if_neg (show ¬ k = q by omega)]
        by_cases c3 : i = q
        · rw [if_pos c3]; exact aft (k - 1) (by omega) (by omega) (by omega)
        · rw [if_neg c3]; exact old (i - 1) (k - 1) (by omega) (by omega) (by omega)
    · by_cases ex : x = m
      · refine ⟨q, q1, by omega, ?_⟩
        unfold inf
        rw [if_neg (by omega), if_pos rfl, ex]
      · rw [ir_w, if_neg (by omega)] at hx
        obtain ⟨i, i1, i2, i3⟩ := w.2.2.2.2 x x1 x2 hx
        by_cases c : i < q
        · refine ⟨i, i1, by omega, ?_⟩
          unfold inf
          rw [if_pos c]; exact i3
        · refine ⟨i + 1, by omega, by omega, ?_⟩
          unfold inf
          rw [if_neg (by omega), if_neg (by omega), show i + 1 - 1 = i by omega]; exact i3
  · obtain ⟨⟨w1, w2, w3⟩, w4⟩ := a.de
    refine ⟨⟨?_, ?_, fun i i1 i2 => ?_⟩, w4⟩
    · rw [e _ _ _ (by omega) (by omega) (by omega)]; exact w1
    · rw [e _ _ _ (by omega) (by omega) (by omega)]; exact w2
    · rw [e _ _ _ (by omega) (by omega) (by omega)]; exact w3 i i1 i2
/-- D's shares, else C's cells -/
def ovr (D C : Cd) : Cd := fun b => if b = 9000 then D b else C b
theorem ovr_9 {D C : Cd} : ovr D C 9000 = D 9000 := if_pos rfl
theorem ovr_n {D C : Cd} {b : Int} (h : b ≠ 9000) : ovr D C b = C b := if_neg h
theorem ovr_eq {D C : Cd} (h : D 9000 = C 9000) : ovr D C = C := by
  funext b
  unfold ovr
  split
  · rename_i e; rw [e, h]
  · rfl
theorem LK.ovr {lb ab i : Int} {C D D1 : Cd} (hD : ∀ b, b ≠ 9000 → D b = C b) (lk : LK lb ab i D D1) : LK lb ab i C (ovr C D1) := fun b i' j h1 h2 => by
  by_cases e : b = 9000
  · rw [e, ovr_9]
  · rw [ovr_n e, lk b i' j h1 h2, hD b e]
theorem LSr.ovr {C D1 : Cd} {lb ab i g n : Int} {f : Int → Int} (l : LSr D1 lb ab i g n f) (h1 : lb ≠ 9000) (h2 : ab ≠ 9000) : LSr (ovr C D1) lb ab i g n f := by
  unfold LSr
  rw [ovr_n h1, ovr_n h2]
  exact l
/-- into the row, the class: D is C but for shares -/
theorem c_putInRow {N0 : Nd} {A : Ad} {D : Cd} (G : RG N) (c : CC C N) (a : GA C N g) (g1 : 0 ≤ g) (g2 : g < 3) (m1 : 0 ≤ m) (m2 : m < 150) (un : C 17000 g m ≠ 0) (w0 : C 2000 (150 * g + m) 1 = 0) (ht : C 2000 (150 * g + m) 3 = t) (t1 : 0 ≤ t) (t2 : t ≤ 2) (dd : 0 ≤ d ∧ d ≤ 400001000) (hD : ∀ b, b ≠ 9000 → D b = C b) : Ok (p_X0_putInRow (mk D N0 A) (1000 + g) (2000 + (150 * g + m)) d) (fun M => ∃ C', M = mk (ovr D C') N0 A ∧ GA C' (irN N g m d t) g ∧ LK 3000 17100 g (rwC C g m d) C') := by
  have s5 := G.s.2.2.2.2.1
  obtain ⟨n, f, w⟩ := a.wa
  have lm := a.le m m1 m2
  have mk1 := lm.2.1 un
  have wm : N 13059 (150 * g + m) = 0 := by
    have b := lm.2.2.2.2.1.1
    have c := lm.2.2.2.2.2.1
    omega
  have ll := w.ll a.le
  have n0 := w.2.1.1
  have n150 : n < 150 := inj_lt w.2.1.1 m1 m2 (fun k k1 k2 => ⟨(w.2.2.1 k k1 k2).1, (w.2.2.1 k k1 k2).2.1, fun z => by have := (w.2.2.1 k k1 k2).2.2; rw [z] at this; omega⟩) (fun i k i1 i2 k2 => w.dis i1 i2 k2)
  let P : Int → Bool := fun k => decide (d < N 13060 (150 * g + f k) ∨ (d = N 13060 (150 * g + f k) ∧ m < f k))
  have qb := @ff_b P n.toNat 0
  have hq : ∀ k, 0 ≤ k → k < n → (ff P n.toNat 0 ≤ k ↔ (d < N 13060 (150 * g + f k) ∨ (d = N 13060 (150 * g + f k) ∧ m < f k))) := fun k k1 k2 => by
    constructor
    · intro z
      have y : d < N 13060 (150 * g + f (ff P n.toNat 0)) ∨ (d = N 13060 (150 * g + f (ff P n.toNat 0)) ∧ m < f (ff P n.toNat 0)) := of_decide_eq_true (ff_yes (P := P) (n := n.toNat) (i := 0) (by omega))
      by_cases ek : ff P n.toNat 0 = k
      · rw [← ek]; exact y
      · have := w.2.2.2.1 (ff P n.toNat 0) k qb.1 (by omega) k2
        unfold lw at this
        omega
    · intro z
      by_cases y : ff P n.toNat 0 ≤ k
      · exact y
      · exact absurd z (of_decide_eq_false (ff_no (P := P) (n := n.toNat) (i := 0) k1 (by omega)))
  generalize hqq : ff P n.toNat 0 = q at qb hq
  have o3 := a.o.2.2.2.1
  have l0 : LSr (rwC D g m d) 3000 17100 g g n f := by
    obtain ⟨x1, x2, x3⟩ := w.1
    unfold rwC
    refine ⟨?_, ?_, fun k k1 k2 => ?_⟩
    · rw [uq_s, if_neg (by omega), uq_s, if_neg (by omega), hD _ (by decide)]; exact x1
    · rw [uq_s, if_neg (by omega), uq_s, if_neg (by omega), hD _ (by decide)]; exact x2
    · rw [uq_s, if_neg (by omega), uq_s, if_neg (by omega), hD _ (by decide)]; exact x3 k k1 k2
  have o3' : rwC D g m d 1000 g 3 = 3000 + g := by
    unfold rwC
    rw [uq_s, if_neg (by omega), uq_s, if_neg (by omega), hD _ (by decide)]; exact o3
  have hb : ∀ C1, LK 3000 17100 g (rwC D g m d) C1 → ∀ k, 0 ≤ k → k < n → p_X1_isBefore (mk C1 N0 A) (2000 + (150 * g + m)) (2000 + (150 * g + f k)) = some (if q ≤ k then 1 else 0) := fun C1 lk k k1 k2 => by
    obtain ⟨x1, x2, x3⟩ := ll k k1 k2
    have x4 := w.2.2.1 k k1 k2
    have fm : f k ≠ m := fun z => by have := x4.2.2; rw [z] at this; omega
    have d1 : C1 2000 (150 * g + m) 2 = d := by
      rw [lk _ _ _ (by omega) (by omega)]
      unfold rwC
      rw [uq_s, if_pos ⟨rfl, rfl, rfl⟩]
    have eo : ∀ b i z, b ≠ 17100 → b ≠ 3000 → b ≠ 9000 → ¬ (b = 2000 ∧ i = 150 * g + m ∧ (z = 1 ∨ z = 2)) → C1 b i z = C b i z := fun b i z z1 z2 z4 z3 => by
      rw [lk _ _ _ (by omega) (by omega)]
      unfold rwC
      rw [uq_s, if_neg (by omega), uq_s, if_neg (by omega), hD _ z4]
    have d2 : C1 2000 (150 * g + f k) 2 = N 13060 (150 * g + f k) := by
      rw [eo _ _ _ (by decide) (by decide) (by decide) (by omega)]
      exact ((a.le (f k) x4.1 x4.2.1).2.2.2.2.2.2.2.2.2 x4.2.2).1
    have d3 : C1 2000 (150 * g + m) 0 = 5000 + m := by rw [eo _ _ _ (by decide) (by decide) (by decide) (by omega)]; exact mk1.2.1
    have d4 : C1 2000 (150 * g + f k) 0 = 5000 + f k := by rw [eo _ _ _ (by decide) (by decide) (by decide) (by omega)]; exact x3
    have d5 : C1 5000 m 0 = m := by rw [eo _ _ _ (by decide) (by decide) (by decide) (by omega)]; exact (c.m m m1 mk1.1).1
    have d6 : C1 5000 (f k) 0 = f k := by rw [eo _ _ _ (by decide) (by decide) (by decide) (by omega)]; exact (c.m _ x1 x2).1
    have hk := hq k k1 k2
    unfold p_X1_isBefore
    by_cases z : d = N 13060 (150 * g + f k)
    · by_cases z2 : m < f k
      · rw [if_pos (show q ≤ k from hk.mpr (Or.inr ⟨z, z2⟩))]
        simp (disch := omega) only [aok, up_s, true_and, false_and, and_true, and_false, if_true, if_false, ↓reduceIte, ↓Option.bind_some, Int.reduceEq, Int.reduceNe, Int.reduceLT, Int.reduceLE, gd_true, gd_false, bind_b, q10, eq_self, reduceCtorEq, not_true_eq_false, not_false_eq_true, ne_eq, cr_11000, cr_15000, cr_16000, cr_20000, cr_20001, cr_21000, cr_22000, cr_25000, cr_1000, cr_2000, cr_3000, cr_3003, cr_3006, cr_4000, cr_5000, cr_6000, cr_7000, cr_8000, cr_9000, cr_10000, cr_13500, cr_17000, cr_17100, cr_17103, cr_17106, cr_19000, cr_20100, cr_21100, cr_23000, cr_24000, cw_11000, cw_15000, cw_16000, cw_20000, cw_20001, cw_21000, cw_22000, cw_25000, cw_1000, cw_2000, cw_3000, cw_3003, cw_3006, cw_4000, cw_5000, cw_6000, cw_7000, cw_8000, cw_9000, cw_10000, cw_13500, cw_17000, cw_17100, cw_17103, cw_17106, cw_19000, cw_20100, cw_21100, cw_23000, cw_24000, lc_13500, lc_15000, lc_16000, lc_17000, lc_17100, lc_17103, lc_17106, lc_19000, lc_20000, lc_20001, lc_20100, lc_21000, lc_21100, lc_22000, lc_23000, lc_24000, lc_25000, gd_t, w_eq, d1, d2, d3, d4, d5, d6, ← z, z2]
      · rw [if_neg (show ¬ q ≤ k from fun y => by have := hk.mp y; omega)]
        simp (disch := omega) only [aok, up_s, true_and, false_and, and_true, and_false, if_true, if_false, ↓reduceIte, ↓Option.bind_some, Int.reduceEq, Int.reduceNe, Int.reduceLT, Int.reduceLE, gd_true, gd_false, bind_b, q10, eq_self, reduceCtorEq, not_true_eq_false, not_false_eq_true, ne_eq, cr_11000, cr_15000, cr_16000, cr_20000, cr_20001, cr_21000, cr_22000, cr_25000, cr_1000, cr_2000, cr_3000, cr_3003, cr_3006, cr_4000, cr_5000, cr_6000, cr_7000, cr_8000, cr_9000, cr_10000, cr_13500, cr_17000, cr_17100, cr_17103, cr_17106, cr_19000, cr_20100, cr_21100, cr_23000, cr_24000, cw_11000, cw_15000, cw_16000, cw_20000, cw_20001, cw_21000, cw_22000, cw_25000, cw_1000, cw_2000, cw_3000, cw_3003, cw_3006, cw_4000, cw_5000, cw_6000, cw_7000, cw_8000, cw_9000, cw_10000, cw_13500, cw_17000, cw_17100, cw_17103, cw_17106, cw_19000, cw_20100, cw_21100, cw_23000, cw_24000, lc_13500, lc_15000, lc_16000, lc_17000, lc_17100, lc_17103, lc_17106, lc_19000, lc_20000, lc_20001, lc_20100, lc_21000, lc_21100, lc_22000, lc_23000, lc_24000, lc_25000, gd_t, w_eq, d1, d2, d3, d4, d5, d6, ← z, z2]
    · by_cases z2 : d < N 13060 (150 * g + f k)
      · rw [if_pos (show q ≤ k from hk.mpr (Or.inl z2))]
        simp (disch := omega) only [aok, up_s, true_and, false_and, and_true, and_false, if_true, if_false, ↓reduceIte, ↓Option.bind_some, Int.reduceEq, Int.reduceNe, Int.reduceLT, Int.reduceLE, gd_true, gd_false, bind_b, q10, eq_self, reduceCtorEq, not_true_eq_false, not_false_eq_true, ne_eq, cr_11000, cr_15000, cr_16000, cr_20000, cr_20001, cr_21000, cr_22000, cr_25000, cr_1000, cr_2000, cr_3000, cr_3003, cr_3006, cr_4000, cr_5000, cr_6000, cr_7000, cr_8000, cr_9000, cr_10000, cr_13500, cr_17000, cr_17100, cr_17103, cr_17106, cr_19000, cr_20100, cr_21100, cr_23000, cr_24000, cw_11000, cw_15000, cw_16000, cw_20000, cw_20001, cw_21000, cw_22000, cw_25000, cw_1000, cw_2000, cw_3000, cw_3003, cw_3006, cw_4000, cw_5000, cw_6000, cw_7000, cw_8000, cw_9000, cw_10000, cw_13500, cw_17000, cw_17100, cw_17103, cw_17106, cw_19000, cw_20100, cw_21100, cw_23000, cw_24000, lc_13500, lc_15000, lc_16000, lc_17000, lc_17100, lc_17103, lc_17106, lc_19000, lc_20000, lc_20001, lc_20100, lc_21000, lc_21100, lc_22000, lc_23000, lc_24000, lc_25000, gd_t, w_eq, d1, d2, z, z2]
      · rw [if_neg (show ¬ q ≤ k from fun y => by have := hk.mp y; omega)]
        simp (disch := omega) only [aok, up_s, true_and, false_and, and_true, and_false, if_true, if_false, ↓reduceIte, ↓Option.bind_some, Int.reduceEq, Int.reduceNe, Int.reduceLT, Int.reduceLE, gd_true, gd_false, bind_b, q10, eq_self, reduceCtorEq, not_true_eq_false, not_false_eq_true, ne_eq, cr_11000, cr_15000, cr_16000, cr_20000, cr_20001, cr_21000, cr_22000, cr_25000, cr_1000, cr_2000, cr_3000, cr_3003, cr_3006, cr_4000, cr_5000, cr_6000, cr_7000, cr_8000, cr_9000, cr_10000, cr_13500, cr_17000, cr_17100, cr_17103, cr_17106, cr_19000, cr_20100, cr_21100, cr_23000, cr_24000, cw_11000, cw_15000, cw_16000, cw_20000, cw_20001, cw_21000, cw_22000, cw_25000, cw_1000, cw_2000, cw_3000, cw_3003, cw_3006, cw_4000, cw_5000, cw_6000, cw_7000, cw_8000, cw_9000, cw_10000, cw_13500, cw_17000, cw_17100, cw_17103, cw_17106, cw_19000, cw_20100, cw_21100, cw_23000, cw_24000, lc_13500, lc_15000, lc_16000, lc_17000, lc_17100, lc_17103, lc_17106, lc_19000, lc_20000, lc_20001, lc_20100, lc_21000, lc_21100, lc_22000, lc_23000, lc_24000, lc_25000, gd_t, w_eq, d1, d2, z, z2]
  unfold p_X0_putInRow
  have e3 : ∀ M, (wr (wr (mk D N0 A) (2000 + (150 * g + m)) 1 1) (2000 + (150 * g + m)) 2 d) = M → M = mk (rwC D g m d) N0 A := fun M h => by
    rw [← h, cw_2000 (by omega) (by omega), cw_2000 (by omega) (by omega)]
    rfl
  have e4 := e3 _ rfl
  rw [gd_t (by omega), Option.bind_some, Option.bind_some, e4]
  simp (disch := omega) only [aok, up_s, true_and, false_and, and_true, and_false, if_true, if_false, ↓reduceIte, ↓Option.bind_some, Int.reduceEq, Int.reduceNe, Int.reduceLT, Int.reduceLE, gd_true, gd_false, bind_b, q10, eq_self, reduceCtorEq, not_true_eq_false, not_false_eq_true, ne_eq, cr_11000, cr_15000, cr_16000, cr_20000, cr_20001, cr_21000, cr_22000, cr_25000, cr_1000, cr_2000, cr_3000, cr_3003, cr_3006, cr_4000, cr_5000, cr_6000, cr_7000, cr_8000, cr_9000, cr_10000, cr_13500, cr_17000, cr_17100, cr_17103, cr_17106, cr_19000, cr_20100, cr_21100, cr_23000, cr_24000, cw_11000, cw_15000, cw_16000, cw_20000, cw_20001, cw_21000, cw_22000, cw_25000, cw_1000, cw_2000, cw_3000, cw_3003, cw_3006, cw_4000, cw_5000, cw_6000, cw_7000, cw_8000, cw_9000, cw_10000, cw_13500, cw_17000, cw_17100, cw_17103, cw_17106, cw_19000, cw_20100, cw_21100, cw_23000, cw_24000, lc_13500, lc_15000, lc_16000, lc_17000, lc_17100, lc_17103, lc_17106, lc_19000, lc_20000, lc_20001, lc_20100, lc_21000, lc_21100, lc_22000, lc_23000, lc_24000, lc_25000, gd_t, w_eq, o3']
  refine Ok.bnd (c_addByDue (N0 := N0) (A := A) (m := m) (q := q) (LPl.w g1 g2) l0 w.2.1.1 n150 qb.1 (by omega) (by omega) (fun k k1 k2 => by have := (w.2.2.1 k k1 k2).1; omega) hb) ?_
  rintro M ⟨D1, rfl, l1, lk⟩
  have hD2 : ∀ b, b ≠ 9000 → rwC D g m d b = rwC C g m d b := fun b hb9 => by
    funext i z
    unfold rwC
    rw [uq_s, uq_s, uq_s, uq_s, hD b hb9]
  have lk2 := LK.ovr hD2 lk
  have bk2 : D1 = ovr D (ovr (rwC C g m d) D1) := by
    funext b
    by_cases e : b = 9000
    · rw [e, ovr_9]
      funext i z
      rw [lk _ _ _ (by omega) (by omega)]
      unfold rwC
      rw [uq_s, if_neg (by omega), uq_s, if_neg (by omega)]
    · rw [ovr_n e, ovr_n e]
  exact Ok.ret ⟨ovr (rwC C g m d) D1, congrArg (fun X => mk X N0 A) bk2, GA.row G a g1 g2 m1 m2 un w0 ht t1 t2 dd w n150 qb.1 (by omega) hq (l1.ovr (by decide) (by decide)) lk2, lk2⟩
theorem pir_any {C : Cd} {N0 : Nd} {A : Ad} {v : Int} (g1 : 0 ≤ g) (g2 : g < 3) (m1 : 0 ≤ m) (m2 : m < 150) : p_X0_putInRow (mk (uq C 2000 (150 * g + m) 1 v) N0 A) (1000 + g) (2000 + (150 * g + m)) d = p_X0_putInRow (mk C N0 A) (1000 + g) (2000 + (150 * g + m)) d := by
  have e : ∀ X : Cd, wr (mk X N0 A) (2000 + (150 * g + m)) 1 1 = mk (uq X 2000 (150 * g + m) 1 1) N0 A := fun X => cw_2000 (by omega) (by omega)
  have e2 : uq (uq C 2000 (150 * g + m) 1 v) 2000 (150 * g + m) 1 1 = uq C 2000 (150 * g + m) 1 1 := by
    funext b i j
    rw [uq_s, uq_s, uq_s]
    by_cases h : b = 2000 ∧ i = 150 * g + m ∧ j = 1
    · rw [if_pos h, if_pos h]
    · rw [if_neg h, if_neg h, if_neg h]
  unfold p_X0_putInRow
  rw [e, e, e2]
theorem ST.row {C' : Cd} (m1 : 0 ≤ m) (m2 : m < 150) (fd : 0 < Fdl C g m) (lk : LK 3000 17100 g (rwC C g m d) C') : ST g C C' N (irN N g m d t) := by
  have e : ∀ b i z, ¬ (b = 17100 ∧ i = g) → ¬ (b = 3000 ∧ i = g ∧ z = 1) → ¬ (b = 2000 ∧ i = 150 * g + m ∧ (z = 1 ∨ z = 2)) → C' b i z = C b i z := fun b i z z1 z2 z3 => by
    rw [lk b i z z1 z2]
    unfold rwC
    rw [uq_s, if_neg (by omega), uq_s, if_neg (by omega)]
  refine ⟨fun b i z hz => e b i z ?_ ?_ ?_, MG.ir m1 m2, fun b h1 h2 h3 h4 h5 h6 h7 => ?_, fun i z hz => e _ _ _ (by omega) (by omega) (by omega), fun b h1 h2 h3 => ir_ar (by omega) (by omega) (by omega), fun x x1 x2 => ?_⟩
  · unfold inG at hz; omega
  · unfold inG at hz; omega
  · unfold inG at hz; omega
  · funext i z
    exact e _ _ _ (by omega) (by omega) (by omega)
  · unfold Pd Fdl
    rw [e _ _ _ (by omega) (by omega) (by omega), ir_w]
    by_cases ex : x = m
    · subst ex
      have fd' : 0 < C 2000 (150 * g + x) 6 := fd
      exact ⟨fun _ => Or.inl fd', fun _ => Or.inl fd'⟩
    · rw [if_neg (by omega)]
end ROW
