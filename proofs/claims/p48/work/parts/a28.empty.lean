/-! PURE PART, a28: hands are emptied; one read, whole -/
/-- a table but for hands -/
def hnd (N H : Nd) : Nd := fun a k => if 13051 ≤ a ∧ a ≤ 13054 then H a k else N a k
/-- a table, with another's rows of the law -/
def rs (N X : Nd) : Nd := fun a k => if a = 13490 ∨ a = 15001 then N a k else X a k
section EMPTY
variable {n : Int} {C : Cd} {N X : Nd} {A : Ad}
theorem hnd_of (h : ∀ a, ¬ (13051 ≤ a ∧ a ≤ 13054) → X a = N a) : X = hnd N X := by
  funext a k
  unfold hnd
  by_cases e : 13051 ≤ a ∧ a ≤ 13054
  · rw [if_pos e]
  · rw [if_neg e, h a e]
theorem hnd_ar (h : X = hnd N X) {a : Int} (ha : ¬ (13051 ≤ a ∧ a ≤ 13054)) : X a = N a := by
  funext k
  have q := congrFun (congrFun h a) k
  unfold hnd at q
  rw [if_neg ha] at q
  exact q
theorem l_empties (l : LV n C N A) {o : Int} (o1 : 0 ≤ o) (o2 : o < 12) (hi : N 13047 (12 * 0 + o) = 1) : Ok (p_L_empties (mk C N A) 11000 o) (fun M => ∃ C2 X A2, M = mk C2 X A2 ∧ LV (n + 60) C2 X A2 ∧ X = hnd N X ∧ hn X 0 o = 0 ∧ ∀ i, i ≠ o → hn X 0 i = hn N 0 i) := by
  have g2 := l.2.1.1.g
  unfold p_L_empties
  refine Ok.bnd (Q := Sum.elim (fun _ => False) (fun M => ∃ C2 X A2, M = mk C2 X A2 ∧ LV (n + 60) C2 X A2 ∧ X = hnd N X ∧ hn X 0 o = 0 ∧ ∀ i, i ≠ o → hn X 0 i = hn N 0 i)) ?_ ?_
  · have h9 := ((l.1.gr (Int.le_refl 0) g2).1.h9 o1 o2 hi)
    refine lp_for (fun k s => ∃ C2 X A2, s = (k, mk C2 X A2) ∧ LV (n + 4 * k) C2 X A2 ∧ X = hnd N X ∧ (0 ≤ hn X 0 o ∧ hn X 0 o ≤ 9 - k) ∧ ∀ i, i ≠ o → hn X 0 i = hn N 0 i) 0 9 ?_ ?_ (by omega) ⟨C, N, A, rfl, l.ups (by omega), hnd_of fun _ _ => rfl, by omega, fun _ _ => rfl⟩
    · rintro k _ k1 k2 ⟨C2, X, A2, rfl, l2, e2, ⟨b1, b2⟩, ho⟩
      have g2x := l2.2.1.1.g
      have hix : X 13047 (12 * 0 + o) = 1 := by rw [hnd_ar e2 (by decide)]; exact hi
      unfold b_L_empties_2
      dsimp only
      rw [if_pos (show k < 9 by omega)]
      refine Ok.bnd (QA.ok (L_mem3 l2.1 (Int.le_refl 0) g2x o1 o2 hix)) ?_
      rintro ⟨_, _⟩ ⟨rfl, C3, A3, rfl, j3⟩
      dsimp only
      by_cases z : 0 < hn X 0 o
      · rw [if_pos z]
        refine Ok.bnd (QA.ok (L_hand0 j3 (Int.le_refl 0) g2x o1 o2 hix z)) ?_
        rintro ⟨_, _⟩ ⟨rfl, C4, A4, rfl, j4⟩
        dsimp only
        have hp : hpl X 0 o (hf X 0 o 0) = 0 := by
          unfold hpl
          exact ff_is (Int.le_refl 0) (by omega) (fun q q1 q2 => by omega) (fun _ => decide_eq_true rfl)
        have a4 := (j4.gr (Int.le_refl 0) g2x).1
        have h9x := a4.h9 o1 o2 hix
        have hm := done_m (m := hf X 0 o 0) j4 ⟨Int.le_refl 0, g2x⟩ ⟨o1, by omega⟩ hix (by rw [hp]; exact z)
        rw [hp] at hm
        obtain ⟨v, C5, A5, c1, c2, -, c4⟩ := L_done j4 hm
        have mo := MG.out (N := up X 12000 0 0) (g := 0) (j := o) (k := 0) (Int.le_refl 0) o1 o2 (Int.le_refl 0) z h9x.2.1
        have ar : ∀ b, (b < 13051 ∨ 13054 < b) → ooN (up X 12000 0 0) 0 o 0 b = (up X 12000 0 0) b := fun b hb => on_ar hb
        have ev := c2 (by rw [ar 12000 (by decide)]; rfl)
        obtain ⟨ma, m12⟩ := mg_ar mo
        have w4 : WV (up X 12000 0 0) := l2.2.1
        have w5 : WV (ooN (up X 12000 0 0) 0 o 0) := w4.gr (GRE.ws mo (ar _ (by decide)) (ar _ (by decide)) (WS.same (ar _ (by decide)) (ar _ (by decide))))
        have mm : Mo X (ooN (up X 12000 0 0) 0 o 0) := mo.mo
        have l4 : LV (n + 4 * k + 1 + 1) C4 X A4 := ⟨j4, l2.2⟩
        have l5 := l4.mo w5 mm ((ar _ (by decide)).trans rfl) c4
        have en : ∀ i, hn (mg X (ooN (up X 12000 0 0) 0 o 0)) 0 i = if i = o then hn X 0 o - 1 else hn X 0 i := fun i => by
          have q := @on_n (up X 12000 0 0) 0 o 0 o1 (Int.le_refl 0) i
          have q2 : hn (mg X (ooN (up X 12000 0 0) 0 o 0)) 0 i = hn (ooN (up X 12000 0 0) 0 o 0) 0 i := by
            unfold hn
            rw [ma 13051 (by decide)]
          rw [q2, q]
          rfl
        rw [c1, Option.bind_some]
        dsimp only
        rw [if_neg (by omega), w_eq (z := k + 1) (by omega) (by omega)]
        refine Ok.ret ⟨C5, _, A5, rfl, l5.ups (by omega), hnd_of fun a ha => ?_, ?_, fun i hi' => ?_⟩
        · by_cases h12 : a = 12000
          · rw [h12, m12]
            exact hnd_ar e2 (by decide)
          · rw [ma a h12, ar a (by omega), ← hnd_ar e2 ha]
            funext q
            rw [up_s, if_neg (fun y => h12 y.1)]
        · rw [en, if_pos rfl]
          omega
        · rw [en, if_neg hi']
          exact ho i hi'
      · rw [if_neg z]
        exact Ok.ret ⟨C3, X, A3, rfl, (show LV (n + 4 * k + 1) C3 X A3 from ⟨j3, l2.2⟩).ups (by omega), e2, by omega, ho⟩
    · rintro _ ⟨C2, X, A2, rfl, l2, e2, ⟨b1, b2⟩, ho⟩
      unfold b_L_empties_2
      dsimp only
      rw [if_neg (by omega)]
      exact Ok.ret ⟨C2, X, A2, rfl, l2.ups (by omega), e2, by omega, ho⟩
  · rintro (r | M) h
    · exact h.elim
    · exact Ok.ret h
theorem RF.rows {o v : Int} {Nr N2 : Nd} (r : RF (up N 12000 0 0) o Nr v) (ha : ∀ a, a ≠ 12000 → a ≠ 13490 → a ≠ 15001 → N2 a = Nr a) (h12 : N2 12000 = N 12000) : RF N o (rs N N2) v := by
  obtain ⟨a1, a2, a3, a4, a5, a6, a7⟩ := r
  have ea : ∀ a, a ≠ 12000 → a ≠ 13490 → a ≠ 15001 → rs N N2 a = Nr a := fun a b1 b2 b3 => by
    rw [← ha a b1 b2 b3]
    funext k
    unfold rs
    rw [if_neg (by omega)]
  have m0 : MG 0 N (rs N N2) := fun a i h => by
    by_cases e : a = 12000
    · rw [e]
      show (if (12000 : Int) = 13490 ∨ (12000 : Int) = 15001 then N 12000 i else N2 12000 i) = N 12000 i
      rw [if_neg (by decide), h12]
    · by_cases e2 : a = 13490 ∨ a = 15001
      · unfold rs
        rw [if_pos e2]
      · rw [ea a e (by omega) (by omega), a1 a i h, up_s, if_neg (fun z => e z.1)]
  have er : ∀ p, ro (rs N N2) p = ro Nr p := fun p => by
    unfold ro
    rw [ea _ (by decide) (by decide) (by decide)]
  have ew : ∀ m, wt (rs N N2) m = wt Nr m := fun m => by
    unfold wt
    rw [ea _ (by decide) (by decide) (by decide)]
  have ed : ∀ m, du (rs N N2) m = du Nr m := fun m => by
    unfold du
    rw [ea _ (by decide) (by decide) (by decide)]
  refine ⟨m0, fun a h => ?_, fun p => ?_, fun m m1 m2 h => ?_, fun hv => ?_, fun hv he => ?_, fun i hi => ?_⟩
  · rw [ea a (by omega) (by omega) (by omega), a2 a h]
    funext k
    rw [up_s, if_neg (by omega)]
  · rw [er]
    exact a3 p
  · rw [ew] at h
    rw [ed, er]
    exact a4 m m1 m2 h
  · rw [ew]
    simp only [er]
    exact a5 hv
  · obtain ⟨b1, b2⟩ := a6 hv he
    refine ⟨b1, fun p p2 ow ld b c1 c2 c3 c4 c5 => ?_⟩
    have sc : rs N N2 12000 = N 12000 := m0.n0 (Or.inl (by decide))
    have scr : Nr 12000 = (up N 12000 0 0) 12000 := a1.n0 (Or.inl (by decide))
    have eO : (rs N N2) 13055 = Nr 13055 := ea _ (by decide) (by decide) (by decide)
    have ow' : own Nr 0 o p := ⟨(a1.gr 0 p).mpr ((m0.gr 0 p).mp ow.1), by rw [← eO]; exact ow.2⟩
    refine b2 p p2 ow' ?_ b c1 ?_ ((a1.can).mpr ((m0.can).mp c3)) ?_ ?_
    · rw [← ea 13013 (by decide) (by decide) (by decide)]; exact ld
    · rw [scr]
      rw [sc] at c2
      exact c2
    · rw [← ea 13021 (by decide) (by decide) (by decide)]; exact c4
    · rw [← ea 13058 (by decide) (by decide) (by decide), ← ea 13026 (by decide) (by decide) (by decide)]; exact c5
  · unfold hn
    rw [ea _ (by decide) (by decide) (by decide)]
    exact a7 i hi
/-- what the reads go by -/
def WRD (T : Int) (N : Nd) : Prop := PH T N ∧ 0 < mcn N 0 ∧ (∀ p, 0 ≤ p → p < 3 → ow N p = tg N p ∧ tg N p ≠ -1) ∧ (∀ m, 0 ≤ m → m < 150 → wt N m = 1 → du N m ≤ T + 4 ∨ du N m ≤ (N 12000 1)) ∧ BTN N
/-- how far a member is -/
def FAR (j c : Int) (N : Nd) : Prop := (c ≤ 192 → Psi j N ≤ 150 ∨ Psi j N ≤ 300 - c) ∧ (192 < c → ZZ j N ∨ Psi j N ≤ 342 - c)
theorem FAR.c0 {j c : Int} (h : c ≤ 0) : FAR j c N := ⟨fun _ => Or.inr (by have := (@Psi_b N j).2; omega), fun _ => by omega⟩
theorem FAR.mono {j c : Int} (h : FAR j c N) (p : Psi j X ≤ Psi j N) (z : 192 < c → ZZ j N → ZZ j X) : FAR j c X := ⟨fun q => by have := h.1 q; omega, fun q => (h.2 q).imp (z q) (fun y => by omega)⟩
theorem WRD.rd {T o v : Int} (h : WRD T N) (r : RF N o X v) : WRD T X := by
  obtain ⟨h1, h2, h3, h4, h5⟩ := h
  obtain ⟨a1, a2, a3, a4, -⟩ := r
  have sc : X 12000 = N 12000 := a1.n0 (Or.inl (by decide))
  have p : PH T X := by
    rw [a1.gm]
    exact h1
  refine ⟨p, ?_, fun p p1 p2 => ?_, fun m m1 m2 hw' => ?_, fun i i1 i2 hi => ?_⟩
  · unfold mcn at h2 ⊢
    rw [a2 13047 (by decide)]
    exact h2
  · unfold ow tg
    rw [a2 13055 (by decide), a2 13056 (by decide)]
    exact h3 p p1 p2
  · rw [sc]
    rcases a4 m m1 m2 hw' with ⟨y1, y2⟩ | ⟨-, y, -⟩
    · rw [y2]
      exact h4 m m1 m2 y1
    · right
      omega
  · rw [a2 13047 (by decide)] at hi
    rw [sc, a2 13048 (by decide)]
    exact h5 i i1 i2 hi
/-- one read, and the hand emptied -/
theorem l_one {T : Int} (hn9 : n < 9999000) (l : LV n C N A) (wd : WRD T N) {o c : Int} (o1 : 0 ≤ o) (o2 : o < 12) (hi : N 13047 (12 * 0 + o) = 1) (hc : 192 ≤ c → T + 9 ≤ (N 12000 1)) (he : c + 1 ≤ 0 ∨ hn N 0 o = 0) : Ok ((p_L_reads (mk C N A) 11000 o 15001 13490).bind fun r46 => (p_L_empties r46.2 11000 o).bind fun M47 => some (r46.1, M47)) (fun s => s.1 = 1 ∧ ∃ C2 X A2, s.2 = mk C2 X A2 ∧ LV (n + 80) C2 X A2 ∧ WRD T X ∧ (∀ j k, FAR j k N → (192 < k → T + 9 ≤ (N 12000 1)) → FAR j k X) ∧ (FAR o c N → FAR o (c + 1) X) ∧ hn X 0 o = 0 ∧ (∀ i, i ≠ o → hn X 0 i = hn N 0 i) ∧ (X 12000 1) = (N 12000 1) ∧ X 13047 = N 13047) := by
  have j := l.1
  have w := l.2.1
  refine Ok.bnd (l_reads (by omega) l o) ?_
  rintro ⟨_, _⟩ ⟨rfl, C1, N1, A1, rfl, l1, h1, rd⟩
  dsimp only
  rcases rd with ⟨z, -⟩ | ⟨hm, Nr, v, r0, ea, e12⟩
  · exact absurd ⟨⟨o1, by omega⟩, hi⟩ z
  have jz : JJ n C (up N 12000 0 0) A := j.thrown
  have wz : WV (up N 12000 0 0) := w
  have rf := (r0.rf jz wz o1 o2 hi).rows ea e12
  have wd1 : WRD T (rs N N1) := wd.rd rf
  have eI : N1 13047 = N 13047 := rf.2.1 13047 (by decide)
  have hi1 : N1 13047 (12 * 0 + o) = 1 := by rw [eI]; exact hi
  refine Ok.bnd (l_empties l1 o1 o2 hi1) ?_
  rintro _ ⟨C2, X, A2, rfl, l2, ex, hx, hy⟩
  have px : ∀ j, Psi j X = Psi j (rs N N1) := fun j => by
    rw [ex]
    rfl
  have zx : ∀ j, ZZ j (rs N N1) → ZZ j X := fun j h => by
    rw [ex]
    exact h
  have wx : WRD T X := by
    rw [ex]
    exact wd1
  have g2 := w.1.g
  refine Ok.ret ⟨rfl, C2, X, A2, rfl, l2.ups (by omega), wx, fun i k h q => ?_, fun h => ?_, hx, fun i hi' => ?_, ?_, ?_⟩
  · refine h.mono (by rw [px]; exact rf.psi) (fun y z => zx i (rf.zz z))
  · have p1 := rf.psi (j := o)
    by_cases c0 : c + 1 ≤ 0
    · exact FAR.c0 c0
    · have he' := he.resolve_left c0
      by_cases hv : 0 ≤ v
      · have p2 := rf.psi1 hv
        refine ⟨fun q => ?_, fun q => ?_⟩
        · rw [px]
          have := h.1 (by omega)
          omega
        · by_cases y : c ≤ 192
          · have := h.1 y
            right
            rw [px]
            omega
          · rcases h.2 (by omega) with z | z
            · exact Or.inl (zx o (rf.zz z))
            · right
              rw [px]
              omega
      · have wo : ∀ m, 0 ≤ m → m < 150 → wt (rs N N1) m = 1 → (rs N N1) 13024 m = 3 ∨ canR (rs N N1) m := fun m m1 m2 hw' => by
          have q := wait_off l1.1 l1.2.1.1.g m1 m2 (show wt N1 m = 1 from hw')
          exact q.2.2
        obtain ⟨n1, n2⟩ := rf.none j w wo o1 wd.1.2.2.1 (by omega) he'
        refine ⟨fun _ => Or.inl (by rw [px]; exact n1), fun q => Or.inl (zx o (n2 fun m m1 m2 hw' => ?_))⟩
        have := wd.2.2.2.1 m m1 m2 hw'
        have := hc (by omega)
        omega
  · rw [hy i hi']
    exact rf.2.2.2.2.2.2 i hi'
  · rw [hnd_ar ex (by decide)]
    exact congrFun e12 1
  · rw [hnd_ar ex (by decide)]
    exact eI
end EMPTY
