/-! PURE PART, a26: a tick behind the healing, whole -/
section TICKS2
variable {n : Int} {C : Cd} {N X : Nd} {A : Ad}
theorem SYE.hw (h : SYE N) (j : JN N) {p : Int} (p1 : 0 ≤ p) (p2 : p < 3) (p3 : p < (N 12000 11)) : hw N p = eol N p := by
  have a := hw_eol j.g j.li p1 p3
  have eb := eol_b j.g.t j.g.p j.g.e p1 p3
  have b : eol N p ≤ Jvm.Pilot.@@N@@.hw N p := hw_ge eb.2 (fun r r1 r2 hb => by rw [h p r p1 p2 r1 r2 hb]; exact Int.le_refl _)
  omega
theorem cuts_ar {x p : Int} (h1 : X 13024 = N 13024) (h2 : X 13025 = N 13025) (h3 : X 13020 = N 13020) (h4 : X 13021 = N 13021) (h5 : (X 12000 19) = (N 12000 19)) : cuts X x p = cuts N x p := by
  unfold cuts
  rw [h5]
  refine su_congr fun i _ _ => ?_
  unfold pcut
  rw [h1, h2, h3, h4]
/-- everyone has just beaten -/
def BTN (N : Nd) : Prop := ∀ i, 0 ≤ i → i < 12 → N 13047 (12 * 0 + i) = 1 → N 13048 (12 * 0 + i) = (N 12000 1)
theorem PH.tk {T : Int} (j : JJ n C N A) (w : WV N) (bn : BTN N) (h : PH T N) (t : TKR N X) : PH T X ∧ (∀ a, 13034 ≤ a → X a = N a) ∧ (X 12000 1) = (N 12000 1) + 1 ∧ (X 12000 19) = (N 12000 19) ∧ (T + 9 ≤ (N 12000 1) → ∀ m, 0 ≤ m → m < (N 12000 19) → (canR X m ↔ canR N m)) := by
  obtain ⟨h1, h2, h3, h4, h5, h6, h7⟩ := h
  obtain ⟨l, N4, ⟨j0, j4⟩, dl, ex, rfl⟩ := t
  have G := j.jn.g
  have s8 := G.s.2.2.2.2.2.2.2.1
  have p3 : (N 12000 11) = 3 := w.1.1.2.1
  have nd : l.Nodup := dl.1.imp fun {a b} z e => by
    rw [e] at z
    exact lt2_ir z
  obtain ⟨j1, mo1⟩ := j0.apFs nd dl.2.1
  have ar := fun (a : Int) (h : a ≠ 13018 ∧ a ≠ 13024 ∧ a ≠ 13026 ∧ a ≠ 13027 ∧ a ≠ 13016) => apFs_ar h l (up N 12000 1 ((N 12000 1) + 1))
  have st0 := fun m => apFs_st0 (m := m) l (up N 12000 1 ((N 12000 1) + 1))
  obtain ⟨q1, q2, q3⟩ := apFs_q l j0 nd dl.2.1 (fun p p1 p2 => h3 p p1 (by have p2' : p < (N 12000 11) := p2; omega))
  have hid : T + 6 ≤ (N 12000 1) → l.foldl apF (up N 12000 1 ((N 12000 1) + 1)) = up N 12000 1 ((N 12000 1) + 1) := fun z => apFs_id l fun m hm y => by
    obtain ⟨m1, m2, m3⟩ := dl.2.1 m hm
    have q := (h6 z).1 m m1 m2 m3
    have y2 : eol N (N 13021 m) < 60 := y.2.1.2
    have y3 : cuts N (N 13020 m) (N 13021 m) = 0 := y.2.2
    rcases q with q | q
    · omega
    · exact q y3
  have ex := ex w.1.1.2.2.2
  generalize l.foldl apF (up N 12000 1 ((N 12000 1) + 1)) = Y at j1 mo1 ar st0 q1 q2 q3 hid ex
  have c1 : CPD Y := fun p p1 p2 => by
    rw [ar 12000 (by decide)] at p2
    rw [ar 14008 (by decide), ar 13012 (by decide)]
    exact w.1.cpd j.jn p p1 p2
  have yp : (Y 12000 11) = 3 := by rw [ar 12000 (by decide)]; exact p3
  have f := tkA_f j1 yp c1 (fun p p1 p2 => by
    rw [ar 13006 (by decide), ar 13012 (by decide)]
    exact tr3 w j.jn p1 p2) (fun i i1 i2 => by rw [ar 12000 (by decide)]; exact h1 i i1 i2) (fun p p1 p2 => by rw [ar 13013 (by decide)]; exact h3 p p1 p2)
  obtain ⟨t1, -⟩ := tkA_c c1
  have arr : ∀ a, a ≠ 12000 → a ≠ 13018 → a ≠ 13024 → a ≠ 13026 → a ≠ 13027 → a ≠ 13016 → a ≠ 13017 → a ≠ 13014 → tkA Y a = N a := fun a a1 a2 a3 a4 a5 a6 a7 a8 => by
    rw [t1 a a6 a7 a8, ar a ⟨a2, a3, a4, a5, a6⟩]
    funext k
    rw [up_s, if_neg (fun z => a1 z.1)]
  have s12 : ∀ i, tkA Y 12000 i = up N 12000 1 ((N 12000 1) + 1) 12000 i := fun i => by
    rw [t1 12000 (by decide) (by decide) (by decide), ar 12000 (by decide)]
  have e4 : N4 = tkA Y := ex.2.2.2 fun k k1 k2 hk => by
    rw [arr 13047 (by decide) (by decide) (by decide) (by decide) (by decide) (by decide) (by decide) (by decide)] at hk
    rw [arr 13048 (by decide) (by decide) (by decide) (by decide) (by decide) (by decide) (by decide) (by decide), s12 1, bn k k1 k2 hk]
    show ¬ 10 < (N 12000 1) + 1 - (N 12000 1)
    omega
  subst e4
  have x12 : ∀ i, xsN (tkA Y) 4 12000 i = up N 12000 1 ((N 12000 1) + 1) 12000 i := s12
  have xa : ∀ a, a ≠ 13032 → xsN (tkA Y) 4 a = tkA Y a := fun a ha => by
    funext k
    unfold xsN
    rw [ra_s, if_neg ha]
  have ye : Y 13013 = N 13013 := (ar 13013 (by decide)).trans rfl
  have eX : ∀ p, 0 ≤ p → p < 3 → eol (xsN (tkA Y) 4) p = eol Y p := fun p p1 p2 => (f p p1 p2).1
  have cX : ∀ x p, cuts (xsN (tkA Y) 4) x p = cuts Y x p := fun x p => cuts_ar ((xa _ (by decide)).trans (t1 _ (by decide) (by decide) (by decide))) ((xa _ (by decide)).trans (t1 _ (by decide) (by decide) (by decide))) ((xa _ (by decide)).trans (t1 _ (by decide) (by decide) (by decide))) ((xa _ (by decide)).trans (t1 _ (by decide) (by decide) (by decide))) (by rw [xa 12000 (by decide), t1 12000 (by decide) (by decide) (by decide)])
  have mSt : xsN (tkA Y) 4 13024 = Y 13024 := (xa _ (by decide)).trans (t1 _ (by decide) (by decide) (by decide))
  have mPa : xsN (tkA Y) 4 13021 = N 13021 := (xa _ (by decide)).trans (arr _ (by decide) (by decide) (by decide) (by decide) (by decide) (by decide) (by decide) (by decide))
  have mPr : xsN (tkA Y) 4 13020 = N 13020 := (xa _ (by decide)).trans (arr _ (by decide) (by decide) (by decide) (by decide) (by decide) (by decide) (by decide) (by decide))
  have mDu : xsN (tkA Y) 4 13028 = N 13028 := (xa _ (by decide)).trans (arr _ (by decide) (by decide) (by decide) (by decide) (by decide) (by decide) (by decide) (by decide))
  have pLe : xsN (tkA Y) 4 13013 = N 13013 := (xa _ (by decide)).trans (arr _ (by decide) (by decide) (by decide) (by decide) (by decide) (by decide) (by decide) (by decide))
  have nowX : xsN (tkA Y) 4 12000 1 = (N 12000 1) + 1 := x12 1
  have dly : DLY T (xsN (tkA Y) 4) := fun m m1 m2 hs => by
    rw [x12 19] at m2
    rw [mSt] at hs
    rw [mDu]
    exact h4 m m1 m2 (st0 m hs)
  have qui : T + 6 ≤ (N 12000 1) + 1 → QUI (xsN (tkA Y) 4) := fun z m m1 m2 hs => by
    rw [x12 19] at m2
    have m2' : m < (N 12000 19) := m2
    have gm := (G.m m m1 m2').2.1
    have d := h4 m m1 m2' (by rw [mSt] at hs; exact st0 m hs)
    rw [mPa, mPr, eX _ gm.1 (by omega), cX]
    by_cases y : T + 6 ≤ (N 12000 1)
    · have e := hid y
      rw [mSt, e] at hs
      have q := (h6 y).1 m m1 m2' hs
      rw [e]
      exact q
    · rw [mSt] at hs
      have q := q3 m (dl.2.2 m m1 m2' (st0 m hs)) (show N 13028 m ≤ (N 12000 1) + 1 by omega)
      rw [q2]
      exact q.resolve_left (fun x => x hs)
  have syn : T + 6 ≤ (N 12000 1) + 1 → SYN T (xsN (tkA Y) 4) := fun z p r p1 p2 r1 r2 r3 hb => by
    rw [pLe] at r3
    have pp : p < (N 12000 11) := by omega
    rw [eX p p1 p2]
    rcases (f p p1 p2).2 r r1 r2 (by rw [ye]; exact r3) hb with y | ⟨y1, y2, y3, y4⟩
    · exact Or.inl y
    · right
      have yc : Y 13017 = N 13017 := (ar 13017 (by decide)).trans rfl
      have y2' : xsN (tkA Y) 4 13017 (3 * p + r) = Y 13017 (3 * p + r) := y2
      rw [y2', yc]
      by_cases x : T + 6 ≤ (N 12000 1)
      · have e := hid x
        rw [e] at y1 y3
        rcases (h6 x).2 p r p1 p2 r1 r2 r3 y1 with q | q
        · exact absurd q y3
        · exact q
      · have rc := (G.e p r p1 pp r1 r2).2
        omega
  have sye : T + 9 ≤ (N 12000 1) + 1 → SYE (xsN (tkA Y) 4) := fun z p r p1 p2 r1 r2 hb => by
    have pp : p < (N 12000 11) := by omega
    have ld : 0 ≤ xsN (tkA Y) 4 13013 p := by rw [pLe]; exact h3 p p1 p2
    by_cases r3 : r = N 13013 p
    · rw [eol_lead ld, pLe, r3]
    · rw [eX p p1 p2]
      rcases (f p p1 p2).2 r r1 r2 (by rw [ye]; exact r3) hb with y | ⟨y1, y2, y3, y4⟩
      · exact y
      · exfalso
        have e := hid (by omega)
        rw [e] at y1 y3 y4
        have rc := (G.e p r p1 pp r1 r2).2
        by_cases x : T + 9 ≤ (N 12000 1)
        · exact y3 (h7 x p r p1 p2 r1 r2 y1)
        · rcases (h6 (by omega)).2 p r p1 p2 r1 r2 r3 y1 with q | q
          · exact y3 q
          · have y4' : ¬ 3 < Jvm.Pilot.@@N@@.w ((N 12000 1) + 1 - N 13017 (3 * p + r)) := y4
            rw [w_eq (by omega) (by omega)] at y4'
            omega
  refine ⟨⟨fun i i1 i2 => ?_, fun y y1 y2 => ?_, fun p p1 p2 => by rw [pLe]; exact h3 p p1 p2, dly, ?_, fun z => ?_, fun z => ?_⟩, fun a ha => ?_, nowX, x12 19, fun z m m1 m2 => ?_⟩
  · rw [x12 2]
    exact h1 i i1 i2
  · rw [xa 13033 (by decide), arr 13033 (by decide) (by decide) (by decide) (by decide) (by decide) (by decide) (by decide) (by decide)]
    exact h2 y y1 y2
  · rw [nowX]
    omega
  · rw [nowX] at z
    exact ⟨qui z, syn z⟩
  · rw [nowX] at z
    exact sye z
  · rw [xa a (by omega), arr a (by omega) (by omega) (by omega) (by omega) (by omega) (by omega) (by omega) (by omega)]
  · have e := hid (by omega)
    have gm := (G.m m m1 m2).2.1
    have pp : N 13021 m < 3 := by omega
    have sX := sye (by omega)
    have sN := h7 z
    have sX' : SYE (tkA Y) := sX
    have xp : (tkA Y) 12000 11 = 3 := by rw [s12 11]; exact p3
    have same : ∀ a, a ≠ 12000 → a ≠ 13032 → a ≠ 13016 → a ≠ 13017 → a ≠ 13014 → xsN (tkA Y) 4 a = N a := fun a a1 a2 a3 a4 a5 => by
      rw [xa a a2, t1 a a3 a4 a5, e]
      funext k
      rw [up_s, if_neg (fun z => a1 z.1)]
    have hwX : hw (xsN (tkA Y) 4) (N 13021 m) = eol (tkA Y) (N 13021 m) := sX'.hw j4 gm.1 pp (by rw [xp]; exact pp)
    have hwN := sN.hw j.jn gm.1 pp gm.2
    have hwe : hw (xsN (tkA Y) 4) (N 13021 m) = hw N (N 13021 m) := by
      rw [hwX, hwN, (f _ gm.1 pp).1, e]
      rfl
    have soe : so (xsN (tkA Y) 4) (N 13021 m) = so N (N 13021 m) := by
      unfold so
      rw [hwe]
      congr 1
      funext k
      unfold opn
      rw [same 13018 (by decide) (by decide) (by decide) (by decide) (by decide), same 13025 (by decide) (by decide) (by decide) (by decide) (by decide)]
    unfold canR
    rw [mPa, soe, same 13024 (by decide) (by decide) (by decide) (by decide) (by decide), same 13026 (by decide) (by decide) (by decide) (by decide) (by decide), same 13025 (by decide) (by decide) (by decide) (by decide) (by decide)]
end TICKS2
