/-! PURE PART, a22: heals -/
section HEALS2
variable {n : Int} {C : Cd} {N X : Nd} {A : Ad}
theorem LV.mo {C2 : Cd} {A2 : Ad} {N2 : Nd} {n2 : Int} (l : LV n C N A) (w2 : WV N2) (m2 : Mo N N2) (es : N2 13064 = N 13064) (j2 : JJ n2 C2 (mg N N2) A2) : LV n2 C2 (mg N N2) A2 := by
  obtain ⟨j, w, gt, ls⟩ := l
  have m3 : Mo N (mg N N2) := m2
  have w3 : WV (mg N N2) := w2
  have es' : (mg N N2) 13064 = N 13064 := by
    rw [← es]
    rfl
  exact ⟨j2, w3, gt.mo es' rfl, LST.mo j w.1.g ls m3 es' rfl⟩
theorem HLT.gr (h : HLT N) (w : WV N) (m : MG 0 (up N 12000 0 0) X) : HLT X := by
  have n0 : ∀ a, a < 13043 → X a = (up N 12000 0 0) a := fun a ha => m.n0 (Or.inl ha)
  have z : HLT (up N 12000 0 0) := h
  obtain ⟨h1, h2, h3⟩ := z
  have b0 : ∀ p r, brk X p r = brk (up N 12000 0 0) p r := fun p r => brk_ar (n0 13012 (by decide)) (n0 13007 (by decide)) p r
  refine ⟨fun i i1 i2 => ?_, fun y y1 y2 => ?_, fun p p1 p2 => ?_⟩
  · rw [n0 12000 (by decide)]
    exact h1 i i1 i2
  · rw [n0 13033 (by decide)]
    exact h2 y y1 y2
  · obtain ⟨ld, fr⟩ := h3 p p1 p2
    have eo : eol X p = eol (up N 12000 0 0) p := by
      unfold eol
      rw [n0 13013 (by decide), n0 13016 (by decide), n0 13014 (by decide)]
    rw [n0 13013 (by decide)]
    refine ⟨ld, fun r r1 r2 hb => ?_⟩
    rw [b0] at hb
    rw [n0 13014 (by decide), n0 13016 (by decide), n0 13017 (by decide), n0 12000 (by decide), eo]
    exact fr r r1 r2 hb
theorem HLT.mg (h : HLT X) : HLT (mg N X) := h
/-- all come back: the calls -/
theorem l_heals1 (l : LW n C N A) {v : Int} (v1 : -100 ≤ v) (v2 : v ≤ 1000) : Ok (lp (b_L_heals_9 11000) 4 (v, 0, mk C N A)) (fun t => ∃ acc C N A, t = (acc, mk C N A) ∧ LW (n + 3) C N A ∧ ALV N ∧ -400 ≤ acc ∧ acc ≤ 4000) := by
  refine lp_for (fun b s => ∃ acc C N A, s = (acc, b, mk C N A) ∧ LW (n + b) C N A ∧ (∀ i, 0 ≤ i → i < b → bt ((N 12000 2)) i = true) ∧ -100 * (1 + b) ≤ acc ∧ acc ≤ 1000 * (1 + b)) 0 3 ?_ ?_ (by omega) ⟨v, C, N, A, rfl, l.ups (by omega), fun i i1 i2 => by omega, by omega, by omega⟩
  · rintro b _ b1 b2 ⟨acc, C1, N1, A1, rfl, l1, h1, a1, a2⟩
    unfold b_L_heals_9
    dsimp only
    rw [if_pos (show b < 3 by omega)]
    refine Ok.bnd (x_restore l1 b1 (by omega)) ?_
    rintro ⟨r, _⟩ ⟨⟨r1, r2⟩, C2, N2, A2, rfl, l2, h2⟩
    dsimp only at r1 r2 ⊢
    rw [w_eq (z := acc + r) (by omega) (by omega), w_eq (z := b + 1) (by omega) (by omega), Option.bind_some]
    exact Ok.ret ⟨_, C2, N2, A2, rfl, l2.ups (by omega), fun i i1 i2 => h2 i i1 (by omega) (by
      by_cases e : i = b
      · exact Or.inr e
      · exact Or.inl (h1 i i1 (by omega))), by omega, by omega⟩
  · rintro _ ⟨acc, C1, N1, A1, rfl, l1, h1, a1, a2⟩
    unfold b_L_heals_9
    dsimp only
    rw [if_neg (by omega)]
    exact Ok.ret ⟨acc, C1, N1, A1, rfl, l1.ups (by omega), fun i i1 i2 => h1 i i1 (by omega), by omega, by omega⟩
theorem l_heals2 (l : LW n C N A) (a : ALV N) {v : Int} (v1 : -400 ≤ v) (v2 : v ≤ 4000) : Ok (lp (b_L_heals_30 11000) 4 (v, 0, mk C N A)) (fun t => ∃ acc C N A, t = (acc, mk C N A) ∧ LW (n + 3) C N A ∧ ALV N ∧ -700 ≤ acc ∧ acc ≤ 7000) := by
  refine lp_for (fun b s => ∃ acc C N A, s = (acc, b, mk C N A) ∧ LW (n + b) C N A ∧ ALV N ∧ -100 * (4 + b) ≤ acc ∧ acc ≤ 1000 * (4 + b)) 0 3 ?_ ?_ (by omega) ⟨v, C, N, A, rfl, l.ups (by omega), a, by omega, by omega⟩
  · rintro b _ b1 b2 ⟨acc, C1, N1, A1, rfl, l1, h1, a1, a2⟩
    unfold b_L_heals_30
    dsimp only
    rw [if_pos (show b < 3 by omega)]
    refine Ok.bnd (x_fetch (x := 0) l1 h1 b1 (by omega)) ?_
    rintro ⟨r, _⟩ ⟨⟨r1, r2⟩, C2, N2, A2, rfl, l2, h2, -⟩
    dsimp only at r1 r2 ⊢
    rw [w_eq (z := acc + r) (by omega) (by omega), w_eq (z := b + 1) (by omega) (by omega), Option.bind_some]
    exact Ok.ret ⟨_, C2, N2, A2, rfl, l2.ups (by omega), h2, by omega, by omega⟩
  · rintro _ ⟨acc, C1, N1, A1, rfl, l1, h1, a1, a2⟩
    unfold b_L_heals_30
    dsimp only
    rw [if_neg (by omega)]
    exact Ok.ret ⟨acc, C1, N1, A1, rfl, l1.ups (by omega), h1, by omega, by omega⟩
theorem l_heals3 (l : LW n C N A) (a : ALV N) {x v y : Int} (s6 : Int × Int × Mm) (hx : s6.2.1 = x) (hg : GON y N) (v1 : -100000 ≤ v) (v2 : v ≤ 100000) : Ok (lp (b_L_heals_66 11000 s6) 4 (v, 0, mk C N A)) (fun t => ∃ acc C N A, t = (acc, mk C N A) ∧ LW (n + 3) C N A ∧ ALV N ∧ GON y N ∧ v - 300 ≤ acc ∧ acc ≤ v + 3000) := by
  refine lp_for (fun b s => ∃ acc C N A, s = (acc, b, mk C N A) ∧ LW (n + b) C N A ∧ ALV N ∧ GON y N ∧ v - 100 * b ≤ acc ∧ acc ≤ v + 1000 * b) 0 3 ?_ ?_ (by omega) ⟨v, C, N, A, rfl, l.ups (by omega), a, hg, by omega, by omega⟩
  · rintro b _ b1 b2 ⟨acc, C1, N1, A1, rfl, l1, h1, g1, a1, a2⟩
    unfold b_L_heals_66
    dsimp only
    rw [if_pos (show b < 3 by omega)]
    refine Ok.bnd (x_resend (y := y) l1 h1) ?_
    rintro ⟨r, _⟩ ⟨⟨r1, r2⟩, C2, N2, A2, rfl, l2, h2, g2⟩
    dsimp only at r1 r2 ⊢
    rw [w_eq (z := acc + r) (by omega) (by omega), w_eq (z := b + 1) (by omega) (by omega), Option.bind_some]
    exact Ok.ret ⟨_, C2, N2, A2, rfl, l2.ups (by omega), h2, g2 g1, by omega, by omega⟩
  · rintro _ ⟨acc, C1, N1, A1, rfl, l1, h1, g1, a1, a2⟩
    unfold b_L_heals_66
    dsimp only
    rw [if_neg (by omega)]
    exact Ok.ret ⟨acc, C1, N1, A1, rfl, l1.ups (by omega), h1, g1, by omega, by omega⟩
theorem l_heals4 (l : LW n C N A) (a : ALV N) {v : Int} (v1 : -700 ≤ v) (v2 : v ≤ 7000) : Ok (lp (b_L_heals_51 11000) 3 (v, 0, mk C N A)) (fun t => ∃ acc C N A, t = (acc, mk C N A) ∧ LW (n + 8) C N A ∧ ALV N ∧ GON 2 N ∧ -1500 ≤ acc ∧ acc ≤ 15000) := by
  refine lp_for (fun x s => ∃ acc C N A, s = (acc, x, mk C N A) ∧ LW (n + 4 * x) C N A ∧ ALV N ∧ GON x N ∧ -700 - 400 * x ≤ acc ∧ acc ≤ 7000 + 4000 * x) 0 2 ?_ ?_ (by omega) ⟨v, C, N, A, rfl, l.ups (by omega), a, fun y y1 y2 => by omega, by omega, by omega⟩
  · rintro x _ x1 x2 ⟨acc, C1, N1, A1, rfl, l1, h1, g1, a1, a2⟩
    unfold b_L_heals_51
    dsimp only
    rw [if_pos (show x < 2 by omega)]
    refine Ok.bnd (x_abort l1 h1 x1 (by omega)) ?_
    rintro ⟨r, _⟩ ⟨⟨r1, r2⟩, C2, N2, A2, rfl, l2, h2, g2⟩
    dsimp only at r1 r2 ⊢
    rw [w_eq (z := acc + r) (by omega) (by omega), Option.bind_some]
    refine Ok.bnd (l_heals3 (v := acc + r) l2 h2 (acc, x, mk C1 N1 A1) rfl (g2 g1) (by omega) (by omega)) ?_
    rintro _ ⟨acc2, C3, N3, A3, rfl, l3, h3, g3, b1, b2⟩
    dsimp only
    rw [w_eq (z := x + 1) (by omega) (by omega)]
    exact Ok.ret ⟨acc2, C3, N3, A3, rfl, l3.ups (by omega), h3, g3, by omega, by omega⟩
  · rintro _ ⟨acc, C1, N1, A1, rfl, l1, h1, g1, a1, a2⟩
    unfold b_L_heals_51
    dsimp only
    rw [if_neg (by omega)]
    exact Ok.ret ⟨acc, C1, N1, A1, rfl, l1.ups (by omega), h1, fun y y1 y2 => g1 y y1 (by omega), by omega, by omega⟩
theorem l_heals5 (l : LW n C N A) (a : ALV N) (hg : GON 2 N) {v : Int} (v1 : -1500 ≤ v) (v2 : v ≤ 15000) : Ok (lp (b_L_heals_94 11000) 4 (v, 0, mk C N A)) (fun t => ∃ acc C N A, t = (acc, mk C N A) ∧ LW (n + 3) C N A ∧ HLT N ∧ -2000 ≤ acc) := by
  have la := lead_all l a
  refine lp_for (fun b s => ∃ acc C N A, s = (acc, b, mk C N A) ∧ LW (n + b) C N A ∧ ALV N ∧ GON 2 N ∧ FSB b N ∧ -1500 - 100 * b ≤ acc ∧ acc ≤ 15000 + 1000 * b) 0 3 ?_ ?_ (by omega) ⟨v, C, N, A, rfl, l.ups (by omega), a, hg, fun p p1 p2 => ⟨la p p1 p2, fun r r1 r2 hb => by have := (@brk3 N p r).1; omega⟩, by omega, by omega⟩
  · rintro b _ b1 b2 ⟨acc, C1, N1, A1, rfl, l1, h1, g1, f1, a1, a2⟩
    unfold b_L_heals_94
    dsimp only
    rw [if_pos (show b < 3 by omega)]
    refine Ok.bnd (x_fetch (x := 2) l1 h1 b1 (by omega)) ?_
    rintro ⟨r, _⟩ ⟨⟨r1, r2⟩, C2, N2, A2, rfl, l2, h2, g2, f2⟩
    dsimp only at r1 r2 ⊢
    rw [w_eq (z := acc + r) (by omega) (by omega), w_eq (z := b + 1) (by omega) (by omega), Option.bind_some]
    exact Ok.ret ⟨_, C2, N2, A2, rfl, l2.ups (by omega), h2, g2 g1, f2 f1, by omega, by omega⟩
  · rintro _ ⟨acc, C1, N1, A1, rfl, l1, h1, g1, f1, a1, a2⟩
    unfold b_L_heals_94
    dsimp only
    rw [if_neg (by omega)]
    exact Ok.ret ⟨acc, C1, N1, A1, rfl, l1.ups (by omega), ⟨h1, g1, f1⟩, by omega⟩
theorem l_heals6 (l : LW n C N A) (h : HLT N) : Ok (lp (b_L_heals_127 11000) 4 (1, 0, mk C N A)) (fun t => ∃ C2 A2, t = (1, mk C2 N A2) ∧ JJ (n + 12) C2 N A2) := by
  have p3 : (N 12000 11) = 3 := l.2.1.1.1.1.2.1
  refine lp_for (fun p s => ∃ C2 A2, s = (1, p, mk C2 N A2) ∧ JJ (n + 4 * p) C2 N A2) 0 3 ?_ ?_ (by omega) ⟨C, A, rfl, l.1.ups (by omega)⟩
  · rintro p _ p1 p2 ⟨C2, A2, rfl, j2⟩
    obtain ⟨s1, s2, s3⟩ := h.so j2.jn l.2.1.1 p1 (by omega)
    unfold b_L_heals_127
    dsimp only
    rw [if_pos (show p < 3 by omega)]
    refine Ok.bnd (QA.ok (L_part j2 p1 (by omega) (w := 1) (by decide) (by decide))) ?_
    rintro ⟨_, _⟩ ⟨rfl, C3, A3, rfl, j3⟩
    dsimp only
    rw [if_neg (show ¬ pv7 N p 1 < 0 from fun z => by
      have z' : N 13013 p < 0 := z
      omega)]
    refine Ok.bnd (QA.ok (L_part j3 p1 (by omega) (w := 2) (by decide) (by decide))) ?_
    rintro ⟨_, _⟩ ⟨rfl, C4, A4, rfl, j4⟩
    dsimp only
    rw [if_pos (show pv7 N p 2 = 7 from s2)]
    refine Ok.bnd (QA.ok (L_part j4 p1 (by omega) (w := 4) (by decide) (by decide))) ?_
    rintro ⟨_, _⟩ ⟨rfl, C5, A5, rfl, j5⟩
    dsimp only
    refine Ok.bnd (QA.ok (L_part j5 p1 (by omega) (w := 6) (by decide) (by decide))) ?_
    rintro ⟨_, _⟩ ⟨rfl, C6, A6, rfl, j6⟩
    dsimp only
    rw [if_pos (show pv7 N p 4 = pv7 N p 6 from s1), ian11, Option.bind_some, w_eq (z := p + 1) (by omega) (by omega)]
    exact Ok.ret ⟨C6, A6, rfl, j6.ups (by omega)⟩
  · rintro _ ⟨C2, A2, rfl, j2⟩
    unfold b_L_heals_127
    dsimp only
    rw [if_neg (by omega)]
    exact Ok.ret ⟨C2, A2, rfl, j2.ups (by omega)⟩
theorem l_heals (l : LW n C N A) : Ok (p_L_heals (mk C N A) 11000) (fun r => r.1 = 1 ∧ ∃ C2 N2 A2, r.2 = mk C2 N2 A2 ∧ LV (n + 60) C2 N2 A2 ∧ HLT N2 ∧ 0 < mcn N2 0) := by
  unfold p_L_heals
  refine Ok.bnd (x_speed l) ?_
  rintro ⟨v, _⟩ ⟨⟨v1, v2⟩, C1, N1, A1, rfl, l1, -⟩
  dsimp only at v1 v2 ⊢
  refine Ok.bnd (l_heals1 (v := v) l1 (by omega) (by omega)) ?_
  rintro _ ⟨v, C2, N2, A2, rfl, l2, a2, v1, v2⟩
  dsimp only
  refine Ok.bnd (l_heals2 (v := v) l2 a2 (by omega) (by omega)) ?_
  rintro _ ⟨v, C3, N3, A3, rfl, l3, a3, v1, v2⟩
  dsimp only
  refine Ok.bnd (l_heals4 (v := v) l3 a3 (by omega) (by omega)) ?_
  rintro _ ⟨v, C4, N4, A4, rfl, l4, a4, g4, v1, v2⟩
  dsimp only
  refine Ok.bnd (l_heals5 (v := v) l4 a4 g4 (by omega) (by omega)) ?_
  rintro _ ⟨v, C5, N5, A5, rfl, l5, h5, v1⟩
  dsimp only
  rw [if_pos (show (-100000 : Int) < v by omega), Option.bind_some]
  refine Ok.bnd (l_heals6 l5 h5) ?_
  rintro _ ⟨C6, A6, rfl, j6⟩
  dsimp only
  rw [if_neg (show ¬ (1 : Int) = 0 by decide)]
  have g2 := l5.g2
  refine Ok.bnd (QA.ok (L_grp j6 (Int.le_refl 0) g2 (v := 1) (by decide) (by decide))) ?_
  rintro ⟨_, _⟩ ⟨rfl, C7, A7, rfl, j7⟩
  dsimp only
  have nm := (j7.gr (Int.le_refl 0) g2).1.nm
  have l7 : LV (n + 1 + 3 + 3 + 8 + 3 + 12 + 1) C7 N5 A7 := ⟨j7, l5.2.1.1, l5.2.2⟩
  rcases mb_mc nm with ⟨m1, m2⟩ | ⟨m1, m2⟩
  · rw [if_pos (show gtv N5 0 1 = 0 from m1)]
    obtain ⟨N8, b1, b2, b3, b5, b6, b7⟩ := join_m j7 (g := 0) ⟨Int.le_refl 0, g2⟩ (by have := l5.2.1.2; omega) (by omega)
    obtain ⟨z, C8, A8, c1, c2, -, c4⟩ := L_join j7 b7
    have ez := c2 b6
    have nh := (j7.gr (Int.le_refl 0) g2).1.nu.2.1.1
    rw [c1, Option.bind_some]
    dsimp only
    rw [if_neg (by omega)]
    have w8 : WV N8 := (show WV (up N5 12000 0 0) from l5.2.1.1).gr (GRE.ws b1 ((b2 _ (by decide)).trans rfl) ((b2 _ (by decide)).trans rfl) (WS.same ((b2 _ (by decide)).trans rfl) ((b2 _ (by decide)).trans rfl)))
    have mo : Mo N5 N8 := b1.mo
    have h8 : HLT N8 := h5.gr l5.2.1.1 b1
    refine Ok.ret ⟨rfl, C8, _, A8, rfl, (l7.mo w8 mo (b2 _ (by decide)) c4).ups (by omega), h8.mg, ?_⟩
    show 0 < mcn N8 0
    omega
  · rw [if_neg (show ¬ gtv N5 0 1 = 0 from m1)]
    exact Ok.ret ⟨rfl, C7, N5, A7, rfl, l7.ups (by omega), h5, m2⟩
end HEALS2
