/-! PURE PART, a19: the law's pieces: reads, thins; its main loop -/
/-- what the law keeps all along -/
def LV (n : Int) (C : Cd) (N : Nd) (A : Ad) : Prop := JJ n C N A ∧ WV N ∧ GT N ∧ LST N
theorem mg_ar {N Nr : Nd} (m : MG 0 (up N 12000 0 0) Nr) : (∀ a, a ≠ 12000 → mg N Nr a = Nr a) ∧ mg N Nr 12000 = N 12000 := by
  constructor
  · intro a ha
    funext k
    unfold mg
    by_cases h : gho a = true
    · rw [if_pos ⟨h, fun z => ha z.1⟩]
    · rw [if_neg (fun z => h z.1)]
      have o : a < 13043 ∨ 13067 < a := by
        by_cases z : a < 13043 ∨ 13067 < a
        · exact z
        · refine absurd ?_ h
          unfold gho
          simp
          omega
      rw [m.n0 o, up_s, if_neg (fun z => ha z.1)]
  · funext k
    unfold mg
    split
    · rename_i z
      rw [m.n0 (Or.inl (by decide)), up_s, if_neg (fun q => z.2 ⟨rfl, Or.inl q.2⟩)]
    · rfl
theorem aok_lst {i : Int} (i1 : 0 ≤ i) (i2 : i < 20) : aok 13490 i := ⟨by decide, i1, by rw [show ln 13490 = 20 by decide]; exact i2⟩
section LOOPS
variable {n : Int} {C : Cd} {N X : Nd} {A : Ad}
theorem LV.ups {n' : Int} (l : LV n C N A) (h : n ≤ n') : LV n' C N A := ⟨l.1.ups h, l.2⟩
theorem LST.mo2 (j : JJ n C N A) (g2 : 0 < (N 12000 41)) (l : LST N) (mo : Mo N X) (h : ∀ m, 0 ≤ m → m < 150 → 0 < sn N m → 0 < sn X m) (r : X 13490 = N 13490) : LST X := by
  intro q q1 q2
  rw [r]
  refine (l q q1 q2).imp id fun ⟨m, m1, m2, m3, m4, m5⟩ => ?_
  have m6 : m < 150 := by have := j.jn.g.s.2.2.2.2.1; omega
  have st := letter_st j g2 m1 m6 (Or.inl m3)
  have z := mo.2.2.1 m m1 m2
  have eo : X 13026 m = N 13026 m := st.2.elim (fun q => (z.2.1 q).2) (fun q => (z.2.2 q).1)
  exact ⟨m, m1, by have := mo.1.2; omega, h m m1 m6 m3, by rw [z.1.1, z.1.2]; exact m4, by rw [eo]; exact m5⟩
theorem RDO.seen {o v : Int} {N2 : Nd} (hn9 : n < 10000000) (j : JJ n C N A) (w : WV N) (o1 : 0 ≤ o) (o2 : o < 12) (hi : N 13047 (12 * 0 + o) = 1) (r : RDO N 0 o N2 v) : ∀ m, 0 ≤ m → m < 150 → 0 < sn N m → 0 < sn N2 m := by
  intro m m1 m2 h
  by_cases hv : 0 ≤ v
  · obtain ⟨-, -, -, ⟨g1, g2⟩, -⟩ := r.got hn9 j w o1 o2 hi hv
    by_cases e : m = v
    · rw [e] at h ⊢
      omega
    · rw [g2 m e]
      exact h
  · rcases r with ⟨-, rfl, -⟩ | ⟨h2, ⟨hb, rfl⟩ | ⟨-, ⟨-, l, -⟩ | ⟨⟨v1, v2⟩, -⟩⟩⟩
    · exact h
    · have := hb.1.1
      omega
    · have e : N2 13064 = N 13064 := l.2.1 _ (by decide) (by decide) (by decide) (by decide)
      unfold sn at h ⊢
      rw [e]
      exact h
    · omega
/-- what a read leaves, for the law -/
theorem LV.rd {o v : Int} {Nr : Nd} {C1 : Cd} {A1 : Ad} (hn9 : n < 10000000) (l : LV n C N A) (j1 : JJ (n + 1) C1 (mg N Nr) A1) (o1 : 0 ≤ o) (o2 : o < 12) (hi : N 13047 (12 * 0 + o) = 1) (r : RDO (up N 12000 0 0) 0 o Nr v) : LV (n + 1) C1 (mg N Nr) A1 ∧ (mg N Nr) 13044 0 = N 13044 0 ∧ MG 0 (up N 12000 0 0) Nr := by
  obtain ⟨j, w, gt, ls⟩ := l
  have jz : JJ n C (up N 12000 0 0) A := j.thrown
  have wz : WV (up N 12000 0 0) := w
  obtain ⟨ge, eh⟩ := r.gre jz wz o1 o2 hi
  have w2 : WV Nr := wz.gr ge
  have w3 : WV (mg N Nr) := w2
  have mo : Mo N (mg N Nr) := ge.1.mo
  have se := r.seen hn9 jz wz o1 o2 hi
  have eg : (mg N Nr) 13064 = Nr 13064 := rfl
  have ehh : (mg N Nr) 13044 = Nr 13044 := rfl
  have se' : ∀ m, 0 ≤ m → m < 150 → 0 < sn N m → 0 < sn (mg N Nr) m := fun m m1 m2 h => by
    have q := se m m1 m2 h
    unfold sn at q ⊢
    rw [eg]
    exact q
  refine ⟨⟨j1, w3, fun m m1 m2 hg => se' m m1 m2 (gt m m1 m2 hg), LST.mo2 j w.1.g ls mo se' rfl⟩, ?_, ge.1⟩
  rw [ehh, eh]
  rfl
/-- what a read of the law leaves of the table, but for its rows -/
def RDL (N : Nd) (o : Int) (N2 : Nd) : Prop := (¬ ((0 ≤ o ∧ o ≤ 11) ∧ N 13047 (12 * 0 + o) = 1) ∧ N2 = N) ∨ (((0 ≤ o ∧ o ≤ 11) ∧ N 13047 (12 * 0 + o) = 1) ∧ ∃ Nr v, RDO (up N 12000 0 0) 0 o Nr v ∧ (∀ a, a ≠ 12000 → a ≠ 13490 → a ≠ 15001 → N2 a = Nr a) ∧ N2 12000 = N 12000)
theorem got_put {v m : Int} (v1 : 0 ≤ v) (v2 : v < 150) (m1 : 0 ≤ m) (m2 : m < 150) : got (up N 15001 (v / 64) (lio (N 15001 (v / 64)) (lsl 1 (v % 64)))) m ↔ got N m ∨ m = v := by
  unfold got
  rw [up_s]
  by_cases e : m / 64 = v / 64
  · rw [if_pos ⟨rfl, e⟩, hb_put (by omega) (by omega) (by omega) (by omega), e]
    constructor
    · rintro (h | h)
      · exact Or.inl h
      · exact Or.inr (by omega)
    · rintro (h | h)
      · exact Or.inl h
      · exact Or.inr (by rw [h])
  · rw [if_neg (fun z => e z.2)]
    exact ⟨Or.inl, fun h => h.elim id (fun z => absurd (by rw [z]) e)⟩
theorem l_reads (hn9 : n < 9999900) (l : LV n C N A) (o : Int) : Ok (p_L_reads (mk C N A) 11000 o 15001 13490) (fun r => r.1 = 1 ∧ ∃ C2 N2 A2, r.2 = mk C2 N2 A2 ∧ LV (n + 10) C2 N2 A2 ∧ N2 13044 0 = N 13044 0 ∧ RDL N o N2) := by
  have g2 := l.2.1.1.g
  have s5 := l.1.jn.g.s.2.2.2.2.1
  unfold p_L_reads
  refine Ok.bnd (rd_call (by omega) l.1 g2 rfl o) ?_
  rintro ⟨v, _⟩ ⟨C1, A1, N1, rfl, j1, h⟩
  dsimp only at h ⊢
  rcases h with ⟨hm, Nr, rfl, r⟩ | ⟨hm, rfl, hv⟩
  · obtain ⟨l1, eh, mg'⟩ := l.rd (by omega) j1 hm.1.1 (by omega) hm.2 r
    obtain ⟨ar, a12⟩ := mg_ar mg'
    by_cases hv : v < 0
    · rw [if_pos hv]
      exact Ok.ret ⟨rfl, C1, _, A1, rfl, l1.ups (by omega), eh, Or.inr ⟨hm, Nr, v, r, fun a a1 _ _ => ar a a1, a12⟩⟩
    · rw [if_neg hv]
      have v1 : 0 ≤ v := by omega
      have jz : JJ n C (up N 12000 0 0) A := l.1.thrown
      obtain ⟨v2, st, of, ⟨se, -⟩, fo⟩ := r.got (by omega) jz (show WV (up N 12000 0 0) from l.2.1) hm.1.1 (by omega) hm.2 v1
      have v2' : v < (N 12000 19) := v2
      have of' : N 13025 v = 0 ∨ N 13025 v = 2 := of
      have st' : N 13024 v = 1 ∨ N 13024 v = 3 := st
      have fo' : ∀ a, 0 ≤ a → a < (N 12000 19) → 0 < sn N a → sn N v = 0 → N 13021 a = N 13021 v → N 13022 a = N 13022 v → N 13026 a < N 13026 v := fo
      generalize hX : mg N Nr = X at j1 l1 eh ar a12
      have n0 : ∀ a, a ≠ 12000 → a < 13043 → X a = N a := fun a ha hb => by
        rw [ar a ha, mg'.n0 (Or.inl hb)]
        funext k
        rw [up_s, if_neg (fun z => ha z.1)]
      have sx : sn X v = sn N v + 1 := by
        have q : sn X v = sn Nr v := by
          unfold sn
          rw [ar 13064 (by decide)]
        rw [q, se]
        rfl
      have v3 : v < (X 12000 19) := by rw [a12]; exact v2'
      have ky := l.2.1.2.1 v v1 v2'
      have pb := (l.1.jn.g.m v v1 v2').2.1
      have p3 : (N 12000 11) = 3 := l.2.1.1.1.2.1
      have ob := (l.1.jn.g.m v v1 v2').2.2.2.2.2.1
      have g2x : 0 < (X 12000 41) := by rw [a12]; exact g2
      have o0 := ((l.1.jn.sl v v1 v2').1 st').1
      have sn0 : 0 ≤ sn N v := (l.1.zn.2.2 0 v (Int.le_refl 0) g2 v1 (by omega)).2.1
      refine Ok.bnd (QA.ok (L_msg j1 v1 v3 (w := 0) (by decide) (by decide))) ?_
      rintro ⟨_, _⟩ ⟨rfl, C2, A2, rfl, j2⟩
      dsimp only
      refine Ok.bnd (QA.ok (L_msg j2 v1 v3 (w := 1) (by decide) (by decide))) ?_
      rintro ⟨_, _⟩ ⟨rfl, C3, A3, rfl, j3⟩
      dsimp only
      refine Ok.bnd (QA.ok (L_msg j3 v1 v3 (w := 4) (by decide) (by decide))) ?_
      rintro ⟨_, _⟩ ⟨rfl, C4, A4, rfl, j4⟩
      dsimp only
      refine Ok.bnd (QA.ok (L_msg j4 v1 v3 (w := 3) (by decide) (by decide))) ?_
      rintro ⟨_, _⟩ ⟨rfl, C5, A5, rfl, j5⟩
      dsimp only
      refine Ok.bnd (QA.ok (L_msg j5 v1 v3 (w := 5) (by decide) (by decide))) ?_
      rintro ⟨_, _⟩ ⟨rfl, C6, A6, rfl, j6⟩
      dsimp only
      have x0 : mv X v 0 = N 13024 v := by rw [show mv X v 0 = X 13024 v from rfl, n0 13024 (by decide) (by decide)]
      have x1 : mv X v 1 = N 13025 v := by rw [show mv X v 1 = X 13025 v from rfl, n0 13025 (by decide) (by decide)]
      have x3 : mv X v 3 = N 13021 v := by rw [show mv X v 3 = X 13021 v from rfl, n0 13021 (by decide) (by decide)]
      have x4 : mv X v 4 = N 13026 v := by rw [show mv X v 4 = X 13026 v from rfl, n0 13026 (by decide) (by decide)]
      have x5 : mv X v 5 = N 13022 v := by rw [show mv X v 5 = X 13022 v from rfl, n0 13022 (by decide) (by decide)]
      rw [x0, x1, x3, x4, x5, w_eq (z := 5 * N 13021 v) (by omega) (by omega), w_eq (z := 5 * N 13021 v + N 13022 v) (by omega) (by omega), Option.bind_some]
      refine Ok.bnd (Q := fun s => s = 1) ?_ ?_
      · rcases st' with e | e
        · rw [if_pos e]
          rcases of' with e2 | e2
          · rw [if_pos e2]; exact Ok.ret rfl
          · rw [if_neg (by omega), if_pos e2]; exact Ok.ret rfl
        · rw [if_neg (by omega), if_pos e]
          rcases of' with e2 | e2
          · rw [if_pos e2]; exact Ok.ret rfl
          · rw [if_neg (by omega), if_pos e2]; exact Ok.ret rfl
      rintro _ rfl
      refine Ok.bnd (QA.ok (L_seen1 j6 (Int.le_refl 0) g2x v1 v3)) ?_
      rintro ⟨_, _⟩ ⟨rfl, C7, A7, rfl, j7⟩
      dsimp only
      have sx' : X 13064 (150 * 0 + v) = sn N v + 1 := sx
      rw [sx']
      obtain ⟨e6, e63⟩ := m64 v1 (by omega)
      have gv := aok_got v1 (show v < 150 by omega)
      refine Ok.bnd (Q := fun s => s.1 = 1 ∧ ∃ L, s.2 = mk C7 (rwn X L) A7 ∧ LV (n + 10) C7 (rwn X L) A7) ?_ ?_
      · have l7 : LV (n + 10) C7 X A7 := ⟨j7.ups (by omega), l1.2⟩
        by_cases z : sn N v + 1 = 1
        · rw [if_pos z, gd_t (aok_lst (by omega) (by omega))]
          have r1 : X 13490 = N 13490 := by rw [← hX]; rfl
          have nl : ¬ N 13026 v < rd (mk C7 X A7) 13490 (5 * N 13021 v + N 13022 v) := by
            rw [rd_lst, r1]
            rcases l.2.2.2 (5 * N 13021 v + N 13022 v) (by omega) (by omega) with q | ⟨m, m1, m2, m3, m4, m5⟩
            · omega
            · have km := l.2.1.2.1 m m1 m2
              have := fo' m m1 m2 m3 (by omega) (by omega) (by omega)
              omega
          have ng : ¬ got X v := fun q => by
            have q2 : got N v := by
              unfold got at q ⊢
              rw [← hX] at q
              exact q
            have := l.2.2.1 v v1 (by omega) q2
            omega
          rw [if_neg nl, l_has0 v1 (by omega) ng, Option.bind_some, if_pos rfl, Option.bind_some, ian11, Option.bind_some, gd_t (aok_lst (by omega) (by omega)), wr_lst, Option.bind_some, w_eq (z := N 13026 v + 1) (by omega) (by omega)]
          have eu : up X 13490 (5 * N 13021 v + N 13022 v) (N 13026 v + 1) = rwn X (fun k => if k = 5 * N 13021 v + N 13022 v then N 13026 v + 1 else X 13490 k) := by
            have q := @rwn_up X (X 13490) (5 * N 13021 v + N 13022 v) (N 13026 v + 1)
            rw [rwn_id] at q
            exact q
          rw [eu]
          refine Ok.ret ⟨rfl, _, rfl, l7.1, l7.2.1, l7.2.2.1, fun q q1 q2 => ?_⟩
          show (if q = 5 * N 13021 v + N 13022 v then N 13026 v + 1 else X 13490 q) = 0 ∨ ∃ m, 0 ≤ m ∧ m < (X 12000 19) ∧ 0 < sn X m ∧ 5 * X 13021 m + X 13022 m = q ∧ (if q = 5 * N 13021 v + N 13022 v then N 13026 v + 1 else X 13490 q) = X 13026 m + 1
          by_cases y : q = 5 * N 13021 v + N 13022 v
          · rw [if_pos y]
            refine Or.inr ⟨v, v1, v3, by omega, ?_, ?_⟩
            · rw [n0 13021 (by decide) (by decide), n0 13022 (by decide) (by decide), y]
            · rw [n0 13026 (by decide) (by decide)]
          · rw [if_neg y]
            exact l7.2.2.2 q q1 q2
        · rw [if_neg z]
          refine Ok.ret ⟨rfl, X 13490, by rw [rwn_id], ?_⟩
          rw [rwn_id]
          exact l7
      · rintro ⟨_, _⟩ ⟨rfl, L, rfl, l8⟩
        dsimp only
        rw [e6, e63, gd_t gv, gd_t gv, rd_got, wr_got, Option.bind_some, gd_t (Or.inr rfl)]
        have e15 : rwn X L 15001 = X 15001 := rfl
        refine Ok.ret ⟨rfl, C7, _, A7, rfl, ⟨l8.1, l8.2.1, fun m m1 m2 hg => ?_, l8.2.2.2⟩, ?_, Or.inr ⟨hm, Nr, v, r, fun a a1 a2 a3 => ?_, ?_⟩⟩
        · rcases (got_put v1 (by omega) m1 m2).mp hg with q | q
          · exact l8.2.2.1 m m1 m2 q
          · rw [q]
            show 0 < sn X v
            omega
        · exact eh
        · rw [← ar a a1]
          funext k
          rw [up_s, if_neg (fun z => a3 z.1)]
          unfold rwn
          rw [if_neg a2]
        · rw [← a12]
          rfl
  · rw [if_pos hv]
    exact Ok.ret ⟨rfl, C1, _, A1, rfl, ⟨j1.ups (by omega), l.2⟩, rfl, Or.inl ⟨hm, rfl⟩⟩
end LOOPS
