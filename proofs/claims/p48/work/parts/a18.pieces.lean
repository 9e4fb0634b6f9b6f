/-! PURE PART, a18: the law's pieces: some, reads, thins, writes, breaks, shares -/
/-- the law's rows, apart -/
def rwn (N : Nd) (L : Int → Int) : Nd := fun a k => if a = 13490 then L k else N a k
theorem rwn_id {N : Nd} : rwn N (N 13490) = N := by
  funext a k
  unfold rwn
  by_cases e : a = 13490
  · rw [if_pos e, e]
  · rw [if_neg e]
theorem rwn_up {N : Nd} {L : Int → Int} {i v : Int} : up (rwn N L) 13490 i v = rwn N (fun k => if k = i then v else L k) := by
  funext a k
  unfold rwn
  rw [up_s]
  by_cases e : a = 13490
  · rw [if_pos e, if_pos e]
    by_cases z : k = i
    · rw [if_pos ⟨e, z⟩]
      exact (if_pos z).symm
    · rw [if_neg (fun q => z q.2)]
      exact (if_neg z).symm
  · rw [if_neg e, if_neg (fun q => e q.1), if_neg e]
theorem ian1 {x : Int} (h : x = 0 ∨ x = 1) : ian x 1 = x := by rcases h with rfl | rfl <;> decide
theorem ian0 {x : Int} (h : x = 0 ∨ x = 1) : ian x 0 = 0 := by rcases h with rfl | rfl <;> decide
section PIECES
variable {n : Int} {C : Cd} {N : Nd} {A : Ad}
theorem LW.ups {n' : Int} (l : LW n C N A) (h : n ≤ n') : LW n' C N A := ⟨l.1.ups h, l.2⟩
theorem KW.ups {n' : Int} {r : Int × Mm} (l : KW n r) (h : n ≤ n') : KW n' r := by
  obtain ⟨a, C2, N2, A2, e, l2⟩ := l
  exact ⟨a, C2, N2, A2, e, l2.ups h⟩
theorem Ok.im {α : Type} {e : Option α} {P Q : α → Prop} (h : Ok e P) (k : ∀ x, P x → Q x) : Ok e Q := by
  obtain ⟨r, e, p⟩ := h
  exact ⟨r, e, k r p⟩
theorem l_some {sl a : Int} {sc : Int → Int} (j : JJ n C N A) (g2 : 0 < (N 12000 41)) (s1 : 0 ≤ sl) (s2 : sl ≤ 260) (a1 : 0 ≤ a) (a2 : a < 1000) : Ok (p_L_some (mk C N A) sl sc 11000 a) (fun r => (0 ≤ r.1 ∧ r.1 ≤ 11) ∧ ∃ C2 A2, r.2 = mk C2 N A2 ∧ JJ (n + 1) C2 N A2) := by
  unfold p_L_some
  refine Ok.bnd (QA.ok (L_grp j (Int.le_refl 0) g2 (v := 1) (by decide) (by decide))) ?_
  rintro ⟨b, _⟩ ⟨-, C1, A1, rfl, j1⟩
  dsimp only
  refine Ok.bnd (Q := fun t => 0 ≤ t ∧ t ≤ 12) ?_ ?_
  · refine lp_for (fun i s => ∃ c, s = (c, i) ∧ 0 ≤ c ∧ c ≤ i) 0 12 ?_ ?_ (by omega) ⟨0, rfl, Int.le_refl _, Int.le_refl _⟩
    · rintro i _ i1 i2 ⟨c, rfl, c1, c2⟩
      have m := @ian_m (shr b i) 1 (by decide) (by decide)
      unfold b_L_some_13
      dsimp only
      rw [if_pos (show i < 12 by omega), Option.bind_some, w_eq (by omega) (by omega), w_eq (by omega) (by omega)]
      exact Ok.ret ⟨_, rfl, by omega, by omega⟩
    · rintro _ ⟨c, rfl, c1, c2⟩
      unfold b_L_some_13
      dsimp only
      rw [if_neg (by omega)]
      exact Ok.ret ⟨c1, by omega⟩
  · rintro t ⟨t1, t2⟩
    refine Ok.bnd (Q := fun _ => True) ?_ ?_
    · by_cases h : t = 0
      · rw [if_pos h]
        exact Ok.ret trivial
      · obtain ⟨v, e, -⟩ := l_cell (M := mk C1 N A1) (sc := sc) (b := t) s1 s2 a1 a2 (by omega) (by omega)
        rw [if_neg h, e]
        exact Ok.ret trivial
    · intro s4 _
      refine Ok.bnd (Q := Sum.elim (fun r : Int × Mm => (0 ≤ r.1 ∧ r.1 ≤ 11) ∧ r.2 = mk C1 N A1) (fun _ => True)) ?_ ?_
      · refine lp_for (fun i s => ∃ c, s = (c, i)) 0 12 ?_ ?_ (by omega) ⟨_, rfl⟩
        · rintro i _ i1 i2 ⟨c, rfl⟩
          unfold b_L_some_58
          dsimp only
          rw [if_pos (show i < 12 by omega)]
          have wi : w (i + 1) = i + 1 := w_eq (by omega) (by omega)
          by_cases e : ian (shr b i) 1 = 1
          · rw [if_pos e]
            by_cases z : c = 0
            · rw [if_pos z]
              exact Ok.ret ⟨⟨i1, by omega⟩, rfl⟩
            · rw [if_neg z, wi]
              exact Ok.ret ⟨_, rfl⟩
          · rw [if_neg e, wi]
            exact Ok.ret ⟨_, rfl⟩
        · rintro _ ⟨c, rfl⟩
          unfold b_L_some_58
          dsimp only
          rw [if_neg (by omega)]
          exact Ok.ret trivial
      · rintro (r | u) h
        · obtain ⟨h1, h2⟩ := h
          exact Ok.ret ⟨h1, C1, A1, h2, j1⟩
        · exact Ok.ret ⟨⟨(show (0 : Int) ≤ 0 by decide), (show (0 : Int) ≤ 11 by decide)⟩, C1, A1, rfl, j1⟩
theorem l_writes {sl a : Int} {sc : Int → Int} (hn : n < 9999990) (l : LW n C N A) (s1 : 0 ≤ sl) (s2 : sl ≤ 260) (a1 : 0 ≤ a) (a2 : a < 900) : Ok (p_L_writes (mk C N A) sl sc 11000 a) (KW (n + 2)) := by
  have w1 : w (a + 1) = a + 1 := w_eq (by omega) (by omega)
  have w2 : w (a + 2) = a + 2 := w_eq (by omega) (by omega)
  have w3 : w (a + 3) = a + 3 := w_eq (by omega) (by omega)
  have w4 : w (a + 4) = a + 4 := w_eq (by omega) (by omega)
  have cell : ∀ i b, 0 ≤ i → i < 1000 → 0 < b → b < 10000 → ∃ v, p_L_cell (mk C N A) sl sc i b = some v ∧ 0 ≤ v ∧ v < b := fun i b i1 i2 b1 b2 => l_cell s1 s2 i1 i2 b1 b2
  unfold p_L_writes
  rw [w1, w2, w3, w4]
  obtain ⟨x, ex, x1, x2⟩ := cell (a + 1) 2 (by omega) (by omega) (by decide) (by decide)
  obtain ⟨k, ek, k1, k2⟩ := cell a 8 (by omega) (by omega) (by decide) (by decide)
  rw [ex, Option.bind_some, ek, Option.bind_some]
  refine Ok.bnd (Q := Sum.elim (KW (n + 2)) (fun M => M = mk C N A)) ?_ ?_
  · have fin : ∀ {e : Option (Int × Mm)}, Ok e (KW (n + 1)) → Ok (e.bind fun r => some (Sum.inl (β := Mm) (r.1, r.2))) (Sum.elim (KW (n + 2)) (fun M => M = mk C N A)) := fun h => Ok.bnd h (fun r hr => Ok.ret (hr.ups (by omega)))
    by_cases h0 : k = 0
    · rw [if_pos h0]
      exact Ok.ret rfl
    rw [if_neg h0]
    by_cases h1 : k = 1
    · rw [if_pos h1]
      exact Ok.ret rfl
    rw [if_neg h1]
    by_cases h2 : k = 2
    · rw [if_pos h2]
      obtain ⟨c, ec, c1, c2⟩ := cell (a + 2) 5 (by omega) (by omega) (by decide) (by decide)
      obtain ⟨d, ed, d1, d2⟩ := cell (a + 3) 4000 (by omega) (by omega) (by decide) (by decide)
      rw [ec, Option.bind_some, ed, Option.bind_some]
      exact fin (k_sendSome l)
    rw [if_neg h2]
    by_cases h3 : k = 3
    · rw [if_pos h3]
      obtain ⟨c, ec, c1, c2⟩ := cell (a + 2) 5 (by omega) (by omega) (by decide) (by decide)
      obtain ⟨d, ed, d1, d2⟩ := cell (a + 3) 20 (by omega) (by omega) (by decide) (by decide)
      obtain ⟨f, ef, f1, f2⟩ := cell (a + 4) 6 (by omega) (by omega) (by decide) (by decide)
      rw [ec, Option.bind_some, ed, Option.bind_some, ef, Option.bind_some, w_eq (z := 1 + f) (by omega) (by omega)]
      exact fin (k_sendLater l ⟨c1, by omega⟩ (by omega))
    rw [if_neg h3]
    by_cases h4 : k = 4
    · rw [if_pos h4]
      exact fin (k_begin (by omega) l x)
    rw [if_neg h4]
    by_cases h5 : k = 5
    · rw [if_pos h5]
      exact fin (k_commit l x)
    rw [if_neg h5]
    by_cases h6 : k = 6
    · rw [if_pos h6]
      obtain ⟨c, ec, c1, c2⟩ := cell (a + 2) 3 (by omega) (by omega) (by decide) (by decide)
      rw [ec, Option.bind_some]
      by_cases hc : c = 0
      · rw [if_pos hc]
        exact fin (k_abort l x)
      · rw [if_neg hc]
        refine Ok.bnd (l_some l.1 l.g2 s1 s2 (by omega) (by omega)) ?_
        rintro ⟨o, _⟩ ⟨-, C2, A2, rfl, j2⟩
        have l2 : LW (n + 1) C2 N A2 := ⟨j2, l.2⟩
        exact Ok.bnd (k_attach l2 x 0 o) (fun r hr => Ok.ret (hr.ups (by omega)))
    rw [if_neg h6]
    obtain ⟨c, ec, c1, c2⟩ := cell (a + 2) 3 (by omega) (by omega) (by decide) (by decide)
    rw [ec, Option.bind_some]
    exact fin (k_resend l)
  · rintro (r | M) h
    · exact Ok.ret h
    · have h' : M = mk C N A := h
      subst h'
      show Ok ((p_L_cell (mk C N A) sl sc (a + 2) 5).bind fun r4 => (p_L_cell (mk C N A) sl sc (a + 3) 20).bind fun r5 => (q_L_send (mk C N A) 11000 x 0 r4 (w (r5 - 1))).bind fun r6 => some (r6.1, r6.2)) (KW (n + 2))
      obtain ⟨c, ec, c1, c2⟩ := cell (a + 2) 5 (by omega) (by omega) (by decide) (by decide)
      obtain ⟨d, ed, d1, d2⟩ := cell (a + 3) 20 (by omega) (by omega) (by decide) (by decide)
      rw [ec, Option.bind_some, ed, Option.bind_some]
      exact Ok.bnd (k_send l ⟨c1, by omega⟩) (fun r hr => Ok.ret (hr.ups (by omega)))
theorem l_breaks {sl a : Int} {sc : Int → Int} (hn : n < 9999990) (l : LW n C N A) (s1 : 0 ≤ sl) (s2 : sl ≤ 260) (a1 : 0 ≤ a) (a2 : a < 900) : Ok (p_L_breaks (mk C N A) sl sc 11000 a) (KW (n + 2)) := by
  have w1 : w (a + 1) = a + 1 := w_eq (by omega) (by omega)
  have cell : ∀ i b, 0 ≤ i → i < 1000 → 0 < b → b < 10000 → ∃ v, p_L_cell (mk C N A) sl sc i b = some v ∧ 0 ≤ v ∧ v < b := fun i b i1 i2 b1 b2 => l_cell s1 s2 i1 i2 b1 b2
  have fin : ∀ {e : Option (Int × Mm)}, Ok e (KW (n + 1)) → Ok (e.bind fun r => some (r.1, r.2)) (KW (n + 2)) := fun h => Ok.bnd h (fun r hr => Ok.ret (hr.ups (by omega)))
  unfold p_L_breaks
  rw [w1]
  obtain ⟨k, ek, k1, k2⟩ := cell a 6 (by omega) (by omega) (by decide) (by decide)
  obtain ⟨c, ec, c1, c2⟩ := cell (a + 1) 3 (by omega) (by omega) (by decide) (by decide)
  obtain ⟨d, ed, d1, d2⟩ := cell (a + 1) 4 (by omega) (by omega) (by decide) (by decide)
  rw [ek, Option.bind_some]
  by_cases h0 : k = 0
  · rw [if_pos h0, ec, Option.bind_some]
    exact fin (k_fail l c)
  rw [if_neg h0]
  by_cases h1 : k = 1
  · rw [if_pos h1, ec, Option.bind_some]
    exact fin (k_restore l c)
  rw [if_neg h1]
  by_cases h2 : k = 2
  · rw [if_pos h2, ec, Option.bind_some]
    exact fin (k_fetch l c)
  rw [if_neg h2]
  by_cases h3 : k = 3
  · rw [if_pos h3, ed, Option.bind_some]
    exact fin (k_speed l d)
  rw [if_neg h3, ed, Option.bind_some]
  exact fin (k_tick (by omega) l _)
theorem gen_had (j : JJ n C N A) (g2 : 0 < (N 12000 41)) (h : N 13043 0 < 10) : N 13044 0 ≤ 7 := by
  have a := (j.gr (Int.le_refl 0) g2).1.nu.2.2.1
  have m4 := j.zn.2.1 0 (Int.le_refl 0) g2
  omega
theorem l_shares {sl a : Int} {sc : Int → Int} (hn : n < 9999990) (l : LW n C N A) (s1 : 0 ≤ sl) (s2 : sl ≤ 260) (a1 : 0 ≤ a) (a2 : a < 900) : Ok (p_L_shares (mk C N A) sl sc 11000 a) (KW (n + 4)) := by
  have w1 : w (a + 1) = a + 1 := w_eq (by omega) (by omega)
  have w2 : w (a + 2) = a + 2 := w_eq (by omega) (by omega)
  have hv : ∀ {m : Int} {C : Cd} {A : Ad}, LW m C N A → m ≤ n + 4 → Ok (some ((0 : Int), mk C N A)) (KW (n + 4)) := fun l h => Ok.ret ⟨(show (-99 : Int) ≤ 0 by decide), _, _, _, rfl, l.ups h⟩
  unfold p_L_shares
  rw [w1, w2]
  refine Ok.bnd (l_some l.1 l.g2 s1 s2 (by omega) (by omega)) ?_
  rintro ⟨o, _⟩ ⟨-, C2, A2, rfl, j2⟩
  dsimp only
  have l2 : LW (n + 1) C2 N A2 := ⟨j2, l.2⟩
  have cell : ∀ i b, 0 ≤ i → i < 1000 → 0 < b → b < 10000 → ∃ v, p_L_cell (mk C2 N A2) sl sc i b = some v ∧ 0 ≤ v ∧ v < b := fun i b i1 i2 b1 b2 => l_cell s1 s2 i1 i2 b1 b2
  have fin : ∀ {e : Option (Int × Mm)}, Ok e (KW (n + 1 + 1)) → Ok (e.bind fun r => some (r.1, r.2)) (KW (n + 4)) := fun h => Ok.bnd h (fun r hr => Ok.ret (hr.ups (by omega)))
  obtain ⟨k, ek, k1, k2⟩ := cell a 7 (by omega) (by omega) (by decide) (by decide)
  obtain ⟨c, ec, c1, c2⟩ := cell (a + 2) 3 (by omega) (by omega) (by decide) (by decide)
  obtain ⟨d, ed, d1, d2⟩ := cell (a + 2) 40 (by omega) (by omega) (by decide) (by decide)
  rw [ek, Option.bind_some]
  by_cases h0 : k = 0
  · rw [if_pos h0]
    refine Ok.bnd (QA.ok (L_grp j2 (Int.le_refl 0) l.g2 (v := 0) (by decide) (by decide))) ?_
    rintro ⟨_, _⟩ ⟨rfl, C3, A3, rfl, j3⟩
    dsimp only
    have l3 : LW (n + 1 + 1) C3 N A3 := ⟨j3, l.2⟩
    by_cases z : gtv N 0 0 < 10
    · rw [if_pos z]
      exact Ok.bnd (k_join l3 rfl (gen_had j3 l.g2 z)) (fun r hr => Ok.ret (hr.ups (by omega)))
    · rw [if_neg z]
      exact hv l3 (by omega)
  rw [if_neg h0]
  by_cases h1 : k = 1
  · rw [if_pos h1, ec, Option.bind_some]
    by_cases z : c = 0
    · rw [if_pos z]
      exact fin (k_leave l2 rfl o)
    · rw [if_neg z]
      exact hv l2 (by omega)
  rw [if_neg h1]
  by_cases h2 : k = 2
  · rw [if_pos h2]
    exact fin (k_commitOffsets l2 rfl o)
  rw [if_neg h2]
  by_cases h3 : k = 3
  · rw [if_pos h3, ed, Option.bind_some]
    exact fin (k_retry l2 rfl o d)
  rw [if_neg h3]
  by_cases h4 : k = 4
  · rw [if_pos h4, ed, Option.bind_some]
    exact fin (k_done l2 rfl o d)
  rw [if_neg h4]
  exact fin (k_beat l2 rfl o)
end PIECES
