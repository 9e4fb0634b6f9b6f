/-! PURE PART, a07: what stays -/
/-- the law's world: one topic of three partitions, three replicas each, compacted; two producers; one group, that reads it -/
def SH (N : Nd) : Prop := ((N 12000 4) = 1 ∧ (N 12000 11) = 3 ∧ (N 12000 30) = 2 ∧ (N 12000 41) = 1) ∧ (N 13005 0 = 3 ∧ N 13006 0 = 3 ∧ N 13007 0 = 0 ∧ N 14008 0 = 1) ∧ N 13042 0 = 1
/-- the one group's cells -/
abbrev sn (N : Nd) (m : Int) : Int := N 13064 (150 * 0 + m)
abbrev wt (N : Nd) (m : Int) : Int := N 13059 (150 * 0 + m)
abbrev du (N : Nd) (m : Int) : Int := N 13060 (150 * 0 + m)
abbrev ow (N : Nd) (p : Int) : Int := N 13055 (9 * 0 + p)
abbrev tg (N : Nd) (p : Int) : Int := N 13056 (9 * 0 + p)
section STAYS
variable {n : Int} {C : Cd} {N : Nd} {A : Ad}
/-- a message that was seen stands where it stood, or is removed -/
theorem seen_st (j : JJ n C N A) (g2 : 0 < (N 12000 41)) {m : Int} (m1 : 0 ≤ m) (m2 : m < 150) (h : 0 < sn N m) : m < (N 12000 19) ∧ (N 13024 m = 3 ∨ canR N m) := by
  obtain ⟨-, a2, a3, -⟩ := (j.gr (Int.le_refl 0) g2).1.le m m1 m2
  by_cases z : C 17000 0 m = 0
  · have q : N 13064 (150 * 0 + m) = 0 := (a3 z).2.2
    have h' : 0 < N 13064 (150 * 0 + m) := h
    omega
  · exact ⟨(a2 z).1, (a2 z).2.2.1⟩
/-- what was got was seen -/
def GT (N : Nd) : Prop := ∀ m, 0 ≤ m → m < 150 → got N m → 0 < sn N m
theorem st_at (j : JN N) {m : Int} (m1 : 0 ≤ m) (m2 : m < (N 12000 19)) (h : N 13024 m = 1) : (0 ≤ N 13021 m ∧ N 13021 m < (N 12000 11)) ∧ (0 ≤ N 13026 m ∧ N 13026 m < 60) ∧ stA N (N 13021 m) (N 13026 m) ∧ N 13018 (60 * N 13021 m + N 13026 m) = m := by
  have g := (j.g.m m m1 m2)
  have s := (j.sl m m1 m2).1 (Or.inl h)
  exact ⟨g.2.1, ⟨s.1, g.2.2.2.2.2.1.2⟩, ⟨by rw [s.2]; exact m1, by rw [s.2]; exact h⟩, s.2⟩
theorem ian11 : ian 1 1 = 1 := by decide
/-- an answer, and the table as it was -/
abbrev KN (n : Int) (N : Nd) (v : Int) : Int × Mm → Prop := fun r => r.1 = v ∧ ∃ C2 A2, r.2 = mk C2 N A2 ∧ JJ n C2 N A2
theorem QA.ok {e : Option (Int × Mm)} {v : Int} (h : QA n N e v) : Ok e (KN (n + 1) N v) := by
  obtain ⟨C2, A2, h1, h2⟩ := h
  exact ⟨_, h1, rfl, C2, A2, rfl, h2⟩
theorem l_stays (j : JJ n C N A) (g2 : 0 < (N 12000 41)) (gt : GT N) : Ok (p_L_stays (mk C N A) 11000 15001) (KN (n + 700) N 1) := by
  have s5 := j.jn.g.s.2.2.2.2.1
  have s2 := j.jn.g.s.2.1
  unfold p_L_stays
  refine Ok.bnd (QA.ok (L_count4 j)) ?_
  rintro ⟨_, _⟩ ⟨rfl, C1, A1, rfl, j1⟩
  dsimp only
  refine Ok.bnd (QA.ok (L_aud j1)) ?_
  rintro ⟨_, _⟩ ⟨rfl, C2, A2, rfl, j2⟩
  dsimp only
  rw [if_pos rfl, Option.bind_some]
  refine Ok.bnd (Q := fun t => ∃ C3 A3, t = (1, mk C3 N A3) ∧ JJ (n + 700) C3 N A3) ?_ ?_
  · refine lp_for (fun i s => ∃ C3 A3, s = (1, i, mk C3 N A3) ∧ JJ (n + 2 + 4 * i) C3 N A3) 0 ((N 12000 19)).toNat ?_ ?_ (by omega) ⟨C2, A2, rfl, j2.ups (by omega)⟩
    · rintro i _ i1 i2 ⟨C3, A3, rfl, j3⟩
      have i3 : i < (N 12000 19) := by omega
      have wi : w (i + 1) = i + 1 := w_eq (by omega) (by omega)
      unfold b_L_stays_25
      dsimp only
      rw [if_pos i3, if_neg (show ¬ (1 : Int) = 0 by decide)]
      refine Ok.bnd (QA.ok (L_msg j3 i1 i3 (w := 0) (by decide) (by decide))) ?_
      rintro ⟨_, _⟩ ⟨rfl, C4, A4, rfl, j4⟩
      dsimp only
      rw [show mv N i 0 = N 13024 i from rfl]
      refine Ok.bnd (Q := fun r => r = 0 ∨ (N 13024 i = 1 ∨ N 13024 i = 3)) ?_ ?_
      · by_cases gi : got N i
        · rw [l_has1 i1 (by omega) gi]
          have st := (seen_st j4 g2 i1 (by omega) (gt i i1 (by omega) gi)).2
          exact Ok.ret (Or.inr (st.elim Or.inr (fun q => Or.inl q.1)))
        · rw [l_has0 i1 (by omega) gi]
          exact Ok.ret (Or.inl rfl)
      · intro r hr
        refine Ok.bnd (Q := fun s => s = 1) ?_ ?_
        · rcases hr with rfl | hr | hr
          · rw [if_pos rfl]; exact Ok.ret rfl
          · by_cases z : r = 0
            · rw [if_pos z]; exact Ok.ret rfl
            · rw [if_neg z, if_pos hr]; exact Ok.ret rfl
          · by_cases z : r = 0
            · rw [if_pos z]; exact Ok.ret rfl
            · rw [if_neg z, if_neg (by omega), if_pos hr]; exact Ok.ret rfl
        · rintro _ rfl
          by_cases z : N 13024 i = 1
          · rw [if_pos z]
            obtain ⟨p1, o1, sa, le⟩ := st_at j4.jn i1 i3 z
            refine Ok.bnd (QA.ok (L_msg j4 i1 i3 (w := 3) (by decide) (by decide))) ?_
            rintro ⟨_, _⟩ ⟨rfl, C5, A5, rfl, j5⟩
            dsimp only
            refine Ok.bnd (QA.ok (L_msg j5 i1 i3 (w := 4) (by decide) (by decide))) ?_
            rintro ⟨_, _⟩ ⟨rfl, C6, A6, rfl, j6⟩
            dsimp only
            rw [show mv N i 3 = N 13021 i from rfl, show mv N i 4 = N 13026 i from rfl]
            refine Ok.bnd (QA.ok (L_at1 j6 p1.1 p1.2 o1.1 o1.2 sa)) ?_
            rintro ⟨_, _⟩ ⟨rfl, C7, A7, rfl, j7⟩
            dsimp only
            rw [if_pos le, Option.bind_some, ian11, wi]
            exact Ok.ret ⟨C7, A7, rfl, j7.ups (by omega)⟩
          · rw [if_neg z, Option.bind_some, ian11, wi]
            exact Ok.ret ⟨C4, A4, rfl, j4.ups (by omega)⟩
    · rintro _ ⟨C3, A3, rfl, j3⟩
      unfold b_L_stays_25
      dsimp only
      rw [if_neg (by omega)]
      exact Ok.ret ⟨C3, A3, rfl, j3.ups (by omega)⟩
  · rintro _ ⟨C3, A3, rfl, j3⟩
    dsimp only
    rw [gd_t (Or.inr rfl)]
    exact Ok.ret ⟨rfl, C3, A3, rfl, j3⟩
end STAYS
