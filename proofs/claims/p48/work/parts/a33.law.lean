/-! PURE PART, a33: the law -/
theorem HB.n0 {k : Int} (h0 : 0 ≤ k) (h1 : k < 64) : ¬ HB 0 k := by
  have q : ∀ i : Fin 64, ¬ HB 0 (i.val : Int) := by
    unfold HB
    decide +kernel
  have := q ⟨k.toNat, by omega⟩
  rw [show ((k.toNat : Nat) : Int) = k by omega] at this
  exact this
def X1 : Nd := mg N1i (tpN (up N1i 12000 0 0) 3 3 1)
def X2 : Nd := mg X1 (prN (up X1 12000 0 0) ((X1 12000 30)))
def X3 : Nd := mg X2 (prN (up X2 12000 0 0) ((X2 12000 30)))
def X4 : Nd := mg X3 (gpN (up X3 12000 0 0) ((X3 12000 41)) 1)
theorem X4.seen (k : Int) : X4 13064 k = 0 := rfl
theorem X4.waits (k : Int) : X4 13059 k = 0 := rfl
theorem X4.bits (k : Int) : X4 15001 k = 0 := rfl
theorem X4.rows (k : Int) : X4 13490 k = 0 := rfl
theorem X4.lv {n : Int} {C : Cd} {A : Ad} (j : JJ n C X4 A) : LV n C X4 A := by
  have ms : (X4 12000 19) = 0 := by decide +kernel
  have pt : (X4 12000 11) = 3 := by decide +kernel
  have no : ∀ {m : Int} {Q : Prop}, 0 ≤ m → m < (X4 12000 19) → Q := fun h1 h2 => by rw [ms] at h2; omega
  refine ⟨j, ⟨⟨⟨by decide +kernel, pt, by decide +kernel, by decide +kernel⟩, ⟨by decide +kernel, by decide +kernel, by decide +kernel, by decide +kernel⟩, by decide +kernel⟩, fun m h1 h2 => no h1 h2, fun m _ _ h => ?_, fun m _ _ h => ?_, fun m h1 h2 => no h1 h2, fun p p1 p2 h => ?_⟩, fun m m1 m2 h => ?_, fun r _ _ => Or.inl (X4.rows r)⟩
  · have e1 : sn X4 m = 0 := X4.seen _
    have e2 : wt X4 m = 0 := X4.waits _
    omega
  · have e2 : wt X4 m = 0 := X4.waits _
    omega
  · rw [pt] at p2
    have e : p = 0 ∨ p = 1 ∨ p = 2 := by omega
    exfalso
    rcases e with rfl | rfl | rfl
    · exact absurd h (by decide +kernel)
    · exact absurd h (by decide +kernel)
    · exact absurd h (by decide +kernel)
  · unfold got at h
    rw [X4.bits] at h
    exact absurd h (HB.n0 (by omega) (by omega))
theorem begun {P : Int × Mm → Prop} (k : ∀ C2 X A2, LW 10 C2 X A2 → P (1, mk C2 X A2)) : Ok ((q_L_topic (mk C3i N1i (alR l3i)) 11000 3 3 1).bind fun r8 => (if r8.1 = 0 then (q_L_producer r8.2 11000).bind fun r96 => if r96.1 = 0 then (q_L_producer r96.2 11000).bind fun r99 => if r99.1 = 1 then (q_L_group r99.2 11000 1).bind fun r102 => if r102.1 = 0 then (q_L_join r102.2 11000 0).bind fun r105 => if r105.1 = 0 then (q_L_beat r105.2 11000 0 0).bind fun r108 => if r108.1 = 3 then some ((1, r108.2)) else some ((0, r108.2)) else some ((0, r105.2)) else some ((0, r102.2)) else some ((0, r99.2)) else some ((0, r96.2)) else some ((0, r8.2)) : Option (Int × Mm))) P := by
  have j0 := JJ.start
  obtain ⟨z1, C1, A1, a1, a2, -, j1⟩ := L_topic (a := 3) (r := 3) (c := 1) (Or.inr rfl) j0 (topic_m (Or.inr rfl) j0 (by decide) (by decide) (by decide +kernel) (by decide +kernel) (by decide +kernel))
  have e1 : z1 = 0 := (a2 (by decide +kernel)).trans (by decide +kernel)
  rw [a1, Option.bind_some]
  dsimp only
  rw [if_pos e1]
  have j1' : JJ (0 + 1) C1 X1 A1 := j1
  obtain ⟨z2, C2, A2, b1, b2, -, j2⟩ := L_producer j1' (producer_m j1' (by decide +kernel))
  have e2 : z2 = 0 := (b2 (by decide +kernel)).trans (by decide +kernel)
  have b1' : q_L_producer (mk C1 (mg N1i (tpN (up N1i 12000 0 0) 3 3 1)) A1) 11000 = some (z2, mk C2 X2 A2) := b1
  rw [b1', Option.bind_some]
  dsimp only
  rw [if_pos e2]
  have j2' : JJ (0 + 1 + 1) C2 X2 A2 := j2
  obtain ⟨z3, C3, A3, d1, d2, -, j3⟩ := L_producer j2' (producer_m j2' (by decide +kernel))
  have e3 : z3 = 1 := (d2 (by decide +kernel)).trans (by decide +kernel)
  have d1' : q_L_producer (mk C2 X2 A2) 11000 = some (z3, mk C3 X3 A3) := d1
  rw [d1', Option.bind_some]
  dsimp only
  rw [if_pos e3]
  have j3' : JJ (0 + 1 + 1 + 1) C3 X3 A3 := j3
  obtain ⟨z4, C4, A4, f1, f2, -, j4⟩ := L_group j3' (group_m (a := 1) j3' (by decide) (by decide +kernel) (by decide +kernel))
  have e4 : z4 = 0 := (f2 (by decide +kernel)).trans (by decide +kernel)
  have f1' : q_L_group (mk C3 X3 A3) 11000 1 = some (z4, mk C4 X4 A4) := f1
  rw [f1', Option.bind_some]
  dsimp only
  rw [if_pos e4]
  have j4' : JJ (0 + 1 + 1 + 1 + 1) C4 X4 A4 := j4
  exact x_jb (X4.lv j4') (by decide +kernel) fun C5 X A5 l => k C5 X A5 ⟨l.1.ups (by omega), l.2⟩
/-- the law, on every script -/
theorem law_all48 {sl : Int} {sc : Int → Int} (hl : sl ≤ 260) (hl0 : 0 ≤ sl) : ∃ M, p_L_law M0 sl sc = some (1, M) := by
  obtain ⟨⟨v, M⟩, e, hv⟩ : Ok (p_L_law M0 sl sc) (fun r => r.1 = 1) := by
    refine p_start ?_
    rw [← Option.bind_assoc]
    refine Ok.bnd (Q := fun s => ∃ C X A, s = (1, mk C X A) ∧ LW 10 C X A) (begun fun C2 X A2 l => ⟨C2, X, A2, rfl, l⟩) ?_
    rintro _ ⟨C, X, A, rfl, l⟩
    exact l_all (by decide) l hl0 hl
  have hv' : v = 1 := hv
  exact ⟨M, by rw [e, hv']⟩
