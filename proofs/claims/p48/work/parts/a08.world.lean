/-! PURE PART, a08: what holds of the law's world between its calls -/
def KY (N : Nd) : Prop := ∀ m, 0 ≤ m → m < (N 12000 19) → 0 ≤ N 13022 m ∧ N 13022 m ≤ 4
def K2 (N : Nd) : Prop := ∀ m, 0 ≤ m → m < 150 → (0 < sn N m ∨ wt N m = 1) → N 13025 m = 0 ∨ N 13025 m = 2
def DW (N : Nd) : Prop := ∀ m, 0 ≤ m → m < 150 → wt N m = 1 → du N m ≤ (N 12000 1) + 4
def DM (N : Nd) : Prop := ∀ m, 0 ≤ m → m < (N 12000 19) → N 13024 m = 0 → N 13028 m ≤ (N 12000 1) + 6
def NV (N : Nd) : Prop := ∀ p, 0 ≤ p → p < (N 12000 11) → N 13013 p < 0 → bt ((N 12000 2)) (brk N p (low (N 13014 p))) = false
def WV (N : Nd) : Prop := SH N ∧ KY N ∧ K2 N ∧ DW N ∧ DM N ∧ NV N
def WB (N : Nd) : Prop := WV N ∧ N 13044 0 ≤ 8
/-- the law's rows: what was got was seen; of each key the latest offset that was seen -/
def LST (N : Nd) : Prop := ∀ r, 0 ≤ r → r < 15 → N 13490 r = 0 ∨ ∃ m, 0 ≤ m ∧ m < (N 12000 19) ∧ 0 < sn N m ∧ 5 * N 13021 m + N 13022 m = r ∧ N 13490 r = N 13026 m + 1
/-- what is PLAIN or COMMITTED stays so -/
def OK2 (N X : Nd) : Prop := ∀ m, 0 ≤ m → m < (N 12000 19) → (N 13025 m = 0 ∨ N 13025 m = 2) → X 13025 m = N 13025 m
/-- a call on brokers, producers, messages -/
def EBr (N X : Nd) : Prop := Mo N X ∧ OK2 N X ∧ (∀ a, 13042 ≤ a → a ≤ 13067 → a ≠ 13057 → X a = N a) ∧ ((X 12000 4) = (N 12000 4) ∧ (X 12000 11) = (N 12000 11) ∧ (X 12000 30) = (N 12000 30) ∧ (X 12000 41) = (N 12000 41)) ∧ (∀ a, (13005 ≤ a ∧ a ≤ 13010) ∨ a = 14008 ∨ a = 13012 → X a = N a) ∧ (N 12000 1) ≤ (X 12000 1) ∧
  (∀ m, (N 12000 19) ≤ m → m < (X 12000 19) → 0 ≤ X 13022 m ∧ X 13022 m ≤ 4) ∧ (∀ m, 0 ≤ m → m < (X 12000 19) → X 13024 m = 0 → (m < (N 12000 19) ∧ N 13024 m = 0 ∧ X 13028 m = N 13028 m) ∨ X 13028 m ≤ (X 12000 1) + 6) ∧ (NV N → NV X)
section WORLD
variable {n : Int} {C : Cd} {N X : Nd} {A : Ad}
theorem letter_st (j : JJ n C N A) (g2 : 0 < (N 12000 41)) {m : Int} (m1 : 0 ≤ m) (m2 : m < 150) (h : 0 < sn N m ∨ wt N m = 1) : m < (N 12000 19) ∧ (N 13024 m = 3 ∨ canR N m) := by
  rcases h with h | h
  · exact seen_st j g2 m1 m2 h
  · obtain ⟨-, -, k, -, k2, -⟩ := (j.gr (Int.le_refl 0) g2).1.le.wk m1 m2 h
    exact ⟨k, k2⟩
theorem SH.g (h : SH N) : 0 < (N 12000 41) := by have := h.1.2.2.2; omega
theorem WV.br (j : JJ n C N A) (w : WV N) (e : EBr N X) : WV X := by
  obtain ⟨w1, w2, w3, w5, w6, w8⟩ := w
  obtain ⟨mo, ok, ga, sc, ta, hn, ky, dm, nv⟩ := e
  have s5 := j.jn.g.s.2.2.2.2.1
  have me := mo.1.2
  have e1 : X 13064 = N 13064 := ga _ (by decide) (by decide) (by decide)
  have e2 : X 13059 = N 13059 := ga _ (by decide) (by decide) (by decide)
  have e3 : X 13060 = N 13060 := ga _ (by decide) (by decide) (by decide)
  have e7 : X 13042 = N 13042 := ga _ (by decide) (by decide) (by decide)
  refine ⟨⟨⟨by rw [sc.1]; exact w1.1.1, by rw [sc.2.1]; exact w1.1.2.1, by rw [sc.2.2.1]; exact w1.1.2.2.1, by rw [sc.2.2.2]; exact w1.1.2.2.2⟩, ⟨by rw [ta 13005 (by decide)]; exact w1.2.1.1, by rw [ta 13006 (by decide)]; exact w1.2.1.2.1, by rw [ta 13007 (by decide)]; exact w1.2.1.2.2.1, by rw [ta 14008 (by decide)]; exact w1.2.1.2.2.2⟩, by rw [e7]; exact w1.2.2⟩, fun m m1 m2 => ?_, fun m m1 m2 h => ?_, fun m m1 m2 h => ?_, fun m m1 m2 h => ?_, nv w8⟩
  · by_cases z : m < (N 12000 19)
    · rw [(mo.2.2.1 m m1 z).1.2]; exact w2 m m1 z
    · exact ky m (by omega) m2
  · have h' : 0 < sn N m ∨ wt N m = 1 := by
      unfold sn wt at h ⊢
      rw [e1, e2] at h
      exact h
    have l := letter_st j w1.g m1 m2 h'
    have o := w3 m m1 m2 h'
    rw [ok m m1 l.1 o]
    exact o
  · have h' : wt N m = 1 := by
      unfold wt at h ⊢
      rw [e2] at h
      exact h
    have q := w5 m m1 m2 h'
    unfold du at q ⊢
    rw [e3]
    omega
  · rcases dm m m1 m2 h with ⟨a, b, c⟩ | a
    · have := w6 m m1 a b
      omega
    · exact a
theorem WB.br (j : JJ n C N A) (w : WB N) (e : EBr N X) : WB X := ⟨WV.br j w.1 e, by rw [e.2.2.1 13044 (by decide) (by decide) (by decide)]; exact w.2⟩
/-- the law's rows go on where the group's letters are as they were -/
theorem LST.mo (j : JJ n C N A) (g2 : 0 < (N 12000 41)) (l : LST N) (mo : Mo N X) (h : X 13064 = N 13064) (r : X 13490 = N 13490) : LST X := by
  intro q q1 q2
  rw [r]
  refine (l q q1 q2).imp id fun ⟨m, m1, m2, m3, m4, m5⟩ => ?_
  have st := letter_st j g2 m1 (by have := j.jn.g.s.2.2.2.2.1; omega) (Or.inl m3)
  have z := mo.2.2.1 m m1 m2
  have eo : X 13026 m = N 13026 m := st.2.elim (fun q => (z.2.1 q).2) (fun q => (z.2.2 q).1)
  refine ⟨m, m1, by have := mo.1.2; omega, ?_, by rw [z.1.1, z.1.2]; exact m4, by rw [eo]; exact m5⟩
  unfold sn
  rw [h]; exact m3
theorem GT.mo (l : GT N) (h : X 13064 = N 13064) (r : X 15001 = N 15001) : GT X := by
  intro m m1 m2 hg
  unfold sn
  rw [h]
  refine l m m1 m2 ?_
  unfold got at hg ⊢
  rw [r] at hg
  exact hg
/-- all that the law keeps -/
def LW (n : Int) (C : Cd) (N : Nd) (A : Ad) : Prop := JJ n C N A ∧ WB N ∧ GT N ∧ LST N
theorem LW.br {C2 : Cd} {A2 : Ad} {n2 : Int} (l : LW n C N A) (e : EBr N X) (j2 : JJ n2 C2 (mg N X) A2) : LW n2 C2 (mg N X) A2 := by
  obtain ⟨j, w, gt, ls⟩ := l
  have w2 := WB.br j w e
  have mo : Mo N (mg N X) := e.1
  have es : (mg N X) 13064 = N 13064 := by
    have q := e.2.2.1 13064 (by decide) (by decide) (by decide)
    rw [← q]
    rfl
  exact ⟨j2, w2, gt.mo es rfl, LST.mo j w.1.1.g ls mo es rfl⟩
end WORLD
