/-! PURE PART, 99e2: what comes into the row comes out of a hand -/
/-- a message in a hand -/
def HD (N : Nd) (g m : Int) : Prop := ∃ i k, (0 ≤ i ∧ i < 12) ∧ N 13047 (12 * g + i) = 1 ∧ (0 ≤ k ∧ k < hn N g i) ∧ hf N g i k = m
def WK (g t : Int) (N N1 : Nd) : Prop := (∀ m, HD N1 g m → HD N g m) ∧ ∀ m, 0 ≤ m → m < 150 → N1 13059 (150 * g + m) = 1 → (N 13059 (150 * g + m) = 1 ∧ N1 13060 (150 * g + m) = N 13060 (150 * g + m)) ∨ (N1 13060 (150 * g + m) = t ∧ HD N g m)
theorem WK.rf {g t : Int} {N : Nd} : WK g t N N := ⟨fun _ h => h, fun _ _ _ h => Or.inl ⟨h, rfl⟩⟩
theorem WK.tr {g t : Int} {N N1 N2 : Nd} (a : WK g t N N1) (b : WK g t N1 N2) : WK g t N N2 := ⟨fun m h => a.1 m (b.1 m h), fun m m1 m2 h => by
  rcases b.2 m m1 m2 h with ⟨y1, y2⟩ | ⟨y1, y2⟩
  · rcases a.2 m m1 m2 y1 with ⟨z1, z2⟩ | ⟨z1, z2⟩
    · exact Or.inl ⟨z1, y2.trans z2⟩
    · exact Or.inr ⟨y2.trans z1, z2⟩
  · exact Or.inr ⟨y1, a.1 m y2⟩⟩
theorem WK.le {g t : Int} {N N1 : Nd} (h1 : ∀ i, 0 ≤ i → i < 12 → N1 13047 (12 * g + i) = 1 → N 13047 (12 * g + i) = 1) (h2 : N1 13051 = N 13051) (h3 : N1 13052 = N 13052) (h4 : N1 13059 = N 13059) (h5 : N1 13060 = N 13060) : WK g t N N1 := by
  refine ⟨fun m h => ?_, fun m m1 m2 h => Or.inl ?_⟩
  · obtain ⟨i, k, a, b, c, d⟩ := h
    refine ⟨i, k, a, h1 i a.1 a.2 b, ?_, ?_⟩
    · unfold hn at c ⊢
      rw [h2] at c
      exact c
    · unfold hf at d ⊢
      rw [h3] at d
      exact d
  · rw [h4] at h
    exact ⟨h, by rw [h5]⟩
section KEEPS
variable {N : Nd} {g j p t k : Int}
theorem HD.oo (j1 : 0 ≤ j) (j2 : j < 12) (k1 : 0 ≤ k) (k2 : k < hn N g j) (hj : hn N g j ≤ 9) (h9 : ∀ i, 0 ≤ i → i < 12 → N 13047 (12 * g + i) = 1 → hn N g i ≤ 9) {m : Int} (h : HD (ooN N g j k) g m) : HD N g m := by
  obtain ⟨i, q, a, b, c, d⟩ := h
  have eI : ooN N g j k 13047 = N 13047 := oo_ar (by decide)
  rw [eI] at b
  have h9' := h9 i a.1 a.2 b
  have ec : hn (ooN N g j k) g i = if i = j then hn N g j - 1 else hn N g i := by
    show ooI N g j k (hn N g j - 1 - k) 13051 (12 * g + i) = _
    rw [oo_m]
    by_cases e : i = j
    · rw [if_pos e, if_pos (by omega)]
    · rw [if_neg e, if_neg (by omega)]
  have ed : hf (ooN N g j k) g i q = if 9 * (12 * g + j) + k ≤ 9 * (12 * g + i) + q ∧ 9 * (12 * g + i) + q < 9 * (12 * g + j) + k + (hn N g j - 1 - k) then hf N g i (q + 1) else hf N g i q := by
    show ooI N g j k (hn N g j - 1 - k) 13052 (9 * (12 * g + i) + q) = _
    rw [oo_b (Or.inl rfl)]
    unfold hf
    rw [show 9 * (12 * g + i) + q + 1 = 9 * (12 * g + i) + (q + 1) by omega]
  rw [ec] at c
  rw [ed] at d
  by_cases e : i = j
  · subst e
    rw [if_pos rfl] at c
    by_cases z : k ≤ q
    · rw [if_pos (by omega)] at d
      exact ⟨i, q + 1, a, b, by omega, d⟩
    · rw [if_neg (by omega)] at d
      exact ⟨i, q, a, b, by omega, d⟩
  · rw [if_neg e] at c
    rw [if_neg (by omega)] at d
    exact ⟨i, q, a, b, c, d⟩
theorem oo_hn {i : Int} : hn (ooN N g j k) g i = if i = j then hn N g j - 1 else hn N g i := by
  show ooI N g j k (hn N g j - 1 - k) 13051 (12 * g + i) = _
  rw [oo_m]
  by_cases e : i = j
  · rw [if_pos e, if_pos (by omega)]
  · rw [if_neg e, if_neg (by omega)]
/-- hands, of which none is longer than nine -/
def H9 (N : Nd) (g : Int) : Prop := ∀ i, 0 ≤ i → i < 12 → N 13047 (12 * g + i) = 1 → hn N g i ≤ 9
theorem gvS_b (hj : 0 < hn N g j) : (gvS g j p t k N) 13047 = N 13047 ∧ hn N g j - 1 ≤ hn (gvS g j p t k N) g j ∧ hn (gvS g j p t k N) g j ≤ hn N g j ∧ ∀ i, i ≠ j → hn (gvS g j p t k N) g i = hn N g i := by
  have e1 : (ooN N g j k) 13047 = N 13047 := oo_ar (by decide)
  have h0 := @oo_hn N g j k j
  rw [if_pos rfl] at h0
  unfold gvS
  split
  · split
    · refine ⟨(ir_ar (by decide) (by decide) (by decide)).trans e1, ?_⟩
      have e2 : ∀ i, hn (irN (ooN N g j k) g (hf N g j k) t (N 13053 (9 * (12 * g + j) + k))) g i = hn (ooN N g j k) g i := fun i => by
        unfold hn
        rw [ir_ar (by decide) (by decide) (by decide)]
      exact ⟨by rw [e2, h0]; omega, by rw [e2, h0]; omega, fun i hi => by rw [e2, oo_hn, if_neg hi]⟩
    · refine ⟨e1, ?_⟩
      exact ⟨by rw [h0]; omega, by rw [h0]; omega, fun i hi => by rw [oo_hn, if_neg hi]⟩
  · exact ⟨rfl, by omega, by omega, fun i _ => rfl⟩
theorem WK.gs (j1 : 0 ≤ j) (j2 : j < 12) (hi : N 13047 (12 * g + j) = 1) (k1 : 0 ≤ k) (k2 : k < hn N g j) (h9 : H9 N g) : WK g t N (gvS g j p t k N) := by
  have oo : ∀ m, HD (ooN N g j k) g m → HD N g m := fun m h => HD.oo j1 j2 k1 k2 (h9 j j1 j2 hi) h9 h
  have ow : (ooN N g j k) 13059 = N 13059 := oo_ar (by decide)
  have od : (ooN N g j k) 13060 = N 13060 := oo_ar (by decide)
  unfold gvS
  split
  · split
    · refine ⟨fun m h => oo m ?_, fun m m1 m2 h => ?_⟩
      · obtain ⟨i, q, a, b, c, d⟩ := h
        unfold hn at c
        unfold hf at d
        rw [ir_ar (by decide) (by decide) (by decide)] at b c d
        exact ⟨i, q, a, b, c, d⟩
      · rw [ir_w] at h
        rw [ir_d]
        by_cases e : m = hf N g j k
        · rw [if_pos (by omega)]
          exact Or.inr ⟨rfl, j, k, ⟨j1, j2⟩, hi, ⟨k1, k2⟩, e.symm⟩
        · rw [if_neg (by omega), ow] at h
          rw [if_neg (by omega), od]
          exact Or.inl ⟨h, rfl⟩
    · refine ⟨oo, fun m m1 m2 h => Or.inl ?_⟩
      rw [ow] at h
      exact ⟨h, by rw [od]⟩
  · exact WK.rf
theorem WK.ga (j1 : 0 ≤ j) (j2 : j < 12) (hi : N 13047 (12 * g + j) = 1) (h9 : H9 N g) : ∀ i : Nat, (i : Int) ≤ hn N g j → WK g t N (gvA N g j p t i) ∧ (gvA N g j p t i) 13047 = N 13047 ∧ hn N g j - i ≤ hn (gvA N g j p t i) g j ∧ H9 (gvA N g j p t i) g
  | 0, _ => ⟨WK.rf, rfl, by show hn N g j - 0 ≤ hn N g j; omega, h9⟩
  | i + 1, h => by
    obtain ⟨a1, a2, a3, a4⟩ := WK.ga j1 j2 hi h9 i (by omega)
    have e : gvA N g j p t (i + 1) = gvS g j p t (hn N g j - 1 - i) (gvA N g j p t i) := by
      unfold gvA
      rw [fo_S]
      simp only [Int.zero_add]
    have hi' : gvA N g j p t i 13047 (12 * g + j) = 1 := by rw [a2]; exact hi
    have s := WK.gs (p := p) (t := t) (k := hn N g j - 1 - i) j1 j2 hi' (by omega) (by omega) a4
    obtain ⟨b1, b2, b3, b4⟩ := gvS_b (N := gvA N g j p t i) (g := g) (j := j) (p := p) (t := t) (k := hn N g j - 1 - i) (by omega)
    rw [e]
    refine ⟨a1.tr s, b1.trans a2, by omega, fun x x1 x2 x3 => ?_⟩
    rw [b1] at x3
    have y := a4 x x1 x2 x3
    by_cases z : x = j
    · rw [z] at y ⊢
      omega
    · rw [b4 x z]
      exact y
theorem WK.gn (j1 : 0 ≤ j) (j2 : j < 12) (hi : N 13047 (12 * g + j) = 1) (h0 : 0 ≤ hn N g j) (h9 : H9 N g) : WK g t N (gvN N g j p t) := (WK.ga (p := p) (t := t) j1 j2 hi h9 (hn N g j).toNat (by omega)).1
theorem GA.h9' {C : Cd} (a : GA C N g) : H9 N g := fun i i1 i2 i3 => (a.h9 i1 i2 i3).2.1
/-- what is in a hand was seen -/
theorem JJ.hd {n : Int} {C : Cd} {A : Ad} {m : Int} (jj : JJ n C N A) (g1 : 0 ≤ g) (g2 : g < (N 12000 41)) (h : HD N g m) : (0 ≤ m ∧ m < (N 12000 19)) ∧ 0 < N 13064 (150 * g + m) := by
  obtain ⟨i, q, a, b, c, d⟩ := h
  have s5 := jj.jn.g.s.2.2.2.2.1
  have gr := jj.gr g1 g2
  have h1 := ((gr.1.ha i a.1 a.2 b).2 q c.1 c.2).1
  rw [d] at h1
  have h2 := (gr.2.2.2.2.2.2 m h1.1 (by omega)).1 (Or.inl h1.2.2.1)
  exact ⟨⟨h1.1, h1.2.1⟩, (jj.zn.2.2 g m g1 g2 h1.1 (by omega)).1.mp h2⟩
/-- waiting, as seen from before: it waited, or was seen and is due now -/
def WS (g : Int) (N N1 : Nd) : Prop := ∀ m, 0 ≤ m → m < 150 → N1 13059 (150 * g + m) = 1 → (N 13059 (150 * g + m) = 1 ∧ N1 13060 (150 * g + m) = N 13060 (150 * g + m)) ∨ (N1 13060 (150 * g + m) = (N 12000 1) ∧ 0 < N 13064 (150 * g + m))
theorem WK.ws {n : Int} {C : Cd} {A : Ad} {N1 : Nd} (w : WK g ((N 12000 1)) N N1) (jj : JJ n C N A) (g1 : 0 ≤ g) (g2 : g < (N 12000 41)) : WS g N N1 := fun m m1 m2 h => (w.2 m m1 m2 h).imp id fun z => ⟨z.1, (jj.hd g1 g2 z.2).2⟩
theorem WS.rf : WS g N N := fun _ _ _ h => Or.inl ⟨h, rfl⟩
theorem WS.tr {N1 N2 : Nd} (a : WS g N N1) (b : WS g N1 N2) (hn : (N1 12000 1) = (N 12000 1)) (hs : N1 13064 = N 13064) : WS g N N2 := fun m m1 m2 h => by
  rcases b m m1 m2 h with ⟨y1, y2⟩ | ⟨y1, y2⟩
  · rcases a m m1 m2 y1 with ⟨z1, z2⟩ | ⟨z1, z2⟩
    · exact Or.inl ⟨z1, y2.trans z2⟩
    · exact Or.inr ⟨y2.trans z1, z2⟩
  · rw [hs] at y2
    exact Or.inr ⟨y1.trans hn, y2⟩
end KEEPS
