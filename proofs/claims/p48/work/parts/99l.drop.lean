/-! PURE PART, 99l: deal: the model's table by counts, targets and what moved; the surplus is dropped -/
def fu (f : Int → Int) (p v : Int) : Int → Int := fun x => if x = p then v else f x
def dqN (N : Nd) (g : Int) (c t : Int → Int) (m : Int) : Nd := fun b q => if b = 13056 ∧ 9 * g ≤ q ∧ q < 9 * g + 9 then t (q - 9 * g) else if b = 13065 ∧ 0 ≤ q ∧ q < 12 then c q else if b = 13045 ∧ q = g then m else N b q
section DQ
variable {N : Nd} {g m : Int} {c t : Int → Int}
theorem dq_ar {b : Int} (h : b ≠ 13056) (h2 : b ≠ 13065) (h3 : b ≠ 13045) : dqN N g c t m b = N b := by
  funext q
  unfold dqN
  rw [if_neg (fun z => h z.1), if_neg (fun z => h2 z.1), if_neg (fun z => h3 z.1)]
theorem dq_t {p : Int} (p1 : 0 ≤ p) (p2 : p < 9) : dqN N g c t m 13056 (9 * g + p) = t p := by
  unfold dqN
  rw [if_pos ⟨rfl, by omega, by omega⟩, show 9 * g + p - 9 * g = p by omega]
theorem dq_c {j : Int} (j1 : 0 ≤ j) (j2 : j < 12) : dqN N g c t m 13065 j = c j := by
  unfold dqN
  rw [if_neg (fun z => absurd z.1 (by decide)), if_pos ⟨rfl, j1, j2⟩]
theorem dq_m : dqN N g c t m 13045 g = m := by
  unfold dqN
  rw [if_neg (fun z => absurd z.1 (by decide)), if_neg (fun z => absurd z.1 (by decide)), if_pos ⟨rfl, rfl⟩]
theorem dq_ut {p v : Int} (p1 : 0 ≤ p) (p2 : p < 9) : up (dqN N g c t m) 13056 (9 * g + p) v = dqN N g c (fu t p v) m := by
  funext b q
  rw [up_s]
  unfold dqN fu
  by_cases h : b = 13056 ∧ 9 * g ≤ q ∧ q < 9 * g + 9
  · rw [if_pos h, if_pos h]
    by_cases e : q = 9 * g + p
    · rw [if_pos ⟨h.1, e⟩, if_pos (by omega)]
    · rw [if_neg (fun z => e z.2), if_neg (by omega)]
  · rw [if_neg h, if_neg h, if_neg (fun z => h ⟨z.1, by omega, by omega⟩)]
theorem dq_uc {j v : Int} (j1 : 0 ≤ j) (j2 : j < 12) : up (dqN N g c t m) 13065 j v = dqN N g (fu c j v) t m := by
  funext b q
  rw [up_s]
  unfold dqN fu
  by_cases h : b = 13065 ∧ 0 ≤ q ∧ q < 12
  · rw [if_neg (show ¬ (b = 13056 ∧ 9 * g ≤ q ∧ q < 9 * g + 9) from fun z => by have := z.1; omega), if_neg (show ¬ (b = 13056 ∧ 9 * g ≤ q ∧ q < 9 * g + 9) from fun z => by have := z.1; omega), if_pos h, if_pos h]
    by_cases e : q = j
    · rw [if_pos ⟨h.1, e⟩, if_pos e]
    · rw [if_neg (fun z => e z.2), if_neg e]
  · rw [if_neg h, if_neg h, if_neg (show ¬ (b = 13065 ∧ q = j) from fun z => h ⟨z.1, by omega, by omega⟩)]
theorem dq_um {v : Int} : up (dqN N g c t m) 13045 g v = dqN N g c t v := by
  funext b q
  rw [up_s]
  unfold dqN
  by_cases h : b = 13045 ∧ q = g
  · rw [if_pos h, if_neg (show ¬ (b = 13056 ∧ 9 * g ≤ q ∧ q < 9 * g + 9) from fun z => by have := z.1; omega), if_neg (show ¬ (b = 13065 ∧ 0 ≤ q ∧ q < 12) from fun z => by have := z.1; omega), if_pos h]
  · rw [if_neg h, if_neg h, if_neg h]
/-- one step of dropping the surplus -/
def drS (F : Int → Int) : Int → (Int → Int) × (Int → Int) → (Int → Int) × (Int → Int) := fun p s => if s.2 p = -1 then s else if s.1 (s.2 p) = F (s.2 p) then (s.1, fu s.2 p (-1)) else (fu s.1 (s.2 p) (s.1 (s.2 p) + 1), s.2)
def DRI (F t0 : Int → Int) (i : Int) (s : (Int → Int) × (Int → Int)) : Prop := (∀ j, 0 ≤ j → j < 12 → s.1 j = ctn (fun _ => true) s.2 i j ∧ s.1 j ≤ F j) ∧ (∀ p, i ≤ p → s.2 p = t0 p) ∧ ∀ p, 0 ≤ p → p < i → s.2 p = t0 p ∨ (s.2 p = -1 ∧ t0 p ≠ -1 ∧ s.1 (t0 p) = F (t0 p))
theorem DRI.step {F t0 : Int → Int} {i : Int} {s : (Int → Int) × (Int → Int)} (h : DRI F t0 i s) (i0 : 0 ≤ i) (ht : t0 i = -1 ∨ (0 ≤ t0 i ∧ t0 i < 12)) : DRI F t0 (i + 1) (drS F i s) := by
  obtain ⟨h1, h2, h3⟩ := h
  have e := h2 i (Int.le_refl i)
  unfold drS
  rw [e]
  by_cases z : t0 i = -1
  · rw [if_pos z]
    refine ⟨fun j j1 j2 => ?_, fun p hp => h2 p (by omega), fun p p1 p2 => ?_⟩
    · rw [ctn_S i0, e, if_neg (fun q => by omega), Int.add_zero]
      exact h1 j j1 j2
    · by_cases c : p = i
      · rw [c]; exact Or.inl e
      · exact h3 p p1 (by omega)
  · have tb := ht.resolve_left z
    rw [if_neg z]
    by_cases y : s.1 (t0 i) = F (t0 i)
    · rw [if_pos y]
      have ne : ∀ p, p ≠ i → fu s.2 i (-1) p = s.2 p := fun p hp => if_neg hp
      have ee : fu s.2 i (-1) i = -1 := if_pos rfl
      refine ⟨fun j j1 j2 => ?_, fun p hp => ?_, fun p p1 p2 => ?_⟩
      · rw [ctn_S i0]
        show s.1 j = ctn (fun _ => true) (fu s.2 i (-1)) i j + (if true = true ∧ fu s.2 i (-1) i = j then 1 else 0) ∧ s.1 j ≤ F j
        rw [ee, if_neg (fun q => by omega), Int.add_zero, ctn_congr (t := s.2) (fun p p1 p2 => by rw [ne p (by omega)])]
        exact h1 j j1 j2
      · rw [show (s.1, fu s.2 i (-1)).2 p = fu s.2 i (-1) p from rfl, ne p (by omega)]
        exact h2 p (by omega)
      · show fu s.2 i (-1) p = t0 p ∨ (fu s.2 i (-1) p = -1 ∧ t0 p ≠ -1 ∧ s.1 (t0 p) = F (t0 p))
        by_cases c : p = i
        · rw [c, ee]
          exact Or.inr ⟨rfl, z, y⟩
        · rw [ne p c]
          exact h3 p p1 (by omega)
    · rw [if_neg y]
      have hb := h1 (t0 i) tb.1 tb.2
      refine ⟨fun j j1 j2 => ?_, fun p hp => h2 p (by omega), fun p p1 p2 => ?_⟩
      · show fu s.1 (t0 i) (s.1 (t0 i) + 1) j = ctn (fun _ => true) s.2 (i + 1) j ∧ fu s.1 (t0 i) (s.1 (t0 i) + 1) j ≤ F j
        rw [ctn_S i0, e]
        unfold fu
        by_cases c : j = t0 i
        · rw [if_pos c, if_pos ⟨rfl, c.symm⟩, c]
          omega
        · rw [if_neg c, if_neg (fun q => c q.2.symm), Int.add_zero]
          exact h1 j j1 j2
      · show s.2 p = t0 p ∨ (s.2 p = -1 ∧ t0 p ≠ -1 ∧ fu s.1 (t0 i) (s.1 (t0 i) + 1) (t0 p) = F (t0 p))
        by_cases c : p = i
        · rw [c]; exact Or.inl e
        · refine (h3 p p1 (by omega)).imp id (fun q => ⟨q.1, q.2.1, ?_⟩)
          unfold fu
          rw [if_neg (fun w' => y (by rw [← w']; exact q.2.2))]
          exact q.2.2
end DQ
