/-! PURE PART, 99k: deal: counts -/
/-- how many of the first i partitions that R has are at j -/
def ctn (R : Int → Bool) (t : Int → Int) (i j : Int) : Int := su (fun p => if R p = true ∧ t p = j then 1 else 0) 0 i.toNat
section CTN
variable {R : Int → Bool} {t : Int → Int} {c F : Int → Int}
theorem su_ex {n : Nat} (h : su c 0 n < su F 0 n) : ∃ j, 0 ≤ j ∧ j < (n : Int) ∧ c j < F j := by
  by_cases z : ∃ j, 0 ≤ j ∧ j < (n : Int) ∧ c j < F j
  · exact z
  · exfalso
    have := @su_le F c 0 n (fun i i1 i2 => by
      by_cases y : F i ≤ c i
      · exact y
      · exact absurd ⟨i, i1, by omega, by omega⟩ z)
    omega
/-- the least of them -/
theorem su_first {n : Nat} (h : su c 0 n < su F 0 n) : ∃ j, (0 ≤ j ∧ j < (n : Int) ∧ c j < F j) ∧ ∀ i, 0 ≤ i → i < j → ¬ c i < F i := by
  obtain ⟨j, j1, j2, j3⟩ := su_ex h
  have b := @ff_b (fun k => decide (c k < F k)) n 0
  have lt : ff (fun k => decide (c k < F k)) n 0 < (n : Int) := by
    by_cases y : ff (fun k => decide (c k < F k)) n 0 < (n : Int)
    · exact y
    · have := @ff_no (fun k => decide (c k < F k)) n 0 j j1 (by omega)
      exact absurd j3 (of_decide_eq_false this)
  refine ⟨ff (fun k => decide (c k < F k)) n 0, ⟨b.1, lt, of_decide_eq_true (ff_yes (P := fun k => decide (c k < F k)) (n := n) (i := 0) (by omega))⟩, fun i i1 i2 => of_decide_eq_false (@ff_no (fun k => decide (c k < F k)) n 0 i i1 (by omega))⟩
theorem ctn_S {i j : Int} (i0 : 0 ≤ i) : ctn R t (i + 1) j = ctn R t i j + if R i = true ∧ t i = j then 1 else 0 := by
  unfold ctn
  rw [show (i + 1).toNat = i.toNat + 1 by omega, su_S, show (0 : Int) + (i.toNat : Int) = i by omega]
theorem ctn_b {i j : Int} (i0 : 0 ≤ i) : 0 ≤ ctn R t i j ∧ ctn R t i j ≤ i := by
  have := @su_b (fun p => if R p = true ∧ t p = j then 1 else 0) 0 i.toNat 1 (fun _ _ _ => by split <;> omega)
  unfold ctn
  omega
theorem ctn_congr {t' : Int → Int} {i j : Int} (h : ∀ p, 0 ≤ p → p < i → (t' p = j ↔ t p = j)) : ctn R t' i j = ctn R t i j := by
  unfold ctn
  refine su_congr fun p p1 p2 => ?_
  have e := h p p1 (by omega)
  by_cases z : R p = true ∧ t p = j
  · rw [if_pos z, if_pos ⟨z.1, e.mpr z.2⟩]
  · rw [if_neg z, if_neg (fun q => z ⟨q.1, e.mp q.2⟩)]
/-- all counts together: how many have one -/
theorem ctn_all {n : Nat} (ht : ∀ p, 0 ≤ p → p < (n : Int) → t p = -1 ∨ (0 ≤ t p ∧ t p < 12)) : su (fun j => ctn R t n j) 0 12 = su (fun p => if R p = true ∧ t p ≠ -1 then 1 else 0) 0 n := by
  have e1 : su (fun j => ctn R t n j) 0 12 = su (fun j => su (fun p => if R p = true ∧ t p = j then 1 else 0) 0 n) 0 12 := su_congr fun j _ _ => by
    unfold ctn
    rw [show ((n : Int)).toNat = n by omega]
  rw [e1, su_swap]
  refine su_congr fun p p1 p2 => ?_
  by_cases z : R p = true ∧ t p ≠ -1
  · have h := (ht p p1 (by omega)).resolve_left z.2
    rw [if_pos z, su_one (t p) h.1 (by omega) (fun i _ _ ni => if_neg (fun q => ni q.2.symm)), if_pos ⟨z.1, rfl⟩]
  · rw [if_neg z]
    exact su_zero fun i i1 i2 => if_neg (fun q => z ⟨q.1, by omega⟩)
end CTN
