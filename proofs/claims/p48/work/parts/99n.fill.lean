/-! PURE PART, 99n: deal: who is below its share takes what has no target -/
def blw (c F : Int → Int) : Int := ff (fun k => decide (c k < F k)) 12 0
def flS (R : Int → Bool) (F wz : Int → Int) : Int → ((Int → Int) × (Int → Int)) × Int → ((Int → Int) × (Int → Int)) × Int := fun p s => if R p = true ∧ s.1.2 p = -1 then ((fu s.1.1 (blw s.1.1 F) (s.1.1 (blw s.1.1 F) + 1), fu s.1.2 p (blw s.1.1 F)), s.2 + if wz p = -1 ∨ wz p = blw s.1.1 F then 0 else 1) else s
section FIL
variable {R : Int → Bool} {c F t : Int → Int}
theorem blw_p (h : su c 0 12 < su F 0 12) : (0 ≤ blw c F ∧ blw c F < 12 ∧ c (blw c F) < F (blw c F)) ∧ ∀ i, 0 ≤ i → i < blw c F → ¬ c i < F i := by
  obtain ⟨j, j1, j2, j3⟩ := su_ex h
  have b := @ff_b (fun k => decide (c k < F k)) 12 0
  have lt : blw c F < 12 := by
    by_cases y : blw c F < 12
    · exact y
    · have := @ff_no (fun k => decide (c k < F k)) 12 0 j j1 (by unfold blw at y; omega)
      exact absurd j3 (of_decide_eq_false this)
  unfold blw at lt ⊢
  exact ⟨⟨b.1, lt, of_decide_eq_true (ff_yes (P := fun k => decide (c k < F k)) (n := 12) (i := 0) (by omega))⟩, fun i i1 i2 => of_decide_eq_false (@ff_no (fun k => decide (c k < F k)) 12 0 i i1 (by omega))⟩
theorem ctn_fu {p b j : Int} {n : Nat} (p1 : 0 ≤ p) (p2 : p < (n : Int)) (hR : R p = true) (ht : t p = -1) (j0 : 0 ≤ j) : ctn R (fu t p b) n j = ctn R t n j + if b = j then 1 else 0 := by
  unfold ctn
  have e : su (fun x => if R x = true ∧ fu t p b x = j then 1 else 0) 0 ((n : Int)).toNat = su (fun x => (if R x = true ∧ t x = j then 1 else 0) + if x = p then (if b = j then 1 else 0) else 0) 0 ((n : Int)).toNat := su_congr fun x x1 x2 => by
    unfold fu
    by_cases z : x = p
    · rw [if_pos z, if_pos z, z]
      rw [if_neg (show ¬ (R p = true ∧ t p = j) from fun q => by omega)]
      by_cases y : b = j
      · rw [if_pos y, if_pos ⟨hR, y⟩]
        rfl
      · rw [if_neg y, if_neg (fun q => y q.2)]
        rfl
    · rw [if_neg z, if_neg z, Int.add_zero]
  rw [e, su_plus, su_one p p1 (by omega) (fun i _ _ ni => if_neg ni), if_pos rfl]
def FII (R : Int → Bool) (F : Int → Int) (i : Int) (s : ((Int → Int) × (Int → Int)) × Int) : Prop := (∀ j, 0 ≤ j → j < 12 → s.1.1 j = ctn R s.1.2 (9 : Nat) j ∧ s.1.1 j ≤ F j) ∧ (∀ p, 0 ≤ p → p < 9 → s.1.2 p = -1 ∨ (0 ≤ s.1.2 p ∧ s.1.2 p < 12)) ∧ ∀ p, 0 ≤ p → p < i → R p = true → s.1.2 p ≠ -1
/-- there is one below its share -/
theorem FII.ex {i : Int} {s : ((Int → Int) × (Int → Int)) × Int} (h : FII R F i s) (hs : su F 0 12 = su (fun p => if R p = true then 1 else 0) 0 9) (i0 : 0 ≤ i) (i9 : i < 9) (hR : R i = true) (ht : s.1.2 i = -1) : su s.1.1 0 12 < su F 0 12 := by
  obtain ⟨h1, h2, -⟩ := h
  have e1 : su s.1.1 0 12 = su (fun j => ctn R s.1.2 (9 : Nat) j) 0 12 := su_congr fun j j1 j2 => (h1 j j1 (by omega)).1
  rw [e1, ctn_all (fun p p1 p2 => h2 p p1 (by omega)), hs]
  refine su_lt (fun x _ _ => ?_) i i0 (by omega) ?_
  · by_cases z : R x = true ∧ s.1.2 x ≠ -1
    · rw [if_pos z, if_pos z.1]
      omega
    · rw [if_neg z]
      split <;> omega
  · rw [if_neg (fun z => z.2 ht), if_pos hR]
    omega
theorem FII.step {i : Int} {s : ((Int → Int) × (Int → Int)) × Int} {wz : Int → Int} (h : FII R F i s) (hs : su F 0 12 = su (fun p => if R p = true then 1 else 0) 0 9) (i0 : 0 ≤ i) (i9 : i < 9) : FII R F (i + 1) (flS R F wz i s) := by
  have h0 := h
  obtain ⟨h1, h2, h3⟩ := h
  unfold flS
  by_cases z : R i = true ∧ s.1.2 i = -1
  · rw [if_pos z]
    obtain ⟨⟨b1, b2, b3⟩, -⟩ := blw_p (h0.ex hs i0 i9 z.1 z.2)
    generalize blw s.1.1 F = b at b1 b2 b3
    refine ⟨fun j j1 j2 => ?_, fun p p1 p2 => ?_, fun p p1 p2 hp => ?_⟩
    · show fu s.1.1 b (s.1.1 b + 1) j = ctn R (fu s.1.2 i b) (9 : Nat) j ∧ fu s.1.1 b (s.1.1 b + 1) j ≤ F j
      rw [ctn_fu i0 (by omega) z.1 z.2 j1]
      have q := h1 j j1 j2
      unfold fu
      by_cases e : j = b
      · rw [if_pos e, if_pos e.symm, ← e]
        rw [← e] at b3
        omega
      · rw [if_neg e, if_neg (fun y => e y.symm), Int.add_zero]
        exact q
    · show fu s.1.2 i b p = -1 ∨ (0 ≤ fu s.1.2 i b p ∧ fu s.1.2 i b p < 12)
      unfold fu
      by_cases e : p = i
      · rw [if_pos e]; exact Or.inr ⟨b1, b2⟩
      · rw [if_neg e]; exact h2 p p1 p2
    · show fu s.1.2 i b p ≠ -1
      unfold fu
      by_cases e : p = i
      · rw [if_pos e]; omega
      · rw [if_neg e]; exact h3 p p1 (by omega) hp
  · rw [if_neg z]
    refine ⟨h1, h2, fun p p1 p2 hp => ?_⟩
    by_cases e : p = i
    · rw [e] at hp ⊢
      exact fun y => z ⟨hp, y⟩
    · exact h3 p p1 (by omega) hp
/-- in the end all have their share -/
theorem FII.done {s : ((Int → Int) × (Int → Int)) × Int} (h : FII R F 9 s) (hs : su F 0 12 = su (fun p => if R p = true then 1 else 0) 0 9) : ∀ j, 0 ≤ j → j < 12 → ctn R s.1.2 (9 : Nat) j = F j := by
  obtain ⟨h1, h2, h3⟩ := h
  have e1 : su s.1.1 0 12 = su (fun j => ctn R s.1.2 (9 : Nat) j) 0 12 := su_congr fun j j1 j2 => (h1 j j1 (by omega)).1
  have e2 : su (fun p => if R p = true ∧ s.1.2 p ≠ -1 then 1 else 0) 0 9 = su (fun p => if R p = true then 1 else 0) 0 9 := su_congr fun p p1 p2 => by
    by_cases z : R p = true
    · rw [if_pos ⟨z, h3 p p1 (by omega) z⟩, if_pos z]
    · rw [if_neg (fun q => z q.1), if_neg z]
  have e3 : su s.1.1 0 12 = su F 0 12 := by
    rw [e1, ctn_all (fun p p1 p2 => h2 p p1 (by omega)), hs]
    exact e2
  intro j j1 j2
  have q := h1 j j1 j2
  by_cases y : s.1.1 j < F j
  · have := su_lt (g := s.1.1) (g' := F) (i0 := 0) (n := 12) (fun i i1 i2 => (h1 i i1 (by omega)).2) j j1 (by omega) y
    omega
  · omega
end FIL
