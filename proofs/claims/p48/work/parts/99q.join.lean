/-! PURE PART, 99q: deal: from the drop to the fill -/
section JN2
variable {N : Nd} {g : Int}
theorem mc_mcn (h : ∀ j, 0 ≤ j → j < 12 → N 13047 (12 * g + j) = 0 ∨ N 13047 (12 * g + j) = 1) : mc (shI N g) = mcn N g := by
  unfold mc mcn shI
  refine su_congr fun j j1 j2 => ?_
  rcases h j j1 (by omega) with z | z
  · rw [z, if_neg (by decide)]
  · rw [z, if_pos rfl]
theorem dri_fii {R : Int → Bool} {F t0 : Int → Int} {s : (Int → Int) × (Int → Int)} (h : DRI F t0 9 s) (hR : ∀ p, 0 ≤ p → p < 9 → t0 p ≠ -1 → R p = true) (ht : ∀ p, 0 ≤ p → p < 9 → t0 p = -1 ∨ (0 ≤ t0 p ∧ t0 p < 12)) : FII R F 0 (s, 0) := by
  obtain ⟨h1, h2, h3⟩ := h
  refine ⟨fun j j1 j2 => ?_, fun p p1 p2 => ?_, fun p p1 p2 => by omega⟩
  · obtain ⟨q1, q2⟩ := h1 j j1 j2
    refine ⟨?_, q2⟩
    show s.1 j = ctn R s.2 (9 : Nat) j
    rw [q1]
    unfold ctn
    refine su_congr fun p p1 p2 => ?_
    by_cases z : s.2 p = j
    · have r : R p = true := by
        have p9 : p < 9 := by
          have : ((9 : Int)).toNat = 9 := rfl
          omega
        refine hR p p1 p9 ?_
        rcases h3 p p1 p9 with y | y
        · rw [← y]; omega
        · exact y.2.1
      rw [if_pos ⟨rfl, z⟩, if_pos ⟨r, z⟩]
    · rw [if_neg (fun q => z q.2), if_neg (fun q => z q.2)]
  · show s.2 p = -1 ∨ (0 ≤ s.2 p ∧ s.2 p < 12)
    rcases h3 p p1 p2 with y | y
    · rw [y]; exact ht p p1 p2
    · exact Or.inl y.1
theorem shF_fair {j : Int} (j1 : 0 ≤ j) (j2 : j < 12) : shF N g (nsh N g % mc (shI N g)) j = fair (shT N) (shI N g) (nsh N g) j := by
  unfold shF fair
  rw [if_pos ⟨j1, j2⟩]
theorem shN_sum (h : 0 < mc (shI N g)) : su ((shN N g) 13066) 0 12 = nsh N g := by
  have e : su ((shN N g) 13066) 0 12 = su (fair (shT N) (shI N g) (nsh N g)) 0 12 := su_congr fun j j1 j2 => by
    unfold shN
    rw [ra_s, if_pos rfl]
    exact shF_fair j1 (by omega)
  rw [e]
  exact fair_sum h
end JN2
