/-! PURE PART, 95: seek: lists of what is kept -/
def cn (K : Int → Bool) (k : Int) : Int := su (fun i => if K i = true then 1 else 0) 0 k.toNat
section CN
variable {K : Int → Bool}
theorem cn_0 : cn K 0 = 0 := rfl
theorem cn_S {k : Int} (h : 0 ≤ k) : cn K (k + 1) = cn K k + if K k = true then 1 else 0 := by
  unfold cn
  rw [show (k + 1).toNat = k.toNat + 1 by omega, su_S]
  rw [show (0 : Int) + (k.toNat : Int) = k by omega]
theorem cn_le : ∀ {n : Nat} {i : Int}, 0 ≤ i → cn K i ≤ cn K (i + n) ∧ cn K (i + n) ≤ cn K i + n
  | 0, i, _ => by rw [show i + ((0 : Nat) : Int) = i by omega]; omega
  | n + 1, i, h => by
    have ih := @cn_le n i h
    rw [show i + ((n + 1 : Nat) : Int) = i + n + 1 by omega, cn_S (by omega)]
    split <;> omega
theorem cn_mono {i k : Int} (h : 0 ≤ i) (h2 : i ≤ k) : cn K i ≤ cn K k ∧ cn K k ≤ cn K i + (k - i) := by
  have := @cn_le K (k - i).toNat i h
  rw [show i + ((k - i).toNat : Int) = k by omega] at this
  omega
theorem cn_b {k : Int} (h : 0 ≤ k) : 0 ≤ cn K k ∧ cn K k ≤ k := by
  have := @cn_mono K 0 k (by omega) h
  rw [cn_0] at this
  omega
theorem cn_lt {i k : Int} (h : 0 ≤ i) (h2 : i < k) (y : K i = true) : cn K i < cn K k := by
  have a := @cn_S K i h
  rw [if_pos y] at a
  have b := @cn_mono K (i + 1) k (by omega) (by omega)
  omega
theorem cn_sur {i : Int} (i0 : 0 ≤ i) : ∀ {n : Nat}, i < cn K n → ∃ k : Int, 0 ≤ k ∧ k < n ∧ K k = true ∧ cn K k = i
  | 0, h => by
    rw [show ((0 : Nat) : Int) = 0 from rfl, cn_0] at h
    omega
  | n + 1, h => by
    rw [show ((n + 1 : Nat) : Int) = (n : Int) + 1 by omega, cn_S (by omega)] at h
    by_cases z : i < cn K n
    · obtain ⟨k, k1, k2, k3⟩ := cn_sur i0 z
      exact ⟨k, k1, by omega, k3⟩
    · by_cases y : K n = true
      · rw [if_pos y] at h
        exact ⟨n, by omega, by omega, y, by omega⟩
      · rw [if_neg y] at h
        omega
theorem cn_congr {K' : Int → Bool} {k : Int} (h : ∀ i, 0 ≤ i → i < k → K' i = K i) : cn K' k = cn K k := by
  unfold cn
  exact su_congr fun i i1 i2 => by rw [h i i1 (by omega)]
theorem cn_all {n : Int} (n0 : 0 ≤ n) (h : ∀ i, 0 ≤ i → i < n → K i = true) : cn K n = n := by
  have e : cn K n = cn (fun _ => true) n := cn_congr fun i i1 i2 => h i i1 i2
  rw [e]
  unfold cn
  simp only [if_true]
  rw [su_c1]
  omega
theorem cn_rm {k0 : Int} (h0 : 0 ≤ k0) (y : K k0 = true) : ∀ {n : Nat}, cn (fun k => K k && !(k == k0)) n = cn K n - if k0 < (n : Int) then 1 else 0
  | 0 => by
    rw [show ((0 : Nat) : Int) = 0 from rfl, cn_0, cn_0, if_neg (by omega)]
    rfl
  | n + 1 => by
    rw [show ((n + 1 : Nat) : Int) = (n : Int) + 1 by omega, cn_S (by omega), cn_S (by omega), @cn_rm k0 h0 y n]
    by_cases e : (n : Int) = k0
    · rw [e, y]
      simp
      omega
    · have e2 : ((n : Int) == k0) = false := by simp [e]
      rw [e2]
      simp only [Bool.not_false, Bool.and_true]
      by_cases z : k0 < (n : Int)
      · rw [if_pos z, if_pos (show k0 < (n : Int) + 1 by omega)]
        omega
      · rw [if_neg z, if_neg (show ¬ k0 < (n : Int) + 1 by omega)]
        omega
end CN
/-- f are the w that are kept of D's n, in order -/
def KpL (D : Int → Int) (n : Int) (K : Int → Bool) (w : Int) (f : Int → Int) : Prop := w = cn K n ∧ ∀ k, 0 ≤ k → k < n → K k = true → f (cn K k) = D k
section FLS
variable {D f : Int → Int} {n w : Int} {K : Int → Bool}
theorem KpL.all (n0 : 0 ≤ n) (h : ∀ i, 0 ≤ i → i < n → K i = true) : KpL D n K n D := ⟨(cn_all n0 h).symm, fun k k1 k2 _ => by rw [cn_all k1 (fun i i1 i2 => h i i1 (by omega))]⟩
theorem KpL.sur (F : KpL D n K w f) (n0 : 0 ≤ n) {i : Int} (i1 : 0 ≤ i) (i2 : i < w) : ∃ k, 0 ≤ k ∧ k < n ∧ K k = true ∧ cn K k = i ∧ f i = D k := by
  obtain ⟨e, F⟩ := F
  rw [e, show n = ((n.toNat : Nat) : Int) by omega] at i2
  obtain ⟨k, k1, k2, k3, k4⟩ := cn_sur i1 i2
  exact ⟨k, k1, by omega, k3, k4, by rw [← k4]; exact F k k1 (by omega) k3⟩
theorem KpL.b (F : KpL D n K w f) (n0 : 0 ≤ n) : 0 ≤ w ∧ w ≤ n := by
  rw [F.1]
  exact cn_b n0
theorem KpL.congr {K' : Int → Bool} (F : KpL D n K w f) (h : ∀ i, 0 ≤ i → i < n → K' i = K i) : KpL D n K' w f := by
  refine ⟨by rw [cn_congr h]; exact F.1, fun k k1 k2 k3 => ?_⟩
  rw [cn_congr (fun i i1 i2 => h i i1 (by omega))]
  exact F.2 k k1 k2 (by rw [← h k k1 k2]; exact k3)
theorem KpL.rm {k0 : Int} (F : KpL D n K w f) (k1 : 0 ≤ k0) (k2 : k0 < n) (y : K k0 = true) : KpL D n (fun k => K k && !(k == k0)) (w - 1) (fun i => if i < cn K k0 then f i else f (i + 1)) := by
  have r : ∀ k, 0 ≤ k → cn (fun k => K k && !(k == k0)) k = cn K k - if k0 < k then 1 else 0 := fun k h => by
    have := @cn_rm K k0 k1 y k.toNat
    rw [show ((k.toNat : Nat) : Int) = k by omega] at this
    exact this
  refine ⟨by rw [r n (by omega), if_pos k2, F.1], fun k q1 q2 q3 => ?_⟩
  have y3 : K k = true ∧ k ≠ k0 := by
    simp at q3
    exact q3
  rw [r k q1]
  by_cases z : k0 < k
  · have := cn_lt k1 z y
    rw [if_pos z]
    show (if cn K k - 1 < cn K k0 then f (cn K k - 1) else f (cn K k - 1 + 1)) = D k
    rw [if_neg (by omega), show cn K k - 1 + 1 = cn K k by omega]
    exact F.2 k q1 q2 y3.1
  · have z2 : k < k0 := by omega
    have := cn_lt q1 z2 y3.1
    rw [if_neg z]
    show (if cn K k - 0 < cn K k0 then f (cn K k - 0) else f (cn K k - 0 + 1)) = D k
    rw [if_pos (by omega), show cn K k - 0 = cn K k by omega]
    exact F.2 k q1 q2 y3.1
/-- where a kept one lies -/
theorem KpL.pl {k0 : Int} (F : KpL D n K w f) (n0 : 0 ≤ n) (k1 : 0 ≤ k0) (k2 : k0 < n) (y : K k0 = true) (inj : ∀ k, 0 ≤ k → k < n → D k = D k0 → k = k0) : (0 ≤ cn K k0 ∧ cn K k0 < w) ∧ ∀ i, 0 ≤ i → i < w → (f i = D k0 ↔ i = cn K k0) := by
  have b := @cn_b K k0 k1
  have l := cn_lt k1 k2 y
  refine ⟨⟨b.1, by rw [F.1]; exact l⟩, fun i i1 i2 => ⟨fun h => ?_, fun h => by rw [h]; exact F.2 k0 k1 k2 y⟩⟩
  obtain ⟨k, q1, q2, q3, q4, q5⟩ := F.sur n0 i1 i2
  rw [← q4, inj k q1 q2 (q5.symm.trans h)]
/-- what isn't kept isn't there -/
theorem KpL.no (F : KpL D n K w f) (n0 : 0 ≤ n) {v : Int} (h : ∀ k, 0 ≤ k → k < n → K k = true → D k ≠ v) {i : Int} (i1 : 0 ≤ i) (i2 : i < w) : f i ≠ v := by
  obtain ⟨k, q1, q2, q3, q4, q5⟩ := F.sur n0 i1 i2
  rw [q5]
  exact h k q1 q2 q3
theorem KpL.inj {i i' : Int} (F : KpL D n K w f) (n0 : 0 ≤ n) (i1 : 0 ≤ i) (i2 : i < i') (i3 : i' < w) : ∃ k k', 0 ≤ k ∧ k < k' ∧ k' < n ∧ f i = D k ∧ f i' = D k' := by
  obtain ⟨k, q1, q2, q3, q4, q5⟩ := F.sur n0 i1 (by omega)
  obtain ⟨k', r1, r2, r3, r4, r5⟩ := F.sur n0 (show 0 ≤ i' by omega) i3
  refine ⟨k, k', q1, ?_, r2, q5, r5⟩
  by_cases z : k < k'
  · exact z
  · have := (@cn_mono K k' k r1 (by omega)).1
    omega
end FLS
