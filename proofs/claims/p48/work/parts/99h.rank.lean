/-! PURE PART, 99h: deal: who is ahead of whom -/
theorem su_le {g g' : Int → Int} {i0 : Int} : ∀ {n : Nat}, (∀ i, i0 ≤ i → i < i0 + n → g i ≤ g' i) → su g i0 n ≤ su g' i0 n
  | 0, _ => by rw [su_0, su_0]; omega
  | n + 1, h => by
    have a := @su_le g g' i0 n (fun i i1 i2 => h i i1 (by omega))
    have b := h (i0 + n) (by omega) (by omega)
    rw [su_S, su_S]
    omega
theorem su_lt {g g' : Int → Int} {i0 : Int} : ∀ {n : Nat}, (∀ i, i0 ≤ i → i < i0 + n → g i ≤ g' i) → ∀ k, i0 ≤ k → k < i0 + n → g k < g' k → su g i0 n < su g' i0 n
  | 0, _, k, k1, k2, _ => by omega
  | n + 1, h, k, k1, k2, k3 => by
    have b := h (i0 + n) (by omega) (by omega)
    rw [su_S, su_S]
    by_cases e : k = i0 + n
    · have a := @su_le g g' i0 n (fun i i1 i2 => h i i1 (by omega))
      rw [e] at k3
      omega
    · have a := @su_lt g g' i0 n (fun i i1 i2 => h i i1 (by omega)) k k1 (by omega) k3
      omega
/-- i, ahead of j: more targets, then the smaller number -/
abbrev ah (T : Int → Int) (i j : Int) : Prop := T j < T i ∨ (T i = T j ∧ i < j)
def rk (T I : Int → Int) (j : Int) : Int := su (fun i => if I i = 1 ∧ ah T i j then 1 else 0) 0 12
def mc (I : Int → Int) : Int := su (fun i => if I i = 1 then 1 else 0) 0 12
section RK
variable {T I : Int → Int}
theorem ah_n {i : Int} : ¬ ah T i i := fun h => by omega
theorem ah_tot {i j : Int} (h : i ≠ j) : ah T i j ∨ ah T j i := by omega
theorem ah_tr {i j k : Int} (h : ah T i j) (h2 : ah T j k) : ah T i k := by omega
theorem rk_lt {i j : Int} (i1 : 0 ≤ i) (i2 : i < 12) (hi : I i = 1) (h : ah T i j) : rk T I i < rk T I j := by
  unfold rk
  refine su_lt (fun x _ _ => ?_) i i1 (by omega) ?_
  · by_cases z : I x = 1 ∧ ah T x i
    · rw [if_pos z, if_pos ⟨z.1, ah_tr z.2 h⟩]
      omega
    · rw [if_neg z]
      split <;> omega
  · rw [if_neg (fun z => ah_n z.2), if_pos ⟨hi, h⟩]
    omega
theorem rk_iff {i j : Int} (i1 : 0 ≤ i) (i2 : i < 12) (hi : I i = 1) (j1 : 0 ≤ j) (j2 : j < 12) (hj : I j = 1) : ah T i j ↔ rk T I i < rk T I j := by
  constructor
  · exact rk_lt i1 i2 hi
  · intro h
    by_cases e : i = j
    · rw [e] at h; omega
    · rcases ah_tot (T := T) e with q | q
      · exact q
      · have := rk_lt (I := I) j1 j2 hj q
        omega
theorem rk_inj {i j : Int} (i1 : 0 ≤ i) (i2 : i < 12) (hi : I i = 1) (j1 : 0 ≤ j) (j2 : j < 12) (hj : I j = 1) (h : rk T I i = rk T I j) : i = j := by
  by_cases e : i = j
  · exact e
  · rcases ah_tot (T := T) e with q | q
    · have := rk_lt (I := I) i1 i2 hi q
      omega
    · have := rk_lt (I := I) j1 j2 hj q
      omega
theorem rk_b {j : Int} (j1 : 0 ≤ j) (j2 : j < 12) (hj : I j = 1) : 0 ≤ rk T I j ∧ rk T I j < mc I := by
  constructor
  · exact (@su_b (fun i => if I i = 1 ∧ ah T i j then 1 else 0) 0 12 1 (fun _ _ _ => ite_b)).1
  · unfold rk mc
    refine su_lt (fun x _ _ => ?_) j j1 (by omega) ?_
    · by_cases z : I x = 1 ∧ ah T x j
      · rw [if_pos z, if_pos z.1]
        omega
      · rw [if_neg z]
        split <;> omega
    · rw [if_neg (fun z => ah_n z.2), if_pos hj]
      omega
/-- of those from s on, the least -/
theorem rk_min {s : Int} : ∀ (n : Nat) (j : Int), 0 ≤ j → j < 12 → I j = 1 → s ≤ rk T I j → rk T I j ≤ s + n → ∃ b, (0 ≤ b ∧ b < 12 ∧ I b = 1) ∧ s ≤ rk T I b ∧ ∀ x, 0 ≤ x → x < 12 → I x = 1 → s ≤ rk T I x → rk T I b ≤ rk T I x := by
  intro n
  induction n with
  | zero =>
    intro j j1 j2 hj h1 h2
    exact ⟨j, ⟨j1, j2, hj⟩, h1, fun x x1 x2 hx h => by omega⟩
  | succ n ih =>
    intro j j1 j2 hj h1 h2
    by_cases z : ∃ x, 0 ≤ x ∧ x < 12 ∧ I x = 1 ∧ s ≤ rk T I x ∧ rk T I x < rk T I j
    · obtain ⟨x, x1, x2, hx, x3, x4⟩ := z
      exact ih x x1 x2 hx x3 (by omega)
    · refine ⟨j, ⟨j1, j2, hj⟩, h1, fun x x1 x2 hx h => ?_⟩
      by_cases y : rk T I j ≤ rk T I x
      · exact y
      · exact absurd ⟨x, x1, x2, hx, h, by omega⟩ z
/-- as many as s lie before s; one lies at s -/
theorem rk_cnt : ∀ s : Nat, (s : Int) ≤ mc I → su (fun j => if I j = 1 ∧ rk T I j < (s : Int) then 1 else 0) 0 12 = (s : Int) ∧ ((s : Int) < mc I → ∃ b, (0 ≤ b ∧ b < 12 ∧ I b = 1) ∧ rk T I b = (s : Int)) := by
  have nx : ∀ s : Nat, (s : Int) < mc I → su (fun j => if I j = 1 ∧ rk T I j < (s : Int) then 1 else 0) 0 12 = (s : Int) → ∃ b, (0 ≤ b ∧ b < 12 ∧ I b = 1) ∧ rk T I b = (s : Int) := fun s hs hc => by
    have ex : ∃ j, 0 ≤ j ∧ j < 12 ∧ I j = 1 ∧ (s : Int) ≤ rk T I j := by
      by_cases z : ∃ j, 0 ≤ j ∧ j < 12 ∧ I j = 1 ∧ (s : Int) ≤ rk T I j
      · exact z
      · exfalso
        have e : su (fun j => if I j = 1 ∧ rk T I j < (s : Int) then 1 else 0) 0 12 = mc I := su_congr fun j j1 j2 => by
          by_cases y : I j = 1
          · have : rk T I j < (s : Int) := by
              by_cases q : rk T I j < (s : Int)
              · exact q
              · exact absurd ⟨j, j1, by omega, y, by omega⟩ z
            rw [if_pos ⟨y, this⟩, if_pos y]
          · rw [if_neg (fun q => y q.1), if_neg y]
        omega
    obtain ⟨j, j1, j2, hj, h⟩ := ex
    obtain ⟨b, hb, b3, b4⟩ := rk_min (s := (s : Int)) (rk T I j - s).toNat j j1 j2 hj h (by omega)
    refine ⟨b, hb, ?_⟩
    have e : rk T I b = su (fun j => if I j = 1 ∧ rk T I j < (s : Int) then 1 else 0) 0 12 := su_congr fun x x1 x2 => by
      by_cases y : I x = 1
      · have q := rk_iff (T := T) x1 (by omega) y hb.1 hb.2.1 hb.2.2
        by_cases z : ah T x b
        · have : rk T I x < (s : Int) := by
            by_cases w' : (s : Int) ≤ rk T I x
            · have := b4 x x1 (by omega) y w'
              have := q.mp z
              omega
            · omega
          rw [if_pos ⟨y, z⟩, if_pos ⟨y, this⟩]
        · have : ¬ rk T I x < (s : Int) := fun w' => z (q.mpr (by omega))
          rw [if_neg (fun q => z q.2), if_neg (fun q => this q.2)]
      · rw [if_neg (fun q => y q.1), if_neg (fun q => y q.1)]
    rw [e, hc]
  intro s
  induction s with
  | zero =>
    intro h
    have c0 : su (fun j => if I j = 1 ∧ rk T I j < ((0 : Nat) : Int) then 1 else 0) 0 12 = ((0 : Nat) : Int) := su_zero fun j j1 j2 => if_neg (fun z => by have := (rk_b (T := T) j1 (by omega) z.1).1; omega)
    exact ⟨c0, fun hs => nx 0 hs c0⟩
  | succ s ih =>
    intro h
    obtain ⟨i1, i2⟩ := ih (by omega)
    obtain ⟨b, hb, hr⟩ := i2 (by omega)
    have c1 : su (fun j => if I j = 1 ∧ rk T I j < ((s + 1 : Nat) : Int) then 1 else 0) 0 12 = ((s + 1 : Nat) : Int) := by
      have e : su (fun j => if I j = 1 ∧ rk T I j < ((s + 1 : Nat) : Int) then 1 else 0) 0 12 = su (fun j => (if I j = 1 ∧ rk T I j < (s : Int) then 1 else 0) + if j = b then 1 else 0) 0 12 := su_congr fun j j1 j2 => by
        by_cases y : I j = 1
        · by_cases eb : j = b
          · rw [eb, if_pos ⟨hb.2.2, by omega⟩, if_neg (fun q => by omega), if_pos rfl]
            rfl
          · have ne : rk T I j ≠ (s : Int) := fun q => eb (rk_inj (T := T) j1 (by omega) y hb.1 hb.2.1 hb.2.2 (q.trans hr.symm))
            rw [if_neg eb]
            by_cases z : rk T I j < (s : Int)
            · rw [if_pos ⟨y, by omega⟩, if_pos ⟨y, z⟩]
              rfl
            · rw [if_neg (fun q => z (by omega)), if_neg (fun q => z q.2)]
              rfl
        · have eb : j ≠ b := fun q => y (by rw [q]; exact hb.2.2)
          rw [if_neg (fun q => y q.1), if_neg (fun q => y q.1), if_neg eb]
          rfl
      rw [e, su_plus, i1, su_one b hb.1 (by omega) (fun i _ _ ni => if_neg ni), if_pos rfl]
      omega
    exact ⟨c1, fun hs => nx (s + 1) hs c1⟩
/-- fair shares of R among them -/
def fair (T I : Int → Int) (R j : Int) : Int := if I j = 1 then R / mc I + (if rk T I j < R % mc I then 1 else 0) else 0
theorem fair_sum {R : Int} (h : 0 < mc I) : su (fair T I R) 0 12 = R := by
  have mb := Int.emod_nonneg R (show mc I ≠ 0 by omega)
  have ml := Int.emod_lt_of_pos R h
  have c := (rk_cnt (T := T) (I := I) (R % mc I).toNat (by omega)).1
  rw [show (((R % mc I).toNat : Nat) : Int) = R % mc I by omega] at c
  have e : su (fair T I R) 0 12 = su (fun j => (if I j = 1 then R / mc I else 0) + if I j = 1 ∧ rk T I j < R % mc I then 1 else 0) 0 12 := su_congr fun j _ _ => by
    unfold fair
    by_cases y : I j = 1
    · rw [if_pos y, if_pos y]
      by_cases z : rk T I j < R % mc I
      · rw [if_pos z, if_pos ⟨y, z⟩]
      · rw [if_neg z, if_neg (fun q => z q.2)]
    · rw [if_neg y, if_neg y, if_neg (fun q => y q.1)]
      rfl
  have m : ∀ n : Nat, su (fun j => if I j = 1 then R / mc I else 0) 0 n = R / mc I * su (fun j => if I j = 1 then 1 else 0) 0 n := by
    intro n
    induction n with
    | zero => rw [su_0, su_0, Int.mul_zero]
    | succ n ih =>
      rw [su_S, su_S, ih, Int.mul_add]
      by_cases y : I (0 + n) = 1
      · rw [if_pos y, if_pos y, Int.mul_one]
      · rw [if_neg y, if_neg y, Int.mul_zero]
  have d := Int.mul_ediv_add_emod R (mc I)
  rw [e, su_plus, m 12, c, Int.mul_comm]
  exact d
end RK
