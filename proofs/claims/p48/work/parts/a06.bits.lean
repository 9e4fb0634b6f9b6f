/-! PURE PART, a06: the law's small things: cells of the script, bits -/
theorem JJ.ups {n n' : Int} {C : Cd} {N : Nd} {A : Ad} (j : JJ n C N A) (h : n ≤ n') : JJ n' C N A := ⟨j.1, j.2.1, j.2.2.1, j.2.2.2.1, j.2.2.2.2.1, j.2.2.2.2.2.1, j.2.2.2.2.2.2.1, j.zn.up h, by have := j.b.1; omega, by have := j.b.2.1; omega, by have := j.b.2.2.1; omega, fun g h1 h2 => by have := j.b.2.2.2 g h1 h2; omega⟩
theorem ian_m {x m : Int} (h1 : 0 ≤ m) (h2 : m < 2147483648) : 0 ≤ ian x m ∧ ian x m ≤ m := by
  have e : ian x m = ((BitVec.ofInt 32 x) &&& (BitVec.ofInt 32 m)).toInt := rfl
  have hb : (BitVec.ofInt 32 m).toNat = m.toNat := by
    rw [BitVec.toNat_ofInt]
    omega
  have hn : ((BitVec.ofInt 32 x) &&& (BitVec.ofInt 32 m)).toNat ≤ m.toNat := by
    rw [BitVec.toNat_and, hb]
    exact Nat.and_le_right
  rw [e, BitVec.toInt_eq_toNat_of_lt (by omega)]
  omega
/-- a cell of the script -/
theorem l_cell {M : Mm} {sl a b : Int} {sc : Int → Int} (s1 : 0 ≤ sl) (s2 : sl ≤ 260) (a1 : 0 ≤ a) (a2 : a < 1000) (b1 : 0 < b) (b2 : b < 10000) : ∃ v, p_L_cell M sl sc a b = some v ∧ 0 ≤ v ∧ v < b := by
  have ws : w sl = sl := w_eq (by omega) (by omega)
  unfold p_L_cell
  by_cases h : sl = 0
  · have w1 : w (a * 37) = a * 37 := w_eq (by omega) (by omega)
    have w2 : w (a * 37 + 5) = a * 37 + 5 := w_eq (by omega) (by omega)
    rw [ws, if_pos h, gd_t (show b ≠ 0 by omega), w1, w2, irm_nn (by omega) (by omega) b1 (by omega)]
    exact ⟨_, rfl, Int.emod_nonneg _ (by omega), Int.emod_lt_of_pos _ b1⟩
  · have i1 := Int.emod_nonneg a (show sl ≠ 0 by omega)
    have i2 := Int.emod_lt_of_pos a (show 0 < sl by omega)
    rw [ws, if_neg h, gd_t (show sl ≠ 0 from h), irm_nn (x := a) (y := sl) a1 (by omega) (by omega) (by omega), gd_t ⟨i1, i2⟩, gd_t (show b ≠ 0 by omega)]
    have m := @ian_m (shr (sc (a % sl)) (irm a 7)) 4194303 (by decide) (by decide)
    rw [irm_nn m.1 (by omega) b1 (by omega)]
    exact ⟨_, rfl, Int.emod_nonneg _ (by omega), Int.emod_lt_of_pos _ b1⟩
theorem sh64 : ∀ k : Fin 64, ((Int32.ofInt (k.val : Int)).toInt64 &&& 63).toBitVec.smod 64 = BitVec.ofNat 64 k.val := by decide +kernel
/-- bit k of a long number -/
def lbt (x k : Int) : Bool := (BitVec.ofInt 64 x).getLsbD k.toNat
def HB (x k : Int) : Prop := lcp (lan (lsr x k) 1) 1 = 0
theorem one_bit {a : BitVec 64} : (a &&& 1#64).toInt = 1 ↔ a.getLsbD 0 = true := by
  have e : a &&& 1#64 = if a.getLsbD 0 = true then 1#64 else 0#64 := by
    apply BitVec.eq_of_getLsbD_eq
    intro i hi
    rw [BitVec.getLsbD_and]
    by_cases h : i = 0
    · subst h
      cases a.getLsbD 0 <;> simp
    · have h1 : (1#64).getLsbD i = false := by simp; omega
      rw [h1, Bool.and_false]
      split
      · exact h1.symm
      · simp
  rw [e]
  split
  · rename_i h
    exact ⟨fun _ => h, fun _ => by decide⟩
  · rename_i h
    exact ⟨fun q => absurd q (by decide), fun q => absurd q h⟩
theorem hb_iff {x k : Int} (k1 : 0 ≤ k) (k2 : k < 64) : HB x k ↔ lbt x k = true := by
  have hk := sh64 ⟨k.toNat, by omega⟩
  have ek : ((k.toNat : Nat) : Int) = k := by omega
  simp only [ek] at hk
  unfold HB
  rw [lcp_z]
  have e1 : lan (lsr x k) 1 = ((Int64.ofInt x >>> ((Int32.ofInt k).toInt64 &&& 63)).toBitVec &&& 1#64).toInt := by
    unfold lan lsr
    rw [Int64.ofInt_toInt]
    rfl
  have e2 : (Int64.ofInt x >>> ((Int32.ofInt k).toInt64 &&& 63)).toBitVec = (BitVec.ofInt 64 x).sshiftRight k.toNat := by
    rw [Int64.toBitVec_shiftRight, hk]
    show (BitVec.ofInt 64 x).sshiftRight (BitVec.ofNat 64 k.toNat).toNat = _
    congr 1
    rw [BitVec.toNat_ofNat]
    omega
  rw [e1, e2, one_bit]
  unfold lbt
  rw [BitVec.getLsbD_sshiftRight]
  have h1 : ¬ 64 ≤ 0 := by omega
  have h2 : k.toNat + 0 < 64 := by omega
  simp [h2]
  omega
theorem hb_put {x a k : Int} (a1 : 0 ≤ a) (a2 : a < 64) (k1 : 0 ≤ k) (k2 : k < 64) : HB (lio x (lsl 1 a)) k ↔ HB x k ∨ k = a := by
  have hk := sh64 ⟨a.toNat, by omega⟩
  have ek : ((a.toNat : Nat) : Int) = a := by omega
  simp only [ek] at hk
  rw [hb_iff k1 k2, hb_iff k1 k2]
  unfold lbt
  have e1 : BitVec.ofInt 64 (lio x (lsl 1 a)) = BitVec.ofInt 64 x ||| (1#64 <<< a.toNat) := by
    have e2 : BitVec.ofInt 64 (lio x (lsl 1 a)) = (Int64.ofInt x ||| Int64.ofInt (lsl 1 a)).toBitVec := by
      unfold lio
      show (Int64.ofInt (Int64.ofInt x ||| Int64.ofInt (lsl 1 a)).toInt).toBitVec = _
      rw [Int64.ofInt_toInt]
    rw [e2, Int64.toBitVec_or]
    congr 1
    unfold lsl
    rw [Int64.ofInt_toInt, Int64.toBitVec_shiftLeft, hk]
    show 1#64 <<< (BitVec.ofNat 64 a.toNat).toNat = _
    congr 1
    rw [BitVec.toNat_ofNat]
    omega
  rw [e1, BitVec.getLsbD_or, BitVec.getLsbD_shiftLeft, Bool.or_eq_true]
  constructor
  · rintro (h | h)
    · exact Or.inl h
    · simp at h
      right
      omega
  · rintro (h | h)
    · exact Or.inl h
    · subst h
      right
      simp
      omega
theorem mdiv : ∀ m : Fin 150, shr (m.val : Int) 6 = (m.val : Int) / 64 ∧ ian (m.val : Int) 63 = (m.val : Int) % 64 := by decide +kernel
theorem m64 {m : Int} (m1 : 0 ≤ m) (m2 : m < 150) : shr m 6 = m / 64 ∧ ian m 63 = m % 64 := by
  have h := mdiv ⟨m.toNat, by omega⟩
  have e : ((m.toNat : Nat) : Int) = m := by omega
  simp only [e] at h
  exact h
/-- whether a message was got -/
def got (N : Nd) (m : Int) : Prop := HB (N 15001 (m / 64)) (m % 64)
theorem aok_got {m : Int} (m1 : 0 ≤ m) (m2 : m < 150) : aok 15001 (m / 64) := ⟨by decide, by omega, by rw [show ln 15001 = 3 by decide]; omega⟩
theorem rd_got {C : Cd} {N : Nd} {A : Ad} {j : Int} : rd (mk C N A) 15001 j = N 15001 j := rd_mk_m (by decide) (fun h => absurd h.1 (by decide))
theorem wr_got {C : Cd} {N : Nd} {A : Ad} {j v : Int} : wr (mk C N A) 15001 j v = mk C (up N 15001 j v) A := wr_mk_m (by decide) (fun h => absurd h.1 (by decide))
theorem rd_lst {C : Cd} {N : Nd} {A : Ad} {j : Int} : rd (mk C N A) 13490 j = N 13490 j := rd_mk_m (by decide) (fun h => absurd h.1 (by decide))
theorem wr_lst {C : Cd} {N : Nd} {A : Ad} {j v : Int} : wr (mk C N A) 13490 j v = mk C (up N 13490 j v) A := wr_mk_m (by decide) (fun h => absurd h.1 (by decide))
theorem l_has1 {C : Cd} {N : Nd} {A : Ad} {m : Int} (m1 : 0 ≤ m) (m2 : m < 150) (h : got N m) : p_L_has (mk C N A) 15001 m = some 1 := by
  obtain ⟨e1, e2⟩ := m64 m1 m2
  unfold p_L_has
  rw [e1, e2, gd_t (aok_got m1 m2), rd_got]
  exact if_pos h
theorem l_has0 {C : Cd} {N : Nd} {A : Ad} {m : Int} (m1 : 0 ≤ m) (m2 : m < 150) (h : ¬ got N m) : p_L_has (mk C N A) 15001 m = some 0 := by
  obtain ⟨e1, e2⟩ := m64 m1 m2
  unfold p_L_has
  rw [e1, e2, gd_t (aok_got m1 m2), rd_got]
  exact if_neg h
