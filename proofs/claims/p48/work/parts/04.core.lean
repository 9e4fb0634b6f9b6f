/-! THE MEMORY: one table of numbers, by things and places; a thing is a number, its kind is the number by 1000; where it lies in the heap; how many cells, slots and exceptions were made -/
abbrev Mm : Type := (Int → Int → Int) × (Int → Nat) × Nat × Nat × Nat
def rd (M : Mm) (a j : Int) : Int := M.1 a j
def mAd (M : Mm) (a : Int) : Nat := M.2.1 a
def mX (M : Mm) : Nat := M.2.2.1
def mS (M : Mm) : Nat := M.2.2.2.1
def mT (M : Mm) : Nat := M.2.2.2.2
def wr (M : Mm) (a j v : Int) : Mm := ((fun b k => if b = a ∧ k = j then v else M.1 b k), M.2)
def nw (M : Mm) (a : Int) (n : Nat) : Mm := ((fun b k => if b = a then 0 else M.1 b k), (fun b => if b = a then mX M + 1 else M.2.1 b), mX M + 1, mS M + n, mT M)
def thr (M : Mm) : Mm := (M.1, M.2.1, mX M + 1, mS M + 6, mT M + 1)
def kd (a : Int) : Nat := (a / 1000).toNat
/-- things of the ghost: never in the heap -/
def gho (a : Int) : Bool := (12000 ≤ a && a < 13490) || (14000 ≤ a && a < 15000)
/-- the length of an array, by its number -/
def lnT : List Int := [0, 0, 0, 0, 0, 3, 3, 3, 3, 3, 3, 0, 9, 9, 9, 9, 27, 27, 540, 0, 150, 150, 150, 150, 150, 150, 150, 150, 150, 150, 0, 4, 4, 4, 4, 4, 4, 4, 4, 36, 0, 0, 3, 3, 3, 3, 3, 36, 36, 36, 36, 36, 324, 324, 324, 27, 27, 27, 27, 450, 450, 450, 450, 450, 450, 12, 12, 9]
def ln (a : Int) : Int :=
  if a < 13490 then lnT.getD (a - 13000).toNat 0 else if a < 13500 then 20 else if a < 14000 then 9 else if a < 15000 then lnT.getD (a - 14000).toNat 0 else if a < 15001 then 1 else if a < 16000 then 3
  else if a < 17000 then 3 else if a < 17106 then 150 else if a < 18000 then 9 else if a < 20000 then 12 else if a < 20100 then 150 else if a < 21000 then 60
  else if a < 21100 then 9 else if a < 22000 then 3 else if a < 23000 then 4 else if a < 24000 then 3 else if a < 25000 then 9 else 3
def ftl : List (List Nat) := [[27, 22, 20, 6, 6, 0, 0, 0, 0, 0], [8, 0, 0, 0, 1, 0, 0], [20, 0], [0, 6, 0, 0, 0, 0, 0], [0, 10, 9, 0, 0, 0, 0, 0, 0, 0, 0], [0, 13, 26, 23, 11, 0], [0, 0, 0, 0, 1, 4, 7, 0, 16], [0, 0, 0, 0, 1], [9, 7, 7, 0, 0, 0], [0, 0, 0, 1, 24, 0, 0], [28, 24, 25, 19, 23, 23, 0, 0, 0, 0, 0, 0, 0, 0, 0, 0], []]
def nf (c : Nat) : Nat := (ftl.getD c []).length
def fty (c j : Nat) : Nat := (ftl.getD c []).getD j 0
def aty (k : Nat) : Nat := if k = 13 then 0 else if k = 14 then 1 else if k = 15 then 2 else k - 12
def sz (a : Int) : Nat := if kd a < 13 then nf (kd a - 1) else (ln a).toNat
/-- a new object, a new array: only where the number is free and of the kind -/
def alo (M : Mm) (k : Nat) (a : Int) (n : Nat) : Option Mm := if mAd M a = 0 ∧ kd a = k ∧ gho a = false then some (nw M a n) else none
def ala (M : Mm) (k : Nat) (a n : Int) : Option Mm := if mAd M a = 0 ∧ kd a = k ∧ ln a = n ∧ gho a = false then some (nw M a n.toNat) else none
/-! machine words -/
def w (z : Int) : Int := (Int32.ofInt z).toInt
def idv (x y : Int) : Int := (Int32.ofInt x / Int32.ofInt y).toInt
def irm (x y : Int) : Int := (Int32.ofInt x - Int32.ofInt x / Int32.ofInt y * Int32.ofInt y).toInt
def shl (x y : Int) : Int := (Int32.ofInt x <<< (Int32.ofInt y &&& 31)).toInt
def shr (x y : Int) : Int := (Int32.ofInt x >>> (Int32.ofInt y &&& 31)).toInt
def ush (x y : Int) : Int := ((Int32.ofInt x).toUInt32 >>> ((Int32.ofInt y).toUInt32 &&& Int32.toUInt32 31)).toInt32.toInt
def ian (x y : Int) : Int := (Int32.ofInt x &&& Int32.ofInt y).toInt
def ior (x y : Int) : Int := (Int32.ofInt x ||| Int32.ofInt y).toInt
def ixr (x y : Int) : Int := (Int32.ofInt x ^^^ Int32.ofInt y).toInt
def lcp (x y : Int) : Int := if x < y then -1 else if x = y then 0 else 1
/-- loops: at most n turns -/
def lp {σ τ : Type} (f : σ → Option (σ ⊕ τ)) : Nat → σ → Option τ
  | 0, _ => none
  | n + 1, s => (f s).bind (Sum.elim (lp f n) some)
def r32 (z : Int) : Prop := -2147483648 ≤ z ∧ z < 2147483648
def r64 (z : Int) : Prop := -9223372036854775808 ≤ z ∧ z < 9223372036854775808
theorem ofInt_w (z : Int) : Int32.ofInt (w z) = Int32.ofInt z := Int32.ofInt_toInt _
theorem ofInt_t (z : Int32) : Int32.ofInt z.toInt = z := Int32.ofInt_toInt _
theorem w_eq {z : Int} (h1 : -2147483648 ≤ z) (h2 : z < 2147483648) : w z = z := by
  unfold w
  first
    | exact Int32.toInt_ofInt_of_le (by omega) (by omega)
    | (rw [Int32.toInt_ofInt]; omega)
theorem wl_eq {z : Int} (h : r64 z) : (Int64.ofInt z).toInt = z := by
  obtain ⟨h1, h2⟩ := h
  first
    | exact Int64.toInt_ofInt_of_le (by omega) (by omega)
    | (rw [Int64.toInt_ofInt]; omega)
theorem r32_t (z : Int32) : r32 z.toInt := by
  have h1 := Int32.le_toInt z
  have h2 := Int32.toInt_lt z
  unfold r32
  omega
theorem r32_w (z : Int) : r32 (w z) := r32_t _
theorem w_r {z : Int} (h : r32 z) : w z = z := w_eq h.1 h.2
theorem i_lt {a b : Int} (ha : r32 a) (hb : r32 b) : Int32.ofInt a < Int32.ofInt b ↔ a < b := by
  rw [Int32.lt_iff_toInt_lt, show (Int32.ofInt a).toInt = a from w_r ha, show (Int32.ofInt b).toInt = b from w_r hb]
theorem i_le {a b : Int} (ha : r32 a) (hb : r32 b) : Int32.ofInt a ≤ Int32.ofInt b ↔ a ≤ b := by
  rw [Int32.le_iff_toInt_le, show (Int32.ofInt a).toInt = a from w_r ha, show (Int32.ofInt b).toInt = b from w_r hb]
theorem i_eq {a b : Int} (ha : r32 a) (hb : r32 b) : Int32.ofInt a = Int32.ofInt b ↔ a = b := by
  rw [← Int32.toInt_inj, show (Int32.ofInt a).toInt = a from w_r ha, show (Int32.ofInt b).toInt = b from w_r hb]
theorem l_lt {a b : Int} (ha : r64 a) (hb : r64 b) : Int64.ofInt a < Int64.ofInt b ↔ a < b := by
  rw [Int64.lt_iff_toInt_lt, wl_eq ha, wl_eq hb]
theorem l_eq {a b : Int} (ha : r64 a) (hb : r64 b) : Int64.ofInt a = Int64.ofInt b ↔ a = b := by
  rw [← Int64.toInt_inj, wl_eq ha, wl_eq hb]
theorem r32_0 : r32 0 := by unfold r32; omega
theorem r64_0 : r64 0 := by unfold r64; omega
theorem r32_64 {z : Int} (h : r32 z) : r64 z := by unfold r32 at h; unfold r64; omega
theorem w_add (a b : Int) : Int32.ofInt (w (a + b)) = Int32.ofInt a + Int32.ofInt b := by rw [ofInt_w]; first | exact Int32.ofInt_add a b | exact Int32.ofInt_add
theorem w_mul (a b : Int) : Int32.ofInt (w (a * b)) = Int32.ofInt a * Int32.ofInt b := by rw [ofInt_w]; first | exact Int32.ofInt_mul a b | exact Int32.ofInt_mul
theorem w_sub (a b : Int) : Int32.ofInt (w (a - b)) = Int32.ofInt a - Int32.ofInt b := by rw [ofInt_w]; first | exact Int32.ofInt_sub a b | exact Int32.ofInt_sub | (rw [Int.sub_eq_add_neg, Int32.ofInt_add, Int32.ofInt_neg, Int32.sub_eq_add_neg])
theorem w_clamp {i : Int} (h1 : 0 ≤ i) (h : r32 i) : (Int32.ofInt i).toNatClampNeg = i.toNat := by
  have h : (Int32.ofInt i).toInt = i := w_r h
  first
    | (rw [← Int32.toNat_toInt, h])
    | (unfold Int32.toNatClampNeg; rw [h])
theorem w_in {i : Int} {n : Nat} (h : r32 i) (h1 : 0 ≤ i) (h2 : i < (n : Int)) : ¬ (Int32.ofInt i < 0 ∨ n ≤ (Int32.ofInt i).toNatClampNeg) := by
  rw [w_clamp h1 h]
  rintro (q | q)
  · have q2 := (i_lt h r32_0).mp q
    omega
  · omega
/-! sums over the things -/
def sm (f : Nat → Nat) : Nat → Nat
  | 0 => 0
  | n + 1 => sm f n + f n
theorem sm_cong {f g : Nat → Nat} : ∀ {n : Nat}, (∀ j, j < n → f j = g j) → sm f n = sm g n
  | 0, _ => rfl
  | n + 1, h => by
    show sm f n + f n = sm g n + g n
    rw [sm_cong (fun j hj => h j (by omega)), h n (by omega)]
theorem sm_upd {f g : Nat → Nat} {i : Nat} (h : ∀ j, j ≠ i → g j = f j) : ∀ {n : Nat}, i < n → sm g n + f i = sm f n + g i
  | 0, hi => absurd hi (Nat.not_lt_zero _)
  | n + 1, hi => by
    show sm g n + g n + f i = sm f n + f n + g i
    by_cases hn : n = i
    · subst hn
      rw [sm_cong (fun j hj => h j (by omega))]
      omega
    · have := sm_upd h (n := n) (by omega)
      rw [h n hn]
      omega
theorem sm_le {f g : Nat → Nat} : ∀ {n : Nat}, (∀ j, j < n → f j ≤ g j) → sm f n ≤ sm g n
  | 0, _ => Nat.le_refl 0
  | n + 1, h => by
    show sm f n + f n ≤ sm g n + g n
    have := sm_le (n := n) (fun j hj => h j (by omega))
    have := h n (by omega)
    omega
def NU : Nat := 28000
def Cn (M : Mm) : Prop := mX M = sm (fun i => if mAd M (i : Int) = 0 then 0 else 1) NU + mT M ∧ mS M = sm (fun i => if mAd M (i : Int) = 0 then 0 else sz (i : Int)) NU + 6 * mT M
/-! values: a type's number, and a number: 0 int, 1 boolean, 2 long, 100 the script, 3 + k a thing of kind k (0: null) -/
abbrev VV : Type := Nat × Int
/-- where things are: the classes' numbers, the places of their fields, the arrays' classes, the first cell, the script -/
abbrev Dt : Type := (Nat → ClassId) × (Nat → Nat → Nat) × (Nat → ClassId) × Nat × Nat × Nat × (Nat → Int32)
abbrev dlo (D : Dt) : Nat := D.2.2.2.1
def rf (D : Dt) (M : Mm) (z : Int) : Option Nat := if z = 0 then none else if z = -1 then some D.2.2.2.2.1 else some (dlo D + (mAd M z - 1))
def tok (M : Mm) (t : Nat) (z : Int) : Prop := if t < 2 then r32 z else if t = 2 then r64 z else z = 0 ∨ (t = 100 ∧ z = -1) ∨ (kd z + 3 = t ∧ 0 < mAd M z)
def tv (D : Dt) (M : Mm) (t : Nat) (z : Int) : Value := if t < 2 then .int (Int32.ofInt z) else if t = 2 then .long (Int64.ofInt z) else va_rf (rf D M z)
abbrev okV (M : Mm) (v : VV) : Prop := tok M v.1 v.2
abbrev cv (D : Dt) (M : Mm) (v : VV) : Value := tv D M v.1 v.2
def lty (t : Nat) : Nat := if t = 1 then 0 else t
/-- what is stored of a number: of a truth value its last bit -/
def stv (t : Nat) (z : Int) : Int := if t = 1 then ian z 1 else z
def WT (M : Mm) : Prop :=
  (∀ a, 0 < mAd M a → (1 ≤ kd a ∧ kd a < 28 ∧ gho a = false) ∧ (kd a < 13 → ∀ j : Nat, j < nf (kd a - 1) → tok M (fty (kd a - 1) j) (rd M a j)) ∧ (13 ≤ kd a → ∀ i : Int, 0 ≤ i → i < ln a → tok M (aty (kd a)) (rd M a i))) ∧ Cn M
def cellAt (D : Dt) (M : Mm) (H : Heap) (a : Int) : Prop :=
  if kd a < 13 then t_OB (dlo D + (mAd M a - 1)) (D.1 (kd a - 1)) (nf (kd a - 1)) (D.2.1 (kd a - 1)) H (fun j => tv D M (fty (kd a - 1) j) (rd M a j))
  else H[dlo D + (mAd M a - 1)]? = some (arrV (D.2.2.1 (kd a)) (ln a).toNat (fun i => tv D M (aty (kd a)) (rd M a i)))
def Enc (D : Dt) (M : Mm) (H : Heap) : Prop :=
  H.size = dlo D + mX M ∧ (∀ a, 0 < mAd M a → mAd M a ≤ mX M ∧ cellAt D M H a) ∧ ∀ a b, 0 < mAd M a → mAd M a = mAd M b → a = b
def Gr (M M' : Mm) : Prop := mX M ≤ mX M' ∧ mS M ≤ mS M' ∧ ∀ a, 0 < mAd M a → mAd M' a = mAd M a
theorem Gr.rf {M : Mm} : Gr M M := ⟨Nat.le_refl _, Nat.le_refl _, fun _ _ => rfl⟩
theorem Gr.tr {M M1 M2 : Mm} (h : Gr M M1) (h2 : Gr M1 M2) : Gr M M2 :=
  ⟨Nat.le_trans h.1 h2.1, Nat.le_trans h.2.1 h2.2.1, fun a ha => by
    have h3 := h.2.2 a ha
    exact (h2.2.2 a (by rw [h3]; exact ha)).trans h3⟩
theorem tok0 {M : Mm} {t : Nat} : tok M t 0 := by
  unfold tok
  by_cases h : t < 2
  · rw [if_pos h]; exact r32_0
  · rw [if_neg h]
    by_cases h2 : t = 2
    · rw [if_pos h2]; exact r64_0
    · rw [if_neg h2]; exact Or.inl rfl
theorem tok.up {M M' : Mm} {t : Nat} {z : Int} (h : tok M t z) (hg : Gr M M') : tok M' t z := by
  unfold tok at h ⊢
  by_cases h1 : t < 2
  · rw [if_pos h1] at h ⊢; exact h
  · rw [if_neg h1] at h ⊢
    by_cases h2 : t = 2
    · rw [if_pos h2] at h ⊢; exact h
    · rw [if_neg h2] at h ⊢
      rcases h with h | h | ⟨h, h3⟩
      · exact Or.inl h
      · exact Or.inr (Or.inl h)
      · exact Or.inr (Or.inr ⟨h, by rw [hg.2.2 z h3]; exact h3⟩)
theorem tv.up {D : Dt} {M M' : Mm} {t : Nat} {z : Int} (h : tok M t z) (hg : Gr M M') : tv D M' t z = tv D M t z := by
  unfold tok at h
  unfold tv
  by_cases h1 : t < 2
  · rw [if_pos h1, if_pos h1]
  · rw [if_neg h1] at h; rw [if_neg h1, if_neg h1]
    by_cases h2 : t = 2
    · rw [if_pos h2, if_pos h2]
    · rw [if_neg h2] at h; rw [if_neg h2, if_neg h2]
      unfold rf
      rcases h with h | ⟨-, h⟩ | ⟨h, h3⟩
      · rw [if_pos h, if_pos h]
      · subst h; rfl
      · rw [hg.2.2 z h3]
theorem tok_i {M : Mm} {z : Int} : tok M 0 z ↔ r32 z := by unfold tok; rw [if_pos (by omega)]
theorem tok_l {M : Mm} {z : Int} : tok M 2 z ↔ r64 z := by unfold tok; rw [if_neg (by omega), if_pos rfl]
theorem tok_r {M : Mm} {t : Nat} {z : Int} (h : tok M t z) (ht : 4 ≤ t) (h1 : t ≠ 100) (hz : z ≠ 0) : kd z + 3 = t ∧ 0 < mAd M z := by
  unfold tok at h
  rw [if_neg (by omega), if_neg (by omega)] at h
  rcases h with h | h | h
  · exact absurd h hz
  · exact absurd h.1 h1
  · exact h
theorem tok_lt {M : Mm} {t : Nat} {z : Int} : tok M (lty t) z ↔ tok M t z := by
  unfold lty
  by_cases h : t = 1
  · rw [if_pos h, h]; unfold tok; rw [if_pos (by omega), if_pos (by omega)]
  · rw [if_neg h]
theorem tv_lt {D : Dt} {M : Mm} {t : Nat} {z : Int} : tv D M (lty t) z = tv D M t z := by
  unfold lty
  by_cases h : t = 1
  · rw [if_pos h, h]; rfl
  · rw [if_neg h]
theorem kd_m1 : kd (-1) = 0 := by decide
theorem rf_s {D : Dt} {M : Mm} {t : Nat} {z : Int} (h : tok M t z) (ht : 4 ≤ t) (h1 : t ≠ 100) (hz : z ≠ 0) : rf D M z = some (dlo D + (mAd M z - 1)) := by
  have h2 := (tok_r h ht h1 hz).1
  unfold rf
  rw [if_neg hz, if_neg]
  intro h3
  subst h3
  rw [kd_m1] at h2
  omega
theorem fty_lt (c j : Nat) : fty c j < 60 := by
  unfold fty
  by_cases hc : c < ftl.length
  · have h1 : ftl.getD c [] ∈ ftl := by rw [List.getD_eq_getElem?_getD, List.getElem?_eq_getElem hc]; exact List.getElem_mem hc
    have h2 : ∀ l ∈ ftl, ∀ t ∈ l, t < 60 := by decide
    by_cases hj : j < (ftl.getD c []).length
    · rw [List.getD_eq_getElem?_getD (l := ftl.getD c []), List.getElem?_eq_getElem hj]
      exact h2 _ h1 _ (List.getElem_mem hj)
    · rw [List.getD_eq_getElem?_getD (l := ftl.getD c []), List.getElem?_eq_none (by omega)]
      decide
  · rw [List.getD_eq_getElem?_getD (l := ftl), List.getElem?_eq_none (by omega)]
    simp
theorem ln_b (a : Int) : 0 ≤ ln a ∧ ln a ≤ 540 := by
  have h1 : ∀ l ∈ lnT, (0 : Int) ≤ l ∧ l ≤ 540 := by decide
  have h2 : ∀ n : Nat, 0 ≤ lnT.getD n 0 ∧ lnT.getD n 0 ≤ 540 := by
    intro n
    by_cases hn : n < lnT.length
    · rw [List.getD_eq_getElem?_getD, List.getElem?_eq_getElem hn]
      exact h1 _ (List.getElem_mem hn)
    · rw [List.getD_eq_getElem?_getD, List.getElem?_eq_none (by omega)]
      decide
  unfold ln
  by_cases q0 : a < 13490
  · rw [if_pos q0]; exact h2 _
  rw [if_neg q0]
  by_cases q00 : a < 13500
  · rw [if_pos q00]; exact ⟨by decide, by decide⟩
  rw [if_neg q00]
  by_cases q1 : a < 14000
  · rw [if_pos q1]; exact ⟨by decide, by decide⟩
  rw [if_neg q1]
  by_cases q2 : a < 15000
  · rw [if_pos q2]; exact h2 _
  rw [if_neg q2]
  by_cases q30 : a < 15001
  · rw [if_pos q30]; exact ⟨by decide, by decide⟩
  rw [if_neg q30]
  by_cases q3 : a < 16000
  · rw [if_pos q3]; exact ⟨by decide, by decide⟩
  rw [if_neg q3]
  by_cases q4 : a < 17000
  · rw [if_pos q4]; exact ⟨by decide, by decide⟩
  rw [if_neg q4]
  by_cases q5 : a < 17106
  · rw [if_pos q5]; exact ⟨by decide, by decide⟩
  rw [if_neg q5]
  by_cases q6 : a < 18000
  · rw [if_pos q6]; exact ⟨by decide, by decide⟩
  rw [if_neg q6]
  by_cases q7 : a < 20000
  · rw [if_pos q7]; exact ⟨by decide, by decide⟩
  rw [if_neg q7]
  by_cases q8 : a < 20100
  · rw [if_pos q8]; exact ⟨by decide, by decide⟩
  rw [if_neg q8]
  by_cases q9 : a < 21000
  · rw [if_pos q9]; exact ⟨by decide, by decide⟩
  rw [if_neg q9]
  by_cases q10 : a < 21100
  · rw [if_pos q10]; exact ⟨by decide, by decide⟩
  rw [if_neg q10]
  by_cases q11 : a < 22000
  · rw [if_pos q11]; exact ⟨by decide, by decide⟩
  rw [if_neg q11]
  by_cases q12 : a < 23000
  · rw [if_pos q12]; exact ⟨by decide, by decide⟩
  rw [if_neg q12]
  by_cases q13 : a < 24000
  · rw [if_pos q13]; exact ⟨by decide, by decide⟩
  rw [if_neg q13]
  by_cases q14 : a < 25000
  · rw [if_pos q14]; exact ⟨by decide, by decide⟩
  rw [if_neg q14]
  exact ⟨by decide, by decide⟩
/-! reads and writes -/
theorem rd_wr {M : Mm} {a j v b k : Int} : rd (wr M a j v) b k = if b = a ∧ k = j then v else rd M b k := rfl
theorem rd_nw {M : Mm} {a b k : Int} {n : Nat} : rd (nw M a n) b k = if b = a then 0 else rd M b k := rfl
theorem ad_wr {M : Mm} {a j v : Int} : mAd (wr M a j v) = mAd M := rfl
theorem ad_nw {M : Mm} {a b : Int} {n : Nat} : mAd (nw M a n) b = if b = a then mX M + 1 else mAd M b := rfl
theorem ad_thr {M : Mm} : mAd (thr M) = mAd M := rfl
theorem Gr_wr {M : Mm} {a j v : Int} : Gr M (wr M a j v) := ⟨Nat.le_refl _, Nat.le_refl _, fun _ _ => rfl⟩
theorem Gr_nw {M : Mm} {a : Int} {n : Nat} (h : mAd M a = 0) : Gr M (nw M a n) := ⟨Nat.le_succ _, Nat.le_add_right _ _, fun b hb => by
  rw [ad_nw, if_neg]
  intro e
  rw [e, h] at hb
  exact absurd hb (Nat.lt_irrefl 0)⟩
theorem Gr_thr {M : Mm} : Gr M (thr M) := ⟨Nat.le_succ _, Nat.le_add_right _ _, fun _ _ => rfl⟩
theorem tok_wr {M : Mm} {a j v : Int} {t : Nat} {z : Int} : tok (wr M a j v) t z ↔ tok M t z := Iff.rfl
theorem tok_thr {M : Mm} {t : Nat} {z : Int} : tok (thr M) t z ↔ tok M t z := Iff.rfl
theorem kd_lt {a : Int} {k : Nat} (h : kd a = k) (hk : 1 ≤ k) (hk2 : k < 28) : 0 ≤ a ∧ a.toNat < NU := by
  unfold kd at h
  unfold NU
  omega
theorem WT_wr {M : Mm} {a j v : Int} (h : WT M) (ha : 0 < mAd M a) (hv : (kd a < 13 → ∀ i : Nat, (i : Int) = j → i < nf (kd a - 1) → tok M (fty (kd a - 1) i) v) ∧ (13 ≤ kd a → 0 ≤ j → j < ln a → tok M (aty (kd a)) v)) : WT (wr M a j v) := by
  refine ⟨fun b hb => ?_, h.2⟩
  obtain ⟨h1, h2, h3⟩ := h.1 b hb
  refine ⟨h1, fun hk i hi => ?_, fun hk i hi hl => ?_⟩
  · rw [rd_wr]
    by_cases e : b = a ∧ (i : Int) = j
    · obtain ⟨rfl, e⟩ := e
      rw [if_pos ⟨rfl, e⟩]
      exact hv.1 hk i e hi
    · rw [if_neg e]
      exact h2 hk i hi
  · rw [rd_wr]
    by_cases e : b = a ∧ i = j
    · obtain ⟨rfl, rfl⟩ := e
      rw [if_pos ⟨rfl, rfl⟩]
      exact hv.2 hk hi hl
    · rw [if_neg e]
      exact h3 hk i hi hl
theorem Cn_nw {M : Mm} {a : Int} {n : Nat} (h : Cn M) (h0 : mAd M a = 0) (hk1 : 1 ≤ kd a) (hk2 : kd a < 28) (hn : n = sz a) : Cn (nw M a n) := by
  obtain ⟨g1, g2⟩ := kd_lt rfl hk1 hk2
  have e0 : ((a.toNat : Nat) : Int) = a := Int.toNat_of_nonneg g1
  have step : ∀ c : Nat → Nat, sm (fun i => if mAd (nw M a n) (i : Int) = 0 then 0 else c i) NU = sm (fun i => if mAd M (i : Int) = 0 then 0 else c i) NU + c a.toNat := by
    intro c
    have h1 := sm_upd (f := fun i => if mAd M (i : Int) = 0 then 0 else c i) (g := fun i => if mAd (nw M a n) (i : Int) = 0 then 0 else c i) (i := a.toNat) (fun j hj => by
      have e5 : mAd (nw M a n) (j : Int) = mAd M (j : Int) := by rw [ad_nw, if_neg (by omega)]
      show (if mAd (nw M a n) (j : Int) = 0 then 0 else c j) = (if mAd M (j : Int) = 0 then 0 else c j)
      rw [e5]) (n := NU) g2
    have e1 : (if mAd M ((a.toNat : Nat) : Int) = 0 then 0 else c a.toNat) = 0 := by rw [e0, if_pos h0]
    have e2 : (if mAd (nw M a n) ((a.toNat : Nat) : Int) = 0 then 0 else c a.toNat) = c a.toNat := by rw [e0, ad_nw, if_pos rfl, if_neg (by omega)]
    rw [e1, e2, Nat.add_zero] at h1
    exact h1
  obtain ⟨c1, c2⟩ := h
  refine ⟨?_, ?_⟩
  · have s1 := step (fun _ => 1)
    show mX M + 1 = _ + mT M
    rw [show sm (fun i => if mAd (nw M a n) (i : Int) = 0 then 0 else 1) NU = _ from s1]
    omega
  · have s1 := step (fun i => sz (i : Int))
    show mS M + n = _ + 6 * mT M
    rw [show sm (fun i => if mAd (nw M a n) (i : Int) = 0 then 0 else sz (i : Int)) NU = _ from s1, e0]
    omega
theorem WT_nw {M : Mm} {a : Int} {n : Nat} (h : WT M) (h0 : mAd M a = 0) (hk1 : 1 ≤ kd a) (hk2 : kd a < 28) (hgh : gho a = false) (hn : n = sz a) : WT (nw M a n) := by
  refine ⟨fun b hb => ?_, Cn_nw h.2 h0 hk1 hk2 hn⟩
  have hg : Gr M (nw M a n) := Gr_nw h0
  by_cases e : b = a
  · subst e
    refine ⟨⟨hk1, hk2, hgh⟩, fun _ j _ => ?_, fun _ i _ _ => ?_⟩
    · rw [rd_nw, if_pos rfl]; exact tok0
    · rw [rd_nw, if_pos rfl]; exact tok0
  · rw [ad_nw, if_neg e] at hb
    obtain ⟨h1, h2, h3⟩ := h.1 b hb
    refine ⟨h1, fun hk j hj => ?_, fun hk i hi hl => ?_⟩
    · rw [rd_nw, if_neg e]; exact (h2 hk j hj).up hg
    · rw [rd_nw, if_neg e]; exact (h3 hk i hi hl).up hg
theorem WT_thr {M : Mm} (h : WT M) : WT (thr M) := by
  refine ⟨fun b hb => h.1 b hb, ?_⟩
  obtain ⟨c1, c2⟩ := h.2
  refine ⟨?_, ?_⟩
  · show mX M + 1 = sm (fun i => if mAd M (i : Int) = 0 then 0 else 1) NU + (mT M + 1)
    rw [c1, Nat.add_assoc]
  · show mS M + 6 = sm (fun i => if mAd M (i : Int) = 0 then 0 else sz (i : Int)) NU + 6 * (mT M + 1)
    rw [c2]; omega
/-! the heap's side of a write and of a new thing -/
theorem tv_wr {D : Dt} {M : Mm} {a j v : Int} : tv D (wr M a j v) = tv D M := rfl
theorem tv_thr {D : Dt} {M : Mm} : tv D (thr M) = tv D M := rfl
theorem Enc_wr {D : Dt} {M : Mm} {a j v : Int} {H H1 : Heap} (h : Enc D M H) (ha : 0 < mAd M a) (hz : H1.size = H.size) (ho : ∀ q : Nat, q ≠ dlo D + (mAd M a - 1) → H1[q]? = H[q]?) (hc : cellAt D (wr M a j v) H1 a) : Enc D (wr M a j v) H1 := by
  obtain ⟨h1, h2, h3⟩ := h
  refine ⟨hz.trans h1, fun b hb => ⟨(h2 b hb).1, ?_⟩, h3⟩
  by_cases e : b = a
  · subst e; exact hc
  · have h4 := (h2 b hb).2
    have h5 : H1[dlo D + (mAd M b - 1)]? = H[dlo D + (mAd M b - 1)]? := ho _ fun e2 => e (h3 b a hb (by have : 0 < mAd M b := hb; omega))
    unfold cellAt at h4 ⊢
    by_cases hk : kd b < 13
    · rw [if_pos hk] at h4 ⊢
      refine (h4.kept h5).to fun i _ => ?_
      rw [rd_wr, if_neg (fun q => e q.1)]; rfl
    · rw [if_neg hk] at h4 ⊢
      refine h5.trans (h4.trans ?_)
      congr 2
      funext i
      rw [rd_wr, if_neg (fun q => e q.1)]; rfl
theorem Enc_nw {D : Dt} {M : Mm} {a : Int} {n : Nat} {H H1 : Heap} (h : Enc D M H) (hW : WT M) (h0 : mAd M a = 0) (hz : H1.size = H.size + 1) (ho : ∀ q : Nat, q < H.size → H1[q]? = H[q]?) (hc : cellAt D (nw M a n) H1 a) : Enc D (nw M a n) H1 := by
  obtain ⟨h1, h2, h3⟩ := h
  have hg : Gr M (nw M a n) := Gr_nw h0
  refine ⟨by rw [hz, h1]; rfl, fun b hb => ?_, fun b c hb hbc => ?_⟩
  · by_cases e : b = a
    · subst e
      exact ⟨by rw [ad_nw, if_pos rfl]; exact Nat.le_refl _, hc⟩
    · rw [ad_nw, if_neg e] at hb
      obtain ⟨g1, g2⟩ := h2 b hb
      refine ⟨by rw [ad_nw, if_neg e]; exact Nat.le_succ_of_le g1, ?_⟩
      have h5 : H1[dlo D + (mAd M b - 1)]? = H[dlo D + (mAd M b - 1)]? := ho _ (by rw [h1]; omega)
      obtain ⟨-, t2, t3⟩ := hW.1 b hb
      unfold cellAt at g2 ⊢
      rw [ad_nw, if_neg e]
      by_cases hk : kd b < 13
      · rw [if_pos hk] at g2 ⊢
        refine (g2.kept h5).to fun i hi => ?_
        rw [rd_nw, if_neg e, tv.up (t2 hk i hi) hg]
      · rw [if_neg hk] at g2 ⊢
        refine h5.trans (g2.trans ?_)
        have h6 : ∀ i : Nat, i < (ln b).toNat → tv D M (aty (kd b)) (rd M b i) = tv D (nw M a n) (aty (kd b)) (rd (nw M a n) b i) := fun i hi => by
          rw [rd_nw, if_neg e, tv.up (t3 (by omega) i (by omega) (by omega)) hg]
        unfold arrV
        congr 2
        congr 1
        funext i
        exact h6 i.1 i.2
  · rw [ad_nw] at hb hbc
    rw [ad_nw] at hbc
    by_cases e1 : b = a
    · by_cases e2 : c = a
      · rw [e1, e2]
      · rw [if_pos e1, if_neg e2] at hbc
        have hc0 : 0 < mAd M c := by omega
        have := (h2 c hc0).1
        omega
    · rw [if_neg e1] at hb hbc
      by_cases e2 : c = a
      · rw [if_pos e2] at hbc
        have := (h2 b hb).1
        omega
      · rw [if_neg e2] at hbc
        exact h3 b c hb hbc
theorem Enc_thr {D : Dt} {M : Mm} {H H1 : Heap} (h : Enc D M H) (hz : H1.size = H.size + 1) (ho : ∀ q : Nat, q < H.size → H1[q]? = H[q]?) : Enc D (thr M) H1 := by
  obtain ⟨h1, h2, h3⟩ := h
  refine ⟨by rw [hz, h1]; rfl, fun b hb => ⟨Nat.le_succ_of_le (h2 b hb).1, ?_⟩, h3⟩
  obtain ⟨g1, g2⟩ := h2 b hb
  have h5 : H1[dlo D + (mAd M b - 1)]? = H[dlo D + (mAd M b - 1)]? := ho _ (by rw [h1]; have : 0 < mAd M b := hb; omega)
  unfold cellAt at g2 ⊢
  by_cases hk : kd b < 13
  · rw [if_pos hk] at g2 ⊢
    exact g2.kept h5
  · rw [if_neg hk] at g2 ⊢
    exact h5.trans g2
