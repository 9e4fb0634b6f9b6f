/-! THE MEMORY: numbers and addresses by field and object, by array and place; addresses from 0 on, the heap's cell of address a is lo + a -/
abbrev Mm : Type := (Nat → Nat) × (Nat → Nat) × (Nat → Nat → Int) × (Nat → Nat → Option Nat) × (Nat → Nat → Int) × (Nat → Nat → Option Nat) × Nat × Nat
def mK (M : Mm) : Nat → Nat := M.1
def mN (M : Mm) : Nat → Nat := M.2.1
def mI (M : Mm) : Nat → Nat → Int := M.2.2.1
def mR (M : Mm) : Nat → Nat → Option Nat := M.2.2.2.1
def mA (M : Mm) : Nat → Nat → Int := M.2.2.2.2.1
def mQ (M : Mm) : Nat → Nat → Option Nat := M.2.2.2.2.2.1
def mX (M : Mm) : Nat := M.2.2.2.2.2.2.1
def mS (M : Mm) : Nat := M.2.2.2.2.2.2.2
def up1 {α : Type} (g : Nat → α) (a : Nat) (v : α) : Nat → α := fun b => if b = a then v else g b
def up2 {α : Type} (g : Nat → Nat → α) (f a : Nat) (v : α) : Nat → Nat → α := fun h b => if h = f ∧ b = a then v else g h b
def sI (M : Mm) (f a : Nat) (v : Int) : Mm := (mK M, mN M, up2 (mI M) f a v, mR M, mA M, mQ M, mX M, mS M)
def sR (M : Mm) (f a : Nat) (v : Option Nat) : Mm := (mK M, mN M, mI M, up2 (mR M) f a v, mA M, mQ M, mX M, mS M)
def sA (M : Mm) (a i : Nat) (v : Int) : Mm := (mK M, mN M, mI M, mR M, up2 (mA M) a i v, mQ M, mX M, mS M)
def sQ (M : Mm) (a i : Nat) (v : Option Nat) : Mm := (mK M, mN M, mI M, mR M, mA M, up2 (mQ M) a i v, mX M, mS M)
def nwO (M : Mm) (c n : Nat) : Mm := (up1 (mK M) (mX M) c, mN M, (fun f a => if a = mX M then 0 else mI M f a), (fun f a => if a = mX M then none else mR M f a), mA M, mQ M, mX M + 1, mS M + n)
def nwA (M : Mm) (k n : Nat) : Mm := (up1 (mK M) (mX M) k, up1 (mN M) (mX M) n, mI M, mR M, (fun a i => if a = mX M then 0 else mA M a i), (fun a i => if a = mX M then none else mQ M a i), mX M + 1, mS M + n)
def thr (M : Mm) : Mm := (up1 (mK M) (mX M) 99, mN M, mI M, mR M, mA M, mQ M, mX M + 1, mS M + 6)
/-- the fields' kinds: 0 a number, 1 a truth value, 2 + k a reference to a thing of kind k -/
def ftl : List (List Nat) := [[25, 20, 18, 4, 4, 0, 0, 0, 0, 0], [6, 0, 0, 0, 1, 0, 0], [18, 0], [0, 4, 0, 0, 0, 0, 0], [0, 8, 7, 0, 0, 0, 0, 0, 0, 0, 0], [0, 11, 24, 21, 9, 0], [0, 0, 0, 0, 1, 2, 5, 0, 14], [0, 0, 0, 0, 1], [7, 5, 5, 0, 0, 0], [0, 0, 0, 1, 22, 0, 0], [26, 22, 23, 17, 21, 21, 0, 0, 0, 0, 0, 0, 0, 0, 0, 0], [0, 0, 0, 0, 0, 14, 14, 14, 15, 14, 14, 0, 14, 14, 14, 14, 14, 14, 14, 0, 14, 14, 14, 14, 14, 14, 14, 14, 14, 14, 0, 14, 14, 14, 15, 14, 14, 14, 14, 14, 0, 0, 14, 14, 14, 14, 14, 14, 14, 14, 14, 14, 14, 14, 14, 14, 14, 14, 14, 14, 14, 14, 14, 14, 14, 14, 14, 14]]
def nf (c : Nat) : Nat := (ftl.getD c []).length
def fty (c j : Nat) : Nat := (ftl.getD c []).getD j 0
/-- values: a number, a reference of a kind, a long -/
abbrev VV : Type := Int ⊕ (Nat × Option Nat) ⊕ Int
abbrev vI (z : Int) : VV := .inl z
abbrev vR (k : Nat) (o : Option Nat) : VV := .inr (.inl (k, o))
abbrev vL (z : Int) : VV := .inr (.inr z)
/-- a machine word -/
def w (z : Int) : Int := (Int32.ofInt z).toInt
def wl (z : Int) : Int := (Int64.ofInt z).toInt
/-- where things are: the classes' numbers, the places of their fields, the arrays' classes, the first cell, the script -/
abbrev Dt : Type := (Nat → ClassId) × (Nat → Nat → Nat) × (Nat → ClassId) × Nat × Nat × Nat × (Nat → Int32)
abbrev dlo (D : Dt) : Nat := D.2.2.2.1
def sh (D : Dt) (k : Nat) (o : Option Nat) : Option Nat := if k = 50 then o else o.map (fun a => dlo D + a)
def cv (D : Dt) (v : VV) : Value := match v with
  | .inl z => .int (Int32.ofInt z)
  | .inr (.inl (k, o)) => va_rf (sh D k o)
  | .inr (.inr z) => .long (Int64.ofInt z)
def okR (D : Dt) (M : Mm) (k : Nat) (o : Option Nat) : Prop := ∀ a, o = some a → if k = 50 then a = D.2.2.2.2.1 else a < mX M ∧ mK M a = k
def okV (D : Dt) (M : Mm) (v : VV) : Prop := match v with
  | .inr (.inl (k, o)) => okR D M k o
  | _ => True
/-- what a field holds, what an array's place holds -/
def fv (D : Dt) (M : Mm) (c a j : Nat) : Value := if fty c j < 2 then .int (Int32.ofInt (mI M (100 * c + j) a)) else cv D (vR (fty c j - 2) (mR M (100 * c + j) a))
def ev (D : Dt) (M : Mm) (a i : Nat) : Value := if mK M a < 14 then .int (Int32.ofInt (mA M a i)) else if mK M a = 14 then .long (Int64.ofInt (mA M a i)) else cv D (vR (mK M a - 15) (mQ M a i))
/-- the heap's cell of a thing -/
def cellAt (D : Dt) (M : Mm) (H : Heap) (a : Nat) : Prop :=
  if mK M a < 12 then t_OB (dlo D + a) (D.1 (mK M a)) (nf (mK M a)) (D.2.1 (mK M a)) H (fv D M (mK M a) a)
  else if mK M a < 27 then H[dlo D + a]? = some (arrV (D.2.2.1 (mK M a)) (mN M a) (ev D M a)) else True
def Enc (D : Dt) (M : Mm) (H : Heap) : Prop := H.size = dlo D + mX M ∧ ∀ a, a < mX M → cellAt D M H a
/-- references lead to things of their kinds -/
def WT (D : Dt) (M : Mm) : Prop :=
  (∀ a, a < mX M → mK M a < 12 → ∀ j, j < nf (mK M a) → 2 ≤ fty (mK M a) j → okR D M (fty (mK M a) j - 2) (mR M (100 * mK M a + j) a)) ∧
  (∀ a, a < mX M → 15 ≤ mK M a → mK M a < 27 → ∀ i, i < mN M a → okR D M (mK M a - 15) (mQ M a i)) ∧
  (∀ a, a < mX M → 12 ≤ mK M a → mK M a < 27 → mN M a < 2 ^ 31)
def Stab (M M' : Mm) : Prop := ∀ a, a < mX M → mK M' a = mK M a
abbrev Oc : Type := Option VV ⊕ String
def okO (D : Dt) (M : Mm) (o : Oc) : Prop := match o with
  | .inl (some v) => okV D M v
  | _ => True
theorem Stab.rf {M : Mm} : Stab M M := fun _ _ => rfl
theorem Stab.tr {M M1 M2 : Mm} (h : Stab M M1) (h2 : Stab M1 M2) (hx : mX M ≤ mX M1) : Stab M M2 := fun a ha => (h2 a (Nat.lt_of_lt_of_le ha hx)).trans (h a ha)
theorem okR.up {D : Dt} {M M' : Mm} {k : Nat} {o : Option Nat} (h : okR D M k o) (hs : Stab M M') (hx : mX M ≤ mX M') : okR D M' k o := by
  intro a ha
  have h1 := h a ha
  by_cases hk : k = 50
  · rw [if_pos hk] at h1 ⊢; exact h1
  · rw [if_neg hk] at h1 ⊢; exact ⟨Nat.lt_of_lt_of_le h1.1 hx, (hs a h1.1).trans h1.2⟩
theorem okV.up {D : Dt} {M M' : Mm} {v : VV} (h : okV D M v) (hs : Stab M M') (hx : mX M ≤ mX M') : okV D M' v := by
  match v, h with
  | .inl _, _ => trivial
  | .inr (.inl (k, o)), h => exact okR.up h hs hx
  | .inr (.inr _), _ => trivial
theorem okR_none {D : Dt} {M : Mm} {k : Nat} : okR D M k none := fun _ h => nomatch h
/-! numbers -/
theorem ofInt_w (z : Int) : Int32.ofInt (w z) = Int32.ofInt z := Int32.ofInt_toInt _
theorem w_eq {z : Int} (h1 : -2147483648 ≤ z) (h2 : z < 2147483648) : w z = z := by
  unfold w
  first
    | exact Int32.toInt_ofInt_of_le (by omega) (by omega)
    | (rw [Int32.toInt_ofInt]; omega)
theorem wl_eq {z : Int} (h1 : -9223372036854775808 ≤ z) (h2 : z < 9223372036854775808) : wl z = z := by
  unfold wl
  first
    | exact Int64.toInt_ofInt_of_le (by omega) (by omega)
    | (rw [Int64.toInt_ofInt]; omega)
theorem w_lt (a b : Int) : Int32.ofInt a < Int32.ofInt b ↔ w a < w b := Int32.lt_iff_toInt_lt
theorem w_le (a b : Int) : Int32.ofInt a ≤ Int32.ofInt b ↔ w a ≤ w b := Int32.le_iff_toInt_le
theorem w_ee (a b : Int) : Int32.ofInt a = Int32.ofInt b ↔ w a = w b := Int32.toInt_inj.symm
theorem w_add (a b : Int) : Int32.ofInt (a + b) = Int32.ofInt a + Int32.ofInt b := by first | exact Int32.ofInt_add a b | exact Int32.ofInt_add
theorem w_mul (a b : Int) : Int32.ofInt (a * b) = Int32.ofInt a * Int32.ofInt b := by first | exact Int32.ofInt_mul a b | exact Int32.ofInt_mul
theorem w_sub (a b : Int) : Int32.ofInt (a - b) = Int32.ofInt a - Int32.ofInt b := by first | exact Int32.ofInt_sub a b | exact Int32.ofInt_sub | (rw [Int.sub_eq_add_neg, w_add, Int32.ofInt_neg, Int32.sub_eq_add_neg])
theorem w_bd (z : Int) : -2147483648 ≤ w z ∧ w z < 2147483648 := by
  have h1 := Int32.le_toInt (Int32.ofInt z)
  have h2 := Int32.toInt_lt (Int32.ofInt z)
  unfold w
  omega
theorem w_inj {a b : Int} (h : a = b) : Int32.ofInt a = Int32.ofInt b := by rw [h]
theorem w_nat (n : Nat) : Int32.ofInt (n : Int) = Int32.ofNat n := by first | rfl | simp | exact Int32.ofInt_eq_ofNat
theorem w_clamp {i : Int} (h1 : 0 ≤ i) (h2 : i < 2147483648) : (Int32.ofInt i).toNatClampNeg = i.toNat := by
  have h : (Int32.ofInt i).toInt = i := w_eq (by omega) h2
  first
    | (rw [← Int32.toNat_toInt, h])
    | (unfold Int32.toNatClampNeg; rw [h])
theorem w_in {i : Int} {n : Nat} (h1 : 0 ≤ i) (h2 : i < (n : Int)) (hn : n < 2 ^ 31) : vp_in (Int32.ofInt i) n ∧ (Int32.ofInt i).toNatClampNeg = i.toNat := by
  have e := w_clamp (i := i) h1 (by omega)
  refine ⟨?_, e⟩
  unfold vp_in
  rw [e]
  rintro (h | h)
  · have h3 : w i < 0 := by
      have := (w_lt i 0).mp (by rw [show Int32.ofInt 0 = 0 from by first | rfl | decide]; exact h)
      rw [show w 0 = 0 from by decide] at this
      exact this
    rw [w_eq (by omega) (by omega)] at h3
    omega
  · omega
