/-! PURE PART, 30: answers that are there, loops, the model's table -/
def Ok {α : Type} (e : Option α) (P : α → Prop) : Prop := ∃ r, e = some r ∧ P r
theorem Ok.ret {α : Type} {x : α} {P : α → Prop} (h : P x) : Ok (some x) P := ⟨x, rfl, h⟩
theorem Ok.bind {α β : Type} {e : Option α} {f : α → Option β} {P : β → Prop} (h : Ok e (fun x => Ok (f x) P)) : Ok (e.bind f) P := by
  obtain ⟨x, rfl, y, hy, hp⟩ := h
  exact ⟨y, hy, hp⟩
theorem Ok.bnd {α β : Type} {e : Option α} {f : α → Option β} {P : β → Prop} {Q : α → Prop} (h : Ok e Q) (k : ∀ x, Q x → Ok (f x) P) : Ok (e.bind f) P := by
  obtain ⟨x, rfl, hq⟩ := h
  exact k x hq
theorem Ok.mono {α : Type} {e : Option α} {P Q : α → Prop} (h : Ok e P) (k : ∀ x, P x → Q x) : Ok e Q := by
  obtain ⟨x, h1, h2⟩ := h
  exact ⟨x, h1, k x h2⟩
theorem Ok.eq {α : Type} {e : Option α} {x : α} {P : α → Prop} (h : e = some x) (hp : P x) : Ok e P := ⟨x, h, hp⟩
theorem Ok.gdd {α : Type} {c : Prop} {_d : Decidable c} {e : Option α} {P : α → Prop} (hc : c) (h : Ok e P) : Ok (gd c e) P := by
  rw [show gd c e = e from if_pos hc]; exact h
theorem Ok.ite {α : Type} {c : Prop} {_d : Decidable c} {a b : Option α} {P : α → Prop} (h1 : c → Ok a P) (h2 : ¬ c → Ok b P) : Ok (if c then a else b) P := by
  by_cases h : c
  · rw [if_pos h]; exact h1 h
  · rw [if_neg h]; exact h2 h
theorem Ok.iteT {α : Type} {c : Prop} {_d : Decidable c} {a b : Option α} {P : α → Prop} (h : c) (h1 : Ok a P) : Ok (if c then a else b) P := by rw [if_pos h]; exact h1
theorem Ok.iteF {α : Type} {c : Prop} {_d : Decidable c} {a b : Option α} {P : α → Prop} (h : ¬ c) (h1 : Ok b P) : Ok (if c then a else b) P := by rw [if_neg h]; exact h1
theorem gd_true {α : Type} {_d : Decidable True} {e : Option α} : gd True e = e := if_pos trivial
theorem gd_false {α : Type} {_d : Decidable False} {e : Option α} : gd False e = none := if_neg (fun h => h)
theorem gd_t {α : Type} {c : Prop} {_d : Decidable c} {e : Option α} (h : c) : gd c e = e := if_pos h
theorem bind_b {α : Type} {P : Prop} {_d : Decidable P} {x y : α} {β : Type} {f : α → Option β} : (if P then some x else some y).bind f = if P then f x else f y := by
  by_cases h : P
  · rw [if_pos h, if_pos h]; rfl
  · rw [if_neg h, if_neg h]; rfl
theorem some_b {α : Type} {P : Prop} {_d : Decidable P} {x y : α} : (if P then some x else some y) = some (if P then x else y) := by
  by_cases h : P
  · rw [if_pos h, if_pos h]
  · rw [if_neg h, if_neg h]
theorem q10 {α : Type} {P : Prop} {_d : Decidable P} {_d2 : Decidable ((if P then (1 : Int) else 0) = 0)} {x y : α} : (if (if P then (1 : Int) else 0) = 0 then x else y) = if P then y else x := by
  by_cases h : P
  · have e : (if P then (1 : Int) else 0) = 1 := if_pos h
    exact (if_neg (by rw [e]; decide)).trans (if_pos h).symm
  · have e : (if P then (1 : Int) else 0) = 0 := if_neg h
    exact (if_pos e).trans (if_neg h).symm
theorem q10n {P : Prop} {_d : Decidable P} : ((if P then (1 : Int) else 0) = 0) = ¬ P := by
  by_cases h : P
  · rw [if_pos h]; simp [h]
  · rw [if_neg h]; simp [h]
/-! loops -/
theorem lp_S {σ τ : Type} {f : σ → Option (σ ⊕ τ)} {n : Nat} {s : σ} : lp f (n + 1) s = (f s).bind (Sum.elim (lp f n) some) := rfl
theorem lp_next {σ τ : Type} {f : σ → Option (σ ⊕ τ)} {n : Nat} {s s' : σ} (h : f s = some (.inl s')) : lp f (n + 1) s = lp f n s' := by rw [lp_S, h]; rfl
theorem lp_end {σ τ : Type} {f : σ → Option (σ ⊕ τ)} {n : Nat} {s : σ} {t : τ} (h : f s = some (.inr t)) : lp f (n + 1) s = some t := by rw [lp_S, h]; rfl
theorem lp_seq {σ τ : Type} {f : σ → Option (σ ⊕ τ)} (S : Nat → σ) {t : τ} (n : Nat) (h : ∀ k, k < n → f (S k) = some (.inl (S (k + 1)))) (he : f (S n) = some (.inr t)) {F : Nat} (hF : n < F) {s : σ} (hs : s = S 0) : lp f F s = some t := by
  subst hs
  induction n generalizing S F with
  | zero =>
    obtain ⟨F, rfl⟩ : ∃ G, F = G + 1 := ⟨F - 1, by omega⟩
    exact lp_end he
  | succ n ih =>
    obtain ⟨F, rfl⟩ : ∃ G, F = G + 1 := ⟨F - 1, by omega⟩
    rw [lp_next (h 0 (by omega))]
    exact ih (fun k => S (k + 1)) (fun k hk => h (k + 1) (by omega)) he (by omega)
/-- a loop by what holds as its number rises from i0 by n -/
theorem lp_for {σ τ : Type} {f : σ → Option (σ ⊕ τ)} (I : Int → σ → Prop) {Q : τ → Prop} (i0 : Int) (n : Nat)
    (hs : ∀ i s, i0 ≤ i → i < i0 + n → I i s → Ok (f s) (Sum.elim (fun s' => I (i + 1) s') Q)) (he : ∀ s, I (i0 + n) s → Ok (f s) (Sum.elim (fun _ => False) Q)) {F : Nat} (hF : n < F) {s : σ} (h0 : I i0 s) : Ok (lp f F s) Q := by
  induction n generalizing i0 s F with
  | zero =>
    obtain ⟨F, rfl⟩ : ∃ G, F = G + 1 := ⟨F - 1, by omega⟩
    obtain ⟨r, h1, h2⟩ := he s (by simpa using h0)
    cases r with
    | inl x => exact False.elim h2
    | inr t => exact ⟨t, lp_end h1, h2⟩
  | succ n ih =>
    obtain ⟨F, rfl⟩ : ∃ G, F = G + 1 := ⟨F - 1, by omega⟩
    obtain ⟨r, h1, h2⟩ := hs i0 s (Int.le_refl _) (by omega) h0
    cases r with
    | inl x =>
      rw [show lp f (F + 1) s = lp f F x from lp_next h1]
      exact ih (i0 + 1) (fun i s hi hi2 h => hs i s (by omega) (by omega) h) (fun s h => he s (by
        have e : i0 + 1 + (n : Int) = i0 + ((n + 1 : Nat) : Int) := by omega
        rw [← e]; exact h)) (by omega) h2
    | inr t => exact ⟨t, lp_end h1, h2⟩
/-- a loop by what holds, downwards: i is what is left -/
theorem lp_dn {σ τ : Type} {f : σ → Option (σ ⊕ τ)} (I : Nat → σ → Prop) {Q : τ → Prop}
    (hs : ∀ n s, I (n + 1) s → Ok (f s) (Sum.elim (fun s' => I n s') Q)) (he : ∀ s, I 0 s → Ok (f s) (Sum.elim (fun _ => False) Q)) (n : Nat) {F : Nat} (hF : n < F) {s : σ} (h0 : I n s) : Ok (lp f F s) Q := by
  induction n generalizing s F with
  | zero =>
    obtain ⟨F, rfl⟩ : ∃ G, F = G + 1 := ⟨F - 1, by omega⟩
    obtain ⟨r, h1, h2⟩ := he s h0
    cases r with
    | inl x => exact False.elim h2
    | inr t => exact ⟨t, lp_end h1, h2⟩
  | succ n ih =>
    obtain ⟨F, rfl⟩ : ∃ G, F = G + 1 := ⟨F - 1, by omega⟩
    obtain ⟨r, h1, h2⟩ := hs n s h0
    cases r with
    | inl x =>
      rw [show lp f (F + 1) s = lp f F x from lp_next h1]
      exact ih (by omega) h2
    | inr t => exact ⟨t, lp_end h1, h2⟩
/-- folds over i0, i0 + 1, .. -/
def fo {α : Type} (g : Int → α → α) (i0 : Int) : Nat → α → α
  | 0, a => a
  | n + 1, a => g (i0 + n) (fo g i0 n a)
theorem fo_S {α : Type} {g : Int → α → α} {i0 : Int} {n : Nat} {a : α} : fo g i0 (n + 1) a = g (i0 + n) (fo g i0 n a) := rfl
/-- a loop that is a fold; I is what holds of the fold's value -/
theorem lp_fo {σ τ α : Type} {f : σ → Option (σ ⊕ τ)} (e : α → Int → σ) (g : Int → α → α) (i0 : Int) (n : Nat) {a : α} (I : α → Prop) (hI : I a) (hg : ∀ i b, i0 ≤ i → i < i0 + n → I b → I (g i b))
    (h : ∀ i b, i0 ≤ i → i < i0 + n → I b → f (e b i) = some (.inl (e (g i b) (i + 1)))) {t : τ} (he : I (fo g i0 n a) → f (e (fo g i0 n a) (i0 + n)) = some (.inr t)) {F : Nat} (hF : n < F) {s : σ} (hs : s = e a i0) : lp f F s = some t := by
  have hi : ∀ k : Nat, k ≤ n → I (fo g i0 k a) := by
    intro k
    induction k with
    | zero => intro _; exact hI
    | succ k ih => intro hk; exact hg _ _ (by omega) (by omega) (ih (by omega))
  refine lp_seq (fun k => e (fo g i0 k a) (i0 + k)) n (fun k hk => ?_) (he (hi n (Nat.le_refl _))) hF (by rw [hs]; simp [fo])
  have h1 := h (i0 + k) (fo g i0 k a) (by omega) (by omega) (hi k (by omega))
  rw [h1, fo_S]
  have e2 : i0 + (k : Int) + 1 = i0 + ((k + 1 : Nat) : Int) := by omega
  rw [e2]
theorem fo_inv {α : Type} {g : Int → α → α} {i0 : Int} {n : Nat} {a : α} (I : Int → α → Prop) (h0 : I i0 a) (hg : ∀ i b, i0 ≤ i → i < i0 + n → I i b → I (i + 1) (g i b)) : I (i0 + n) (fo g i0 n a) := by
  induction n with
  | zero =>
    have e : i0 + ((0 : Nat) : Int) = i0 := by omega
    rw [e]; exact h0
  | succ n ih =>
    have h1 := hg (i0 + n) (fo g i0 n a) (by omega) (by omega) (ih fun i b h1 h2 h3 => hg i b h1 (by omega) h3)
    rw [fo_S]
    have e2 : i0 + (n : Int) + 1 = i0 + ((n + 1 : Nat) : Int) := by omega
    rw [← e2]; exact h1
theorem fo_congr {α : Type} {g g' : Int → α → α} {i0 : Int} {n : Nat} {a : α} (h : ∀ i b, i0 ≤ i → i < i0 + n → g i b = g' i b) : fo g i0 n a = fo g' i0 n a := by
  induction n with
  | zero => rfl
  | succ n ih => rw [fo_S, fo_S, ih (fun i b h1 h2 => h i b h1 (by omega)), h _ _ (by omega) (by omega)]
/-- the first one from i on, of n, with P; i + n without one -/
def ff (P : Int → Bool) : Nat → Int → Int
  | 0, i => i
  | n + 1, i => if P i = true then i else ff P n (i + 1)
theorem ff_b {P : Int → Bool} : ∀ {n : Nat} {i : Int}, i ≤ ff P n i ∧ ff P n i ≤ i + n
  | 0, i => by simp [ff]
  | n + 1, i => by
    unfold ff
    have := @ff_b P n (i + 1)
    by_cases h : P i = true
    · rw [if_pos h]; omega
    · rw [if_neg h]; omega
theorem ff_no {P : Int → Bool} : ∀ {n : Nat} {i k : Int}, i ≤ k → k < ff P n i → P k = false
  | 0, i, k => by intro h1 h2; simp [ff] at h2; omega
  | n + 1, i, k => by
    intro h1 h2
    unfold ff at h2
    by_cases h : P i = true
    · rw [if_pos h] at h2; omega
    · rw [if_neg h] at h2
      by_cases e : k = i
      · subst e; simpa using h
      · exact @ff_no P n (i + 1) k (by omega) h2
theorem ff_yes {P : Int → Bool} : ∀ {n : Nat} {i : Int}, ff P n i < i + n → P (ff P n i) = true
  | 0, i => by intro h; simp [ff] at h
  | n + 1, i => by
    intro h
    unfold ff at h ⊢
    by_cases h1 : P i = true
    · rw [if_pos h1]; exact h1
    · rw [if_neg h1] at h ⊢
      exact @ff_yes P n (i + 1) (by omega)
theorem ff_is {P : Int → Bool} {n : Nat} {i r : Int} (h1 : i ≤ r) (h2 : r ≤ i + n) (h3 : ∀ k, i ≤ k → k < r → P k = false) (h4 : r < i + n → P r = true) : ff P n i = r := by
  have b := @ff_b P n i
  have a1 : ¬ ff P n i < r := fun h => by
    have h5 := h3 _ b.1 h
    have h6 := @ff_yes P n i (by omega)
    rw [h5] at h6; cases h6
  have a2 : ¬ r < ff P n i := fun h => by
    have h5 := @ff_no P n i r h1 h
    have h6 := h4 (by omega)
    rw [h5] at h6; cases h6
  omega
/-- a loop that looks for the first one -/
theorem lp_ff {σ τ : Type} {f : σ → Option (σ ⊕ τ)} (e : Int → σ) (P : Int → Bool) (n : Nat) (i0 : Int) {t : τ} (hn : ∀ i, i0 ≤ i → i < i0 + n → P i = false → f (e i) = some (.inl (e (i + 1)))) (hy : ff P n i0 < i0 + n → P (ff P n i0) = true → f (e (ff P n i0)) = some (.inr t)) (he : ff P n i0 = i0 + n → f (e (i0 + n)) = some (.inr t)) {F : Nat} (hF : n < F) {s : σ} (hs : s = e i0) : lp f F s = some t := by
  have b := @ff_b P n i0
  refine lp_seq (fun k => e (i0 + k)) (ff P n i0 - i0).toNat (fun k hk => ?_) ?_ (by omega) (by rw [hs]; simp)
  · have h1 := hn (i0 + k) (by omega) (by omega) (@ff_no P n i0 _ (by omega) (by omega))
    have e2 : i0 + (k : Int) + 1 = i0 + ((k + 1 : Nat) : Int) := by omega
    rw [h1, e2]
  · have e2 : i0 + (((ff P n i0 - i0).toNat : Nat) : Int) = ff P n i0 := by omega
    rw [e2]
    by_cases h : ff P n i0 < i0 + n
    · exact hy h (ff_yes h)
    · have e3 : ff P n i0 = i0 + n := by omega
      rw [e3]; exact he e3
/-- how many of i0, .. have P; the sum of values -/
def su (g : Int → Int) (i0 : Int) (n : Nat) : Int := fo (fun i a => a + g i) i0 n 0
theorem su_0 {g : Int → Int} {i0 : Int} : su g i0 0 = 0 := rfl
theorem su_S {g : Int → Int} {i0 : Int} {n : Nat} : su g i0 (n + 1) = su g i0 n + g (i0 + n) := rfl
theorem su_b {g : Int → Int} {i0 : Int} {n : Nat} {b : Int} (h : ∀ i, i0 ≤ i → i < i0 + n → 0 ≤ g i ∧ g i ≤ b) : 0 ≤ su g i0 n ∧ su g i0 n ≤ n * b := by
  induction n with
  | zero => simp [su_0]
  | succ n ih =>
    have h1 := ih fun i a b => h i a (by omega)
    have h2 := h (i0 + n) (by omega) (by omega)
    rw [su_S, Int.natCast_succ, Int.add_mul]
    omega
theorem su_congr {g g' : Int → Int} {i0 : Int} {n : Nat} (h : ∀ i, i0 ≤ i → i < i0 + n → g i = g' i) : su g i0 n = su g' i0 n := fo_congr fun i b h1 h2 => by rw [h i h1 h2]
theorem su_add {g : Int → Int} {i0 : Int} {n k : Nat} : su g i0 (n + k) = su g i0 n + su g (i0 + n) k := by
  induction k with
  | zero => simp [su_0]
  | succ k ih =>
    rw [← Nat.add_assoc, su_S, su_S, ih, Int.add_assoc]
    congr 2
    congr 1
    omega
theorem su_zero {g : Int → Int} {i0 : Int} {n : Nat} (h : ∀ i, i0 ≤ i → i < i0 + n → g i = 0) : su g i0 n = 0 := by
  induction n with
  | zero => rfl
  | succ n ih => rw [su_S, ih fun i a b => h i a (by omega), h _ (by omega) (by omega)]; rfl
theorem su_plus {g g' : Int → Int} {i0 : Int} {n : Nat} : su (fun i => g i + g' i) i0 n = su g i0 n + su g' i0 n := by
  induction n with
  | zero => rfl
  | succ n ih => rw [su_S, su_S, su_S, ih]; omega
/-- sums over two numbers, in both orders -/
theorem su_swap {g : Int → Int → Int} {i0 j0 : Int} {n k : Nat} : su (fun i => su (fun j => g i j) j0 k) i0 n = su (fun j => su (fun i => g i j) i0 n) j0 k := by
  induction n with
  | zero => rw [su_0]; exact (su_zero fun _ _ _ => su_0).symm
  | succ n ih =>
    rw [su_S, ih, ← su_plus]
    exact su_congr fun j _ _ => su_S.symm
/-- a sum with one value at most -/
theorem su_one {g : Int → Int} {i0 : Int} {n : Nat} (r : Int) (h1 : i0 ≤ r) (h2 : r < i0 + n) (h : ∀ i, i0 ≤ i → i < i0 + n → i ≠ r → g i = 0) : su g i0 n = g r := by
  have e : n = (r - i0).toNat + (1 + (i0 + n - r - 1).toNat) := by omega
  rw [e, su_add, su_add, su_zero (fun i a b => h i a (by omega) (by omega)), su_zero (g := g) (i0 := i0 + ((r - i0).toNat : Nat) + (1 : Nat)) (fun i a b => h i (by omega) (by omega) (by omega))]
  have e2 : su g (i0 + ((r - i0).toNat : Nat)) 1 = g r := by
    rw [su_S, su_0]
    have e3 : i0 + ((r - i0).toNat : Nat) + ((0 : Nat) : Int) = r := by omega
    rw [e3]; omega
  rw [e2]; omega
theorem lp_su {σ τ : Type} {f : σ → Option (σ ⊕ τ)} (e : Int → Int → σ) (g : Int → Int) (i0 : Int) (n : Nat) (B : Int) (hg : ∀ i, i0 ≤ i → i < i0 + n → 0 ≤ g i ∧ g i ≤ B) (hB : n * B < 2147483648) (h : ∀ i a, i0 ≤ i → i < i0 + n → 0 ≤ a → a + g i < 2147483648 → f (e a i) = some (.inl (e (a + g i) (i + 1)))) {t : τ} (he : f (e (su g i0 n) (i0 + n)) = some (.inr t)) {F : Nat} (hF : n < F) {s : σ} (hs : s = e 0 i0) : lp f F s = some t := by
  refine lp_seq (fun k => e (su g i0 k) (i0 + k)) n (fun k hk => ?_) he hF (by rw [hs]; simp [su_0])
  have b1 := @su_b g i0 k B fun i a b => hg i a (by omega)
  have b2 := @su_b g i0 (k + 1) B fun i a b => hg i a (by omega)
  have b3 : ((k + 1 : Nat) : Int) * B ≤ n * B := by
    have b4 := hg (i0 + k) (by omega) (by omega)
    exact Int.mul_le_mul_of_nonneg_right (by omega) (by omega)
  rw [su_S] at b2
  have h1 := h (i0 + k) (su g i0 k) (by omega) (by omega) b1.1 (by omega)
  have e2 : i0 + (k : Int) + 1 = i0 + ((k + 1 : Nat) : Int) := by omega
  rw [h1, su_S, e2]
/-- whether one of i0, .. has P -/
def any (P : Int → Bool) (i0 : Int) : Nat → Bool
  | 0 => false
  | n + 1 => any P i0 n || P (i0 + n)
theorem any_iff {P : Int → Bool} {i0 : Int} {n : Nat} : any P i0 n = true ↔ ∃ k, i0 ≤ k ∧ k < i0 + n ∧ P k = true := by
  induction n with
  | zero =>
    constructor
    · intro h; cases h
    · rintro ⟨k, h1, h2, -⟩; omega
  | succ n ih =>
    unfold any
    rw [Bool.or_eq_true, ih]
    constructor
    · rintro (⟨k, h1, h2, h3⟩ | h)
      · exact ⟨k, h1, by omega, h3⟩
      · exact ⟨_, by omega, by omega, h⟩
    · rintro ⟨k, h1, h2, h3⟩
      by_cases e : k < i0 + n
      · exact Or.inl ⟨k, h1, e, h3⟩
      · have e2 : k = i0 + n := by omega
        subst e2; exact Or.inr h3
theorem any_no {P : Int → Bool} {i0 : Int} {n : Nat} : any P i0 n = false ↔ ∀ k, i0 ≤ k → k < i0 + n → P k = false := by
  constructor
  · intro h k h1 h2
    cases e : P k with
    | false => rfl
    | true => rw [any_iff.mpr ⟨k, h1, h2, e⟩] at h; cases h
  · intro h
    cases e : any P i0 n with
    | false => rfl
    | true =>
      obtain ⟨k, h1, h2, h3⟩ := any_iff.mp e
      rw [h k h1 h2] at h3; cases h3
def b2i (b : Bool) : Int := if b = true then 1 else 0
theorem lp_any {σ τ : Type} {f : σ → Option (σ ⊕ τ)} (e : Int → Int → σ) (P : Int → Bool) (i0 : Int) (n : Nat) (h : ∀ i a, i0 ≤ i → i < i0 + n → f (e (b2i a) i) = some (.inl (e (b2i (a || P i)) (i + 1)))) {t : τ} (he : f (e (b2i (any P i0 n)) (i0 + n)) = some (.inr t)) {F : Nat} (hF : n < F) {s : σ} (hs : s = e 0 i0) : lp f F s = some t := by
  refine lp_seq (fun k => e (b2i (any P i0 k)) (i0 + k)) n (fun k hk => ?_) he hF (by rw [hs]; simp [any, b2i])
  have e2 : i0 + (k : Int) + 1 = i0 + ((k + 1 : Nat) : Int) := by omega
  rw [h _ _ (by omega) (by omega), e2]; rfl
/-- the last one of i0, .. with P; d without one -/
def la (P : Int → Bool) (i0 : Int) (d : Int) : Nat → Int
  | 0 => d
  | n + 1 => if P (i0 + n) = true then i0 + n else la P i0 d n
theorem la_sp {P : Int → Bool} {i0 d : Int} {n : Nat} : (la P i0 d n = d ∧ ∀ k, i0 ≤ k → k < i0 + n → P k = false) ∨ (i0 ≤ la P i0 d n ∧ la P i0 d n < i0 + n ∧ P (la P i0 d n) = true ∧ ∀ k, la P i0 d n < k → k < i0 + n → P k = false) := by
  induction n with
  | zero => exact Or.inl ⟨rfl, fun k h1 h2 => by omega⟩
  | succ n ih =>
    unfold la
    by_cases h : P (i0 + n) = true
    · rw [if_pos h]
      exact Or.inr ⟨by omega, by omega, h, fun k h1 h2 => by omega⟩
    · rw [if_neg h]
      have hf : P (i0 + n) = false := by simpa using h
      have ex : ∀ k, k < i0 + ((n + 1 : Nat) : Int) → ¬ k < i0 + (n : Int) → P k = false := fun k h1 h2 => by
        have e : k = i0 + n := by omega
        rw [e]; exact hf
      rcases ih with ⟨h1, h2⟩ | ⟨h1, h2, h3, h4⟩
      · exact Or.inl ⟨h1, fun k a b => if c : k < i0 + n then h2 k a c else ex k b c⟩
      · exact Or.inr ⟨h1, by omega, h3, fun k a b => if c : k < i0 + n then h4 k a c else ex k b c⟩
theorem lp_la {σ τ : Type} {f : σ → Option (σ ⊕ τ)} (e : Int → Int → σ) (P : Int → Bool) (i0 d : Int) (n : Nat) (h : ∀ i a, i0 ≤ i → i < i0 + n → f (e a i) = some (.inl (e (if P i = true then i else a) (i + 1)))) {t : τ} (he : f (e (la P i0 d n) (i0 + n)) = some (.inr t)) {F : Nat} (hF : n < F) {s : σ} (hs : s = e d i0) : lp f F s = some t := by
  refine lp_seq (fun k => e (la P i0 d k) (i0 + k)) n (fun k hk => ?_) he hF (by rw [hs]; simp [la])
  have e2 : i0 + (k : Int) + 1 = i0 + ((k + 1 : Nat) : Int) := by omega
  rw [h _ _ (by omega) (by omega), e2]; rfl
/-! the model's table -/
abbrev Nd : Type := Int → Int → Int
def up (N : Nd) (a j v : Int) : Nd := fun b k => if b = a ∧ k = j then v else N b k
theorem up_s {N : Nd} {a j v b k : Int} : up N a j v b k = if b = a ∧ k = j then v else N b k := rfl
theorem up_same {N : Nd} {a j : Int} : up N a j (N a j) = N := by
  funext b k
  rw [up_s]
  by_cases h : b = a ∧ k = j
  · rw [if_pos h, h.1, h.2]
  · rw [if_neg h]
def mid (a : Int) : Bool := (12000 ≤ a && a < 13500) || (14000 ≤ a && a < 15000) || a == 15001
theorem gho_mid {a : Int} (h : mid a = false) : gho a = false := by
  unfold mid at h
  unfold gho
  simp at h ⊢
  omega
def isptr (j : Int) : Bool := ([5, 6, 7, 8, 9, 10, 12, 13, 14, 15, 16, 17, 18, 20, 21, 22, 23, 24, 25, 26, 27, 28, 29, 31, 32, 33, 34, 35, 36, 37, 38, 39, 42, 43, 44, 45, 46, 47, 48, 49, 50, 51, 52, 53, 54, 55, 56, 57, 58, 59, 60, 61, 62, 63, 64, 65, 66, 67] : List Int).contains j
def pv (j : Int) : Int := if j = 8 ∨ j = 34 then 14000 + j else 13000 + j
/-- the class's table: base, number, field -/
abbrev Cd : Type := Int → Int → Int → Int
abbrev Ad : Type := (Int → Nat) × Nat × Nat × Nat
def uq (C : Cd) (b i j v : Int) : Cd := fun b' i' j' => if b' = b ∧ i' = i ∧ j' = j then v else C b' i' j'
theorem uq_s {C : Cd} {b i j v b' i' j' : Int} : uq C b i j v b' i' j' = if b' = b ∧ i' = i ∧ j' = j then v else C b' i' j' := rfl
def zq (C : Cd) (b i : Int) : Cd := fun b' i' j' => if b' = b ∧ i' = i then 0 else C b' i' j'
theorem zq_s {C : Cd} {b i b' i' j' : Int} : zq C b i b' i' j' = if b' = b ∧ i' = i then 0 else C b' i' j' := rfl
/-- the bases -/
def bss : List Int := [1000, 2000, 3000, 3003, 3006, 4000, 5000, 6000, 7000, 8000, 9000, 10000, 11000, 13500, 15000, 16000, 17000, 17100, 17103, 17106, 19000, 20000, 20001, 20100, 21000, 21100, 22000, 23000, 24000, 25000]
def bsl : List Int → Int → Int → Int
  | [], _, d => d
  | b :: l, a, d => if a < b then d else bsl l a b
def bs (a : Int) : Int := bsl bss a 0
theorem bsl_g {b a d : Int} {l : List Int} (h : ¬ a < b) : bsl (b :: l) a d = bsl l a b := if_neg h
theorem bsl_s {b a d : Int} {l : List Int} (h : a < b) : bsl (b :: l) a d = d := if_pos h
theorem bsl_n {a d : Int} : bsl [] a d = d := rfl
def mk (C : Cd) (N : Nd) (A : Ad) : Mm := ((fun a j => if mid a = true then (if a = 12000 ∧ isptr j = true then pv j else N a j) else C (bs a) (a - bs a) j), A)
theorem rd_mk {C : Cd} {N : Nd} {A : Ad} {a j : Int} : rd (mk C N A) a j = if mid a = true then (if a = 12000 ∧ isptr j = true then pv j else N a j) else C (bs a) (a - bs a) j := rfl
theorem rd_mk_m {C : Cd} {N : Nd} {A : Ad} {a j : Int} (h1 : mid a = true) (h : ¬ (a = 12000 ∧ isptr j = true)) : rd (mk C N A) a j = N a j := by rw [rd_mk, if_pos h1, if_neg h]
theorem wr_mk_m {C : Cd} {N : Nd} {A : Ad} {a j v : Int} (h1 : mid a = true) (h : ¬ (a = 12000 ∧ isptr j = true)) : wr (mk C N A) a j v = mk C (up N a j v) A := by
  unfold wr mk
  congr 1
  funext b k
  show (if b = a ∧ k = j then v else if mid b = true then (if b = 12000 ∧ isptr k = true then pv k else N b k) else C (bs b) (b - bs b) k) = (if mid b = true then (if b = 12000 ∧ isptr k = true then pv k else up N a j v b k) else C (bs b) (b - bs b) k)
  rw [up_s]
  by_cases e : b = a ∧ k = j
  · obtain ⟨rfl, rfl⟩ := e
    rw [if_pos ⟨rfl, rfl⟩, if_pos h1, if_neg h, if_pos ⟨rfl, rfl⟩]
  · rw [if_neg e, if_neg e]
theorem rd_mk_c {C : Cd} {N : Nd} {A : Ad} {a j b i : Int} (h1 : mid a = false) (h : bs a = b) (h2 : a = b + i) : rd (mk C N A) a j = C b i j := by
  rw [rd_mk, if_neg (by rw [h1]; decide), h]
  congr 1
  omega
theorem wr_mk_c {C : Cd} {N : Nd} {A : Ad} {a j v b i : Int} (h1 : mid a = false) (h : bs a = b) (h2 : a = b + i) : wr (mk C N A) a j v = mk (uq C b i j v) N A := by
  unfold wr mk
  congr 1
  funext c k
  show (if c = a ∧ k = j then v else if mid c = true then (if c = 12000 ∧ isptr k = true then pv k else N c k) else C (bs c) (c - bs c) k) = (if mid c = true then (if c = 12000 ∧ isptr k = true then pv k else N c k) else uq C b i j v (bs c) (c - bs c) k)
  rw [uq_s]
  by_cases e : c = a ∧ k = j
  · obtain ⟨rfl, rfl⟩ := e
    rw [if_pos ⟨rfl, rfl⟩, if_neg (by rw [h1]; decide), if_pos ⟨h, by omega, rfl⟩]
  · rw [if_neg e]
    by_cases e2 : mid c = true
    · rw [if_pos e2, if_pos e2]
    · rw [if_neg e2, if_neg e2, if_neg]
      rintro ⟨e3, e4, e5⟩
      exact e ⟨by omega, e5⟩
def alA (A : Ad) (a : Int) (n : Nat) : Ad := ((fun b => if b = a then A.2.1 + 1 else A.1 b), A.2.1 + 1, A.2.2.1 + n, A.2.2.2)
def thA (A : Ad) : Ad := (A.1, A.2.1 + 1, A.2.2.1 + 6, A.2.2.2 + 1)
theorem thr_mk {C : Cd} {N : Nd} {A : Ad} : thr (mk C N A) = mk C N (thA A) := rfl
theorem ad_mk {C : Cd} {N : Nd} {A : Ad} {a : Int} : mAd (mk C N A) a = A.1 a := rfl
theorem ad_al {A : Ad} {a b : Int} {n : Nat} (h : b ≠ a) : (alA A a n).1 b = A.1 b := if_neg h
theorem nw_mk {C : Cd} {N : Nd} {A : Ad} {a b i : Int} {n : Nat} (h1 : mid a = false) (h : bs a = b) (h2 : a = b + i) : nw (mk C N A) a n = mk (zq C b i) N (alA A a n) := by
  unfold nw mk alA
  congr 1
  funext c k
  show (if c = a then 0 else if mid c = true then (if c = 12000 ∧ isptr k = true then pv k else N c k) else C (bs c) (c - bs c) k) = (if mid c = true then (if c = 12000 ∧ isptr k = true then pv k else N c k) else zq C b i (bs c) (c - bs c) k)
  rw [zq_s]
  by_cases e : c = a
  · subst e
    rw [if_pos rfl, if_neg (by rw [h1]; decide), if_pos ⟨h, by omega⟩]
  · rw [if_neg e]
    by_cases e2 : mid c = true
    · rw [if_pos e2, if_pos e2]
    · rw [if_neg e2, if_neg e2, if_neg]
      rintro ⟨e3, e4⟩
      exact e (by omega)
theorem alo_mk {C : Cd} {N : Nd} {A : Ad} {a b i : Int} {k n : Nat} (h0 : A.1 a = 0) (hk : kd a = k) (h1 : mid a = false) (h : bs a = b) (h2 : a = b + i) : alo (mk C N A) k a n = some (mk (zq C b i) N (alA A a n)) := by
  unfold alo
  rw [if_pos ⟨h0, hk, gho_mid h1⟩, nw_mk h1 h h2]
theorem ala_mk {C : Cd} {N : Nd} {A : Ad} {a b i n : Int} {k : Nat} (h0 : A.1 a = 0) (hk : kd a = k) (hl : ln a = n) (h1 : mid a = false) (h : bs a = b) (h2 : a = b + i) : ala (mk C N A) k a n = some (mk (zq C b i) N (alA A a n.toNat)) := by
  unfold ala
  rw [if_pos ⟨h0, hk, hl, gho_mid h1⟩, nw_mk h1 h h2]
theorem pt_0 {C : Cd} {N : Nd} {A : Ad} : rd (mk C N A) 12000 0 = N 12000 0 := rd_mk_m (by decide) (by decide)
theorem ps_0 {C : Cd} {N : Nd} {A : Ad} {v : Int} : wr (mk C N A) 12000 0 v = mk C (up N 12000 0 v) A := wr_mk_m (by decide) (by decide)
theorem pt_1 {C : Cd} {N : Nd} {A : Ad} : rd (mk C N A) 12000 1 = N 12000 1 := rd_mk_m (by decide) (by decide)
theorem ps_1 {C : Cd} {N : Nd} {A : Ad} {v : Int} : wr (mk C N A) 12000 1 v = mk C (up N 12000 1 v) A := wr_mk_m (by decide) (by decide)
theorem pt_2 {C : Cd} {N : Nd} {A : Ad} : rd (mk C N A) 12000 2 = N 12000 2 := rd_mk_m (by decide) (by decide)
theorem ps_2 {C : Cd} {N : Nd} {A : Ad} {v : Int} : wr (mk C N A) 12000 2 v = mk C (up N 12000 2 v) A := wr_mk_m (by decide) (by decide)
theorem pt_3 {C : Cd} {N : Nd} {A : Ad} : rd (mk C N A) 12000 3 = N 12000 3 := rd_mk_m (by decide) (by decide)
theorem ps_3 {C : Cd} {N : Nd} {A : Ad} {v : Int} : wr (mk C N A) 12000 3 v = mk C (up N 12000 3 v) A := wr_mk_m (by decide) (by decide)
theorem pt_4 {C : Cd} {N : Nd} {A : Ad} : rd (mk C N A) 12000 4 = N 12000 4 := rd_mk_m (by decide) (by decide)
theorem ps_4 {C : Cd} {N : Nd} {A : Ad} {v : Int} : wr (mk C N A) 12000 4 v = mk C (up N 12000 4 v) A := wr_mk_m (by decide) (by decide)
theorem pt_5 {C : Cd} {N : Nd} {A : Ad} : rd (mk C N A) 12000 5 = 13005 := by rw [rd_mk, if_pos (by decide), if_pos (by decide)]; decide
theorem pa_13005 {C : Cd} {N : Nd} {A : Ad} {j : Int} : rd (mk C N A) 13005 j = N 13005 j := rd_mk_m (by decide) (fun h => absurd h.1 (by decide))
theorem pw_13005 {C : Cd} {N : Nd} {A : Ad} {j v : Int} : wr (mk C N A) 13005 j v = mk C (up N 13005 j v) A := wr_mk_m (by decide) (fun h => absurd h.1 (by decide))
theorem ln_13005 : ln 13005 = 3 := by decide
theorem pt_6 {C : Cd} {N : Nd} {A : Ad} : rd (mk C N A) 12000 6 = 13006 := by rw [rd_mk, if_pos (by decide), if_pos (by decide)]; decide
theorem pa_13006 {C : Cd} {N : Nd} {A : Ad} {j : Int} : rd (mk C N A) 13006 j = N 13006 j := rd_mk_m (by decide) (fun h => absurd h.1 (by decide))
theorem pw_13006 {C : Cd} {N : Nd} {A : Ad} {j v : Int} : wr (mk C N A) 13006 j v = mk C (up N 13006 j v) A := wr_mk_m (by decide) (fun h => absurd h.1 (by decide))
theorem ln_13006 : ln 13006 = 3 := by decide
theorem pt_7 {C : Cd} {N : Nd} {A : Ad} : rd (mk C N A) 12000 7 = 13007 := by rw [rd_mk, if_pos (by decide), if_pos (by decide)]; decide
theorem pa_13007 {C : Cd} {N : Nd} {A : Ad} {j : Int} : rd (mk C N A) 13007 j = N 13007 j := rd_mk_m (by decide) (fun h => absurd h.1 (by decide))
theorem pw_13007 {C : Cd} {N : Nd} {A : Ad} {j v : Int} : wr (mk C N A) 13007 j v = mk C (up N 13007 j v) A := wr_mk_m (by decide) (fun h => absurd h.1 (by decide))
theorem ln_13007 : ln 13007 = 3 := by decide
theorem pt_8 {C : Cd} {N : Nd} {A : Ad} : rd (mk C N A) 12000 8 = 14008 := by rw [rd_mk, if_pos (by decide), if_pos (by decide)]; decide
theorem pa_14008 {C : Cd} {N : Nd} {A : Ad} {j : Int} : rd (mk C N A) 14008 j = N 14008 j := rd_mk_m (by decide) (fun h => absurd h.1 (by decide))
theorem pw_14008 {C : Cd} {N : Nd} {A : Ad} {j v : Int} : wr (mk C N A) 14008 j v = mk C (up N 14008 j v) A := wr_mk_m (by decide) (fun h => absurd h.1 (by decide))
theorem ln_14008 : ln 14008 = 3 := by decide
theorem pt_9 {C : Cd} {N : Nd} {A : Ad} : rd (mk C N A) 12000 9 = 13009 := by rw [rd_mk, if_pos (by decide), if_pos (by decide)]; decide
theorem pa_13009 {C : Cd} {N : Nd} {A : Ad} {j : Int} : rd (mk C N A) 13009 j = N 13009 j := rd_mk_m (by decide) (fun h => absurd h.1 (by decide))
theorem pw_13009 {C : Cd} {N : Nd} {A : Ad} {j v : Int} : wr (mk C N A) 13009 j v = mk C (up N 13009 j v) A := wr_mk_m (by decide) (fun h => absurd h.1 (by decide))
theorem ln_13009 : ln 13009 = 3 := by decide
theorem pt_10 {C : Cd} {N : Nd} {A : Ad} : rd (mk C N A) 12000 10 = 13010 := by rw [rd_mk, if_pos (by decide), if_pos (by decide)]; decide
theorem pa_13010 {C : Cd} {N : Nd} {A : Ad} {j : Int} : rd (mk C N A) 13010 j = N 13010 j := rd_mk_m (by decide) (fun h => absurd h.1 (by decide))
theorem pw_13010 {C : Cd} {N : Nd} {A : Ad} {j v : Int} : wr (mk C N A) 13010 j v = mk C (up N 13010 j v) A := wr_mk_m (by decide) (fun h => absurd h.1 (by decide))
theorem ln_13010 : ln 13010 = 3 := by decide
theorem pt_11 {C : Cd} {N : Nd} {A : Ad} : rd (mk C N A) 12000 11 = N 12000 11 := rd_mk_m (by decide) (by decide)
theorem ps_11 {C : Cd} {N : Nd} {A : Ad} {v : Int} : wr (mk C N A) 12000 11 v = mk C (up N 12000 11 v) A := wr_mk_m (by decide) (by decide)
theorem pt_12 {C : Cd} {N : Nd} {A : Ad} : rd (mk C N A) 12000 12 = 13012 := by rw [rd_mk, if_pos (by decide), if_pos (by decide)]; decide
theorem pa_13012 {C : Cd} {N : Nd} {A : Ad} {j : Int} : rd (mk C N A) 13012 j = N 13012 j := rd_mk_m (by decide) (fun h => absurd h.1 (by decide))
theorem pw_13012 {C : Cd} {N : Nd} {A : Ad} {j v : Int} : wr (mk C N A) 13012 j v = mk C (up N 13012 j v) A := wr_mk_m (by decide) (fun h => absurd h.1 (by decide))
theorem ln_13012 : ln 13012 = 9 := by decide
theorem pt_13 {C : Cd} {N : Nd} {A : Ad} : rd (mk C N A) 12000 13 = 13013 := by rw [rd_mk, if_pos (by decide), if_pos (by decide)]; decide
theorem pa_13013 {C : Cd} {N : Nd} {A : Ad} {j : Int} : rd (mk C N A) 13013 j = N 13013 j := rd_mk_m (by decide) (fun h => absurd h.1 (by decide))
theorem pw_13013 {C : Cd} {N : Nd} {A : Ad} {j v : Int} : wr (mk C N A) 13013 j v = mk C (up N 13013 j v) A := wr_mk_m (by decide) (fun h => absurd h.1 (by decide))
theorem ln_13013 : ln 13013 = 9 := by decide
theorem pt_14 {C : Cd} {N : Nd} {A : Ad} : rd (mk C N A) 12000 14 = 13014 := by rw [rd_mk, if_pos (by decide), if_pos (by decide)]; decide
theorem pa_13014 {C : Cd} {N : Nd} {A : Ad} {j : Int} : rd (mk C N A) 13014 j = N 13014 j := rd_mk_m (by decide) (fun h => absurd h.1 (by decide))
theorem pw_13014 {C : Cd} {N : Nd} {A : Ad} {j v : Int} : wr (mk C N A) 13014 j v = mk C (up N 13014 j v) A := wr_mk_m (by decide) (fun h => absurd h.1 (by decide))
theorem ln_13014 : ln 13014 = 9 := by decide
theorem pt_15 {C : Cd} {N : Nd} {A : Ad} : rd (mk C N A) 12000 15 = 13015 := by rw [rd_mk, if_pos (by decide), if_pos (by decide)]; decide
theorem pa_13015 {C : Cd} {N : Nd} {A : Ad} {j : Int} : rd (mk C N A) 13015 j = N 13015 j := rd_mk_m (by decide) (fun h => absurd h.1 (by decide))
theorem pw_13015 {C : Cd} {N : Nd} {A : Ad} {j v : Int} : wr (mk C N A) 13015 j v = mk C (up N 13015 j v) A := wr_mk_m (by decide) (fun h => absurd h.1 (by decide))
theorem ln_13015 : ln 13015 = 9 := by decide
theorem pt_16 {C : Cd} {N : Nd} {A : Ad} : rd (mk C N A) 12000 16 = 13016 := by rw [rd_mk, if_pos (by decide), if_pos (by decide)]; decide
theorem pa_13016 {C : Cd} {N : Nd} {A : Ad} {j : Int} : rd (mk C N A) 13016 j = N 13016 j := rd_mk_m (by decide) (fun h => absurd h.1 (by decide))
theorem pw_13016 {C : Cd} {N : Nd} {A : Ad} {j v : Int} : wr (mk C N A) 13016 j v = mk C (up N 13016 j v) A := wr_mk_m (by decide) (fun h => absurd h.1 (by decide))
theorem ln_13016 : ln 13016 = 27 := by decide
theorem pt_17 {C : Cd} {N : Nd} {A : Ad} : rd (mk C N A) 12000 17 = 13017 := by rw [rd_mk, if_pos (by decide), if_pos (by decide)]; decide
theorem pa_13017 {C : Cd} {N : Nd} {A : Ad} {j : Int} : rd (mk C N A) 13017 j = N 13017 j := rd_mk_m (by decide) (fun h => absurd h.1 (by decide))
theorem pw_13017 {C : Cd} {N : Nd} {A : Ad} {j v : Int} : wr (mk C N A) 13017 j v = mk C (up N 13017 j v) A := wr_mk_m (by decide) (fun h => absurd h.1 (by decide))
theorem ln_13017 : ln 13017 = 27 := by decide
theorem pt_18 {C : Cd} {N : Nd} {A : Ad} : rd (mk C N A) 12000 18 = 13018 := by rw [rd_mk, if_pos (by decide), if_pos (by decide)]; decide
theorem pa_13018 {C : Cd} {N : Nd} {A : Ad} {j : Int} : rd (mk C N A) 13018 j = N 13018 j := rd_mk_m (by decide) (fun h => absurd h.1 (by decide))
theorem pw_13018 {C : Cd} {N : Nd} {A : Ad} {j v : Int} : wr (mk C N A) 13018 j v = mk C (up N 13018 j v) A := wr_mk_m (by decide) (fun h => absurd h.1 (by decide))
theorem ln_13018 : ln 13018 = 540 := by decide
theorem pt_19 {C : Cd} {N : Nd} {A : Ad} : rd (mk C N A) 12000 19 = N 12000 19 := rd_mk_m (by decide) (by decide)
theorem ps_19 {C : Cd} {N : Nd} {A : Ad} {v : Int} : wr (mk C N A) 12000 19 v = mk C (up N 12000 19 v) A := wr_mk_m (by decide) (by decide)
theorem pt_20 {C : Cd} {N : Nd} {A : Ad} : rd (mk C N A) 12000 20 = 13020 := by rw [rd_mk, if_pos (by decide), if_pos (by decide)]; decide
theorem pa_13020 {C : Cd} {N : Nd} {A : Ad} {j : Int} : rd (mk C N A) 13020 j = N 13020 j := rd_mk_m (by decide) (fun h => absurd h.1 (by decide))
theorem pw_13020 {C : Cd} {N : Nd} {A : Ad} {j v : Int} : wr (mk C N A) 13020 j v = mk C (up N 13020 j v) A := wr_mk_m (by decide) (fun h => absurd h.1 (by decide))
theorem ln_13020 : ln 13020 = 150 := by decide
theorem pt_21 {C : Cd} {N : Nd} {A : Ad} : rd (mk C N A) 12000 21 = 13021 := by rw [rd_mk, if_pos (by decide), if_pos (by decide)]; decide
theorem pa_13021 {C : Cd} {N : Nd} {A : Ad} {j : Int} : rd (mk C N A) 13021 j = N 13021 j := rd_mk_m (by decide) (fun h => absurd h.1 (by decide))
theorem pw_13021 {C : Cd} {N : Nd} {A : Ad} {j v : Int} : wr (mk C N A) 13021 j v = mk C (up N 13021 j v) A := wr_mk_m (by decide) (fun h => absurd h.1 (by decide))
theorem ln_13021 : ln 13021 = 150 := by decide
theorem pt_22 {C : Cd} {N : Nd} {A : Ad} : rd (mk C N A) 12000 22 = 13022 := by rw [rd_mk, if_pos (by decide), if_pos (by decide)]; decide
theorem pa_13022 {C : Cd} {N : Nd} {A : Ad} {j : Int} : rd (mk C N A) 13022 j = N 13022 j := rd_mk_m (by decide) (fun h => absurd h.1 (by decide))
theorem pw_13022 {C : Cd} {N : Nd} {A : Ad} {j v : Int} : wr (mk C N A) 13022 j v = mk C (up N 13022 j v) A := wr_mk_m (by decide) (fun h => absurd h.1 (by decide))
theorem ln_13022 : ln 13022 = 150 := by decide
theorem pt_23 {C : Cd} {N : Nd} {A : Ad} : rd (mk C N A) 12000 23 = 13023 := by rw [rd_mk, if_pos (by decide), if_pos (by decide)]; decide
theorem pa_13023 {C : Cd} {N : Nd} {A : Ad} {j : Int} : rd (mk C N A) 13023 j = N 13023 j := rd_mk_m (by decide) (fun h => absurd h.1 (by decide))
theorem pw_13023 {C : Cd} {N : Nd} {A : Ad} {j v : Int} : wr (mk C N A) 13023 j v = mk C (up N 13023 j v) A := wr_mk_m (by decide) (fun h => absurd h.1 (by decide))
theorem ln_13023 : ln 13023 = 150 := by decide
theorem pt_24 {C : Cd} {N : Nd} {A : Ad} : rd (mk C N A) 12000 24 = 13024 := by rw [rd_mk, if_pos (by decide), if_pos (by decide)]; decide
theorem pa_13024 {C : Cd} {N : Nd} {A : Ad} {j : Int} : rd (mk C N A) 13024 j = N 13024 j := rd_mk_m (by decide) (fun h => absurd h.1 (by decide))
theorem pw_13024 {C : Cd} {N : Nd} {A : Ad} {j v : Int} : wr (mk C N A) 13024 j v = mk C (up N 13024 j v) A := wr_mk_m (by decide) (fun h => absurd h.1 (by decide))
theorem ln_13024 : ln 13024 = 150 := by decide
theorem pt_25 {C : Cd} {N : Nd} {A : Ad} : rd (mk C N A) 12000 25 = 13025 := by rw [rd_mk, if_pos (by decide), if_pos (by decide)]; decide
theorem pa_13025 {C : Cd} {N : Nd} {A : Ad} {j : Int} : rd (mk C N A) 13025 j = N 13025 j := rd_mk_m (by decide) (fun h => absurd h.1 (by decide))
theorem pw_13025 {C : Cd} {N : Nd} {A : Ad} {j v : Int} : wr (mk C N A) 13025 j v = mk C (up N 13025 j v) A := wr_mk_m (by decide) (fun h => absurd h.1 (by decide))
theorem ln_13025 : ln 13025 = 150 := by decide
theorem pt_26 {C : Cd} {N : Nd} {A : Ad} : rd (mk C N A) 12000 26 = 13026 := by rw [rd_mk, if_pos (by decide), if_pos (by decide)]; decide
theorem pa_13026 {C : Cd} {N : Nd} {A : Ad} {j : Int} : rd (mk C N A) 13026 j = N 13026 j := rd_mk_m (by decide) (fun h => absurd h.1 (by decide))
theorem pw_13026 {C : Cd} {N : Nd} {A : Ad} {j v : Int} : wr (mk C N A) 13026 j v = mk C (up N 13026 j v) A := wr_mk_m (by decide) (fun h => absurd h.1 (by decide))
theorem ln_13026 : ln 13026 = 150 := by decide
theorem pt_27 {C : Cd} {N : Nd} {A : Ad} : rd (mk C N A) 12000 27 = 13027 := by rw [rd_mk, if_pos (by decide), if_pos (by decide)]; decide
theorem pa_13027 {C : Cd} {N : Nd} {A : Ad} {j : Int} : rd (mk C N A) 13027 j = N 13027 j := rd_mk_m (by decide) (fun h => absurd h.1 (by decide))
theorem pw_13027 {C : Cd} {N : Nd} {A : Ad} {j v : Int} : wr (mk C N A) 13027 j v = mk C (up N 13027 j v) A := wr_mk_m (by decide) (fun h => absurd h.1 (by decide))
theorem ln_13027 : ln 13027 = 150 := by decide
theorem pt_28 {C : Cd} {N : Nd} {A : Ad} : rd (mk C N A) 12000 28 = 13028 := by rw [rd_mk, if_pos (by decide), if_pos (by decide)]; decide
theorem pa_13028 {C : Cd} {N : Nd} {A : Ad} {j : Int} : rd (mk C N A) 13028 j = N 13028 j := rd_mk_m (by decide) (fun h => absurd h.1 (by decide))
theorem pw_13028 {C : Cd} {N : Nd} {A : Ad} {j v : Int} : wr (mk C N A) 13028 j v = mk C (up N 13028 j v) A := wr_mk_m (by decide) (fun h => absurd h.1 (by decide))
theorem ln_13028 : ln 13028 = 150 := by decide
theorem pt_29 {C : Cd} {N : Nd} {A : Ad} : rd (mk C N A) 12000 29 = 13029 := by rw [rd_mk, if_pos (by decide), if_pos (by decide)]; decide
theorem pa_13029 {C : Cd} {N : Nd} {A : Ad} {j : Int} : rd (mk C N A) 13029 j = N 13029 j := rd_mk_m (by decide) (fun h => absurd h.1 (by decide))
theorem pw_13029 {C : Cd} {N : Nd} {A : Ad} {j v : Int} : wr (mk C N A) 13029 j v = mk C (up N 13029 j v) A := wr_mk_m (by decide) (fun h => absurd h.1 (by decide))
theorem ln_13029 : ln 13029 = 150 := by decide
theorem pt_30 {C : Cd} {N : Nd} {A : Ad} : rd (mk C N A) 12000 30 = N 12000 30 := rd_mk_m (by decide) (by decide)
theorem ps_30 {C : Cd} {N : Nd} {A : Ad} {v : Int} : wr (mk C N A) 12000 30 v = mk C (up N 12000 30 v) A := wr_mk_m (by decide) (by decide)
theorem pt_31 {C : Cd} {N : Nd} {A : Ad} : rd (mk C N A) 12000 31 = 13031 := by rw [rd_mk, if_pos (by decide), if_pos (by decide)]; decide
theorem pa_13031 {C : Cd} {N : Nd} {A : Ad} {j : Int} : rd (mk C N A) 13031 j = N 13031 j := rd_mk_m (by decide) (fun h => absurd h.1 (by decide))
theorem pw_13031 {C : Cd} {N : Nd} {A : Ad} {j v : Int} : wr (mk C N A) 13031 j v = mk C (up N 13031 j v) A := wr_mk_m (by decide) (fun h => absurd h.1 (by decide))
theorem ln_13031 : ln 13031 = 4 := by decide
theorem pt_32 {C : Cd} {N : Nd} {A : Ad} : rd (mk C N A) 12000 32 = 13032 := by rw [rd_mk, if_pos (by decide), if_pos (by decide)]; decide
theorem pa_13032 {C : Cd} {N : Nd} {A : Ad} {j : Int} : rd (mk C N A) 13032 j = N 13032 j := rd_mk_m (by decide) (fun h => absurd h.1 (by decide))
theorem pw_13032 {C : Cd} {N : Nd} {A : Ad} {j v : Int} : wr (mk C N A) 13032 j v = mk C (up N 13032 j v) A := wr_mk_m (by decide) (fun h => absurd h.1 (by decide))
theorem ln_13032 : ln 13032 = 4 := by decide
theorem pt_33 {C : Cd} {N : Nd} {A : Ad} : rd (mk C N A) 12000 33 = 13033 := by rw [rd_mk, if_pos (by decide), if_pos (by decide)]; decide
theorem pa_13033 {C : Cd} {N : Nd} {A : Ad} {j : Int} : rd (mk C N A) 13033 j = N 13033 j := rd_mk_m (by decide) (fun h => absurd h.1 (by decide))
theorem pw_13033 {C : Cd} {N : Nd} {A : Ad} {j v : Int} : wr (mk C N A) 13033 j v = mk C (up N 13033 j v) A := wr_mk_m (by decide) (fun h => absurd h.1 (by decide))
theorem ln_13033 : ln 13033 = 4 := by decide
theorem pt_34 {C : Cd} {N : Nd} {A : Ad} : rd (mk C N A) 12000 34 = 14034 := by rw [rd_mk, if_pos (by decide), if_pos (by decide)]; decide
theorem pa_14034 {C : Cd} {N : Nd} {A : Ad} {j : Int} : rd (mk C N A) 14034 j = N 14034 j := rd_mk_m (by decide) (fun h => absurd h.1 (by decide))
theorem pw_14034 {C : Cd} {N : Nd} {A : Ad} {j v : Int} : wr (mk C N A) 14034 j v = mk C (up N 14034 j v) A := wr_mk_m (by decide) (fun h => absurd h.1 (by decide))
theorem ln_14034 : ln 14034 = 4 := by decide
theorem pt_35 {C : Cd} {N : Nd} {A : Ad} : rd (mk C N A) 12000 35 = 13035 := by rw [rd_mk, if_pos (by decide), if_pos (by decide)]; decide
theorem pa_13035 {C : Cd} {N : Nd} {A : Ad} {j : Int} : rd (mk C N A) 13035 j = N 13035 j := rd_mk_m (by decide) (fun h => absurd h.1 (by decide))
theorem pw_13035 {C : Cd} {N : Nd} {A : Ad} {j v : Int} : wr (mk C N A) 13035 j v = mk C (up N 13035 j v) A := wr_mk_m (by decide) (fun h => absurd h.1 (by decide))
theorem ln_13035 : ln 13035 = 4 := by decide
theorem pt_36 {C : Cd} {N : Nd} {A : Ad} : rd (mk C N A) 12000 36 = 13036 := by rw [rd_mk, if_pos (by decide), if_pos (by decide)]; decide
theorem pa_13036 {C : Cd} {N : Nd} {A : Ad} {j : Int} : rd (mk C N A) 13036 j = N 13036 j := rd_mk_m (by decide) (fun h => absurd h.1 (by decide))
theorem pw_13036 {C : Cd} {N : Nd} {A : Ad} {j v : Int} : wr (mk C N A) 13036 j v = mk C (up N 13036 j v) A := wr_mk_m (by decide) (fun h => absurd h.1 (by decide))
theorem ln_13036 : ln 13036 = 4 := by decide
theorem pt_37 {C : Cd} {N : Nd} {A : Ad} : rd (mk C N A) 12000 37 = 13037 := by rw [rd_mk, if_pos (by decide), if_pos (by decide)]; decide
theorem pa_13037 {C : Cd} {N : Nd} {A : Ad} {j : Int} : rd (mk C N A) 13037 j = N 13037 j := rd_mk_m (by decide) (fun h => absurd h.1 (by decide))
theorem pw_13037 {C : Cd} {N : Nd} {A : Ad} {j v : Int} : wr (mk C N A) 13037 j v = mk C (up N 13037 j v) A := wr_mk_m (by decide) (fun h => absurd h.1 (by decide))
theorem ln_13037 : ln 13037 = 4 := by decide
theorem pt_38 {C : Cd} {N : Nd} {A : Ad} : rd (mk C N A) 12000 38 = 13038 := by rw [rd_mk, if_pos (by decide), if_pos (by decide)]; decide
theorem pa_13038 {C : Cd} {N : Nd} {A : Ad} {j : Int} : rd (mk C N A) 13038 j = N 13038 j := rd_mk_m (by decide) (fun h => absurd h.1 (by decide))
theorem pw_13038 {C : Cd} {N : Nd} {A : Ad} {j v : Int} : wr (mk C N A) 13038 j v = mk C (up N 13038 j v) A := wr_mk_m (by decide) (fun h => absurd h.1 (by decide))
theorem ln_13038 : ln 13038 = 4 := by decide
theorem pt_39 {C : Cd} {N : Nd} {A : Ad} : rd (mk C N A) 12000 39 = 13039 := by rw [rd_mk, if_pos (by decide), if_pos (by decide)]; decide
theorem pa_13039 {C : Cd} {N : Nd} {A : Ad} {j : Int} : rd (mk C N A) 13039 j = N 13039 j := rd_mk_m (by decide) (fun h => absurd h.1 (by decide))
theorem pw_13039 {C : Cd} {N : Nd} {A : Ad} {j v : Int} : wr (mk C N A) 13039 j v = mk C (up N 13039 j v) A := wr_mk_m (by decide) (fun h => absurd h.1 (by decide))
theorem ln_13039 : ln 13039 = 36 := by decide
theorem pt_40 {C : Cd} {N : Nd} {A : Ad} : rd (mk C N A) 12000 40 = N 12000 40 := rd_mk_m (by decide) (by decide)
theorem ps_40 {C : Cd} {N : Nd} {A : Ad} {v : Int} : wr (mk C N A) 12000 40 v = mk C (up N 12000 40 v) A := wr_mk_m (by decide) (by decide)
theorem pt_41 {C : Cd} {N : Nd} {A : Ad} : rd (mk C N A) 12000 41 = N 12000 41 := rd_mk_m (by decide) (by decide)
theorem ps_41 {C : Cd} {N : Nd} {A : Ad} {v : Int} : wr (mk C N A) 12000 41 v = mk C (up N 12000 41 v) A := wr_mk_m (by decide) (by decide)
theorem pt_42 {C : Cd} {N : Nd} {A : Ad} : rd (mk C N A) 12000 42 = 13042 := by rw [rd_mk, if_pos (by decide), if_pos (by decide)]; decide
theorem pa_13042 {C : Cd} {N : Nd} {A : Ad} {j : Int} : rd (mk C N A) 13042 j = N 13042 j := rd_mk_m (by decide) (fun h => absurd h.1 (by decide))
theorem pw_13042 {C : Cd} {N : Nd} {A : Ad} {j v : Int} : wr (mk C N A) 13042 j v = mk C (up N 13042 j v) A := wr_mk_m (by decide) (fun h => absurd h.1 (by decide))
theorem ln_13042 : ln 13042 = 3 := by decide
theorem pt_43 {C : Cd} {N : Nd} {A : Ad} : rd (mk C N A) 12000 43 = 13043 := by rw [rd_mk, if_pos (by decide), if_pos (by decide)]; decide
theorem pa_13043 {C : Cd} {N : Nd} {A : Ad} {j : Int} : rd (mk C N A) 13043 j = N 13043 j := rd_mk_m (by decide) (fun h => absurd h.1 (by decide))
theorem pw_13043 {C : Cd} {N : Nd} {A : Ad} {j v : Int} : wr (mk C N A) 13043 j v = mk C (up N 13043 j v) A := wr_mk_m (by decide) (fun h => absurd h.1 (by decide))
theorem ln_13043 : ln 13043 = 3 := by decide
theorem pt_44 {C : Cd} {N : Nd} {A : Ad} : rd (mk C N A) 12000 44 = 13044 := by rw [rd_mk, if_pos (by decide), if_pos (by decide)]; decide
theorem pa_13044 {C : Cd} {N : Nd} {A : Ad} {j : Int} : rd (mk C N A) 13044 j = N 13044 j := rd_mk_m (by decide) (fun h => absurd h.1 (by decide))
theorem pw_13044 {C : Cd} {N : Nd} {A : Ad} {j v : Int} : wr (mk C N A) 13044 j v = mk C (up N 13044 j v) A := wr_mk_m (by decide) (fun h => absurd h.1 (by decide))
theorem ln_13044 : ln 13044 = 3 := by decide
theorem pt_45 {C : Cd} {N : Nd} {A : Ad} : rd (mk C N A) 12000 45 = 13045 := by rw [rd_mk, if_pos (by decide), if_pos (by decide)]; decide
theorem pa_13045 {C : Cd} {N : Nd} {A : Ad} {j : Int} : rd (mk C N A) 13045 j = N 13045 j := rd_mk_m (by decide) (fun h => absurd h.1 (by decide))
theorem pw_13045 {C : Cd} {N : Nd} {A : Ad} {j v : Int} : wr (mk C N A) 13045 j v = mk C (up N 13045 j v) A := wr_mk_m (by decide) (fun h => absurd h.1 (by decide))
theorem ln_13045 : ln 13045 = 3 := by decide
theorem pt_46 {C : Cd} {N : Nd} {A : Ad} : rd (mk C N A) 12000 46 = 13046 := by rw [rd_mk, if_pos (by decide), if_pos (by decide)]; decide
theorem pa_13046 {C : Cd} {N : Nd} {A : Ad} {j : Int} : rd (mk C N A) 13046 j = N 13046 j := rd_mk_m (by decide) (fun h => absurd h.1 (by decide))
theorem pw_13046 {C : Cd} {N : Nd} {A : Ad} {j v : Int} : wr (mk C N A) 13046 j v = mk C (up N 13046 j v) A := wr_mk_m (by decide) (fun h => absurd h.1 (by decide))
theorem ln_13046 : ln 13046 = 3 := by decide
theorem pt_47 {C : Cd} {N : Nd} {A : Ad} : rd (mk C N A) 12000 47 = 13047 := by rw [rd_mk, if_pos (by decide), if_pos (by decide)]; decide
theorem pa_13047 {C : Cd} {N : Nd} {A : Ad} {j : Int} : rd (mk C N A) 13047 j = N 13047 j := rd_mk_m (by decide) (fun h => absurd h.1 (by decide))
theorem pw_13047 {C : Cd} {N : Nd} {A : Ad} {j v : Int} : wr (mk C N A) 13047 j v = mk C (up N 13047 j v) A := wr_mk_m (by decide) (fun h => absurd h.1 (by decide))
theorem ln_13047 : ln 13047 = 36 := by decide
theorem pt_48 {C : Cd} {N : Nd} {A : Ad} : rd (mk C N A) 12000 48 = 13048 := by rw [rd_mk, if_pos (by decide), if_pos (by decide)]; decide
theorem pa_13048 {C : Cd} {N : Nd} {A : Ad} {j : Int} : rd (mk C N A) 13048 j = N 13048 j := rd_mk_m (by decide) (fun h => absurd h.1 (by decide))
theorem pw_13048 {C : Cd} {N : Nd} {A : Ad} {j v : Int} : wr (mk C N A) 13048 j v = mk C (up N 13048 j v) A := wr_mk_m (by decide) (fun h => absurd h.1 (by decide))
theorem ln_13048 : ln 13048 = 36 := by decide
theorem pt_49 {C : Cd} {N : Nd} {A : Ad} : rd (mk C N A) 12000 49 = 13049 := by rw [rd_mk, if_pos (by decide), if_pos (by decide)]; decide
theorem pa_13049 {C : Cd} {N : Nd} {A : Ad} {j : Int} : rd (mk C N A) 13049 j = N 13049 j := rd_mk_m (by decide) (fun h => absurd h.1 (by decide))
theorem pw_13049 {C : Cd} {N : Nd} {A : Ad} {j v : Int} : wr (mk C N A) 13049 j v = mk C (up N 13049 j v) A := wr_mk_m (by decide) (fun h => absurd h.1 (by decide))
theorem ln_13049 : ln 13049 = 36 := by decide
theorem pt_50 {C : Cd} {N : Nd} {A : Ad} : rd (mk C N A) 12000 50 = 13050 := by rw [rd_mk, if_pos (by decide), if_pos (by decide)]; decide
theorem pa_13050 {C : Cd} {N : Nd} {A : Ad} {j : Int} : rd (mk C N A) 13050 j = N 13050 j := rd_mk_m (by decide) (fun h => absurd h.1 (by decide))
theorem pw_13050 {C : Cd} {N : Nd} {A : Ad} {j v : Int} : wr (mk C N A) 13050 j v = mk C (up N 13050 j v) A := wr_mk_m (by decide) (fun h => absurd h.1 (by decide))
theorem ln_13050 : ln 13050 = 36 := by decide
theorem pt_51 {C : Cd} {N : Nd} {A : Ad} : rd (mk C N A) 12000 51 = 13051 := by rw [rd_mk, if_pos (by decide), if_pos (by decide)]; decide
theorem pa_13051 {C : Cd} {N : Nd} {A : Ad} {j : Int} : rd (mk C N A) 13051 j = N 13051 j := rd_mk_m (by decide) (fun h => absurd h.1 (by decide))
theorem pw_13051 {C : Cd} {N : Nd} {A : Ad} {j v : Int} : wr (mk C N A) 13051 j v = mk C (up N 13051 j v) A := wr_mk_m (by decide) (fun h => absurd h.1 (by decide))
theorem ln_13051 : ln 13051 = 36 := by decide
theorem pt_52 {C : Cd} {N : Nd} {A : Ad} : rd (mk C N A) 12000 52 = 13052 := by rw [rd_mk, if_pos (by decide), if_pos (by decide)]; decide
theorem pa_13052 {C : Cd} {N : Nd} {A : Ad} {j : Int} : rd (mk C N A) 13052 j = N 13052 j := rd_mk_m (by decide) (fun h => absurd h.1 (by decide))
theorem pw_13052 {C : Cd} {N : Nd} {A : Ad} {j v : Int} : wr (mk C N A) 13052 j v = mk C (up N 13052 j v) A := wr_mk_m (by decide) (fun h => absurd h.1 (by decide))
theorem ln_13052 : ln 13052 = 324 := by decide
theorem pt_53 {C : Cd} {N : Nd} {A : Ad} : rd (mk C N A) 12000 53 = 13053 := by rw [rd_mk, if_pos (by decide), if_pos (by decide)]; decide
theorem pa_13053 {C : Cd} {N : Nd} {A : Ad} {j : Int} : rd (mk C N A) 13053 j = N 13053 j := rd_mk_m (by decide) (fun h => absurd h.1 (by decide))
theorem pw_13053 {C : Cd} {N : Nd} {A : Ad} {j v : Int} : wr (mk C N A) 13053 j v = mk C (up N 13053 j v) A := wr_mk_m (by decide) (fun h => absurd h.1 (by decide))
theorem ln_13053 : ln 13053 = 324 := by decide
theorem pt_54 {C : Cd} {N : Nd} {A : Ad} : rd (mk C N A) 12000 54 = 13054 := by rw [rd_mk, if_pos (by decide), if_pos (by decide)]; decide
theorem pa_13054 {C : Cd} {N : Nd} {A : Ad} {j : Int} : rd (mk C N A) 13054 j = N 13054 j := rd_mk_m (by decide) (fun h => absurd h.1 (by decide))
theorem pw_13054 {C : Cd} {N : Nd} {A : Ad} {j v : Int} : wr (mk C N A) 13054 j v = mk C (up N 13054 j v) A := wr_mk_m (by decide) (fun h => absurd h.1 (by decide))
theorem ln_13054 : ln 13054 = 324 := by decide
theorem pt_55 {C : Cd} {N : Nd} {A : Ad} : rd (mk C N A) 12000 55 = 13055 := by rw [rd_mk, if_pos (by decide), if_pos (by decide)]; decide
theorem pa_13055 {C : Cd} {N : Nd} {A : Ad} {j : Int} : rd (mk C N A) 13055 j = N 13055 j := rd_mk_m (by decide) (fun h => absurd h.1 (by decide))
theorem pw_13055 {C : Cd} {N : Nd} {A : Ad} {j v : Int} : wr (mk C N A) 13055 j v = mk C (up N 13055 j v) A := wr_mk_m (by decide) (fun h => absurd h.1 (by decide))
theorem ln_13055 : ln 13055 = 27 := by decide
theorem pt_56 {C : Cd} {N : Nd} {A : Ad} : rd (mk C N A) 12000 56 = 13056 := by rw [rd_mk, if_pos (by decide), if_pos (by decide)]; decide
theorem pa_13056 {C : Cd} {N : Nd} {A : Ad} {j : Int} : rd (mk C N A) 13056 j = N 13056 j := rd_mk_m (by decide) (fun h => absurd h.1 (by decide))
theorem pw_13056 {C : Cd} {N : Nd} {A : Ad} {j v : Int} : wr (mk C N A) 13056 j v = mk C (up N 13056 j v) A := wr_mk_m (by decide) (fun h => absurd h.1 (by decide))
theorem ln_13056 : ln 13056 = 27 := by decide
theorem pt_57 {C : Cd} {N : Nd} {A : Ad} : rd (mk C N A) 12000 57 = 13057 := by rw [rd_mk, if_pos (by decide), if_pos (by decide)]; decide
theorem pa_13057 {C : Cd} {N : Nd} {A : Ad} {j : Int} : rd (mk C N A) 13057 j = N 13057 j := rd_mk_m (by decide) (fun h => absurd h.1 (by decide))
theorem pw_13057 {C : Cd} {N : Nd} {A : Ad} {j v : Int} : wr (mk C N A) 13057 j v = mk C (up N 13057 j v) A := wr_mk_m (by decide) (fun h => absurd h.1 (by decide))
theorem ln_13057 : ln 13057 = 27 := by decide
theorem pt_58 {C : Cd} {N : Nd} {A : Ad} : rd (mk C N A) 12000 58 = 13058 := by rw [rd_mk, if_pos (by decide), if_pos (by decide)]; decide
theorem pa_13058 {C : Cd} {N : Nd} {A : Ad} {j : Int} : rd (mk C N A) 13058 j = N 13058 j := rd_mk_m (by decide) (fun h => absurd h.1 (by decide))
theorem pw_13058 {C : Cd} {N : Nd} {A : Ad} {j v : Int} : wr (mk C N A) 13058 j v = mk C (up N 13058 j v) A := wr_mk_m (by decide) (fun h => absurd h.1 (by decide))
theorem ln_13058 : ln 13058 = 27 := by decide
theorem pt_59 {C : Cd} {N : Nd} {A : Ad} : rd (mk C N A) 12000 59 = 13059 := by rw [rd_mk, if_pos (by decide), if_pos (by decide)]; decide
theorem pa_13059 {C : Cd} {N : Nd} {A : Ad} {j : Int} : rd (mk C N A) 13059 j = N 13059 j := rd_mk_m (by decide) (fun h => absurd h.1 (by decide))
theorem pw_13059 {C : Cd} {N : Nd} {A : Ad} {j v : Int} : wr (mk C N A) 13059 j v = mk C (up N 13059 j v) A := wr_mk_m (by decide) (fun h => absurd h.1 (by decide))
theorem ln_13059 : ln 13059 = 450 := by decide
theorem pt_60 {C : Cd} {N : Nd} {A : Ad} : rd (mk C N A) 12000 60 = 13060 := by rw [rd_mk, if_pos (by decide), if_pos (by decide)]; decide
theorem pa_13060 {C : Cd} {N : Nd} {A : Ad} {j : Int} : rd (mk C N A) 13060 j = N 13060 j := rd_mk_m (by decide) (fun h => absurd h.1 (by decide))
theorem pw_13060 {C : Cd} {N : Nd} {A : Ad} {j v : Int} : wr (mk C N A) 13060 j v = mk C (up N 13060 j v) A := wr_mk_m (by decide) (fun h => absurd h.1 (by decide))
theorem ln_13060 : ln 13060 = 450 := by decide
theorem pt_61 {C : Cd} {N : Nd} {A : Ad} : rd (mk C N A) 12000 61 = 13061 := by rw [rd_mk, if_pos (by decide), if_pos (by decide)]; decide
theorem pa_13061 {C : Cd} {N : Nd} {A : Ad} {j : Int} : rd (mk C N A) 13061 j = N 13061 j := rd_mk_m (by decide) (fun h => absurd h.1 (by decide))
theorem pw_13061 {C : Cd} {N : Nd} {A : Ad} {j v : Int} : wr (mk C N A) 13061 j v = mk C (up N 13061 j v) A := wr_mk_m (by decide) (fun h => absurd h.1 (by decide))
theorem ln_13061 : ln 13061 = 450 := by decide
theorem pt_62 {C : Cd} {N : Nd} {A : Ad} : rd (mk C N A) 12000 62 = 13062 := by rw [rd_mk, if_pos (by decide), if_pos (by decide)]; decide
theorem pa_13062 {C : Cd} {N : Nd} {A : Ad} {j : Int} : rd (mk C N A) 13062 j = N 13062 j := rd_mk_m (by decide) (fun h => absurd h.1 (by decide))
theorem pw_13062 {C : Cd} {N : Nd} {A : Ad} {j v : Int} : wr (mk C N A) 13062 j v = mk C (up N 13062 j v) A := wr_mk_m (by decide) (fun h => absurd h.1 (by decide))
theorem ln_13062 : ln 13062 = 450 := by decide
theorem pt_63 {C : Cd} {N : Nd} {A : Ad} : rd (mk C N A) 12000 63 = 13063 := by rw [rd_mk, if_pos (by decide), if_pos (by decide)]; decide
theorem pa_13063 {C : Cd} {N : Nd} {A : Ad} {j : Int} : rd (mk C N A) 13063 j = N 13063 j := rd_mk_m (by decide) (fun h => absurd h.1 (by decide))
theorem pw_13063 {C : Cd} {N : Nd} {A : Ad} {j v : Int} : wr (mk C N A) 13063 j v = mk C (up N 13063 j v) A := wr_mk_m (by decide) (fun h => absurd h.1 (by decide))
theorem ln_13063 : ln 13063 = 450 := by decide
theorem pt_64 {C : Cd} {N : Nd} {A : Ad} : rd (mk C N A) 12000 64 = 13064 := by rw [rd_mk, if_pos (by decide), if_pos (by decide)]; decide
theorem pa_13064 {C : Cd} {N : Nd} {A : Ad} {j : Int} : rd (mk C N A) 13064 j = N 13064 j := rd_mk_m (by decide) (fun h => absurd h.1 (by decide))
theorem pw_13064 {C : Cd} {N : Nd} {A : Ad} {j v : Int} : wr (mk C N A) 13064 j v = mk C (up N 13064 j v) A := wr_mk_m (by decide) (fun h => absurd h.1 (by decide))
theorem ln_13064 : ln 13064 = 450 := by decide
theorem pt_65 {C : Cd} {N : Nd} {A : Ad} : rd (mk C N A) 12000 65 = 13065 := by rw [rd_mk, if_pos (by decide), if_pos (by decide)]; decide
theorem pa_13065 {C : Cd} {N : Nd} {A : Ad} {j : Int} : rd (mk C N A) 13065 j = N 13065 j := rd_mk_m (by decide) (fun h => absurd h.1 (by decide))
theorem pw_13065 {C : Cd} {N : Nd} {A : Ad} {j v : Int} : wr (mk C N A) 13065 j v = mk C (up N 13065 j v) A := wr_mk_m (by decide) (fun h => absurd h.1 (by decide))
theorem ln_13065 : ln 13065 = 12 := by decide
theorem pt_66 {C : Cd} {N : Nd} {A : Ad} : rd (mk C N A) 12000 66 = 13066 := by rw [rd_mk, if_pos (by decide), if_pos (by decide)]; decide
theorem pa_13066 {C : Cd} {N : Nd} {A : Ad} {j : Int} : rd (mk C N A) 13066 j = N 13066 j := rd_mk_m (by decide) (fun h => absurd h.1 (by decide))
theorem pw_13066 {C : Cd} {N : Nd} {A : Ad} {j v : Int} : wr (mk C N A) 13066 j v = mk C (up N 13066 j v) A := wr_mk_m (by decide) (fun h => absurd h.1 (by decide))
theorem ln_13066 : ln 13066 = 12 := by decide
theorem pt_67 {C : Cd} {N : Nd} {A : Ad} : rd (mk C N A) 12000 67 = 13067 := by rw [rd_mk, if_pos (by decide), if_pos (by decide)]; decide
theorem pa_13067 {C : Cd} {N : Nd} {A : Ad} {j : Int} : rd (mk C N A) 13067 j = N 13067 j := rd_mk_m (by decide) (fun h => absurd h.1 (by decide))
theorem pw_13067 {C : Cd} {N : Nd} {A : Ad} {j v : Int} : wr (mk C N A) 13067 j v = mk C (up N 13067 j v) A := wr_mk_m (by decide) (fun h => absurd h.1 (by decide))
theorem ln_13067 : ln 13067 = 9 := by decide
theorem bs_1000 {i : Int} (h1 : 0 ≤ i) (h2 : i < 3) : bs (1000 + i) = 1000 ∧ mid (1000 + i) = false ∧ kd (1000 + i) = 1 := by
  refine ⟨?_, ?_, ?_⟩
  · exact ((bsl_g (by omega)).trans (bsl_s (by omega)))
  · simp [mid]; omega
  · unfold kd; omega
theorem cr_1000 {C : Cd} {N : Nd} {A : Ad} {i j : Int} (h1 : 0 ≤ i) (h2 : i < 3) : rd (mk C N A) (1000 + i) j = C 1000 i j := rd_mk_c (bs_1000 h1 h2).2.1 (bs_1000 h1 h2).1 rfl
theorem cw_1000 {C : Cd} {N : Nd} {A : Ad} {i j v : Int} (h1 : 0 ≤ i) (h2 : i < 3) : wr (mk C N A) (1000 + i) j v = mk (uq C 1000 i j v) N A := wr_mk_c (bs_1000 h1 h2).2.1 (bs_1000 h1 h2).1 rfl
theorem al_1000 {C : Cd} {N : Nd} {A : Ad} {i : Int} {n : Nat} (h1 : 0 ≤ i) (h2 : i < 3) (h0 : A.1 (1000 + i) = 0) : alo (mk C N A) 1 (1000 + i) n = some (mk (zq C 1000 i) N (alA A (1000 + i) n)) := alo_mk h0 (bs_1000 h1 h2).2.2 (bs_1000 h1 h2).2.1 (bs_1000 h1 h2).1 rfl
theorem bs_2000 {i : Int} (h1 : 0 ≤ i) (h2 : i < 450) : bs (2000 + i) = 2000 ∧ mid (2000 + i) = false ∧ kd (2000 + i) = 2 := by
  refine ⟨?_, ?_, ?_⟩
  · exact ((bsl_g (by omega)).trans ((bsl_g (by omega)).trans (bsl_s (by omega))))
  · simp [mid]; omega
  · unfold kd; omega
theorem cr_2000 {C : Cd} {N : Nd} {A : Ad} {i j : Int} (h1 : 0 ≤ i) (h2 : i < 450) : rd (mk C N A) (2000 + i) j = C 2000 i j := rd_mk_c (bs_2000 h1 h2).2.1 (bs_2000 h1 h2).1 rfl
theorem cw_2000 {C : Cd} {N : Nd} {A : Ad} {i j v : Int} (h1 : 0 ≤ i) (h2 : i < 450) : wr (mk C N A) (2000 + i) j v = mk (uq C 2000 i j v) N A := wr_mk_c (bs_2000 h1 h2).2.1 (bs_2000 h1 h2).1 rfl
theorem al_2000 {C : Cd} {N : Nd} {A : Ad} {i : Int} {n : Nat} (h1 : 0 ≤ i) (h2 : i < 450) (h0 : A.1 (2000 + i) = 0) : alo (mk C N A) 2 (2000 + i) n = some (mk (zq C 2000 i) N (alA A (2000 + i) n)) := alo_mk h0 (bs_2000 h1 h2).2.2 (bs_2000 h1 h2).2.1 (bs_2000 h1 h2).1 rfl
theorem bs_3000 {i : Int} (h1 : 0 ≤ i) (h2 : i < 3) : bs (3000 + i) = 3000 ∧ mid (3000 + i) = false ∧ kd (3000 + i) = 3 := by
  refine ⟨?_, ?_, ?_⟩
  · exact ((bsl_g (by omega)).trans ((bsl_g (by omega)).trans ((bsl_g (by omega)).trans (bsl_s (by omega)))))
  · simp [mid]; omega
  · unfold kd; omega
theorem cr_3000 {C : Cd} {N : Nd} {A : Ad} {i j : Int} (h1 : 0 ≤ i) (h2 : i < 3) : rd (mk C N A) (3000 + i) j = C 3000 i j := rd_mk_c (bs_3000 h1 h2).2.1 (bs_3000 h1 h2).1 rfl
theorem cw_3000 {C : Cd} {N : Nd} {A : Ad} {i j v : Int} (h1 : 0 ≤ i) (h2 : i < 3) : wr (mk C N A) (3000 + i) j v = mk (uq C 3000 i j v) N A := wr_mk_c (bs_3000 h1 h2).2.1 (bs_3000 h1 h2).1 rfl
theorem al_3000 {C : Cd} {N : Nd} {A : Ad} {i : Int} {n : Nat} (h1 : 0 ≤ i) (h2 : i < 3) (h0 : A.1 (3000 + i) = 0) : alo (mk C N A) 3 (3000 + i) n = some (mk (zq C 3000 i) N (alA A (3000 + i) n)) := alo_mk h0 (bs_3000 h1 h2).2.2 (bs_3000 h1 h2).2.1 (bs_3000 h1 h2).1 rfl
theorem bs_3003 {i : Int} (h1 : 0 ≤ i) (h2 : i < 3) : bs (3003 + i) = 3003 ∧ mid (3003 + i) = false ∧ kd (3003 + i) = 3 := by
  refine ⟨?_, ?_, ?_⟩
  · exact ((bsl_g (by omega)).trans ((bsl_g (by omega)).trans ((bsl_g (by omega)).trans ((bsl_g (by omega)).trans (bsl_s (by omega))))))
  · simp [mid]; omega
  · unfold kd; omega
theorem cr_3003 {C : Cd} {N : Nd} {A : Ad} {i j : Int} (h1 : 0 ≤ i) (h2 : i < 3) : rd (mk C N A) (3003 + i) j = C 3003 i j := rd_mk_c (bs_3003 h1 h2).2.1 (bs_3003 h1 h2).1 rfl
theorem cw_3003 {C : Cd} {N : Nd} {A : Ad} {i j v : Int} (h1 : 0 ≤ i) (h2 : i < 3) : wr (mk C N A) (3003 + i) j v = mk (uq C 3003 i j v) N A := wr_mk_c (bs_3003 h1 h2).2.1 (bs_3003 h1 h2).1 rfl
theorem al_3003 {C : Cd} {N : Nd} {A : Ad} {i : Int} {n : Nat} (h1 : 0 ≤ i) (h2 : i < 3) (h0 : A.1 (3003 + i) = 0) : alo (mk C N A) 3 (3003 + i) n = some (mk (zq C 3003 i) N (alA A (3003 + i) n)) := alo_mk h0 (bs_3003 h1 h2).2.2 (bs_3003 h1 h2).2.1 (bs_3003 h1 h2).1 rfl
theorem bs_3006 {i : Int} (h1 : 0 ≤ i) (h2 : i < 36) : bs (3006 + i) = 3006 ∧ mid (3006 + i) = false ∧ kd (3006 + i) = 3 := by
  refine ⟨?_, ?_, ?_⟩
  · exact ((bsl_g (by omega)).trans ((bsl_g (by omega)).trans ((bsl_g (by omega)).trans ((bsl_g (by omega)).trans ((bsl_g (by omega)).trans (bsl_s (by omega)))))))
  · simp [mid]; omega
  · unfold kd; omega
theorem cr_3006 {C : Cd} {N : Nd} {A : Ad} {i j : Int} (h1 : 0 ≤ i) (h2 : i < 36) : rd (mk C N A) (3006 + i) j = C 3006 i j := rd_mk_c (bs_3006 h1 h2).2.1 (bs_3006 h1 h2).1 rfl
theorem cw_3006 {C : Cd} {N : Nd} {A : Ad} {i j v : Int} (h1 : 0 ≤ i) (h2 : i < 36) : wr (mk C N A) (3006 + i) j v = mk (uq C 3006 i j v) N A := wr_mk_c (bs_3006 h1 h2).2.1 (bs_3006 h1 h2).1 rfl
theorem al_3006 {C : Cd} {N : Nd} {A : Ad} {i : Int} {n : Nat} (h1 : 0 ≤ i) (h2 : i < 36) (h0 : A.1 (3006 + i) = 0) : alo (mk C N A) 3 (3006 + i) n = some (mk (zq C 3006 i) N (alA A (3006 + i) n)) := alo_mk h0 (bs_3006 h1 h2).2.2 (bs_3006 h1 h2).2.1 (bs_3006 h1 h2).1 rfl
theorem bs_4000 {i : Int} (h1 : 0 ≤ i) (h2 : i < 36) : bs (4000 + i) = 4000 ∧ mid (4000 + i) = false ∧ kd (4000 + i) = 4 := by
  refine ⟨?_, ?_, ?_⟩
  · exact ((bsl_g (by omega)).trans ((bsl_g (by omega)).trans ((bsl_g (by omega)).trans ((bsl_g (by omega)).trans ((bsl_g (by omega)).trans ((bsl_g (by omega)).trans (bsl_s (by omega))))))))
  · simp [mid]; omega
  · unfold kd; omega
theorem cr_4000 {C : Cd} {N : Nd} {A : Ad} {i j : Int} (h1 : 0 ≤ i) (h2 : i < 36) : rd (mk C N A) (4000 + i) j = C 4000 i j := rd_mk_c (bs_4000 h1 h2).2.1 (bs_4000 h1 h2).1 rfl
theorem cw_4000 {C : Cd} {N : Nd} {A : Ad} {i j v : Int} (h1 : 0 ≤ i) (h2 : i < 36) : wr (mk C N A) (4000 + i) j v = mk (uq C 4000 i j v) N A := wr_mk_c (bs_4000 h1 h2).2.1 (bs_4000 h1 h2).1 rfl
theorem al_4000 {C : Cd} {N : Nd} {A : Ad} {i : Int} {n : Nat} (h1 : 0 ≤ i) (h2 : i < 36) (h0 : A.1 (4000 + i) = 0) : alo (mk C N A) 4 (4000 + i) n = some (mk (zq C 4000 i) N (alA A (4000 + i) n)) := alo_mk h0 (bs_4000 h1 h2).2.2 (bs_4000 h1 h2).2.1 (bs_4000 h1 h2).1 rfl
theorem bs_5000 {i : Int} (h1 : 0 ≤ i) (h2 : i < 150) : bs (5000 + i) = 5000 ∧ mid (5000 + i) = false ∧ kd (5000 + i) = 5 := by
  refine ⟨?_, ?_, ?_⟩
  · exact ((bsl_g (by omega)).trans ((bsl_g (by omega)).trans ((bsl_g (by omega)).trans ((bsl_g (by omega)).trans ((bsl_g (by omega)).trans ((bsl_g (by omega)).trans ((bsl_g (by omega)).trans (bsl_s (by omega)))))))))
  · simp [mid]; omega
  · unfold kd; omega
theorem cr_5000 {C : Cd} {N : Nd} {A : Ad} {i j : Int} (h1 : 0 ≤ i) (h2 : i < 150) : rd (mk C N A) (5000 + i) j = C 5000 i j := rd_mk_c (bs_5000 h1 h2).2.1 (bs_5000 h1 h2).1 rfl
theorem cw_5000 {C : Cd} {N : Nd} {A : Ad} {i j v : Int} (h1 : 0 ≤ i) (h2 : i < 150) : wr (mk C N A) (5000 + i) j v = mk (uq C 5000 i j v) N A := wr_mk_c (bs_5000 h1 h2).2.1 (bs_5000 h1 h2).1 rfl
theorem al_5000 {C : Cd} {N : Nd} {A : Ad} {i : Int} {n : Nat} (h1 : 0 ≤ i) (h2 : i < 150) (h0 : A.1 (5000 + i) = 0) : alo (mk C N A) 5 (5000 + i) n = some (mk (zq C 5000 i) N (alA A (5000 + i) n)) := alo_mk h0 (bs_5000 h1 h2).2.2 (bs_5000 h1 h2).2.1 (bs_5000 h1 h2).1 rfl
theorem bs_6000 {i : Int} (h1 : 0 ≤ i) (h2 : i < 9) : bs (6000 + i) = 6000 ∧ mid (6000 + i) = false ∧ kd (6000 + i) = 6 := by
  refine ⟨?_, ?_, ?_⟩
  · exact ((bsl_g (by omega)).trans ((bsl_g (by omega)).trans ((bsl_g (by omega)).trans ((bsl_g (by omega)).trans ((bsl_g (by omega)).trans ((bsl_g (by omega)).trans ((bsl_g (by omega)).trans ((bsl_g (by omega)).trans (bsl_s (by omega))))))))))
  · simp [mid]; omega
  · unfold kd; omega
theorem cr_6000 {C : Cd} {N : Nd} {A : Ad} {i j : Int} (h1 : 0 ≤ i) (h2 : i < 9) : rd (mk C N A) (6000 + i) j = C 6000 i j := rd_mk_c (bs_6000 h1 h2).2.1 (bs_6000 h1 h2).1 rfl
theorem cw_6000 {C : Cd} {N : Nd} {A : Ad} {i j v : Int} (h1 : 0 ≤ i) (h2 : i < 9) : wr (mk C N A) (6000 + i) j v = mk (uq C 6000 i j v) N A := wr_mk_c (bs_6000 h1 h2).2.1 (bs_6000 h1 h2).1 rfl
theorem al_6000 {C : Cd} {N : Nd} {A : Ad} {i : Int} {n : Nat} (h1 : 0 ≤ i) (h2 : i < 9) (h0 : A.1 (6000 + i) = 0) : alo (mk C N A) 6 (6000 + i) n = some (mk (zq C 6000 i) N (alA A (6000 + i) n)) := alo_mk h0 (bs_6000 h1 h2).2.2 (bs_6000 h1 h2).2.1 (bs_6000 h1 h2).1 rfl
theorem bs_7000 {i : Int} (h1 : 0 ≤ i) (h2 : i < 4) : bs (7000 + i) = 7000 ∧ mid (7000 + i) = false ∧ kd (7000 + i) = 7 := by
  refine ⟨?_, ?_, ?_⟩
  · exact ((bsl_g (by omega)).trans ((bsl_g (by omega)).trans ((bsl_g (by omega)).trans ((bsl_g (by omega)).trans ((bsl_g (by omega)).trans ((bsl_g (by omega)).trans ((bsl_g (by omega)).trans ((bsl_g (by omega)).trans ((bsl_g (by omega)).trans (bsl_s (by omega)))))))))))
  · simp [mid]; omega
  · unfold kd; omega
theorem cr_7000 {C : Cd} {N : Nd} {A : Ad} {i j : Int} (h1 : 0 ≤ i) (h2 : i < 4) : rd (mk C N A) (7000 + i) j = C 7000 i j := rd_mk_c (bs_7000 h1 h2).2.1 (bs_7000 h1 h2).1 rfl
theorem cw_7000 {C : Cd} {N : Nd} {A : Ad} {i j v : Int} (h1 : 0 ≤ i) (h2 : i < 4) : wr (mk C N A) (7000 + i) j v = mk (uq C 7000 i j v) N A := wr_mk_c (bs_7000 h1 h2).2.1 (bs_7000 h1 h2).1 rfl
theorem al_7000 {C : Cd} {N : Nd} {A : Ad} {i : Int} {n : Nat} (h1 : 0 ≤ i) (h2 : i < 4) (h0 : A.1 (7000 + i) = 0) : alo (mk C N A) 7 (7000 + i) n = some (mk (zq C 7000 i) N (alA A (7000 + i) n)) := alo_mk h0 (bs_7000 h1 h2).2.2 (bs_7000 h1 h2).2.1 (bs_7000 h1 h2).1 rfl
theorem bs_8000 {i : Int} (h1 : 0 ≤ i) (h2 : i < 27) : bs (8000 + i) = 8000 ∧ mid (8000 + i) = false ∧ kd (8000 + i) = 8 := by
  refine ⟨?_, ?_, ?_⟩
  · exact ((bsl_g (by omega)).trans ((bsl_g (by omega)).trans ((bsl_g (by omega)).trans ((bsl_g (by omega)).trans ((bsl_g (by omega)).trans ((bsl_g (by omega)).trans ((bsl_g (by omega)).trans ((bsl_g (by omega)).trans ((bsl_g (by omega)).trans ((bsl_g (by omega)).trans (bsl_s (by omega))))))))))))
  · simp [mid]; omega
  · unfold kd; omega
theorem cr_8000 {C : Cd} {N : Nd} {A : Ad} {i j : Int} (h1 : 0 ≤ i) (h2 : i < 27) : rd (mk C N A) (8000 + i) j = C 8000 i j := rd_mk_c (bs_8000 h1 h2).2.1 (bs_8000 h1 h2).1 rfl
theorem cw_8000 {C : Cd} {N : Nd} {A : Ad} {i j v : Int} (h1 : 0 ≤ i) (h2 : i < 27) : wr (mk C N A) (8000 + i) j v = mk (uq C 8000 i j v) N A := wr_mk_c (bs_8000 h1 h2).2.1 (bs_8000 h1 h2).1 rfl
theorem al_8000 {C : Cd} {N : Nd} {A : Ad} {i : Int} {n : Nat} (h1 : 0 ≤ i) (h2 : i < 27) (h0 : A.1 (8000 + i) = 0) : alo (mk C N A) 8 (8000 + i) n = some (mk (zq C 8000 i) N (alA A (8000 + i) n)) := alo_mk h0 (bs_8000 h1 h2).2.2 (bs_8000 h1 h2).2.1 (bs_8000 h1 h2).1 rfl
theorem bs_9000 {i : Int} (h1 : 0 ≤ i) (h2 : i < 27) : bs (9000 + i) = 9000 ∧ mid (9000 + i) = false ∧ kd (9000 + i) = 9 := by
  refine ⟨?_, ?_, ?_⟩
  · exact ((bsl_g (by omega)).trans ((bsl_g (by omega)).trans ((bsl_g (by omega)).trans ((bsl_g (by omega)).trans ((bsl_g (by omega)).trans ((bsl_g (by omega)).trans ((bsl_g (by omega)).trans ((bsl_g (by omega)).trans ((bsl_g (by omega)).trans ((bsl_g (by omega)).trans ((bsl_g (by omega)).trans (bsl_s (by omega)))))))))))))
  · simp [mid]; omega
  · unfold kd; omega
theorem cr_9000 {C : Cd} {N : Nd} {A : Ad} {i j : Int} (h1 : 0 ≤ i) (h2 : i < 27) : rd (mk C N A) (9000 + i) j = C 9000 i j := rd_mk_c (bs_9000 h1 h2).2.1 (bs_9000 h1 h2).1 rfl
theorem cw_9000 {C : Cd} {N : Nd} {A : Ad} {i j v : Int} (h1 : 0 ≤ i) (h2 : i < 27) : wr (mk C N A) (9000 + i) j v = mk (uq C 9000 i j v) N A := wr_mk_c (bs_9000 h1 h2).2.1 (bs_9000 h1 h2).1 rfl
theorem al_9000 {C : Cd} {N : Nd} {A : Ad} {i : Int} {n : Nat} (h1 : 0 ≤ i) (h2 : i < 27) (h0 : A.1 (9000 + i) = 0) : alo (mk C N A) 9 (9000 + i) n = some (mk (zq C 9000 i) N (alA A (9000 + i) n)) := alo_mk h0 (bs_9000 h1 h2).2.2 (bs_9000 h1 h2).2.1 (bs_9000 h1 h2).1 rfl
theorem bs_10000 {i : Int} (h1 : 0 ≤ i) (h2 : i < 3) : bs (10000 + i) = 10000 ∧ mid (10000 + i) = false ∧ kd (10000 + i) = 10 := by
  refine ⟨?_, ?_, ?_⟩
  · exact ((bsl_g (by omega)).trans ((bsl_g (by omega)).trans ((bsl_g (by omega)).trans ((bsl_g (by omega)).trans ((bsl_g (by omega)).trans ((bsl_g (by omega)).trans ((bsl_g (by omega)).trans ((bsl_g (by omega)).trans ((bsl_g (by omega)).trans ((bsl_g (by omega)).trans ((bsl_g (by omega)).trans ((bsl_g (by omega)).trans (bsl_s (by omega))))))))))))))
  · simp [mid]; omega
  · unfold kd; omega
theorem cr_10000 {C : Cd} {N : Nd} {A : Ad} {i j : Int} (h1 : 0 ≤ i) (h2 : i < 3) : rd (mk C N A) (10000 + i) j = C 10000 i j := rd_mk_c (bs_10000 h1 h2).2.1 (bs_10000 h1 h2).1 rfl
theorem cw_10000 {C : Cd} {N : Nd} {A : Ad} {i j v : Int} (h1 : 0 ≤ i) (h2 : i < 3) : wr (mk C N A) (10000 + i) j v = mk (uq C 10000 i j v) N A := wr_mk_c (bs_10000 h1 h2).2.1 (bs_10000 h1 h2).1 rfl
theorem al_10000 {C : Cd} {N : Nd} {A : Ad} {i : Int} {n : Nat} (h1 : 0 ≤ i) (h2 : i < 3) (h0 : A.1 (10000 + i) = 0) : alo (mk C N A) 10 (10000 + i) n = some (mk (zq C 10000 i) N (alA A (10000 + i) n)) := alo_mk h0 (bs_10000 h1 h2).2.2 (bs_10000 h1 h2).2.1 (bs_10000 h1 h2).1 rfl
theorem cr_11000 {C : Cd} {N : Nd} {A : Ad} {j : Int} : rd (mk C N A) 11000 j = C 11000 0 j := rd_mk_c (by decide) (by decide) (by decide)
theorem cw_11000 {C : Cd} {N : Nd} {A : Ad} {j v : Int} : wr (mk C N A) 11000 j v = mk (uq C 11000 0 j v) N A := wr_mk_c (by decide) (by decide) (by decide)
theorem bs_13500 {i : Int} (h1 : 0 ≤ i) (h2 : i < 4) : bs (13500 + i) = 13500 ∧ mid (13500 + i) = false ∧ kd (13500 + i) = 13 := by
  refine ⟨?_, ?_, ?_⟩
  · exact ((bsl_g (by omega)).trans ((bsl_g (by omega)).trans ((bsl_g (by omega)).trans ((bsl_g (by omega)).trans ((bsl_g (by omega)).trans ((bsl_g (by omega)).trans ((bsl_g (by omega)).trans ((bsl_g (by omega)).trans ((bsl_g (by omega)).trans ((bsl_g (by omega)).trans ((bsl_g (by omega)).trans ((bsl_g (by omega)).trans ((bsl_g (by omega)).trans ((bsl_g (by omega)).trans (bsl_s (by omega))))))))))))))))
  · simp [mid]; omega
  · unfold kd; omega
theorem cr_13500 {C : Cd} {N : Nd} {A : Ad} {i j : Int} (h1 : 0 ≤ i) (h2 : i < 4) : rd (mk C N A) (13500 + i) j = C 13500 i j := rd_mk_c (bs_13500 h1 h2).2.1 (bs_13500 h1 h2).1 rfl
theorem cw_13500 {C : Cd} {N : Nd} {A : Ad} {i j v : Int} (h1 : 0 ≤ i) (h2 : i < 4) : wr (mk C N A) (13500 + i) j v = mk (uq C 13500 i j v) N A := wr_mk_c (bs_13500 h1 h2).2.1 (bs_13500 h1 h2).1 rfl
theorem lc_13500 {i : Int} (h1 : 0 ≤ i) (h2 : i < 4) : ln (13500 + i) = 9 := by
  unfold ln
  simp (disch := omega) only [if_neg, if_pos]
theorem al_13500 {C : Cd} {N : Nd} {A : Ad} {i : Int} (h1 : 0 ≤ i) (h2 : i < 4) (h0 : A.1 (13500 + i) = 0) : ala (mk C N A) 13 (13500 + i) 9 = some (mk (zq C 13500 i) N (alA A (13500 + i) 9)) := ala_mk h0 (bs_13500 h1 h2).2.2 (lc_13500 h1 h2) (bs_13500 h1 h2).2.1 (bs_13500 h1 h2).1 rfl
theorem cr_15000 {C : Cd} {N : Nd} {A : Ad} {j : Int} : rd (mk C N A) 15000 j = C 15000 0 j := rd_mk_c (by decide) (by decide) (by decide)
theorem cw_15000 {C : Cd} {N : Nd} {A : Ad} {j v : Int} : wr (mk C N A) 15000 j v = mk (uq C 15000 0 j v) N A := wr_mk_c (by decide) (by decide) (by decide)
theorem lc_15000 : ln 15000 = 1 := by decide
theorem cr_16000 {C : Cd} {N : Nd} {A : Ad} {j : Int} : rd (mk C N A) 16000 j = C 16000 0 j := rd_mk_c (by decide) (by decide) (by decide)
theorem cw_16000 {C : Cd} {N : Nd} {A : Ad} {j v : Int} : wr (mk C N A) 16000 j v = mk (uq C 16000 0 j v) N A := wr_mk_c (by decide) (by decide) (by decide)
theorem lc_16000 : ln 16000 = 3 := by decide
theorem bs_17000 {i : Int} (h1 : 0 ≤ i) (h2 : i < 3) : bs (17000 + i) = 17000 ∧ mid (17000 + i) = false ∧ kd (17000 + i) = 17 := by
  refine ⟨?_, ?_, ?_⟩
  · exact ((bsl_g (by omega)).trans ((bsl_g (by omega)).trans ((bsl_g (by omega)).trans ((bsl_g (by omega)).trans ((bsl_g (by omega)).trans ((bsl_g (by omega)).trans ((bsl_g (by omega)).trans ((bsl_g (by omega)).trans ((bsl_g (by omega)).trans ((bsl_g (by omega)).trans ((bsl_g (by omega)).trans ((bsl_g (by omega)).trans ((bsl_g (by omega)).trans ((bsl_g (by omega)).trans ((bsl_g (by omega)).trans ((bsl_g (by omega)).trans ((bsl_g (by omega)).trans (bsl_s (by omega)))))))))))))))))))
  · simp [mid]; omega
  · unfold kd; omega
theorem cr_17000 {C : Cd} {N : Nd} {A : Ad} {i j : Int} (h1 : 0 ≤ i) (h2 : i < 3) : rd (mk C N A) (17000 + i) j = C 17000 i j := rd_mk_c (bs_17000 h1 h2).2.1 (bs_17000 h1 h2).1 rfl
theorem cw_17000 {C : Cd} {N : Nd} {A : Ad} {i j v : Int} (h1 : 0 ≤ i) (h2 : i < 3) : wr (mk C N A) (17000 + i) j v = mk (uq C 17000 i j v) N A := wr_mk_c (bs_17000 h1 h2).2.1 (bs_17000 h1 h2).1 rfl
theorem lc_17000 {i : Int} (h1 : 0 ≤ i) (h2 : i < 3) : ln (17000 + i) = 150 := by
  unfold ln
  simp (disch := omega) only [if_neg, if_pos]
theorem al_17000 {C : Cd} {N : Nd} {A : Ad} {i : Int} (h1 : 0 ≤ i) (h2 : i < 3) (h0 : A.1 (17000 + i) = 0) : ala (mk C N A) 17 (17000 + i) 150 = some (mk (zq C 17000 i) N (alA A (17000 + i) 150)) := ala_mk h0 (bs_17000 h1 h2).2.2 (lc_17000 h1 h2) (bs_17000 h1 h2).2.1 (bs_17000 h1 h2).1 rfl
theorem bs_17100 {i : Int} (h1 : 0 ≤ i) (h2 : i < 3) : bs (17100 + i) = 17100 ∧ mid (17100 + i) = false ∧ kd (17100 + i) = 17 := by
  refine ⟨?_, ?_, ?_⟩
  · exact ((bsl_g (by omega)).trans ((bsl_g (by omega)).trans ((bsl_g (by omega)).trans ((bsl_g (by omega)).trans ((bsl_g (by omega)).trans ((bsl_g (by omega)).trans ((bsl_g (by omega)).trans ((bsl_g (by omega)).trans ((bsl_g (by omega)).trans ((bsl_g (by omega)).trans ((bsl_g (by omega)).trans ((bsl_g (by omega)).trans ((bsl_g (by omega)).trans ((bsl_g (by omega)).trans ((bsl_g (by omega)).trans ((bsl_g (by omega)).trans ((bsl_g (by omega)).trans ((bsl_g (by omega)).trans (bsl_s (by omega))))))))))))))))))))
  · simp [mid]; omega
  · unfold kd; omega
theorem cr_17100 {C : Cd} {N : Nd} {A : Ad} {i j : Int} (h1 : 0 ≤ i) (h2 : i < 3) : rd (mk C N A) (17100 + i) j = C 17100 i j := rd_mk_c (bs_17100 h1 h2).2.1 (bs_17100 h1 h2).1 rfl
theorem cw_17100 {C : Cd} {N : Nd} {A : Ad} {i j v : Int} (h1 : 0 ≤ i) (h2 : i < 3) : wr (mk C N A) (17100 + i) j v = mk (uq C 17100 i j v) N A := wr_mk_c (bs_17100 h1 h2).2.1 (bs_17100 h1 h2).1 rfl
theorem lc_17100 {i : Int} (h1 : 0 ≤ i) (h2 : i < 3) : ln (17100 + i) = 150 := by
  unfold ln
  simp (disch := omega) only [if_neg, if_pos]
theorem al_17100 {C : Cd} {N : Nd} {A : Ad} {i : Int} (h1 : 0 ≤ i) (h2 : i < 3) (h0 : A.1 (17100 + i) = 0) : ala (mk C N A) 17 (17100 + i) 150 = some (mk (zq C 17100 i) N (alA A (17100 + i) 150)) := ala_mk h0 (bs_17100 h1 h2).2.2 (lc_17100 h1 h2) (bs_17100 h1 h2).2.1 (bs_17100 h1 h2).1 rfl
theorem bs_17103 {i : Int} (h1 : 0 ≤ i) (h2 : i < 3) : bs (17103 + i) = 17103 ∧ mid (17103 + i) = false ∧ kd (17103 + i) = 17 := by
  refine ⟨?_, ?_, ?_⟩
  · exact ((bsl_g (by omega)).trans ((bsl_g (by omega)).trans ((bsl_g (by omega)).trans ((bsl_g (by omega)).trans ((bsl_g (by omega)).trans ((bsl_g (by omega)).trans ((bsl_g (by omega)).trans ((bsl_g (by omega)).trans ((bsl_g (by omega)).trans ((bsl_g (by omega)).trans ((bsl_g (by omega)).trans ((bsl_g (by omega)).trans ((bsl_g (by omega)).trans ((bsl_g (by omega)).trans ((bsl_g (by omega)).trans ((bsl_g (by omega)).trans ((bsl_g (by omega)).trans ((bsl_g (by omega)).trans ((bsl_g (by omega)).trans (bsl_s (by omega)))))))))))))))))))))
  · simp [mid]; omega
  · unfold kd; omega
theorem cr_17103 {C : Cd} {N : Nd} {A : Ad} {i j : Int} (h1 : 0 ≤ i) (h2 : i < 3) : rd (mk C N A) (17103 + i) j = C 17103 i j := rd_mk_c (bs_17103 h1 h2).2.1 (bs_17103 h1 h2).1 rfl
theorem cw_17103 {C : Cd} {N : Nd} {A : Ad} {i j v : Int} (h1 : 0 ≤ i) (h2 : i < 3) : wr (mk C N A) (17103 + i) j v = mk (uq C 17103 i j v) N A := wr_mk_c (bs_17103 h1 h2).2.1 (bs_17103 h1 h2).1 rfl
theorem lc_17103 {i : Int} (h1 : 0 ≤ i) (h2 : i < 3) : ln (17103 + i) = 150 := by
  unfold ln
  simp (disch := omega) only [if_neg, if_pos]
theorem al_17103 {C : Cd} {N : Nd} {A : Ad} {i : Int} (h1 : 0 ≤ i) (h2 : i < 3) (h0 : A.1 (17103 + i) = 0) : ala (mk C N A) 17 (17103 + i) 150 = some (mk (zq C 17103 i) N (alA A (17103 + i) 150)) := ala_mk h0 (bs_17103 h1 h2).2.2 (lc_17103 h1 h2) (bs_17103 h1 h2).2.1 (bs_17103 h1 h2).1 rfl
theorem bs_17106 {i : Int} (h1 : 0 ≤ i) (h2 : i < 36) : bs (17106 + i) = 17106 ∧ mid (17106 + i) = false ∧ kd (17106 + i) = 17 := by
  refine ⟨?_, ?_, ?_⟩
  · exact ((bsl_g (by omega)).trans ((bsl_g (by omega)).trans ((bsl_g (by omega)).trans ((bsl_g (by omega)).trans ((bsl_g (by omega)).trans ((bsl_g (by omega)).trans ((bsl_g (by omega)).trans ((bsl_g (by omega)).trans ((bsl_g (by omega)).trans ((bsl_g (by omega)).trans ((bsl_g (by omega)).trans ((bsl_g (by omega)).trans ((bsl_g (by omega)).trans ((bsl_g (by omega)).trans ((bsl_g (by omega)).trans ((bsl_g (by omega)).trans ((bsl_g (by omega)).trans ((bsl_g (by omega)).trans ((bsl_g (by omega)).trans ((bsl_g (by omega)).trans (bsl_s (by omega))))))))))))))))))))))
  · simp [mid]; omega
  · unfold kd; omega
theorem cr_17106 {C : Cd} {N : Nd} {A : Ad} {i j : Int} (h1 : 0 ≤ i) (h2 : i < 36) : rd (mk C N A) (17106 + i) j = C 17106 i j := rd_mk_c (bs_17106 h1 h2).2.1 (bs_17106 h1 h2).1 rfl
theorem cw_17106 {C : Cd} {N : Nd} {A : Ad} {i j v : Int} (h1 : 0 ≤ i) (h2 : i < 36) : wr (mk C N A) (17106 + i) j v = mk (uq C 17106 i j v) N A := wr_mk_c (bs_17106 h1 h2).2.1 (bs_17106 h1 h2).1 rfl
theorem lc_17106 {i : Int} (h1 : 0 ≤ i) (h2 : i < 36) : ln (17106 + i) = 9 := by
  unfold ln
  simp (disch := omega) only [if_neg, if_pos]
theorem al_17106 {C : Cd} {N : Nd} {A : Ad} {i : Int} (h1 : 0 ≤ i) (h2 : i < 36) (h0 : A.1 (17106 + i) = 0) : ala (mk C N A) 17 (17106 + i) 9 = some (mk (zq C 17106 i) N (alA A (17106 + i) 9)) := ala_mk h0 (bs_17106 h1 h2).2.2 (lc_17106 h1 h2) (bs_17106 h1 h2).2.1 (bs_17106 h1 h2).1 rfl
theorem bs_19000 {i : Int} (h1 : 0 ≤ i) (h2 : i < 3) : bs (19000 + i) = 19000 ∧ mid (19000 + i) = false ∧ kd (19000 + i) = 19 := by
  refine ⟨?_, ?_, ?_⟩
  · exact ((bsl_g (by omega)).trans ((bsl_g (by omega)).trans ((bsl_g (by omega)).trans ((bsl_g (by omega)).trans ((bsl_g (by omega)).trans ((bsl_g (by omega)).trans ((bsl_g (by omega)).trans ((bsl_g (by omega)).trans ((bsl_g (by omega)).trans ((bsl_g (by omega)).trans ((bsl_g (by omega)).trans ((bsl_g (by omega)).trans ((bsl_g (by omega)).trans ((bsl_g (by omega)).trans ((bsl_g (by omega)).trans ((bsl_g (by omega)).trans ((bsl_g (by omega)).trans ((bsl_g (by omega)).trans ((bsl_g (by omega)).trans ((bsl_g (by omega)).trans ((bsl_g (by omega)).trans (bsl_s (by omega)))))))))))))))))))))))
  · simp [mid]; omega
  · unfold kd; omega
theorem cr_19000 {C : Cd} {N : Nd} {A : Ad} {i j : Int} (h1 : 0 ≤ i) (h2 : i < 3) : rd (mk C N A) (19000 + i) j = C 19000 i j := rd_mk_c (bs_19000 h1 h2).2.1 (bs_19000 h1 h2).1 rfl
theorem cw_19000 {C : Cd} {N : Nd} {A : Ad} {i j v : Int} (h1 : 0 ≤ i) (h2 : i < 3) : wr (mk C N A) (19000 + i) j v = mk (uq C 19000 i j v) N A := wr_mk_c (bs_19000 h1 h2).2.1 (bs_19000 h1 h2).1 rfl
theorem lc_19000 {i : Int} (h1 : 0 ≤ i) (h2 : i < 3) : ln (19000 + i) = 12 := by
  unfold ln
  simp (disch := omega) only [if_neg, if_pos]
theorem al_19000 {C : Cd} {N : Nd} {A : Ad} {i : Int} (h1 : 0 ≤ i) (h2 : i < 3) (h0 : A.1 (19000 + i) = 0) : ala (mk C N A) 19 (19000 + i) 12 = some (mk (zq C 19000 i) N (alA A (19000 + i) 12)) := ala_mk h0 (bs_19000 h1 h2).2.2 (lc_19000 h1 h2) (bs_19000 h1 h2).2.1 (bs_19000 h1 h2).1 rfl
theorem cr_20000 {C : Cd} {N : Nd} {A : Ad} {j : Int} : rd (mk C N A) 20000 j = C 20000 0 j := rd_mk_c (by decide) (by decide) (by decide)
theorem cw_20000 {C : Cd} {N : Nd} {A : Ad} {j v : Int} : wr (mk C N A) 20000 j v = mk (uq C 20000 0 j v) N A := wr_mk_c (by decide) (by decide) (by decide)
theorem lc_20000 : ln 20000 = 150 := by decide
theorem cr_20001 {C : Cd} {N : Nd} {A : Ad} {j : Int} : rd (mk C N A) 20001 j = C 20001 0 j := rd_mk_c (by decide) (by decide) (by decide)
theorem cw_20001 {C : Cd} {N : Nd} {A : Ad} {j v : Int} : wr (mk C N A) 20001 j v = mk (uq C 20001 0 j v) N A := wr_mk_c (by decide) (by decide) (by decide)
theorem lc_20001 : ln 20001 = 150 := by decide
theorem bs_20100 {i : Int} (h1 : 0 ≤ i) (h2 : i < 9) : bs (20100 + i) = 20100 ∧ mid (20100 + i) = false ∧ kd (20100 + i) = 20 := by
  refine ⟨?_, ?_, ?_⟩
  · exact ((bsl_g (by omega)).trans ((bsl_g (by omega)).trans ((bsl_g (by omega)).trans ((bsl_g (by omega)).trans ((bsl_g (by omega)).trans ((bsl_g (by omega)).trans ((bsl_g (by omega)).trans ((bsl_g (by omega)).trans ((bsl_g (by omega)).trans ((bsl_g (by omega)).trans ((bsl_g (by omega)).trans ((bsl_g (by omega)).trans ((bsl_g (by omega)).trans ((bsl_g (by omega)).trans ((bsl_g (by omega)).trans ((bsl_g (by omega)).trans ((bsl_g (by omega)).trans ((bsl_g (by omega)).trans ((bsl_g (by omega)).trans ((bsl_g (by omega)).trans ((bsl_g (by omega)).trans ((bsl_g (by omega)).trans ((bsl_g (by omega)).trans ((bsl_g (by omega)).trans (bsl_s (by omega))))))))))))))))))))))))))
  · simp [mid]; omega
  · unfold kd; omega
theorem cr_20100 {C : Cd} {N : Nd} {A : Ad} {i j : Int} (h1 : 0 ≤ i) (h2 : i < 9) : rd (mk C N A) (20100 + i) j = C 20100 i j := rd_mk_c (bs_20100 h1 h2).2.1 (bs_20100 h1 h2).1 rfl
theorem cw_20100 {C : Cd} {N : Nd} {A : Ad} {i j v : Int} (h1 : 0 ≤ i) (h2 : i < 9) : wr (mk C N A) (20100 + i) j v = mk (uq C 20100 i j v) N A := wr_mk_c (bs_20100 h1 h2).2.1 (bs_20100 h1 h2).1 rfl
theorem lc_20100 {i : Int} (h1 : 0 ≤ i) (h2 : i < 9) : ln (20100 + i) = 60 := by
  unfold ln
  simp (disch := omega) only [if_neg, if_pos]
theorem al_20100 {C : Cd} {N : Nd} {A : Ad} {i : Int} (h1 : 0 ≤ i) (h2 : i < 9) (h0 : A.1 (20100 + i) = 0) : ala (mk C N A) 20 (20100 + i) 60 = some (mk (zq C 20100 i) N (alA A (20100 + i) 60)) := ala_mk h0 (bs_20100 h1 h2).2.2 (lc_20100 h1 h2) (bs_20100 h1 h2).2.1 (bs_20100 h1 h2).1 rfl
theorem cr_21000 {C : Cd} {N : Nd} {A : Ad} {j : Int} : rd (mk C N A) 21000 j = C 21000 0 j := rd_mk_c (by decide) (by decide) (by decide)
theorem cw_21000 {C : Cd} {N : Nd} {A : Ad} {j v : Int} : wr (mk C N A) 21000 j v = mk (uq C 21000 0 j v) N A := wr_mk_c (by decide) (by decide) (by decide)
theorem lc_21000 : ln 21000 = 9 := by decide
theorem bs_21100 {i : Int} (h1 : 0 ≤ i) (h2 : i < 3) : bs (21100 + i) = 21100 ∧ mid (21100 + i) = false ∧ kd (21100 + i) = 21 := by
  refine ⟨?_, ?_, ?_⟩
  · exact ((bsl_g (by omega)).trans ((bsl_g (by omega)).trans ((bsl_g (by omega)).trans ((bsl_g (by omega)).trans ((bsl_g (by omega)).trans ((bsl_g (by omega)).trans ((bsl_g (by omega)).trans ((bsl_g (by omega)).trans ((bsl_g (by omega)).trans ((bsl_g (by omega)).trans ((bsl_g (by omega)).trans ((bsl_g (by omega)).trans ((bsl_g (by omega)).trans ((bsl_g (by omega)).trans ((bsl_g (by omega)).trans ((bsl_g (by omega)).trans ((bsl_g (by omega)).trans ((bsl_g (by omega)).trans ((bsl_g (by omega)).trans ((bsl_g (by omega)).trans ((bsl_g (by omega)).trans ((bsl_g (by omega)).trans ((bsl_g (by omega)).trans ((bsl_g (by omega)).trans ((bsl_g (by omega)).trans ((bsl_g (by omega)).trans (bsl_s (by omega))))))))))))))))))))))))))))
  · simp [mid]; omega
  · unfold kd; omega
theorem cr_21100 {C : Cd} {N : Nd} {A : Ad} {i j : Int} (h1 : 0 ≤ i) (h2 : i < 3) : rd (mk C N A) (21100 + i) j = C 21100 i j := rd_mk_c (bs_21100 h1 h2).2.1 (bs_21100 h1 h2).1 rfl
theorem cw_21100 {C : Cd} {N : Nd} {A : Ad} {i j v : Int} (h1 : 0 ≤ i) (h2 : i < 3) : wr (mk C N A) (21100 + i) j v = mk (uq C 21100 i j v) N A := wr_mk_c (bs_21100 h1 h2).2.1 (bs_21100 h1 h2).1 rfl
theorem lc_21100 {i : Int} (h1 : 0 ≤ i) (h2 : i < 3) : ln (21100 + i) = 3 := by
  unfold ln
  simp (disch := omega) only [if_neg, if_pos]
theorem al_21100 {C : Cd} {N : Nd} {A : Ad} {i : Int} (h1 : 0 ≤ i) (h2 : i < 3) (h0 : A.1 (21100 + i) = 0) : ala (mk C N A) 21 (21100 + i) 3 = some (mk (zq C 21100 i) N (alA A (21100 + i) 3)) := ala_mk h0 (bs_21100 h1 h2).2.2 (lc_21100 h1 h2) (bs_21100 h1 h2).2.1 (bs_21100 h1 h2).1 rfl
theorem cr_22000 {C : Cd} {N : Nd} {A : Ad} {j : Int} : rd (mk C N A) 22000 j = C 22000 0 j := rd_mk_c (by decide) (by decide) (by decide)
theorem cw_22000 {C : Cd} {N : Nd} {A : Ad} {j v : Int} : wr (mk C N A) 22000 j v = mk (uq C 22000 0 j v) N A := wr_mk_c (by decide) (by decide) (by decide)
theorem lc_22000 : ln 22000 = 4 := by decide
theorem bs_23000 {i : Int} (h1 : 0 ≤ i) (h2 : i < 9) : bs (23000 + i) = 23000 ∧ mid (23000 + i) = false ∧ kd (23000 + i) = 23 := by
  refine ⟨?_, ?_, ?_⟩
  · exact ((bsl_g (by omega)).trans ((bsl_g (by omega)).trans ((bsl_g (by omega)).trans ((bsl_g (by omega)).trans ((bsl_g (by omega)).trans ((bsl_g (by omega)).trans ((bsl_g (by omega)).trans ((bsl_g (by omega)).trans ((bsl_g (by omega)).trans ((bsl_g (by omega)).trans ((bsl_g (by omega)).trans ((bsl_g (by omega)).trans ((bsl_g (by omega)).trans ((bsl_g (by omega)).trans ((bsl_g (by omega)).trans ((bsl_g (by omega)).trans ((bsl_g (by omega)).trans ((bsl_g (by omega)).trans ((bsl_g (by omega)).trans ((bsl_g (by omega)).trans ((bsl_g (by omega)).trans ((bsl_g (by omega)).trans ((bsl_g (by omega)).trans ((bsl_g (by omega)).trans ((bsl_g (by omega)).trans ((bsl_g (by omega)).trans ((bsl_g (by omega)).trans ((bsl_g (by omega)).trans (bsl_s (by omega))))))))))))))))))))))))))))))
  · simp [mid]; omega
  · unfold kd; omega
theorem cr_23000 {C : Cd} {N : Nd} {A : Ad} {i j : Int} (h1 : 0 ≤ i) (h2 : i < 9) : rd (mk C N A) (23000 + i) j = C 23000 i j := rd_mk_c (bs_23000 h1 h2).2.1 (bs_23000 h1 h2).1 rfl
theorem cw_23000 {C : Cd} {N : Nd} {A : Ad} {i j v : Int} (h1 : 0 ≤ i) (h2 : i < 9) : wr (mk C N A) (23000 + i) j v = mk (uq C 23000 i j v) N A := wr_mk_c (bs_23000 h1 h2).2.1 (bs_23000 h1 h2).1 rfl
theorem lc_23000 {i : Int} (h1 : 0 ≤ i) (h2 : i < 9) : ln (23000 + i) = 3 := by
  unfold ln
  simp (disch := omega) only [if_neg, if_pos]
theorem al_23000 {C : Cd} {N : Nd} {A : Ad} {i : Int} (h1 : 0 ≤ i) (h2 : i < 9) (h0 : A.1 (23000 + i) = 0) : ala (mk C N A) 23 (23000 + i) 3 = some (mk (zq C 23000 i) N (alA A (23000 + i) 3)) := ala_mk h0 (bs_23000 h1 h2).2.2 (lc_23000 h1 h2) (bs_23000 h1 h2).2.1 (bs_23000 h1 h2).1 rfl
theorem bs_24000 {i : Int} (h1 : 0 ≤ i) (h2 : i < 3) : bs (24000 + i) = 24000 ∧ mid (24000 + i) = false ∧ kd (24000 + i) = 24 := by
  refine ⟨?_, ?_, ?_⟩
  · exact ((bsl_g (by omega)).trans ((bsl_g (by omega)).trans ((bsl_g (by omega)).trans ((bsl_g (by omega)).trans ((bsl_g (by omega)).trans ((bsl_g (by omega)).trans ((bsl_g (by omega)).trans ((bsl_g (by omega)).trans ((bsl_g (by omega)).trans ((bsl_g (by omega)).trans ((bsl_g (by omega)).trans ((bsl_g (by omega)).trans ((bsl_g (by omega)).trans ((bsl_g (by omega)).trans ((bsl_g (by omega)).trans ((bsl_g (by omega)).trans ((bsl_g (by omega)).trans ((bsl_g (by omega)).trans ((bsl_g (by omega)).trans ((bsl_g (by omega)).trans ((bsl_g (by omega)).trans ((bsl_g (by omega)).trans ((bsl_g (by omega)).trans ((bsl_g (by omega)).trans ((bsl_g (by omega)).trans ((bsl_g (by omega)).trans ((bsl_g (by omega)).trans ((bsl_g (by omega)).trans ((bsl_g (by omega)).trans (bsl_s (by omega)))))))))))))))))))))))))))))))
  · simp [mid]; omega
  · unfold kd; omega
theorem cr_24000 {C : Cd} {N : Nd} {A : Ad} {i j : Int} (h1 : 0 ≤ i) (h2 : i < 3) : rd (mk C N A) (24000 + i) j = C 24000 i j := rd_mk_c (bs_24000 h1 h2).2.1 (bs_24000 h1 h2).1 rfl
theorem cw_24000 {C : Cd} {N : Nd} {A : Ad} {i j v : Int} (h1 : 0 ≤ i) (h2 : i < 3) : wr (mk C N A) (24000 + i) j v = mk (uq C 24000 i j v) N A := wr_mk_c (bs_24000 h1 h2).2.1 (bs_24000 h1 h2).1 rfl
theorem lc_24000 {i : Int} (h1 : 0 ≤ i) (h2 : i < 3) : ln (24000 + i) = 9 := by
  unfold ln
  simp (disch := omega) only [if_neg, if_pos]
theorem al_24000 {C : Cd} {N : Nd} {A : Ad} {i : Int} (h1 : 0 ≤ i) (h2 : i < 3) (h0 : A.1 (24000 + i) = 0) : ala (mk C N A) 24 (24000 + i) 9 = some (mk (zq C 24000 i) N (alA A (24000 + i) 9)) := ala_mk h0 (bs_24000 h1 h2).2.2 (lc_24000 h1 h2) (bs_24000 h1 h2).2.1 (bs_24000 h1 h2).1 rfl
theorem cr_25000 {C : Cd} {N : Nd} {A : Ad} {j : Int} : rd (mk C N A) 25000 j = C 25000 0 j := rd_mk_c (by decide) (by decide) (by decide)
theorem cw_25000 {C : Cd} {N : Nd} {A : Ad} {j v : Int} : wr (mk C N A) 25000 j v = mk (uq C 25000 0 j v) N A := wr_mk_c (by decide) (by decide) (by decide)
theorem lc_25000 : ln 25000 = 3 := by decide
