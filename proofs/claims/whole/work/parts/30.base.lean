/-! PURE PART, 30: answers that are there, loops, the model's table -/
def Ok {α : Type} (e : Option α) (P : α → Prop) : Prop := ∃ r, e = some r ∧ P r
theorem Ok.ret {α : Type} {x : α} {P : α → Prop} (h : P x) : Ok (some x) P := ⟨x, rfl, h⟩
theorem Ok.bind {α β : Type} {e : Option α} {f : α → Option β} {P : β → Prop} (h : Ok e (fun x => Ok (f x) P)) : Ok (e.bind f) P := by
  obtain ⟨x, rfl, y, hy, hp⟩ := h
  exact ⟨y, hy, hp⟩
theorem Ok.bnd {α β : Type} {e : Option α} {f : α → Option β} {P : β → Prop} {Q : α → Prop} (h : Ok e Q) (k : ∀ x, Q x → Ok (f x) P) : Ok (e.bind f) P := by
  obtain ⟨x, rfl, hq⟩ := h
  exact k x hq
theorem Ok.mono {α : Type} {e : Option α} {P Q : α → Prop} (h : Ok e P) (k : ∀ x, P x → Q x) : Ok e Q := by
  obtain ⟨x, h1, h2⟩ := h
  exact ⟨x, h1, k x h2⟩
theorem Ok.eq {α : Type} {e : Option α} {x : α} {P : α → Prop} (h : e = some x) (hp : P x) : Ok e P := ⟨x, h, hp⟩
theorem Ok.gdd {α : Type} {c : Prop} {_d : Decidable c} {e : Option α} {P : α → Prop} (hc : c) (h : Ok e P) : Ok (gd c e) P := by
  rw [show gd c e = e from if_pos hc]; exact h
theorem Ok.ite {α : Type} {c : Prop} {_d : Decidable c} {a b : Option α} {P : α → Prop} (h1 : c → Ok a P) (h2 : ¬ c → Ok b P) : Ok (if c then a else b) P := by
  by_cases h : c
  · rw [if_pos h]; exact h1 h
  · rw [if_neg h]; exact h2 h
theorem Ok.iteT {α : Type} {c : Prop} {_d : Decidable c} {a b : Option α} {P : α → Prop} (h : c) (h1 : Ok a P) : Ok (if c then a else b) P := by rw [if_pos h]; exact h1
theorem Ok.iteF {α : Type} {c : Prop} {_d : Decidable c} {a b : Option α} {P : α → Prop} (h : ¬ c) (h1 : Ok b P) : Ok (if c then a else b) P := by rw [if_neg h]; exact h1
theorem gd_true {α : Type} {_d : Decidable True} {e : Option α} : gd True e = e := if_pos trivial
theorem gd_false {α : Type} {_d : Decidable False} {e : Option α} : gd False e = none := if_neg (fun h => h)
theorem gd_t {α : Type} {c : Prop} {_d : Decidable c} {e : Option α} (h : c) : gd c e = e := if_pos h
theorem bind_b {α : Type} {P : Prop} {_d : Decidable P} {x y : α} {β : Type} {f : α → Option β} : (if P then some x else some y).bind f = if P then f x else f y := by
  by_cases h : P
  · rw [if_pos h, if_pos h]; rfl
  · rw [if_neg h, if_neg h]; rfl
theorem some_b {α : Type} {P : Prop} {_d : Decidable P} {x y : α} : (if P then some x else some y) = some (if P then x else y) := by
  by_cases h : P
  · rw [if_pos h, if_pos h]
  · rw [if_neg h, if_neg h]
theorem q10 {α : Type} {P : Prop} {_d : Decidable P} {_d2 : Decidable ((if P then (1 : Int) else 0) = 0)} {x y : α} : (if (if P then (1 : Int) else 0) = 0 then x else y) = if P then y else x := by
  by_cases h : P
  · rw [if_pos h, if_neg]
    rw [if_pos h]; decide
  · rw [if_neg h, if_pos]
    rw [if_neg h]
theorem q10n {P : Prop} {_d : Decidable P} : ((if P then (1 : Int) else 0) = 0) = ¬ P := by
  by_cases h : P
  · rw [if_pos h]; simp [h]
  · rw [if_neg h]; simp [h]
/-! loops -/
theorem lp_S {σ τ : Type} {f : σ → Option (σ ⊕ τ)} {n : Nat} {s : σ} : lp f (n + 1) s = (f s).bind (Sum.elim (lp f n) some) := rfl
theorem lp_next {σ τ : Type} {f : σ → Option (σ ⊕ τ)} {n : Nat} {s s' : σ} (h : f s = some (.inl s')) : lp f (n + 1) s = lp f n s' := by rw [lp_S, h]; rfl
theorem lp_end {σ τ : Type} {f : σ → Option (σ ⊕ τ)} {n : Nat} {s : σ} {t : τ} (h : f s = some (.inr t)) : lp f (n + 1) s = some t := by rw [lp_S, h]; rfl
theorem lp_seq {σ τ : Type} {f : σ → Option (σ ⊕ τ)} (S : Nat → σ) {t : τ} (n : Nat) (h : ∀ k, k < n → f (S k) = some (.inl (S (k + 1)))) (he : f (S n) = some (.inr t)) {F : Nat} (hF : n < F) {s : σ} (hs : s = S 0) : lp f F s = some t := by
  subst hs
  induction n generalizing S F with
  | zero =>
    obtain ⟨F, rfl⟩ : ∃ G, F = G + 1 := ⟨F - 1, by omega⟩
    exact lp_end he
  | succ n ih =>
    obtain ⟨F, rfl⟩ : ∃ G, F = G + 1 := ⟨F - 1, by omega⟩
    rw [lp_next (h 0 (by omega))]
    exact ih (fun k => S (k + 1)) (fun k hk => h (k + 1) (by omega)) he (by omega)
/-- a loop by what holds as its number rises from i0 by n -/
theorem lp_for {σ τ : Type} {f : σ → Option (σ ⊕ τ)} (I : Int → σ → Prop) {Q : τ → Prop} (i0 : Int) (n : Nat)
    (hs : ∀ i s, i0 ≤ i → i < i0 + n → I i s → Ok (f s) (Sum.elim (fun s' => I (i + 1) s') Q)) (he : ∀ s, I (i0 + n) s → Ok (f s) (Sum.elim (fun _ => False) Q)) {F : Nat} (hF : n < F) {s : σ} (h0 : I i0 s) : Ok (lp f F s) Q := by
  induction n generalizing i0 s F with
  | zero =>
    obtain ⟨F, rfl⟩ : ∃ G, F = G + 1 := ⟨F - 1, by omega⟩
    obtain ⟨r, h1, h2⟩ := he s (by simpa using h0)
    cases r with
    | inl x => exact False.elim h2
    | inr t => exact ⟨t, lp_end h1, h2⟩
  | succ n ih =>
    obtain ⟨F, rfl⟩ : ∃ G, F = G + 1 := ⟨F - 1, by omega⟩
    obtain ⟨r, h1, h2⟩ := hs i0 s (Int.le_refl _) (by omega) h0
    cases r with
    | inl x =>
      rw [show lp f (F + 1) s = lp f F x from lp_next h1]
      exact ih (i0 + 1) (fun i s hi hi2 h => hs i s (by omega) (by omega) h) (fun s h => he s (by
        have e : i0 + 1 + (n : Int) = i0 + ((n + 1 : Nat) : Int) := by omega
        rw [← e]; exact h)) (by omega) h2
    | inr t => exact ⟨t, lp_end h1, h2⟩
/-- a loop by what holds, downwards: i is what is left -/
theorem lp_dn {σ τ : Type} {f : σ → Option (σ ⊕ τ)} (I : Nat → σ → Prop) {Q : τ → Prop}
    (hs : ∀ n s, I (n + 1) s → Ok (f s) (Sum.elim (fun s' => I n s') Q)) (he : ∀ s, I 0 s → Ok (f s) (Sum.elim (fun _ => False) Q)) (n : Nat) {F : Nat} (hF : n < F) {s : σ} (h0 : I n s) : Ok (lp f F s) Q := by
  induction n generalizing s F with
  | zero =>
    obtain ⟨F, rfl⟩ : ∃ G, F = G + 1 := ⟨F - 1, by omega⟩
    obtain ⟨r, h1, h2⟩ := he s h0
    cases r with
    | inl x => exact False.elim h2
    | inr t => exact ⟨t, lp_end h1, h2⟩
  | succ n ih =>
    obtain ⟨F, rfl⟩ : ∃ G, F = G + 1 := ⟨F - 1, by omega⟩
    obtain ⟨r, h1, h2⟩ := hs n s h0
    cases r with
    | inl x =>
      rw [show lp f (F + 1) s = lp f F x from lp_next h1]
      exact ih (by omega) h2
    | inr t => exact ⟨t, lp_end h1, h2⟩
/-- folds over i0, i0 + 1, .. -/
def fo {α : Type} (g : Int → α → α) (i0 : Int) : Nat → α → α
  | 0, a => a
  | n + 1, a => g (i0 + n) (fo g i0 n a)
theorem fo_S {α : Type} {g : Int → α → α} {i0 : Int} {n : Nat} {a : α} : fo g i0 (n + 1) a = g (i0 + n) (fo g i0 n a) := rfl
/-- a loop that is a fold; I is what holds of the fold's value -/
theorem lp_fo {σ τ α : Type} {f : σ → Option (σ ⊕ τ)} (e : α → Int → σ) (g : Int → α → α) (i0 : Int) (n : Nat) {a : α} (I : α → Prop) (hI : I a) (hg : ∀ i b, i0 ≤ i → i < i0 + n → I b → I (g i b))
    (h : ∀ i b, i0 ≤ i → i < i0 + n → I b → f (e b i) = some (.inl (e (g i b) (i + 1)))) {t : τ} (he : I (fo g i0 n a) → f (e (fo g i0 n a) (i0 + n)) = some (.inr t)) {F : Nat} (hF : n < F) {s : σ} (hs : s = e a i0) : lp f F s = some t := by
  have hi : ∀ k : Nat, k ≤ n → I (fo g i0 k a) := by
    intro k
    induction k with
    | zero => intro _; exact hI
    | succ k ih => intro hk; exact hg _ _ (by omega) (by omega) (ih (by omega))
  refine lp_seq (fun k => e (fo g i0 k a) (i0 + k)) n (fun k hk => ?_) (he (hi n (Nat.le_refl _))) hF (by rw [hs]; simp [fo])
  have h1 := h (i0 + k) (fo g i0 k a) (by omega) (by omega) (hi k (by omega))
  rw [h1, fo_S]
  have e2 : i0 + (k : Int) + 1 = i0 + ((k + 1 : Nat) : Int) := by omega
  rw [e2]
theorem fo_inv {α : Type} {g : Int → α → α} {i0 : Int} {n : Nat} {a : α} (I : Int → α → Prop) (h0 : I i0 a) (hg : ∀ i b, i0 ≤ i → i < i0 + n → I i b → I (i + 1) (g i b)) : I (i0 + n) (fo g i0 n a) := by
  induction n with
  | zero => simpa using h0
  | succ n ih =>
    have h1 := hg (i0 + n) (fo g i0 n a) (by omega) (by omega) (ih fun i b h1 h2 h3 => hg i b h1 (by omega) h3)
    rw [fo_S]
    have e2 : i0 + (n : Int) + 1 = i0 + ((n + 1 : Nat) : Int) := by omega
    rw [← e2]; exact h1
theorem fo_congr {α : Type} {g g' : Int → α → α} {i0 : Int} {n : Nat} {a : α} (h : ∀ i b, i0 ≤ i → i < i0 + n → g i b = g' i b) : fo g i0 n a = fo g' i0 n a := by
  induction n with
  | zero => rfl
  | succ n ih => rw [fo_S, fo_S, ih (fun i b h1 h2 => h i b h1 (by omega)), h _ _ (by omega) (by omega)]
/-- the first one from i on, of n, with P; i + n without one -/
def ff (P : Int → Bool) : Nat → Int → Int
  | 0, i => i
  | n + 1, i => if P i = true then i else ff P n (i + 1)
theorem ff_b {P : Int → Bool} : ∀ {n : Nat} {i : Int}, i ≤ ff P n i ∧ ff P n i ≤ i + n
  | 0, i => by simp [ff]
  | n + 1, i => by
    unfold ff
    have := @ff_b P n (i + 1)
    by_cases h : P i = true
    · rw [if_pos h]; omega
    · rw [if_neg h]; omega
theorem ff_no {P : Int → Bool} : ∀ {n : Nat} {i k : Int}, i ≤ k → k < ff P n i → P k = false
  | 0, i, k => by intro h1 h2; simp [ff] at h2; omega
  | n + 1, i, k => by
    intro h1 h2
    unfold ff at h2
    by_cases h : P i = true
    · rw [if_pos h] at h2; omega
    · rw [if_neg h] at h2
      by_cases e : k = i
      · subst e; simpa using h
      · exact @ff_no P n (i + 1) k (by omega) h2
theorem ff_yes {P : Int → Bool} : ∀ {n : Nat} {i : Int}, ff P n i < i + n → P (ff P n i) = true
  | 0, i => by intro h; simp [ff] at h
  | n + 1, i => by
    intro h
    unfold ff at h ⊢
    by_cases h1 : P i = true
    · rw [if_pos h1]; exact h1
    · rw [if_neg h1] at h ⊢
      exact @ff_yes P n (i + 1) (by omega)
theorem ff_is {P : Int → Bool} {n : Nat} {i r : Int} (h1 : i ≤ r) (h2 : r ≤ i + n) (h3 : ∀ k, i ≤ k → k < r → P k = false) (h4 : r < i + n → P r = true) : ff P n i = r := by
  have b := @ff_b P n i
  have a1 : ¬ ff P n i < r := fun h => by
    have h5 := h3 _ b.1 h
    have h6 := @ff_yes P n i (by omega)
    rw [h5] at h6; cases h6
  have a2 : ¬ r < ff P n i := fun h => by
    have h5 := @ff_no P n i r h1 h
    have h6 := h4 (by omega)
    rw [h5] at h6; cases h6
  omega
/-- a loop that looks for the first one -/
theorem lp_ff {σ τ : Type} {f : σ → Option (σ ⊕ τ)} (e : Int → σ) (P : Int → Bool) (n : Nat) (i0 : Int) {t : τ} (hn : ∀ i, i0 ≤ i → i < i0 + n → P i = false → f (e i) = some (.inl (e (i + 1)))) (hy : ff P n i0 < i0 + n → P (ff P n i0) = true → f (e (ff P n i0)) = some (.inr t)) (he : ff P n i0 = i0 + n → f (e (i0 + n)) = some (.inr t)) {F : Nat} (hF : n < F) {s : σ} (hs : s = e i0) : lp f F s = some t := by
  have b := @ff_b P n i0
  refine lp_seq (fun k => e (i0 + k)) (ff P n i0 - i0).toNat (fun k hk => ?_) ?_ (by omega) (by rw [hs]; simp)
  · have h1 := hn (i0 + k) (by omega) (by omega) (@ff_no P n i0 _ (by omega) (by omega))
    have e2 : i0 + (k : Int) + 1 = i0 + ((k + 1 : Nat) : Int) := by omega
    rw [h1, e2]
  · have e2 : i0 + (((ff P n i0 - i0).toNat : Nat) : Int) = ff P n i0 := by omega
    rw [e2]
    by_cases h : ff P n i0 < i0 + n
    · exact hy h (ff_yes h)
    · have e3 : ff P n i0 = i0 + n := by omega
      rw [e3]; exact he e3
/-- how many of i0, .. have P; the sum of values -/
def su (g : Int → Int) (i0 : Int) (n : Nat) : Int := fo (fun i a => a + g i) i0 n 0
theorem su_0 {g : Int → Int} {i0 : Int} : su g i0 0 = 0 := rfl
theorem su_S {g : Int → Int} {i0 : Int} {n : Nat} : su g i0 (n + 1) = su g i0 n + g (i0 + n) := rfl
theorem su_b {g : Int → Int} {i0 : Int} {n : Nat} {b : Int} (h : ∀ i, i0 ≤ i → i < i0 + n → 0 ≤ g i ∧ g i ≤ b) : 0 ≤ su g i0 n ∧ su g i0 n ≤ n * b := by
  induction n with
  | zero => simp [su_0]
  | succ n ih =>
    have h1 := ih fun i a b => h i a (by omega)
    have h2 := h (i0 + n) (by omega) (by omega)
    rw [su_S, Int.natCast_succ, Int.add_mul]
    omega
theorem su_congr {g g' : Int → Int} {i0 : Int} {n : Nat} (h : ∀ i, i0 ≤ i → i < i0 + n → g i = g' i) : su g i0 n = su g' i0 n := fo_congr fun i b h1 h2 => by rw [h i h1 h2]
theorem su_add {g : Int → Int} {i0 : Int} {n k : Nat} : su g i0 (n + k) = su g i0 n + su g (i0 + n) k := by
  induction k with
  | zero => simp [su_0]
  | succ k ih =>
    rw [← Nat.add_assoc, su_S, su_S, ih, Int.add_assoc]
    congr 2
    congr 1
    omega
theorem su_zero {g : Int → Int} {i0 : Int} {n : Nat} (h : ∀ i, i0 ≤ i → i < i0 + n → g i = 0) : su g i0 n = 0 := by
  induction n with
  | zero => rfl
  | succ n ih => rw [su_S, ih fun i a b => h i a (by omega), h _ (by omega) (by omega)]; rfl
theorem su_plus {g g' : Int → Int} {i0 : Int} {n : Nat} : su (fun i => g i + g' i) i0 n = su g i0 n + su g' i0 n := by
  induction n with
  | zero => rfl
  | succ n ih => rw [su_S, su_S, su_S, ih]; omega
/-- sums over two numbers, in both orders -/
theorem su_swap {g : Int → Int → Int} {i0 j0 : Int} {n k : Nat} : su (fun i => su (fun j => g i j) j0 k) i0 n = su (fun j => su (fun i => g i j) i0 n) j0 k := by
  induction n with
  | zero => rw [su_0]; exact (su_zero fun _ _ _ => su_0).symm
  | succ n ih =>
    rw [su_S, ih, ← su_plus]
    exact su_congr fun j _ _ => su_S.symm
/-- a sum with one value at most -/
theorem su_one {g : Int → Int} {i0 : Int} {n : Nat} (r : Int) (h1 : i0 ≤ r) (h2 : r < i0 + n) (h : ∀ i, i0 ≤ i → i < i0 + n → i ≠ r → g i = 0) : su g i0 n = g r := by
  have e : n = (r - i0).toNat + (1 + (i0 + n - r - 1).toNat) := by omega
  rw [e, su_add, su_add, su_zero (fun i a b => h i a (by omega) (by omega)), su_zero (g := g) (i0 := i0 + ((r - i0).toNat : Nat) + (1 : Nat)) (fun i a b => h i (by omega) (by omega) (by omega))]
  have e2 : su g (i0 + ((r - i0).toNat : Nat)) 1 = g r := by
    rw [su_S, su_0]
    have e3 : i0 + ((r - i0).toNat : Nat) + ((0 : Nat) : Int) = r := by omega
    rw [e3]; omega
  rw [e2]; omega
/-! the model's table -/
abbrev Nd : Type := Int → Int → Int
def up (N : Nd) (a j v : Int) : Nd := fun b k => if b = a ∧ k = j then v else N b k
theorem up_s {N : Nd} {a j v b k : Int} : up N a j v b k = if b = a ∧ k = j then v else N b k := rfl
theorem up_same {N : Nd} {a j : Int} : up N a j (N a j) = N := by
  funext b k
  rw [up_s]
  by_cases h : b = a ∧ k = j
  · rw [if_pos h, h.1, h.2]
  · rw [if_neg h]
def mid (a : Int) : Bool := (12000 ≤ a && a < 13500) || (14000 ≤ a && a < 15000)
def isptr (j : Int) : Bool := ([5, 6, 7, 8, 9, 10, 12, 13, 14, 15, 16, 17, 18, 20, 21, 22, 23, 24, 25, 26, 27, 28, 29, 31, 32, 33, 34, 35, 36, 37, 38, 39, 42, 43, 44, 45, 46, 47, 48, 49, 50, 51, 52, 53, 54, 55, 56, 57, 58, 59, 60, 61, 62, 63, 64, 65, 66, 67] : List Int).contains j
def pv (j : Int) : Int := if j = 8 ∨ j = 34 then 14000 + j else 13000 + j
def put (M : Mm) (N : Nd) : Mm := ((fun a j => if a = 12000 ∧ isptr j = true then pv j else if mid a = true then N a j else M.1 a j), M.2)
theorem rd_put {M : Mm} {N : Nd} {a j : Int} : rd (put M N) a j = if a = 12000 ∧ isptr j = true then pv j else if mid a = true then N a j else rd M a j := rfl
theorem rd_put_m {M : Mm} {N : Nd} {a j : Int} (h1 : mid a = true) (h : ¬ (a = 12000 ∧ isptr j = true)) : rd (put M N) a j = N a j := by rw [rd_put, if_neg h, if_pos h1]
theorem wr_put_m {M : Mm} {N : Nd} {a j v : Int} (h1 : mid a = true) (h : ¬ (a = 12000 ∧ isptr j = true)) : wr (put M N) a j v = put M (up N a j v) := by
  unfold wr put
  congr 1
  funext b k
  show (if b = a ∧ k = j then v else if b = 12000 ∧ isptr k = true then pv k else if mid b = true then N b k else M.1 b k) = (if b = 12000 ∧ isptr k = true then pv k else if mid b = true then up N a j v b k else M.1 b k)
  rw [up_s]
  by_cases e : b = a ∧ k = j
  · obtain ⟨rfl, rfl⟩ := e
    rw [if_pos ⟨rfl, rfl⟩, if_neg h, if_pos h1, if_pos ⟨rfl, rfl⟩]
  · rw [if_neg e, if_neg e]
theorem pt_0 {M : Mm} {N : Nd} : rd (put M N) 12000 0 = N 12000 0 := rd_put_m (by decide) (by decide)
theorem ps_0 {M : Mm} {N : Nd} {v : Int} : wr (put M N) 12000 0 v = put M (up N 12000 0 v) := wr_put_m (by decide) (by decide)
theorem pt_1 {M : Mm} {N : Nd} : rd (put M N) 12000 1 = N 12000 1 := rd_put_m (by decide) (by decide)
theorem ps_1 {M : Mm} {N : Nd} {v : Int} : wr (put M N) 12000 1 v = put M (up N 12000 1 v) := wr_put_m (by decide) (by decide)
theorem pt_2 {M : Mm} {N : Nd} : rd (put M N) 12000 2 = N 12000 2 := rd_put_m (by decide) (by decide)
theorem ps_2 {M : Mm} {N : Nd} {v : Int} : wr (put M N) 12000 2 v = put M (up N 12000 2 v) := wr_put_m (by decide) (by decide)
theorem pt_3 {M : Mm} {N : Nd} : rd (put M N) 12000 3 = N 12000 3 := rd_put_m (by decide) (by decide)
theorem ps_3 {M : Mm} {N : Nd} {v : Int} : wr (put M N) 12000 3 v = put M (up N 12000 3 v) := wr_put_m (by decide) (by decide)
theorem pt_4 {M : Mm} {N : Nd} : rd (put M N) 12000 4 = N 12000 4 := rd_put_m (by decide) (by decide)
theorem ps_4 {M : Mm} {N : Nd} {v : Int} : wr (put M N) 12000 4 v = put M (up N 12000 4 v) := wr_put_m (by decide) (by decide)
theorem pt_5 {M : Mm} {N : Nd} : rd (put M N) 12000 5 = 13005 := by rw [rd_put, if_pos (by decide)]; decide
theorem pa_13005 {M : Mm} {N : Nd} {j : Int} : rd (put M N) 13005 j = N 13005 j := rd_put_m (by decide) (fun h => absurd h.1 (by decide))
theorem pw_13005 {M : Mm} {N : Nd} {j v : Int} : wr (put M N) 13005 j v = put M (up N 13005 j v) := wr_put_m (by decide) (fun h => absurd h.1 (by decide))
theorem ln_13005 : ln 13005 = 3 := by decide
theorem pt_6 {M : Mm} {N : Nd} : rd (put M N) 12000 6 = 13006 := by rw [rd_put, if_pos (by decide)]; decide
theorem pa_13006 {M : Mm} {N : Nd} {j : Int} : rd (put M N) 13006 j = N 13006 j := rd_put_m (by decide) (fun h => absurd h.1 (by decide))
theorem pw_13006 {M : Mm} {N : Nd} {j v : Int} : wr (put M N) 13006 j v = put M (up N 13006 j v) := wr_put_m (by decide) (fun h => absurd h.1 (by decide))
theorem ln_13006 : ln 13006 = 3 := by decide
theorem pt_7 {M : Mm} {N : Nd} : rd (put M N) 12000 7 = 13007 := by rw [rd_put, if_pos (by decide)]; decide
theorem pa_13007 {M : Mm} {N : Nd} {j : Int} : rd (put M N) 13007 j = N 13007 j := rd_put_m (by decide) (fun h => absurd h.1 (by decide))
theorem pw_13007 {M : Mm} {N : Nd} {j v : Int} : wr (put M N) 13007 j v = put M (up N 13007 j v) := wr_put_m (by decide) (fun h => absurd h.1 (by decide))
theorem ln_13007 : ln 13007 = 3 := by decide
theorem pt_8 {M : Mm} {N : Nd} : rd (put M N) 12000 8 = 14008 := by rw [rd_put, if_pos (by decide)]; decide
theorem pa_14008 {M : Mm} {N : Nd} {j : Int} : rd (put M N) 14008 j = N 14008 j := rd_put_m (by decide) (fun h => absurd h.1 (by decide))
theorem pw_14008 {M : Mm} {N : Nd} {j v : Int} : wr (put M N) 14008 j v = put M (up N 14008 j v) := wr_put_m (by decide) (fun h => absurd h.1 (by decide))
theorem ln_14008 : ln 14008 = 3 := by decide
theorem pt_9 {M : Mm} {N : Nd} : rd (put M N) 12000 9 = 13009 := by rw [rd_put, if_pos (by decide)]; decide
theorem pa_13009 {M : Mm} {N : Nd} {j : Int} : rd (put M N) 13009 j = N 13009 j := rd_put_m (by decide) (fun h => absurd h.1 (by decide))
theorem pw_13009 {M : Mm} {N : Nd} {j v : Int} : wr (put M N) 13009 j v = put M (up N 13009 j v) := wr_put_m (by decide) (fun h => absurd h.1 (by decide))
theorem ln_13009 : ln 13009 = 3 := by decide
theorem pt_10 {M : Mm} {N : Nd} : rd (put M N) 12000 10 = 13010 := by rw [rd_put, if_pos (by decide)]; decide
theorem pa_13010 {M : Mm} {N : Nd} {j : Int} : rd (put M N) 13010 j = N 13010 j := rd_put_m (by decide) (fun h => absurd h.1 (by decide))
theorem pw_13010 {M : Mm} {N : Nd} {j v : Int} : wr (put M N) 13010 j v = put M (up N 13010 j v) := wr_put_m (by decide) (fun h => absurd h.1 (by decide))
theorem ln_13010 : ln 13010 = 3 := by decide
theorem pt_11 {M : Mm} {N : Nd} : rd (put M N) 12000 11 = N 12000 11 := rd_put_m (by decide) (by decide)
theorem ps_11 {M : Mm} {N : Nd} {v : Int} : wr (put M N) 12000 11 v = put M (up N 12000 11 v) := wr_put_m (by decide) (by decide)
theorem pt_12 {M : Mm} {N : Nd} : rd (put M N) 12000 12 = 13012 := by rw [rd_put, if_pos (by decide)]; decide
theorem pa_13012 {M : Mm} {N : Nd} {j : Int} : rd (put M N) 13012 j = N 13012 j := rd_put_m (by decide) (fun h => absurd h.1 (by decide))
theorem pw_13012 {M : Mm} {N : Nd} {j v : Int} : wr (put M N) 13012 j v = put M (up N 13012 j v) := wr_put_m (by decide) (fun h => absurd h.1 (by decide))
theorem ln_13012 : ln 13012 = 9 := by decide
theorem pt_13 {M : Mm} {N : Nd} : rd (put M N) 12000 13 = 13013 := by rw [rd_put, if_pos (by decide)]; decide
theorem pa_13013 {M : Mm} {N : Nd} {j : Int} : rd (put M N) 13013 j = N 13013 j := rd_put_m (by decide) (fun h => absurd h.1 (by decide))
theorem pw_13013 {M : Mm} {N : Nd} {j v : Int} : wr (put M N) 13013 j v = put M (up N 13013 j v) := wr_put_m (by decide) (fun h => absurd h.1 (by decide))
theorem ln_13013 : ln 13013 = 9 := by decide
theorem pt_14 {M : Mm} {N : Nd} : rd (put M N) 12000 14 = 13014 := by rw [rd_put, if_pos (by decide)]; decide
theorem pa_13014 {M : Mm} {N : Nd} {j : Int} : rd (put M N) 13014 j = N 13014 j := rd_put_m (by decide) (fun h => absurd h.1 (by decide))
theorem pw_13014 {M : Mm} {N : Nd} {j v : Int} : wr (put M N) 13014 j v = put M (up N 13014 j v) := wr_put_m (by decide) (fun h => absurd h.1 (by decide))
theorem ln_13014 : ln 13014 = 9 := by decide
theorem pt_15 {M : Mm} {N : Nd} : rd (put M N) 12000 15 = 13015 := by rw [rd_put, if_pos (by decide)]; decide
theorem pa_13015 {M : Mm} {N : Nd} {j : Int} : rd (put M N) 13015 j = N 13015 j := rd_put_m (by decide) (fun h => absurd h.1 (by decide))
theorem pw_13015 {M : Mm} {N : Nd} {j v : Int} : wr (put M N) 13015 j v = put M (up N 13015 j v) := wr_put_m (by decide) (fun h => absurd h.1 (by decide))
theorem ln_13015 : ln 13015 = 9 := by decide
theorem pt_16 {M : Mm} {N : Nd} : rd (put M N) 12000 16 = 13016 := by rw [rd_put, if_pos (by decide)]; decide
theorem pa_13016 {M : Mm} {N : Nd} {j : Int} : rd (put M N) 13016 j = N 13016 j := rd_put_m (by decide) (fun h => absurd h.1 (by decide))
theorem pw_13016 {M : Mm} {N : Nd} {j v : Int} : wr (put M N) 13016 j v = put M (up N 13016 j v) := wr_put_m (by decide) (fun h => absurd h.1 (by decide))
theorem ln_13016 : ln 13016 = 27 := by decide
theorem pt_17 {M : Mm} {N : Nd} : rd (put M N) 12000 17 = 13017 := by rw [rd_put, if_pos (by decide)]; decide
theorem pa_13017 {M : Mm} {N : Nd} {j : Int} : rd (put M N) 13017 j = N 13017 j := rd_put_m (by decide) (fun h => absurd h.1 (by decide))
theorem pw_13017 {M : Mm} {N : Nd} {j v : Int} : wr (put M N) 13017 j v = put M (up N 13017 j v) := wr_put_m (by decide) (fun h => absurd h.1 (by decide))
theorem ln_13017 : ln 13017 = 27 := by decide
theorem pt_18 {M : Mm} {N : Nd} : rd (put M N) 12000 18 = 13018 := by rw [rd_put, if_pos (by decide)]; decide
theorem pa_13018 {M : Mm} {N : Nd} {j : Int} : rd (put M N) 13018 j = N 13018 j := rd_put_m (by decide) (fun h => absurd h.1 (by decide))
theorem pw_13018 {M : Mm} {N : Nd} {j v : Int} : wr (put M N) 13018 j v = put M (up N 13018 j v) := wr_put_m (by decide) (fun h => absurd h.1 (by decide))
theorem ln_13018 : ln 13018 = 540 := by decide
theorem pt_19 {M : Mm} {N : Nd} : rd (put M N) 12000 19 = N 12000 19 := rd_put_m (by decide) (by decide)
theorem ps_19 {M : Mm} {N : Nd} {v : Int} : wr (put M N) 12000 19 v = put M (up N 12000 19 v) := wr_put_m (by decide) (by decide)
theorem pt_20 {M : Mm} {N : Nd} : rd (put M N) 12000 20 = 13020 := by rw [rd_put, if_pos (by decide)]; decide
theorem pa_13020 {M : Mm} {N : Nd} {j : Int} : rd (put M N) 13020 j = N 13020 j := rd_put_m (by decide) (fun h => absurd h.1 (by decide))
theorem pw_13020 {M : Mm} {N : Nd} {j v : Int} : wr (put M N) 13020 j v = put M (up N 13020 j v) := wr_put_m (by decide) (fun h => absurd h.1 (by decide))
theorem ln_13020 : ln 13020 = 150 := by decide
theorem pt_21 {M : Mm} {N : Nd} : rd (put M N) 12000 21 = 13021 := by rw [rd_put, if_pos (by decide)]; decide
theorem pa_13021 {M : Mm} {N : Nd} {j : Int} : rd (put M N) 13021 j = N 13021 j := rd_put_m (by decide) (fun h => absurd h.1 (by decide))
theorem pw_13021 {M : Mm} {N : Nd} {j v : Int} : wr (put M N) 13021 j v = put M (up N 13021 j v) := wr_put_m (by decide) (fun h => absurd h.1 (by decide))
theorem ln_13021 : ln 13021 = 150 := by decide
theorem pt_22 {M : Mm} {N : Nd} : rd (put M N) 12000 22 = 13022 := by rw [rd_put, if_pos (by decide)]; decide
theorem pa_13022 {M : Mm} {N : Nd} {j : Int} : rd (put M N) 13022 j = N 13022 j := rd_put_m (by decide) (fun h => absurd h.1 (by decide))
theorem pw_13022 {M : Mm} {N : Nd} {j v : Int} : wr (put M N) 13022 j v = put M (up N 13022 j v) := wr_put_m (by decide) (fun h => absurd h.1 (by decide))
theorem ln_13022 : ln 13022 = 150 := by decide
theorem pt_23 {M : Mm} {N : Nd} : rd (put M N) 12000 23 = 13023 := by rw [rd_put, if_pos (by decide)]; decide
theorem pa_13023 {M : Mm} {N : Nd} {j : Int} : rd (put M N) 13023 j = N 13023 j := rd_put_m (by decide) (fun h => absurd h.1 (by decide))
theorem pw_13023 {M : Mm} {N : Nd} {j v : Int} : wr (put M N) 13023 j v = put M (up N 13023 j v) := wr_put_m (by decide) (fun h => absurd h.1 (by decide))
theorem ln_13023 : ln 13023 = 150 := by decide
theorem pt_24 {M : Mm} {N : Nd} : rd (put M N) 12000 24 = 13024 := by rw [rd_put, if_pos (by decide)]; decide
theorem pa_13024 {M : Mm} {N : Nd} {j : Int} : rd (put M N) 13024 j = N 13024 j := rd_put_m (by decide) (fun h => absurd h.1 (by decide))
theorem pw_13024 {M : Mm} {N : Nd} {j v : Int} : wr (put M N) 13024 j v = put M (up N 13024 j v) := wr_put_m (by decide) (fun h => absurd h.1 (by decide))
theorem ln_13024 : ln 13024 = 150 := by decide
theorem pt_25 {M : Mm} {N : Nd} : rd (put M N) 12000 25 = 13025 := by rw [rd_put, if_pos (by decide)]; decide
theorem pa_13025 {M : Mm} {N : Nd} {j : Int} : rd (put M N) 13025 j = N 13025 j := rd_put_m (by decide) (fun h => absurd h.1 (by decide))
theorem pw_13025 {M : Mm} {N : Nd} {j v : Int} : wr (put M N) 13025 j v = put M (up N 13025 j v) := wr_put_m (by decide) (fun h => absurd h.1 (by decide))
theorem ln_13025 : ln 13025 = 150 := by decide
theorem pt_26 {M : Mm} {N : Nd} : rd (put M N) 12000 26 = 13026 := by rw [rd_put, if_pos (by decide)]; decide
theorem pa_13026 {M : Mm} {N : Nd} {j : Int} : rd (put M N) 13026 j = N 13026 j := rd_put_m (by decide) (fun h => absurd h.1 (by decide))
theorem pw_13026 {M : Mm} {N : Nd} {j v : Int} : wr (put M N) 13026 j v = put M (up N 13026 j v) := wr_put_m (by decide) (fun h => absurd h.1 (by decide))
theorem ln_13026 : ln 13026 = 150 := by decide
theorem pt_27 {M : Mm} {N : Nd} : rd (put M N) 12000 27 = 13027 := by rw [rd_put, if_pos (by decide)]; decide
theorem pa_13027 {M : Mm} {N : Nd} {j : Int} : rd (put M N) 13027 j = N 13027 j := rd_put_m (by decide) (fun h => absurd h.1 (by decide))
theorem pw_13027 {M : Mm} {N : Nd} {j v : Int} : wr (put M N) 13027 j v = put M (up N 13027 j v) := wr_put_m (by decide) (fun h => absurd h.1 (by decide))
theorem ln_13027 : ln 13027 = 150 := by decide
theorem pt_28 {M : Mm} {N : Nd} : rd (put M N) 12000 28 = 13028 := by rw [rd_put, if_pos (by decide)]; decide
theorem pa_13028 {M : Mm} {N : Nd} {j : Int} : rd (put M N) 13028 j = N 13028 j := rd_put_m (by decide) (fun h => absurd h.1 (by decide))
theorem pw_13028 {M : Mm} {N : Nd} {j v : Int} : wr (put M N) 13028 j v = put M (up N 13028 j v) := wr_put_m (by decide) (fun h => absurd h.1 (by decide))
theorem ln_13028 : ln 13028 = 150 := by decide
theorem pt_29 {M : Mm} {N : Nd} : rd (put M N) 12000 29 = 13029 := by rw [rd_put, if_pos (by decide)]; decide
theorem pa_13029 {M : Mm} {N : Nd} {j : Int} : rd (put M N) 13029 j = N 13029 j := rd_put_m (by decide) (fun h => absurd h.1 (by decide))
theorem pw_13029 {M : Mm} {N : Nd} {j v : Int} : wr (put M N) 13029 j v = put M (up N 13029 j v) := wr_put_m (by decide) (fun h => absurd h.1 (by decide))
theorem ln_13029 : ln 13029 = 150 := by decide
theorem pt_30 {M : Mm} {N : Nd} : rd (put M N) 12000 30 = N 12000 30 := rd_put_m (by decide) (by decide)
theorem ps_30 {M : Mm} {N : Nd} {v : Int} : wr (put M N) 12000 30 v = put M (up N 12000 30 v) := wr_put_m (by decide) (by decide)
theorem pt_31 {M : Mm} {N : Nd} : rd (put M N) 12000 31 = 13031 := by rw [rd_put, if_pos (by decide)]; decide
theorem pa_13031 {M : Mm} {N : Nd} {j : Int} : rd (put M N) 13031 j = N 13031 j := rd_put_m (by decide) (fun h => absurd h.1 (by decide))
theorem pw_13031 {M : Mm} {N : Nd} {j v : Int} : wr (put M N) 13031 j v = put M (up N 13031 j v) := wr_put_m (by decide) (fun h => absurd h.1 (by decide))
theorem ln_13031 : ln 13031 = 4 := by decide
theorem pt_32 {M : Mm} {N : Nd} : rd (put M N) 12000 32 = 13032 := by rw [rd_put, if_pos (by decide)]; decide
theorem pa_13032 {M : Mm} {N : Nd} {j : Int} : rd (put M N) 13032 j = N 13032 j := rd_put_m (by decide) (fun h => absurd h.1 (by decide))
theorem pw_13032 {M : Mm} {N : Nd} {j v : Int} : wr (put M N) 13032 j v = put M (up N 13032 j v) := wr_put_m (by decide) (fun h => absurd h.1 (by decide))
theorem ln_13032 : ln 13032 = 4 := by decide
theorem pt_33 {M : Mm} {N : Nd} : rd (put M N) 12000 33 = 13033 := by rw [rd_put, if_pos (by decide)]; decide
theorem pa_13033 {M : Mm} {N : Nd} {j : Int} : rd (put M N) 13033 j = N 13033 j := rd_put_m (by decide) (fun h => absurd h.1 (by decide))
theorem pw_13033 {M : Mm} {N : Nd} {j v : Int} : wr (put M N) 13033 j v = put M (up N 13033 j v) := wr_put_m (by decide) (fun h => absurd h.1 (by decide))
theorem ln_13033 : ln 13033 = 4 := by decide
theorem pt_34 {M : Mm} {N : Nd} : rd (put M N) 12000 34 = 14034 := by rw [rd_put, if_pos (by decide)]; decide
theorem pa_14034 {M : Mm} {N : Nd} {j : Int} : rd (put M N) 14034 j = N 14034 j := rd_put_m (by decide) (fun h => absurd h.1 (by decide))
theorem pw_14034 {M : Mm} {N : Nd} {j v : Int} : wr (put M N) 14034 j v = put M (up N 14034 j v) := wr_put_m (by decide) (fun h => absurd h.1 (by decide))
theorem ln_14034 : ln 14034 = 4 := by decide
theorem pt_35 {M : Mm} {N : Nd} : rd (put M N) 12000 35 = 13035 := by rw [rd_put, if_pos (by decide)]; decide
theorem pa_13035 {M : Mm} {N : Nd} {j : Int} : rd (put M N) 13035 j = N 13035 j := rd_put_m (by decide) (fun h => absurd h.1 (by decide))
theorem pw_13035 {M : Mm} {N : Nd} {j v : Int} : wr (put M N) 13035 j v = put M (up N 13035 j v) := wr_put_m (by decide) (fun h => absurd h.1 (by decide))
theorem ln_13035 : ln 13035 = 4 := by decide
theorem pt_36 {M : Mm} {N : Nd} : rd (put M N) 12000 36 = 13036 := by rw [rd_put, if_pos (by decide)]; decide
theorem pa_13036 {M : Mm} {N : Nd} {j : Int} : rd (put M N) 13036 j = N 13036 j := rd_put_m (by decide) (fun h => absurd h.1 (by decide))
theorem pw_13036 {M : Mm} {N : Nd} {j v : Int} : wr (put M N) 13036 j v = put M (up N 13036 j v) := wr_put_m (by decide) (fun h => absurd h.1 (by decide))
theorem ln_13036 : ln 13036 = 4 := by decide
theorem pt_37 {M : Mm} {N : Nd} : rd (put M N) 12000 37 = 13037 := by rw [rd_put, if_pos (by decide)]; decide
theorem pa_13037 {M : Mm} {N : Nd} {j : Int} : rd (put M N) 13037 j = N 13037 j := rd_put_m (by decide) (fun h => absurd h.1 (by decide))
theorem pw_13037 {M : Mm} {N : Nd} {j v : Int} : wr (put M N) 13037 j v = put M (up N 13037 j v) := wr_put_m (by decide) (fun h => absurd h.1 (by decide))
theorem ln_13037 : ln 13037 = 4 := by decide
theorem pt_38 {M : Mm} {N : Nd} : rd (put M N) 12000 38 = 13038 := by rw [rd_put, if_pos (by decide)]; decide
theorem pa_13038 {M : Mm} {N : Nd} {j : Int} : rd (put M N) 13038 j = N 13038 j := rd_put_m (by decide) (fun h => absurd h.1 (by decide))
theorem pw_13038 {M : Mm} {N : Nd} {j v : Int} : wr (put M N) 13038 j v = put M (up N 13038 j v) := wr_put_m (by decide) (fun h => absurd h.1 (by decide))
theorem ln_13038 : ln 13038 = 4 := by decide
theorem pt_39 {M : Mm} {N : Nd} : rd (put M N) 12000 39 = 13039 := by rw [rd_put, if_pos (by decide)]; decide
theorem pa_13039 {M : Mm} {N : Nd} {j : Int} : rd (put M N) 13039 j = N 13039 j := rd_put_m (by decide) (fun h => absurd h.1 (by decide))
theorem pw_13039 {M : Mm} {N : Nd} {j v : Int} : wr (put M N) 13039 j v = put M (up N 13039 j v) := wr_put_m (by decide) (fun h => absurd h.1 (by decide))
theorem ln_13039 : ln 13039 = 36 := by decide
theorem pt_40 {M : Mm} {N : Nd} : rd (put M N) 12000 40 = N 12000 40 := rd_put_m (by decide) (by decide)
theorem ps_40 {M : Mm} {N : Nd} {v : Int} : wr (put M N) 12000 40 v = put M (up N 12000 40 v) := wr_put_m (by decide) (by decide)
theorem pt_41 {M : Mm} {N : Nd} : rd (put M N) 12000 41 = N 12000 41 := rd_put_m (by decide) (by decide)
theorem ps_41 {M : Mm} {N : Nd} {v : Int} : wr (put M N) 12000 41 v = put M (up N 12000 41 v) := wr_put_m (by decide) (by decide)
theorem pt_42 {M : Mm} {N : Nd} : rd (put M N) 12000 42 = 13042 := by rw [rd_put, if_pos (by decide)]; decide
theorem pa_13042 {M : Mm} {N : Nd} {j : Int} : rd (put M N) 13042 j = N 13042 j := rd_put_m (by decide) (fun h => absurd h.1 (by decide))
theorem pw_13042 {M : Mm} {N : Nd} {j v : Int} : wr (put M N) 13042 j v = put M (up N 13042 j v) := wr_put_m (by decide) (fun h => absurd h.1 (by decide))
theorem ln_13042 : ln 13042 = 3 := by decide
theorem pt_43 {M : Mm} {N : Nd} : rd (put M N) 12000 43 = 13043 := by rw [rd_put, if_pos (by decide)]; decide
theorem pa_13043 {M : Mm} {N : Nd} {j : Int} : rd (put M N) 13043 j = N 13043 j := rd_put_m (by decide) (fun h => absurd h.1 (by decide))
theorem pw_13043 {M : Mm} {N : Nd} {j v : Int} : wr (put M N) 13043 j v = put M (up N 13043 j v) := wr_put_m (by decide) (fun h => absurd h.1 (by decide))
theorem ln_13043 : ln 13043 = 3 := by decide
theorem pt_44 {M : Mm} {N : Nd} : rd (put M N) 12000 44 = 13044 := by rw [rd_put, if_pos (by decide)]; decide
theorem pa_13044 {M : Mm} {N : Nd} {j : Int} : rd (put M N) 13044 j = N 13044 j := rd_put_m (by decide) (fun h => absurd h.1 (by decide))
theorem pw_13044 {M : Mm} {N : Nd} {j v : Int} : wr (put M N) 13044 j v = put M (up N 13044 j v) := wr_put_m (by decide) (fun h => absurd h.1 (by decide))
theorem ln_13044 : ln 13044 = 3 := by decide
theorem pt_45 {M : Mm} {N : Nd} : rd (put M N) 12000 45 = 13045 := by rw [rd_put, if_pos (by decide)]; decide
theorem pa_13045 {M : Mm} {N : Nd} {j : Int} : rd (put M N) 13045 j = N 13045 j := rd_put_m (by decide) (fun h => absurd h.1 (by decide))
theorem pw_13045 {M : Mm} {N : Nd} {j v : Int} : wr (put M N) 13045 j v = put M (up N 13045 j v) := wr_put_m (by decide) (fun h => absurd h.1 (by decide))
theorem ln_13045 : ln 13045 = 3 := by decide
theorem pt_46 {M : Mm} {N : Nd} : rd (put M N) 12000 46 = 13046 := by rw [rd_put, if_pos (by decide)]; decide
theorem pa_13046 {M : Mm} {N : Nd} {j : Int} : rd (put M N) 13046 j = N 13046 j := rd_put_m (by decide) (fun h => absurd h.1 (by decide))
theorem pw_13046 {M : Mm} {N : Nd} {j v : Int} : wr (put M N) 13046 j v = put M (up N 13046 j v) := wr_put_m (by decide) (fun h => absurd h.1 (by decide))
theorem ln_13046 : ln 13046 = 3 := by decide
theorem pt_47 {M : Mm} {N : Nd} : rd (put M N) 12000 47 = 13047 := by rw [rd_put, if_pos (by decide)]; decide
theorem pa_13047 {M : Mm} {N : Nd} {j : Int} : rd (put M N) 13047 j = N 13047 j := rd_put_m (by decide) (fun h => absurd h.1 (by decide))
theorem pw_13047 {M : Mm} {N : Nd} {j v : Int} : wr (put M N) 13047 j v = put M (up N 13047 j v) := wr_put_m (by decide) (fun h => absurd h.1 (by decide))
theorem ln_13047 : ln 13047 = 36 := by decide
theorem pt_48 {M : Mm} {N : Nd} : rd (put M N) 12000 48 = 13048 := by rw [rd_put, if_pos (by decide)]; decide
theorem pa_13048 {M : Mm} {N : Nd} {j : Int} : rd (put M N) 13048 j = N 13048 j := rd_put_m (by decide) (fun h => absurd h.1 (by decide))
theorem pw_13048 {M : Mm} {N : Nd} {j v : Int} : wr (put M N) 13048 j v = put M (up N 13048 j v) := wr_put_m (by decide) (fun h => absurd h.1 (by decide))
theorem ln_13048 : ln 13048 = 36 := by decide
theorem pt_49 {M : Mm} {N : Nd} : rd (put M N) 12000 49 = 13049 := by rw [rd_put, if_pos (by decide)]; decide
theorem pa_13049 {M : Mm} {N : Nd} {j : Int} : rd (put M N) 13049 j = N 13049 j := rd_put_m (by decide) (fun h => absurd h.1 (by decide))
theorem pw_13049 {M : Mm} {N : Nd} {j v : Int} : wr (put M N) 13049 j v = put M (up N 13049 j v) := wr_put_m (by decide) (fun h => absurd h.1 (by decide))
theorem ln_13049 : ln 13049 = 36 := by decide
theorem pt_50 {M : Mm} {N : Nd} : rd (put M N) 12000 50 = 13050 := by rw [rd_put, if_pos (by decide)]; decide
theorem pa_13050 {M : Mm} {N : Nd} {j : Int} : rd (put M N) 13050 j = N 13050 j := rd_put_m (by decide) (fun h => absurd h.1 (by decide))
theorem pw_13050 {M : Mm} {N : Nd} {j v : Int} : wr (put M N) 13050 j v = put M (up N 13050 j v) := wr_put_m (by decide) (fun h => absurd h.1 (by decide))
theorem ln_13050 : ln 13050 = 36 := by decide
theorem pt_51 {M : Mm} {N : Nd} : rd (put M N) 12000 51 = 13051 := by rw [rd_put, if_pos (by decide)]; decide
theorem pa_13051 {M : Mm} {N : Nd} {j : Int} : rd (put M N) 13051 j = N 13051 j := rd_put_m (by decide) (fun h => absurd h.1 (by decide))
theorem pw_13051 {M : Mm} {N : Nd} {j v : Int} : wr (put M N) 13051 j v = put M (up N 13051 j v) := wr_put_m (by decide) (fun h => absurd h.1 (by decide))
theorem ln_13051 : ln 13051 = 36 := by decide
theorem pt_52 {M : Mm} {N : Nd} : rd (put M N) 12000 52 = 13052 := by rw [rd_put, if_pos (by decide)]; decide
theorem pa_13052 {M : Mm} {N : Nd} {j : Int} : rd (put M N) 13052 j = N 13052 j := rd_put_m (by decide) (fun h => absurd h.1 (by decide))
theorem pw_13052 {M : Mm} {N : Nd} {j v : Int} : wr (put M N) 13052 j v = put M (up N 13052 j v) := wr_put_m (by decide) (fun h => absurd h.1 (by decide))
theorem ln_13052 : ln 13052 = 324 := by decide
theorem pt_53 {M : Mm} {N : Nd} : rd (put M N) 12000 53 = 13053 := by rw [rd_put, if_pos (by decide)]; decide
theorem pa_13053 {M : Mm} {N : Nd} {j : Int} : rd (put M N) 13053 j = N 13053 j := rd_put_m (by decide) (fun h => absurd h.1 (by decide))
theorem pw_13053 {M : Mm} {N : Nd} {j v : Int} : wr (put M N) 13053 j v = put M (up N 13053 j v) := wr_put_m (by decide) (fun h => absurd h.1 (by decide))
theorem ln_13053 : ln 13053 = 324 := by decide
theorem pt_54 {M : Mm} {N : Nd} : rd (put M N) 12000 54 = 13054 := by rw [rd_put, if_pos (by decide)]; decide
theorem pa_13054 {M : Mm} {N : Nd} {j : Int} : rd (put M N) 13054 j = N 13054 j := rd_put_m (by decide) (fun h => absurd h.1 (by decide))
theorem pw_13054 {M : Mm} {N : Nd} {j v : Int} : wr (put M N) 13054 j v = put M (up N 13054 j v) := wr_put_m (by decide) (fun h => absurd h.1 (by decide))
theorem ln_13054 : ln 13054 = 324 := by decide
theorem pt_55 {M : Mm} {N : Nd} : rd (put M N) 12000 55 = 13055 := by rw [rd_put, if_pos (by decide)]; decide
theorem pa_13055 {M : Mm} {N : Nd} {j : Int} : rd (put M N) 13055 j = N 13055 j := rd_put_m (by decide) (fun h => absurd h.1 (by decide))
theorem pw_13055 {M : Mm} {N : Nd} {j v : Int} : wr (put M N) 13055 j v = put M (up N 13055 j v) := wr_put_m (by decide) (fun h => absurd h.1 (by decide))
theorem ln_13055 : ln 13055 = 27 := by decide
theorem pt_56 {M : Mm} {N : Nd} : rd (put M N) 12000 56 = 13056 := by rw [rd_put, if_pos (by decide)]; decide
theorem pa_13056 {M : Mm} {N : Nd} {j : Int} : rd (put M N) 13056 j = N 13056 j := rd_put_m (by decide) (fun h => absurd h.1 (by decide))
theorem pw_13056 {M : Mm} {N : Nd} {j v : Int} : wr (put M N) 13056 j v = put M (up N 13056 j v) := wr_put_m (by decide) (fun h => absurd h.1 (by decide))
theorem ln_13056 : ln 13056 = 27 := by decide
theorem pt_57 {M : Mm} {N : Nd} : rd (put M N) 12000 57 = 13057 := by rw [rd_put, if_pos (by decide)]; decide
theorem pa_13057 {M : Mm} {N : Nd} {j : Int} : rd (put M N) 13057 j = N 13057 j := rd_put_m (by decide) (fun h => absurd h.1 (by decide))
theorem pw_13057 {M : Mm} {N : Nd} {j v : Int} : wr (put M N) 13057 j v = put M (up N 13057 j v) := wr_put_m (by decide) (fun h => absurd h.1 (by decide))
theorem ln_13057 : ln 13057 = 27 := by decide
theorem pt_58 {M : Mm} {N : Nd} : rd (put M N) 12000 58 = 13058 := by rw [rd_put, if_pos (by decide)]; decide
theorem pa_13058 {M : Mm} {N : Nd} {j : Int} : rd (put M N) 13058 j = N 13058 j := rd_put_m (by decide) (fun h => absurd h.1 (by decide))
theorem pw_13058 {M : Mm} {N : Nd} {j v : Int} : wr (put M N) 13058 j v = put M (up N 13058 j v) := wr_put_m (by decide) (fun h => absurd h.1 (by decide))
theorem ln_13058 : ln 13058 = 27 := by decide
theorem pt_59 {M : Mm} {N : Nd} : rd (put M N) 12000 59 = 13059 := by rw [rd_put, if_pos (by decide)]; decide
theorem pa_13059 {M : Mm} {N : Nd} {j : Int} : rd (put M N) 13059 j = N 13059 j := rd_put_m (by decide) (fun h => absurd h.1 (by decide))
theorem pw_13059 {M : Mm} {N : Nd} {j v : Int} : wr (put M N) 13059 j v = put M (up N 13059 j v) := wr_put_m (by decide) (fun h => absurd h.1 (by decide))
theorem ln_13059 : ln 13059 = 450 := by decide
theorem pt_60 {M : Mm} {N : Nd} : rd (put M N) 12000 60 = 13060 := by rw [rd_put, if_pos (by decide)]; decide
theorem pa_13060 {M : Mm} {N : Nd} {j : Int} : rd (put M N) 13060 j = N 13060 j := rd_put_m (by decide) (fun h => absurd h.1 (by decide))
theorem pw_13060 {M : Mm} {N : Nd} {j v : Int} : wr (put M N) 13060 j v = put M (up N 13060 j v) := wr_put_m (by decide) (fun h => absurd h.1 (by decide))
theorem ln_13060 : ln 13060 = 450 := by decide
theorem pt_61 {M : Mm} {N : Nd} : rd (put M N) 12000 61 = 13061 := by rw [rd_put, if_pos (by decide)]; decide
theorem pa_13061 {M : Mm} {N : Nd} {j : Int} : rd (put M N) 13061 j = N 13061 j := rd_put_m (by decide) (fun h => absurd h.1 (by decide))
theorem pw_13061 {M : Mm} {N : Nd} {j v : Int} : wr (put M N) 13061 j v = put M (up N 13061 j v) := wr_put_m (by decide) (fun h => absurd h.1 (by decide))
theorem ln_13061 : ln 13061 = 450 := by decide
theorem pt_62 {M : Mm} {N : Nd} : rd (put M N) 12000 62 = 13062 := by rw [rd_put, if_pos (by decide)]; decide
theorem pa_13062 {M : Mm} {N : Nd} {j : Int} : rd (put M N) 13062 j = N 13062 j := rd_put_m (by decide) (fun h => absurd h.1 (by decide))
theorem pw_13062 {M : Mm} {N : Nd} {j v : Int} : wr (put M N) 13062 j v = put M (up N 13062 j v) := wr_put_m (by decide) (fun h => absurd h.1 (by decide))
theorem ln_13062 : ln 13062 = 450 := by decide
theorem pt_63 {M : Mm} {N : Nd} : rd (put M N) 12000 63 = 13063 := by rw [rd_put, if_pos (by decide)]; decide
theorem pa_13063 {M : Mm} {N : Nd} {j : Int} : rd (put M N) 13063 j = N 13063 j := rd_put_m (by decide) (fun h => absurd h.1 (by decide))
theorem pw_13063 {M : Mm} {N : Nd} {j v : Int} : wr (put M N) 13063 j v = put M (up N 13063 j v) := wr_put_m (by decide) (fun h => absurd h.1 (by decide))
theorem ln_13063 : ln 13063 = 450 := by decide
theorem pt_64 {M : Mm} {N : Nd} : rd (put M N) 12000 64 = 13064 := by rw [rd_put, if_pos (by decide)]; decide
theorem pa_13064 {M : Mm} {N : Nd} {j : Int} : rd (put M N) 13064 j = N 13064 j := rd_put_m (by decide) (fun h => absurd h.1 (by decide))
theorem pw_13064 {M : Mm} {N : Nd} {j v : Int} : wr (put M N) 13064 j v = put M (up N 13064 j v) := wr_put_m (by decide) (fun h => absurd h.1 (by decide))
theorem ln_13064 : ln 13064 = 450 := by decide
theorem pt_65 {M : Mm} {N : Nd} : rd (put M N) 12000 65 = 13065 := by rw [rd_put, if_pos (by decide)]; decide
theorem pa_13065 {M : Mm} {N : Nd} {j : Int} : rd (put M N) 13065 j = N 13065 j := rd_put_m (by decide) (fun h => absurd h.1 (by decide))
theorem pw_13065 {M : Mm} {N : Nd} {j v : Int} : wr (put M N) 13065 j v = put M (up N 13065 j v) := wr_put_m (by decide) (fun h => absurd h.1 (by decide))
theorem ln_13065 : ln 13065 = 12 := by decide
theorem pt_66 {M : Mm} {N : Nd} : rd (put M N) 12000 66 = 13066 := by rw [rd_put, if_pos (by decide)]; decide
theorem pa_13066 {M : Mm} {N : Nd} {j : Int} : rd (put M N) 13066 j = N 13066 j := rd_put_m (by decide) (fun h => absurd h.1 (by decide))
theorem pw_13066 {M : Mm} {N : Nd} {j v : Int} : wr (put M N) 13066 j v = put M (up N 13066 j v) := wr_put_m (by decide) (fun h => absurd h.1 (by decide))
theorem ln_13066 : ln 13066 = 12 := by decide
theorem pt_67 {M : Mm} {N : Nd} : rd (put M N) 12000 67 = 13067 := by rw [rd_put, if_pos (by decide)]; decide
theorem pa_13067 {M : Mm} {N : Nd} {j : Int} : rd (put M N) 13067 j = N 13067 j := rd_put_m (by decide) (fun h => absurd h.1 (by decide))
theorem pw_13067 {M : Mm} {N : Nd} {j v : Int} : wr (put M N) 13067 j v = put M (up N 13067 j v) := wr_put_m (by decide) (fun h => absurd h.1 (by decide))
theorem ln_13067 : ln 13067 = 9 := by decide
