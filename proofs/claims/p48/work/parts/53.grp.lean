/-! PURE PART, 53: groups: how the class's table says what the model's says, and what holds of them -/
abbrev gR (N : Nd) (g p : Int) : Prop := 0 ≤ p ∧ p < (N 12000 11) ∧ bt (N 13042 g) (N 13012 p) = true
def obj (g o : Int) : Int := if o = -1 then 0 else 4000 + (12 * g + o)
abbrev hn (N : Nd) (g j : Int) : Int := N 13051 (12 * g + j)
abbrev hf (N : Nd) (g j k : Int) : Int := N 13052 (9 * (12 * g + j) + k)
def GO (C : Cd) (N : Nd) (g : Int) : Prop := C 1000 g 0 = 24000 + g ∧ C 1000 g 1 = 19000 + g ∧ C 1000 g 2 = 17000 + g ∧ C 1000 g 3 = 3000 + g ∧ C 1000 g 4 = 3003 + g ∧ C 1000 g 5 = N 13044 g ∧ C 1000 g 6 = N 13043 g ∧ C 1000 g 7 = N 13045 g ∧ C 1000 g 8 = su (fun p => if gR N g p then 1 else 0) 0 9
def GSh (C : Cd) (N : Nd) (g : Int) : Prop := ∀ p, 0 ≤ p → p < 9 → C 24000 g p = (if gR N g p then 9000 + (9 * g + p) else 0) ∧ (gR N g p → C 9000 (9 * g + p) 0 = 6000 + p ∧ C 9000 (9 * g + p) 1 = obj g (N 13055 (9 * g + p)) ∧ C 9000 (9 * g + p) 2 = obj g (N 13056 (9 * g + p)) ∧ C 9000 (9 * g + p) 3 = N 13057 (9 * g + p) ∧ C 9000 (9 * g + p) 4 = N 13058 (9 * g + p))
def GMe (C : Cd) (N : Nd) (g : Int) : Prop := ∀ j, 0 ≤ j → j < 12 → C 19000 g j = (if N 13047 (12 * g + j) = 1 then 4000 + (12 * g + j) else 0) ∧ (N 13047 (12 * g + j) = 1 → C 4000 (12 * g + j) 0 = j ∧ C 4000 (12 * g + j) 1 = 3006 + (12 * g + j) ∧ C 4000 (12 * g + j) 2 = N 13048 (12 * g + j) ∧ C 4000 (12 * g + j) 3 = N 13049 (12 * g + j) ∧ C 4000 (12 * g + j) 4 = N 13050 (12 * g + j))
def GHa (C : Cd) (N : Nd) (g : Int) : Prop := ∀ j, 0 ≤ j → j < 12 → N 13047 (12 * g + j) = 1 → LSr C 3006 17106 (12 * g + j) g (hn N g j) (hf N g j) ∧ ∀ k, 0 ≤ k → k < hn N g j →
  (0 ≤ hf N g j k ∧ hf N g j k < (N 12000 19) ∧ C 2000 (150 * g + hf N g j k) 1 = 2 ∧ C 2000 (150 * g + hf N g j k) 3 = N 13053 (9 * (12 * g + j) + k) ∧ C 2000 (150 * g + hf N g j k) 4 = N 13054 (9 * (12 * g + j) + k)) ∧
  (N 13055 (9 * g + N 13021 (hf N g j k)) = j ∧ (0 ≤ N 13053 (9 * (12 * g + j) + k) ∧ N 13053 (9 * (12 * g + j) + k) ≤ 2) ∧ (N 13054 (9 * (12 * g + j) + k) = 0 ∨ N 13054 (9 * (12 * g + j) + k) = 1) ∧ (N 13054 (9 * (12 * g + j) + k) = 0 → N 13026 (hf N g j k) < N 13058 (9 * g + N 13021 (hf N g j k)))) ∧ ∀ i, 0 ≤ i → i < k → hf N g j i ≠ hf N g j k
def GLe (C : Cd) (N : Nd) (g : Int) : Prop := ∀ m, 0 ≤ m → m < 150 → (C 17000 g m = 0 ∨ C 17000 g m = 2000 + (150 * g + m)) ∧ (C 17000 g m ≠ 0 → m < (N 12000 19) ∧ C 2000 (150 * g + m) 0 = 5000 + m ∧ (N 13024 m = 3 ∨ canR N m) ∧ gR N g (N 13021 m)) ∧ (C 17000 g m = 0 → C 2000 (150 * g + m) 1 = 0 ∧ C 2000 (150 * g + m) 6 = 0 ∧ N 13064 (150 * g + m) = 0) ∧
  (C 17000 g m ≠ 0 → C 2000 (150 * g + m) 5 = N 13064 (150 * g + m)) ∧ ((N 13059 (150 * g + m) = 0 ∨ N 13059 (150 * g + m) = 1) ∧ (N 13062 (150 * g + m) = 0 ∨ N 13062 (150 * g + m) = 1)) ∧ (C 2000 (150 * g + m) 1 = 1 ↔ N 13059 (150 * g + m) = 1) ∧ (C 2000 (150 * g + m) 1 = 3 ↔ N 13062 (150 * g + m) = 1) ∧
  (C 2000 (150 * g + m) 1 = 2 → N 13055 (9 * g + N 13021 m) ≠ -1 ∧ ∃ k, 0 ≤ k ∧ k < hn N g (N 13055 (9 * g + N 13021 m)) ∧ hf N g (N 13055 (9 * g + N 13021 m)) k = m) ∧ (0 ≤ C 2000 (150 * g + m) 1 ∧ C 2000 (150 * g + m) 1 ≤ 3) ∧
  (N 13059 (150 * g + m) = 1 → C 2000 (150 * g + m) 2 = N 13060 (150 * g + m) ∧ C 2000 (150 * g + m) 3 = N 13061 (150 * g + m) ∧ 0 ≤ N 13061 (150 * g + m) ∧ N 13061 (150 * g + m) ≤ 2 ∧ 0 ≤ N 13060 (150 * g + m) ∧ N 13060 (150 * g + m) ≤ 400001000)
/-- by due ticks, then numbers -/
abbrev lw (N : Nd) (g a b : Int) : Prop := N 13060 (150 * g + a) < N 13060 (150 * g + b) ∨ (N 13060 (150 * g + a) = N 13060 (150 * g + b) ∧ a < b)
def GW1 (C : Cd) (N : Nd) (g n : Int) (f : Int → Int) : Prop := LSr C 3000 17100 g g n f ∧ (0 ≤ n ∧ n ≤ 150) ∧ (∀ i, 0 ≤ i → i < n → 0 ≤ f i ∧ f i < 150 ∧ N 13059 (150 * g + f i) = 1) ∧ (∀ i k, 0 ≤ i → i < k → k < n → lw N g (f i) (f k)) ∧ ∀ m, 0 ≤ m → m < 150 → N 13059 (150 * g + m) = 1 → ∃ i, 0 ≤ i ∧ i < n ∧ f i = m
def GWa (C : Cd) (N : Nd) (g : Int) : Prop := ∃ n f, GW1 C N g n f
def GDe (C : Cd) (N : Nd) (g : Int) : Prop := LSr C 3003 17103 g g (N 13046 g) (fun k => N 13063 (150 * g + k)) ∧ (0 ≤ N 13046 g ∧ N 13046 g ≤ 150) ∧ (∀ k, 0 ≤ k → k < N 13046 g → (0 ≤ N 13063 (150 * g + k) ∧ N 13063 (150 * g + k) < 150 ∧ N 13062 (150 * g + N 13063 (150 * g + k)) = 1) ∧ ∀ i, 0 ≤ i → i < k → N 13063 (150 * g + i) ≠ N 13063 (150 * g + k)) ∧ ∀ m, 0 ≤ m → m < 150 → N 13062 (150 * g + m) = 1 → ∃ i, 0 ≤ i ∧ i < N 13046 g ∧ N 13063 (150 * g + i) = m
def GNm (N : Nd) (g : Int) : Prop := ∀ j, 0 ≤ j → j < 12 → (N 13047 (12 * g + j) = 0 ∨ N 13047 (12 * g + j) = 1) ∧ (N 13044 g ≤ j → N 13047 (12 * g + j) = 0 ∧ hn N g j = 0) ∧ (N 13047 (12 * g + j) = 1 → (1 ≤ N 13049 (12 * g + j) ∧ N 13049 (12 * g + j) ≤ 9) ∧ (0 ≤ hn N g j ∧ hn N g j ≤ N 13049 (12 * g + j)) ∧ (-1 ≤ N 13050 (12 * g + j) ∧ N 13050 (12 * g + j) ≤ 8) ∧ (0 ≤ N 13048 (12 * g + j) ∧ N 13048 (12 * g + j) ≤ (N 12000 1)))
def GNp (N : Nd) (g : Int) : Prop := ∀ p, 0 ≤ p → p < 9 → ((N 13055 (9 * g + p) = -1 ∨ (0 ≤ N 13055 (9 * g + p) ∧ N 13055 (9 * g + p) < 12 ∧ N 13047 (12 * g + N 13055 (9 * g + p)) = 1 ∧ gR N g p)) ∧ (N 13056 (9 * g + p) = -1 ∨ (0 ≤ N 13056 (9 * g + p) ∧ N 13056 (9 * g + p) < 12 ∧ N 13047 (12 * g + N 13056 (9 * g + p)) = 1 ∧ gR N g p))) ∧ (0 ≤ N 13057 (9 * g + p) ∧ N 13057 (9 * g + p) ≤ 60) ∧ (0 ≤ N 13058 (9 * g + p) ∧ N 13058 (9 * g + p) ≤ 60)
/-- of how many partitions a member is the target -/
def tcn (N : Nd) (g j : Int) : Int := su (fun p => if gR N g p ∧ N 13056 (9 * g + p) = j then 1 else 0) 0 9
def mcn (N : Nd) (g : Int) : Int := su (fun j => N 13047 (12 * g + j)) 0 12
def GNu (N : Nd) (g : Int) : Prop := (0 ≤ N 13042 g ∧ N 13042 g ≤ 7 ∧ ∀ t, 0 ≤ t → t < 3 → bt (N 13042 g) t = true → t < (N 12000 4)) ∧ (0 ≤ N 13044 g ∧ N 13044 g ≤ 12) ∧ N 13043 g = 2 * N 13044 g - mcn N g ∧ (∀ i j, 0 ≤ i → i < 12 → 0 ≤ j → j < 12 → N 13047 (12 * g + i) = 1 → N 13047 (12 * g + j) = 1 → tcn N g i ≤ tcn N g j + 1) ∧ (0 < mcn N g → ∀ p, 0 ≤ p → p < 9 → gR N g p → N 13056 (9 * g + p) ≠ -1)
def GA (C : Cd) (N : Nd) (g : Int) : Prop := GO C N g ∧ GSh C N g ∧ GMe C N g ∧ GHa C N g ∧ GLe C N g ∧ GWa C N g ∧ GDe C N g ∧ GNm N g ∧ GNp N g ∧ GNu N g
/-- first deliveries, the offset of the latest seek -/
abbrev Fdl (C : Cd) (g m : Int) : Int := C 2000 (150 * g + m) 6
abbrev So (C : Cd) (g p : Int) : Int := C 9000 (9 * g + p) 5
/-- that is through with -/
abbrev Pd (C : Cd) (N : Nd) (g m : Int) : Prop := 0 < Fdl C g m ∨ N 13059 (150 * g + m) = 1
def GIn (C : Cd) (N : Nd) (g : Int) : Prop :=
  (∀ a b, 0 ≤ a → a < (N 12000 19) → 0 ≤ b → b < (N 12000 19) → Pd C N g a → canR N b → N 13021 a = N 13021 b → So C g (N 13021 b) ≤ N 13026 b → N 13026 b ≤ N 13026 a → Pd C N g b) ∧
  (∀ b, 0 ≤ b → b < (N 12000 19) → canR N b → gR N g (N 13021 b) → So C g (N 13021 b) ≤ N 13026 b → (N 13026 b < N 13057 (9 * g + N 13021 b) ∨ (N 13055 (9 * g + N 13021 b) ≠ -1 ∧ N 13026 b < N 13058 (9 * g + N 13021 b))) → Pd C N g b) ∧
  (∀ a b, 0 ≤ a → a < (N 12000 19) → 0 ≤ b → b < (N 12000 19) → N 13059 (150 * g + b) = 1 → Fdl C g b = 0 → 0 < Fdl C g a → N 13021 a = N 13021 b → N 13022 a = N 13022 b → N 13026 a < N 13026 b) ∧
  (∀ a b, 0 ≤ a → a < (N 12000 19) → 0 ≤ b → b < (N 12000 19) → 0 < Fdl C g a → Fdl C g a < Fdl C g b → N 13021 a = N 13021 b → N 13022 a = N 13022 b → N 13026 a < N 13026 b) ∧
  (∀ p, gR N g p → (So C g p = 0 ∧ So C g p ≤ N 13057 (9 * g + p) ∧ (N 13057 (9 * g + p) ≤ So C g p ∨ N 13057 (9 * g + p) ≤ so N p)) ∧ (N 13055 (9 * g + p) ≠ -1 → So C g p ≤ N 13058 (9 * g + p) ∧ (N 13058 (9 * g + p) ≤ So C g p ∨ N 13058 (9 * g + p) ≤ so N p))) ∧
  (∀ m, 0 ≤ m → m < 150 → (C 2000 (150 * g + m) 1 = 2 ∨ C 2000 (150 * g + m) 1 = 3 → 0 < Fdl C g m) ∧ 0 ≤ Fdl C g m ∧ Fdl C g m ≤ C 1000 g 9 ∧ (Pd C N g m → So C g (N 13021 m) ≤ N 13026 m))
def GR (C : Cd) (N : Nd) (g : Int) : Prop := GA C N g ∧ GIn C N g
/-- producers: what they have attached -/
abbrev PX1 (C : Cd) (N : Nd) (x : Int) : Prop := (N 13035 x = 0 → C 7000 x 5 = 0 ∧ (0 ≤ N 13033 x → ∀ p, 0 ≤ p → p < 9 → N 13039 (9 * x + p) = -1)) ∧ (0 ≤ N 13035 x ∧ N 13035 x ≤ 9) ∧
  (N 13035 x ≠ 0 → (0 ≤ N 13036 x ∧ N 13036 x < (N 12000 41) ∧ 0 ≤ N 13037 x ∧ N 13037 x < 12) ∧ (C 7000 x 5 = 1000 + N 13036 x ∧ C 7000 x 6 = 4000 + (12 * N 13036 x + N 13037 x) ∧ C 7000 x 7 = N 13038 x) ∧ N 13038 x ≤ N 13043 (N 13036 x) ∧
    ∀ p, 0 ≤ p → p < 9 → C 13500 x p = N 13039 (9 * x + p) ∧ (-1 ≤ N 13039 (9 * x + p) ∧ N 13039 (9 * x + p) ≤ 60) ∧ (0 ≤ N 13039 (9 * x + p) → gR N (N 13036 x) p ∧ (N 13038 x = N 13043 (N 13036 x) →
      (N 13055 (9 * N 13036 x + p) ≠ N 13037 x → N 13056 (9 * N 13036 x + p) ≠ N 13037 x) ∧ (N 13055 (9 * N 13036 x + p) = N 13037 x → (So C (N 13036 x) p ≤ N 13039 (9 * x + p) ∧ (N 13039 (9 * x + p) ≤ So C (N 13036 x) p ∨ N 13039 (9 * x + p) ≤ so N p)) ∧ ∀ b, 0 ≤ b → b < (N 12000 19) → canR N b → N 13021 b = p → So C (N 13036 x) p ≤ N 13026 b → N 13026 b < N 13039 (9 * x + p) → Pd C N (N 13036 x) b))))
def PX (C : Cd) (N : Nd) : Prop := ∀ x, 0 ≤ x → x < (N 12000 30) → PX1 C N x
section
variable {C : Cd} {N : Nd} {g : Int}
theorem GA.o (a : GA C N g) : GO C N g := a.1
theorem GA.sh (a : GA C N g) : GSh C N g := a.2.1
theorem GA.me (a : GA C N g) : GMe C N g := a.2.2.1
theorem GA.ha (a : GA C N g) : GHa C N g := a.2.2.2.1
theorem GA.le (a : GA C N g) : GLe C N g := a.2.2.2.2.1
theorem GA.wa (a : GA C N g) : GWa C N g := a.2.2.2.2.2.1
theorem GA.de (a : GA C N g) : GDe C N g := a.2.2.2.2.2.2.1
theorem GA.nm (a : GA C N g) : GNm N g := a.2.2.2.2.2.2.2.1
theorem GA.np (a : GA C N g) : GNp N g := a.2.2.2.2.2.2.2.2.1
theorem GA.nu (a : GA C N g) : GNu N g := a.2.2.2.2.2.2.2.2.2
theorem GA.un (a : GA C N g) {m : Int} (h1 : 0 ≤ m) (h2 : m < 150) (h : Pd C N g m) : C 17000 g m ≠ 0 := fun e => by
  obtain ⟨-, -, x, -, -, y, -⟩ := a.le m h1 h2
  have x0 := x e
  rcases h with h | h
  · have : C 2000 (150 * g + m) 6 = 0 := x0.2.1
    have h' : 0 < C 2000 (150 * g + m) 6 := h
    omega
  · have := y.mpr h
    omega
end
/-- the cells of groups -/
def gcell (b : Int) : Bool := b == 1000 || b == 2000 || b == 3000 || b == 3003 || b == 3006 || b == 4000 || b == 9000 || b == 17000 || b == 17100 || b == 17103 || b == 17106 || b == 19000 || b == 24000
/-- the model's arrays of groups -/
def garr (a : Int) : Bool := decide (13042 ≤ a ∧ a ≤ 13064)
/-- a step that leaves groups alone -/
def SG (C C' : Cd) (N N' : Nd) : Prop := (∀ b, gcell b = true → C' b = C b) ∧ (∀ a, garr a = true → N' a = N a)
theorem tcn_eq {N N' : Nd} {g j : Int} (hr : ∀ p, gR N' g p ↔ gR N g p) (h : ∀ p, N' 13056 (9 * g + p) = N 13056 (9 * g + p)) : tcn N' g j = tcn N g j := by
  refine su_congr fun p _ _ => ?_
  have e : (gR N' g p ∧ N' 13056 (9 * g + p) = j) ↔ (gR N g p ∧ N 13056 (9 * g + p) = j) := by rw [h p]; exact and_congr (hr p) Iff.rfl
  by_cases z : gR N g p ∧ N 13056 (9 * g + p) = j
  · rw [if_pos z, if_pos (e.mpr z)]
  · rw [if_neg z, if_neg (fun y => z (e.mp y))]
theorem GA.step {C C' : Cd} {N N' : Nd} {g : Int} (g0 : RG N) (ms : MS N) (a : GA C N g) (s : SG C C' N N') (mo : Mo N N') (hr : ∀ p, gR N' g p ↔ gR N g p) (ht : (N 12000 4) ≤ (N' 12000 4)) (hw : (N 12000 1) ≤ (N' 12000 1)) : GA C' N' g := by
  have e0 := s.1 1000 (by decide); have e1 := s.1 2000 (by decide); have e2 := s.1 3000 (by decide); have e3 := s.1 3003 (by decide); have e4 := s.1 3006 (by decide); have e5 := s.1 4000 (by decide); have e6 := s.1 9000 (by decide)
  have e7 := s.1 17000 (by decide); have e8 := s.1 17100 (by decide); have e9 := s.1 17103 (by decide); have f0 := s.1 17106 (by decide); have f1 := s.1 19000 (by decide); have f2 := s.1 24000 (by decide)
  have n0 := s.2 13042 (by decide); have n1 := s.2 13043 (by decide); have n2 := s.2 13044 (by decide); have n3 := s.2 13045 (by decide); have n4 := s.2 13046 (by decide); have n5 := s.2 13047 (by decide); have n6 := s.2 13048 (by decide); have n7 := s.2 13049 (by decide); have n8 := s.2 13050 (by decide); have n9 := s.2 13051 (by decide)
  have m0 := s.2 13052 (by decide); have m1 := s.2 13053 (by decide); have m2 := s.2 13054 (by decide); have m3 := s.2 13055 (by decide); have m4 := s.2 13056 (by decide); have m5 := s.2 13057 (by decide); have m6 := s.2 13058 (by decide); have m7 := s.2 13059 (by decide); have m8 := s.2 13060 (by decide); have m9 := s.2 13061 (by decide)
  have k0 := s.2 13062 (by decide); have k1 := s.2 13063 (by decide); have k2 := s.2 13064 (by decide)
  have mm := mo.1.2
  have kp : ∀ m, 0 ≤ m → m < (N 12000 19) → N' 13021 m = N 13021 m := fun m a b => (mo.2.2.1 m a b).1.1
  refine ⟨?_, ?_, ?_, ?_, ?_, ?_, ?_, ?_, ?_, ?_⟩
  · unfold GO; rw [e0, n1, n2, n3]; simp only [hr]; exact a.o
  · unfold GSh; rw [f2, e6, m3, m4, m5, m6]; simp only [hr]; exact a.sh
  · unfold GMe; rw [f1, e5, n5, n6, n7, n8]; exact a.me
  · unfold GHa hn hf LSr; rw [n5, n9, m0, m1, m2, m3, m6, e4, f0, e1]
    intro j j1 j2 j3
    obtain ⟨x1, x2⟩ := a.ha j j1 j2 j3
    refine ⟨x1, fun k k1 k2 => ?_⟩
    obtain ⟨⟨y1, y2, y3⟩, y4, y5⟩ := x2 k k1 k2
    have y1' : 0 ≤ N 13052 (9 * (12 * g + j) + k) := y1
    have y2' : N 13052 (9 * (12 * g + j) + k) < (N 12000 19) := y2
    have s5 := g0.s.2.2.2.2.1
    have ll := a.le _ y1' (by omega)
    have kn : C 17000 g (N 13052 (9 * (12 * g + j) + k)) ≠ 0 := fun z => by
      have := (ll.2.2.1 z).1
      have y3' : C 2000 (150 * g + N 13052 (9 * (12 * g + j) + k)) 1 = 2 := y3.1
      omega
    have of : N' 13026 (N 13052 (9 * (12 * g + j) + k)) = N 13026 (N 13052 (9 * (12 * g + j) + k)) := by
      have z := mo.2.2.1 _ y1' y2'
      rcases (ll.2.1 kn).2.2.1 with q | q
      · exact (z.2.1 q).2
      · exact (z.2.2 q).1
    rw [kp _ y1' y2', of]
    exact ⟨⟨y1, by omega, y3⟩, y4, y5⟩
  · unfold GLe hn hf; rw [e7, e1, k2, m7, k0, m3, n9, m0, m8, m9]
    intro m a1 a2
    obtain ⟨x1, x2, x3, x4, x5, x6, x7, x8, x9, x0⟩ := a.le m a1 a2
    refine ⟨x1, fun z => ?_, x3, x4, x5, x6, x7, fun z => ?_, x9, x0⟩
    · obtain ⟨y1, y2, y3, y4⟩ := x2 z
      refine ⟨by omega, y2, ?_, by rw [hr, kp m a1 y1]; exact y4⟩
      rcases y3 with y3 | y3
      · exact Or.inl ((mo.2.2.1 m a1 y1).2.1 y3).1
      · exact mo.can g0 a1 y1 y3
    · have lt : m < (N 12000 19) := by
        by_cases q : C 17000 g m = 0
        · have := (x3 q).1; omega
        · exact (x2 q).1
      rw [kp m a1 lt]; exact x8 z
  · unfold GWa GW1 LSr lw; rw [e2, e8, m7, m8]; exact a.wa
  · unfold GDe LSr; rw [e3, e9, n4, k1, k0]; exact a.de
  · unfold GNm hn; rw [n5, n2, n9, n7, n8, n6]
    intro j j1 j2
    obtain ⟨x1, x2, x3⟩ := a.nm j j1 j2
    exact ⟨x1, x2, fun z => ⟨(x3 z).1, (x3 z).2.1, (x3 z).2.2.1, by have := (x3 z).2.2.2; omega⟩⟩
  · unfold GNp; rw [m3, m4, m5, m6, n5]; simp only [hr]; exact a.np
  · obtain ⟨x1, x2, x3⟩ := a.nu
    have tc : ∀ j, tcn N' g j = tcn N g j := fun j => tcn_eq hr (fun p => by rw [m4])
    have mc : mcn N' g = mcn N g := by unfold mcn; rw [n5]
    unfold GNu
    rw [mc, n0, n2, n1, n5, m4]
    simp only [tc, hr]
    exact ⟨⟨x1.1, x1.2.1, fun t t1 t2 t3 => by have := x1.2.2 t t1 t2 t3; omega⟩, x2, x3⟩
theorem Mo.back {C : Cd} {N N' : Nd} {g a b : Int} (g0 : RG N) (g1 : RG N') (ms : MS N) (ga : GA C N g) (mo : Mo N N') (a1 : 0 ≤ a) (a2 : a < 150) (h : C 17000 g a ≠ 0) (b1 : 0 ≤ b) (b2 : b < (N' 12000 19)) (hp : N' 13021 a = N' 13021 b) (hc : canR N' b) (ho : N' 13026 b ≤ N' 13026 a) : b < (N 12000 19) ∧ canR N b ∧ N' 13026 b = N 13026 b ∧ N' 13026 a = N 13026 a ∧ N' 13021 b = N 13021 b ∧ N' 13021 a = N 13021 a := by
  obtain ⟨y1, -, y3, -⟩ := (ga.le a a1 a2).2.1 h
  have z := mo.2.2.1 a a1 y1
  have gp := (g0.m a a1 y1).2.1
  have of : N' 13026 a = N 13026 a ∧ N 13026 a < so N (N 13021 a) := by
    rcases y3 with q | q
    · exact ⟨(z.2.1 q).2, (ms a a1 y1).2.1 q⟩
    · exact ⟨(z.2.2 q).1, q.2.1⟩
  have e : N' 13021 b = N 13021 a := hp.symm.trans z.1.1
  obtain ⟨c1, c2⟩ := mo.2.2.2 b b1 b2 (by rw [e]; exact gp.2) hc (by rw [e]; omega)
  have zb := mo.2.2.1 b b1 c1
  exact ⟨c1, c2, (zb.2.2 c2).1, of.1, zb.1.1, z.1.1⟩
theorem GIn.step {C C' : Cd} {N N' : Nd} {g : Int} (g0 : RG N) (g1 : RG N') (ms : MS N) (ga : GA C N g) (a : GIn C N g) (s : SG C C' N N') (mo : Mo N N') (hr : ∀ p, gR N' g p ↔ gR N g p) : GIn C' N' g := by
  have e0 := s.1 1000 (by decide); have e1 := s.1 2000 (by decide); have e6 := s.1 9000 (by decide)
  have m3 := s.2 13055 (by decide); have m5 := s.2 13057 (by decide); have m6 := s.2 13058 (by decide); have m7 := s.2 13059 (by decide)
  have s5 := g1.s.2.2.2.2.1
  obtain ⟨x1, x2, x3, x4, x5, x6⟩ := a
  have kn : ∀ m, 0 ≤ m → m < (N' 12000 19) → Pd C N g m → m < (N 12000 19) ∧ C 17000 g m ≠ 0 := fun m h1 h2 h => by
    have u := ga.un h1 (by omega) h
    exact ⟨((ga.le m h1 (by omega)).2.1 u).1, u⟩
  have off : ∀ m, 0 ≤ m → m < (N' 12000 19) → Pd C N g m → N' 13026 m = N 13026 m ∧ N' 13021 m = N 13021 m ∧ N' 13022 m = N 13022 m := fun m h1 h2 h => by
    obtain ⟨k1, k2⟩ := kn m h1 h2 h
    have z := mo.2.2.1 m h1 k1
    refine ⟨?_, z.1⟩
    rcases ((ga.le m h1 (by omega)).2.1 k2).2.2.1 with q | q
    · exact (z.2.1 q).2
    · exact (z.2.2 q).1
  unfold GIn Pd Fdl So
  rw [e0, e1, e6, m3, m5, m6, m7]
  refine ⟨fun u v u1 u2 v1 v2 hp hc hq h1 h2 => ?_, fun v v1 v2 hc hg h1 h2 => ?_, fun u v u1 u2 v1 v2 h1 h2 h3 h4 h5 => ?_, fun u v u1 u2 v1 v2 h1 h2 h4 h5 => ?_, fun p hg => ?_, fun m m1 m2 => ?_⟩
  · obtain ⟨k1, k2⟩ := kn u u1 u2 hp
    obtain ⟨c1, c2, c3, c4, c5, c6⟩ := Mo.back g0 g1 ms ga mo u1 (by omega) k2 v1 v2 hq hc h2
    rw [c5] at h1 hq
    rw [c6] at hq
    rw [c3] at h1 h2
    rw [c4] at h2
    exact x1 u v u1 k1 v1 c1 hp c2 hq h1 h2
  · have gg := (hr _).mp hg
    have y := x5 _ gg
    have sm := (mo.2.1 _ gg.1 gg.2.1).1
    have lt : N' 13026 v < so N (N' 13021 v) := by
      have e9 : So C g (N' 13021 v) = C 9000 (9 * g + N' 13021 v) 5 := rfl
      rcases h2 with h2 | ⟨h2, h3⟩
      · omega
      · have := y.2 h2; omega
    obtain ⟨c1, c2⟩ := mo.2.2.2 v v1 v2 gg.2.1 hc lt
    have zb := mo.2.2.1 v v1 c1
    have c3 := (zb.2.2 c2).1
    rw [c3, zb.1.1] at h2
    rw [c3, zb.1.1] at h1
    exact x2 v v1 c1 c2 (by rw [← zb.1.1]; exact gg) h1 h2
  · have p1 : Pd C N g u := Or.inl h3
    have p2 : Pd C N g v := Or.inr h1
    obtain ⟨a1, a2, a3⟩ := off u u1 u2 p1
    obtain ⟨b1, b2, b3⟩ := off v v1 v2 p2
    rw [a1, b1]
    exact x3 u v u1 (kn u u1 u2 p1).1 v1 (kn v v1 v2 p2).1 h1 h2 h3 (by rw [← a2, ← b2]; exact h4) (by rw [← a3, ← b3]; exact h5)
  · have p1 : Pd C N g u := Or.inl h1
    have p2 : Pd C N g v := Or.inl (by have h1' : 0 < C 2000 (150 * g + u) 6 := h1; have h2' : C 2000 (150 * g + u) 6 < C 2000 (150 * g + v) 6 := h2; show 0 < C 2000 (150 * g + v) 6; omega)
    obtain ⟨a1, a2, a3⟩ := off u u1 u2 p1
    obtain ⟨b1, b2, b3⟩ := off v v1 v2 p2
    rw [a1, b1]
    exact x4 u v u1 (kn u u1 u2 p1).1 v1 (kn v v1 v2 p2).1 h1 h2 (by rw [← a2, ← b2]; exact h4) (by rw [← a3, ← b3]; exact h5)
  · have gg := (hr p).mp hg
    have sm := (mo.2.1 _ gg.1 gg.2.1).1
    have y := x5 p gg
    have e9 : So C g p = C 9000 (9 * g + p) 5 := rfl
    rw [e9] at y
    exact ⟨⟨y.1.1, y.1.2.1, by omega⟩, fun z => ⟨(y.2 z).1, by have := (y.2 z).2; omega⟩⟩
  · obtain ⟨y1, y2, y3, y4⟩ := x6 m m1 m2
    refine ⟨y1, y2, y3, fun h => ?_⟩
    have u := ga.un m1 m2 h
    have lt := ((ga.le m m1 m2).2.1 u).1
    have mm := mo.1.2
    obtain ⟨a1, a2, a3⟩ := off m m1 (by omega) h
    rw [a1, a2]
    exact y4 h
