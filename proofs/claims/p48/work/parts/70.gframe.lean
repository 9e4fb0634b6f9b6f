/-! PURE PART, 70: a call on one group: what is told of all else -/
/-- the cells of group g -/
def inG (g b i : Int) : Prop := ((b = 1000 ∨ b = 3000 ∨ b = 3003 ∨ b = 17000 ∨ b = 17100 ∨ b = 17103 ∨ b = 19000) ∧ i = g) ∨ (b = 2000 ∧ 150 * g ≤ i ∧ i < 150 * g + 150) ∨ ((b = 3006 ∨ b = 4000 ∨ b = 17106) ∧ 12 * g ≤ i ∧ i < 12 * g + 12) ∨ (b = 9000 ∧ 9 * g ≤ i ∧ i < 9 * g + 9)
/-- the model's cells of group g, and its scratch rows -/
def inN (g a i : Int) : Prop := (13043 ≤ a ∧ a ≤ 13046 ∧ i = g) ∨ (13047 ≤ a ∧ a ≤ 13051 ∧ 12 * g ≤ i ∧ i < 12 * g + 12) ∨ (13052 ≤ a ∧ a ≤ 13054 ∧ 108 * g ≤ i ∧ i < 108 * g + 108) ∨ (13055 ≤ a ∧ a ≤ 13058 ∧ 9 * g ≤ i ∧ i < 9 * g + 9) ∨ (13059 ≤ a ∧ a ≤ 13064 ∧ 150 * g ≤ i ∧ i < 150 * g + 150) ∨ (13065 ≤ a ∧ a ≤ 13067)
def KG (g : Int) (C C' : Cd) : Prop := ∀ b i j, ¬ inG g b i → C' b i j = C b i j
def MG (g : Int) (N N' : Nd) : Prop := ∀ a i, ¬ inN g a i → N' a i = N a i
theorem KG.rf {g : Int} {C : Cd} : KG g C C := fun _ _ _ _ => rfl
theorem MG.rf {g : Int} {N : Nd} : MG g N N := fun _ _ _ => rfl
theorem KG.tr {g : Int} {C C1 C2 : Cd} (h : KG g C C1) (h2 : KG g C1 C2) : KG g C C2 := fun b i j x => (h2 b i j x).trans (h b i j x)
theorem MG.tr {g : Int} {N N1 N2 : Nd} (h : MG g N N1) (h2 : MG g N1 N2) : MG g N N2 := fun a i x => (h2 a i x).trans (h a i x)
theorem KG.uq {g b i j v : Int} {C C1 : Cd} (h : KG g C C1) (h2 : inG g b i) : KG g C (uq C1 b i j v) := fun b' i' j' x => by
  rw [uq_s, if_neg (fun q => x (by rw [q.1, q.2.1]; exact h2))]
  exact h b' i' j' x
theorem MG.up {g a i v : Int} {N N1 : Nd} (h : MG g N N1) (h2 : inN g a i) : MG g N (up N1 a i v) := fun a' i' x => by
  rw [up_s, if_neg (fun q => x (by rw [q.1, q.2]; exact h2))]
  exact h a' i' x
theorem KG.lk {g lb ab i : Int} {C C1 C2 : Cd} (h : KG g C C1) (k : LK lb ab i C1 C2) (h1 : inG g lb i) (h2 : inG g ab i) : KG g C C2 := fun b i' j x => (k b i' j (fun q => x (by rw [q.1, q.2]; exact h2)) (fun q => x (by rw [q.1, q.2.1]; exact h1))).trans (h b i' j x)
/-- what isn't of groups -/
theorem MG.n0 {g : Int} {N N' : Nd} (h : MG g N N') {a : Int} (ha : a < 13043 ∨ 13067 < a) : N' a = N a := by
  funext i
  exact h a i (by unfold inN; omega)
def gqa (a : Int) : Bool := decide (13043 ≤ a) && decide (a ≤ 13067)
def gm (N G : Nd) : Nd := fun a k => if gqa a = true then G a k else N a k
def gcm (C G : Cd) : Cd := fun b i j => if gcell b = true then G b i j else C b i j
theorem MG.gm {g : Int} {N N' : Nd} (h : MG g N N') : N' = gm N N' := by
  funext a k
  unfold Jvm.Pilot.@@N@@.gm
  split
  · rfl
  · rename_i z
    refine h a k ?_
    unfold gqa at z
    simp only [Bool.and_eq_true, decide_eq_true_eq] at z
    unfold inN
    omega
theorem KG.gcm {g : Int} {C C' : Cd} (h : KG g C C') : C' = gcm C C' := by
  funext b i j
  unfold Jvm.Pilot.@@N@@.gcm
  split
  · rfl
  · rename_i z
    refine h b i j ?_
    unfold gcell at z
    simp only [Bool.or_eq_true, beq_iff_eq] at z
    unfold inG
    omega
theorem JN.gm {N G : Nd} (j : JN N) : JN (gm N G) := j
theorem CC.gm {C D : Cd} {N G : Nd} (c : CC C N) : CC (gcm C D) (gm N G) := c
theorem JN.mg {g : Int} {N N' : Nd} (h : MG g N N') (j : JN N) : JN N' := by
  rw [h.gm]
  exact j.gm
theorem CC.mg {g : Int} {C C' : Cd} {N N' : Nd} (k : KG g C C') (h : MG g N N') (c : CC C N) : CC C' N' := by
  rw [h.gm, k.gcm]
  exact c.gm
theorem MG.so {g : Int} {N N' : Nd} (h : MG g N N') (q : Int) : so N' q = so N q := by
  rw [h.gm]
  rfl
theorem MG.can {g m : Int} {N N' : Nd} (h : MG g N N') : canR N' m ↔ canR N m := by
  unfold canR
  rw [h.so, h.n0 (a := 13024) (by decide), h.n0 (a := 13026) (by decide), h.n0 (a := 13021) (by decide), h.n0 (a := 13025) (by decide)]
section OTHER
variable {C C' : Cd} {N N' : Nd} {g h : Int}
theorem KG.c1 (k : KG g C C') (hn : h ≠ g) {b : Int} (hb : b ≠ 2000 ∧ b ≠ 3006 ∧ b ≠ 4000 ∧ b ≠ 17106 ∧ b ≠ 9000) : C' b h = C b h := by
  funext j
  exact k b h j (by unfold inG; omega)
theorem KG.c2 (k : KG g C C') (hn : h ≠ g) {m : Int} (m1 : 0 ≤ m) (m2 : m < 150) : C' 2000 (150 * h + m) = C 2000 (150 * h + m) := by
  funext j
  exact k _ _ j (by unfold inG; omega)
theorem KG.c3 (k : KG g C C') (hn : h ≠ g) {b m : Int} (hb : b = 3006 ∨ b = 4000 ∨ b = 17106) (m1 : 0 ≤ m) (m2 : m < 12) : C' b (12 * h + m) = C b (12 * h + m) := by
  funext j
  exact k _ _ j (by unfold inG; omega)
theorem KG.c4 (k : KG g C C') (hn : h ≠ g) {m : Int} (m1 : 0 ≤ m) (m2 : m < 9) : C' 9000 (9 * h + m) = C 9000 (9 * h + m) := by
  funext j
  exact k _ _ j (by unfold inG; omega)
theorem MG.n1 (k : MG g N N') (hn : h ≠ g) {a : Int} (a1 : 13042 ≤ a) (a2 : a ≤ 13046) : N' a h = N a h := k _ _ (by unfold inN; omega)
theorem MG.n2 (k : MG g N N') (hn : h ≠ g) {a j : Int} (a1 : 13047 ≤ a) (a2 : a ≤ 13051) (j1 : 0 ≤ j) (j2 : j < 12) : N' a (12 * h + j) = N a (12 * h + j) := k _ _ (by unfold inN; omega)
theorem MG.n3 (k : MG g N N') (hn : h ≠ g) {a j i : Int} (a1 : 13052 ≤ a) (a2 : a ≤ 13054) (j1 : 0 ≤ j) (j2 : j < 12) (i1 : 0 ≤ i) (i2 : i < 9) : N' a (9 * (12 * h + j) + i) = N a (9 * (12 * h + j) + i) := k _ _ (by unfold inN; omega)
theorem MG.n4 (k : MG g N N') (hn : h ≠ g) {a j : Int} (a1 : 13055 ≤ a) (a2 : a ≤ 13058) (j1 : 0 ≤ j) (j2 : j < 9) : N' a (9 * h + j) = N a (9 * h + j) := k _ _ (by unfold inN; omega)
theorem MG.n5 (k : MG g N N') (hn : h ≠ g) {a j : Int} (a1 : 13059 ≤ a) (a2 : a ≤ 13064) (j1 : 0 ≤ j) (j2 : j < 150) : N' a (150 * h + j) = N a (150 * h + j) := k _ _ (by unfold inN; omega)
theorem MG.gr (k : MG g N N') (h p : Int) : gR N' h p ↔ gR N h p := by
  unfold gR
  rw [k.n0 (a := 12000) (by decide), k.n0 (a := 13042) (by decide), k.n0 (a := 13012) (by decide)]
theorem GA.other (hn' : h ≠ g) (G : RG N) (a : GA C N h) (kc : KG g C C') (kn : MG g N N') : GA C' N' h := by
  have s5 := G.s.2.2.2.2.1
  have s2 := G.s.2.1
  have sc : N' 12000 = N 12000 := kn.n0 (by decide)
  have mP : N' 13021 = N 13021 := kn.n0 (by decide)
  have mO : N' 13026 = N 13026 := kn.n0 (by decide)
  have mS : N' 13024 = N 13024 := kn.n0 (by decide)
  have hr := fun p => kn.gr h p
  have hm : ∀ j, 0 ≤ j → j < 12 → hn N' h j = hn N h j := fun j j1 j2 => kn.n2 hn' (by decide) (by decide) j1 j2
  have hh : ∀ j k, 0 ≤ j → j < 12 → 0 ≤ k → k < 9 → hf N' h j k = hf N h j k := fun j k j1 j2 k1 k2 => kn.n3 hn' (by decide) (by decide) j1 j2 k1 k2
  have pb : ∀ m, 0 ≤ m → m < (N 12000 19) → 0 ≤ N 13021 m ∧ N 13021 m < 9 := fun m m1 m2 => by
    have := (G.m m m1 m2).2.1
    omega
  have h9 : ∀ j, 0 ≤ j → j < 12 → N 13047 (12 * h + j) = 1 → hn N h j ≤ 9 := fun j j1 j2 j3 => by
    have := (a.nm j j1 j2).2.2 j3
    omega
  refine ⟨?_, fun p p1 p2 => ?_, fun j j1 j2 => ?_, fun j j1 j2 j3 => ?_, fun m m1 m2 => ?_, ?_, ?_, fun j j1 j2 => ?_, fun p p1 p2 => ?_, ?_⟩
  · unfold GO
    rw [kc.c1 hn' (b := 1000) (by decide), kn.n1 hn' (a := 13044) (by decide) (by decide), kn.n1 hn' (a := 13043) (by decide) (by decide), kn.n1 hn' (a := 13045) (by decide) (by decide)]
    simp only [hr]
    exact a.o
  · rw [kc.c1 hn' (b := 24000) (by decide), kc.c4 hn' p1 p2, kn.n4 hn' (a := 13055) (by decide) (by decide) p1 p2, kn.n4 hn' (a := 13056) (by decide) (by decide) p1 p2, kn.n4 hn' (a := 13057) (by decide) (by decide) p1 p2, kn.n4 hn' (a := 13058) (by decide) (by decide) p1 p2]
    simp only [hr]
    exact a.sh p p1 p2
  · rw [kc.c1 hn' (b := 19000) (by decide), kc.c3 hn' (b := 4000) (by decide) j1 j2, kn.n2 hn' (a := 13047) (by decide) (by decide) j1 j2, kn.n2 hn' (a := 13048) (by decide) (by decide) j1 j2, kn.n2 hn' (a := 13049) (by decide) (by decide) j1 j2, kn.n2 hn' (a := 13050) (by decide) (by decide) j1 j2]
    exact a.me j j1 j2
  · rw [kn.n2 hn' (a := 13047) (by decide) (by decide) j1 j2] at j3
    obtain ⟨⟨x1, x2, x3⟩, y⟩ := a.ha j j1 j2 j3
    have l9 := h9 j j1 j2 j3
    rw [hm j j1 j2]
    refine ⟨⟨?_, ?_, fun k k1 k2 => ?_⟩, fun k k1 k2 => ?_⟩
    · rw [kc.c3 hn' (b := 3006) (by decide) j1 j2]; exact x1
    · rw [kc.c3 hn' (b := 3006) (by decide) j1 j2]; exact x2
    · rw [kc.c3 hn' (b := 17106) (by decide) j1 j2, hh j k j1 j2 k1 (by omega)]; exact x3 k k1 k2
    · obtain ⟨⟨y1, y2, y3⟩, y4, y5⟩ := y k k1 k2
      have q := pb _ y1 y2
      rw [hh j k j1 j2 k1 (by omega), kc.c2 hn' y1 (by omega), mP, mO, sc, kn.n3 hn' (a := 13053) (by decide) (by decide) j1 j2 k1 (by omega), kn.n3 hn' (a := 13054) (by decide) (by decide) j1 j2 k1 (by omega), kn.n4 hn' (a := 13055) (by decide) (by decide) q.1 q.2, kn.n4 hn' (a := 13058) (by decide) (by decide) q.1 q.2]
      exact ⟨⟨y1, y2, y3⟩, y4, fun i i1 i2 => by rw [hh j i j1 j2 i1 (by omega)]; exact y5 i i1 i2⟩
  · obtain ⟨x1, x2, x3, x4, x5, x6, x7, x8, x9, x0⟩ := a.le m m1 m2
    rw [kc.c1 hn' (b := 17000) (by decide), kc.c2 hn' m1 m2, sc, mP, mS, kn.n5 hn' (a := 13064) (by decide) (by decide) m1 m2, kn.n5 hn' (a := 13059) (by decide) (by decide) m1 m2, kn.n5 hn' (a := 13062) (by decide) (by decide) m1 m2, kn.n5 hn' (a := 13060) (by decide) (by decide) m1 m2, kn.n5 hn' (a := 13061) (by decide) (by decide) m1 m2]
    refine ⟨x1, fun z => ?_, x3, x4, x5, x6, x7, fun z => ?_, x9, x0⟩
    · obtain ⟨y1, y2, y3, y4⟩ := x2 z
      exact ⟨y1, y2, y3.imp id (fun w => kn.can.mpr w), (hr _).mpr y4⟩
    · have lt : m < (N 12000 19) := by
        by_cases q : C 17000 h m = 0
        · have := (x3 q).1; omega
        · exact (x2 q).1
      have q := pb m m1 lt
      rw [kn.n4 hn' (a := 13055) (by decide) (by decide) q.1 q.2]
      obtain ⟨y1, k, k1, k2, k3⟩ := x8 z
      have ob := (a.np _ q.1 q.2).1.1.resolve_left y1
      have l9 := h9 _ ob.1 ob.2.1 ob.2.2.1
      refine ⟨y1, k, k1, ?_, ?_⟩
      · rw [hm _ ob.1 ob.2.1]; exact k2
      · rw [hh _ k ob.1 ob.2.1 k1 (by omega)]; exact k3
  · obtain ⟨n, f, ⟨x1, x2, x3⟩, y1, y2, y3, y4⟩ := a.wa
    refine ⟨n, f, ⟨?_, ?_, fun k k1 k2 => ?_⟩, y1, fun i i1 i2 => ?_, fun i k i1 i2 k2 => ?_, fun m m1 m2 z => ?_⟩
    · rw [kc.c1 hn' (b := 3000) (by decide)]; exact x1
    · rw [kc.c1 hn' (b := 3000) (by decide)]; exact x2
    · rw [kc.c1 hn' (b := 17100) (by decide)]; exact x3 k k1 k2
    · have q := y2 i i1 i2
      rw [kn.n5 hn' (a := 13059) (by decide) (by decide) q.1 q.2.1]
      exact q
    · have q := y2 i i1 (by omega)
      have q2 := y2 k (by omega) k2
      unfold lw
      rw [kn.n5 hn' (a := 13060) (by decide) (by decide) q.1 q.2.1, kn.n5 hn' (a := 13060) (by decide) (by decide) q2.1 q2.2.1]
      exact y3 i k i1 i2 k2
    · rw [kn.n5 hn' (a := 13059) (by decide) (by decide) m1 m2] at z
      exact y4 m m1 m2 z
  · obtain ⟨⟨x1, x2, x3⟩, y1, y2, y3⟩ := a.de
    have eM := kn.n1 hn' (a := 13046) (by decide) (by decide)
    have dd : ∀ k, 0 ≤ k → k < N 13046 h → N' 13063 (150 * h + k) = N 13063 (150 * h + k) := fun k k1 k2 => kn.n5 hn' (by decide) (by decide) k1 (by omega)
    unfold GDe
    rw [eM]
    refine ⟨⟨?_, ?_, fun k k1 k2 => ?_⟩, y1, fun k k1 k2 => ?_, fun m m1 m2 z => ?_⟩
    · rw [kc.c1 hn' (b := 3003) (by decide)]; exact x1
    · rw [kc.c1 hn' (b := 3003) (by decide)]; exact x2
    · show C' 17103 h k = 2000 + (150 * h + N' 13063 (150 * h + k))
      rw [kc.c1 hn' (b := 17103) (by decide), dd k k1 k2]; exact x3 k k1 k2
    · have q := y2 k k1 k2
      rw [dd k k1 k2, kn.n5 hn' (a := 13062) (by decide) (by decide) q.1.1 q.1.2.1]
      exact ⟨q.1, fun i i1 i2 => by rw [dd i i1 (by omega)]; exact q.2 i i1 i2⟩
    · rw [kn.n5 hn' (a := 13062) (by decide) (by decide) m1 m2] at z
      obtain ⟨i, i1, i2, i3⟩ := y3 m m1 m2 z
      exact ⟨i, i1, i2, by rw [dd i i1 i2]; exact i3⟩
  · rw [kn.n2 hn' (a := 13047) (by decide) (by decide) j1 j2, hm j j1 j2, kn.n1 hn' (a := 13044) (by decide) (by decide), kn.n2 hn' (a := 13049) (by decide) (by decide) j1 j2, kn.n2 hn' (a := 13050) (by decide) (by decide) j1 j2, kn.n2 hn' (a := 13048) (by decide) (by decide) j1 j2, sc]
    exact a.nm j j1 j2
  · rw [kn.n4 hn' (a := 13055) (by decide) (by decide) p1 p2, kn.n4 hn' (a := 13056) (by decide) (by decide) p1 p2, kn.n4 hn' (a := 13057) (by decide) (by decide) p1 p2, kn.n4 hn' (a := 13058) (by decide) (by decide) p1 p2]
    obtain ⟨⟨x1, x2⟩, x3⟩ := a.np p p1 p2
    refine ⟨⟨x1.imp id fun z => ⟨z.1, z.2.1, ?_, (hr p).mpr z.2.2.2⟩, x2.imp id fun z => ⟨z.1, z.2.1, ?_, (hr p).mpr z.2.2.2⟩⟩, x3⟩
    · rw [kn.n2 hn' (a := 13047) (by decide) (by decide) z.1 z.2.1]; exact z.2.2.1
    · rw [kn.n2 hn' (a := 13047) (by decide) (by decide) z.1 z.2.1]; exact z.2.2.1
  · obtain ⟨x1, x2, x3, x4, x5⟩ := a.nu
    have tc : ∀ j, tcn N' h j = tcn N h j := fun j => su_congr fun p p1 p2 => by
      simp only [hr]
      rw [kn.n4 hn' (a := 13056) (by decide) (by decide) p1 (show p < 9 by omega)]
    have mc : mcn N' h = mcn N h := su_congr fun p p1 p2 => by
      rw [kn.n2 hn' (a := 13047) (by decide) (by decide) p1 (show p < 12 by omega)]
    unfold GNu
    rw [mc, sc, kn.n1 hn' (a := 13042) (by decide) (by decide), kn.n1 hn' (a := 13044) (by decide) (by decide), kn.n1 hn' (a := 13043) (by decide) (by decide)]
    refine ⟨x1, x2, x3, fun i k i1 i2 k1 k2 y1 y2 => ?_, fun z p p1 p2 r => by rw [kn.n4 hn' (a := 13056) (by decide) (by decide) p1 p2]; exact x5 z p p1 p2 ((hr p).mp r)⟩
    rw [tc, tc]
    rw [kn.n2 hn' (a := 13047) (by decide) (by decide) i1 i2] at y1
    rw [kn.n2 hn' (a := 13047) (by decide) (by decide) k1 k2] at y2
    exact x4 i k i1 i2 k1 k2 y1 y2
theorem GIn.other (hn' : h ≠ g) (G : RG N) (ga : GA C N h) (a : GIn C N h) (kc : KG g C C') (kn : MG g N N') : GIn C' N' h := by
  have s5 := G.s.2.2.2.2.1
  have s2 := G.s.2.1
  have sc : N' 12000 = N 12000 := kn.n0 (by decide)
  have mP : N' 13021 = N 13021 := kn.n0 (by decide)
  have mO : N' 13026 = N 13026 := kn.n0 (by decide)
  have mK : N' 13022 = N 13022 := kn.n0 (by decide)
  have pb : ∀ m, 0 ≤ m → m < (N 12000 19) → 0 ≤ N 13021 m ∧ N 13021 m < 9 := fun m m1 m2 => by
    have := (G.m m m1 m2).2.1
    omega
  have fd : ∀ m, 0 ≤ m → m < 150 → Fdl C' h m = Fdl C h m := fun m m1 m2 => congrFun (kc.c2 hn' m1 m2) 6
  have sq : ∀ p, 0 ≤ p → p < 9 → So C' h p = So C h p := fun m m1 m2 => congrFun (kc.c4 hn' m1 m2) 5
  have wt : ∀ m, 0 ≤ m → m < 150 → N' 13059 (150 * h + m) = N 13059 (150 * h + m) := fun m m1 m2 => kn.n5 hn' (by decide) (by decide) m1 m2
  have pd : ∀ m, 0 ≤ m → m < 150 → (Pd C' N' h m ↔ Pd C N h m) := fun m m1 m2 => by unfold Pd; rw [fd m m1 m2, wt m m1 m2]
  obtain ⟨x1, x2, x3, x4, x5, x6⟩ := a
  unfold GIn
  rw [sc, mP, mO, mK]
  refine ⟨fun u v u1 u2 v1 v2 hp hc hq h1 h2 => ?_, fun v v1 v2 hc hg h1 h2 => ?_, fun u v u1 u2 v1 v2 h1 h2 h3 h4 h5 => ?_, fun u v u1 u2 v1 v2 h1 h2 h4 h5 => ?_, fun p hg => ?_, fun m m1 m2 => ?_⟩
  · have q := pb v v1 v2
    rw [sq _ q.1 q.2] at h1
    exact (pd v v1 (by omega)).mpr (x1 u v u1 u2 v1 v2 ((pd u u1 (by omega)).mp hp) (kn.can.mp hc) hq h1 h2)
  · have q := pb v v1 v2
    rw [sq _ q.1 q.2] at h1
    rw [kn.n4 hn' (a := 13055) (by decide) (by decide) q.1 q.2, kn.n4 hn' (a := 13057) (by decide) (by decide) q.1 q.2, kn.n4 hn' (a := 13058) (by decide) (by decide) q.1 q.2] at h2
    exact (pd v v1 (by omega)).mpr (x2 v v1 v2 (kn.can.mp hc) ((kn.gr h _).mp hg) h1 h2)
  · rw [wt v v1 (by omega)] at h1
    rw [fd v v1 (by omega)] at h2
    rw [fd u u1 (by omega)] at h3
    exact x3 u v u1 u2 v1 v2 h1 h2 h3 h4 h5
  · rw [fd u u1 (by omega)] at h1
    rw [fd u u1 (by omega), fd v v1 (by omega)] at h2
    exact x4 u v u1 u2 v1 v2 h1 h2 h4 h5
  · have hg' := (kn.gr h p).mp hg
    have p1 := hg'.1
    have p2 : p < 9 := by have := hg'.2.1; omega
    rw [sq p p1 p2, kn.so, kn.n4 hn' (a := 13055) (by decide) (by decide) p1 p2, kn.n4 hn' (a := 13057) (by decide) (by decide) p1 p2, kn.n4 hn' (a := 13058) (by decide) (by decide) p1 p2]
    exact x5 p hg'
  · obtain ⟨y1, y2, y3, y4⟩ := x6 m m1 m2
    rw [fd m m1 m2, kc.c2 hn' m1 m2, kc.c1 hn' (b := 1000) (by decide)]
    refine ⟨y1, y2, y3, fun hp => ?_⟩
    have hp' := (pd m m1 m2).mp hp
    have lt := ((ga.le m m1 m2).2.1 (ga.un m1 m2 hp')).1
    have q := pb m m1 lt
    rw [sq _ q.1 q.2]
    exact y4 hp'
end OTHER
