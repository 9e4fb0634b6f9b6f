/-! PURE PART, a27: what is left for a member to read -/
abbrev ro (N : Nd) (p : Int) : Int := N 13058 (9 * 0 + p)
def om (j : Int) (N : Nd) (m : Int) : Int := (if wt N m = 1 ∧ ow N (N 13021 m) = j then 1 else 0) + (if (m < (N 12000 19) ∧ N 13024 m ≠ 3) ∧ (canR N m → ow N (N 13021 m) = j ∧ ro N (N 13021 m) ≤ N 13026 m) then 1 else 0)
def Psi (j : Int) (N : Nd) : Int := su (om j N) 0 150
/-- nothing is left -/
def ZZ (j : Int) (N : Nd) : Prop := (∀ m, 0 ≤ m → m < 150 → wt N m = 1 → ow N (N 13021 m) ≠ j) ∧ ∀ m, 0 ≤ m → m < (N 12000 19) → canR N m → ow N (N 13021 m) = j → N 13026 m < ro N (N 13021 m)
/-- what a read does to what is left -/
def RF (N : Nd) (o : Int) (N2 : Nd) (v : Int) : Prop := MG 0 N N2 ∧ (∀ a, a = 13055 ∨ a = 13056 ∨ a = 13047 ∨ a = 13048 → N2 a = N a) ∧ (∀ p, ro N p ≤ ro N2 p) ∧
  (∀ m, 0 ≤ m → m < 150 → wt N2 m = 1 → (wt N m = 1 ∧ du N2 m = du N m) ∨ ((m < (N 12000 19) ∧ canR N m ∧ ow N (N 13021 m) = o ∧ ro N (N 13021 m) ≤ N 13026 m ∧ N 13026 m < ro N2 (N 13021 m)) ∧ du N2 m = (N 12000 1) ∧ ∃ x, 0 ≤ x ∧ x < (N 12000 19) ∧ wt N x = 1 ∧ N 13021 x = N 13021 m)) ∧
  (0 ≤ v → (v < 150 ∧ v < (N 12000 19)) ∧ ow N (N 13021 v) = o ∧ wt N2 v ≠ 1 ∧ ((wt N v = 1 ∧ ∀ p, ro N2 p = ro N p) ∨ (canR N v ∧ ro N (N 13021 v) ≤ N 13026 v ∧ N 13026 v < ro N2 (N 13021 v)))) ∧
  (v < 0 → hn N 0 o = 0 → (∀ x, ¬ cnd N 0 o x) ∧ ∀ p, p < 9 → own N2 0 o p → 0 ≤ N2 13013 p → NLE N2 0 p) ∧ ∀ i, i ≠ o → hn N2 0 i = hn N 0 i
section COST
variable {n : Int} {C : Cd} {N N2 : Nd} {A : Ad}
theorem om_b {j m : Int} : 0 ≤ om j N m ∧ om j N m ≤ 2 := by
  unfold om
  constructor <;> (split <;> split <;> omega)
theorem Psi_b {j : Int} : 0 ≤ Psi j N ∧ Psi j N ≤ 300 := by
  have := su_b (g := om j N) (i0 := 0) (n := 150) (b := 2) (fun i _ _ => om_b)
  unfold Psi
  omega
theorem Psi_le {j : Int} (h : ∀ m, 0 ≤ m → m < 150 → om j N2 m ≤ om j N m) : Psi j N2 ≤ Psi j N := su_le fun i i1 i2 => h i i1 (by omega)
theorem RDO.rf {o v : Int} (j : JJ n C N A) (w : WV N) (o1 : 0 ≤ o) (o2 : o < 12) (hi : N 13047 (12 * 0 + o) = 1) (r : RDO N 0 o N2 v) : RF N o N2 v := by
  have G := j.jn.g
  have s5 := G.s.2.2.2.2.1
  have g2 := w.1.g
  have nm := ((j.gr (Int.le_refl 0) g2).1.nm o o1 o2).2.2 hi
  have ge := (r.gre j w o1 o2 hi).1
  have lk : ∀ Nx, LKp 0 o N Nx → (∀ a, a = 13055 ∨ a = 13056 ∨ a = 13047 ∨ a = 13048 ∨ a = 13051 → Nx a = N a) ∧ ∀ m, 0 ≤ m → m < 150 → wt Nx m = 1 → (wt N m = 1 ∧ du Nx m = du N m) ∨ ((m < (N 12000 19) ∧ canR N m ∧ ow N (N 13021 m) = o ∧ ro N (N 13021 m) ≤ N 13026 m ∧ N 13026 m < ro Nx (N 13021 m)) ∧ du Nx m = (N 12000 1) ∧ ∃ x, 0 ≤ x ∧ x < (N 12000 19) ∧ wt N x = 1 ∧ N 13021 x = N 13021 m) := fun Nx h => by
    refine ⟨fun a ha => h.2.1 a (by omega) (by omega) (by omega) (by omega), fun m m1 m2 hw' => ?_⟩
    rcases h.2.2.2.2 m m1 m2 hw' with z | ⟨⟨z1, z2, z3, z4, z5⟩, z6, z7⟩
    · exact Or.inl ⟨z, (h.2.2.2.1 m m1 m2 z).2⟩
    · exact Or.inr ⟨⟨z1, z2, z3.2, z4, z5⟩, z6, z7⟩
  rcases r with ⟨rfl, rfl, hc⟩ | ⟨h2, ⟨hb, rfl⟩ | ⟨no, ⟨rfl, l, nl⟩ | ⟨⟨v1, v2⟩, Nx, q, l, own', ⟨c0, c1, c2, c3, c4⟩, rfl⟩⟩⟩
  · exact ⟨MG.rf, fun _ _ => rfl, fun _ => Int.le_refl _, fun m _ _ h => Or.inl ⟨h, rfl⟩, fun h => by omega, fun _ h => by unfold hn at h nm; omega, fun _ _ => rfl⟩
  · have hbm := hb.1
    have v1 := hbm.1
    have v2 := hbm.2.1
    have eo : ∀ a, ¬ (13051 ≤ a ∧ a ≤ 13054) → a ≠ 13064 → a ≠ 13059 → dlN (up N 13059 (150 * 0 + v) 0) 0 o v (N 13061 (150 * 0 + v)) 1 a = N a := fun a a1 a2 a3 => by
      rw [dn_ar a1 a2]
      funext k
      rw [up_s, if_neg (fun z => a3 z.1)]
    have ew : ∀ m, wt (dlN (up N 13059 (150 * 0 + v) 0) 0 o v (N 13061 (150 * 0 + v)) 1) m = if m = v then 0 else wt N m := fun m => by
      unfold wt
      rw [dn_ar (by decide) (by decide), up_s]
      by_cases e : m = v
      · rw [if_pos ⟨rfl, by rw [e]⟩, if_pos e]
      · rw [if_neg (by omega), if_neg e]
    refine ⟨ge.1, fun a ha => eo a (by omega) (by omega) (by omega), fun p => ?_, fun m m1 m2 h => Or.inl ?_, fun _ => ⟨⟨by omega, v2⟩, hbm.2.2.2.1.2, ?_, Or.inl ⟨hbm.2.2.1, fun p => ?_⟩⟩, fun h => by omega, fun i hi' => ?_⟩
    · unfold ro
      rw [eo 13058 (by decide) (by decide) (by decide)]
      exact Int.le_refl _
    · rw [ew] at h
      by_cases e : m = v
      · rw [if_pos e] at h; exact absurd h (by decide)
      · rw [if_neg e] at h
        refine ⟨h, ?_⟩
        unfold du
        rw [eo 13060 (by decide) (by decide) (by decide)]
    · rw [ew, if_pos rfl]; decide
    · unfold ro
      rw [eo 13058 (by decide) (by decide) (by decide)]
    · rw [dn_n, if_neg hi']
      rfl
  · obtain ⟨k1, k2⟩ := lk N2 l
    refine ⟨l.1, fun a ha => k1 a (by omega), l.2.2.1, k2, fun h => by omega, fun _ _ => ⟨no, nl⟩, fun i _ => ?_⟩
    unfold hn
    rw [k1 13051 (by decide)]
  · obtain ⟨k1, k2⟩ := lk Nx l
    have sc : Nx 12000 = N 12000 := l.1.n0 (by decide)
    have mp : Nx 13021 = N 13021 := l.1.n0 (by decide)
    have mo : Nx 13026 = N 13026 := l.1.n0 (by decide)
    rw [sc] at c0
    rw [l.1.can] at c1
    rw [mp] at c2
    rw [mo] at c3
    rw [mo] at ge ⊢
    have ow' := (l.ow q).mp own'
    have ros : ∀ p, ro (dlN (up (up Nx 13058 (9 * 0 + q) (N 13026 v + 1)) 13050 (12 * 0 + o) q) 0 o v 0 0) p = if p = q then N 13026 v + 1 else ro Nx p := fun p => by
      unfold ro
      rw [dn_ar (by decide) (by decide), up_s, if_neg (by omega), up_s]
      by_cases e : p = q
      · rw [if_pos ⟨rfl, by rw [e]⟩, if_pos e]
      · rw [if_neg (by omega), if_neg e]
    have eo : ∀ a, ¬ (13051 ≤ a ∧ a ≤ 13054) → a ≠ 13064 → a ≠ 13058 → a ≠ 13050 → dlN (up (up Nx 13058 (9 * 0 + q) (N 13026 v + 1)) 13050 (12 * 0 + o) q) 0 o v 0 0 a = Nx a := fun a a1 a2 a3 a4 => by
      rw [dn_ar a1 a2]
      funext k
      rw [up_s, if_neg (fun z => a4 z.1), up_s, if_neg (fun z => a3 z.1)]
    have rm : ∀ p, ro Nx p ≤ ro (dlN (up (up Nx 13058 (9 * 0 + q) (N 13026 v + 1)) 13050 (12 * 0 + o) q) 0 o v 0 0) p := fun p => by
      rw [ros]
      by_cases e : p = q
      · rw [if_pos e, e]
        unfold ro
        omega
      · rw [if_neg e]
        exact Int.le_refl _
    have ew : ∀ m, wt (dlN (up (up Nx 13058 (9 * 0 + q) (N 13026 v + 1)) 13050 (12 * 0 + o) q) 0 o v 0 0) m = wt Nx m := fun m => by
      unfold wt
      rw [eo 13059 (by decide) (by decide) (by decide) (by decide)]
    have ed : ∀ m, du (dlN (up (up Nx 13058 (9 * 0 + q) (N 13026 v + 1)) 13050 (12 * 0 + o) q) 0 o v 0 0) m = du Nx m := fun m => by
      unfold du
      rw [eo 13060 (by decide) (by decide) (by decide) (by decide)]
    have lq := l.2.2.1 q
    refine ⟨ge.1, fun a ha => ?_, fun p => Int.le_trans (l.2.2.1 p) (rm p), fun m m1 m2 h => ?_, fun _ => ⟨⟨v2, c0⟩, by rw [c2]; exact ow'.2, ?_, Or.inr ⟨c1, ?_, ?_⟩⟩, fun h => by omega, fun i hi' => ?_⟩
    · rw [eo a (by omega) (by omega) (by omega) (by omega)]
      exact k1 a (by omega)
    · rw [ew] at h
      rcases k2 m m1 m2 h with z | ⟨⟨z1, z2, z3, z4, z5⟩, z6, z7⟩
      · exact Or.inl ⟨z.1, (ed m).trans z.2⟩
      · have := rm (N 13021 m)
        exact Or.inr ⟨⟨z1, z2, z3, z4, by omega⟩, (ed m).trans z6, z7⟩
    · rw [ew]
      exact c4
    · rw [c2]
      show N 13058 (9 * 0 + q) ≤ _
      omega
    · rw [c2, ros, if_pos rfl]
      omega
    · rw [dn_n, if_neg hi']
      show Nx 13051 (12 * 0 + i) = _
      rw [k1 13051 (by decide)]
/-- no more is left -/
theorem RF.om {o v j m : Int} (r : RF N o N2 v) (m1 : 0 ≤ m) (m2 : m < 150) : om j N2 m ≤ om j N m ∧ (0 ≤ v → m = v → j = o → om j N2 m + 1 ≤ om j N m) := by
  obtain ⟨a1, a2, a3, a4, a5, -, -⟩ := r
  have sc : N2 12000 = N 12000 := a1.n0 (by decide)
  have eo : ∀ p, ow N2 p = ow N p := fun p => by
    unfold ow
    rw [a2 13055 (by decide)]
  have r1 := a3 (N 13021 m)
  have q := a4 m m1 m2
  unfold Jvm.Pilot.@@N@@.om
  have x1 : N2 13021 = N 13021 := a1.n0 (Or.inl (by decide))
  have x2 : N2 13024 = N 13024 := a1.n0 (Or.inl (by decide))
  have x3 : N2 13026 = N 13026 := a1.n0 (Or.inl (by decide))
  simp only [sc, x1, x2, x3, eo, a1.can]
  have imp : ∀ r1 r2 : Int, r1 ≤ r2 → ((m < (N 12000 19) ∧ N 13024 m ≠ 3) ∧ (canR N m → ow N (N 13021 m) = j ∧ r2 ≤ N 13026 m)) → ((m < (N 12000 19) ∧ N 13024 m ≠ 3) ∧ (canR N m → ow N (N 13021 m) = j ∧ r1 ≤ N 13026 m)) := fun r1 r2 hr h => ⟨h.1, fun c => ⟨(h.2 c).1, Int.le_trans hr (h.2 c).2⟩⟩
  have i2 := imp _ _ r1
  constructor
  · by_cases b1 : wt N2 m = 1 ∧ ow N (N 13021 m) = j
    · rw [if_pos b1]
      rcases q b1.1 with ⟨z, -⟩ | ⟨⟨z1, z2, z3, z4, z5⟩, -, -⟩
      · rw [if_pos (show wt N m = 1 ∧ ow N (N 13021 m) = j from ⟨z, b1.2⟩)]
        by_cases y : (m < (N 12000 19) ∧ N 13024 m ≠ 3) ∧ (canR N m → ow N (N 13021 m) = j ∧ ro N2 (N 13021 m) ≤ N 13026 m)
        · rw [if_pos y, if_pos (i2 y)]
          exact Int.le_refl _
        · rw [if_neg y]
          split <;> omega
      · have y2 : ¬ ((m < (N 12000 19) ∧ N 13024 m ≠ 3) ∧ (canR N m → ow N (N 13021 m) = j ∧ ro N2 (N 13021 m) ≤ N 13026 m)) := fun y => by
          have := (y.2 z2).2
          omega
        have s1 := z2.1
        rw [if_neg y2, if_pos (show (m < (N 12000 19) ∧ N 13024 m ≠ 3) ∧ (canR N m → ow N (N 13021 m) = j ∧ ro N (N 13021 m) ≤ N 13026 m) from ⟨⟨z1, by omega⟩, fun _ => ⟨b1.2, z4⟩⟩)]
        split <;> omega
    · rw [if_neg b1]
      by_cases y : (m < (N 12000 19) ∧ N 13024 m ≠ 3) ∧ (canR N m → ow N (N 13021 m) = j ∧ ro N2 (N 13021 m) ≤ N 13026 m)
      · rw [if_pos y, if_pos (i2 y)]
        split <;> omega
      · rw [if_neg y]
        split <;> split <;> omega
  · intro hv e ej
    rw [← e, ← ej] at a5
    obtain ⟨⟨v1, v2⟩, v3, v4, v5⟩ := a5 (by omega)
    rw [if_neg (fun b => v4 b.1)]
    rcases v5 with ⟨z1, z2⟩ | ⟨z1, z2, z3⟩
    · rw [if_pos (show wt N m = 1 ∧ ow N (N 13021 m) = j from ⟨z1, v3⟩), z2]
      exact Int.le_of_eq (by omega)
    · have y2 : ¬ ((m < (N 12000 19) ∧ N 13024 m ≠ 3) ∧ (canR N m → ow N (N 13021 m) = j ∧ ro N2 (N 13021 m) ≤ N 13026 m)) := fun y => by
        have := (y.2 z1).2
        omega
      have s1 := z1.1
      rw [if_neg y2, if_pos (show (m < (N 12000 19) ∧ N 13024 m ≠ 3) ∧ (canR N m → ow N (N 13021 m) = j ∧ ro N (N 13021 m) ≤ N 13026 m) from ⟨⟨v2, by omega⟩, fun _ => ⟨v3, z2⟩⟩)]
      split <;> omega
theorem RF.psi {o v j : Int} (r : RF N o N2 v) : Psi j N2 ≤ Psi j N := Psi_le fun _ m1 m2 => (r.om m1 m2).1
theorem RF.psi1 {o v : Int} (r : RF N o N2 v) (hv : 0 ≤ v) : Psi o N2 + 1 ≤ Psi o N := by
  have v2 := (r.2.2.2.2.1 hv).1.1
  have h := su_lt (g := Jvm.Pilot.@@N@@.om o N2) (g' := Jvm.Pilot.@@N@@.om o N) (i0 := 0) (n := 150) (fun i i1 i2 => (r.om i1 (by omega)).1) v hv (by omega) (by
    have := (r.om (j := o) hv v2).2 hv rfl rfl
    omega)
  unfold Psi
  omega
theorem RF.zz {o v j : Int} (r : RF N o N2 v) (z : ZZ j N) : ZZ j N2 := by
  obtain ⟨a1, a2, a3, a4, -⟩ := r
  have sc : N2 12000 = N 12000 := a1.n0 (by decide)
  have mp : N2 13021 = N 13021 := a1.n0 (by decide)
  have mo : N2 13026 = N 13026 := a1.n0 (by decide)
  have eo : ∀ p, ow N2 p = ow N p := fun p => by
    unfold ow
    rw [a2 13055 (by decide)]
  refine ⟨fun m m1 m2 h => ?_, fun m m1 m2 hc ho => ?_⟩
  · rw [mp, eo]
    rcases a4 m m1 m2 h with ⟨y, -⟩ | ⟨⟨y1, y2, y3, y4, y5⟩, -, -⟩
    · exact z.1 m m1 m2 y
    · intro e
      have := z.2 m m1 y1 y2 e
      omega
  · rw [sc] at m2
    rw [a1.can] at hc
    rw [mp, eo] at ho
    rw [mp, mo]
    have := z.2 m m1 m2 hc ho
    have := a3 (N 13021 m)
    omega
/-- of what waits in a row one is the first -/
theorem first_row (k : Nat) : ∀ {m : Int}, N 13026 m < k → 0 ≤ m → m < (N 12000 19) → 0 ≤ N 13026 m → (∀ x, 0 ≤ x → x < (N 12000 19) → wt N x = 1 → 0 ≤ N 13026 x) → wt N m = 1 → ∃ x, 0 ≤ x ∧ x < (N 12000 19) ∧ wt N x = 1 ∧ N 13021 x = N 13021 m ∧ frw N 0 x := by
  induction k with
  | zero => intro m h _ _ h0; omega
  | succ k ih =>
    intro m h m1 m2 h0 ho hw'
    by_cases f : frw N 0 m
    · exact ⟨m, m1, m2, hw', rfl, f⟩
    · have ex : ∃ x, 0 ≤ x ∧ x < (N 12000 19) ∧ wt N x = 1 ∧ N 13021 x = N 13021 m ∧ N 13022 x = N 13022 m ∧ N 13026 x < N 13026 m := by
        by_cases y : ∃ x, 0 ≤ x ∧ x < (N 12000 19) ∧ wt N x = 1 ∧ N 13021 x = N 13021 m ∧ N 13022 x = N 13022 m ∧ N 13026 x < N 13026 m
        · exact y
        · refine absurd (fun x x1 x2 x3 x4 x5 => ?_) f
          by_cases z : N 13026 m ≤ N 13026 x
          · exact z
          · exact absurd ⟨x, x1, x2, x3, x4, x5, by omega⟩ y
      obtain ⟨x, x1, x2, x3, x4, x5, x6⟩ := ex
      obtain ⟨y, y1, y2, y3, y4, y5⟩ := ih (m := x) (by omega) x1 x2 (ho x x1 x2 x3) ho x3
      exact ⟨y, y1, y2, y3, y4.trans x4, y5⟩
theorem wait_off (j : JJ n C N A) (g2 : 0 < (N 12000 41)) {m : Int} (m1 : 0 ≤ m) (m2 : m < 150) (h : wt N m = 1) : m < (N 12000 19) ∧ 0 ≤ N 13026 m ∧ (N 13024 m = 3 ∨ canR N m) := by
  have st := letter_st j g2 m1 m2 (Or.inr h)
  exact ⟨st.1, ((j.jn.sl m m1 st.1).1 (st.2.elim Or.inr (fun z => Or.inl z.1))).1, st.2⟩
/-- a read that answers nothing, all hands empty -/
theorem RF.none {o v : Int} (r : RF N o N2 v) (j : JJ n C N A) (w : WV N) (j2 : ∀ m, 0 ≤ m → m < 150 → wt N2 m = 1 → N2 13024 m = 3 ∨ canR N2 m) (o1 : 0 ≤ o) (ld : LED N) (hv : v < 0) (he : hn N 0 o = 0) : Psi o N2 ≤ 150 ∧ ((∀ m, 0 ≤ m → m < 150 → wt N m = 1 → du N m ≤ (N 12000 1)) → ZZ o N2) := by
  obtain ⟨a1, a2, a3, a4, -, a6, -⟩ := r
  obtain ⟨no, nl⟩ := a6 hv he
  have g2 := w.1.g
  have s5 := j.jn.g.s.2.2.2.2.1
  have sc : N2 12000 = N 12000 := a1.n0 (by decide)
  have mp : N2 13021 = N 13021 := a1.n0 (by decide)
  have mo : N2 13026 = N 13026 := a1.n0 (by decide)
  have pl : N2 13013 = N 13013 := a1.n0 (by decide)
  have eo : ∀ p, ow N2 p = ow N p := fun p => by
    unfold ow
    rw [a2 13055 (by decide)]
  have p3 : (N 12000 11) = 3 := w.1.1.2.1
  have un : ∀ m, 0 ≤ m → m < (N 12000 19) → canR N2 m → ow N2 (N2 13021 m) = o → N2 13026 m < ro N2 (N2 13021 m) := fun m m1 m2 hc ho => by
    have gm := (j.jn.g.m m m1 m2).2.1
    have q := nl (N2 13021 m) (by rw [mp]; omega) ⟨(a1.gr 0 _).mpr ((gr3 w j.jn).mpr (by rw [mp]; exact ⟨gm.1, by omega⟩)), ho⟩ (by rw [pl, mp]; exact ld _ gm.1 (by omega)) m m1 (by rw [sc]; exact m2) hc rfl
    by_cases z : N2 13026 m < ro N2 (N2 13021 m)
    · exact z
    · exact (q (by unfold ro at z; omega)).elim
  constructor
  · have h := su_b (g := Jvm.Pilot.@@N@@.om o N2) (i0 := 0) (n := 150) (b := 1) (fun m m1 m2 => by
      have b := @om_b N2 o m
      refine ⟨b.1, ?_⟩
      unfold Jvm.Pilot.@@N@@.om
      by_cases x : wt N2 m = 1 ∧ ow N2 (N2 13021 m) = o
      · have y2 : ¬ ((m < (N2 12000 19) ∧ N2 13024 m ≠ 3) ∧ (canR N2 m → ow N2 (N2 13021 m) = o ∧ ro N2 (N2 13021 m) ≤ N2 13026 m)) := fun y => by
          have hc := (j2 m m1 (by omega) x.1).resolve_left y.1.2
          have := (y.2 hc).2
          have := un m m1 (by rw [← sc]; exact y.1.1) hc x.2
          omega
        rw [if_pos x, if_neg y2]
        decide
      · rw [if_neg x]
        split <;> decide)
    unfold Psi
    omega
  · intro hd
    have nw : ∀ m, 0 ≤ m → m < 150 → wt N m = 1 → ow N (N 13021 m) ≠ o := fun m m1 m2 hw' ho => by
      obtain ⟨w1, w2, -⟩ := wait_off j g2 m1 m2 hw'
      obtain ⟨x, x1, x2, x3, x4, x5⟩ := first_row ((N 13026 m).toNat + 1) (m := m) (by omega) m1 w1 w2 (fun x x1 x2 x3 => (wait_off j g2 x1 (by omega) x3).2.1) hw'
      have gx := (j.jn.g.m x x1 x2).2.1
      refine no x ⟨x1, x2, x3, ⟨(gr3 w j.jn).mpr ⟨gx.1, by omega⟩, ?_⟩, hd x x1 (by omega) x3, x5⟩
      rw [x4]
      exact ho
    refine ⟨fun m m1 m2 hw' ho => ?_, fun m m1 m2 hc ho => un m m1 (by rw [← sc]; exact m2) hc ho⟩
    rw [mp, eo] at ho
    rcases a4 m m1 m2 hw' with ⟨y, -⟩ | ⟨-, -, x, x1, x2, x3, x4⟩
    · exact nw m m1 m2 y ho
    · exact nw x x1 (by omega) x3 (by rw [x4]; exact ho)
end COST
