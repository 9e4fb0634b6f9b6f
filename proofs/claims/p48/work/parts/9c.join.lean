/-! PURE PART, 9c: join -/
def jnC (C : Cd) (g h t v : Int) : Cd := uq (uq (uq (uq (uq (uq (uq (uq (uq (uq (uq (zq (uq (zq (zq C 4000 (12 * g + h)) 3006 (12 * g + h)) 3006 (12 * g + h) 1 0) 17106 (12 * g + h)) 3006 (12 * g + h) 0 (17106 + (12 * g + h))) 4000 (12 * g + h) 1 (3006 + (12 * g + h))) 4000 (12 * g + h) 3 3) 4000 (12 * g + h) 4 (-1)) 4000 (12 * g + h) 5 0) 4000 (12 * g + h) 6 0) 4000 (12 * g + h) 0 h) 4000 (12 * g + h) 2 t) 19000 g h (4000 + (12 * g + h))) 1000 g 5 (h + 1)) 1000 g 6 v
def jnN (N : Nd) (g h t v : Int) : Nd := up (up (up (up (up (up N 13044 g (h + 1)) 13047 (12 * g + h) 1) 13048 (12 * g + h) t) 13049 (12 * g + h) 3) 13050 (12 * g + h) (-1)) 13043 g v
def jnA (A : Ad) (g h : Int) : Ad := alA (alA (alA A (4000 + (12 * g + h)) 7) (3006 + (12 * g + h)) 2) (17106 + (12 * g + h)) 9
section JOIN
variable {C : Cd} {N N0 : Nd} {A : Ad} {g h t v : Int}
theorem jn_k {b x z : Int} (h1 : ¬ ((b = 4000 ∨ b = 3006 ∨ b = 17106) ∧ x = 12 * g + h)) (h2 : ¬ (b = 19000 ∧ x = g ∧ z = h)) (h3 : ¬ (b = 1000 ∧ x = g ∧ (z = 5 ∨ z = 6))) : jnC C g h t v b x z = C b x z := by
  unfold jnC
  repeat first
    | rw [uq_s, if_neg (by omega)]
    | rw [zq_s, if_neg (by omega)]
theorem jn_4 {z : Int} : jnC C g h t v 4000 (12 * g + h) z = if z = 2 then t else if z = 0 then h else if z = 6 then 0 else if z = 5 then 0 else if z = 4 then -1 else if z = 3 then 3 else if z = 1 then 3006 + (12 * g + h) else 0 := by
  unfold jnC
  simp only [uq_s, zq_s, up_s, true_and, false_and, and_true, and_false, if_true, if_false, ↓reduceIte, ↓Option.bind_some, Int.reduceEq, Int.reduceNe, Int.reduceLT, Int.reduceLE, gd_true, gd_false, bind_b, q10, eq_self, reduceCtorEq, not_true_eq_false, not_false_eq_true, ne_eq]
theorem jn_36 {z : Int} : jnC C g h t v 3006 (12 * g + h) z = if z = 0 then 17106 + (12 * g + h) else if z = 1 then 0 else 0 := by
  unfold jnC
  simp only [uq_s, zq_s, up_s, true_and, false_and, and_true, and_false, if_true, if_false, ↓reduceIte, ↓Option.bind_some, Int.reduceEq, Int.reduceNe, Int.reduceLT, Int.reduceLE, gd_true, gd_false, bind_b, q10, eq_self, reduceCtorEq, not_true_eq_false, not_false_eq_true, ne_eq]
theorem jnA_k {a : Int} (h1 : a ≠ 4000 + (12 * g + h)) (h2 : a ≠ 3006 + (12 * g + h)) (h3 : a ≠ 17106 + (12 * g + h)) : (jnA A g h).1 a = A.1 a := by
  unfold jnA
  rw [ad_al h3, ad_al h2, ad_al h1]
theorem nj_ar {b : Int} (h1 : b ≠ 13044) (h2 : b ≠ 13047) (h3 : b ≠ 13048) (h4 : b ≠ 13049) (h5 : b ≠ 13050) (h6 : b ≠ 13043) : jnN N g h t v b = N b := by
  funext i
  unfold jnN
  rw [up_s, if_neg (fun z => h6 z.1), up_s, if_neg (fun z => h5 z.1), up_s, if_neg (fun z => h4 z.1), up_s, if_neg (fun z => h3 z.1), up_s, if_neg (fun z => h2 z.1), up_s, if_neg (fun z => h1 z.1)]
theorem nj_H {i : Int} : jnN N g h t v 13044 i = if i = g then h + 1 else N 13044 i := by
  unfold jnN
  simp only [up_s, up_s, true_and, false_and, and_true, and_false, if_true, if_false, ↓reduceIte, ↓Option.bind_some, Int.reduceEq, Int.reduceNe, Int.reduceLT, Int.reduceLE, gd_true, gd_false, bind_b, q10, eq_self, reduceCtorEq, not_true_eq_false, not_false_eq_true, ne_eq]
theorem nj_I {i : Int} : jnN N g h t v 13047 (12 * g + i) = if i = h then 1 else N 13047 (12 * g + i) := by
  unfold jnN
  simp only [up_s, up_s, true_and, false_and, and_true, and_false, if_true, if_false, ↓reduceIte, ↓Option.bind_some, Int.reduceEq, Int.reduceNe, Int.reduceLT, Int.reduceLE, gd_true, gd_false, bind_b, q10, eq_self, reduceCtorEq, not_true_eq_false, not_false_eq_true, ne_eq]
  by_cases e : i = h
  · rw [if_pos e, if_pos (by omega)]
  · rw [if_neg e, if_neg (by omega)]
theorem nj_B {i : Int} : jnN N g h t v 13048 (12 * g + i) = if i = h then t else N 13048 (12 * g + i) := by
  unfold jnN
  simp only [up_s, up_s, true_and, false_and, and_true, and_false, if_true, if_false, ↓reduceIte, ↓Option.bind_some, Int.reduceEq, Int.reduceNe, Int.reduceLT, Int.reduceLE, gd_true, gd_false, bind_b, q10, eq_self, reduceCtorEq, not_true_eq_false, not_false_eq_true, ne_eq]
  by_cases e : i = h
  · rw [if_pos e, if_pos (by omega)]
  · rw [if_neg e, if_neg (by omega)]
theorem nj_C {i : Int} : jnN N g h t v 13049 (12 * g + i) = if i = h then 3 else N 13049 (12 * g + i) := by
  unfold jnN
  simp only [up_s, up_s, true_and, false_and, and_true, and_false, if_true, if_false, ↓reduceIte, ↓Option.bind_some, Int.reduceEq, Int.reduceNe, Int.reduceLT, Int.reduceLE, gd_true, gd_false, bind_b, q10, eq_self, reduceCtorEq, not_true_eq_false, not_false_eq_true, ne_eq]
  by_cases e : i = h
  · rw [if_pos e, if_pos (by omega)]
  · rw [if_neg e, if_neg (by omega)]
theorem nj_L {i : Int} : jnN N g h t v 13050 (12 * g + i) = if i = h then -1 else N 13050 (12 * g + i) := by
  unfold jnN
  simp only [up_s, up_s, true_and, false_and, and_true, and_false, if_true, if_false, ↓reduceIte, ↓Option.bind_some, Int.reduceEq, Int.reduceNe, Int.reduceLT, Int.reduceLE, gd_true, gd_false, bind_b, q10, eq_self, reduceCtorEq, not_true_eq_false, not_false_eq_true, ne_eq]
  by_cases e : i = h
  · rw [if_pos e, if_pos (by omega)]
  · rw [if_neg e, if_neg (by omega)]
theorem nj_G : jnN N g h t v 13043 g = v := by
  unfold jnN
  rw [up_s, if_pos ⟨rfl, rfl⟩]
theorem KG.jn (h1 : 0 ≤ h) (h2 : h < 12) : KG g C (jnC C g h t v) := fun b x z q => by
  unfold inG at q
  exact jn_k (by omega) (by omega) (by omega)
theorem MG.jn (h1 : 0 ≤ h) (h2 : h < 12) : MG g N (jnN N g h t v) := (((((MG.rf.up (by unfold inN; omega)).up (by unfold inN; omega)).up (by unfold inN; omega)).up (by unfold inN; omega)).up (by unfold inN; omega)).up (by unfold inN; omega)
theorem GA.join (G : RG N) (a : GA C N g) (h1 : 0 ≤ h) (h2 : h < 12) (hh : N 13044 g = h) (ht : t = (N 12000 1)) (hv : v = N 13043 g + 1) : GAw (jnC C g h t v) (jnN N g h t v) g := by
  obtain ⟨⟨o0, o1, o2, o3, o4, o5, o6, o8⟩, sh, me, ha, le, wa, de, nm, no, nt, nh, ng⟩ := a.w
  have s8 := G.s.2.2.2.2.2.2.2.1
  have km : MG g N (jnN N g h t v) := MG.jn h1 h2
  have hr := fun p => km.gr g p
  have hc := fun m => km.can (m := m)
  have n12 : jnN N g h t v 12000 = N 12000 := nj_ar (by decide) (by decide) (by decide) (by decide) (by decide) (by decide)
  have nT : jnN N g h t v 13042 = N 13042 := nj_ar (by decide) (by decide) (by decide) (by decide) (by decide) (by decide)
  have nO : jnN N g h t v 13055 = N 13055 := nj_ar (by decide) (by decide) (by decide) (by decide) (by decide) (by decide)
  have nCo : jnN N g h t v 13057 = N 13057 := nj_ar (by decide) (by decide) (by decide) (by decide) (by decide) (by decide)
  have nR : jnN N g h t v 13058 = N 13058 := nj_ar (by decide) (by decide) (by decide) (by decide) (by decide) (by decide)
  have nHM : jnN N g h t v 13051 = N 13051 := nj_ar (by decide) (by decide) (by decide) (by decide) (by decide) (by decide)
  have nHa : jnN N g h t v 13052 = N 13052 := nj_ar (by decide) (by decide) (by decide) (by decide) (by decide) (by decide)
  have nHT : jnN N g h t v 13053 = N 13053 := nj_ar (by decide) (by decide) (by decide) (by decide) (by decide) (by decide)
  have nHF : jnN N g h t v 13054 = N 13054 := nj_ar (by decide) (by decide) (by decide) (by decide) (by decide) (by decide)
  have mP : jnN N g h t v 13021 = N 13021 := nj_ar (by decide) (by decide) (by decide) (by decide) (by decide) (by decide)
  have mO : jnN N g h t v 13026 = N 13026 := nj_ar (by decide) (by decide) (by decide) (by decide) (by decide) (by decide)
  have mS : jnN N g h t v 13024 = N 13024 := nj_ar (by decide) (by decide) (by decide) (by decide) (by decide) (by decide)
  have nW : jnN N g h t v 13059 = N 13059 := nj_ar (by decide) (by decide) (by decide) (by decide) (by decide) (by decide)
  have nD : jnN N g h t v 13060 = N 13060 := nj_ar (by decide) (by decide) (by decide) (by decide) (by decide) (by decide)
  have nTr : jnN N g h t v 13061 = N 13061 := nj_ar (by decide) (by decide) (by decide) (by decide) (by decide) (by decide)
  have nID : jnN N g h t v 13062 = N 13062 := nj_ar (by decide) (by decide) (by decide) (by decide) (by decide) (by decide)
  have nDM : jnN N g h t v 13046 = N 13046 := nj_ar (by decide) (by decide) (by decide) (by decide) (by decide) (by decide)
  have nDe : jnN N g h t v 13063 = N 13063 := nj_ar (by decide) (by decide) (by decide) (by decide) (by decide) (by decide)
  have nS : jnN N g h t v 13064 = N 13064 := nj_ar (by decide) (by decide) (by decide) (by decide) (by decide) (by decide)
  have hm0 := (nm h h1 h2).2.1 (by omega)
  have eb : ∀ b, b ≠ 4000 → b ≠ 3006 → b ≠ 17106 → b ≠ 19000 → b ≠ 1000 → jnC C g h t v b = C b := fun b q1 q2 q3 q4 q5 => by
    funext x z
    exact jn_k (by omega) (by omega) (by omega)
  have e1 : ∀ z, z ≠ 5 → z ≠ 6 → jnC C g h t v 1000 g z = C 1000 g z := fun z q1 q2 => jn_k (by omega) (by omega) (by omega)
  refine ⟨⟨?_, ?_, ?_, ?_, ?_, ?_, ?_, ?_⟩, fun p p1 p2 => ?_, fun i i1 i2 => ?_, fun i i1 i2 i3 => ?_, ?_, ?_, ?_, fun i i1 i2 => ?_, fun p p1 p2 => ?_, ?_, ?_, ?_⟩
  · rw [e1 _ (by decide) (by decide)]; exact o0
  · rw [e1 _ (by decide) (by decide)]; exact o1
  · rw [e1 _ (by decide) (by decide)]; exact o2
  · rw [e1 _ (by decide) (by decide)]; exact o3
  · rw [e1 _ (by decide) (by decide)]; exact o4
  · rw [nj_H, if_pos rfl]
    unfold jnC
    rw [uq_s, if_neg (by omega), uq_s, if_pos ⟨rfl, rfl, rfl⟩]
  · rw [nj_G]
    unfold jnC
    rw [uq_s, if_pos ⟨rfl, rfl, rfl⟩]
  · rw [e1 _ (by decide) (by decide)]
    unfold nsh
    simp only [hr]
    exact o8
  · obtain ⟨x1, x2⟩ := sh p p1 p2
    simp only [hr]
    rw [eb 24000 (by decide) (by decide) (by decide) (by decide) (by decide), eb 9000 (by decide) (by decide) (by decide) (by decide) (by decide), nO, nCo, nR]
    exact ⟨x1, x2⟩
  · obtain ⟨x1, x2⟩ := me i i1 i2
    rw [nj_I, nj_B, nj_C, nj_L]
    by_cases e : i = h
    · have e19 : jnC C g h t v 19000 g i = 4000 + (12 * g + i) := by
        rw [e]
        unfold jnC
        rw [uq_s, if_neg (by omega), uq_s, if_neg (by omega), uq_s, if_pos ⟨rfl, rfl, rfl⟩]
      rw [if_pos e, if_pos e, if_pos e, if_pos e, if_pos rfl]
      refine ⟨e19, fun _ => ?_⟩
      rw [e, jn_4, jn_4, jn_4, jn_4, jn_4]
      exact ⟨rfl, rfl, rfl, rfl, rfl⟩
    · rw [if_neg e, if_neg e, if_neg e, if_neg e, jn_k (by omega) (by omega) (by omega), jn_k (by omega) (by omega) (by omega), jn_k (by omega) (by omega) (by omega), jn_k (by omega) (by omega) (by omega), jn_k (by omega) (by omega) (by omega), jn_k (by omega) (by omega) (by omega)]
      exact ⟨x1, x2⟩
  · rw [nj_I] at i3
    by_cases e : i = h
    · subst e
      have z0 : hn (jnN N g i t v) g i = 0 := by
        show jnN N g i t v 13051 (12 * g + i) = 0
        rw [nHM]
        exact hm0.2
      rw [z0]
      refine ⟨⟨?_, ?_, fun k k1 k2 => by omega⟩, fun k k1 k2 => by omega⟩
      · rw [jn_36]; rfl
      · rw [jn_36]; rfl
    · rw [if_neg e] at i3
      have x := ha i i1 i2 i3
      unfold hn hf LSr at x ⊢
      rw [nHM, nHa, nHT, nHF, nO, nR, n12, mP, mO, eb 2000 (by decide) (by decide) (by decide) (by decide) (by decide)]
      have k1 : ∀ b z, b = 3006 ∨ b = 17106 → jnC C g h t v b (12 * g + i) z = C b (12 * g + i) z := fun b z hb => jn_k (by omega) (by omega) (by omega)
      rw [k1 _ _ (Or.inl rfl), k1 _ _ (Or.inl rfl)]
      simp only [k1 17106 _ (Or.inr rfl)]
      exact x
  · unfold GLe hn hf
    simp only [hr, hc]
    rw [eb 17000 (by decide) (by decide) (by decide) (by decide) (by decide), eb 2000 (by decide) (by decide) (by decide) (by decide) (by decide), n12, mP, mS, nHM, nHa, nO, nW, nD, nTr, nID, nS]
    exact le
  · unfold GWa GW1 LSr lw
    rw [eb 3000 (by decide) (by decide) (by decide) (by decide) (by decide), eb 17100 (by decide) (by decide) (by decide) (by decide) (by decide), nW, nD]
    exact wa
  · unfold GDe LSr
    rw [eb 3003 (by decide) (by decide) (by decide) (by decide) (by decide), eb 17103 (by decide) (by decide) (by decide) (by decide) (by decide), nDM, nDe, nID]
    exact de
  · obtain ⟨x1, x2, x3⟩ := nm i i1 i2
    unfold hn at x2 x3 hm0 ⊢
    rw [nj_I, nj_H, nj_C, nj_L, nj_B, nHM, n12, if_pos rfl]
    by_cases e : i = h
    · rw [if_pos e, if_pos e, if_pos e, if_pos e, e, hm0.2]
      exact ⟨Or.inr rfl, fun z => by omega, fun _ => ⟨by decide, by decide, by decide, by omega, by omega⟩⟩
    · rw [if_neg e, if_neg e, if_neg e, if_neg e]
      exact ⟨x1, fun z => x2 (by omega), x3⟩
  · obtain ⟨x1, x2, x3⟩ := no p p1 p2
    simp only [hr]
    rw [nO, nCo, nR]
    refine ⟨x1.imp id (fun z => ⟨z.1, z.2.1, ?_, z.2.2.2⟩), x2, x3⟩
    rw [nj_I]
    split
    · rfl
    · exact z.2.2.1
  · rw [nT, n12]; exact nt
  · rw [nj_H, if_pos rfl]; omega
  · have e := mcn_upd (N := N) (N' := jnN N g h t v) (g := g) (v := 1) h1 h2 (fun i _ _ => nj_I)
    rw [e, nj_G, nj_H, if_pos rfl, hm0.1]
    omega
theorem GIn.join (a : GIn C N g) (h1 : 0 ≤ h) (h2 : h < 12) : GIn (jnC C g h t v) (jnN N g h t v) g := by
  have km : MG g N (jnN N g h t v) := MG.jn h1 h2
  have hr := fun p => km.gr g p
  have hc := fun m => km.can (m := m)
  have hs := fun q => km.so q
  have eb : ∀ b, b ≠ 4000 → b ≠ 3006 → b ≠ 17106 → b ≠ 19000 → b ≠ 1000 → jnC C g h t v b = C b := fun b q1 q2 q3 q4 q5 => by
    funext x z
    exact jn_k (by omega) (by omega) (by omega)
  have e9 : jnC C g h t v 1000 g 9 = C 1000 g 9 := jn_k (by omega) (by omega) (by omega)
  have nn : ∀ b, b ≠ 13044 → b ≠ 13047 → b ≠ 13048 → b ≠ 13049 → b ≠ 13050 → b ≠ 13043 → jnN N g h t v b = N b := fun b => nj_ar
  unfold GIn Pd Fdl So
  simp only [hr, hc, hs]
  rw [eb 2000 (by decide) (by decide) (by decide) (by decide) (by decide), eb 9000 (by decide) (by decide) (by decide) (by decide) (by decide), e9, nn 12000 (by decide) (by decide) (by decide) (by decide) (by decide) (by decide), nn 13021 (by decide) (by decide) (by decide) (by decide) (by decide) (by decide), nn 13026 (by decide) (by decide) (by decide) (by decide) (by decide) (by decide), nn 13022 (by decide) (by decide) (by decide) (by decide) (by decide) (by decide), nn 13055 (by decide) (by decide) (by decide) (by decide) (by decide) (by decide), nn 13057 (by decide) (by decide) (by decide) (by decide) (by decide) (by decide), nn 13058 (by decide) (by decide) (by decide) (by decide) (by decide) (by decide), nn 13059 (by decide) (by decide) (by decide) (by decide) (by decide) (by decide)]
  exact a
theorem join_t (a : GA C N g) (g1 : 0 ≤ g) {p : Int} (p2 : p < 9) (r : gR N g p) : jnC C g h t v 9000 (9 * g + p) 2 = obj g (was (jnN N g h t v) g p) := by
  have p1 := r.1
  obtain ⟨y0, y1, y2, -⟩ := (a.sh p p1 p2).2 r
  rw [jn_k (by omega) (by omega) (by omega), y2]
  unfold was
  rw [nj_ar (b := 13056) (by decide) (by decide) (by decide) (by decide) (by decide) (by decide), nj_I]
  by_cases y : N 13056 (9 * g + p) = -1
  · rw [if_pos y, y]
  · rw [if_neg y]
    rcases (a.np p p1 p2).1.2 with q | q
    · exact absurd q y
    · rw [q.2.2.1, if_pos (by split <;> rfl)]
theorem NE.join {C2 : Cd} {N2 : Nd} (G : RG N) (ne : NE C N A) (g1 : 0 ≤ g) (g2 : g < (N 12000 41)) (h1 : 0 ≤ h) (h2 : h < 12) (hh : N 13044 g = h) (e12 : N2 12000 = N 12000) (eH : ∀ i, N2 13044 i = if i = g then h + 1 else N 13044 i) (e17 : C2 17000 = C 17000) : NE C2 N2 (jnA A g h) := by
  have s4 := G.s.2.2.2.1
  have s1 := G.s.1
  have s2 := G.s.2.1
  have s3 := G.s.2.2.1
  have s5 := G.s.2.2.2.2.1
  obtain ⟨n1, n2, n3, n4, n5, n6, n7⟩ := ne
  unfold NE
  rw [e12, e17]
  refine ⟨fun t t1 t2 => ?_, fun p p1 p2 => ?_, fun x x1 x2 => ?_, fun m m1 m2 => ?_, fun i y1 y2 => ?_, fun i q y1 y2 q1 q2 hq => ?_, fun i m y1 y2 q1 q2 hq => ?_⟩
  · rw [jnA_k (by omega) (by omega) (by omega), jnA_k (by omega) (by omega) (by omega)]
    exact n1 t t1 t2
  · have q := n2 p p1 p2
    refine ⟨?_, ?_, ?_, fun z z1 z2 => ?_⟩ <;> rw [jnA_k (by omega) (by omega) (by omega)]
    · exact q.1
    · exact q.2.1
    · exact q.2.2.1
    · exact q.2.2.2 z z1 z2
  · rw [jnA_k (by omega) (by omega) (by omega), jnA_k (by omega) (by omega) (by omega)]
    exact n3 x x1 x2
  · rw [jnA_k (by omega) (by omega) (by omega)]
    exact n4 m m1 m2
  · have q := n5 i y1 y2
    refine ⟨?_, ?_, ?_, ?_, ?_, ?_, ?_, ?_, fun z z1 z2 => ?_⟩ <;> rw [jnA_k (by omega) (by omega) (by omega)]
    · exact q.1
    · exact q.2.1
    · exact q.2.2.1
    · exact q.2.2.2.1
    · exact q.2.2.2.2.1
    · exact q.2.2.2.2.2.1
    · exact q.2.2.2.2.2.2.1
    · exact q.2.2.2.2.2.2.2.1
    · exact q.2.2.2.2.2.2.2.2 z z1 z2
  · rw [eH] at hq
    have hq' : (N 12000 41) ≤ i ∨ N 13044 i ≤ q := by
      by_cases e : i = g
      · rw [if_pos e] at hq
        rw [e, hh]
        omega
      · rw [if_neg e] at hq
        exact hq
    have ne' : ¬ (i = g ∧ q = h) := fun e => by
      rw [if_pos e.1] at hq
      omega
    have r := n6 i q y1 y2 q1 q2 hq'
    rw [jnA_k (by omega) (by omega) (by omega), jnA_k (by omega) (by omega) (by omega), jnA_k (by omega) (by omega) (by omega)]
    exact r
  · rw [jnA_k (by omega) (by omega) (by omega)]
    exact n7 i m y1 y2 q1 q2 hq
end JOIN
theorem q_join {n : Int} {C : Cd} {N : Nd} {A : Ad} {g : Int} (j : JJ n C N A) : SR n C N A (p_G_join (mk C N A) 11000 g 15000) (fun M => p_X11_join M 12000 g) := by
  have G := j.jn.g
  have s4 := G.s.2.2.2.1
  have s8 := G.s.2.2.2.2.2.2.2.1
  have b15 : C 11000 0 15 = (N 12000 1) := j.c.b.2.2.2.2.2.2.2.2.2
  have hm := c_groupOf (N0 := N) (A := A) (t := g) G j.c
  have hi := fun C A => @m_isGroup C (up N 12000 0 0) A g j.z.s
  simp only [up_s, up_s, true_and, false_and, and_true, and_false, if_true, if_false, ↓reduceIte, ↓Option.bind_some, Int.reduceEq, Int.reduceNe, Int.reduceLT, Int.reduceLE, gd_true, gd_false, bind_b, q10, eq_self, reduceCtorEq, not_true_eq_false, not_false_eq_true, ne_eq] at hi
  unfold p_G_join p_X10_join
  by_cases h1 : 0 ≤ g ∧ g < (N 12000 41)
  · have g3 : g < 3 := by omega
    have h10 := h1.1
    have gr := j.gr h1.1 h1.2
    have a := gr.1
    have o5 : C 1000 g 5 = N 13044 g := a.o.2.2.2.2.2.1
    have nh := a.nu.2.1
    have cm := c_memberCount (N0 := N) (A := A) a h1.1 g3
    have mm := fun C A => @m_gMembers C (up N 12000 0 0) A g a.nm h1.1 g3
    have mm' : ∀ C A, p_X11_gMembers (mk C (up N 12000 0 0) A) 12000 g = some (mcn N g) := mm
    have m4 := j.zn.2.1 g h1.1 h1.2
    by_cases h2 : N 13044 g < 12
    · by_cases h3 : mcn N g < 4
      · have h2' : ¬ N 13044 g = 12 := by omega
        have h3' : ¬ mcn N g = 4 := by omega
        obtain ⟨n1, n2, n3, n4, n5, n6, n7⟩ := j.ne
        obtain ⟨d1, d2, d3⟩ := n6 g (N 13044 g) h1.1 g3 nh.1 h2 (Or.inr (Int.le_refl _))
        have gb : 0 ≤ N 13043 g ∧ N 13043 g ≤ 24 := by
          have x := a.nu.2.2.1
          have y := @su_b (fun i => N 13047 (12 * g + i)) 0 12 1 (fun i i1 i2 => by have := (a.nm i i1 (by omega)).1; omega)
          have y' : mcn N g = su (fun i => N 13047 (12 * g + i)) 0 12 := rfl
          have z : mcn N g ≤ N 13044 g := by
            rw [y']
            have q : su (fun i => N 13047 (12 * g + i)) 0 12 ≤ su (fun i => if i < N 13044 g then 1 else 0) 0 12 := su_le fun i i1 i2 => by
              have w' := a.nm i i1 (by omega)
              by_cases e : i < N 13044 g
              · rw [if_pos e]; have := w'.1; omega
              · rw [if_neg e, (w'.2.1 (by omega)).1]
                exact Int.le_refl _
            have q2 : su (fun i => if i < N 13044 g then 1 else 0) 0 12 = N 13044 g := su_lt12 nh.1 nh.2
            omega
          omega
        have jz : JJ n C (up N 12000 0 0) A := j.thrown
        have az := (jz.gr h1.1 h1.2)
        have km : MG g (up N 12000 0 0) (jnN (up N 12000 0 0) g (N 13044 g) ((N 12000 1)) (N 13043 g + 1)) := MG.jn nh.1 h2
        have gw : GAw (jnC C g (N 13044 g) ((N 12000 1)) (N 13043 g + 1)) (jnN (up N 12000 0 0) g (N 13044 g) ((N 12000 1)) (N 13043 g + 1)) g := az.1.join jz.jn.g nh.1 h2 rfl rfl rfl
        obtain ⟨C2, N2, cd, md, ga2, kc3, km3, ka3⟩ := deal (jz.jn.mg km) gw h1.1 g3 (fun p p2 r => join_t az.1 h1.1 p2 ((km.gr g p).mp r)) (fun p p1 p2 => by
          rw [nj_ar (b := 13056) (by decide) (by decide) (by decide) (by decide) (by decide) (by decide)]
          simp only [km.gr]
          exact (az.1.np p p1 p2).1.2.imp id (fun z => ⟨z.1, z.2.1, z.2.2.2⟩))
        have gi2 : GIn C2 N2 g := GIn.dealt (az.2.join nh.1 h2) kc3 km3 ka3
        have kc : KG g C C2 := (KG.jn nh.1 h2).tr (fun b x z h => kc3 b x z (dcell_in h))
        have kn : MG g (up N 12000 0 0) N2 := km.tr km3
        have sc : N2 12000 = (up N 12000 0 0) 12000 := kn.n0 (by decide)
        have c217 : C2 17000 = C 17000 := by
          funext x z
          rw [kc3 _ _ _ (by unfold dCell; omega), jn_k (by omega) (by omega) (by omega)]
        have c210 : C2 1000 g 9 = C 1000 g 9 := by rw [kc3 _ _ _ (by unfold dCell; omega), jn_k (by omega) (by omega) (by omega)]
        have c240 : C2 4000 (12 * g + N 13044 g) 0 = N 13044 g := by
          rw [kc3 _ _ _ (by unfold dCell; omega), jn_4]
          rfl
        have gg : N2 13043 g = N 13043 g + 1 := by rw [ka3 _ (by decide) (by decide) (by decide), nj_G]
        have eH : ∀ i, N2 13044 i = if i = g then N 13044 g + 1 else (up N 12000 0 0) 13044 i := fun i => by rw [ka3 _ (by decide) (by decide) (by decide), nj_H]
        have eM : mcn N2 g = mcn N g + 1 := by
          have e := mcn_upd (N := up N 12000 0 0) (N' := N2) (g := g) (j := N 13044 g) (v := 1) nh.1 h2 (fun i _ _ => by rw [ka3 _ (by decide) (by decide) (by decide), nj_I])
          rw [e]
          have i0 : (up N 12000 0 0) 13047 (12 * g + N 13044 g) = 0 := ((az.1.nm _ nh.1 h2).2.1 (Int.le_refl _)).1
          rw [i0]
          show mcn N g + (1 - 0) = _
          omega
        have j2 : JJ n C2 N2 (jnA A g (N 13044 g)) := jz.grp0 h1.1 h1.2 kc kn ⟨ga2, gi2⟩ ⟨by rw [gg]; show N 13043 g ≤ _; omega, fun e => by
          rw [gg] at e
          have e' : N 13043 g + 1 = N 13043 g := e
          omega⟩ (jz.ne.join jz.jn.g h1.1 h1.2 nh.1 h2 rfl sc eH c217) (by omega) (Int.le_refl n) (by rw [c210]; exact j.b.2.2.2 g h1.1 h1.2) (jz.fs0 h1.1 h1.2 (Int.le_refl n) (fun x _ _ => by rw [kc3 _ _ _ (by unfold dCell; omega), jn_k (by omega) (by omega) (by omega)]) (by rw [ka3 _ (by decide) (by decide) (by decide)]; rfl))
        have k12 : 12 * (1000 + g - 1000) = 12 * g := by omega
        have k34 : 3006 + (4000 + (12 * g + N 13044 g) - 4000) = 3006 + (12 * g + N 13044 g) := by omega
        have k17 : 17100 + (3006 + (12 * g + N 13044 g) - 3000) = 17106 + (12 * g + N 13044 g) := by omega
        have a2 : (alA A (4000 + (12 * g + N 13044 g)) 7).1 (3006 + (12 * g + N 13044 g)) = 0 := by rw [ad_al (by omega)]; exact d2
        have a3 : (alA (alA A (4000 + (12 * g + N 13044 g)) 7) (3006 + (12 * g + N 13044 g)) 2).1 (17106 + (12 * g + N 13044 g)) = 0 := by rw [ad_al (by omega), ad_al (by omega)]; exact d3
        have o1 : C 1000 g 1 = 19000 + g := a.o.2.1
        have o6 : C 1000 g 6 = N 13043 g := a.o.2.2.2.2.2.2.1
        have i2 : ∀ D, p_X2_init (mk D N (alA (alA A (4000 + (12 * g + N 13044 g)) 7) (3006 + (12 * g + N 13044 g)) 2)) (3006 + (12 * g + N 13044 g)) 9 = some (mk (uq (zq (uq D 3006 (12 * g + N 13044 g) 1 0) 17106 (12 * g + N 13044 g)) 3006 (12 * g + N 13044 g) 0 (17106 + (12 * g + N 13044 g))) N (jnA A g (N 13044 g))) := fun D => by
          unfold p_X2_init
          simp (disch := first | omega | assumption) only [aok, up_s, true_and, false_and, and_true, and_false, if_true, if_false, ↓reduceIte, ↓Option.bind_some, Int.reduceEq, Int.reduceNe, Int.reduceLT, Int.reduceLE, gd_true, gd_false, bind_b, q10, eq_self, reduceCtorEq, not_true_eq_false, not_false_eq_true, ne_eq, cr_11000, cr_15000, cr_16000, cr_20000, cr_20001, cr_21000, cr_22000, cr_25000, cr_1000, cr_2000, cr_3000, cr_3003, cr_3006, cr_4000, cr_5000, cr_6000, cr_7000, cr_8000, cr_9000, cr_10000, cr_13500, cr_17000, cr_17100, cr_17103, cr_17106, cr_19000, cr_20100, cr_21100, cr_23000, cr_24000, cw_11000, cw_15000, cw_16000, cw_20000, cw_20001, cw_21000, cw_22000, cw_25000, cw_1000, cw_2000, cw_3000, cw_3003, cw_3006, cw_4000, cw_5000, cw_6000, cw_7000, cw_8000, cw_9000, cw_10000, cw_13500, cw_17000, cw_17100, cw_17103, cw_17106, cw_19000, cw_20100, cw_21100, cw_23000, cw_24000, lc_13500, lc_15000, lc_16000, lc_17000, lc_17100, lc_17103, lc_17106, lc_19000, lc_20000, lc_20001, lc_20100, lc_21000, lc_21100, lc_22000, lc_23000, lc_24000, lc_25000, gd_t, w_eq, k17, al_17106]
          rfl
        have i3 : p_X3_init (mk (zq C 4000 (12 * g + N 13044 g)) N (alA A (4000 + (12 * g + N 13044 g)) 7)) (4000 + (12 * g + N 13044 g)) (N 13044 g) ((N 12000 1)) = some (mk (uq (uq (uq (uq (uq (uq (uq (uq (zq (uq (zq (zq C 4000 (12 * g + N 13044 g)) 3006 (12 * g + N 13044 g)) 3006 (12 * g + N 13044 g) 1 0) 17106 (12 * g + N 13044 g)) 3006 (12 * g + N 13044 g) 0 (17106 + (12 * g + N 13044 g))) 4000 (12 * g + N 13044 g) 1 (3006 + (12 * g + N 13044 g))) 4000 (12 * g + N 13044 g) 3 3) 4000 (12 * g + N 13044 g) 4 (-1)) 4000 (12 * g + N 13044 g) 5 0) 4000 (12 * g + N 13044 g) 6 0) 4000 (12 * g + N 13044 g) 0 (N 13044 g)) 4000 (12 * g + N 13044 g) 2 ((N 12000 1))) N (jnA A g (N 13044 g))) := by
          unfold p_X3_init
          simp (disch := first | omega | assumption) only [aok, up_s, true_and, false_and, and_true, and_false, if_true, if_false, ↓reduceIte, ↓Option.bind_some, Int.reduceEq, Int.reduceNe, Int.reduceLT, Int.reduceLE, gd_true, gd_false, bind_b, q10, eq_self, reduceCtorEq, not_true_eq_false, not_false_eq_true, ne_eq, cr_11000, cr_15000, cr_16000, cr_20000, cr_20001, cr_21000, cr_22000, cr_25000, cr_1000, cr_2000, cr_3000, cr_3003, cr_3006, cr_4000, cr_5000, cr_6000, cr_7000, cr_8000, cr_9000, cr_10000, cr_13500, cr_17000, cr_17100, cr_17103, cr_17106, cr_19000, cr_20100, cr_21100, cr_23000, cr_24000, cw_11000, cw_15000, cw_16000, cw_20000, cw_20001, cw_21000, cw_22000, cw_25000, cw_1000, cw_2000, cw_3000, cw_3003, cw_3006, cw_4000, cw_5000, cw_6000, cw_7000, cw_8000, cw_9000, cw_10000, cw_13500, cw_17000, cw_17100, cw_17103, cw_17106, cw_19000, cw_20100, cw_21100, cw_23000, cw_24000, lc_13500, lc_15000, lc_16000, lc_17000, lc_17100, lc_17103, lc_17106, lc_19000, lc_20000, lc_20001, lc_20100, lc_21000, lc_21100, lc_22000, lc_23000, lc_24000, lc_25000, gd_t, w_eq, k34, al_3006, i2]
        have ad : p_X0_addMember (mk C N A) (1000 + g) ((N 12000 1)) = some (N 13044 g, mk C2 N (jnA A g (N 13044 g))) := by
          have q5 : zq C 4000 (12 * g + N 13044 g) 1000 g 5 = N 13044 g := by rw [zq_s, if_neg (by omega)]; exact o5
          generalize eD : uq (uq (uq (uq (uq (uq (uq (uq (zq (uq (zq (zq C 4000 (12 * g + N 13044 g)) 3006 (12 * g + N 13044 g)) 3006 (12 * g + N 13044 g) 1 0) 17106 (12 * g + N 13044 g)) 3006 (12 * g + N 13044 g) 0 (17106 + (12 * g + N 13044 g))) 4000 (12 * g + N 13044 g) 1 (3006 + (12 * g + N 13044 g))) 4000 (12 * g + N 13044 g) 3 3) 4000 (12 * g + N 13044 g) 4 (-1)) 4000 (12 * g + N 13044 g) 5 0) 4000 (12 * g + N 13044 g) 6 0) 4000 (12 * g + N 13044 g) 0 (N 13044 g)) 4000 (12 * g + N 13044 g) 2 ((N 12000 1)) = D at i3
          have dk : ∀ z, D 1000 g z = C 1000 g z := fun z => by
            rw [← eD]
            repeat first
              | rw [uq_s, if_neg (by omega)]
              | rw [zq_s, if_neg (by omega)]
          have e1 : D 1000 g 1 = 19000 + g := (dk 1).trans o1
          have e5 : D 1000 g 5 = N 13044 g := (dk 5).trans o5
          have f5 : uq D 19000 g (N 13044 g) (4000 + (12 * g + N 13044 g)) 1000 g 5 = N 13044 g := by rw [uq_s, if_neg (by omega)]; exact e5
          have f6 : uq (uq D 19000 g (N 13044 g) (4000 + (12 * g + N 13044 g))) 1000 g 5 (N 13044 g + 1) 1000 g 6 = N 13043 g := by rw [uq_s, if_neg (by omega), uq_s, if_neg (by omega), dk]; exact o6
          have cd' : p_X0_dealTargets (mk (uq (uq (uq D 19000 g (N 13044 g) (4000 + (12 * g + N 13044 g))) 1000 g 5 (N 13044 g + 1)) 1000 g 6 (N 13043 g + 1)) N (jnA A g (N 13044 g))) (1000 + g) = some (mk C2 N (jnA A g (N 13044 g))) := by
            rw [← eD]
            exact cd N (jnA A g (N 13044 g))
          unfold p_X0_addMember
          simp (disch := first | omega | assumption) only [aok, up_s, true_and, false_and, and_true, and_false, if_true, if_false, ↓reduceIte, ↓Option.bind_some, Int.reduceEq, Int.reduceNe, Int.reduceLT, Int.reduceLE, gd_true, gd_false, bind_b, q10, eq_self, reduceCtorEq, not_true_eq_false, not_false_eq_true, ne_eq, cr_11000, cr_15000, cr_16000, cr_20000, cr_20001, cr_21000, cr_22000, cr_25000, cr_1000, cr_2000, cr_3000, cr_3003, cr_3006, cr_4000, cr_5000, cr_6000, cr_7000, cr_8000, cr_9000, cr_10000, cr_13500, cr_17000, cr_17100, cr_17103, cr_17106, cr_19000, cr_20100, cr_21100, cr_23000, cr_24000, cw_11000, cw_15000, cw_16000, cw_20000, cw_20001, cw_21000, cw_22000, cw_25000, cw_1000, cw_2000, cw_3000, cw_3003, cw_3006, cw_4000, cw_5000, cw_6000, cw_7000, cw_8000, cw_9000, cw_10000, cw_13500, cw_17000, cw_17100, cw_17103, cw_17106, cw_19000, cw_20100, cw_21100, cw_23000, cw_24000, lc_13500, lc_15000, lc_16000, lc_17000, lc_17100, lc_17103, lc_17106, lc_19000, lc_20000, lc_20001, lc_20100, lc_21000, lc_21100, lc_22000, lc_23000, lc_24000, lc_25000, gd_t, w_eq, o1, o5, h2, k12, al_4000, q5, i3, e1, e5, f5, f6, cd', c240]
        refine ⟨0, uq C2 15000 0 0 (N 13044 g), jnA A g (N 13044 g), ?_, N 13044 g, N2, ?_, by rw [sc]; rfl, fun _ => rfl, j2.next.out⟩
        · simp (disch := omega) only [aok, up_s, true_and, false_and, and_true, and_false, if_true, if_false, ↓reduceIte, ↓Option.bind_some, Int.reduceEq, Int.reduceNe, Int.reduceLT, Int.reduceLE, gd_true, gd_false, bind_b, q10, eq_self, reduceCtorEq, not_true_eq_false, not_false_eq_true, ne_eq, cr_11000, cr_15000, cr_16000, cr_20000, cr_20001, cr_21000, cr_22000, cr_25000, cr_1000, cr_2000, cr_3000, cr_3003, cr_3006, cr_4000, cr_5000, cr_6000, cr_7000, cr_8000, cr_9000, cr_10000, cr_13500, cr_17000, cr_17100, cr_17103, cr_17106, cr_19000, cr_20100, cr_21100, cr_23000, cr_24000, cw_11000, cw_15000, cw_16000, cw_20000, cw_20001, cw_21000, cw_22000, cw_25000, cw_1000, cw_2000, cw_3000, cw_3003, cw_3006, cw_4000, cw_5000, cw_6000, cw_7000, cw_8000, cw_9000, cw_10000, cw_13500, cw_17000, cw_17100, cw_17103, cw_17106, cw_19000, cw_20100, cw_21100, cw_23000, cw_24000, lc_13500, lc_15000, lc_16000, lc_17000, lc_17100, lc_17103, lc_17106, lc_19000, lc_20000, lc_20001, lc_20100, lc_21000, lc_21100, lc_22000, lc_23000, lc_24000, lc_25000, gd_t, w_eq, thT, thU, psT, psU, hnT, thr_mk, ↓Option.bind_some, hm, h1, o5, h2, cm, h3, b15, ad]
        · have md' : ∀ C' A', p_X11_gDeals (mk C' (up (up (up (up (up (up (up N 12000 0 0) 13044 g (N 13044 g + 1)) 13047 (12 * g + N 13044 g) 1) 13048 (12 * g + N 13044 g) ((N 12000 1))) 13049 (12 * g + N 13044 g) 3) 13050 (12 * g + N 13044 g) (-1)) 13043 g (N 13043 g + 1)) A') 12000 g = some (mk C' N2 A') := md
          unfold p_X11_join
          simp (disch := omega) only [aok, up_s, true_and, false_and, and_true, and_false, if_true, if_false, ↓reduceIte, ↓Option.bind_some, Int.reduceEq, Int.reduceNe, Int.reduceLT, Int.reduceLE, gd_true, gd_false, bind_b, q10, eq_self, reduceCtorEq, not_true_eq_false, not_false_eq_true, ne_eq, pt_0, pt_1, pt_2, pt_3, pt_4, pt_5, pt_6, pt_7, pt_8, pt_9, pt_10, pt_11, pt_12, pt_13, pt_14, pt_15, pt_16, pt_17, pt_18, pt_19, pt_20, pt_21, pt_22, pt_23, pt_24, pt_25, pt_26, pt_27, pt_28, pt_29, pt_30, pt_31, pt_32, pt_33, pt_34, pt_35, pt_36, pt_37, pt_38, pt_39, pt_40, pt_41, pt_42, pt_43, pt_44, pt_45, pt_46, pt_47, pt_48, pt_49, pt_50, pt_51, pt_52, pt_53, pt_54, pt_55, pt_56, pt_57, pt_58, pt_59, pt_60, pt_61, pt_62, pt_63, pt_64, pt_65, pt_66, pt_67, pa_13005, pw_13005, pa_13006, pw_13006, pa_13007, pw_13007, pa_14008, pw_14008, pa_13009, pw_13009, pa_13010, pw_13010, pa_13012, pw_13012, pa_13013, pw_13013, pa_13014, pw_13014, pa_13015, pw_13015, pa_13016, pw_13016, pa_13017, pw_13017, pa_13018, pw_13018, pa_13020, pw_13020, pa_13021, pw_13021, pa_13022, pw_13022, pa_13023, pw_13023, pa_13024, pw_13024, pa_13025, pw_13025, pa_13026, pw_13026, pa_13027, pw_13027, pa_13028, pw_13028, pa_13029, pw_13029, pa_13031, pw_13031, pa_13032, pw_13032, pa_13033, pw_13033, pa_14034, pw_14034, pa_13035, pw_13035, pa_13036, pw_13036, pa_13037, pw_13037, pa_13038, pw_13038, pa_13039, pw_13039, pa_13042, pw_13042, pa_13043, pw_13043, pa_13044, pw_13044, pa_13045, pw_13045, pa_13046, pw_13046, pa_13047, pw_13047, pa_13048, pw_13048, pa_13049, pw_13049, pa_13050, pw_13050, pa_13051, pw_13051, pa_13052, pw_13052, pa_13053, pw_13053, pa_13054, pw_13054, pa_13055, pw_13055, pa_13056, pw_13056, pa_13057, pw_13057, pa_13058, pw_13058, pa_13059, pw_13059, pa_13060, pw_13060, pa_13061, pw_13061, pa_13062, pw_13062, pa_13063, pw_13063, pa_13064, pw_13064, pa_13065, pw_13065, pa_13066, pw_13066, pa_13067, pw_13067, ps_0, ps_1, ps_2, ps_3, ps_4, ps_11, ps_19, ps_30, ps_40, ps_41, ln_13005, ln_13006, ln_13007, ln_14008, ln_13009, ln_13010, ln_13012, ln_13013, ln_13014, ln_13015, ln_13016, ln_13017, ln_13018, ln_13020, ln_13021, ln_13022, ln_13023, ln_13024, ln_13025, ln_13026, ln_13027, ln_13028, ln_13029, ln_13031, ln_13032, ln_13033, ln_14034, ln_13035, ln_13036, ln_13037, ln_13038, ln_13039, ln_13042, ln_13043, ln_13044, ln_13045, ln_13046, ln_13047, ln_13048, ln_13049, ln_13050, ln_13051, ln_13052, ln_13053, ln_13054, ln_13055, ln_13056, ln_13057, ln_13058, ln_13059, ln_13060, ln_13061, ln_13062, ln_13063, ln_13064, ln_13065, ln_13066, ln_13067, gd_t, w_eq, hi, h1, mm', h3', h2', md']
      · have h3' : mcn N g = 4 := by omega
        refine SR.r j 2 (by omega) ?_ ?_
        · simp (disch := omega) only [aok, up_s, true_and, false_and, and_true, and_false, if_true, if_false, ↓reduceIte, ↓Option.bind_some, Int.reduceEq, Int.reduceNe, Int.reduceLT, Int.reduceLE, gd_true, gd_false, bind_b, q10, eq_self, reduceCtorEq, not_true_eq_false, not_false_eq_true, ne_eq, cr_11000, cr_15000, cr_16000, cr_20000, cr_20001, cr_21000, cr_22000, cr_25000, cr_1000, cr_2000, cr_3000, cr_3003, cr_3006, cr_4000, cr_5000, cr_6000, cr_7000, cr_8000, cr_9000, cr_10000, cr_13500, cr_17000, cr_17100, cr_17103, cr_17106, cr_19000, cr_20100, cr_21100, cr_23000, cr_24000, cw_11000, cw_15000, cw_16000, cw_20000, cw_20001, cw_21000, cw_22000, cw_25000, cw_1000, cw_2000, cw_3000, cw_3003, cw_3006, cw_4000, cw_5000, cw_6000, cw_7000, cw_8000, cw_9000, cw_10000, cw_13500, cw_17000, cw_17100, cw_17103, cw_17106, cw_19000, cw_20100, cw_21100, cw_23000, cw_24000, lc_13500, lc_15000, lc_16000, lc_17000, lc_17100, lc_17103, lc_17106, lc_19000, lc_20000, lc_20001, lc_20100, lc_21000, lc_21100, lc_22000, lc_23000, lc_24000, lc_25000, gd_t, w_eq, thT, thU, psT, psU, hnT, thr_mk, ↓Option.bind_some, hm, h1, o5, h2, cm, h3]
        · unfold p_X11_join
          simp (disch := omega) only [aok, up_s, true_and, false_and, and_true, and_false, if_true, if_false, ↓reduceIte, ↓Option.bind_some, Int.reduceEq, Int.reduceNe, Int.reduceLT, Int.reduceLE, gd_true, gd_false, bind_b, q10, eq_self, reduceCtorEq, not_true_eq_false, not_false_eq_true, ne_eq, pt_0, pt_1, pt_2, pt_3, pt_4, pt_5, pt_6, pt_7, pt_8, pt_9, pt_10, pt_11, pt_12, pt_13, pt_14, pt_15, pt_16, pt_17, pt_18, pt_19, pt_20, pt_21, pt_22, pt_23, pt_24, pt_25, pt_26, pt_27, pt_28, pt_29, pt_30, pt_31, pt_32, pt_33, pt_34, pt_35, pt_36, pt_37, pt_38, pt_39, pt_40, pt_41, pt_42, pt_43, pt_44, pt_45, pt_46, pt_47, pt_48, pt_49, pt_50, pt_51, pt_52, pt_53, pt_54, pt_55, pt_56, pt_57, pt_58, pt_59, pt_60, pt_61, pt_62, pt_63, pt_64, pt_65, pt_66, pt_67, pa_13005, pw_13005, pa_13006, pw_13006, pa_13007, pw_13007, pa_14008, pw_14008, pa_13009, pw_13009, pa_13010, pw_13010, pa_13012, pw_13012, pa_13013, pw_13013, pa_13014, pw_13014, pa_13015, pw_13015, pa_13016, pw_13016, pa_13017, pw_13017, pa_13018, pw_13018, pa_13020, pw_13020, pa_13021, pw_13021, pa_13022, pw_13022, pa_13023, pw_13023, pa_13024, pw_13024, pa_13025, pw_13025, pa_13026, pw_13026, pa_13027, pw_13027, pa_13028, pw_13028, pa_13029, pw_13029, pa_13031, pw_13031, pa_13032, pw_13032, pa_13033, pw_13033, pa_14034, pw_14034, pa_13035, pw_13035, pa_13036, pw_13036, pa_13037, pw_13037, pa_13038, pw_13038, pa_13039, pw_13039, pa_13042, pw_13042, pa_13043, pw_13043, pa_13044, pw_13044, pa_13045, pw_13045, pa_13046, pw_13046, pa_13047, pw_13047, pa_13048, pw_13048, pa_13049, pw_13049, pa_13050, pw_13050, pa_13051, pw_13051, pa_13052, pw_13052, pa_13053, pw_13053, pa_13054, pw_13054, pa_13055, pw_13055, pa_13056, pw_13056, pa_13057, pw_13057, pa_13058, pw_13058, pa_13059, pw_13059, pa_13060, pw_13060, pa_13061, pw_13061, pa_13062, pw_13062, pa_13063, pw_13063, pa_13064, pw_13064, pa_13065, pw_13065, pa_13066, pw_13066, pa_13067, pw_13067, ps_0, ps_1, ps_2, ps_3, ps_4, ps_11, ps_19, ps_30, ps_40, ps_41, ln_13005, ln_13006, ln_13007, ln_14008, ln_13009, ln_13010, ln_13012, ln_13013, ln_13014, ln_13015, ln_13016, ln_13017, ln_13018, ln_13020, ln_13021, ln_13022, ln_13023, ln_13024, ln_13025, ln_13026, ln_13027, ln_13028, ln_13029, ln_13031, ln_13032, ln_13033, ln_14034, ln_13035, ln_13036, ln_13037, ln_13038, ln_13039, ln_13042, ln_13043, ln_13044, ln_13045, ln_13046, ln_13047, ln_13048, ln_13049, ln_13050, ln_13051, ln_13052, ln_13053, ln_13054, ln_13055, ln_13056, ln_13057, ln_13058, ln_13059, ln_13060, ln_13061, ln_13062, ln_13063, ln_13064, ln_13065, ln_13066, ln_13067, gd_t, w_eq, hi, h1, mm', h3', m_refuse]
    · have h2' : N 13044 g = 12 := by omega
      refine SR.r j 2 (by omega) ?_ ?_
      · simp (disch := omega) only [aok, up_s, true_and, false_and, and_true, and_false, if_true, if_false, ↓reduceIte, ↓Option.bind_some, Int.reduceEq, Int.reduceNe, Int.reduceLT, Int.reduceLE, gd_true, gd_false, bind_b, q10, eq_self, reduceCtorEq, not_true_eq_false, not_false_eq_true, ne_eq, cr_11000, cr_15000, cr_16000, cr_20000, cr_20001, cr_21000, cr_22000, cr_25000, cr_1000, cr_2000, cr_3000, cr_3003, cr_3006, cr_4000, cr_5000, cr_6000, cr_7000, cr_8000, cr_9000, cr_10000, cr_13500, cr_17000, cr_17100, cr_17103, cr_17106, cr_19000, cr_20100, cr_21100, cr_23000, cr_24000, cw_11000, cw_15000, cw_16000, cw_20000, cw_20001, cw_21000, cw_22000, cw_25000, cw_1000, cw_2000, cw_3000, cw_3003, cw_3006, cw_4000, cw_5000, cw_6000, cw_7000, cw_8000, cw_9000, cw_10000, cw_13500, cw_17000, cw_17100, cw_17103, cw_17106, cw_19000, cw_20100, cw_21100, cw_23000, cw_24000, lc_13500, lc_15000, lc_16000, lc_17000, lc_17100, lc_17103, lc_17106, lc_19000, lc_20000, lc_20001, lc_20100, lc_21000, lc_21100, lc_22000, lc_23000, lc_24000, lc_25000, gd_t, w_eq, thT, thU, psT, psU, hnT, thr_mk, ↓Option.bind_some, hm, h1, o5, h2]
      · unfold p_X11_join
        by_cases h3 : mcn N g = 4
        · simp (disch := omega) only [aok, up_s, true_and, false_and, and_true, and_false, if_true, if_false, ↓reduceIte, ↓Option.bind_some, Int.reduceEq, Int.reduceNe, Int.reduceLT, Int.reduceLE, gd_true, gd_false, bind_b, q10, eq_self, reduceCtorEq, not_true_eq_false, not_false_eq_true, ne_eq, pt_0, pt_1, pt_2, pt_3, pt_4, pt_5, pt_6, pt_7, pt_8, pt_9, pt_10, pt_11, pt_12, pt_13, pt_14, pt_15, pt_16, pt_17, pt_18, pt_19, pt_20, pt_21, pt_22, pt_23, pt_24, pt_25, pt_26, pt_27, pt_28, pt_29, pt_30, pt_31, pt_32, pt_33, pt_34, pt_35, pt_36, pt_37, pt_38, pt_39, pt_40, pt_41, pt_42, pt_43, pt_44, pt_45, pt_46, pt_47, pt_48, pt_49, pt_50, pt_51, pt_52, pt_53, pt_54, pt_55, pt_56, pt_57, pt_58, pt_59, pt_60, pt_61, pt_62, pt_63, pt_64, pt_65, pt_66, pt_67, pa_13005, pw_13005, pa_13006, pw_13006, pa_13007, pw_13007, pa_14008, pw_14008, pa_13009, pw_13009, pa_13010, pw_13010, pa_13012, pw_13012, pa_13013, pw_13013, pa_13014, pw_13014, pa_13015, pw_13015, pa_13016, pw_13016, pa_13017, pw_13017, pa_13018, pw_13018, pa_13020, pw_13020, pa_13021, pw_13021, pa_13022, pw_13022, pa_13023, pw_13023, pa_13024, pw_13024, pa_13025, pw_13025, pa_13026, pw_13026, pa_13027, pw_13027, pa_13028, pw_13028, pa_13029, pw_13029, pa_13031, pw_13031, pa_13032, pw_13032, pa_13033, pw_13033, pa_14034, pw_14034, pa_13035, pw_13035, pa_13036, pw_13036, pa_13037, pw_13037, pa_13038, pw_13038, pa_13039, pw_13039, pa_13042, pw_13042, pa_13043, pw_13043, pa_13044, pw_13044, pa_13045, pw_13045, pa_13046, pw_13046, pa_13047, pw_13047, pa_13048, pw_13048, pa_13049, pw_13049, pa_13050, pw_13050, pa_13051, pw_13051, pa_13052, pw_13052, pa_13053, pw_13053, pa_13054, pw_13054, pa_13055, pw_13055, pa_13056, pw_13056, pa_13057, pw_13057, pa_13058, pw_13058, pa_13059, pw_13059, pa_13060, pw_13060, pa_13061, pw_13061, pa_13062, pw_13062, pa_13063, pw_13063, pa_13064, pw_13064, pa_13065, pw_13065, pa_13066, pw_13066, pa_13067, pw_13067, ps_0, ps_1, ps_2, ps_3, ps_4, ps_11, ps_19, ps_30, ps_40, ps_41, ln_13005, ln_13006, ln_13007, ln_14008, ln_13009, ln_13010, ln_13012, ln_13013, ln_13014, ln_13015, ln_13016, ln_13017, ln_13018, ln_13020, ln_13021, ln_13022, ln_13023, ln_13024, ln_13025, ln_13026, ln_13027, ln_13028, ln_13029, ln_13031, ln_13032, ln_13033, ln_14034, ln_13035, ln_13036, ln_13037, ln_13038, ln_13039, ln_13042, ln_13043, ln_13044, ln_13045, ln_13046, ln_13047, ln_13048, ln_13049, ln_13050, ln_13051, ln_13052, ln_13053, ln_13054, ln_13055, ln_13056, ln_13057, ln_13058, ln_13059, ln_13060, ln_13061, ln_13062, ln_13063, ln_13064, ln_13065, ln_13066, ln_13067, gd_t, w_eq, hi, h1, mm', h3, m_refuse]
        · simp (disch := omega) only [aok, up_s, true_and, false_and, and_true, and_false, if_true, if_false, ↓reduceIte, ↓Option.bind_some, Int.reduceEq, Int.reduceNe, Int.reduceLT, Int.reduceLE, gd_true, gd_false, bind_b, q10, eq_self, reduceCtorEq, not_true_eq_false, not_false_eq_true, ne_eq, pt_0, pt_1, pt_2, pt_3, pt_4, pt_5, pt_6, pt_7, pt_8, pt_9, pt_10, pt_11, pt_12, pt_13, pt_14, pt_15, pt_16, pt_17, pt_18, pt_19, pt_20, pt_21, pt_22, pt_23, pt_24, pt_25, pt_26, pt_27, pt_28, pt_29, pt_30, pt_31, pt_32, pt_33, pt_34, pt_35, pt_36, pt_37, pt_38, pt_39, pt_40, pt_41, pt_42, pt_43, pt_44, pt_45, pt_46, pt_47, pt_48, pt_49, pt_50, pt_51, pt_52, pt_53, pt_54, pt_55, pt_56, pt_57, pt_58, pt_59, pt_60, pt_61, pt_62, pt_63, pt_64, pt_65, pt_66, pt_67, pa_13005, pw_13005, pa_13006, pw_13006, pa_13007, pw_13007, pa_14008, pw_14008, pa_13009, pw_13009, pa_13010, pw_13010, pa_13012, pw_13012, pa_13013, pw_13013, pa_13014, pw_13014, pa_13015, pw_13015, pa_13016, pw_13016, pa_13017, pw_13017, pa_13018, pw_13018, pa_13020, pw_13020, pa_13021, pw_13021, pa_13022, pw_13022, pa_13023, pw_13023, pa_13024, pw_13024, pa_13025, pw_13025, pa_13026, pw_13026, pa_13027, pw_13027, pa_13028, pw_13028, pa_13029, pw_13029, pa_13031, pw_13031, pa_13032, pw_13032, pa_13033, pw_13033, pa_14034, pw_14034, pa_13035, pw_13035, pa_13036, pw_13036, pa_13037, pw_13037, pa_13038, pw_13038, pa_13039, pw_13039, pa_13042, pw_13042, pa_13043, pw_13043, pa_13044, pw_13044, pa_13045, pw_13045, pa_13046, pw_13046, pa_13047, pw_13047, pa_13048, pw_13048, pa_13049, pw_13049, pa_13050, pw_13050, pa_13051, pw_13051, pa_13052, pw_13052, pa_13053, pw_13053, pa_13054, pw_13054, pa_13055, pw_13055, pa_13056, pw_13056, pa_13057, pw_13057, pa_13058, pw_13058, pa_13059, pw_13059, pa_13060, pw_13060, pa_13061, pw_13061, pa_13062, pw_13062, pa_13063, pw_13063, pa_13064, pw_13064, pa_13065, pw_13065, pa_13066, pw_13066, pa_13067, pw_13067, ps_0, ps_1, ps_2, ps_3, ps_4, ps_11, ps_19, ps_30, ps_40, ps_41, ln_13005, ln_13006, ln_13007, ln_14008, ln_13009, ln_13010, ln_13012, ln_13013, ln_13014, ln_13015, ln_13016, ln_13017, ln_13018, ln_13020, ln_13021, ln_13022, ln_13023, ln_13024, ln_13025, ln_13026, ln_13027, ln_13028, ln_13029, ln_13031, ln_13032, ln_13033, ln_14034, ln_13035, ln_13036, ln_13037, ln_13038, ln_13039, ln_13042, ln_13043, ln_13044, ln_13045, ln_13046, ln_13047, ln_13048, ln_13049, ln_13050, ln_13051, ln_13052, ln_13053, ln_13054, ln_13055, ln_13056, ln_13057, ln_13058, ln_13059, ln_13060, ln_13061, ln_13062, ln_13063, ln_13064, ln_13065, ln_13066, ln_13067, gd_t, w_eq, hi, h1, mm', h3, h2', m_refuse]
  · refine SR.r j 1 (by omega) ?_ ?_
    · simp (disch := omega) only [aok, up_s, true_and, false_and, and_true, and_false, if_true, if_false, ↓reduceIte, ↓Option.bind_some, Int.reduceEq, Int.reduceNe, Int.reduceLT, Int.reduceLE, gd_true, gd_false, bind_b, q10, eq_self, reduceCtorEq, not_true_eq_false, not_false_eq_true, ne_eq, cr_11000, cr_15000, cr_16000, cr_20000, cr_20001, cr_21000, cr_22000, cr_25000, cr_1000, cr_2000, cr_3000, cr_3003, cr_3006, cr_4000, cr_5000, cr_6000, cr_7000, cr_8000, cr_9000, cr_10000, cr_13500, cr_17000, cr_17100, cr_17103, cr_17106, cr_19000, cr_20100, cr_21100, cr_23000, cr_24000, cw_11000, cw_15000, cw_16000, cw_20000, cw_20001, cw_21000, cw_22000, cw_25000, cw_1000, cw_2000, cw_3000, cw_3003, cw_3006, cw_4000, cw_5000, cw_6000, cw_7000, cw_8000, cw_9000, cw_10000, cw_13500, cw_17000, cw_17100, cw_17103, cw_17106, cw_19000, cw_20100, cw_21100, cw_23000, cw_24000, lc_13500, lc_15000, lc_16000, lc_17000, lc_17100, lc_17103, lc_17106, lc_19000, lc_20000, lc_20001, lc_20100, lc_21000, lc_21100, lc_22000, lc_23000, lc_24000, lc_25000, gd_t, w_eq, thT, thU, psT, psU, hnT, thr_mk, ↓Option.bind_some, hm, h1]
    · unfold p_X11_join
      simp (disch := omega) only [aok, up_s, true_and, false_and, and_true, and_false, if_true, if_false, ↓reduceIte, ↓Option.bind_some, Int.reduceEq, Int.reduceNe, Int.reduceLT, Int.reduceLE, gd_true, gd_false, bind_b, q10, eq_self, reduceCtorEq, not_true_eq_false, not_false_eq_true, ne_eq, pt_0, pt_1, pt_2, pt_3, pt_4, pt_5, pt_6, pt_7, pt_8, pt_9, pt_10, pt_11, pt_12, pt_13, pt_14, pt_15, pt_16, pt_17, pt_18, pt_19, pt_20, pt_21, pt_22, pt_23, pt_24, pt_25, pt_26, pt_27, pt_28, pt_29, pt_30, pt_31, pt_32, pt_33, pt_34, pt_35, pt_36, pt_37, pt_38, pt_39, pt_40, pt_41, pt_42, pt_43, pt_44, pt_45, pt_46, pt_47, pt_48, pt_49, pt_50, pt_51, pt_52, pt_53, pt_54, pt_55, pt_56, pt_57, pt_58, pt_59, pt_60, pt_61, pt_62, pt_63, pt_64, pt_65, pt_66, pt_67, pa_13005, pw_13005, pa_13006, pw_13006, pa_13007, pw_13007, pa_14008, pw_14008, pa_13009, pw_13009, pa_13010, pw_13010, pa_13012, pw_13012, pa_13013, pw_13013, pa_13014, pw_13014, pa_13015, pw_13015, pa_13016, pw_13016, pa_13017, pw_13017, pa_13018, pw_13018, pa_13020, pw_13020, pa_13021, pw_13021, pa_13022, pw_13022, pa_13023, pw_13023, pa_13024, pw_13024, pa_13025, pw_13025, pa_13026, pw_13026, pa_13027, pw_13027, pa_13028, pw_13028, pa_13029, pw_13029, pa_13031, pw_13031, pa_13032, pw_13032, pa_13033, pw_13033, pa_14034, pw_14034, pa_13035, pw_13035, pa_13036, pw_13036, pa_13037, pw_13037, pa_13038, pw_13038, pa_13039, pw_13039, pa_13042, pw_13042, pa_13043, pw_13043, pa_13044, pw_13044, pa_13045, pw_13045, pa_13046, pw_13046, pa_13047, pw_13047, pa_13048, pw_13048, pa_13049, pw_13049, pa_13050, pw_13050, pa_13051, pw_13051, pa_13052, pw_13052, pa_13053, pw_13053, pa_13054, pw_13054, pa_13055, pw_13055, pa_13056, pw_13056, pa_13057, pw_13057, pa_13058, pw_13058, pa_13059, pw_13059, pa_13060, pw_13060, pa_13061, pw_13061, pa_13062, pw_13062, pa_13063, pw_13063, pa_13064, pw_13064, pa_13065, pw_13065, pa_13066, pw_13066, pa_13067, pw_13067, ps_0, ps_1, ps_2, ps_3, ps_4, ps_11, ps_19, ps_30, ps_40, ps_41, ln_13005, ln_13006, ln_13007, ln_14008, ln_13009, ln_13010, ln_13012, ln_13013, ln_13014, ln_13015, ln_13016, ln_13017, ln_13018, ln_13020, ln_13021, ln_13022, ln_13023, ln_13024, ln_13025, ln_13026, ln_13027, ln_13028, ln_13029, ln_13031, ln_13032, ln_13033, ln_14034, ln_13035, ln_13036, ln_13037, ln_13038, ln_13039, ln_13042, ln_13043, ln_13044, ln_13045, ln_13046, ln_13047, ln_13048, ln_13049, ln_13050, ln_13051, ln_13052, ln_13053, ln_13054, ln_13055, ln_13056, ln_13057, ln_13058, ln_13059, ln_13060, ln_13061, ln_13062, ln_13063, ln_13064, ln_13065, ln_13066, ln_13067, gd_t, w_eq, hi, h1, m_refuse]
