/-! PURE PART, 9b: a member goes: what holds; leave, the call -/
theorem GA.w {C : Cd} {N : Nd} {g : Int} (a : GA C N g) : GAw C N g := by
  obtain ⟨⟨o0, o1, o2, o3, o4, o5, o6, o7, o8⟩, sh, me, ha, le, wa, de, nm, np, nt, nh, ng, nf⟩ := a
  exact ⟨⟨o0, o1, o2, o3, o4, o5, o6, o8⟩, fun p p1 p2 => ⟨(sh p p1 p2).1, fun r => by
    obtain ⟨y0, y1, y2, y3, y4⟩ := (sh p p1 p2).2 r
    exact ⟨y0, y1, y3, y4⟩⟩, me, ha, le, wa, de, nm, fun p p1 p2 => ⟨(np p p1 p2).1.1, (np p p1 p2).2⟩, nt, nh, ng⟩
theorem mcn_upd {N N' : Nd} {g j v : Int} (j1 : 0 ≤ j) (j2 : j < 12) (h : ∀ i, 0 ≤ i → i < 12 → N' 13047 (12 * g + i) = if i = j then v else N 13047 (12 * g + i)) : mcn N' g = mcn N g + (v - N 13047 (12 * g + j)) := by
  have e : mcn N' g = su (fun i => N 13047 (12 * g + i) + if i = j then v - N 13047 (12 * g + j) else 0) 0 12 := su_congr fun i i1 i2 => by
    rw [h i i1 (by omega)]
    by_cases z : i = j
    · rw [if_pos z, if_pos z, z]; omega
    · rw [if_neg z, if_neg z]; omega
  rw [e, su_plus, su_one (g := fun i => if i = j then v - N 13047 (12 * g + j) else 0) j j1 (by omega) (fun i _ _ ni => if_neg ni), if_pos rfl]
  rfl
theorem su_lt12 {h : Int} (h1 : 0 ≤ h) (h2 : h ≤ 12) : su (fun i => if i < h then 1 else 0) 0 12 = h := by
  have k : ∀ n : Nat, su (fun i => if i < h then 1 else 0) 0 n = if (n : Int) ≤ h then (n : Int) else h := by
    intro n
    induction n with
    | zero =>
      rw [su_0]
      split <;> omega
    | succ n ih =>
      rw [su_S, ih]
      split <;> split <;> split <;> omega
  rw [k 12]
  split <;> omega
section GONE
variable {C : Cd} {N : Nd} {g j v : Int}
def gnC (C : Cd) (g j v : Int) : Cd := uq (uq (nlC C g j 9) 19000 g j 0) 1000 g 6 v
def gnN (N : Nd) (g j v : Int) : Nd := up (up N 13047 (12 * g + j) 0) 13043 g v
theorem gn_i {i : Int} : gnN N g j v 13047 (12 * g + i) = if i = j then 0 else N 13047 (12 * g + i) := by
  unfold gnN
  rw [up_s, if_neg (by omega), up_s]
  by_cases e : i = j
  · rw [if_pos e, if_pos (by omega)]
  · rw [if_neg e, if_neg (by omega)]
theorem gn_g : gnN N g j v 13043 g = v := by
  unfold gnN
  rw [up_s, if_pos ⟨rfl, rfl⟩]
theorem gn_ar {b : Int} (h : b ≠ 13047) (h2 : b ≠ 13043) : gnN N g j v b = N b := by
  funext i
  unfold gnN
  rw [up_s, if_neg (fun z => h2 z.1), up_s, if_neg (fun z => h z.1)]
theorem gnc_b {b : Int} (h1 : b ≠ 9000) (h2 : b ≠ 19000) (h3 : b ≠ 1000) : gnC C g j v b = C b := by
  funext x z
  unfold gnC
  rw [uq_s, if_neg (fun q => h3 q.1), uq_s, if_neg (fun q => h2 q.1), nl_b h1]
theorem gnc_9 {x z : Int} (h : z ≠ 2) : gnC C g j v 9000 x z = C 9000 x z := by
  unfold gnC
  rw [uq_s, if_neg (by omega), uq_s, if_neg (by omega), nl_k (by omega)]
theorem gnc_1 {z : Int} (h : z ≠ 6) : gnC C g j v 1000 g z = C 1000 g z := by
  unfold gnC
  rw [uq_s, if_neg (by omega), uq_s, if_neg (by omega), nl_k (by omega)]
theorem KG.gn (j1 : 0 ≤ j) (j2 : j < 12) : KG g C (gnC C g j v) := fun b x z h => by
  unfold inG at h
  unfold gnC
  rw [uq_s, if_neg (by omega), uq_s, if_neg (by omega)]
  unfold nlC
  rw [if_neg (by omega)]
theorem MG.gn (j1 : 0 ≤ j) (j2 : j < 12) : MG g N (gnN N g j v) := (MG.rf.up (by unfold inN; omega)).up (by unfold inN; omega)
theorem GA.gone (a : GA C N g) (j1 : 0 ≤ j) (j2 : j < 12) (hi : N 13047 (12 * g + j) = 1) (hno : ∀ p, 0 ≤ p → p < 9 → N 13055 (9 * g + p) ≠ j) (hv : v = N 13043 g + 1) : GAw (gnC C g j v) (gnN N g j v) g := by
  obtain ⟨⟨o0, o1, o2, o3, o4, o5, o6, o8⟩, sh, me, ha, le, wa, de, nm, no, nt, nh, ng⟩ := a.w
  have km : MG g N (gnN N g j v) := MG.gn j1 j2
  have hr := fun p => km.gr g p
  have hc := fun m => km.can (m := m)
  have n12 : gnN N g j v 12000 = N 12000 := gn_ar (by decide) (by decide)
  have nT : gnN N g j v 13042 = N 13042 := gn_ar (by decide) (by decide)
  have nH : gnN N g j v 13044 = N 13044 := gn_ar (by decide) (by decide)
  refine ⟨⟨?_, ?_, ?_, ?_, ?_, ?_, ?_, ?_⟩, fun p p1 p2 => ?_, fun i i1 i2 => ?_, fun i i1 i2 i3 => ?_, ?_, ?_, ?_, fun i i1 i2 => ?_, fun p p1 p2 => ?_, ?_, ?_, ?_⟩
  · rw [gnc_1 (by decide)]; exact o0
  · rw [gnc_1 (by decide)]; exact o1
  · rw [gnc_1 (by decide)]; exact o2
  · rw [gnc_1 (by decide)]; exact o3
  · rw [gnc_1 (by decide)]; exact o4
  · rw [gnc_1 (by decide), nH]; exact o5
  · rw [gn_g]
    unfold gnC
    rw [uq_s, if_pos ⟨rfl, rfl, rfl⟩]
  · rw [gnc_1 (by decide)]
    unfold nsh
    simp only [hr]
    exact o8
  · obtain ⟨x1, x2⟩ := sh p p1 p2
    simp only [hr]
    rw [gnc_b (b := 24000) (by decide) (by decide) (by decide), gn_ar (b := 13055) (by decide) (by decide), gn_ar (b := 13057) (by decide) (by decide), gn_ar (b := 13058) (by decide) (by decide), gnc_9 (by decide), gnc_9 (by decide), gnc_9 (by decide), gnc_9 (by decide)]
    exact ⟨x1, x2⟩
  · obtain ⟨x1, x2⟩ := me i i1 i2
    rw [gn_i, gn_ar (b := 13048) (by decide) (by decide), gn_ar (b := 13049) (by decide) (by decide), gn_ar (b := 13050) (by decide) (by decide), gnc_b (b := 4000) (by decide) (by decide) (by decide)]
    have e19 : gnC C g j v 19000 g i = if i = j then 0 else C 19000 g i := by
      unfold gnC
      rw [uq_s, if_neg (by omega), uq_s]
      by_cases e : i = j
      · rw [if_pos ⟨rfl, rfl, e⟩, if_pos e]
      · rw [if_neg (fun q => e q.2.2), if_neg e, nl_k (by omega)]
    rw [e19]
    by_cases e : i = j
    · rw [if_pos e, if_pos e, if_neg (by decide)]
      exact ⟨rfl, fun q => absurd q (by decide)⟩
    · rw [if_neg e, if_neg e]
      exact ⟨x1, x2⟩
  · rw [gn_i] at i3
    have ne : i ≠ j := fun e => by rw [if_pos e] at i3; exact absurd i3 (by decide)
    rw [if_neg ne] at i3
    have x := ha i i1 i2 i3
    unfold hn hf LSr at x ⊢
    rw [gnc_b (b := 3006) (by decide) (by decide) (by decide), gnc_b (b := 17106) (by decide) (by decide) (by decide), gnc_b (b := 2000) (by decide) (by decide) (by decide), gn_ar (b := 13051) (by decide) (by decide), gn_ar (b := 13052) (by decide) (by decide), gn_ar (b := 13053) (by decide) (by decide), gn_ar (b := 13054) (by decide) (by decide), gn_ar (b := 13055) (by decide) (by decide), gn_ar (b := 13058) (by decide) (by decide), n12, gn_ar (b := 13021) (by decide) (by decide), gn_ar (b := 13026) (by decide) (by decide)]
    exact x
  · unfold GLe hn hf
    simp only [hr, hc]
    rw [gnc_b (b := 17000) (by decide) (by decide) (by decide), gnc_b (b := 2000) (by decide) (by decide) (by decide), n12, gn_ar (b := 13021) (by decide) (by decide), gn_ar (b := 13024) (by decide) (by decide), gn_ar (b := 13051) (by decide) (by decide), gn_ar (b := 13052) (by decide) (by decide), gn_ar (b := 13055) (by decide) (by decide), gn_ar (b := 13059) (by decide) (by decide), gn_ar (b := 13060) (by decide) (by decide), gn_ar (b := 13061) (by decide) (by decide), gn_ar (b := 13062) (by decide) (by decide), gn_ar (b := 13064) (by decide) (by decide)]
    exact le
  · unfold GWa GW1 LSr lw
    rw [gnc_b (b := 3000) (by decide) (by decide) (by decide), gnc_b (b := 17100) (by decide) (by decide) (by decide), gn_ar (b := 13059) (by decide) (by decide), gn_ar (b := 13060) (by decide) (by decide)]
    exact wa
  · unfold GDe LSr
    rw [gnc_b (b := 3003) (by decide) (by decide) (by decide), gnc_b (b := 17103) (by decide) (by decide) (by decide), gn_ar (b := 13046) (by decide) (by decide), gn_ar (b := 13063) (by decide) (by decide), gn_ar (b := 13062) (by decide) (by decide)]
    exact de
  · obtain ⟨x1, x2, x3⟩ := nm i i1 i2
    unfold hn at x2 x3 ⊢
    rw [gn_i, nH, gn_ar (b := 13051) (by decide) (by decide), gn_ar (b := 13049) (by decide) (by decide), gn_ar (b := 13050) (by decide) (by decide), gn_ar (b := 13048) (by decide) (by decide), n12]
    by_cases e : i = j
    · rw [if_pos e]
      exact ⟨Or.inl rfl, fun z => ⟨rfl, (x2 z).2⟩, fun z => absurd z (by decide)⟩
    · rw [if_neg e]
      exact ⟨x1, x2, x3⟩
  · obtain ⟨x1, x2, x3⟩ := no p p1 p2
    simp only [hr]
    rw [gn_ar (b := 13055) (by decide) (by decide), gn_ar (b := 13057) (by decide) (by decide), gn_ar (b := 13058) (by decide) (by decide)]
    refine ⟨x1.imp id (fun z => ⟨z.1, z.2.1, ?_, z.2.2.2⟩), x2, x3⟩
    rw [gn_i, if_neg (hno p p1 p2)]
    exact z.2.2.1
  · rw [nT, n12]; exact nt
  · rw [nH]; exact nh
  · have e := mcn_upd (N := N) (N' := gnN N g j v) (g := g) (v := 0) j1 j2 (fun i _ _ => gn_i)
    rw [e, gn_g, nH]
    omega
theorem GIn.gone (a : GIn C N g) (j1 : 0 ≤ j) (j2 : j < 12) : GIn (gnC C g j v) (gnN N g j v) g := by
  have km : MG g N (gnN N g j v) := MG.gn j1 j2
  have hr := fun p => km.gr g p
  have hc := fun m => km.can (m := m)
  have hs := fun q => km.so q
  have e5 : ∀ x, gnC C g j v 9000 x 5 = C 9000 x 5 := fun x => gnc_9 (by decide)
  unfold GIn Pd Fdl So
  simp only [hr, hc, hs, e5]
  rw [gnc_b (b := 2000) (by decide) (by decide) (by decide), gnc_1 (by decide), gn_ar (b := 12000) (by decide) (by decide), gn_ar (b := 13021) (by decide) (by decide), gn_ar (b := 13026) (by decide) (by decide), gn_ar (b := 13022) (by decide) (by decide), gn_ar (b := 13055) (by decide) (by decide), gn_ar (b := 13057) (by decide) (by decide), gn_ar (b := 13058) (by decide) (by decide), gn_ar (b := 13059) (by decide) (by decide)]
  exact a
theorem gone_t (a : GA C N g) (g1 : 0 ≤ g) (j1 : 0 ≤ j) (j2 : j < 12) {p : Int} (p2 : p < 9) (r : gR N g p) : gnC C g j v 9000 (9 * g + p) 2 = obj g (was (gnN N g j v) g p) := by
  have p1 := r.1
  obtain ⟨x1, x2⟩ := a.sh p p1 p2
  rw [if_pos r] at x1
  obtain ⟨y0, y1, y2, -⟩ := x2 r
  have e : gnC C g j v 9000 (9 * g + p) 2 = nlC C g j 9 9000 (9 * g + p) 2 := by
    unfold gnC
    rw [uq_s, if_neg (by omega), uq_s, if_neg (by omega)]
  have te := obj_eq (g := g) (j := j) (a.np.t p1 p2) g1 j1
  rw [e, nl_t p1]
  unfold was
  rw [gn_ar (b := 13056) (by decide) (by decide), gn_i]
  by_cases z : N 13056 (9 * g + p) = j
  · rw [if_pos ⟨p2, by rw [x1]; omega, by rw [y2]; exact te.mpr z⟩, if_neg (by omega), if_pos z, if_neg (by decide)]
    rfl
  · rw [if_neg (fun q => z (te.mp (y2.symm.trans q.2.2))), y2]
    by_cases y : N 13056 (9 * g + p) = -1
    · rw [if_pos y, y]
    · rw [if_neg y, if_neg z]
      rcases (a.np p p1 p2).1.2 with q | q
      · exact absurd q y
      · rw [if_pos q.2.2.1]
theorem dcell_in {b x z : Int} (h : ¬ inG g b x) : ¬ dCell g b x z := fun q => by
  unfold inG at h
  unfold dCell at q
  omega
theorem goes {n : Int} {C : Cd} {N N0 : Nd} {A : Ad} (jj : JJ n C N A) (g1 : 0 ≤ g) (g2 : g < (N 12000 41)) (j1 : 0 ≤ j) (j2 : j < 12) (hi : N 13047 (12 * g + j) = 1) : ∃ C2 N2 s, p_X0_removeMember (mk C N0 A) (1000 + g) (4000 + (12 * g + j)) ((N 12000 1)) = some (s, mk C2 N0 A) ∧ (∀ C'' A'', p_X11_gGoes (mk C'' N A'') 12000 g j = some (s, mk C'' N2 A'')) ∧ JJ n C2 N2 A ∧ KG g C C2 ∧ MG g N N2 ∧ (WS g N N2 ∧ 0 ≤ s) ∧ ∀ b, ¬ (13051 ≤ b ∧ b ≤ 13056) → b ≠ 13058 → ¬ (13059 ≤ b ∧ b ≤ 13063) → b ≠ 13046 → b ≠ 13047 → b ≠ 13043 → b ≠ 13045 → (b < 13065 ∨ 13067 < b) → N2 b = N b := by
  have G := jj.jn.g
  have s4 := G.s.2.2.2.1
  have s8 := G.s.2.2.2.2.2.2.2.1
  have g3 : g < 3 := by omega
  have gr := jj.gr g1 g2
  obtain ⟨C1, N1, s1, bk, kc1, ⟨c17, c10, c24⟩, ⟨jn1, cc1, gr1⟩, hno, sb, lc, lm⟩ := lvLoop (N0 := N0) (A := A) g1 g3 j1 j2 9 C N 0 0 1000 jj.jn jj.c gr s8.2 hi (by omega) (by omega) (by omega) (by omega) (by omega) (fun p p1 p2 => by omega)
  rw [nl_0] at lc
  have e47 : N1 13047 = N 13047 := bk.2.1 _ (by decide) (by decide) (by decide) (by decide)
  have e43 : N1 13043 = N 13043 := bk.2.1 _ (by decide) (by decide) (by decide) (by decide)
  have e44 : N1 13044 = N 13044 := bk.2.1 _ (by decide) (by decide) (by decide) (by decide)
  have hi1 : N1 13047 (12 * g + j) = 1 := by rw [e47]; exact hi
  have a1 := gr1.1
  have gb : 0 ≤ N1 13043 g ∧ N1 13043 g ≤ 24 := by
    have x := a1.nu.2
    have y := @su_b (fun i => N1 13047 (12 * g + i)) 0 12 1 (fun i i1 i2 => by have := (a1.nm i i1 (by omega)).1; omega)
    have y' : mcn N1 g = su (fun i => N1 13047 (12 * g + i)) 0 12 := rfl
    have z : mcn N1 g ≤ N1 13044 g := by
      rw [y']
      have q : su (fun i => N1 13047 (12 * g + i)) 0 12 ≤ su (fun i => if i < N1 13044 g then 1 else 0) 0 12 := su_le fun i i1 i2 => by
        have w' := a1.nm i i1 (by omega)
        by_cases e : i < N1 13044 g
        · rw [if_pos e]; have := w'.1; omega
        · rw [if_neg e, (w'.2.1 (by omega)).1]
          exact Int.le_refl _
      have q2 : su (fun i => if i < N1 13044 g then 1 else 0) 0 12 = N1 13044 g := su_lt12 x.1.1 x.1.2
      omega
    omega
  have gw : GAw (gnC C1 g j (N1 13043 g + 1)) (gnN N1 g j (N1 13043 g + 1)) g := a1.gone j1 j2 hi1 hno rfl
  have km2 : MG g N1 (gnN N1 g j (N1 13043 g + 1)) := MG.gn j1 j2
  obtain ⟨C2, N2, cd, md, ga2, kc3, km3, ka3⟩ := deal (jn1.mg km2) gw g1 g3 (fun p p2 r => gone_t a1 g1 j1 j2 p2 ((km2.gr g p).mp r)) (fun p p1 p2 => by
    rw [gn_ar (b := 13056) (by decide) (by decide)]
    simp only [km2.gr]
    exact (a1.np p p1 p2).1.2.imp id (fun z => ⟨z.1, z.2.1, z.2.2.2⟩))
  have gi2 : GIn C2 N2 g := GIn.dealt (gr1.2.gone (v := N1 13043 g + 1) j1 j2) kc3 km3 ka3
  have kc : KG g C C2 := (kc1.tr (KG.gn j1 j2)).tr (fun b x z h => kc3 b x z (dcell_in h))
  have kn : MG g N N2 := (bk.1.tr km2).tr km3
  have gg : N2 13043 g = N 13043 g + 1 := by rw [ka3 _ (by decide) (by decide) (by decide), gn_g, e43]
  have e2H : N2 13044 = N 13044 := by rw [ka3 _ (by decide) (by decide) (by decide), gn_ar (by decide) (by decide), e44]
  have c217 : C2 17000 = C 17000 := by
    funext x z
    rw [kc3 _ _ _ (by unfold dCell; omega), gnc_b (by decide) (by decide) (by decide), c17]
  have c210 : C2 1000 g 9 = C 1000 g 9 := by rw [kc3 _ _ _ (by unfold dCell; omega), gnc_1 (by decide), c10]
  have j2' : JJ n C2 N2 A := jj.grp g1 g2 kc kn ⟨ga2, gi2⟩ ⟨by omega, fun e => by omega⟩ (jj.ne.grp (g := g) kn e2H c217 rfl) e2H (Int.le_refl n) (by rw [c210]; exact jj.b.2.2.2 g g1 g2) (jj.fs0 g1 g2 (Int.le_refl n) (fun x _ _ => by rw [kc3 _ _ _ (by unfold dCell; omega), gnc_b (by decide) (by decide) (by decide), c24.2]) (by rw [ka3 _ (by decide) (by decide) (by decide), gn_ar (by decide) (by decide)]; exact bk.2.1 _ (by decide) (by decide) (by decide) (by decide)))
  have ws : WS g N N2 := by
    have e : ∀ b, b ≠ 13056 → b ≠ 13045 → b ≠ 13047 → b ≠ 13043 → (b < 13065 ∨ 13067 < b) → N2 b = N1 b := fun b b1 b2 b3 b4 b5 => (ka3 b b1 b2 b5).trans (gn_ar b3 b4)
    refine (bk.2.2.tr (WK.le (fun i i1 i2 h => ?_) (e 13051 (by decide) (by decide) (by decide) (by decide) (by decide)) (e 13052 (by decide) (by decide) (by decide) (by decide) (by decide)) (e 13059 (by decide) (by decide) (by decide) (by decide) (by decide)) (e 13060 (by decide) (by decide) (by decide) (by decide) (by decide)))).ws jj g1 g2
    rw [ka3 13047 (by decide) (by decide) (by decide), gn_i] at h
    by_cases z : i = j
    · rw [if_pos z] at h
      exact absurd h (by decide)
    · rw [if_neg z] at h
      exact h
  refine ⟨C2, N2, s1, ?_, fun C'' A'' => ?_, j2', kc, kn, ⟨ws, sb.1⟩, fun b b1 b2 b3 b4 b5 b6 b7 b8 => ?_⟩
  · have o0 := gr.1.o.1
    have z1 : nlC C1 g j 9 4000 (12 * g + j) 0 = j := by rw [nl_k (by omega)]; exact ((a1.me j j1 j2).2 hi1).1
    have z2 : nlC C1 g j 9 1000 g 1 = 19000 + g := by rw [nl_k (by omega)]; exact a1.o.2.1
    have z3 : uq (nlC C1 g j 9) 19000 g j 0 1000 g 6 = N1 13043 g := by rw [uq_s, if_neg (by omega), nl_k (by omega)]; exact a1.o.2.2.2.2.2.2.1
    have nl : ¬ j < 0 := by omega
    have nz : ¬ 4000 + (12 * g + j) = 0 := by omega
    have cd' : p_X0_dealTargets (mk (uq (uq (nlC C1 g j 9) 19000 g j 0) 1000 g 6 (N1 13043 g + 1)) N0 A) (1000 + g) = some (mk C2 N0 A) := cd N0 A
    unfold p_X0_removeMember
    simp (disch := omega) only [aok, up_s, true_and, false_and, and_true, and_false, if_true, if_false, ↓reduceIte, ↓Option.bind_some, Int.reduceEq, Int.reduceNe, Int.reduceLT, Int.reduceLE, gd_true, gd_false, bind_b, q10, eq_self, reduceCtorEq, not_true_eq_false, not_false_eq_true, ne_eq, cr_11000, cr_15000, cr_16000, cr_20000, cr_20001, cr_21000, cr_22000, cr_25000, cr_1000, cr_2000, cr_3000, cr_3003, cr_3006, cr_4000, cr_5000, cr_6000, cr_7000, cr_8000, cr_9000, cr_10000, cr_13500, cr_17000, cr_17100, cr_17103, cr_17106, cr_19000, cr_20100, cr_21100, cr_23000, cr_24000, cw_11000, cw_15000, cw_16000, cw_20000, cw_20001, cw_21000, cw_22000, cw_25000, cw_1000, cw_2000, cw_3000, cw_3003, cw_3006, cw_4000, cw_5000, cw_6000, cw_7000, cw_8000, cw_9000, cw_10000, cw_13500, cw_17000, cw_17100, cw_17103, cw_17106, cw_19000, cw_20100, cw_21100, cw_23000, cw_24000, lc_13500, lc_15000, lc_16000, lc_17000, lc_17100, lc_17103, lc_17106, lc_19000, lc_20000, lc_20001, lc_20100, lc_21000, lc_21100, lc_22000, lc_23000, lc_24000, lc_25000, gd_t, w_eq, o0, lc, nz, z1, nl, z2, j2, z3, cd']
  · have md' : ∀ C'' A'', p_X11_gDeals (mk C'' (up (up N1 13047 (12 * g + j) 0) 13043 g (N1 13043 g + 1)) A'') 12000 g = some (mk C'' N2 A'') := md
    unfold p_X11_gGoes
    simp (disch := omega) only [aok, up_s, true_and, false_and, and_true, and_false, if_true, if_false, ↓reduceIte, ↓Option.bind_some, Int.reduceEq, Int.reduceNe, Int.reduceLT, Int.reduceLE, gd_true, gd_false, bind_b, q10, eq_self, reduceCtorEq, not_true_eq_false, not_false_eq_true, ne_eq, pt_0, pt_1, pt_2, pt_3, pt_4, pt_5, pt_6, pt_7, pt_8, pt_9, pt_10, pt_11, pt_12, pt_13, pt_14, pt_15, pt_16, pt_17, pt_18, pt_19, pt_20, pt_21, pt_22, pt_23, pt_24, pt_25, pt_26, pt_27, pt_28, pt_29, pt_30, pt_31, pt_32, pt_33, pt_34, pt_35, pt_36, pt_37, pt_38, pt_39, pt_40, pt_41, pt_42, pt_43, pt_44, pt_45, pt_46, pt_47, pt_48, pt_49, pt_50, pt_51, pt_52, pt_53, pt_54, pt_55, pt_56, pt_57, pt_58, pt_59, pt_60, pt_61, pt_62, pt_63, pt_64, pt_65, pt_66, pt_67, pa_13005, pw_13005, pa_13006, pw_13006, pa_13007, pw_13007, pa_14008, pw_14008, pa_13009, pw_13009, pa_13010, pw_13010, pa_13012, pw_13012, pa_13013, pw_13013, pa_13014, pw_13014, pa_13015, pw_13015, pa_13016, pw_13016, pa_13017, pw_13017, pa_13018, pw_13018, pa_13020, pw_13020, pa_13021, pw_13021, pa_13022, pw_13022, pa_13023, pw_13023, pa_13024, pw_13024, pa_13025, pw_13025, pa_13026, pw_13026, pa_13027, pw_13027, pa_13028, pw_13028, pa_13029, pw_13029, pa_13031, pw_13031, pa_13032, pw_13032, pa_13033, pw_13033, pa_14034, pw_14034, pa_13035, pw_13035, pa_13036, pw_13036, pa_13037, pw_13037, pa_13038, pw_13038, pa_13039, pw_13039, pa_13042, pw_13042, pa_13043, pw_13043, pa_13044, pw_13044, pa_13045, pw_13045, pa_13046, pw_13046, pa_13047, pw_13047, pa_13048, pw_13048, pa_13049, pw_13049, pa_13050, pw_13050, pa_13051, pw_13051, pa_13052, pw_13052, pa_13053, pw_13053, pa_13054, pw_13054, pa_13055, pw_13055, pa_13056, pw_13056, pa_13057, pw_13057, pa_13058, pw_13058, pa_13059, pw_13059, pa_13060, pw_13060, pa_13061, pw_13061, pa_13062, pw_13062, pa_13063, pw_13063, pa_13064, pw_13064, pa_13065, pw_13065, pa_13066, pw_13066, pa_13067, pw_13067, ps_0, ps_1, ps_2, ps_3, ps_4, ps_11, ps_19, ps_30, ps_40, ps_41, ln_13005, ln_13006, ln_13007, ln_14008, ln_13009, ln_13010, ln_13012, ln_13013, ln_13014, ln_13015, ln_13016, ln_13017, ln_13018, ln_13020, ln_13021, ln_13022, ln_13023, ln_13024, ln_13025, ln_13026, ln_13027, ln_13028, ln_13029, ln_13031, ln_13032, ln_13033, ln_14034, ln_13035, ln_13036, ln_13037, ln_13038, ln_13039, ln_13042, ln_13043, ln_13044, ln_13045, ln_13046, ln_13047, ln_13048, ln_13049, ln_13050, ln_13051, ln_13052, ln_13053, ln_13054, ln_13055, ln_13056, ln_13057, ln_13058, ln_13059, ln_13060, ln_13061, ln_13062, ln_13063, ln_13064, ln_13065, ln_13066, ln_13067, gd_t, w_eq, lm, md']
  · rw [ka3 b (by omega) b7 b8, gn_ar b5 b6, bk.2.1 b (by omega) b2 b3 b4]
end GONE
theorem q_leave {n : Int} {C : Cd} {N : Nd} {A : Ad} {g o : Int} (j : JJ n C N A) : SR n C N A (p_G_leave (mk C N A) 11000 g o 15000) (fun M => p_X11_leave M 12000 g o) := by
  have G := j.jn.g
  have s4 := G.s.2.2.2.1
  have b15 : C 11000 0 15 = (N 12000 1) := j.c.b.2.2.2.2.2.2.2.2.2
  have hm := c_groupOf (N0 := N) (A := A) (t := g) G j.c
  have hi := fun C A => @m_isMember C (up N 12000 0 0) A g o j.z.s
  simp only [up_s, up_s, true_and, false_and, and_true, and_false, if_true, if_false, ↓reduceIte, ↓Option.bind_some, Int.reduceEq, Int.reduceNe, Int.reduceLT, Int.reduceLE, gd_true, gd_false, bind_b, q10, eq_self, reduceCtorEq, not_true_eq_false, not_false_eq_true, ne_eq] at hi
  unfold p_G_leave p_X10_leave
  by_cases h1 : 0 ≤ g ∧ g < (N 12000 41)
  · have g3 : g < 3 := by omega
    have jz : JJ n C (up N 12000 0 0) A := j.thrown
    have a := (j.gr h1.1 h1.2).1
    have mo := c_memberOf (N0 := N) (A := A) (j := o) a h1.1 g3
    by_cases h0 : (0 ≤ o ∧ o ≤ 11) ∧ N 13047 (12 * g + o) = 1
    · have h01 := h0.1; have h02 := h0.2
      have o2 : o < 12 := by omega
      obtain ⟨C2, N2, s, r1, r2, j2, kc, kn, -, ka⟩ := goes (N0 := N) jz h1.1 h1.2 h01.1 o2 h02
      have r1' : p_X0_removeMember (mk C N A) (1000 + g) (4000 + (12 * g + o)) ((N 12000 1)) = some (s, mk C2 N A) := r1
      have sc : N2 12000 = (up N 12000 0 0) 12000 := kn.n0 (by decide)
      refine SR.w (C1 := C2) (N1 := N2) s ?_ ?_ (by rw [sc]; rfl) j2.next
      · simp (disch := omega) only [aok, up_s, true_and, false_and, and_true, and_false, if_true, if_false, ↓reduceIte, ↓Option.bind_some, Int.reduceEq, Int.reduceNe, Int.reduceLT, Int.reduceLE, gd_true, gd_false, bind_b, q10, eq_self, reduceCtorEq, not_true_eq_false, not_false_eq_true, ne_eq, cr_11000, cr_15000, cr_16000, cr_20000, cr_20001, cr_21000, cr_22000, cr_25000, cr_1000, cr_2000, cr_3000, cr_3003, cr_3006, cr_4000, cr_5000, cr_6000, cr_7000, cr_8000, cr_9000, cr_10000, cr_13500, cr_17000, cr_17100, cr_17103, cr_17106, cr_19000, cr_20100, cr_21100, cr_23000, cr_24000, cw_11000, cw_15000, cw_16000, cw_20000, cw_20001, cw_21000, cw_22000, cw_25000, cw_1000, cw_2000, cw_3000, cw_3003, cw_3006, cw_4000, cw_5000, cw_6000, cw_7000, cw_8000, cw_9000, cw_10000, cw_13500, cw_17000, cw_17100, cw_17103, cw_17106, cw_19000, cw_20100, cw_21100, cw_23000, cw_24000, lc_13500, lc_15000, lc_16000, lc_17000, lc_17100, lc_17103, lc_17106, lc_19000, lc_20000, lc_20001, lc_20100, lc_21000, lc_21100, lc_22000, lc_23000, lc_24000, lc_25000, gd_t, w_eq, thT, thU, psT, psU, hnT, thr_mk, ↓Option.bind_some, hm, h1, mo, h01, h02, b15, r1']
      · unfold p_X11_leave
        simp (disch := omega) only [aok, up_s, true_and, false_and, and_true, and_false, if_true, if_false, ↓reduceIte, ↓Option.bind_some, Int.reduceEq, Int.reduceNe, Int.reduceLT, Int.reduceLE, gd_true, gd_false, bind_b, q10, eq_self, reduceCtorEq, not_true_eq_false, not_false_eq_true, ne_eq, pt_0, pt_1, pt_2, pt_3, pt_4, pt_5, pt_6, pt_7, pt_8, pt_9, pt_10, pt_11, pt_12, pt_13, pt_14, pt_15, pt_16, pt_17, pt_18, pt_19, pt_20, pt_21, pt_22, pt_23, pt_24, pt_25, pt_26, pt_27, pt_28, pt_29, pt_30, pt_31, pt_32, pt_33, pt_34, pt_35, pt_36, pt_37, pt_38, pt_39, pt_40, pt_41, pt_42, pt_43, pt_44, pt_45, pt_46, pt_47, pt_48, pt_49, pt_50, pt_51, pt_52, pt_53, pt_54, pt_55, pt_56, pt_57, pt_58, pt_59, pt_60, pt_61, pt_62, pt_63, pt_64, pt_65, pt_66, pt_67, pa_13005, pw_13005, pa_13006, pw_13006, pa_13007, pw_13007, pa_14008, pw_14008, pa_13009, pw_13009, pa_13010, pw_13010, pa_13012, pw_13012, pa_13013, pw_13013, pa_13014, pw_13014, pa_13015, pw_13015, pa_13016, pw_13016, pa_13017, pw_13017, pa_13018, pw_13018, pa_13020, pw_13020, pa_13021, pw_13021, pa_13022, pw_13022, pa_13023, pw_13023, pa_13024, pw_13024, pa_13025, pw_13025, pa_13026, pw_13026, pa_13027, pw_13027, pa_13028, pw_13028, pa_13029, pw_13029, pa_13031, pw_13031, pa_13032, pw_13032, pa_13033, pw_13033, pa_14034, pw_14034, pa_13035, pw_13035, pa_13036, pw_13036, pa_13037, pw_13037, pa_13038, pw_13038, pa_13039, pw_13039, pa_13042, pw_13042, pa_13043, pw_13043, pa_13044, pw_13044, pa_13045, pw_13045, pa_13046, pw_13046, pa_13047, pw_13047, pa_13048, pw_13048, pa_13049, pw_13049, pa_13050, pw_13050, pa_13051, pw_13051, pa_13052, pw_13052, pa_13053, pw_13053, pa_13054, pw_13054, pa_13055, pw_13055, pa_13056, pw_13056, pa_13057, pw_13057, pa_13058, pw_13058, pa_13059, pw_13059, pa_13060, pw_13060, pa_13061, pw_13061, pa_13062, pw_13062, pa_13063, pw_13063, pa_13064, pw_13064, pa_13065, pw_13065, pa_13066, pw_13066, pa_13067, pw_13067, ps_0, ps_1, ps_2, ps_3, ps_4, ps_11, ps_19, ps_30, ps_40, ps_41, ln_13005, ln_13006, ln_13007, ln_14008, ln_13009, ln_13010, ln_13012, ln_13013, ln_13014, ln_13015, ln_13016, ln_13017, ln_13018, ln_13020, ln_13021, ln_13022, ln_13023, ln_13024, ln_13025, ln_13026, ln_13027, ln_13028, ln_13029, ln_13031, ln_13032, ln_13033, ln_14034, ln_13035, ln_13036, ln_13037, ln_13038, ln_13039, ln_13042, ln_13043, ln_13044, ln_13045, ln_13046, ln_13047, ln_13048, ln_13049, ln_13050, ln_13051, ln_13052, ln_13053, ln_13054, ln_13055, ln_13056, ln_13057, ln_13058, ln_13059, ln_13060, ln_13061, ln_13062, ln_13063, ln_13064, ln_13065, ln_13066, ln_13067, gd_t, w_eq, hi, h1, h01, h02, r2]
    · rw [if_neg h0] at mo
      have h0' : ¬ ((0 ≤ g ∧ g < (N 12000 41)) ∧ (0 ≤ o ∧ o ≤ 11) ∧ N 13047 (12 * g + o) = 1) := fun z => h0 z.2
      simp only [if_neg h0'] at hi
      refine SR.r j 1 (by omega) ?_ ?_
      · simp (disch := omega) only [aok, up_s, true_and, false_and, and_true, and_false, if_true, if_false, ↓reduceIte, ↓Option.bind_some, Int.reduceEq, Int.reduceNe, Int.reduceLT, Int.reduceLE, gd_true, gd_false, bind_b, q10, eq_self, reduceCtorEq, not_true_eq_false, not_false_eq_true, ne_eq, cr_11000, cr_15000, cr_16000, cr_20000, cr_20001, cr_21000, cr_22000, cr_25000, cr_1000, cr_2000, cr_3000, cr_3003, cr_3006, cr_4000, cr_5000, cr_6000, cr_7000, cr_8000, cr_9000, cr_10000, cr_13500, cr_17000, cr_17100, cr_17103, cr_17106, cr_19000, cr_20100, cr_21100, cr_23000, cr_24000, cw_11000, cw_15000, cw_16000, cw_20000, cw_20001, cw_21000, cw_22000, cw_25000, cw_1000, cw_2000, cw_3000, cw_3003, cw_3006, cw_4000, cw_5000, cw_6000, cw_7000, cw_8000, cw_9000, cw_10000, cw_13500, cw_17000, cw_17100, cw_17103, cw_17106, cw_19000, cw_20100, cw_21100, cw_23000, cw_24000, lc_13500, lc_15000, lc_16000, lc_17000, lc_17100, lc_17103, lc_17106, lc_19000, lc_20000, lc_20001, lc_20100, lc_21000, lc_21100, lc_22000, lc_23000, lc_24000, lc_25000, gd_t, w_eq, thT, thU, psT, psU, hnT, thr_mk, ↓Option.bind_some, hm, h1, mo]
      · unfold p_X11_leave
        simp (disch := omega) only [aok, up_s, true_and, false_and, and_true, and_false, if_true, if_false, ↓reduceIte, ↓Option.bind_some, Int.reduceEq, Int.reduceNe, Int.reduceLT, Int.reduceLE, gd_true, gd_false, bind_b, q10, eq_self, reduceCtorEq, not_true_eq_false, not_false_eq_true, ne_eq, pt_0, pt_1, pt_2, pt_3, pt_4, pt_5, pt_6, pt_7, pt_8, pt_9, pt_10, pt_11, pt_12, pt_13, pt_14, pt_15, pt_16, pt_17, pt_18, pt_19, pt_20, pt_21, pt_22, pt_23, pt_24, pt_25, pt_26, pt_27, pt_28, pt_29, pt_30, pt_31, pt_32, pt_33, pt_34, pt_35, pt_36, pt_37, pt_38, pt_39, pt_40, pt_41, pt_42, pt_43, pt_44, pt_45, pt_46, pt_47, pt_48, pt_49, pt_50, pt_51, pt_52, pt_53, pt_54, pt_55, pt_56, pt_57, pt_58, pt_59, pt_60, pt_61, pt_62, pt_63, pt_64, pt_65, pt_66, pt_67, pa_13005, pw_13005, pa_13006, pw_13006, pa_13007, pw_13007, pa_14008, pw_14008, pa_13009, pw_13009, pa_13010, pw_13010, pa_13012, pw_13012, pa_13013, pw_13013, pa_13014, pw_13014, pa_13015, pw_13015, pa_13016, pw_13016, pa_13017, pw_13017, pa_13018, pw_13018, pa_13020, pw_13020, pa_13021, pw_13021, pa_13022, pw_13022, pa_13023, pw_13023, pa_13024, pw_13024, pa_13025, pw_13025, pa_13026, pw_13026, pa_13027, pw_13027, pa_13028, pw_13028, pa_13029, pw_13029, pa_13031, pw_13031, pa_13032, pw_13032, pa_13033, pw_13033, pa_14034, pw_14034, pa_13035, pw_13035, pa_13036, pw_13036, pa_13037, pw_13037, pa_13038, pw_13038, pa_13039, pw_13039, pa_13042, pw_13042, pa_13043, pw_13043, pa_13044, pw_13044, pa_13045, pw_13045, pa_13046, pw_13046, pa_13047, pw_13047, pa_13048, pw_13048, pa_13049, pw_13049, pa_13050, pw_13050, pa_13051, pw_13051, pa_13052, pw_13052, pa_13053, pw_13053, pa_13054, pw_13054, pa_13055, pw_13055, pa_13056, pw_13056, pa_13057, pw_13057, pa_13058, pw_13058, pa_13059, pw_13059, pa_13060, pw_13060, pa_13061, pw_13061, pa_13062, pw_13062, pa_13063, pw_13063, pa_13064, pw_13064, pa_13065, pw_13065, pa_13066, pw_13066, pa_13067, pw_13067, ps_0, ps_1, ps_2, ps_3, ps_4, ps_11, ps_19, ps_30, ps_40, ps_41, ln_13005, ln_13006, ln_13007, ln_14008, ln_13009, ln_13010, ln_13012, ln_13013, ln_13014, ln_13015, ln_13016, ln_13017, ln_13018, ln_13020, ln_13021, ln_13022, ln_13023, ln_13024, ln_13025, ln_13026, ln_13027, ln_13028, ln_13029, ln_13031, ln_13032, ln_13033, ln_14034, ln_13035, ln_13036, ln_13037, ln_13038, ln_13039, ln_13042, ln_13043, ln_13044, ln_13045, ln_13046, ln_13047, ln_13048, ln_13049, ln_13050, ln_13051, ln_13052, ln_13053, ln_13054, ln_13055, ln_13056, ln_13057, ln_13058, ln_13059, ln_13060, ln_13061, ln_13062, ln_13063, ln_13064, ln_13065, ln_13066, ln_13067, gd_t, w_eq, hi, m_refuse]
  · have h0' : ¬ ((0 ≤ g ∧ g < (N 12000 41)) ∧ (0 ≤ o ∧ o ≤ 11) ∧ N 13047 (12 * g + o) = 1) := fun z => h1 z.1
    simp only [if_neg h0'] at hi
    refine SR.r j 1 (by omega) ?_ ?_
    · simp (disch := omega) only [aok, up_s, true_and, false_and, and_true, and_false, if_true, if_false, ↓reduceIte, ↓Option.bind_some, Int.reduceEq, Int.reduceNe, Int.reduceLT, Int.reduceLE, gd_true, gd_false, bind_b, q10, eq_self, reduceCtorEq, not_true_eq_false, not_false_eq_true, ne_eq, cr_11000, cr_15000, cr_16000, cr_20000, cr_20001, cr_21000, cr_22000, cr_25000, cr_1000, cr_2000, cr_3000, cr_3003, cr_3006, cr_4000, cr_5000, cr_6000, cr_7000, cr_8000, cr_9000, cr_10000, cr_13500, cr_17000, cr_17100, cr_17103, cr_17106, cr_19000, cr_20100, cr_21100, cr_23000, cr_24000, cw_11000, cw_15000, cw_16000, cw_20000, cw_20001, cw_21000, cw_22000, cw_25000, cw_1000, cw_2000, cw_3000, cw_3003, cw_3006, cw_4000, cw_5000, cw_6000, cw_7000, cw_8000, cw_9000, cw_10000, cw_13500, cw_17000, cw_17100, cw_17103, cw_17106, cw_19000, cw_20100, cw_21100, cw_23000, cw_24000, lc_13500, lc_15000, lc_16000, lc_17000, lc_17100, lc_17103, lc_17106, lc_19000, lc_20000, lc_20001, lc_20100, lc_21000, lc_21100, lc_22000, lc_23000, lc_24000, lc_25000, gd_t, w_eq, thT, thU, psT, psU, hnT, thr_mk, ↓Option.bind_some, hm, h1]
    · unfold p_X11_leave
      simp (disch := omega) only [aok, up_s, true_and, false_and, and_true, and_false, if_true, if_false, ↓reduceIte, ↓Option.bind_some, Int.reduceEq, Int.reduceNe, Int.reduceLT, Int.reduceLE, gd_true, gd_false, bind_b, q10, eq_self, reduceCtorEq, not_true_eq_false, not_false_eq_true, ne_eq, pt_0, pt_1, pt_2, pt_3, pt_4, pt_5, pt_6, pt_7, pt_8, pt_9, pt_10, pt_11, pt_12, pt_13, pt_14, pt_15, pt_16, pt_17, pt_18, pt_19, pt_20, pt_21, pt_22, pt_23, pt_24, pt_25, pt_26, pt_27, pt_28, pt_29, pt_30, pt_31, pt_32, pt_33, pt_34, pt_35, pt_36, pt_37, pt_38, pt_39, pt_40, pt_41, pt_42, pt_43, pt_44, pt_45, pt_46, pt_47, pt_48, pt_49, pt_50, pt_51, pt_52, pt_53, pt_54, pt_55, pt_56, pt_57, pt_58, pt_59, pt_60, pt_61, pt_62, pt_63, pt_64, pt_65, pt_66, pt_67, pa_13005, pw_13005, pa_13006, pw_13006, pa_13007, pw_13007, pa_14008, pw_14008, pa_13009, pw_13009, pa_13010, pw_13010, pa_13012, pw_13012, pa_13013, pw_13013, pa_13014, pw_13014, pa_13015, pw_13015, pa_13016, pw_13016, pa_13017, pw_13017, pa_13018, pw_13018, pa_13020, pw_13020, pa_13021, pw_13021, pa_13022, pw_13022, pa_13023, pw_13023, pa_13024, pw_13024, pa_13025, pw_13025, pa_13026, pw_13026, pa_13027, pw_13027, pa_13028, pw_13028, pa_13029, pw_13029, pa_13031, pw_13031, pa_13032, pw_13032, pa_13033, pw_13033, pa_14034, pw_14034, pa_13035, pw_13035, pa_13036, pw_13036, pa_13037, pw_13037, pa_13038, pw_13038, pa_13039, pw_13039, pa_13042, pw_13042, pa_13043, pw_13043, pa_13044, pw_13044, pa_13045, pw_13045, pa_13046, pw_13046, pa_13047, pw_13047, pa_13048, pw_13048, pa_13049, pw_13049, pa_13050, pw_13050, pa_13051, pw_13051, pa_13052, pw_13052, pa_13053, pw_13053, pa_13054, pw_13054, pa_13055, pw_13055, pa_13056, pw_13056, pa_13057, pw_13057, pa_13058, pw_13058, pa_13059, pw_13059, pa_13060, pw_13060, pa_13061, pw_13061, pa_13062, pw_13062, pa_13063, pw_13063, pa_13064, pw_13064, pa_13065, pw_13065, pa_13066, pw_13066, pa_13067, pw_13067, ps_0, ps_1, ps_2, ps_3, ps_4, ps_11, ps_19, ps_30, ps_40, ps_41, ln_13005, ln_13006, ln_13007, ln_14008, ln_13009, ln_13010, ln_13012, ln_13013, ln_13014, ln_13015, ln_13016, ln_13017, ln_13018, ln_13020, ln_13021, ln_13022, ln_13023, ln_13024, ln_13025, ln_13026, ln_13027, ln_13028, ln_13029, ln_13031, ln_13032, ln_13033, ln_14034, ln_13035, ln_13036, ln_13037, ln_13038, ln_13039, ln_13042, ln_13043, ln_13044, ln_13045, ln_13046, ln_13047, ln_13048, ln_13049, ln_13050, ln_13051, ln_13052, ln_13053, ln_13054, ln_13055, ln_13056, ln_13057, ln_13058, ln_13059, ln_13060, ln_13061, ln_13062, ln_13063, ln_13064, ln_13065, ln_13066, ln_13067, gd_t, w_eq, hi, m_refuse]
