/-! PURE PART, 9d: tick: the time; what is due is appended; the logs -/
theorem lo_coS {N : Nd} {p r : Int} (h2 : p < (N 12000 11)) (r1 : 0 ≤ r) (r2 : r < 3) : LO N (coS N p r) :=
  LO.ends h2 (fun a _ _ h _ => coS_ar h) (fun k hk => coS_at (fun q => by omega))
theorem lo_fiS {N : Nd} {p r : Int} (h2 : p < (N 12000 11)) : LO N (fiS N p r) :=
  LO.ends h2 (fun a _ h _ h4 => fiS_ar h4 h) (fun k hk => fiS_at (fun q => absurd q.1 (by decide)) (fun q => absurd q.1 (by decide)))
theorem lo_lgF {p : Int} (h1 : 0 ≤ p) : ∀ {n : Nat} {N : Nd}, JN N → p < (N 12000 11) → LO N (lgF p n N)
  | 0, N, j, _ => LO.rf
  | n + 1, N, j, h2 => by
    unfold lgF
    split
    · rename_i h
      have sb := so_b j.g.e h1 h2
      have hb := hw_b j.g.e h1 h2
      have he := hw_eol j.g j.li h1 h2
      have f1 := (j.g.p p h1 h2).2.2.2.1
      have k0 := (j.fl p (N 13015 p) h1 h2 f1.1 (by have := h.2.1; omega)).mp (by have := h.2.1; omega)
      have lk := j.g.l p (N 13015 p) h1 h2 f1.1 (by have := h.2.1; omega)
      have m0 := j.lm p _ h1 h2 f1.1 (by have := h.2.1; omega) k0
      have ms : N 13024 (N 13018 (60 * p + N 13015 p)) = 1 := by
        rcases m0.2.2 with z | z
        · exact z
        · have := ((j.fi p h1 h2).1 h.1 _ f1.1 (by have := h.2.1; omega) k0).mpr z
          omega
      have jl := j.t.1.lg1 h1 h2 h
      have jr := j.rm (N' := lg1 N p) (m := N 13018 (60 * p + N 13015 p)) ⟨jl.1, j.en⟩ k0 lk.2 ms (by rw [m0.1, m0.2.1]; exact h.2.1) (fun k => by unfold lg1; simp only [up_s, up_s, true_and, false_and, and_true, and_false, if_true, if_false, ↓reduceIte, ↓Option.bind_some, Int.reduceEq, Int.reduceNe, Int.reduceLT, Int.reduceLE, gd_true, gd_false, bind_b, q10, eq_self, reduceCtorEq, not_true_eq_false, not_false_eq_true, ne_eq]) (fun a z1 z2 => lg1_ar z1 z2) (fun q => by
        unfold lg1
        simp only [up_s, up_s, true_and, false_and, and_true, and_false, if_true, if_false, ↓reduceIte, ↓Option.bind_some, Int.reduceEq, Int.reduceNe, Int.reduceLT, Int.reduceLE, gd_true, gd_false, bind_b, q10, eq_self, reduceCtorEq, not_true_eq_false, not_false_eq_true, ne_eq]
        split
        · rename_i e; rw [e]; omega
        · exact Int.le_refl _)
      have l1 : LO N (lg1 N p) := by
        have e0 := lg1_ar (N := N) (p := p) (a := 12000) (by decide) (by decide)
        refine ⟨fun i => by rw [e0], fun a ha => ?_, fun m m1 m2 => ?_, fun q hq => ⟨?_, fun r r1 r2 => ?_⟩, fun x _ _ => ?_⟩
        · have z := loA_ne ha
          exact lg1_ar z.2.1 (by omega)
        · unfold lg1
          simp only [up_s, up_s, true_and, false_and, and_true, and_false, if_true, if_false, ↓reduceIte, ↓Option.bind_some, Int.reduceEq, Int.reduceNe, Int.reduceLT, Int.reduceLE, gd_true, gd_false, bind_b, q10, eq_self, reduceCtorEq, not_true_eq_false, not_false_eq_true, ne_eq]
          by_cases e : m = N 13018 (60 * p + N 13015 p)
          · rw [if_pos e, e, ms]; omega
          · rw [if_neg e]
        · unfold lg1
          simp only [up_s, up_s, true_and, false_and, and_true, and_false, if_true, if_false, ↓reduceIte, ↓Option.bind_some, Int.reduceEq, Int.reduceNe, Int.reduceLT, Int.reduceLE, gd_true, gd_false, bind_b, q10, eq_self, reduceCtorEq, not_true_eq_false, not_false_eq_true, ne_eq]
          rw [if_neg (by omega)]
        · rw [lg1_ar (by decide) (by decide)]
        · rw [lg1_ar (by decide) (by decide)]
      exact l1.tr (lo_lgF h1 jr.1 h2)
    · exact LO.rf
theorem lo_tkP {N : Nd} {p : Int} (j : JN N) (h1 : 0 ≤ p) (h2 : p < (N 12000 11)) : LO N (tkP N p) := by
  have k1 := fo_LO (g := fun r N => coS N p r) (i0 := 0) (n := 3) j fun i s i1 i2 h e => ⟨(h.coS h1 (by rw [e]; exact h2) i1 (by omega)).1, lo_coS (by rw [e]; exact h2) i1 (by omega)⟩
  have k2 := fo_LO (g := fun r N => fiS N p r) (i0 := 0) (n := 3) k1.1 fun i s i1 i2 h e => ⟨(h.fiS h1 (by rw [e, k1.2.1]; exact h2) i1 (by omega)).1, lo_fiS (by rw [e, k1.2.1]; exact h2)⟩
  have k3 := lo_lgF (n := 60) h1 k2.1 (by rw [k2.2.1, k1.2.1]; exact h2)
  exact (k1.2.tr k2.2).tr k3
theorem lo_tkA {N : Nd} (j : JN N) : LO N (tkA N) := by
  have s2 := j.g.s.2.1
  exact (fo_LO (g := fun p N => tkP N p) (i0 := 0) (n := ((N 12000 11)).toNat) j fun i s i1 i2 h e => ⟨(h.tkP i1 (by rw [e]; omega)).1, lo_tkP h i1 (by rw [e]; omega)⟩).2
/-- the time -/
theorem JJ.time {n : Int} {C : Cd} {N : Nd} {A : Ad} (j : JJ n C N A) (hb : (N 12000 1) + 1 ≤ 30 * n) (h2 : (N 12000 1) < 400000000) : JJ n (uq C 11000 0 15 ((N 12000 1) + 1)) (up N 12000 1 ((N 12000 1) + 1)) A := by
  have jn : JN (up N 12000 1 ((N 12000 1) + 1)) := by
    have g : RG (up N 12000 1 ((N 12000 1) + 1)) := by
      obtain ⟨⟨a1, a2, a3, a4, a5, a6, a7, a8, a9⟩, gt, gp, ge, gl, gm, gx⟩ := j.jn.g
      refine ⟨⟨a1, a2, a3, a4, a5, a6, a7, (show 0 ≤ (N 12000 1) + 1 ∧ (N 12000 1) + 1 ≤ 400000000 by omega), a9⟩, gt, gp, fun p r p1 p2 r1 r2 => ?_, gl, fun m m1 m2 => ?_, gx⟩
      · have x := ge p r p1 p2 r1 r2
        exact ⟨x.1, x.2.1, (show N 13017 (3 * p + r) ≤ (N 12000 1) + 1 by have := x.2.2; omega)⟩
      · obtain ⟨x1, x2, x3, x4, x5, x6, x7, x8⟩ := gm m m1 m2
        exact ⟨x1, x2, x3, x4, x5, x6, ⟨x7.1, (show N 13027 m ≤ (N 12000 1) + 1 by have := x7.2; omega)⟩, x8⟩
    exact ⟨⟨⟨g, j.jn.1.1.2⟩, j.jn.1.2⟩, j.jn.2⟩
  have c := j.c
  have cc : CC (uq C 11000 0 15 ((N 12000 1) + 1)) (up N 12000 1 ((N 12000 1) + 1)) := by
    obtain ⟨b0, b6, b7, b8, b9, b10, b12, b13, b14, b15⟩ := c.b
    exact ⟨⟨b0, b6, b7, b8, b9, b10, b12, b13, b14, rfl⟩, c.i, c.t, c.p, c.w, c.l, c.r, c.m, c.x⟩
  refine j.kp jn cc (KP.rf.uq (by decide)) Mo.rf ⟨fun i h0 h1 h2 h3 => if_neg (fun z => h1 z.2), rfl, rfl, fun a h => by funext k; exact if_neg (fun z => by omega)⟩ rfl (fun m _ _ => Iff.rfl) (show (N 12000 1) ≤ (N 12000 1) + 1 by omega) (Int.le_refl n) hb rfl (fun _ _ _ => ⟨rfl, fun _ _ _ => rfl⟩) (fun _ _ _ => ⟨rfl, rfl⟩) (fun _ _ _ _ => rfl)
/-- what waits behind the appending -/
theorem apS_dl : ∀ (l : List Int) (M : Nd) (acc : List Int), (acc ++ l).Pairwise (lt2 M) → (∀ m ∈ acc ++ l, 0 ≤ m ∧ m < (M 12000 19) ∧ M 13024 m = 0) → (∀ m, 0 ≤ m → m < (M 12000 19) → M 13024 m = 0 → m ∈ acc ++ l) → DLs (l.foldl apS (M, acc)).1 (l.foldl apS (M, acc)).2
  | [], M, acc, h1, h2, h3 => by
    rw [List.append_nil] at h1 h2 h3
    exact ⟨h1, h2, h3⟩
  | m :: l, M, acc, h1, h2, h3 => by
    rw [List.foldl_cons]
    unfold apS
    by_cases c : apok M m
    · rw [if_pos c]
      obtain ⟨p1, p2, p3⟩ := List.pairwise_append.mp h1
      obtain ⟨p4, p5⟩ := List.pairwise_cons.mp p2
      have eD : apN M m 13028 = M 13028 := rfl
      have e19 : apN M m 12000 19 = (M 12000 19) := rfl
      have st : ∀ k, apN M m 13024 k = if k = m then 1 else M 13024 k := fun k => by unfold apN; simp only [up_s, up_s, true_and, false_and, and_true, and_false, if_true, if_false, ↓reduceIte, ↓Option.bind_some, Int.reduceEq, Int.reduceNe, Int.reduceLT, Int.reduceLE, gd_true, gd_false, bind_b, q10, eq_self, reduceCtorEq, not_true_eq_false, not_false_eq_true, ne_eq]
      have nm : ∀ x ∈ acc ++ l, x ≠ m := fun x hx e => by
        rw [e] at hx
        rcases List.mem_append.mp hx with q | q
        · exact lt2_ir (p3 m q m List.mem_cons_self)
        · exact lt2_ir (p4 m q)
      refine apS_dl l (apN M m) acc ?_ (fun x hx => ?_) (fun x x1 x2 x3 => ?_)
      · refine (List.pairwise_append.mpr ⟨p1, p5, fun a ha b hb => p3 a ha b (List.mem_cons_of_mem _ hb)⟩).imp fun {a b} z => ?_
        unfold lt2 at z ⊢
        rw [eD]
        exact z
      · have hx' : x ∈ acc ++ m :: l := by
          rcases List.mem_append.mp hx with q | q
          · exact List.mem_append_left _ q
          · exact List.mem_append_right _ (List.mem_cons_of_mem _ q)
        obtain ⟨q1, q2, q3⟩ := h2 x hx'
        refine ⟨q1, by rw [e19]; exact q2, ?_⟩
        rw [st, if_neg (nm x hx)]
        exact q3
      · rw [e19] at x2
        rw [st] at x3
        by_cases e : x = m
        · rw [if_pos e] at x3
          exact absurd x3 (by decide)
        · rw [if_neg e] at x3
          rcases List.mem_append.mp (h3 x x1 x2 x3) with q | q
          · exact List.mem_append_left _ q
          · rcases List.mem_cons.mp q with q | q
            · exact absurd q e
            · exact List.mem_append_right _ q
    · rw [if_neg c]
      have e : acc ++ m :: l = acc ++ [m] ++ l := by rw [List.append_assoc]; rfl
      rw [e] at h1 h2 h3
      exact apS_dl l M (acc ++ [m]) h1 h2 h3
theorem apFs_ar {a : Int} (h : a ≠ 13018 ∧ a ≠ 13024 ∧ a ≠ 13026 ∧ a ≠ 13027 ∧ a ≠ 13016) : ∀ (l : List Int) (N : Nd), (l.foldl apF N) a = N a
  | [], _ => rfl
  | m :: l, N => by
    rw [List.foldl_cons, apFs_ar h l, apF_ar h]
theorem apFs_end {P k : Int} (hk : 3 * P ≤ k) : ∀ (l : List Int) (N : Nd), (∀ m ∈ l, N 13021 m < P ∧ N 13013 (N 13021 m) < 3) → (l.foldl apF N) 13016 k = N 13016 k
  | [], _, _ => rfl
  | m :: l, N, h => by
    have eP : apF N m 13021 = N 13021 := apF_ar (by decide)
    have eL : apF N m 13013 = N 13013 := apF_ar (by decide)
    rw [List.foldl_cons, apFs_end hk l (apF N m) (fun x hx => by rw [eP, eL]; exact h x (List.mem_cons_of_mem _ hx))]
    have q := h m List.mem_cons_self
    unfold apF
    split
    · have : ∀ i, apN N m 13016 i = if i = 3 * N 13021 m + N 13013 (N 13021 m) then eol N (N 13021 m) + 1 else N 13016 i := fun i => by unfold apN; simp only [up_s, up_s, true_and, false_and, and_true, and_false, if_true, if_false, ↓reduceIte, ↓Option.bind_some, Int.reduceEq, Int.reduceNe, Int.reduceLT, Int.reduceLE, gd_true, gd_false, bind_b, q10, eq_self, reduceCtorEq, not_true_eq_false, not_false_eq_true, ne_eq]
      rw [this, if_neg (by omega)]
    · rfl
theorem JJ.due {n : Int} {C C' : Cd} {N : Nd} {A : Ad} {l : List Int} (j : JJ n C N A) (dl : DLs N l) (cc : CC C' (l.foldl apF N)) (kd : KD C C') (dc' : DLc C' (l.foldl apS (N, [])).2) : JJ n C' (l.foldl apF N) A := by
  have G := j.jn.g
  have nd : l.Nodup := dl.1.imp fun {a b} z e => by
    rw [e] at z
    exact lt2_ir z
  obtain ⟨jn, mo⟩ := j.jn.apFs nd dl.2.1
  have ar := fun (a : Int) (h : a ≠ 13018 ∧ a ≠ 13024 ∧ a ≠ 13026 ∧ a ≠ 13027 ∧ a ≠ 13016) => apFs_ar h l N
  have sc := ar 12000 (by decide)
  have dls := apS_dl l N [] dl.1 dl.2.1 dl.2.2
  rw [apS_1] at dls
  have sg : SG C C' N (l.foldl apF N) := ⟨fun b hb => by
    have z := gcell_ne hb
    funext i k
    exact kd b i k (ccell_g hb k) (by omega) (by omega), fun a ha => by
    have z := garr_b ha
    exact ar a (by omega)⟩
  have hr : ∀ g p, 0 ≤ g → g < (N 12000 41) → (gR (l.foldl apF N) g p ↔ gR N g p) := fun g p _ _ => by
    unfold gR
    rw [sc, ar 13042 (by decide), ar 13012 (by decide)]
  have sx : SX C C' N (l.foldl apF N) := ⟨fun x k hk => kd 7000 x k (ccell_7 hk) (by decide) (by omega), by funext i k; exact kd 13500 i k rfl (by decide) (by omega), ar _ (by decide), ar _ (by decide), ar _ (by decide), ar _ (by decide), ar _ (by decide)⟩
  have sn : SN N (l.foldl apF N) := ⟨fun i _ _ _ _ => by rw [sc], ar _ (by decide), ar _ (by decide), fun a ha => ar a (by omega)⟩
  refine j.step jn cc ⟨_, dls, dc'⟩ sg mo hr (by rw [sc]; exact Int.le_refl _) (by rw [sc]; exact Int.le_refl _) (by rw [sc]) (j.px.step jn.g sg sx mo hr (by rw [sc]) (by rw [sc]) (fun x _ _ h => by rw [ar 13033 (by decide)] at h; exact h)) (j.ne.eq (fun i _ _ _ _ => by rw [sc]) (ar _ (by decide)) (sg.1 17000 (by decide)) rfl) (j.fn.eq sn (fun p p1 p2 => ⟨by rw [ar 13015 (by decide)], fun r r1 r2 => apFs_end (P := (N 12000 11)) (by omega) l N (fun m hm => ?_)⟩) (fun x _ _ => ⟨by rw [ar 13032 (by decide)], by rw [ar 14034 (by decide)]⟩) (fun x x1 x2 h => ?_)) (Int.le_refl n) ⟨by rw [sc]; exact j.b.2.1, by rw [sc]; exact j.b.2.2.1⟩
  · obtain ⟨m1, m2, -⟩ := dl.2.1 m hm
    have gp := (G.m m m1 m2).2.1
    exact ⟨gp.2, (RP.lead G.t G.p gp.1 gp.2).2⟩
  · rw [ar 13033 (by decide)] at h
    rw [ar 14034 (by decide), ar 13035 (by decide)]
    exact j.fn.2.2.2.2 x x1 x2 h
/-- the logs in a tick -/
theorem JJ.logs {n : Int} {C C' : Cd} {N : Nd} {A : Ad} (j : JJ n C N A) (cc : CC C' (tkA N)) (k : KP C C') : JJ n C' (tkA N) A := by
  obtain ⟨jn, mo⟩ := j.jn.tkA
  obtain ⟨l1, l2, l3, l4, l5⟩ := lo_tkA j.jn
  exact j.kp jn cc k mo ⟨fun i _ _ _ _ => l1 i, l2 _ rfl, l2 _ rfl, fun a h => l2 a (by unfold loA; simp; omega)⟩ rfl l3 (by rw [l1]; exact Int.le_refl _) (Int.le_refl n) (by rw [l1]; exact j.b.2.1) (l2 _ rfl) (fun p p1 _ => l4 p p1) (fun x x1 x2 => ⟨by rw [l2 13032 rfl], l5 x (by have := j.jn.g.s.2.2.1; omega) (Or.inl x1)⟩) (fun x x1 _ h => l5 x x1 (Or.inr h))
