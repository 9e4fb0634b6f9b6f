/-! PURE PART, a20: thins; the law's loop -/
section MAIN
variable {n : Int} {C : Cd} {N : Nd} {A : Ad}
theorem EBr.cp {X : Nd} {p : Int} (j : JN X) (p1 : 0 ≤ p) (p2 : p < (X 12000 11)) (hc : ¬ X 14008 (X 13012 p) = 0) : EBr X (cpA (up X 12000 0 0) p (so X p).toNat).2 ∧ ∀ a, a ≠ 13024 → (cpA (up X 12000 0 0) p (so X p).toNat).2 a = (up X 12000 0 0) a := by
  have jz : JN (up X 12000 0 0) := j
  have es : so (up X 12000 0 0) p = so X p := rfl
  have ci := cp_all jz p1 p2 hc (so X p).toNat (by rw [es]; have := so_b j.g.e p1 p2; omega)
  generalize (cpA (up X 12000 0 0) p (so X p).toNat) = s at ci
  obtain ⟨c1, c2, c3, c4, -⟩ := ci
  refine ⟨EBr.lo (Y := up X 12000 0 0) c2 (OK2.ar (c4 13025 (by decide))) c3 (fun i h0 _ _ _ => by rw [up_s, if_neg (fun z => h0 z.2)]) (fun a h => by funext k; rw [up_s, if_neg (fun z => h z.1)]) (Int.le_refl _) (fun h q q1 q2 hl => ?_), c4⟩
  rw [c4 12000 (by decide)] at q2
  have q2' : q < (X 12000 11) := q2
  rw [c4 13013 (by decide)] at hl
  have hl' : X 13013 q < 0 := hl
  rw [c4 12000 (by decide), c4 13014 (by decide), brk_ar (c4 13012 (by decide)) (c4 13007 (by decide))]
  exact h q q1 q2' hl'
theorem l_thins (l : LW n C N A) {p : Int} (p1 : 0 ≤ p) (p2 : p < 3) : Ok (p_L_thins (mk C N A) 11000 p 13490) (fun r => r.1 = 1 ∧ ∃ C2 N2 A2, r.2 = mk C2 N2 A2 ∧ LW (n + 12) C2 N2 A2) := by
  have w0 := l.2.1.1
  have g := l.1.jn.g
  have t1 : 0 < (N 12000 4) := by have := w0.1.1.1; omega
  have p3 : p < (N 12000 11) := by have := w0.1.1.2.1; omega
  unfold p_L_thins
  refine Ok.bnd (Q := fun t => ∃ C1 A1 L, t = mk C1 (rwn N L) A1 ∧ JJ (n + 5) C1 (rwn N L) A1 ∧ (∀ k, 0 ≤ k → k < 5 → L (15 + k) = vky N (pf N 0 k) k) ∧ ∀ r, r < 15 → L r = N 13490 r) ?_ ?_
  · refine lp_for (fun i s => ∃ C1 A1 L, s = (i, mk C1 (rwn N L) A1) ∧ JJ (n + i) C1 (rwn N L) A1 ∧ (∀ k, 0 ≤ k → k < i → L (15 + k) = vky N (pf N 0 k) k) ∧ ∀ r, r < 15 → L r = N 13490 r) 0 5 ?_ ?_ (by omega) ⟨C, A, N 13490, by rw [rwn_id], by rw [rwn_id]; exact l.1.ups (by omega), fun k _ _ => by omega, fun _ _ => rfl⟩
    · rintro i _ i1 i2 ⟨C1, A1, L, rfl, j1, h1, h2⟩
      have ki : r32 i := by constructor <;> omega
      unfold b_L_thins_2
      dsimp only
      rw [if_pos (show i < 5 by omega)]
      refine Ok.bnd (QA.ok (L_val (key := i) ki j1 t1)) ?_
      rintro ⟨_, _⟩ ⟨rfl, C2, A2, rfl, j2⟩
      dsimp only
      rw [w_eq (z := 15 + i) (by omega) (by omega), w_eq (z := i + 1) (by omega) (by omega), gd_t (aok_lst (by omega) (by omega)), wr_lst, Option.bind_some, rwn_up]
      refine Ok.ret ⟨C2, A2, _, rfl, (show JJ (n + i + 1) C2 (rwn N _) A2 from j2).ups (by omega), fun k k1 k2 => ?_, fun r hr => ?_⟩
      · show (if 15 + k = 15 + i then _ else L (15 + k)) = _
        by_cases e : k = i
        · rw [if_pos (by omega), e]
          rfl
        · rw [if_neg (by omega)]
          exact h1 k k1 (by omega)
      · show (if r = 15 + i then _ else L r) = _
        rw [if_neg (by omega)]
        exact h2 r hr
    · rintro _ ⟨C1, A1, L, rfl, j1, h1, h2⟩
      unfold b_L_thins_2
      dsimp only
      rw [if_neg (by omega)]
      exact Ok.ret ⟨C1, A1, L, rfl, j1.ups (by omega), fun k k1 k2 => h1 k k1 (by omega), h2⟩
  · rintro _ ⟨C1, A1, L, rfl, j1, h1, h2⟩
    have hc : ¬ (rwn N L) 14008 ((rwn N L) 13012 p) = 0 := w0.1.cpd l.1.jn p p1 p3
    have p3' : p < ((rwn N L) 12000 11) := p3
    obtain ⟨v, C2, A2, v0, e, j2⟩ := L_cmp j1 p1 p3' hc
    have lx : LW (n + 5) C1 (rwn N L) A1 := ⟨j1, l.2.1, l.2.2.1, fun r r1 r2 => by
      have q := l.2.2.2 r r1 r2
      have e9 : rwn N L 13490 r = N 13490 r := h2 r r2
      rw [e9]
      exact q⟩
    obtain ⟨eb, c4⟩ := EBr.cp j1.jn p1 p3' hc
    have l2 : LW (n + 5 + 1) C2 (cmN (rwn N L) p) A2 := lx.br eb j2
    have ey : cmN (rwn N L) p 13490 = L := rfl
    have pY : ∀ k, pf (cmN (rwn N L) p) 0 k = pf N 0 k := fun k => by
      have q : pf (cmN (rwn N L) p) 0 k = (cpA (up (rwn N L) 12000 0 0) p (so (rwn N L) p).toNat).2 13007 0 + k % (cpA (up (rwn N L) 12000 0 0) p (so (rwn N L) p).toNat).2 13005 0 := rfl
      rw [q, c4 13007 (by decide), c4 13005 (by decide)]
      rfl
    have gY := l2.1.jn.g
    have sY : (cmN (rwn N L) p) 12000 11 = (N 12000 11) := by
      have q : (cmN (rwn N L) p) 12000 11 = (cpA (up (rwn N L) 12000 0 0) p (so (rwn N L) p).toNat).2 12000 11 := rfl
      rw [q, c4 12000 (by decide)]
      rfl
    have tY : 0 < (cmN (rwn N L) p) 12000 4 := by
      have q : (cmN (rwn N L) p) 12000 4 = (cpA (up (rwn N L) 12000 0 0) p (so (rwn N L) p).toNat).2 12000 4 := rfl
      rw [q, c4 12000 (by decide)]
      exact t1
    have val : ∀ k, 0 ≤ k → k < 5 → L (15 + k) = vky (cmN (rwn N L) p) (pf (cmN (rwn N L) p) 0 k) k := fun k k1 k2 => by
      rw [h1 k k1 k2, pY]
      have pb := pf_b (k := k) g (Int.le_refl 0) t1
      have a1 : VK (rwn N L) (pf N 0 k) k (vky N (pf N 0 k) k) := vky_is g pb.2.2.1 pb.2.2.2 k
      have a2 := vk_cm j1.jn p1 p3' hc pb.2.2.1 (show pf N 0 k < ((rwn N L) 12000 11) from pb.2.2.2) a1
      exact a2.eq (vky_is gY pb.2.2.1 (by rw [sY]; exact pb.2.2.2) k)
    generalize hY : cmN (rwn N L) p = Y at e j2 l2 ey pY gY tY val
    rw [e, Option.bind_some]
    dsimp only
    rw [if_neg (by omega), Option.bind_some]
    refine Ok.bnd (Q := fun t => ∃ C3 A3, t = (1, mk C3 Y A3) ∧ JJ (n + 12) C3 Y A3) ?_ ?_
    · refine lp_for (fun i s => ∃ C3 A3, s = (1, i, mk C3 Y A3) ∧ JJ (n + 6 + i) C3 Y A3) 0 5 ?_ ?_ (by omega) ⟨C2, A2, rfl, l2.1.ups (by omega)⟩
      · rintro i _ i1 i2 ⟨C3, A3, rfl, j3⟩
        have ki : r32 i := by constructor <;> omega
        unfold b_L_thins_42
        dsimp only
        rw [if_pos (show i < 5 by omega), w_eq (z := 15 + i) (by omega) (by omega), w_eq (z := i + 1) (by omega) (by omega), gd_t (aok_lst (by omega) (by omega))]
        refine Ok.bnd (QA.ok (L_val (key := i) ki j3 tY)) ?_
        rintro ⟨_, _⟩ ⟨rfl, C4, A4, rfl, j4⟩
        dsimp only
        rw [rd_lst, ey, if_pos (val i i1 (by omega)), Option.bind_some, ian11]
        exact Ok.ret ⟨C4, A4, rfl, j4.ups (by omega)⟩
      · rintro _ ⟨C3, A3, rfl, j3⟩
        unfold b_L_thins_42
        dsimp only
        rw [if_neg (by omega)]
        exact Ok.ret ⟨C3, A3, rfl, j3.ups (by omega)⟩
    · rintro _ ⟨C3, A3, rfl, j3⟩
      dsimp only
      rw [gd_t (Or.inr rfl)]
      exact Ok.ret ⟨rfl, C3, Y, A3, rfl, j3, l2.2⟩
theorem l_body {sl k : Int} {sc : Int → Int} (hn : n < 9990000) (l : LW n C N A) (s1 : 0 ≤ sl) (s2 : sl ≤ 260) (k1 : 0 ≤ k) (k2 : k < 40) : Ok (b_L_law_78 sl sc (1, k, mk C N A)) (Sum.elim (fun s => ∃ C2 N2 A2, s = (1, k + 1, mk C2 N2 A2) ∧ LW (n + 800) C2 N2 A2) (fun _ => False)) := by
  have w6 : w (6 * k) = 6 * k := w_eq (by omega) (by omega)
  have w61 : w (6 * k + 1) = 6 * k + 1 := w_eq (by omega) (by omega)
  have wk : w (k + 1) = k + 1 := w_eq (by omega) (by omega)
  have cell : ∀ i b, 0 ≤ i → i < 1000 → 0 < b → b < 10000 → ∃ v, p_L_cell (mk C N A) sl sc i b = some v ∧ 0 ≤ v ∧ v < b := fun i b i1 i2 b1 b2 => l_cell s1 s2 i1 i2 b1 b2
  unfold b_L_law_78
  dsimp only
  rw [if_pos k2, if_neg (show ¬ (1 : Int) = 0 by decide), w6, Option.bind_some, w61]
  obtain ⟨c, ec, c1, c2⟩ := cell (6 * k) 7 (by omega) (by omega) (by decide) (by decide)
  rw [ec, Option.bind_some]
  refine Ok.bnd (Q := fun s => s.1 = 1 ∧ ∃ C2 N2 A2, s.2 = mk C2 N2 A2 ∧ LW (n + 20) C2 N2 A2) ?_ ?_
  · have fin : ∀ {m : Int} {e : Option (Int × Mm)}, m ≤ n + 20 → Ok e (KW m) → Ok (e.bind fun r => if r.1 < (-99) then some (((0 : Int), r.2)) else some (((1 : Int), r.2))) (fun s => s.1 = 1 ∧ ∃ C2 N2 A2, s.2 = mk C2 N2 A2 ∧ LW (n + 20) C2 N2 A2) := fun hm h => Ok.bnd h (fun r ⟨a, C2, N2, A2, b, l2⟩ => by
      rw [if_neg (by omega)]
      exact Ok.ret ⟨rfl, C2, N2, A2, b, l2.ups hm⟩)
    by_cases h0 : c = 0
    · rw [if_pos h0]
      exact fin (by omega) (l_writes (a := 6 * k + 1) (sc := sc) (by omega) l s1 s2 (by omega) (by omega))
    rw [if_neg h0]
    by_cases h1 : c = 1
    · rw [if_pos h1]
      exact fin (by omega) (l_writes (a := 6 * k + 1) (sc := sc) (by omega) l s1 s2 (by omega) (by omega))
    rw [if_neg h1]
    by_cases h2 : c = 2
    · rw [if_pos h2]
      exact fin (by omega) (l_breaks (a := 6 * k + 1) (sc := sc) (by omega) l s1 s2 (by omega) (by omega))
    rw [if_neg h2]
    by_cases h3 : c = 3
    · rw [if_pos h3]
      exact fin (by omega) (l_shares (a := 6 * k + 1) (sc := sc) (by omega) l s1 s2 (by omega) (by omega))
    rw [if_neg h3]
    by_cases h4 : c = 4
    · rw [if_pos h4]
      obtain ⟨d, ed, d1, d2⟩ := cell (6 * k + 1) 3 (by omega) (by omega) (by decide) (by decide)
      rw [ed, Option.bind_some]
      refine Ok.bnd (l_thins l d1 d2) ?_
      rintro ⟨_, _⟩ ⟨rfl, C2, N2, A2, rfl, l2⟩
      exact Ok.ret ⟨rfl, C2, N2, A2, rfl, l2.ups (by omega)⟩
    rw [if_neg h4]
    refine Ok.bnd (l_some (a := 6 * k + 1) (sc := sc) l.1 l.g2 s1 s2 (by omega) (by omega)) ?_
    rintro ⟨o, _⟩ ⟨-, C2, A2, rfl, j2⟩
    dsimp only
    refine Ok.bnd (l_reads (n := n + 1) (by omega) ⟨j2, l.2.1.1, l.2.2⟩ o) ?_
    rintro ⟨_, _⟩ ⟨rfl, C3, N3, A3, rfl, l3, h3, -⟩
    exact Ok.ret ⟨rfl, C3, N3, A3, rfl, l3.1.ups (by omega), ⟨l3.2.1, by rw [h3]; exact l.2.1.2⟩, l3.2.2⟩
  · rintro ⟨_, _⟩ ⟨rfl, C2, N2, A2, rfl, l2⟩
    dsimp only
    refine Ok.bnd (l_stays l2.1 l2.g2 l2.2.2.1) ?_
    rintro ⟨_, _⟩ ⟨rfl, C3, A3, rfl, j3⟩
    dsimp only
    rw [Option.bind_some, ian11, wk]
    exact Ok.ret ⟨C3, N2, A3, rfl, j3.ups (by omega), l2.2⟩
theorem l_loop {sl : Int} {sc : Int → Int} (hn : n < 9000000) (l : LW n C N A) (s1 : 0 ≤ sl) (s2 : sl ≤ 260) : Ok (lp (b_L_law_78 sl sc) 41 (1, 0, mk C N A)) (fun t => ∃ C2 N2 A2, t = (1, mk C2 N2 A2) ∧ LW (n + 32000) C2 N2 A2) := by
  refine lp_for (fun k s => ∃ C2 N2 A2, s = (1, k, mk C2 N2 A2) ∧ LW (n + 800 * k) C2 N2 A2) 0 40 ?_ ?_ (by omega) ⟨C, N, A, rfl, l.ups (by omega)⟩
  · rintro k _ k1 k2 ⟨C2, N2, A2, rfl, l2⟩
    refine (l_body (k := k) (sc := sc) (by omega) l2 s1 s2 k1 (by omega)).im ?_
    rintro (s | t) h
    · obtain ⟨C3, N3, A3, e, l3⟩ := h
      exact ⟨C3, N3, A3, e, l3.ups (by omega)⟩
    · exact h.elim
  · rintro _ ⟨C2, N2, A2, rfl, l2⟩
    unfold b_L_law_78
    dsimp only
    rw [if_neg (by omega)]
    exact Ok.ret ⟨C2, N2, A2, rfl, l2.ups (by omega)⟩
end MAIN
