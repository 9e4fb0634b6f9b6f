/-! PURE PART, a25: ticks behind the healing -/
def DLY (T : Int) (N : Nd) : Prop := ∀ m, 0 ≤ m → m < (N 12000 19) → N 13024 m = 0 → N 13028 m ≤ T + 6
/-- what is still delayed won't be appended -/
def QUI (N : Nd) : Prop := ∀ m, 0 ≤ m → m < (N 12000 19) → N 13024 m = 0 → 60 ≤ eol N (N 13021 m) ∨ cuts N (N 13020 m) (N 13021 m) ≠ 0
def SYN (T : Int) (N : Nd) : Prop := ∀ p r, 0 ≤ p → p < 3 → 0 ≤ r → r < 3 → r ≠ N 13013 p → bt (N 13014 p) r = true → N 13016 (3 * p + r) = eol N p ∨ N 13017 (3 * p + r) ≤ T + 5
def SYE (N : Nd) : Prop := ∀ p r, 0 ≤ p → p < 3 → 0 ≤ r → r < 3 → bt (N 13014 p) r = true → N 13016 (3 * p + r) = eol N p
def LED (N : Nd) : Prop := ∀ p, 0 ≤ p → p < 3 → 0 ≤ N 13013 p
def PH (T : Int) (N : Nd) : Prop := ALV N ∧ GON 2 N ∧ LED N ∧ DLY T N ∧ T ≤ (N 12000 1) ∧ (T + 6 ≤ (N 12000 1) → QUI N ∧ SYN T N) ∧ (T + 9 ≤ (N 12000 1) → SYE N)
theorem HLT.ph {N : Nd} (h : HLT N) (w : WV N) : PH ((N 12000 1)) N := ⟨h.1, h.2.1, fun p p1 p2 => (h.2.2 p p1 p2).1, w.2.2.2.2.1, Int.le_refl _, fun z => by omega, fun z => by omega⟩
/-- appends of a tick -/
theorem apN_cuts {N : Nd} {m x p : Int} (hs : N 13024 m = 0) : cuts (apN N m) x p = cuts N x p := by
  have e : ∀ i, apN N m 13024 i = if i = m then 1 else N 13024 i := fun i => by unfold apN; simp only [up_s, up_s, true_and, false_and, and_true, and_false, if_true, if_false, ↓reduceIte, ↓Option.bind_some, Int.reduceEq, Int.reduceNe, Int.reduceLT, Int.reduceLE, gd_true, gd_false, bind_b, q10, eq_self, reduceCtorEq, not_true_eq_false, not_false_eq_true, ne_eq]
  show su (fun i => if (apN N m 13024 i = 2 ∧ N 13025 i = 0 ∧ N 13020 i = x ∧ N 13021 i = p) then 1 else 0) 0 ((N 12000 19)).toNat = cuts N x p
  unfold cuts
  refine su_congr fun i i1 i2 => ?_
  rw [e]
  by_cases z : i = m
  · rw [if_pos z, if_neg (fun q => absurd q.1 (by decide)), if_neg (fun q => by have := q.1; rw [z, hs] at this; exact absurd this (by decide))]
  · rw [if_neg z]
theorem apFs_q : ∀ (l : List Int) {N : Nd}, JN N → l.Nodup → (∀ m ∈ l, 0 ≤ m ∧ m < (N 12000 19) ∧ N 13024 m = 0) → (∀ p, 0 ≤ p → p < (N 12000 11) → 0 ≤ N 13013 p) → (∀ p, 0 ≤ p → p < (N 12000 11) → eol N p ≤ eol (l.foldl apF N) p) ∧ (∀ x p, cuts (l.foldl apF N) x p = cuts N x p) ∧ ∀ m ∈ l, N 13028 m ≤ (N 12000 1) → (l.foldl apF N) 13024 m ≠ 0 ∨ 60 ≤ eol (l.foldl apF N) (N 13021 m) ∨ cuts N (N 13020 m) (N 13021 m) ≠ 0
  | [], N, _, _, _, _ => ⟨fun p _ _ => Int.le_refl _, fun _ _ => rfl, fun m hm => absurd hm (by simp)⟩
  | m :: l, N, j, hn, hl, ld => by
    obtain ⟨m1, m2, m3⟩ := hl m List.mem_cons_self
    obtain ⟨n1, n2⟩ := List.nodup_cons.mp hn
    have gm := (j.g.m m m1 m2).2.1
    have st : ∀ i, apN N m 13024 i = if i = m then 1 else N 13024 i := fun i => by unfold apN; simp only [up_s, up_s, true_and, false_and, and_true, and_false, if_true, if_false, ↓reduceIte, ↓Option.bind_some, Int.reduceEq, Int.reduceNe, Int.reduceLT, Int.reduceLE, gd_true, gd_false, bind_b, q10, eq_self, reduceCtorEq, not_true_eq_false, not_false_eq_true, ne_eq]
    have j1 : JN (apF N m) := (JN.apFs (l := [m]) j (by simp) (fun x hx => by
      have e : x = m := by simpa using hx
      rw [e]
      exact ⟨m1, m2, m3⟩)).1
    have h1 : ∀ x ∈ l, 0 ≤ x ∧ x < ((apF N m) 12000 19) ∧ (apF N m) 13024 x = 0 := fun x hx => by
      obtain ⟨y1, y2, y3⟩ := hl x (List.mem_cons_of_mem _ hx)
      have ne : x ≠ m := fun e => n1 (by rw [← e]; exact hx)
      unfold apF
      split
      · exact ⟨y1, y2, by rw [st, if_neg ne]; exact y3⟩
      · exact ⟨y1, y2, y3⟩
    have ar : ∀ a, a = 12000 ∨ a = 13013 ∨ a = 13028 ∨ a = 13021 ∨ a = 13020 → apF N m a = N a := fun a ha => by
      have := apFs_ar (a := a) (by omega) [m] N
      exact this
    obtain ⟨i1, i2, i3⟩ := apFs_q l j1 n2 h1 (fun p p1 p2 => by
      rw [ar 13013 (by decide)]
      rw [ar 12000 (by decide)] at p2
      exact ld p p1 p2)
    have ec : ∀ x p, cuts (apF N m) x p = cuts N x p := fun x p => by
      unfold apF
      split
      · exact apN_cuts m3
      · rfl
    have ee : ∀ p, 0 ≤ p → p < (N 12000 11) → eol N p ≤ eol (apF N m) p := fun p p1 p2 => by
      unfold apF
      split
      · rename_i z
        rw [eol_ap j.g m1 m2 z.2.1.1 p1 p2]
        split <;> omega
      · exact Int.le_refl _
    have a12 : (apF N m) 12000 = N 12000 := ar 12000 (by decide)
    have i1' : ∀ p, 0 ≤ p → p < (N 12000 11) → eol (apF N m) p ≤ eol (l.foldl apF (apF N m)) p := fun p p1 p2 => i1 p p1 (by rw [a12]; exact p2)
    show (∀ p, 0 ≤ p → p < (N 12000 11) → eol N p ≤ eol (l.foldl apF (apF N m)) p) ∧ (∀ x p, cuts (l.foldl apF (apF N m)) x p = cuts N x p) ∧ ∀ x ∈ m :: l, N 13028 x ≤ (N 12000 1) → (l.foldl apF (apF N m)) 13024 x ≠ 0 ∨ 60 ≤ eol (l.foldl apF (apF N m)) (N 13021 x) ∨ cuts N (N 13020 x) (N 13021 x) ≠ 0
    refine ⟨fun p p1 p2 => Int.le_trans (ee p p1 p2) (i1' p p1 p2), fun x p => (i2 x p).trans (ec x p), fun x hx hd => ?_⟩
    rcases List.mem_cons.mp hx with e | hx
    · rw [e] at hd ⊢
      by_cases z : apok N m
      · left
        have s1 : (apF N m) 13024 m = 1 := by
          unfold apF
          rw [if_pos z, st, if_pos rfl]
        intro q
        have := apFs_st0 l (apF N m) q
        omega
      · right
        by_cases c : cuts N (N 13020 m) (N 13021 m) = 0
        · left
          have lm := ld _ gm.1 gm.2
          have q : ¬ eol N (N 13021 m) < 60 := fun y => z ⟨hd, ⟨lm, y⟩, c⟩
          have := ee _ gm.1 gm.2
          have := i1' _ gm.1 gm.2
          omega
        · exact Or.inr c
    · have q := i3 x hx (by rw [ar 13028 (by decide), a12]; exact hd)
      rw [ar 13021 (by decide), ar 13020 (by decide), ec] at q
      exact q
theorem apFs_id : ∀ (l : List Int) {N : Nd}, (∀ m ∈ l, ¬ apok N m) → l.foldl apF N = N
  | [], _, _ => rfl
  | m :: l, N, h => by
    have e : apF N m = N := by
      unfold apF
      rw [if_neg (h m List.mem_cons_self)]
    show l.foldl apF (apF N m) = N
    rw [e]
    exact apFs_id l fun x hx => h x (List.mem_cons_of_mem _ hx)
section TICKS
variable {n : Int} {C : Cd} {N X : Nd} {A : Ad}
/-- followers copy -/
theorem coP_f {p : Int} (h : 0 ≤ N 13013 p) (sp : 0 ≤ (N 12000 3)) : eol (coP N p) p = eol N p ∧ ∀ r, 0 ≤ r → r < 3 → N 13016 (3 * p + r) = eol N p → coP N p 13016 (3 * p + r) = eol N p := by
  have k := fo_inv (g := fun r N => coS N p r) (i0 := 0) (n := 3) (a := N) (fun _ s => (∀ a, a ≠ 13016 → s a = N a) ∧ s 13016 (3 * p + N 13013 p) = N 13016 (3 * p + N 13013 p) ∧ ∀ r, 0 ≤ r → r < 3 → N 13016 (3 * p + r) = eol N p → s 13016 (3 * p + r) = eol N p) ⟨fun _ _ => rfl, rfl, fun r _ _ h => h⟩ (fun i s i1 i2 ⟨h1, h2, h3⟩ => by
    have el : s 13013 p = N 13013 p := by rw [h1 13013 (by decide)]
    have es : eol s p = eol N p := by rw [eol_lead (by rw [el]; exact h), eol_lead h, el, h2]
    show (∀ a, a ≠ 13016 → coS s p i a = N a) ∧ coS s p i 13016 (3 * p + N 13013 p) = N 13016 (3 * p + N 13013 p) ∧ ∀ r, 0 ≤ r → r < 3 → N 13016 (3 * p + r) = eol N p → coS s p i 13016 (3 * p + r) = eol N p
    unfold coS
    by_cases z : fol s p i
    · rw [if_pos z]
      have nl : ¬ i = N 13013 p := by rw [← el]; exact z.2.2.1
      refine ⟨fun a ha => ?_, ?_, fun r r1 r2 hr => ?_⟩
      · rw [← h1 a ha]
        funext q
        rw [up_s, if_neg (fun y => ha y.1)]
      · rw [up_s, if_neg (by omega)]
        exact h2
      · rw [up_s]
        by_cases e : r = i
        · rw [if_pos ⟨rfl, by rw [e]⟩, ← e, es, h3 r r1 r2 hr]
          split
          · rfl
          · rename_i y
            have e3 : (s 12000 3) = (N 12000 3) := by rw [h1 12000 (by decide)]
            omega
        · rw [if_neg (by omega)]
          exact h3 r r1 r2 hr
    · rw [if_neg z]
      exact ⟨h1, h2, h3⟩)
  refine ⟨?_, fun r r1 r2 hr => k.2.2 r r1 r2 hr⟩
  have el : coP N p 13013 p = N 13013 p := by rw [coP_ar (by decide)]
  have e2 : coP N p 13016 (3 * p + N 13013 p) = N 13016 (3 * p + N 13013 p) := k.2.1
  rw [eol_lead (by rw [el]; exact h), eol_lead h, el, e2]
/-- who is in sync -/
theorem fiP_f {p : Int} (h : 0 ≤ N 13013 p) (lv : ALV N) (t3 : N 13006 (N 13012 p) = 3) (sy : 0 ≤ N 13014 p ∧ N 13014 p ≤ 7) : ∀ r, 0 ≤ r → r < 3 → r ≠ N 13013 p → bt (fiP N p 13014 p) r = true → N 13016 (3 * p + r) = eol N p ∨ (bt (N 13014 p) r = true ∧ fiP N p 13017 (3 * p + r) = N 13017 (3 * p + r) ∧ ¬ 3 < w ((N 12000 1) - N 13017 (3 * p + r))) := by
  have k := fo_inv (g := fun r N => fiS N p r) (i0 := 0) (n := 3) (a := N) (fun i s => (∀ a, a ≠ 13017 → a ≠ 13014 → s a = N a) ∧ (0 ≤ s 13014 p ∧ s 13014 p ≤ 7) ∧ (∀ r, 0 ≤ r → r < i → r < 3 → r ≠ N 13013 p → bt (s 13014 p) r = true → N 13016 (3 * p + r) = eol N p ∨ (bt (N 13014 p) r = true ∧ s 13017 (3 * p + r) = N 13017 (3 * p + r) ∧ ¬ 3 < w ((N 12000 1) - N 13017 (3 * p + r)))) ∧ ∀ r, i ≤ r → r < 3 → (bt (s 13014 p) r = true ↔ bt (N 13014 p) r = true) ∧ s 13017 (3 * p + r) = N 13017 (3 * p + r)) ⟨fun _ _ _ => rfl, sy, fun r r1 r2 => by omega, fun r _ _ => ⟨Iff.rfl, rfl⟩⟩ (fun i s i1 i2 ⟨h1, h2, h3, h4⟩ => by
    have el : s 13013 p = N 13013 p := by rw [h1 13013 (by decide) (by decide)]
    have er : s 13016 = N 13016 := h1 13016 (by decide) (by decide)
    have es : eol s p = eol N p := by rw [eol_lead (by rw [el]; exact h), eol_lead h, el, er]
    have e12 : s 12000 = N 12000 := h1 12000 (by decide) (by decide)
    have eb : brk s p i = brk N p i := brk_ar (h1 13012 (by decide) (by decide)) (h1 13007 (by decide) (by decide)) p i
    obtain ⟨h5, h6⟩ := h4 i (Int.le_refl _) (by omega)
    show (∀ a, a ≠ 13017 → a ≠ 13014 → fiS s p i a = N a) ∧ (0 ≤ fiS s p i 13014 p ∧ fiS s p i 13014 p ≤ 7) ∧ (∀ r, 0 ≤ r → r < i + 1 → r < 3 → r ≠ N 13013 p → bt (fiS s p i 13014 p) r = true → N 13016 (3 * p + r) = eol N p ∨ (bt (N 13014 p) r = true ∧ fiS s p i 13017 (3 * p + r) = N 13017 (3 * p + r) ∧ ¬ 3 < w ((N 12000 1) - N 13017 (3 * p + r)))) ∧ ∀ r, i + 1 ≤ r → r < 3 → (bt (fiS s p i 13014 p) r = true ↔ bt (N 13014 p) r = true) ∧ fiS s p i 13017 (3 * p + r) = N 13017 (3 * p + r)
    unfold fiS
    by_cases z : fol s p i
    · rw [if_pos z, es, er, e12, h6]
      by_cases y : N 13016 (3 * p + i) = eol N p
      · rw [if_pos y]
        have sb := sbt_ok h2.1 h2.2 i1 (show i < 3 by omega)
        have vI : cuN s p i 13014 p = sbt (s 13014 p) i := by unfold cuN; simp only [up_s, up_s, true_and, false_and, and_true, and_false, if_true, if_false, ↓reduceIte, ↓Option.bind_some, Int.reduceEq, Int.reduceNe, Int.reduceLT, Int.reduceLE, gd_true, gd_false, bind_b, q10, eq_self, reduceCtorEq, not_true_eq_false, not_false_eq_true, ne_eq]
        have vC : ∀ x, cuN s p i 13017 x = if x = 3 * p + i then (s 12000 1) else s 13017 x := fun x => by unfold cuN; simp only [up_s, up_s, true_and, false_and, and_true, and_false, if_true, if_false, ↓reduceIte, ↓Option.bind_some, Int.reduceEq, Int.reduceNe, Int.reduceLT, Int.reduceLE, gd_true, gd_false, bind_b, q10, eq_self, reduceCtorEq, not_true_eq_false, not_false_eq_true, ne_eq]
        rw [vI]
        refine ⟨fun a a1 a2 => ?_, sb.1, fun r r1 r2 r3 r4 hb => ?_, fun r r1 r2 => ?_⟩
        · rw [← h1 a a1 a2]
          unfold cuN
          funext q
          rw [up_s, if_neg (fun x => a2 x.1), up_s, if_neg (fun x => a1 x.1)]
        · by_cases e : r = i
          · rw [e]; exact Or.inl y
          · have q := (sb.2 r r1 r3).mp hb
            rw [if_neg e] at q
            rw [vC, if_neg (by omega)]
            exact h3 r r1 (by omega) r3 r4 q
        · have e : r ≠ i := by omega
          have q := sb.2 r (by omega) r2
          rw [if_neg e] at q
          rw [vC, if_neg (by omega)]
          exact ⟨q.trans (h4 r (by omega) r2).1, (h4 r (by omega) r2).2⟩
      · rw [if_neg y]
        by_cases lg : 3 < w ((N 12000 1) - N 13017 (3 * p + i))
        · rw [if_pos lg]
          have cb := clr_ok h2.1 h2.2 i1 (show i < 3 by omega)
          have vI : (up s 13014 p (clr (s 13014 p) i)) 13014 p = clr (s 13014 p) i := by rw [up_s, if_pos ⟨rfl, rfl⟩]
          have vC : (up s 13014 p (clr (s 13014 p) i)) 13017 = s 13017 := by
            funext q
            rw [up_s, if_neg (by omega)]
          rw [vI, vC]
          refine ⟨fun a a1 a2 => ?_, cb.1, fun r r1 r2 r3 r4 hb => ?_, fun r r1 r2 => ?_⟩
          · rw [← h1 a a1 a2]
            funext q
            rw [up_s, if_neg (fun x => a2 x.1)]
          · have q := (cb.2 r r1 r3).mp hb
            by_cases e : r = i
            · rw [if_pos e] at q; exact q.elim
            · rw [if_neg e] at q
              exact h3 r r1 (by omega) r3 r4 q
          · have e : r ≠ i := by omega
            have q := cb.2 r (by omega) r2
            rw [if_neg e] at q
            exact ⟨q.trans (h4 r (by omega) r2).1, (h4 r (by omega) r2).2⟩
        · rw [if_neg lg]
          refine ⟨h1, h2, fun r r1 r2 r3 r4 hb => ?_, fun r r1 r2 => h4 r (by omega) r2⟩
          by_cases e : r = i
          · rw [e] at hb ⊢
            exact Or.inr ⟨h5.mp hb, h6, lg⟩
          · exact h3 r r1 (by omega) r3 r4 hb
    · rw [if_neg z]
      refine ⟨h1, h2, fun r r1 r2 r3 r4 hb => ?_, fun r r1 r2 => h4 r (by omega) r2⟩
      by_cases e : r = i
      · rw [e] at r3 r4
        refine absurd ⟨?_, ?_, ?_, ?_⟩ z
        · rw [h1 13006 (by decide) (by decide), h1 13012 (by decide) (by decide), t3]
          exact r3
        · rw [el]; exact h
        · rw [el]; exact r4
        · rw [e12, eb]
          have b := @brk3 N p i
          exact lv _ b.1 b.2
      · exact h3 r r1 (by omega) r3 r4 hb)
  intro r r1 r2 r3 hb
  exact k.2.2.1 r r1 r2 r2 r3 hb
/-- a tick's logs: ends, and who is in sync -/
def TKF (N X : Nd) : Prop := ∀ p, 0 ≤ p → p < 3 → eol X p = eol N p ∧ ∀ r, 0 ≤ r → r < 3 → r ≠ N 13013 p → bt (X 13014 p) r = true → X 13016 (3 * p + r) = eol N p ∨ (bt (N 13014 p) r = true ∧ X 13017 (3 * p + r) = N 13017 (3 * p + r) ∧ N 13016 (3 * p + r) ≠ eol N p ∧ ¬ 3 < w ((N 12000 1) - N 13017 (3 * p + r)))
theorem tkA_f (j : JN N) (p3 : (N 12000 11) = 3) (cp : CPD N) (t3 : ∀ p, 0 ≤ p → p < 3 → N 13006 (N 13012 p) = 3) (lv : ALV N) (ld : LED N) : TKF N (tkA N) := by
  have k := fo_inv (g := fun p N => tkP N p) (i0 := 0) (n := ((N 12000 11)).toNat) (a := N) (fun i s => (∀ a, a ≠ 13016 → a ≠ 13017 → a ≠ 13014 → s a = N a) ∧ (∀ q, i ≤ q → s 13014 q = N 13014 q ∧ ∀ r, 0 ≤ r → r < 3 → s 13016 (3 * q + r) = N 13016 (3 * q + r) ∧ s 13017 (3 * q + r) = N 13017 (3 * q + r)) ∧ ∀ p, 0 ≤ p → p < i → p < 3 → eol s p = eol N p ∧ ∀ r, 0 ≤ r → r < 3 → r ≠ N 13013 p → bt (s 13014 p) r = true → s 13016 (3 * p + r) = eol N p ∨ (bt (N 13014 p) r = true ∧ s 13017 (3 * p + r) = N 13017 (3 * p + r) ∧ N 13016 (3 * p + r) ≠ eol N p ∧ ¬ 3 < Jvm.Pilot.@@N@@.w ((N 12000 1) - N 13017 (3 * p + r)))) ⟨fun _ _ _ _ => rfl, fun q _ => ⟨rfl, fun r _ _ => ⟨rfl, rfl⟩⟩, fun p p1 p2 => by omega⟩ (fun i s i1 i2 ⟨h1, h2, h3⟩ => by
    have i3 : i < 3 := by omega
    have c : ¬ s 14008 (s 13012 i) = 0 := by
      rw [h1 14008 (by decide) (by decide) (by decide), h1 13012 (by decide) (by decide) (by decide)]
      exact cp i i1 (by omega)
    have el : s 13013 i = N 13013 i := by rw [h1 13013 (by decide) (by decide) (by decide)]
    have li := ld i i1 i3
    obtain ⟨s1, s2⟩ := h2 i (Int.le_refl _)
    have lb := lead3 j.g i i1 (by omega)
    have es : eol s i = eol N i := by rw [eol_lead (by rw [el]; exact li), eol_lead li, el, (s2 _ li lb).1]
    have ls : 0 ≤ s 13013 i := by rw [el]; exact li
    obtain ⟨c1, c2⟩ := coP_f (N := s) (p := i) ls (by rw [h1 12000 (by decide) (by decide) (by decide)]; exact j.g.s.2.2.2.2.2.2.1.1)
    have lc : 0 ≤ (coP s i) 13013 i := by rw [coP_ar (by decide)]; exact ls
    have c12 : coP s i 12000 = N 12000 := by rw [coP_ar (by decide)]; exact h1 12000 (by decide) (by decide) (by decide)
    have sy := (j.g.p i i1 (by omega)).2.2.1
    have cI : coP s i 13014 = s 13014 := coP_ar (by decide)
    have cC : coP s i 13017 = s 13017 := coP_ar (by decide)
    have f := fiP_f (N := coP s i) (p := i) lc (fun b b1 b2 => by rw [c12]; exact lv b b1 b2) (by
      rw [coP_ar (a := 13006) (by decide), coP_ar (a := 13012) (by decide), h1 13006 (by decide) (by decide) (by decide), h1 13012 (by decide) (by decide) (by decide)]
      exact t3 i i1 i3) (by rw [cI, s1]; exact sy)
    rw [c1, es, cI, cC, c12, s1] at f
    have eR : fiP (coP s i) i 13016 = coP s i 13016 := fiP_ar (by decide) (by decide)
    have ef : eol (fiP (coP s i) i) i = eol N i := by
      have e9 : fiP (coP s i) i 13013 i = (coP s i) 13013 i := by rw [fiP_ar (by decide) (by decide)]
      rw [eol_lead (by rw [e9]; exact lc), e9, eR, ← eol_lead lc, c1, es]
    show (∀ a, a ≠ 13016 → a ≠ 13017 → a ≠ 13014 → tkP s i a = N a) ∧ (∀ q, i + 1 ≤ q → tkP s i 13014 q = N 13014 q ∧ ∀ r, 0 ≤ r → r < 3 → tkP s i 13016 (3 * q + r) = N 13016 (3 * q + r) ∧ tkP s i 13017 (3 * q + r) = N 13017 (3 * q + r)) ∧ ∀ p, 0 ≤ p → p < i + 1 → p < 3 → eol (tkP s i) p = eol N p ∧ ∀ r, 0 ≤ r → r < 3 → r ≠ N 13013 p → bt (tkP s i 13014 p) r = true → tkP s i 13016 (3 * p + r) = eol N p ∨ (bt (N 13014 p) r = true ∧ tkP s i 13017 (3 * p + r) = N 13017 (3 * p + r) ∧ N 13016 (3 * p + r) ≠ eol N p ∧ ¬ 3 < Jvm.Pilot.@@N@@.w ((N 12000 1) - N 13017 (3 * p + r)))
    rw [tkP_c c]
    have oth : ∀ q r, q ≠ i → 0 ≤ r → r < 3 → fiP (coP s i) i 13014 q = s 13014 q ∧ fiP (coP s i) i 13016 (3 * q + r) = s 13016 (3 * q + r) ∧ fiP (coP s i) i 13017 (3 * q + r) = s 13017 (3 * q + r) := fun q r hq r1 r2 => by
      refine ⟨?_, ?_, ?_⟩
      · rw [fiP_at (by omega) (by omega), coP_ar (by decide)]
      · rw [eR, coP_at (by omega)]
      · rw [fiP_at (by omega) (by omega), coP_ar (by decide)]
    refine ⟨fun a a1 a2 a3 => by rw [fiP_ar a2 a3, coP_ar a1, h1 a a1 a2 a3], fun q q1 => ?_, fun p p1 p2 p3' => ?_⟩
    · obtain ⟨y1, y2⟩ := h2 q (by omega)
      refine ⟨(oth q 0 (by omega) (by decide) (by decide)).1.trans y1, fun r r1 r2 => ?_⟩
      obtain ⟨-, o2, o3⟩ := oth q r (by omega) r1 r2
      exact ⟨o2.trans (y2 r r1 r2).1, o3.trans (y2 r r1 r2).2⟩
    · by_cases e : p = i
      · rw [e]
        refine ⟨ef, fun r r1 r2 r3 hb => ?_⟩
        have cl : (coP s i) 13013 i = N 13013 i := by rw [coP_ar (by decide)]; exact el
        rcases f r r1 r2 (by rw [cl]; exact r3) hb with y | ⟨y1, y2, y3⟩
        · left
          rw [eR]
          exact y
        · rw [(s2 r r1 r2).2] at y2 y3
          by_cases q : N 13016 (3 * i + r) = eol N i
          · left
            rw [eR, c2 r r1 r2 (by rw [(s2 r r1 r2).1, es]; exact q), es]
          · exact Or.inr ⟨y1, y2, q, y3⟩
      · obtain ⟨y1, y2⟩ := h3 p p1 (by omega) p3'
        obtain ⟨o1, -, -⟩ := oth p 0 e (by decide) (by decide)
        have lp' := ld p p1 p3'
        have lb' := lead3 j.g p p1 (by omega)
        have e9 : fiP (coP s i) i 13013 p = N 13013 p := by rw [fiP_ar (by decide) (by decide), coP_ar (by decide), h1 13013 (by decide) (by decide) (by decide)]
        have e8 : s 13013 p = N 13013 p := by rw [h1 13013 (by decide) (by decide) (by decide)]
        refine ⟨?_, fun r r1 r2 r3 hb => ?_⟩
        · rw [← y1, eol_lead (by rw [e9]; exact lp'), eol_lead (by rw [e8]; exact lp'), e9, e8, (oth p _ e lp' lb').2.1]
        · obtain ⟨-, o2, o3⟩ := oth p r e r1 r2
          rw [o1] at hb
          rw [o2, o3]
          exact y2 r r1 r2 r3 hb)
  intro p p1 p2
  exact k.2.2 p p1 (by omega) p2
end TICKS
