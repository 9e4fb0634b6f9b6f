/-! PURE PART, 51: what holds of messages and logs, step by step -/
theorem JN.reG {N : Nd} {b p a : Int} (j : JN N) (h1 : 0 ≤ p) (h2 : p < (N 12000 11)) : JN (reG b p (a, N)).2 ∧ Mo N (reG b p (a, N)).2 := by
  have g' := j.g.reG (b := b) (p := p) (a := a)
  unfold Jvm.Pilot.@@N@@.reG at g' ⊢
  by_cases e : rpo N p b < 3 ∧ N 13013 p < 0 ∧ bt (N 13014 p) (rpo N p b) = true
  · rw [if_pos e] at g' ⊢
    have rb := rpo_b e.1
    have rl := (j.li p h1 h2).2 e.2.1 _ rb.1 e.1 e.2.2
    have ld : ∀ q, up N 13013 p (rpo N p b) 13013 q = if q = p then rpo N p b else N 13013 q := fun q => by simp only [up_s, up_s, true_and, false_and, and_true, and_false, if_true, if_false, ↓reduceIte, ↓Option.bind_some, Int.reduceEq, Int.reduceNe, Int.reduceLT, Int.reduceLE, gd_true, gd_false, bind_b, q10, eq_self, reduceCtorEq, not_true_eq_false, not_false_eq_true, ne_eq]
    have l' : LI (up N 13013 p (rpo N p b)) := fun q q1 q2 => by
      have hq := j.li q q1 q2
      rw [ld]
      by_cases z : q = p
      · subst z
        rw [if_pos rfl]
        exact ⟨fun _ => e.2.2, fun x => by omega⟩
      · rw [if_neg z]; exact hq
    have eo : ∀ q, 0 ≤ q → q < (N 12000 11) → eol (up N 13013 p (rpo N p b)) q = eol N q := fun q q1 q2 => by
      unfold eol
      rw [ld]
      show (if (if q = p then rpo N p b else N 13013 q) < 0 then N 13016 (3 * q + low (N 13014 q)) else N 13016 (3 * q + (if q = p then rpo N p b else N 13013 q))) = _
      by_cases z : q = p
      · subst z
        simp only [eq_self, if_true, if_false, ↓reduceIte]
        rw [if_neg (show ¬ rpo N q b < 0 by omega), if_pos e.2.1, ← rl]
      · simp only [z, if_false]
    exact j.ends (j.t.ends g' l' rfl rfl rfl rfl rfl rfl rfl rfl rfl eo (fun q i q1 q2 c d => j.en q i q1 q2 c d) (fun q _ _ => Int.le_refl _)) (fun c _ _ _ z => by funext i; exact if_neg (fun q => z q.1)) (fun q _ _ => Int.le_refl _)
  · rw [if_neg e]
    exact ⟨j, Mo.rf⟩
theorem JN.feG {N : Nd} {b p a : Int} (j : JN N) (h1 : 0 ≤ p) (h2 : p < (N 12000 11)) : JN (feG b p (a, N)).2 ∧ Mo N (feG b p (a, N)).2 := by
  have g' := j.g.feG (b := b) (a := a) h1 h2
  have lb := RP.lead j.g.t j.g.p h1 h2
  have ss := (j.g.p p h1 h2).2.2.1
  unfold Jvm.Pilot.@@N@@.feG at g' ⊢
  by_cases e : rpo N p b < 3 ∧ 0 ≤ N 13013 p ∧ ¬ rpo N p b = N 13013 p
  · rw [if_pos e] at g' ⊢
    have rb := rpo_b e.1
    have g1 := j.g.upEnd (i := 3 * p + rpo N p b) (eol_b j.g.t j.g.p j.g.e h1 h2)
    have l' : LI (cuN (up N 13016 (3 * p + rpo N p b) (eol N p)) p (rpo N p b)) := LI.add (N := up (up N 13016 (3 * p + rpo N p b) (eol N p)) 13017 (3 * p + rpo N p b) ((N 12000 1))) (g1.upCaught (by have := j.g.s.2.2.2.2.2.2.2.1; show 0 ≤ (N 12000 1) ∧ (N 12000 1) ≤ (N 12000 1); omega)) j.li h1 h2 rb.1 e.1 e.2.1
    have re : ∀ i, cuN (up N 13016 (3 * p + rpo N p b) (eol N p)) p (rpo N p b) 13016 i = if i = 3 * p + rpo N p b then eol N p else N 13016 i := fun i => by unfold cuN; simp only [up_s, up_s, true_and, false_and, and_true, and_false, if_true, if_false, ↓reduceIte, ↓Option.bind_some, Int.reduceEq, Int.reduceNe, Int.reduceLT, Int.reduceLE, gd_true, gd_false, bind_b, q10, eq_self, reduceCtorEq, not_true_eq_false, not_false_eq_true, ne_eq]
    have sy : ∀ i, cuN (up N 13016 (3 * p + rpo N p b) (eol N p)) p (rpo N p b) 13014 i = if i = p then sbt (N 13014 p) (rpo N p b) else N 13014 i := fun i => by unfold cuN; simp only [up_s, up_s, true_and, false_and, and_true, and_false, if_true, if_false, ↓reduceIte, ↓Option.bind_some, Int.reduceEq, Int.reduceNe, Int.reduceLT, Int.reduceLE, gd_true, gd_false, bind_b, q10, eq_self, reduceCtorEq, not_true_eq_false, not_false_eq_true, ne_eq]
    have ld : cuN (up N 13016 (3 * p + rpo N p b) (eol N p)) p (rpo N p b) 13013 = N 13013 := rfl
    generalize hN : cuN (up N 13016 (3 * p + rpo N p b) (eol N p)) p (rpo N p b) = N' at g' l' re sy ld
    have hk : ∀ c, c ≠ 13016 → c ≠ 13017 → c ≠ 13014 → N' c = N c := fun c z1 z2 z3 => by
      funext i; rw [← hN]; unfold cuN; rw [up_s, if_neg (fun q => z3 q.1), up_s, if_neg (fun q => z2 q.1), up_s, if_neg (fun q => z1 q.1)]
    have hh : ∀ q, 0 ≤ q → q < (N 12000 11) → hw N q ≤ hw N' q := fun q q1 q2 => hw_ge (hw_b j.g.e q1 q2).2 fun i i1 i2 hi => by
      have hwe := hw_eol j.g j.li q1 q2
      rw [sy] at hi
      rw [re]
      by_cases z : 3 * q + i = 3 * p + rpo N p b
      · have zq : q = p := by omega
        rw [if_pos z]; rw [zq] at hwe ⊢; exact hwe
      · rw [if_neg z]
        refine hw_le i1 i2 ?_
        by_cases y : q = p
        · rw [if_pos y, (sbt_ok ss.1 ss.2 rb.1 e.1).2 i i1 i2, if_neg (by omega)] at hi
          rw [y]; exact hi
        · rw [if_neg y] at hi; exact hi
    have eo : ∀ q, 0 ≤ q → q < (N 12000 11) → eol N' q = eol N q := fun q q1 q2 => by
      have lb2 := RP.lead j.g.t j.g.p q1 q2
      have lw := @low_b (N 13014 q)
      unfold eol
      rw [ld, sy, re, re]
      by_cases z : q = p
      · subst z
        rw [if_neg (show ¬ N 13013 q < 0 by omega), if_neg (by omega), if_neg (show ¬ N 13013 q < 0 by omega)]
      · simp only [z, if_false, ↓reduceIte]
        by_cases y : N 13013 q < 0
        · rw [if_pos y, if_pos y, if_neg (by omega)]
        · rw [if_neg y, if_neg y, if_neg (by omega)]
    exact j.ends (j.t.ends g' l' (hk _ (by decide) (by decide) (by decide)) (hk _ (by decide) (by decide) (by decide)) (hk _ (by decide) (by decide) (by decide)) (hk _ (by decide) (by decide) (by decide)) (hk _ (by decide) (by decide) (by decide)) (hk _ (by decide) (by decide) (by decide)) (hk _ (by decide) (by decide) (by decide)) (hk _ (by decide) (by decide) (by decide)) (hk _ (by decide) (by decide) (by decide)) eo (fun q i q1 q2 c d => by
      show N' 13016 (3 * q + i) ≤ eol N q
      rw [re]
      split
      · rename_i z
        have zq : q = p := by omega
        rw [zq]; exact Int.le_refl _
      · exact j.en q i q1 q2 c d) hh) (fun c z1 z2 z3 _ => hk c z1 z2 z3) hh
  · rw [if_neg e]
    exact ⟨j, Mo.rf⟩
theorem JN.coS {N : Nd} {p r : Int} (j : JN N) (h1 : 0 ≤ p) (h2 : p < (N 12000 11)) (h3 : 0 ≤ r) (h4 : r < 3) : JN (coS N p r) ∧ Mo N (coS N p r) := by
  have s7 := j.g.s.2.2.2.2.2.2.1
  refine j.ends (j.t.coS h1 h2 h3 h4) (fun a z _ _ _ => coS_ar z) fun q q1 q2 => hw_ge (hw_b j.g.e q1 q2).2 fun k k1 k2 hk => ?_
  rw [coS_ar (a := 13014) (by decide)] at hk
  have a1 := hw_le k1 k2 hk
  have a2 : N 13016 (3 * q + k) ≤ Jvm.Pilot.@@N@@.coS N p r 13016 (3 * q + k) := by
    unfold Jvm.Pilot.@@N@@.coS
    split
    · rw [up_s]
      split
      · rename_i z
        have e1 : q = p := by omega
        have e2 : k = r := by omega
        have := j.en q k q1 q2 k1 k2
        rw [e1, e2] at this ⊢
        split <;> omega
      · exact Int.le_refl _
    · exact Int.le_refl _
  omega
theorem JN.fiS {N : Nd} {p r : Int} (j : JN N) (h1 : 0 ≤ p) (h2 : p < (N 12000 11)) (h3 : 0 ≤ r) (h4 : r < 3) : JN (fiS N p r) ∧ Mo N (fiS N p r) := by
  have ss := (j.g.p p h1 h2).2.2.1
  refine j.ends (j.t.fiS h1 h2 h3 h4) (fun a _ z2 z3 _ => fiS_ar z2 z3) fun q q1 q2 => hw_ge (hw_b j.g.e q1 q2).2 fun k k1 k2 hk => ?_
  rw [fiS_ar (a := 13016) (by decide) (by decide)]
  by_cases e : q = p
  · subst e
    unfold Jvm.Pilot.@@N@@.fiS at hk
    by_cases c : fol N q r
    · rw [if_pos c] at hk
      by_cases c2 : N 13016 (3 * q + r) = eol N q
      · rw [if_pos c2] at hk
        have hk2 : bt (sbt (N 13014 q) r) k = true := by
          unfold cuN at hk
          simp only [up_s, up_s, true_and, false_and, and_true, and_false, if_true, if_false, ↓reduceIte, ↓Option.bind_some, Int.reduceEq, Int.reduceNe, Int.reduceLT, Int.reduceLE, gd_true, gd_false, bind_b, q10, eq_self, reduceCtorEq, not_true_eq_false, not_false_eq_true, ne_eq] at hk
          exact hk
        rw [(sbt_ok ss.1 ss.2 h3 h4).2 k k1 k2] at hk2
        by_cases e2 : k = r
        · rw [e2, c2]
          exact hw_eol j.g j.li q1 q2
        · rw [if_neg e2] at hk2
          exact hw_le k1 k2 hk2
      · rw [if_neg c2] at hk
        split at hk
        · simp only [up_s, up_s, true_and, false_and, and_true, and_false, if_true, if_false, ↓reduceIte, ↓Option.bind_some, Int.reduceEq, Int.reduceNe, Int.reduceLT, Int.reduceLE, gd_true, gd_false, bind_b, q10, eq_self, reduceCtorEq, not_true_eq_false, not_false_eq_true, ne_eq] at hk
          rw [(clr_ok ss.1 ss.2 h3 h4).2 k k1 k2] at hk
          split at hk
          · exact hk.elim
          · exact hw_le k1 k2 hk
        · exact hw_le k1 k2 hk
    · rw [if_neg c] at hk
      exact hw_le k1 k2 hk
  · rw [fiS_at (a := 13014) (fun z => absurd z.1 (by decide)) (fun z => e z.2)] at hk
    exact hw_le k1 k2 hk
theorem fo_JM {g : Int → Nd → Nd} {i0 : Int} {n : Nat} {N : Nd} (j : JN N) (hp : ∀ i s, i0 ≤ i → i < i0 + n → JN s → s 12000 11 = (N 12000 11) → JN (g i s) ∧ Mo s (g i s) ∧ (g i s) 12000 11 = (N 12000 11)) : JN (fo g i0 n N) ∧ Mo N (fo g i0 n N) ∧ (fo g i0 n N) 12000 11 = (N 12000 11) :=
  fo_inv (g := g) (i0 := i0) (n := n) (a := N) (fun _ s => JN s ∧ Mo N s ∧ s 12000 11 = (N 12000 11)) ⟨j, Mo.rf, rfl⟩ fun i s i1 i2 h => by
    obtain ⟨a, b, c⟩ := hp i s i1 i2 h.1 h.2.2
    exact ⟨a, h.2.1.tr j.g b a.g, c⟩
theorem fo_JMp {g : Int → Int × Nd → Int × Nd} {i0 : Int} {n : Nat} {N : Nd} (j : JN N) (hp : ∀ i s, i0 ≤ i → i < i0 + n → JN s.2 → s.2 12000 11 = (N 12000 11) → JN (g i s).2 ∧ Mo s.2 (g i s).2 ∧ (g i s).2 12000 11 = (N 12000 11)) : JN (fo g i0 n (0, N)).2 ∧ Mo N (fo g i0 n (0, N)).2 ∧ (fo g i0 n (0, N)).2 12000 11 = (N 12000 11) :=
  fo_inv (g := g) (i0 := i0) (n := n) (a := (0, N)) (fun _ s => JN s.2 ∧ Mo N s.2 ∧ s.2 12000 11 = (N 12000 11)) ⟨j, Mo.rf, rfl⟩ fun i s i1 i2 h => by
    obtain ⟨a, b, c⟩ := hp i s i1 i2 h.1 h.2.2
    exact ⟨a, h.2.1.tr j.g b a.g, c⟩
theorem JN.faA {N : Nd} {b : Int} (j : JN N) : JN (faA N b).2 ∧ Mo N (faA N b).2 := by
  have s2 := j.g.s.2.1
  have k := fo_JMp (g := Jvm.Pilot.@@N@@.faG b) (i0 := 0) (n := ((N 12000 11)).toNat) j fun i s i1 i2 h e => ⟨?_, ?_, faG_sc.trans e⟩
  · exact ⟨k.1, k.2.1⟩
  · unfold Jvm.Pilot.@@N@@.faG
    split
    · rename_i c
      exact (h.faN i1 (by rw [e]; omega) (rpo_b c).1 c).1
    · exact h
  · unfold Jvm.Pilot.@@N@@.faG
    split
    · rename_i c
      exact (h.faN i1 (by rw [e]; omega) (rpo_b c).1 c).2
    · exact Mo.rf
theorem JN.reA {N : Nd} {b : Int} (j : JN N) : JN (reA N b).2 ∧ Mo N (reA N b).2 := by
  have s2 := j.g.s.2.1
  have k := fo_JMp (g := Jvm.Pilot.@@N@@.reG b) (i0 := 0) (n := ((N 12000 11)).toNat) j fun i s i1 i2 h e => ⟨(h.reG (a := s.1) i1 (by rw [e]; omega)).1, (h.reG (a := s.1) i1 (by rw [e]; omega)).2, reG_sc.trans e⟩
  exact ⟨k.1, k.2.1⟩
theorem JN.feA {N : Nd} {b : Int} (j : JN N) : JN (feA N b).2 ∧ Mo N (feA N b).2 := by
  have s2 := j.g.s.2.1
  have k := fo_JMp (g := Jvm.Pilot.@@N@@.feG b) (i0 := 0) (n := ((N 12000 11)).toNat) j fun i s i1 i2 h e => ⟨(h.feG (a := s.1) i1 (by rw [e]; omega)).1, (h.feG (a := s.1) i1 (by rw [e]; omega)).2, feG_sc.trans e⟩
  exact ⟨k.1, k.2.1⟩
theorem JN.lgF {p : Int} (h1 : 0 ≤ p) : ∀ {n : Nat} {N : Nd}, JN N → p < (N 12000 11) → JN (lgF p n N) ∧ Mo N (lgF p n N)
  | 0, N, j, _ => ⟨j, Mo.rf⟩
  | n + 1, N, j, h2 => by
    unfold Jvm.Pilot.@@N@@.lgF
    split
    · rename_i h
      have sb := so_b j.g.e h1 h2
      have hb := hw_b j.g.e h1 h2
      have he := hw_eol j.g j.li h1 h2
      have f1 := (j.g.p p h1 h2).2.2.2.1
      have k0 := (j.fl p (N 13015 p) h1 h2 f1.1 (by have := h.2.1; omega)).mp (by have := h.2.1; omega)
      have lk := j.g.l p (N 13015 p) h1 h2 f1.1 (by have := h.2.1; omega)
      have m0 := j.lm p _ h1 h2 f1.1 (by have := h.2.1; omega) k0
      have ms : N 13024 (N 13018 (60 * p + N 13015 p)) = 1 := by
        rcases m0.2.2 with z | z
        · exact z
        · have := ((j.fi p h1 h2).1 h.1 _ f1.1 (by have := h.2.1; omega) k0).mpr z
          omega
      have jl := j.t.1.lg1 h1 h2 h
      have jr := j.rm (N' := lg1 N p) (m := N 13018 (60 * p + N 13015 p)) ⟨jl.1, j.en⟩ k0 lk.2 ms (by rw [m0.1, m0.2.1]; exact h.2.1) (fun k => by unfold lg1; simp only [up_s, up_s, true_and, false_and, and_true, and_false, if_true, if_false, ↓reduceIte, ↓Option.bind_some, Int.reduceEq, Int.reduceNe, Int.reduceLT, Int.reduceLE, gd_true, gd_false, bind_b, q10, eq_self, reduceCtorEq, not_true_eq_false, not_false_eq_true, ne_eq]) (fun a z1 z2 => lg1_ar z1 z2) (fun q => by
        unfold lg1
        simp only [up_s, up_s, true_and, false_and, and_true, and_false, if_true, if_false, ↓reduceIte, ↓Option.bind_some, Int.reduceEq, Int.reduceNe, Int.reduceLT, Int.reduceLE, gd_true, gd_false, bind_b, q10, eq_self, reduceCtorEq, not_true_eq_false, not_false_eq_true, ne_eq]
        split
        · rename_i e; rw [e]; omega
        · exact Int.le_refl _)
      have ih := JN.lgF (n := n) h1 jr.1 (show p < (N 12000 11) from h2)
      exact ⟨ih.1, jr.2.tr j.g ih.2 ih.1.g⟩
    · exact ⟨j, Mo.rf⟩
theorem JN.tkP {N : Nd} {p : Int} (j : JN N) (h1 : 0 ≤ p) (h2 : p < (N 12000 11)) : JN (tkP N p) ∧ Mo N (tkP N p) := by
  have k1 := fo_JM (g := fun r N => Jvm.Pilot.@@N@@.coS N p r) (i0 := 0) (n := 3) j fun i s i1 i2 h e => ⟨(h.coS h1 (by rw [e]; exact h2) i1 (by omega)).1, (h.coS h1 (by rw [e]; exact h2) i1 (by omega)).2, (congrFun (coS_ar (by decide)) _).trans e⟩
  have k2 := fo_JM (g := fun r N => Jvm.Pilot.@@N@@.fiS N p r) (i0 := 0) (n := 3) k1.1 fun i s i1 i2 h e => ⟨(h.fiS h1 (by rw [e, k1.2.2]; exact h2) i1 (by omega)).1, (h.fiS h1 (by rw [e, k1.2.2]; exact h2) i1 (by omega)).2, (congrFun (fiS_ar (by decide) (by decide)) _).trans e⟩
  have k3 := JN.lgF (n := 60) h1 k2.1 (by rw [k2.2.2, k1.2.2]; exact h2)
  exact ⟨k3.1, (k1.2.1.tr j.g k2.2.1 k2.1.g).tr j.g k3.2 k3.1.g⟩
theorem JN.tkA {N : Nd} (j : JN N) : JN (tkA N) ∧ Mo N (tkA N) := by
  have s2 := j.g.s.2.1
  have k := fo_JM (g := fun p N => Jvm.Pilot.@@N@@.tkP N p) (i0 := 0) (n := ((N 12000 11)).toNat) j fun i s i1 i2 h e => ⟨(h.tkP i1 (by rw [e]; omega)).1, (h.tkP i1 (by rw [e]; omega)).2, tkP_sc.trans e⟩
  exact ⟨k.1, k.2.1⟩
/-- to append -/
theorem JN.apN {N : Nd} {m : Int} (j : JN N) (h1 : 0 ≤ m) (h2 : m < (N 12000 19)) (hl : 0 ≤ N 13013 (N 13021 m)) (he : eol N (N 13021 m) < 60) (hs : N 13024 m = 0 ∨ N 13024 m = 2)
    (hN : ndl N m → (∀ k, 0 ≤ k → k < 60 → 0 ≤ N 13018 (60 * N 13021 m + k) → N 13020 (N 13018 (60 * N 13021 m + k)) = N 13020 m → ndl N (N 13018 (60 * N 13021 m + k)) → N 13018 (60 * N 13021 m + k) < m) ∧ (∀ c, 0 ≤ c → c < (N 12000 19) → c ≠ m → N 13024 c = 2 → N 13025 c = 0 → N 13028 c = 0 → N 13020 c = N 13020 m → N 13021 c = N 13021 m → m < c)) : JN (apN N m) ∧ Mo N (apN N m) := by
  have a2 := (j.g.m m h1 h2).2.1
  have eb := eol_b j.g.t j.g.p j.g.e a2.1 a2.2
  have lg : ∀ k, Jvm.Pilot.@@N@@.apN N m 13018 k = if k = 60 * N 13021 m + eol N (N 13021 m) then m else N 13018 k := fun k => by
    unfold Jvm.Pilot.@@N@@.apN
    simp only [up_s, up_s, true_and, false_and, and_true, and_false, if_true, if_false, ↓reduceIte, ↓Option.bind_some, Int.reduceEq, Int.reduceNe, Int.reduceLT, Int.reduceLE, gd_true, gd_false, bind_b, q10, eq_self, reduceCtorEq, not_true_eq_false, not_false_eq_true, ne_eq]
  have st : ∀ k, Jvm.Pilot.@@N@@.apN N m 13024 k = if k = m then 1 else N 13024 k := fun k => by
    unfold Jvm.Pilot.@@N@@.apN
    simp only [up_s, up_s, true_and, false_and, and_true, and_false, if_true, if_false, ↓reduceIte, ↓Option.bind_some, Int.reduceEq, Int.reduceNe, Int.reduceLT, Int.reduceLE, gd_true, gd_false, bind_b, q10, eq_self, reduceCtorEq, not_true_eq_false, not_false_eq_true, ne_eq]
  have os : ∀ k, Jvm.Pilot.@@N@@.apN N m 13026 k = if k = m then eol N (N 13021 m) else N 13026 k := fun k => by
    unfold Jvm.Pilot.@@N@@.apN
    simp only [up_s, up_s, true_and, false_and, and_true, and_false, if_true, if_false, ↓reduceIte, ↓Option.bind_some, Int.reduceEq, Int.reduceNe, Int.reduceLT, Int.reduceLE, gd_true, gd_false, bind_b, q10, eq_self, reduceCtorEq, not_true_eq_false, not_false_eq_true, ne_eq]
  have tc : ∀ k, Jvm.Pilot.@@N@@.apN N m 13027 k = if k = m then (N 12000 1) else N 13027 k := fun k => by
    unfold Jvm.Pilot.@@N@@.apN
    simp only [up_s, up_s, true_and, false_and, and_true, and_false, if_true, if_false, ↓reduceIte, ↓Option.bind_some, Int.reduceEq, Int.reduceNe, Int.reduceLT, Int.reduceLE, gd_true, gd_false, bind_b, q10, eq_self, reduceCtorEq, not_true_eq_false, not_false_eq_true, ne_eq]
  have s8 := j.g.s.2.2.2.2.2.2.2.1
  have ot : ∀ q k, 0 ≤ q → q < (N 12000 11) → 0 ≤ k → k < 60 → 0 ≤ N 13018 (60 * q + k) → N 13018 (60 * q + k) ≠ m := fun q k q1 q2 k1 k2 k3 k4 => by
    have := (j.lm q k q1 q2 k1 k2 k3).2.2
    rw [k4] at this
    omega
  have nofl : ∀ k, eol N (N 13021 m) ≤ k → k < 60 → N 13018 (60 * N 13021 m + k) < 0 := fun k k1 k2 => by
    have := j.fl _ k a2.1 a2.2 (by omega) k2
    omega
  have hh : ∀ q, 0 ≤ q → q < (N 12000 11) → hw N q ≤ hw (Jvm.Pilot.@@N@@.apN N m) q := fun q q1 q2 => hw_ap j.g j.en h1 h2 hl q1 q2
  have hso : ∀ q, 0 ≤ q → q < (N 12000 11) → so N q ≤ so (Jvm.Pilot.@@N@@.apN N m) q := fun q q1 q2 => by
    have hwe := hw_eol j.g j.li q1 q2
    have hwb := hw_b j.g.e q1 q2
    refine so_mono2 hwb.1 (fun k k1 k2 => ?_) (hh q q1 q2)
    unfold opn
    rw [lg, if_neg]
    · rfl
    · intro z
      have e2 : q = N 13021 m := by omega
      subst e2
      omega
  refine ⟨⟨j.t.apN h1 h2 hl he hs, ⟨j.ot, j.xu⟩, fun i i1 i2 => ?_, fun q k q1 q2 k1 k2 => ?_, fun q i k q1 q2 i1 i2 k1 => ?_, fun c k c1 c2 => ?_, fun i i1 i2 => ?_, j.xs⟩, ⟨⟨Int.le_refl _, Int.le_refl _⟩, fun q q1 q2 => ⟨hso q q1 q2, rfl, Int.le_refl _⟩, fun i i1 i2 => ?_, fun i i1 i2 i3 i4 i5 => ?_⟩⟩
  · have x := j.sl i i1 i2
    have gp := (j.g.m i i1 i2).2
    show ((_ ∨ _) → 0 ≤ Jvm.Pilot.@@N@@.apN N m 13026 i ∧ Jvm.Pilot.@@N@@.apN N m 13018 (60 * N 13021 i + Jvm.Pilot.@@N@@.apN N m 13026 i) = i) ∧ _
    rw [st, os, lg]
    by_cases e : i = m
    · subst e
      simp only [eq_self, if_true, if_false, ↓reduceIte]
      exact ⟨fun _ => ⟨eb.1, trivial⟩, fun h => by omega⟩
    · rw [if_neg e, if_neg e]
      refine ⟨fun h => ?_, x.2⟩
      have x1 := x.1 h
      refine ⟨x1.1, ?_⟩
      rw [if_neg]
      · exact x1.2
      · intro z
        have e1 : N 13021 i = N 13021 m := by have := gp.2.2.2.2.1; omega
        have e2 : N 13026 i = eol N (N 13021 m) := by omega
        have := nofl _ (Int.le_refl _) he
        rw [← e2, ← e1, x1.2] at this
        omega
  · have q2' : q < (N 12000 11) := q2
    rw [lg]
    intro c
    have tk : ∀ i, 0 ≤ i → i < (N 12000 19) → N 13027 i ≤ (N 12000 1) := fun i i1 i2 => (j.g.m i i1 i2).2.2.2.2.2.2.1.2
    by_cases e : 60 * q + k = 60 * N 13021 m + eol N (N 13021 m)
    · have e2 : q = N 13021 m := by omega
      have e3 : k = eol N (N 13021 m) := by omega
      rw [if_pos e, tc, if_pos rfl]
      refine ⟨s8.1, fun i i1 i3 i4 => ?_⟩
      rw [lg, if_neg (by omega)] at i4 ⊢
      have lr := j.g.l q i q1 q2' i1 (by omega)
      rw [tc, if_neg (ot q i q1 q2' i1 (by omega) i4)]
      exact tk _ i4 lr.2
    · rw [if_neg e] at c ⊢
      have x := j.tk q k q1 q2' k1 k2 c
      have kl : k < eol N q := (j.fl q k q1 q2' k1 k2).mpr c
      rw [tc, if_neg (ot q k q1 q2' k1 k2 c)]
      refine ⟨x.1, fun i i1 i3 i4 => ?_⟩
      have ne : ¬ 60 * q + i = 60 * N 13021 m + eol N (N 13021 m) := fun z => by
        have e2 : q = N 13021 m := by omega
        rw [← e2] at z
        omega
      rw [lg, if_neg ne] at i4 ⊢
      rw [tc, if_neg (ot q i q1 q2' i1 (by omega) i4)]
      exact x.2 i i1 i3 i4
  · have q2' : q < (N 12000 11) := q2
    show 0 ≤ Jvm.Pilot.@@N@@.apN N m 13018 (60 * q + i) → 0 ≤ Jvm.Pilot.@@N@@.apN N m 13018 (60 * q + k) → N 13020 (Jvm.Pilot.@@N@@.apN N m 13018 (60 * q + i)) = N 13020 (Jvm.Pilot.@@N@@.apN N m 13018 (60 * q + k)) → ndl N (Jvm.Pilot.@@N@@.apN N m 13018 (60 * q + i)) → ndl N (Jvm.Pilot.@@N@@.apN N m 13018 (60 * q + k)) → Jvm.Pilot.@@N@@.apN N m 13018 (60 * q + i) < Jvm.Pilot.@@N@@.apN N m 13018 (60 * q + k)
    rw [lg, lg]
    by_cases e : 60 * q + k = 60 * N 13021 m + eol N (N 13021 m)
    · have e2 : q = N 13021 m := by omega
      rw [if_pos e, if_neg (by omega)]
      intro z1 _ z3 z4 z5
      rw [e2] at z1 z3 z4 ⊢
      exact (hN z5).1 i i1 (by omega) z1 z3 z4
    · by_cases e3 : 60 * q + i = 60 * N 13021 m + eol N (N 13021 m)
      · have e2 : q = N 13021 m := by omega
        have e4 : i = eol N (N 13021 m) := by omega
        rw [if_neg e]
        intro _ z2
        have := nofl k (by omega) k1
        rw [← e2] at this
        omega
      · rw [if_neg e, if_neg e3]
        exact j.n1 q i k q1 q2' i1 i2 k1
  · show Jvm.Pilot.@@N@@.apN N m 13024 c = 2 → N 13025 c = 0 → N 13028 c = 0 → 0 ≤ k → k < 60 → 0 ≤ Jvm.Pilot.@@N@@.apN N m 13018 (60 * N 13021 c + k) → N 13020 (Jvm.Pilot.@@N@@.apN N m 13018 (60 * N 13021 c + k)) = N 13020 c → ndl N (Jvm.Pilot.@@N@@.apN N m 13018 (60 * N 13021 c + k)) → Jvm.Pilot.@@N@@.apN N m 13018 (60 * N 13021 c + k) < c
    rw [st, lg]
    intro z1 z2 z3 z4 z5
    have nm : c ≠ m := fun z => by rw [if_pos z] at z1; omega
    rw [if_neg nm] at z1
    by_cases e : 60 * N 13021 c + k = 60 * N 13021 m + eol N (N 13021 m)
    · have e2 : N 13021 c = N 13021 m := by omega
      rw [if_pos e]
      intro _ y2 y3
      exact (hN y3).2 c c1 c2 nm z1 z2 z3 y2.symm e2
    · rw [if_neg e]
      exact j.n2 c k c1 c2 z1 z2 z3 z4 z5
  · have x := j.ms i i1 i2
    have gp := (j.g.m i i1 i2).2.1
    have y1 := hso _ gp.1 gp.2
    have y2 := hh _ gp.1 gp.2
    show (N 13025 i = 2 → (Jvm.Pilot.@@N@@.apN N m 13024 i = 1 ∨ Jvm.Pilot.@@N@@.apN N m 13024 i = 3) ∧ Jvm.Pilot.@@N@@.apN N m 13026 i < hw (Jvm.Pilot.@@N@@.apN N m) (N 13021 i)) ∧ (Jvm.Pilot.@@N@@.apN N m 13024 i = 3 → Jvm.Pilot.@@N@@.apN N m 13026 i < so (Jvm.Pilot.@@N@@.apN N m) (N 13021 i)) ∧ (N 13025 i = 0 ↔ N 13029 i = -1) ∧ (N 13025 i = 1 → Jvm.Pilot.@@N@@.apN N m 13024 i = 1) ∧ (Jvm.Pilot.@@N@@.apN N m 13024 i = 0 → 1 ≤ N 13028 i ∧ N 13025 i = 0)
    rw [st, os]
    by_cases e : i = m
    · subst e
      simp only [eq_self, if_true, if_false, ↓reduceIte]
      exact ⟨fun h => by have := (x.1 h).1; omega, fun h => by omega, x.2.2.1, fun _ => trivial, fun h => by omega⟩
    · rw [if_neg e, if_neg e]
      exact ⟨fun h => ⟨(x.1 h).1, by have := (x.1 h).2; omega⟩, fun h => by have := x.2.1 h; omega, x.2.2⟩
  · show (N 13021 i = N 13021 i ∧ N 13022 i = N 13022 i) ∧ (N 13024 i = 3 → Jvm.Pilot.@@N@@.apN N m 13024 i = 3 ∧ Jvm.Pilot.@@N@@.apN N m 13026 i = N 13026 i) ∧ (canR N i → Jvm.Pilot.@@N@@.apN N m 13026 i = N 13026 i ∧ (Jvm.Pilot.@@N@@.apN N m 13024 i = 3 ∨ (Jvm.Pilot.@@N@@.apN N m 13024 i = 1 ∧ N 13025 i = N 13025 i)))
    rw [st, os]
    by_cases e : i = m
    · subst e
      exact ⟨⟨rfl, rfl⟩, fun h => by omega, fun h => by have := h.1; omega⟩
    · rw [if_neg e, if_neg e]
      exact ⟨⟨rfl, rfl⟩, fun h => ⟨h, rfl⟩, fun h => ⟨rfl, Or.inr ⟨h.1, rfl⟩⟩⟩
  · have z1 : Jvm.Pilot.@@N@@.apN N m 13024 i = 1 := i4.1
    have z2 : N 13025 i = 0 ∨ N 13025 i = 2 := i4.2.2
    have z3 : Jvm.Pilot.@@N@@.apN N m 13026 i < so N (N 13021 i) := i5
    rw [st] at z1
    rw [os] at z3
    by_cases e : i = m
    · subst e
      rw [if_pos rfl] at z3
      have := so_b j.g.e a2.1 a2.2
      have := hw_eol j.g j.li a2.1 a2.2
      omega
    · rw [if_neg e] at z1 z3
      exact ⟨i2, z1, z3, z2⟩
theorem JN.apFs {l : List Int} : ∀ {N : Nd}, JN N → l.Nodup → (∀ m ∈ l, 0 ≤ m ∧ m < (N 12000 19) ∧ N 13024 m = 0) → JN (l.foldl apF N) ∧ Mo N (l.foldl apF N) := by
  induction l with
  | nil => intro N j _ _; exact ⟨j, Mo.rf⟩
  | cons m l ih =>
    intro N j hn h
    obtain ⟨m1, m2, m3⟩ := h m List.mem_cons_self
    obtain ⟨n1, n2⟩ := List.nodup_cons.mp hn
    have wd := j.wd m m1 m2 m3
    have k : JN (apF N m) ∧ Mo N (apF N m) := by
      unfold apF
      split
      · rename_i c
        exact j.apN m1 m2 c.2.1.1 c.2.1.2 (Or.inl m3) (fun z => by have := z.1; omega)
      · exact ⟨j, Mo.rf⟩
    have i := ih (N := apF N m) k.1 n2 fun x hx => by
      obtain ⟨x1, x2, x3⟩ := h x (List.mem_cons_of_mem _ hx)
      refine ⟨x1, by rw [show apF N m 12000 = N 12000 from apF_ar (by decide)]; exact x2, ?_⟩
      rw [apF_st, if_neg (fun z => n1 (by rw [← z.2]; exact hx))]
      exact x3
    exact ⟨i.1, k.2.tr j.g i.2 i.1.g⟩
