/-! PURE PART, 63: a new message -/
theorem su_ge {g : Int → Int} {i0 : Int} : ∀ {n : Nat}, (∀ i, i0 ≤ i → i < i0 + n → 0 ≤ g i) → ∀ k, i0 ≤ k → k < i0 + n → g k ≤ su g i0 n
  | 0, _, k, k1, k2 => by omega
  | n + 1, h, k, k1, k2 => by
    have e : su g i0 (n + 1) = su g i0 n + g (i0 + n) := su_S
    rw [e]
    have hn := h (i0 + n) (by omega) (by omega)
    by_cases z : k = i0 + n
    · have : ∀ m : Nat, m ≤ n → 0 ≤ su g i0 m := by
        intro m
        induction m with
        | zero => intro _; exact Int.le_refl _
        | succ m ih =>
          intro hm
          have e2 : su g i0 (m + 1) = su g i0 m + g (i0 + m) := su_S
          have := ih (by omega)
          have := h (i0 + m) (by omega) (by omega)
          omega
      have := this n (Nat.le_refl _)
      rw [z]; omega
    · have := su_ge (n := n) (fun i a b => h i a (by omega)) k k1 (by omega)
      omega
theorem cuts_0 {N : Nd} {x p : Int} (h : cuts N x p = 0) : ∀ c, 0 ≤ c → c < (N 12000 19) → ¬ pcut N x p c := fun c c1 c2 hc => by
  unfold cuts at h
  have := su_ge (g := fun m => if pcut N x p m then 1 else 0) (i0 := 0) (n := ((N 12000 19)).toNat) (fun i _ _ => by split <;> omega) c c1 (by omega)
  rw [if_pos hc, h] at this
  omega
def nwN (N : Nd) (x p k v s d : Int) : Nd := up (up (up (up (up (up (up (up (up (up (up N 13020 ((N 12000 19)) x) 13021 ((N 12000 19)) p) 13022 ((N 12000 19)) k) 13023 ((N 12000 19)) v) 13024 ((N 12000 19)) s) 13025 ((N 12000 19)) 0) 13026 ((N 12000 19)) (-1)) 13027 ((N 12000 19)) (-1)) 13029 ((N 12000 19)) (-1)) 13028 ((N 12000 19)) d) 12000 19 ((N 12000 19) + 1)
theorem nwN_sc {N : Nd} {x p k v s d j : Int} : nwN N x p k v s d 12000 j = if j = 19 then (N 12000 19) + 1 else N 12000 j := by
  unfold nwN; simp only [up_s, up_s, true_and, false_and, and_true, and_false, if_true, if_false, ↓reduceIte, ↓Option.bind_some, Int.reduceEq, Int.reduceNe, Int.reduceLT, Int.reduceLE, gd_true, gd_false, bind_b, q10, eq_self, reduceCtorEq, not_true_eq_false, not_false_eq_true, ne_eq]
section NWN
variable {N : Nd} {x p k v s d i : Int}
theorem nw_pr : nwN N x p k v s d 13020 i = if i = (N 12000 19) then x else N 13020 i := by unfold nwN; simp only [up_s, up_s, true_and, false_and, and_true, and_false, if_true, if_false, ↓reduceIte, ↓Option.bind_some, Int.reduceEq, Int.reduceNe, Int.reduceLT, Int.reduceLE, gd_true, gd_false, bind_b, q10, eq_self, reduceCtorEq, not_true_eq_false, not_false_eq_true, ne_eq]
theorem nw_pa : nwN N x p k v s d 13021 i = if i = (N 12000 19) then p else N 13021 i := by unfold nwN; simp only [up_s, up_s, true_and, false_and, and_true, and_false, if_true, if_false, ↓reduceIte, ↓Option.bind_some, Int.reduceEq, Int.reduceNe, Int.reduceLT, Int.reduceLE, gd_true, gd_false, bind_b, q10, eq_self, reduceCtorEq, not_true_eq_false, not_false_eq_true, ne_eq]
theorem nw_ke : nwN N x p k v s d 13022 i = if i = (N 12000 19) then k else N 13022 i := by unfold nwN; simp only [up_s, up_s, true_and, false_and, and_true, and_false, if_true, if_false, ↓reduceIte, ↓Option.bind_some, Int.reduceEq, Int.reduceNe, Int.reduceLT, Int.reduceLE, gd_true, gd_false, bind_b, q10, eq_self, reduceCtorEq, not_true_eq_false, not_false_eq_true, ne_eq]
theorem nw_va : nwN N x p k v s d 13023 i = if i = (N 12000 19) then v else N 13023 i := by unfold nwN; simp only [up_s, up_s, true_and, false_and, and_true, and_false, if_true, if_false, ↓reduceIte, ↓Option.bind_some, Int.reduceEq, Int.reduceNe, Int.reduceLT, Int.reduceLE, gd_true, gd_false, bind_b, q10, eq_self, reduceCtorEq, not_true_eq_false, not_false_eq_true, ne_eq]
theorem nw_st : nwN N x p k v s d 13024 i = if i = (N 12000 19) then s else N 13024 i := by unfold nwN; simp only [up_s, up_s, true_and, false_and, and_true, and_false, if_true, if_false, ↓reduceIte, ↓Option.bind_some, Int.reduceEq, Int.reduceNe, Int.reduceLT, Int.reduceLE, gd_true, gd_false, bind_b, q10, eq_self, reduceCtorEq, not_true_eq_false, not_false_eq_true, ne_eq]
theorem nw_of : nwN N x p k v s d 13025 i = if i = (N 12000 19) then 0 else N 13025 i := by unfold nwN; simp only [up_s, up_s, true_and, false_and, and_true, and_false, if_true, if_false, ↓reduceIte, ↓Option.bind_some, Int.reduceEq, Int.reduceNe, Int.reduceLT, Int.reduceLE, gd_true, gd_false, bind_b, q10, eq_self, reduceCtorEq, not_true_eq_false, not_false_eq_true, ne_eq]
theorem nw_os : nwN N x p k v s d 13026 i = if i = (N 12000 19) then -1 else N 13026 i := by unfold nwN; simp only [up_s, up_s, true_and, false_and, and_true, and_false, if_true, if_false, ↓reduceIte, ↓Option.bind_some, Int.reduceEq, Int.reduceNe, Int.reduceLT, Int.reduceLE, gd_true, gd_false, bind_b, q10, eq_self, reduceCtorEq, not_true_eq_false, not_false_eq_true, ne_eq]
theorem nw_ti : nwN N x p k v s d 13027 i = if i = (N 12000 19) then -1 else N 13027 i := by unfold nwN; simp only [up_s, up_s, true_and, false_and, and_true, and_false, if_true, if_false, ↓reduceIte, ↓Option.bind_some, Int.reduceEq, Int.reduceNe, Int.reduceLT, Int.reduceLE, gd_true, gd_false, bind_b, q10, eq_self, reduceCtorEq, not_true_eq_false, not_false_eq_true, ne_eq]
theorem nw_in : nwN N x p k v s d 13029 i = if i = (N 12000 19) then -1 else N 13029 i := by unfold nwN; simp only [up_s, up_s, true_and, false_and, and_true, and_false, if_true, if_false, ↓reduceIte, ↓Option.bind_some, Int.reduceEq, Int.reduceNe, Int.reduceLT, Int.reduceLE, gd_true, gd_false, bind_b, q10, eq_self, reduceCtorEq, not_true_eq_false, not_false_eq_true, ne_eq]
theorem nw_du : nwN N x p k v s d 13028 i = if i = (N 12000 19) then d else N 13028 i := by unfold nwN; simp only [up_s, up_s, true_and, false_and, and_true, and_false, if_true, if_false, ↓reduceIte, ↓Option.bind_some, Int.reduceEq, Int.reduceNe, Int.reduceLT, Int.reduceLE, gd_true, gd_false, bind_b, q10, eq_self, reduceCtorEq, not_true_eq_false, not_false_eq_true, ne_eq]
end NWN
theorem JN.new {N : Nd} {x p k v s d : Int} (j : JN N) (hm : (N 12000 19) < 150) (x1 : 0 ≤ x) (x2 : x < (N 12000 30)) (p1 : 0 ≤ p) (p2 : p < (N 12000 11)) (hv : -1 ≤ v ∧ v ≤ 999) (hs : (s = 0 ∧ 1 ≤ d) ∨ (s = 2 ∧ d = 0)) : JN (nwN N x p k v s d) ∧ Mo N (nwN N x p k v s d) := by
  have s5 := j.g.s.2.2.2.2.1
  have s8 := j.g.s.2.2.2.2.2.2.2.1
  have ll : ∀ q i, 0 ≤ q → q < (N 12000 11) → 0 ≤ i → i < 60 → N 13018 (60 * q + i) ≠ (N 12000 19) ∧ N 13018 (60 * q + i) < (N 12000 19) := fun q i q1 q2 i1 i2 => by
    have := j.g.l q i q1 q2 i1 i2
    omega
  have op : ∀ q i, 0 ≤ q → q < (N 12000 11) → 0 ≤ i → i < 60 → opn (nwN N x p k v s d) q i = opn N q i := fun q i q1 q2 i1 i2 => by
    unfold opn
    have e : nwN N x p k v s d 13018 (60 * q + i) = N 13018 (60 * q + i) := rfl
    rw [e, nw_of, if_neg (ll q i q1 q2 i1 i2).1]
  have hs' : ∀ q, hw (nwN N x p k v s d) q = hw N q := fun q => rfl
  have se : ∀ q, 0 ≤ q → q < (N 12000 11) → so (nwN N x p k v s d) q = so N q := fun q q1 q2 => by
    have hb := hw_b j.g.e q1 q2
    have a := so_mono2 (N := N) (N' := nwN N x p k v s d) (q := q) hb.1 (fun i i1 i2 => op q i q1 q2 i1 (by omega)) (Int.le_refl _)
    have b := so_mono2 (N' := N) (N := nwN N x p k v s d) (q := q) hb.1 (fun i i1 i2 => (op q i q1 q2 i1 (by rw [hs'] at i2; omega)).symm) (Int.le_refl _)
    omega
  have g' : RG (nwN N x p k v s d) := by
    obtain ⟨⟨a1, a2, a3, a4, a5, a6⟩, g2⟩ := j.g
    refine ⟨⟨a1, a2, a3, a4, ?_, a6⟩, g2.1, g2.2.1, g2.2.2.1, fun q i q1 q2 i1 i2 => ?_, fun m m1 m2 => ?_, g2.2.2.2.2.2⟩
    · show 0 ≤ (N 12000 19) + 1 ∧ (N 12000 19) + 1 ≤ 150
      omega
    · have := g2.2.2.2.1 q i q1 q2 i1 i2
      refine ⟨this.1, ?_⟩
      show N 13018 (60 * q + i) < (N 12000 19) + 1
      omega
    · have m3 : m < (N 12000 19) + 1 := m2
      rw [nw_pr, nw_pa, nw_va, nw_st, nw_of, nw_os, nw_ti, nw_in]
      have bg := j.g.s.2.2.2.2.2.2.2.2
      show (_ ∧ _ < (N 12000 30)) ∧ (_ ∧ _ < (N 12000 11)) ∧ _ ∧ _ ∧ _ ∧ _ ∧ (_ ∧ _ ≤ (N 12000 1)) ∧ _ ∧ _ < (N 12000 40)
      by_cases e : m = (N 12000 19)
      · simp only [e, if_true]
        omega
      · simp only [e, if_false]
        exact g2.2.2.2.2.1 m m1 (by omega)
  refine ⟨⟨⟨⟨g', j.li, fun q i q1 q2 i1 i2 hl => ?_, j.fl, fun q q1 q2 => ?_⟩, j.1.2⟩, ⟨fun m m1 m2 m3 => ?_, j.xu⟩, fun m m1 m2 => ?_, fun q i q1 q2 i1 i2 hl => ?_, fun q a b q1 q2 a1 a2 a3 hla hlb hpr hna hnb => ?_, fun c i c1 c2 hc1 hc2 hc3 i1 i2 hl hp hn => ?_, fun m m1 m2 => ?_, fun m y m1 m2 y1 y2 hy hmy => ?_⟩, ⟨⟨Int.le_refl _, ?_⟩, fun q q1 q2 => ⟨?_, rfl, Int.le_refl _⟩, fun m m1 m2 => ?_, fun m m1 m2 m3 m4 m5 => ?_⟩⟩
  · have z := ll q i q1 q2 i1 i2
    show nwN N x p k v s d 13021 (N 13018 (60 * q + i)) = q ∧ nwN N x p k v s d 13026 (N 13018 (60 * q + i)) = i ∧ (nwN N x p k v s d 13024 (N 13018 (60 * q + i)) = 1 ∨ nwN N x p k v s d 13024 (N 13018 (60 * q + i)) = 3)
    rw [nw_pa, nw_os, nw_st, if_neg z.1, if_neg z.1, if_neg z.1]
    exact j.lm q i q1 q2 i1 i2 hl
  · have z := j.fi q q1 q2
    refine ⟨fun hc i i1 i2 hl => ?_, z.2.1, ?_⟩
    · have y := ll q i q1 q2 i1 i2
      show i < N 13015 q ↔ nwN N x p k v s d 13024 (N 13018 (60 * q + i)) = 3
      rw [nw_st, if_neg y.1]
      exact z.1 hc i i1 i2 hl
    · rw [se q q1 q2]
      exact z.2.2
  · have m4 : m < (N 12000 19) + 1 := m2
    rw [nw_of] at m3
    by_cases e : m = (N 12000 19)
    · rw [if_pos e] at m3; omega
    · rw [if_neg e] at m3
      rw [nw_in, if_neg e, nw_pr, if_neg e]
      exact j.ot m m1 (by omega) m3
  · have m4 : m < (N 12000 19) + 1 := m2
    rw [nw_st, nw_os, nw_pa]
    by_cases e : m = (N 12000 19)
    · simp only [e, if_true]
      exact ⟨fun h => by omega, fun _ => trivial⟩
    · simp only [e, if_false]
      exact j.sl m m1 (by omega)
  · have z := ll q i q1 q2 i1 i2
    show 0 ≤ nwN N x p k v s d 13027 (N 13018 (60 * q + i)) ∧ ∀ b, 0 ≤ b → b < i → 0 ≤ N 13018 (60 * q + b) → nwN N x p k v s d 13027 (N 13018 (60 * q + b)) ≤ nwN N x p k v s d 13027 (N 13018 (60 * q + i))
    have y := j.tk q i q1 q2 i1 i2 hl
    rw [nw_ti, if_neg z.1]
    refine ⟨y.1, fun b b1 b2 b3 => ?_⟩
    rw [nw_ti, if_neg (ll q b q1 q2 b1 (by omega)).1]
    exact y.2 b b1 b2 b3
  · have za := (ll q a q1 q2 a1 (by omega)).1
    have zb := (ll q b q1 q2 (by omega) a3).1
    have hpr' : nwN N x p k v s d 13020 (N 13018 (60 * q + a)) = nwN N x p k v s d 13020 (N 13018 (60 * q + b)) := hpr
    have hna' : nwN N x p k v s d 13028 (N 13018 (60 * q + a)) = 0 ∧ nwN N x p k v s d 13025 (N 13018 (60 * q + a)) ≠ 3 := hna
    have hnb' : nwN N x p k v s d 13028 (N 13018 (60 * q + b)) = 0 ∧ nwN N x p k v s d 13025 (N 13018 (60 * q + b)) ≠ 3 := hnb
    rw [nw_pr, nw_pr, if_neg za, if_neg zb] at hpr'
    rw [nw_du, nw_of, if_neg za, if_neg za] at hna'
    rw [nw_du, nw_of, if_neg zb, if_neg zb] at hnb'
    exact j.n1 q a b q1 q2 a1 a2 a3 hla hlb hpr' hna' hnb'
  · have c3 : c < (N 12000 19) + 1 := c2
    rw [nw_pa] at hl hp hn ⊢
    by_cases e : c = (N 12000 19)
    · rw [if_pos e] at hl ⊢
      have := (ll p i p1 p2 i1 i2).2
      show N 13018 (60 * p + i) < c
      omega
    · rw [if_neg e] at hl hp hn ⊢
      have gp := (j.g.m c c1 (by omega)).2.1
      have z := (ll (N 13021 c) i gp.1 gp.2 i1 i2).1
      have hp' : nwN N x p k v s d 13020 (N 13018 (60 * N 13021 c + i)) = nwN N x p k v s d 13020 c := hp
      have hn' : nwN N x p k v s d 13028 (N 13018 (60 * N 13021 c + i)) = 0 ∧ nwN N x p k v s d 13025 (N 13018 (60 * N 13021 c + i)) ≠ 3 := hn
      rw [nw_pr, nw_pr, if_neg z, if_neg e] at hp'
      rw [nw_du, nw_of, if_neg z, if_neg z] at hn'
      rw [nw_st, if_neg e] at hc1
      rw [nw_of, if_neg e] at hc2
      rw [nw_du, if_neg e] at hc3
      exact j.n2 c i c1 (by omega) hc1 hc2 hc3 i1 i2 hl hp' hn'
  · have m4 : m < (N 12000 19) + 1 := m2
    rw [nw_of, nw_st, nw_os, nw_pa, nw_in, nw_du]
    by_cases e : m = (N 12000 19)
    · simp only [e, if_true]
      exact ⟨fun h => by omega, fun h => by omega, by simp, fun h => by omega, fun h => ⟨by omega, trivial⟩⟩
    · simp only [e, if_false]
      have gp := (j.g.m m m1 (by omega)).2.1
      rw [hs', se _ gp.1 gp.2]
      exact j.ms m m1 (by omega)
  · have m4 : m < (N 12000 19) + 1 := m2
    have hy' : 0 ≤ N 13033 y := hy
    have hmy' : nwN N x p k v s d 13029 m = N 13033 y := hmy
    rw [nw_in] at hmy'
    by_cases e : m = (N 12000 19)
    · rw [if_pos e] at hmy'; omega
    · rw [if_neg e] at hmy'
      rw [nw_pr, nw_of, if_neg e, if_neg e]
      exact j.xs m y m1 (by omega) y1 y2 hy hmy'
  · show (N 12000 19) ≤ (N 12000 19) + 1
    omega
  · rw [se q q1 q2]
    exact Int.le_refl _
  · have e : m ≠ (N 12000 19) := by omega
    have gp := (j.g.m m m1 m2).2.1
    rw [nw_pa, nw_ke, nw_st, nw_os, nw_of, if_neg e, if_neg e, if_neg e, if_neg e, if_neg e]
    exact ⟨⟨rfl, rfl⟩, fun h => ⟨h, rfl⟩, fun h => ⟨rfl, Or.inr ⟨h.1, rfl⟩⟩⟩
  · have m6 : m < (N 12000 19) + 1 := m2
    have z1 : nwN N x p k v s d 13024 m = 1 := m4.1
    rw [nw_st] at z1
    by_cases e : m = (N 12000 19)
    · rw [if_pos e] at z1; omega
    · rw [if_neg e] at z1
      have z2 := m4.2.2
      rw [nw_of, if_neg e] at z2
      rw [nw_os, nw_pa, if_neg e, if_neg e] at m5
      exact ⟨by omega, z1, m5, z2⟩
/-- a message at the end of a log becomes OPEN -/
def oiN (N : Nd) (m t : Int) : Nd := up (up N 13025 m 1) 13029 m t
theorem JN.opn {N0 N : Nd} {m t x p : Int} (j0 : JN N0) (j : JN N) (mo : Mo N0 N) (m1 : 0 ≤ m) (m2 : m < (N 12000 19)) (hm : (N0 12000 19) ≤ m) (x1 : 0 ≤ x) (x2 : x < (N 12000 30)) (hx : N 13020 m = x) (hp : N 13021 m = p) (p2 : p < (N0 12000 11)) (ht : N 13033 x = t) (t0 : 0 ≤ t) (st : N 13024 m = 1) (of : N 13025 m = 0) (ho : N 13026 m = eol N0 p)
    (olg : ∀ q i, 0 ≤ q → q < (N0 12000 11) → 0 ≤ i → i < 60 → ¬ (q = p ∧ i = eol N0 p) → N 13018 (60 * q + i) = N0 13018 (60 * q + i)) (oof : ∀ i, 0 ≤ i → i < (N0 12000 19) → N 13025 i = N0 13025 i ∧ N 13024 i = N0 13024 i ∧ N 13026 i = N0 13026 i ∧ N 13021 i = N0 13021 i) (om : (N 12000 19) = m + 1) (o0 : (N0 12000 19) = m) (opa : (N 12000 11) = (N0 12000 11)) (ofi : N 13015 = N0 13015) (hwl : ∀ q, 0 ≤ q → q < (N0 12000 11) → hw N0 q ≤ hw N q) : JN (oiN N m t) ∧ Mo N0 (oiN N m t) := by
  have a2 := (j.g.m m m1 m2).2.1
  rw [hp] at a2
  have ofx : ∀ i, oiN N m t 13025 i = if i = m then 1 else N 13025 i := fun i => by unfold oiN; simp only [up_s, up_s, true_and, false_and, and_true, and_false, if_true, if_false, ↓reduceIte, ↓Option.bind_some, Int.reduceEq, Int.reduceNe, Int.reduceLT, Int.reduceLE, gd_true, gd_false, bind_b, q10, eq_self, reduceCtorEq, not_true_eq_false, not_false_eq_true, ne_eq]
  have inx : ∀ i, oiN N m t 13029 i = if i = m then t else N 13029 i := fun i => by unfold oiN; simp only [up_s, up_s, true_and, false_and, and_true, and_false, if_true, if_false, ↓reduceIte, ↓Option.bind_some, Int.reduceEq, Int.reduceNe, Int.reduceLT, Int.reduceLE, gd_true, gd_false, bind_b, q10, eq_self, reduceCtorEq, not_true_eq_false, not_false_eq_true, ne_eq]
  have ho' : 0 ≤ eol N0 p ∧ eol N0 p < 60 := by
    have := (j.sl m m1 m2).1 (Or.inl st)
    have := (j.g.m m m1 m2).2.2.2.2.2.1
    omega
  have hm0 : ∀ q, 0 ≤ q → q < (N0 12000 11) → so N0 q ≤ so (oiN N m t) q := fun q q1 q2 => by
    have hb := hw_b j0.g.e q1 q2
    have he := hw_eol j0.g j0.li q1 q2
    refine so_mono3 hb.1 (fun i i1 i2 hoi => ?_) (hwl q q1 q2)
    have lb := j0.g.l q i q1 q2 i1 (by omega)
    unfold Jvm.Pilot.@@N@@.opn at hoi ⊢
    have hoi' := of_decide_eq_true hoi
    have z1 : 0 ≤ N 13018 (60 * q + i) := hoi'.1
    have z2 : oiN N m t 13025 (N 13018 (60 * q + i)) = 1 := hoi'.2
    rw [olg q i q1 q2 i1 (by omega) (fun z => by rw [z.1] at i2 he; omega)] at z1 z2
    rw [ofx, if_neg (by omega)] at z2
    exact decide_eq_true ⟨z1, by rw [← (oof _ z1 lb.2).1]; exact z2⟩
  have nd : ∀ l, ndl (oiN N m t) l → ndl N l := fun l h => by
    obtain ⟨z1, z2⟩ := h
    refine ⟨z1, ?_⟩
    rw [ofx] at z2
    by_cases e : l = m
    · rw [e, of]; omega
    · rw [if_neg e] at z2; exact z2
  have g' : RG (oiN N m t) := by
    refine ⟨j.g.1, j.g.2.1, j.g.2.2.1, j.g.2.2.2.1, j.g.2.2.2.2.1, fun i i1 i2 => ?_, j.g.2.2.2.2.2.2⟩
    obtain ⟨b1, b2, b3, b4, b5, b6, b7, b8⟩ := j.g.m i i1 i2
    have gx := (j.g.x x x1 x2).2.2.1
    refine ⟨b1, b2, b3, b4, ?_, b6, b7, ?_⟩
    · rw [ofx]
      split
      · omega
      · exact b5
    · rw [inx]
      show _ ∧ _ < (N 12000 40)
      split
      · omega
      · exact b8
  refine ⟨⟨⟨⟨g', j.li, j.lm, j.fl, fun q q1 q2 => ?_⟩, j.1.2⟩, ⟨fun i i1 i2 i3 => ?_, j.xu⟩, j.sl, j.tk, fun q a b q1 q2 a1 a2 a3 hla hlb hpr hna hnb => ?_, fun c i c1 c2 hc1 hc2 hc3 i1 i2 hl hpp hn => ?_, fun i i1 i2 => ?_, fun i y i1 i2 y1 y2 hy hmy => ?_⟩, ⟨⟨by show (N0 12000 11) ≤ (N 12000 11); omega, by show (N0 12000 19) ≤ (N 12000 19); omega⟩, fun q q1 q2 => ⟨hm0 q q1 q2, (mo.2.1 q q1 q2).2.1, (mo.2.1 q q1 q2).2.2⟩, fun i i1 i2 => ?_, fun i i1 i2 i3 i4 i5 => ?_⟩⟩
  · have q3 : q < (N 12000 11) := q2
    have z := j.fi q q1 q3
    have z0 := (j0.fi q q1 (by omega)).2.2
    have y := hm0 q q1 (by omega)
    refine ⟨z.1, z.2.1, ?_⟩
    show N 13015 q ≤ _
    rw [ofi]
    omega
  · rw [ofx] at i3
    rw [inx]
    show _ ∧ N 13033 (N 13020 i) = _
    by_cases e : i = m
    · rw [if_pos e, e, hx]
      exact ⟨t0, ht⟩
    · rw [if_neg e] at i3
      rw [if_neg e]
      exact j.ot i i1 i2 i3
  · exact j.n1 q a b q1 q2 a1 a2 a3 hla hlb hpr (nd _ hna) (nd _ hnb)
  · have e : c ≠ m := fun z => by
      have hc1' : N 13024 c = 2 := hc1
      rw [z] at hc1'
      omega
    rw [ofx, if_neg e] at hc2
    exact j.n2 c i c1 c2 hc1 hc2 hc3 i1 i2 hl hpp (nd _ hn)
  · have q := j.ms i i1 i2
    rw [ofx, inx]
    by_cases e : i = m
    · subst e
      simp only [if_true]
      refine ⟨fun h => by omega, fun h => ?_, by omega, fun _ => st, fun h => ?_⟩
      · have h' : N 13024 i = 3 := h
        omega
      · have h' : N 13024 i = 0 := h
        omega
    · simp only [e, if_false]
      have o := oof i i1 (by have i2' : i < (N 12000 19) := i2; omega)
      have gp := (j0.g.m i i1 (by have i2' : i < (N 12000 19) := i2; omega)).2.1
      refine ⟨q.1, fun h => ?_, q.2.2.1, q.2.2.2.1, q.2.2.2.2⟩
      have h' : N 13024 i = 3 := h
      have z := (j0.ms i i1 (by have i2' : i < (N 12000 19) := i2; omega)).2.1 (by rw [← o.2.1]; exact h')
      have y := hm0 _ gp.1 gp.2
      show N 13026 i < so (oiN N m t) (N 13021 i)
      rw [o.2.2.1, o.2.2.2]
      omega
  · have hy' : 0 ≤ N 13033 y := hy
    have hmy' : oiN N m t 13029 i = N 13033 y := hmy
    rw [inx] at hmy'
    rw [ofx]
    show N 13020 i = y ∧ _ ∧ (N 14034 y = 0 → _)
    by_cases e : i = m
    · rw [if_pos e] at hmy'
      have := j.xu x y x1 x2 y1 y2 (by omega) (by omega)
      rw [if_pos e, e, hx]
      exact ⟨this, by omega, fun _ => rfl⟩
    · rw [if_neg e] at hmy'
      rw [if_neg e]
      exact j.xs i y i1 i2 y1 y2 hy' hmy'
  · have z := mo.2.2.1 i i1 i2
    have e : i ≠ m := by omega
    rw [ofx, if_neg e]
    exact z
  · have z2 := i4.2.2
    have z1 : N 13024 i = 1 := i4.1
    have i6 : i < (N 12000 19) := i2
    rw [ofx] at z2
    have e : i ≠ m := fun h => by rw [if_pos h] at z2; omega
    rw [if_neg e] at z2
    have o := oof i i1 (by omega)
    refine ⟨by omega, ?_, ?_, ?_⟩
    · rw [← o.2.1]; exact z1
    · rw [← o.2.2.1, ← o.2.2.2]; exact i5
    · rw [← o.1]; exact z2
/-- what both sides make of a message sent at once -/
def n1N (N : Nd) (x p k v : Int) : Nd := up (up (nwN N x p k v 0 0) 13025 ((N 12000 19)) (if N 13033 x < 0 then 0 else 1)) 13029 ((N 12000 19)) (N 13033 x)
def snN (N : Nd) (x p k v : Int) : Nd := up (apN (n1N N x p k v) ((N 12000 19))) 13032 x (N 13032 x + 1)
theorem ap_st {N : Nd} {m s : Int} : apN (up N 13024 m s) m = apN N m := by
  unfold apN
  show up (up (up (up (up (up N 13024 m s) 13018 (60 * N 13021 m + eol N (N 13021 m)) m) 13024 m 1) 13026 m (eol N (N 13021 m))) 13027 m ((N 12000 1))) 13016 (3 * N 13021 m + N 13013 (N 13021 m)) (eol N (N 13021 m) + 1) = _
  have e : up (up (up N 13024 m s) 13018 (60 * N 13021 m + eol N (N 13021 m)) m) 13024 m 1 = up (up N 13018 (60 * N 13021 m + eol N (N 13021 m)) m) 13024 m 1 := by
    funext a k
    simp only [up_s]
    by_cases h : a = 13024 ∧ k = m
    · rw [if_pos h, if_pos h]
    · rw [if_neg h, if_neg h]
      by_cases h2 : a = 13018 ∧ k = 60 * N 13021 m + eol N (N 13021 m)
      · simp only [if_pos h2, if_neg h]
      · simp only [if_neg h2, if_neg h]
  rw [e]
theorem ap_oi {N : Nd} {m u t : Int} : apN (up (up N 13025 m u) 13029 m t) m = up (up (apN N m) 13025 m u) 13029 m t := by
  unfold apN
  show up (up (up (up (up (up (up N 13025 m u) 13029 m t) 13018 (60 * N 13021 m + eol N (N 13021 m)) m) 13024 m 1) 13026 m (eol N (N 13021 m))) 13027 m ((N 12000 1))) 13016 (3 * N 13021 m + N 13013 (N 13021 m)) (eol N (N 13021 m) + 1) = _
  rw [up_comm (a := 13029) (b := 13018) (by decide), up_comm (a := 13029) (b := 13024) (by decide), up_comm (a := 13029) (b := 13026) (by decide), up_comm (a := 13029) (b := 13027) (by decide), up_comm (a := 13029) (b := 13016) (by decide)]
  rw [up_comm (a := 13025) (b := 13018) (by decide), up_comm (a := 13025) (b := 13024) (by decide), up_comm (a := 13025) (b := 13026) (by decide), up_comm (a := 13025) (b := 13027) (by decide), up_comm (a := 13025) (b := 13016) (by decide)]
theorem ap_se {N : Nd} {m x u : Int} : apN (up N 13032 x u) m = up (apN N m) 13032 x u := by
  unfold apN
  show up (up (up (up (up (up N 13032 x u) 13018 (60 * N 13021 m + eol N (N 13021 m)) m) 13024 m 1) 13026 m (eol N (N 13021 m))) 13027 m ((N 12000 1))) 13016 (3 * N 13021 m + N 13013 (N 13021 m)) (eol N (N 13021 m) + 1) = _
  rw [up_comm (a := 13032) (b := 13018) (by decide), up_comm (a := 13032) (b := 13024) (by decide), up_comm (a := 13032) (b := 13026) (by decide), up_comm (a := 13032) (b := 13027) (by decide), up_comm (a := 13032) (b := 13016) (by decide)]
/-- as a message CUT and sent again, that is then OPEN -/
theorem n1_eq {N : Nd} {x p k v : Int} : apN (n1N N x p k v) ((N 12000 19)) = if N 13033 x < 0 then up (apN (nwN N x p k v 2 0) ((N 12000 19))) 13029 ((N 12000 19)) (N 13033 x) else oiN (apN (nwN N x p k v 2 0) ((N 12000 19))) ((N 12000 19)) (N 13033 x) := by
  have e : nwN N x p k v 0 0 = up (nwN N x p k v 2 0) 13024 ((N 12000 19)) 0 := by
    funext a i
    unfold nwN
    simp only [up_s]
    by_cases h1 : a = 13024
    · subst h1
      simp only [Int.reduceEq, false_and, if_false, true_and]
      by_cases h2 : i = (N 12000 19)
      · rw [if_pos h2, if_pos h2]
      · rw [if_neg h2, if_neg h2, if_neg h2]
    · have h2 : ¬ (a = 13024 ∧ i = (N 12000 19)) := fun z => h1 z.1
      rw [if_neg h2, if_neg h2, if_neg h2]
  unfold n1N
  rw [ap_oi, e, ap_st]
  by_cases h : N 13033 x < 0
  · rw [if_pos h, if_pos h]
    congr 1
    have q := @up_same (apN (nwN N x p k v 2 0) ((N 12000 19))) 13025 ((N 12000 19))
    have q2 : apN (nwN N x p k v 2 0) ((N 12000 19)) 13025 ((N 12000 19)) = 0 := by
      show nwN N x p k v 2 0 13025 ((N 12000 19)) = 0
      rw [nw_of, if_pos rfl]
    rw [q2] at q
    exact q
  · rw [if_neg h, if_neg h]
    rfl
theorem JN.snN {N : Nd} {x p k v : Int} (j : JN N) (hm : (N 12000 19) < 150) (x1 : 0 ≤ x) (x2 : x < (N 12000 30)) (p1 : 0 ≤ p) (p2 : p < (N 12000 11)) (hv : -1 ≤ v ∧ v ≤ 999) (hl : 0 ≤ N 13013 p) (he : eol N p < 60) (hc : cuts N x p = 0) (hs : N 13032 x < 20) : JN (snN N x p k v) ∧ Mo N (snN N x p k v) := by
  have s5 := j.g.s.2.2.2.2.1
  have gx := (j.g.x x x1 x2)
  obtain ⟨j1, o1⟩ := j.new (k := k) hm x1 x2 p1 p2 hv (Or.inr ⟨rfl, rfl⟩)
  have pm : nwN N x p k v 2 0 13021 ((N 12000 19)) = p := by rw [nw_pa, if_pos rfl]
  have em : eol (nwN N x p k v 2 0) p = eol N p := rfl
  have mlt : (N 12000 19) < nwN N x p k v 2 0 12000 19 := by rw [nwN_sc, if_pos rfl]; omega
  have sm : nwN N x p k v 2 0 13024 ((N 12000 19)) = 2 := by rw [nw_st, if_pos rfl]
  obtain ⟨j2, o2⟩ := j1.apN (m := (N 12000 19)) s5.1 mlt (by rw [pm]; exact hl) (by rw [pm, em]; exact he) (Or.inr sm) (fun _ => by
    rw [pm, nw_pr, if_pos rfl]
    refine ⟨fun i i1 i2 h _ _ => (j.g.l p i p1 p2 i1 i2).2, fun c c1 c2 c3 c4 c5 _ c6 c7 => ?_⟩
    exfalso
    rw [nwN_sc, if_pos rfl] at c2
    rw [nw_st, if_neg c3] at c4
    rw [nw_of, if_neg c3] at c5
    rw [nw_pr, if_neg c3] at c6
    rw [nw_pa, if_neg c3] at c7
    have z := cuts_0 hc c c1 (by omega)
    exact z ⟨c4, c5, c6, c7⟩)
  have o3 := o1.tr j.g o2 j2.g
  have fin : JN (Jvm.Pilot.@@N@@.apN (n1N N x p k v) ((N 12000 19))) ∧ Mo N (Jvm.Pilot.@@N@@.apN (n1N N x p k v) ((N 12000 19))) := by
    rw [n1_eq]
    by_cases h : N 13033 x < 0
    · rw [if_pos h]
      have e : up (Jvm.Pilot.@@N@@.apN (nwN N x p k v 2 0) ((N 12000 19))) 13029 ((N 12000 19)) (N 13033 x) = Jvm.Pilot.@@N@@.apN (nwN N x p k v 2 0) ((N 12000 19)) := by
        have q := @up_same (Jvm.Pilot.@@N@@.apN (nwN N x p k v 2 0) ((N 12000 19))) 13029 ((N 12000 19))
        have q2 : Jvm.Pilot.@@N@@.apN (nwN N x p k v 2 0) ((N 12000 19)) 13029 ((N 12000 19)) = N 13033 x := by
          show nwN N x p k v 2 0 13029 ((N 12000 19)) = _
          rw [nw_in, if_pos rfl]
          omega
        rw [q2] at q
        exact q
      rw [e]
      exact ⟨j2, o3⟩
    · rw [if_neg h]
      have pe : nwN N x p k v 2 0 13013 (nwN N x p k v 2 0 13021 ((N 12000 19))) = N 13013 p := by rw [pm]; rfl
      have lgx : ∀ i, Jvm.Pilot.@@N@@.apN (nwN N x p k v 2 0) ((N 12000 19)) 13018 i = if i = 60 * p + eol N p then (N 12000 19) else N 13018 i := fun i => by
        unfold Jvm.Pilot.@@N@@.apN
        simp only [up_s, up_s, true_and, false_and, and_true, and_false, if_true, if_false, ↓reduceIte, ↓Option.bind_some, Int.reduceEq, Int.reduceNe, Int.reduceLT, Int.reduceLE, gd_true, gd_false, bind_b, q10, eq_self, reduceCtorEq, not_true_eq_false, not_false_eq_true, ne_eq]
        rw [pm, em]
        rfl
      refine JN.opn (p := p) j j2 o3 s5.1 mlt (Int.le_refl _) x1 x2 ?_ ?_ p2 rfl (by omega) ?_ ?_ ?_ (fun q i q1 q2 i1 i2 hn => ?_) (fun i i1 i2 => ?_) ?_ rfl rfl rfl (fun q q1 q2 => ?_)
      · show nwN N x p k v 2 0 13020 ((N 12000 19)) = x
        rw [nw_pr, if_pos rfl]
      · show nwN N x p k v 2 0 13021 ((N 12000 19)) = p
        exact pm
      · unfold Jvm.Pilot.@@N@@.apN; simp only [up_s, up_s, true_and, false_and, and_true, and_false, if_true, if_false, ↓reduceIte, ↓Option.bind_some, Int.reduceEq, Int.reduceNe, Int.reduceLT, Int.reduceLE, gd_true, gd_false, bind_b, q10, eq_self, reduceCtorEq, not_true_eq_false, not_false_eq_true, ne_eq]
      · show nwN N x p k v 2 0 13025 ((N 12000 19)) = 0
        rw [nw_of, if_pos rfl]
      · unfold Jvm.Pilot.@@N@@.apN; simp only [up_s, up_s, true_and, false_and, and_true, and_false, if_true, if_false, ↓reduceIte, ↓Option.bind_some, Int.reduceEq, Int.reduceNe, Int.reduceLT, Int.reduceLE, gd_true, gd_false, bind_b, q10, eq_self, reduceCtorEq, not_true_eq_false, not_false_eq_true, ne_eq]; rw [pm]; rfl
      · have eb := eol_b j.g.t j.g.p j.g.e p1 p2
        rw [lgx, if_neg (by omega)]
      · have e : i ≠ (N 12000 19) := by omega
        refine ⟨?_, ?_, ?_, ?_⟩
        · show nwN N x p k v 2 0 13025 i = _
          rw [nw_of, if_neg e]
        · have : Jvm.Pilot.@@N@@.apN (nwN N x p k v 2 0) ((N 12000 19)) 13024 i = if i = (N 12000 19) then 1 else nwN N x p k v 2 0 13024 i := by unfold Jvm.Pilot.@@N@@.apN; simp only [up_s, up_s, true_and, false_and, and_true, and_false, if_true, if_false, ↓reduceIte, ↓Option.bind_some, Int.reduceEq, Int.reduceNe, Int.reduceLT, Int.reduceLE, gd_true, gd_false, bind_b, q10, eq_self, reduceCtorEq, not_true_eq_false, not_false_eq_true, ne_eq]
          rw [this, if_neg e, nw_st, if_neg e]
        · have : Jvm.Pilot.@@N@@.apN (nwN N x p k v 2 0) ((N 12000 19)) 13026 i = if i = (N 12000 19) then eol (nwN N x p k v 2 0) (nwN N x p k v 2 0 13021 ((N 12000 19))) else nwN N x p k v 2 0 13026 i := by unfold Jvm.Pilot.@@N@@.apN; simp only [up_s, up_s, true_and, false_and, and_true, and_false, if_true, if_false, ↓reduceIte, ↓Option.bind_some, Int.reduceEq, Int.reduceNe, Int.reduceLT, Int.reduceLE, gd_true, gd_false, bind_b, q10, eq_self, reduceCtorEq, not_true_eq_false, not_false_eq_true, ne_eq]
          rw [this, if_neg e, nw_os, if_neg e]
        · show nwN N x p k v 2 0 13021 i = _
          rw [nw_pa, if_neg e]
      · show nwN N x p k v 2 0 12000 19 = _
        rw [nwN_sc, if_pos rfl]
      · exact hw_ap (N := nwN N x p k v 2 0) j1.g j1.en s5.1 mlt (by rw [pm]; exact hl) q1 q2
  have jx : ∀ M : Nd, JN M → (∀ i, M 13032 i = N 13032 i) → JN (up M 13032 x (N 13032 x + 1)) := fun M jm hx => by
    have g' : RG (up M 13032 x (N 13032 x + 1)) := by
      refine ⟨jm.g.1, jm.g.2.1, jm.g.2.2.1, jm.g.2.2.2.1, jm.g.2.2.2.2.1, jm.g.2.2.2.2.2.1, fun i i1 i2 => ?_⟩
      obtain ⟨b1, b2, b3⟩ := jm.g.x i i1 i2
      refine ⟨b1, ?_, b3⟩
      simp only [up_s, up_s, true_and, false_and, and_true, and_false, if_true, if_false, ↓reduceIte, ↓Option.bind_some, Int.reduceEq, Int.reduceNe, Int.reduceLT, Int.reduceLE, gd_true, gd_false, bind_b, q10, eq_self, reduceCtorEq, not_true_eq_false, not_false_eq_true, ne_eq]
      split
      · omega
      · exact b2
    exact ⟨⟨⟨g', jm.1.1.2⟩, jm.1.2⟩, jm.2⟩
  exact ⟨jx _ fin.1 (fun i => rfl), fin.2⟩
