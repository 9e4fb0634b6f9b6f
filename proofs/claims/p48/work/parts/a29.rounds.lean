/-! PURE PART, a29: sixteen rounds -/
section ROUNDS
variable {n : Int} {C : Cd} {N X : Nd} {A : Ad}
theorem ob3 {α β γ δ : Type} {e : Option α} {B : α → Option β} {f : α → β → γ} {g : γ → δ} : (e.bind fun r => (B r).bind fun M => some (g (f r M))) = ((e.bind fun r => (B r).bind fun M => some (f r M)).bind fun s => some (g s)) := by
  cases e with
  | none => rfl
  | some r =>
    show (B r).bind _ = ((B r).bind _).bind _
    cases B r <;> rfl
/-- what the reads of a member leave -/
def MEM (T r o : Int) (N X : Nd) : Prop := WRD T X ∧ (∀ j k, FAR j k N → (192 < k → T + 9 ≤ (N 12000 1)) → FAR j k X) ∧ (N 13047 (12 * 0 + o) = 1 → (FAR o (24 * (r - 1)) N → FAR o (24 * r) X) ∧ hn X 0 o = 0) ∧ (∀ i, i ≠ o → hn X 0 i = hn N 0 i) ∧ (X 12000 1) = (N 12000 1) ∧ X 13047 = N 13047
theorem l_mem {T r o : Int} (hn9 : n < 9990000) (l : LV n C N A) (wd : WRD T N) (o1 : 0 ≤ o) (o2 : o < 12) (r0 : 0 ≤ r) (en : (N 12000 1) = T + r) (he : 1 ≤ r → N 13047 (12 * 0 + o) = 1 → hn N 0 o = 0) (s14 : Int × Int × Mm) (e14 : s14.2.1 = o) : Ok (lp (b_L_readsAll_38 11000 s14 15001 13490) 25 (1, 0, mk C N A)) (fun t => ∃ C2 X A2, t = (1, mk C2 X A2) ∧ LV (n + 2500) C2 X A2 ∧ MEM T r o N X) := by
  have g2 := l.2.1.1.g
  by_cases hi : N 13047 (12 * 0 + o) = 1
  · refine lp_for (fun k s => ∃ C2 X A2, s = (1, k, mk C2 X A2) ∧ LV (n + 100 * k) C2 X A2 ∧ WRD T X ∧ (∀ j k, FAR j k N → (192 < k → T + 9 ≤ (N 12000 1)) → FAR j k X) ∧ (FAR o (24 * (r - 1)) N → FAR o (24 * (r - 1) + k) X) ∧ ((1 ≤ k ∨ 1 ≤ r) → hn X 0 o = 0) ∧ (∀ i, i ≠ o → hn X 0 i = hn N 0 i) ∧ (X 12000 1) = (N 12000 1) ∧ X 13047 = N 13047) 0 24 ?_ ?_ (by omega) ⟨C, N, A, rfl, l.ups (by omega), wd, fun _ _ h _ => h, fun h => by rw [Int.add_zero]; exact h, fun h => he (by omega) hi, fun _ _ => rfl, rfl, rfl⟩
    · rintro k _ k1 k2 ⟨C2, X, A2, rfl, l2, w2, f1, f2, f3, f4, f5, f6⟩
      have g2x := l2.2.1.1.g
      have hix : X 13047 (12 * 0 + o) = 1 := by rw [f6]; exact hi
      unfold b_L_readsAll_38
      dsimp only
      rw [if_pos (show k < 24 by omega), if_neg (show ¬ (1 : Int) = 0 by decide), e14]
      refine Ok.bnd (QA.ok (L_mem0 l2.1 (Int.le_refl 0) g2x o1 o2 hix)) ?_
      rintro ⟨_, _⟩ ⟨rfl, C3, A3, rfl, j3⟩
      dsimp only
      have ob := @owc_b X 0 o
      rw [if_neg (by omega), w_eq (z := k + 1) (by omega) (by omega)]
      have q := ob3 (e := p_L_reads (mk C3 X A3) 11000 o 15001 13490) (B := fun r46 => p_L_empties r46.2 11000 o) (f := fun r46 M47 => (r46.1, M47)) (g := fun s : Int × Mm => (Sum.inl (s.1, k + 1, s.2) : (Int × Int × Mm) ⊕ (Int × Mm)))
      refine Ok.im (P := _) (e := _) ?_ (fun _ h => h)
      rw [show ((p_L_reads (mk C3 X A3) 11000 o 15001 13490).bind fun r46 => (p_L_empties r46.2 11000 o).bind fun M47 => some (Sum.inl (r46.1, k + 1, M47) : (Int × Int × Mm) ⊕ (Int × Mm))) = _ from q]
      refine Ok.bnd (l_one (T := T) (c := 24 * (r - 1) + k) (n := n + 100 * k + 1) (by omega) ⟨j3, l2.2⟩ w2 o1 o2 hix (fun hc => by omega) (by
        by_cases z : 1 ≤ r
        · exact Or.inr (f3 (Or.inr z))
        · left; omega)) ?_
      rintro ⟨_, _⟩ ⟨rfl, C4, Y, A4, rfl, l4, w4, y1, y2, y3, y4, y5, y6⟩
      refine Ok.ret ⟨C4, Y, A4, rfl, l4.ups (by omega), w4, fun j k' h1 h2 => y1 j k' (f1 j k' h1 h2) (fun z => by have := h2 z; omega), fun h => ?_, fun _ => y3, fun i hi' => (y4 i hi').trans (f4 i hi'), y5.trans f5, y6.trans f6⟩
      rw [show 24 * (r - 1) + (k + 1) = 24 * (r - 1) + k + 1 by omega]
      exact y2 (f2 h)
    · rintro _ ⟨C2, X, A2, rfl, l2, w2, f1, f2, f3, f4, f5, f6⟩
      unfold b_L_readsAll_38
      dsimp only
      rw [if_neg (by omega)]
      refine Ok.ret ⟨C2, X, A2, rfl, l2.ups (by omega), w2, f1, fun _ => ⟨fun h => ?_, f3 (by omega)⟩, f4, f5, f6⟩
      have q := f2 h
      rw [show 24 * (r - 1) + (0 + ((24 : Nat) : Int)) = 24 * r by omega] at q
      exact q
  · obtain ⟨z, z3, C2, A2, e1, j2⟩ := L_memN (v := 0) l.1 (g := 0) (o := o) (fun y => hi y.2.2)
    refine ⟨(1, mk C2 N A2), ?_, C2, N, A2, rfl, (show LV (n + 1) C2 N A2 from ⟨j2, l.2⟩).ups (by omega), wd, fun _ _ h _ => h, fun y => absurd y hi, fun _ _ => rfl, rfl, rfl⟩
    refine lp_end (n := 24) ?_
    unfold b_L_readsAll_38
    dsimp only
    rw [if_pos (show (0 : Int) < 24 by decide), if_neg (show ¬ (1 : Int) = 0 by decide), e14, e1, Option.bind_some]
    dsimp only
    rw [if_pos (by omega)]
/-- the members, one after the other -/
theorem l_mems {T r : Int} (hn9 : n < 9900000) (l : LV n C N A) (wd : WRD T N) (r0 : 0 ≤ r) (en : (N 12000 1) = T + r) (he : 1 ≤ r → ∀ i, 0 ≤ i → i < 12 → N 13047 (12 * 0 + i) = 1 → hn N 0 i = 0) (hf : ∀ j, 0 ≤ j → j < 12 → N 13047 (12 * 0 + j) = 1 → FAR j (24 * (r - 1)) N) : Ok (lp (b_L_readsAll_24 11000 15001 13490) 13 (1, 0, mk C N A)) (fun t => ∃ C2 X A2, t = (1, mk C2 X A2) ∧ LV (n + 31000) C2 X A2 ∧ WRD T X ∧ (X 12000 1) = (N 12000 1) ∧ X 13047 = N 13047 ∧ (∀ i, 0 ≤ i → i < 12 → N 13047 (12 * 0 + i) = 1 → hn X 0 i = 0 ∧ FAR i (24 * r) X)) := by
  refine lp_for (fun k s => ∃ C2 X A2, s = (1, k, mk C2 X A2) ∧ LV (n + 2550 * k) C2 X A2 ∧ WRD T X ∧ (X 12000 1) = (N 12000 1) ∧ X 13047 = N 13047 ∧ (∀ i, 0 ≤ i → i < 12 → N 13047 (12 * 0 + i) = 1 → ((i < k ∨ 1 ≤ r) → hn X 0 i = 0) ∧ (i < k → FAR i (24 * r) X) ∧ (k ≤ i → FAR i (24 * (r - 1)) X))) 0 12 ?_ ?_ (by omega) ⟨C, N, A, rfl, l.ups (by omega), wd, rfl, rfl, fun i i1 i2 hi => ⟨fun h => he (by omega) i i1 i2 hi, fun h => by omega, fun _ => hf i i1 i2 hi⟩⟩
  · rintro k _ k1 k2 ⟨C2, X, A2, rfl, l2, w2, f1, f2, f3⟩
    unfold b_L_readsAll_24
    dsimp only
    rw [if_pos (show k < 12 by omega), if_neg (show ¬ (1 : Int) = 0 by decide)]
    refine Ok.bnd (l_mem (T := T) (r := r) (o := k) (by omega) l2 w2 k1 (by omega) r0 (by rw [f1]; exact en) (fun h hi => (f3 k k1 (by omega) (by rw [← f2]; exact hi)).1 (Or.inr h)) (1, k, mk C2 X A2) rfl) ?_
    rintro _ ⟨C3, Y, A3, rfl, l3, w3, y1, y2, y3, y4, y5⟩
    dsimp only
    rw [w_eq (z := k + 1) (by omega) (by omega)]
    refine Ok.ret ⟨C3, Y, A3, rfl, l3.ups (by omega), w3, y4.trans f1, y5.trans f2, fun i i1 i2 hi => ?_⟩
    obtain ⟨a1, a2, a3⟩ := f3 i i1 i2 hi
    by_cases e : i = k
    · subst e
      obtain ⟨b1, b2⟩ := y2 (by rw [f2]; exact hi)
      exact ⟨fun _ => b2, fun _ => b1 (a3 (Int.le_refl _)), fun h => by omega⟩
    · refine ⟨fun h => by rw [y3 i e]; exact a1 (by omega), fun h => y1 i _ (a2 (by omega)) (fun z => by rw [f1, en]; omega), fun h => y1 i _ (a3 (by omega)) (fun z => by rw [f1, en]; omega)⟩
  · rintro _ ⟨C2, X, A2, rfl, l2, w2, f1, f2, f3⟩
    unfold b_L_readsAll_24
    dsimp only
    rw [if_neg (by omega)]
    exact Ok.ret ⟨C2, X, A2, rfl, l2.ups (by omega), w2, f1, f2, fun i i1 i2 hi => ⟨(f3 i i1 i2 hi).1 (Or.inl (by omega)), (f3 i i1 i2 hi).2.1 (by omega)⟩⟩
theorem ite_le {P Q : Prop} [Decidable P] [Decidable Q] (h : P → Q) : (if P then (1 : Int) else 0) ≤ (if Q then 1 else 0) := by
  by_cases a : P
  · rw [if_pos a, if_pos (h a)]
    exact Int.le_refl _
  · rw [if_neg a]
    split <;> decide
/-- a tick leaves no more to read -/
theorem tick_om (j : JJ n C N A) (w : WV N) (mo : Mo N X) (em : (X 12000 19) = (N 12000 19)) (ew : X 13059 = N 13059) (eo : X 13055 = N 13055) (er : X 13058 = N 13058) (i : Int) : Psi i X ≤ Psi i N := Psi_le fun m m1 m2 => by
  unfold om
  have w1 : wt X m = wt N m := by unfold wt; rw [ew]
  have o1 : ∀ p, ow X p = ow N p := fun p => by unfold ow; rw [eo]
  have r1 : ∀ p, ro X p = ro N p := fun p => by unfold ro; rw [er]
  by_cases h : m < (N 12000 19)
  · obtain ⟨⟨z1, -⟩, z2, z3⟩ := mo.2.2.1 m m1 h
    have imp : ((m < (X 12000 19) ∧ X 13024 m ≠ 3) ∧ (canR X m → ow X (X 13021 m) = i ∧ ro X (X 13021 m) ≤ X 13026 m)) → ((m < (N 12000 19) ∧ N 13024 m ≠ 3) ∧ (canR N m → ow N (N 13021 m) = i ∧ ro N (N 13021 m) ≤ N 13026 m)) := fun y => by
      refine ⟨⟨h, fun q => y.1.2 (z2 q).1⟩, fun hc => ?_⟩
      have hx := (mo.can j.jn.g m1 h hc).resolve_left y.1.2
      have q := y.2 hx
      rw [z1, o1, r1, (z3 hc).1] at q
      exact q
    refine Int.add_le_add (ite_le fun y => ?_) (ite_le imp)
    rw [w1, o1, z1] at y
    exact y
  · have nw : ¬ wt N m = 1 := fun q => h (wait_off j w.1.g m1 m2 q).1
    exact Int.add_le_add (ite_le fun q => absurd (by rw [← w1]; exact q.1) nw) (ite_le fun q => absurd (by rw [← em]; exact q.1.1) h)
end ROUNDS
