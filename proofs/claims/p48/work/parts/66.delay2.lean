/-! PURE PART, 66: sendLater -/
/-- into a row, behind all that P holds of -/
def ins (P : Int → Bool) (m : Int) : List Int → List Int
  | [] => [m]
  | a :: l => if P a = true then a :: ins P m l else m :: a :: l
theorem ins_mem {P : Int → Bool} {m x : Int} : ∀ {l : List Int}, x ∈ ins P m l ↔ x = m ∨ x ∈ l
  | [] => by unfold ins; simp
  | a :: l => by
    have ih := @ins_mem P m x l
    unfold ins
    split
    · rw [List.mem_cons, ih, List.mem_cons]
      constructor
      · rintro (h | h | h)
        · exact Or.inr (Or.inl h)
        · exact Or.inl h
        · exact Or.inr (Or.inr h)
      · rintro (h | h | h)
        · exact Or.inr (Or.inl h)
        · exact Or.inl h
        · exact Or.inr (Or.inr h)
    · rw [List.mem_cons]
theorem ins_len {P : Int → Bool} {m : Int} : ∀ {l : List Int}, (ins P m l).length = l.length + 1
  | [] => rfl
  | a :: l => by
    have ih := @ins_len P m l
    unfold ins
    split
    · rw [List.length_cons, ih, List.length_cons]
    · rfl
theorem ins_pw {P : Int → Bool} {m : Int} {R : Int → Int → Prop} : ∀ {l : List Int}, l.Pairwise R → (∀ a ∈ l, P a = true → R a m) → (∀ a ∈ l, ¬ P a = true → R m a) → (∀ a b, a ∈ l → b ∈ l → R m a → R a b → R m b) → (ins P m l).Pairwise R
  | [], _, _, _, _ => by unfold ins; exact List.pairwise_singleton _ _
  | a :: l, h, h1, h2, h3 => by
    obtain ⟨p1, p2⟩ := List.pairwise_cons.mp h
    unfold ins
    split
    · rename_i c
      refine List.pairwise_cons.mpr ⟨fun x hx => ?_, ins_pw p2 (fun b hb => h1 b (List.mem_cons_of_mem _ hb)) (fun b hb => h2 b (List.mem_cons_of_mem _ hb)) (fun b d hb hd => h3 b d (List.mem_cons_of_mem _ hb) (List.mem_cons_of_mem _ hd))⟩
      rcases ins_mem.mp hx with e | e
      · rw [e]; exact h1 a List.mem_cons_self c
      · exact p1 x e
    · rename_i c
      have ma := h2 a List.mem_cons_self c
      refine List.pairwise_cons.mpr ⟨fun x hx => ?_, h⟩
      rcases List.mem_cons.mp hx with e | e
      · rw [e]; exact ma
      · exact h3 a x List.mem_cons_self (List.mem_cons_of_mem _ e) ma (p1 x e)
theorem ins_ix {P : Int → Bool} {m : Int} : ∀ {l : List Int}, l.Pairwise (fun a b => P b = true → P a = true) → ∃ q : Nat, q ≤ l.length ∧ (∀ i : Nat, i < l.length → (P (l.getD i 0) = true ↔ i < q)) ∧ ∀ i : Nat, i ≤ l.length → (ins P m l).getD i 0 = if i < q then l.getD i 0 else if i = q then m else l.getD (i - 1) 0
  | [], _ => ⟨0, Nat.le_refl _, fun i hi => by simp at hi, fun i hi => by
      have : i = 0 := by simpa using hi
      subst this
      rfl⟩
  | a :: l, h => by
    obtain ⟨p1, p2⟩ := List.pairwise_cons.mp h
    by_cases c : P a = true
    · obtain ⟨q, q1, q2, q3⟩ := ins_ix (m := m) p2
      refine ⟨q + 1, by simpa using q1, fun i hi => ?_, fun i hi => ?_⟩
      · cases i with
        | zero => simp [c]
        | succ i =>
          have := q2 i (by simpa using hi)
          simp only [List.getD_cons_succ]
          rw [this]
          omega
      · unfold ins
        rw [if_pos c]
        cases i with
        | zero => simp
        | succ i =>
          have := q3 i (by simpa using hi)
          simp only [List.getD_cons_succ]
          rw [this]
          by_cases z : i < q
          · rw [if_pos z, if_pos (show i + 1 < q + 1 by omega)]
          · rw [if_neg z, if_neg (show ¬ i + 1 < q + 1 by omega)]
            by_cases z2 : i = q
            · rw [if_pos z2, if_pos (show i + 1 = q + 1 by omega)]
            · rw [if_neg z2, if_neg (show ¬ i + 1 = q + 1 by omega)]
              cases i with
              | zero => omega
              | succ i => simp
    · refine ⟨0, Nat.zero_le _, fun i hi => ?_, fun i hi => ?_⟩
      · cases i with
        | zero => simp [c]
        | succ i =>
          have hi' : i < l.length := by simpa using hi
          simp only [List.getD_cons_succ]
          constructor
          · intro hp
            have e : l.getD i 0 = l[i] := by simp [hi']
            rw [e] at hp
            exact absurd (p1 _ (List.getElem_mem hi') hp) c
          · intro hp; omega
      · unfold ins
        rw [if_neg c]
        cases i with
        | zero => simp
        | succ i =>
          simp
theorem c_delay {C : Cd} {N0 : Nd} {A : Ad} {n q m : Int} {f : Int → Int} (b5 : C 11000 0 5 = 20001) (b11 : C 11000 0 11 = n) (h0 : 0 ≤ n) (hn : n < 150) (q0 : 0 ≤ q) (q1 : q ≤ n) (hl : ∀ k, 0 ≤ k → k < n → C 20001 0 k = 5000 + f k) (m1 : 0 ≤ m) (m2 : m < 150) (hf : ∀ k, 0 ≤ k → k < n → 0 ≤ f k ∧ f k < 150) (hd : ∀ k, 0 ≤ k → k < n → (C 5000 m 5 < C 5000 (f k) 5 ↔ q ≤ k)) :
    Ok (p_X10_delay (mk C N0 A) 11000 (5000 + m)) (fun M => ∃ C', M = mk C' N0 A ∧ C' 11000 0 11 = n + 1 ∧ (∀ k, 0 ≤ k → k ≤ n → C' 20001 0 k = 5000 + inf f q m k) ∧ ∀ b i j, b ≠ 20001 → ¬ (b = 11000 ∧ j = 11) → C' b i j = C b i j) := by
  unfold p_X10_delay
  simp (disch := omega) only [aok, up_s, true_and, false_and, and_true, and_false, if_true, if_false, ↓reduceIte, ↓Option.bind_some, Int.reduceEq, Int.reduceNe, Int.reduceLT, Int.reduceLE, gd_true, gd_false, bind_b, q10, eq_self, reduceCtorEq, not_true_eq_false, not_false_eq_true, ne_eq, cr_11000, cr_15000, cr_16000, cr_20000, cr_20001, cr_21000, cr_22000, cr_25000, cr_1000, cr_2000, cr_3000, cr_3003, cr_3006, cr_4000, cr_5000, cr_6000, cr_7000, cr_8000, cr_9000, cr_10000, cr_13500, cr_17000, cr_17100, cr_17103, cr_17106, cr_19000, cr_20100, cr_21100, cr_23000, cr_24000, cw_11000, cw_15000, cw_16000, cw_20000, cw_20001, cw_21000, cw_22000, cw_25000, cw_1000, cw_2000, cw_3000, cw_3003, cw_3006, cw_4000, cw_5000, cw_6000, cw_7000, cw_8000, cw_9000, cw_10000, cw_13500, cw_17000, cw_17100, cw_17103, cw_17106, cw_19000, cw_20100, cw_21100, cw_23000, cw_24000, lc_13500, lc_15000, lc_16000, lc_17000, lc_17100, lc_17103, lc_17106, lc_19000, lc_20000, lc_20001, lc_20100, lc_21000, lc_21100, lc_22000, lc_23000, lc_24000, lc_25000, gd_t, w_eq, b11, hn]
  refine Ok.bnd (Q := fun s => ∃ C1, s = (q, mk C1 N0 A) ∧ (∀ b i j, b ≠ 20001 → C1 b i j = C b i j) ∧ (∀ k, 0 ≤ k → k < q → C1 20001 0 k = 5000 + f k) ∧ ∀ k, q < k → k ≤ n → C1 20001 0 k = 5000 + f (k - 1)) (lp_dn (fun t s => ∃ C1, s = (if (t : Int) ≤ q then q else (t : Int), (t : Int) - 1, mk C1 N0 A) ∧ (t : Int) ≤ n ∧ (∀ b i j, b ≠ 20001 → C1 b i j = C b i j) ∧ (∀ k, 0 ≤ k → k < n → k < (if (t : Int) ≤ q then q else (t : Int)) → C1 20001 0 k = 5000 + f k) ∧ ∀ k, (if (t : Int) ≤ q then q else (t : Int)) < k → k ≤ n → C1 20001 0 k = 5000 + f (k - 1)) ?_ ?_ n.toNat (by omega) ⟨C, ?_, by omega, fun _ _ _ _ => rfl, fun k a b _ => hl k a b, fun k a b => by split at a <;> omega⟩) ?_
  · rintro t s ⟨C1, rfl, t1, k1, a1, a2⟩
    have ct : ((t + 1 : Nat) : Int) = (t : Int) + 1 := by omega
    rw [ct] at a1 a2 t1 ⊢
    have b5' : C1 11000 0 5 = 20001 := (k1 _ _ _ (by decide)).trans b5
    have cur : C1 20001 0 (t : Int) = 5000 + f (t : Int) := a1 _ (by omega) (by omega) (by split <;> omega)
    have hft := hf (t : Int) (by omega) (by omega)
    have hdt := hd (t : Int) (by omega) (by omega)
    rw [← k1 5000 m 5 (by decide), ← k1 5000 (f t) 5 (by decide)] at hdt
    rw [show (t : Int) + 1 - 1 = (t : Int) by omega]
    unfold b_X10_delay_23
    by_cases c : q ≤ (t : Int)
    · have c' := hdt.mpr c
      simp only [if_neg (show ¬ (t : Int) + 1 ≤ q by omega)] at a1 a2 ⊢
      simp (disch := omega) only [aok, up_s, true_and, false_and, and_true, and_false, if_true, if_false, ↓reduceIte, ↓Option.bind_some, Int.reduceEq, Int.reduceNe, Int.reduceLT, Int.reduceLE, gd_true, gd_false, bind_b, q10, eq_self, reduceCtorEq, not_true_eq_false, not_false_eq_true, ne_eq, cr_11000, cr_15000, cr_16000, cr_20000, cr_20001, cr_21000, cr_22000, cr_25000, cr_1000, cr_2000, cr_3000, cr_3003, cr_3006, cr_4000, cr_5000, cr_6000, cr_7000, cr_8000, cr_9000, cr_10000, cr_13500, cr_17000, cr_17100, cr_17103, cr_17106, cr_19000, cr_20100, cr_21100, cr_23000, cr_24000, cw_11000, cw_15000, cw_16000, cw_20000, cw_20001, cw_21000, cw_22000, cw_25000, cw_1000, cw_2000, cw_3000, cw_3003, cw_3006, cw_4000, cw_5000, cw_6000, cw_7000, cw_8000, cw_9000, cw_10000, cw_13500, cw_17000, cw_17100, cw_17103, cw_17106, cw_19000, cw_20100, cw_21100, cw_23000, cw_24000, lc_13500, lc_15000, lc_16000, lc_17000, lc_17100, lc_17103, lc_17106, lc_19000, lc_20000, lc_20001, lc_20100, lc_21000, lc_21100, lc_22000, lc_23000, lc_24000, lc_25000, gd_t, w_eq, b5', cur, c', if_neg, if_pos]
      refine ⟨_, rfl, uq C1 20001 0 ((t : Int) + 1) (5000 + f (t : Int)), ?_, by omega, fun b i j hb => ?_, fun k a b c2 => ?_, fun k a b => ?_⟩
      · congr 1
        by_cases z : (t : Int) ≤ q
        · rw [if_pos z]; omega
        · rw [if_neg z]
      · rw [uq_s, if_neg (fun z => hb z.1)]; exact k1 b i j hb
      · rw [uq_s, if_neg (by split at c2 <;> omega)]
        exact a1 k a b (by split at c2 <;> omega)
      · rw [uq_s]
        by_cases z : k = (t : Int) + 1
        · rw [if_pos ⟨rfl, rfl, z⟩, z, show (t : Int) + 1 - 1 = (t : Int) by omega]
        · rw [if_neg (fun y => z y.2.2)]
          exact a2 k (by split at a <;> omega) b
    · have c' : ¬ C1 5000 m 5 < C1 5000 (f (t : Int)) 5 := fun z => c (hdt.mp z)
      simp only [if_pos (show (t : Int) + 1 ≤ q by omega)] at a1 a2 ⊢
      simp (disch := omega) only [aok, up_s, true_and, false_and, and_true, and_false, if_true, if_false, ↓reduceIte, ↓Option.bind_some, Int.reduceEq, Int.reduceNe, Int.reduceLT, Int.reduceLE, gd_true, gd_false, bind_b, q10, eq_self, reduceCtorEq, not_true_eq_false, not_false_eq_true, ne_eq, cr_11000, cr_15000, cr_16000, cr_20000, cr_20001, cr_21000, cr_22000, cr_25000, cr_1000, cr_2000, cr_3000, cr_3003, cr_3006, cr_4000, cr_5000, cr_6000, cr_7000, cr_8000, cr_9000, cr_10000, cr_13500, cr_17000, cr_17100, cr_17103, cr_17106, cr_19000, cr_20100, cr_21100, cr_23000, cr_24000, cw_11000, cw_15000, cw_16000, cw_20000, cw_20001, cw_21000, cw_22000, cw_25000, cw_1000, cw_2000, cw_3000, cw_3003, cw_3006, cw_4000, cw_5000, cw_6000, cw_7000, cw_8000, cw_9000, cw_10000, cw_13500, cw_17000, cw_17100, cw_17103, cw_17106, cw_19000, cw_20100, cw_21100, cw_23000, cw_24000, lc_13500, lc_15000, lc_16000, lc_17000, lc_17100, lc_17103, lc_17106, lc_19000, lc_20000, lc_20001, lc_20100, lc_21000, lc_21100, lc_22000, lc_23000, lc_24000, lc_25000, gd_t, w_eq, b5', cur, c', if_neg, if_pos]
      refine ⟨_, rfl, C1, ?_, by omega, k1, fun k a b c2 => ?_, fun k a b => ?_⟩
      · rfl
      · exact a1 k a b c2
      · exact a2 k a b
  · rintro s ⟨C1, rfl, t1, k1, a1, a2⟩
    have c0 : ((0 : Nat) : Int) = 0 := rfl
    simp only [c0, if_pos q0] at a1 a2 ⊢
    unfold b_X10_delay_23
    simp (disch := omega) only [if_pos]
    exact ⟨_, rfl, C1, rfl, k1, fun k a b => a1 k a (by omega) b, a2⟩
  · have cn : ((n.toNat : Nat) : Int) = n := by omega
    rw [cn]
    congr 1
    by_cases z : n ≤ q
    · rw [if_pos z]; omega
    · rw [if_neg z]
  · rintro s ⟨C1, rfl, k1, a1, a2⟩
    have b5' : C1 11000 0 5 = 20001 := (k1 _ _ _ (by decide)).trans b5
    have b11' : C1 11000 0 11 = n := (k1 _ _ _ (by decide)).trans b11
    have e1 : w (n + 1) = n + 1 := w_eq (by omega) (by omega)
    simp (disch := omega) only [aok, up_s, true_and, false_and, and_true, and_false, if_true, if_false, ↓reduceIte, ↓Option.bind_some, Int.reduceEq, Int.reduceNe, Int.reduceLT, Int.reduceLE, gd_true, gd_false, bind_b, q10, eq_self, reduceCtorEq, not_true_eq_false, not_false_eq_true, ne_eq, cr_11000, cr_15000, cr_16000, cr_20000, cr_20001, cr_21000, cr_22000, cr_25000, cr_1000, cr_2000, cr_3000, cr_3003, cr_3006, cr_4000, cr_5000, cr_6000, cr_7000, cr_8000, cr_9000, cr_10000, cr_13500, cr_17000, cr_17100, cr_17103, cr_17106, cr_19000, cr_20100, cr_21100, cr_23000, cr_24000, cw_11000, cw_15000, cw_16000, cw_20000, cw_20001, cw_21000, cw_22000, cw_25000, cw_1000, cw_2000, cw_3000, cw_3003, cw_3006, cw_4000, cw_5000, cw_6000, cw_7000, cw_8000, cw_9000, cw_10000, cw_13500, cw_17000, cw_17100, cw_17103, cw_17106, cw_19000, cw_20100, cw_21100, cw_23000, cw_24000, lc_13500, lc_15000, lc_16000, lc_17000, lc_17100, lc_17103, lc_17106, lc_19000, lc_20000, lc_20001, lc_20100, lc_21000, lc_21100, lc_22000, lc_23000, lc_24000, lc_25000, gd_t, w_eq, b5', b11', uq_s, e1]
    refine ⟨_, rfl, _, rfl, ?_, fun k a b => ?_, fun b i j hb hj => ?_⟩
    · rw [uq_s, if_pos ⟨rfl, rfl, rfl⟩]
    · rw [uq_s, if_neg (by omega), uq_s]
      unfold inf
      by_cases z : k = q
      · rw [if_pos ⟨rfl, rfl, z⟩, if_neg (by omega), if_pos z]
      · rw [if_neg (fun y => z y.2.2)]
        by_cases z2 : k < q
        · rw [if_pos z2]; exact a1 k a z2
        · rw [if_neg z2, if_neg z]; exact a2 k (by omega) (by omega)
    · rw [uq_s, if_neg (fun y => hj ⟨y.1, y.2.2⟩), uq_s, if_neg (fun y => hb y.1)]
      exact k1 b i j hb
theorem nw_due {N : Nd} {x p k v d : Int} : up (nwN N x p k v 0 0) 13028 ((N 12000 19)) d = nwN N x p k v 0 d := by
  unfold nwN
  rw [up_comm (a := 12000) (b := 13028) (by decide)]
  congr 1
  funext a i
  simp only [up_s]
  by_cases h : a = 13028 ∧ i = (N 12000 19)
  · rw [if_pos h, if_pos h]
  · rw [if_neg h, if_neg h, if_neg h]
theorem CC.newD {C : Cd} {N : Nd} {x p k v d : Int} (c : CC C N) (hd : 1 ≤ d) : CC (msC C ((N 12000 19)) x p k v d (-1)) (nwN N x p k v 0 d) := by
  have q := CC.new (x := x) (p := p) (k := k) (v := v) (d := d) (t := -1) c (by omega) (by omega)
  rw [if_neg (show ¬ d = 0 by omega), if_pos (show (-1 : Int) < 0 by omega)] at q
  have e1 : up (nwN N x p k v 0 d) 13025 ((N 12000 19)) 0 = nwN N x p k v 0 d := by
    have z := @up_same (nwN N x p k v 0 d) 13025 ((N 12000 19))
    rw [nw_of, if_pos rfl] at z
    exact z
  have e2 : up (nwN N x p k v 0 d) 13029 ((N 12000 19)) (-1) = nwN N x p k v 0 d := by
    have z := @up_same (nwN N x p k v 0 d) 13029 ((N 12000 19))
    rw [nw_in, if_pos rfl] at z
    exact z
  rw [e1, e2] at q
  exact q
theorem nd_one {x : Int} : ∀ {l : List Int}, l.Nodup → l.length ≤ (l.filter (fun a => decide (a ≠ x))).length + 1
  | [], _ => by simp
  | a :: l, h => by
    obtain ⟨h1, h2⟩ := List.nodup_cons.mp h
    have ih := @nd_one x l h2
    by_cases e : a = x
    · have f : l.filter (fun a => decide (a ≠ x)) = l := List.filter_eq_self.mpr fun b hb => decide_eq_true (fun z => h1 (by rw [e, ← z]; exact hb))
      rw [List.filter_cons_of_neg (by simp [e]), f]
      exact Nat.le_refl _
    · rw [List.filter_cons_of_pos (by simp [e])]
      simp only [List.length_cons]
      omega
theorem nd_le : ∀ {M : Nat} {l : List Int}, l.Nodup → (∀ a ∈ l, 0 ≤ a ∧ a < M) → l.length ≤ M
  | 0, l, _, h => by
    cases l with
    | nil => exact Nat.le_refl _
    | cons a l =>
      have := h a List.mem_cons_self
      omega
  | M + 1, l, hn, h => by
    have a := @nd_one (M : Int) l hn
    have b := @nd_le M (l.filter (fun a => decide (a ≠ (M : Int)))) (hn.filter _) (fun x hx => by
      obtain ⟨h1, h2⟩ := List.mem_filter.mp hx
      have h3 := of_decide_eq_true h2
      have := h x h1
      omega)
    omega
theorem CC.dly {C C' : Cd} {N : Nd} (c : CC C N) (h : ∀ b i z, b ≠ 20001 → ¬ (b = 11000 ∧ z = 11) → C b i z = C' b i z) : CC C' N := by
  have e : C = fun b i z => if b = 20001 ∨ (b = 11000 ∧ z = 11) then C b i z else C' b i z := by
    funext b i z
    by_cases q : b = 20001 ∨ (b = 11000 ∧ z = 11)
    · rw [if_pos q]
    · rw [if_neg q]
      exact h b i z (fun y => q (Or.inl y)) (fun y => q (Or.inr y))
  rw [e] at c
  exact ⟨c.b, c.i, c.t, c.p, c.w, c.l, c.r, c.m, c.x⟩
theorem JJ.later {n : Int} {C : Cd} {Z N0 : Nd} {A : Ad} {x p k v d : Int} (j : JJ n C Z A) (x1 : 0 ≤ x) (x2 : x < (Z 12000 30)) (p1 : 0 ≤ p) (p2 : p < (Z 12000 11)) (hv : -1 ≤ v ∧ v ≤ 999) (hm : (Z 12000 19) < 150) (hd : 1 ≤ d ∧ d ≤ 400000050) : ∃ C', p_X10_delay (mk (msC C ((Z 12000 19)) x p k v d (-1)) N0 (alA A (5000 + (Z 12000 19)) 11)) 11000 (5000 + (Z 12000 19)) = some (mk C' N0 (alA A (5000 + (Z 12000 19)) 11)) ∧ C' 5000 ((Z 12000 19)) 0 = (Z 12000 19) ∧ JJ n C' (nwN Z x p k v 0 d) (alA A (5000 + (Z 12000 19)) 11) := by
  have g := j.jn.g
  have s5 := g.s.2.2.2.2.1
  obtain ⟨l, d1, d2⟩ := j.d
  obtain ⟨jn, mo⟩ := j.jn.new (k := k) hm x1 x2 p1 p2 hv (Or.inl ⟨rfl, hd.1⟩)
  have cn : CC (msC C ((Z 12000 19)) x p k v d (-1)) (nwN Z x p k v 0 d) := CC.newD j.c hd.1
  have ll : l.length < 150 := by
    have nd : l.Nodup := d1.1.imp fun {a b} h => by
      intro e
      rw [e] at h
      exact lt2_ir h
    have sub : l.length ≤ ((Z 12000 19)).toNat := nd_le nd fun a ha => by
      have := d1.2.1 a ha
      omega
    omega
  let P : Int → Bool := fun a => decide (Z 13028 a ≤ d)
  have mono : l.Pairwise (fun a b => P b = true → P a = true) := d1.1.imp fun {a b} h hp => by
    have hp' := of_decide_eq_true hp
    refine decide_eq_true ?_
    unfold lt2 at h
    omega
  obtain ⟨q, q1, q2, q3⟩ := ins_ix (m := (Z 12000 19)) mono
  have gd0 : ∀ i : Nat, ∀ h : i < l.length, l.getD i 0 = l[i] := fun i h => by simp [h]
  have mem : ∀ i : Nat, i < l.length → l.getD i 0 ∈ l := fun i h => by rw [gd0 i h]; exact List.getElem_mem h
  have dl : ∀ i : Nat, i < l.length → C 20001 0 (i : Int) = 5000 + l.getD i 0 := fun i h => by rw [gd0 i h]; exact d2.2.2 i h
  have due : ∀ a, 0 ≤ a → a < (Z 12000 19) → Z 13024 a = 0 → msC C ((Z 12000 19)) x p k v d (-1) 5000 a 5 = Z 13028 a := fun a a1 a2 a3 => by
    have wd := j.jn.wd a a1 a2 a3
    rw [msC_k (by omega) (by omega) (by omega), (j.c.m a a1 a2).2.2.2.2.2.1, if_neg (by omega)]
  have dum : msC C ((Z 12000 19)) x p k v d (-1) 5000 ((Z 12000 19)) 5 = d := by
    have := (cn.m ((Z 12000 19)) s5.1 (by rw [nwN_sc, if_pos rfl]; omega)).2.2.2.2.2.1
    rw [this, nw_du, if_pos rfl, if_neg (by omega)]
  have b5 : msC C ((Z 12000 19)) x p k v d (-1) 11000 0 5 = 20001 := cn.b.1.2.2.2.2.2
  obtain ⟨M, r1, C', rfl, r2, r3, r4⟩ := c_delay (C := msC C ((Z 12000 19)) x p k v d (-1)) (N0 := N0) (A := alA A (5000 + (Z 12000 19)) 11) (n := l.length) (q := q) (m := (Z 12000 19)) (f := fun i => l.getD i.toNat 0) b5 (by rw [msC_k (by omega) (by omega) (by omega)]; exact d2.1) (by omega) (by omega) (by omega) (by omega) (fun i i1 i2 => by
      have := dl i.toNat (by omega)
      rw [show ((i.toNat : Nat) : Int) = i by omega] at this
      rw [msC_k (by omega) (by omega) (by omega)]
      exact this) s5.1 hm (fun i i1 i2 => by
      have := d1.2.1 _ (mem i.toNat (by omega))
      show 0 ≤ l.getD i.toNat 0 ∧ l.getD i.toNat 0 < 150
      omega) (fun i i1 i2 => by
      have a := d1.2.1 _ (mem i.toNat (by omega))
      have b := q2 i.toNat (by omega)
      show _ < msC C ((Z 12000 19)) x p k v d (-1) 5000 (l.getD i.toNat 0) 5 ↔ _
      rw [dum, due _ a.1 a.2.1 a.2.2]
      have b' : Z 13028 (l.getD i.toNat 0) ≤ d ↔ i.toNat < q := by rw [← b]; exact ⟨fun z => decide_eq_true z, fun z => of_decide_eq_true z⟩
      omega)
  have kc : ∀ b i z, b ≠ 20001 → ¬ (b = 11000 ∧ z = 11) → ¬ (b = 5000 ∧ i = (Z 12000 19)) → ¬ (b = 20000 ∧ i = 0 ∧ z = (Z 12000 19)) → ¬ (b = 11000 ∧ i = 0 ∧ z = 10) → C' b i z = C b i z := fun b i z h1 h2 h3 h4 h5 => (r4 b i z h1 h2).trans (msC_k h3 h4 h5)
  have cc : CC C' (nwN Z x p k v 0 d) := by
    have e : ∀ b i z, b ≠ 20001 → ¬ (b = 11000 ∧ z = 11) → msC C ((Z 12000 19)) x p k v d (-1) b i z = C' b i z := fun b i z h1 h2 => (r4 b i z h1 h2).symm
    exact cn.dly e
  refine ⟨C', r1, ?_, ?_⟩
  · have := (cc.m ((Z 12000 19)) s5.1 (by rw [nwN_sc, if_pos rfl]; omega)).1
    exact this
  · have du : ∀ i, nwN Z x p k v 0 d 13028 i = if i = (Z 12000 19) then d else Z 13028 i := fun i => nw_du
    refine j.msg rfl hm jn cc mo (fun b i z _ h2 h3 h4 h5 h6 => kc b i z h5 h6 h2 h3 h4) ⟨ins P ((Z 12000 19)) l, ⟨ins_pw ?_ ?_ ?_ ?_, fun a ha => ?_, fun a a1 a2 a3 => ?_⟩, ?_, ?_, fun i hi => ?_⟩ (fun z hz => by rw [nwN_sc, if_neg hz]) (by rw [nwN_sc, if_pos rfl]) (fun a a1 a2 a3 a4 a5 => ?_) (fun q q1 r r1 r2 => rfl) (fun i hi => by rw [du, if_neg hi]) (by rw [du, if_pos rfl]; omega) (fun y hy => rfl)
    · refine List.Pairwise.imp_of_mem (fun {a b} ha hb hab => ?_) d1.1
      have y1 := d1.2.1 a ha
      have y2 := d1.2.1 b hb
      unfold lt2 at *
      rw [du, du, if_neg (by omega), if_neg (by omega)]
      exact hab
    · intro a ha hp
      have y1 := d1.2.1 a ha
      have hp' := of_decide_eq_true hp
      unfold lt2
      rw [du, du, if_neg (by omega), if_pos rfl]
      omega
    · intro a ha hp
      have y1 := d1.2.1 a ha
      have hp' : ¬ Z 13028 a ≤ d := fun z => hp (decide_eq_true z)
      unfold lt2
      rw [du, du, if_pos rfl, if_neg (by omega)]
      omega
    · intro a b ha hb h1 h2
      unfold lt2 at *
      omega
    · rw [nwN_sc, if_pos rfl, nw_st]
      rcases ins_mem.mp ha with e | e
      · rw [e, if_pos rfl]
        omega
      · have y1 := d1.2.1 a e
        rw [if_neg (by omega)]
        omega
    · rw [nwN_sc, if_pos rfl] at a2
      rw [nw_st] at a3
      by_cases e : a = (Z 12000 19)
      · exact ins_mem.mpr (Or.inl e)
      · rw [if_neg e] at a3
        exact ins_mem.mpr (Or.inr (d1.2.2 a a1 (by omega) a3))
    · rw [ins_len, r2]
      omega
    · rw [ins_len]
      omega
    · have hi' : i ≤ l.length := by rw [ins_len] at hi; omega
      have e : (ins P ((Z 12000 19)) l)[i] = (ins P ((Z 12000 19)) l).getD i 0 := by simp [hi]
      rw [e, q3 i hi', r3 i (by omega) (by omega)]
      unfold inf
      congr 1
      by_cases z : i < q
      · rw [if_pos z, if_pos (by omega)]
        rfl
      · rw [if_neg z, if_neg (by omega)]
        by_cases z2 : i = q
        · rw [if_pos z2, if_pos (by omega)]
        · rw [if_neg z2, if_neg (by omega)]
          show l.getD ((i : Int) - 1).toNat 0 = _
          rw [show ((i : Int) - 1).toNat = i - 1 by omega]
    · unfold nwN
      funext i
      repeat rw [up_s, if_neg (by omega)]
theorem q_sendLater {n : Int} {C : Cd} {N : Nd} {A : Ad} {x t k v d : Int} (hk : r32 k) (j : JJ n C N A) : SR n C N A (p_G_sendLater (mk C N A) 11000 x t k v d 15000) (fun M => p_X11_sendLater M 12000 x t k v d) := by
  have g := j.jn.g
  have jz : JJ n C (up N 12000 0 0) A := j.thrown
  have hx := c_producerOf (N0 := N) (A := A) (t := x) g j.c
  have ht := c_topicOf (N0 := N) (A := A) (t := t) g j.c
  have mx := fun C A => @m_isProducer C (up N 12000 0 0) A x j.z.s
  have mt := fun C A => @m_isTopic C (up N 12000 0 0) A t j.z.s
  simp only [up_s, up_s, true_and, false_and, and_true, and_false, if_true, if_false, ↓reduceIte, ↓Option.bind_some, Int.reduceEq, Int.reduceNe, Int.reduceLT, Int.reduceLE, gd_true, gd_false, bind_b, q10, eq_self, reduceCtorEq, not_true_eq_false, not_false_eq_true, ne_eq] at mx mt
  have s5 := g.s.2.2.2.2.1
  have s8 := g.s.2.2.2.2.2.2.2.1
  have b10 : C 11000 0 10 = (N 12000 19) := j.c.b.2.2.2.2.2.1
  have b4 : C 11000 0 4 = 20000 := j.c.b.1.2.2.2.2.1
  have b15 : C 11000 0 15 = (N 12000 1) := j.c.b.2.2.2.2.2.2.2.2.2
  unfold p_G_sendLater p_X10_sendLater
  by_cases h1 : 0 ≤ x ∧ x < (N 12000 30)
  · by_cases h2 : 0 ≤ t ∧ t < (N 12000 4)
    · have pb := pf_b (k := k) g h2.1 h2.2
      have s3 := g.s.2.2.1
      have s1 := g.s.1
      have s2 := g.s.2.1
      have hp := c_partitionFor (N0 := N) (A := A) g j.c hk h2.1 h2.2
      have mp := fun C A => @m_partitionFor C (up N 12000 0 0) A t k j.z hk h2.1 h2.2
      have e : pf (up N 12000 0 0) t k = pf N t k := rfl
      rw [e] at mp
      by_cases h3 : -1 ≤ v ∧ v ≤ 999
      · by_cases h4 : 1 ≤ d ∧ d ≤ 50
        · have wd : w ((N 12000 1) + d) = (N 12000 1) + d := w_eq (by omega) (by omega)
          by_cases h5 : (N 12000 19) < 150
          · obtain ⟨C', i1, i2, i3⟩ := JJ.later (N0 := N) (k := k) (d := (N 12000 1) + d) jz h1.1 h1.2 pb.2.2.1 pb.2.2.2 h3 h5 (by omega)
            obtain ⟨C4, k1, k2⟩ := c_newMsg (C := C) (N0 := N) (A := alA A (5000 + (N 12000 19)) 11) (m := (N 12000 19)) (x := x) (p := pf N t k) (k := k) (v := v) (d := (N 12000 1) + d) (t := -1) s5.1 h5 b10 b4 (by omega)
            have ad := j.ne.2.2.2.1 ((N 12000 19)) (Int.le_refl _) h5
            have z10 : zq C 5000 ((N 12000 19)) 11000 0 10 = (N 12000 19) := by rw [zq_s, if_neg (by omega)]; exact b10
            have z15 : zq C 5000 ((N 12000 19)) 11000 0 15 = (N 12000 1) := by rw [zq_s, if_neg (by omega)]; exact b15
            have mn := fun C A => @m_newMessage C (up N 12000 0 0) A x (pf N t k) k v ⟨s5.1, h5⟩ ((j.fn.2.2.1 _ s5.1 h5).2.2 (Int.le_refl _))
            have e5 : (up N 12000 0 0) 12000 19 = (N 12000 19) := rfl
            have e6 : nwN (up N 12000 0 0) x (pf N t k) k v 0 0 12000 1 = (N 12000 1) := rfl
            have e7 := @nw_due (up N 12000 0 0) x (pf N t k) k v ((N 12000 1) + d)
            rw [e5] at i1 i2 i3 mn e7
            have ne : ¬ (N 12000 19) = 150 := by omega
            refine ⟨0, uq C' 15000 0 0 ((N 12000 19)), alA A (5000 + (N 12000 19)) 11, ?_, (N 12000 19), nwN (up N 12000 0 0) x (pf N t k) k v 0 ((N 12000 1) + d), ?_, rfl, fun _ => rfl, i3.out.next⟩
            · simp (disch := first | omega | assumption) only [aok, up_s, true_and, false_and, and_true, and_false, if_true, if_false, ↓reduceIte, ↓Option.bind_some, Int.reduceEq, Int.reduceNe, Int.reduceLT, Int.reduceLE, gd_true, gd_false, bind_b, q10, eq_self, reduceCtorEq, not_true_eq_false, not_false_eq_true, ne_eq, cr_11000, cr_15000, cr_16000, cr_20000, cr_20001, cr_21000, cr_22000, cr_25000, cr_1000, cr_2000, cr_3000, cr_3003, cr_3006, cr_4000, cr_5000, cr_6000, cr_7000, cr_8000, cr_9000, cr_10000, cr_13500, cr_17000, cr_17100, cr_17103, cr_17106, cr_19000, cr_20100, cr_21100, cr_23000, cr_24000, cw_11000, cw_15000, cw_16000, cw_20000, cw_20001, cw_21000, cw_22000, cw_25000, cw_1000, cw_2000, cw_3000, cw_3003, cw_3006, cw_4000, cw_5000, cw_6000, cw_7000, cw_8000, cw_9000, cw_10000, cw_13500, cw_17000, cw_17100, cw_17103, cw_17106, cw_19000, cw_20100, cw_21100, cw_23000, cw_24000, lc_13500, lc_15000, lc_16000, lc_17000, lc_17100, lc_17103, lc_17106, lc_19000, lc_20000, lc_20001, lc_20100, lc_21000, lc_21100, lc_22000, lc_23000, lc_24000, lc_25000, gd_t, w_eq, thT, thU, psT, psU, hnT, thr_mk, ↓Option.bind_some, hx, h1, ht, h2, hp, c_within, h3, h4, b10, h5, al_5000, z10, z15, wd, k1, k2, i1, i2, if_neg]
            · unfold p_X11_sendLater
              simp (disch := omega) only [aok, up_s, true_and, false_and, and_true, and_false, if_true, if_false, ↓reduceIte, ↓Option.bind_some, Int.reduceEq, Int.reduceNe, Int.reduceLT, Int.reduceLE, gd_true, gd_false, bind_b, q10, eq_self, reduceCtorEq, not_true_eq_false, not_false_eq_true, ne_eq, pt_0, pt_1, pt_2, pt_3, pt_4, pt_5, pt_6, pt_7, pt_8, pt_9, pt_10, pt_11, pt_12, pt_13, pt_14, pt_15, pt_16, pt_17, pt_18, pt_19, pt_20, pt_21, pt_22, pt_23, pt_24, pt_25, pt_26, pt_27, pt_28, pt_29, pt_30, pt_31, pt_32, pt_33, pt_34, pt_35, pt_36, pt_37, pt_38, pt_39, pt_40, pt_41, pt_42, pt_43, pt_44, pt_45, pt_46, pt_47, pt_48, pt_49, pt_50, pt_51, pt_52, pt_53, pt_54, pt_55, pt_56, pt_57, pt_58, pt_59, pt_60, pt_61, pt_62, pt_63, pt_64, pt_65, pt_66, pt_67, pa_13005, pw_13005, pa_13006, pw_13006, pa_13007, pw_13007, pa_14008, pw_14008, pa_13009, pw_13009, pa_13010, pw_13010, pa_13012, pw_13012, pa_13013, pw_13013, pa_13014, pw_13014, pa_13015, pw_13015, pa_13016, pw_13016, pa_13017, pw_13017, pa_13018, pw_13018, pa_13020, pw_13020, pa_13021, pw_13021, pa_13022, pw_13022, pa_13023, pw_13023, pa_13024, pw_13024, pa_13025, pw_13025, pa_13026, pw_13026, pa_13027, pw_13027, pa_13028, pw_13028, pa_13029, pw_13029, pa_13031, pw_13031, pa_13032, pw_13032, pa_13033, pw_13033, pa_14034, pw_14034, pa_13035, pw_13035, pa_13036, pw_13036, pa_13037, pw_13037, pa_13038, pw_13038, pa_13039, pw_13039, pa_13042, pw_13042, pa_13043, pw_13043, pa_13044, pw_13044, pa_13045, pw_13045, pa_13046, pw_13046, pa_13047, pw_13047, pa_13048, pw_13048, pa_13049, pw_13049, pa_13050, pw_13050, pa_13051, pw_13051, pa_13052, pw_13052, pa_13053, pw_13053, pa_13054, pw_13054, pa_13055, pw_13055, pa_13056, pw_13056, pa_13057, pw_13057, pa_13058, pw_13058, pa_13059, pw_13059, pa_13060, pw_13060, pa_13061, pw_13061, pa_13062, pw_13062, pa_13063, pw_13063, pa_13064, pw_13064, pa_13065, pw_13065, pa_13066, pw_13066, pa_13067, pw_13067, ps_0, ps_1, ps_2, ps_3, ps_4, ps_11, ps_19, ps_30, ps_40, ps_41, ln_13005, ln_13006, ln_13007, ln_14008, ln_13009, ln_13010, ln_13012, ln_13013, ln_13014, ln_13015, ln_13016, ln_13017, ln_13018, ln_13020, ln_13021, ln_13022, ln_13023, ln_13024, ln_13025, ln_13026, ln_13027, ln_13028, ln_13029, ln_13031, ln_13032, ln_13033, ln_14034, ln_13035, ln_13036, ln_13037, ln_13038, ln_13039, ln_13042, ln_13043, ln_13044, ln_13045, ln_13046, ln_13047, ln_13048, ln_13049, ln_13050, ln_13051, ln_13052, ln_13053, ln_13054, ln_13055, ln_13056, ln_13057, ln_13058, ln_13059, ln_13060, ln_13061, ln_13062, ln_13063, ln_13064, ln_13065, ln_13066, ln_13067, gd_t, w_eq, mx, h1, mt, h2, m_in, h3, h4, ne, mp, mn, e6, wd, e7]
          · have e5 : (N 12000 19) = 150 := by omega
            refine SR.r j 3 (by omega) ?_ ?_
            · simp (disch := omega) only [aok, up_s, true_and, false_and, and_true, and_false, if_true, if_false, ↓reduceIte, ↓Option.bind_some, Int.reduceEq, Int.reduceNe, Int.reduceLT, Int.reduceLE, gd_true, gd_false, bind_b, q10, eq_self, reduceCtorEq, not_true_eq_false, not_false_eq_true, ne_eq, cr_11000, cr_15000, cr_16000, cr_20000, cr_20001, cr_21000, cr_22000, cr_25000, cr_1000, cr_2000, cr_3000, cr_3003, cr_3006, cr_4000, cr_5000, cr_6000, cr_7000, cr_8000, cr_9000, cr_10000, cr_13500, cr_17000, cr_17100, cr_17103, cr_17106, cr_19000, cr_20100, cr_21100, cr_23000, cr_24000, cw_11000, cw_15000, cw_16000, cw_20000, cw_20001, cw_21000, cw_22000, cw_25000, cw_1000, cw_2000, cw_3000, cw_3003, cw_3006, cw_4000, cw_5000, cw_6000, cw_7000, cw_8000, cw_9000, cw_10000, cw_13500, cw_17000, cw_17100, cw_17103, cw_17106, cw_19000, cw_20100, cw_21100, cw_23000, cw_24000, lc_13500, lc_15000, lc_16000, lc_17000, lc_17100, lc_17103, lc_17106, lc_19000, lc_20000, lc_20001, lc_20100, lc_21000, lc_21100, lc_22000, lc_23000, lc_24000, lc_25000, gd_t, w_eq, thT, thU, psT, psU, hnT, thr_mk, ↓Option.bind_some, hx, h1, ht, h2, hp, c_within, h3, h4, b10, h5]
            · unfold p_X11_sendLater
              simp (disch := omega) only [aok, up_s, true_and, false_and, and_true, and_false, if_true, if_false, ↓reduceIte, ↓Option.bind_some, Int.reduceEq, Int.reduceNe, Int.reduceLT, Int.reduceLE, gd_true, gd_false, bind_b, q10, eq_self, reduceCtorEq, not_true_eq_false, not_false_eq_true, ne_eq, pt_0, pt_1, pt_2, pt_3, pt_4, pt_5, pt_6, pt_7, pt_8, pt_9, pt_10, pt_11, pt_12, pt_13, pt_14, pt_15, pt_16, pt_17, pt_18, pt_19, pt_20, pt_21, pt_22, pt_23, pt_24, pt_25, pt_26, pt_27, pt_28, pt_29, pt_30, pt_31, pt_32, pt_33, pt_34, pt_35, pt_36, pt_37, pt_38, pt_39, pt_40, pt_41, pt_42, pt_43, pt_44, pt_45, pt_46, pt_47, pt_48, pt_49, pt_50, pt_51, pt_52, pt_53, pt_54, pt_55, pt_56, pt_57, pt_58, pt_59, pt_60, pt_61, pt_62, pt_63, pt_64, pt_65, pt_66, pt_67, pa_13005, pw_13005, pa_13006, pw_13006, pa_13007, pw_13007, pa_14008, pw_14008, pa_13009, pw_13009, pa_13010, pw_13010, pa_13012, pw_13012, pa_13013, pw_13013, pa_13014, pw_13014, pa_13015, pw_13015, pa_13016, pw_13016, pa_13017, pw_13017, pa_13018, pw_13018, pa_13020, pw_13020, pa_13021, pw_13021, pa_13022, pw_13022, pa_13023, pw_13023, pa_13024, pw_13024, pa_13025, pw_13025, pa_13026, pw_13026, pa_13027, pw_13027, pa_13028, pw_13028, pa_13029, pw_13029, pa_13031, pw_13031, pa_13032, pw_13032, pa_13033, pw_13033, pa_14034, pw_14034, pa_13035, pw_13035, pa_13036, pw_13036, pa_13037, pw_13037, pa_13038, pw_13038, pa_13039, pw_13039, pa_13042, pw_13042, pa_13043, pw_13043, pa_13044, pw_13044, pa_13045, pw_13045, pa_13046, pw_13046, pa_13047, pw_13047, pa_13048, pw_13048, pa_13049, pw_13049, pa_13050, pw_13050, pa_13051, pw_13051, pa_13052, pw_13052, pa_13053, pw_13053, pa_13054, pw_13054, pa_13055, pw_13055, pa_13056, pw_13056, pa_13057, pw_13057, pa_13058, pw_13058, pa_13059, pw_13059, pa_13060, pw_13060, pa_13061, pw_13061, pa_13062, pw_13062, pa_13063, pw_13063, pa_13064, pw_13064, pa_13065, pw_13065, pa_13066, pw_13066, pa_13067, pw_13067, ps_0, ps_1, ps_2, ps_3, ps_4, ps_11, ps_19, ps_30, ps_40, ps_41, ln_13005, ln_13006, ln_13007, ln_14008, ln_13009, ln_13010, ln_13012, ln_13013, ln_13014, ln_13015, ln_13016, ln_13017, ln_13018, ln_13020, ln_13021, ln_13022, ln_13023, ln_13024, ln_13025, ln_13026, ln_13027, ln_13028, ln_13029, ln_13031, ln_13032, ln_13033, ln_14034, ln_13035, ln_13036, ln_13037, ln_13038, ln_13039, ln_13042, ln_13043, ln_13044, ln_13045, ln_13046, ln_13047, ln_13048, ln_13049, ln_13050, ln_13051, ln_13052, ln_13053, ln_13054, ln_13055, ln_13056, ln_13057, ln_13058, ln_13059, ln_13060, ln_13061, ln_13062, ln_13063, ln_13064, ln_13065, ln_13066, ln_13067, gd_t, w_eq, mx, h1, mt, h2, m_in, h3, h4, e5, m_refuse]
        · refine SR.r j 2 (by omega) ?_ ?_
          · simp (disch := omega) only [aok, up_s, true_and, false_and, and_true, and_false, if_true, if_false, ↓reduceIte, ↓Option.bind_some, Int.reduceEq, Int.reduceNe, Int.reduceLT, Int.reduceLE, gd_true, gd_false, bind_b, q10, eq_self, reduceCtorEq, not_true_eq_false, not_false_eq_true, ne_eq, cr_11000, cr_15000, cr_16000, cr_20000, cr_20001, cr_21000, cr_22000, cr_25000, cr_1000, cr_2000, cr_3000, cr_3003, cr_3006, cr_4000, cr_5000, cr_6000, cr_7000, cr_8000, cr_9000, cr_10000, cr_13500, cr_17000, cr_17100, cr_17103, cr_17106, cr_19000, cr_20100, cr_21100, cr_23000, cr_24000, cw_11000, cw_15000, cw_16000, cw_20000, cw_20001, cw_21000, cw_22000, cw_25000, cw_1000, cw_2000, cw_3000, cw_3003, cw_3006, cw_4000, cw_5000, cw_6000, cw_7000, cw_8000, cw_9000, cw_10000, cw_13500, cw_17000, cw_17100, cw_17103, cw_17106, cw_19000, cw_20100, cw_21100, cw_23000, cw_24000, lc_13500, lc_15000, lc_16000, lc_17000, lc_17100, lc_17103, lc_17106, lc_19000, lc_20000, lc_20001, lc_20100, lc_21000, lc_21100, lc_22000, lc_23000, lc_24000, lc_25000, gd_t, w_eq, thT, thU, psT, psU, hnT, thr_mk, ↓Option.bind_some, hx, h1, ht, h2, hp, c_within, h3, h4]
          · unfold p_X11_sendLater
            simp (disch := omega) only [aok, up_s, true_and, false_and, and_true, and_false, if_true, if_false, ↓reduceIte, ↓Option.bind_some, Int.reduceEq, Int.reduceNe, Int.reduceLT, Int.reduceLE, gd_true, gd_false, bind_b, q10, eq_self, reduceCtorEq, not_true_eq_false, not_false_eq_true, ne_eq, pt_0, pt_1, pt_2, pt_3, pt_4, pt_5, pt_6, pt_7, pt_8, pt_9, pt_10, pt_11, pt_12, pt_13, pt_14, pt_15, pt_16, pt_17, pt_18, pt_19, pt_20, pt_21, pt_22, pt_23, pt_24, pt_25, pt_26, pt_27, pt_28, pt_29, pt_30, pt_31, pt_32, pt_33, pt_34, pt_35, pt_36, pt_37, pt_38, pt_39, pt_40, pt_41, pt_42, pt_43, pt_44, pt_45, pt_46, pt_47, pt_48, pt_49, pt_50, pt_51, pt_52, pt_53, pt_54, pt_55, pt_56, pt_57, pt_58, pt_59, pt_60, pt_61, pt_62, pt_63, pt_64, pt_65, pt_66, pt_67, pa_13005, pw_13005, pa_13006, pw_13006, pa_13007, pw_13007, pa_14008, pw_14008, pa_13009, pw_13009, pa_13010, pw_13010, pa_13012, pw_13012, pa_13013, pw_13013, pa_13014, pw_13014, pa_13015, pw_13015, pa_13016, pw_13016, pa_13017, pw_13017, pa_13018, pw_13018, pa_13020, pw_13020, pa_13021, pw_13021, pa_13022, pw_13022, pa_13023, pw_13023, pa_13024, pw_13024, pa_13025, pw_13025, pa_13026, pw_13026, pa_13027, pw_13027, pa_13028, pw_13028, pa_13029, pw_13029, pa_13031, pw_13031, pa_13032, pw_13032, pa_13033, pw_13033, pa_14034, pw_14034, pa_13035, pw_13035, pa_13036, pw_13036, pa_13037, pw_13037, pa_13038, pw_13038, pa_13039, pw_13039, pa_13042, pw_13042, pa_13043, pw_13043, pa_13044, pw_13044, pa_13045, pw_13045, pa_13046, pw_13046, pa_13047, pw_13047, pa_13048, pw_13048, pa_13049, pw_13049, pa_13050, pw_13050, pa_13051, pw_13051, pa_13052, pw_13052, pa_13053, pw_13053, pa_13054, pw_13054, pa_13055, pw_13055, pa_13056, pw_13056, pa_13057, pw_13057, pa_13058, pw_13058, pa_13059, pw_13059, pa_13060, pw_13060, pa_13061, pw_13061, pa_13062, pw_13062, pa_13063, pw_13063, pa_13064, pw_13064, pa_13065, pw_13065, pa_13066, pw_13066, pa_13067, pw_13067, ps_0, ps_1, ps_2, ps_3, ps_4, ps_11, ps_19, ps_30, ps_40, ps_41, ln_13005, ln_13006, ln_13007, ln_14008, ln_13009, ln_13010, ln_13012, ln_13013, ln_13014, ln_13015, ln_13016, ln_13017, ln_13018, ln_13020, ln_13021, ln_13022, ln_13023, ln_13024, ln_13025, ln_13026, ln_13027, ln_13028, ln_13029, ln_13031, ln_13032, ln_13033, ln_14034, ln_13035, ln_13036, ln_13037, ln_13038, ln_13039, ln_13042, ln_13043, ln_13044, ln_13045, ln_13046, ln_13047, ln_13048, ln_13049, ln_13050, ln_13051, ln_13052, ln_13053, ln_13054, ln_13055, ln_13056, ln_13057, ln_13058, ln_13059, ln_13060, ln_13061, ln_13062, ln_13063, ln_13064, ln_13065, ln_13066, ln_13067, gd_t, w_eq, mx, h1, mt, h2, m_in, h3, h4, m_refuse]
      · refine SR.r j 2 (by omega) ?_ ?_
        · simp (disch := omega) only [aok, up_s, true_and, false_and, and_true, and_false, if_true, if_false, ↓reduceIte, ↓Option.bind_some, Int.reduceEq, Int.reduceNe, Int.reduceLT, Int.reduceLE, gd_true, gd_false, bind_b, q10, eq_self, reduceCtorEq, not_true_eq_false, not_false_eq_true, ne_eq, cr_11000, cr_15000, cr_16000, cr_20000, cr_20001, cr_21000, cr_22000, cr_25000, cr_1000, cr_2000, cr_3000, cr_3003, cr_3006, cr_4000, cr_5000, cr_6000, cr_7000, cr_8000, cr_9000, cr_10000, cr_13500, cr_17000, cr_17100, cr_17103, cr_17106, cr_19000, cr_20100, cr_21100, cr_23000, cr_24000, cw_11000, cw_15000, cw_16000, cw_20000, cw_20001, cw_21000, cw_22000, cw_25000, cw_1000, cw_2000, cw_3000, cw_3003, cw_3006, cw_4000, cw_5000, cw_6000, cw_7000, cw_8000, cw_9000, cw_10000, cw_13500, cw_17000, cw_17100, cw_17103, cw_17106, cw_19000, cw_20100, cw_21100, cw_23000, cw_24000, lc_13500, lc_15000, lc_16000, lc_17000, lc_17100, lc_17103, lc_17106, lc_19000, lc_20000, lc_20001, lc_20100, lc_21000, lc_21100, lc_22000, lc_23000, lc_24000, lc_25000, gd_t, w_eq, thT, thU, psT, psU, hnT, thr_mk, ↓Option.bind_some, hx, h1, ht, h2, hp, c_within, h3]
        · unfold p_X11_sendLater
          simp (disch := omega) only [aok, up_s, true_and, false_and, and_true, and_false, if_true, if_false, ↓reduceIte, ↓Option.bind_some, Int.reduceEq, Int.reduceNe, Int.reduceLT, Int.reduceLE, gd_true, gd_false, bind_b, q10, eq_self, reduceCtorEq, not_true_eq_false, not_false_eq_true, ne_eq, pt_0, pt_1, pt_2, pt_3, pt_4, pt_5, pt_6, pt_7, pt_8, pt_9, pt_10, pt_11, pt_12, pt_13, pt_14, pt_15, pt_16, pt_17, pt_18, pt_19, pt_20, pt_21, pt_22, pt_23, pt_24, pt_25, pt_26, pt_27, pt_28, pt_29, pt_30, pt_31, pt_32, pt_33, pt_34, pt_35, pt_36, pt_37, pt_38, pt_39, pt_40, pt_41, pt_42, pt_43, pt_44, pt_45, pt_46, pt_47, pt_48, pt_49, pt_50, pt_51, pt_52, pt_53, pt_54, pt_55, pt_56, pt_57, pt_58, pt_59, pt_60, pt_61, pt_62, pt_63, pt_64, pt_65, pt_66, pt_67, pa_13005, pw_13005, pa_13006, pw_13006, pa_13007, pw_13007, pa_14008, pw_14008, pa_13009, pw_13009, pa_13010, pw_13010, pa_13012, pw_13012, pa_13013, pw_13013, pa_13014, pw_13014, pa_13015, pw_13015, pa_13016, pw_13016, pa_13017, pw_13017, pa_13018, pw_13018, pa_13020, pw_13020, pa_13021, pw_13021, pa_13022, pw_13022, pa_13023, pw_13023, pa_13024, pw_13024, pa_13025, pw_13025, pa_13026, pw_13026, pa_13027, pw_13027, pa_13028, pw_13028, pa_13029, pw_13029, pa_13031, pw_13031, pa_13032, pw_13032, pa_13033, pw_13033, pa_14034, pw_14034, pa_13035, pw_13035, pa_13036, pw_13036, pa_13037, pw_13037, pa_13038, pw_13038, pa_13039, pw_13039, pa_13042, pw_13042, pa_13043, pw_13043, pa_13044, pw_13044, pa_13045, pw_13045, pa_13046, pw_13046, pa_13047, pw_13047, pa_13048, pw_13048, pa_13049, pw_13049, pa_13050, pw_13050, pa_13051, pw_13051, pa_13052, pw_13052, pa_13053, pw_13053, pa_13054, pw_13054, pa_13055, pw_13055, pa_13056, pw_13056, pa_13057, pw_13057, pa_13058, pw_13058, pa_13059, pw_13059, pa_13060, pw_13060, pa_13061, pw_13061, pa_13062, pw_13062, pa_13063, pw_13063, pa_13064, pw_13064, pa_13065, pw_13065, pa_13066, pw_13066, pa_13067, pw_13067, ps_0, ps_1, ps_2, ps_3, ps_4, ps_11, ps_19, ps_30, ps_40, ps_41, ln_13005, ln_13006, ln_13007, ln_14008, ln_13009, ln_13010, ln_13012, ln_13013, ln_13014, ln_13015, ln_13016, ln_13017, ln_13018, ln_13020, ln_13021, ln_13022, ln_13023, ln_13024, ln_13025, ln_13026, ln_13027, ln_13028, ln_13029, ln_13031, ln_13032, ln_13033, ln_14034, ln_13035, ln_13036, ln_13037, ln_13038, ln_13039, ln_13042, ln_13043, ln_13044, ln_13045, ln_13046, ln_13047, ln_13048, ln_13049, ln_13050, ln_13051, ln_13052, ln_13053, ln_13054, ln_13055, ln_13056, ln_13057, ln_13058, ln_13059, ln_13060, ln_13061, ln_13062, ln_13063, ln_13064, ln_13065, ln_13066, ln_13067, gd_t, w_eq, mx, h1, mt, h2, m_in, h3, m_refuse]
    · refine SR.r j 1 (by omega) ?_ ?_
      · simp (disch := omega) only [aok, up_s, true_and, false_and, and_true, and_false, if_true, if_false, ↓reduceIte, ↓Option.bind_some, Int.reduceEq, Int.reduceNe, Int.reduceLT, Int.reduceLE, gd_true, gd_false, bind_b, q10, eq_self, reduceCtorEq, not_true_eq_false, not_false_eq_true, ne_eq, cr_11000, cr_15000, cr_16000, cr_20000, cr_20001, cr_21000, cr_22000, cr_25000, cr_1000, cr_2000, cr_3000, cr_3003, cr_3006, cr_4000, cr_5000, cr_6000, cr_7000, cr_8000, cr_9000, cr_10000, cr_13500, cr_17000, cr_17100, cr_17103, cr_17106, cr_19000, cr_20100, cr_21100, cr_23000, cr_24000, cw_11000, cw_15000, cw_16000, cw_20000, cw_20001, cw_21000, cw_22000, cw_25000, cw_1000, cw_2000, cw_3000, cw_3003, cw_3006, cw_4000, cw_5000, cw_6000, cw_7000, cw_8000, cw_9000, cw_10000, cw_13500, cw_17000, cw_17100, cw_17103, cw_17106, cw_19000, cw_20100, cw_21100, cw_23000, cw_24000, lc_13500, lc_15000, lc_16000, lc_17000, lc_17100, lc_17103, lc_17106, lc_19000, lc_20000, lc_20001, lc_20100, lc_21000, lc_21100, lc_22000, lc_23000, lc_24000, lc_25000, gd_t, w_eq, thT, thU, psT, psU, hnT, thr_mk, ↓Option.bind_some, hx, h1, ht, h2]
      · unfold p_X11_sendLater
        simp (disch := omega) only [aok, up_s, true_and, false_and, and_true, and_false, if_true, if_false, ↓reduceIte, ↓Option.bind_some, Int.reduceEq, Int.reduceNe, Int.reduceLT, Int.reduceLE, gd_true, gd_false, bind_b, q10, eq_self, reduceCtorEq, not_true_eq_false, not_false_eq_true, ne_eq, pt_0, pt_1, pt_2, pt_3, pt_4, pt_5, pt_6, pt_7, pt_8, pt_9, pt_10, pt_11, pt_12, pt_13, pt_14, pt_15, pt_16, pt_17, pt_18, pt_19, pt_20, pt_21, pt_22, pt_23, pt_24, pt_25, pt_26, pt_27, pt_28, pt_29, pt_30, pt_31, pt_32, pt_33, pt_34, pt_35, pt_36, pt_37, pt_38, pt_39, pt_40, pt_41, pt_42, pt_43, pt_44, pt_45, pt_46, pt_47, pt_48, pt_49, pt_50, pt_51, pt_52, pt_53, pt_54, pt_55, pt_56, pt_57, pt_58, pt_59, pt_60, pt_61, pt_62, pt_63, pt_64, pt_65, pt_66, pt_67, pa_13005, pw_13005, pa_13006, pw_13006, pa_13007, pw_13007, pa_14008, pw_14008, pa_13009, pw_13009, pa_13010, pw_13010, pa_13012, pw_13012, pa_13013, pw_13013, pa_13014, pw_13014, pa_13015, pw_13015, pa_13016, pw_13016, pa_13017, pw_13017, pa_13018, pw_13018, pa_13020, pw_13020, pa_13021, pw_13021, pa_13022, pw_13022, pa_13023, pw_13023, pa_13024, pw_13024, pa_13025, pw_13025, pa_13026, pw_13026, pa_13027, pw_13027, pa_13028, pw_13028, pa_13029, pw_13029, pa_13031, pw_13031, pa_13032, pw_13032, pa_13033, pw_13033, pa_14034, pw_14034, pa_13035, pw_13035, pa_13036, pw_13036, pa_13037, pw_13037, pa_13038, pw_13038, pa_13039, pw_13039, pa_13042, pw_13042, pa_13043, pw_13043, pa_13044, pw_13044, pa_13045, pw_13045, pa_13046, pw_13046, pa_13047, pw_13047, pa_13048, pw_13048, pa_13049, pw_13049, pa_13050, pw_13050, pa_13051, pw_13051, pa_13052, pw_13052, pa_13053, pw_13053, pa_13054, pw_13054, pa_13055, pw_13055, pa_13056, pw_13056, pa_13057, pw_13057, pa_13058, pw_13058, pa_13059, pw_13059, pa_13060, pw_13060, pa_13061, pw_13061, pa_13062, pw_13062, pa_13063, pw_13063, pa_13064, pw_13064, pa_13065, pw_13065, pa_13066, pw_13066, pa_13067, pw_13067, ps_0, ps_1, ps_2, ps_3, ps_4, ps_11, ps_19, ps_30, ps_40, ps_41, ln_13005, ln_13006, ln_13007, ln_14008, ln_13009, ln_13010, ln_13012, ln_13013, ln_13014, ln_13015, ln_13016, ln_13017, ln_13018, ln_13020, ln_13021, ln_13022, ln_13023, ln_13024, ln_13025, ln_13026, ln_13027, ln_13028, ln_13029, ln_13031, ln_13032, ln_13033, ln_14034, ln_13035, ln_13036, ln_13037, ln_13038, ln_13039, ln_13042, ln_13043, ln_13044, ln_13045, ln_13046, ln_13047, ln_13048, ln_13049, ln_13050, ln_13051, ln_13052, ln_13053, ln_13054, ln_13055, ln_13056, ln_13057, ln_13058, ln_13059, ln_13060, ln_13061, ln_13062, ln_13063, ln_13064, ln_13065, ln_13066, ln_13067, gd_t, w_eq, mx, h1, mt, h2, m_refuse]
  · refine SR.r j 1 (by omega) ?_ ?_
    · simp (disch := omega) only [aok, up_s, true_and, false_and, and_true, and_false, if_true, if_false, ↓reduceIte, ↓Option.bind_some, Int.reduceEq, Int.reduceNe, Int.reduceLT, Int.reduceLE, gd_true, gd_false, bind_b, q10, eq_self, reduceCtorEq, not_true_eq_false, not_false_eq_true, ne_eq, cr_11000, cr_15000, cr_16000, cr_20000, cr_20001, cr_21000, cr_22000, cr_25000, cr_1000, cr_2000, cr_3000, cr_3003, cr_3006, cr_4000, cr_5000, cr_6000, cr_7000, cr_8000, cr_9000, cr_10000, cr_13500, cr_17000, cr_17100, cr_17103, cr_17106, cr_19000, cr_20100, cr_21100, cr_23000, cr_24000, cw_11000, cw_15000, cw_16000, cw_20000, cw_20001, cw_21000, cw_22000, cw_25000, cw_1000, cw_2000, cw_3000, cw_3003, cw_3006, cw_4000, cw_5000, cw_6000, cw_7000, cw_8000, cw_9000, cw_10000, cw_13500, cw_17000, cw_17100, cw_17103, cw_17106, cw_19000, cw_20100, cw_21100, cw_23000, cw_24000, lc_13500, lc_15000, lc_16000, lc_17000, lc_17100, lc_17103, lc_17106, lc_19000, lc_20000, lc_20001, lc_20100, lc_21000, lc_21100, lc_22000, lc_23000, lc_24000, lc_25000, gd_t, w_eq, thT, thU, psT, psU, hnT, thr_mk, ↓Option.bind_some, hx, h1]
    · unfold p_X11_sendLater
      simp (disch := omega) only [aok, up_s, true_and, false_and, and_true, and_false, if_true, if_false, ↓reduceIte, ↓Option.bind_some, Int.reduceEq, Int.reduceNe, Int.reduceLT, Int.reduceLE, gd_true, gd_false, bind_b, q10, eq_self, reduceCtorEq, not_true_eq_false, not_false_eq_true, ne_eq, pt_0, pt_1, pt_2, pt_3, pt_4, pt_5, pt_6, pt_7, pt_8, pt_9, pt_10, pt_11, pt_12, pt_13, pt_14, pt_15, pt_16, pt_17, pt_18, pt_19, pt_20, pt_21, pt_22, pt_23, pt_24, pt_25, pt_26, pt_27, pt_28, pt_29, pt_30, pt_31, pt_32, pt_33, pt_34, pt_35, pt_36, pt_37, pt_38, pt_39, pt_40, pt_41, pt_42, pt_43, pt_44, pt_45, pt_46, pt_47, pt_48, pt_49, pt_50, pt_51, pt_52, pt_53, pt_54, pt_55, pt_56, pt_57, pt_58, pt_59, pt_60, pt_61, pt_62, pt_63, pt_64, pt_65, pt_66, pt_67, pa_13005, pw_13005, pa_13006, pw_13006, pa_13007, pw_13007, pa_14008, pw_14008, pa_13009, pw_13009, pa_13010, pw_13010, pa_13012, pw_13012, pa_13013, pw_13013, pa_13014, pw_13014, pa_13015, pw_13015, pa_13016, pw_13016, pa_13017, pw_13017, pa_13018, pw_13018, pa_13020, pw_13020, pa_13021, pw_13021, pa_13022, pw_13022, pa_13023, pw_13023, pa_13024, pw_13024, pa_13025, pw_13025, pa_13026, pw_13026, pa_13027, pw_13027, pa_13028, pw_13028, pa_13029, pw_13029, pa_13031, pw_13031, pa_13032, pw_13032, pa_13033, pw_13033, pa_14034, pw_14034, pa_13035, pw_13035, pa_13036, pw_13036, pa_13037, pw_13037, pa_13038, pw_13038, pa_13039, pw_13039, pa_13042, pw_13042, pa_13043, pw_13043, pa_13044, pw_13044, pa_13045, pw_13045, pa_13046, pw_13046, pa_13047, pw_13047, pa_13048, pw_13048, pa_13049, pw_13049, pa_13050, pw_13050, pa_13051, pw_13051, pa_13052, pw_13052, pa_13053, pw_13053, pa_13054, pw_13054, pa_13055, pw_13055, pa_13056, pw_13056, pa_13057, pw_13057, pa_13058, pw_13058, pa_13059, pw_13059, pa_13060, pw_13060, pa_13061, pw_13061, pa_13062, pw_13062, pa_13063, pw_13063, pa_13064, pw_13064, pa_13065, pw_13065, pa_13066, pw_13066, pa_13067, pw_13067, ps_0, ps_1, ps_2, ps_3, ps_4, ps_11, ps_19, ps_30, ps_40, ps_41, ln_13005, ln_13006, ln_13007, ln_14008, ln_13009, ln_13010, ln_13012, ln_13013, ln_13014, ln_13015, ln_13016, ln_13017, ln_13018, ln_13020, ln_13021, ln_13022, ln_13023, ln_13024, ln_13025, ln_13026, ln_13027, ln_13028, ln_13029, ln_13031, ln_13032, ln_13033, ln_14034, ln_13035, ln_13036, ln_13037, ln_13038, ln_13039, ln_13042, ln_13043, ln_13044, ln_13045, ln_13046, ln_13047, ln_13048, ln_13049, ln_13050, ln_13051, ln_13052, ln_13053, ln_13054, ln_13055, ln_13056, ln_13057, ln_13058, ln_13059, ln_13060, ln_13061, ln_13062, ln_13063, ln_13064, ln_13065, ln_13066, ln_13067, gd_t, w_eq, mx, h1, m_refuse]
