/-! PURE PART, a01: a call of the law: the class's answer is the reference's; behind it the ghost has made the same call -/
/-- of the ghost's new table what the ghost may write -/
def mg (N N1 : Nd) : Nd := fun a j => if gho a = true ∧ ¬ (a = 12000 ∧ (j = 0 ∨ isptr j = true)) then N1 a j else N a j
theorem mid_gho {a : Int} (h : gho a = true) : mid a = true := by
  unfold gho at h
  unfold mid
  simp at h ⊢
  omega
theorem ghm_mk {C D : Cd} {N N1 : Nd} {A B : Ad} : ghm (mk C N A) (mk D N1 B) = mk C (mg N N1) A := by
  refine Prod.ext ?_ rfl
  funext a j
  show (if gho a = true ∧ ¬ (a = 12000 ∧ j = 0) then (if mid a = true then (if a = 12000 ∧ isptr j = true then pv j else N1 a j) else D (bs a) (a - bs a) j) else (if mid a = true then (if a = 12000 ∧ isptr j = true then pv j else N a j) else C (bs a) (a - bs a) j)) = (if mid a = true then (if a = 12000 ∧ isptr j = true then pv j else mg N N1 a j) else C (bs a) (a - bs a) j)
  by_cases h : gho a = true ∧ ¬ (a = 12000 ∧ j = 0)
  · rw [if_pos h, if_pos (mid_gho h.1), if_pos (mid_gho h.1)]
    by_cases e : a = 12000 ∧ isptr j = true
    · rw [if_pos e, if_pos e]
    · rw [if_neg e, if_neg e]
      unfold mg
      rw [if_pos ⟨h.1, fun z => z.2.elim (fun q => h.2 ⟨z.1, q⟩) (fun q => e ⟨z.1, q⟩)⟩]
  · rw [if_neg h]
    by_cases m : mid a = true
    · rw [if_pos m, if_pos m]
      by_cases e : a = 12000 ∧ isptr j = true
      · rw [if_pos e, if_pos e]
      · rw [if_neg e, if_neg e]
        unfold mg
        rw [if_neg (fun z => h ⟨z.1, fun q => z.2 ⟨q.1, Or.inl q.2⟩⟩)]
    · rw [if_neg m, if_neg m]
theorem mk_cell {C : Cd} {N1 N2 : Nd} {A : Ad} (h : mk C N1 A = mk C N2 A) {a j : Int} (m : mid a = true) (e : ¬ (a = 12000 ∧ isptr j = true)) : N1 a j = N2 a j := by
  have q := congrFun (congrFun (congrArg Prod.fst h) a) j
  have q2 : (if mid a = true then (if a = 12000 ∧ isptr j = true then pv j else N1 a j) else C (bs a) (a - bs a) j) = (if mid a = true then (if a = 12000 ∧ isptr j = true then pv j else N2 a j) else C (bs a) (a - bs a) j) := q
  rw [if_pos m, if_pos m, if_neg e, if_neg e] at q2
  exact q2
theorem mg_inj {C : Cd} {N N1 N2 : Nd} {A : Ad} (h : mk C N1 A = mk C N2 A) : mg N N1 = mg N N2 := by
  funext a j
  unfold mg
  by_cases e : gho a = true ∧ ¬ (a = 12000 ∧ (j = 0 ∨ isptr j = true))
  · rw [if_pos e, if_pos e]
    exact mk_cell h (mid_gho e.1) (fun z => e.2 ⟨z.1, Or.inr z.2⟩)
  · rw [if_neg e, if_neg e]
/-- what a refused call, or a question, leaves -/
theorem mg_th {N : Nd} {v : Int} : mg N (up N 12000 0 v) = N := by
  funext a j
  unfold mg
  by_cases e : gho a = true ∧ ¬ (a = 12000 ∧ (j = 0 ∨ isptr j = true))
  · rw [if_pos e, up_s, if_neg (fun z => e.2 ⟨z.1, Or.inl z.2⟩)]
  · rw [if_neg e]
theorem mg_th2 {N : Nd} {u v : Int} : mg N (up (up N 12000 0 u) 12000 0 v) = N := by rw [up_tt, mg_th]
theorem wr_back {M : Mm} {a j v : Int} : wr (wr M a j v) a j (rd M a j) = M := by
  refine Prod.ext ?_ rfl
  funext b k
  show (if b = a ∧ k = j then M.1 a j else if b = a ∧ k = j then v else M.1 b k) = M.1 b k
  by_cases h : b = a ∧ k = j
  · rw [if_pos h, h.1, h.2]
  · rw [if_neg h, if_neg h]
theorem JJ.mg {n : Int} {C : Cd} {N N1 : Nd} {A : Ad} (j : JJ n C N1 A) : JJ n C (mg N N1) A := j
/-- how the two helpers of a call go on -/
def gK (kG f : Int → Mm → Option (Int × Mm)) (e : Option (Int × Int × Mm)) : Option (Int × Mm) := gd ((11000 : Int) ≠ 0) (e.bind (hnT f kG))
abbrev kG0 : Int → Mm → Option (Int × Mm) := fun v M3 => gd (aok 15000 0) ((some (wr M3 15000 0 v)).bind fun M5 => some (0, M5))
abbrev kL0 : Int → Mm → Option (Int × Mm) := fun v M => some (v, M)
abbrev KG2 (kG kL : Int → Mm → Option (Int × Mm)) : Prop := ∀ v M, ∃ u, kG v M = some (0, wr M 15000 0 u) ∧ kL v M = some (u, M)
theorem kg0 : KG2 kG0 kL0 := fun v M => ⟨v, by
  show gd (aok 15000 0) ((some (wr M 15000 0 v)).bind fun M5 => some (0, M5)) = _
  rw [gd_t (show aok 15000 0 by decide)]
  rfl, rfl⟩
theorem lk_some {e : Option (Int × Int × Mm)} {kG kL f f' : Int → Mm → Option (Int × Mm)} {k : Int} {M1 : Mm} (hk : KG2 kG kL) (hf : ∀ x M r, x ≠ 0 → f x M = some r → r.2 = M ∧ r.1 ≠ 0 ∧ ∃ a, f' x M = some (a, M) ∧ (a = -97 ∨ a = -98 ∨ a = -99)) (h : gK kG f e = some (k, M1)) : ∃ a M2, gK kL f' e = some (a, M2) ∧ ((k = 0 ∧ a = rd M1 15000 0 ∧ M2 = wr M1 15000 0 (rd M2 15000 0)) ∨ (k ≠ 0 ∧ (a = -97 ∨ a = -98 ∨ a = -99) ∧ M2 = M1)) := by
  unfold gK at h ⊢
  rw [gd_t (show (11000 : Int) ≠ 0 by decide)] at h ⊢
  cases e with
  | none => exact nomatch h
  | some r =>
    have h2 : hnT f kG r = some (k, M1) := h
    unfold hnT at h2
    show ∃ a M2, hnT f' kL r = some (a, M2) ∧ _
    unfold hnT
    by_cases x : r.1 = 0
    · obtain ⟨u, u1, u2⟩ := hk r.2.1 r.2.2
      rw [if_pos x, u1] at h2
      have h3 : (0, wr r.2.2 15000 0 u) = (k, M1) := Option.some.inj h2
      have h4 : M1 = wr r.2.2 15000 0 u := (congrArg Prod.snd h3).symm
      rw [if_pos x, u2]
      refine ⟨u, r.2.2, rfl, Or.inl ⟨(congrArg Prod.fst h3).symm, ?_, ?_⟩⟩
      · rw [h4, rd_wr, if_pos ⟨rfl, rfl⟩]
      · rw [h4, wr_back]
    · rw [if_neg x] at h2 ⊢
      obtain ⟨q1, q2, a, q3, q4⟩ := hf r.1 r.2.2 _ x h2
      have q1' : M1 = r.2.2 := q1
      exact ⟨a, r.2.2, q3, Or.inr ⟨q2, q4, q1'.symm⟩⟩
theorem q_call {n : Int} {C : Cd} {N : Nd} {A : Ad} {e : Option (Int × Int × Mm)} {kG kL f f' : Int → Mm → Option (Int × Mm)} {pm : Mm → Option (Int × Mm)} {eG eL : Option (Int × Mm)} (hG : eG = gK kG f e) (hL : eL = gK kL f' e) (hk : KG2 kG kL)
    (hf : ∀ x M r, x ≠ 0 → f x M = some r → r.2 = M ∧ r.1 ≠ 0 ∧ ∃ a, f' x M = some (a, M) ∧ (a = -97 ∨ a = -98 ∨ a = -99)) (s : SR n C N A eG pm) :
    ∃ k v N1 a C1 C2 A2, ghq eL (eG.bind fun g => pm g.2) = some (a, mk C2 (mg N N1) A2) ∧ pm (mk C1 N A2) = some (v, mk C1 N1 A2) ∧ N1 12000 0 = k ∧ (k = 0 → a = v) ∧ (k ≠ 0 → a = -97 ∨ a = -98 ∨ a = -99) ∧ JJ (n + 1) C2 (mg N N1) A2 ∧ JJ (n + 1) C1 N1 A2 := by
  obtain ⟨k, C1, A1, e1, v, N1, e2, e3, e4, jj⟩ := s
  rw [hG] at e1
  obtain ⟨a, M2, l1, l2⟩ := lk_some hk hf e1
  have jm : JJ (n + 1) C1 (mg N N1) A1 := jj.mg
  have hq : ghq eL (eG.bind fun g => pm g.2) = some (a, ghm M2 (mk C1 N1 A1)) := by
    rw [hL, l1, hG, e1]
    show (pm (mk C1 N A1)).bind (fun z => some (a, ghm M2 z.2)) = _
    rw [e2]
    rfl
  rcases l2 with ⟨k0, av, m2⟩ | ⟨k0, av, m2⟩
  · rw [cw_15000] at m2
    refine ⟨k, v, N1, a, C1, uq C1 15000 0 0 (rd M2 15000 0), A1, ?_, e2, e3, fun _ => ?_, fun z => absurd k0 z, jm.out, jj⟩
    · rw [hq]
      generalize rd M2 15000 0 = u at m2
      rw [m2, ghm_mk]
    · rw [av, cr_15000]; exact e4 k0
  · refine ⟨k, v, N1, a, C1, C1, A1, ?_, e2, e3, fun z => absurd z k0, fun _ => av, jm, jj⟩
    rw [hq, m2, ghm_mk]
/-- the model's side as it is known -/
theorem q_model {C : Cd} {N N1 N2 : Nd} {A : Ad} {pm : Mm → Option (Int × Mm)} {v v2 : Int} (h : pm (mk C N A) = some (v, mk C N1 A)) (h2 : pm (mk C N A) = some (v2, mk C N2 A)) : v = v2 ∧ mg N N1 = mg N N2 ∧ N1 12000 0 = N2 12000 0 := by
  have e := Option.some.inj (h.symm.trans h2)
  have e2 : mk C N1 A = mk C N2 A := congrArg Prod.snd e
  exact ⟨congrArg Prod.fst e, mg_inj e2, mk_cell e2 (by decide) (by decide)⟩
/-- a call, whose model's side is known -/
theorem q_known {n : Int} {C : Cd} {N N2 : Nd} {A : Ad} {e : Option (Int × Int × Mm)} {kG kL f f' : Int → Mm → Option (Int × Mm)} {pm : Mm → Option (Int × Mm)} {eG eL : Option (Int × Mm)} {v2 : Int} (hG : eG = gK kG f e) (hL : eL = gK kL f' e) (hk : KG2 kG kL)
    (hf : ∀ x M r, x ≠ 0 → f x M = some r → r.2 = M ∧ r.1 ≠ 0 ∧ ∃ a, f' x M = some (a, M) ∧ (a = -97 ∨ a = -98 ∨ a = -99)) (s : SR n C N A eG pm) (hm : ∀ C A, pm (mk C N A) = some (v2, mk C N2 A)) :
    ∃ z C2 A2, ghq eL (eG.bind fun g => pm g.2) = some (z, mk C2 (mg N N2) A2) ∧ (N2 12000 0 = 0 → z = v2) ∧ (N2 12000 0 ≠ 0 → z = -97 ∨ z = -98 ∨ z = -99) ∧ JJ (n + 1) C2 (mg N N2) A2 := by
  obtain ⟨k, v, N1, a, C1, C2, A2, h1, h2, h3, h4, h5, h6, -⟩ := q_call hG hL hk hf s
  obtain ⟨m1, m2, m3⟩ := q_model h2 (hm C1 A2)
  rw [m2] at h1 h6
  rw [← h3, m3] at h4 h5
  exact ⟨a, C2, A2, h1, fun z => (h4 z).trans m1, h5, h6⟩
