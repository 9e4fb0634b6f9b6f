/-! PURE PART, a02: the calls, one by one (by program: gen_calls.py) -/
abbrev h48 : Int → Mm → Option (Int × Mm) := fun x M => if x = 1 then some ((-97), M) else if x = 2 then some ((-98), M) else if x = 3 then some ((-99), M) else none
abbrev HF (f f2 : Int → Mm → Option (Int × Mm)) : Prop := ∀ x M r, x ≠ 0 → f x M = some r → r.2 = M ∧ r.1 ≠ 0 ∧ ∃ a, f2 x M = some (a, M) ∧ (a = -97 ∨ a = -98 ∨ a = -99)
theorem hf_23 : HF (fun x M => if x = 2 then some (1, M) else if x = 3 then some (2, M) else none) h48 := by
  intro x M r h0 h
  unfold h48
  by_cases e2 : x = 2
  · subst e2
    have h2 : some ((1 : Int), M) = some r := h
    have h3 := Option.some.inj h2
    subst h3
    exact ⟨rfl, (show (1 : Int) ≠ 0 by decide), -98, rfl, by decide⟩
  by_cases e3 : x = 3
  · subst e3
    have h2 : some ((2 : Int), M) = some r := h
    have h3 := Option.some.inj h2
    subst h3
    exact ⟨rfl, (show (2 : Int) ≠ 0 by decide), -99, rfl, by decide⟩
  dsimp only at h
  rw [if_neg e2] at h
  rw [if_neg e3] at h
  exact nomatch h
theorem L_topic {n : Int} {C : Cd} {N : Nd} {A : Ad} {a r c : Int} {N2 : Nd} {v2 : Int} (hc : c = 0 ∨ c = 1) (j : JJ n C N A) (hm : ∀ C A, p_X11_topic (mk C N A) 12000 a r c = some (v2, mk C N2 A)) : ∃ z C2 A2, q_L_topic (mk C N A) 11000 a r c = some (z, mk C2 (mg N N2) A2) ∧ (N2 12000 0 = 0 → z = v2) ∧ (N2 12000 0 ≠ 0 → z = -97 ∨ z = -98 ∨ z = -99) ∧ JJ (n + 1) C2 (mg N N2) A2 := q_known (kG := kG0) (kL := kL0) (f := fun x M => if x = 2 then some (1, M) else if x = 3 then some (2, M) else none) (f' := h48) (e := p_X10_topic (mk C N A) 11000 a r c) rfl rfl kg0 hf_23 (q_topic hc j) hm
theorem hf_13 : HF (fun x M => if x = 1 then some (1, M) else if x = 3 then some (2, M) else none) h48 := by
  intro x M r h0 h
  unfold h48
  by_cases e1 : x = 1
  · subst e1
    have h2 : some ((1 : Int), M) = some r := h
    have h3 := Option.some.inj h2
    subst h3
    exact ⟨rfl, (show (1 : Int) ≠ 0 by decide), -97, rfl, by decide⟩
  by_cases e3 : x = 3
  · subst e3
    have h2 : some ((2 : Int), M) = some r := h
    have h3 := Option.some.inj h2
    subst h3
    exact ⟨rfl, (show (2 : Int) ≠ 0 by decide), -99, rfl, by decide⟩
  dsimp only at h
  rw [if_neg e1] at h
  rw [if_neg e3] at h
  exact nomatch h
theorem L_compact {n : Int} {C : Cd} {N : Nd} {A : Ad} {p : Int} {N2 : Nd} {v2 : Int} (j : JJ n C N A) (hm : ∀ C A, p_X11_compact (mk C N A) 12000 p = some (v2, mk C N2 A)) : ∃ z C2 A2, q_L_compact (mk C N A) 11000 p = some (z, mk C2 (mg N N2) A2) ∧ (N2 12000 0 = 0 → z = v2) ∧ (N2 12000 0 ≠ 0 → z = -97 ∨ z = -98 ∨ z = -99) ∧ JJ (n + 1) C2 (mg N N2) A2 := q_known (kG := kG0) (kL := kL0) (f := fun x M => if x = 1 then some (1, M) else if x = 3 then some (2, M) else none) (f' := h48) (e := p_X10_compact (mk C N A) 11000 p) rfl rfl kg0 hf_13 (q_compact j) hm
theorem L_fail {n : Int} {C : Cd} {N : Nd} {A : Ad} {b : Int} {N2 : Nd} {v2 : Int} (j : JJ n C N A) (hm : ∀ C A, p_X11_fail (mk C N A) 12000 b = some (v2, mk C N2 A)) : ∃ z C2 A2, q_L_fail (mk C N A) 11000 b = some (z, mk C2 (mg N N2) A2) ∧ (N2 12000 0 = 0 → z = v2) ∧ (N2 12000 0 ≠ 0 → z = -97 ∨ z = -98 ∨ z = -99) ∧ JJ (n + 1) C2 (mg N N2) A2 := q_known (kG := kG0) (kL := kL0) (f := fun x M => if x = 1 then some (1, M) else if x = 3 then some (2, M) else none) (f' := h48) (e := p_X10_fail (mk C N A) 11000 b) rfl rfl kg0 hf_13 (q_fail j) hm
theorem L_restore {n : Int} {C : Cd} {N : Nd} {A : Ad} {b : Int} {N2 : Nd} {v2 : Int} (j : JJ n C N A) (hm : ∀ C A, p_X11_restore (mk C N A) 12000 b = some (v2, mk C N2 A)) : ∃ z C2 A2, q_L_restore (mk C N A) 11000 b = some (z, mk C2 (mg N N2) A2) ∧ (N2 12000 0 = 0 → z = v2) ∧ (N2 12000 0 ≠ 0 → z = -97 ∨ z = -98 ∨ z = -99) ∧ JJ (n + 1) C2 (mg N N2) A2 := q_known (kG := kG0) (kL := kL0) (f := fun x M => if x = 1 then some (1, M) else if x = 3 then some (2, M) else none) (f' := h48) (e := p_X10_restore (mk C N A) 11000 b) rfl rfl kg0 hf_13 (q_restore j) hm
theorem L_fetch {n : Int} {C : Cd} {N : Nd} {A : Ad} {b : Int} {N2 : Nd} {v2 : Int} (j : JJ n C N A) (hm : ∀ C A, p_X11_fetch (mk C N A) 12000 b = some (v2, mk C N2 A)) : ∃ z C2 A2, q_L_fetch (mk C N A) 11000 b = some (z, mk C2 (mg N N2) A2) ∧ (N2 12000 0 = 0 → z = v2) ∧ (N2 12000 0 ≠ 0 → z = -97 ∨ z = -98 ∨ z = -99) ∧ JJ (n + 1) C2 (mg N N2) A2 := q_known (kG := kG0) (kL := kL0) (f := fun x M => if x = 1 then some (1, M) else if x = 3 then some (2, M) else none) (f' := h48) (e := p_X10_fetch (mk C N A) 11000 b) rfl rfl kg0 hf_13 (q_fetch j) hm
theorem hf_2 : HF (fun x M => if x = 2 then some (1, M) else none) h48 := by
  intro x M r h0 h
  unfold h48
  by_cases e2 : x = 2
  · subst e2
    have h2 : some ((1 : Int), M) = some r := h
    have h3 := Option.some.inj h2
    subst h3
    exact ⟨rfl, (show (1 : Int) ≠ 0 by decide), -98, rfl, by decide⟩
  dsimp only at h
  rw [if_neg e2] at h
  exact nomatch h
theorem L_speed {n : Int} {C : Cd} {N : Nd} {A : Ad} {v : Int} {N2 : Nd} {v2 : Int} (j : JJ n C N A) (hm : ∀ C A, p_X11_speed (mk C N A) 12000 v = some (v2, mk C N2 A)) : ∃ z C2 A2, q_L_speed (mk C N A) 11000 v = some (z, mk C2 (mg N N2) A2) ∧ (N2 12000 0 = 0 → z = v2) ∧ (N2 12000 0 ≠ 0 → z = -97 ∨ z = -98 ∨ z = -99) ∧ JJ (n + 1) C2 (mg N N2) A2 := q_known (kG := kG0) (kL := kL0) (f := fun x M => if x = 2 then some (1, M) else none) (f' := h48) (e := p_X10_speed (mk C N A) 11000 v) rfl rfl kg0 hf_2 (q_speed j) hm
theorem L_tick {n : Int} {C : Cd} {N : Nd} {A : Ad} {t : Int} {N2 : Nd} {v2 : Int} (hn : n < 10000000) (j : JJ n C N A) (hm : ∀ C A, p_X11_tick (mk C N A) 12000 t = some (v2, mk C N2 A)) : ∃ z C2 A2, q_L_tick (mk C N A) 11000 t = some (z, mk C2 (mg N N2) A2) ∧ (N2 12000 0 = 0 → z = v2) ∧ (N2 12000 0 ≠ 0 → z = -97 ∨ z = -98 ∨ z = -99) ∧ JJ (n + 1) C2 (mg N N2) A2 := q_known (kG := kG0) (kL := kL0) (f := fun x M => if x = 2 then some (1, M) else none) (f' := h48) (e := p_X10_tick (mk C N A) 11000 t) rfl rfl kg0 hf_2 (q_tick hn j) hm
theorem hf_3 : HF (fun x M => if x = 3 then some (1, M) else none) h48 := by
  intro x M r h0 h
  unfold h48
  by_cases e3 : x = 3
  · subst e3
    have h2 : some ((1 : Int), M) = some r := h
    have h3 := Option.some.inj h2
    subst h3
    exact ⟨rfl, (show (1 : Int) ≠ 0 by decide), -99, rfl, by decide⟩
  dsimp only at h
  rw [if_neg e3] at h
  exact nomatch h
theorem L_producer {n : Int} {C : Cd} {N : Nd} {A : Ad} {N2 : Nd} {v2 : Int} (j : JJ n C N A) (hm : ∀ C A, p_X11_producer (mk C N A) 12000 = some (v2, mk C N2 A)) : ∃ z C2 A2, q_L_producer (mk C N A) 11000 = some (z, mk C2 (mg N N2) A2) ∧ (N2 12000 0 = 0 → z = v2) ∧ (N2 12000 0 ≠ 0 → z = -97 ∨ z = -98 ∨ z = -99) ∧ JJ (n + 1) C2 (mg N N2) A2 := q_known (kG := kG0) (kL := kL0) (f := fun x M => if x = 3 then some (1, M) else none) (f' := h48) (e := p_X10_producer (mk C N A) 11000) rfl rfl kg0 hf_3 (q_producer j) hm
theorem hf_12 : HF (fun x M => if x = 1 then some (1, M) else if x = 2 then some (2, M) else none) h48 := by
  intro x M r h0 h
  unfold h48
  by_cases e1 : x = 1
  · subst e1
    have h2 : some ((1 : Int), M) = some r := h
    have h3 := Option.some.inj h2
    subst h3
    exact ⟨rfl, (show (1 : Int) ≠ 0 by decide), -97, rfl, by decide⟩
  by_cases e2 : x = 2
  · subst e2
    have h2 : some ((2 : Int), M) = some r := h
    have h3 := Option.some.inj h2
    subst h3
    exact ⟨rfl, (show (2 : Int) ≠ 0 by decide), -98, rfl, by decide⟩
  dsimp only at h
  rw [if_neg e1] at h
  rw [if_neg e2] at h
  exact nomatch h
theorem L_sendSome {n : Int} {C : Cd} {N : Nd} {A : Ad} {x t c s : Int} {N2 : Nd} {v2 : Int} (j : JJ n C N A) (hm : ∀ C A, p_X11_sendSome (mk C N A) 12000 x t c s = some (v2, mk C N2 A)) : ∃ z C2 A2, q_L_sendSome (mk C N A) 11000 x t c s = some (z, mk C2 (mg N N2) A2) ∧ (N2 12000 0 = 0 → z = v2) ∧ (N2 12000 0 ≠ 0 → z = -97 ∨ z = -98 ∨ z = -99) ∧ JJ (n + 1) C2 (mg N N2) A2 := q_known (kG := kG0) (kL := kL0) (f := fun x M => if x = 1 then some (1, M) else if x = 2 then some (2, M) else none) (f' := h48) (e := p_X10_sendSome (mk C N A) 11000 x t c s) rfl rfl kg0 hf_12 (q_sendSome j) hm
theorem hf_123 : HF (fun x M => if x = 1 then some (1, M) else if x = 2 then some (2, M) else if x = 3 then some (3, M) else none) h48 := by
  intro x M r h0 h
  unfold h48
  by_cases e1 : x = 1
  · subst e1
    have h2 : some ((1 : Int), M) = some r := h
    have h3 := Option.some.inj h2
    subst h3
    exact ⟨rfl, (show (1 : Int) ≠ 0 by decide), -97, rfl, by decide⟩
  by_cases e2 : x = 2
  · subst e2
    have h2 : some ((2 : Int), M) = some r := h
    have h3 := Option.some.inj h2
    subst h3
    exact ⟨rfl, (show (2 : Int) ≠ 0 by decide), -98, rfl, by decide⟩
  by_cases e3 : x = 3
  · subst e3
    have h2 : some ((3 : Int), M) = some r := h
    have h3 := Option.some.inj h2
    subst h3
    exact ⟨rfl, (show (3 : Int) ≠ 0 by decide), -99, rfl, by decide⟩
  dsimp only at h
  rw [if_neg e1] at h
  rw [if_neg e2] at h
  rw [if_neg e3] at h
  exact nomatch h
theorem L_send {n : Int} {C : Cd} {N : Nd} {A : Ad} {x t k v : Int} {N2 : Nd} {v2 : Int} (hk : r32 k) (j : JJ n C N A) (hm : ∀ C A, p_X11_send (mk C N A) 12000 x t k v = some (v2, mk C N2 A)) : ∃ z C2 A2, q_L_send (mk C N A) 11000 x t k v = some (z, mk C2 (mg N N2) A2) ∧ (N2 12000 0 = 0 → z = v2) ∧ (N2 12000 0 ≠ 0 → z = -97 ∨ z = -98 ∨ z = -99) ∧ JJ (n + 1) C2 (mg N N2) A2 := q_known (kG := kG0) (kL := kL0) (f := fun x M => if x = 1 then some (1, M) else if x = 2 then some (2, M) else if x = 3 then some (3, M) else none) (f' := h48) (e := p_X10_send (mk C N A) 11000 x t k v) rfl rfl kg0 hf_123 (q_send hk j) hm
theorem L_sendLater {n : Int} {C : Cd} {N : Nd} {A : Ad} {x t k v d : Int} {N2 : Nd} {v2 : Int} (hk : r32 k) (j : JJ n C N A) (hm : ∀ C A, p_X11_sendLater (mk C N A) 12000 x t k v d = some (v2, mk C N2 A)) : ∃ z C2 A2, q_L_sendLater (mk C N A) 11000 x t k v d = some (z, mk C2 (mg N N2) A2) ∧ (N2 12000 0 = 0 → z = v2) ∧ (N2 12000 0 ≠ 0 → z = -97 ∨ z = -98 ∨ z = -99) ∧ JJ (n + 1) C2 (mg N N2) A2 := q_known (kG := kG0) (kL := kL0) (f := fun x M => if x = 1 then some (1, M) else if x = 2 then some (2, M) else if x = 3 then some (3, M) else none) (f' := h48) (e := p_X10_sendLater (mk C N A) 11000 x t k v d) rfl rfl kg0 hf_123 (q_sendLater hk j) hm
theorem L_resend {n : Int} {C : Cd} {N : Nd} {A : Ad} {x p : Int} {N2 : Nd} {v2 : Int} (j : JJ n C N A) (hm : ∀ C A, p_X11_resend (mk C N A) 12000 x p = some (v2, mk C N2 A)) : ∃ z C2 A2, q_L_resend (mk C N A) 11000 x p = some (z, mk C2 (mg N N2) A2) ∧ (N2 12000 0 = 0 → z = v2) ∧ (N2 12000 0 ≠ 0 → z = -97 ∨ z = -98 ∨ z = -99) ∧ JJ (n + 1) C2 (mg N N2) A2 := q_known (kG := kG0) (kL := kL0) (f := fun x M => if x = 1 then some (1, M) else if x = 3 then some (2, M) else none) (f' := h48) (e := p_X10_resend (mk C N A) 11000 x p) rfl rfl kg0 hf_13 (q_resend j) hm
theorem L_begin {n : Int} {C : Cd} {N : Nd} {A : Ad} {x : Int} {N2 : Nd} {v2 : Int} (hn : n < 10000000) (j : JJ n C N A) (hm : ∀ C A, p_X11_begin (mk C N A) 12000 x = some (v2, mk C N2 A)) : ∃ z C2 A2, q_L_begin (mk C N A) 11000 x = some (z, mk C2 (mg N N2) A2) ∧ (N2 12000 0 = 0 → z = v2) ∧ (N2 12000 0 ≠ 0 → z = -97 ∨ z = -98 ∨ z = -99) ∧ JJ (n + 1) C2 (mg N N2) A2 := q_known (kG := kG0) (kL := kL0) (f := fun x M => if x = 1 then some (1, M) else if x = 3 then some (2, M) else none) (f' := h48) (e := p_X10_begin (mk C N A) 11000 x) rfl rfl kg0 hf_13 (q_begin hn j) hm
theorem L_attach {n : Int} {C : Cd} {N : Nd} {A : Ad} {x g o : Int} {N2 : Nd} {v2 : Int} (j : JJ n C N A) (hm : ∀ C A, p_X11_attach (mk C N A) 12000 x g o = some (v2, mk C N2 A)) : ∃ z C2 A2, q_L_attach (mk C N A) 11000 x g o = some (z, mk C2 (mg N N2) A2) ∧ (N2 12000 0 = 0 → z = v2) ∧ (N2 12000 0 ≠ 0 → z = -97 ∨ z = -98 ∨ z = -99) ∧ JJ (n + 1) C2 (mg N N2) A2 := q_known (kG := kG0) (kL := kL0) (f := fun x M => if x = 1 then some (1, M) else if x = 3 then some (2, M) else none) (f' := h48) (e := p_X10_attach (mk C N A) 11000 x g o) rfl rfl kg0 hf_13 (q_attach j) hm
theorem L_commit {n : Int} {C : Cd} {N : Nd} {A : Ad} {x : Int} {N2 : Nd} {v2 : Int} (j : JJ n C N A) (hm : ∀ C A, p_X11_commit (mk C N A) 12000 x = some (v2, mk C N2 A)) : ∃ z C2 A2, q_L_commit (mk C N A) 11000 x = some (z, mk C2 (mg N N2) A2) ∧ (N2 12000 0 = 0 → z = v2) ∧ (N2 12000 0 ≠ 0 → z = -97 ∨ z = -98 ∨ z = -99) ∧ JJ (n + 1) C2 (mg N N2) A2 := q_known (kG := kG0) (kL := kL0) (f := fun x M => if x = 1 then some (1, M) else if x = 3 then some (2, M) else none) (f' := h48) (e := p_X10_commit (mk C N A) 11000 x) rfl rfl kg0 hf_13 (q_commit j) hm
theorem L_abort {n : Int} {C : Cd} {N : Nd} {A : Ad} {x : Int} {N2 : Nd} {v2 : Int} (j : JJ n C N A) (hm : ∀ C A, p_X11_abort (mk C N A) 12000 x = some (v2, mk C N2 A)) : ∃ z C2 A2, q_L_abort (mk C N A) 11000 x = some (z, mk C2 (mg N N2) A2) ∧ (N2 12000 0 = 0 → z = v2) ∧ (N2 12000 0 ≠ 0 → z = -97 ∨ z = -98 ∨ z = -99) ∧ JJ (n + 1) C2 (mg N N2) A2 := q_known (kG := kG0) (kL := kL0) (f := fun x M => if x = 1 then some (1, M) else if x = 3 then some (2, M) else none) (f' := h48) (e := p_X10_abort (mk C N A) 11000 x) rfl rfl kg0 hf_13 (q_abort j) hm
theorem L_group {n : Int} {C : Cd} {N : Nd} {A : Ad} {a : Int} {N2 : Nd} {v2 : Int} (j : JJ n C N A) (hm : ∀ C A, p_X11_group (mk C N A) 12000 a = some (v2, mk C N2 A)) : ∃ z C2 A2, q_L_group (mk C N A) 11000 a = some (z, mk C2 (mg N N2) A2) ∧ (N2 12000 0 = 0 → z = v2) ∧ (N2 12000 0 ≠ 0 → z = -97 ∨ z = -98 ∨ z = -99) ∧ JJ (n + 1) C2 (mg N N2) A2 := q_known (kG := kG0) (kL := kL0) (f := fun x M => if x = 2 then some (1, M) else if x = 3 then some (2, M) else none) (f' := h48) (e := p_X10_group (mk C N A) 11000 a) rfl rfl kg0 hf_23 (q_group j) hm
theorem L_join {n : Int} {C : Cd} {N : Nd} {A : Ad} {g : Int} {N2 : Nd} {v2 : Int} (j : JJ n C N A) (hm : ∀ C A, p_X11_join (mk C N A) 12000 g = some (v2, mk C N2 A)) : ∃ z C2 A2, q_L_join (mk C N A) 11000 g = some (z, mk C2 (mg N N2) A2) ∧ (N2 12000 0 = 0 → z = v2) ∧ (N2 12000 0 ≠ 0 → z = -97 ∨ z = -98 ∨ z = -99) ∧ JJ (n + 1) C2 (mg N N2) A2 := q_known (kG := kG0) (kL := kL0) (f := fun x M => if x = 1 then some (1, M) else if x = 3 then some (2, M) else none) (f' := h48) (e := p_X10_join (mk C N A) 11000 g) rfl rfl kg0 hf_13 (q_join j) hm
theorem hf_1 : HF (fun x M => if x = 1 then some (1, M) else none) h48 := by
  intro x M r h0 h
  unfold h48
  by_cases e1 : x = 1
  · subst e1
    have h2 : some ((1 : Int), M) = some r := h
    have h3 := Option.some.inj h2
    subst h3
    exact ⟨rfl, (show (1 : Int) ≠ 0 by decide), -97, rfl, by decide⟩
  dsimp only at h
  rw [if_neg e1] at h
  exact nomatch h
theorem L_leave {n : Int} {C : Cd} {N : Nd} {A : Ad} {g o : Int} {N2 : Nd} {v2 : Int} (j : JJ n C N A) (hm : ∀ C A, p_X11_leave (mk C N A) 12000 g o = some (v2, mk C N2 A)) : ∃ z C2 A2, q_L_leave (mk C N A) 11000 g o = some (z, mk C2 (mg N N2) A2) ∧ (N2 12000 0 = 0 → z = v2) ∧ (N2 12000 0 ≠ 0 → z = -97 ∨ z = -98 ∨ z = -99) ∧ JJ (n + 1) C2 (mg N N2) A2 := q_known (kG := kG0) (kL := kL0) (f := fun x M => if x = 1 then some (1, M) else none) (f' := h48) (e := p_X10_leave (mk C N A) 11000 g o) rfl rfl kg0 hf_1 (q_leave j) hm
theorem L_beat {n : Int} {C : Cd} {N : Nd} {A : Ad} {g o : Int} {N2 : Nd} {v2 : Int} (j : JJ n C N A) (hm : ∀ C A, p_X11_beat (mk C N A) 12000 g o = some (v2, mk C N2 A)) : ∃ z C2 A2, q_L_beat (mk C N A) 11000 g o = some (z, mk C2 (mg N N2) A2) ∧ (N2 12000 0 = 0 → z = v2) ∧ (N2 12000 0 ≠ 0 → z = -97 ∨ z = -98 ∨ z = -99) ∧ JJ (n + 1) C2 (mg N N2) A2 := q_known (kG := kG0) (kL := kL0) (f := fun x M => if x = 1 then some (1, M) else none) (f' := h48) (e := p_X10_beat (mk C N A) 11000 g o) rfl rfl kg0 hf_1 (q_beat j) hm
theorem L_read {n : Int} {C : Cd} {N : Nd} {A : Ad} {g o : Int} {N2 : Nd} {v2 : Int} (hn9 : n < 10000000) (j : JJ n C N A) (hm : ∀ C A, p_X11_read (mk C N A) 12000 g o = some (v2, mk C N2 A)) : ∃ z C2 A2, q_L_read (mk C N A) 11000 g o = some (z, mk C2 (mg N N2) A2) ∧ (N2 12000 0 = 0 → z = v2) ∧ (N2 12000 0 ≠ 0 → z = -97 ∨ z = -98 ∨ z = -99) ∧ JJ (n + 1) C2 (mg N N2) A2 := q_known (kG := kG0) (kL := kL0) (f := fun x M => if x = 1 then some (1, M) else none) (f' := h48) (e := p_X10_read (mk C N A) 11000 g o) rfl rfl kg0 hf_1 (q_read hn9 j) hm
theorem L_done {n : Int} {C : Cd} {N : Nd} {A : Ad} {g o m : Int} {N2 : Nd} {v2 : Int} (j : JJ n C N A) (hm : ∀ C A, p_X11_done (mk C N A) 12000 g o m = some (v2, mk C N2 A)) : ∃ z C2 A2, q_L_done (mk C N A) 11000 g o m = some (z, mk C2 (mg N N2) A2) ∧ (N2 12000 0 = 0 → z = v2) ∧ (N2 12000 0 ≠ 0 → z = -97 ∨ z = -98 ∨ z = -99) ∧ JJ (n + 1) C2 (mg N N2) A2 := q_known (kG := kG0) (kL := kL0) (f := fun x M => if x = 1 then some (1, M) else if x = 3 then some (2, M) else none) (f' := h48) (e := p_X10_done (mk C N A) 11000 g o m) rfl rfl kg0 hf_13 (q_done j) hm
theorem L_retry {n : Int} {C : Cd} {N : Nd} {A : Ad} {g o m : Int} {N2 : Nd} {v2 : Int} (j : JJ n C N A) (hm : ∀ C A, p_X11_retry (mk C N A) 12000 g o m = some (v2, mk C N2 A)) : ∃ z C2 A2, q_L_retry (mk C N A) 11000 g o m = some (z, mk C2 (mg N N2) A2) ∧ (N2 12000 0 = 0 → z = v2) ∧ (N2 12000 0 ≠ 0 → z = -97 ∨ z = -98 ∨ z = -99) ∧ JJ (n + 1) C2 (mg N N2) A2 := q_known (kG := kG0) (kL := kL0) (f := fun x M => if x = 1 then some (1, M) else if x = 3 then some (2, M) else none) (f' := h48) (e := p_X10_retry (mk C N A) 11000 g o m) rfl rfl kg0 hf_13 (q_retry j) hm
theorem L_commitOffsets {n : Int} {C : Cd} {N : Nd} {A : Ad} {g o : Int} {N2 : Nd} {v2 : Int} (j : JJ n C N A) (hm : ∀ C A, p_X11_commitOffsets (mk C N A) 12000 g o = some (v2, mk C N2 A)) : ∃ z C2 A2, q_L_commitOffsets (mk C N A) 11000 g o = some (z, mk C2 (mg N N2) A2) ∧ (N2 12000 0 = 0 → z = v2) ∧ (N2 12000 0 ≠ 0 → z = -97 ∨ z = -98 ∨ z = -99) ∧ JJ (n + 1) C2 (mg N N2) A2 := q_known (kG := kG0) (kL := kL0) (f := fun x M => if x = 1 then some (1, M) else none) (f' := h48) (e := p_X10_commitOffsets (mk C N A) 11000 g o) rfl rfl kg0 hf_1 (q_commitOffsets j) hm
theorem L_message {n : Int} {C : Cd} {N : Nd} {A : Ad} {m w : Int} {N2 : Nd} {v2 : Int} (j : JJ n C N A) (hm : ∀ C A, p_X11_message (mk C N A) 12000 m w = some (v2, mk C N2 A)) : ∃ z C2 A2, q_L_message (mk C N A) 11000 m w = some (z, mk C2 (mg N N2) A2) ∧ (N2 12000 0 = 0 → z = v2) ∧ (N2 12000 0 ≠ 0 → z = -97 ∨ z = -98 ∨ z = -99) ∧ JJ (n + 1) C2 (mg N N2) A2 := q_known (kG := kG0) (kL := kL0) (f := fun x M => if x = 1 then some (1, M) else if x = 2 then some (2, M) else none) (f' := h48) (e := p_X10_message (mk C N A) 11000 m w) rfl rfl kg0 hf_12 (q_message j) hm
theorem L_at {n : Int} {C : Cd} {N : Nd} {A : Ad} {m k : Int} {N2 : Nd} {v2 : Int} (j : JJ n C N A) (hm : ∀ C A, p_X11_at (mk C N A) 12000 m k = some (v2, mk C N2 A)) : ∃ z C2 A2, q_L_at (mk C N A) 11000 m k = some (z, mk C2 (mg N N2) A2) ∧ (N2 12000 0 = 0 → z = v2) ∧ (N2 12000 0 ≠ 0 → z = -97 ∨ z = -98 ∨ z = -99) ∧ JJ (n + 1) C2 (mg N N2) A2 := q_known (kG := kG0) (kL := kL0) (f := fun x M => if x = 1 then some (1, M) else none) (f' := h48) (e := p_X10_at (mk C N A) 11000 m k) rfl rfl kg0 hf_1 (q_at j) hm
theorem L_partition {n : Int} {C : Cd} {N : Nd} {A : Ad} {m w : Int} {N2 : Nd} {v2 : Int} (j : JJ n C N A) (hm : ∀ C A, p_X11_partition (mk C N A) 12000 m w = some (v2, mk C N2 A)) : ∃ z C2 A2, q_L_partition (mk C N A) 11000 m w = some (z, mk C2 (mg N N2) A2) ∧ (N2 12000 0 = 0 → z = v2) ∧ (N2 12000 0 ≠ 0 → z = -97 ∨ z = -98 ∨ z = -99) ∧ JJ (n + 1) C2 (mg N N2) A2 := q_known (kG := kG0) (kL := kL0) (f := fun x M => if x = 1 then some (1, M) else if x = 2 then some (2, M) else none) (f' := h48) (e := p_X10_partition (mk C N A) 11000 m w) rfl rfl kg0 hf_12 (q_partition j) hm
theorem L_value {n : Int} {C : Cd} {N : Nd} {A : Ad} {t key : Int} {N2 : Nd} {v2 : Int} (hk : r32 key) (j : JJ n C N A) (hm : ∀ C A, p_X11_value (mk C N A) 12000 t key = some (v2, mk C N2 A)) : ∃ z C2 A2, q_L_value (mk C N A) 11000 t key = some (z, mk C2 (mg N N2) A2) ∧ (N2 12000 0 = 0 → z = v2) ∧ (N2 12000 0 ≠ 0 → z = -97 ∨ z = -98 ∨ z = -99) ∧ JJ (n + 1) C2 (mg N N2) A2 := q_known (kG := kG0) (kL := kL0) (f := fun x M => if x = 1 then some (1, M) else none) (f' := h48) (e := p_X10_value (mk C N A) 11000 t key) rfl rfl kg0 hf_1 (q_value hk j) hm
theorem L_share {n : Int} {C : Cd} {N : Nd} {A : Ad} {g p w : Int} {N2 : Nd} {v2 : Int} (j : JJ n C N A) (hm : ∀ C A, p_X11_share (mk C N A) 12000 g p w = some (v2, mk C N2 A)) : ∃ z C2 A2, q_L_share (mk C N A) 11000 g p w = some (z, mk C2 (mg N N2) A2) ∧ (N2 12000 0 = 0 → z = v2) ∧ (N2 12000 0 ≠ 0 → z = -97 ∨ z = -98 ∨ z = -99) ∧ JJ (n + 1) C2 (mg N N2) A2 := q_known (kG := kG0) (kL := kL0) (f := fun x M => if x = 1 then some (1, M) else if x = 2 then some (2, M) else none) (f' := h48) (e := p_X10_share (mk C N A) 11000 g p w) rfl rfl kg0 hf_12 (q_share j) hm
theorem L_member {n : Int} {C : Cd} {N : Nd} {A : Ad} {g o v : Int} {N2 : Nd} {v2 : Int} (j : JJ n C N A) (hm : ∀ C A, p_X11_member (mk C N A) 12000 g o v = some (v2, mk C N2 A)) : ∃ z C2 A2, q_L_member (mk C N A) 11000 g o v = some (z, mk C2 (mg N N2) A2) ∧ (N2 12000 0 = 0 → z = v2) ∧ (N2 12000 0 ≠ 0 → z = -97 ∨ z = -98 ∨ z = -99) ∧ JJ (n + 1) C2 (mg N N2) A2 := q_known (kG := kG0) (kL := kL0) (f := fun x M => if x = 1 then some (1, M) else if x = 2 then some (2, M) else none) (f' := h48) (e := p_X10_member (mk C N A) 11000 g o v) rfl rfl kg0 hf_12 (q_member j) hm
theorem L_hand {n : Int} {C : Cd} {N : Nd} {A : Ad} {g o k w : Int} {N2 : Nd} {v2 : Int} (j : JJ n C N A) (hm : ∀ C A, p_X11_hand (mk C N A) 12000 g o k w = some (v2, mk C N2 A)) : ∃ z C2 A2, q_L_hand (mk C N A) 11000 g o k w = some (z, mk C2 (mg N N2) A2) ∧ (N2 12000 0 = 0 → z = v2) ∧ (N2 12000 0 ≠ 0 → z = -97 ∨ z = -98 ∨ z = -99) ∧ JJ (n + 1) C2 (mg N N2) A2 := q_known (kG := kG0) (kL := kL0) (f := fun x M => if x = 1 then some (1, M) else if x = 2 then some (2, M) else none) (f' := h48) (e := p_X10_hand (mk C N A) 11000 g o k w) rfl rfl kg0 hf_12 (q_hand j) hm
theorem L_seen {n : Int} {C : Cd} {N : Nd} {A : Ad} {g m : Int} {N2 : Nd} {v2 : Int} (j : JJ n C N A) (hm : ∀ C A, p_X11_seen (mk C N A) 12000 g m = some (v2, mk C N2 A)) : ∃ z C2 A2, q_L_seen (mk C N A) 11000 g m = some (z, mk C2 (mg N N2) A2) ∧ (N2 12000 0 = 0 → z = v2) ∧ (N2 12000 0 ≠ 0 → z = -97 ∨ z = -98 ∨ z = -99) ∧ JJ (n + 1) C2 (mg N N2) A2 := q_known (kG := kG0) (kL := kL0) (f := fun x M => if x = 1 then some (1, M) else none) (f' := h48) (e := p_X10_seen (mk C N A) 11000 g m) rfl rfl kg0 hf_1 (q_seen j) hm
theorem L_count {n : Int} {C : Cd} {N : Nd} {A : Ad} {w : Int} {N2 : Nd} {v2 : Int} (j : JJ n C N A) (hm : ∀ C A, p_X11_count (mk C N A) 12000 w = some (v2, mk C N2 A)) : ∃ z C2 A2, q_L_count (mk C N A) 11000 w = some (z, mk C2 (mg N N2) A2) ∧ (N2 12000 0 = 0 → z = v2) ∧ (N2 12000 0 ≠ 0 → z = -97 ∨ z = -98 ∨ z = -99) ∧ JJ (n + 1) C2 (mg N N2) A2 := q_known (kG := kG0) (kL := kL0) (f := fun x M => if x = 2 then some (1, M) else none) (f' := h48) (e := p_X10_count (mk C N A) 11000 w) rfl rfl kg0 hf_2 (q_count j) hm
theorem L_ofGroup {n : Int} {C : Cd} {N : Nd} {A : Ad} {g v : Int} {N2 : Nd} {v2 : Int} (j : JJ n C N A) (hm : ∀ C A, p_X11_ofGroup (mk C N A) 12000 g v = some (v2, mk C N2 A)) : ∃ z C2 A2, q_L_ofGroup (mk C N A) 11000 g v = some (z, mk C2 (mg N N2) A2) ∧ (N2 12000 0 = 0 → z = v2) ∧ (N2 12000 0 ≠ 0 → z = -97 ∨ z = -98 ∨ z = -99) ∧ JJ (n + 1) C2 (mg N N2) A2 := q_known (kG := kG0) (kL := kL0) (f := fun x M => if x = 1 then some (1, M) else if x = 2 then some (2, M) else none) (f' := h48) (e := p_X10_ofGroup (mk C N A) 11000 g v) rfl rfl kg0 hf_12 (q_ofGroup j) hm
abbrev kGA : Int → Mm → Option (Int × Mm) := fun v2 M3 => if v2 = 0 then gd (aok 15000 0) ((some (wr M3 15000 0 0)).bind fun M7 => some (0, M7)) else gd (aok 15000 0) ((some (wr M3 15000 0 1)).bind fun M9 => some (0, M9))
abbrev kLA : Int → Mm → Option (Int × Mm) := fun v2 M3 => if v2 = 0 then some (0, M3) else some (1, M3)
theorem kgA : KG2 kGA kLA := fun v M => by
  have o : aok 15000 0 := by decide
  by_cases h : v = 0
  · refine ⟨0, ?_, if_pos h⟩
    show (if v = 0 then _ else _) = _
    rw [if_pos h, gd_t o]
    rfl
  · refine ⟨1, ?_, if_neg h⟩
    show (if v = 0 then _ else _) = _
    rw [if_neg h, gd_t o]
    rfl
abbrev h48A : Int → Mm → Option (Int × Mm) := fun x M => if x = 2 then some ((-98), M) else none
theorem hf_A : HF (fun x M => if x = 2 then some (1, M) else none) h48A := by
  intro x M r h0 h
  unfold h48A
  by_cases e2 : x = 2
  · subst e2
    have h2 : some ((1 : Int), M) = some r := h
    have h3 := Option.some.inj h2
    subst h3
    exact ⟨rfl, (show (1 : Int) ≠ 0 by decide), -98, rfl, by decide⟩
  dsimp only at h
  rw [if_neg e2] at h
  exact nomatch h
theorem L_audit {n : Int} {C : Cd} {N : Nd} {A : Ad} {w : Int} {N2 : Nd} {v2 : Int} (j : JJ n C N A) (hm : ∀ C A, p_X11_audit (mk C N A) 12000 w = some (v2, mk C N2 A)) : ∃ z C2 A2, q_L_audit (mk C N A) 11000 w = some (z, mk C2 (mg N N2) A2) ∧ (N2 12000 0 = 0 → z = v2) ∧ (N2 12000 0 ≠ 0 → z = -97 ∨ z = -98 ∨ z = -99) ∧ JJ (n + 1) C2 (mg N N2) A2 := q_known (kG := kGA) (kL := kLA) (f := fun x M => if x = 2 then some (1, M) else none) (f' := h48A) (e := p_X10_audit (mk C N A) 11000 w) rfl rfl kgA hf_A (q_audit j) hm
