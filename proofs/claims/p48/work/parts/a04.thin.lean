/-! PURE PART, a04: the value of a key, and that compaction alters none -/
section THIN
variable {N : Nd} {p : Int}
abbrev tmb (N : Nd) (p k : Int) : Prop := N 13023 (N 13018 (60 * p + k)) = -1 ∧ 20 < (N 12000 1) - N 13027 (N 13018 (60 * p + k))
/-- what compaction takes -/
abbrev cgN (N : Nd) (p k : Int) : Prop := N 13025 (N 13018 (60 * p + k)) = 3 ∨ (∃ i, k < i ∧ rdA N p i (so N p) ∧ N 13022 (N 13018 (60 * p + i)) = N 13022 (N 13018 (60 * p + k))) ∨ tmb N p k
theorem can_st {N' : Nd} {m : Int} (h4 : ∀ a, a ≠ 13024 → N' a = N a) (hs : N' 13024 m = N 13024 m) : canR N' m ↔ canR N m := by
  unfold canR
  rw [hs, h4 13026 (by decide), h4 13021 (by decide), h4 13025 (by decide), so_st h4]
theorem ovb_iff {N' : Nd} {k : Int} (j : JN N) (p1 : 0 ≤ p) (p2 : p < (N 12000 11)) (k1 : 0 ≤ k) (h4 : ∀ a, a ≠ 13024 → N' a = N a) (hs : ∀ i, k < i → i < 60 → 0 ≤ N 13018 (60 * p + i) → N' 13024 (N 13018 (60 * p + i)) = N 13024 (N 13018 (60 * p + i))) : ovb N' p k = true ↔ ∃ i, k < i ∧ rdA N p i (so N p) ∧ N 13022 (N 13018 (60 * p + i)) = N 13022 (N 13018 (60 * p + k)) := by
  unfold ovb
  rw [any_iff, h4 13018 (by decide), h4 13022 (by decide)]
  constructor
  · rintro ⟨i, i1, i2, h⟩
    obtain ⟨a1, a2, a3⟩ := of_decide_eq_true h
    have i60 : i < 60 := by omega
    exact ⟨i, by omega, (rdA_can j p1 p2 (by omega) i60 a1).mpr ((can_st h4 (hs i (by omega) i60 a1)).mp a3), a2⟩
  · rintro ⟨i, i1, i2, h⟩
    have a1 := i2.2.2.2.1.1
    have i60 := i2.2.1
    refine ⟨i, by omega, by omega, decide_eq_true ⟨a1, h, (can_st h4 (hs i i1 i60 a1)).mpr ((rdA_can j p1 p2 (by omega) i60 a1).mp i2)⟩⟩
theorem log_inj {i k : Int} (j : JN N) (p1 : 0 ≤ p) (p2 : p < (N 12000 11)) (i1 : 0 ≤ i) (i2 : i < 60) (k1 : 0 ≤ k) (k2 : k < 60) (h : 0 ≤ N 13018 (60 * p + i)) (e : N 13018 (60 * p + k) = N 13018 (60 * p + i)) : k = i := by
  have a := (j.lm p i p1 p2 i1 i2 h).2.1
  have b := (j.lm p k p1 p2 k1 k2 (by rw [e]; exact h)).2.1
  rw [e] at b
  omega
theorem cp_res (j : JN N) (p1 : 0 ≤ p) (p2 : p < (N 12000 11)) (hc : ¬ N 14008 (N 13012 p) = 0) : ∀ k : Nat, (k : Int) ≤ so N p →
    (∀ m, (∀ i, 0 ≤ i → i < (k : Int) → N 13018 (60 * p + i) ≠ m) → (cpA N p k).2 13024 m = N 13024 m) ∧ ∀ i, 0 ≤ i → i < (k : Int) → (stA N p i ∧ cgN N p i → (cpA N p k).2 13024 (N 13018 (60 * p + i)) = 3) ∧ (¬ (stA N p i ∧ cgN N p i) → (cpA N p k).2 13024 (N 13018 (60 * p + i)) = N 13024 (N 13018 (60 * p + i)))
  | 0, _ => ⟨fun _ _ => rfl, fun i i1 i2 => by omega⟩
  | k + 1, hk => by
    have sb := so_b j.g.e p1 p2
    have hb := hw_b j.g.e p1 p2
    obtain ⟨hA, hB⟩ := cp_res j p1 p2 hc k (by omega)
    have ci := cp_all j p1 p2 hc k (by omega)
    rw [cpA_S]
    generalize cpA N p k = s at hA hB ci ⊢
    have h4 := ci.2.2.2.1
    have k60 : (k : Int) < 60 := by omega
    have he := hw_eol j.g j.li p1 p2
    have y : 0 ≤ N 13018 (60 * p + k) := (j.fl p k p1 p2 (by omega) k60).mp (by omega)
    have hs : ∀ i, (k : Int) ≤ i → i < 60 → 0 ≤ N 13018 (60 * p + i) → s.2 13024 (N 13018 (60 * p + i)) = N 13024 (N 13018 (60 * p + i)) := fun i i1 i2 h => hA _ fun q q1 q2 e => by
      have := log_inj j p1 p2 (by omega) i2 q1 (by omega) h e
      omega
    have ov := ovb_iff (N' := s.2) (k := (k : Int)) j p1 p2 (by omega) h4 (fun i i1 i2 h => hs i (by omega) i2 h)
    have es : stA s.2 p k ∧ cgo s.2 p k ↔ stA N p k ∧ cgN N p k := by
      unfold cgo cgN tmb stA
      rw [ov, h4 13018 (by decide), h4 13025 (by decide), h4 13023 (by decide), h4 13027 (by decide), h4 12000 (by decide)]
      constructor
      · rintro ⟨⟨a, b⟩, c⟩
        exact ⟨⟨a, (hs k (Int.le_refl _) k60 a).symm.trans b⟩, c⟩
      · rintro ⟨⟨a, b⟩, c⟩
        exact ⟨⟨a, (hs k (Int.le_refl _) k60 a).trans b⟩, c⟩
    have el : s.2 13018 = N 13018 := h4 13018 (by decide)
    by_cases e : stA s.2 p k ∧ cgo s.2 p k
    · have st : ∀ m, (cpS p k s).2 13024 m = if m = N 13018 (60 * p + k) then 3 else s.2 13024 m := fun m => by
        unfold cpS
        rw [if_pos e]
        show (up s.2 13024 (s.2 13018 (60 * p + k)) 3) 13024 m = _
        rw [up_s, el]
        by_cases z : m = N 13018 (60 * p + k)
        · rw [if_pos ⟨rfl, z⟩, if_pos z]
        · rw [if_neg (fun q => z q.2), if_neg z]
      have e' := es.mp e
      refine ⟨fun m hm => ?_, fun i i1 i2 => ?_⟩
      · rw [st, if_neg (fun z => hm k (by omega) (by omega) z.symm)]
        exact hA m fun i i1 i2 => hm i i1 (by omega)
      · by_cases z : i = k
        · subst z
          rw [st, if_pos rfl]
          exact ⟨fun _ => rfl, fun q => absurd e' q⟩
        · rw [st, if_neg (fun q => z (log_inj j p1 p2 (by omega) k60 i1 (by omega) e'.1.1 q))]
          exact hB i i1 (by omega)
    · have st : (cpS p k s).2 = s.2 := by
        unfold cpS
        rw [if_neg e]
      rw [st]
      refine ⟨fun m hm => hA m fun i i1 i2 => hm i i1 (by omega), fun i i1 i2 => ?_⟩
      by_cases z : i = k
      · subst z
        refine ⟨fun q => absurd (es.mpr q) e, fun _ => ?_⟩
        refine hA _ fun q q1 q2 h => ?_
        have := log_inj j p1 p2 (by omega) k60 q1 (by omega) y h
        omega
      · exact hB i i1 (by omega)
/-- the value of a key, in its partition -/
def VK (N : Nd) (p key v : Int) : Prop := (v = -1 ∧ ∀ k, ¬ rdk N p key (so N p) k) ∨ ∃ l, rdk N p key (so N p) l ∧ (∀ k, l < k → ¬ rdk N p key (so N p) k) ∧ v = N 13023 (N 13018 (60 * p + l))
theorem VK.eq {key u v : Int} (a : VK N p key u) (b : VK N p key v) : u = v := by
  rcases a with ⟨a1, a2⟩ | ⟨l, a1, a2, a3⟩
  · rcases b with ⟨b1, -⟩ | ⟨k, b1, -⟩
    · rw [a1, b1]
    · exact absurd b1 (a2 k)
  · rcases b with ⟨-, b2⟩ | ⟨k, b1, b2, b3⟩
    · exact absurd a1 (b2 l)
    · have e : l = k := by
        by_cases h : l < k
        · exact absurd b1 (a2 k h)
        · by_cases h2 : k < l
          · exact absurd a1 (b2 l h2)
          · omega
      rw [a3, b3, e]
def vky (N : Nd) (p key : Int) : Int := if lrd N p key (so N p) = -1 then -1 else N 13023 (N 13018 (60 * p + lrd N p key (so N p)))
theorem vky_is (g : RG N) (p1 : 0 ≤ p) (p2 : p < (N 12000 11)) (key : Int) : VK N p key (vky N p key) := by
  have sb := so_b g.e p1 p2
  have sp := @la_sp (fun k => decide (rdk N p key (so N p) k)) 0 (-1) (so N p).toNat
  have el : la (fun k => decide (rdk N p key (so N p) k)) 0 (-1) (so N p).toNat = lrd N p key (so N p) := rfl
  rw [el] at sp
  unfold vky
  rcases sp with ⟨s1, s2⟩ | ⟨s1, s2, s3, s4⟩
  · rw [if_pos s1]
    refine Or.inl ⟨rfl, fun k hk => ?_⟩
    have := s2 k hk.1.1 (by have := hk.1.2.2.1; omega)
    exact absurd hk (of_decide_eq_false this)
  · rw [if_neg (by omega)]
    refine Or.inr ⟨_, of_decide_eq_true s3, fun k k1 hk => ?_, rfl⟩
    exact absurd hk (of_decide_eq_false (s4 k k1 (by have := hk.1.2.2.1; omega)))
end THIN
