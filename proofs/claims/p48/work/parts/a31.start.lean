/-! PURE PART, a31: the start -/
def Z3 : Cd := fun _ _ _ => 0
def Z2 : Nd := fun _ _ => 0
def A0 : Ad := (fun _ => 0, 0, 0, 0)
def alR : List (Int × Nat) → Ad
  | [] => A0
  | p :: l => alA (alR l) p.1 p.2
theorem alR_n : ∀ {l : List (Int × Nat)} {x : Int}, (∀ p ∈ l, p.1 ≠ x) → (alR l).1 x = 0
  | [], _, _ => rfl
  | p :: l, x, h => by
    have h1 := h p List.mem_cons_self
    show (alA (alR l) p.1 p.2).1 x = 0
    rw [ad_al (fun e => h1 e.symm)]
    exact alR_n (fun q hq => h q (List.mem_cons_of_mem _ hq))
def N1i : Nd := up (up Z2 12000 2 7) 12000 3 2
def C1i : Cd := (uq (uq (uq (uq (uq (uq (uq (uq (uq (uq (uq (zq (uq (zq (uq (zq (uq (zq (uq (zq (uq (zq (zq Z3 11000 0) 25000 0) 11000 0 0 25000) 21000 0) 11000 0 1 21000) 22000 0) 11000 0 2 22000) 16000 0) 11000 0 3 16000) 20000 0) 11000 0 4 20000) 20001 0) 11000 0 5 20001) 11000 0 6 0) 11000 0 7 0) 11000 0 8 0) 11000 0 9 0) 11000 0 10 0) 11000 0 11 0) 11000 0 12 0) 11000 0 13 7) 11000 0 14 2) 11000 0 15 0)
def l1i : List (Int × Nat) := [(20001, 150), (20000, 150), (16000, 3), (22000, 4), (21000, 9), (25000, 3), (11000, 16)]
theorem x10_init : p_X10_init (mk (zq Z3 11000 0) N1i (alR [(11000, 16)])) 11000 = some (mk C1i N1i (alR l1i)) := by
  unfold p_X10_init
  have h25000 : ala (mk (zq Z3 11000 0) N1i (alR [(11000, 16)])) 25 25000 3 = some (mk (zq (zq Z3 11000 0) 25000 0) N1i (alR [(25000, 3), (11000, 16)])) := ala_mk (by rfl) (by decide) (by decide) (by decide) (by decide) (by decide)
  have h21000 : ala (mk (uq (zq (zq Z3 11000 0) 25000 0) 11000 0 0 25000) N1i (alR [(25000, 3), (11000, 16)])) 21 21000 9 = some (mk (zq (uq (zq (zq Z3 11000 0) 25000 0) 11000 0 0 25000) 21000 0) N1i (alR [(21000, 9), (25000, 3), (11000, 16)])) := ala_mk (by rfl) (by decide) (by decide) (by decide) (by decide) (by decide)
  have h22000 : ala (mk (uq (zq (uq (zq (zq Z3 11000 0) 25000 0) 11000 0 0 25000) 21000 0) 11000 0 1 21000) N1i (alR [(21000, 9), (25000, 3), (11000, 16)])) 22 22000 4 = some (mk (zq (uq (zq (uq (zq (zq Z3 11000 0) 25000 0) 11000 0 0 25000) 21000 0) 11000 0 1 21000) 22000 0) N1i (alR [(22000, 4), (21000, 9), (25000, 3), (11000, 16)])) := ala_mk (by rfl) (by decide) (by decide) (by decide) (by decide) (by decide)
  have h16000 : ala (mk (uq (zq (uq (zq (uq (zq (zq Z3 11000 0) 25000 0) 11000 0 0 25000) 21000 0) 11000 0 1 21000) 22000 0) 11000 0 2 22000) N1i (alR [(22000, 4), (21000, 9), (25000, 3), (11000, 16)])) 16 16000 3 = some (mk (zq (uq (zq (uq (zq (uq (zq (zq Z3 11000 0) 25000 0) 11000 0 0 25000) 21000 0) 11000 0 1 21000) 22000 0) 11000 0 2 22000) 16000 0) N1i (alR [(16000, 3), (22000, 4), (21000, 9), (25000, 3), (11000, 16)])) := ala_mk (by rfl) (by decide) (by decide) (by decide) (by decide) (by decide)
  have h20000 : ala (mk (uq (zq (uq (zq (uq (zq (uq (zq (zq Z3 11000 0) 25000 0) 11000 0 0 25000) 21000 0) 11000 0 1 21000) 22000 0) 11000 0 2 22000) 16000 0) 11000 0 3 16000) N1i (alR [(16000, 3), (22000, 4), (21000, 9), (25000, 3), (11000, 16)])) 20 20000 150 = some (mk (zq (uq (zq (uq (zq (uq (zq (uq (zq (zq Z3 11000 0) 25000 0) 11000 0 0 25000) 21000 0) 11000 0 1 21000) 22000 0) 11000 0 2 22000) 16000 0) 11000 0 3 16000) 20000 0) N1i (alR [(20000, 150), (16000, 3), (22000, 4), (21000, 9), (25000, 3), (11000, 16)])) := ala_mk (by rfl) (by decide) (by decide) (by decide) (by decide) (by decide)
  have h20001 : ala (mk (uq (zq (uq (zq (uq (zq (uq (zq (uq (zq (zq Z3 11000 0) 25000 0) 11000 0 0 25000) 21000 0) 11000 0 1 21000) 22000 0) 11000 0 2 22000) 16000 0) 11000 0 3 16000) 20000 0) 11000 0 4 20000) N1i (alR [(20000, 150), (16000, 3), (22000, 4), (21000, 9), (25000, 3), (11000, 16)])) 20 20001 150 = some (mk (zq (uq (zq (uq (zq (uq (zq (uq (zq (uq (zq (zq Z3 11000 0) 25000 0) 11000 0 0 25000) 21000 0) 11000 0 1 21000) 22000 0) 11000 0 2 22000) 16000 0) 11000 0 3 16000) 20000 0) 11000 0 4 20000) 20001 0) N1i (alR [(20001, 150), (20000, 150), (16000, 3), (22000, 4), (21000, 9), (25000, 3), (11000, 16)])) := ala_mk (by rfl) (by decide) (by decide) (by decide) (by decide) (by decide)
  rw [h25000, Option.bind_some, Option.bind_some, cw_11000, h21000, Option.bind_some, Option.bind_some, cw_11000, h22000, Option.bind_some, Option.bind_some, cw_11000, h16000, Option.bind_some, Option.bind_some, cw_11000, h20000, Option.bind_some, Option.bind_some, cw_11000, h20001, Option.bind_some, Option.bind_some, cw_11000, Option.bind_some, cw_11000, Option.bind_some, cw_11000, Option.bind_some, cw_11000, Option.bind_some, cw_11000, Option.bind_some, cw_11000, Option.bind_some, cw_11000, Option.bind_some, cw_11000, Option.bind_some, cw_11000, Option.bind_some, cw_11000, Option.bind_some, cw_11000]
  rfl
theorem pa_al {C : Cd} {N : Nd} {A : Ad} {a n : Int} {k : Nat} (h0 : A.1 a = 0) (hk : kd a = k) (hl : ln a = n) (hm : mid a = true) (hg : gho a = false) (ha : a ≠ 12000) (hN : N a = fun _ => 0) : ala (mk C N A) k a n = some (mk C N (alA A a n.toNat)) := by
  unfold ala
  rw [if_pos ⟨h0, hk, hl, hg⟩]
  congr 1
  unfold nw mk alA
  congr 1
  funext b i
  show (if b = a then 0 else if mid b = true then (if b = 12000 ∧ isptr i = true then pv i else N b i) else C (bs b) (b - bs b) i) = _
  by_cases e : b = a
  · rw [if_pos e, e, if_pos hm, if_neg (fun z => ha z.1), hN]
  · rw [if_neg e]
def l3i : List (Int × Nat) := (15001, 3) :: (13490, 20) :: l1i
def C3i : Cd := C1i
def M0 : Mm := mk Z3 N1i A0
theorem p_start {sl : Int} {sc : Int → Int} {Q : Int × Mm → Prop} (h : Ok ((q_L_topic (mk C3i N1i (alR l3i)) 11000 3 3 1).bind fun r8 => (if r8.1 = 0 then (q_L_producer r8.2 11000).bind fun r96 => if r96.1 = 0 then (q_L_producer r96.2 11000).bind fun r99 => if r99.1 = 1 then (q_L_group r99.2 11000 1).bind fun r102 => if r102.1 = 0 then (q_L_join r102.2 11000 0).bind fun r105 => if r105.1 = 0 then (q_L_beat r105.2 11000 0 0).bind fun r108 => if r108.1 = 3 then some ((1, r108.2)) else some ((0, r108.2)) else some ((0, r105.2)) else some ((0, r102.2)) else some ((0, r99.2)) else some ((0, r96.2)) else some ((0, r8.2)) : Option (Int × Mm)).bind fun (s9 : Int × Mm) => (lp (b_L_law_78 sl sc) 41 (s9.1, 0, s9.2)).bind fun (t11 : Int × Mm) => if t11.1 = 0 then some (0, t11.2) else (p_L_heals t11.2 11000).bind fun r14 => if r14.1 = 0 then some (0, r14.2) else (p_L_readsAll r14.2 11000 15001 13490).bind fun r17 => if r17.1 = 0 then some (0, r17.2) else (p_L_stays r17.2 11000 15001).bind fun r20 => if r20.1 = 0 then some (0, r20.2) else (q_L_count r20.2 11000 4).bind fun r23 => (lp (b_L_law_305 r23) 151 (t11.1, 0, r23.2)).bind fun (t25 : Int × Mm) => gd (t25.1 = 0 ∨ t25.1 = 1) (some (t25.1, t25.2))) Q) : Ok (p_L_law M0 sl sc) Q := by
  have a1 : alo M0 11 11000 16 = some (mk (zq Z3 11000 0) N1i (alR [(11000, 16)])) := alo_mk (by rfl) (by decide) (by decide) (by decide) (by decide)
  have a2 : ala (mk C1i N1i (alR l1i)) 13 13490 20 = some (mk C1i N1i (alR ((13490, 20) :: l1i))) := pa_al (by rfl) (by decide) (by decide) (by decide) (by decide) (by decide) (by rfl)
  have a3 : ala (mk C1i N1i (alR ((13490, 20) :: l1i))) 15 15001 3 = some (mk C3i N1i (alR l3i)) := pa_al (by rfl) (by decide) (by decide) (by decide) (by decide) (by decide) (by rfl)
  unfold p_L_law
  rw [a1, Option.bind_some, x10_init, Option.bind_some, a2, Option.bind_some, a3, Option.bind_some]
  exact h
theorem l2_k : ∀ p ∈ l3i, mid p.1 = true ∨ p.1 = 15001 ∨ p.1 = 11000 ∨ p.1 = 25000 ∨ p.1 = 21000 ∨ p.1 = 22000 ∨ p.1 = 16000 ∨ p.1 = 20000 ∨ p.1 = 20001 := by decide +kernel
theorem ad_0 {x : Int} (h : mid x = false) (h1 : x ≠ 15001 ∧ x ≠ 11000 ∧ x ≠ 25000 ∧ x ≠ 21000 ∧ x ≠ 22000 ∧ x ≠ 16000 ∧ x ≠ 20000 ∧ x ≠ 20001) : (alR l3i).1 x = 0 := alR_n fun p hp e => by
  rcases l2_k p hp with q | q
  · rw [e, h] at q
    cases q
  · omega
theorem mid_f {x : Int} (h : x < 12000 ∨ (13500 ≤ x ∧ x < 14000) ∨ 15002 ≤ x) : mid x = false := by
  unfold mid
  simp
  omega
theorem C2_11 {j : Int} : C3i 11000 0 j = if j = 14 then 2 else if j = 13 then 7 else if j = 5 then 20001 else if j = 4 then 20000 else if j = 3 then 16000 else if j = 2 then 22000 else if j = 1 then 21000 else if j = 0 then 25000 else 0 := by
  unfold C3i C1i Z3
  simp only [uq_s, zq_s, up_s, true_and, false_and, and_true, and_false, if_true, if_false, ↓reduceIte, ↓Option.bind_some, Int.reduceEq, Int.reduceNe, Int.reduceLT, Int.reduceLE, gd_true, gd_false, bind_b, q10, eq_self, reduceCtorEq, not_true_eq_false, not_false_eq_true, ne_eq]
  repeat' split
  all_goals first
    | rfl
    | omega
theorem C2_o {b i j : Int} (h : b ≠ 11000) : C3i b i j = 0 := by
  unfold C3i C1i Z3
  simp only [uq_s, zq_s, h, false_and, if_false]
  repeat' split
  all_goals rfl
theorem N1_sc {j : Int} : N1i 12000 j = if j = 3 then 2 else if j = 2 then 7 else 0 := by
  unfold N1i Z2
  simp only [up_s, true_and]
theorem N1_o {a j : Int} (h : a ≠ 12000) : N1i a j = 0 := by
  unfold N1i Z2
  rw [up_s, if_neg (fun z => h z.1), up_s, if_neg (fun z => h z.1)]
theorem JJ.start : JJ 0 C3i N1i (alR l3i) := by
  have z4 : N1i 12000 4 = 0 := rfl
  have z11 : N1i 12000 11 = 0 := rfl
  have z30 : N1i 12000 30 = 0 := rfl
  have z19 : N1i 12000 19 = 0 := rfl
  have z41 : N1i 12000 41 = 0 := rfl
  have z1 : N1i 12000 1 = 0 := rfl
  have z40 : N1i 12000 40 = 0 := rfl
  have np : ∀ {p : Int} {Q : Prop}, 0 ≤ p → p < N1i 12000 11 → Q := fun h1 h2 => by rw [z11] at h2; omega
  have nm : ∀ {p : Int} {Q : Prop}, 0 ≤ p → p < N1i 12000 19 → Q := fun h1 h2 => by rw [z19] at h2; omega
  have nx : ∀ {p : Int} {Q : Prop}, 0 ≤ p → p < N1i 12000 30 → Q := fun h1 h2 => by rw [z30] at h2; omega
  have nt : ∀ {p : Int} {Q : Prop}, 0 ≤ p → p < N1i 12000 4 → Q := fun h1 h2 => by rw [z4] at h2; omega
  have ng : ∀ {p : Int} {Q : Prop}, 0 ≤ p → p < N1i 12000 41 → Q := fun h1 h2 => by rw [z41] at h2; omega
  have rg : RG N1i := ⟨by unfold RS; decide, fun t h1 h2 => nt h1 h2, fun t h1 h2 => np h1 h2, fun t r h1 h2 => np h1 h2, fun t r h1 h2 => np h1 h2, fun t h1 h2 => nm h1 h2, fun t h1 h2 => nx h1 h2⟩
  have jn : JN N1i := ⟨⟨⟨rg, fun p h1 h2 => np h1 h2, fun p k h1 h2 => np h1 h2, fun p k h1 h2 => np h1 h2, fun p h1 h2 => np h1 h2⟩, fun p r h1 h2 => np h1 h2⟩, ⟨fun m h1 h2 => nm h1 h2, fun x y h1 h2 => nx h1 h2⟩, fun m h1 h2 => nm h1 h2, fun p k h1 h2 => np h1 h2, fun p i k h1 h2 => np h1 h2, fun c k h1 h2 => nm h1 h2, fun m h1 h2 => nm h1 h2, fun m x h1 h2 => nm h1 h2⟩
  have cc : CC C3i N1i := by
    refine ⟨⟨⟨by rw [C2_11]; rfl, by rw [C2_11]; rfl, by rw [C2_11]; rfl, by rw [C2_11]; rfl, by rw [C2_11]; rfl, by rw [C2_11]; rfl⟩, by rw [C2_11]; rfl, by rw [C2_11]; rfl, by rw [C2_11]; rfl, by rw [C2_11]; rfl, by rw [C2_11]; rfl, by rw [C2_11]; rfl, by rw [C2_11]; rfl, by rw [C2_11]; rfl, by rw [C2_11]; rfl⟩, ⟨fun t h1 h2 => ?_, fun t h1 h2 => ?_, fun t h1 h2 => ?_, fun t h1 h2 => ?_, fun t h1 h2 => ?_⟩, fun t h1 h2 => nt h1 h2, fun p h1 h2 => np h1 h2, fun p r h1 h2 => np h1 h2, fun p r h1 h2 => np h1 h2, fun p r h1 h2 => np h1 h2, fun m h1 h2 => nm h1 h2, fun m h1 h2 => nx h1 h2⟩
    · rw [C2_o (by decide), if_neg (by rw [z4]; omega)]
    · rw [C2_o (by decide), if_neg (by rw [z11]; omega)]
    · rw [C2_o (by decide), if_neg (by rw [z30]; omega)]
    · rw [C2_o (by decide), if_neg (by rw [z41]; omega)]
    · rw [C2_o (by decide), if_neg (by rw [z19]; omega)]
  have ad : ∀ {x : Int}, (x < 11000 ∨ (13500 ≤ x ∧ x < 14000) ∨ (17000 ≤ x ∧ x < 20000) ∨ (20002 ≤ x ∧ x < 21000) ∨ (21001 ≤ x ∧ x < 22000) ∨ (23000 ≤ x ∧ x < 25000)) → (alR l3i).1 x = 0 := fun h => ad_0 (mid_f (by omega)) (by omega)
  refine ⟨jn, cc, ⟨[], ⟨List.Pairwise.nil, fun m h => absurd h List.not_mem_nil, fun m h1 h2 => nm h1 h2⟩, ⟨by rw [C2_11]; rfl, Nat.zero_le _, fun i hi => absurd hi (Nat.not_lt_zero _)⟩⟩, fun g h1 h2 => ng h1 h2, fun x h1 h2 => nx h1 h2, ⟨fun t h1 h2 => ?_, fun p h1 h2 => ?_, fun x h1 h2 => ?_, fun m h1 h2 => ?_, fun g h1 h2 => ?_, fun g j h1 h2 h3 h4 _ => ?_, fun g m h1 h2 h3 h4 _ => ?_⟩, ⟨fun p _ _ => ⟨N1_o (by decide), fun _ _ _ => N1_o (by decide)⟩, fun x _ _ => ⟨N1_o (by decide), N1_o (by decide), N1_o (by decide)⟩, fun m _ _ => ?_, fun g _ _ => ⟨⟨N1_o (by decide), N1_o (by decide), N1_o (by decide), N1_o (by decide)⟩, fun _ _ _ => ⟨N1_o (by decide), N1_o (by decide)⟩, fun _ _ _ => ⟨N1_o (by decide), N1_o (by decide)⟩, fun _ _ _ => ⟨N1_o (by decide), N1_o (by decide), N1_o (by decide)⟩⟩, fun x _ _ _ => ⟨N1_o (by decide), N1_o (by decide)⟩⟩, ⟨fun g m _ _ _ _ => ⟨C2_o (by decide), C2_o (by decide)⟩, fun g h1 h2 => ng h1 h2, fun g m h1 h2 => ng h1 h2⟩, by decide, by rw [z1]; decide, by rw [z40]; decide, fun g h1 h2 => ng h1 h2⟩
  · rw [z4] at h1
    exact ⟨ad (by omega), ad (by omega)⟩
  · rw [z11] at h1
    exact ⟨ad (by omega), ad (by omega), ad (by omega), fun r r1 r2 => ad (by omega)⟩
  · rw [z30] at h1
    exact ⟨ad (by omega), ad (by omega)⟩
  · rw [z19] at h1
    exact ad (by omega)
  · rw [z41] at h1
    exact ⟨ad (by omega), ad (by omega), ad (by omega), ad (by omega), ad (by omega), ad (by omega), ad (by omega), ad (by omega), fun p p1 p2 => ad (by omega)⟩
  · exact ⟨ad (by omega), ad (by omega), ad (by omega)⟩
  · exact ad (by omega)
  · rw [N1_o (by decide)]
    exact ⟨by decide, by decide, fun _ => rfl⟩
