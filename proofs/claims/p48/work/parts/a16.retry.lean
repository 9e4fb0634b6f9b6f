/-! PURE PART, a16: retry -/
theorem q_knownR {n : Int} {C : Cd} {N : Nd} {A : Ad} {e : Option (Int × Int × Mm)} {kG kL f f' : Int → Mm → Option (Int × Mm)} {pm : Mm → Option (Int × Mm)} {eG eL : Option (Int × Mm)} {R : Nd → Int → Prop} (hG : eG = gK kG f e) (hL : eL = gK kL f' e) (hk : KG2 kG kL)
    (hf : ∀ x M r, x ≠ 0 → f x M = some r → r.2 = M ∧ r.1 ≠ 0 ∧ ∃ a, f' x M = some (a, M) ∧ (a = -97 ∨ a = -98 ∨ a = -99)) (s : SR n C N A eG pm) (hm : ∀ C A, ∃ N2 v2, R N2 v2 ∧ pm (mk C N A) = some (v2, mk C N2 A)) :
    ∃ N2 v2, R N2 v2 ∧ ∃ z C2 A2, ghq eL (eG.bind fun g => pm g.2) = some (z, mk C2 (mg N N2) A2) ∧ (N2 12000 0 = 0 → z = v2) ∧ (N2 12000 0 ≠ 0 → z = -97 ∨ z = -98 ∨ z = -99) ∧ JJ (n + 1) C2 (mg N N2) A2 := by
  obtain ⟨k, v, N1, a, C1, C2, A2, h1, h2, h3, h4, h5, h6, -⟩ := q_call hG hL hk hf s
  obtain ⟨N2, v2, r, e2⟩ := hm C1 A2
  obtain ⟨m1, m2, m3⟩ := q_model h2 e2
  rw [m2] at h1 h6
  rw [← h3, m3] at h4 h5
  exact ⟨N2, v2, r, a, C2, A2, h1, fun z => (h4 z).trans m1, h5, h6⟩
theorem LR_retry {n : Int} {C : Cd} {N : Nd} {A : Ad} {g o m : Int} {R : Nd → Int → Prop} (j : JJ n C N A) (hm : ∀ C A, ∃ N2 v2, R N2 v2 ∧ p_X11_retry (mk C N A) 12000 g o m = some (v2, mk C N2 A)) : ∃ N2 v2, R N2 v2 ∧ CALL n N (q_L_retry (mk C N A) 11000 g o m) N2 v2 := q_knownR (kG := kG0) (kL := kL0) (f := fun x M => if x = 1 then some (1, M) else if x = 3 then some (2, M) else none) (f' := h48) (e := p_X10_retry (mk C N A) 11000 g o m) rfl rfl kg0 hf_13 (q_retry j) hm
theorem RW.wt {NF NM : Nd} {g j n t : Int} {B : Int → Bool} (h : RW NF NM g j n t B) {x : Int} (hw' : NM 13059 (150 * g + x) = 1) : (∃ s, 0 ≤ s ∧ s < n ∧ hf NF g j s = x ∧ NM 13060 (150 * g + x) = t) ∨ (NF 13059 (150 * g + x) = 1 ∧ NM 13060 (150 * g + x) = NF 13060 (150 * g + x)) := by
  by_cases hx : ∃ s, 0 ≤ s ∧ s < n ∧ B s = true ∧ hf NF g j s = x
  · obtain ⟨s, s1, s2, s3, rfl⟩ := hx
    exact Or.inl ⟨s, s1, s2, rfl, (h.1 s s1 s2 s3).2.1⟩
  · have q := h.2.1 (150 * g + x) (fun s s1 s2 s3 e => hx ⟨s, s1, s2, s3, by omega⟩)
    rw [q.1] at hw'
    exact Or.inr ⟨hw', q.2.1⟩
/-- what a retry leaves -/
def RTR (N : Nd) (g : Int) (N2 : Nd) (v2 : Int) : Prop := -1 ≤ v2 ∧ MG g (up N 12000 0 0) N2 ∧ (∀ b, b = 13042 ∨ b = 13064 ∨ b = 13044 → N2 b = N b) ∧ N2 12000 0 = 0 ∧ ∀ x, 0 ≤ x → x < 150 → N2 13059 (150 * g + x) = 1 → (N 13059 (150 * g + x) = 1 ∧ N2 13060 (150 * g + x) = N 13060 (150 * g + x)) ∨ (N2 13060 (150 * g + x) ≤ (N 12000 1) + 4 ∧ HD N g x)
section RETRYC
variable {n : Int} {C : Cd} {N : Nd} {A : Ad}
theorem retry_m {g o m : Int} (j : JJ n C N A) (h1 : 0 ≤ g ∧ g < (N 12000 41)) (h01 : 0 ≤ o ∧ o ≤ 11) (h02 : N 13047 (12 * g + o) = 1) (h2 : hpl N g o m < hn N g o) : ∀ C A, ∃ N2 v2, RTR N g N2 v2 ∧ p_X11_retry (mk C N A) 12000 g o m = some (v2, mk C N2 A) := fun C' A' => by
  have G := j.jn.g
  have s4 := G.s.2.2.2.1
  have s5 := G.s.2.2.2.2.1
  have s8 := G.s.2.2.2.2.2.2.2.1
  have hi := fun C A => @m_isMember C (up N 12000 0 0) A g o j.z.s
  simp only [up_s, up_s, true_and, false_and, and_true, and_false, if_true, if_false, ↓reduceIte, ↓Option.bind_some, Int.reduceEq, Int.reduceNe, Int.reduceLT, Int.reduceLE, gd_true, gd_false, bind_b, q10, eq_self, reduceCtorEq, not_true_eq_false, not_false_eq_true, ne_eq] at hi
  have g3 : g < 3 := by omega
  have a := (j.gr h1.1 h1.2).1
  have o2 : o < 12 := by omega
  have h9 := a.h9 h01.1 o2 h02
  have jz : JJ n C (up N 12000 0 0) A := j.thrown
  have az : GA C (up N 12000 0 0) g := (jz.gr h1.1 h1.2).1
  have pl := @m_place C (up N 12000 0 0) g o m az h1.1 g3 h01.1 o2 h02
  have e1 : hpl (up N 12000 0 0) g o m = hpl N g o m := rfl
  have e2 : hn (up N 12000 0 0) g o = hn N g o := rfl
  rw [e1, e2] at pl
  have hb := @hpl_b N g o m h9.1
  have hy := hpl_y h9.1 h2
  simp only [if_pos h2] at pl
  generalize hpl N g o m = q at hb h2 hy pl
  have hmb := (az.ha o h01.1 o2 h02).2 q hb.1 h2
  have hyz : hf (up N 12000 0 0) g o q = m := hy
  rw [hyz] at hmb
  obtain ⟨⟨m1, m2, w2, -⟩, ⟨-, mt, -, -⟩, -⟩ := hmb
  have m2' : m < (N 12000 19) := m2
  have m150 : m < 150 := by omega
  have mt' : 0 ≤ N 13053 (9 * (12 * g + o) + q) ∧ N 13053 (9 * (12 * g + o) + q) ≤ 2 := mt
  have hd : ∀ s x, 0 ≤ s → s < hn N g o → 0 ≤ x → x < hn N g o → hf N g o s = hf N g o x → s = x := fun s x s1 s2 x1 x2 h => a.hd h01.1 o2 h02 s1 s2 x1 x2 h
  have hbd : ∀ s, 0 ≤ s → s < hn N g o → 0 ≤ hf N g o s ∧ hf N g o s < 150 := fun s s1 s2 => by
    obtain ⟨⟨b1, b2, -⟩, -⟩ := (a.ha o h01.1 o2 h02).2 s s1 s2
    exact ⟨b1, by omega⟩
  have mo1 := fun C A => @m_out C (up N 12000 0 0) A g o q h1.1 g3 h01.1 o2 hb.1 h2 h9.2.1
  have np : ¬ q = -1 := by omega
  have hdm : HD N g m := ⟨o, q, ⟨h01.1, o2⟩, h02, ⟨hb.1, h2⟩, hy⟩
  by_cases u2 : N 13053 (9 * (12 * g + o) + q) = 2
  · have eh : ∀ b, b ≠ 13062 → b ≠ 13063 → b ≠ 13046 → ddN (up N 12000 0 0) g m b = (up N 12000 0 0) b := fun b b1 b2 b3 => by
      funext i
      unfold ddN
      rw [up_s, if_neg (fun z => b3 z.1), up_s, if_neg (fun z => b2 z.1), up_s, if_neg (fun z => b1 z.1)]
    have ehn : hn (ddN (up N 12000 0 0) g m) g o = hn N g o := by
      show ddN (up N 12000 0 0) g m 13051 _ = _
      rw [eh _ (by decide) (by decide) (by decide)]
      rfl
    have ehf : ∀ s, hf (ddN (up N 12000 0 0) g m) g o s = hf N g o s := fun s => by
      show ddN (up N 12000 0 0) g m 13052 _ = _
      rw [eh _ (by decide) (by decide) (by decide)]
      rfl
    obtain ⟨f1, f2⟩ := m_bkStart (NF := ddN (up N 12000 0 0) g m) (m := m) (t := (N 12000 1)) h1.1 h01.1 o2 (by rw [ehn]; exact h9.2.1) hb.1 (by rw [ehn]; exact h2)
    have lpx := m_bkLoop (NF := ddN (up N 12000 0 0) g m) (N1 := ooN (ddN (up N 12000 0 0) g m) g o q) (t := (N 12000 1)) h1.1 g3 h01.1 o2 (by rw [ehn]; exact h9.2.1) hb.1 (by rw [ehn]; exact h2) m1 m150 (fun s s1 s2 => by rw [ehf]; exact hbd s s1 (by rw [ehn] at s2; exact s2)) (fun s x s1 s2 x1 x2 h => by rw [ehf, ehf] at h; rw [ehn] at s2 x2; exact hd s x s1 s2 x1 x2 h) (by rw [eh _ (by decide) (by decide) (by decide)]; rfl) f1 f2 C' A'
    rw [ehn, oo_dd] at lpx
    obtain ⟨M, l1, NM, rfl, fm, rm⟩ := lpx
    have dn : N 13046 g < 150 := dd_n2 (m := m) a m1 m150 (fun z => by
      have := ((a.le m m1 m150).2.2.2.2.2.2.1).mpr z
      omega)
    have db := a.de.2.1
    have mg : MG g (up N 12000 0 0) NM := (MG.dd (N := up N 12000 0 0) h1.1 m1 m150 ⟨db.1, dn⟩).tr rm.2.2.2.2
    refine ⟨NM, -1, ⟨Int.le_refl _, mg, fun b hb' => ?_, ?_, fun x x1 x2 hx => ?_⟩, ?_⟩
    · rw [rm.2.2.1 b (by omega) (by omega), eh _ (by omega) (by omega) (by omega)]
      funext k
      rw [up_s, if_neg (by omega)]
    · rw [rm.2.2.1 12000 (by decide) (by decide), eh _ (by decide) (by decide) (by decide)]
      rfl
    · rcases rm.wt hx with ⟨s, s1, s2, s3, s4'⟩ | ⟨z1, z2⟩
      · rw [ehf] at s3
        exact Or.inr ⟨by omega, o, s, ⟨h01.1, o2⟩, h02, ⟨s1, s2⟩, s3⟩
      · rw [eh _ (by decide) (by decide) (by decide)] at z1 z2
        exact Or.inl ⟨z1, z2⟩
    · have e9 : ooN (up N 12000 0 0) g o q 13046 g = N 13046 g := by rw [on_ar (by decide)]; rfl
      have l1' : lp (b_X11_retry_161 12000 (12 * g + o) m g o) 1000 (q, mk C' (up (up (up (ooN (up N 12000 0 0) g o q) 13062 (150 * g + m) 1) 13063 (150 * g + N 13046 g) m) 13046 g (N 13046 g + 1)) A') = some (mk C' NM A') := by
        have e8 : ddN (ooN (up N 12000 0 0) g o q) g m = up (up (up (ooN (up N 12000 0 0) g o q) 13062 (150 * g + m) 1) 13063 (150 * g + N 13046 g) m) 13046 g (N 13046 g + 1) := by
          unfold ddN
          rw [e9]
        rw [← e8]
        exact l1
      unfold p_X11_retry
      simp (disch := omega) only [aok, up_s, true_and, false_and, and_true, and_false, if_true, if_false, ↓reduceIte, ↓Option.bind_some, Int.reduceEq, Int.reduceNe, Int.reduceLT, Int.reduceLE, gd_true, gd_false, bind_b, q10, eq_self, reduceCtorEq, not_true_eq_false, not_false_eq_true, ne_eq, pt_0, pt_1, pt_2, pt_3, pt_4, pt_5, pt_6, pt_7, pt_8, pt_9, pt_10, pt_11, pt_12, pt_13, pt_14, pt_15, pt_16, pt_17, pt_18, pt_19, pt_20, pt_21, pt_22, pt_23, pt_24, pt_25, pt_26, pt_27, pt_28, pt_29, pt_30, pt_31, pt_32, pt_33, pt_34, pt_35, pt_36, pt_37, pt_38, pt_39, pt_40, pt_41, pt_42, pt_43, pt_44, pt_45, pt_46, pt_47, pt_48, pt_49, pt_50, pt_51, pt_52, pt_53, pt_54, pt_55, pt_56, pt_57, pt_58, pt_59, pt_60, pt_61, pt_62, pt_63, pt_64, pt_65, pt_66, pt_67, pa_13005, pw_13005, pa_13006, pw_13006, pa_13007, pw_13007, pa_14008, pw_14008, pa_13009, pw_13009, pa_13010, pw_13010, pa_13012, pw_13012, pa_13013, pw_13013, pa_13014, pw_13014, pa_13015, pw_13015, pa_13016, pw_13016, pa_13017, pw_13017, pa_13018, pw_13018, pa_13020, pw_13020, pa_13021, pw_13021, pa_13022, pw_13022, pa_13023, pw_13023, pa_13024, pw_13024, pa_13025, pw_13025, pa_13026, pw_13026, pa_13027, pw_13027, pa_13028, pw_13028, pa_13029, pw_13029, pa_13031, pw_13031, pa_13032, pw_13032, pa_13033, pw_13033, pa_14034, pw_14034, pa_13035, pw_13035, pa_13036, pw_13036, pa_13037, pw_13037, pa_13038, pw_13038, pa_13039, pw_13039, pa_13042, pw_13042, pa_13043, pw_13043, pa_13044, pw_13044, pa_13045, pw_13045, pa_13046, pw_13046, pa_13047, pw_13047, pa_13048, pw_13048, pa_13049, pw_13049, pa_13050, pw_13050, pa_13051, pw_13051, pa_13052, pw_13052, pa_13053, pw_13053, pa_13054, pw_13054, pa_13055, pw_13055, pa_13056, pw_13056, pa_13057, pw_13057, pa_13058, pw_13058, pa_13059, pw_13059, pa_13060, pw_13060, pa_13061, pw_13061, pa_13062, pw_13062, pa_13063, pw_13063, pa_13064, pw_13064, pa_13065, pw_13065, pa_13066, pw_13066, pa_13067, pw_13067, ps_0, ps_1, ps_2, ps_3, ps_4, ps_11, ps_19, ps_30, ps_40, ps_41, ln_13005, ln_13006, ln_13007, ln_14008, ln_13009, ln_13010, ln_13012, ln_13013, ln_13014, ln_13015, ln_13016, ln_13017, ln_13018, ln_13020, ln_13021, ln_13022, ln_13023, ln_13024, ln_13025, ln_13026, ln_13027, ln_13028, ln_13029, ln_13031, ln_13032, ln_13033, ln_14034, ln_13035, ln_13036, ln_13037, ln_13038, ln_13039, ln_13042, ln_13043, ln_13044, ln_13045, ln_13046, ln_13047, ln_13048, ln_13049, ln_13050, ln_13051, ln_13052, ln_13053, ln_13054, ln_13055, ln_13056, ln_13057, ln_13058, ln_13059, ln_13060, ln_13061, ln_13062, ln_13063, ln_13064, ln_13065, ln_13066, ln_13067, gd_t, w_eq, Int.reduceAdd, hi, h1, h01, h02, pl, np, u2, mo1, e9, l1']
  · obtain ⟨due, hdue⟩ : ∃ due, (if N 13053 (9 * (12 * g + o) + q) = 0 then (N 12000 1) + 2 else (N 12000 1) + 4) = due := ⟨_, rfl⟩
    obtain ⟨tr, htr⟩ : ∃ tr, N 13053 (9 * (12 * g + o) + q) + 1 = tr := ⟨_, rfl⟩
    have eh : ∀ b, b ≠ 13059 → b ≠ 13060 → b ≠ 13061 → irN (up N 12000 0 0) g m due tr b = (up N 12000 0 0) b := fun b b1 b2 b3 => ir_ar b1 b2 b3
    have ehn : hn (irN (up N 12000 0 0) g m due tr) g o = hn N g o := by
      show irN (up N 12000 0 0) g m due tr 13051 _ = _
      rw [eh _ (by decide) (by decide) (by decide)]
      rfl
    have ehf : ∀ s, hf (irN (up N 12000 0 0) g m due tr) g o s = hf N g o s := fun s => by
      show irN (up N 12000 0 0) g m due tr 13052 _ = _
      rw [eh _ (by decide) (by decide) (by decide)]
      rfl
    obtain ⟨f1, f2⟩ := m_bkStart (NF := irN (up N 12000 0 0) g m due tr) (m := m) (t := (N 12000 1)) h1.1 h01.1 o2 (by rw [ehn]; exact h9.2.1) hb.1 (by rw [ehn]; exact h2)
    have lpx := m_bkLoop (NF := irN (up N 12000 0 0) g m due tr) (N1 := ooN (irN (up N 12000 0 0) g m due tr) g o q) (t := (N 12000 1)) h1.1 g3 h01.1 o2 (by rw [ehn]; exact h9.2.1) hb.1 (by rw [ehn]; exact h2) m1 m150 (fun s s1 s2 => by rw [ehf]; exact hbd s s1 (by rw [ehn] at s2; exact s2)) (fun s x s1 s2 x1 x2 h => by rw [ehf, ehf] at h; rw [ehn] at s2 x2; exact hd s x s1 s2 x1 x2 h) (by rw [eh _ (by decide) (by decide) (by decide)]; rfl) f1 f2 C' A'
    rw [ehn, oo_ir] at lpx
    obtain ⟨M, l1, NM, rfl, fm, rm⟩ := lpx
    have mg : MG g (up N 12000 0 0) NM := (MG.ir m1 m150).tr rm.2.2.2.2
    have hdu : due ≤ (N 12000 1) + 4 := by rw [← hdue]; split <;> omega
    have hdu0 : 0 ≤ due := by rw [← hdue]; split <;> omega
    refine ⟨NM, due, ⟨by omega, mg, fun b hb' => ?_, ?_, fun x x1 x2 hx => ?_⟩, ?_⟩
    · rw [rm.2.2.1 b (by omega) (by omega), eh _ (by omega) (by omega) (by omega)]
      funext k
      rw [up_s, if_neg (by omega)]
    · rw [rm.2.2.1 12000 (by decide) (by decide), eh _ (by decide) (by decide) (by decide)]
      rfl
    · rcases rm.wt hx with ⟨s, s1, s2, s3, s4'⟩ | ⟨z1, z2⟩
      · rw [ehf] at s3
        exact Or.inr ⟨by omega, o, s, ⟨h01.1, o2⟩, h02, ⟨s1, s2⟩, s3⟩
      · rw [ir_w] at z1
        rw [ir_d] at z2
        by_cases e : x = m
        · rw [if_pos (by omega)] at z2
          exact Or.inr ⟨by omega, by rw [e]; exact hdm⟩
        · rw [if_neg (by omega)] at z1 z2
          exact Or.inl ⟨z1, z2⟩
    · have mi := fun C A => @m_intoRow C (ooN (up N 12000 0 0) g o q) A g m due tr h1.1 g3 m1 m150
      unfold p_X11_retry
      by_cases u0 : N 13053 (9 * (12 * g + o) + q) = 0
      · rw [if_pos u0] at hdue
        have htr2 : tr = 1 := by omega
        subst hdue
        subst htr2
        simp (disch := omega) only [aok, up_s, true_and, false_and, and_true, and_false, if_true, if_false, ↓reduceIte, ↓Option.bind_some, Int.reduceEq, Int.reduceNe, Int.reduceLT, Int.reduceLE, gd_true, gd_false, bind_b, q10, eq_self, reduceCtorEq, not_true_eq_false, not_false_eq_true, ne_eq, pt_0, pt_1, pt_2, pt_3, pt_4, pt_5, pt_6, pt_7, pt_8, pt_9, pt_10, pt_11, pt_12, pt_13, pt_14, pt_15, pt_16, pt_17, pt_18, pt_19, pt_20, pt_21, pt_22, pt_23, pt_24, pt_25, pt_26, pt_27, pt_28, pt_29, pt_30, pt_31, pt_32, pt_33, pt_34, pt_35, pt_36, pt_37, pt_38, pt_39, pt_40, pt_41, pt_42, pt_43, pt_44, pt_45, pt_46, pt_47, pt_48, pt_49, pt_50, pt_51, pt_52, pt_53, pt_54, pt_55, pt_56, pt_57, pt_58, pt_59, pt_60, pt_61, pt_62, pt_63, pt_64, pt_65, pt_66, pt_67, pa_13005, pw_13005, pa_13006, pw_13006, pa_13007, pw_13007, pa_14008, pw_14008, pa_13009, pw_13009, pa_13010, pw_13010, pa_13012, pw_13012, pa_13013, pw_13013, pa_13014, pw_13014, pa_13015, pw_13015, pa_13016, pw_13016, pa_13017, pw_13017, pa_13018, pw_13018, pa_13020, pw_13020, pa_13021, pw_13021, pa_13022, pw_13022, pa_13023, pw_13023, pa_13024, pw_13024, pa_13025, pw_13025, pa_13026, pw_13026, pa_13027, pw_13027, pa_13028, pw_13028, pa_13029, pw_13029, pa_13031, pw_13031, pa_13032, pw_13032, pa_13033, pw_13033, pa_14034, pw_14034, pa_13035, pw_13035, pa_13036, pw_13036, pa_13037, pw_13037, pa_13038, pw_13038, pa_13039, pw_13039, pa_13042, pw_13042, pa_13043, pw_13043, pa_13044, pw_13044, pa_13045, pw_13045, pa_13046, pw_13046, pa_13047, pw_13047, pa_13048, pw_13048, pa_13049, pw_13049, pa_13050, pw_13050, pa_13051, pw_13051, pa_13052, pw_13052, pa_13053, pw_13053, pa_13054, pw_13054, pa_13055, pw_13055, pa_13056, pw_13056, pa_13057, pw_13057, pa_13058, pw_13058, pa_13059, pw_13059, pa_13060, pw_13060, pa_13061, pw_13061, pa_13062, pw_13062, pa_13063, pw_13063, pa_13064, pw_13064, pa_13065, pw_13065, pa_13066, pw_13066, pa_13067, pw_13067, ps_0, ps_1, ps_2, ps_3, ps_4, ps_11, ps_19, ps_30, ps_40, ps_41, ln_13005, ln_13006, ln_13007, ln_14008, ln_13009, ln_13010, ln_13012, ln_13013, ln_13014, ln_13015, ln_13016, ln_13017, ln_13018, ln_13020, ln_13021, ln_13022, ln_13023, ln_13024, ln_13025, ln_13026, ln_13027, ln_13028, ln_13029, ln_13031, ln_13032, ln_13033, ln_14034, ln_13035, ln_13036, ln_13037, ln_13038, ln_13039, ln_13042, ln_13043, ln_13044, ln_13045, ln_13046, ln_13047, ln_13048, ln_13049, ln_13050, ln_13051, ln_13052, ln_13053, ln_13054, ln_13055, ln_13056, ln_13057, ln_13058, ln_13059, ln_13060, ln_13061, ln_13062, ln_13063, ln_13064, ln_13065, ln_13066, ln_13067, gd_t, w_eq, hi, h1, h01, h02, pl, np, u0, mo1, Int.zero_add, mi, l1]
      · have u01 : N 13053 (9 * (12 * g + o) + q) = 1 := by omega
        rw [if_neg u0] at hdue
        have htr2 : tr = 2 := by omega
        subst hdue
        subst htr2
        simp (disch := omega) only [aok, up_s, true_and, false_and, and_true, and_false, if_true, if_false, ↓reduceIte, ↓Option.bind_some, Int.reduceEq, Int.reduceNe, Int.reduceLT, Int.reduceLE, gd_true, gd_false, bind_b, q10, eq_self, reduceCtorEq, not_true_eq_false, not_false_eq_true, ne_eq, pt_0, pt_1, pt_2, pt_3, pt_4, pt_5, pt_6, pt_7, pt_8, pt_9, pt_10, pt_11, pt_12, pt_13, pt_14, pt_15, pt_16, pt_17, pt_18, pt_19, pt_20, pt_21, pt_22, pt_23, pt_24, pt_25, pt_26, pt_27, pt_28, pt_29, pt_30, pt_31, pt_32, pt_33, pt_34, pt_35, pt_36, pt_37, pt_38, pt_39, pt_40, pt_41, pt_42, pt_43, pt_44, pt_45, pt_46, pt_47, pt_48, pt_49, pt_50, pt_51, pt_52, pt_53, pt_54, pt_55, pt_56, pt_57, pt_58, pt_59, pt_60, pt_61, pt_62, pt_63, pt_64, pt_65, pt_66, pt_67, pa_13005, pw_13005, pa_13006, pw_13006, pa_13007, pw_13007, pa_14008, pw_14008, pa_13009, pw_13009, pa_13010, pw_13010, pa_13012, pw_13012, pa_13013, pw_13013, pa_13014, pw_13014, pa_13015, pw_13015, pa_13016, pw_13016, pa_13017, pw_13017, pa_13018, pw_13018, pa_13020, pw_13020, pa_13021, pw_13021, pa_13022, pw_13022, pa_13023, pw_13023, pa_13024, pw_13024, pa_13025, pw_13025, pa_13026, pw_13026, pa_13027, pw_13027, pa_13028, pw_13028, pa_13029, pw_13029, pa_13031, pw_13031, pa_13032, pw_13032, pa_13033, pw_13033, pa_14034, pw_14034, pa_13035, pw_13035, pa_13036, pw_13036, pa_13037, pw_13037, pa_13038, pw_13038, pa_13039, pw_13039, pa_13042, pw_13042, pa_13043, pw_13043, pa_13044, pw_13044, pa_13045, pw_13045, pa_13046, pw_13046, pa_13047, pw_13047, pa_13048, pw_13048, pa_13049, pw_13049, pa_13050, pw_13050, pa_13051, pw_13051, pa_13052, pw_13052, pa_13053, pw_13053, pa_13054, pw_13054, pa_13055, pw_13055, pa_13056, pw_13056, pa_13057, pw_13057, pa_13058, pw_13058, pa_13059, pw_13059, pa_13060, pw_13060, pa_13061, pw_13061, pa_13062, pw_13062, pa_13063, pw_13063, pa_13064, pw_13064, pa_13065, pw_13065, pa_13066, pw_13066, pa_13067, pw_13067, ps_0, ps_1, ps_2, ps_3, ps_4, ps_11, ps_19, ps_30, ps_40, ps_41, ln_13005, ln_13006, ln_13007, ln_14008, ln_13009, ln_13010, ln_13012, ln_13013, ln_13014, ln_13015, ln_13016, ln_13017, ln_13018, ln_13020, ln_13021, ln_13022, ln_13023, ln_13024, ln_13025, ln_13026, ln_13027, ln_13028, ln_13029, ln_13031, ln_13032, ln_13033, ln_14034, ln_13035, ln_13036, ln_13037, ln_13038, ln_13039, ln_13042, ln_13043, ln_13044, ln_13045, ln_13046, ln_13047, ln_13048, ln_13049, ln_13050, ln_13051, ln_13052, ln_13053, ln_13054, ln_13055, ln_13056, ln_13057, ln_13058, ln_13059, ln_13060, ln_13061, ln_13062, ln_13063, ln_13064, ln_13065, ln_13066, ln_13067, gd_t, w_eq, hi, h1, h01, h02, pl, np, u01, mo1, Int.reduceAdd, mi, l1]
theorem k_retry (l : LW n C N A) {g : Int} (hg : g = 0) (o m : Int) : Ok (q_L_retry (mk C N A) 11000 g o m) (KW (n + 1)) := by
  have j := l.1
  have g2 := l.g2
  have s4 := j.jn.g.s.2.2.2.1
  have h1 : 0 ≤ g ∧ g < (N 12000 41) := by omega
  have g3 : g < 3 := by omega
  have hi := fun C A => @m_isMember C (up N 12000 0 0) A g o j.z.s
  simp only [up_s, up_s, true_and, false_and, and_true, and_false, if_true, if_false, ↓reduceIte, ↓Option.bind_some, Int.reduceEq, Int.reduceNe, Int.reduceLT, Int.reduceLE, gd_true, gd_false, bind_b, q10, eq_self, reduceCtorEq, not_true_eq_false, not_false_eq_true, ne_eq] at hi
  have jz : JJ n C (up N 12000 0 0) A := j.thrown
  by_cases h0 : (0 ≤ o ∧ o ≤ 11) ∧ N 13047 (12 * g + o) = 1
  · have h01 := h0.1; have h02 := h0.2
    have o2 : o < 12 := by omega
    have a := (j.gr h1.1 h1.2).1
    have h9 := a.h9 h01.1 o2 h02
    by_cases h2 : hpl N g o m < hn N g o
    · obtain ⟨N2, v2, ⟨r1, r2, r3, r4, r5⟩, c⟩ := LR_retry j (retry_m j h1 h01 h02 h2)
      subst hg
      refine KW.gr (N2 := N2) (v2 := v2) l r4 (by omega) ⟨r2, (r3 _ (by decide)).trans rfl, fun x x1 x2 hx => ?_, fun x x1 x2 hx => Or.inl ?_⟩ (r3 _ (by decide)) (by rw [r3 13044 (by decide)]; exact l.2.1.2) c
      · rcases r5 x x1 x2 hx with z | ⟨z1, z2⟩
        · exact Or.inl z
        · exact Or.inr ⟨z1, Or.inl (j.hd h1.1 h1.2 z2).2⟩
      · have e : N2 13064 = N 13064 := r3 _ (by decide)
        unfold sn at hx
        rw [e] at hx
        exact hx
    · have az := (jz.gr h1.1 h1.2).1
      have pl := @m_place C (up N 12000 0 0) g o m az h1.1 g3 h01.1 o2 h02
      have e1 : hpl (up N 12000 0 0) g o m = hpl N g o m := rfl
      have e2 : hn (up N 12000 0 0) g o = hn N g o := rfl
      rw [e1, e2] at pl
      refine KW.ref (k := 2) (v2 := 0) l (by decide) (L_retry j fun C A => ?_)
      unfold p_X11_retry
      simp (disch := omega) only [aok, up_s, true_and, false_and, and_true, and_false, if_true, if_false, ↓reduceIte, ↓Option.bind_some, Int.reduceEq, Int.reduceNe, Int.reduceLT, Int.reduceLE, gd_true, gd_false, bind_b, q10, eq_self, reduceCtorEq, not_true_eq_false, not_false_eq_true, ne_eq, pt_0, pt_1, pt_2, pt_3, pt_4, pt_5, pt_6, pt_7, pt_8, pt_9, pt_10, pt_11, pt_12, pt_13, pt_14, pt_15, pt_16, pt_17, pt_18, pt_19, pt_20, pt_21, pt_22, pt_23, pt_24, pt_25, pt_26, pt_27, pt_28, pt_29, pt_30, pt_31, pt_32, pt_33, pt_34, pt_35, pt_36, pt_37, pt_38, pt_39, pt_40, pt_41, pt_42, pt_43, pt_44, pt_45, pt_46, pt_47, pt_48, pt_49, pt_50, pt_51, pt_52, pt_53, pt_54, pt_55, pt_56, pt_57, pt_58, pt_59, pt_60, pt_61, pt_62, pt_63, pt_64, pt_65, pt_66, pt_67, pa_13005, pw_13005, pa_13006, pw_13006, pa_13007, pw_13007, pa_14008, pw_14008, pa_13009, pw_13009, pa_13010, pw_13010, pa_13012, pw_13012, pa_13013, pw_13013, pa_13014, pw_13014, pa_13015, pw_13015, pa_13016, pw_13016, pa_13017, pw_13017, pa_13018, pw_13018, pa_13020, pw_13020, pa_13021, pw_13021, pa_13022, pw_13022, pa_13023, pw_13023, pa_13024, pw_13024, pa_13025, pw_13025, pa_13026, pw_13026, pa_13027, pw_13027, pa_13028, pw_13028, pa_13029, pw_13029, pa_13031, pw_13031, pa_13032, pw_13032, pa_13033, pw_13033, pa_14034, pw_14034, pa_13035, pw_13035, pa_13036, pw_13036, pa_13037, pw_13037, pa_13038, pw_13038, pa_13039, pw_13039, pa_13042, pw_13042, pa_13043, pw_13043, pa_13044, pw_13044, pa_13045, pw_13045, pa_13046, pw_13046, pa_13047, pw_13047, pa_13048, pw_13048, pa_13049, pw_13049, pa_13050, pw_13050, pa_13051, pw_13051, pa_13052, pw_13052, pa_13053, pw_13053, pa_13054, pw_13054, pa_13055, pw_13055, pa_13056, pw_13056, pa_13057, pw_13057, pa_13058, pw_13058, pa_13059, pw_13059, pa_13060, pw_13060, pa_13061, pw_13061, pa_13062, pw_13062, pa_13063, pw_13063, pa_13064, pw_13064, pa_13065, pw_13065, pa_13066, pw_13066, pa_13067, pw_13067, ps_0, ps_1, ps_2, ps_3, ps_4, ps_11, ps_19, ps_30, ps_40, ps_41, ln_13005, ln_13006, ln_13007, ln_14008, ln_13009, ln_13010, ln_13012, ln_13013, ln_13014, ln_13015, ln_13016, ln_13017, ln_13018, ln_13020, ln_13021, ln_13022, ln_13023, ln_13024, ln_13025, ln_13026, ln_13027, ln_13028, ln_13029, ln_13031, ln_13032, ln_13033, ln_14034, ln_13035, ln_13036, ln_13037, ln_13038, ln_13039, ln_13042, ln_13043, ln_13044, ln_13045, ln_13046, ln_13047, ln_13048, ln_13049, ln_13050, ln_13051, ln_13052, ln_13053, ln_13054, ln_13055, ln_13056, ln_13057, ln_13058, ln_13059, ln_13060, ln_13061, ln_13062, ln_13063, ln_13064, ln_13065, ln_13066, ln_13067, gd_t, w_eq, hi, h1, h01, h02, pl, h2, m_refuse]
  · have h0' : ¬ ((0 ≤ g ∧ g < (N 12000 41)) ∧ (0 ≤ o ∧ o ≤ 11) ∧ N 13047 (12 * g + o) = 1) := fun z => h0 z.2
    simp only [if_neg h0'] at hi
    refine KW.ref (k := 1) (v2 := 0) l (by decide) (L_retry j fun C A => ?_)
    unfold p_X11_retry
    simp (disch := omega) only [aok, up_s, true_and, false_and, and_true, and_false, if_true, if_false, ↓reduceIte, ↓Option.bind_some, Int.reduceEq, Int.reduceNe, Int.reduceLT, Int.reduceLE, gd_true, gd_false, bind_b, q10, eq_self, reduceCtorEq, not_true_eq_false, not_false_eq_true, ne_eq, pt_0, pt_1, pt_2, pt_3, pt_4, pt_5, pt_6, pt_7, pt_8, pt_9, pt_10, pt_11, pt_12, pt_13, pt_14, pt_15, pt_16, pt_17, pt_18, pt_19, pt_20, pt_21, pt_22, pt_23, pt_24, pt_25, pt_26, pt_27, pt_28, pt_29, pt_30, pt_31, pt_32, pt_33, pt_34, pt_35, pt_36, pt_37, pt_38, pt_39, pt_40, pt_41, pt_42, pt_43, pt_44, pt_45, pt_46, pt_47, pt_48, pt_49, pt_50, pt_51, pt_52, pt_53, pt_54, pt_55, pt_56, pt_57, pt_58, pt_59, pt_60, pt_61, pt_62, pt_63, pt_64, pt_65, pt_66, pt_67, pa_13005, pw_13005, pa_13006, pw_13006, pa_13007, pw_13007, pa_14008, pw_14008, pa_13009, pw_13009, pa_13010, pw_13010, pa_13012, pw_13012, pa_13013, pw_13013, pa_13014, pw_13014, pa_13015, pw_13015, pa_13016, pw_13016, pa_13017, pw_13017, pa_13018, pw_13018, pa_13020, pw_13020, pa_13021, pw_13021, pa_13022, pw_13022, pa_13023, pw_13023, pa_13024, pw_13024, pa_13025, pw_13025, pa_13026, pw_13026, pa_13027, pw_13027, pa_13028, pw_13028, pa_13029, pw_13029, pa_13031, pw_13031, pa_13032, pw_13032, pa_13033, pw_13033, pa_14034, pw_14034, pa_13035, pw_13035, pa_13036, pw_13036, pa_13037, pw_13037, pa_13038, pw_13038, pa_13039, pw_13039, pa_13042, pw_13042, pa_13043, pw_13043, pa_13044, pw_13044, pa_13045, pw_13045, pa_13046, pw_13046, pa_13047, pw_13047, pa_13048, pw_13048, pa_13049, pw_13049, pa_13050, pw_13050, pa_13051, pw_13051, pa_13052, pw_13052, pa_13053, pw_13053, pa_13054, pw_13054, pa_13055, pw_13055, pa_13056, pw_13056, pa_13057, pw_13057, pa_13058, pw_13058, pa_13059, pw_13059, pa_13060, pw_13060, pa_13061, pw_13061, pa_13062, pw_13062, pa_13063, pw_13063, pa_13064, pw_13064, pa_13065, pw_13065, pa_13066, pw_13066, pa_13067, pw_13067, ps_0, ps_1, ps_2, ps_3, ps_4, ps_11, ps_19, ps_30, ps_40, ps_41, ln_13005, ln_13006, ln_13007, ln_14008, ln_13009, ln_13010, ln_13012, ln_13013, ln_13014, ln_13015, ln_13016, ln_13017, ln_13018, ln_13020, ln_13021, ln_13022, ln_13023, ln_13024, ln_13025, ln_13026, ln_13027, ln_13028, ln_13029, ln_13031, ln_13032, ln_13033, ln_14034, ln_13035, ln_13036, ln_13037, ln_13038, ln_13039, ln_13042, ln_13043, ln_13044, ln_13045, ln_13046, ln_13047, ln_13048, ln_13049, ln_13050, ln_13051, ln_13052, ln_13053, ln_13054, ln_13055, ln_13056, ln_13057, ln_13058, ln_13059, ln_13060, ln_13061, ln_13062, ln_13063, ln_13064, ln_13065, ln_13066, ln_13067, gd_t, w_eq, hi, m_refuse]
end RETRYC
