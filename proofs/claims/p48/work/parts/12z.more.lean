theorem st_ldc_w {D : Dt} {μ : MI} {pc pc' : Nat} {L : List (Nat × VV)} {st : List VV} {M : Mm} {n : Int} {index : Nat} (hd : decode μ.2.1 pc = .ok (.ldc_w index, 3)) (hc : Cond.constant μ.1.cls index (Int32.ofInt n) ∈ Big) (hw : w n = n) (hp : pc + 3 = pc') : St D μ pc L (st) M pc' L ((0, n) :: st) M := by
  subst hp
  exact St.of (fun hL hS _ => ok_cons (ok_int (hw ▸ r32_w n)) hS) (fun l p e R s m args below meth c H locs ls cells slots Q hL hS hW C En S hl k => lv_ldcw C.1 C.2.1 C.2.2.2.1 (C.2.2.2.2.1 _ hc) hd k)
