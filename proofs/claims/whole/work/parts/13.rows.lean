/-! a row an instruction -/
/-- n places of the row a, from sp on, copied into the row b, from dp on -/
def cp (h : hT) (a sp b dp n : Int) : hT := fun a' k' => if a' = b ∧ dp ≤ k' ∧ k' < dp + n then h a (sp + (k' - dp)) else h a' k'
theorem cp_o {h : hT} {a sp b dp n c : Int} (q : c ≠ b) : cp h a sp b dp n c = h c := by
  funext k
  simp [cp, q]
theorem cp_i {h : hT} {a sp b dp n k : Int} (q1 : dp ≤ k) (q2 : k < dp + n) : cp h a sp b dp n b k = h a (sp + (k - dp)) := by
  simp [cp, q1, q2]
theorem cp_x {h : hT} {a sp b dp n k : Int} (q : k < dp ∨ dp + n ≤ k) : cp h a sp b dp n b k = h b k := by
  unfold cp
  rw [if_neg (by omega)]
section YR
variable {d : Nat} {y : am_MI} {pc : Nat} {al st : List Value} {h : hT} {Q : Option Value → hT → Prop}

theorem yr_iload_n {pq : Nat} {k : Fin 4} {z : Int} (hpq : pc + 1 = pq) (hd : decode y.2.2.1 pc = .ok (.iload_n k, 1)) (hl : al[(k : Nat)]? = some (vi z)) (K : Yr d y pq al (vi z :: st) h Q) : Yr d y pc al (st) h Q := by
  subst hpq
  refine yr_stp hd rfl rfl rfl ?_ K
  simp only [am_stp, hl, am_iv, vi]

theorem yr_iload {pq : Nat} {k : Nat} {z : Int} (hpq : pc + 2 = pq) (hd : decode y.2.2.1 pc = .ok (.iload k, 2)) (hl : al[k]? = some (vi z)) (K : Yr d y pq al (vi z :: st) h Q) : Yr d y pc al (st) h Q := by
  subst hpq
  refine yr_stp hd rfl rfl rfl ?_ K
  simp only [am_stp, hl, am_iv, vi]

theorem yr_aload_n {pq : Nat} {k : Fin 4} {z : Int} (hpq : pc + 1 = pq) (hd : decode y.2.2.1 pc = .ok (.aload_n k, 1)) (hl : al[(k : Nat)]? = some (vr z)) (K : Yr d y pq al (vr z :: st) h Q) : Yr d y pc al (st) h Q := by
  subst hpq
  refine yr_stp hd rfl rfl rfl ?_ K
  simp only [am_stp, hl, am_rv, vr]

theorem yr_sload_n {pq : Nat} {k : Fin 4} {z : Int} (hpq : pc + 1 = pq) (hd : decode y.2.2.1 pc = .ok (.aload_n k, 1)) (hl : al[(k : Nat)]? = some (vs z)) (K : Yr d y pq al (vs z :: st) h Q) : Yr d y pc al (st) h Q := by
  subst hpq
  refine yr_stp hd rfl rfl rfl ?_ K
  simp only [am_stp, hl, am_rv, vs]

theorem yr_aload {pq : Nat} {k : Nat} {z : Int} (hpq : pc + 2 = pq) (hd : decode y.2.2.1 pc = .ok (.aload k, 2)) (hl : al[k]? = some (vr z)) (K : Yr d y pq al (vr z :: st) h Q) : Yr d y pc al (st) h Q := by
  subst hpq
  refine yr_stp hd rfl rfl rfl ?_ K
  simp only [am_stp, hl, am_rv, vr]

theorem yr_sload {pq : Nat} {k : Nat} {z : Int} (hpq : pc + 2 = pq) (hd : decode y.2.2.1 pc = .ok (.aload k, 2)) (hl : al[k]? = some (vs z)) (K : Yr d y pq al (vs z :: st) h Q) : Yr d y pc al (st) h Q := by
  subst hpq
  refine yr_stp hd rfl rfl rfl ?_ K
  simp only [am_stp, hl, am_rv, vs]

theorem yr_istore0 {x0 : Value} {z : Int} {pq : Nat} (hpq : pc + 1 = pq) (hd : decode y.2.2.1 pc = .ok (.istore_n 0, 1)) (K : Yr d y pq (vi z :: al) st h Q) : Yr d y pc (x0 :: al) (vi z :: st) h Q := by
  subst hpq
  refine yr_stp hd rfl rfl rfl ?_ K
  exact if_pos (e := (none : Option am_C)) (show 0 < (x0 :: al).length by simp)
theorem yr_astore0 {x0 : Value} {z : Int} {pq : Nat} (hpq : pc + 1 = pq) (hd : decode y.2.2.1 pc = .ok (.astore_n 0, 1)) (K : Yr d y pq (vr z :: al) st h Q) : Yr d y pc (x0 :: al) (vr z :: st) h Q := by
  subst hpq
  refine yr_stp hd rfl rfl rfl ?_ K
  exact if_pos (e := (none : Option am_C)) (show 0 < (x0 :: al).length by simp)
theorem yr_iinc0 {n z : Int} {pq : Nat} (hpq : pc + 3 = pq) (hd : decode y.2.2.1 pc = .ok (.iinc 0 n, 3)) (K : Yr d y pq (vi (z + n) :: al) st h Q) : Yr d y pc (vi z :: al) st h Q := by
  subst hpq
  refine yr_stp hd rfl rfl rfl ?_ K
  simp [am_stp, am_iv, vi, Int32.ofInt_add]
theorem yr_istore1 {x0 x1 : Value} {z : Int} {pq : Nat} (hpq : pc + 1 = pq) (hd : decode y.2.2.1 pc = .ok (.istore_n 1, 1)) (K : Yr d y pq (x0 :: vi z :: al) st h Q) : Yr d y pc (x0 :: x1 :: al) (vi z :: st) h Q := by
  subst hpq
  refine yr_stp hd rfl rfl rfl ?_ K
  exact if_pos (e := (none : Option am_C)) (show 1 < (x0 :: x1 :: al).length by simp)
theorem yr_astore1 {x0 x1 : Value} {z : Int} {pq : Nat} (hpq : pc + 1 = pq) (hd : decode y.2.2.1 pc = .ok (.astore_n 1, 1)) (K : Yr d y pq (x0 :: vr z :: al) st h Q) : Yr d y pc (x0 :: x1 :: al) (vr z :: st) h Q := by
  subst hpq
  refine yr_stp hd rfl rfl rfl ?_ K
  exact if_pos (e := (none : Option am_C)) (show 1 < (x0 :: x1 :: al).length by simp)
theorem yr_iinc1 {x0 : Value} {n z : Int} {pq : Nat} (hpq : pc + 3 = pq) (hd : decode y.2.2.1 pc = .ok (.iinc 1 n, 3)) (K : Yr d y pq (x0 :: vi (z + n) :: al) st h Q) : Yr d y pc (x0 :: vi z :: al) st h Q := by
  subst hpq
  refine yr_stp hd rfl rfl rfl ?_ K
  simp [am_stp, am_iv, vi, Int32.ofInt_add]
theorem yr_istore2 {x0 x1 x2 : Value} {z : Int} {pq : Nat} (hpq : pc + 1 = pq) (hd : decode y.2.2.1 pc = .ok (.istore_n 2, 1)) (K : Yr d y pq (x0 :: x1 :: vi z :: al) st h Q) : Yr d y pc (x0 :: x1 :: x2 :: al) (vi z :: st) h Q := by
  subst hpq
  refine yr_stp hd rfl rfl rfl ?_ K
  exact if_pos (e := (none : Option am_C)) (show 2 < (x0 :: x1 :: x2 :: al).length by simp)
theorem yr_astore2 {x0 x1 x2 : Value} {z : Int} {pq : Nat} (hpq : pc + 1 = pq) (hd : decode y.2.2.1 pc = .ok (.astore_n 2, 1)) (K : Yr d y pq (x0 :: x1 :: vr z :: al) st h Q) : Yr d y pc (x0 :: x1 :: x2 :: al) (vr z :: st) h Q := by
  subst hpq
  refine yr_stp hd rfl rfl rfl ?_ K
  exact if_pos (e := (none : Option am_C)) (show 2 < (x0 :: x1 :: x2 :: al).length by simp)
theorem yr_iinc2 {x0 x1 : Value} {n z : Int} {pq : Nat} (hpq : pc + 3 = pq) (hd : decode y.2.2.1 pc = .ok (.iinc 2 n, 3)) (K : Yr d y pq (x0 :: x1 :: vi (z + n) :: al) st h Q) : Yr d y pc (x0 :: x1 :: vi z :: al) st h Q := by
  subst hpq
  refine yr_stp hd rfl rfl rfl ?_ K
  simp [am_stp, am_iv, vi, Int32.ofInt_add]
theorem yr_istore3 {x0 x1 x2 x3 : Value} {z : Int} {pq : Nat} (hpq : pc + 1 = pq) (hd : decode y.2.2.1 pc = .ok (.istore_n 3, 1)) (K : Yr d y pq (x0 :: x1 :: x2 :: vi z :: al) st h Q) : Yr d y pc (x0 :: x1 :: x2 :: x3 :: al) (vi z :: st) h Q := by
  subst hpq
  refine yr_stp hd rfl rfl rfl ?_ K
  exact if_pos (e := (none : Option am_C)) (show 3 < (x0 :: x1 :: x2 :: x3 :: al).length by simp)
theorem yr_astore3 {x0 x1 x2 x3 : Value} {z : Int} {pq : Nat} (hpq : pc + 1 = pq) (hd : decode y.2.2.1 pc = .ok (.astore_n 3, 1)) (K : Yr d y pq (x0 :: x1 :: x2 :: vr z :: al) st h Q) : Yr d y pc (x0 :: x1 :: x2 :: x3 :: al) (vr z :: st) h Q := by
  subst hpq
  refine yr_stp hd rfl rfl rfl ?_ K
  exact if_pos (e := (none : Option am_C)) (show 3 < (x0 :: x1 :: x2 :: x3 :: al).length by simp)
theorem yr_iinc3 {x0 x1 x2 : Value} {n z : Int} {pq : Nat} (hpq : pc + 3 = pq) (hd : decode y.2.2.1 pc = .ok (.iinc 3 n, 3)) (K : Yr d y pq (x0 :: x1 :: x2 :: vi (z + n) :: al) st h Q) : Yr d y pc (x0 :: x1 :: x2 :: vi z :: al) st h Q := by
  subst hpq
  refine yr_stp hd rfl rfl rfl ?_ K
  simp [am_stp, am_iv, vi, Int32.ofInt_add]
theorem yr_istore4 {x0 x1 x2 x3 x4 : Value} {z : Int} {pq : Nat} (hpq : pc + 2 = pq) (hd : decode y.2.2.1 pc = .ok (.istore 4, 2)) (K : Yr d y pq (x0 :: x1 :: x2 :: x3 :: vi z :: al) st h Q) : Yr d y pc (x0 :: x1 :: x2 :: x3 :: x4 :: al) (vi z :: st) h Q := by
  subst hpq
  refine yr_stp hd rfl rfl rfl ?_ K
  exact if_pos (e := (none : Option am_C)) (show 4 < (x0 :: x1 :: x2 :: x3 :: x4 :: al).length by simp)
theorem yr_astore4 {x0 x1 x2 x3 x4 : Value} {z : Int} {pq : Nat} (hpq : pc + 2 = pq) (hd : decode y.2.2.1 pc = .ok (.astore 4, 2)) (K : Yr d y pq (x0 :: x1 :: x2 :: x3 :: vr z :: al) st h Q) : Yr d y pc (x0 :: x1 :: x2 :: x3 :: x4 :: al) (vr z :: st) h Q := by
  subst hpq
  refine yr_stp hd rfl rfl rfl ?_ K
  exact if_pos (e := (none : Option am_C)) (show 4 < (x0 :: x1 :: x2 :: x3 :: x4 :: al).length by simp)
theorem yr_iinc4 {x0 x1 x2 x3 : Value} {n z : Int} {pq : Nat} (hpq : pc + 3 = pq) (hd : decode y.2.2.1 pc = .ok (.iinc 4 n, 3)) (K : Yr d y pq (x0 :: x1 :: x2 :: x3 :: vi (z + n) :: al) st h Q) : Yr d y pc (x0 :: x1 :: x2 :: x3 :: vi z :: al) st h Q := by
  subst hpq
  refine yr_stp hd rfl rfl rfl ?_ K
  simp [am_stp, am_iv, vi, Int32.ofInt_add]
theorem yr_istore5 {x0 x1 x2 x3 x4 x5 : Value} {z : Int} {pq : Nat} (hpq : pc + 2 = pq) (hd : decode y.2.2.1 pc = .ok (.istore 5, 2)) (K : Yr d y pq (x0 :: x1 :: x2 :: x3 :: x4 :: vi z :: al) st h Q) : Yr d y pc (x0 :: x1 :: x2 :: x3 :: x4 :: x5 :: al) (vi z :: st) h Q := by
  subst hpq
  refine yr_stp hd rfl rfl rfl ?_ K
  exact if_pos (e := (none : Option am_C)) (show 5 < (x0 :: x1 :: x2 :: x3 :: x4 :: x5 :: al).length by simp)
theorem yr_astore5 {x0 x1 x2 x3 x4 x5 : Value} {z : Int} {pq : Nat} (hpq : pc + 2 = pq) (hd : decode y.2.2.1 pc = .ok (.astore 5, 2)) (K : Yr d y pq (x0 :: x1 :: x2 :: x3 :: x4 :: vr z :: al) st h Q) : Yr d y pc (x0 :: x1 :: x2 :: x3 :: x4 :: x5 :: al) (vr z :: st) h Q := by
  subst hpq
  refine yr_stp hd rfl rfl rfl ?_ K
  exact if_pos (e := (none : Option am_C)) (show 5 < (x0 :: x1 :: x2 :: x3 :: x4 :: x5 :: al).length by simp)
theorem yr_iinc5 {x0 x1 x2 x3 x4 : Value} {n z : Int} {pq : Nat} (hpq : pc + 3 = pq) (hd : decode y.2.2.1 pc = .ok (.iinc 5 n, 3)) (K : Yr d y pq (x0 :: x1 :: x2 :: x3 :: x4 :: vi (z + n) :: al) st h Q) : Yr d y pc (x0 :: x1 :: x2 :: x3 :: x4 :: vi z :: al) st h Q := by
  subst hpq
  refine yr_stp hd rfl rfl rfl ?_ K
  simp [am_stp, am_iv, vi, Int32.ofInt_add]
theorem yr_istore6 {x0 x1 x2 x3 x4 x5 x6 : Value} {z : Int} {pq : Nat} (hpq : pc + 2 = pq) (hd : decode y.2.2.1 pc = .ok (.istore 6, 2)) (K : Yr d y pq (x0 :: x1 :: x2 :: x3 :: x4 :: x5 :: vi z :: al) st h Q) : Yr d y pc (x0 :: x1 :: x2 :: x3 :: x4 :: x5 :: x6 :: al) (vi z :: st) h Q := by
  subst hpq
  refine yr_stp hd rfl rfl rfl ?_ K
  exact if_pos (e := (none : Option am_C)) (show 6 < (x0 :: x1 :: x2 :: x3 :: x4 :: x5 :: x6 :: al).length by simp)
theorem yr_astore6 {x0 x1 x2 x3 x4 x5 x6 : Value} {z : Int} {pq : Nat} (hpq : pc + 2 = pq) (hd : decode y.2.2.1 pc = .ok (.astore 6, 2)) (K : Yr d y pq (x0 :: x1 :: x2 :: x3 :: x4 :: x5 :: vr z :: al) st h Q) : Yr d y pc (x0 :: x1 :: x2 :: x3 :: x4 :: x5 :: x6 :: al) (vr z :: st) h Q := by
  subst hpq
  refine yr_stp hd rfl rfl rfl ?_ K
  exact if_pos (e := (none : Option am_C)) (show 6 < (x0 :: x1 :: x2 :: x3 :: x4 :: x5 :: x6 :: al).length by simp)
theorem yr_iinc6 {x0 x1 x2 x3 x4 x5 : Value} {n z : Int} {pq : Nat} (hpq : pc + 3 = pq) (hd : decode y.2.2.1 pc = .ok (.iinc 6 n, 3)) (K : Yr d y pq (x0 :: x1 :: x2 :: x3 :: x4 :: x5 :: vi (z + n) :: al) st h Q) : Yr d y pc (x0 :: x1 :: x2 :: x3 :: x4 :: x5 :: vi z :: al) st h Q := by
  subst hpq
  refine yr_stp hd rfl rfl rfl ?_ K
  simp [am_stp, am_iv, vi, Int32.ofInt_add]
theorem yr_istore7 {x0 x1 x2 x3 x4 x5 x6 x7 : Value} {z : Int} {pq : Nat} (hpq : pc + 2 = pq) (hd : decode y.2.2.1 pc = .ok (.istore 7, 2)) (K : Yr d y pq (x0 :: x1 :: x2 :: x3 :: x4 :: x5 :: x6 :: vi z :: al) st h Q) : Yr d y pc (x0 :: x1 :: x2 :: x3 :: x4 :: x5 :: x6 :: x7 :: al) (vi z :: st) h Q := by
  subst hpq
  refine yr_stp hd rfl rfl rfl ?_ K
  exact if_pos (e := (none : Option am_C)) (show 7 < (x0 :: x1 :: x2 :: x3 :: x4 :: x5 :: x6 :: x7 :: al).length by simp)
theorem yr_astore7 {x0 x1 x2 x3 x4 x5 x6 x7 : Value} {z : Int} {pq : Nat} (hpq : pc + 2 = pq) (hd : decode y.2.2.1 pc = .ok (.astore 7, 2)) (K : Yr d y pq (x0 :: x1 :: x2 :: x3 :: x4 :: x5 :: x6 :: vr z :: al) st h Q) : Yr d y pc (x0 :: x1 :: x2 :: x3 :: x4 :: x5 :: x6 :: x7 :: al) (vr z :: st) h Q := by
  subst hpq
  refine yr_stp hd rfl rfl rfl ?_ K
  exact if_pos (e := (none : Option am_C)) (show 7 < (x0 :: x1 :: x2 :: x3 :: x4 :: x5 :: x6 :: x7 :: al).length by simp)
theorem yr_iinc7 {x0 x1 x2 x3 x4 x5 x6 : Value} {n z : Int} {pq : Nat} (hpq : pc + 3 = pq) (hd : decode y.2.2.1 pc = .ok (.iinc 7 n, 3)) (K : Yr d y pq (x0 :: x1 :: x2 :: x3 :: x4 :: x5 :: x6 :: vi (z + n) :: al) st h Q) : Yr d y pc (x0 :: x1 :: x2 :: x3 :: x4 :: x5 :: x6 :: vi z :: al) st h Q := by
  subst hpq
  refine yr_stp hd rfl rfl rfl ?_ K
  simp [am_stp, am_iv, vi, Int32.ofInt_add]
theorem yr_istore8 {x0 x1 x2 x3 x4 x5 x6 x7 x8 : Value} {z : Int} {pq : Nat} (hpq : pc + 2 = pq) (hd : decode y.2.2.1 pc = .ok (.istore 8, 2)) (K : Yr d y pq (x0 :: x1 :: x2 :: x3 :: x4 :: x5 :: x6 :: x7 :: vi z :: al) st h Q) : Yr d y pc (x0 :: x1 :: x2 :: x3 :: x4 :: x5 :: x6 :: x7 :: x8 :: al) (vi z :: st) h Q := by
  subst hpq
  refine yr_stp hd rfl rfl rfl ?_ K
  exact if_pos (e := (none : Option am_C)) (show 8 < (x0 :: x1 :: x2 :: x3 :: x4 :: x5 :: x6 :: x7 :: x8 :: al).length by simp)
theorem yr_astore8 {x0 x1 x2 x3 x4 x5 x6 x7 x8 : Value} {z : Int} {pq : Nat} (hpq : pc + 2 = pq) (hd : decode y.2.2.1 pc = .ok (.astore 8, 2)) (K : Yr d y pq (x0 :: x1 :: x2 :: x3 :: x4 :: x5 :: x6 :: x7 :: vr z :: al) st h Q) : Yr d y pc (x0 :: x1 :: x2 :: x3 :: x4 :: x5 :: x6 :: x7 :: x8 :: al) (vr z :: st) h Q := by
  subst hpq
  refine yr_stp hd rfl rfl rfl ?_ K
  exact if_pos (e := (none : Option am_C)) (show 8 < (x0 :: x1 :: x2 :: x3 :: x4 :: x5 :: x6 :: x7 :: x8 :: al).length by simp)
theorem yr_iinc8 {x0 x1 x2 x3 x4 x5 x6 x7 : Value} {n z : Int} {pq : Nat} (hpq : pc + 3 = pq) (hd : decode y.2.2.1 pc = .ok (.iinc 8 n, 3)) (K : Yr d y pq (x0 :: x1 :: x2 :: x3 :: x4 :: x5 :: x6 :: x7 :: vi (z + n) :: al) st h Q) : Yr d y pc (x0 :: x1 :: x2 :: x3 :: x4 :: x5 :: x6 :: x7 :: vi z :: al) st h Q := by
  subst hpq
  refine yr_stp hd rfl rfl rfl ?_ K
  simp [am_stp, am_iv, vi, Int32.ofInt_add]
theorem yr_iconst {pq : Nat} {n : Int} (hpq : pc + 1 = pq) (hd : decode y.2.2.1 pc = .ok (.iconst n, 1)) (K : Yr d y pq al (vi n :: st) h Q) : Yr d y pc al (st) h Q := by
  subst hpq
  exact yr_stp hd rfl rfl rfl rfl K

theorem yr_bipush {pq : Nat} {n : Int} (hpq : pc + 2 = pq) (hd : decode y.2.2.1 pc = .ok (.bipush n, 2)) (hn : (Int8.ofInt n).toInt32 = Int32.ofInt n) (K : Yr d y pq al (vi n :: st) h Q) : Yr d y pc al (st) h Q := by
  subst hpq
  refine yr_stp hd rfl rfl rfl ?_ K
  simp only [am_stp, hn, vi]

theorem yr_sipush {pq : Nat} {n : Int} (hpq : pc + 3 = pq) (hd : decode y.2.2.1 pc = .ok (.sipush n, 3)) (hn : (Int16.ofInt n).toInt32 = Int32.ofInt n) (K : Yr d y pq al (vi n :: st) h Q) : Yr d y pc al (st) h Q := by
  subst hpq
  refine yr_stp hd rfl rfl rfl ?_ K
  simp only [am_stp, hn, vi]

theorem yr_ldc {pq : Nat} {idx : Nat} {n : Int} (hpq : pc + 2 = pq) (hd : decode y.2.2.1 pc = .ok (.ldc idx, 2)) (hl : am_lkN y.1 idx = some n) (K : Yr d y pq al (vi n :: st) h Q) : Yr d y pc al (st) h Q := by
  subst hpq
  refine yr_stp hd rfl rfl rfl ?_ K
  simp only [am_stp, hl, vi]

theorem yr_ldcs {pq : Nat} {idx : Nat} {t : Int} (hpq : pc + 2 = pq) (hd : decode y.2.2.1 pc = .ok (.ldc idx, 2)) (hl0 : am_lkN y.1 idx = none) (hl : am_lkS y.1 idx = some t.toNat) (K : Yr d y pq al (vs t :: st) h Q) : Yr d y pc al (st) h Q := by
  subst hpq
  refine yr_stp hd rfl rfl rfl ?_ K
  simp only [am_stp, hl0, hl, vs]

theorem yr_ldc_w {pq : Nat} {idx : Nat} {n : Int} (hpq : pc + 3 = pq) (hd : decode y.2.2.1 pc = .ok (.ldc_w idx, 3)) (hl : am_lkN y.1 idx = some n) (K : Yr d y pq al (vi n :: st) h Q) : Yr d y pc al (st) h Q := by
  subst hpq
  refine yr_stp hd rfl rfl rfl ?_ K
  simp only [am_stp, hl, vi]

theorem yr_ldc_ws {pq : Nat} {idx : Nat} {t : Int} (hpq : pc + 3 = pq) (hd : decode y.2.2.1 pc = .ok (.ldc_w idx, 3)) (hl0 : am_lkN y.1 idx = none) (hl : am_lkS y.1 idx = some t.toNat) (K : Yr d y pq al (vs t :: st) h Q) : Yr d y pc al (st) h Q := by
  subst hpq
  refine yr_stp hd rfl rfl rfl ?_ K
  simp only [am_stp, hl0, hl, vs]

theorem yr_dup {pq : Nat} {v : Value} (hpq : pc + 1 = pq) (hd : decode y.2.2.1 pc = .ok (.dup, 1)) (hv : v.category = 1) (K : Yr d y pq al (v :: v :: st) h Q) : Yr d y pc al (v :: st) h Q := by
  subst hpq
  refine yr_stp hd rfl rfl rfl ?_ K
  simp only [am_stp, if_pos hv]

theorem yr_dup2 {pq : Nat} {v w : Value} (hpq : pc + 1 = pq) (hd : decode y.2.2.1 pc = .ok (.dup2, 1)) (hv : v.category = 1) (hw : w.category = 1) (K : Yr d y pq al (v :: w :: v :: w :: st) h Q) : Yr d y pc al (v :: w :: st) h Q := by
  subst hpq
  refine yr_stp hd rfl rfl rfl ?_ K
  simp only [am_stp, if_pos (And.intro hv hw)]

theorem yr_pop {pq : Nat} {v : Value} (hpq : pc + 1 = pq) (hd : decode y.2.2.1 pc = .ok (.pop, 1)) (hv : v.category = 1) (K : Yr d y pq al st h Q) : Yr d y pc al (v :: st) h Q := by
  subst hpq
  refine yr_stp hd rfl rfl rfl ?_ K
  simp only [am_stp, if_pos hv]

theorem yr_iadd {pq : Nat} {a b : Int} (hpq : pc + 1 = pq) (hd : decode y.2.2.1 pc = .ok (.iadd, 1)) (K : Yr d y pq al (vi (a + b) :: st) h Q) : Yr d y pc al (vi b :: vi a :: st) h Q := by
  subst hpq
  refine yr_stp hd rfl rfl rfl ?_ K
  simp only [am_stp, am_2i, vi, Int32.ofInt_add]

theorem yr_isub {pq : Nat} {a b : Int} (hpq : pc + 1 = pq) (hd : decode y.2.2.1 pc = .ok (.isub, 1)) (K : Yr d y pq al (vi (a - b) :: st) h Q) : Yr d y pc al (vi b :: vi a :: st) h Q := by
  subst hpq
  refine yr_stp hd rfl rfl rfl ?_ K
  simp only [am_stp, am_2i, vi, Int32.ofInt_sub]

theorem yr_imul {pq : Nat} {a b : Int} (hpq : pc + 1 = pq) (hd : decode y.2.2.1 pc = .ok (.imul, 1)) (K : Yr d y pq al (vi (a * b) :: st) h Q) : Yr d y pc al (vi b :: vi a :: st) h Q := by
  subst hpq
  refine yr_stp hd rfl rfl rfl ?_ K
  simp only [am_stp, am_2i, vi, Int32.ofInt_mul]

theorem yr_iand {pq : Nat} {a b : Int} (hpq : pc + 1 = pq) (hd : decode y.2.2.1 pc = .ok (.iand, 1)) (K : Yr d y pq al (vi (ia a b) :: st) h Q) : Yr d y pc al (vi b :: vi a :: st) h Q := by
  subst hpq
  refine yr_stp hd rfl rfl rfl ?_ K
  simp only [am_stp, am_2i, vi, ia, Int32.ofInt_toInt]

theorem yr_ior {pq : Nat} {a b : Int} (hpq : pc + 1 = pq) (hd : decode y.2.2.1 pc = .ok (.ior, 1)) (K : Yr d y pq al (vi (io a b) :: st) h Q) : Yr d y pc al (vi b :: vi a :: st) h Q := by
  subst hpq
  refine yr_stp hd rfl rfl rfl ?_ K
  simp only [am_stp, am_2i, vi, io, Int32.ofInt_toInt]

theorem yr_ixor {pq : Nat} {a b : Int} (hpq : pc + 1 = pq) (hd : decode y.2.2.1 pc = .ok (.ixor, 1)) (K : Yr d y pq al (vi (ix a b) :: st) h Q) : Yr d y pc al (vi b :: vi a :: st) h Q := by
  subst hpq
  refine yr_stp hd rfl rfl rfl ?_ K
  simp only [am_stp, am_2i, vi, ix, Int32.ofInt_toInt]

theorem yr_ishl {pq : Nat} {a b : Int} (hpq : pc + 1 = pq) (hd : decode y.2.2.1 pc = .ok (.ishl, 1)) (K : Yr d y pq al (vi (il a b) :: st) h Q) : Yr d y pc al (vi b :: vi a :: st) h Q := by
  subst hpq
  refine yr_stp hd rfl rfl rfl ?_ K
  simp only [am_stp, am_2i, vi, il, Int32.ofInt_toInt]

theorem yr_ishr {pq : Nat} {a b : Int} (hpq : pc + 1 = pq) (hd : decode y.2.2.1 pc = .ok (.ishr, 1)) (K : Yr d y pq al (vi (ir a b) :: st) h Q) : Yr d y pc al (vi b :: vi a :: st) h Q := by
  subst hpq
  refine yr_stp hd rfl rfl rfl ?_ K
  simp only [am_stp, am_2i, vi, ir, Int32.ofInt_toInt]

theorem yr_iushr {pq : Nat} {a b : Int} (hpq : pc + 1 = pq) (hd : decode y.2.2.1 pc = .ok (.iushr, 1)) (K : Yr d y pq al (vi (iu a b) :: st) h Q) : Yr d y pc al (vi b :: vi a :: st) h Q := by
  subst hpq
  refine yr_stp hd rfl rfl rfl ?_ K
  simp only [am_stp, am_2i, vi, iu, Int32.ofInt_toInt]

theorem yr_i2b {pq : Nat} {a : Int} (hpq : pc + 1 = pq) (hd : decode y.2.2.1 pc = .ok (.i2b, 1)) (K : Yr d y pq al (vi (ib a) :: st) h Q) : Yr d y pc al (vi a :: st) h Q := by
  subst hpq
  refine yr_stp hd rfl rfl rfl ?_ K
  simp only [am_stp, am_1i, vi, ib, Int32.ofInt_toInt]

theorem yr_i2s {pq : Nat} {a : Int} (hpq : pc + 1 = pq) (hd : decode y.2.2.1 pc = .ok (.i2s, 1)) (K : Yr d y pq al (vi (ih a) :: st) h Q) : Yr d y pc al (vi a :: st) h Q := by
  subst hpq
  refine yr_stp hd rfl rfl rfl ?_ K
  simp only [am_stp, am_1i, vi, ih, Int32.ofInt_toInt]

theorem z_div {a b : Int} (ha : 0 ≤ a ∧ a ≤ 2147483647) (hb : 0 < b ∧ b ≤ 2147483647) : Int32.ofInt a / Int32.ofInt b = Int32.ofInt (a / b) := by
  have h0 : 0 ≤ a / b := Int.ediv_nonneg ha.1 (by omega)
  have h1 : a / b ≤ a := Int.ediv_le_self b ha.1
  rw [← Int32.toInt_inj, Int32.toInt_div_of_ne_right _ _ (by rw [show (-1 : Int32) = Int32.ofInt (-1) from rfl, Ne, z_eq (by omega) (by omega)]; omega), z_of (by omega), z_of (by omega), z_of (by omega), Int.tdiv_eq_ediv_of_nonneg ha.1]
theorem z_ne0 {b : Int} (hb : 0 < b ∧ b ≤ 2147483647) : ¬ Int32.ofInt b = 0 := by
  rw [show (0 : Int32) = Int32.ofInt 0 from rfl, z_eq (by omega) (by omega)]
  omega

theorem yr_idiv {pq : Nat} {a b : Int} (hpq : pc + 1 = pq) (hd : decode y.2.2.1 pc = .ok (.idiv, 1)) (ha : 0 ≤ a ∧ a ≤ 2147483647) (hb : 0 < b ∧ b ≤ 2147483647) (K : Yr d y pq al (vi (a / b) :: st) h Q) : Yr d y pc al (vi b :: vi a :: st) h Q := by
  subst hpq
  refine yr_stp hd rfl rfl rfl ?_ K
  simp only [am_stp, am_2i, vi, if_neg (z_ne0 hb), z_div ha hb]

theorem yr_irem {pq : Nat} {a b : Int} (hpq : pc + 1 = pq) (hd : decode y.2.2.1 pc = .ok (.irem, 1)) (ha : 0 ≤ a ∧ a ≤ 2147483647) (hb : 0 < b ∧ b ≤ 2147483647) (K : Yr d y pq al (vi (a % b) :: st) h Q) : Yr d y pc al (vi b :: vi a :: st) h Q := by
  subst hpq
  refine yr_stp hd rfl rfl rfl ?_ K
  simp only [am_stp, am_2i, vi, if_neg (z_ne0 hb), z_div ha hb]
  rw [← Int32.ofInt_mul, ← Int32.ofInt_sub, Int.mul_comm (a / b) b, ← Int.emod_def]

theorem yr_i2l {pq : Nat} {a : Int} (hpq : pc + 1 = pq) (hd : decode y.2.2.1 pc = .ok (.i2l, 1)) (ha : -2147483648 ≤ a ∧ a ≤ 2147483647) (K : Yr d y pq al (vl a :: st) h Q) : Yr d y pc al (vi a :: st) h Q := by
  subst hpq
  refine yr_stp hd rfl rfl rfl ?_ K
  have e : (Int32.ofInt a).toInt64 = Int64.ofInt a := by
    rw [← Int64.toInt_inj, Int32.toInt_toInt64, z_of ha, Int64.toInt_ofInt_of_le (by omega) (by omega)]
  simp only [am_stp, am_1i, vi, vl, e]

theorem yr_ladd {pq : Nat} {a b : Int} (hpq : pc + 1 = pq) (hd : decode y.2.2.1 pc = .ok (.ladd, 1)) (K : Yr d y pq al (vl (a + b) :: st) h Q) : Yr d y pc al (vl b :: vl a :: st) h Q := by
  subst hpq
  refine yr_stp hd rfl rfl rfl ?_ K
  simp only [am_stp, am_2l, vl, Int64.ofInt_add]

theorem yr_lcmp {pq : Nat} {a b : Int} (hpq : pc + 1 = pq) (hd : decode y.2.2.1 pc = .ok (.lcmp, 1)) (ha : -9000000000 ≤ a ∧ a ≤ 9000000000) (hb : -9000000000 ≤ b ∧ b ≤ 9000000000) (k1 : b < a → Yr d y pq al (vi 1 :: st) h Q) (k0 : a = b → Yr d y pq al (vi 0 :: st) h Q) (k2 : a < b → Yr d y pq al (vi (-1) :: st) h Q) : Yr d y pc al (vl b :: vl a :: st) h Q := by
  subst hpq
  have ea : (Int64.ofInt a).toInt = a := Int64.toInt_ofInt_of_le (by omega) (by omega)
  have eb : (Int64.ofInt b).toInt = b := Int64.toInt_ofInt_of_le (by omega) (by omega)
  rcases Int.lt_trichotomy a b with q | q | q
  · refine yr_stp hd rfl rfl rfl ?_ (k2 q)
    simp only [am_stp, am_2l, vl, lg_cmp]
    rw [if_neg (by rw [GT.gt, Int64.lt_iff_toInt_lt, ea, eb]; omega), if_neg (by rw [← Int64.toInt_inj, ea, eb]; omega)]
    rfl
  · refine yr_stp hd rfl rfl rfl ?_ (k0 q)
    simp only [am_stp, am_2l, vl, lg_cmp]
    rw [if_neg (by rw [GT.gt, Int64.lt_iff_toInt_lt, ea, eb]; omega), if_pos (by rw [q])]
    rfl
  · refine yr_stp hd rfl rfl rfl ?_ (k1 q)
    simp only [am_stp, am_2l, vl, lg_cmp]
    rw [if_pos (by rw [GT.gt, Int64.lt_iff_toInt_lt, ea, eb]; omega)]
    rfl

theorem yr_goto {off : Int} {t : Nat} (hd : decode y.2.2.1 pc = .ok (.goto off, 3)) (ht : (pc : Int) + off = (t : Int)) (K : Yr d y t al st h Q) : Yr d y pc al (st) h Q := by
  refine yr_stp hd rfl rfl rfl ?_ K
  simp only [am_stp, am_tg, ht, Int.toNat_natCast]
  rw [if_pos (by omega)]

theorem yr_ic_eq {pq : Nat} {a b : Int} {off : Int} {t : Nat} (hpq : pc + 3 = pq) (hd : decode y.2.2.1 pc = .ok (.if_icmp .eq off, 3)) (ht : (pc : Int) + off = (t : Int)) (ha : -2147483648 ≤ a ∧ a ≤ 2147483647) (hb : -2147483648 ≤ b ∧ b ≤ 2147483647) (k1 : a = b → Yr d y t al st h Q) (k0 : ¬ a = b → Yr d y pq al st h Q) : Yr d y pc al (vi b :: vi a :: st) h Q := by
  subst hpq
  have hq := z_eq ha hb
  by_cases q : a = b
  · refine yr_stp hd rfl rfl rfl ?_ (k1 q)
    simp only [am_stp, am_2i, vi, am_tg, ht, Int.toNat_natCast, am_cm]
    rw [if_pos (by omega), if_pos (by simp [hq, q])]
  · refine yr_stp hd rfl rfl rfl ?_ (k0 (by omega))
    simp only [am_stp, am_2i, vi, am_tg, ht, Int.toNat_natCast, am_cm]
    rw [if_pos (by omega), if_neg (by simp [hq, q])]

theorem yr_if_eq {pq : Nat} {a : Int} {off : Int} {t : Nat} (hpq : pc + 3 = pq) (hd : decode y.2.2.1 pc = .ok (.ifCond .eq off, 3)) (ht : (pc : Int) + off = (t : Int)) (ha : -2147483648 ≤ a ∧ a ≤ 2147483647) (k1 : a = 0 → Yr d y t al st h Q) (k0 : ¬ a = 0 → Yr d y pq al st h Q) : Yr d y pc al (vi a :: st) h Q := by
  subst hpq
  have hq := z_eq (b := 0) ha (by decide)
  have e0 : (0 : Int32) = Int32.ofInt 0 := rfl
  rw [← e0] at hq
  by_cases q : a = 0
  · refine yr_stp hd rfl rfl rfl ?_ (k1 q)
    simp only [am_stp, am_1i, vi, am_tg, ht, Int.toNat_natCast, am_cm]
    rw [if_pos (by omega), if_pos (by simp [hq, q])]
  · refine yr_stp hd rfl rfl rfl ?_ (k0 (by omega))
    simp only [am_stp, am_1i, vi, am_tg, ht, Int.toNat_natCast, am_cm]
    rw [if_pos (by omega), if_neg (by simp [hq, q])]

theorem yr_ic_ne {pq : Nat} {a b : Int} {off : Int} {t : Nat} (hpq : pc + 3 = pq) (hd : decode y.2.2.1 pc = .ok (.if_icmp .ne off, 3)) (ht : (pc : Int) + off = (t : Int)) (ha : -2147483648 ≤ a ∧ a ≤ 2147483647) (hb : -2147483648 ≤ b ∧ b ≤ 2147483647) (k1 : ¬ a = b → Yr d y t al st h Q) (k0 : a = b → Yr d y pq al st h Q) : Yr d y pc al (vi b :: vi a :: st) h Q := by
  subst hpq
  have hq := z_eq ha hb
  by_cases q : ¬ a = b
  · refine yr_stp hd rfl rfl rfl ?_ (k1 q)
    simp only [am_stp, am_2i, vi, am_tg, ht, Int.toNat_natCast, am_cm]
    rw [if_pos (by omega), if_pos (by simp [hq, q])]
  · refine yr_stp hd rfl rfl rfl ?_ (k0 (by omega))
    simp only [am_stp, am_2i, vi, am_tg, ht, Int.toNat_natCast, am_cm]
    rw [if_pos (by omega), if_neg (by simp [hq, q])]

theorem yr_if_ne {pq : Nat} {a : Int} {off : Int} {t : Nat} (hpq : pc + 3 = pq) (hd : decode y.2.2.1 pc = .ok (.ifCond .ne off, 3)) (ht : (pc : Int) + off = (t : Int)) (ha : -2147483648 ≤ a ∧ a ≤ 2147483647) (k1 : ¬ a = 0 → Yr d y t al st h Q) (k0 : a = 0 → Yr d y pq al st h Q) : Yr d y pc al (vi a :: st) h Q := by
  subst hpq
  have hq := z_eq (b := 0) ha (by decide)
  have e0 : (0 : Int32) = Int32.ofInt 0 := rfl
  rw [← e0] at hq
  by_cases q : ¬ a = 0
  · refine yr_stp hd rfl rfl rfl ?_ (k1 q)
    simp only [am_stp, am_1i, vi, am_tg, ht, Int.toNat_natCast, am_cm]
    rw [if_pos (by omega), if_pos (by simp [hq, q])]
  · refine yr_stp hd rfl rfl rfl ?_ (k0 (by omega))
    simp only [am_stp, am_1i, vi, am_tg, ht, Int.toNat_natCast, am_cm]
    rw [if_pos (by omega), if_neg (by simp [hq, q])]

theorem yr_ic_lt {pq : Nat} {a b : Int} {off : Int} {t : Nat} (hpq : pc + 3 = pq) (hd : decode y.2.2.1 pc = .ok (.if_icmp .lt off, 3)) (ht : (pc : Int) + off = (t : Int)) (ha : -2147483648 ≤ a ∧ a ≤ 2147483647) (hb : -2147483648 ≤ b ∧ b ≤ 2147483647) (k1 : a < b → Yr d y t al st h Q) (k0 : ¬ a < b → Yr d y pq al st h Q) : Yr d y pc al (vi b :: vi a :: st) h Q := by
  subst hpq
  have hq := z_lt ha hb
  by_cases q : a < b
  · refine yr_stp hd rfl rfl rfl ?_ (k1 q)
    simp only [am_stp, am_2i, vi, am_tg, ht, Int.toNat_natCast, am_cm]
    rw [if_pos (by omega), if_pos (by simp [hq, q])]
  · refine yr_stp hd rfl rfl rfl ?_ (k0 (by omega))
    simp only [am_stp, am_2i, vi, am_tg, ht, Int.toNat_natCast, am_cm]
    rw [if_pos (by omega), if_neg (by simp [hq, q])]

theorem yr_if_lt {pq : Nat} {a : Int} {off : Int} {t : Nat} (hpq : pc + 3 = pq) (hd : decode y.2.2.1 pc = .ok (.ifCond .lt off, 3)) (ht : (pc : Int) + off = (t : Int)) (ha : -2147483648 ≤ a ∧ a ≤ 2147483647) (k1 : a < 0 → Yr d y t al st h Q) (k0 : ¬ a < 0 → Yr d y pq al st h Q) : Yr d y pc al (vi a :: st) h Q := by
  subst hpq
  have hq := z_lt (b := 0) ha (by decide)
  have e0 : (0 : Int32) = Int32.ofInt 0 := rfl
  rw [← e0] at hq
  by_cases q : a < 0
  · refine yr_stp hd rfl rfl rfl ?_ (k1 q)
    simp only [am_stp, am_1i, vi, am_tg, ht, Int.toNat_natCast, am_cm]
    rw [if_pos (by omega), if_pos (by simp [hq, q])]
  · refine yr_stp hd rfl rfl rfl ?_ (k0 (by omega))
    simp only [am_stp, am_1i, vi, am_tg, ht, Int.toNat_natCast, am_cm]
    rw [if_pos (by omega), if_neg (by simp [hq, q])]

theorem yr_ic_ge {pq : Nat} {a b : Int} {off : Int} {t : Nat} (hpq : pc + 3 = pq) (hd : decode y.2.2.1 pc = .ok (.if_icmp .ge off, 3)) (ht : (pc : Int) + off = (t : Int)) (ha : -2147483648 ≤ a ∧ a ≤ 2147483647) (hb : -2147483648 ≤ b ∧ b ≤ 2147483647) (k1 : b ≤ a → Yr d y t al st h Q) (k0 : ¬ b ≤ a → Yr d y pq al st h Q) : Yr d y pc al (vi b :: vi a :: st) h Q := by
  subst hpq
  have hq := z_le hb ha
  by_cases q : b ≤ a
  · refine yr_stp hd rfl rfl rfl ?_ (k1 q)
    simp only [am_stp, am_2i, vi, am_tg, ht, Int.toNat_natCast, am_cm]
    rw [if_pos (by omega), if_pos (by simp [hq, q])]
  · refine yr_stp hd rfl rfl rfl ?_ (k0 (by omega))
    simp only [am_stp, am_2i, vi, am_tg, ht, Int.toNat_natCast, am_cm]
    rw [if_pos (by omega), if_neg (by simp [hq, q])]

theorem yr_if_ge {pq : Nat} {a : Int} {off : Int} {t : Nat} (hpq : pc + 3 = pq) (hd : decode y.2.2.1 pc = .ok (.ifCond .ge off, 3)) (ht : (pc : Int) + off = (t : Int)) (ha : -2147483648 ≤ a ∧ a ≤ 2147483647) (k1 : 0 ≤ a → Yr d y t al st h Q) (k0 : ¬ 0 ≤ a → Yr d y pq al st h Q) : Yr d y pc al (vi a :: st) h Q := by
  subst hpq
  have hq := z_le (a := 0) (by decide) ha
  have e0 : (0 : Int32) = Int32.ofInt 0 := rfl
  rw [← e0] at hq
  by_cases q : 0 ≤ a
  · refine yr_stp hd rfl rfl rfl ?_ (k1 q)
    simp only [am_stp, am_1i, vi, am_tg, ht, Int.toNat_natCast, am_cm]
    rw [if_pos (by omega), if_pos (by simp [hq, q])]
  · refine yr_stp hd rfl rfl rfl ?_ (k0 (by omega))
    simp only [am_stp, am_1i, vi, am_tg, ht, Int.toNat_natCast, am_cm]
    rw [if_pos (by omega), if_neg (by simp [hq, q])]

theorem yr_ic_gt {pq : Nat} {a b : Int} {off : Int} {t : Nat} (hpq : pc + 3 = pq) (hd : decode y.2.2.1 pc = .ok (.if_icmp .gt off, 3)) (ht : (pc : Int) + off = (t : Int)) (ha : -2147483648 ≤ a ∧ a ≤ 2147483647) (hb : -2147483648 ≤ b ∧ b ≤ 2147483647) (k1 : b < a → Yr d y t al st h Q) (k0 : ¬ b < a → Yr d y pq al st h Q) : Yr d y pc al (vi b :: vi a :: st) h Q := by
  subst hpq
  have hq := z_lt hb ha
  by_cases q : b < a
  · refine yr_stp hd rfl rfl rfl ?_ (k1 q)
    simp only [am_stp, am_2i, vi, am_tg, ht, Int.toNat_natCast, am_cm]
    rw [if_pos (by omega), if_pos (by simp [hq, q])]
  · refine yr_stp hd rfl rfl rfl ?_ (k0 (by omega))
    simp only [am_stp, am_2i, vi, am_tg, ht, Int.toNat_natCast, am_cm]
    rw [if_pos (by omega), if_neg (by simp [hq, q])]

theorem yr_if_gt {pq : Nat} {a : Int} {off : Int} {t : Nat} (hpq : pc + 3 = pq) (hd : decode y.2.2.1 pc = .ok (.ifCond .gt off, 3)) (ht : (pc : Int) + off = (t : Int)) (ha : -2147483648 ≤ a ∧ a ≤ 2147483647) (k1 : 0 < a → Yr d y t al st h Q) (k0 : ¬ 0 < a → Yr d y pq al st h Q) : Yr d y pc al (vi a :: st) h Q := by
  subst hpq
  have hq := z_lt (a := 0) (by decide) ha
  have e0 : (0 : Int32) = Int32.ofInt 0 := rfl
  rw [← e0] at hq
  by_cases q : 0 < a
  · refine yr_stp hd rfl rfl rfl ?_ (k1 q)
    simp only [am_stp, am_1i, vi, am_tg, ht, Int.toNat_natCast, am_cm]
    rw [if_pos (by omega), if_pos (by simp [hq, q])]
  · refine yr_stp hd rfl rfl rfl ?_ (k0 (by omega))
    simp only [am_stp, am_1i, vi, am_tg, ht, Int.toNat_natCast, am_cm]
    rw [if_pos (by omega), if_neg (by simp [hq, q])]

theorem yr_ic_le {pq : Nat} {a b : Int} {off : Int} {t : Nat} (hpq : pc + 3 = pq) (hd : decode y.2.2.1 pc = .ok (.if_icmp .le off, 3)) (ht : (pc : Int) + off = (t : Int)) (ha : -2147483648 ≤ a ∧ a ≤ 2147483647) (hb : -2147483648 ≤ b ∧ b ≤ 2147483647) (k1 : a ≤ b → Yr d y t al st h Q) (k0 : ¬ a ≤ b → Yr d y pq al st h Q) : Yr d y pc al (vi b :: vi a :: st) h Q := by
  subst hpq
  have hq := z_le ha hb
  by_cases q : a ≤ b
  · refine yr_stp hd rfl rfl rfl ?_ (k1 q)
    simp only [am_stp, am_2i, vi, am_tg, ht, Int.toNat_natCast, am_cm]
    rw [if_pos (by omega), if_pos (by simp [hq, q])]
  · refine yr_stp hd rfl rfl rfl ?_ (k0 (by omega))
    simp only [am_stp, am_2i, vi, am_tg, ht, Int.toNat_natCast, am_cm]
    rw [if_pos (by omega), if_neg (by simp [hq, q])]

theorem yr_if_le {pq : Nat} {a : Int} {off : Int} {t : Nat} (hpq : pc + 3 = pq) (hd : decode y.2.2.1 pc = .ok (.ifCond .le off, 3)) (ht : (pc : Int) + off = (t : Int)) (ha : -2147483648 ≤ a ∧ a ≤ 2147483647) (k1 : a ≤ 0 → Yr d y t al st h Q) (k0 : ¬ a ≤ 0 → Yr d y pq al st h Q) : Yr d y pc al (vi a :: st) h Q := by
  subst hpq
  have hq := z_le (b := 0) ha (by decide)
  have e0 : (0 : Int32) = Int32.ofInt 0 := rfl
  rw [← e0] at hq
  by_cases q : a ≤ 0
  · refine yr_stp hd rfl rfl rfl ?_ (k1 q)
    simp only [am_stp, am_1i, vi, am_tg, ht, Int.toNat_natCast, am_cm]
    rw [if_pos (by omega), if_pos (by simp [hq, q])]
  · refine yr_stp hd rfl rfl rfl ?_ (k0 (by omega))
    simp only [am_stp, am_1i, vi, am_tg, ht, Int.toNat_natCast, am_cm]
    rw [if_pos (by omega), if_neg (by simp [hq, q])]

theorem yr_tab {off : Int} {t : Nat} {z dfl lo hi : Int} {offs : Array Int} {len : Nat} (hd : decode y.2.2.1 pc = .ok (.tableswitch dfl lo hi offs, len)) (hz : -2147483648 ≤ z ∧ z ≤ 2147483647) (h1 : lo ≤ z) (h2 : z ≤ hi) (ho : offs[(z - lo).toNat]? = some off) (ht : (pc : Int) + off = (t : Int)) (K : Yr d y t al st h Q) : Yr d y pc al (vi z :: st) h Q := by
  refine yr_stp hd rfl rfl rfl ?_ K
  simp only [am_stp, am_1i, vi, z_of hz]
  rw [if_neg (by omega), ho]
  simp only [am_tg, ht, Int.toNat_natCast]
  rw [if_pos (by omega)]

theorem yr_tabO {t : Nat} {z dfl lo hi : Int} {offs : Array Int} {len : Nat} (hd : decode y.2.2.1 pc = .ok (.tableswitch dfl lo hi offs, len)) (hz : -2147483648 ≤ z ∧ z ≤ 2147483647) (h1 : z < lo ∨ hi < z) (ht : (pc : Int) + dfl = (t : Int)) (K : Yr d y t al st h Q) : Yr d y pc al (vi z :: st) h Q := by
  refine yr_stp hd rfl rfl rfl ?_ K
  simp only [am_stp, am_1i, vi, z_of hz]
  rw [if_pos h1]
  simp only [am_tg, ht, Int.toNat_natCast]
  rw [if_pos (by omega)]

theorem yr_look {t : Nat} {z dfl off : Int} {ps : Array (Int × Int)} {len : Nat} (hd : decode y.2.2.1 pc = .ok (.lookupswitch dfl ps, len)) (hz : -2147483648 ≤ z ∧ z ≤ 2147483647) (hp : (ps.toList.zip (ps.toList.drop 1)).all (fun (a, next) => a.1 < next.1) = true) (ho : Op.lookupswitch.offset ps.toList dfl z = off) (ht : (pc : Int) + off = (t : Int)) (K : Yr d y t al st h Q) : Yr d y pc al (vi z :: st) h Q := by
  refine yr_stp hd rfl rfl rfl ?_ K
  simp only [am_stp, am_1i, vi, z_of hz]
  rw [if_pos hp, ho]
  simp only [am_tg, ht, Int.toNat_natCast]
  rw [if_pos (by omega)]

theorem yr_getI {pq : Nat} {idx c : Nat} {a : Int} (k : Int) (hpq : pc + 3 = pq) (hd : decode y.2.2.1 pc = .ok (.getfield idx, 3)) (hF : am_lkF y.1 idx = some (c, k.toNat)) (hk : 0 ≤ k ∧ k.toNat < 31) (hI : (am_isI c k.toNat || am_isZ c k.toNat) = true) (hc : is_c c a) (K : Yr d y pq al (vi (h a k) :: st) h Q) : Yr d y pc al (vr a :: st) h Q := by
  subst hpq
  refine yr_stp hd rfl rfl rfl ?_ K
  simp only [am_stp, am_1r, vr, hF, sh_H]
  rw [if_pos ⟨hc.2.1, hc.2.2⟩, sh_get hc.1 hk.1 (sk_int hc hk.2 hI)]

theorem yr_getR {pq : Nat} {idx c : Nat} {a b : Int} (k : Nat) (hpq : pc + 3 = pq) (hd : decode y.2.2.1 pc = .ok (.getfield idx, 3)) (hF : am_lkF y.1 idx = some (c, k)) (hc : is_c c a) (hs : am_sk a.toNat k = some b.toNat) (K : Yr d y pq al (vr b :: st) h Q) : Yr d y pc al (vr a :: st) h Q := by
  subst hpq
  refine yr_stp hd rfl rfl rfl ?_ K
  simp only [am_stp, am_1r, vr, hF, sh_H]
  rw [if_pos ⟨hc.2.1, hc.2.2⟩]
  simp only [sh_e, hs]

theorem yr_putI {pq : Nat} {idx c : Nat} {a z : Int} (k : Int) (hpq : pc + 3 = pq) (hd : decode y.2.2.1 pc = .ok (.putfield idx, 3)) (hF : am_lkF y.1 idx = some (c, k.toNat)) (hk : 0 ≤ k ∧ k.toNat < 31) (hI : am_isI c k.toNat = true) (hn : (am_T c k.toNat).2.2.2 = false) (hc : is_c c a) (K : Yr d y pq al st (up h a k z) Q) : Yr d y pc al (vi z :: vr a :: st) h Q := by
  subst hpq
  refine yr_stp hd rfl rfl rfl ?_ K
  simp only [am_stp, vr, vi, hF, sh_H]
  have hf : am_fit (am_ty c k.toNat) (.int (Int32.ofInt z)) = true := by
    unfold am_isI at hI
    split at hI
    · rename_i e
      rw [e]
      rfl
    · cases hI
  rw [if_pos ⟨hc.2.1, hc.2.2, hf, fun q => by rw [hn] at q; cases q⟩]
  exact congrArg (fun q => some (pc + 3, al, st, q)) (sh_up hc.1 hk.1 (sk_int hc hk.2 (by rw [hI]; rfl)))

theorem yr_putZ {pq : Nat} {idx c : Nat} {a z : Int} (k : Int) (hpq : pc + 3 = pq) (hd : decode y.2.2.1 pc = .ok (.putfield idx, 3)) (hF : am_lkF y.1 idx = some (c, k.toNat)) (hk : 0 ≤ k ∧ k.toNat < 31) (hI : am_isZ c k.toNat = true) (hn : (am_T c k.toNat).2.2.2 = false) (hc : is_c c a) (hz : z = 0 ∨ z = 1) (K : Yr d y pq al st (up h a k z) Q) : Yr d y pc al (vi z :: vr a :: st) h Q := by
  subst hpq
  refine yr_stp hd rfl rfl rfl ?_ K
  simp only [am_stp, vr, vi, hF, sh_H]
  have hf : am_fit (am_ty c k.toNat) (.int (Int32.ofInt z)) = true := by
    unfold am_isZ at hI
    split at hI
    · rename_i e
      rw [e]
      rcases hz with rfl | rfl <;> rfl
    · cases hI
  rw [if_pos ⟨hc.2.1, hc.2.2, hf, fun q => by rw [hn] at q; cases q⟩]
  exact congrArg (fun q => some (pc + 3, al, st, q)) (sh_up hc.1 hk.1 (sk_int hc hk.2 (by rw [hI]; simp)))

theorem yr_iald {pq : Nat} {a i : Int} {L : Nat} (hpq : pc + 1 = pq) (hd : decode y.2.2.1 pc = .ok (.iaload, 1)) (hA : am_kd a.toNat = (0, L)) (h0 : 0 ≤ a) (hi : 0 ≤ i ∧ i < (L : Int)) (K : Yr d y pq al (vi (h a i) :: st) h Q) : Yr d y pc al (vi i :: vr a :: st) h Q := by
  subst hpq
  have h1 := am_kd_lt (a := a.toNat) (by rw [hA]; exact (by decide : 0 < 99))
  have h2 : L ≤ 1200 := by have := (am_kd_in h1).2.1; rw [hA] at this; exact this
  refine yr_stp hd rfl rfl rfl ?_ K
  simp only [am_stp, vr, vi, sh_H]
  rw [if_pos ⟨h1, by rw [hA], by rw [hA]; exact z_in hi (by omega)⟩, z_cl (by omega), sh_get h0 hi.1 (sk_row hA _)]
  rfl

theorem yr_iast {pq : Nat} {a i z : Int} {L : Nat} (hpq : pc + 1 = pq) (hd : decode y.2.2.1 pc = .ok (.iastore, 1)) (hA : am_kd a.toNat = (0, L)) (h0 : 0 ≤ a) (hi : 0 ≤ i ∧ i < (L : Int)) (K : Yr d y pq al st (up h a i z) Q) : Yr d y pc al (vi z :: vi i :: vr a :: st) h Q := by
  subst hpq
  have h1 := am_kd_lt (a := a.toNat) (by rw [hA]; exact (by decide : 0 < 99))
  have h2 : L ≤ 1200 := by have := (am_kd_in h1).2.1; rw [hA] at this; exact this
  refine yr_stp hd rfl rfl rfl ?_ K
  simp only [am_stp, vr, vi, sh_H]
  rw [if_pos ⟨h1, by rw [hA], by rw [hA]; exact z_in hi (by omega)⟩, z_cl (by omega)]
  exact congrArg (fun q => some (pc + 1, al, st, q)) (sh_up h0 hi.1 (sk_row hA _))

theorem yr_aald {pq : Nat} {a b i : Int} {L t : Nat} (hpq : pc + 1 = pq) (hd : decode y.2.2.1 pc = .ok (.aaload, 1)) (hA : am_kd a.toNat = (t, L)) (ht : 1 ≤ t ∧ t ≤ 3) (hi : 0 ≤ i ∧ i < (L : Int)) (hs : am_sk a.toNat i.toNat = some b.toNat) (K : Yr d y pq al (vr b :: st) h Q) : Yr d y pc al (vi i :: vr a :: st) h Q := by
  subst hpq
  have h1 := am_kd_lt (a := a.toNat) (by rw [hA]; exact Nat.lt_of_le_of_lt ht.2 (by decide))
  have h2 : L ≤ 1200 := by have := (am_kd_in h1).2.1; rw [hA] at this; exact this
  refine yr_stp hd rfl rfl rfl ?_ K
  simp only [am_stp, vr, vi, sh_H]
  rw [if_pos ⟨h1, by rw [hA]; exact ht.1, by rw [hA]; exact ht.2, by rw [hA]; exact z_in hi (by omega)⟩, z_cl (by omega)]
  simp only [sh_e, hs]

theorem yr_alen {pq : Nat} {a : Int} {L t : Nat} (hpq : pc + 1 = pq) (hd : decode y.2.2.1 pc = .ok (.arraylength, 1)) (hA : am_kd a.toNat = (t, L)) (ht : t ≤ 3) (K : Yr d y pq al (vi (L : Int) :: st) h Q) : Yr d y pc al (vr a :: st) h Q := by
  subst hpq
  have h1 := am_kd_lt (a := a.toNat) (by rw [hA]; exact Nat.lt_of_le_of_lt ht (by decide))
  refine yr_stp hd rfl rfl rfl ?_ K
  simp only [am_stp, am_1r, vr, vi, sh_H]
  rw [if_pos ⟨h1, by rw [hA]; exact ht⟩, hA]
  rfl

theorem yr_iret {z : Int} {K : Int → hT → Prop} (hd : decode y.2.2.1 pc = .ok (.ireturn, 1)) (hr : y.2.2.2.2 = some .int) (k : K z h) : Yr d y pc al [vi z] h (rI K) := by
  refine yr_fin hd rfl ?_ ⟨z, rfl, k⟩
  simp only [am_fin, vi, hr]
theorem yr_zret {z : Int} {K : Int → hT → Prop} (hd : decode y.2.2.1 pc = .ok (.ireturn, 1)) (hr : y.2.2.2.2 = some .boolean) (hz : z = 0 ∨ z = 1) (k : K z h) : Yr d y pc al [vi z] h (rI K) := by
  refine yr_fin hd rfl ?_ ⟨z, rfl, k⟩
  simp only [am_fin, vi, hr]
  rw [if_pos]
  rcases hz with rfl | rfl
  · exact Or.inl rfl
  · exact Or.inr rfl
theorem yr_vret {K : hT → Prop} (hd : decode y.2.2.1 pc = .ok (.return_, 1)) (hr : y.2.2.2.2 = none) (k : K h) : Yr d y pc al [] h (rV K) := by
  refine yr_fin hd rfl ?_ ⟨rfl, k⟩
  simp only [am_fin, hr]
theorem yr_sret {t : Int} {C : String} {K : Int → hT → Prop} (hd : decode y.2.2.1 pc = .ok (.areturn, 1)) (hr : y.2.2.2.2 = some (.object C)) (k : K t h) : Yr d y pc al [vs t] h (rS K) := by
  refine yr_fin hd rfl ?_ ⟨t, rfl, k⟩
  simp only [am_fin, vs, hr]

theorem yr_vI0 {pq : Nat} {idx : Nat} {y' : am_MI} {a : Int} (hpq : pc + 3 = pq) (hd : decode y.2.2.1 pc = .ok (.invokevirtual idx, 3)) (hM : am_lkM y.1 idx = some (y', 0, 0)) (h9 : y'.1 < 9) (hc : is_c y'.1 a) (hr : (st.map fun v => v.category).sum ≤ 8) (k : ClI d y' [vr a] h (fun z h2 => Yr d y pq al (vi z :: st) h2 Q)) : Yr d y pc al (vr a :: st) h Q := by
  subst hpq
  obtain ⟨f, r, h2, he, hq⟩ := k
  refine yr_inv (y' := y') (as := [vr a]) (rest := st) hd rfl rfl ?_ ⟨f, r, h2, he, ?_⟩
  · simp only [am_inv, hM, vr, List.drop, List.take, List.reverse_cons, List.reverse_nil, List.nil_append, List.cons_append]
    rw [if_pos ⟨trivial, h9, hc.2.1, hc.2.2, hr⟩]
  · obtain ⟨z, rfl, k⟩ := hq
    exact k

theorem yr_vI1 {pq : Nat} {idx : Nat} {y' : am_MI} {a : Int} {w1 : Value} (hpq : pc + 3 = pq) (hd : decode y.2.2.1 pc = .ok (.invokevirtual idx, 3)) (hM : am_lkM y.1 idx = some (y', 1, 0)) (h9 : y'.1 < 9) (hc : is_c y'.1 a) (hr : (st.map fun v => v.category).sum ≤ 8) (k : ClI d y' [vr a, w1] h (fun z h2 => Yr d y pq al (vi z :: st) h2 Q)) : Yr d y pc al (w1 :: vr a :: st) h Q := by
  subst hpq
  obtain ⟨f, r, h2, he, hq⟩ := k
  refine yr_inv (y' := y') (as := [vr a, w1]) (rest := st) hd rfl rfl ?_ ⟨f, r, h2, he, ?_⟩
  · simp only [am_inv, hM, vr, List.drop, List.take, List.reverse_cons, List.reverse_nil, List.nil_append, List.cons_append]
    rw [if_pos ⟨trivial, h9, hc.2.1, hc.2.2, hr⟩]
  · obtain ⟨z, rfl, k⟩ := hq
    exact k

theorem yr_sI1 {pq : Nat} {idx md : Nat} {y' : am_MI} {w1 : Value} (hpq : pc + 3 = pq) (hd : decode y.2.2.1 pc = .ok (.invokestatic idx, 3)) (hM : am_lkM y.1 idx = some (y', 1, md)) (h9 : md = 1 ∨ md = 4) (hr : (st.map fun v => v.category).sum ≤ 8) (k : ClI d y' [w1] h (fun z h2 => Yr d y pq al (vi z :: st) h2 Q)) : Yr d y pc al (w1 :: st) h Q := by
  subst hpq
  obtain ⟨f, r, h2, he, hq⟩ := k
  refine yr_inv (y' := y') (as := [w1]) (rest := st) hd rfl rfl ?_ ⟨f, r, h2, he, ?_⟩
  · simp only [am_inv, hM, List.drop, List.take, List.reverse_cons, List.reverse_nil, List.nil_append, List.cons_append]
    rw [if_pos ⟨h9, by simp, hr⟩]
  · obtain ⟨z, rfl, k⟩ := hq
    exact k

theorem yr_vI2 {pq : Nat} {idx : Nat} {y' : am_MI} {a : Int} {w1 w2 : Value} (hpq : pc + 3 = pq) (hd : decode y.2.2.1 pc = .ok (.invokevirtual idx, 3)) (hM : am_lkM y.1 idx = some (y', 2, 0)) (h9 : y'.1 < 9) (hc : is_c y'.1 a) (hr : (st.map fun v => v.category).sum ≤ 8) (k : ClI d y' [vr a, w1, w2] h (fun z h2 => Yr d y pq al (vi z :: st) h2 Q)) : Yr d y pc al (w2 :: w1 :: vr a :: st) h Q := by
  subst hpq
  obtain ⟨f, r, h2, he, hq⟩ := k
  refine yr_inv (y' := y') (as := [vr a, w1, w2]) (rest := st) hd rfl rfl ?_ ⟨f, r, h2, he, ?_⟩
  · simp only [am_inv, hM, vr, List.drop, List.take, List.reverse_cons, List.reverse_nil, List.nil_append, List.cons_append]
    rw [if_pos ⟨trivial, h9, hc.2.1, hc.2.2, hr⟩]
  · obtain ⟨z, rfl, k⟩ := hq
    exact k

theorem yr_sI2 {pq : Nat} {idx md : Nat} {y' : am_MI} {w1 w2 : Value} (hpq : pc + 3 = pq) (hd : decode y.2.2.1 pc = .ok (.invokestatic idx, 3)) (hM : am_lkM y.1 idx = some (y', 2, md)) (h9 : md = 1 ∨ md = 4) (hr : (st.map fun v => v.category).sum ≤ 8) (k : ClI d y' [w1, w2] h (fun z h2 => Yr d y pq al (vi z :: st) h2 Q)) : Yr d y pc al (w2 :: w1 :: st) h Q := by
  subst hpq
  obtain ⟨f, r, h2, he, hq⟩ := k
  refine yr_inv (y' := y') (as := [w1, w2]) (rest := st) hd rfl rfl ?_ ⟨f, r, h2, he, ?_⟩
  · simp only [am_inv, hM, List.drop, List.take, List.reverse_cons, List.reverse_nil, List.nil_append, List.cons_append]
    rw [if_pos ⟨h9, by simp, hr⟩]
  · obtain ⟨z, rfl, k⟩ := hq
    exact k

theorem yr_vI3 {pq : Nat} {idx : Nat} {y' : am_MI} {a : Int} {w1 w2 w3 : Value} (hpq : pc + 3 = pq) (hd : decode y.2.2.1 pc = .ok (.invokevirtual idx, 3)) (hM : am_lkM y.1 idx = some (y', 3, 0)) (h9 : y'.1 < 9) (hc : is_c y'.1 a) (hr : (st.map fun v => v.category).sum ≤ 8) (k : ClI d y' [vr a, w1, w2, w3] h (fun z h2 => Yr d y pq al (vi z :: st) h2 Q)) : Yr d y pc al (w3 :: w2 :: w1 :: vr a :: st) h Q := by
  subst hpq
  obtain ⟨f, r, h2, he, hq⟩ := k
  refine yr_inv (y' := y') (as := [vr a, w1, w2, w3]) (rest := st) hd rfl rfl ?_ ⟨f, r, h2, he, ?_⟩
  · simp only [am_inv, hM, vr, List.drop, List.take, List.reverse_cons, List.reverse_nil, List.nil_append, List.cons_append]
    rw [if_pos ⟨trivial, h9, hc.2.1, hc.2.2, hr⟩]
  · obtain ⟨z, rfl, k⟩ := hq
    exact k

theorem yr_sI3 {pq : Nat} {idx md : Nat} {y' : am_MI} {w1 w2 w3 : Value} (hpq : pc + 3 = pq) (hd : decode y.2.2.1 pc = .ok (.invokestatic idx, 3)) (hM : am_lkM y.1 idx = some (y', 3, md)) (h9 : md = 1 ∨ md = 4) (hr : (st.map fun v => v.category).sum ≤ 8) (k : ClI d y' [w1, w2, w3] h (fun z h2 => Yr d y pq al (vi z :: st) h2 Q)) : Yr d y pc al (w3 :: w2 :: w1 :: st) h Q := by
  subst hpq
  obtain ⟨f, r, h2, he, hq⟩ := k
  refine yr_inv (y' := y') (as := [w1, w2, w3]) (rest := st) hd rfl rfl ?_ ⟨f, r, h2, he, ?_⟩
  · simp only [am_inv, hM, List.drop, List.take, List.reverse_cons, List.reverse_nil, List.nil_append, List.cons_append]
    rw [if_pos ⟨h9, by simp, hr⟩]
  · obtain ⟨z, rfl, k⟩ := hq
    exact k

theorem yr_vI4 {pq : Nat} {idx : Nat} {y' : am_MI} {a : Int} {w1 w2 w3 w4 : Value} (hpq : pc + 3 = pq) (hd : decode y.2.2.1 pc = .ok (.invokevirtual idx, 3)) (hM : am_lkM y.1 idx = some (y', 4, 0)) (h9 : y'.1 < 9) (hc : is_c y'.1 a) (hr : (st.map fun v => v.category).sum ≤ 8) (k : ClI d y' [vr a, w1, w2, w3, w4] h (fun z h2 => Yr d y pq al (vi z :: st) h2 Q)) : Yr d y pc al (w4 :: w3 :: w2 :: w1 :: vr a :: st) h Q := by
  subst hpq
  obtain ⟨f, r, h2, he, hq⟩ := k
  refine yr_inv (y' := y') (as := [vr a, w1, w2, w3, w4]) (rest := st) hd rfl rfl ?_ ⟨f, r, h2, he, ?_⟩
  · simp only [am_inv, hM, vr, List.drop, List.take, List.reverse_cons, List.reverse_nil, List.nil_append, List.cons_append]
    rw [if_pos ⟨trivial, h9, hc.2.1, hc.2.2, hr⟩]
  · obtain ⟨z, rfl, k⟩ := hq
    exact k

theorem yr_sI4 {pq : Nat} {idx md : Nat} {y' : am_MI} {w1 w2 w3 w4 : Value} (hpq : pc + 3 = pq) (hd : decode y.2.2.1 pc = .ok (.invokestatic idx, 3)) (hM : am_lkM y.1 idx = some (y', 4, md)) (h9 : md = 1 ∨ md = 4) (hr : (st.map fun v => v.category).sum ≤ 8) (k : ClI d y' [w1, w2, w3, w4] h (fun z h2 => Yr d y pq al (vi z :: st) h2 Q)) : Yr d y pc al (w4 :: w3 :: w2 :: w1 :: st) h Q := by
  subst hpq
  obtain ⟨f, r, h2, he, hq⟩ := k
  refine yr_inv (y' := y') (as := [w1, w2, w3, w4]) (rest := st) hd rfl rfl ?_ ⟨f, r, h2, he, ?_⟩
  · simp only [am_inv, hM, List.drop, List.take, List.reverse_cons, List.reverse_nil, List.nil_append, List.cons_append]
    rw [if_pos ⟨h9, by simp, hr⟩]
  · obtain ⟨z, rfl, k⟩ := hq
    exact k

theorem yr_vI5 {pq : Nat} {idx : Nat} {y' : am_MI} {a : Int} {w1 w2 w3 w4 w5 : Value} (hpq : pc + 3 = pq) (hd : decode y.2.2.1 pc = .ok (.invokevirtual idx, 3)) (hM : am_lkM y.1 idx = some (y', 5, 0)) (h9 : y'.1 < 9) (hc : is_c y'.1 a) (hr : (st.map fun v => v.category).sum ≤ 8) (k : ClI d y' [vr a, w1, w2, w3, w4, w5] h (fun z h2 => Yr d y pq al (vi z :: st) h2 Q)) : Yr d y pc al (w5 :: w4 :: w3 :: w2 :: w1 :: vr a :: st) h Q := by
  subst hpq
  obtain ⟨f, r, h2, he, hq⟩ := k
  refine yr_inv (y' := y') (as := [vr a, w1, w2, w3, w4, w5]) (rest := st) hd rfl rfl ?_ ⟨f, r, h2, he, ?_⟩
  · simp only [am_inv, hM, vr, List.drop, List.take, List.reverse_cons, List.reverse_nil, List.nil_append, List.cons_append]
    rw [if_pos ⟨trivial, h9, hc.2.1, hc.2.2, hr⟩]
  · obtain ⟨z, rfl, k⟩ := hq
    exact k

theorem yr_sI5 {pq : Nat} {idx md : Nat} {y' : am_MI} {w1 w2 w3 w4 w5 : Value} (hpq : pc + 3 = pq) (hd : decode y.2.2.1 pc = .ok (.invokestatic idx, 3)) (hM : am_lkM y.1 idx = some (y', 5, md)) (h9 : md = 1 ∨ md = 4) (hr : (st.map fun v => v.category).sum ≤ 8) (k : ClI d y' [w1, w2, w3, w4, w5] h (fun z h2 => Yr d y pq al (vi z :: st) h2 Q)) : Yr d y pc al (w5 :: w4 :: w3 :: w2 :: w1 :: st) h Q := by
  subst hpq
  obtain ⟨f, r, h2, he, hq⟩ := k
  refine yr_inv (y' := y') (as := [w1, w2, w3, w4, w5]) (rest := st) hd rfl rfl ?_ ⟨f, r, h2, he, ?_⟩
  · simp only [am_inv, hM, List.drop, List.take, List.reverse_cons, List.reverse_nil, List.nil_append, List.cons_append]
    rw [if_pos ⟨h9, by simp, hr⟩]
  · obtain ⟨z, rfl, k⟩ := hq
    exact k

theorem yr_vI6 {pq : Nat} {idx : Nat} {y' : am_MI} {a : Int} {w1 w2 w3 w4 w5 w6 : Value} (hpq : pc + 3 = pq) (hd : decode y.2.2.1 pc = .ok (.invokevirtual idx, 3)) (hM : am_lkM y.1 idx = some (y', 6, 0)) (h9 : y'.1 < 9) (hc : is_c y'.1 a) (hr : (st.map fun v => v.category).sum ≤ 8) (k : ClI d y' [vr a, w1, w2, w3, w4, w5, w6] h (fun z h2 => Yr d y pq al (vi z :: st) h2 Q)) : Yr d y pc al (w6 :: w5 :: w4 :: w3 :: w2 :: w1 :: vr a :: st) h Q := by
  subst hpq
  obtain ⟨f, r, h2, he, hq⟩ := k
  refine yr_inv (y' := y') (as := [vr a, w1, w2, w3, w4, w5, w6]) (rest := st) hd rfl rfl ?_ ⟨f, r, h2, he, ?_⟩
  · simp only [am_inv, hM, vr, List.drop, List.take, List.reverse_cons, List.reverse_nil, List.nil_append, List.cons_append]
    rw [if_pos ⟨trivial, h9, hc.2.1, hc.2.2, hr⟩]
  · obtain ⟨z, rfl, k⟩ := hq
    exact k

theorem yr_sI6 {pq : Nat} {idx md : Nat} {y' : am_MI} {w1 w2 w3 w4 w5 w6 : Value} (hpq : pc + 3 = pq) (hd : decode y.2.2.1 pc = .ok (.invokestatic idx, 3)) (hM : am_lkM y.1 idx = some (y', 6, md)) (h9 : md = 1 ∨ md = 4) (hr : (st.map fun v => v.category).sum ≤ 8) (k : ClI d y' [w1, w2, w3, w4, w5, w6] h (fun z h2 => Yr d y pq al (vi z :: st) h2 Q)) : Yr d y pc al (w6 :: w5 :: w4 :: w3 :: w2 :: w1 :: st) h Q := by
  subst hpq
  obtain ⟨f, r, h2, he, hq⟩ := k
  refine yr_inv (y' := y') (as := [w1, w2, w3, w4, w5, w6]) (rest := st) hd rfl rfl ?_ ⟨f, r, h2, he, ?_⟩
  · simp only [am_inv, hM, List.drop, List.take, List.reverse_cons, List.reverse_nil, List.nil_append, List.cons_append]
    rw [if_pos ⟨h9, by simp, hr⟩]
  · obtain ⟨z, rfl, k⟩ := hq
    exact k

theorem yr_vV0 {pq : Nat} {idx : Nat} {y' : am_MI} {a : Int} (hpq : pc + 3 = pq) (hd : decode y.2.2.1 pc = .ok (.invokevirtual idx, 3)) (hM : am_lkM y.1 idx = some (y', 0, 0)) (h9 : y'.1 < 9) (hc : is_c y'.1 a) (hr : (st.map fun v => v.category).sum ≤ 8) (k : ClV d y' [vr a] h (fun h2 => Yr d y pq al st h2 Q)) : Yr d y pc al (vr a :: st) h Q := by
  subst hpq
  obtain ⟨f, r, h2, he, hq⟩ := k
  refine yr_inv (y' := y') (as := [vr a]) (rest := st) hd rfl rfl ?_ ⟨f, r, h2, he, ?_⟩
  · simp only [am_inv, hM, vr, List.drop, List.take, List.reverse_cons, List.reverse_nil, List.nil_append, List.cons_append]
    rw [if_pos ⟨trivial, h9, hc.2.1, hc.2.2, hr⟩]
  · obtain ⟨rfl, k⟩ := hq
    exact k

theorem yr_vV1 {pq : Nat} {idx : Nat} {y' : am_MI} {a : Int} {w1 : Value} (hpq : pc + 3 = pq) (hd : decode y.2.2.1 pc = .ok (.invokevirtual idx, 3)) (hM : am_lkM y.1 idx = some (y', 1, 0)) (h9 : y'.1 < 9) (hc : is_c y'.1 a) (hr : (st.map fun v => v.category).sum ≤ 8) (k : ClV d y' [vr a, w1] h (fun h2 => Yr d y pq al st h2 Q)) : Yr d y pc al (w1 :: vr a :: st) h Q := by
  subst hpq
  obtain ⟨f, r, h2, he, hq⟩ := k
  refine yr_inv (y' := y') (as := [vr a, w1]) (rest := st) hd rfl rfl ?_ ⟨f, r, h2, he, ?_⟩
  · simp only [am_inv, hM, vr, List.drop, List.take, List.reverse_cons, List.reverse_nil, List.nil_append, List.cons_append]
    rw [if_pos ⟨trivial, h9, hc.2.1, hc.2.2, hr⟩]
  · obtain ⟨rfl, k⟩ := hq
    exact k

theorem yr_sV1 {pq : Nat} {idx md : Nat} {y' : am_MI} {w1 : Value} (hpq : pc + 3 = pq) (hd : decode y.2.2.1 pc = .ok (.invokestatic idx, 3)) (hM : am_lkM y.1 idx = some (y', 1, md)) (h9 : md = 1 ∨ md = 4) (hr : (st.map fun v => v.category).sum ≤ 8) (k : ClV d y' [w1] h (fun h2 => Yr d y pq al st h2 Q)) : Yr d y pc al (w1 :: st) h Q := by
  subst hpq
  obtain ⟨f, r, h2, he, hq⟩ := k
  refine yr_inv (y' := y') (as := [w1]) (rest := st) hd rfl rfl ?_ ⟨f, r, h2, he, ?_⟩
  · simp only [am_inv, hM, List.drop, List.take, List.reverse_cons, List.reverse_nil, List.nil_append, List.cons_append]
    rw [if_pos ⟨h9, by simp, hr⟩]
  · obtain ⟨rfl, k⟩ := hq
    exact k

theorem yr_vV2 {pq : Nat} {idx : Nat} {y' : am_MI} {a : Int} {w1 w2 : Value} (hpq : pc + 3 = pq) (hd : decode y.2.2.1 pc = .ok (.invokevirtual idx, 3)) (hM : am_lkM y.1 idx = some (y', 2, 0)) (h9 : y'.1 < 9) (hc : is_c y'.1 a) (hr : (st.map fun v => v.category).sum ≤ 8) (k : ClV d y' [vr a, w1, w2] h (fun h2 => Yr d y pq al st h2 Q)) : Yr d y pc al (w2 :: w1 :: vr a :: st) h Q := by
  subst hpq
  obtain ⟨f, r, h2, he, hq⟩ := k
  refine yr_inv (y' := y') (as := [vr a, w1, w2]) (rest := st) hd rfl rfl ?_ ⟨f, r, h2, he, ?_⟩
  · simp only [am_inv, hM, vr, List.drop, List.take, List.reverse_cons, List.reverse_nil, List.nil_append, List.cons_append]
    rw [if_pos ⟨trivial, h9, hc.2.1, hc.2.2, hr⟩]
  · obtain ⟨rfl, k⟩ := hq
    exact k

theorem yr_sV2 {pq : Nat} {idx md : Nat} {y' : am_MI} {w1 w2 : Value} (hpq : pc + 3 = pq) (hd : decode y.2.2.1 pc = .ok (.invokestatic idx, 3)) (hM : am_lkM y.1 idx = some (y', 2, md)) (h9 : md = 1 ∨ md = 4) (hr : (st.map fun v => v.category).sum ≤ 8) (k : ClV d y' [w1, w2] h (fun h2 => Yr d y pq al st h2 Q)) : Yr d y pc al (w2 :: w1 :: st) h Q := by
  subst hpq
  obtain ⟨f, r, h2, he, hq⟩ := k
  refine yr_inv (y' := y') (as := [w1, w2]) (rest := st) hd rfl rfl ?_ ⟨f, r, h2, he, ?_⟩
  · simp only [am_inv, hM, List.drop, List.take, List.reverse_cons, List.reverse_nil, List.nil_append, List.cons_append]
    rw [if_pos ⟨h9, by simp, hr⟩]
  · obtain ⟨rfl, k⟩ := hq
    exact k

theorem yr_vV3 {pq : Nat} {idx : Nat} {y' : am_MI} {a : Int} {w1 w2 w3 : Value} (hpq : pc + 3 = pq) (hd : decode y.2.2.1 pc = .ok (.invokevirtual idx, 3)) (hM : am_lkM y.1 idx = some (y', 3, 0)) (h9 : y'.1 < 9) (hc : is_c y'.1 a) (hr : (st.map fun v => v.category).sum ≤ 8) (k : ClV d y' [vr a, w1, w2, w3] h (fun h2 => Yr d y pq al st h2 Q)) : Yr d y pc al (w3 :: w2 :: w1 :: vr a :: st) h Q := by
  subst hpq
  obtain ⟨f, r, h2, he, hq⟩ := k
  refine yr_inv (y' := y') (as := [vr a, w1, w2, w3]) (rest := st) hd rfl rfl ?_ ⟨f, r, h2, he, ?_⟩
  · simp only [am_inv, hM, vr, List.drop, List.take, List.reverse_cons, List.reverse_nil, List.nil_append, List.cons_append]
    rw [if_pos ⟨trivial, h9, hc.2.1, hc.2.2, hr⟩]
  · obtain ⟨rfl, k⟩ := hq
    exact k

theorem yr_sV3 {pq : Nat} {idx md : Nat} {y' : am_MI} {w1 w2 w3 : Value} (hpq : pc + 3 = pq) (hd : decode y.2.2.1 pc = .ok (.invokestatic idx, 3)) (hM : am_lkM y.1 idx = some (y', 3, md)) (h9 : md = 1 ∨ md = 4) (hr : (st.map fun v => v.category).sum ≤ 8) (k : ClV d y' [w1, w2, w3] h (fun h2 => Yr d y pq al st h2 Q)) : Yr d y pc al (w3 :: w2 :: w1 :: st) h Q := by
  subst hpq
  obtain ⟨f, r, h2, he, hq⟩ := k
  refine yr_inv (y' := y') (as := [w1, w2, w3]) (rest := st) hd rfl rfl ?_ ⟨f, r, h2, he, ?_⟩
  · simp only [am_inv, hM, List.drop, List.take, List.reverse_cons, List.reverse_nil, List.nil_append, List.cons_append]
    rw [if_pos ⟨h9, by simp, hr⟩]
  · obtain ⟨rfl, k⟩ := hq
    exact k

theorem yr_vV4 {pq : Nat} {idx : Nat} {y' : am_MI} {a : Int} {w1 w2 w3 w4 : Value} (hpq : pc + 3 = pq) (hd : decode y.2.2.1 pc = .ok (.invokevirtual idx, 3)) (hM : am_lkM y.1 idx = some (y', 4, 0)) (h9 : y'.1 < 9) (hc : is_c y'.1 a) (hr : (st.map fun v => v.category).sum ≤ 8) (k : ClV d y' [vr a, w1, w2, w3, w4] h (fun h2 => Yr d y pq al st h2 Q)) : Yr d y pc al (w4 :: w3 :: w2 :: w1 :: vr a :: st) h Q := by
  subst hpq
  obtain ⟨f, r, h2, he, hq⟩ := k
  refine yr_inv (y' := y') (as := [vr a, w1, w2, w3, w4]) (rest := st) hd rfl rfl ?_ ⟨f, r, h2, he, ?_⟩
  · simp only [am_inv, hM, vr, List.drop, List.take, List.reverse_cons, List.reverse_nil, List.nil_append, List.cons_append]
    rw [if_pos ⟨trivial, h9, hc.2.1, hc.2.2, hr⟩]
  · obtain ⟨rfl, k⟩ := hq
    exact k

theorem yr_sV4 {pq : Nat} {idx md : Nat} {y' : am_MI} {w1 w2 w3 w4 : Value} (hpq : pc + 3 = pq) (hd : decode y.2.2.1 pc = .ok (.invokestatic idx, 3)) (hM : am_lkM y.1 idx = some (y', 4, md)) (h9 : md = 1 ∨ md = 4) (hr : (st.map fun v => v.category).sum ≤ 8) (k : ClV d y' [w1, w2, w3, w4] h (fun h2 => Yr d y pq al st h2 Q)) : Yr d y pc al (w4 :: w3 :: w2 :: w1 :: st) h Q := by
  subst hpq
  obtain ⟨f, r, h2, he, hq⟩ := k
  refine yr_inv (y' := y') (as := [w1, w2, w3, w4]) (rest := st) hd rfl rfl ?_ ⟨f, r, h2, he, ?_⟩
  · simp only [am_inv, hM, List.drop, List.take, List.reverse_cons, List.reverse_nil, List.nil_append, List.cons_append]
    rw [if_pos ⟨h9, by simp, hr⟩]
  · obtain ⟨rfl, k⟩ := hq
    exact k

theorem yr_vV5 {pq : Nat} {idx : Nat} {y' : am_MI} {a : Int} {w1 w2 w3 w4 w5 : Value} (hpq : pc + 3 = pq) (hd : decode y.2.2.1 pc = .ok (.invokevirtual idx, 3)) (hM : am_lkM y.1 idx = some (y', 5, 0)) (h9 : y'.1 < 9) (hc : is_c y'.1 a) (hr : (st.map fun v => v.category).sum ≤ 8) (k : ClV d y' [vr a, w1, w2, w3, w4, w5] h (fun h2 => Yr d y pq al st h2 Q)) : Yr d y pc al (w5 :: w4 :: w3 :: w2 :: w1 :: vr a :: st) h Q := by
  subst hpq
  obtain ⟨f, r, h2, he, hq⟩ := k
  refine yr_inv (y' := y') (as := [vr a, w1, w2, w3, w4, w5]) (rest := st) hd rfl rfl ?_ ⟨f, r, h2, he, ?_⟩
  · simp only [am_inv, hM, vr, List.drop, List.take, List.reverse_cons, List.reverse_nil, List.nil_append, List.cons_append]
    rw [if_pos ⟨trivial, h9, hc.2.1, hc.2.2, hr⟩]
  · obtain ⟨rfl, k⟩ := hq
    exact k

theorem yr_sV5 {pq : Nat} {idx md : Nat} {y' : am_MI} {w1 w2 w3 w4 w5 : Value} (hpq : pc + 3 = pq) (hd : decode y.2.2.1 pc = .ok (.invokestatic idx, 3)) (hM : am_lkM y.1 idx = some (y', 5, md)) (h9 : md = 1 ∨ md = 4) (hr : (st.map fun v => v.category).sum ≤ 8) (k : ClV d y' [w1, w2, w3, w4, w5] h (fun h2 => Yr d y pq al st h2 Q)) : Yr d y pc al (w5 :: w4 :: w3 :: w2 :: w1 :: st) h Q := by
  subst hpq
  obtain ⟨f, r, h2, he, hq⟩ := k
  refine yr_inv (y' := y') (as := [w1, w2, w3, w4, w5]) (rest := st) hd rfl rfl ?_ ⟨f, r, h2, he, ?_⟩
  · simp only [am_inv, hM, List.drop, List.take, List.reverse_cons, List.reverse_nil, List.nil_append, List.cons_append]
    rw [if_pos ⟨h9, by simp, hr⟩]
  · obtain ⟨rfl, k⟩ := hq
    exact k

theorem yr_vV6 {pq : Nat} {idx : Nat} {y' : am_MI} {a : Int} {w1 w2 w3 w4 w5 w6 : Value} (hpq : pc + 3 = pq) (hd : decode y.2.2.1 pc = .ok (.invokevirtual idx, 3)) (hM : am_lkM y.1 idx = some (y', 6, 0)) (h9 : y'.1 < 9) (hc : is_c y'.1 a) (hr : (st.map fun v => v.category).sum ≤ 8) (k : ClV d y' [vr a, w1, w2, w3, w4, w5, w6] h (fun h2 => Yr d y pq al st h2 Q)) : Yr d y pc al (w6 :: w5 :: w4 :: w3 :: w2 :: w1 :: vr a :: st) h Q := by
  subst hpq
  obtain ⟨f, r, h2, he, hq⟩ := k
  refine yr_inv (y' := y') (as := [vr a, w1, w2, w3, w4, w5, w6]) (rest := st) hd rfl rfl ?_ ⟨f, r, h2, he, ?_⟩
  · simp only [am_inv, hM, vr, List.drop, List.take, List.reverse_cons, List.reverse_nil, List.nil_append, List.cons_append]
    rw [if_pos ⟨trivial, h9, hc.2.1, hc.2.2, hr⟩]
  · obtain ⟨rfl, k⟩ := hq
    exact k

theorem yr_sV6 {pq : Nat} {idx md : Nat} {y' : am_MI} {w1 w2 w3 w4 w5 w6 : Value} (hpq : pc + 3 = pq) (hd : decode y.2.2.1 pc = .ok (.invokestatic idx, 3)) (hM : am_lkM y.1 idx = some (y', 6, md)) (h9 : md = 1 ∨ md = 4) (hr : (st.map fun v => v.category).sum ≤ 8) (k : ClV d y' [w1, w2, w3, w4, w5, w6] h (fun h2 => Yr d y pq al st h2 Q)) : Yr d y pc al (w6 :: w5 :: w4 :: w3 :: w2 :: w1 :: st) h Q := by
  subst hpq
  obtain ⟨f, r, h2, he, hq⟩ := k
  refine yr_inv (y' := y') (as := [w1, w2, w3, w4, w5, w6]) (rest := st) hd rfl rfl ?_ ⟨f, r, h2, he, ?_⟩
  · simp only [am_inv, hM, List.drop, List.take, List.reverse_cons, List.reverse_nil, List.nil_append, List.cons_append]
    rw [if_pos ⟨h9, by simp, hr⟩]
  · obtain ⟨rfl, k⟩ := hq
    exact k

theorem yr_vS0 {pq : Nat} {idx : Nat} {y' : am_MI} {a : Int} (hpq : pc + 3 = pq) (hd : decode y.2.2.1 pc = .ok (.invokevirtual idx, 3)) (hM : am_lkM y.1 idx = some (y', 0, 0)) (h9 : y'.1 < 9) (hc : is_c y'.1 a) (hr : (st.map fun v => v.category).sum ≤ 8) (k : ClS d y' [vr a] h (fun t h2 => Yr d y pq al (vs t :: st) h2 Q)) : Yr d y pc al (vr a :: st) h Q := by
  subst hpq
  obtain ⟨f, r, h2, he, hq⟩ := k
  refine yr_inv (y' := y') (as := [vr a]) (rest := st) hd rfl rfl ?_ ⟨f, r, h2, he, ?_⟩
  · simp only [am_inv, hM, vr, List.drop, List.take, List.reverse_cons, List.reverse_nil, List.nil_append, List.cons_append]
    rw [if_pos ⟨trivial, h9, hc.2.1, hc.2.2, hr⟩]
  · obtain ⟨z, rfl, k⟩ := hq
    exact k

theorem yr_vS1 {pq : Nat} {idx : Nat} {y' : am_MI} {a : Int} {w1 : Value} (hpq : pc + 3 = pq) (hd : decode y.2.2.1 pc = .ok (.invokevirtual idx, 3)) (hM : am_lkM y.1 idx = some (y', 1, 0)) (h9 : y'.1 < 9) (hc : is_c y'.1 a) (hr : (st.map fun v => v.category).sum ≤ 8) (k : ClS d y' [vr a, w1] h (fun t h2 => Yr d y pq al (vs t :: st) h2 Q)) : Yr d y pc al (w1 :: vr a :: st) h Q := by
  subst hpq
  obtain ⟨f, r, h2, he, hq⟩ := k
  refine yr_inv (y' := y') (as := [vr a, w1]) (rest := st) hd rfl rfl ?_ ⟨f, r, h2, he, ?_⟩
  · simp only [am_inv, hM, vr, List.drop, List.take, List.reverse_cons, List.reverse_nil, List.nil_append, List.cons_append]
    rw [if_pos ⟨trivial, h9, hc.2.1, hc.2.2, hr⟩]
  · obtain ⟨z, rfl, k⟩ := hq
    exact k

theorem yr_sS1 {pq : Nat} {idx md : Nat} {y' : am_MI} {w1 : Value} (hpq : pc + 3 = pq) (hd : decode y.2.2.1 pc = .ok (.invokestatic idx, 3)) (hM : am_lkM y.1 idx = some (y', 1, md)) (h9 : md = 1 ∨ md = 4) (hr : (st.map fun v => v.category).sum ≤ 8) (k : ClS d y' [w1] h (fun t h2 => Yr d y pq al (vs t :: st) h2 Q)) : Yr d y pc al (w1 :: st) h Q := by
  subst hpq
  obtain ⟨f, r, h2, he, hq⟩ := k
  refine yr_inv (y' := y') (as := [w1]) (rest := st) hd rfl rfl ?_ ⟨f, r, h2, he, ?_⟩
  · simp only [am_inv, hM, List.drop, List.take, List.reverse_cons, List.reverse_nil, List.nil_append, List.cons_append]
    rw [if_pos ⟨h9, by simp, hr⟩]
  · obtain ⟨z, rfl, k⟩ := hq
    exact k

theorem yr_vS2 {pq : Nat} {idx : Nat} {y' : am_MI} {a : Int} {w1 w2 : Value} (hpq : pc + 3 = pq) (hd : decode y.2.2.1 pc = .ok (.invokevirtual idx, 3)) (hM : am_lkM y.1 idx = some (y', 2, 0)) (h9 : y'.1 < 9) (hc : is_c y'.1 a) (hr : (st.map fun v => v.category).sum ≤ 8) (k : ClS d y' [vr a, w1, w2] h (fun t h2 => Yr d y pq al (vs t :: st) h2 Q)) : Yr d y pc al (w2 :: w1 :: vr a :: st) h Q := by
  subst hpq
  obtain ⟨f, r, h2, he, hq⟩ := k
  refine yr_inv (y' := y') (as := [vr a, w1, w2]) (rest := st) hd rfl rfl ?_ ⟨f, r, h2, he, ?_⟩
  · simp only [am_inv, hM, vr, List.drop, List.take, List.reverse_cons, List.reverse_nil, List.nil_append, List.cons_append]
    rw [if_pos ⟨trivial, h9, hc.2.1, hc.2.2, hr⟩]
  · obtain ⟨z, rfl, k⟩ := hq
    exact k

theorem yr_sS2 {pq : Nat} {idx md : Nat} {y' : am_MI} {w1 w2 : Value} (hpq : pc + 3 = pq) (hd : decode y.2.2.1 pc = .ok (.invokestatic idx, 3)) (hM : am_lkM y.1 idx = some (y', 2, md)) (h9 : md = 1 ∨ md = 4) (hr : (st.map fun v => v.category).sum ≤ 8) (k : ClS d y' [w1, w2] h (fun t h2 => Yr d y pq al (vs t :: st) h2 Q)) : Yr d y pc al (w2 :: w1 :: st) h Q := by
  subst hpq
  obtain ⟨f, r, h2, he, hq⟩ := k
  refine yr_inv (y' := y') (as := [w1, w2]) (rest := st) hd rfl rfl ?_ ⟨f, r, h2, he, ?_⟩
  · simp only [am_inv, hM, List.drop, List.take, List.reverse_cons, List.reverse_nil, List.nil_append, List.cons_append]
    rw [if_pos ⟨h9, by simp, hr⟩]
  · obtain ⟨z, rfl, k⟩ := hq
    exact k

theorem yr_vS3 {pq : Nat} {idx : Nat} {y' : am_MI} {a : Int} {w1 w2 w3 : Value} (hpq : pc + 3 = pq) (hd : decode y.2.2.1 pc = .ok (.invokevirtual idx, 3)) (hM : am_lkM y.1 idx = some (y', 3, 0)) (h9 : y'.1 < 9) (hc : is_c y'.1 a) (hr : (st.map fun v => v.category).sum ≤ 8) (k : ClS d y' [vr a, w1, w2, w3] h (fun t h2 => Yr d y pq al (vs t :: st) h2 Q)) : Yr d y pc al (w3 :: w2 :: w1 :: vr a :: st) h Q := by
  subst hpq
  obtain ⟨f, r, h2, he, hq⟩ := k
  refine yr_inv (y' := y') (as := [vr a, w1, w2, w3]) (rest := st) hd rfl rfl ?_ ⟨f, r, h2, he, ?_⟩
  · simp only [am_inv, hM, vr, List.drop, List.take, List.reverse_cons, List.reverse_nil, List.nil_append, List.cons_append]
    rw [if_pos ⟨trivial, h9, hc.2.1, hc.2.2, hr⟩]
  · obtain ⟨z, rfl, k⟩ := hq
    exact k

theorem yr_sS3 {pq : Nat} {idx md : Nat} {y' : am_MI} {w1 w2 w3 : Value} (hpq : pc + 3 = pq) (hd : decode y.2.2.1 pc = .ok (.invokestatic idx, 3)) (hM : am_lkM y.1 idx = some (y', 3, md)) (h9 : md = 1 ∨ md = 4) (hr : (st.map fun v => v.category).sum ≤ 8) (k : ClS d y' [w1, w2, w3] h (fun t h2 => Yr d y pq al (vs t :: st) h2 Q)) : Yr d y pc al (w3 :: w2 :: w1 :: st) h Q := by
  subst hpq
  obtain ⟨f, r, h2, he, hq⟩ := k
  refine yr_inv (y' := y') (as := [w1, w2, w3]) (rest := st) hd rfl rfl ?_ ⟨f, r, h2, he, ?_⟩
  · simp only [am_inv, hM, List.drop, List.take, List.reverse_cons, List.reverse_nil, List.nil_append, List.cons_append]
    rw [if_pos ⟨h9, by simp, hr⟩]
  · obtain ⟨z, rfl, k⟩ := hq
    exact k

theorem yr_vS4 {pq : Nat} {idx : Nat} {y' : am_MI} {a : Int} {w1 w2 w3 w4 : Value} (hpq : pc + 3 = pq) (hd : decode y.2.2.1 pc = .ok (.invokevirtual idx, 3)) (hM : am_lkM y.1 idx = some (y', 4, 0)) (h9 : y'.1 < 9) (hc : is_c y'.1 a) (hr : (st.map fun v => v.category).sum ≤ 8) (k : ClS d y' [vr a, w1, w2, w3, w4] h (fun t h2 => Yr d y pq al (vs t :: st) h2 Q)) : Yr d y pc al (w4 :: w3 :: w2 :: w1 :: vr a :: st) h Q := by
  subst hpq
  obtain ⟨f, r, h2, he, hq⟩ := k
  refine yr_inv (y' := y') (as := [vr a, w1, w2, w3, w4]) (rest := st) hd rfl rfl ?_ ⟨f, r, h2, he, ?_⟩
  · simp only [am_inv, hM, vr, List.drop, List.take, List.reverse_cons, List.reverse_nil, List.nil_append, List.cons_append]
    rw [if_pos ⟨trivial, h9, hc.2.1, hc.2.2, hr⟩]
  · obtain ⟨z, rfl, k⟩ := hq
    exact k

theorem yr_sS4 {pq : Nat} {idx md : Nat} {y' : am_MI} {w1 w2 w3 w4 : Value} (hpq : pc + 3 = pq) (hd : decode y.2.2.1 pc = .ok (.invokestatic idx, 3)) (hM : am_lkM y.1 idx = some (y', 4, md)) (h9 : md = 1 ∨ md = 4) (hr : (st.map fun v => v.category).sum ≤ 8) (k : ClS d y' [w1, w2, w3, w4] h (fun t h2 => Yr d y pq al (vs t :: st) h2 Q)) : Yr d y pc al (w4 :: w3 :: w2 :: w1 :: st) h Q := by
  subst hpq
  obtain ⟨f, r, h2, he, hq⟩ := k
  refine yr_inv (y' := y') (as := [w1, w2, w3, w4]) (rest := st) hd rfl rfl ?_ ⟨f, r, h2, he, ?_⟩
  · simp only [am_inv, hM, List.drop, List.take, List.reverse_cons, List.reverse_nil, List.nil_append, List.cons_append]
    rw [if_pos ⟨h9, by simp, hr⟩]
  · obtain ⟨z, rfl, k⟩ := hq
    exact k

theorem yr_vS5 {pq : Nat} {idx : Nat} {y' : am_MI} {a : Int} {w1 w2 w3 w4 w5 : Value} (hpq : pc + 3 = pq) (hd : decode y.2.2.1 pc = .ok (.invokevirtual idx, 3)) (hM : am_lkM y.1 idx = some (y', 5, 0)) (h9 : y'.1 < 9) (hc : is_c y'.1 a) (hr : (st.map fun v => v.category).sum ≤ 8) (k : ClS d y' [vr a, w1, w2, w3, w4, w5] h (fun t h2 => Yr d y pq al (vs t :: st) h2 Q)) : Yr d y pc al (w5 :: w4 :: w3 :: w2 :: w1 :: vr a :: st) h Q := by
  subst hpq
  obtain ⟨f, r, h2, he, hq⟩ := k
  refine yr_inv (y' := y') (as := [vr a, w1, w2, w3, w4, w5]) (rest := st) hd rfl rfl ?_ ⟨f, r, h2, he, ?_⟩
  · simp only [am_inv, hM, vr, List.drop, List.take, List.reverse_cons, List.reverse_nil, List.nil_append, List.cons_append]
    rw [if_pos ⟨trivial, h9, hc.2.1, hc.2.2, hr⟩]
  · obtain ⟨z, rfl, k⟩ := hq
    exact k

theorem yr_sS5 {pq : Nat} {idx md : Nat} {y' : am_MI} {w1 w2 w3 w4 w5 : Value} (hpq : pc + 3 = pq) (hd : decode y.2.2.1 pc = .ok (.invokestatic idx, 3)) (hM : am_lkM y.1 idx = some (y', 5, md)) (h9 : md = 1 ∨ md = 4) (hr : (st.map fun v => v.category).sum ≤ 8) (k : ClS d y' [w1, w2, w3, w4, w5] h (fun t h2 => Yr d y pq al (vs t :: st) h2 Q)) : Yr d y pc al (w5 :: w4 :: w3 :: w2 :: w1 :: st) h Q := by
  subst hpq
  obtain ⟨f, r, h2, he, hq⟩ := k
  refine yr_inv (y' := y') (as := [w1, w2, w3, w4, w5]) (rest := st) hd rfl rfl ?_ ⟨f, r, h2, he, ?_⟩
  · simp only [am_inv, hM, List.drop, List.take, List.reverse_cons, List.reverse_nil, List.nil_append, List.cons_append]
    rw [if_pos ⟨h9, by simp, hr⟩]
  · obtain ⟨z, rfl, k⟩ := hq
    exact k

theorem yr_vS6 {pq : Nat} {idx : Nat} {y' : am_MI} {a : Int} {w1 w2 w3 w4 w5 w6 : Value} (hpq : pc + 3 = pq) (hd : decode y.2.2.1 pc = .ok (.invokevirtual idx, 3)) (hM : am_lkM y.1 idx = some (y', 6, 0)) (h9 : y'.1 < 9) (hc : is_c y'.1 a) (hr : (st.map fun v => v.category).sum ≤ 8) (k : ClS d y' [vr a, w1, w2, w3, w4, w5, w6] h (fun t h2 => Yr d y pq al (vs t :: st) h2 Q)) : Yr d y pc al (w6 :: w5 :: w4 :: w3 :: w2 :: w1 :: vr a :: st) h Q := by
  subst hpq
  obtain ⟨f, r, h2, he, hq⟩ := k
  refine yr_inv (y' := y') (as := [vr a, w1, w2, w3, w4, w5, w6]) (rest := st) hd rfl rfl ?_ ⟨f, r, h2, he, ?_⟩
  · simp only [am_inv, hM, vr, List.drop, List.take, List.reverse_cons, List.reverse_nil, List.nil_append, List.cons_append]
    rw [if_pos ⟨trivial, h9, hc.2.1, hc.2.2, hr⟩]
  · obtain ⟨z, rfl, k⟩ := hq
    exact k

theorem yr_sS6 {pq : Nat} {idx md : Nat} {y' : am_MI} {w1 w2 w3 w4 w5 w6 : Value} (hpq : pc + 3 = pq) (hd : decode y.2.2.1 pc = .ok (.invokestatic idx, 3)) (hM : am_lkM y.1 idx = some (y', 6, md)) (h9 : md = 1 ∨ md = 4) (hr : (st.map fun v => v.category).sum ≤ 8) (k : ClS d y' [w1, w2, w3, w4, w5, w6] h (fun t h2 => Yr d y pq al (vs t :: st) h2 Q)) : Yr d y pc al (w6 :: w5 :: w4 :: w3 :: w2 :: w1 :: st) h Q := by
  subst hpq
  obtain ⟨f, r, h2, he, hq⟩ := k
  refine yr_inv (y' := y') (as := [w1, w2, w3, w4, w5, w6]) (rest := st) hd rfl rfl ?_ ⟨f, r, h2, he, ?_⟩
  · simp only [am_inv, hM, List.drop, List.take, List.reverse_cons, List.reverse_nil, List.nil_append, List.cons_append]
    rw [if_pos ⟨h9, by simp, hr⟩]
  · obtain ⟨z, rfl, k⟩ := hq
    exact k

theorem yr_len {pq : Nat} {idx : Nat} {t : Int} (hpq : pc + 3 = pq) (hd : decode y.2.2.1 pc = .ok (.invokevirtual idx, 3)) (hM : am_lkM y.1 idx = none) (hX : am_lkX y.1 idx = some 1) (ht : 0 ≤ t ∧ t < 15) (hr : (st.map fun v => v.category).sum ≤ 8) (K : Yr d y pq al (vi ((am_by.getD t.toNat []).length : Int) :: st) h Q) : Yr d y pc al (vs t :: st) h Q := by
  subst hpq
  refine yr_stp hd rfl rfl (by simp only [am_inv, hM]) ?_ K
  simp only [am_stp, hX, am_1r, vs]
  have e : 1000000 + t.toNat - 1000000 = t.toNat := by omega
  rw [if_pos ⟨by omega, by omega, hr⟩, e]
  rfl

theorem yr_chr {pq : Nat} {idx : Nat} {t i : Int} (hpq : pc + 3 = pq) (hd : decode y.2.2.1 pc = .ok (.invokevirtual idx, 3)) (hM : am_lkM y.1 idx = none) (hX : am_lkX y.1 idx = some 2) (ht : 0 ≤ t ∧ t < 15) (hi : 0 ≤ i ∧ i < ((am_by.getD t.toNat []).length : Int)) (hl : (am_by.getD t.toNat []).length ≤ 20) (hr : (st.map fun v => v.category).sum ≤ 8) (K : Yr d y pq al (vi (((am_by.getD t.toNat []).getD i.toNat 0 : Nat) : Int) :: st) h Q) : Yr d y pc al (vi i :: vs t :: st) h Q := by
  subst hpq
  refine yr_stp hd rfl rfl (by simp only [am_inv, hM]) ?_ K
  simp only [am_stp, hX, vs, vi]
  have e : 1000000 + t.toNat - 1000000 = t.toNat := by omega
  have g1 : 1000000 ≤ 1000000 + t.toNat := Nat.le_add_right _ _
  have g2 : 1000000 + t.toNat < 1000015 := by omega
  rw [e, if_pos ⟨g1, g2, z_in hi (by omega), hr⟩, z_cl (by omega)]
  rfl

theorem yr_cpy {pq : Nat} {idx L M : Nat} {a b sp dp n : Int} (hpq : pc + 3 = pq) (hd : decode y.2.2.1 pc = .ok (.invokestatic idx, 3)) (hM : am_lkM y.1 idx = none) (hX : am_lkX y.1 idx = some 3) (hA : am_kd a.toNat = (0, L)) (hB : am_kd b.toNat = (0, M)) (h0 : 0 ≤ a ∧ 0 ≤ b) (h1 : 0 ≤ sp ∧ 0 ≤ dp ∧ 0 ≤ n) (h2 : sp + n ≤ (L : Int)) (h3 : dp + n ≤ (M : Int)) (hr : (st.map fun v => v.category).sum ≤ 8) (K : Yr d y pq al st (cp h a sp b dp n) Q) : Yr d y pc al (vi n :: vi dp :: vr b :: vi sp :: vr a :: st) h Q := by
  subst hpq
  have ha := am_kd_lt (a := a.toNat) (by rw [hA]; exact (by decide : 0 < 99))
  have hb := am_kd_lt (a := b.toNat) (by rw [hB]; exact (by decide : 0 < 99))
  have hL : L ≤ 1200 := by have := (am_kd_in ha).2.1; rw [hA] at this; exact this
  have hM2 : M ≤ 1200 := by have := (am_kd_in hb).2.1; rw [hB] at this; exact this
  refine yr_stp hd rfl rfl (by simp only [am_inv, hM]) ?_ K
  simp only [am_stp, hX, vr, vi, sh_H, hA, hB]
  have g : ∀ z : Int, 0 ≤ z → z ≤ 1200 → ¬ Int32.ofInt z < 0 := by
    intro z q1 q2
    rw [show (0 : Int32) = Int32.ofInt 0 from rfl, z_lt (by omega) (by omega)]
    omega
  rw [if_pos]
  · rw [z_cl (by omega), z_cl (by omega), z_cl (by omega)]
    refine congrArg (fun q => some (pc + 3, al, st, (123, q))) ?_
    funext a' k'
    unfold am_cpy sh_e cp
    by_cases e : a' = b.toNat ∧ dp.toNat ≤ k' ∧ k' < dp.toNat + n.toNat
    · rw [if_pos e, sk_row hA, e.1, sk_row hB]
      simp only
      rw [if_pos ⟨by omega, by omega, by omega⟩]
      rw [show ((a.toNat : Nat) : Int) = a by omega, show ((sp.toNat + (k' - dp.toNat) : Nat) : Int) = sp + ((k' : Int) - dp) by omega]
    · rw [if_neg e]
      have e2 : ¬ ((a' : Int) = b ∧ dp ≤ (k' : Int) ∧ (k' : Int) < dp + n) := by
        intro q
        exact e ⟨by omega, by omega, by omega⟩
      simp only [if_neg e2]
  · refine ⟨ha, hb, trivial, trivial, g _ (by omega) (by omega), g _ (by omega) (by omega), g _ (by omega) (by omega), ?_, ?_, hr⟩
    · rw [z_cl (by omega), z_cl (by omega)]; omega
    · rw [z_cl (by omega), z_cl (by omega)]; omega

end YR
