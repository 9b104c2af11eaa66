/-! feed -/
theorem byt (x : BitVec 32) {n : Nat} (hn : n ≤ 24) : (x >>> n) &&& 255#32 = (x.sshiftRight n) &&& 255#32 := by
  apply BitVec.eq_of_getLsbD_eq
  intro i hi
  rw [BitVec.getLsbD_and, BitVec.getLsbD_and, BitVec.getLsbD_ushiftRight, BitVec.getLsbD_sshiftRight]
  by_cases h8 : i < 8
  · rw [if_pos (by omega)]
    have : decide (32 ≤ i) = false := decide_eq_false (by omega)
    rw [this]
    simp
  · have := (by decide +kernel : ∀ i : Fin 32, 8 ≤ i.val → (255#32).getLsbD i.val = false)
    rw [this ⟨i, hi⟩ (by simp only; omega)]
    simp
theorem byE {b : Int} {n : Nat} (hn : n = 0 ∨ n = 8 ∨ n = 16 ∨ n = 24) : ia (iu b (n : Int)) 255 = ia (ir b (n : Int)) 255 := by
  have h1 : (((Int32.ofInt (n : Int)).toUInt32 &&& Int32.toUInt32 31).toBitVec % 32).toNat = n := by
    rcases hn with rfl | rfl | rfl | rfl <;> decide +kernel
  have h2 : ((Int32.ofInt (n : Int) &&& 31).toBitVec.smod 32).toNat = n := by
    rcases hn with rfl | rfl | rfl | rfl <;> decide +kernel
  have e1 : ((Int32.ofInt b).toUInt32 >>> ((Int32.ofInt (n : Int)).toUInt32 &&& Int32.toUInt32 31)).toInt32.toBitVec = (Int32.ofInt b).toBitVec >>> n := by
    apply BitVec.eq_of_toNat_eq
    rw [pk_ushr (Int32.ofInt b) (Int32.ofInt (n : Int)) n h1, BitVec.toNat_ushiftRight, Nat.shiftRight_eq_div_pow]
  have e2 : (Int32.ofInt b >>> (Int32.ofInt (n : Int) &&& 31)).toBitVec = (Int32.ofInt b).toBitVec.sshiftRight n := by
    show (Int32.ofInt b).toBitVec.sshiftRight ((Int32.ofInt (n : Int) &&& 31).toBitVec.smod 32).toNat = _
    rw [h2]
  unfold ia
  have e3 : Int32.ofInt (iu b (n : Int)) &&& Int32.ofInt 255 = Int32.ofInt (ir b (n : Int)) &&& Int32.ofInt 255 := by
    unfold iu ir
    rw [Int32.ofInt_toInt, Int32.ofInt_toInt]
    apply Int32.toBitVec_inj.mp
    rw [Int32.toBitVec_and, Int32.toBitVec_and, e1, e2]
    exact byt _ (by omega)
  rw [e3]
theorem by_b (x : Int) : 0 ≤ ia x 255 ∧ ia x 255 ≤ 255 := by
  unfold ia
  have e : (Int32.ofInt x &&& Int32.ofInt 255).toBitVec.toNat ≤ 255 := by
    rw [Int32.toBitVec_and, BitVec.toNat_and]
    exact Nat.le_trans Nat.and_le_right (by decide)
  show 0 ≤ (Int32.ofInt x &&& Int32.ofInt 255).toBitVec.toInt ∧ (Int32.ofInt x &&& Int32.ofInt 255).toBitVec.toInt ≤ 255
  rw [BitVec.toInt_eq_toNat_of_lt (by omega)]
  omega
/-- the byte of a word that stands k ahead of its end -/
def byF8 (b k : Int) : Int := ia (ir b (8 * k)) 255
theorem byF8_u {b k : Int} (hk : 0 ≤ k ∧ k ≤ 3) : ia (iu b (8 * k)) 255 = byF8 b k := by
  have h4 : k = 0 ∨ k = 1 ∨ k = 2 ∨ k = 3 := by omega
  unfold byF8
  rcases h4 with e | e | e | e <;> subst e
  · exact byE (n := 0) (by decide)
  · exact byE (n := 8) (by decide)
  · exact byE (n := 16) (by decide)
  · exact byE (n := 24) (by decide)
section S23
variable {d : Nat} {h : hT} {K : Int → hT → Prop} {KV : hT → Prop}
theorem c_append {v : Int} (hs : 0 ≤ h 76 1 ∧ h 76 1 < 120) (k : KV (up (up h 77 (h 76 1) v) 76 1 (h 76 1 + 1))) : ClV (d + 1) mX0_append [vr 76, vi v] h KV := by
  refine cl_in (al := [vr 76, vi v]) rfl (Nat.le_of_ble_eq_true rfl) (by simp [vi_cat, vr_cat, vs_cat]) ?_
  refine yr_aload_n (pq := 1) rfl dX0_append_0 rfl ?_
  refine yr_getI (pq := 4) 1 rfl dX0_append_1 kF_0_15 (by decide) rfl (by decide) ?_
  refine yr_bipush (pq := 6) rfl dX0_append_4 rfl ?_
  refine yr_ic_ge (pq := 9) (t := 29) rfl dX0_append_6 rfl (by omega) (by omega) (fun q9 => absurd q9 (by omega)) (fun _ => ?_)
  refine yr_aload_n (pq := 10) rfl dX0_append_9 rfl ?_
  refine yr_getR (pq := 13) (b := 77) 0 rfl dX0_append_10 kF_0_9 (by decide) rfl ?_
  refine yr_aload_n (pq := 14) rfl dX0_append_13 rfl ?_
  refine yr_getI (pq := 17) 1 rfl dX0_append_14 kF_0_15 (by decide) rfl (by decide) ?_
  refine yr_iload_n (pq := 18) rfl dX0_append_17 rfl ?_
  refine yr_iast (pq := 19) rfl dX0_append_18 rfl (by decide) (by omega) ?_
  refine yr_aload_n (pq := 20) rfl dX0_append_19 rfl ?_
  refine yr_dup (pq := 21) rfl dX0_append_20 rfl ?_
  refine yr_getI (pq := 24) 1 rfl dX0_append_21 kF_0_15 (by decide) rfl (by decide) ?_
  refine yr_iconst (pq := 25) rfl dX0_append_24 ?_
  refine yr_iadd (pq := 26) rfl dX0_append_25 ?_
  refine yr_putI (pq := 29) 1 rfl dX0_append_26 kF_0_15 (by decide) rfl rfl (by decide) ?_
  rw [up_ne (show (76 : Int) ≠ 77 by decide)]
  exact yr_vret dX0_append_29 rfl (k)
theorem r_feed {b n t : Int} (hn : -2147483648 ≤ n ∧ n ≤ 2147483647) (et : h 108 16 = t) (ht : 0 ≤ t ∧ t ≤ 120) (k0 : ¬ (1 ≤ n ∧ n ≤ 4) → ∀ e, FD (-1000001) h e → K (-1000001) e) (k1 : (1 ≤ n ∧ n ≤ 4) → 120 < t + n → ∀ e, FD (-1000002) h e → K (-1000002) e)
    (k2 : (1 ≤ n ∧ n ≤ 4) → t + n ≤ 120 → ∀ e, (∀ a, a ≠ 108 → a ≠ 116 → e a = h a) → (∀ j, j ≠ 16 → e 108 j = h 108 j) → e 108 16 = t + n → LD (h 116) (e 116) (fun i => byF8 b (n - 1 - i)) t n → K (t + n) e) : ClI (d + 2) mX8_feed [vr 108, vi b, vi n] h K := by
  refine cl_in (al := [vr 108, vi b, vi n, .null]) rfl (Nat.le_of_ble_eq_true rfl) (by simp [vi_cat, vr_cat, vs_cat]) ?_
  refine yr_iload_n (pq := 1) rfl dX8_feed_0 rfl ?_
  refine yr_iconst (pq := 2) rfl dX8_feed_1 ?_
  refine yr_iconst (pq := 3) rfl dX8_feed_2 ?_
  refine yr_sI3 (pq := 6) rfl dX8_feed_3 kM_8_78 (by decide) cat0 (m_within hn (by decide) (by decide) (fun q1 => ?_) (fun q1 => ?_))
  · refine yr_if_ne (pq := 9) (t := 16) rfl dX8_feed_6 rfl (by decide) (fun _ => ?_) (fun q9 => absurd q9 (by decide))
    refine yr_aload_n (pq := 17) rfl dX8_feed_16 rfl ?_
    refine yr_getI (pq := 20) 16 rfl dX8_feed_17 kF_8_252 (by decide) rfl (by decide) ?_
    refine yr_iload_n (pq := 21) rfl dX8_feed_20 rfl ?_
    refine yr_iadd (pq := 22) rfl dX8_feed_21 ?_
    refine yr_bipush (pq := 24) rfl dX8_feed_22 rfl ?_
    rw [et]
    refine yr_ic_le (pq := 27) (t := 34) rfl dX8_feed_24 rfl (by omega) (by omega) (fun q2 => ?_) (fun q2 => ?_)
    · have key : ∀ (c : Nat) (m : Int) (g : hT), 0 ≤ m → m + c = n → (∀ a, a ≠ 108 → a ≠ 116 → g a = h a) → (∀ j, j ≠ 16 → g 108 j = h 108 j) → g 108 16 = t + m → LD (h 116) (g 116) (fun i => byF8 b (n - 1 - i)) t m → Yr (d + 1) mX8_feed 38 [vr 108, vi b, vi n, vi (n - 1 - m)] [] g (rI K) := by
        intro c
        induction c with
        | zero =>
          intro m g hm hc g0 g1 g2 g3
          have hm : m = n := by omega
          subst hm
          refine yr_iload_n (pq := 39) rfl dX8_feed_38 rfl ?_
          refine yr_if_lt (pq := 42) (t := 77) rfl dX8_feed_39 rfl (by omega) (fun _ => ?_) (fun q9 => absurd (by omega) q9)
          refine yr_aload_n (pq := 78) rfl dX8_feed_77 rfl ?_
          refine yr_getI (pq := 81) 16 rfl dX8_feed_78 kF_8_252 (by decide) rfl (by decide) ?_
          rw [g2]
          exact yr_iret dX8_feed_81 rfl (k2 q1 q2 g g0 g1 g2 g3)
        | succ c ih =>
          intro m g hm hc g0 g1 g2 g3
          refine yr_iload_n (pq := 39) rfl dX8_feed_38 rfl ?_
          refine yr_if_lt (pq := 42) (t := 77) rfl dX8_feed_39 rfl (by omega) (fun q9 => absurd q9 (by omega)) (fun _ => ?_)
          refine yr_aload_n (pq := 43) rfl dX8_feed_42 rfl ?_
          refine yr_getR (pq := 46) (b := 116) 15 rfl dX8_feed_43 kF_8_35 (by decide) rfl ?_
          refine yr_aload_n (pq := 47) rfl dX8_feed_46 rfl ?_
          refine yr_getI (pq := 50) 16 rfl dX8_feed_47 kF_8_252 (by decide) rfl (by decide) ?_
          refine yr_iload_n (pq := 51) rfl dX8_feed_50 rfl ?_
          refine yr_bipush (pq := 53) rfl dX8_feed_51 rfl ?_
          refine yr_iload_n (pq := 54) rfl dX8_feed_53 rfl ?_
          refine yr_imul (pq := 55) rfl dX8_feed_54 ?_
          refine yr_ishr (pq := 56) rfl dX8_feed_55 ?_
          refine yr_sipush (pq := 59) rfl dX8_feed_56 rfl ?_
          refine yr_iand (pq := 60) rfl dX8_feed_59 ?_
          rw [g2]
          refine yr_iast (pq := 61) rfl dX8_feed_60 rfl (by decide) (by omega) ?_
          refine yr_aload_n (pq := 62) rfl dX8_feed_61 rfl ?_
          refine yr_dup (pq := 63) rfl dX8_feed_62 rfl ?_
          refine yr_getI (pq := 66) 16 rfl dX8_feed_63 kF_8_252 (by decide) rfl (by decide) ?_
          refine yr_iconst (pq := 67) rfl dX8_feed_66 ?_
          refine yr_iadd (pq := 68) rfl dX8_feed_67 ?_
          refine yr_putI (pq := 71) 16 rfl dX8_feed_68 kF_8_252 (by decide) rfl rfl (by decide) ?_
          refine yr_iinc3 (pq := 74) rfl dX8_feed_71 ?_
          refine yr_goto (t := 38) dX8_feed_74 rfl ?_
          rw [up_ne (show (108 : Int) ≠ 116 by decide), g2]
          rw [show n - 1 - m + -1 = n - 1 - (m + 1) by omega]
          refine ih (m + 1) _ (by omega) (by omega) (fun a q1 q2 => by rw [up_ne q1, up_ne q2]; exact g0 a q1 q2) (fun j hj => by rw [up_k hj, up_ne (by decide)]; exact g1 j hj) (by rw [up_s]; omega) ?_
          rw [up_ne (by decide), up_row]
          exact LD_s g3 hm
      refine yr_iload_n (pq := 35) rfl dX8_feed_34 rfl ?_
      refine yr_iconst (pq := 36) rfl dX8_feed_35 ?_
      refine yr_isub (pq := 37) rfl dX8_feed_36 ?_
      refine yr_istore3 (pq := 38) rfl dX8_feed_37 ?_
      have := key n.toNat 0 h (by omega) (by omega) (fun _ _ _ => rfl) (fun _ _ => rfl) (by omega) ⟨fun j j0 j1 => by omega, fun _ _ => rfl⟩
      rw [Int.sub_zero] at this
      exact this
    · refine yr_aload_n (pq := 28) rfl dX8_feed_27 rfl ?_
      refine yr_ldc (pq := 30) rfl dX8_feed_28 kN_8_105 ?_
      refine yr_vI1 (pq := 33) rfl dX8_feed_30 kM_8_101 (by decide) (by decide) cat0 (r_fnd (by decide) (fun e hf => ?_))
      exact yr_iret dX8_feed_33 rfl (k1 q1 (by omega) e hf)
  · refine yr_if_ne (pq := 9) (t := 16) rfl dX8_feed_6 rfl (by decide) (fun q9 => absurd (by decide) q9) (fun _ => ?_)
    refine yr_aload_n (pq := 10) rfl dX8_feed_9 rfl ?_
    refine yr_ldc (pq := 12) rfl dX8_feed_10 kN_8_73 ?_
    refine yr_vI1 (pq := 15) rfl dX8_feed_12 kM_8_101 (by decide) (by decide) cat0 (r_fnd (by decide) (fun e hf => ?_))
    exact yr_iret dX8_feed_15 rfl (k0 q1 e hf)
theorem s_feed {b n : Int} (hI : Inv h) (hb : -2147483648 ≤ b ∧ b ≤ 2147483647) (hn : -2147483648 ≤ n ∧ n ≤ 2147483647) : Sm (d + 30) mX7_feed mX8_feed [vi b, vi n] h := by
  have hI0 := hI
  obtain ⟨-, -, -, -, ⟨i9, i9b, i9t⟩, -, i11⟩ := hI0
  show ClI (d + 30) mX7_feed [vr 0, vi b, vi n] h (SKn (d + 30) mX8_feed [vr 108, vi b, vi n])
  refine cl_in (al := [vr 0, vi b, vi n, .null]) rfl (Nat.le_of_ble_eq_true rfl) (by simp [vi_cat, vr_cat, vs_cat]) ?_
  refine yr_iload_n (pq := 1) rfl dX7_feed_0 rfl ?_
  refine yr_iconst (pq := 2) rfl dX7_feed_1 ?_
  refine yr_iconst (pq := 3) rfl dX7_feed_2 ?_
  refine yr_sI3 (pq := 6) rfl dX7_feed_3 kM_7_62 (by decide) cat0 (c_isIn hn (by decide) (by decide) (fun q1 => ?_) (fun q1 => ?_))
  · refine yr_if_ne (pq := 9) (t := 15) rfl dX7_feed_6 rfl (by decide) (fun _ => ?_) (fun q9 => absurd q9 (by decide))
    refine yr_aload_n (pq := 16) rfl dX7_feed_15 rfl ?_
    refine yr_getR (pq := 19) (b := 76) 5 rfl dX7_feed_16 kF_7_40 (by decide) rfl ?_
    refine yr_getI (pq := 22) 1 rfl dX7_feed_19 kF_7_254 (by decide) rfl (by decide) ?_
    refine yr_iload_n (pq := 23) rfl dX7_feed_22 rfl ?_
    refine yr_iadd (pq := 24) rfl dX7_feed_23 ?_
    refine yr_bipush (pq := 26) rfl dX7_feed_24 rfl ?_
    refine yr_ic_le (pq := 29) (t := 35) rfl dX7_feed_26 rfl (by omega) (by omega) (fun q2 => ?_) (fun q2 => ?_)
    · have fin : ∀ (g : hT), (∀ a, a ≠ 76 → a ≠ 77 → g a = h a) → (∀ j, j ≠ 1 → g 76 j = h 76 j) → g 76 1 = h 76 1 + n → LD (h 77) (g 77) (fun i => byF8 b (n - 1 - i)) (h 76 1) n → SKn (d + 30) mX8_feed [vr 108, vi b, vi n] (h 76 1 + n) g := by
        intro g g0 g1 g2 g3
        refine r_feed (t := h 76 1) hn (by rw [g0 108 (by decide) (by decide)]; exact i9.symm) i9b (fun q9 => absurd q1 q9) (fun _ q9 => absurd q9 (by omega)) (fun _ _ e e0 e1 e2 e3 => ⟨rfl, ?_⟩)
        rw [g0 116 (by decide) (by decide)] at e3
        refine Inv_taped hI (fun a a1 a2 a3 a4 => by rw [e0 a (by unfold CR at a1; omega) a4, g0 a a2 a3]) ?_ ?_ ?_ ?_ (fun i j0 j1 => ?_)
        · rw [e1 3 (by decide), g0 108 (by decide) (by decide)]
        · rw [e1 5 (by decide), g0 108 (by decide) (by decide)]
        · rw [e0 76 (by decide) (by decide), g2, e2]
        · rw [e0 76 (by decide) (by decide), g2]; omega
        · rw [e0 76 (by decide) (by decide), g2] at j1
          rw [e0 77 (by decide) (by decide)]
          by_cases q : i < h 76 1
          · rw [g3.2 i (by omega), e3.2 i (by omega)]; exact i9t i j0 q
          · rw [g3.1 i (by omega) (by omega), e3.1 i (by omega) (by omega)]
            exact ⟨rfl, by_b _⟩
      have key : ∀ (c : Nat) (m : Int) (g : hT), 0 ≤ m → m + c = n → (∀ a, a ≠ 76 → a ≠ 77 → g a = h a) → (∀ j, j ≠ 1 → g 76 j = h 76 j) → g 76 1 = h 76 1 + m → LD (h 77) (g 77) (fun i => byF8 b (n - 1 - i)) (h 76 1) m → Yr (d + 29) mX7_feed 39 [vr 0, vi b, vi n, vi (n - 1 - m)] [] g (rI (SKn (d + 30) mX8_feed [vr 108, vi b, vi n])) := by
        intro c
        induction c with
        | zero =>
          intro m g hm hc g0 g1 g2 g3
          have hm : m = n := by omega
          subst hm
          refine yr_iload_n (pq := 40) rfl dX7_feed_39 rfl ?_
          refine yr_if_lt (pq := 43) (t := 66) rfl dX7_feed_40 rfl (by omega) (fun _ => ?_) (fun q9 => absurd (by omega) q9)
          refine yr_aload_n (pq := 67) rfl dX7_feed_66 rfl ?_
          refine yr_getR (pq := 70) (b := 76) 5 rfl dX7_feed_67 kF_7_40 (by decide) rfl ?_
          refine yr_getI (pq := 73) 1 rfl dX7_feed_70 kF_7_254 (by decide) rfl (by decide) ?_
          rw [g2]
          exact yr_iret dX7_feed_73 rfl (fin g g0 g1 g2 g3)
        | succ c ih =>
          intro m g hm hc g0 g1 g2 g3
          refine yr_iload_n (pq := 40) rfl dX7_feed_39 rfl ?_
          refine yr_if_lt (pq := 43) (t := 66) rfl dX7_feed_40 rfl (by omega) (fun q9 => absurd q9 (by omega)) (fun _ => ?_)
          refine yr_aload_n (pq := 44) rfl dX7_feed_43 rfl ?_
          refine yr_getR (pq := 47) (b := 76) 5 rfl dX7_feed_44 kF_7_40 (by decide) rfl ?_
          refine yr_iload_n (pq := 48) rfl dX7_feed_47 rfl ?_
          refine yr_bipush (pq := 50) rfl dX7_feed_48 rfl ?_
          refine yr_iload_n (pq := 51) rfl dX7_feed_50 rfl ?_
          refine yr_imul (pq := 52) rfl dX7_feed_51 ?_
          refine yr_iushr (pq := 53) rfl dX7_feed_52 ?_
          refine yr_sipush (pq := 56) rfl dX7_feed_53 rfl ?_
          refine yr_iand (pq := 57) rfl dX7_feed_56 ?_
          rw [byF8_u (by omega)]
          refine yr_vV1 (pq := 60) rfl dX7_feed_57 kM_7_255 (by decide) (by decide) cat0 (c_append (by omega) ?_)
          refine yr_iinc3 (pq := 63) rfl dX7_feed_60 ?_
          refine yr_goto (t := 39) dX7_feed_63 rfl ?_
          rw [g2, show n - 1 - m + -1 = n - 1 - (m + 1) by omega]
          refine ih (m + 1) _ (by omega) (by omega) (fun a q1 q2 => by rw [up_ne q1, up_ne q2]; exact g0 a q1 q2) (fun j hj => by rw [up_k hj, up_ne (by decide)]; exact g1 j hj) (by rw [up_s]; omega) ?_
          rw [up_ne (by decide), up_row]
          exact LD_s g3 hm
      refine yr_iload_n (pq := 36) rfl dX7_feed_35 rfl ?_
      refine yr_iconst (pq := 37) rfl dX7_feed_36 ?_
      refine yr_isub (pq := 38) rfl dX7_feed_37 ?_
      refine yr_istore3 (pq := 39) rfl dX7_feed_38 ?_
      have := key n.toNat 0 h (by omega) (by omega) (fun _ _ _ => rfl) (fun _ _ => rfl) (by omega) ⟨fun j j0 j1 => by omega, fun _ _ => rfl⟩
      rw [Int.sub_zero] at this
      exact this
    · refine yr_aload_n (pq := 30) rfl dX7_feed_29 rfl ?_
      refine yr_iconst (pq := 31) rfl dX7_feed_30 ?_
      refine yr_vI1 (pq := 34) rfl dX7_feed_31 kM_7_66 (by decide) (by decide) cat0 (c_finding (by decide) ?_)
      exact yr_iret dX7_feed_34 rfl (r_feed (t := h 76 1) hn (by rw [up_ne (by decide)]; exact i9.symm) i9b (fun q9 => absurd q1 q9) (fun _ _ e hf => fd_end hI (by decide) (by decide) hf) (fun _ q9 => absurd q9 q2))
  · refine yr_if_ne (pq := 9) (t := 15) rfl dX7_feed_6 rfl (by decide) (fun q9 => absurd (by decide) q9) (fun _ => ?_)
    refine yr_aload_n (pq := 10) rfl dX7_feed_9 rfl ?_
    refine yr_iconst (pq := 11) rfl dX7_feed_10 ?_
    refine yr_vI1 (pq := 14) rfl dX7_feed_11 kM_7_66 (by decide) (by decide) cat0 (c_finding (by decide) ?_)
    exact yr_iret dX7_feed_14 rfl (r_feed (t := h 76 1) hn (by rw [up_ne (by decide)]; exact i9.symm) i9b (fun _ e hf => fd_end hI (by decide) (by decide) hf) (fun q9 => absurd q9 q1) (fun q9 => absurd q9 q1))
end S23
