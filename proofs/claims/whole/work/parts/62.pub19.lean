/-! day, year, wipe, hold, as -/
theorem Inv_saint {h e : hT} {M : Int → Int} (hI : Inv h) (e9 : e 109 = M) (lo : ∀ j, j < 44 ∨ 53 ≤ j → M j = h 109 j) (c : ∀ a, CR a → a ≠ 22 → a ≠ 23 → a ≠ 109 → e a = h a) (e8 : ∀ j, j = 3 ∨ j = 5 ∨ j = 16 → e 108 j = h 108 j)
    (g : e 23 0 = M 45 ∧ e 23 1 = M 46 ∧ e 23 2 = M 47 ∧ e 23 3 = M 48) (s1 : e 22 1 = M 44) (s2 : e 22 2 = M 49) (s3 : e 22 3 = M 50) (s4 : e 22 4 = M 51) (s5 : e 22 5 = M 52) (hS : okS M) (hm : M 50 ≤ 999) : Inv e := by
  have hI0 := hI
  obtain ⟨⟨⟨r0, r1, r2, r3, r4, r5, r6, r7, r8⟩, i2, i3, i3'⟩, -, -, -, -, -, i11⟩ := hI0
  have hO : okT M := okT_row i2 (fun j hj => lo j (by omega))
  have cr : ∀ a, (0 ≤ a ∧ a ≤ 6) ∨ (8 ≤ a ∧ a ≤ 21) ∨ a = 24 → e a = h a := fun a ha => c a (by unfold CR; omega) (by omega) (by omega) (by omega)
  refine Inv_row hI ?_ (by rw [e9]; exact hO) (by rw [e9]; exact hS) (by rw [e9]; exact hm) (fun a q1 q2 q3 => c a q1 (by omega) (by omega) q3) (e8 3 (by omega)) (e8 5 (by omega)) (e8 16 (by omega))
  rw [e9]
  refine ⟨RT_row (N := h 109) (RT_cong r0 i2 (fun j j0 j1 j2 => cr _ (by omega))) (fun j hj => lo j (by omega)), g, s1, s2, s3, s4, s5, fun t t0 t1 => ?_, ?_⟩
  · rw [cr 24 (by omega), lo _ (by omega)]; exact r7 t t0 t1
  · rw [cr 1 (by omega), lo 9 (by omega)]; exact r8
def dayN (N : Int → Int) : Int → Int := ur (ur (ur N 50 0) 49 0) 51 0
theorem dayN_o {N : Int → Int} {j : Int} (q : j ≠ 49 ∧ j ≠ 50 ∧ j ≠ 51) : dayN N j = N j := by
  unfold dayN
  rw [ur_o (by omega), ur_o (by omega), ur_o (by omega)]
theorem dayN_49 (N : Int → Int) : dayN N 49 = 0 := by unfold dayN; rw [ur_o (by decide), ur_s]
theorem dayN_50 (N : Int → Int) : dayN N 50 = 0 := by unfold dayN; rw [ur_o (by decide), ur_o (by decide), ur_s]
theorem dayN_51 (N : Int → Int) : dayN N 51 = 0 := by unfold dayN; rw [ur_s]
theorem dayN_S {N : Int → Int} (h1 : 0 ≤ N 44 ∧ N 44 ≤ 1) (h5 : 0 ≤ N 45 ∧ 0 ≤ N 46 ∧ 0 ≤ N 47 ∧ 0 ≤ N 48 ∧ max (N 45) 9999 + max (N 46) 9999 + max (N 47) 9999 + max (N 48) 9999 ≤ 99999) (h6 : ∀ s, 0 ≤ s → s < 10 → -1 ≤ N (10 + s) ∧ N (10 + s) < N 8) : okS (dayN N) := by
  unfold okS
  rw [dayN_49, dayN_50, dayN_51, dayN_o (j := 44) (by decide), dayN_o (j := 45) (by decide), dayN_o (j := 46) (by decide), dayN_o (j := 47) (by decide), dayN_o (j := 48) (by decide), dayN_o (j := 8) (by decide)]
  exact ⟨h1, by decide, by decide, by decide, h5, fun s s0 s1 => by rw [dayN_o (by omega)]; exact h6 s s0 s1⟩
def yrT (N : Int → Int) : Int → Int := ur (ur (ur (ur N 45 (totF N / 10)) 46 (2 * totF N / 10)) 47 (2 * totF N / 10)) 48 (totF N - totF N / 10 - 2 * totF N / 10 - 2 * totF N / 10)
theorem yrT_o {N : Int → Int} {j : Int} (q : j < 45 ∨ 48 < j) : yrT N j = N j := by
  unfold yrT
  rw [ur_o (by omega), ur_o (by omega), ur_o (by omega), ur_o (by omega)]
theorem yrT_p (N : Int → Int) : yrT N 45 = totF N / 10 ∧ yrT N 46 = 2 * totF N / 10 ∧ yrT N 47 = 2 * totF N / 10 ∧ yrT N 48 = totF N - totF N / 10 - 2 * totF N / 10 - 2 * totF N / 10 := by
  unfold yrT
  refine ⟨?_, ?_, ?_, ?_⟩
  · rw [ur_o (by decide), ur_o (by decide), ur_o (by decide), ur_s]
  · rw [ur_o (by decide), ur_o (by decide), ur_s]
  · rw [ur_o (by decide), ur_s]
  · rw [ur_s]
section S19
variable {d : Nat} {h : hT} {K : Int → hT → Prop}
theorem m_day {N : Int → Int} {n : Nat} (e9 : h 109 = N) (hn : N 51 = (n : Int)) (hb : n ≤ 15) (k : ∀ e, (∀ b, b ≠ 109 → e b = h b) → e 109 = dayN N → K ((pcF n : Nat) : Int) e) : ClI (d + 2) mX8_day [vr 108] h K := by
  subst e9
  refine cl_in (al := [vr 108]) rfl (Nat.le_of_ble_eq_true rfl) (by simp [vi_cat, vr_cat, vs_cat]) ?_
  refine yr_aload_n (pq := 1) rfl dX8_day_0 rfl ?_
  refine yr_getR (pq := 4) (b := 109) 0 rfl dX8_day_1 kF_8_9 (by decide) rfl ?_
  refine yr_bipush (pq := 6) rfl dX8_day_4 rfl ?_
  refine yr_iconst (pq := 7) rfl dX8_day_6 ?_
  refine yr_iast (pq := 8) rfl dX8_day_7 rfl (by decide) (by omega) ?_
  refine yr_aload_n (pq := 9) rfl dX8_day_8 rfl ?_
  refine yr_getR (pq := 12) (b := 109) 0 rfl dX8_day_9 kF_8_9 (by decide) rfl ?_
  refine yr_bipush (pq := 14) rfl dX8_day_12 rfl ?_
  refine yr_iconst (pq := 15) rfl dX8_day_14 ?_
  refine yr_iast (pq := 16) rfl dX8_day_15 rfl (by decide) (by omega) ?_
  refine yr_aload_n (pq := 17) rfl dX8_day_16 rfl ?_
  refine yr_bipush (pq := 19) rfl dX8_day_17 rfl ?_
  refine yr_iconst (pq := 20) rfl dX8_day_19 ?_
  refine yr_vI2 (pq := 23) rfl dX8_day_20 kM_8_129 (by decide) (by decide) cat0 (m_become (by decide) ?_)
  simp (disch := omega) only [up_o, up_k, up_s]
  rw [hn]
  refine yr_sI1 (pq := 26) rfl dX8_day_23 kM_8_164 (by decide) cat0 (m_bits (by omega) ?_)
  exact yr_iret dX8_day_26 rfl (k _ (fun b hb => by rw [up_ne hb, up_ne hb, up_ne hb]) (by rw [up_row, up_row, up_row]; rfl))
theorem s_day (hI : Inv h) : Sm (d + 30) mX7_day mX8_day [] h := by
  have hI0 := hI
  obtain ⟨⟨i1, i2, i3, i3'⟩, -, -, -, -, -, i11⟩ := hI0
  obtain ⟨a1, a2, a3, a4, a5, a6⟩ := i3
  obtain ⟨n, hn⟩ := Int.eq_ofNat_of_zero_le a4.1
  show ClI (d + 30) mX7_day [vr 0] h (SKn (d + 30) mX8_day [vr 108])
  refine cl_in (al := [vr 0, .null]) rfl (Nat.le_of_ble_eq_true rfl) (by simp [vi_cat, vr_cat, vs_cat]) ?_
  refine yr_aload_n (pq := 1) rfl dX7_day_0 rfl ?_
  refine yr_getR (pq := 4) (b := 1) 0 rfl dX7_day_1 kF_7_10 (by decide) rfl ?_
  refine yr_getR (pq := 7) (b := 22) 1 rfl dX7_day_4 kF_7_135 (by decide) rfl ?_
  refine yr_getI (pq := 10) 4 rfl dX7_day_7 kF_7_166 (by decide) rfl (by decide) ?_
  rw [i1.2.2.2.2.2.1, hn]
  refine yr_sI1 (pq := 13) rfl dX7_day_10 kM_7_178 (by decide) cat0 (j_bitCount (by omega) ?_)
  refine yr_istore1 (pq := 14) rfl dX7_day_13 ?_
  refine yr_aload_n (pq := 15) rfl dX7_day_14 rfl ?_
  refine yr_getR (pq := 18) (b := 1) 0 rfl dX7_day_15 kF_7_10 (by decide) rfl ?_
  refine yr_getR (pq := 21) (b := 22) 1 rfl dX7_day_18 kF_7_135 (by decide) rfl ?_
  refine yr_vV0 (pq := 24) rfl dX7_day_21 kM_7_183 (by decide) (by decide) cat0 (c_beginDay (fun f f0 f1 f2 f3 f4 f5 => ?_))
  refine yr_iload_n (pq := 25) rfl dX7_day_24 rfl ?_
  refine yr_iret dX7_day_25 rfl ?_
  have e9 : f 109 = h 109 := f0 109 (by decide)
  refine m_day (N := h 109) e9 hn (by omega) (fun e e0 e1 => ⟨rfl, ?_⟩)
  refine Inv_saint hI e1 (fun j hj => dayN_o (by omega)) (fun a q1 q2 q3 q4 => by rw [e0 a q4, f0 a q2]) (fun j _ => by rw [e0 108 (by decide), f0 108 (by decide)]) ?_ ?_ ?_ ?_ ?_ ?_ (dayN_S a1 a5 a6) (by rw [dayN_50]; decide)
  · rw [e0 23 (by decide), f0 23 (by decide), dayN_o (j := 45) (by decide), dayN_o (j := 46) (by decide), dayN_o (j := 47) (by decide), dayN_o (j := 48) (by decide)]; exact i1.2.1
  · rw [e0 22 (by decide), f1, dayN_o (by decide)]; exact i1.2.2.1
  · rw [e0 22 (by decide), f2, dayN_49]
  · rw [e0 22 (by decide), f3, dayN_50]
  · rw [e0 22 (by decide), f4, dayN_51]
  · rw [e0 22 (by decide), f5, dayN_o (by decide)]; exact i1.2.2.2.2.2.2.1
theorem m_year {N : Int → Int} {n : Nat} (e9 : h 109 = N) (hn : N 51 = (n : Int)) (hb : n ≤ 15) (ht : 0 ≤ totF N ∧ totF N ≤ 100000) (k : ∀ e, (∀ b, b ≠ 109 → e b = h b) → e 109 = dayN (yrT N) → K (totF N) e) : ClI (d + 3) mX8_year [vr 108] h K := by
  subst e9
  have hp := pcF_b n
  refine cl_in (al := [vr 108, .null, .null]) rfl (Nat.le_of_ble_eq_true rfl) (by simp [vi_cat, vr_cat, vs_cat]) ?_
  refine yr_aload_n (pq := 1) rfl dX8_year_0 rfl ?_
  refine yr_vI0 (pq := 4) rfl dX8_year_1 kM_8_145 (by decide) (by decide) cat0 (m_allGrains ?_)
  refine yr_istore1 (pq := 5) rfl dX8_year_4 ?_
  refine yr_aload_n (pq := 6) rfl dX8_year_5 rfl ?_
  refine yr_getR (pq := 9) (b := 109) 0 rfl dX8_year_6 kF_8_9 (by decide) rfl ?_
  refine yr_bipush (pq := 11) rfl dX8_year_9 rfl ?_
  refine yr_iload_n (pq := 12) rfl dX8_year_11 rfl ?_
  refine yr_bipush (pq := 14) rfl dX8_year_12 rfl ?_
  refine yr_idiv (pq := 15) rfl dX8_year_14 (by omega) (by omega) ?_
  refine yr_iast (pq := 16) rfl dX8_year_15 rfl (by decide) (by omega) ?_
  refine yr_aload_n (pq := 17) rfl dX8_year_16 rfl ?_
  refine yr_getR (pq := 20) (b := 109) 0 rfl dX8_year_17 kF_8_9 (by decide) rfl ?_
  refine yr_bipush (pq := 22) rfl dX8_year_20 rfl ?_
  refine yr_iconst (pq := 23) rfl dX8_year_22 ?_
  refine yr_iload_n (pq := 24) rfl dX8_year_23 rfl ?_
  refine yr_imul (pq := 25) rfl dX8_year_24 ?_
  refine yr_bipush (pq := 27) rfl dX8_year_25 rfl ?_
  refine yr_idiv (pq := 28) rfl dX8_year_27 (by omega) (by omega) ?_
  refine yr_iast (pq := 29) rfl dX8_year_28 rfl (by decide) (by omega) ?_
  refine yr_aload_n (pq := 30) rfl dX8_year_29 rfl ?_
  refine yr_getR (pq := 33) (b := 109) 0 rfl dX8_year_30 kF_8_9 (by decide) rfl ?_
  refine yr_bipush (pq := 35) rfl dX8_year_33 rfl ?_
  refine yr_iconst (pq := 36) rfl dX8_year_35 ?_
  refine yr_iload_n (pq := 37) rfl dX8_year_36 rfl ?_
  refine yr_imul (pq := 38) rfl dX8_year_37 ?_
  refine yr_bipush (pq := 40) rfl dX8_year_38 rfl ?_
  refine yr_idiv (pq := 41) rfl dX8_year_40 (by omega) (by omega) ?_
  refine yr_iast (pq := 42) rfl dX8_year_41 rfl (by decide) (by omega) ?_
  refine yr_aload_n (pq := 43) rfl dX8_year_42 rfl ?_
  refine yr_getR (pq := 46) (b := 109) 0 rfl dX8_year_43 kF_8_9 (by decide) rfl ?_
  refine yr_bipush (pq := 48) rfl dX8_year_46 rfl ?_
  refine yr_iload_n (pq := 49) rfl dX8_year_48 rfl ?_
  refine yr_aload_n (pq := 50) rfl dX8_year_49 rfl ?_
  refine yr_getR (pq := 53) (b := 109) 0 rfl dX8_year_50 kF_8_9 (by decide) rfl ?_
  refine yr_bipush (pq := 55) rfl dX8_year_53 rfl ?_
  refine yr_iald (pq := 56) rfl dX8_year_55 rfl (by decide) (by omega) ?_
  refine yr_isub (pq := 57) rfl dX8_year_56 ?_
  refine yr_aload_n (pq := 58) rfl dX8_year_57 rfl ?_
  refine yr_getR (pq := 61) (b := 109) 0 rfl dX8_year_58 kF_8_9 (by decide) rfl ?_
  refine yr_bipush (pq := 63) rfl dX8_year_61 rfl ?_
  refine yr_iald (pq := 64) rfl dX8_year_63 rfl (by decide) (by omega) ?_
  refine yr_isub (pq := 65) rfl dX8_year_64 ?_
  refine yr_aload_n (pq := 66) rfl dX8_year_65 rfl ?_
  refine yr_getR (pq := 69) (b := 109) 0 rfl dX8_year_66 kF_8_9 (by decide) rfl ?_
  refine yr_bipush (pq := 71) rfl dX8_year_69 rfl ?_
  refine yr_iald (pq := 72) rfl dX8_year_71 rfl (by decide) (by omega) ?_
  refine yr_isub (pq := 73) rfl dX8_year_72 ?_
  refine yr_iast (pq := 74) rfl dX8_year_73 rfl (by decide) (by omega) ?_
  refine yr_aload_n (pq := 75) rfl dX8_year_74 rfl ?_
  simp (disch := omega) only [up_o, up_k, up_s]
  refine yr_vI0 (pq := 78) rfl dX8_year_75 kM_8_249 (by decide) (by decide) cat0 (m_day (N := yrT (h 109)) (by rw [up_row, up_row, up_row, up_row]; rfl) (by rw [yrT_o (by omega)]; exact hn) hb (fun e e0 e1 => ?_))
  refine yr_istore2 (pq := 79) rfl dX8_year_78 ?_
  refine yr_iload_n (pq := 80) rfl dX8_year_79 rfl ?_
  refine yr_if_ge (pq := 83) (t := 87) rfl dX8_year_80 rfl (by omega) (fun _ => ?_) (fun q9 => absurd (by omega) q9)
  refine yr_iload_n (pq := 88) rfl dX8_year_87 rfl ?_
  exact yr_iret dX8_year_88 rfl (k e (fun b hb => by rw [e0 b hb, up_ne hb, up_ne hb, up_ne hb, up_ne hb]) e1)
theorem s_year (hI : Inv h) : Sm (d + 30) mX7_year mX8_year [] h := by
  have hI0 := hI
  obtain ⟨⟨i1, i2, i3, i3'⟩, -, -, -, -, -, i11⟩ := hI0
  obtain ⟨a1, a2, a3, a4, a5, a6⟩ := i3
  obtain ⟨n, hn⟩ := Int.eq_ofNat_of_zero_le a4.1
  have ht : 0 ≤ totF (h 109) ∧ totF (h 109) ≤ 99999 := by unfold totF; omega
  obtain ⟨p0, p1, p2, p3⟩ := yrT_p (h 109)
  have e2 : totF (h 109) * 2 / 10 = 2 * totF (h 109) / 10 := by omega
  show ClI (d + 30) mX7_year [vr 0] h (SKn (d + 30) mX8_year [vr 108])
  refine cl_in (al := [vr 0]) rfl (Nat.le_of_ble_eq_true rfl) (by simp [vi_cat, vr_cat, vs_cat]) ?_
  refine yr_aload_n (pq := 1) rfl dX7_year_0 rfl ?_
  refine yr_getR (pq := 4) (b := 1) 0 rfl dX7_year_1 kF_7_10 (by decide) rfl ?_
  refine yr_getR (pq := 7) (b := 22) 1 rfl dX7_year_4 kF_7_135 (by decide) rfl ?_
  refine yr_vV0 (pq := 10) rfl dX7_year_7 kM_7_248 (by decide) (by decide) cat0 (c_remake (N := h 109) i1.2.1 (by omega) (fun g g0 g1 g2 g3 g4 => ?_))
  refine yr_aload_n (pq := 11) rfl dX7_year_10 rfl ?_
  refine yr_getR (pq := 14) (b := 1) 0 rfl dX7_year_11 kF_7_10 (by decide) rfl ?_
  refine yr_getR (pq := 17) (b := 22) 1 rfl dX7_year_14 kF_7_135 (by decide) rfl ?_
  refine yr_vV0 (pq := 20) rfl dX7_year_17 kM_7_183 (by decide) (by decide) cat0 (c_beginDay (fun f f0 f1 f2 f3 f4 f5 => ?_))
  have fg : f 23 0 = yrT (h 109) 45 ∧ f 23 1 = yrT (h 109) 46 ∧ f 23 2 = yrT (h 109) 47 ∧ f 23 3 = yrT (h 109) 48 := by
    rw [f0 23 (by decide), g1, g2, g3, g4, p0, p1, p2, p3, e2]
    exact ⟨rfl, rfl, rfl, rfl⟩
  have et : totF (yrT (h 109)) = totF (h 109) := by
    show yrT (h 109) 45 + yrT (h 109) 46 + yrT (h 109) 47 + yrT (h 109) 48 = totF (h 109)
    rw [p0, p1, p2, p3]; omega
  refine yr_aload_n (pq := 21) rfl dX7_year_20 rfl ?_
  refine yr_getR (pq := 24) (b := 1) 0 rfl dX7_year_21 kF_7_10 (by decide) rfl ?_
  refine yr_getR (pq := 27) (b := 22) 1 rfl dX7_year_24 kF_7_135 (by decide) rfl ?_
  refine yr_vI0 (pq := 30) rfl dX7_year_27 kM_7_157 (by decide) (by decide) cat0 (c_total (N := yrT (h 109)) fg ?_)
  rw [et]
  refine yr_iret dX7_year_30 rfl ?_
  have e9 : f 109 = h 109 := by rw [f0 109 (by decide), g0 109 (by decide)]
  refine m_year (N := h 109) e9 hn (by omega) (by omega) (fun e e0 e1 => ⟨rfl, ?_⟩)
  refine Inv_saint hI e1 (fun j hj => by rw [dayN_o (by omega), yrT_o (by omega)]) (fun a q1 q2 q3 q4 => by rw [e0 a q4, f0 a q2, g0 a q3]) (fun j _ => by rw [e0 108 (by decide), f0 108 (by decide), g0 108 (by decide)]) ?_ ?_ ?_ ?_ ?_ ?_ ?_ (by rw [dayN_50]; decide)
  · rw [e0 23 (by decide), dayN_o (j := 45) (by decide), dayN_o (j := 46) (by decide), dayN_o (j := 47) (by decide), dayN_o (j := 48) (by decide)]; exact fg
  · rw [e0 22 (by decide), f1, g0 22 (by decide), dayN_o (by decide), yrT_o (by decide)]; exact i1.2.2.1
  · rw [e0 22 (by decide), f2, dayN_49]
  · rw [e0 22 (by decide), f3, dayN_50]
  · rw [e0 22 (by decide), f4, dayN_51]
  · rw [e0 22 (by decide), f5, g0 22 (by decide), dayN_o (by decide), yrT_o (by decide)]; exact i1.2.2.2.2.2.2.1
  · refine dayN_S (by rw [yrT_o (by decide)]; exact a1) ?_ (fun s s0 s1 => by rw [yrT_o (by omega), yrT_o (j := 8) (by omega)]; exact a6 s s0 s1)
    rw [p0, p1, p2, p3]
    omega
theorem Inv_taped {h e : hT} (hI : Inv h) (c : ∀ a, CR a → a ≠ 76 → a ≠ 77 → a ≠ 116 → e a = h a) (e3 : e 108 3 = h 108 3) (e5 : e 108 5 = h 108 5) (e16 : e 76 1 = e 108 16) (b : 0 ≤ e 76 1 ∧ e 76 1 ≤ 120) (t : ∀ i, 0 ≤ i → i < e 76 1 → e 77 i = e 116 i ∧ 0 ≤ e 77 i ∧ e 77 i ≤ 255) : Inv e := by
  have key : Inv (fun a => if a = 76 then h 76 else if a = 77 then h 77 else if a = 116 then h 116 else if a = 108 then h 108 else e a) := by
    refine Inv_fr hI (fun a ha => ?_) rfl rfl rfl
    by_cases q : a = 76
    · subst q; rfl
    · by_cases q2 : a = 77
      · subst q2; rfl
      · by_cases q3 : a = 116
        · subst q3; rfl
        · have q4 : a ≠ 108 := by unfold CR at ha; omega
          simp only [if_neg q, if_neg q2, if_neg q3, if_neg q4]; exact c a ha q q2 q3
  obtain ⟨⟨k1, k2, k3⟩, ⟨k4, k5, k6⟩, k7, k8, -, k10, k11⟩ := key
  have w : ∀ a : Int, (a < 76 ∨ 117 ≤ a ∨ (78 ≤ a ∧ a < 108) ∨ (109 ≤ a ∧ a < 116)) → (if a = 76 then h 76 else if a = 77 then h 77 else if a = 116 then h 116 else if a = 108 then h 108 else e a) = e a := fun a ha => by
    rw [if_neg (by omega), if_neg (by omega), if_neg (by omega), if_neg (by omega)]
  refine ⟨⟨RS1_fr k1 k2 (fun a ha => (w a (by omega)).symm), k2, k3⟩, ⟨?_, k5, fun q => ?_⟩, k7, k8, ⟨e16, b, t⟩, fun s s0 s1 => shI_fr (k10 s s0 s1) s0 s1 (fun a ha => (w a (by omega)).symm), ?_⟩
  · rw [e3]; exact k4
  · obtain ⟨j1, j2, j3⟩ := k6 q
    exact ⟨RS2_fr j1 j2 (fun a ha => (w a (by omega)).symm), j2, j3⟩
  · rw [e5]; exact k11
theorem s_wipe (hI : Inv h) : Sm (d + 30) mX7_wipe mX8_wipe [] h := by
  have hI0 := hI
  obtain ⟨-, -, -, -, i9, -, i11⟩ := hI0
  show ClI (d + 30) mX7_wipe [vr 0] h (SKn (d + 30) mX8_wipe [vr 108])
  refine cl_in (al := [vr 0, .null]) rfl (Nat.le_of_ble_eq_true rfl) (by simp [vi_cat, vr_cat, vs_cat]) ?_
  refine yr_aload_n (pq := 1) rfl dX7_wipe_0 rfl ?_
  refine yr_getR (pq := 4) (b := 76) 5 rfl dX7_wipe_1 kF_7_40 (by decide) rfl ?_
  refine yr_getI (pq := 7) 1 rfl dX7_wipe_4 kF_7_254 (by decide) rfl (by decide) ?_
  refine yr_istore1 (pq := 8) rfl dX7_wipe_7 ?_
  refine yr_aload_n (pq := 9) rfl dX7_wipe_8 rfl ?_
  refine yr_getR (pq := 12) (b := 76) 5 rfl dX7_wipe_9 kF_7_40 (by decide) rfl ?_
  refine yr_iconst (pq := 13) rfl dX7_wipe_12 ?_
  refine yr_putI (pq := 16) 1 rfl dX7_wipe_13 kF_7_254 (by decide) rfl rfl (by decide) ?_
  refine yr_iload_n (pq := 17) rfl dX7_wipe_16 rfl ?_
  refine yr_iret dX7_wipe_17 rfl ?_
  show ClI (d + 30) mX8_wipe [vr 108] _ _
  refine cl_in (al := [vr 108, .null]) rfl (Nat.le_of_ble_eq_true rfl) (by simp [vi_cat, vr_cat, vs_cat]) ?_
  refine yr_aload_n (pq := 1) rfl dX8_wipe_0 rfl ?_
  refine yr_getI (pq := 4) 16 rfl dX8_wipe_1 kF_8_252 (by decide) rfl (by decide) ?_
  refine yr_istore1 (pq := 5) rfl dX8_wipe_4 ?_
  refine yr_aload_n (pq := 6) rfl dX8_wipe_5 rfl ?_
  refine yr_iconst (pq := 7) rfl dX8_wipe_6 ?_
  refine yr_putI (pq := 10) 16 rfl dX8_wipe_7 kF_8_252 (by decide) rfl rfl (by decide) ?_
  refine yr_iload_n (pq := 11) rfl dX8_wipe_10 rfl ?_
  refine yr_iret dX8_wipe_11 rfl ?_
  refine ⟨by rw [up_ne (by decide)]; exact i9.1.symm, Inv_taped hI (fun a q1 q2 q3 q4 => ?_) ?_ ?_ ?_ ?_ (fun i j0 j1 => ?_)⟩
  · rw [up_ne (by unfold CR at q1; omega), up_ne q2]
  · rw [up_k (by decide), up_ne (by decide)]
  · rw [up_k (by decide), up_ne (by decide)]
  · rw [up_ne (by decide), up_s, up_s]
  · rw [up_ne (by decide), up_s]; decide
  · rw [up_ne (by decide), up_s] at j1; omega
theorem r_hold {p s : Int} {N : Int → Int} (hB : RB h N) (hO : okT N) (hp : -2147483648 ≤ p ∧ p ≤ 2147483647) (hs : -2147483648 ≤ s ∧ s ≤ 2147483647) (k0 : ¬ ((0 ≤ p ∧ p ≤ 9) ∧ (s = -1 ∨ (0 ≤ s ∧ s < N 8))) → ∀ e, FD (-1000001) h e → K (-1000001) e)
    (k1 : (0 ≤ p ∧ p ≤ 9) → (s = -1 ∨ (0 ≤ s ∧ s < N 8)) → K 1 (up h 109 (10 + p) s)) : ClI (d + 3) mX8_hold [vr 108, vi p, vi s] h K := by
  obtain ⟨e9, -⟩ := hB
  subst e9
  refine cl_in (al := [vr 108, vi p, vi s]) rfl (Nat.le_of_ble_eq_true rfl) (by simp [vi_cat, vr_cat, vs_cat]) ?_
  refine yr_iload_n (pq := 1) rfl dX8_hold_0 rfl ?_
  refine yr_sI1 (pq := 4) rfl dX8_hold_1 kM_8_336 (by decide) cat0 (m_isSpot hp (fun q1 => ?_) (fun q1 => ?_))
  · refine yr_if_eq (pq := 7) (t := 20) rfl dX8_hold_4 rfl (by decide) (fun q9 => absurd q9 (by decide)) (fun _ => ?_)
    refine yr_iload_n (pq := 8) rfl dX8_hold_7 rfl ?_
    refine yr_iconst (pq := 9) rfl dX8_hold_8 ?_
    refine yr_ic_eq (pq := 12) (t := 27) rfl dX8_hold_9 rfl (by omega) (by omega) (fun q2 => ?_) (fun q2 => ?_)
    · refine yr_aload_n (pq := 28) rfl dX8_hold_27 rfl ?_
      refine yr_getR (pq := 31) (b := 109) 0 rfl dX8_hold_28 kF_8_9 (by decide) rfl ?_
      refine yr_bipush (pq := 33) rfl dX8_hold_31 rfl ?_
      refine yr_iload_n (pq := 34) rfl dX8_hold_33 rfl ?_
      refine yr_iadd (pq := 35) rfl dX8_hold_34 ?_
      refine yr_iload_n (pq := 36) rfl dX8_hold_35 rfl ?_
      refine yr_iast (pq := 37) rfl dX8_hold_36 rfl (by decide) (by omega) ?_
      refine yr_iconst (pq := 38) rfl dX8_hold_37 ?_
      exact yr_iret dX8_hold_38 rfl (k1 q1 (Or.inl q2))
    · refine yr_aload_n (pq := 13) rfl dX8_hold_12 rfl ?_
      refine yr_iload_n (pq := 14) rfl dX8_hold_13 rfl ?_
      refine yr_vI1 (pq := 17) rfl dX8_hold_14 kM_8_123 (by decide) (by decide) cat0 (m_isStreet hs hO.1 (fun q3 => ?_) (fun q3 => ?_))
      · refine yr_if_ne (pq := 20) (t := 27) rfl dX8_hold_17 rfl (by decide) (fun _ => ?_) (fun q9 => absurd q9 (by decide))
        refine yr_aload_n (pq := 28) rfl dX8_hold_27 rfl ?_
        refine yr_getR (pq := 31) (b := 109) 0 rfl dX8_hold_28 kF_8_9 (by decide) rfl ?_
        refine yr_bipush (pq := 33) rfl dX8_hold_31 rfl ?_
        refine yr_iload_n (pq := 34) rfl dX8_hold_33 rfl ?_
        refine yr_iadd (pq := 35) rfl dX8_hold_34 ?_
        refine yr_iload_n (pq := 36) rfl dX8_hold_35 rfl ?_
        refine yr_iast (pq := 37) rfl dX8_hold_36 rfl (by decide) (by omega) ?_
        refine yr_iconst (pq := 38) rfl dX8_hold_37 ?_
        exact yr_iret dX8_hold_38 rfl (k1 q1 (Or.inr q3))
      · refine yr_if_ne (pq := 20) (t := 27) rfl dX8_hold_17 rfl (by decide) (fun q9 => absurd (by decide) q9) (fun _ => ?_)
        refine yr_aload_n (pq := 21) rfl dX8_hold_20 rfl ?_
        refine yr_ldc (pq := 23) rfl dX8_hold_21 kN_8_73 ?_
        refine yr_vI1 (pq := 26) rfl dX8_hold_23 kM_8_101 (by decide) (by decide) cat0 (r_fnd (by decide) (fun e hf => ?_))
        exact yr_iret dX8_hold_26 rfl (k0 (by omega) e hf)
  · refine yr_if_eq (pq := 7) (t := 20) rfl dX8_hold_4 rfl (by decide) (fun _ => ?_) (fun q9 => absurd (by decide) q9)
    refine yr_aload_n (pq := 21) rfl dX8_hold_20 rfl ?_
    refine yr_ldc (pq := 23) rfl dX8_hold_21 kN_8_73 ?_
    refine yr_vI1 (pq := 26) rfl dX8_hold_23 kM_8_101 (by decide) (by decide) cat0 (r_fnd (by decide) (fun e hf => ?_))
    exact yr_iret dX8_hold_26 rfl (k0 (by omega) e hf)
theorem s_hold {p s : Int} (hI : Inv h) (hp : -2147483648 ≤ p ∧ p ≤ 2147483647) (hs : -2147483648 ≤ s ∧ s ≤ 2147483647) : Sm (d + 30) mX7_hold mX8_hold [vi p, vi s] h := by
  have hI0 := hI
  obtain ⟨⟨i1, i2, i3, i3'⟩, -, -, -, -, -, i11⟩ := hI0
  have h8 := i2.1
  have ok : (0 ≤ p ∧ p ≤ 9) → (s = -1 ∨ (0 ≤ s ∧ s < h 109 8)) → SKn (d + 30) mX8_hold [vr 108, vi p, vi s] 1 (up h 24 p s) := by
    intro q1 q2
    refine r_hold (rb_u hI (by decide) (by decide)) i2 hp hs (fun q9 => absurd ⟨q1, q2⟩ q9) (fun _ _ => ⟨rfl, ?_⟩)
    refine Inv_up (A := 24) (j := p) hI (by unfold PL; omega) (okT_mid i2 (by omega)) ?_ (by rw [ur_o (by omega)]; exact i3')
    obtain ⟨a1, a2, a3, a4, a5, a6⟩ := i3
    unfold okS
    rw [ur_o (show (44 : Int) ≠ 10 + p by omega), ur_o (show (49 : Int) ≠ 10 + p by omega), ur_o (show (50 : Int) ≠ 10 + p by omega), ur_o (show (51 : Int) ≠ 10 + p by omega), ur_o (show (45 : Int) ≠ 10 + p by omega), ur_o (show (46 : Int) ≠ 10 + p by omega), ur_o (show (47 : Int) ≠ 10 + p by omega), ur_o (show (48 : Int) ≠ 10 + p by omega), ur_o (show (8 : Int) ≠ 10 + p by omega)]
    refine ⟨a1, a2, a3, a4, a5, fun t t0 t1 => ?_⟩
    by_cases e : t = p
    · subst e; rw [ur_s]; omega
    · rw [ur_o (by omega)]; exact a6 t t0 t1
  show ClI (d + 30) mX7_hold [vr 0, vi p, vi s] h (SKn (d + 30) mX8_hold [vr 108, vi p, vi s])
  refine cl_in (al := [vr 0, vi p, vi s]) rfl (Nat.le_of_ble_eq_true rfl) (by simp [vi_cat, vr_cat, vs_cat]) ?_
  refine yr_iload_n (pq := 1) rfl dX7_hold_0 rfl ?_
  refine yr_iconst (pq := 2) rfl dX7_hold_1 ?_
  refine yr_bipush (pq := 4) rfl dX7_hold_2 rfl ?_
  refine yr_sI3 (pq := 7) rfl dX7_hold_4 kM_7_62 (by decide) cat0 (c_isIn hp (by decide) (by decide) (fun q1 => ?_) (fun q1 => ?_))
  · refine yr_if_eq (pq := 10) (t := 29) rfl dX7_hold_7 rfl (by decide) (fun q9 => absurd q9 (by decide)) (fun _ => ?_)
    refine yr_iload_n (pq := 11) rfl dX7_hold_10 rfl ?_
    refine yr_iconst (pq := 12) rfl dX7_hold_11 ?_
    refine yr_ic_eq (pq := 15) (t := 35) rfl dX7_hold_12 rfl (by omega) (by omega) (fun q2 => ?_) (fun q2 => ?_)
    · refine yr_aload_n (pq := 36) rfl dX7_hold_35 rfl ?_
      refine yr_getR (pq := 39) (b := 1) 0 rfl dX7_hold_36 kF_7_10 (by decide) rfl ?_
      refine yr_getR (pq := 42) (b := 24) 2 rfl dX7_hold_39 kF_7_263 (by decide) rfl ?_
      refine yr_iload_n (pq := 43) rfl dX7_hold_42 rfl ?_
      refine yr_iload_n (pq := 44) rfl dX7_hold_43 rfl ?_
      refine yr_iast (pq := 45) rfl dX7_hold_44 rfl (by decide) (by omega) ?_
      refine yr_iconst (pq := 46) rfl dX7_hold_45 ?_
      exact yr_iret dX7_hold_46 rfl (ok q1 (Or.inl q2))
    · refine yr_aload_n (pq := 16) rfl dX7_hold_15 rfl ?_
      refine yr_getR (pq := 19) (b := 1) 0 rfl dX7_hold_16 kF_7_10 (by decide) rfl ?_
      refine yr_getR (pq := 22) (b := 2) 0 rfl dX7_hold_19 kF_7_70 (by decide) rfl ?_
      refine yr_iload_n (pq := 23) rfl dX7_hold_22 rfl ?_
      refine yr_vI1 (pq := 26) rfl dX7_hold_23 kM_7_81 (by decide) (tw_c (by decide)) cat0 (c_has (N := h 109) (by decide) hs i1.1.1 h8 (fun q3 => ?_) (fun q3 => ?_))
      · refine yr_if_ne (pq := 29) (t := 35) rfl dX7_hold_26 rfl (by decide) (fun _ => ?_) (fun q9 => absurd q9 (by decide))
        refine yr_aload_n (pq := 36) rfl dX7_hold_35 rfl ?_
        refine yr_getR (pq := 39) (b := 1) 0 rfl dX7_hold_36 kF_7_10 (by decide) rfl ?_
        refine yr_getR (pq := 42) (b := 24) 2 rfl dX7_hold_39 kF_7_263 (by decide) rfl ?_
        refine yr_iload_n (pq := 43) rfl dX7_hold_42 rfl ?_
        refine yr_iload_n (pq := 44) rfl dX7_hold_43 rfl ?_
        refine yr_iast (pq := 45) rfl dX7_hold_44 rfl (by decide) (by omega) ?_
        refine yr_iconst (pq := 46) rfl dX7_hold_45 ?_
        exact yr_iret dX7_hold_46 rfl (ok q1 (Or.inr q3))
      · refine yr_if_ne (pq := 29) (t := 35) rfl dX7_hold_26 rfl (by decide) (fun q9 => absurd (by decide) q9) (fun _ => ?_)
        refine yr_aload_n (pq := 30) rfl dX7_hold_29 rfl ?_
        refine yr_iconst (pq := 31) rfl dX7_hold_30 ?_
        refine yr_vI1 (pq := 34) rfl dX7_hold_31 kM_7_66 (by decide) (by decide) cat0 (c_finding (by decide) ?_)
        exact yr_iret dX7_hold_34 rfl (r_hold (rb_u hI (by decide) (by decide)) i2 hp hs (fun _ e hf => fd_end hI (by decide) (by decide) hf) (fun _ q9 => absurd q9 (by omega)))
  · refine yr_if_eq (pq := 10) (t := 29) rfl dX7_hold_7 rfl (by decide) (fun _ => ?_) (fun q9 => absurd (by decide) q9)
    refine yr_aload_n (pq := 30) rfl dX7_hold_29 rfl ?_
    refine yr_iconst (pq := 31) rfl dX7_hold_30 ?_
    refine yr_vI1 (pq := 34) rfl dX7_hold_31 kM_7_66 (by decide) (by decide) cat0 (c_finding (by decide) ?_)
    exact yr_iret dX7_hold_34 rfl (r_hold (rb_u hI (by decide) (by decide)) i2 hp hs (fun _ e hf => fd_end hI (by decide) (by decide) hf) (fun q9 => absurd q9 q1))
theorem r_as {p k : Int} {N : Int → Int} (hB : RB h N) (hO : okT N) (hS : okS N) (hp : -2147483648 ≤ p ∧ p ≤ 2147483647) (hk : -2147483648 ≤ k ∧ k ≤ 2147483647) (k0 : ¬ ((0 ≤ p ∧ p ≤ 9) ∧ (0 ≤ k ∧ k ≤ 6)) → ∀ e, FD (-1000001) h e → K (-1000001) e)
    (k1 : (0 ≤ p ∧ p ≤ 9) → (0 ≤ k ∧ k ≤ 6) → N (10 + p) < 0 → ∀ e, FD (-1000006) h e → K (-1000006) e) (k2 : (0 ≤ p ∧ p ≤ 9) → (0 ≤ k ∧ k ≤ 6) → 0 ≤ N (10 + p) → undK (N (53 + 5 * N (10 + p) + 0)) k = 0 → ∀ e, FD (-1000003) h e → K (-1000003) e)
    (k3 : (0 ≤ p ∧ p ≤ 9) → (0 ≤ k ∧ k ≤ 6) → 0 ≤ N (10 + p) → undK (N (53 + 5 * N (10 + p) + 0)) k = 1 → K (N (10 + p)) h) : ClI (d + 3) mX8_as [vr 108, vi p, vi k] h K := by
  obtain ⟨e9, -⟩ := hB
  subst e9
  have h8 := hO.1
  refine cl_in (al := [vr 108, vi p, vi k, .null]) rfl (Nat.le_of_ble_eq_true rfl) (by simp [vi_cat, vr_cat, vs_cat]) ?_
  refine yr_iload_n (pq := 1) rfl dX8_as_0 rfl ?_
  refine yr_sI1 (pq := 4) rfl dX8_as_1 kM_8_336 (by decide) cat0 (m_isSpot hp (fun q1 => ?_) (fun q1 => ?_))
  · refine yr_if_eq (pq := 7) (t := 14) rfl dX8_as_4 rfl (by decide) (fun q9 => absurd q9 (by decide)) (fun _ => ?_)
    refine yr_iload_n (pq := 8) rfl dX8_as_7 rfl ?_
    refine yr_sI1 (pq := 11) rfl dX8_as_8 kM_8_94 (by decide) cat0 (m_isKind hk (fun q2 => ?_) (fun q2 => ?_))
    · have a6 := hS.2.2.2.2.2 p q1.1 (by omega)
      refine yr_if_ne (pq := 14) (t := 21) rfl dX8_as_11 rfl (by decide) (fun _ => ?_) (fun q9 => absurd q9 (by decide))
      refine yr_aload_n (pq := 22) rfl dX8_as_21 rfl ?_
      refine yr_getR (pq := 25) (b := 109) 0 rfl dX8_as_22 kF_8_9 (by decide) rfl ?_
      refine yr_bipush (pq := 27) rfl dX8_as_25 rfl ?_
      refine yr_iload_n (pq := 28) rfl dX8_as_27 rfl ?_
      refine yr_iadd (pq := 29) rfl dX8_as_28 ?_
      refine yr_iald (pq := 30) rfl dX8_as_29 rfl (by decide) (by omega) ?_
      refine yr_istore3 (pq := 31) rfl dX8_as_30 ?_
      refine yr_iload_n (pq := 32) rfl dX8_as_31 rfl ?_
      refine yr_if_ge (pq := 35) (t := 43) rfl dX8_as_32 rfl (by omega) (fun q3 => ?_) (fun q3 => ?_)
      · obtain ⟨o0, -⟩ := hO.2.2.2.2 (h 109 (10 + p)) (by omega) (by omega)
        refine yr_aload_n (pq := 44) rfl dX8_as_43 rfl ?_
        refine yr_iload_n (pq := 45) rfl dX8_as_44 rfl ?_
        refine yr_iconst (pq := 46) rfl dX8_as_45 ?_
        refine yr_vI2 (pq := 49) rfl dX8_as_46 kM_8_113 (by decide) (by decide) cat0 (m_streetIs (by omega) (by decide) ?_)
        refine yr_iload_n (pq := 50) rfl dX8_as_49 rfl ?_
        refine yr_sI2 (pq := 53) rfl dX8_as_50 kM_8_116 (by decide) cat0 (m_isUnder o0 q2 (fun q4 => ?_) (fun q4 => ?_))
        · refine yr_if_eq (pq := 56) (t := 60) rfl dX8_as_53 rfl (by decide) (fun q9 => absurd q9 (by decide)) (fun _ => ?_)
          refine yr_iload_n (pq := 57) rfl dX8_as_56 rfl ?_
          refine yr_goto (t := 67) dX8_as_57 rfl ?_
          exact yr_iret dX8_as_67 rfl (k3 q1 q2 (by omega) q4)
        · refine yr_if_eq (pq := 56) (t := 60) rfl dX8_as_53 rfl (by decide) (fun _ => ?_) (fun q9 => absurd (by decide) q9)
          refine yr_aload_n (pq := 61) rfl dX8_as_60 rfl ?_
          refine yr_ldc_w (pq := 64) rfl dX8_as_61 kN_8_340 ?_
          refine yr_vI1 (pq := 67) rfl dX8_as_64 kM_8_101 (by decide) (by decide) cat0 (r_fnd (by decide) (fun e hf => ?_))
          exact yr_iret dX8_as_67 rfl (k2 q1 q2 (by omega) q4 e hf)
      · refine yr_aload_n (pq := 36) rfl dX8_as_35 rfl ?_
        refine yr_ldc_w (pq := 39) rfl dX8_as_36 kN_8_339 ?_
        refine yr_vI1 (pq := 42) rfl dX8_as_39 kM_8_101 (by decide) (by decide) cat0 (r_fnd (by decide) (fun e hf => ?_))
        exact yr_iret dX8_as_42 rfl (k1 q1 q2 (by omega) e hf)
    · refine yr_if_ne (pq := 14) (t := 21) rfl dX8_as_11 rfl (by decide) (fun q9 => absurd (by decide) q9) (fun _ => ?_)
      refine yr_aload_n (pq := 15) rfl dX8_as_14 rfl ?_
      refine yr_ldc (pq := 17) rfl dX8_as_15 kN_8_73 ?_
      refine yr_vI1 (pq := 20) rfl dX8_as_17 kM_8_101 (by decide) (by decide) cat0 (r_fnd (by decide) (fun e hf => ?_))
      exact yr_iret dX8_as_20 rfl (k0 (by omega) e hf)
  · refine yr_if_eq (pq := 7) (t := 14) rfl dX8_as_4 rfl (by decide) (fun _ => ?_) (fun q9 => absurd (by decide) q9)
    refine yr_aload_n (pq := 15) rfl dX8_as_14 rfl ?_
    refine yr_ldc (pq := 17) rfl dX8_as_15 kN_8_73 ?_
    refine yr_vI1 (pq := 20) rfl dX8_as_17 kM_8_101 (by decide) (by decide) cat0 (r_fnd (by decide) (fun e hf => ?_))
    exact yr_iret dX8_as_20 rfl (k0 (by omega) e hf)
theorem s_as {p k : Int} (hI : Inv h) (hp : -2147483648 ≤ p ∧ p ≤ 2147483647) (hk : -2147483648 ≤ k ∧ k ≤ 2147483647) : Sm (d + 30) mX7_as mX8_as [vi p, vi k] h := by
  have hI0 := hI
  obtain ⟨⟨i1, i2, i3, i3'⟩, -, -, -, -, -, i11⟩ := hI0
  have h8 := i2.1
  show ClI (d + 30) mX7_as [vr 0, vi p, vi k] h (SKn (d + 30) mX8_as [vr 108, vi p, vi k])
  refine cl_in (al := [vr 0, vi p, vi k, .null]) rfl (Nat.le_of_ble_eq_true rfl) (by simp [vi_cat, vr_cat, vs_cat]) ?_
  refine yr_iload_n (pq := 1) rfl dX7_as_0 rfl ?_
  refine yr_iconst (pq := 2) rfl dX7_as_1 ?_
  refine yr_bipush (pq := 4) rfl dX7_as_2 rfl ?_
  refine yr_sI3 (pq := 7) rfl dX7_as_4 kM_7_62 (by decide) cat0 (c_isIn hp (by decide) (by decide) (fun q1 => ?_) (fun q1 => ?_))
  · refine yr_if_eq (pq := 10) (t := 17) rfl dX7_as_7 rfl (by decide) (fun q9 => absurd q9 (by decide)) (fun _ => ?_)
    refine yr_iload_n (pq := 11) rfl dX7_as_10 rfl ?_
    refine yr_sI1 (pq := 14) rfl dX7_as_11 kM_7_55 (by decide) cat0 (c_isKind hk (fun q2 => ?_) (fun q2 => ?_))
    · have a6 := i3.2.2.2.2.2 p q1.1 (by omega)
      refine yr_if_ne (pq := 17) (t := 23) rfl dX7_as_14 rfl (by decide) (fun _ => ?_) (fun q9 => absurd q9 (by decide))
      refine yr_aload_n (pq := 24) rfl dX7_as_23 rfl ?_
      refine yr_getR (pq := 27) (b := 1) 0 rfl dX7_as_24 kF_7_10 (by decide) rfl ?_
      refine yr_getR (pq := 30) (b := 24) 2 rfl dX7_as_27 kF_7_263 (by decide) rfl ?_
      refine yr_iload_n (pq := 31) rfl dX7_as_30 rfl ?_
      refine yr_iald (pq := 32) rfl dX7_as_31 rfl (by decide) (by omega) ?_
      refine yr_istore3 (pq := 33) rfl dX7_as_32 ?_
      refine yr_aload_n (pq := 34) rfl dX7_as_33 rfl ?_
      refine yr_getR (pq := 37) (b := 1) 0 rfl dX7_as_34 kF_7_10 (by decide) rfl ?_
      refine yr_getR (pq := 40) (b := 2) 0 rfl dX7_as_37 kF_7_70 (by decide) rfl ?_
      refine yr_iload_n (pq := 41) rfl dX7_as_40 rfl ?_
      rw [i1.2.2.2.2.2.2.2.1 p q1.1 (by omega)]
      refine yr_vI1 (pq := 44) rfl dX7_as_41 kM_7_81 (by decide) (tw_c (by decide)) cat0 (c_has (N := h 109) (by decide) (by omega) i1.1.1 h8 (fun q3 => ?_) (fun q3 => ?_))
      · obtain ⟨o0, -⟩ := i2.2.2.2.2 (h 109 (10 + p)) q3.1 q3.2
        have v0 := (i1.1.2.2.2.2 (h 109 (10 + p)) q3.1 q3.2).1
        refine yr_if_ne (pq := 47) (t := 53) rfl dX7_as_44 rfl (by omega) (fun _ => ?_) (fun q9 => absurd q9 (by decide))
        refine yr_aload_n (pq := 54) rfl dX7_as_53 rfl ?_
        refine yr_getR (pq := 57) (b := 1) 0 rfl dX7_as_54 kF_7_10 (by decide) rfl ?_
        refine yr_getR (pq := 60) (b := 2) 0 rfl dX7_as_57 kF_7_70 (by decide) rfl ?_
        refine yr_getR (pq := 63) 0 rfl dX7_as_60 kF_7_84 (tw_c (by decide)) (fr_6_0 (by decide)) ?_
        refine yr_iload_n (pq := 64) rfl dX7_as_63 rfl ?_
        refine yr_aald (pq := 65) rfl dX7_as_64 (tw_k1 (by decide)) (by decide) (by omega) (st_q (by decide) (by omega) (by omega)) ?_
        refine yr_getI (pq := 68) 0 rfl dX7_as_65 kF_7_88 (by decide) rfl (st_c (by decide) (by omega) (by omega)) ?_
        refine yr_iload_n (pq := 69) rfl dX7_as_68 rfl ?_
        rw [v0]
        refine yr_sI2 (pq := 72) rfl dX7_as_69 kM_7_266 (by decide) cat0 (c_isUnder o0 q2 ?_)
        have hu : undK (h 109 (53 + 5 * h 109 (10 + p) + 0)) k = 0 ∨ undK (h 109 (53 + 5 * h 109 (10 + p) + 0)) k = 1 := by
          unfold undK
          split
          · exact Or.inr rfl
          · exact Or.inl rfl
        rcases hu with u | u
        · rw [u]
          refine yr_if_eq (pq := 75) (t := 79) rfl dX7_as_72 rfl (by omega) (fun _ => ?_) (fun q9 => absurd (by decide) q9)
          refine yr_aload_n (pq := 80) rfl dX7_as_79 rfl ?_
          refine yr_iconst (pq := 81) rfl dX7_as_80 ?_
          refine yr_vI1 (pq := 84) rfl dX7_as_81 kM_7_66 (by decide) (by decide) cat0 (c_finding (by decide) ?_)
          exact yr_iret dX7_as_84 rfl (r_as (rb_u hI (by decide) (by decide)) i2 i3 hp hk (fun q9 => absurd ⟨q1, q2⟩ q9) (fun _ _ q9 => absurd q9 (by omega)) (fun _ _ _ _ e hf => fd_end hI (by decide) (by decide) hf) (fun _ _ _ q9 => absurd q9 (by omega)))
        · rw [u]
          refine yr_if_eq (pq := 75) (t := 79) rfl dX7_as_72 rfl (by omega) (fun q9 => absurd q9 (by decide)) (fun _ => ?_)
          refine yr_iload_n (pq := 76) rfl dX7_as_75 rfl ?_
          refine yr_goto (t := 84) dX7_as_76 rfl ?_
          exact yr_iret dX7_as_84 rfl (r_as (rb_0 hI) i2 i3 hp hk (fun q9 => absurd ⟨q1, q2⟩ q9) (fun _ _ q9 => absurd q9 (by omega)) (fun _ _ _ q9 => absurd q9 (by omega)) (fun _ _ _ _ => ⟨rfl, hI⟩))
      · refine yr_if_ne (pq := 47) (t := 53) rfl dX7_as_44 rfl (by omega) (fun q9 => absurd (by decide) q9) (fun _ => ?_)
        refine yr_aload_n (pq := 48) rfl dX7_as_47 rfl ?_
        refine yr_iconst (pq := 49) rfl dX7_as_48 ?_
        refine yr_vI1 (pq := 52) rfl dX7_as_49 kM_7_66 (by decide) (by decide) cat0 (c_finding (by decide) ?_)
        exact yr_iret dX7_as_52 rfl (r_as (rb_u hI (by decide) (by decide)) i2 i3 hp hk (fun q9 => absurd ⟨q1, q2⟩ q9) (fun _ _ _ e hf => fd_end hI (by decide) (by decide) hf) (fun _ _ q9 => absurd q9 (by omega)) (fun _ _ q9 => absurd q9 (by omega)))
    · refine yr_if_ne (pq := 17) (t := 23) rfl dX7_as_14 rfl (by decide) (fun q9 => absurd (by decide) q9) (fun _ => ?_)
      refine yr_aload_n (pq := 18) rfl dX7_as_17 rfl ?_
      refine yr_iconst (pq := 19) rfl dX7_as_18 ?_
      refine yr_vI1 (pq := 22) rfl dX7_as_19 kM_7_66 (by decide) (by decide) cat0 (c_finding (by decide) ?_)
      exact yr_iret dX7_as_22 rfl (r_as (rb_u hI (by decide) (by decide)) i2 i3 hp hk (fun _ e hf => fd_end hI (by decide) (by decide) hf) (fun _ q9 => absurd q9 q2) (fun _ q9 => absurd q9 q2) (fun _ q9 => absurd q9 q2))
  · refine yr_if_eq (pq := 10) (t := 17) rfl dX7_as_7 rfl (by decide) (fun _ => ?_) (fun q9 => absurd (by decide) q9)
    refine yr_aload_n (pq := 18) rfl dX7_as_17 rfl ?_
    refine yr_iconst (pq := 19) rfl dX7_as_18 ?_
    refine yr_vI1 (pq := 22) rfl dX7_as_19 kM_7_66 (by decide) (by decide) cat0 (c_finding (by decide) ?_)
    exact yr_iret dX7_as_22 rfl (r_as (rb_u hI (by decide) (by decide)) i2 i3 hp hk (fun _ e hf => fd_end hI (by decide) (by decide) hf) (fun q9 => absurd q9 q1) (fun q9 => absurd q9 q1) (fun q9 => absurd q9 q1))
end S19
