/-! made -/
theorem okS_u {N M : Int → Int} (hS : okS N) (e8 : M 8 = N 8) (es : ∀ s, 0 ≤ s → s < 10 → M (10 + s) = N (10 + s)) (h1 : 0 ≤ M 44 ∧ M 44 ≤ 1) (h2 : 0 ≤ M 49 ∧ M 49 ≤ 7) (h3 : 0 ≤ M 50 ∧ M 50 ≤ 2000) (h4 : 0 ≤ M 51 ∧ M 51 ≤ 15) (h5 : 0 ≤ M 45 ∧ 0 ≤ M 46 ∧ 0 ≤ M 47 ∧ 0 ≤ M 48 ∧ max (M 45) 9999 + max (M 46) 9999 + max (M 47) 9999 + max (M 48) 9999 ≤ 99999) : okS M :=
  ⟨h1, h2, h3, h4, h5, fun s s0 s1 => by rw [es s s0 s1, e8]; exact hS.2.2.2.2.2 s s0 s1⟩
section S14
variable {d : Nat} {h : hT} {g : Int}
theorem s_made {z : Int} (hI : Inv h) (hz : -2147483648 ≤ z ∧ z ≤ 2147483647) : Sm (d + 30) mX7_made mX8_made [vi z] h := by
  have hI0 := hI
  obtain ⟨⟨i1, i2, i3, i3'⟩, -, -, -, -, -, i11⟩ := hI0
  obtain ⟨r0, r1, r2, r3, r4, r5, r6, r7, r8⟩ := i1
  show ClI (d + 30) mX7_made [vr 0, vi z] h _
  refine cl_in (al := [vr 0, vi z, .null]) rfl (Nat.le_of_ble_eq_true rfl) (by simp [vi_cat, vr_cat, vs_cat]) ?_
  refine yr_iload_n (pq := 1) rfl dX7_made_0 rfl ?_
  refine yr_iconst (pq := 2) rfl dX7_made_1 ?_
  refine yr_iconst (pq := 3) rfl dX7_made_2 ?_
  refine yr_sI3 (pq := 6) rfl dX7_made_3 kM_7_62 (by decide) cat0 (c_isIn hz (by decide) (by decide) (fun qk => ?_) (fun qk => ?_))
  · refine yr_if_ne (pq := 9) (t := 15) rfl dX7_made_6 rfl (by omega) (fun _ => ?_) (fun q9 => absurd q9 (by decide))
    refine yr_aload_n (pq := 16) rfl dX7_made_15 rfl ?_
    refine yr_getR (pq := 19) (b := 1) 0 rfl dX7_made_16 kF_7_10 (by decide) rfl ?_
    refine yr_getR (pq := 22) (b := 22) 1 rfl dX7_made_19 kF_7_135 (by decide) rfl ?_
    refine yr_getI (pq := 25) 1 rfl dX7_made_22 kF_7_139 (by decide) rfl (by decide) ?_
    refine yr_istore2 (pq := 26) rfl dX7_made_25 ?_
    refine yr_aload_n (pq := 27) rfl dX7_made_26 rfl ?_
    refine yr_getR (pq := 30) (b := 1) 0 rfl dX7_made_27 kF_7_10 (by decide) rfl ?_
    refine yr_getR (pq := 33) (b := 22) 1 rfl dX7_made_30 kF_7_135 (by decide) rfl ?_
    refine yr_iload_n (pq := 34) rfl dX7_made_33 rfl ?_
    refine yr_putI (pq := 37) 1 rfl dX7_made_34 kF_7_139 (by decide) rfl rfl (by decide) ?_
    refine yr_iload_n (pq := 38) rfl dX7_made_37 rfl ?_
    refine yr_iret dX7_made_38 rfl ?_
    show ClI (d + 30) mX8_made [vr 108, vi z] _ _
    refine cl_in (al := [vr 108, vi z]) rfl (Nat.le_of_ble_eq_true rfl) (by simp [vi_cat, vr_cat, vs_cat]) ?_
    refine yr_iload_n (pq := 1) rfl dX8_made_0 rfl ?_
    refine yr_iconst (pq := 2) rfl dX8_made_1 ?_
    refine yr_iconst (pq := 3) rfl dX8_made_2 ?_
    refine yr_sI3 (pq := 6) rfl dX8_made_3 kM_8_78 (by decide) cat0 (m_within hz (by decide) (by decide) (fun _ => ?_) (fun q9 => absurd qk q9))
    refine yr_if_eq (pq := 9) (t := 19) rfl dX8_made_6 rfl (by omega) (fun q9 => absurd q9 (by decide)) (fun _ => ?_)
    refine yr_aload_n (pq := 10) rfl dX8_made_9 rfl ?_
    refine yr_bipush (pq := 12) rfl dX8_made_10 rfl ?_
    refine yr_iload_n (pq := 13) rfl dX8_made_12 rfl ?_
    refine yr_vI2 (pq := 16) rfl dX8_made_13 kM_8_129 (by decide) (by decide) cat0 (m_become (by decide) ?_)
    refine yr_goto (t := 25) dX8_made_16 rfl ?_
    have e9 : up (up h 22 1 z) 109 44 z 109 = ur (h 109) 44 z := by rw [up_row, up_ne (by decide)]
    have eo : ∀ j, j ≠ 44 → ur (h 109) 44 z j = h 109 j := fun j q => ur_o q
    refine yr_iret dX8_made_25 rfl ⟨?_, Inv_row hI ?_ ?_ ?_ ?_ (fun a q1 q2 q3 => ?_) ?_ ?_ ?_⟩
    · rw [up_ne (by decide)]; exact r2.symm
    · rw [e9]
      refine ⟨RT_row (N := h 109) (RT_cong r0 i2 (fun j j0 j1 j2 => ?_)) (fun j hj => eo j (by omega)), ?_, ?_, ?_, ?_, ?_, ?_, fun t t0 t1 => ?_, ?_⟩
      · rw [up_ne (by omega), up_ne (by omega)]
      · rw [up_ne (by decide), up_ne (by decide), eo 45 (by decide), eo 46 (by decide), eo 47 (by decide), eo 48 (by decide)]; exact r1
      · rw [up_ne (by decide), up_s, ur_s]
      · rw [up_ne (by decide), up_k (by decide), eo 49 (by decide)]; exact r3
      · rw [up_ne (by decide), up_k (by decide), eo 50 (by decide)]; exact r4
      · rw [up_ne (by decide), up_k (by decide), eo 51 (by decide)]; exact r5
      · rw [up_ne (by decide), up_k (by decide), eo 52 (by decide)]; exact r6
      · rw [up_ne (by decide), up_ne (by decide), eo _ (by omega)]; exact r7 t t0 t1
      · rw [up_ne (by decide), up_ne (by decide), eo 9 (by decide)]; exact r8
    · rw [e9]; exact okT_row i2 (fun j hj => eo j (by omega))
    · rw [e9]
      refine okS_u i3 (eo 8 (by decide)) (fun s s0 s1 => eo _ (by omega)) (by rw [ur_s]; exact qk) ?_ ?_ ?_ ?_
      · rw [eo 49 (by decide)]; exact i3.2.1
      · rw [eo 50 (by decide)]; exact i3.2.2.1
      · rw [eo 51 (by decide)]; exact i3.2.2.2.1
      · rw [eo 45 (by decide), eo 46 (by decide), eo 47 (by decide), eo 48 (by decide)]; exact i3.2.2.2.2.1
    · rw [e9, eo 50 (by decide)]; exact i3'
    · rw [up_ne q3, up_ne (by omega)]
    · rw [up_ne (by decide), up_ne (by decide)]
    · rw [up_ne (by decide), up_ne (by decide)]
    · rw [up_ne (by decide), up_ne (by decide)]
  · refine yr_if_ne (pq := 9) (t := 15) rfl dX7_made_6 rfl (by omega) (fun q9 => absurd (by decide) q9) (fun _ => ?_)
    refine yr_aload_n (pq := 10) rfl dX7_made_9 rfl ?_
    refine yr_iconst (pq := 11) rfl dX7_made_10 ?_
    refine yr_vI1 (pq := 14) rfl dX7_made_11 kM_7_66 (by decide) (by decide) cat0 (c_finding (by decide) ?_)
    refine yr_iret dX7_made_14 rfl ?_
    show ClI (d + 30) mX8_made [vr 108, vi z] _ _
    refine cl_in (al := [vr 108, vi z]) rfl (Nat.le_of_ble_eq_true rfl) (by simp [vi_cat, vr_cat, vs_cat]) ?_
    refine yr_iload_n (pq := 1) rfl dX8_made_0 rfl ?_
    refine yr_iconst (pq := 2) rfl dX8_made_1 ?_
    refine yr_iconst (pq := 3) rfl dX8_made_2 ?_
    refine yr_sI3 (pq := 6) rfl dX8_made_3 kM_8_78 (by decide) cat0 (m_within hz (by decide) (by decide) (fun q9 => absurd q9 qk) (fun _ => ?_))
    refine yr_if_eq (pq := 9) (t := 19) rfl dX8_made_6 rfl (by omega) (fun _ => ?_) (fun q9 => absurd (by decide) q9)
    refine yr_aload_n (pq := 20) rfl dX8_made_19 rfl ?_
    refine yr_ldc (pq := 22) rfl dX8_made_20 kN_8_73 ?_
    refine yr_vI1 (pq := 25) rfl dX8_made_22 kM_8_101 (by decide) (by decide) cat0 (m_finding (by decide) (fun e e0 e1 => ?_))
    refine yr_iret dX8_made_25 rfl ⟨rfl, find2 (k := 0) hI (by decide) (by decide) (fun a q1 q2 => up_ne q2) (up_row _ _ _ _) (fun j _ => by rw [up_ne (by decide)]) e0 e1⟩
end S14
