/-! seed, made -/
section S13
variable {d : Nat} {h : hT} {g : Int}
theorem s_seed {z : Int} (hI : Inv h) (hz : -2147483648 ≤ z ∧ z ≤ 2147483647) : Sm (d + 30) mX7_seed mX8_seed [vi z] h := by
  have hI0 := hI
  obtain ⟨⟨i1, i2, i3, i3'⟩, -, -, -, -, -, i11⟩ := hI0
  obtain ⟨r0, r1, r2, r3, r4, r5, r6, r7, r8⟩ := i1
  show ClI (d + 30) mX7_seed [vr 0, vi z] h _
  refine cl_in (al := [vr 0, vi z, .null]) rfl (Nat.le_of_ble_eq_true rfl) (by simp [vi_cat, vr_cat, vs_cat]) ?_
  refine yr_aload_n (pq := 1) rfl dX7_seed_0 rfl ?_
  refine yr_getR (pq := 4) (b := 1) 0 rfl dX7_seed_1 kF_7_10 (by decide) rfl ?_
  refine yr_getI (pq := 7) 3 rfl dX7_seed_4 kF_7_251 (by decide) rfl (by decide) ?_
  refine yr_istore2 (pq := 8) rfl dX7_seed_7 ?_
  refine yr_aload_n (pq := 9) rfl dX7_seed_8 rfl ?_
  refine yr_getR (pq := 12) (b := 1) 0 rfl dX7_seed_9 kF_7_10 (by decide) rfl ?_
  refine yr_iload_n (pq := 13) rfl dX7_seed_12 rfl ?_
  refine yr_putI (pq := 16) 3 rfl dX7_seed_13 kF_7_251 (by decide) rfl rfl (by decide) ?_
  refine yr_iload_n (pq := 17) rfl dX7_seed_16 rfl ?_
  refine yr_iret dX7_seed_17 rfl ?_
  show ClI (d + 30) mX8_seed [vr 108, vi z] _ _
  refine cl_in (al := [vr 108, vi z]) rfl (Nat.le_of_ble_eq_true rfl) (by simp [vi_cat, vr_cat, vs_cat]) ?_
  refine yr_aload_n (pq := 1) rfl dX8_seed_0 rfl ?_
  refine yr_bipush (pq := 3) rfl dX8_seed_1 rfl ?_
  refine yr_iload_n (pq := 4) rfl dX8_seed_3 rfl ?_
  refine yr_vI2 (pq := 7) rfl dX8_seed_4 kM_8_129 (by decide) (by decide) cat0 (m_become (by decide) ?_)
  have e9 : up (up h 1 3 z) 109 9 z 109 = ur (h 109) 9 z := by rw [up_row, up_ne (by decide)]
  have eo : ∀ j, j ≠ 9 → ur (h 109) 9 z j = h 109 j := fun j q => ur_o q
  refine yr_iret dX8_seed_7 rfl ⟨?_, Inv_row hI ?_ ?_ ?_ ?_ (fun a q1 q2 q3 => ?_) ?_ ?_ ?_⟩
  · rw [up_ne (by decide)]; exact r8.symm
  · rw [e9]
    refine ⟨RT_row (N := h 109) (RT_cong r0 i2 (fun j j0 j1 j2 => ?_)) (fun j hj => eo j (by omega)), ?_, ?_, ?_, ?_, ?_, ?_, fun t t0 t1 => ?_, ?_⟩
    · rw [up_ne (by omega), up_ne (by omega)]
    · rw [up_ne (by decide), up_ne (by decide), eo 45 (by decide), eo 46 (by decide), eo 47 (by decide), eo 48 (by decide)]; exact r1
    · rw [up_ne (by decide), up_ne (by decide), eo 44 (by decide)]; exact r2
    · rw [up_ne (by decide), up_ne (by decide), eo 49 (by decide)]; exact r3
    · rw [up_ne (by decide), up_ne (by decide), eo 50 (by decide)]; exact r4
    · rw [up_ne (by decide), up_ne (by decide), eo 51 (by decide)]; exact r5
    · rw [up_ne (by decide), up_ne (by decide), eo 52 (by decide)]; exact r6
    · rw [up_ne (by decide), up_ne (by decide), eo _ (by omega)]; exact r7 t t0 t1
    · rw [up_ne (by decide), up_s, ur_s]
  · rw [e9]; exact okT_row i2 (fun j hj => eo j (by omega))
  · rw [e9]
    unfold okS at i3 ⊢
    rw [eo 44 (by decide), eo 49 (by decide), eo 50 (by decide), eo 51 (by decide), eo 45 (by decide), eo 46 (by decide), eo 47 (by decide), eo 48 (by decide), eo 8 (by decide)]
    exact ⟨i3.1, i3.2.1, i3.2.2.1, i3.2.2.2.1, i3.2.2.2.2.1, fun s s0 s1 => by rw [eo _ (by omega)]; exact i3.2.2.2.2.2 s s0 s1⟩
  · rw [e9, eo 50 (by decide)]; exact i3'
  · rw [up_ne q3, up_ne (by omega)]
  · rw [up_ne (by decide), up_ne (by decide)]
  · rw [up_ne (by decide), up_ne (by decide)]
  · rw [up_ne (by decide), up_ne (by decide)]
end S13
