/-! status -/
section S7
variable {d : Nat} {h : hT} {g : Int}
theorem s_status {k : Int} (hI : Inv h) (hk : -2147483648 ≤ k ∧ k ≤ 2147483647) : Sm (d + 30) mX7_status mX8_status [vi k] h := by
  have hI0 := hI
  obtain ⟨-, -, i7, i8, -, -, -⟩ := hI0
  show ClI (d + 30) mX7_status [vr 0, vi k] h _
  refine cl_in (al := [vr 0, vi k]) rfl (Nat.le_of_ble_eq_true rfl) (by simp [vi_cat, vr_cat, vs_cat]) ?_
  refine yr_iload_n (pq := 1) rfl dX7_status_0 rfl ?_
  refine yr_iconst (pq := 2) rfl dX7_status_1 ?_
  refine yr_ic_ne (pq := 5) (t := 13) rfl dX7_status_2 rfl (by omega) (by omega) (fun q => ?_) (fun q => ?_)
  · refine yr_iload_n (pq := 14) rfl dX7_status_13 rfl ?_
    refine yr_iconst (pq := 15) rfl dX7_status_14 ?_
    refine yr_bipush (pq := 17) rfl dX7_status_15 rfl ?_
    refine yr_sI3 (pq := 20) rfl dX7_status_17 kM_7_62 (by decide) cat0 (c_isIn hk (by decide) (by decide) (fun qk => ?_) (fun qk => ?_))
    · refine yr_if_eq (pq := 23) (t := 32) rfl dX7_status_20 rfl (by omega) (fun q9 => absurd q9 (by decide)) (fun _ => ?_)
      refine yr_aload_n (pq := 24) rfl dX7_status_23 rfl ?_
      refine yr_getR (pq := 27) (b := 99) 7 rfl dX7_status_24 kF_7_50 (by decide) rfl ?_
      refine yr_iload_n (pq := 28) rfl dX7_status_27 rfl ?_
      refine yr_iald (pq := 29) rfl dX7_status_28 rfl (by decide) (by omega) ?_
      refine yr_goto (t := 37) dX7_status_29 rfl ?_
      refine yr_iret dX7_status_37 rfl ?_
      show ClI (d + 30) mX8_status [vr 108, vi k] _ _
      refine cl_in (al := [vr 108, vi k]) rfl (Nat.le_of_ble_eq_true rfl) (by simp [vi_cat, vr_cat, vs_cat]) ?_
      refine yr_iload_n (pq := 1) rfl dX8_status_0 rfl ?_
      refine yr_iconst (pq := 2) rfl dX8_status_1 ?_
      refine yr_bipush (pq := 4) rfl dX8_status_2 rfl ?_
      refine yr_sI3 (pq := 7) rfl dX8_status_4 kM_8_78 (by decide) cat0 (m_within hk (by decide) (by decide) (fun _ => ?_) (fun q9 => absurd (by omega) q9))
      refine yr_if_eq (pq := 10) (t := 21) rfl dX8_status_7 rfl (by omega) (fun q9 => absurd q9 (by decide)) (fun _ => ?_)
      refine yr_aload_n (pq := 11) rfl dX8_status_10 rfl ?_
      refine yr_getR (pq := 14) (b := 112) 4 rfl dX8_status_11 kF_8_19 (by decide) rfl ?_
      refine yr_iload_n (pq := 15) rfl dX8_status_14 rfl ?_
      refine yr_iconst (pq := 16) rfl dX8_status_15 ?_
      refine yr_iadd (pq := 17) rfl dX8_status_16 ?_
      refine yr_iald (pq := 18) rfl dX8_status_17 rfl (by decide) (by omega) ?_
      refine yr_goto (t := 27) dX8_status_18 rfl ?_
      refine yr_iret dX8_status_27 rfl ⟨(i7 k qk.1 (by omega)).symm, hI⟩
    · refine yr_if_eq (pq := 23) (t := 32) rfl dX7_status_20 rfl (by omega) (fun _ => ?_) (fun q9 => absurd (by decide) q9)
      refine yr_aload_n (pq := 33) rfl dX7_status_32 rfl ?_
      refine yr_iconst (pq := 34) rfl dX7_status_33 ?_
      refine yr_vI1 (pq := 37) rfl dX7_status_34 kM_7_66 (by decide) (by decide) cat0 (c_finding (by decide) ?_)
      refine yr_iret dX7_status_37 rfl ?_
      show ClI (d + 30) mX8_status [vr 108, vi k] _ _
      refine cl_in (al := [vr 108, vi k]) rfl (Nat.le_of_ble_eq_true rfl) (by simp [vi_cat, vr_cat, vs_cat]) ?_
      refine yr_iload_n (pq := 1) rfl dX8_status_0 rfl ?_
      refine yr_iconst (pq := 2) rfl dX8_status_1 ?_
      refine yr_bipush (pq := 4) rfl dX8_status_2 rfl ?_
      refine yr_sI3 (pq := 7) rfl dX8_status_4 kM_8_78 (by decide) cat0 (m_within hk (by decide) (by decide) (fun q9 => absurd q9 (by omega)) (fun _ => ?_))
      refine yr_if_eq (pq := 10) (t := 21) rfl dX8_status_7 rfl (by omega) (fun _ => ?_) (fun q9 => absurd (by decide) q9)
      refine yr_aload_n (pq := 22) rfl dX8_status_21 rfl ?_
      refine yr_ldc (pq := 24) rfl dX8_status_22 kN_8_73 ?_
      refine yr_vI1 (pq := 27) rfl dX8_status_24 kM_8_101 (by decide) (by decide) cat0 (m_finding (by decide) (fun e e0 e1 => ?_))
      refine yr_iret dX8_status_27 rfl ⟨rfl, find2 (k := 0) hI (by decide) (by decide) (fun a q1 q2 => up_ne q2) (up_row _ _ _ _) (fun j _ => by rw [up_ne (by decide)]) e0 e1⟩
  · refine yr_aload_n (pq := 6) rfl dX7_status_5 rfl ?_
    refine yr_getR (pq := 9) (b := 99) 7 rfl dX7_status_6 kF_7_50 (by decide) rfl ?_
    refine yr_sI1 (pq := 12) rfl dX7_status_9 kM_7_241 (by decide) cat0 (c_sumOf (L := 7) rfl (by decide) (by decide) ?_)
    refine yr_iret dX7_status_12 rfl ?_
    show ClI (d + 30) mX8_status [vr 108, vi k] _ _
    refine cl_in (al := [vr 108, vi k]) rfl (Nat.le_of_ble_eq_true rfl) (by simp [vi_cat, vr_cat, vs_cat]) ?_
    refine yr_iload_n (pq := 1) rfl dX8_status_0 rfl ?_
    refine yr_iconst (pq := 2) rfl dX8_status_1 ?_
    refine yr_bipush (pq := 4) rfl dX8_status_2 rfl ?_
    refine yr_sI3 (pq := 7) rfl dX8_status_4 kM_8_78 (by decide) cat0 (m_within hk (by decide) (by decide) (fun _ => ?_) (fun q9 => absurd (by omega) q9))
    refine yr_if_eq (pq := 10) (t := 21) rfl dX8_status_7 rfl (by omega) (fun q9 => absurd q9 (by decide)) (fun _ => ?_)
    refine yr_aload_n (pq := 11) rfl dX8_status_10 rfl ?_
    refine yr_getR (pq := 14) (b := 112) 4 rfl dX8_status_11 kF_8_19 (by decide) rfl ?_
    refine yr_iload_n (pq := 15) rfl dX8_status_14 rfl ?_
    refine yr_iconst (pq := 16) rfl dX8_status_15 ?_
    refine yr_iadd (pq := 17) rfl dX8_status_16 ?_
    refine yr_iald (pq := 18) rfl dX8_status_17 rfl (by decide) (by omega) ?_
    refine yr_goto (t := 27) dX8_status_18 rfl ?_
    refine yr_iret dX8_status_27 rfl ⟨?_, hI⟩
    rw [show k + 1 = 0 by omega]
    exact i8
end S7
