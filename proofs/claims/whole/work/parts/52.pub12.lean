/-! costs -/
section S12
variable {d : Nat} {h : hT} {g : Int}
theorem s_costs {s k : Int} (hI : Inv h) (hs : -2147483648 ≤ s ∧ s ≤ 2147483647) (hk : -2147483648 ≤ k ∧ k ≤ 2147483647) : Sm (d + 30) mX7_costs mX8_costs [vi s, vi k] h := by
  have hI0 := hI
  obtain ⟨⟨i1, i2, i3, i3'⟩, -, -, -, -, -, i11⟩ := hI0
  have h8 := i2.1
  have hu : ∀ z, up h 99 0 z 109 = h 109 := fun z => up_ne (by decide)
  show ClI (d + 30) mX7_costs [vr 0, vi s, vi k] h _
  refine cl_in (al := [vr 0, vi s, vi k]) rfl (Nat.le_of_ble_eq_true rfl) (by simp [vi_cat, vr_cat, vs_cat]) ?_
  refine yr_aload_n (pq := 1) rfl dX7_costs_0 rfl ?_
  refine yr_getR (pq := 4) (b := 1) 0 rfl dX7_costs_1 kF_7_10 (by decide) rfl ?_
  refine yr_getR (pq := 7) (b := 2) 0 rfl dX7_costs_4 kF_7_70 (by decide) rfl ?_
  refine yr_iload_n (pq := 8) rfl dX7_costs_7 rfl ?_
  refine yr_vI1 (pq := 11) rfl dX7_costs_8 kM_7_81 (by decide) (tw_c (by decide)) cat0 (c_has (N := h 109) (T := 2) (by decide) hs i1.1.1 h8 (fun q => ?_) (fun q => ?_))
  · refine yr_if_eq (pq := 14) (t := 25) rfl dX7_costs_11 rfl (by omega) (fun q9 => absurd q9 (by decide)) (fun _ => ?_)
    refine yr_iload_n (pq := 15) rfl dX7_costs_14 rfl ?_
    refine yr_iconst (pq := 16) rfl dX7_costs_15 ?_
    refine yr_sipush (pq := 19) rfl dX7_costs_16 rfl ?_
    refine yr_sI3 (pq := 22) rfl dX7_costs_19 kM_7_62 (by decide) cat0 (c_isIn hk (by decide) (by decide) (fun qk => ?_) (fun qk => ?_))
    · refine yr_if_ne (pq := 25) (t := 31) rfl dX7_costs_22 rfl (by omega) (fun _ => ?_) (fun q9 => absurd q9 (by decide))
      refine yr_aload_n (pq := 32) rfl dX7_costs_31 rfl ?_
      refine yr_aload_n (pq := 33) rfl dX7_costs_32 rfl ?_
      refine yr_getR (pq := 36) (b := 1) 0 rfl dX7_costs_33 kF_7_10 (by decide) rfl ?_
      refine yr_getR (pq := 39) (b := 2) 0 rfl dX7_costs_36 kF_7_70 (by decide) rfl ?_
      refine yr_iload_n (pq := 40) rfl dX7_costs_39 rfl ?_
      refine yr_iload_n (pq := 41) rfl dX7_costs_40 rfl ?_
      refine yr_vI3 (pq := 44) rfl dX7_costs_41 kM_7_186 (by decide) (by decide) cat0 (c_costsIn (N := h 109) (P := h 109) (T := 2) (by decide) i1.2.1 i1.2.2.1 i3 i1.1 i2 q (by omega) (fun f f0 => ?_))
      refine yr_iret dX7_costs_44 rfl ?_
      show ClI (d + 30) mX8_costs [vr 108, vi s, vi k] _ _
      have e9 : f 109 = h 109 := f0 109 (by decide)
      refine cl_in (al := [vr 108, vi s, vi k]) rfl (Nat.le_of_ble_eq_true rfl) (by simp [vi_cat, vr_cat, vs_cat]) ?_
      refine yr_aload_n (pq := 1) rfl dX8_costs_0 rfl ?_
      refine yr_iload_n (pq := 2) rfl dX8_costs_1 rfl ?_
      refine yr_vI1 (pq := 5) rfl dX8_costs_2 kM_8_123 (by decide) (by decide) cat0 (m_isStreet hs (by rw [e9]; exact h8) (fun _ => ?_) (fun q9 => absurd (by rw [e9]; exact q) q9))
      refine yr_if_eq (pq := 8) (t := 28) rfl dX8_costs_5 rfl (by omega) (fun q9 => absurd q9 (by decide)) (fun _ => ?_)
      refine yr_iload_n (pq := 9) rfl dX8_costs_8 rfl ?_
      refine yr_iconst (pq := 10) rfl dX8_costs_9 ?_
      refine yr_sipush (pq := 13) rfl dX8_costs_10 rfl ?_
      refine yr_sI3 (pq := 16) rfl dX8_costs_13 kM_8_78 (by decide) cat0 (m_within hk (by decide) (by decide) (fun _ => ?_) (fun q9 => absurd qk q9))
      refine yr_if_eq (pq := 19) (t := 28) rfl dX8_costs_16 rfl (by omega) (fun q9 => absurd q9 (by decide)) (fun _ => ?_)
      refine yr_aload_n (pq := 20) rfl dX8_costs_19 rfl ?_
      refine yr_iload_n (pq := 21) rfl dX8_costs_20 rfl ?_
      refine yr_iload_n (pq := 22) rfl dX8_costs_21 rfl ?_
      refine yr_vI2 (pq := 25) rfl dX8_costs_22 kM_8_167 (by decide) (by decide) cat0 (m_costsOf (by rw [e9]; exact i2) (by rw [e9]; exact i3) q.1 (by rw [e9]; exact q.2) (by omega) ?_)
      refine yr_goto (t := 34) dX8_costs_25 rfl ?_
      refine yr_iret dX8_costs_34 rfl ⟨by rw [e9], Inv_fr hI (fun a ha => f0 a (by unfold CR at ha; omega)) ?_ ?_ ?_⟩
      · rw [f0 108 (by decide)]
      · rw [f0 108 (by decide)]
      · rw [f0 108 (by decide)]
    · refine yr_if_ne (pq := 25) (t := 31) rfl dX7_costs_22 rfl (by omega) (fun q9 => absurd (by decide) q9) (fun _ => ?_)
      refine yr_aload_n (pq := 26) rfl dX7_costs_25 rfl ?_
      refine yr_iconst (pq := 27) rfl dX7_costs_26 ?_
      refine yr_vI1 (pq := 30) rfl dX7_costs_27 kM_7_66 (by decide) (by decide) cat0 (c_finding (by decide) ?_)
      refine yr_iret dX7_costs_30 rfl ?_
      show ClI (d + 30) mX8_costs [vr 108, vi s, vi k] _ _
      refine cl_in (al := [vr 108, vi s, vi k]) rfl (Nat.le_of_ble_eq_true rfl) (by simp [vi_cat, vr_cat, vs_cat]) ?_
      refine yr_aload_n (pq := 1) rfl dX8_costs_0 rfl ?_
      refine yr_iload_n (pq := 2) rfl dX8_costs_1 rfl ?_
      refine yr_vI1 (pq := 5) rfl dX8_costs_2 kM_8_123 (by decide) (by decide) cat0 (m_isStreet hs (by rw [hu]; exact h8) (fun _ => ?_) (fun q9 => absurd (by rw [hu]; exact q) q9))
      refine yr_if_eq (pq := 8) (t := 28) rfl dX8_costs_5 rfl (by omega) (fun q9 => absurd q9 (by decide)) (fun _ => ?_)
      refine yr_iload_n (pq := 9) rfl dX8_costs_8 rfl ?_
      refine yr_iconst (pq := 10) rfl dX8_costs_9 ?_
      refine yr_sipush (pq := 13) rfl dX8_costs_10 rfl ?_
      refine yr_sI3 (pq := 16) rfl dX8_costs_13 kM_8_78 (by decide) cat0 (m_within hk (by decide) (by decide) (fun q9 => absurd q9 qk) (fun _ => ?_))
      refine yr_if_eq (pq := 19) (t := 28) rfl dX8_costs_16 rfl (by omega) (fun _ => ?_) (fun q9 => absurd (by decide) q9)
      refine yr_aload_n (pq := 29) rfl dX8_costs_28 rfl ?_
      refine yr_ldc (pq := 31) rfl dX8_costs_29 kN_8_73 ?_
      refine yr_vI1 (pq := 34) rfl dX8_costs_31 kM_8_101 (by decide) (by decide) cat0 (m_finding (by decide) (fun e e0 e1 => ?_))
      refine yr_iret dX8_costs_34 rfl ⟨rfl, find2 (k := 0) hI (by decide) (by decide) (fun a q1 q2 => up_ne q2) (up_row _ _ _ _) (fun j _ => by rw [up_ne (by decide)]) e0 e1⟩
  · refine yr_if_eq (pq := 14) (t := 25) rfl dX7_costs_11 rfl (by omega) (fun _ => ?_) (fun q9 => absurd (by decide) q9)
    refine yr_aload_n (pq := 26) rfl dX7_costs_25 rfl ?_
    refine yr_iconst (pq := 27) rfl dX7_costs_26 ?_
    refine yr_vI1 (pq := 30) rfl dX7_costs_27 kM_7_66 (by decide) (by decide) cat0 (c_finding (by decide) ?_)
    refine yr_iret dX7_costs_30 rfl ?_
    show ClI (d + 30) mX8_costs [vr 108, vi s, vi k] _ _
    refine cl_in (al := [vr 108, vi s, vi k]) rfl (Nat.le_of_ble_eq_true rfl) (by simp [vi_cat, vr_cat, vs_cat]) ?_
    refine yr_aload_n (pq := 1) rfl dX8_costs_0 rfl ?_
    refine yr_iload_n (pq := 2) rfl dX8_costs_1 rfl ?_
    refine yr_vI1 (pq := 5) rfl dX8_costs_2 kM_8_123 (by decide) (by decide) cat0 (m_isStreet hs (by rw [hu]; exact h8) (fun q9 => absurd q9 (by rw [hu]; exact q)) (fun _ => ?_))
    refine yr_if_eq (pq := 8) (t := 28) rfl dX8_costs_5 rfl (by omega) (fun _ => ?_) (fun q9 => absurd (by decide) q9)
    refine yr_aload_n (pq := 29) rfl dX8_costs_28 rfl ?_
    refine yr_ldc (pq := 31) rfl dX8_costs_29 kN_8_73 ?_
    refine yr_vI1 (pq := 34) rfl dX8_costs_31 kM_8_101 (by decide) (by decide) cat0 (m_finding (by decide) (fun e e0 e1 => ?_))
    refine yr_iret dX8_costs_34 rfl ⟨rfl, find2 (k := 0) hI (by decide) (by decide) (fun a q1 q2 => up_ne q2) (up_row _ _ _ _) (fun j _ => by rw [up_ne (by decide)]) e0 e1⟩
end S12
