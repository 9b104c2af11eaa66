/-! next, by -/
section S8
variable {d : Nat} {h : hT} {g : Int}
theorem s_next {k : Int} (hI : Inv h) (hk : -2147483648 ≤ k ∧ k ≤ 2147483647) : Sm (d + 30) mX7_next mX8_next [vi k] h := by
  have hI0 := hI
  obtain ⟨⟨i1, i2, i3, i3'⟩, -, -, -, -, -, i11⟩ := hI0
  show ClI (d + 30) mX7_next [vr 0, vi k] h _
  refine cl_in (al := [vr 0, vi k]) rfl (Nat.le_of_ble_eq_true rfl) (by simp [vi_cat, vr_cat, vs_cat]) ?_
  refine yr_iload_n (pq := 1) rfl dX7_next_0 rfl ?_
  refine yr_sI1 (pq := 4) rfl dX7_next_1 kM_7_59 (by decide) cat0 (c_isCorner hk (fun qk => ?_) (fun qk => ?_))
  · refine yr_if_ne (pq := 7) (t := 13) rfl dX7_next_4 rfl (by omega) (fun _ => ?_) (fun q9 => absurd q9 (by decide))
    refine yr_aload_n (pq := 14) rfl dX7_next_13 rfl ?_
    refine yr_getR (pq := 17) (b := 1) 0 rfl dX7_next_14 kF_7_10 (by decide) rfl ?_
    refine yr_getR (pq := 20) (b := 2) 0 rfl dX7_next_17 kF_7_70 (by decide) rfl ?_
    refine yr_iload_n (pq := 21) rfl dX7_next_20 rfl ?_
    refine yr_vI1 (pq := 24) rfl dX7_next_21 kM_7_148 (by decide) (tw_c (by decide)) cat0 (c_neighbours (N := h 109) (T := 2) (by decide) i1.1 i2 qk ?_)
    refine yr_iret dX7_next_24 rfl ?_
    show ClI (d + 30) mX8_next [vr 108, vi k] _ _
    refine cl_in (al := [vr 108, vi k]) rfl (Nat.le_of_ble_eq_true rfl) (by simp [vi_cat, vr_cat, vs_cat]) ?_
    refine yr_iload_n (pq := 1) rfl dX8_next_0 rfl ?_
    refine yr_sI1 (pq := 4) rfl dX8_next_1 kM_8_98 (by decide) cat0 (m_isCorner hk (fun _ => ?_) (fun q9 => absurd qk q9))
    refine yr_if_eq (pq := 7) (t := 15) rfl dX8_next_4 rfl (by omega) (fun q9 => absurd q9 (by decide)) (fun _ => ?_)
    refine yr_aload_n (pq := 8) rfl dX8_next_7 rfl ?_
    refine yr_iload_n (pq := 9) rfl dX8_next_8 rfl ?_
    refine yr_vI1 (pq := 12) rfl dX8_next_9 kM_8_141 (by decide) (by decide) cat0 (m_nextTo i2 i11 (by decide) qk ?_)
    refine yr_goto (t := 21) dX8_next_12 rfl ?_
    refine yr_iret dX8_next_21 rfl ⟨rfl, hI⟩
  · refine yr_if_ne (pq := 7) (t := 13) rfl dX7_next_4 rfl (by omega) (fun q9 => absurd (by decide) q9) (fun _ => ?_)
    refine yr_aload_n (pq := 8) rfl dX7_next_7 rfl ?_
    refine yr_iconst (pq := 9) rfl dX7_next_8 ?_
    refine yr_vI1 (pq := 12) rfl dX7_next_9 kM_7_66 (by decide) (by decide) cat0 (c_finding (by decide) ?_)
    refine yr_iret dX7_next_12 rfl ?_
    show ClI (d + 30) mX8_next [vr 108, vi k] _ _
    refine cl_in (al := [vr 108, vi k]) rfl (Nat.le_of_ble_eq_true rfl) (by simp [vi_cat, vr_cat, vs_cat]) ?_
    refine yr_iload_n (pq := 1) rfl dX8_next_0 rfl ?_
    refine yr_sI1 (pq := 4) rfl dX8_next_1 kM_8_98 (by decide) cat0 (m_isCorner hk (fun q9 => absurd q9 qk) (fun _ => ?_))
    refine yr_if_eq (pq := 7) (t := 15) rfl dX8_next_4 rfl (by omega) (fun _ => ?_) (fun q9 => absurd (by decide) q9)
    refine yr_aload_n (pq := 16) rfl dX8_next_15 rfl ?_
    refine yr_ldc (pq := 18) rfl dX8_next_16 kN_8_73 ?_
    refine yr_vI1 (pq := 21) rfl dX8_next_18 kM_8_101 (by decide) (by decide) cat0 (m_finding (by decide) (fun e e0 e1 => ?_))
    refine yr_iret dX8_next_21 rfl ⟨rfl, find2 (k := 0) hI (by decide) (by decide) (fun a q1 q2 => up_ne q2) (up_row _ _ _ _) (fun j _ => by rw [up_ne (by decide)]) e0 e1⟩
end S8
