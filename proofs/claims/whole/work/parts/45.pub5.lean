/-! round, ith -/
section S5
variable {d : Nat} {h : hT} {g : Int}
theorem s_round (hI : Inv h) : Sm (d + 30) mX7_round mX8_round [] h := by
  have hI0 := hI
  obtain ⟨⟨i1, i2, i3, i3'⟩, -, -, -, -, -, i11⟩ := hI0
  have hia := fnd_ia (g := -1) (w := -1) i3
  have hn := fndF_n (-1) (-1) (h 109)
  have hm := i3.2.2.1
  unfold IA at hia
  show ClI (d + 30) mX7_round [vr 0] h _
  refine cl_in (al := [vr 0]) rfl (Nat.le_of_ble_eq_true rfl) (by simp [vi_cat, vr_cat, vs_cat]) ?_
  refine yr_aload_n (pq := 1) rfl dX7_round_0 rfl ?_
  refine yr_vI0 (pq := 4) rfl dX7_round_1 kM_7_212 (by decide) (by decide) cat0 (c_isPast i1 i3 (fun q => ?_) (fun q => ?_))
  · refine yr_if_eq (pq := 7) (t := 13) rfl dX7_round_4 rfl (by omega) (fun q9 => absurd q9 (by decide)) (fun _ => ?_)
    refine yr_aload_n (pq := 8) rfl dX7_round_7 rfl ?_
    refine yr_iconst (pq := 9) rfl dX7_round_8 ?_
    refine yr_vI1 (pq := 12) rfl dX7_round_9 kM_7_66 (by decide) (by decide) cat0 (c_finding (by decide) ?_)
    refine yr_iret dX7_round_12 rfl ?_
    show ClI (d + 30) mX8_round [vr 108] _ _
    have e9 : up h 99 4 (h 99 4 + 1) 109 = h 109 := up_ne (by decide)
    refine cl_in (al := [vr 108, .null]) rfl (Nat.le_of_ble_eq_true rfl) (by simp [vi_cat, vr_cat, vs_cat]) ?_
    refine yr_aload_n (pq := 1) rfl dX8_round_0 rfl ?_
    refine yr_vI0 (pq := 4) rfl dX8_round_1 kM_8_201 (by decide) (by decide) cat0 (m_isLate (by rw [e9]; omega) (fun _ => ?_) (fun q9 => absurd q9 (by rw [e9]; omega)))
    refine yr_if_eq (pq := 7) (t := 14) rfl dX8_round_4 rfl (by omega) (fun q9 => absurd q9 (by decide)) (fun _ => ?_)
    refine yr_aload_n (pq := 8) rfl dX8_round_7 rfl ?_
    refine yr_ldc (pq := 10) rfl dX8_round_8 kN_8_159 ?_
    refine yr_vI1 (pq := 13) rfl dX8_round_10 kM_8_101 (by decide) (by decide) cat0 (m_finding (by decide) (fun e e0 e1 => ?_))
    refine yr_iret dX8_round_13 rfl ⟨rfl, find2 (k := 4) hI (by decide) (by decide) (fun a q1 q2 => up_ne q2) (up_row _ _ _ _) (fun j _ => by rw [up_ne (by decide)]) e0 e1⟩
  · refine yr_if_eq (pq := 7) (t := 13) rfl dX7_round_4 rfl (by omega) (fun _ => ?_) (fun q9 => absurd (by decide) q9)
    refine yr_aload_n (pq := 14) rfl dX7_round_13 rfl ?_
    refine yr_aload_n (pq := 15) rfl dX7_round_14 rfl ?_
    refine yr_getR (pq := 18) (b := 1) 0 rfl dX7_round_15 kF_7_10 (by decide) rfl ?_
    refine yr_getR (pq := 21) (b := 2) 0 rfl dX7_round_18 kF_7_70 (by decide) rfl ?_
    refine yr_aload_n (pq := 22) rfl dX7_round_21 rfl ?_
    refine yr_getR (pq := 25) (b := 1) 0 rfl dX7_round_22 kF_7_10 (by decide) rfl ?_
    refine yr_getR (pq := 28) (b := 22) 1 rfl dX7_round_25 kF_7_135 (by decide) rfl ?_
    refine yr_getI (pq := 31) 1 rfl dX7_round_28 kF_7_139 (by decide) rfl (by decide) ?_
    refine yr_iconst (pq := 32) rfl dX7_round_31 ?_
    rw [i1.2.2.1]
    refine yr_vV3 (pq := 35) rfl dX7_round_32 kM_7_215 (by decide) (by decide) cat0 (c_seekRounds (N := h 109) (T := 2) (w := -1) (by decide) i1.1 i2 i3 rfl i1.2.1 i1.2.2.2.1 i1.2.2.2.2.1 i1.2.2.2.2.2.1 (by decide) i3' (fun f f0 f1 => ?_))
    have hb := f1.2.2.2.2.2.2.1.1
    refine yr_aload_n (pq := 36) rfl dX7_round_35 rfl ?_
    refine yr_getR (pq := 39) (b := 69) 4 rfl dX7_round_36 kF_7_33 (by decide) rfl ?_
    refine yr_getI (pq := 42) 12 rfl dX7_round_39 kF_7_209 (by decide) rfl (by decide) ?_
    rw [f1.1]
    refine yr_if_ne (pq := 45) (t := 53) rfl dX7_round_42 rfl (by omega) (fun q5 => ?_) (fun q5 => ?_)
    · refine yr_aload_n (pq := 54) rfl dX7_round_53 rfl ?_
      refine yr_getR (pq := 57) (b := 69) 4 rfl dX7_round_54 kF_7_33 (by decide) rfl ?_
      refine yr_getI (pq := 60) 13 rfl dX7_round_57 kF_7_193 (by decide) rfl (by decide) ?_
      rw [f1.2.1]
      refine yr_iret dX7_round_60 rfl ?_
      show ClI (d + 30) mX8_round [vr 108] _ _
      have e9 : f 109 = h 109 := f0 109 (by decide)
      have e8 : f 108 = h 108 := f0 108 (by decide)
      refine cl_in (al := [vr 108, .null]) rfl (Nat.le_of_ble_eq_true rfl) (by simp [vi_cat, vr_cat, vs_cat]) ?_
      refine yr_aload_n (pq := 1) rfl dX8_round_0 rfl ?_
      refine yr_vI0 (pq := 4) rfl dX8_round_1 kM_8_201 (by decide) (by decide) cat0 (m_isLate (by rw [e9]; omega) (fun q9 => absurd q9 (by rw [e9]; omega)) (fun _ => ?_))
      refine yr_if_eq (pq := 7) (t := 14) rfl dX8_round_4 rfl (by omega) (fun _ => ?_) (fun q9 => absurd (by decide) q9)
      refine yr_aload_n (pq := 15) rfl dX8_round_14 rfl ?_
      refine yr_vI0 (pq := 18) rfl dX8_round_15 kM_8_220 (by decide) (by decide) cat0 (m_bestRound (w := -1) (by rw [e9]; exact i2) (by rw [e9]; exact i3) (by rw [e8]; exact i11) (by decide) (by rw [e9]; exact i3') (fun x x0 x1 => ?_))
      rw [e9] at x1 ⊢
      refine yr_istore1 (pq := 19) rfl dX8_round_18 ?_
      refine yr_iload_n (pq := 20) rfl dX8_round_19 rfl ?_
      refine yr_if_ge (pq := 23) (t := 32) rfl dX8_round_20 rfl (by omega) (fun _ => ?_) (fun q9 => absurd (by omega) q9)
      refine yr_iload_n (pq := 33) rfl dX8_round_32 rfl ?_
      refine yr_iret dX8_round_33 rfl ⟨rfl, Inv_sr hI f0 x0⟩
    · refine yr_aload_n (pq := 46) rfl dX7_round_45 rfl ?_
      refine yr_iconst (pq := 47) rfl dX7_round_46 ?_
      refine yr_vI1 (pq := 50) rfl dX7_round_47 kM_7_66 (by decide) (by decide) cat0 (c_finding (by decide) ?_)
      refine yr_goto (t := 60) dX7_round_50 rfl ?_
      refine yr_iret dX7_round_60 rfl ?_
      show ClI (d + 30) mX8_round [vr 108] _ _
      have e9 : up f 99 3 (f 99 3 + 1) 109 = h 109 := by rw [up_ne (by decide)]; exact f0 109 (by decide)
      have e8 : up f 99 3 (f 99 3 + 1) 108 = h 108 := by rw [up_ne (by decide)]; exact f0 108 (by decide)
      refine cl_in (al := [vr 108, .null]) rfl (Nat.le_of_ble_eq_true rfl) (by simp [vi_cat, vr_cat, vs_cat]) ?_
      refine yr_aload_n (pq := 1) rfl dX8_round_0 rfl ?_
      refine yr_vI0 (pq := 4) rfl dX8_round_1 kM_8_201 (by decide) (by decide) cat0 (m_isLate (by rw [e9]; omega) (fun q9 => absurd q9 (by rw [e9]; omega)) (fun _ => ?_))
      refine yr_if_eq (pq := 7) (t := 14) rfl dX8_round_4 rfl (by omega) (fun _ => ?_) (fun q9 => absurd (by decide) q9)
      refine yr_aload_n (pq := 15) rfl dX8_round_14 rfl ?_
      refine yr_vI0 (pq := 18) rfl dX8_round_15 kM_8_220 (by decide) (by decide) cat0 (m_bestRound (w := -1) (by rw [e9]; exact i2) (by rw [e9]; exact i3) (by rw [e8]; exact i11) (by decide) (by rw [e9]; exact i3') (fun x x0 x1 => ?_))
      rw [e9] at x1 ⊢
      refine yr_istore1 (pq := 19) rfl dX8_round_18 ?_
      refine yr_iload_n (pq := 20) rfl dX8_round_19 rfl ?_
      refine yr_if_ge (pq := 23) (t := 32) rfl dX8_round_20 rfl (by omega) (fun q9 => absurd q9 (by omega)) (fun _ => ?_)
      refine yr_aload_n (pq := 24) rfl dX8_round_23 rfl ?_
      refine yr_ldc (pq := 26) rfl dX8_round_24 kN_8_144 ?_
      refine yr_vI1 (pq := 29) rfl dX8_round_26 kM_8_101 (by decide) (by decide) cat0 (m_finding (by decide) (fun e e0 e1 => ?_))
      refine yr_goto (t := 33) dX8_round_29 rfl ?_
      refine yr_iret dX8_round_33 rfl ⟨rfl, find3 (k := 3) hI (by decide) (by decide) f0 x0 e0 e1⟩
end S5
