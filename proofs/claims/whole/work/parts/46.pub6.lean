/-! ith -/
section S6
variable {d : Nat} {h : hT} {g : Int}
theorem s_ith {k : Int} (hI : Inv h) (hk : -2147483648 ≤ k ∧ k ≤ 2147483647) : Sm (d + 30) mX7_ith mX8_ith [vi k] h := by
  have hI0 := hI
  obtain ⟨⟨i1, i2, i3, i3'⟩, -, -, -, -, -, i11⟩ := hI0
  have hia := fnd_ia (g := -1) (w := -1) i3
  have hn := fndF_n (-1) (-1) (h 109)
  have hm := i3.2.2.1
  unfold IA at hia
  show ClI (d + 30) mX7_ith [vr 0, vi k] h _
  refine cl_in (al := [vr 0, vi k]) rfl (Nat.le_of_ble_eq_true rfl) (by simp [vi_cat, vr_cat, vs_cat]) ?_
  refine yr_iload_n (pq := 1) rfl dX7_ith_0 rfl ?_
  refine yr_iconst (pq := 2) rfl dX7_ith_1 ?_
  refine yr_bipush (pq := 4) rfl dX7_ith_2 rfl ?_
  refine yr_sI3 (pq := 7) rfl dX7_ith_4 kM_7_62 (by decide) cat0 (c_isIn hk (by decide) (by decide) (fun qk => ?_) (fun qk => ?_))
  · refine yr_if_ne (pq := 10) (t := 16) rfl dX7_ith_7 rfl (by omega) (fun _ => ?_) (fun q9 => absurd q9 (by decide))
    refine yr_aload_n (pq := 17) rfl dX7_ith_16 rfl ?_
    refine yr_vI0 (pq := 20) rfl dX7_ith_17 kM_7_212 (by decide) (by decide) cat0 (c_isPast i1 i3 (fun q => ?_) (fun q => ?_))
    · refine yr_if_eq (pq := 23) (t := 29) rfl dX7_ith_20 rfl (by omega) (fun q9 => absurd q9 (by decide)) (fun _ => ?_)
      refine yr_aload_n (pq := 24) rfl dX7_ith_23 rfl ?_
      refine yr_iconst (pq := 25) rfl dX7_ith_24 ?_
      refine yr_vI1 (pq := 28) rfl dX7_ith_25 kM_7_66 (by decide) (by decide) cat0 (c_finding (by decide) ?_)
      refine yr_iret dX7_ith_28 rfl ?_
      show ClI (d + 30) mX8_ith [vr 108, vi k] _ _
      have e9 : up h 99 4 (h 99 4 + 1) 109 = h 109 := up_ne (by decide)
      refine cl_in (al := [vr 108, vi k]) rfl (Nat.le_of_ble_eq_true rfl) (by simp [vi_cat, vr_cat, vs_cat]) ?_
      refine yr_iload_n (pq := 1) rfl dX8_ith_0 rfl ?_
      refine yr_sI1 (pq := 4) rfl dX8_ith_1 kM_8_211 (by decide) cat0 (m_isPlace hk (fun _ => ?_) (fun q9 => absurd qk q9))
      refine yr_if_ne (pq := 7) (t := 14) rfl dX8_ith_4 rfl (by omega) (fun _ => ?_) (fun q9 => absurd q9 (by decide))
      refine yr_aload_n (pq := 15) rfl dX8_ith_14 rfl ?_
      refine yr_vI0 (pq := 18) rfl dX8_ith_15 kM_8_201 (by decide) (by decide) cat0 (m_isLate (by rw [e9]; omega) (fun _ => ?_) (fun q9 => absurd q9 (by rw [e9]; omega)))
      refine yr_if_eq (pq := 21) (t := 28) rfl dX8_ith_18 rfl (by omega) (fun q9 => absurd q9 (by decide)) (fun _ => ?_)
      refine yr_aload_n (pq := 22) rfl dX8_ith_21 rfl ?_
      refine yr_ldc (pq := 24) rfl dX8_ith_22 kN_8_159 ?_
      refine yr_vI1 (pq := 27) rfl dX8_ith_24 kM_8_101 (by decide) (by decide) cat0 (m_finding (by decide) (fun e e0 e1 => ?_))
      refine yr_iret dX8_ith_27 rfl ⟨rfl, find2 (k := 4) hI (by decide) (by decide) (fun a q1 q2 => up_ne q2) (up_row _ _ _ _) (fun j _ => by rw [up_ne (by decide)]) e0 e1⟩
    · refine yr_if_eq (pq := 23) (t := 29) rfl dX7_ith_20 rfl (by omega) (fun _ => ?_) (fun q9 => absurd (by decide) q9)
      refine yr_aload_n (pq := 30) rfl dX7_ith_29 rfl ?_
      refine yr_aload_n (pq := 31) rfl dX7_ith_30 rfl ?_
      refine yr_getR (pq := 34) (b := 1) 0 rfl dX7_ith_31 kF_7_10 (by decide) rfl ?_
      refine yr_getR (pq := 37) (b := 2) 0 rfl dX7_ith_34 kF_7_70 (by decide) rfl ?_
      refine yr_aload_n (pq := 38) rfl dX7_ith_37 rfl ?_
      refine yr_getR (pq := 41) (b := 1) 0 rfl dX7_ith_38 kF_7_10 (by decide) rfl ?_
      refine yr_getR (pq := 44) (b := 22) 1 rfl dX7_ith_41 kF_7_135 (by decide) rfl ?_
      refine yr_getI (pq := 47) 1 rfl dX7_ith_44 kF_7_139 (by decide) rfl (by decide) ?_
      refine yr_iconst (pq := 48) rfl dX7_ith_47 ?_
      rw [i1.2.2.1]
      refine yr_vV3 (pq := 51) rfl dX7_ith_48 kM_7_215 (by decide) (by decide) cat0 (c_seekRounds (N := h 109) (T := 2) (w := -1) (by decide) i1.1 i2 i3 rfl i1.2.1 i1.2.2.2.1 i1.2.2.2.2.1 i1.2.2.2.2.2.1 (by decide) i3' (fun f f0 f1 => ?_))
      have hb := f1.2.2.2.2.2.2.1.1
      have hsz := f1.2.2.2.2.2.2.1.2.1
      refine yr_iload_n (pq := 52) rfl dX7_ith_51 rfl ?_
      refine yr_aload_n (pq := 53) rfl dX7_ith_52 rfl ?_
      refine yr_getR (pq := 56) (b := 69) 4 rfl dX7_ith_53 kF_7_33 (by decide) rfl ?_
      refine yr_getI (pq := 59) 16 rfl dX7_ith_56 kF_7_196 (by decide) rfl (by decide) ?_
      rw [f1.2.2.1]
      refine yr_ic_ge (pq := 62) (t := 74) rfl dX7_ith_59 rfl (by omega) (by omega) (fun q5 => ?_) (fun q5 => ?_)
      · refine yr_aload_n (pq := 75) rfl dX7_ith_74 rfl ?_
        refine yr_iconst (pq := 76) rfl dX7_ith_75 ?_
        refine yr_vI1 (pq := 79) rfl dX7_ith_76 kM_7_66 (by decide) (by decide) cat0 (c_finding (by decide) ?_)
        refine yr_iret dX7_ith_79 rfl ?_
        show ClI (d + 30) mX8_ith [vr 108, vi k] _ _
        have e9 : up f 99 3 (f 99 3 + 1) 109 = h 109 := by rw [up_ne (by decide)]; exact f0 109 (by decide)
        have e8 : up f 99 3 (f 99 3 + 1) 108 = h 108 := by rw [up_ne (by decide)]; exact f0 108 (by decide)
        refine cl_in (al := [vr 108, vi k]) rfl (Nat.le_of_ble_eq_true rfl) (by simp [vi_cat, vr_cat, vs_cat]) ?_
        refine yr_iload_n (pq := 1) rfl dX8_ith_0 rfl ?_
        refine yr_sI1 (pq := 4) rfl dX8_ith_1 kM_8_211 (by decide) cat0 (m_isPlace hk (fun _ => ?_) (fun q9 => absurd qk q9))
        refine yr_if_ne (pq := 7) (t := 14) rfl dX8_ith_4 rfl (by omega) (fun _ => ?_) (fun q9 => absurd q9 (by decide))
        refine yr_aload_n (pq := 15) rfl dX8_ith_14 rfl ?_
        refine yr_vI0 (pq := 18) rfl dX8_ith_15 kM_8_201 (by decide) (by decide) cat0 (m_isLate (by rw [e9]; omega) (fun q9 => absurd q9 (by rw [e9]; omega)) (fun _ => ?_))
        refine yr_if_eq (pq := 21) (t := 28) rfl dX8_ith_18 rfl (by omega) (fun _ => ?_) (fun q9 => absurd (by decide) q9)
        refine yr_aload_n (pq := 29) rfl dX8_ith_28 rfl ?_
        refine yr_vI0 (pq := 32) rfl dX8_ith_29 kM_8_220 (by decide) (by decide) cat0 (m_bestRound (w := -1) (by rw [e9]; exact i2) (by rw [e9]; exact i3) (by rw [e8]; exact i11) (by decide) (by rw [e9]; exact i3') (fun x x0 x1 => ?_))
        rw [e9] at x1 ⊢
        refine yr_if_lt (pq := 35) (t := 43) rfl dX8_ith_32 rfl (by omega) (fun q6 => ?_) (fun q6 => ?_)
        · refine yr_aload_n (pq := 44) rfl dX8_ith_43 rfl ?_
          refine yr_ldc (pq := 46) rfl dX8_ith_44 kN_8_144 ?_
          refine yr_vI1 (pq := 49) rfl dX8_ith_46 kM_8_101 (by decide) (by decide) cat0 (m_finding (by decide) (fun e e0 e1 => ?_))
          refine yr_goto (t := 58) dX8_ith_49 rfl ?_
          refine yr_iret dX8_ith_58 rfl ⟨rfl, find3 (k := 3) hI (by decide) (by decide) f0 x0 e0 e1⟩
        · refine yr_iload_n (pq := 36) rfl dX8_ith_35 rfl ?_
          refine yr_aload_n (pq := 37) rfl dX8_ith_36 rfl ?_
          refine yr_getI (pq := 40) 9 rfl dX8_ith_37 kF_8_179 (by decide) rfl (by decide) ?_
          rw [x1.2.2.1]
          refine yr_ic_lt (pq := 43) (t := 52) rfl dX8_ith_40 rfl (by omega) (by omega) (fun q9 => absurd q9 (by omega)) (fun _ => ?_)
          refine yr_aload_n (pq := 44) rfl dX8_ith_43 rfl ?_
          refine yr_ldc (pq := 46) rfl dX8_ith_44 kN_8_144 ?_
          refine yr_vI1 (pq := 49) rfl dX8_ith_46 kM_8_101 (by decide) (by decide) cat0 (m_finding (by decide) (fun e e0 e1 => ?_))
          refine yr_goto (t := 58) dX8_ith_49 rfl ?_
          refine yr_iret dX8_ith_58 rfl ⟨rfl, find3 (k := 3) hI (by decide) (by decide) f0 x0 e0 e1⟩
      · refine yr_aload_n (pq := 63) rfl dX7_ith_62 rfl ?_
        refine yr_getR (pq := 66) (b := 69) 4 rfl dX7_ith_63 kF_7_33 (by decide) rfl ?_
        refine yr_getR (pq := 69) (b := 75) 15 rfl dX7_ith_66 kF_7_199 (by decide) rfl ?_
        refine yr_iload_n (pq := 70) rfl dX7_ith_69 rfl ?_
        refine yr_iald (pq := 71) rfl dX7_ith_70 rfl (by decide) (by omega) ?_
        refine yr_goto (t := 79) dX7_ith_71 rfl ?_
        rw [f1.2.2.2.2.2.1 k qk.1 (by omega)]
        refine yr_iret dX7_ith_79 rfl ?_
        show ClI (d + 30) mX8_ith [vr 108, vi k] _ _
        have e9 : f 109 = h 109 := f0 109 (by decide)
        have e8 : f 108 = h 108 := f0 108 (by decide)
        refine cl_in (al := [vr 108, vi k]) rfl (Nat.le_of_ble_eq_true rfl) (by simp [vi_cat, vr_cat, vs_cat]) ?_
        refine yr_iload_n (pq := 1) rfl dX8_ith_0 rfl ?_
        refine yr_sI1 (pq := 4) rfl dX8_ith_1 kM_8_211 (by decide) cat0 (m_isPlace hk (fun _ => ?_) (fun q9 => absurd qk q9))
        refine yr_if_ne (pq := 7) (t := 14) rfl dX8_ith_4 rfl (by omega) (fun _ => ?_) (fun q9 => absurd q9 (by decide))
        refine yr_aload_n (pq := 15) rfl dX8_ith_14 rfl ?_
        refine yr_vI0 (pq := 18) rfl dX8_ith_15 kM_8_201 (by decide) (by decide) cat0 (m_isLate (by rw [e9]; omega) (fun q9 => absurd q9 (by rw [e9]; omega)) (fun _ => ?_))
        refine yr_if_eq (pq := 21) (t := 28) rfl dX8_ith_18 rfl (by omega) (fun _ => ?_) (fun q9 => absurd (by decide) q9)
        refine yr_aload_n (pq := 29) rfl dX8_ith_28 rfl ?_
        refine yr_vI0 (pq := 32) rfl dX8_ith_29 kM_8_220 (by decide) (by decide) cat0 (m_bestRound (w := -1) (by rw [e9]; exact i2) (by rw [e9]; exact i3) (by rw [e8]; exact i11) (by decide) (by rw [e9]; exact i3') (fun x x0 x1 => ?_))
        rw [e9] at x1 ⊢
        refine yr_if_lt (pq := 35) (t := 43) rfl dX8_ith_32 rfl (by omega) (fun q9 => absurd q9 (by omega)) (fun _ => ?_)
        refine yr_iload_n (pq := 36) rfl dX8_ith_35 rfl ?_
        refine yr_aload_n (pq := 37) rfl dX8_ith_36 rfl ?_
        refine yr_getI (pq := 40) 9 rfl dX8_ith_37 kF_8_179 (by decide) rfl (by decide) ?_
        rw [x1.2.2.1]
        refine yr_ic_lt (pq := 43) (t := 52) rfl dX8_ith_40 rfl (by omega) (by omega) (fun _ => ?_) (fun q9 => absurd (by omega) q9)
        refine yr_aload_n (pq := 53) rfl dX8_ith_52 rfl ?_
        refine yr_getR (pq := 56) (b := 115) 8 rfl dX8_ith_53 kF_8_32 (by decide) rfl ?_
        refine yr_iload_n (pq := 57) rfl dX8_ith_56 rfl ?_
        refine yr_iald (pq := 58) rfl dX8_ith_57 rfl (by decide) (by omega) ?_
        rw [x1.2.2.2.2.1 k qk.1 (by omega)]
        refine yr_iret dX8_ith_58 rfl ⟨rfl, Inv_sr hI f0 x0⟩
  · refine yr_if_ne (pq := 10) (t := 16) rfl dX7_ith_7 rfl (by omega) (fun q9 => absurd (by decide) q9) (fun _ => ?_)
    refine yr_aload_n (pq := 11) rfl dX7_ith_10 rfl ?_
    refine yr_iconst (pq := 12) rfl dX7_ith_11 ?_
    refine yr_vI1 (pq := 15) rfl dX7_ith_12 kM_7_66 (by decide) (by decide) cat0 (c_finding (by decide) ?_)
    refine yr_iret dX7_ith_15 rfl ?_
    show ClI (d + 30) mX8_ith [vr 108, vi k] _ _
    refine cl_in (al := [vr 108, vi k]) rfl (Nat.le_of_ble_eq_true rfl) (by simp [vi_cat, vr_cat, vs_cat]) ?_
    refine yr_iload_n (pq := 1) rfl dX8_ith_0 rfl ?_
    refine yr_sI1 (pq := 4) rfl dX8_ith_1 kM_8_211 (by decide) cat0 (m_isPlace hk (fun q9 => absurd q9 qk) (fun _ => ?_))
    refine yr_if_ne (pq := 7) (t := 14) rfl dX8_ith_4 rfl (by omega) (fun q9 => absurd (by decide) q9) (fun _ => ?_)
    refine yr_aload_n (pq := 8) rfl dX8_ith_7 rfl ?_
    refine yr_ldc (pq := 10) rfl dX8_ith_8 kN_8_73 ?_
    refine yr_vI1 (pq := 13) rfl dX8_ith_10 kM_8_101 (by decide) (by decide) cat0 (m_finding (by decide) (fun e e0 e1 => ?_))
    refine yr_iret dX8_ith_13 rfl ⟨rfl, find2 (k := 0) hI (by decide) (by decide) (fun a q1 q2 => up_ne q2) (up_row _ _ _ _) (fun j _ => by rw [up_ne (by decide)]) e0 e1⟩
end S6
