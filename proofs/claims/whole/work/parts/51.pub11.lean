/-! now -/
section S11
variable {d : Nat} {h : hT} {g : Int}
theorem s_now {k : Int} (hI : Inv h) (hk : -2147483648 ≤ k ∧ k ≤ 2147483647) : Sm (d + 30) mX7_now mX8_now [vi k] h := by
  have hI0 := hI
  obtain ⟨⟨i1, i2, i3, i3'⟩, -, -, -, -, -, i11⟩ := hI0
  obtain ⟨r0, r1, r2, r3, r4, r5, r6, r7, r8⟩ := i1
  have hr : ∀ (z : Int), (0 ≤ k ∧ k ≤ 9) → z = (if k < 4 then h 109 (45 + k) else if k = 4 then totF (h 109) else if k = 5 then h 109 44 else h 109 (49 + k - 6)) → ClI (d + 30) mX8_now [vr 108, vi k] h (fun r2 h2 => r2 = z ∧ Inv h2) := by
    intro z qk hz
    refine cl_in (al := [vr 108, vi k]) rfl (Nat.le_of_ble_eq_true rfl) (by simp [vi_cat, vr_cat, vs_cat]) ?_
    refine yr_iload_n (pq := 1) rfl dX8_now_0 rfl ?_
    refine yr_iconst (pq := 2) rfl dX8_now_1 ?_
    refine yr_bipush (pq := 4) rfl dX8_now_2 rfl ?_
    refine yr_sI3 (pq := 7) rfl dX8_now_4 kM_8_78 (by decide) cat0 (m_within hk (by decide) (by decide) (fun _ => ?_) (fun q9 => absurd qk q9))
    refine yr_if_ne (pq := 10) (t := 17) rfl dX8_now_7 rfl (by omega) (fun _ => ?_) (fun q9 => absurd q9 (by decide))
    refine yr_iload_n (pq := 18) rfl dX8_now_17 rfl ?_
    refine yr_iconst (pq := 19) rfl dX8_now_18 ?_
    refine yr_ic_ge (pq := 22) (t := 34) rfl dX8_now_19 rfl (by omega) (by omega) (fun q => ?_) (fun q => ?_)
    · refine yr_iload_n (pq := 35) rfl dX8_now_34 rfl ?_
      refine yr_iconst (pq := 36) rfl dX8_now_35 ?_
      refine yr_ic_ne (pq := 39) (t := 46) rfl dX8_now_36 rfl (by omega) (by omega) (fun q2 => ?_) (fun q2 => ?_)
      · refine yr_iload_n (pq := 47) rfl dX8_now_46 rfl ?_
        refine yr_iconst (pq := 48) rfl dX8_now_47 ?_
        refine yr_ic_ne (pq := 51) (t := 61) rfl dX8_now_48 rfl (by omega) (by omega) (fun q3 => ?_) (fun q3 => ?_)
        · refine yr_aload_n (pq := 62) rfl dX8_now_61 rfl ?_
          refine yr_getR (pq := 65) (b := 109) 0 rfl dX8_now_62 kF_8_9 (by decide) rfl ?_
          refine yr_bipush (pq := 67) rfl dX8_now_65 rfl ?_
          refine yr_iload_n (pq := 68) rfl dX8_now_67 rfl ?_
          refine yr_iadd (pq := 69) rfl dX8_now_68 ?_
          refine yr_bipush (pq := 71) rfl dX8_now_69 rfl ?_
          refine yr_isub (pq := 72) rfl dX8_now_71 ?_
          refine yr_iald (pq := 73) rfl dX8_now_72 rfl (by decide) (by omega) ?_
          refine yr_iret dX8_now_73 rfl ⟨?_, hI⟩
          rw [hz, if_neg (by omega), if_neg q2, if_neg q3]
        · refine yr_aload_n (pq := 52) rfl dX8_now_51 rfl ?_
          refine yr_getR (pq := 55) (b := 109) 0 rfl dX8_now_52 kF_8_9 (by decide) rfl ?_
          refine yr_bipush (pq := 57) rfl dX8_now_55 rfl ?_
          refine yr_iald (pq := 58) rfl dX8_now_57 rfl (by decide) (by omega) ?_
          refine yr_goto (t := 73) dX8_now_58 rfl ?_
          refine yr_iret dX8_now_73 rfl ⟨?_, hI⟩
          rw [hz, if_neg (by omega), if_neg q2, if_pos (by omega)]
      · refine yr_aload_n (pq := 40) rfl dX8_now_39 rfl ?_
        refine yr_vI0 (pq := 43) rfl dX8_now_40 kM_8_145 (by decide) (by decide) cat0 (m_allGrains ?_)
        refine yr_goto (t := 73) dX8_now_43 rfl ?_
        refine yr_iret dX8_now_73 rfl ⟨?_, hI⟩
        rw [hz, if_neg (by omega), if_pos (by omega)]
    · refine yr_aload_n (pq := 23) rfl dX8_now_22 rfl ?_
      refine yr_getR (pq := 26) (b := 109) 0 rfl dX8_now_23 kF_8_9 (by decide) rfl ?_
      refine yr_bipush (pq := 28) rfl dX8_now_26 rfl ?_
      refine yr_iload_n (pq := 29) rfl dX8_now_28 rfl ?_
      refine yr_iadd (pq := 30) rfl dX8_now_29 ?_
      refine yr_iald (pq := 31) rfl dX8_now_30 rfl (by decide) (by omega) ?_
      refine yr_goto (t := 73) dX8_now_31 rfl ?_
      refine yr_iret dX8_now_73 rfl ⟨?_, hI⟩
      rw [hz, if_pos (by omega)]
  show ClI (d + 30) mX7_now [vr 0, vi k] h _
  refine cl_in (al := [vr 0, vi k, .null]) rfl (Nat.le_of_ble_eq_true rfl) (by simp [vi_cat, vr_cat, vs_cat]) ?_
  refine yr_aload_n (pq := 1) rfl dX7_now_0 rfl ?_
  refine yr_getR (pq := 4) (b := 1) 0 rfl dX7_now_1 kF_7_10 (by decide) rfl ?_
  refine yr_getR (pq := 7) (b := 22) 1 rfl dX7_now_4 kF_7_135 (by decide) rfl ?_
  refine yr_astore2 (pq := 8) rfl dX7_now_7 ?_
  refine yr_iload_n (pq := 9) rfl dX7_now_8 rfl ?_
  refine yr_iconst (pq := 10) rfl dX7_now_9 ?_
  refine yr_iconst (pq := 11) rfl dX7_now_10 ?_
  refine yr_sI3 (pq := 14) rfl dX7_now_11 kM_7_62 (by decide) cat0 (c_isIn hk (by decide) (by decide) (fun qk => ?_) (fun qk => ?_))
  · refine yr_if_eq (pq := 17) (t := 24) rfl dX7_now_14 rfl (by omega) (fun q9 => absurd q9 (by decide)) (fun _ => ?_)
    refine yr_aload_n (pq := 18) rfl dX7_now_17 rfl ?_
    refine yr_getR (pq := 21) (b := 23) 0 rfl dX7_now_18 kF_7_154 (by decide) rfl ?_
    refine yr_iload_n (pq := 22) rfl dX7_now_21 rfl ?_
    refine yr_iald (pq := 23) rfl dX7_now_22 rfl (by decide) (by omega) ?_
    refine yr_iret dX7_now_23 rfl (hr _ (by omega) ?_)
    rw [if_pos (by omega)]
    have h4 : k = 0 ∨ k = 1 ∨ k = 2 ∨ k = 3 := by omega
    rcases h4 with e | e | e | e <;> subst e
    · exact r1.1
    · exact r1.2.1
    · exact r1.2.2.1
    · exact r1.2.2.2
  · refine yr_if_eq (pq := 17) (t := 24) rfl dX7_now_14 rfl (by omega) (fun _ => ?_) (fun q9 => absurd (by decide) q9)
    refine yr_iload_n (pq := 25) rfl dX7_now_24 rfl ?_
    have h10 : k = 4 ∨ k = 5 ∨ k = 6 ∨ k = 7 ∨ k = 8 ∨ k = 9 ∨ ¬ (4 ≤ k ∧ k ≤ 9) := by omega
    rcases h10 with e | e | e | e | e | e | e
    · subst e
      refine yr_tab (t := 64) dX7_now_25 (by omega) (by omega) (by omega) rfl rfl ?_
      refine yr_aload_n (pq := 65) rfl dX7_now_64 rfl ?_
      refine yr_vI0 (pq := 68) rfl dX7_now_65 kM_7_157 (by decide) (by decide) cat0 (c_total r1 ?_)
      refine yr_iret dX7_now_68 rfl (hr _ (by decide) rfl)
    · subst e
      refine yr_tab (t := 69) dX7_now_25 (by omega) (by omega) (by omega) rfl rfl ?_
      refine yr_aload_n (pq := 70) rfl dX7_now_69 rfl ?_
      refine yr_getI (pq := 73) 1 rfl dX7_now_70 kF_7_139 (by decide) rfl (by decide) ?_
      refine yr_iret dX7_now_73 rfl (hr _ (by decide) r2)
    · subst e
      refine yr_tab (t := 74) dX7_now_25 (by omega) (by omega) (by omega) rfl rfl ?_
      refine yr_aload_n (pq := 75) rfl dX7_now_74 rfl ?_
      refine yr_getI (pq := 78) 2 rfl dX7_now_75 kF_7_160 (by decide) rfl (by decide) ?_
      refine yr_iret dX7_now_78 rfl (hr _ (by decide) r3)
    · subst e
      refine yr_tab (t := 79) dX7_now_25 (by omega) (by omega) (by omega) rfl rfl ?_
      refine yr_aload_n (pq := 80) rfl dX7_now_79 rfl ?_
      refine yr_getI (pq := 83) 3 rfl dX7_now_80 kF_7_163 (by decide) rfl (by decide) ?_
      refine yr_iret dX7_now_83 rfl (hr _ (by decide) r4)
    · subst e
      refine yr_tab (t := 84) dX7_now_25 (by omega) (by omega) (by omega) rfl rfl ?_
      refine yr_aload_n (pq := 85) rfl dX7_now_84 rfl ?_
      refine yr_getI (pq := 88) 4 rfl dX7_now_85 kF_7_166 (by decide) rfl (by decide) ?_
      refine yr_iret dX7_now_88 rfl (hr _ (by decide) r5)
    · subst e
      refine yr_tab (t := 89) dX7_now_25 (by omega) (by omega) (by omega) rfl rfl ?_
      refine yr_aload_n (pq := 90) rfl dX7_now_89 rfl ?_
      refine yr_getI (pq := 93) 5 rfl dX7_now_90 kF_7_169 (by decide) rfl (by decide) ?_
      refine yr_iret dX7_now_93 rfl (hr _ (by decide) r6)
    · refine yr_tabO (t := 94) dX7_now_25 (by omega) (by omega) rfl ?_
      refine yr_aload_n (pq := 95) rfl dX7_now_94 rfl ?_
      refine yr_iconst (pq := 96) rfl dX7_now_95 ?_
      refine yr_vI1 (pq := 99) rfl dX7_now_96 kM_7_66 (by decide) (by decide) cat0 (c_finding (by decide) ?_)
      refine yr_iret dX7_now_99 rfl ?_
      show ClI (d + 30) mX8_now [vr 108, vi k] _ _
      refine cl_in (al := [vr 108, vi k]) rfl (Nat.le_of_ble_eq_true rfl) (by simp [vi_cat, vr_cat, vs_cat]) ?_
      refine yr_iload_n (pq := 1) rfl dX8_now_0 rfl ?_
      refine yr_iconst (pq := 2) rfl dX8_now_1 ?_
      refine yr_bipush (pq := 4) rfl dX8_now_2 rfl ?_
      refine yr_sI3 (pq := 7) rfl dX8_now_4 kM_8_78 (by decide) cat0 (m_within hk (by decide) (by decide) (fun q9 => absurd q9 (by omega)) (fun _ => ?_))
      refine yr_if_ne (pq := 10) (t := 17) rfl dX8_now_7 rfl (by omega) (fun q9 => absurd (by decide) q9) (fun _ => ?_)
      refine yr_aload_n (pq := 11) rfl dX8_now_10 rfl ?_
      refine yr_ldc (pq := 13) rfl dX8_now_11 kN_8_73 ?_
      refine yr_vI1 (pq := 16) rfl dX8_now_13 kM_8_101 (by decide) (by decide) cat0 (m_finding (by decide) (fun e e0 e1 => ?_))
      refine yr_iret dX8_now_16 rfl ⟨rfl, find2 (k := 0) hI (by decide) (by decide) (fun a q1 q2 => up_ne q2) (up_row _ _ _ _) (fun j _ => by rw [up_ne (by decide)]) e0 e1⟩
end S11
