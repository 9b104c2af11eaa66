/-! by -/
section S10
variable {d : Nat} {h : hT} {g : Int}
theorem s_by {a b : Int} (hI : Inv h) (ha : -2147483648 ≤ a ∧ a ≤ 2147483647) (hb : -2147483648 ≤ b ∧ b ≤ 2147483647) : Sm (d + 30) mX7_by mX8_by [vi a, vi b] h := by
  have hI0 := hI
  obtain ⟨⟨i1, i2, i3, i3'⟩, -, -, -, -, -, i11⟩ := hI0
  have h8 := i2.1
  have hb9 := byF_b (N := h 109) (w := -1) (a := a) (b := b)
  have hu : ∀ j z, up h 99 j z 109 = h 109 := fun j z => up_ne (by decide)
  have hv : ∀ j z, up h 99 j z 108 = h 108 := fun j z => up_ne (by decide)
  show ClI (d + 30) mX7_by [vr 0, vi a, vi b] h _
  refine cl_in (al := [vr 0, vi a, vi b, .null]) rfl (Nat.le_of_ble_eq_true rfl) (by simp [vi_cat, vr_cat, vs_cat]) ?_
  refine yr_iload_n (pq := 1) rfl dX7_by_0 rfl ?_
  refine yr_sI1 (pq := 4) rfl dX7_by_1 kM_7_59 (by decide) cat0 (c_isCorner ha (fun q => ?_) (fun q => ?_))
  · refine yr_if_eq (pq := 7) (t := 19) rfl dX7_by_4 rfl (by omega) (fun q9 => absurd q9 (by decide)) (fun _ => ?_)
    refine yr_iload_n (pq := 8) rfl dX7_by_7 rfl ?_
    refine yr_sI1 (pq := 11) rfl dX7_by_8 kM_7_59 (by decide) cat0 (c_isCorner hb (fun q2 => ?_) (fun q2 => ?_))
    · refine yr_if_eq (pq := 14) (t := 19) rfl dX7_by_11 rfl (by omega) (fun q9 => absurd q9 (by decide)) (fun _ => ?_)
      refine yr_iload_n (pq := 15) rfl dX7_by_14 rfl ?_
      refine yr_iload_n (pq := 16) rfl dX7_by_15 rfl ?_
      refine yr_ic_ne (pq := 19) (t := 25) rfl dX7_by_16 rfl (by omega) (by omega) (fun q3 => ?_) (fun q3 => ?_)
      · refine yr_aload_n (pq := 26) rfl dX7_by_25 rfl ?_
        refine yr_getR (pq := 29) (b := 1) 0 rfl dX7_by_26 kF_7_10 (by decide) rfl ?_
        refine yr_getR (pq := 32) (b := 2) 0 rfl dX7_by_29 kF_7_70 (by decide) rfl ?_
        refine yr_iload_n (pq := 33) rfl dX7_by_32 rfl ?_
        refine yr_iload_n (pq := 34) rfl dX7_by_33 rfl ?_
        refine yr_vI2 (pq := 37) rfl dX7_by_34 kM_7_151 (by decide) (tw_c (by decide)) cat0 (c_between (N := h 109) (T := 2) (by decide) i1.1 i2 ha q2 ?_)
        refine yr_istore3 (pq := 38) rfl dX7_by_37 ?_
        refine yr_iload_n (pq := 39) rfl dX7_by_38 rfl ?_
        refine yr_if_ge (pq := 42) (t := 50) rfl dX7_by_39 rfl (by omega) (fun q4 => ?_) (fun q4 => ?_)
        · refine yr_iload_n (pq := 51) rfl dX7_by_50 rfl ?_
          refine yr_iret dX7_by_51 rfl ?_
          show ClI (d + 30) mX8_by [vr 108, vi a, vi b] _ _
          refine cl_in (al := [vr 108, vi a, vi b, .null]) rfl (Nat.le_of_ble_eq_true rfl) (by simp [vi_cat, vr_cat, vs_cat]) ?_
          refine yr_iload_n (pq := 1) rfl dX8_by_0 rfl ?_
          refine yr_sI1 (pq := 4) rfl dX8_by_1 kM_8_98 (by decide) cat0 (m_isCorner ha (fun _ => ?_) (fun q9 => absurd q q9))
          refine yr_if_eq (pq := 7) (t := 19) rfl dX8_by_4 rfl (by omega) (fun q9 => absurd q9 (by decide)) (fun _ => ?_)
          refine yr_iload_n (pq := 8) rfl dX8_by_7 rfl ?_
          refine yr_sI1 (pq := 11) rfl dX8_by_8 kM_8_98 (by decide) cat0 (m_isCorner hb (fun _ => ?_) (fun q9 => absurd q2 q9))
          refine yr_if_eq (pq := 14) (t := 19) rfl dX8_by_11 rfl (by omega) (fun q9 => absurd q9 (by decide)) (fun _ => ?_)
          refine yr_iload_n (pq := 15) rfl dX8_by_14 rfl ?_
          refine yr_iload_n (pq := 16) rfl dX8_by_15 rfl ?_
          refine yr_ic_ne (pq := 19) (t := 26) rfl dX8_by_16 rfl (by omega) (by omega) (fun _ => ?_) (fun q9 => absurd q9 (q3))
          refine yr_aload_n (pq := 27) rfl dX8_by_26 rfl ?_
          refine yr_iload_n (pq := 28) rfl dX8_by_27 rfl ?_
          refine yr_iload_n (pq := 29) rfl dX8_by_28 rfl ?_
          refine yr_vI2 (pq := 32) rfl dX8_by_29 kM_8_138 (by decide) (by decide) cat0 (m_streetBy i2 i11 (by decide) ha hb ?_)
          refine yr_istore3 (pq := 33) rfl dX8_by_32 ?_
          refine yr_iload_n (pq := 34) rfl dX8_by_33 rfl ?_
          refine yr_if_ge (pq := 37) (t := 46) rfl dX8_by_34 rfl (by omega) (fun _ => ?_) (fun q9 => absurd (q4) q9)
          refine yr_iload_n (pq := 47) rfl dX8_by_46 rfl ?_
          refine yr_iret dX8_by_47 rfl ⟨rfl, hI⟩
        · refine yr_aload_n (pq := 43) rfl dX7_by_42 rfl ?_
          refine yr_iconst (pq := 44) rfl dX7_by_43 ?_
          refine yr_vI1 (pq := 47) rfl dX7_by_44 kM_7_66 (by decide) (by decide) cat0 (c_finding (by decide) ?_)
          refine yr_goto (t := 51) dX7_by_47 rfl ?_
          refine yr_iret dX7_by_51 rfl ?_
          show ClI (d + 30) mX8_by [vr 108, vi a, vi b] _ _
          refine cl_in (al := [vr 108, vi a, vi b, .null]) rfl (Nat.le_of_ble_eq_true rfl) (by simp [vi_cat, vr_cat, vs_cat]) ?_
          refine yr_iload_n (pq := 1) rfl dX8_by_0 rfl ?_
          refine yr_sI1 (pq := 4) rfl dX8_by_1 kM_8_98 (by decide) cat0 (m_isCorner ha (fun _ => ?_) (fun q9 => absurd q q9))
          refine yr_if_eq (pq := 7) (t := 19) rfl dX8_by_4 rfl (by omega) (fun q9 => absurd q9 (by decide)) (fun _ => ?_)
          refine yr_iload_n (pq := 8) rfl dX8_by_7 rfl ?_
          refine yr_sI1 (pq := 11) rfl dX8_by_8 kM_8_98 (by decide) cat0 (m_isCorner hb (fun _ => ?_) (fun q9 => absurd q2 q9))
          refine yr_if_eq (pq := 14) (t := 19) rfl dX8_by_11 rfl (by omega) (fun q9 => absurd q9 (by decide)) (fun _ => ?_)
          refine yr_iload_n (pq := 15) rfl dX8_by_14 rfl ?_
          refine yr_iload_n (pq := 16) rfl dX8_by_15 rfl ?_
          refine yr_ic_ne (pq := 19) (t := 26) rfl dX8_by_16 rfl (by omega) (by omega) (fun _ => ?_) (fun q9 => absurd q9 (q3))
          refine yr_aload_n (pq := 27) rfl dX8_by_26 rfl ?_
          refine yr_iload_n (pq := 28) rfl dX8_by_27 rfl ?_
          refine yr_iload_n (pq := 29) rfl dX8_by_28 rfl ?_
          refine yr_vI2 (pq := 32) rfl dX8_by_29 kM_8_138 (by decide) (by decide) cat0 (m_streetBy (w := -1) (by rw [hu]; exact i2) (by rw [hv]; exact i11) (by decide) ha hb ?_)
          rw [hu]
          refine yr_istore3 (pq := 33) rfl dX8_by_32 ?_
          refine yr_iload_n (pq := 34) rfl dX8_by_33 rfl ?_
          refine yr_if_ge (pq := 37) (t := 46) rfl dX8_by_34 rfl (by omega) (fun q9 => absurd q9 (q4)) (fun _ => ?_)
          refine yr_aload_n (pq := 38) rfl dX8_by_37 rfl ?_
          refine yr_ldc (pq := 40) rfl dX8_by_38 kN_8_144 ?_
          refine yr_vI1 (pq := 43) rfl dX8_by_40 kM_8_101 (by decide) (by decide) cat0 (m_finding (by decide) (fun e e0 e1 => ?_))
          refine yr_goto (t := 47) dX8_by_43 rfl ?_
          refine yr_iret dX8_by_47 rfl ⟨rfl, find2 (k := 3) hI (by decide) (by decide) (fun a q1 q2 => up_ne q2) (up_row _ _ _ _) (fun j _ => by rw [up_ne (by decide)]) e0 e1⟩
      · refine yr_aload_n (pq := 20) rfl dX7_by_19 rfl ?_
        refine yr_iconst (pq := 21) rfl dX7_by_20 ?_
        refine yr_vI1 (pq := 24) rfl dX7_by_21 kM_7_66 (by decide) (by decide) cat0 (c_finding (by decide) ?_)
        refine yr_iret dX7_by_24 rfl ?_
        show ClI (d + 30) mX8_by [vr 108, vi a, vi b] _ _
        refine cl_in (al := [vr 108, vi a, vi b, .null]) rfl (Nat.le_of_ble_eq_true rfl) (by simp [vi_cat, vr_cat, vs_cat]) ?_
        refine yr_iload_n (pq := 1) rfl dX8_by_0 rfl ?_
        refine yr_sI1 (pq := 4) rfl dX8_by_1 kM_8_98 (by decide) cat0 (m_isCorner ha (fun _ => ?_) (fun q9 => absurd q q9))
        refine yr_if_eq (pq := 7) (t := 19) rfl dX8_by_4 rfl (by omega) (fun q9 => absurd q9 (by decide)) (fun _ => ?_)
        refine yr_iload_n (pq := 8) rfl dX8_by_7 rfl ?_
        refine yr_sI1 (pq := 11) rfl dX8_by_8 kM_8_98 (by decide) cat0 (m_isCorner hb (fun _ => ?_) (fun q9 => absurd q2 q9))
        refine yr_if_eq (pq := 14) (t := 19) rfl dX8_by_11 rfl (by omega) (fun q9 => absurd q9 (by decide)) (fun _ => ?_)
        refine yr_iload_n (pq := 15) rfl dX8_by_14 rfl ?_
        refine yr_iload_n (pq := 16) rfl dX8_by_15 rfl ?_
        refine yr_ic_ne (pq := 19) (t := 26) rfl dX8_by_16 rfl (by omega) (by omega) (fun q9 => absurd (by omega) q9) (fun _ => ?_)
        refine yr_aload_n (pq := 20) rfl dX8_by_19 rfl ?_
        refine yr_ldc (pq := 22) rfl dX8_by_20 kN_8_73 ?_
        refine yr_vI1 (pq := 25) rfl dX8_by_22 kM_8_101 (by decide) (by decide) cat0 (m_finding (by decide) (fun e e0 e1 => ?_))
        refine yr_iret dX8_by_25 rfl ⟨rfl, find2 (k := 0) hI (by decide) (by decide) (fun a q1 q2 => up_ne q2) (up_row _ _ _ _) (fun j _ => by rw [up_ne (by decide)]) e0 e1⟩
    · refine yr_if_eq (pq := 14) (t := 19) rfl dX7_by_11 rfl (by omega) (fun _ => ?_) (fun q9 => absurd (by decide) q9)
      refine yr_aload_n (pq := 20) rfl dX7_by_19 rfl ?_
      refine yr_iconst (pq := 21) rfl dX7_by_20 ?_
      refine yr_vI1 (pq := 24) rfl dX7_by_21 kM_7_66 (by decide) (by decide) cat0 (c_finding (by decide) ?_)
      refine yr_iret dX7_by_24 rfl ?_
      show ClI (d + 30) mX8_by [vr 108, vi a, vi b] _ _
      refine cl_in (al := [vr 108, vi a, vi b, .null]) rfl (Nat.le_of_ble_eq_true rfl) (by simp [vi_cat, vr_cat, vs_cat]) ?_
      refine yr_iload_n (pq := 1) rfl dX8_by_0 rfl ?_
      refine yr_sI1 (pq := 4) rfl dX8_by_1 kM_8_98 (by decide) cat0 (m_isCorner ha (fun _ => ?_) (fun q9 => absurd q q9))
      refine yr_if_eq (pq := 7) (t := 19) rfl dX8_by_4 rfl (by omega) (fun q9 => absurd q9 (by decide)) (fun _ => ?_)
      refine yr_iload_n (pq := 8) rfl dX8_by_7 rfl ?_
      refine yr_sI1 (pq := 11) rfl dX8_by_8 kM_8_98 (by decide) cat0 (m_isCorner hb (fun q9 => absurd q9 q2) (fun _ => ?_))
      refine yr_if_eq (pq := 14) (t := 19) rfl dX8_by_11 rfl (by omega) (fun _ => ?_) (fun q9 => absurd (by decide) q9)
      refine yr_aload_n (pq := 20) rfl dX8_by_19 rfl ?_
      refine yr_ldc (pq := 22) rfl dX8_by_20 kN_8_73 ?_
      refine yr_vI1 (pq := 25) rfl dX8_by_22 kM_8_101 (by decide) (by decide) cat0 (m_finding (by decide) (fun e e0 e1 => ?_))
      refine yr_iret dX8_by_25 rfl ⟨rfl, find2 (k := 0) hI (by decide) (by decide) (fun a q1 q2 => up_ne q2) (up_row _ _ _ _) (fun j _ => by rw [up_ne (by decide)]) e0 e1⟩
  · refine yr_if_eq (pq := 7) (t := 19) rfl dX7_by_4 rfl (by omega) (fun _ => ?_) (fun q9 => absurd (by decide) q9)
    refine yr_aload_n (pq := 20) rfl dX7_by_19 rfl ?_
    refine yr_iconst (pq := 21) rfl dX7_by_20 ?_
    refine yr_vI1 (pq := 24) rfl dX7_by_21 kM_7_66 (by decide) (by decide) cat0 (c_finding (by decide) ?_)
    refine yr_iret dX7_by_24 rfl ?_
    show ClI (d + 30) mX8_by [vr 108, vi a, vi b] _ _
    refine cl_in (al := [vr 108, vi a, vi b, .null]) rfl (Nat.le_of_ble_eq_true rfl) (by simp [vi_cat, vr_cat, vs_cat]) ?_
    refine yr_iload_n (pq := 1) rfl dX8_by_0 rfl ?_
    refine yr_sI1 (pq := 4) rfl dX8_by_1 kM_8_98 (by decide) cat0 (m_isCorner ha (fun q9 => absurd q9 q) (fun _ => ?_))
    refine yr_if_eq (pq := 7) (t := 19) rfl dX8_by_4 rfl (by omega) (fun _ => ?_) (fun q9 => absurd (by decide) q9)
    refine yr_aload_n (pq := 20) rfl dX8_by_19 rfl ?_
    refine yr_ldc (pq := 22) rfl dX8_by_20 kN_8_73 ?_
    refine yr_vI1 (pq := 25) rfl dX8_by_22 kM_8_101 (by decide) (by decide) cat0 (m_finding (by decide) (fun e e0 e1 => ?_))
    refine yr_iret dX8_by_25 rfl ⟨rfl, find2 (k := 0) hI (by decide) (by decide) (fun a q1 q2 => up_ne q2) (up_row _ _ _ _) (fun j _ => by rw [up_ne (by decide)]) e0 e1⟩
end S10
