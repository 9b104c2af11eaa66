/-! soonest, way -/
section S3
variable {d : Nat} {h : hT} {g : Int}
theorem s_soonest (hI : Inv h) (hg : -2147483648 ≤ g ∧ g ≤ 2147483647) : Sm (d + 30) mX7_soonest mX8_soonest [vi g] h := by
  have hI0 := hI
  obtain ⟨⟨i1, i2, i3, i3'⟩, -, -, -, -, -, i11⟩ := hI0
  have hn0 := fndF_0 g (-1) (h 109)
  show ClI (d + 30) mX7_soonest [vr 0, vi g] h _
  refine cl_in (al := [vr 0, vi g, .null]) rfl (Nat.le_of_ble_eq_true rfl) (by simp [vi_cat, vr_cat, vs_cat]) ?_
  refine yr_aload_n (pq := 1) rfl dX7_soonest_0 rfl ?_
  refine yr_iload_n (pq := 2) rfl dX7_soonest_1 rfl ?_
  refine yr_vI1 (pq := 5) rfl dX7_soonest_2 kM_7_190 (by decide) (by decide) cat0 (c_findWays (N := h 109) i1 i2 i3 hg (fun q => ?_) (fun q q1 => ?_) (fun q q1 q2 f f0 => ?_) (fun q q1 q2 f f0 f1 => ?_))
  · refine yr_istore2 (pq := 6) rfl dX7_soonest_5 ?_
    refine yr_iload_n (pq := 7) rfl dX7_soonest_6 rfl ?_
    refine yr_if_eq (pq := 10) (t := 12) rfl dX7_soonest_7 rfl (by omega) (fun q9 => absurd q9 (by decide)) (fun _ => ?_)
    refine yr_iload_n (pq := 11) rfl dX7_soonest_10 rfl ?_
    refine yr_iret dX7_soonest_11 rfl ?_
    show ClI (d + 30) mX8_soonest [vr 108, vi g] _ _
    have e9 : up h 99 0 (h 99 0 + 1) 109 = h 109 := up_ne (by decide)
    have e8 : up h 99 0 (h 99 0 + 1) 108 = h 108 := up_ne (by decide)
    refine cl_in (al := [vr 108, vi g, .null]) rfl (Nat.le_of_ble_eq_true rfl) (by simp [vi_cat, vr_cat, vs_cat]) ?_
    refine yr_aload_n (pq := 1) rfl dX8_soonest_0 rfl ?_
    refine yr_iload_n (pq := 2) rfl dX8_soonest_1 rfl ?_
    refine yr_vI1 (pq := 5) rfl dX8_soonest_2 kM_8_208 (by decide) (by decide) cat0 (m_refusesWays (by rw [e9]; exact i2) (by rw [e9]; exact i3) (by rw [e8]; exact i11) hg (fun _ => ?_) (fun q9 => absurd q9 q) (fun q9 => absurd q9 q) (fun q9 => absurd q9 q) (by rw [e9]; exact hn0))
    refine yr_istore2 (pq := 6) rfl dX8_soonest_5 ?_
    refine yr_iload_n (pq := 7) rfl dX8_soonest_6 rfl ?_
    refine yr_if_eq (pq := 10) (t := 18) rfl dX8_soonest_7 rfl (by omega) (fun q9 => absurd q9 (by decide)) (fun _ => ?_)
    refine yr_aload_n (pq := 11) rfl dX8_soonest_10 rfl ?_
    refine yr_iload_n (pq := 12) rfl dX8_soonest_11 rfl ?_
    refine yr_vI1 (pq := 15) rfl dX8_soonest_12 kM_8_101 (by decide) (by decide) cat0 (m_finding (by decide) (fun e e0 e1 => ?_))
    refine yr_goto (t := 22) dX8_soonest_15 rfl ?_
    refine yr_iret dX8_soonest_22 rfl ⟨rfl, find2 (k := 0) hI (by decide) (by decide) (fun a q1 q2 => up_ne q2) (up_row _ _ _ _) (fun j _ => by rw [e8]) e0 e1⟩
  · refine yr_istore2 (pq := 6) rfl dX7_soonest_5 ?_
    refine yr_iload_n (pq := 7) rfl dX7_soonest_6 rfl ?_
    refine yr_if_eq (pq := 10) (t := 12) rfl dX7_soonest_7 rfl (by omega) (fun q9 => absurd q9 (by decide)) (fun _ => ?_)
    refine yr_iload_n (pq := 11) rfl dX7_soonest_10 rfl ?_
    refine yr_iret dX7_soonest_11 rfl ?_
    show ClI (d + 30) mX8_soonest [vr 108, vi g] _ _
    have e9 : up h 99 4 (h 99 4 + 1) 109 = h 109 := up_ne (by decide)
    have e8 : up h 99 4 (h 99 4 + 1) 108 = h 108 := up_ne (by decide)
    refine cl_in (al := [vr 108, vi g, .null]) rfl (Nat.le_of_ble_eq_true rfl) (by simp [vi_cat, vr_cat, vs_cat]) ?_
    refine yr_aload_n (pq := 1) rfl dX8_soonest_0 rfl ?_
    refine yr_iload_n (pq := 2) rfl dX8_soonest_1 rfl ?_
    refine yr_vI1 (pq := 5) rfl dX8_soonest_2 kM_8_208 (by decide) (by decide) cat0 (m_refusesWays (by rw [e9]; exact i2) (by rw [e9]; exact i3) (by rw [e8]; exact i11) hg (fun q9 => absurd q q9) (fun _ _ => ?_) (fun _ q9 => absurd q9 (by rw [e9]; omega)) (fun _ q9 => absurd q9 (by rw [e9]; omega)) (by rw [e9]; exact hn0))
    refine yr_istore2 (pq := 6) rfl dX8_soonest_5 ?_
    refine yr_iload_n (pq := 7) rfl dX8_soonest_6 rfl ?_
    refine yr_if_eq (pq := 10) (t := 18) rfl dX8_soonest_7 rfl (by omega) (fun q9 => absurd q9 (by decide)) (fun _ => ?_)
    refine yr_aload_n (pq := 11) rfl dX8_soonest_10 rfl ?_
    refine yr_iload_n (pq := 12) rfl dX8_soonest_11 rfl ?_
    refine yr_vI1 (pq := 15) rfl dX8_soonest_12 kM_8_101 (by decide) (by decide) cat0 (m_finding (by decide) (fun e e0 e1 => ?_))
    refine yr_goto (t := 22) dX8_soonest_15 rfl ?_
    refine yr_iret dX8_soonest_22 rfl ⟨rfl, find2 (k := 4) hI (by decide) (by decide) (fun a q1 q2 => up_ne q2) (up_row _ _ _ _) (fun j _ => by rw [e8]) e0 e1⟩
  · refine yr_istore2 (pq := 6) rfl dX7_soonest_5 ?_
    refine yr_iload_n (pq := 7) rfl dX7_soonest_6 rfl ?_
    refine yr_if_eq (pq := 10) (t := 12) rfl dX7_soonest_7 rfl (by omega) (fun q9 => absurd q9 (by decide)) (fun _ => ?_)
    refine yr_iload_n (pq := 11) rfl dX7_soonest_10 rfl ?_
    refine yr_iret dX7_soonest_11 rfl ?_
    show ClI (d + 30) mX8_soonest [vr 108, vi g] _ _
    have e9 : up f 99 3 (f 99 3 + 1) 109 = h 109 := by rw [up_ne (by decide)]; exact f0 109 (by decide)
    have e8 : up f 99 3 (f 99 3 + 1) 108 = h 108 := by rw [up_ne (by decide)]; exact f0 108 (by decide)
    refine cl_in (al := [vr 108, vi g, .null]) rfl (Nat.le_of_ble_eq_true rfl) (by simp [vi_cat, vr_cat, vs_cat]) ?_
    refine yr_aload_n (pq := 1) rfl dX8_soonest_0 rfl ?_
    refine yr_iload_n (pq := 2) rfl dX8_soonest_1 rfl ?_
    refine yr_vI1 (pq := 5) rfl dX8_soonest_2 kM_8_208 (by decide) (by decide) cat0 (m_refusesWays (by rw [e9]; exact i2) (by rw [e9]; exact i3) (by rw [e8]; exact i11) hg (fun q9 => absurd q q9) (fun _ q9 => absurd q9 (by rw [e9]; omega)) (fun _ _ _ x x0 => ?_) (fun _ _ q9 => absurd (by rw [e9]; exact q2) q9) (by rw [e9]; exact hn0))
    refine yr_istore2 (pq := 6) rfl dX8_soonest_5 ?_
    refine yr_iload_n (pq := 7) rfl dX8_soonest_6 rfl ?_
    refine yr_if_eq (pq := 10) (t := 18) rfl dX8_soonest_7 rfl (by omega) (fun q9 => absurd q9 (by decide)) (fun _ => ?_)
    refine yr_aload_n (pq := 11) rfl dX8_soonest_10 rfl ?_
    refine yr_iload_n (pq := 12) rfl dX8_soonest_11 rfl ?_
    refine yr_vI1 (pq := 15) rfl dX8_soonest_12 kM_8_101 (by decide) (by decide) cat0 (m_finding (by decide) (fun e e0 e1 => ?_))
    refine yr_goto (t := 22) dX8_soonest_15 rfl ?_
    refine yr_iret dX8_soonest_22 rfl ⟨rfl, find3 (k := 3) hI (by decide) (by decide) f0 x0 e0 e1⟩
  · refine yr_istore2 (pq := 6) rfl dX7_soonest_5 ?_
    refine yr_iload_n (pq := 7) rfl dX7_soonest_6 rfl ?_
    refine yr_if_eq (pq := 10) (t := 12) rfl dX7_soonest_7 rfl (by omega) (fun _ => ?_) (fun q9 => absurd (by decide) q9)
    refine yr_aload_n (pq := 13) rfl dX7_soonest_12 rfl ?_
    refine yr_getR (pq := 16) (b := 69) 4 rfl dX7_soonest_13 kF_7_33 (by decide) rfl ?_
    refine yr_getI (pq := 19) 14 rfl dX7_soonest_16 kF_7_202 (by decide) rfl (by decide) ?_
    rw [(f1.2.2.2.2.1 q.1).1 q2]
    refine yr_iret dX7_soonest_19 rfl ?_
    show ClI (d + 30) mX8_soonest [vr 108, vi g] _ _
    have e9 : f 109 = h 109 := f0 109 (by decide)
    have e8 : f 108 = h 108 := f0 108 (by decide)
    refine cl_in (al := [vr 108, vi g, .null]) rfl (Nat.le_of_ble_eq_true rfl) (by simp [vi_cat, vr_cat, vs_cat]) ?_
    refine yr_aload_n (pq := 1) rfl dX8_soonest_0 rfl ?_
    refine yr_iload_n (pq := 2) rfl dX8_soonest_1 rfl ?_
    refine yr_vI1 (pq := 5) rfl dX8_soonest_2 kM_8_208 (by decide) (by decide) cat0 (m_refusesWays (by rw [e9]; exact i2) (by rw [e9]; exact i3) (by rw [e8]; exact i11) hg (fun q9 => absurd q q9) (fun _ q9 => absurd q9 (by rw [e9]; omega)) (fun _ _ q9 => absurd q9 (by rw [e9]; exact q2)) (fun _ _ _ _ x x0 x1 => ?_) (by rw [e9]; exact hn0))
    refine yr_istore2 (pq := 6) rfl dX8_soonest_5 ?_
    refine yr_iload_n (pq := 7) rfl dX8_soonest_6 rfl ?_
    refine yr_if_eq (pq := 10) (t := 18) rfl dX8_soonest_7 rfl (by omega) (fun _ => ?_) (fun q9 => absurd (by decide) q9)
    refine yr_aload_n (pq := 19) rfl dX8_soonest_18 rfl ?_
    refine yr_getI (pq := 22) 12 rfl dX8_soonest_19 kF_8_173 (by decide) rfl (by decide) ?_
    rw [x1.2.2.2.1, e9]
    refine yr_iret dX8_soonest_22 rfl ⟨rfl, Inv_sr hI f0 x0⟩
theorem s_way {k : Int} (hI : Inv h) (hg : -2147483648 ≤ g ∧ g ≤ 2147483647) (hk : -2147483648 ≤ k ∧ k ≤ 2147483647) : Sm (d + 30) mX7_way mX8_way [vi g, vi k] h := by
  have hI0 := hI
  obtain ⟨⟨i1, i2, i3, i3'⟩, -, -, -, -, -, i11⟩ := hI0
  have hn0 := fndF_0 g (-1) (h 109)
  show ClI (d + 30) mX7_way [vr 0, vi g, vi k] h _
  refine cl_in (al := [vr 0, vi g, vi k, .null]) rfl (Nat.le_of_ble_eq_true rfl) (by simp [vi_cat, vr_cat, vs_cat]) ?_
  refine yr_iload_n (pq := 1) rfl dX7_way_0 rfl ?_
  refine yr_iconst (pq := 2) rfl dX7_way_1 ?_
  refine yr_bipush (pq := 4) rfl dX7_way_2 rfl ?_
  refine yr_sI3 (pq := 7) rfl dX7_way_4 kM_7_62 (by decide) cat0 (c_isIn hk (by decide) (by decide) (fun qk => ?_) (fun qk => ?_))
  · refine yr_if_ne (pq := 10) (t := 16) rfl dX7_way_7 rfl (by omega) (fun _ => ?_) (fun q9 => absurd q9 (by decide))
    refine yr_aload_n (pq := 17) rfl dX7_way_16 rfl ?_
    refine yr_iload_n (pq := 18) rfl dX7_way_17 rfl ?_
    refine yr_vI1 (pq := 21) rfl dX7_way_18 kM_7_190 (by decide) (by decide) cat0 (c_findWays (N := h 109) i1 i2 i3 hg (fun q => ?_) (fun q q1 => ?_) (fun q q1 q2 f f0 => ?_) (fun q q1 q2 f f0 f1 => ?_))
    · refine yr_istore3 (pq := 22) rfl dX7_way_21 ?_
      refine yr_iload_n (pq := 23) rfl dX7_way_22 rfl ?_
      refine yr_if_eq (pq := 26) (t := 28) rfl dX7_way_23 rfl (by omega) (fun q9 => absurd q9 (by decide)) (fun _ => ?_)
      refine yr_iload_n (pq := 27) rfl dX7_way_26 rfl ?_
      refine yr_iret dX7_way_27 rfl ?_
      show ClI (d + 30) mX8_way [vr 108, vi g, vi k] _ _
      have e9 : up h 99 0 (h 99 0 + 1) 109 = h 109 := up_ne (by decide)
      have e8 : up h 99 0 (h 99 0 + 1) 108 = h 108 := up_ne (by decide)
      refine cl_in (al := [vr 108, vi g, vi k, .null]) rfl (Nat.le_of_ble_eq_true rfl) (by simp [vi_cat, vr_cat, vs_cat]) ?_
      refine yr_iload_n (pq := 1) rfl dX8_way_0 rfl ?_
      refine yr_sI1 (pq := 4) rfl dX8_way_1 kM_8_211 (by decide) cat0 (m_isPlace hk (fun _ => ?_) (fun q9 => absurd qk q9))
      refine yr_if_eq (pq := 7) (t := 15) rfl dX8_way_4 rfl (by omega) (fun q9 => absurd q9 (by decide)) (fun _ => ?_)
      refine yr_aload_n (pq := 8) rfl dX8_way_7 rfl ?_
      refine yr_iload_n (pq := 9) rfl dX8_way_8 rfl ?_
      refine yr_vI1 (pq := 12) rfl dX8_way_9 kM_8_208 (by decide) (by decide) cat0 (m_refusesWays (by rw [e9]; exact i2) (by rw [e9]; exact i3) (by rw [e8]; exact i11) hg (fun _ => ?_) (fun q9 => absurd q9 q) (fun q9 => absurd q9 q) (fun q9 => absurd q9 q) (by rw [e9]; exact hn0))
      refine yr_goto (t := 17) dX8_way_12 rfl ?_
      refine yr_istore3 (pq := 18) rfl dX8_way_17 ?_
      refine yr_iload_n (pq := 19) rfl dX8_way_18 rfl ?_
      refine yr_if_eq (pq := 22) (t := 28) rfl dX8_way_19 rfl (by omega) (fun q9 => absurd q9 (by decide)) (fun _ => ?_)
      refine yr_aload_n (pq := 23) rfl dX8_way_22 rfl ?_
      refine yr_iload_n (pq := 24) rfl dX8_way_23 rfl ?_
      refine yr_vI1 (pq := 27) rfl dX8_way_24 kM_8_101 (by decide) (by decide) cat0 (m_finding (by decide) (fun e e0 e1 => ?_))
      refine yr_iret dX8_way_27 rfl ⟨rfl, find2 (k := 0) hI (by decide) (by decide) (fun a q1 q2 => up_ne q2) (up_row _ _ _ _) (fun j _ => by rw [e8]) e0 e1⟩
    · refine yr_istore3 (pq := 22) rfl dX7_way_21 ?_
      refine yr_iload_n (pq := 23) rfl dX7_way_22 rfl ?_
      refine yr_if_eq (pq := 26) (t := 28) rfl dX7_way_23 rfl (by omega) (fun q9 => absurd q9 (by decide)) (fun _ => ?_)
      refine yr_iload_n (pq := 27) rfl dX7_way_26 rfl ?_
      refine yr_iret dX7_way_27 rfl ?_
      show ClI (d + 30) mX8_way [vr 108, vi g, vi k] _ _
      have e9 : up h 99 4 (h 99 4 + 1) 109 = h 109 := up_ne (by decide)
      have e8 : up h 99 4 (h 99 4 + 1) 108 = h 108 := up_ne (by decide)
      refine cl_in (al := [vr 108, vi g, vi k, .null]) rfl (Nat.le_of_ble_eq_true rfl) (by simp [vi_cat, vr_cat, vs_cat]) ?_
      refine yr_iload_n (pq := 1) rfl dX8_way_0 rfl ?_
      refine yr_sI1 (pq := 4) rfl dX8_way_1 kM_8_211 (by decide) cat0 (m_isPlace hk (fun _ => ?_) (fun q9 => absurd qk q9))
      refine yr_if_eq (pq := 7) (t := 15) rfl dX8_way_4 rfl (by omega) (fun q9 => absurd q9 (by decide)) (fun _ => ?_)
      refine yr_aload_n (pq := 8) rfl dX8_way_7 rfl ?_
      refine yr_iload_n (pq := 9) rfl dX8_way_8 rfl ?_
      refine yr_vI1 (pq := 12) rfl dX8_way_9 kM_8_208 (by decide) (by decide) cat0 (m_refusesWays (by rw [e9]; exact i2) (by rw [e9]; exact i3) (by rw [e8]; exact i11) hg (fun q9 => absurd q q9) (fun _ _ => ?_) (fun _ q9 => absurd q9 (by rw [e9]; omega)) (fun _ q9 => absurd q9 (by rw [e9]; omega)) (by rw [e9]; exact hn0))
      refine yr_goto (t := 17) dX8_way_12 rfl ?_
      refine yr_istore3 (pq := 18) rfl dX8_way_17 ?_
      refine yr_iload_n (pq := 19) rfl dX8_way_18 rfl ?_
      refine yr_if_eq (pq := 22) (t := 28) rfl dX8_way_19 rfl (by omega) (fun q9 => absurd q9 (by decide)) (fun _ => ?_)
      refine yr_aload_n (pq := 23) rfl dX8_way_22 rfl ?_
      refine yr_iload_n (pq := 24) rfl dX8_way_23 rfl ?_
      refine yr_vI1 (pq := 27) rfl dX8_way_24 kM_8_101 (by decide) (by decide) cat0 (m_finding (by decide) (fun e e0 e1 => ?_))
      refine yr_iret dX8_way_27 rfl ⟨rfl, find2 (k := 4) hI (by decide) (by decide) (fun a q1 q2 => up_ne q2) (up_row _ _ _ _) (fun j _ => by rw [e8]) e0 e1⟩
    · refine yr_istore3 (pq := 22) rfl dX7_way_21 ?_
      refine yr_iload_n (pq := 23) rfl dX7_way_22 rfl ?_
      refine yr_if_eq (pq := 26) (t := 28) rfl dX7_way_23 rfl (by omega) (fun q9 => absurd q9 (by decide)) (fun _ => ?_)
      refine yr_iload_n (pq := 27) rfl dX7_way_26 rfl ?_
      refine yr_iret dX7_way_27 rfl ?_
      show ClI (d + 30) mX8_way [vr 108, vi g, vi k] _ _
      have e9 : up f 99 3 (f 99 3 + 1) 109 = h 109 := by rw [up_ne (by decide)]; exact f0 109 (by decide)
      have e8 : up f 99 3 (f 99 3 + 1) 108 = h 108 := by rw [up_ne (by decide)]; exact f0 108 (by decide)
      refine cl_in (al := [vr 108, vi g, vi k, .null]) rfl (Nat.le_of_ble_eq_true rfl) (by simp [vi_cat, vr_cat, vs_cat]) ?_
      refine yr_iload_n (pq := 1) rfl dX8_way_0 rfl ?_
      refine yr_sI1 (pq := 4) rfl dX8_way_1 kM_8_211 (by decide) cat0 (m_isPlace hk (fun _ => ?_) (fun q9 => absurd qk q9))
      refine yr_if_eq (pq := 7) (t := 15) rfl dX8_way_4 rfl (by omega) (fun q9 => absurd q9 (by decide)) (fun _ => ?_)
      refine yr_aload_n (pq := 8) rfl dX8_way_7 rfl ?_
      refine yr_iload_n (pq := 9) rfl dX8_way_8 rfl ?_
      refine yr_vI1 (pq := 12) rfl dX8_way_9 kM_8_208 (by decide) (by decide) cat0 (m_refusesWays (by rw [e9]; exact i2) (by rw [e9]; exact i3) (by rw [e8]; exact i11) hg (fun q9 => absurd q q9) (fun _ q9 => absurd q9 (by rw [e9]; omega)) (fun _ _ _ x x0 => ?_) (fun _ _ q9 => absurd (by rw [e9]; exact q2) q9) (by rw [e9]; exact hn0))
      refine yr_goto (t := 17) dX8_way_12 rfl ?_
      refine yr_istore3 (pq := 18) rfl dX8_way_17 ?_
      refine yr_iload_n (pq := 19) rfl dX8_way_18 rfl ?_
      refine yr_if_eq (pq := 22) (t := 28) rfl dX8_way_19 rfl (by omega) (fun q9 => absurd q9 (by decide)) (fun _ => ?_)
      refine yr_aload_n (pq := 23) rfl dX8_way_22 rfl ?_
      refine yr_iload_n (pq := 24) rfl dX8_way_23 rfl ?_
      refine yr_vI1 (pq := 27) rfl dX8_way_24 kM_8_101 (by decide) (by decide) cat0 (m_finding (by decide) (fun e e0 e1 => ?_))
      refine yr_iret dX8_way_27 rfl ⟨rfl, find3 (k := 3) hI (by decide) (by decide) f0 x0 e0 e1⟩
    · have hsz := f1.2.2.2.2.2.2.1.2.1
      refine yr_istore3 (pq := 22) rfl dX7_way_21 ?_
      refine yr_iload_n (pq := 23) rfl dX7_way_22 rfl ?_
      refine yr_if_eq (pq := 26) (t := 28) rfl dX7_way_23 rfl (by omega) (fun _ => ?_) (fun q9 => absurd (by decide) q9)
      refine yr_iload_n (pq := 29) rfl dX7_way_28 rfl ?_
      refine yr_aload_n (pq := 30) rfl dX7_way_29 rfl ?_
      refine yr_getR (pq := 33) (b := 69) 4 rfl dX7_way_30 kF_7_33 (by decide) rfl ?_
      refine yr_getI (pq := 36) 16 rfl dX7_way_33 kF_7_196 (by decide) rfl (by decide) ?_
      rw [f1.2.2.1]
      refine yr_ic_ge (pq := 39) (t := 51) rfl dX7_way_36 rfl (by omega) (by omega) (fun q5 => ?_) (fun q5 => ?_)
      · refine yr_aload_n (pq := 52) rfl dX7_way_51 rfl ?_
        refine yr_iconst (pq := 53) rfl dX7_way_52 ?_
        refine yr_vI1 (pq := 56) rfl dX7_way_53 kM_7_66 (by decide) (by decide) cat0 (c_finding (by decide) ?_)
        refine yr_iret dX7_way_56 rfl ?_
        show ClI (d + 30) mX8_way [vr 108, vi g, vi k] _ _
        have e9 : up f 99 3 (f 99 3 + 1) 109 = h 109 := by rw [up_ne (by decide)]; exact f0 109 (by decide)
        have e8 : up f 99 3 (f 99 3 + 1) 108 = h 108 := by rw [up_ne (by decide)]; exact f0 108 (by decide)
        refine cl_in (al := [vr 108, vi g, vi k, .null]) rfl (Nat.le_of_ble_eq_true rfl) (by simp [vi_cat, vr_cat, vs_cat]) ?_
        refine yr_iload_n (pq := 1) rfl dX8_way_0 rfl ?_
        refine yr_sI1 (pq := 4) rfl dX8_way_1 kM_8_211 (by decide) cat0 (m_isPlace hk (fun _ => ?_) (fun q9 => absurd qk q9))
        refine yr_if_eq (pq := 7) (t := 15) rfl dX8_way_4 rfl (by omega) (fun q9 => absurd q9 (by decide)) (fun _ => ?_)
        refine yr_aload_n (pq := 8) rfl dX8_way_7 rfl ?_
        refine yr_iload_n (pq := 9) rfl dX8_way_8 rfl ?_
        refine yr_vI1 (pq := 12) rfl dX8_way_9 kM_8_208 (by decide) (by decide) cat0 (m_refusesWays (by rw [e9]; exact i2) (by rw [e9]; exact i3) (by rw [e8]; exact i11) hg (fun q9 => absurd q q9) (fun _ q9 => absurd q9 (by rw [e9]; omega)) (fun _ _ q9 => absurd q9 (by rw [e9]; exact q2)) (fun _ _ _ _ x x0 x1 => ?_) (by rw [e9]; exact hn0))
        rw [e9] at x1
        refine yr_goto (t := 17) dX8_way_12 rfl ?_
        refine yr_istore3 (pq := 18) rfl dX8_way_17 ?_
        refine yr_iload_n (pq := 19) rfl dX8_way_18 rfl ?_
        refine yr_if_eq (pq := 22) (t := 28) rfl dX8_way_19 rfl (by omega) (fun _ => ?_) (fun q9 => absurd (by decide) q9)
        refine yr_iload_n (pq := 29) rfl dX8_way_28 rfl ?_
        refine yr_aload_n (pq := 30) rfl dX8_way_29 rfl ?_
        refine yr_getI (pq := 33) 9 rfl dX8_way_30 kF_8_179 (by decide) rfl (by decide) ?_
        rw [x1.2.2.1]
        refine yr_ic_ge (pq := 36) (t := 45) rfl dX8_way_33 rfl (by omega) (by omega) (fun _ => ?_) (fun q9 => absurd (q5) q9)
        refine yr_aload_n (pq := 46) rfl dX8_way_45 rfl ?_
        refine yr_ldc (pq := 48) rfl dX8_way_46 kN_8_144 ?_
        refine yr_vI1 (pq := 51) rfl dX8_way_48 kM_8_101 (by decide) (by decide) cat0 (m_finding (by decide) (fun e e0 e1 => ?_))
        refine yr_iret dX8_way_51 rfl ⟨rfl, find3 (k := 3) hI (by decide) (by decide) f0 x0 e0 e1⟩
      · refine yr_aload_n (pq := 40) rfl dX7_way_39 rfl ?_
        refine yr_getR (pq := 43) (b := 69) 4 rfl dX7_way_40 kF_7_33 (by decide) rfl ?_
        refine yr_getR (pq := 46) (b := 75) 15 rfl dX7_way_43 kF_7_199 (by decide) rfl ?_
        refine yr_iload_n (pq := 47) rfl dX7_way_46 rfl ?_
        refine yr_iald (pq := 48) rfl dX7_way_47 rfl (by decide) (by omega) ?_
        refine yr_goto (t := 56) dX7_way_48 rfl ?_
        rw [f1.2.2.2.2.2.1 k qk.1 (by omega)]
        refine yr_iret dX7_way_56 rfl ?_
        show ClI (d + 30) mX8_way [vr 108, vi g, vi k] _ _
        have e9 : f 109 = h 109 := f0 109 (by decide)
        have e8 : f 108 = h 108 := f0 108 (by decide)
        refine cl_in (al := [vr 108, vi g, vi k, .null]) rfl (Nat.le_of_ble_eq_true rfl) (by simp [vi_cat, vr_cat, vs_cat]) ?_
        refine yr_iload_n (pq := 1) rfl dX8_way_0 rfl ?_
        refine yr_sI1 (pq := 4) rfl dX8_way_1 kM_8_211 (by decide) cat0 (m_isPlace hk (fun _ => ?_) (fun q9 => absurd qk q9))
        refine yr_if_eq (pq := 7) (t := 15) rfl dX8_way_4 rfl (by omega) (fun q9 => absurd q9 (by decide)) (fun _ => ?_)
        refine yr_aload_n (pq := 8) rfl dX8_way_7 rfl ?_
        refine yr_iload_n (pq := 9) rfl dX8_way_8 rfl ?_
        refine yr_vI1 (pq := 12) rfl dX8_way_9 kM_8_208 (by decide) (by decide) cat0 (m_refusesWays (by rw [e9]; exact i2) (by rw [e9]; exact i3) (by rw [e8]; exact i11) hg (fun q9 => absurd q q9) (fun _ q9 => absurd q9 (by rw [e9]; omega)) (fun _ _ q9 => absurd q9 (by rw [e9]; exact q2)) (fun _ _ _ _ x x0 x1 => ?_) (by rw [e9]; exact hn0))
        rw [e9] at x1
        refine yr_goto (t := 17) dX8_way_12 rfl ?_
        refine yr_istore3 (pq := 18) rfl dX8_way_17 ?_
        refine yr_iload_n (pq := 19) rfl dX8_way_18 rfl ?_
        refine yr_if_eq (pq := 22) (t := 28) rfl dX8_way_19 rfl (by omega) (fun _ => ?_) (fun q9 => absurd (by decide) q9)
        refine yr_iload_n (pq := 29) rfl dX8_way_28 rfl ?_
        refine yr_aload_n (pq := 30) rfl dX8_way_29 rfl ?_
        refine yr_getI (pq := 33) 9 rfl dX8_way_30 kF_8_179 (by decide) rfl (by decide) ?_
        rw [x1.2.2.1]
        refine yr_ic_ge (pq := 36) (t := 45) rfl dX8_way_33 rfl (by omega) (by omega) (fun q9 => absurd q9 (q5)) (fun _ => ?_)
        refine yr_aload_n (pq := 37) rfl dX8_way_36 rfl ?_
        refine yr_getR (pq := 40) (b := 115) 8 rfl dX8_way_37 kF_8_32 (by decide) rfl ?_
        refine yr_iload_n (pq := 41) rfl dX8_way_40 rfl ?_
        refine yr_iald (pq := 42) rfl dX8_way_41 rfl (by decide) (by omega) ?_
        refine yr_goto (t := 51) dX8_way_42 rfl ?_
        rw [x1.2.2.2.2.1 k qk.1 (by omega)]
        refine yr_iret dX8_way_51 rfl ⟨rfl, Inv_sr hI f0 x0⟩
  · refine yr_if_ne (pq := 10) (t := 16) rfl dX7_way_7 rfl (by omega) (fun q9 => absurd (by decide) q9) (fun _ => ?_)
    refine yr_aload_n (pq := 11) rfl dX7_way_10 rfl ?_
    refine yr_iconst (pq := 12) rfl dX7_way_11 ?_
    refine yr_vI1 (pq := 15) rfl dX7_way_12 kM_7_66 (by decide) (by decide) cat0 (c_finding (by decide) ?_)
    refine yr_iret dX7_way_15 rfl ?_
    show ClI (d + 30) mX8_way [vr 108, vi g, vi k] _ _
    refine cl_in (al := [vr 108, vi g, vi k, .null]) rfl (Nat.le_of_ble_eq_true rfl) (by simp [vi_cat, vr_cat, vs_cat]) ?_
    refine yr_iload_n (pq := 1) rfl dX8_way_0 rfl ?_
    refine yr_sI1 (pq := 4) rfl dX8_way_1 kM_8_211 (by decide) cat0 (m_isPlace hk (fun q9 => absurd q9 qk) (fun _ => ?_))
    refine yr_if_eq (pq := 7) (t := 15) rfl dX8_way_4 rfl (by omega) (fun _ => ?_) (fun q9 => absurd (by decide) q9)
    refine yr_ldc (pq := 17) rfl dX8_way_15 kN_8_73 ?_
    refine yr_istore3 (pq := 18) rfl dX8_way_17 ?_
    refine yr_iload_n (pq := 19) rfl dX8_way_18 rfl ?_
    refine yr_if_eq (pq := 22) (t := 28) rfl dX8_way_19 rfl (by decide) (fun q9 => absurd q9 (by decide)) (fun _ => ?_)
    refine yr_aload_n (pq := 23) rfl dX8_way_22 rfl ?_
    refine yr_iload_n (pq := 24) rfl dX8_way_23 rfl ?_
    refine yr_vI1 (pq := 27) rfl dX8_way_24 kM_8_101 (by decide) (by decide) cat0 (m_finding (by decide) (fun e e0 e1 => ?_))
    refine yr_iret dX8_way_27 rfl ⟨rfl, find2 (k := 0) hI (by decide) (by decide) (fun a q1 q2 => up_ne q2) (up_row _ _ _ _) (fun j _ => by rw [up_ne (by decide)]) e0 e1⟩
end S3
