/-! most, soonest, way -/
section S2
variable {d : Nat} {h : hT} {g : Int}
/-- behind both searches all that counts is as before -/
theorem Inv_sr {h f e : hT} (hI : Inv h) (f0 : ∀ a, a < 69 ∨ 75 < a → f a = h a) (e0 : FR 0 f e) : Inv e := by
  have e8 : f 108 = h 108 := f0 108 (by decide)
  refine Inv_fr hI (fun a ha => ?_) ?_ ?_ ?_
  · unfold CR at ha
    by_cases q9 : a = 109
    · subst q9; rw [e0.2.1, f0 109 (by decide)]
    · rw [e0.1 a (by omega) q9 (by omega) (by omega) (by omega), f0 a (by omega)]
  · rw [e0.2.2.1 3 (by decide) (by decide) (by decide) (by decide), e8]
  · rw [e0.2.2.1 5 (by decide) (by decide) (by decide) (by decide), e8]
  · rw [e0.2.2.1 16 (by decide) (by decide) (by decide) (by decide), e8]
/-- .. and a finding is told -/
theorem find3 {h f e e' : hT} {k w : Int} (hI : Inv h) (hk : 0 ≤ k ∧ k ≤ 6) (hw : -1000000 - w = k + 1) (f0 : ∀ a, a < 69 ∨ 75 < a → f a = h a) (e0 : FR 0 (up f 99 k (f 99 k + 1)) e)
    (z0 : ∀ b, b ≠ 112 → e' b = e b) (z1 : e' 112 = ur (ur (e 112) (-1000000 - w) (e 112 (-1000000 - w) + 1)) 0 (e 112 0 + 1)) : Inv e' := by
  have e8 : f 108 = h 108 := f0 108 (by decide)
  refine find2 hI hk hw (fun a ha q => ?_) ?_ (fun j hj => ?_) z0 z1
  · unfold CR at ha
    by_cases q9 : a = 109
    · subst q9; rw [e0.2.1, up_ne (by decide), f0 109 (by decide)]
    · rw [e0.1 a (by omega) q9 (by omega) (by omega) (by omega), up_ne q, f0 a (by omega)]
  · rw [e0.1 99 (by decide) (by decide) (by decide) (by decide) (by decide), up_row, f0 99 (by decide)]
  · rw [e0.2.2.1 j (by omega) (by omega) (by omega) (by omega), up_ne (by decide), e8]
theorem s_most (hI : Inv h) (hg : -2147483648 ≤ g ∧ g ≤ 2147483647) : Sm (d + 30) mX7_most mX8_most [vi g] h := by
  have hI0 := hI
  obtain ⟨⟨i1, i2, i3, i3'⟩, -, -, -, -, -, i11⟩ := hI0
  have hn0 := fndF_0 g (-1) (h 109)
  show ClI (d + 30) mX7_most [vr 0, vi g] h _
  refine cl_in (al := [vr 0, vi g, .null]) rfl (Nat.le_of_ble_eq_true rfl) (by simp [vi_cat, vr_cat, vs_cat]) ?_
  refine yr_aload_n (pq := 1) rfl dX7_most_0 rfl ?_
  refine yr_iload_n (pq := 2) rfl dX7_most_1 rfl ?_
  refine yr_vI1 (pq := 5) rfl dX7_most_2 kM_7_190 (by decide) (by decide) cat0 (c_findWays (N := h 109) i1 i2 i3 hg (fun q => ?_) (fun q q1 => ?_) (fun q q1 q2 f f0 => ?_) (fun q q1 q2 f f0 f1 => ?_))
  · refine yr_istore2 (pq := 6) rfl dX7_most_5 ?_
    refine yr_iload_n (pq := 7) rfl dX7_most_6 rfl ?_
    refine yr_if_eq (pq := 10) (t := 12) rfl dX7_most_7 rfl (by omega) (fun q9 => absurd q9 (by decide)) (fun _ => ?_)
    refine yr_iload_n (pq := 11) rfl dX7_most_10 rfl ?_
    refine yr_iret dX7_most_11 rfl ?_
    show ClI (d + 30) mX8_most [vr 108, vi g] _ _
    have e9 : up h 99 0 (h 99 0 + 1) 109 = h 109 := up_ne (by decide)
    have e8 : up h 99 0 (h 99 0 + 1) 108 = h 108 := up_ne (by decide)
    refine cl_in (al := [vr 108, vi g, .null]) rfl (Nat.le_of_ble_eq_true rfl) (by simp [vi_cat, vr_cat, vs_cat]) ?_
    refine yr_aload_n (pq := 1) rfl dX8_most_0 rfl ?_
    refine yr_iload_n (pq := 2) rfl dX8_most_1 rfl ?_
    refine yr_vI1 (pq := 5) rfl dX8_most_2 kM_8_208 (by decide) (by decide) cat0 (m_refusesWays (by rw [e9]; exact i2) (by rw [e9]; exact i3) (by rw [e8]; exact i11) hg (fun _ => ?_) (fun q9 => absurd q9 q) (fun q9 => absurd q9 q) (fun q9 => absurd q9 q) (by rw [e9]; exact hn0))
    refine yr_istore2 (pq := 6) rfl dX8_most_5 ?_
    refine yr_iload_n (pq := 7) rfl dX8_most_6 rfl ?_
    refine yr_if_eq (pq := 10) (t := 18) rfl dX8_most_7 rfl (by omega) (fun q9 => absurd q9 (by decide)) (fun _ => ?_)
    refine yr_aload_n (pq := 11) rfl dX8_most_10 rfl ?_
    refine yr_iload_n (pq := 12) rfl dX8_most_11 rfl ?_
    refine yr_vI1 (pq := 15) rfl dX8_most_12 kM_8_101 (by decide) (by decide) cat0 (m_finding (by decide) (fun e e0 e1 => ?_))
    refine yr_goto (t := 22) dX8_most_15 rfl ?_
    refine yr_iret dX8_most_22 rfl ⟨rfl, find2 (k := 0) hI (by decide) (by decide) (fun a q1 q2 => up_ne q2) (up_row _ _ _ _) (fun j _ => by rw [e8]) e0 e1⟩
  · refine yr_istore2 (pq := 6) rfl dX7_most_5 ?_
    refine yr_iload_n (pq := 7) rfl dX7_most_6 rfl ?_
    refine yr_if_eq (pq := 10) (t := 12) rfl dX7_most_7 rfl (by omega) (fun q9 => absurd q9 (by decide)) (fun _ => ?_)
    refine yr_iload_n (pq := 11) rfl dX7_most_10 rfl ?_
    refine yr_iret dX7_most_11 rfl ?_
    show ClI (d + 30) mX8_most [vr 108, vi g] _ _
    have e9 : up h 99 4 (h 99 4 + 1) 109 = h 109 := up_ne (by decide)
    have e8 : up h 99 4 (h 99 4 + 1) 108 = h 108 := up_ne (by decide)
    refine cl_in (al := [vr 108, vi g, .null]) rfl (Nat.le_of_ble_eq_true rfl) (by simp [vi_cat, vr_cat, vs_cat]) ?_
    refine yr_aload_n (pq := 1) rfl dX8_most_0 rfl ?_
    refine yr_iload_n (pq := 2) rfl dX8_most_1 rfl ?_
    refine yr_vI1 (pq := 5) rfl dX8_most_2 kM_8_208 (by decide) (by decide) cat0 (m_refusesWays (by rw [e9]; exact i2) (by rw [e9]; exact i3) (by rw [e8]; exact i11) hg (fun q9 => absurd q q9) (fun _ _ => ?_) (fun _ q9 => absurd q9 (by rw [e9]; omega)) (fun _ q9 => absurd q9 (by rw [e9]; omega)) (by rw [e9]; exact hn0))
    refine yr_istore2 (pq := 6) rfl dX8_most_5 ?_
    refine yr_iload_n (pq := 7) rfl dX8_most_6 rfl ?_
    refine yr_if_eq (pq := 10) (t := 18) rfl dX8_most_7 rfl (by omega) (fun q9 => absurd q9 (by decide)) (fun _ => ?_)
    refine yr_aload_n (pq := 11) rfl dX8_most_10 rfl ?_
    refine yr_iload_n (pq := 12) rfl dX8_most_11 rfl ?_
    refine yr_vI1 (pq := 15) rfl dX8_most_12 kM_8_101 (by decide) (by decide) cat0 (m_finding (by decide) (fun e e0 e1 => ?_))
    refine yr_goto (t := 22) dX8_most_15 rfl ?_
    refine yr_iret dX8_most_22 rfl ⟨rfl, find2 (k := 4) hI (by decide) (by decide) (fun a q1 q2 => up_ne q2) (up_row _ _ _ _) (fun j _ => by rw [e8]) e0 e1⟩
  · refine yr_istore2 (pq := 6) rfl dX7_most_5 ?_
    refine yr_iload_n (pq := 7) rfl dX7_most_6 rfl ?_
    refine yr_if_eq (pq := 10) (t := 12) rfl dX7_most_7 rfl (by omega) (fun q9 => absurd q9 (by decide)) (fun _ => ?_)
    refine yr_iload_n (pq := 11) rfl dX7_most_10 rfl ?_
    refine yr_iret dX7_most_11 rfl ?_
    show ClI (d + 30) mX8_most [vr 108, vi g] _ _
    have e9 : up f 99 3 (f 99 3 + 1) 109 = h 109 := by rw [up_ne (by decide)]; exact f0 109 (by decide)
    have e8 : up f 99 3 (f 99 3 + 1) 108 = h 108 := by rw [up_ne (by decide)]; exact f0 108 (by decide)
    refine cl_in (al := [vr 108, vi g, .null]) rfl (Nat.le_of_ble_eq_true rfl) (by simp [vi_cat, vr_cat, vs_cat]) ?_
    refine yr_aload_n (pq := 1) rfl dX8_most_0 rfl ?_
    refine yr_iload_n (pq := 2) rfl dX8_most_1 rfl ?_
    refine yr_vI1 (pq := 5) rfl dX8_most_2 kM_8_208 (by decide) (by decide) cat0 (m_refusesWays (by rw [e9]; exact i2) (by rw [e9]; exact i3) (by rw [e8]; exact i11) hg (fun q9 => absurd q q9) (fun _ q9 => absurd q9 (by rw [e9]; omega)) (fun _ _ _ x x0 => ?_) (fun _ _ q9 => absurd (by rw [e9]; exact q2) q9) (by rw [e9]; exact hn0))
    refine yr_istore2 (pq := 6) rfl dX8_most_5 ?_
    refine yr_iload_n (pq := 7) rfl dX8_most_6 rfl ?_
    refine yr_if_eq (pq := 10) (t := 18) rfl dX8_most_7 rfl (by omega) (fun q9 => absurd q9 (by decide)) (fun _ => ?_)
    refine yr_aload_n (pq := 11) rfl dX8_most_10 rfl ?_
    refine yr_iload_n (pq := 12) rfl dX8_most_11 rfl ?_
    refine yr_vI1 (pq := 15) rfl dX8_most_12 kM_8_101 (by decide) (by decide) cat0 (m_finding (by decide) (fun e e0 e1 => ?_))
    refine yr_goto (t := 22) dX8_most_15 rfl ?_
    refine yr_iret dX8_most_22 rfl ⟨rfl, find3 (k := 3) hI (by decide) (by decide) f0 x0 e0 e1⟩
  · refine yr_istore2 (pq := 6) rfl dX7_most_5 ?_
    refine yr_iload_n (pq := 7) rfl dX7_most_6 rfl ?_
    refine yr_if_eq (pq := 10) (t := 12) rfl dX7_most_7 rfl (by omega) (fun _ => ?_) (fun q9 => absurd (by decide) q9)
    refine yr_aload_n (pq := 13) rfl dX7_most_12 rfl ?_
    refine yr_getR (pq := 16) (b := 69) 4 rfl dX7_most_13 kF_7_33 (by decide) rfl ?_
    refine yr_getI (pq := 19) 13 rfl dX7_most_16 kF_7_193 (by decide) rfl (by decide) ?_
    rw [f1.2.1]
    refine yr_iret dX7_most_19 rfl ?_
    show ClI (d + 30) mX8_most [vr 108, vi g] _ _
    have e9 : f 109 = h 109 := f0 109 (by decide)
    have e8 : f 108 = h 108 := f0 108 (by decide)
    refine cl_in (al := [vr 108, vi g, .null]) rfl (Nat.le_of_ble_eq_true rfl) (by simp [vi_cat, vr_cat, vs_cat]) ?_
    refine yr_aload_n (pq := 1) rfl dX8_most_0 rfl ?_
    refine yr_iload_n (pq := 2) rfl dX8_most_1 rfl ?_
    refine yr_vI1 (pq := 5) rfl dX8_most_2 kM_8_208 (by decide) (by decide) cat0 (m_refusesWays (by rw [e9]; exact i2) (by rw [e9]; exact i3) (by rw [e8]; exact i11) hg (fun q9 => absurd q q9) (fun _ q9 => absurd q9 (by rw [e9]; omega)) (fun _ _ q9 => absurd q9 (by rw [e9]; exact q2)) (fun _ _ _ _ x x0 x1 => ?_) (by rw [e9]; exact hn0))
    refine yr_istore2 (pq := 6) rfl dX8_most_5 ?_
    refine yr_iload_n (pq := 7) rfl dX8_most_6 rfl ?_
    refine yr_if_eq (pq := 10) (t := 18) rfl dX8_most_7 rfl (by omega) (fun _ => ?_) (fun q9 => absurd (by decide) q9)
    refine yr_aload_n (pq := 19) rfl dX8_most_18 rfl ?_
    refine yr_getI (pq := 22) 10 rfl dX8_most_19 kF_8_176 (by decide) rfl (by decide) ?_
    rw [x1.2.1, e9]
    refine yr_iret dX8_most_22 rfl ⟨rfl, Inv_sr hI f0 x0⟩
end S2
