/-! leaves -/
section LF
variable {d : Nat} {h : hT} {K : Int → hT → Prop}
theorem c_isIn {v lo hi : Int} (hv : -2147483648 ≤ v ∧ v ≤ 2147483647) (hl : -2147483648 ≤ lo ∧ lo ≤ 2147483647) (hh : -2147483648 ≤ hi ∧ hi ≤ 2147483647) (k1 : lo ≤ v ∧ v ≤ hi → K 1 h) (k0 : ¬ (lo ≤ v ∧ v ≤ hi) → K 0 h) : ClI (d + 1) mX7_isIn [vi v, vi lo, vi hi] h K := by
  refine cl_in (al := [vi v, vi lo, vi hi]) rfl (Nat.le_of_ble_eq_true rfl) (by simp [vi_cat, vr_cat, vs_cat]) ?_
  refine yr_iload_n (pq := 1) rfl dX7_isIn_0 rfl ?_
  refine yr_iload_n (pq := 2) rfl dX7_isIn_1 rfl ?_
  refine yr_ic_lt (pq := 5) (t := 14) rfl dX7_isIn_2 rfl (by omega) (by omega) (fun q => ?_) (fun q => ?_)
  · refine yr_iconst (pq := 15) rfl dX7_isIn_14 ?_
    exact yr_zret dX7_isIn_15 rfl (by first | decide | omega) (k0 (by omega))
  · refine yr_iload_n (pq := 6) rfl dX7_isIn_5 rfl ?_
    refine yr_iload_n (pq := 7) rfl dX7_isIn_6 rfl ?_
    refine yr_ic_gt (pq := 10) (t := 14) rfl dX7_isIn_7 rfl (by omega) (by omega) (fun q2 => ?_) (fun q2 => ?_)
    · refine yr_iconst (pq := 15) rfl dX7_isIn_14 ?_
      exact yr_zret dX7_isIn_15 rfl (by first | decide | omega) (k0 (by omega))
    · refine yr_iconst (pq := 11) rfl dX7_isIn_10 ?_
      refine yr_goto (t := 15) dX7_isIn_11 rfl ?_
      exact yr_zret dX7_isIn_15 rfl (by first | decide | omega) (k1 (by omega))
theorem m_within {v lo hi : Int} (hv : -2147483648 ≤ v ∧ v ≤ 2147483647) (hl : -2147483648 ≤ lo ∧ lo ≤ 2147483647) (hh : -2147483648 ≤ hi ∧ hi ≤ 2147483647) (k1 : lo ≤ v ∧ v ≤ hi → K 1 h) (k0 : ¬ (lo ≤ v ∧ v ≤ hi) → K 0 h) : ClI (d + 1) mX8_within [vi v, vi lo, vi hi] h K := by
  refine cl_in (al := [vi v, vi lo, vi hi]) rfl (Nat.le_of_ble_eq_true rfl) (by simp [vi_cat, vr_cat, vs_cat]) ?_
  refine yr_iload_n (pq := 1) rfl dX8_within_0 rfl ?_
  refine yr_iload_n (pq := 2) rfl dX8_within_1 rfl ?_
  refine yr_ic_lt (pq := 5) (t := 14) rfl dX8_within_2 rfl (by omega) (by omega) (fun q => ?_) (fun q => ?_)
  · refine yr_iconst (pq := 15) rfl dX8_within_14 ?_
    exact yr_zret dX8_within_15 rfl (by first | decide | omega) (k0 (by omega))
  · refine yr_iload_n (pq := 6) rfl dX8_within_5 rfl ?_
    refine yr_iload_n (pq := 7) rfl dX8_within_6 rfl ?_
    refine yr_ic_gt (pq := 10) (t := 14) rfl dX8_within_7 rfl (by omega) (by omega) (fun q2 => ?_) (fun q2 => ?_)
    · refine yr_iconst (pq := 15) rfl dX8_within_14 ?_
      exact yr_zret dX8_within_15 rfl (by first | decide | omega) (k0 (by omega))
    · refine yr_iconst (pq := 11) rfl dX8_within_10 ?_
      refine yr_goto (t := 15) dX8_within_11 rfl ?_
      exact yr_zret dX8_within_15 rfl (by first | decide | omega) (k1 (by omega))
theorem j_max {a b : Int} (ha : -2147483648 ≤ a ∧ a ≤ 2147483647) (hb : -2147483648 ≤ b ∧ b ≤ 2147483647) (k : K (max a b) h) : ClI (d + 1) mJ9_max_7cf53 [vi a, vi b] h K := by
  refine cl_in (al := [vi a, vi b]) rfl (Nat.le_of_ble_eq_true rfl) (by simp [vi_cat, vr_cat, vs_cat]) ?_
  refine yr_iload_n (pq := 1) rfl dJ9_max_7cf53_0 rfl ?_
  refine yr_iload_n (pq := 2) rfl dJ9_max_7cf53_1 rfl ?_
  refine yr_ic_lt (pq := 5) (t := 9) rfl dJ9_max_7cf53_2 rfl (by omega) (by omega) (fun q => ?_) (fun q => ?_)
  · refine yr_iload_n (pq := 10) rfl dJ9_max_7cf53_9 rfl ?_
    exact yr_iret dJ9_max_7cf53_10 rfl ((show max a b = b by omega) ▸ k)
  · refine yr_iload_n (pq := 6) rfl dJ9_max_7cf53_5 rfl ?_
    refine yr_goto (t := 10) dJ9_max_7cf53_6 rfl ?_
    exact yr_iret dJ9_max_7cf53_10 rfl ((show max a b = a by omega) ▸ k)
theorem j_min {a b : Int} (ha : -2147483648 ≤ a ∧ a ≤ 2147483647) (hb : -2147483648 ≤ b ∧ b ≤ 2147483647) (k : K (min a b) h) : ClI (d + 1) mJ9_min_7cf53 [vi a, vi b] h K := by
  refine cl_in (al := [vi a, vi b]) rfl (Nat.le_of_ble_eq_true rfl) (by simp [vi_cat, vr_cat, vs_cat]) ?_
  refine yr_iload_n (pq := 1) rfl dJ9_min_7cf53_0 rfl ?_
  refine yr_iload_n (pq := 2) rfl dJ9_min_7cf53_1 rfl ?_
  refine yr_ic_gt (pq := 5) (t := 9) rfl dJ9_min_7cf53_2 rfl (by omega) (by omega) (fun q => ?_) (fun q => ?_)
  · refine yr_iload_n (pq := 10) rfl dJ9_min_7cf53_9 rfl ?_
    exact yr_iret dJ9_min_7cf53_10 rfl ((show min a b = b by omega) ▸ k)
  · refine yr_iload_n (pq := 6) rfl dJ9_min_7cf53_5 rfl ?_
    refine yr_goto (t := 10) dJ9_min_7cf53_6 rfl ?_
    exact yr_iret dJ9_min_7cf53_10 rfl ((show min a b = a by omega) ▸ k)
theorem c_isCorner {v : Int} (hv : -2147483648 ≤ v ∧ v ≤ 2147483647) (k1 : 0 ≤ v ∧ v ≤ 7 → K 1 h) (k0 : ¬ (0 ≤ v ∧ v ≤ 7) → K 0 h) : ClI (d + 2) mX7_isCorner [vi v] h K := by
  refine cl_in (al := [vi v]) rfl (Nat.le_of_ble_eq_true rfl) (by simp [vi_cat, vr_cat, vs_cat]) ?_
  refine yr_iload_n (pq := 1) rfl dX7_isCorner_0 rfl ?_
  refine yr_iconst (pq := 2) rfl dX7_isCorner_1 ?_
  refine yr_bipush (pq := 4) rfl dX7_isCorner_2 rfl ?_
  refine yr_sI3 (pq := 7) rfl dX7_isCorner_4 kM_7_62 (by decide) cat0 (c_isIn hv (by omega) (by omega) (fun q => ?_) (fun q => ?_))
  · exact yr_zret dX7_isCorner_7 rfl (by first | decide | omega) (k1 q)
  · exact yr_zret dX7_isCorner_7 rfl (by first | decide | omega) (k0 q)
/-- a street's ends: one and other -/
theorem c_across {a x : Int} (ha : is_c 5 a) (hx : -2147483648 ≤ x ∧ x ≤ 2147483647) (h1 : -2147483648 ≤ h a 1 ∧ h a 1 ≤ 2147483647) (h2 : -2147483648 ≤ h a 2 ∧ h a 2 ≤ 2147483647) (k : K (if x = h a 1 then h a 2 else if x = h a 2 then h a 1 else -1) h) : ClI (d + 1) mX5_across [vr a, vi x] h K := by
  refine cl_in (al := [vr a, vi x]) rfl (Nat.le_of_ble_eq_true rfl) (by simp [vi_cat, vr_cat, vs_cat]) ?_
  refine yr_iload_n (pq := 1) rfl dX5_across_0 rfl ?_
  refine yr_aload_n (pq := 2) rfl dX5_across_1 rfl ?_
  refine yr_getI (pq := 5) 1 rfl dX5_across_2 kF_5_15 (by decide) rfl ha ?_
  refine yr_ic_ne (pq := 8) (t := 13) rfl dX5_across_5 rfl (by omega) (by omega) (fun q => ?_) (fun q => ?_)
  · rw [if_neg q] at k
    refine yr_iload_n (pq := 14) rfl dX5_across_13 rfl ?_
    refine yr_aload_n (pq := 15) rfl dX5_across_14 rfl ?_
    refine yr_getI (pq := 18) 2 rfl dX5_across_15 kF_5_18 (by decide) rfl ha ?_
    refine yr_ic_ne (pq := 21) (t := 28) rfl dX5_across_18 rfl (by omega) (by omega) (fun q2 => ?_) (fun q2 => ?_)
    · rw [if_neg q2] at k
      refine yr_iconst (pq := 29) rfl dX5_across_28 ?_
      exact yr_iret dX5_across_29 rfl (k)
    · rw [if_pos q2] at k
      refine yr_aload_n (pq := 22) rfl dX5_across_21 rfl ?_
      refine yr_getI (pq := 25) 1 rfl dX5_across_22 kF_5_15 (by decide) rfl ha ?_
      refine yr_goto (t := 29) dX5_across_25 rfl ?_
      exact yr_iret dX5_across_29 rfl (k)
  · rw [if_pos q] at k
    refine yr_aload_n (pq := 9) rfl dX5_across_8 rfl ?_
    refine yr_getI (pq := 12) 2 rfl dX5_across_9 kF_5_18 (by decide) rfl ha ?_
    exact yr_iret dX5_across_12 rfl (k)
end LF
