/-! streets of the class -/
section CS
variable {d : Nat} {h : hT} {K : Int → hT → Prop}
theorem c_takes {a : Int} (ha : is_c 5 a) (h0 : 0 ≤ h a 0 ∧ h a 0 ≤ 6) (h3 : 1 ≤ h a 3 ∧ h a 3 ≤ 20) (k : K (takesK (h a 0) (h a 3)) h) : ClI (d + 1) mX5_takes [vr a] h K := by
  refine cl_in (al := [vr a]) rfl (Nat.le_of_ble_eq_true rfl) (by simp [vi_cat, vr_cat, vs_cat]) ?_
  refine yr_aload_n (pq := 1) rfl dX5_takes_0 rfl ?_
  refine yr_getI (pq := 4) 0 rfl dX5_takes_1 kF_5_9 (by decide) rfl ha ?_
  generalize hk : h a 0 = z at k h0 ⊢
  rcases (show z < 4 ∨ z = 4 ∨ z = 5 ∨ z = 6 by omega) with q | rfl | rfl | rfl
  · rw [takesK, if_neg (by omega), if_neg (by omega)] at k
    refine yr_tabO (t := 51) dX5_takes_4 (by omega) (by omega) rfl ?_
    refine yr_aload_n (pq := 52) rfl dX5_takes_51 rfl ?_
    refine yr_getI (pq := 55) 3 rfl dX5_takes_52 kF_5_21 (by decide) rfl ha ?_
    exact yr_iret dX5_takes_55 rfl (k)
  · refine yr_tab (t := 32) dX5_takes_4 (by omega) (by omega) (by omega) rfl rfl ?_
    refine yr_aload_n (pq := 33) rfl dX5_takes_32 rfl ?_
    refine yr_getI (pq := 36) 3 rfl dX5_takes_33 kF_5_21 (by decide) rfl ha ?_
    refine yr_aload_n (pq := 37) rfl dX5_takes_36 rfl ?_
    refine yr_getI (pq := 40) 3 rfl dX5_takes_37 kF_5_21 (by decide) rfl ha ?_
    refine yr_iconst (pq := 41) rfl dX5_takes_40 ?_
    refine yr_idiv (pq := 42) rfl dX5_takes_41 (by omega) (by omega) ?_
    refine yr_iadd (pq := 43) rfl dX5_takes_42 ?_
    exact yr_iret dX5_takes_43 rfl (k)
  · refine yr_tab (t := 44) dX5_takes_4 (by omega) (by omega) (by omega) rfl rfl ?_
    refine yr_aload_n (pq := 45) rfl dX5_takes_44 rfl ?_
    refine yr_getI (pq := 48) 3 rfl dX5_takes_45 kF_5_21 (by decide) rfl ha ?_
    refine yr_iconst (pq := 49) rfl dX5_takes_48 ?_
    refine yr_iadd (pq := 50) rfl dX5_takes_49 ?_
    exact yr_iret dX5_takes_50 rfl (k)
  · refine yr_tab (t := 44) dX5_takes_4 (by omega) (by omega) (by omega) rfl rfl ?_
    refine yr_aload_n (pq := 45) rfl dX5_takes_44 rfl ?_
    refine yr_getI (pq := 48) 3 rfl dX5_takes_45 kF_5_21 (by decide) rfl ha ?_
    refine yr_iconst (pq := 49) rfl dX5_takes_48 ?_
    refine yr_iadd (pq := 50) rfl dX5_takes_49 ?_
    exact yr_iret dX5_takes_50 rfl (k)
theorem c_melts {kd s : Int} (hk : 0 ≤ kd ∧ kd ≤ 6) (hs : 0 ≤ s ∧ s ≤ 9) (k : K (meltK kd s) h) : ClI (d + 2) mX5_meltsBySun [vi kd, vi s] h K := by
  refine cl_in (al := [vi kd, vi s, .null]) rfl (Nat.le_of_ble_eq_true rfl) (by simp [vi_cat, vr_cat, vs_cat]) ?_
  refine yr_iconst (pq := 1) rfl dX5_meltsBySun_0 ?_
  refine yr_iload_n (pq := 2) rfl dX5_meltsBySun_1 rfl ?_
  refine yr_imul (pq := 3) rfl dX5_meltsBySun_2 ?_
  refine yr_istore2 (pq := 4) rfl dX5_meltsBySun_3 ?_
  refine yr_iload_n (pq := 5) rfl dX5_meltsBySun_4 rfl ?_
  rcases (show kd = 0 ∨ kd = 1 ∨ kd = 2 ∨ kd = 3 ∨ kd = 4 ∨ 5 ≤ kd by omega) with rfl | rfl | rfl | rfl | rfl | q
  · refine yr_tabO (t := 50) dX5_meltsBySun_5 (by omega) (by omega) rfl ?_
    refine yr_iload_n (pq := 51) rfl dX5_meltsBySun_50 rfl ?_
    exact yr_iret dX5_meltsBySun_51 rfl (k)
  · have e : meltK 1 s = 2 * s / 2 := by simp [meltK]
    rw [e] at k
    refine yr_tab (t := 36) dX5_meltsBySun_5 (by omega) (by omega) (by omega) rfl rfl ?_
    refine yr_iload_n (pq := 37) rfl dX5_meltsBySun_36 rfl ?_
    refine yr_iconst (pq := 38) rfl dX5_meltsBySun_37 ?_
    refine yr_idiv (pq := 39) rfl dX5_meltsBySun_38 (by omega) (by omega) ?_
    exact yr_iret dX5_meltsBySun_39 rfl (k)
  · refine yr_tab (t := 40) dX5_meltsBySun_5 (by omega) (by omega) (by omega) rfl rfl ?_
    refine yr_iconst (pq := 41) rfl dX5_meltsBySun_40 ?_
    refine yr_iload_n (pq := 42) rfl dX5_meltsBySun_41 rfl ?_
    refine yr_iconst (pq := 43) rfl dX5_meltsBySun_42 ?_
    refine yr_isub (pq := 44) rfl dX5_meltsBySun_43 ?_
    refine yr_sI2 (pq := 47) rfl dX5_meltsBySun_44 kM_5_38 (by decide) cat0 (j_max (by omega) (by omega) ?_)
    exact yr_iret dX5_meltsBySun_47 rfl (k)
  · refine yr_tab (t := 48) dX5_meltsBySun_5 (by omega) (by omega) (by omega) rfl rfl ?_
    refine yr_iconst (pq := 49) rfl dX5_meltsBySun_48 ?_
    exact yr_iret dX5_meltsBySun_49 rfl (k)
  · refine yr_tab (t := 40) dX5_meltsBySun_5 (by omega) (by omega) (by omega) rfl rfl ?_
    refine yr_iconst (pq := 41) rfl dX5_meltsBySun_40 ?_
    refine yr_iload_n (pq := 42) rfl dX5_meltsBySun_41 rfl ?_
    refine yr_iconst (pq := 43) rfl dX5_meltsBySun_42 ?_
    refine yr_isub (pq := 44) rfl dX5_meltsBySun_43 ?_
    refine yr_sI2 (pq := 47) rfl dX5_meltsBySun_44 kM_5_38 (by decide) cat0 (j_max (by omega) (by omega) ?_)
    exact yr_iret dX5_meltsBySun_47 rfl (k)
  · have e : meltK kd s = 2 * s := by unfold meltK; rw [if_neg (by omega), if_neg (by omega), if_neg (by omega)]
    rw [e] at k
    refine yr_tabO (t := 50) dX5_meltsBySun_5 (by omega) (by omega) rfl ?_
    refine yr_iload_n (pq := 51) rfl dX5_meltsBySun_50 rfl ?_
    exact yr_iret dX5_meltsBySun_51 rfl (k)
theorem c_wets {kd s : Int} (hk : 0 ≤ kd ∧ kd ≤ 6) (k : K (wetK kd s) h) : ClI (d + 1) mX5_wets [vi kd, vi s] h K := by
  refine cl_in (al := [vi kd, vi s]) rfl (Nat.le_of_ble_eq_true rfl) (by simp [vi_cat, vr_cat, vs_cat]) ?_
  refine yr_iload_n (pq := 1) rfl dX5_wets_0 rfl ?_
  rcases (show kd < 2 ∨ kd = 2 ∨ kd = 3 ∨ kd = 4 ∨ 5 ≤ kd by omega) with q | rfl | rfl | rfl | q
  · rw [wetK, if_neg (by omega), if_neg (by omega)] at k
    refine yr_tabO (t := 36) dX5_wets_1 (by omega) (by omega) rfl ?_
    refine yr_iconst (pq := 37) rfl dX5_wets_36 ?_
    refine yr_iload_n (pq := 38) rfl dX5_wets_37 rfl ?_
    refine yr_imul (pq := 39) rfl dX5_wets_38 ?_
    exact yr_iret dX5_wets_39 rfl (k)
  · refine yr_tab (t := 30) dX5_wets_1 (by omega) (by omega) (by omega) rfl rfl ?_
    refine yr_iconst (pq := 31) rfl dX5_wets_30 ?_
    refine yr_iload_n (pq := 32) rfl dX5_wets_31 rfl ?_
    refine yr_imul (pq := 33) rfl dX5_wets_32 ?_
    refine yr_iload_n (pq := 34) rfl dX5_wets_33 rfl ?_
    refine yr_iadd (pq := 35) rfl dX5_wets_34 ?_
    exact yr_iret dX5_wets_35 rfl (k)
  · refine yr_tab (t := 28) dX5_wets_1 (by omega) (by omega) (by omega) rfl rfl ?_
    refine yr_iconst (pq := 29) rfl dX5_wets_28 ?_
    exact yr_iret dX5_wets_29 rfl (k)
  · refine yr_tab (t := 30) dX5_wets_1 (by omega) (by omega) (by omega) rfl rfl ?_
    refine yr_iconst (pq := 31) rfl dX5_wets_30 ?_
    refine yr_iload_n (pq := 32) rfl dX5_wets_31 rfl ?_
    refine yr_imul (pq := 33) rfl dX5_wets_32 ?_
    refine yr_iload_n (pq := 34) rfl dX5_wets_33 rfl ?_
    refine yr_iadd (pq := 35) rfl dX5_wets_34 ?_
    exact yr_iret dX5_wets_35 rfl (k)
  · rw [wetK, if_neg (by omega), if_neg (by omega)] at k
    refine yr_tabO (t := 36) dX5_wets_1 (by omega) (by omega) rfl ?_
    refine yr_iconst (pq := 37) rfl dX5_wets_36 ?_
    refine yr_iload_n (pq := 38) rfl dX5_wets_37 rfl ?_
    refine yr_imul (pq := 39) rfl dX5_wets_38 ?_
    exact yr_iret dX5_wets_39 rfl (k)
theorem c_licks {kd : Int} (hk : 0 ≤ kd ∧ kd ≤ 6) (k : K (licksK kd) h) : ClI (d + 1) mX5_licks [vi kd] h K := by
  refine cl_in (al := [vi kd]) rfl (Nat.le_of_ble_eq_true rfl) (by simp [vi_cat, vr_cat, vs_cat]) ?_
  refine yr_iload_n (pq := 1) rfl dX5_licks_0 rfl ?_
  rcases (show kd = 0 ∨ kd = 1 ∨ kd = 2 ∨ kd = 3 ∨ kd = 4 ∨ kd = 5 ∨ kd = 6 by omega) with rfl | rfl | rfl | rfl | rfl | rfl | rfl
  · refine yr_look (t := 32) dX5_licks_1 (by omega) (by decide) rfl rfl ?_
    refine yr_iconst (pq := 33) rfl dX5_licks_32 ?_
    exact yr_iret dX5_licks_33 rfl (k)
  · refine yr_look (t := 32) dX5_licks_1 (by omega) (by decide) rfl rfl ?_
    refine yr_iconst (pq := 33) rfl dX5_licks_32 ?_
    exact yr_iret dX5_licks_33 rfl (k)
  · refine yr_look (t := 32) dX5_licks_1 (by omega) (by decide) rfl rfl ?_
    refine yr_iconst (pq := 33) rfl dX5_licks_32 ?_
    exact yr_iret dX5_licks_33 rfl (k)
  · refine yr_look (t := 32) dX5_licks_1 (by omega) (by decide) rfl rfl ?_
    refine yr_iconst (pq := 33) rfl dX5_licks_32 ?_
    exact yr_iret dX5_licks_33 rfl (k)
  · refine yr_look (t := 32) dX5_licks_1 (by omega) (by decide) rfl rfl ?_
    refine yr_iconst (pq := 33) rfl dX5_licks_32 ?_
    exact yr_iret dX5_licks_33 rfl (k)
  · refine yr_look (t := 28) dX5_licks_1 (by omega) (by decide) rfl rfl ?_
    refine yr_iconst (pq := 29) rfl dX5_licks_28 ?_
    exact yr_iret dX5_licks_29 rfl (k)
  · refine yr_look (t := 30) dX5_licks_1 (by omega) (by decide) rfl rfl ?_
    refine yr_iconst (pq := 31) rfl dX5_licks_30 ?_
    exact yr_iret dX5_licks_31 rfl (k)
theorem c_lossBy {a s r salt : Int} (ha : is_c 5 a) (h0 : 0 ≤ h a 0 ∧ h a 0 ≤ 6) (h4 : 0 ≤ h a 4 ∧ h a 4 ≤ 1) (hs : 0 ≤ s ∧ s ≤ 9) (hr : 0 ≤ r ∧ r ≤ 9) (hl : 0 ≤ salt ∧ salt ≤ 1) (k : K (lossK (h a 0) (h a 4) s r salt) h) : ClI (d + 3) mX5_lossBy [vr a, vi s, vi r, vi salt] h K := by
  have hm := meltK_b (k := h a 0) hs
  have hw := wetK_b (k := h a 0) hr
  have hi := licksK_b (h a 0)
  refine cl_in (al := [vr a, vi s, vi r, vi salt, .null, .null]) rfl (Nat.le_of_ble_eq_true rfl) (by simp [vi_cat, vr_cat, vs_cat]) ?_
  refine yr_aload_n (pq := 1) rfl dX5_lossBy_0 rfl ?_
  refine yr_getI (pq := 4) 0 rfl dX5_lossBy_1 kF_5_9 (by decide) rfl ha ?_
  refine yr_iload_n (pq := 5) rfl dX5_lossBy_4 rfl ?_
  refine yr_sI2 (pq := 8) rfl dX5_lossBy_5 kM_5_27 (by decide) cat0 (c_melts h0 hs ?_)
  refine yr_istore4 (pq := 10) rfl dX5_lossBy_8 ?_
  refine yr_aload_n (pq := 11) rfl dX5_lossBy_10 rfl ?_
  refine yr_getI (pq := 14) 4 rfl dX5_lossBy_11 kF_5_24 (by decide) rfl ha ?_
  refine yr_iconst (pq := 15) rfl dX5_lossBy_14 ?_
  refine yr_ic_ne (pq := 18) (t := 22) rfl dX5_lossBy_15 rfl (by omega) (by omega) (fun q => ?_) (fun q => ?_)
  · refine yr_aload_n (pq := 23) rfl dX5_lossBy_22 rfl ?_
    refine yr_getI (pq := 26) 0 rfl dX5_lossBy_23 kF_5_9 (by decide) rfl ha ?_
    refine yr_iload_n (pq := 27) rfl dX5_lossBy_26 rfl ?_
    refine yr_sI2 (pq := 30) rfl dX5_lossBy_27 kM_5_31 (by decide) cat0 (c_wets h0 ?_)
    refine yr_istore5 (pq := 32) rfl dX5_lossBy_30 ?_
    refine yr_iload_n (pq := 33) rfl dX5_lossBy_32 rfl ?_
    refine yr_iconst (pq := 34) rfl dX5_lossBy_33 ?_
    refine yr_ic_ne (pq := 37) (t := 49) rfl dX5_lossBy_34 rfl (by omega) (by omega) (fun q2 => ?_) (fun q2 => ?_)
    · refine yr_iload (pq := 51) rfl dX5_lossBy_49 rfl ?_
      refine yr_iload (pq := 53) rfl dX5_lossBy_51 rfl ?_
      refine yr_iadd (pq := 54) rfl dX5_lossBy_53 ?_
      refine yr_aload_n (pq := 55) rfl dX5_lossBy_54 rfl ?_
      refine yr_getI (pq := 58) 0 rfl dX5_lossBy_55 kF_5_9 (by decide) rfl ha ?_
      refine yr_sI1 (pq := 61) rfl dX5_lossBy_58 kM_5_34 (by decide) (Nat.le_of_ble_eq_true rfl) (c_licks h0 ?_)
      refine yr_iadd (pq := 62) rfl dX5_lossBy_61 ?_
      rw [lossK, if_neg q2, if_neg q] at k
      exact yr_iret dX5_lossBy_62 rfl (k)
    · refine yr_iload (pq := 39) rfl dX5_lossBy_37 rfl ?_
      refine yr_iconst (pq := 40) rfl dX5_lossBy_39 ?_
      refine yr_idiv (pq := 41) rfl dX5_lossBy_40 (by omega) (by omega) ?_
      refine yr_iload (pq := 43) rfl dX5_lossBy_41 rfl ?_
      refine yr_iconst (pq := 44) rfl dX5_lossBy_43 ?_
      refine yr_imul (pq := 45) rfl dX5_lossBy_44 ?_
      refine yr_iadd (pq := 46) rfl dX5_lossBy_45 ?_
      refine yr_goto (t := 62) dX5_lossBy_46 rfl ?_
      rw [lossK, if_pos q2, if_neg q, Int.mul_comm 2] at k
      exact yr_iret dX5_lossBy_62 rfl (k)
  · refine yr_iconst (pq := 19) rfl dX5_lossBy_18 ?_
    refine yr_goto (t := 30) dX5_lossBy_19 rfl ?_
    refine yr_istore5 (pq := 32) rfl dX5_lossBy_30 ?_
    refine yr_iload_n (pq := 33) rfl dX5_lossBy_32 rfl ?_
    refine yr_iconst (pq := 34) rfl dX5_lossBy_33 ?_
    refine yr_ic_ne (pq := 37) (t := 49) rfl dX5_lossBy_34 rfl (by omega) (by omega) (fun q2 => ?_) (fun q2 => ?_)
    · refine yr_iload (pq := 51) rfl dX5_lossBy_49 rfl ?_
      refine yr_iload (pq := 53) rfl dX5_lossBy_51 rfl ?_
      refine yr_iadd (pq := 54) rfl dX5_lossBy_53 ?_
      refine yr_aload_n (pq := 55) rfl dX5_lossBy_54 rfl ?_
      refine yr_getI (pq := 58) 0 rfl dX5_lossBy_55 kF_5_9 (by decide) rfl ha ?_
      refine yr_sI1 (pq := 61) rfl dX5_lossBy_58 kM_5_34 (by decide) (Nat.le_of_ble_eq_true rfl) (c_licks h0 ?_)
      refine yr_iadd (pq := 62) rfl dX5_lossBy_61 ?_
      rw [lossK, if_neg q2, if_pos q] at k
      exact yr_iret dX5_lossBy_62 rfl (k)
    · refine yr_iload (pq := 39) rfl dX5_lossBy_37 rfl ?_
      refine yr_iconst (pq := 40) rfl dX5_lossBy_39 ?_
      refine yr_idiv (pq := 41) rfl dX5_lossBy_40 (by omega) (by omega) ?_
      refine yr_iload (pq := 43) rfl dX5_lossBy_41 rfl ?_
      refine yr_iconst (pq := 44) rfl dX5_lossBy_43 ?_
      refine yr_imul (pq := 45) rfl dX5_lossBy_44 ?_
      refine yr_iadd (pq := 46) rfl dX5_lossBy_45 ?_
      refine yr_goto (t := 62) dX5_lossBy_46 rfl ?_
      rw [lossK, if_pos q2, if_pos q, Int.mul_comm 2] at k
      exact yr_iret dX5_lossBy_62 rfl (k)
/-- the kinds above -/
def abK (k : Int) : Int := if k = 1 ∨ k = 2 ∨ k = 5 then 0 else if k = 3 then 1 else if k = 4 then 2 else if k = 6 then 5 else -1
theorem c_above {kd : Int} (hk : 0 ≤ kd ∧ kd ≤ 6) (k : K (abK kd) h) : ClI (d + 1) mX5_above [vi kd] h K := by
  refine cl_in (al := [vi kd]) rfl (Nat.le_of_ble_eq_true rfl) (by simp [vi_cat, vr_cat, vs_cat]) ?_
  refine yr_iload_n (pq := 1) rfl dX5_above_0 rfl ?_
  rcases (show kd = 0 ∨ kd = 1 ∨ kd = 2 ∨ kd = 3 ∨ kd = 4 ∨ kd = 5 ∨ kd = 6 by omega) with rfl | rfl | rfl | rfl | rfl | rfl | rfl
  · refine yr_tabO (t := 48) dX5_above_1 (by omega) (by omega) rfl ?_
    refine yr_iconst (pq := 49) rfl dX5_above_48 ?_
    exact yr_iret dX5_above_49 rfl (k)
  · refine yr_tab (t := 40) dX5_above_1 (by omega) (by omega) (by omega) rfl rfl ?_
    refine yr_iconst (pq := 41) rfl dX5_above_40 ?_
    exact yr_iret dX5_above_41 rfl (k)
  · refine yr_tab (t := 40) dX5_above_1 (by omega) (by omega) (by omega) rfl rfl ?_
    refine yr_iconst (pq := 41) rfl dX5_above_40 ?_
    exact yr_iret dX5_above_41 rfl (k)
  · refine yr_tab (t := 42) dX5_above_1 (by omega) (by omega) (by omega) rfl rfl ?_
    refine yr_iconst (pq := 43) rfl dX5_above_42 ?_
    exact yr_iret dX5_above_43 rfl (k)
  · refine yr_tab (t := 44) dX5_above_1 (by omega) (by omega) (by omega) rfl rfl ?_
    refine yr_iconst (pq := 45) rfl dX5_above_44 ?_
    exact yr_iret dX5_above_45 rfl (k)
  · refine yr_tab (t := 40) dX5_above_1 (by omega) (by omega) (by omega) rfl rfl ?_
    refine yr_iconst (pq := 41) rfl dX5_above_40 ?_
    exact yr_iret dX5_above_41 rfl (k)
  · refine yr_tab (t := 46) dX5_above_1 (by omega) (by omega) (by omega) rfl rfl ?_
    refine yr_iconst (pq := 47) rfl dX5_above_46 ?_
    exact yr_iret dX5_above_47 rfl (k)
/-- a kind is the sought one, or under it -/
def undK (k s : Int) : Int := if k = s ∨ abK k = s ∨ (0 ≤ abK k ∧ abK (abK k) = s) then 1 else 0
theorem c_isUnder {kd s : Int} (hk : 0 ≤ kd ∧ kd ≤ 6) (hs : 0 ≤ s ∧ s ≤ 6) (k : K (undK kd s) h) : ClI (d + 2) mX5_isUnder [vi kd, vi s] h K := by
  have key : ∀ (n : Nat) (x c : Int), -1 ≤ x → x ≤ 6 → 0 ≤ c → c + n ≤ 7 → (n = 0 → x = -1) → (x = 0 → 1 ≤ n) → (x = 1 ∨ x = 2 ∨ x = 5 → 2 ≤ n) → (x = 3 ∨ x = 4 ∨ x = 6 → 3 ≤ n) → K (if x = -1 then 0 else undK x s) h → Yr (d + 1) mX5_isUnder 4 [vi kd, vi s, vi x, vi c] [] h (rI K) := by
    intro n
    induction n with
    | zero =>
      intro x c h1 h2 h3 h4 h5 _ _ _ kk
      have hx := h5 rfl
      subst hx
      refine yr_iload_n (pq := 5) rfl dX5_isUnder_4 rfl ?_
      refine yr_bipush (pq := 7) rfl dX5_isUnder_5 rfl ?_
      refine yr_ic_ge (pq := 10) (t := 32) rfl dX5_isUnder_7 rfl (by omega) (by omega) (fun q => ?_) (fun q => ?_)
      · refine yr_iconst (pq := 33) rfl dX5_isUnder_32 ?_
        exact yr_zret dX5_isUnder_33 rfl (by first | decide | omega) (kk)
      · refine yr_iload_n (pq := 11) rfl dX5_isUnder_10 rfl ?_
        refine yr_if_lt (pq := 14) (t := 32) rfl dX5_isUnder_11 rfl (by omega) (fun _ => ?_) (fun q9 => absurd (by omega) q9)
        refine yr_iconst (pq := 33) rfl dX5_isUnder_32 ?_
        exact yr_zret dX5_isUnder_33 rfl (by first | decide | omega) (kk)
    | succ n ih =>
      intro x c h1 h2 h3 h4 h5 h6 h7 h8 kk
      refine yr_iload_n (pq := 5) rfl dX5_isUnder_4 rfl ?_
      refine yr_bipush (pq := 7) rfl dX5_isUnder_5 rfl ?_
      refine yr_ic_ge (pq := 10) (t := 32) rfl dX5_isUnder_7 rfl (by omega) (by omega) (fun q9 => absurd q9 (by omega)) (fun _ => ?_)
      refine yr_iload_n (pq := 11) rfl dX5_isUnder_10 rfl ?_
      refine yr_if_lt (pq := 14) (t := 32) rfl dX5_isUnder_11 rfl (by omega) (fun q => ?_) (fun q => ?_)
      · have hx : x = -1 := by omega
        subst hx
        refine yr_iconst (pq := 33) rfl dX5_isUnder_32 ?_
        exact yr_zret dX5_isUnder_33 rfl (by first | decide | omega) (kk)
      · refine yr_iload_n (pq := 15) rfl dX5_isUnder_14 rfl ?_
        refine yr_iload_n (pq := 16) rfl dX5_isUnder_15 rfl ?_
        refine yr_ic_ne (pq := 19) (t := 21) rfl dX5_isUnder_16 rfl (by omega) (by omega) (fun q2 => ?_) (fun q2 => ?_)
        · refine yr_iload_n (pq := 22) rfl dX5_isUnder_21 rfl ?_
          refine yr_sI1 (pq := 25) rfl dX5_isUnder_22 kM_5_43 (by decide) cat0 (c_above (by omega) ?_)
          refine yr_istore2 (pq := 26) rfl dX5_isUnder_25 ?_
          refine yr_iinc3 (pq := 29) rfl dX5_isUnder_26 ?_
          refine yr_goto (t := 4) dX5_isUnder_29 rfl ?_
          refine ih _ _ ?_ ?_ ?_ ?_ ?_ ?_ ?_ ?_ ?_
          · rcases (show x = 0 ∨ x = 1 ∨ x = 2 ∨ x = 3 ∨ x = 4 ∨ x = 5 ∨ x = 6 by omega) with rfl | rfl | rfl | rfl | rfl | rfl | rfl <;> decide
          · rcases (show x = 0 ∨ x = 1 ∨ x = 2 ∨ x = 3 ∨ x = 4 ∨ x = 5 ∨ x = 6 by omega) with rfl | rfl | rfl | rfl | rfl | rfl | rfl <;> decide
          · omega
          · omega
          · intro hn
            rcases (show x = 0 ∨ x = 1 ∨ x = 2 ∨ x = 3 ∨ x = 4 ∨ x = 5 ∨ x = 6 by omega) with rfl | rfl | rfl | rfl | rfl | rfl | rfl <;> first | rfl | (exfalso; omega)
          · rcases (show x = 0 ∨ x = 1 ∨ x = 2 ∨ x = 3 ∨ x = 4 ∨ x = 5 ∨ x = 6 by omega) with rfl | rfl | rfl | rfl | rfl | rfl | rfl <;> (intro q9; first | omega | exact absurd q9 (by decide))
          · rcases (show x = 0 ∨ x = 1 ∨ x = 2 ∨ x = 3 ∨ x = 4 ∨ x = 5 ∨ x = 6 by omega) with rfl | rfl | rfl | rfl | rfl | rfl | rfl <;> (intro q9; first | omega | exact absurd q9 (by decide))
          · rcases (show x = 0 ∨ x = 1 ∨ x = 2 ∨ x = 3 ∨ x = 4 ∨ x = 5 ∨ x = 6 by omega) with rfl | rfl | rfl | rfl | rfl | rfl | rfl <;> (intro q9; first | omega | exact absurd q9 (by decide))
          · have e : (if x = -1 then 0 else undK x s) = (if abK x = -1 then 0 else undK (abK x) s) := by
              rcases (show x = 0 ∨ x = 1 ∨ x = 2 ∨ x = 3 ∨ x = 4 ∨ x = 5 ∨ x = 6 by omega) with rfl | rfl | rfl | rfl | rfl | rfl | rfl <;> simp [undK, abK] <;> omega
            rw [← e]
            exact kk
        · refine yr_iconst (pq := 20) rfl dX5_isUnder_19 ?_
          have e : (if x = -1 then 0 else undK x s) = 1 := by
            rw [if_neg (by omega)]
            unfold undK
            rw [if_pos (Or.inl q2)]
          rw [e] at kk
          exact yr_zret dX5_isUnder_20 rfl (by first | decide | omega) (kk)
  refine cl_in (al := [vi kd, vi s, .null, .null]) rfl (Nat.le_of_ble_eq_true rfl) (by simp [vi_cat, vr_cat, vs_cat]) ?_
  refine yr_iload_n (pq := 1) rfl dX5_isUnder_0 rfl ?_
  refine yr_istore2 (pq := 2) rfl dX5_isUnder_1 ?_
  refine yr_iconst (pq := 3) rfl dX5_isUnder_2 ?_
  refine yr_istore3 (pq := 4) rfl dX5_isUnder_3 ?_
  refine key 7 kd 0 (by omega) (by omega) (by omega) (by omega) (by omega) (by omega) (by omega) (by omega) ?_
  rw [if_neg (by omega)]
  exact k
end CS
