/-! of, change -/
theorem okT_chg {N : Int → Int} {s j v : Int} (hO : okT N) (s0 : 0 ≤ s) (s1 : s < N 8) (hj : (j = 0 ∧ 0 ≤ v ∧ v ≤ 6) ∨ (j = 3 ∧ 1 ≤ v ∧ v ≤ 20) ∨ (j = 4 ∧ 0 ≤ v ∧ v ≤ 1)) : okT (ur N (53 + 5 * s + j) v) := by
  have eo : ∀ x, x ≠ 53 + 5 * s + j → ur N (53 + 5 * s + j) v x = N x := fun x q => ur_o q
  obtain ⟨o1, o2, o3, o4, o5⟩ := hO
  unfold okT
  rw [eo 8 (by omega)]
  refine ⟨o1, fun c c0 c1 => by rw [eo c (by omega)]; exact o2 c c0 c1, fun i j0 j1 => by rw [eo _ (by omega)]; exact o3 i j0 j1, fun i j0 j1 => by rw [eo _ (by omega)]; exact o4 i j0 j1, fun t t0 t1 => ?_⟩
  have o := o5 t t0 t1
  by_cases e : t = s
  · subst e
    rcases hj with ⟨rfl, hv⟩ | ⟨rfl, hv⟩ | ⟨rfl, hv⟩
    · rw [ur_s, eo _ (by omega), eo _ (by omega), eo _ (by omega), eo _ (by omega)]; exact ⟨hv, o.2⟩
    · rw [ur_s, eo _ (by omega), eo _ (by omega), eo _ (by omega), eo _ (by omega)]; exact ⟨o.1, o.2.1, hv, o.2.2.2⟩
    · rw [ur_s, eo _ (by omega), eo _ (by omega), eo _ (by omega), eo _ (by omega)]; exact ⟨o.1, o.2.1, o.2.2.1, hv⟩
  · rw [eo _ (by omega), eo _ (by omega), eo _ (by omega), eo _ (by omega), eo _ (by omega)]; exact o
theorem okS_hi {N : Int → Int} {r v : Int} (hS : okS N) (hr : 53 ≤ r) : okS (ur N r v) := okS_lo hS (fun j hj => ur_o (by omega))
section S17
variable {d : Nat} {h : hT} {K : Int → hT → Prop}
theorem r_of {s w : Int} {N : Int → Int} (hB : RB h N) (hO : okT N) (hs : -2147483648 ≤ s ∧ s ≤ 2147483647) (hw : -2147483648 ≤ w ∧ w ≤ 2147483647) (k0 : ¬ ((0 ≤ s ∧ s < N 8) ∧ (0 ≤ w ∧ w ≤ 6)) → ∀ e, FD (-1000001) h e → K (-1000001) e)
    (k1 : (0 ≤ s ∧ s < N 8) → (0 ≤ w ∧ w ≤ 6) → K (if w = 5 then takesF N s else if w = 6 then licksK (N (53 + 5 * s + 0)) else N (53 + 5 * s + w)) h) : ClI (d + 4) mX8_of [vr 108, vi s, vi w] h K := by
  obtain ⟨e9, -⟩ := hB
  subst e9
  have h8 := hO.1
  refine cl_in (al := [vr 108, vi s, vi w]) rfl (Nat.le_of_ble_eq_true rfl) (by simp [vi_cat, vr_cat, vs_cat]) ?_
  refine yr_aload_n (pq := 1) rfl dX8_of_0 rfl ?_
  refine yr_iload_n (pq := 2) rfl dX8_of_1 rfl ?_
  refine yr_vI1 (pq := 5) rfl dX8_of_2 kM_8_123 (by decide) (by decide) cat0 (m_isStreet hs h8 (fun q1 => ?_) (fun q1 => ?_))
  · refine yr_if_eq (pq := 8) (t := 18) rfl dX8_of_5 rfl (by decide) (fun q9 => absurd q9 (by decide)) (fun _ => ?_)
    refine yr_iload_n (pq := 9) rfl dX8_of_8 rfl ?_
    refine yr_iconst (pq := 10) rfl dX8_of_9 ?_
    refine yr_bipush (pq := 12) rfl dX8_of_10 rfl ?_
    refine yr_sI3 (pq := 15) rfl dX8_of_12 kM_8_78 (by decide) cat0 (m_within hw (by decide) (by decide) (fun q2 => ?_) (fun q2 => ?_))
    · have k1 := k1 q1 q2
      refine yr_if_ne (pq := 18) (t := 25) rfl dX8_of_15 rfl (by decide) (fun _ => ?_) (fun q9 => absurd q9 (by decide))
      refine yr_iload_n (pq := 26) rfl dX8_of_25 rfl ?_
      refine yr_iconst (pq := 27) rfl dX8_of_26 ?_
      refine yr_ic_ne (pq := 30) (t := 38) rfl dX8_of_27 rfl (by omega) (by omega) (fun q3 => ?_) (fun q3 => ?_)
      · rw [if_neg q3] at k1
        refine yr_iload_n (pq := 39) rfl dX8_of_38 rfl ?_
        refine yr_bipush (pq := 41) rfl dX8_of_39 rfl ?_
        refine yr_ic_ne (pq := 44) (t := 52) rfl dX8_of_41 rfl (by omega) (by omega) (fun q4 => ?_) (fun q4 => ?_)
        · rw [if_neg q4] at k1
          refine yr_aload_n (pq := 53) rfl dX8_of_52 rfl ?_
          refine yr_iload_n (pq := 54) rfl dX8_of_53 rfl ?_
          refine yr_iload_n (pq := 55) rfl dX8_of_54 rfl ?_
          refine yr_vI2 (pq := 58) rfl dX8_of_55 kM_8_113 (by decide) (by decide) cat0 (m_streetIs (by omega) (by omega) ?_)
          exact yr_iret dX8_of_58 rfl (k1)
        · rw [if_pos q4] at k1
          refine yr_aload_n (pq := 45) rfl dX8_of_44 rfl ?_
          refine yr_iload_n (pq := 46) rfl dX8_of_45 rfl ?_
          refine yr_vI1 (pq := 49) rfl dX8_of_46 kM_8_120 (by decide) (by decide) cat0 (m_licks hO q1.1 q1.2 ?_)
          refine yr_goto (t := 58) dX8_of_49 rfl ?_
          exact yr_iret dX8_of_58 rfl (k1)
      · rw [if_pos q3] at k1
        refine yr_aload_n (pq := 31) rfl dX8_of_30 rfl ?_
        refine yr_iload_n (pq := 32) rfl dX8_of_31 rfl ?_
        refine yr_vI1 (pq := 35) rfl dX8_of_32 kM_8_126 (by decide) (by decide) cat0 (m_takes hO q1.1 q1.2 ?_)
        refine yr_goto (t := 58) dX8_of_35 rfl ?_
        exact yr_iret dX8_of_58 rfl (k1)
    · refine yr_if_ne (pq := 18) (t := 25) rfl dX8_of_15 rfl (by decide) (fun q9 => absurd (by decide) q9) (fun _ => ?_)
      refine yr_aload_n (pq := 19) rfl dX8_of_18 rfl ?_
      refine yr_ldc (pq := 21) rfl dX8_of_19 kN_8_73 ?_
      refine yr_vI1 (pq := 24) rfl dX8_of_21 kM_8_101 (by decide) (by decide) cat0 (r_fnd (by decide) (fun e hf => ?_))
      exact yr_iret dX8_of_24 rfl (k0 (by omega) e hf)
  · refine yr_if_eq (pq := 8) (t := 18) rfl dX8_of_5 rfl (by decide) (fun _ => ?_) (fun q9 => absurd (by decide) q9)
    refine yr_aload_n (pq := 19) rfl dX8_of_18 rfl ?_
    refine yr_ldc (pq := 21) rfl dX8_of_19 kN_8_73 ?_
    refine yr_vI1 (pq := 24) rfl dX8_of_21 kM_8_101 (by decide) (by decide) cat0 (r_fnd (by decide) (fun e hf => ?_))
    exact yr_iret dX8_of_24 rfl (k0 (by omega) e hf)
theorem s_of {s w : Int} (hI : Inv h) (hs : -2147483648 ≤ s ∧ s ≤ 2147483647) (hw : -2147483648 ≤ w ∧ w ≤ 2147483647) : Sm (d + 30) mX7_of mX8_of [vi s, vi w] h := by
  have hI0 := hI
  obtain ⟨⟨i1, i2, i3, i3'⟩, -, -, -, -, -, i11⟩ := hI0
  have h8 := i2.1
  show ClI (d + 30) mX7_of [vr 0, vi s, vi w] h (SKn (d + 30) mX8_of [vr 108, vi s, vi w])
  refine cl_in (al := [vr 0, vi s, vi w, .null]) rfl (Nat.le_of_ble_eq_true rfl) (by simp [vi_cat, vr_cat, vs_cat]) ?_
  refine yr_aload_n (pq := 1) rfl dX7_of_0 rfl ?_
  refine yr_getR (pq := 4) (b := 1) 0 rfl dX7_of_1 kF_7_10 (by decide) rfl ?_
  refine yr_getR (pq := 7) (b := 2) 0 rfl dX7_of_4 kF_7_70 (by decide) rfl ?_
  refine yr_iload_n (pq := 8) rfl dX7_of_7 rfl ?_
  refine yr_vI1 (pq := 11) rfl dX7_of_8 kM_7_81 (by decide) (tw_c (by decide)) cat0 (c_has (N := h 109) (by decide) hs i1.1.1 h8 (fun q1 => ?_) (fun q1 => ?_))
  · obtain ⟨o0, o3, o4, o5⟩ := rt_okst i1.1 i2 q1.1 q1.2
    obtain ⟨u1, u2, u3⟩ := rt_ends i1.1 i2 q1.1 q1.2
    obtain ⟨v0, v1, v2, v3, v4⟩ := i1.1.2.2.2.2 s q1.1 q1.2
    have ok : ∀ (z : Int), (0 ≤ w ∧ w ≤ 6) → (if w = 5 then takesF (h 109) s else if w = 6 then licksK (h 109 (53 + 5 * s + 0)) else h 109 (53 + 5 * s + w)) = z → SKn (d + 30) mX8_of [vr 108, vi s, vi w] z h := fun z hq hz => r_of (rb_0 hI) i2 hs hw (fun q9 => absurd ⟨q1, hq⟩ q9) (fun _ _ => ⟨hz, hI⟩)
    refine yr_if_ne (pq := 14) (t := 20) rfl dX7_of_11 rfl (by decide) (fun _ => ?_) (fun q9 => absurd q9 (by decide))
    refine yr_aload_n (pq := 21) rfl dX7_of_20 rfl ?_
    refine yr_getR (pq := 24) (b := 1) 0 rfl dX7_of_21 kF_7_10 (by decide) rfl ?_
    refine yr_getR (pq := 27) (b := 2) 0 rfl dX7_of_24 kF_7_70 (by decide) rfl ?_
    refine yr_getR (pq := 30) 0 rfl dX7_of_27 kF_7_84 (tw_c (by decide)) (fr_6_0 (by decide)) ?_
    refine yr_iload_n (pq := 31) rfl dX7_of_30 rfl ?_
    refine yr_aald (pq := 32) rfl dX7_of_31 (tw_k1 (by decide)) (by decide) (by omega) (st_q (by decide) (by omega) (by omega)) ?_
    refine yr_astore3 (pq := 33) rfl dX7_of_32 ?_
    refine yr_iload_n (pq := 34) rfl dX7_of_33 rfl ?_
    have h10 : w = 0 ∨ w = 1 ∨ w = 2 ∨ w = 3 ∨ w = 4 ∨ w = 5 ∨ w = 6 ∨ ¬ (0 ≤ w ∧ w ≤ 6) := by omega
    rcases h10 with e | e | e | e | e | e | e | e
    · subst e
      refine yr_tab (t := 76) dX7_of_34 (by omega) (by omega) (by omega) rfl rfl ?_
      refine yr_aload_n (pq := 77) rfl dX7_of_76 rfl ?_
      refine yr_getI (pq := 80) 0 rfl dX7_of_77 kF_7_88 (by decide) rfl (st_c (by decide) q1.1 (by omega)) ?_
      exact yr_iret dX7_of_80 rfl (ok _ (by decide) v0.symm)
    · subst e
      refine yr_tab (t := 81) dX7_of_34 (by omega) (by omega) (by omega) rfl rfl ?_
      refine yr_aload_n (pq := 82) rfl dX7_of_81 rfl ?_
      refine yr_getI (pq := 85) 1 rfl dX7_of_82 kF_7_94 (by decide) rfl (st_c (by decide) q1.1 (by omega)) ?_
      refine yr_aload_n (pq := 86) rfl dX7_of_85 rfl ?_
      refine yr_getI (pq := 89) 2 rfl dX7_of_86 kF_7_97 (by decide) rfl (st_c (by decide) q1.1 (by omega)) ?_
      refine yr_sI2 (pq := 92) rfl dX7_of_89 kM_7_100 (by decide) cat0 (j_min (by omega) (by omega) ?_)
      exact yr_iret dX7_of_92 rfl (ok _ (by decide) v1.symm)
    · subst e
      refine yr_tab (t := 93) dX7_of_34 (by omega) (by omega) (by omega) rfl rfl ?_
      refine yr_aload_n (pq := 94) rfl dX7_of_93 rfl ?_
      refine yr_getI (pq := 97) 1 rfl dX7_of_94 kF_7_94 (by decide) rfl (st_c (by decide) q1.1 (by omega)) ?_
      refine yr_aload_n (pq := 98) rfl dX7_of_97 rfl ?_
      refine yr_getI (pq := 101) 2 rfl dX7_of_98 kF_7_97 (by decide) rfl (st_c (by decide) q1.1 (by omega)) ?_
      refine yr_sI2 (pq := 104) rfl dX7_of_101 kM_7_106 (by decide) cat0 (j_max (by omega) (by omega) ?_)
      exact yr_iret dX7_of_104 rfl (ok _ (by decide) v2.symm)
    · subst e
      refine yr_tab (t := 105) dX7_of_34 (by omega) (by omega) (by omega) rfl rfl ?_
      refine yr_aload_n (pq := 106) rfl dX7_of_105 rfl ?_
      refine yr_getI (pq := 109) 3 rfl dX7_of_106 kF_7_109 (by decide) rfl (st_c (by decide) q1.1 (by omega)) ?_
      exact yr_iret dX7_of_109 rfl (ok _ (by decide) v3.symm)
    · subst e
      refine yr_tab (t := 110) dX7_of_34 (by omega) (by omega) (by omega) rfl rfl ?_
      refine yr_aload_n (pq := 111) rfl dX7_of_110 rfl ?_
      refine yr_getI (pq := 114) 4 rfl dX7_of_111 kF_7_112 (by decide) rfl (st_c (by decide) q1.1 (by omega)) ?_
      exact yr_iret dX7_of_114 rfl (ok _ (by decide) v4.symm)
    · subst e
      refine yr_tab (t := 115) dX7_of_34 (by omega) (by omega) (by omega) rfl rfl ?_
      refine yr_aload_n (pq := 116) rfl dX7_of_115 rfl ?_
      refine yr_vI0 (pq := 119) rfl dX7_of_116 kM_7_115 (by decide) (st_c (by decide) q1.1 (by omega)) cat0 (c_takes (st_c (by decide) q1.1 (by omega)) o0 o3 ?_)
      exact yr_iret dX7_of_119 rfl (ok _ (by decide) o5.symm)
    · subst e
      refine yr_tab (t := 120) dX7_of_34 (by omega) (by omega) (by omega) rfl rfl ?_
      refine yr_aload_n (pq := 121) rfl dX7_of_120 rfl ?_
      refine yr_getI (pq := 124) 0 rfl dX7_of_121 kF_7_88 (by decide) rfl (st_c (by decide) q1.1 (by omega)) ?_
      refine yr_sI1 (pq := 127) rfl dX7_of_124 kM_7_119 (by decide) cat0 (c_licks o0 ?_)
      exact yr_iret dX7_of_127 rfl (ok _ (by decide) (by rw [v0]; rfl))
    · refine yr_tabO (t := 128) dX7_of_34 (by omega) (by omega) rfl ?_
      refine yr_aload_n (pq := 129) rfl dX7_of_128 rfl ?_
      refine yr_iconst (pq := 130) rfl dX7_of_129 ?_
      refine yr_vI1 (pq := 133) rfl dX7_of_130 kM_7_66 (by decide) (by decide) cat0 (c_finding (by decide) ?_)
      exact yr_iret dX7_of_133 rfl (r_of (rb_u hI (by decide) (by decide)) i2 hs hw (fun _ e hf => fd_end hI (by decide) (by decide) hf) (fun _ q9 => absurd q9 e))
  · refine yr_if_ne (pq := 14) (t := 20) rfl dX7_of_11 rfl (by decide) (fun q9 => absurd (by decide) q9) (fun _ => ?_)
    refine yr_aload_n (pq := 15) rfl dX7_of_14 rfl ?_
    refine yr_iconst (pq := 16) rfl dX7_of_15 ?_
    refine yr_vI1 (pq := 19) rfl dX7_of_16 kM_7_66 (by decide) (by decide) cat0 (c_finding (by decide) ?_)
    exact yr_iret dX7_of_19 rfl (r_of (rb_u hI (by decide) (by decide)) i2 hs hw (fun _ e hf => fd_end hI (by decide) (by decide) hf) (fun q9 => absurd q9 q1))
def gdC (w v : Int) : Prop := (w = 0 ∧ 0 ≤ v ∧ v ≤ 6) ∨ (w = 3 ∧ 1 ≤ v ∧ v ≤ 20) ∨ (w = 4 ∧ 0 ≤ v ∧ v ≤ 1)
theorem r_change {s w v : Int} {N : Int → Int} (hB : RB h N) (hO : okT N) (hs : -2147483648 ≤ s ∧ s ≤ 2147483647) (hw : -2147483648 ≤ w ∧ w ≤ 2147483647) (hv : -2147483648 ≤ v ∧ v ≤ 2147483647) (k0 : ¬ ((0 ≤ s ∧ s < N 8) ∧ gdC w v) → ∀ e, FD (-1000001) h e → K (-1000001) e)
    (k1 : (0 ≤ s ∧ s < N 8) → gdC w v → K (N (53 + 5 * s + w)) (up h 109 (53 + 5 * s + w) v)) : ClI (d + 3) mX8_change [vr 108, vi s, vi w, vi v] h K := by
  obtain ⟨e9, -⟩ := hB
  subst e9
  have h8 := hO.1
  have fin1 : gdC w v → Yr (d + 2) mX8_change 45 [vr 108, vi s, vi w, vi v, .null] [vi 1] h (rI K) := by
    intro gd
    have gd' := gd
    unfold gdC at gd'
    refine yr_istore4 (pq := 47) rfl dX8_change_45 ?_
    refine yr_aload_n (pq := 48) rfl dX8_change_47 rfl ?_
    refine yr_iload_n (pq := 49) rfl dX8_change_48 rfl ?_
    refine yr_vI1 (pq := 52) rfl dX8_change_49 kM_8_123 (by decide) (by decide) cat0 (m_isStreet hs h8 (fun q => ?_) (fun q => ?_))
    · refine yr_if_eq (pq := 55) (t := 73) rfl dX8_change_52 rfl (by decide) (fun q9 => absurd q9 (by decide)) (fun _ => ?_)
      refine yr_iload (pq := 57) rfl dX8_change_55 rfl ?_
      refine yr_if_eq (pq := 60) (t := 73) rfl dX8_change_57 rfl (by decide) (fun q9 => absurd q9 (by decide)) (fun _ => ?_)
      refine yr_aload_n (pq := 61) rfl dX8_change_60 rfl ?_
      refine yr_iload_n (pq := 62) rfl dX8_change_61 rfl ?_
      refine yr_iload_n (pq := 63) rfl dX8_change_62 rfl ?_
      refine yr_sI2 (pq := 66) rfl dX8_change_63 kM_8_82 (by decide) (Nat.le_of_ble_eq_true rfl) (m_at ?_)
      refine yr_iload_n (pq := 67) rfl dX8_change_66 rfl ?_
      refine yr_vI2 (pq := 70) rfl dX8_change_67 kM_8_129 (by decide) (by decide) cat0 (m_become (by omega) ?_)
      refine yr_goto (t := 79) dX8_change_70 rfl ?_
      exact yr_iret dX8_change_79 rfl (k1 q gd)
    · refine yr_if_eq (pq := 55) (t := 73) rfl dX8_change_52 rfl (by decide) (fun _ => ?_) (fun q9 => absurd (by decide) q9)
      refine yr_aload_n (pq := 74) rfl dX8_change_73 rfl ?_
      refine yr_ldc (pq := 76) rfl dX8_change_74 kN_8_73 ?_
      refine yr_vI1 (pq := 79) rfl dX8_change_76 kM_8_101 (by decide) (by decide) cat0 (r_fnd (by decide) (fun e hf => ?_))
      exact yr_iret dX8_change_79 rfl (k0 (fun x => q x.1) e hf)
  have fin0 : ¬ gdC w v → Yr (d + 2) mX8_change 45 [vr 108, vi s, vi w, vi v, .null] [vi 0] h (rI K) := by
    intro gd
    refine yr_istore4 (pq := 47) rfl dX8_change_45 ?_
    refine yr_aload_n (pq := 48) rfl dX8_change_47 rfl ?_
    refine yr_iload_n (pq := 49) rfl dX8_change_48 rfl ?_
    refine yr_vI1 (pq := 52) rfl dX8_change_49 kM_8_123 (by decide) (by decide) cat0 (m_isStreet hs h8 (fun q => ?_) (fun q => ?_))
    · refine yr_if_eq (pq := 55) (t := 73) rfl dX8_change_52 rfl (by decide) (fun q9 => absurd q9 (by decide)) (fun _ => ?_)
      refine yr_iload (pq := 57) rfl dX8_change_55 rfl ?_
      refine yr_if_eq (pq := 60) (t := 73) rfl dX8_change_57 rfl (by decide) (fun _ => ?_) (fun q9 => absurd (by decide) q9)
      refine yr_aload_n (pq := 74) rfl dX8_change_73 rfl ?_
      refine yr_ldc (pq := 76) rfl dX8_change_74 kN_8_73 ?_
      refine yr_vI1 (pq := 79) rfl dX8_change_76 kM_8_101 (by decide) (by decide) cat0 (r_fnd (by decide) (fun e hf => ?_))
      exact yr_iret dX8_change_79 rfl (k0 (fun x => gd x.2) e hf)
    · refine yr_if_eq (pq := 55) (t := 73) rfl dX8_change_52 rfl (by decide) (fun _ => ?_) (fun q9 => absurd (by decide) q9)
      refine yr_aload_n (pq := 74) rfl dX8_change_73 rfl ?_
      refine yr_ldc (pq := 76) rfl dX8_change_74 kN_8_73 ?_
      refine yr_vI1 (pq := 79) rfl dX8_change_76 kM_8_101 (by decide) (by decide) cat0 (r_fnd (by decide) (fun e hf => ?_))
      exact yr_iret dX8_change_79 rfl (k0 (fun x => q x.1) e hf)
  unfold gdC at fin0 fin1
  have p26 : ¬ (w = 0 ∧ 0 ≤ v ∧ v ≤ 6) → ¬ (w = 3 ∧ 1 ≤ v ∧ v ≤ 20) → Yr (d + 2) mX8_change 26 [vr 108, vi s, vi w, vi v, .null] [] h (rI K) := by
    intro n1 n2
    refine yr_iload_n (pq := 27) rfl dX8_change_26 rfl ?_
    refine yr_iconst (pq := 28) rfl dX8_change_27 ?_
    refine yr_ic_ne (pq := 31) (t := 44) rfl dX8_change_28 rfl (by omega) (by omega) (fun q => ?_) (fun q => ?_)
    · refine yr_iconst (pq := 45) rfl dX8_change_44 ?_
      exact fin0 (by omega)
    · refine yr_iload_n (pq := 32) rfl dX8_change_31 rfl ?_
      refine yr_iconst (pq := 33) rfl dX8_change_32 ?_
      refine yr_iconst (pq := 34) rfl dX8_change_33 ?_
      refine yr_sI3 (pq := 37) rfl dX8_change_34 kM_8_78 (by decide) cat0 (m_within hv (by decide) (by decide) (fun q2 => ?_) (fun q2 => ?_))
      · refine yr_if_eq (pq := 40) (t := 44) rfl dX8_change_37 rfl (by decide) (fun q9 => absurd q9 (by decide)) (fun _ => ?_)
        refine yr_iconst (pq := 41) rfl dX8_change_40 ?_
        refine yr_goto (t := 45) dX8_change_41 rfl ?_
        exact fin1 (by omega)
      · refine yr_if_eq (pq := 40) (t := 44) rfl dX8_change_37 rfl (by decide) (fun _ => ?_) (fun q9 => absurd (by decide) q9)
        refine yr_iconst (pq := 45) rfl dX8_change_44 ?_
        exact fin0 (by omega)
  have p11 : ¬ (w = 0 ∧ 0 ≤ v ∧ v ≤ 6) → Yr (d + 2) mX8_change 11 [vr 108, vi s, vi w, vi v, .null] [] h (rI K) := by
    intro n1
    refine yr_iload_n (pq := 12) rfl dX8_change_11 rfl ?_
    refine yr_iconst (pq := 13) rfl dX8_change_12 ?_
    refine yr_ic_ne (pq := 16) (t := 26) rfl dX8_change_13 rfl (by omega) (by omega) (fun q => ?_) (fun q => ?_)
    · exact p26 n1 (by omega)
    · refine yr_iload_n (pq := 17) rfl dX8_change_16 rfl ?_
      refine yr_iconst (pq := 18) rfl dX8_change_17 ?_
      refine yr_bipush (pq := 20) rfl dX8_change_18 rfl ?_
      refine yr_sI3 (pq := 23) rfl dX8_change_20 kM_8_78 (by decide) cat0 (m_within hv (by decide) (by decide) (fun q2 => ?_) (fun q2 => ?_))
      · refine yr_if_ne (pq := 26) (t := 40) rfl dX8_change_23 rfl (by decide) (fun _ => ?_) (fun q9 => absurd q9 (by decide))
        refine yr_iconst (pq := 41) rfl dX8_change_40 ?_
        refine yr_goto (t := 45) dX8_change_41 rfl ?_
        exact fin1 (by omega)
      · refine yr_if_ne (pq := 26) (t := 40) rfl dX8_change_23 rfl (by decide) (fun q9 => absurd (by decide) q9) (fun _ => ?_)
        exact p26 n1 (by omega)
  refine cl_in (al := [vr 108, vi s, vi w, vi v, .null]) rfl (Nat.le_of_ble_eq_true rfl) (by simp [vi_cat, vr_cat, vs_cat]) ?_
  refine yr_iload_n (pq := 1) rfl dX8_change_0 rfl ?_
  refine yr_if_ne (pq := 4) (t := 11) rfl dX8_change_1 rfl (by omega) (fun q => ?_) (fun q => ?_)
  · exact p11 (by omega)
  · refine yr_iload_n (pq := 5) rfl dX8_change_4 rfl ?_
    refine yr_sI1 (pq := 8) rfl dX8_change_5 kM_8_94 (by decide) cat0 (m_isKind hv (fun q2 => ?_) (fun q2 => ?_))
    · refine yr_if_ne (pq := 11) (t := 40) rfl dX8_change_8 rfl (by decide) (fun _ => ?_) (fun q9 => absurd q9 (by decide))
      refine yr_iconst (pq := 41) rfl dX8_change_40 ?_
      refine yr_goto (t := 45) dX8_change_41 rfl ?_
      exact fin1 (by omega)
    · refine yr_if_ne (pq := 11) (t := 40) rfl dX8_change_8 rfl (by decide) (fun q9 => absurd (by decide) q9) (fun _ => ?_)
      exact p11 (by omega)
theorem s_change {s w v : Int} (hI : Inv h) (hs : -2147483648 ≤ s ∧ s ≤ 2147483647) (hw : -2147483648 ≤ w ∧ w ≤ 2147483647) (hv : -2147483648 ≤ v ∧ v ≤ 2147483647) : Sm (d + 30) mX7_change mX8_change [vi s, vi w, vi v] h := by
  have hI0 := hI
  obtain ⟨⟨i1, i2, i3, i3'⟩, -, -, -, -, -, i11⟩ := hI0
  have h8 := i2.1
  show ClI (d + 30) mX7_change [vr 0, vi s, vi w, vi v] h (SKn (d + 30) mX8_change [vr 108, vi s, vi w, vi v])
  refine cl_in (al := [vr 0, vi s, vi w, vi v, .null, .null]) rfl (Nat.le_of_ble_eq_true rfl) (by simp [vi_cat, vr_cat, vs_cat]) ?_
  refine yr_aload_n (pq := 1) rfl dX7_change_0 rfl ?_
  refine yr_getR (pq := 4) (b := 1) 0 rfl dX7_change_1 kF_7_10 (by decide) rfl ?_
  refine yr_getR (pq := 7) (b := 2) 0 rfl dX7_change_4 kF_7_70 (by decide) rfl ?_
  refine yr_iload_n (pq := 8) rfl dX7_change_7 rfl ?_
  refine yr_vI1 (pq := 11) rfl dX7_change_8 kM_7_81 (by decide) (tw_c (by decide)) cat0 (c_has (N := h 109) (by decide) hs i1.1.1 h8 (fun q1 => ?_) (fun q1 => ?_))
  · obtain ⟨v0, v1, v2, v3, v4⟩ := i1.1.2.2.2.2 s q1.1 q1.2
    have ok : ∀ j, j = w → gdC j v → h (2 + 6 + s) j = h 109 (53 + 5 * s + j) → SKn (d + 30) mX8_change [vr 108, vi s, vi w, vi v] (h (2 + 6 + s) j) (up h (2 + 6 + s) j v) := by
      intro j hj gd ez
      subst hj
      refine r_change (rb_u hI (by omega) (by omega)) i2 hs hw hv (fun q9 => absurd ⟨q1, gd⟩ q9) (fun _ _ => ⟨ez.symm, ?_⟩)
      unfold gdC at gd
      refine Inv_up hI (Or.inr (Or.inr (Or.inr (Or.inr (Or.inr (Or.inr (Or.inr ⟨by omega, by omega, by omega, by omega⟩))))))) (okT_chg i2 q1.1 q1.2 (by omega)) (okS_hi i3 (by omega)) ?_
      rw [ur_o (by omega)]; exact i3'
    have p122 : ¬ gdC w v → ∀ x, Yr (d + 29) mX7_change 122 [vr 0, vi s, vi w, vi v, vr (2 + 6 + s), x] [] h (rI (SKn (d + 30) mX8_change [vr 108, vi s, vi w, vi v])) := by
      intro gd x
      refine yr_aload_n (pq := 123) rfl dX7_change_122 rfl ?_
      refine yr_iconst (pq := 124) rfl dX7_change_123 ?_
      refine yr_vI1 (pq := 127) rfl dX7_change_124 kM_7_66 (by decide) (by decide) cat0 (c_finding (by decide) ?_)
      refine yr_istore5 (pq := 129) rfl dX7_change_127 ?_
      refine yr_iload (pq := 131) rfl dX7_change_129 rfl ?_
      exact yr_iret dX7_change_131 rfl (r_change (rb_u hI (by decide) (by decide)) i2 hs hw hv (fun _ e hf => fd_end hI (by decide) (by decide) hf) (fun _ q9 => absurd q9 gd))
    have p92 : ¬ (w = 0 ∧ 0 ≤ v ∧ v ≤ 6) → ¬ (w = 3 ∧ 1 ≤ v ∧ v ≤ 20) → Yr (d + 29) mX7_change 92 [vr 0, vi s, vi w, vi v, vr (2 + 6 + s), .null] [] h (rI (SKn (d + 30) mX8_change [vr 108, vi s, vi w, vi v])) := by
      intro n1 n2
      refine yr_iload_n (pq := 93) rfl dX7_change_92 rfl ?_
      refine yr_iconst (pq := 94) rfl dX7_change_93 ?_
      refine yr_ic_ne (pq := 97) (t := 122) rfl dX7_change_94 rfl (by omega) (by omega) (fun q => ?_) (fun q => ?_)
      · exact p122 (by unfold gdC; omega) _
      · refine yr_iload_n (pq := 98) rfl dX7_change_97 rfl ?_
        refine yr_iconst (pq := 99) rfl dX7_change_98 ?_
        refine yr_iconst (pq := 100) rfl dX7_change_99 ?_
        refine yr_sI3 (pq := 103) rfl dX7_change_100 kM_7_62 (by decide) cat0 (c_isIn hv (by decide) (by decide) (fun q2 => ?_) (fun q2 => ?_))
        · refine yr_if_eq (pq := 106) (t := 122) rfl dX7_change_103 rfl (by decide) (fun q9 => absurd q9 (by decide)) (fun _ => ?_)
          refine yr_aload (pq := 108) rfl dX7_change_106 rfl ?_
          refine yr_getI (pq := 111) 4 rfl dX7_change_108 kF_7_112 (by decide) rfl (st_c (by decide) q1.1 (by omega)) ?_
          refine yr_istore5 (pq := 113) rfl dX7_change_111 ?_
          refine yr_aload (pq := 115) rfl dX7_change_113 rfl ?_
          refine yr_iload_n (pq := 116) rfl dX7_change_115 rfl ?_
          refine yr_putI (pq := 119) 4 rfl dX7_change_116 kF_7_112 (by decide) rfl rfl (st_c (by decide) q1.1 (by omega)) ?_
          refine yr_goto (t := 129) dX7_change_119 rfl ?_
          refine yr_iload (pq := 131) rfl dX7_change_129 rfl ?_
          exact yr_iret dX7_change_131 rfl (ok 4 (by omega) (by unfold gdC; omega) v4)
        · refine yr_if_eq (pq := 106) (t := 122) rfl dX7_change_103 rfl (by decide) (fun _ => ?_) (fun q9 => absurd (by decide) q9)
          exact p122 (by unfold gdC; omega) _
    have p61 : ¬ (w = 0 ∧ 0 ≤ v ∧ v ≤ 6) → Yr (d + 29) mX7_change 61 [vr 0, vi s, vi w, vi v, vr (2 + 6 + s), .null] [] h (rI (SKn (d + 30) mX8_change [vr 108, vi s, vi w, vi v])) := by
      intro n1
      refine yr_iload_n (pq := 62) rfl dX7_change_61 rfl ?_
      refine yr_iconst (pq := 63) rfl dX7_change_62 ?_
      refine yr_ic_ne (pq := 66) (t := 92) rfl dX7_change_63 rfl (by omega) (by omega) (fun q => ?_) (fun q => ?_)
      · exact p92 n1 (by omega)
      · refine yr_iload_n (pq := 67) rfl dX7_change_66 rfl ?_
        refine yr_iconst (pq := 68) rfl dX7_change_67 ?_
        refine yr_bipush (pq := 70) rfl dX7_change_68 rfl ?_
        refine yr_sI3 (pq := 73) rfl dX7_change_70 kM_7_62 (by decide) cat0 (c_isIn hv (by decide) (by decide) (fun q2 => ?_) (fun q2 => ?_))
        · refine yr_if_eq (pq := 76) (t := 92) rfl dX7_change_73 rfl (by decide) (fun q9 => absurd q9 (by decide)) (fun _ => ?_)
          refine yr_aload (pq := 78) rfl dX7_change_76 rfl ?_
          refine yr_getI (pq := 81) 3 rfl dX7_change_78 kF_7_109 (by decide) rfl (st_c (by decide) q1.1 (by omega)) ?_
          refine yr_istore5 (pq := 83) rfl dX7_change_81 ?_
          refine yr_aload (pq := 85) rfl dX7_change_83 rfl ?_
          refine yr_iload_n (pq := 86) rfl dX7_change_85 rfl ?_
          refine yr_putI (pq := 89) 3 rfl dX7_change_86 kF_7_109 (by decide) rfl rfl (st_c (by decide) q1.1 (by omega)) ?_
          refine yr_goto (t := 129) dX7_change_89 rfl ?_
          refine yr_iload (pq := 131) rfl dX7_change_129 rfl ?_
          exact yr_iret dX7_change_131 rfl (ok 3 (by omega) (by unfold gdC; omega) v3)
        · refine yr_if_eq (pq := 76) (t := 92) rfl dX7_change_73 rfl (by decide) (fun _ => ?_) (fun q9 => absurd (by decide) q9)
          exact p92 n1 (by omega)
    refine yr_if_ne (pq := 14) (t := 20) rfl dX7_change_11 rfl (by decide) (fun _ => ?_) (fun q9 => absurd q9 (by decide))
    refine yr_aload_n (pq := 21) rfl dX7_change_20 rfl ?_
    refine yr_getR (pq := 24) (b := 1) 0 rfl dX7_change_21 kF_7_10 (by decide) rfl ?_
    refine yr_getR (pq := 27) (b := 2) 0 rfl dX7_change_24 kF_7_70 (by decide) rfl ?_
    refine yr_getR (pq := 30) 0 rfl dX7_change_27 kF_7_84 (tw_c (by decide)) (fr_6_0 (by decide)) ?_
    refine yr_iload_n (pq := 31) rfl dX7_change_30 rfl ?_
    refine yr_aald (pq := 32) rfl dX7_change_31 (tw_k1 (by decide)) (by decide) (by omega) (st_q (by decide) (by omega) (by omega)) ?_
    refine yr_astore4 (pq := 34) rfl dX7_change_32 ?_
    refine yr_iload_n (pq := 35) rfl dX7_change_34 rfl ?_
    refine yr_if_ne (pq := 38) (t := 61) rfl dX7_change_35 rfl (by omega) (fun q => ?_) (fun q => ?_)
    · exact p61 (by omega)
    · refine yr_iload_n (pq := 39) rfl dX7_change_38 rfl ?_
      refine yr_sI1 (pq := 42) rfl dX7_change_39 kM_7_55 (by decide) cat0 (c_isKind hv (fun q2 => ?_) (fun q2 => ?_))
      · refine yr_if_eq (pq := 45) (t := 61) rfl dX7_change_42 rfl (by decide) (fun q9 => absurd q9 (by decide)) (fun _ => ?_)
        refine yr_aload (pq := 47) rfl dX7_change_45 rfl ?_
        refine yr_getI (pq := 50) 0 rfl dX7_change_47 kF_7_88 (by decide) rfl (st_c (by decide) (by omega) (by omega)) ?_
        refine yr_istore5 (pq := 52) rfl dX7_change_50 ?_
        refine yr_aload (pq := 54) rfl dX7_change_52 rfl ?_
        refine yr_iload_n (pq := 55) rfl dX7_change_54 rfl ?_
        refine yr_putI (pq := 58) 0 rfl dX7_change_55 kF_7_88 (by decide) rfl rfl (st_c (by decide) (by omega) (by omega)) ?_
        refine yr_goto (t := 129) dX7_change_58 rfl ?_
        refine yr_iload (pq := 131) rfl dX7_change_129 rfl ?_
        exact yr_iret dX7_change_131 rfl (ok 0 (by omega) (by unfold gdC; omega) v0)
      · refine yr_if_eq (pq := 45) (t := 61) rfl dX7_change_42 rfl (by decide) (fun _ => ?_) (fun q9 => absurd (by decide) q9)
        exact p61 (by omega)
  · refine yr_if_ne (pq := 14) (t := 20) rfl dX7_change_11 rfl (by decide) (fun q9 => absurd (by decide) q9) (fun _ => ?_)
    refine yr_aload_n (pq := 15) rfl dX7_change_14 rfl ?_
    refine yr_iconst (pq := 16) rfl dX7_change_15 ?_
    refine yr_vI1 (pq := 19) rfl dX7_change_16 kM_7_66 (by decide) (by decide) cat0 (c_finding (by decide) ?_)
    exact yr_iret dX7_change_19 rfl (r_change (rb_u hI (by decide) (by decide)) i2 hs hw hv (fun _ e hf => fd_end hI (by decide) (by decide) hf) (fun q9 => absurd q9 q1))
end S17
