/-! spell, grains, wait -/
section S18
variable {d : Nat} {h : hT} {K : Int → hT → Prop}
def gdP (i w v : Int) : Prop := (0 ≤ i ∧ i ≤ 11) ∧ (0 ≤ w ∧ w ≤ 1) ∧ (0 ≤ v ∧ v ≤ 9)
theorem r_spell {i w v : Int} {N : Int → Int} (hB : RB h N) (hi : -2147483648 ≤ i ∧ i ≤ 2147483647) (hw : -2147483648 ≤ w ∧ w ≤ 2147483647) (hv : -2147483648 ≤ v ∧ v ≤ 2147483647) (k0 : ¬ gdP i w v → ∀ e, FD (-1000001) h e → K (-1000001) e)
    (k1 : gdP i w v → K (N ((if w = 0 then 20 else 32) + i)) (up h 109 ((if w = 0 then 20 else 32) + i) v)) : ClI (d + 3) mX8_spell [vr 108, vi i, vi w, vi v] h K := by
  obtain ⟨e9, -⟩ := hB
  subst e9
  have bad : ¬ gdP i w v → Yr (d + 2) mX8_spell 30 [vr 108, vi i, vi w, vi v, .null] [] h (rI K) := by
    intro no
    refine yr_iconst (pq := 31) rfl dX8_spell_30 ?_
    refine yr_istore4 (pq := 33) rfl dX8_spell_31 ?_
    refine yr_iload (pq := 35) rfl dX8_spell_33 rfl ?_
    refine yr_if_eq (pq := 38) (t := 59) rfl dX8_spell_35 rfl (by decide) (fun _ => ?_) (fun q9 => absurd (by decide) q9)
    refine yr_aload_n (pq := 60) rfl dX8_spell_59 rfl ?_
    refine yr_ldc (pq := 62) rfl dX8_spell_60 kN_8_73 ?_
    refine yr_vI1 (pq := 65) rfl dX8_spell_62 kM_8_101 (by decide) (by decide) cat0 (r_fnd (by decide) (fun e hf => ?_))
    exact yr_iret dX8_spell_65 rfl (k0 no e hf)
  unfold gdP at bad k1
  refine cl_in (al := [vr 108, vi i, vi w, vi v, .null]) rfl (Nat.le_of_ble_eq_true rfl) (by simp [vi_cat, vr_cat, vs_cat]) ?_
  refine yr_iload_n (pq := 1) rfl dX8_spell_0 rfl ?_
  refine yr_sI1 (pq := 4) rfl dX8_spell_1 kM_8_132 (by decide) cat0 (m_isSpell hi (fun q1 => ?_) (fun q1 => ?_))
  · refine yr_if_eq (pq := 7) (t := 30) rfl dX8_spell_4 rfl (by decide) (fun q9 => absurd q9 (by decide)) (fun _ => ?_)
    refine yr_iload_n (pq := 8) rfl dX8_spell_7 rfl ?_
    refine yr_iconst (pq := 9) rfl dX8_spell_8 ?_
    refine yr_iconst (pq := 10) rfl dX8_spell_9 ?_
    refine yr_sI3 (pq := 13) rfl dX8_spell_10 kM_8_78 (by decide) cat0 (m_within hw (by decide) (by decide) (fun q2 => ?_) (fun q2 => ?_))
    · refine yr_if_eq (pq := 16) (t := 30) rfl dX8_spell_13 rfl (by decide) (fun q9 => absurd q9 (by decide)) (fun _ => ?_)
      refine yr_iload_n (pq := 17) rfl dX8_spell_16 rfl ?_
      refine yr_iconst (pq := 18) rfl dX8_spell_17 ?_
      refine yr_bipush (pq := 20) rfl dX8_spell_18 rfl ?_
      refine yr_sI3 (pq := 23) rfl dX8_spell_20 kM_8_78 (by decide) cat0 (m_within hv (by decide) (by decide) (fun q3 => ?_) (fun q3 => ?_))
      · have k1 := k1 ⟨q1, q2, q3⟩
        refine yr_if_eq (pq := 26) (t := 30) rfl dX8_spell_23 rfl (by decide) (fun q9 => absurd q9 (by decide)) (fun _ => ?_)
        refine yr_iconst (pq := 27) rfl dX8_spell_26 ?_
        refine yr_goto (t := 31) dX8_spell_27 rfl ?_
        refine yr_istore4 (pq := 33) rfl dX8_spell_31 ?_
        refine yr_iload (pq := 35) rfl dX8_spell_33 rfl ?_
        refine yr_if_eq (pq := 38) (t := 59) rfl dX8_spell_35 rfl (by decide) (fun q9 => absurd q9 (by decide)) (fun _ => ?_)
        refine yr_aload_n (pq := 39) rfl dX8_spell_38 rfl ?_
        refine yr_iload_n (pq := 40) rfl dX8_spell_39 rfl ?_
        refine yr_if_ne (pq := 43) (t := 48) rfl dX8_spell_40 rfl (by omega) (fun q4 => ?_) (fun q4 => ?_)
        · rw [if_neg q4] at k1
          refine yr_bipush (pq := 50) rfl dX8_spell_48 rfl ?_
          refine yr_iload_n (pq := 51) rfl dX8_spell_50 rfl ?_
          refine yr_iadd (pq := 52) rfl dX8_spell_51 ?_
          refine yr_iload_n (pq := 53) rfl dX8_spell_52 rfl ?_
          refine yr_vI2 (pq := 56) rfl dX8_spell_53 kM_8_129 (by decide) (by decide) cat0 (m_become (by omega) ?_)
          refine yr_goto (t := 65) dX8_spell_56 rfl ?_
          exact yr_iret dX8_spell_65 rfl (k1)
        · rw [if_pos q4] at k1
          refine yr_bipush (pq := 45) rfl dX8_spell_43 rfl ?_
          refine yr_goto (t := 50) dX8_spell_45 rfl ?_
          refine yr_iload_n (pq := 51) rfl dX8_spell_50 rfl ?_
          refine yr_iadd (pq := 52) rfl dX8_spell_51 ?_
          refine yr_iload_n (pq := 53) rfl dX8_spell_52 rfl ?_
          refine yr_vI2 (pq := 56) rfl dX8_spell_53 kM_8_129 (by decide) (by decide) cat0 (m_become (by omega) ?_)
          refine yr_goto (t := 65) dX8_spell_56 rfl ?_
          exact yr_iret dX8_spell_65 rfl (k1)
      · refine yr_if_eq (pq := 26) (t := 30) rfl dX8_spell_23 rfl (by decide) (fun _ => ?_) (fun q9 => absurd (by decide) q9)
        exact bad (by omega)
    · refine yr_if_eq (pq := 16) (t := 30) rfl dX8_spell_13 rfl (by decide) (fun _ => ?_) (fun q9 => absurd (by decide) q9)
      exact bad (by omega)
  · refine yr_if_eq (pq := 7) (t := 30) rfl dX8_spell_4 rfl (by decide) (fun _ => ?_) (fun q9 => absurd (by decide) q9)
    exact bad (by omega)
theorem okT_sky {N : Int → Int} {r v : Int} (hO : okT N) (hr : 20 ≤ r ∧ r < 44) (hv : 0 ≤ v ∧ v ≤ 9) : okT (ur N r v) := by
  have eo : ∀ x, x ≠ r → ur N r v x = N x := fun x q => ur_o q
  obtain ⟨o1, o2, o3, o4, o5⟩ := hO
  unfold okT
  rw [eo 8 (by omega)]
  refine ⟨o1, fun c c0 c1 => by rw [eo c (by omega)]; exact o2 c c0 c1, fun i j0 j1 => ?_, fun i j0 j1 => ?_, fun s s0 s1 => by rw [eo _ (by omega), eo _ (by omega), eo _ (by omega), eo _ (by omega), eo _ (by omega)]; exact o5 s s0 s1⟩
  · by_cases e : 20 + i = r
    · subst e; rw [ur_s]; exact hv
    · rw [eo _ e]; exact o3 i j0 j1
  · by_cases e : 32 + i = r
    · subst e; rw [ur_s]; exact hv
    · rw [eo _ e]; exact o4 i j0 j1
theorem s_spell {i w v : Int} (hI : Inv h) (hi : -2147483648 ≤ i ∧ i ≤ 2147483647) (hw : -2147483648 ≤ w ∧ w ≤ 2147483647) (hv : -2147483648 ≤ v ∧ v ≤ 2147483647) : Sm (d + 30) mX7_spell mX8_spell [vi i, vi w, vi v] h := by
  have hI0 := hI
  obtain ⟨⟨i1, i2, i3, i3'⟩, -, -, -, -, -, i11⟩ := hI0
  have bad : ¬ gdP i w v → Yr (d + 29) mX7_spell 29 [vr 0, vi i, vi w, vi v] [] h (rI (SKn (d + 30) mX8_spell [vr 108, vi i, vi w, vi v])) := by
    intro no
    refine yr_aload_n (pq := 30) rfl dX7_spell_29 rfl ?_
    refine yr_iconst (pq := 31) rfl dX7_spell_30 ?_
    refine yr_vI1 (pq := 34) rfl dX7_spell_31 kM_7_66 (by decide) (by decide) cat0 (c_finding (by decide) ?_)
    exact yr_iret dX7_spell_34 rfl (r_spell (rb_u hI (by decide) (by decide)) hi hw hv (fun _ e hf => fd_end hI (by decide) (by decide) hf) (fun q9 => absurd q9 no))
  unfold gdP at bad
  show ClI (d + 30) mX7_spell [vr 0, vi i, vi w, vi v] h (SKn (d + 30) mX8_spell [vr 108, vi i, vi w, vi v])
  refine cl_in (al := [vr 0, vi i, vi w, vi v]) rfl (Nat.le_of_ble_eq_true rfl) (by simp [vi_cat, vr_cat, vs_cat]) ?_
  refine yr_iload_n (pq := 1) rfl dX7_spell_0 rfl ?_
  refine yr_iconst (pq := 2) rfl dX7_spell_1 ?_
  refine yr_bipush (pq := 4) rfl dX7_spell_2 rfl ?_
  refine yr_sI3 (pq := 7) rfl dX7_spell_4 kM_7_62 (by decide) cat0 (c_isIn hi (by decide) (by decide) (fun q1 => ?_) (fun q1 => ?_))
  · refine yr_if_eq (pq := 10) (t := 29) rfl dX7_spell_7 rfl (by decide) (fun q9 => absurd q9 (by decide)) (fun _ => ?_)
    refine yr_iload_n (pq := 11) rfl dX7_spell_10 rfl ?_
    refine yr_iconst (pq := 12) rfl dX7_spell_11 ?_
    refine yr_iconst (pq := 13) rfl dX7_spell_12 ?_
    refine yr_sI3 (pq := 16) rfl dX7_spell_13 kM_7_62 (by decide) cat0 (c_isIn hw (by decide) (by decide) (fun q2 => ?_) (fun q2 => ?_))
    · refine yr_if_eq (pq := 19) (t := 29) rfl dX7_spell_16 rfl (by decide) (fun q9 => absurd q9 (by decide)) (fun _ => ?_)
      refine yr_iload_n (pq := 20) rfl dX7_spell_19 rfl ?_
      refine yr_iconst (pq := 21) rfl dX7_spell_20 ?_
      refine yr_bipush (pq := 23) rfl dX7_spell_21 rfl ?_
      refine yr_sI3 (pq := 26) rfl dX7_spell_23 kM_7_62 (by decide) cat0 (c_isIn hv (by decide) (by decide) (fun q3 => ?_) (fun q3 => ?_))
      · have gd : gdP i w v := ⟨q1, q2, q3⟩
        refine yr_if_ne (pq := 29) (t := 35) rfl dX7_spell_26 rfl (by decide) (fun _ => ?_) (fun q9 => absurd q9 (by decide))
        refine yr_iload_n (pq := 36) rfl dX7_spell_35 rfl ?_
        refine yr_if_ne (pq := 39) (t := 52) rfl dX7_spell_36 rfl (by omega) (fun q4 => ?_) (fun q4 => ?_)
        · refine yr_aload_n (pq := 53) rfl dX7_spell_52 rfl ?_
          refine yr_getR (pq := 56) (b := 1) 0 rfl dX7_spell_53 kF_7_10 (by decide) rfl ?_
          refine yr_getR (pq := 59) (b := 2) 0 rfl dX7_spell_56 kF_7_70 (by decide) rfl ?_
          refine yr_getR (pq := 62) 4 rfl dX7_spell_59 kF_7_132 (tw_c (by decide)) (fr_6_4 (by decide)) ?_
          refine yr_iload_n (pq := 63) rfl dX7_spell_62 rfl ?_
          refine yr_iload_n (pq := 64) rfl dX7_spell_63 rfl ?_
          refine yr_sI3 (pq := 67) rfl dX7_spell_64 kM_7_125 (by decide) cat0 (c_put (L := 12) rfl (by decide) (by omega) ?_)
          refine yr_iret dX7_spell_67 rfl ?_
          refine r_spell (rb_u hI (by decide) (by decide)) hi hw hv (fun q9 => absurd gd q9) (fun _ => ⟨?_, ?_⟩)
          · rw [if_neg q4]; exact (i1.1.2.2.2.1 i q1.1 (by omega)).symm
          · rw [if_neg q4]
            exact Inv_up (A := 6) (j := i) hI (by unfold PL; omega) (okT_sky i2 (by omega) q3) (okS_lo i3 (fun j hj => ur_o (by omega))) (by rw [ur_o (by omega)]; exact i3')
        · refine yr_aload_n (pq := 40) rfl dX7_spell_39 rfl ?_
          refine yr_getR (pq := 43) (b := 1) 0 rfl dX7_spell_40 kF_7_10 (by decide) rfl ?_
          refine yr_getR (pq := 46) (b := 2) 0 rfl dX7_spell_43 kF_7_70 (by decide) rfl ?_
          refine yr_getR (pq := 49) 3 rfl dX7_spell_46 kF_7_129 (tw_c (by decide)) (fr_6_3 (by decide)) ?_
          refine yr_goto (t := 62) dX7_spell_49 rfl ?_
          refine yr_iload_n (pq := 63) rfl dX7_spell_62 rfl ?_
          refine yr_iload_n (pq := 64) rfl dX7_spell_63 rfl ?_
          refine yr_sI3 (pq := 67) rfl dX7_spell_64 kM_7_125 (by decide) cat0 (c_put (L := 12) rfl (by decide) (by omega) ?_)
          refine yr_iret dX7_spell_67 rfl ?_
          refine r_spell (rb_u hI (by decide) (by decide)) hi hw hv (fun q9 => absurd gd q9) (fun _ => ⟨?_, ?_⟩)
          · rw [if_pos q4]; exact (i1.1.2.2.1 i q1.1 (by omega)).symm
          · rw [if_pos q4]
            exact Inv_up (A := 5) (j := i) hI (by unfold PL; omega) (okT_sky i2 (by omega) q3) (okS_lo i3 (fun j hj => ur_o (by omega))) (by rw [ur_o (by omega)]; exact i3')
      · refine yr_if_ne (pq := 29) (t := 35) rfl dX7_spell_26 rfl (by decide) (fun q9 => absurd (by decide) q9) (fun _ => ?_)
        exact bad (by omega)
    · refine yr_if_eq (pq := 19) (t := 29) rfl dX7_spell_16 rfl (by decide) (fun _ => ?_) (fun q9 => absurd (by decide) q9)
      exact bad (by omega)
  · refine yr_if_eq (pq := 10) (t := 29) rfl dX7_spell_7 rfl (by decide) (fun _ => ?_) (fun q9 => absurd (by decide) q9)
    exact bad (by omega)
theorem r_grains {p v : Int} {N : Int → Int} (hB : RB h N) (hp : -2147483648 ≤ p ∧ p ≤ 2147483647) (hv : -2147483648 ≤ v ∧ v ≤ 2147483647) (k0 : ¬ ((0 ≤ p ∧ p ≤ 3) ∧ (0 ≤ v ∧ v ≤ 9999)) → ∀ e, FD (-1000001) h e → K (-1000001) e)
    (k1 : (0 ≤ p ∧ p ≤ 3) → (0 ≤ v ∧ v ≤ 9999) → K (N (45 + p)) (up h 109 (45 + p) v)) : ClI (d + 2) mX8_grains [vr 108, vi p, vi v] h K := by
  obtain ⟨e9, -⟩ := hB
  subst e9
  refine cl_in (al := [vr 108, vi p, vi v]) rfl (Nat.le_of_ble_eq_true rfl) (by simp [vi_cat, vr_cat, vs_cat]) ?_
  refine yr_iload_n (pq := 1) rfl dX8_grains_0 rfl ?_
  refine yr_iconst (pq := 2) rfl dX8_grains_1 ?_
  refine yr_iconst (pq := 3) rfl dX8_grains_2 ?_
  refine yr_sI3 (pq := 6) rfl dX8_grains_3 kM_8_78 (by decide) cat0 (m_within hp (by decide) (by decide) (fun q1 => ?_) (fun q1 => ?_))
  · refine yr_if_eq (pq := 9) (t := 32) rfl dX8_grains_6 rfl (by decide) (fun q9 => absurd q9 (by decide)) (fun _ => ?_)
    refine yr_iload_n (pq := 10) rfl dX8_grains_9 rfl ?_
    refine yr_iconst (pq := 11) rfl dX8_grains_10 ?_
    refine yr_sipush (pq := 14) rfl dX8_grains_11 rfl ?_
    refine yr_sI3 (pq := 17) rfl dX8_grains_14 kM_8_78 (by decide) cat0 (m_within hv (by decide) (by decide) (fun q2 => ?_) (fun q2 => ?_))
    · refine yr_if_eq (pq := 20) (t := 32) rfl dX8_grains_17 rfl (by decide) (fun q9 => absurd q9 (by decide)) (fun _ => ?_)
      refine yr_aload_n (pq := 21) rfl dX8_grains_20 rfl ?_
      refine yr_bipush (pq := 23) rfl dX8_grains_21 rfl ?_
      refine yr_iload_n (pq := 24) rfl dX8_grains_23 rfl ?_
      refine yr_iadd (pq := 25) rfl dX8_grains_24 ?_
      refine yr_iload_n (pq := 26) rfl dX8_grains_25 rfl ?_
      refine yr_vI2 (pq := 29) rfl dX8_grains_26 kM_8_129 (by decide) (by decide) cat0 (m_become (by omega) ?_)
      refine yr_goto (t := 38) dX8_grains_29 rfl ?_
      exact yr_iret dX8_grains_38 rfl (k1 q1 q2)
    · refine yr_if_eq (pq := 20) (t := 32) rfl dX8_grains_17 rfl (by decide) (fun _ => ?_) (fun q9 => absurd (by decide) q9)
      refine yr_aload_n (pq := 33) rfl dX8_grains_32 rfl ?_
      refine yr_ldc (pq := 35) rfl dX8_grains_33 kN_8_73 ?_
      refine yr_vI1 (pq := 38) rfl dX8_grains_35 kM_8_101 (by decide) (by decide) cat0 (r_fnd (by decide) (fun e hf => ?_))
      exact yr_iret dX8_grains_38 rfl (k0 (by omega) e hf)
  · refine yr_if_eq (pq := 9) (t := 32) rfl dX8_grains_6 rfl (by decide) (fun _ => ?_) (fun q9 => absurd (by decide) q9)
    refine yr_aload_n (pq := 33) rfl dX8_grains_32 rfl ?_
    refine yr_ldc (pq := 35) rfl dX8_grains_33 kN_8_73 ?_
    refine yr_vI1 (pq := 38) rfl dX8_grains_35 kM_8_101 (by decide) (by decide) cat0 (r_fnd (by decide) (fun e hf => ?_))
    exact yr_iret dX8_grains_38 rfl (k0 (by omega) e hf)
theorem okT_mid {N : Int → Int} {r v : Int} (hO : okT N) (hr : (9 ≤ r ∧ r < 20) ∨ (44 ≤ r ∧ r < 53)) : okT (ur N r v) := okT_row hO (fun j hj => ur_o (by omega))
theorem s_grains {p v : Int} (hI : Inv h) (hp : -2147483648 ≤ p ∧ p ≤ 2147483647) (hv : -2147483648 ≤ v ∧ v ≤ 2147483647) : Sm (d + 30) mX7_grains mX8_grains [vi p, vi v] h := by
  have hI0 := hI
  obtain ⟨⟨i1, i2, i3, i3'⟩, -, -, -, -, -, i11⟩ := hI0
  show ClI (d + 30) mX7_grains [vr 0, vi p, vi v] h (SKn (d + 30) mX8_grains [vr 108, vi p, vi v])
  refine cl_in (al := [vr 0, vi p, vi v]) rfl (Nat.le_of_ble_eq_true rfl) (by simp [vi_cat, vr_cat, vs_cat]) ?_
  refine yr_iload_n (pq := 1) rfl dX7_grains_0 rfl ?_
  refine yr_iconst (pq := 2) rfl dX7_grains_1 ?_
  refine yr_iconst (pq := 3) rfl dX7_grains_2 ?_
  refine yr_sI3 (pq := 6) rfl dX7_grains_3 kM_7_62 (by decide) cat0 (c_isIn hp (by decide) (by decide) (fun q1 => ?_) (fun q1 => ?_))
  · refine yr_if_eq (pq := 9) (t := 20) rfl dX7_grains_6 rfl (by decide) (fun q9 => absurd q9 (by decide)) (fun _ => ?_)
    refine yr_iload_n (pq := 10) rfl dX7_grains_9 rfl ?_
    refine yr_iconst (pq := 11) rfl dX7_grains_10 ?_
    refine yr_sipush (pq := 14) rfl dX7_grains_11 rfl ?_
    refine yr_sI3 (pq := 17) rfl dX7_grains_14 kM_7_62 (by decide) cat0 (c_isIn hv (by decide) (by decide) (fun q2 => ?_) (fun q2 => ?_))
    · refine yr_if_ne (pq := 20) (t := 26) rfl dX7_grains_17 rfl (by decide) (fun _ => ?_) (fun q9 => absurd q9 (by decide))
      refine yr_aload_n (pq := 27) rfl dX7_grains_26 rfl ?_
      refine yr_getR (pq := 30) (b := 1) 0 rfl dX7_grains_27 kF_7_10 (by decide) rfl ?_
      refine yr_getR (pq := 33) (b := 22) 1 rfl dX7_grains_30 kF_7_135 (by decide) rfl ?_
      refine yr_getR (pq := 36) (b := 23) 0 rfl dX7_grains_33 kF_7_154 (by decide) rfl ?_
      refine yr_iload_n (pq := 37) rfl dX7_grains_36 rfl ?_
      refine yr_iload_n (pq := 38) rfl dX7_grains_37 rfl ?_
      refine yr_sI3 (pq := 41) rfl dX7_grains_38 kM_7_125 (by decide) cat0 (c_put (L := 4) rfl (by decide) (by omega) ?_)
      refine yr_iret dX7_grains_41 rfl ?_
      refine r_grains (rb_u hI (by decide) (by decide)) hp hv (fun q9 => absurd ⟨q1, q2⟩ q9) (fun _ _ => ⟨?_, ?_⟩)
      · have h4 : p = 0 ∨ p = 1 ∨ p = 2 ∨ p = 3 := by omega
        rcases h4 with e | e | e | e <;> subst e
        · exact i1.2.1.1.symm
        · exact i1.2.1.2.1.symm
        · exact i1.2.1.2.2.1.symm
        · exact i1.2.1.2.2.2.symm
      · refine Inv_up (A := 23) (j := p) hI (by unfold PL; omega) (okT_mid i2 (by omega)) ?_ (by rw [ur_o (by omega)]; exact i3')
        obtain ⟨a1, a2, a3, a4, a5, a6⟩ := i3
        refine ⟨?_, ?_, ?_, ?_, ?_, fun s s0 s1 => ?_⟩
        · rw [ur_o (by omega)]; exact a1
        · rw [ur_o (by omega)]; exact a2
        · rw [ur_o (by omega)]; exact a3
        · rw [ur_o (by omega)]; exact a4
        · have h4 : p = 0 ∨ p = 1 ∨ p = 2 ∨ p = 3 := by omega
          rcases h4 with e | e | e | e <;> subst e <;> simp [ur] <;> omega
        · rw [ur_o (by omega), ur_o (by omega)]; exact a6 s s0 s1
    · refine yr_if_ne (pq := 20) (t := 26) rfl dX7_grains_17 rfl (by decide) (fun q9 => absurd (by decide) q9) (fun _ => ?_)
      refine yr_aload_n (pq := 21) rfl dX7_grains_20 rfl ?_
      refine yr_iconst (pq := 22) rfl dX7_grains_21 ?_
      refine yr_vI1 (pq := 25) rfl dX7_grains_22 kM_7_66 (by decide) (by decide) cat0 (c_finding (by decide) ?_)
      exact yr_iret dX7_grains_25 rfl (r_grains (rb_u hI (by decide) (by decide)) hp hv (fun _ e hf => fd_end hI (by decide) (by decide) hf) (fun _ q9 => absurd q9 q2))
  · refine yr_if_eq (pq := 9) (t := 20) rfl dX7_grains_6 rfl (by decide) (fun _ => ?_) (fun q9 => absurd (by decide) q9)
    refine yr_aload_n (pq := 21) rfl dX7_grains_20 rfl ?_
    refine yr_iconst (pq := 22) rfl dX7_grains_21 ?_
    refine yr_vI1 (pq := 25) rfl dX7_grains_22 kM_7_66 (by decide) (by decide) cat0 (c_finding (by decide) ?_)
    exact yr_iret dX7_grains_25 rfl (r_grains (rb_u hI (by decide) (by decide)) hp hv (fun _ e hf => fd_end hI (by decide) (by decide) hf) (fun q9 => absurd q9 q1))
theorem r_wait {n : Int} {N : Int → Int} (hB : RB h N) (hn : -2147483648 ≤ n ∧ n ≤ 2147483647) (hm : 0 ≤ N 50 ∧ N 50 ≤ 999) (k0 : ¬ (1 ≤ n ∧ n ≤ 60) → ∀ e, FD (-1000001) h e → K (-1000001) e) (k1 : (1 ≤ n ∧ n ≤ 60) → 999 < N 50 + n → ∀ e, FD (-1000005) h e → K (-1000005) e)
    (k2 : (1 ≤ n ∧ n ≤ 60) → N 50 + n ≤ 999 → K (N 50 + n) (up h 109 50 (N 50 + n))) : ClI (d + 2) mX8_wait [vr 108, vi n] h K := by
  obtain ⟨e9, -⟩ := hB
  subst e9
  refine cl_in (al := [vr 108, vi n]) rfl (Nat.le_of_ble_eq_true rfl) (by simp [vi_cat, vr_cat, vs_cat]) ?_
  refine yr_iload_n (pq := 1) rfl dX8_wait_0 rfl ?_
  refine yr_iconst (pq := 2) rfl dX8_wait_1 ?_
  refine yr_bipush (pq := 4) rfl dX8_wait_2 rfl ?_
  refine yr_sI3 (pq := 7) rfl dX8_wait_4 kM_8_78 (by decide) cat0 (m_within hn (by decide) (by decide) (fun q1 => ?_) (fun q1 => ?_))
  · refine yr_if_ne (pq := 10) (t := 17) rfl dX8_wait_7 rfl (by decide) (fun _ => ?_) (fun q9 => absurd q9 (by decide))
    refine yr_aload_n (pq := 18) rfl dX8_wait_17 rfl ?_
    refine yr_iload_n (pq := 19) rfl dX8_wait_18 rfl ?_
    refine yr_vI1 (pq := 22) rfl dX8_wait_19 kM_8_156 (by decide) (by decide) cat0 (m_isTooLate (by omega) (by omega) (fun q2 => ?_) (fun q2 => ?_))
    · refine yr_if_eq (pq := 25) (t := 32) rfl dX8_wait_22 rfl (by decide) (fun q9 => absurd q9 (by decide)) (fun _ => ?_)
      refine yr_aload_n (pq := 26) rfl dX8_wait_25 rfl ?_
      refine yr_ldc (pq := 28) rfl dX8_wait_26 kN_8_159 ?_
      refine yr_vI1 (pq := 31) rfl dX8_wait_28 kM_8_101 (by decide) (by decide) cat0 (r_fnd (by decide) (fun e hf => ?_))
      exact yr_iret dX8_wait_31 rfl (k1 q1 q2 e hf)
    · refine yr_if_eq (pq := 25) (t := 32) rfl dX8_wait_22 rfl (by decide) (fun _ => ?_) (fun q9 => absurd (by decide) q9)
      refine yr_aload_n (pq := 33) rfl dX8_wait_32 rfl ?_
      refine yr_getR (pq := 36) (b := 109) 0 rfl dX8_wait_33 kF_8_9 (by decide) rfl ?_
      refine yr_bipush (pq := 38) rfl dX8_wait_36 rfl ?_
      refine yr_dup2 (pq := 39) rfl dX8_wait_38 rfl rfl ?_
      refine yr_iald (pq := 40) rfl dX8_wait_39 rfl (by decide) (by omega) ?_
      refine yr_iload_n (pq := 41) rfl dX8_wait_40 rfl ?_
      refine yr_iadd (pq := 42) rfl dX8_wait_41 ?_
      refine yr_iast (pq := 43) rfl dX8_wait_42 rfl (by decide) (by omega) ?_
      refine yr_aload_n (pq := 44) rfl dX8_wait_43 rfl ?_
      refine yr_getR (pq := 47) (b := 109) 0 rfl dX8_wait_44 kF_8_9 (by decide) rfl ?_
      refine yr_bipush (pq := 49) rfl dX8_wait_47 rfl ?_
      refine yr_iald (pq := 50) rfl dX8_wait_49 rfl (by decide) (by omega) ?_
      rw [up_s]
      exact yr_iret dX8_wait_50 rfl (k2 q1 q2)
  · refine yr_if_ne (pq := 10) (t := 17) rfl dX8_wait_7 rfl (by decide) (fun q9 => absurd (by decide) q9) (fun _ => ?_)
    refine yr_aload_n (pq := 11) rfl dX8_wait_10 rfl ?_
    refine yr_ldc (pq := 13) rfl dX8_wait_11 kN_8_73 ?_
    refine yr_vI1 (pq := 16) rfl dX8_wait_13 kM_8_101 (by decide) (by decide) cat0 (r_fnd (by decide) (fun e hf => ?_))
    exact yr_iret dX8_wait_16 rfl (k0 q1 e hf)
theorem s_wait {n : Int} (hI : Inv h) (hn : -2147483648 ≤ n ∧ n ≤ 2147483647) : Sm (d + 30) mX7_wait mX8_wait [vi n] h := by
  have hI0 := hI
  obtain ⟨⟨i1, i2, i3, i3'⟩, -, -, -, -, -, i11⟩ := hI0
  have hm := i3.2.2.1
  show ClI (d + 30) mX7_wait [vr 0, vi n] h (SKn (d + 30) mX8_wait [vr 108, vi n])
  refine cl_in (al := [vr 0, vi n]) rfl (Nat.le_of_ble_eq_true rfl) (by simp [vi_cat, vr_cat, vs_cat]) ?_
  refine yr_iload_n (pq := 1) rfl dX7_wait_0 rfl ?_
  refine yr_iconst (pq := 2) rfl dX7_wait_1 ?_
  refine yr_bipush (pq := 4) rfl dX7_wait_2 rfl ?_
  refine yr_sI3 (pq := 7) rfl dX7_wait_4 kM_7_62 (by decide) cat0 (c_isIn hn (by decide) (by decide) (fun q1 => ?_) (fun q1 => ?_))
  · refine yr_if_ne (pq := 10) (t := 16) rfl dX7_wait_7 rfl (by decide) (fun _ => ?_) (fun q9 => absurd q9 (by decide))
    refine yr_aload_n (pq := 17) rfl dX7_wait_16 rfl ?_
    refine yr_getR (pq := 20) (b := 1) 0 rfl dX7_wait_17 kF_7_10 (by decide) rfl ?_
    refine yr_getR (pq := 23) (b := 22) 1 rfl dX7_wait_20 kF_7_135 (by decide) rfl ?_
    refine yr_getI (pq := 26) 3 rfl dX7_wait_23 kF_7_163 (by decide) rfl (by decide) ?_
    refine yr_iload_n (pq := 27) rfl dX7_wait_26 rfl ?_
    refine yr_iadd (pq := 28) rfl dX7_wait_27 ?_
    refine yr_sipush (pq := 31) rfl dX7_wait_28 rfl ?_
    rw [i1.2.2.2.2.1]
    refine yr_ic_le (pq := 34) (t := 40) rfl dX7_wait_31 rfl (by omega) (by omega) (fun q2 => ?_) (fun q2 => ?_)
    · refine yr_aload_n (pq := 41) rfl dX7_wait_40 rfl ?_
      refine yr_getR (pq := 44) (b := 1) 0 rfl dX7_wait_41 kF_7_10 (by decide) rfl ?_
      refine yr_getR (pq := 47) (b := 22) 1 rfl dX7_wait_44 kF_7_135 (by decide) rfl ?_
      refine yr_dup (pq := 48) rfl dX7_wait_47 rfl ?_
      refine yr_getI (pq := 51) 3 rfl dX7_wait_48 kF_7_163 (by decide) rfl (by decide) ?_
      refine yr_iload_n (pq := 52) rfl dX7_wait_51 rfl ?_
      refine yr_iadd (pq := 53) rfl dX7_wait_52 ?_
      refine yr_putI (pq := 56) 3 rfl dX7_wait_53 kF_7_163 (by decide) rfl rfl (by decide) ?_
      refine yr_aload_n (pq := 57) rfl dX7_wait_56 rfl ?_
      refine yr_getR (pq := 60) (b := 1) 0 rfl dX7_wait_57 kF_7_10 (by decide) rfl ?_
      refine yr_getR (pq := 63) (b := 22) 1 rfl dX7_wait_60 kF_7_135 (by decide) rfl ?_
      refine yr_getI (pq := 66) 3 rfl dX7_wait_63 kF_7_163 (by decide) rfl (by decide) ?_
      rw [up_s, i1.2.2.2.2.1]
      refine yr_iret dX7_wait_66 rfl ?_
      refine r_wait (rb_u hI (by decide) (by decide)) hn (by omega) (fun q9 => absurd q1 q9) (fun _ q9 => absurd q9 (by omega)) (fun _ _ => ⟨rfl, ?_⟩)
      refine Inv_up (A := 22) (j := 3) hI (by unfold PL; omega) (okT_mid i2 (by omega)) ?_ (by rw [ur_s]; exact q2)
      refine okS_u i3 (ur_o (by decide)) (fun s s0 s1 => ur_o (by omega)) ?_ ?_ ?_ ?_ ?_
      · rw [ur_o (by decide)]; exact i3.1
      · rw [ur_o (by decide)]; exact i3.2.1
      · rw [ur_s]; omega
      · rw [ur_o (by decide)]; exact i3.2.2.2.1
      · rw [ur_o (by decide), ur_o (by decide), ur_o (by decide), ur_o (by decide)]; exact i3.2.2.2.2.1
    · refine yr_aload_n (pq := 35) rfl dX7_wait_34 rfl ?_
      refine yr_iconst (pq := 36) rfl dX7_wait_35 ?_
      refine yr_vI1 (pq := 39) rfl dX7_wait_36 kM_7_66 (by decide) (by decide) cat0 (c_finding (by decide) ?_)
      exact yr_iret dX7_wait_39 rfl (r_wait (rb_u hI (by decide) (by decide)) hn (by omega) (fun q9 => absurd q1 q9) (fun _ _ e hf => fd_end hI (by decide) (by decide) hf) (fun _ q9 => absurd q9 q2))
  · refine yr_if_ne (pq := 10) (t := 16) rfl dX7_wait_7 rfl (by decide) (fun q9 => absurd (by decide) q9) (fun _ => ?_)
    refine yr_aload_n (pq := 11) rfl dX7_wait_10 rfl ?_
    refine yr_iconst (pq := 12) rfl dX7_wait_11 ?_
    refine yr_vI1 (pq := 15) rfl dX7_wait_12 kM_7_66 (by decide) (by decide) cat0 (c_finding (by decide) ?_)
    exact yr_iret dX7_wait_15 rfl (r_wait (rb_u hI (by decide) (by decide)) hn (by omega) (fun _ e hf => fd_end hI (by decide) (by decide) hf) (fun q9 => absurd q9 q1) (fun q9 => absurd q9 q1))
end S18
