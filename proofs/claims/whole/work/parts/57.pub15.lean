/-! quarter -/
section S15
variable {d : Nat} {h : hT} {g : Int}
theorem okS_lo {N M : Int → Int} (hS : okS N) (e : ∀ j, (8 ≤ j ∧ j < 20) ∨ (44 ≤ j ∧ j < 53) → M j = N j) : okS M := by
  refine okS_u hS (e 8 (by omega)) (fun s s0 s1 => e _ (by omega)) ?_ ?_ ?_ ?_ ?_
  · rw [e 44 (by omega)]; exact hS.1
  · rw [e 49 (by omega)]; exact hS.2.1
  · rw [e 50 (by omega)]; exact hS.2.2.1
  · rw [e 51 (by omega)]; exact hS.2.2.2.1
  · rw [e 45 (by omega), e 46 (by omega), e 47 (by omega), e 48 (by omega)]; exact hS.2.2.2.2.1
theorem s_quarter {c z : Int} (hI : Inv h) (hc : -2147483648 ≤ c ∧ c ≤ 2147483647) (hz : -2147483648 ≤ z ∧ z ≤ 2147483647) : Sm (d + 30) mX7_quarter mX8_quarter [vi c, vi z] h := by
  have hI0 := hI
  obtain ⟨⟨i1, i2, i3, i3'⟩, -, -, -, -, -, i11⟩ := hI0
  show ClI (d + 30) mX7_quarter [vr 0, vi c, vi z] h _
  refine cl_in (al := [vr 0, vi c, vi z]) rfl (Nat.le_of_ble_eq_true rfl) (by simp [vi_cat, vr_cat, vs_cat]) ?_
  refine yr_iload_n (pq := 1) rfl dX7_quarter_0 rfl ?_
  refine yr_sI1 (pq := 4) rfl dX7_quarter_1 kM_7_59 (by decide) cat0 (c_isCorner hc (fun q => ?_) (fun q => ?_))
  · refine yr_if_eq (pq := 7) (t := 16) rfl dX7_quarter_4 rfl (by omega) (fun q9 => absurd q9 (by decide)) (fun _ => ?_)
    refine yr_iload_n (pq := 8) rfl dX7_quarter_7 rfl ?_
    refine yr_iconst (pq := 9) rfl dX7_quarter_8 ?_
    refine yr_iconst (pq := 10) rfl dX7_quarter_9 ?_
    refine yr_sI3 (pq := 13) rfl dX7_quarter_10 kM_7_62 (by decide) cat0 (c_isIn hz (by decide) (by decide) (fun qk => ?_) (fun qk => ?_))
    · refine yr_if_ne (pq := 16) (t := 22) rfl dX7_quarter_13 rfl (by omega) (fun _ => ?_) (fun q9 => absurd q9 (by decide))
      refine yr_aload_n (pq := 23) rfl dX7_quarter_22 rfl ?_
      refine yr_getR (pq := 26) (b := 1) 0 rfl dX7_quarter_23 kF_7_10 (by decide) rfl ?_
      refine yr_getR (pq := 29) (b := 2) 0 rfl dX7_quarter_26 kF_7_70 (by decide) rfl ?_
      refine yr_getR (pq := 32) 2 rfl dX7_quarter_29 kF_7_122 (tw_c (by decide)) (fr_6_2 (by decide)) ?_
      refine yr_iload_n (pq := 33) rfl dX7_quarter_32 rfl ?_
      refine yr_iload_n (pq := 34) rfl dX7_quarter_33 rfl ?_
      refine yr_sI3 (pq := 37) rfl dX7_quarter_34 kM_7_125 (by decide) cat0 (c_put (L := 8) rfl (by decide) (by omega) ?_)
      refine yr_iret dX7_quarter_37 rfl ?_
      show ClI (d + 30) mX8_quarter [vr 108, vi c, vi z] _ _
      refine cl_in (al := [vr 108, vi c, vi z]) rfl (Nat.le_of_ble_eq_true rfl) (by simp [vi_cat, vr_cat, vs_cat]) ?_
      refine yr_iload_n (pq := 1) rfl dX8_quarter_0 rfl ?_
      refine yr_sI1 (pq := 4) rfl dX8_quarter_1 kM_8_98 (by decide) cat0 (m_isCorner hc (fun _ => ?_) (fun q9 => absurd q q9))
      refine yr_if_eq (pq := 7) (t := 27) rfl dX8_quarter_4 rfl (by omega) (fun q9 => absurd q9 (by decide)) (fun _ => ?_)
      refine yr_iload_n (pq := 8) rfl dX8_quarter_7 rfl ?_
      refine yr_iconst (pq := 9) rfl dX8_quarter_8 ?_
      refine yr_iconst (pq := 10) rfl dX8_quarter_9 ?_
      refine yr_sI3 (pq := 13) rfl dX8_quarter_10 kM_8_78 (by decide) cat0 (m_within hz (by decide) (by decide) (fun _ => ?_) (fun q9 => absurd qk q9))
      refine yr_if_eq (pq := 16) (t := 27) rfl dX8_quarter_13 rfl (by omega) (fun q9 => absurd q9 (by decide)) (fun _ => ?_)
      refine yr_aload_n (pq := 17) rfl dX8_quarter_16 rfl ?_
      refine yr_iconst (pq := 18) rfl dX8_quarter_17 ?_
      refine yr_iload_n (pq := 19) rfl dX8_quarter_18 rfl ?_
      refine yr_iadd (pq := 20) rfl dX8_quarter_19 ?_
      refine yr_iload_n (pq := 21) rfl dX8_quarter_20 rfl ?_
      refine yr_vI2 (pq := 24) rfl dX8_quarter_21 kM_8_129 (by decide) (by decide) cat0 (m_become (by omega) ?_)
      refine yr_goto (t := 33) dX8_quarter_24 rfl ?_
      have eo : ∀ j, j ≠ c → ur (h 109) c z j = h 109 j := fun j q => ur_o q
      refine yr_iret dX8_quarter_33 rfl ⟨?_, ?_⟩
      · rw [up_ne (by decide), Int.zero_add]; exact (i1.1.2.1 c q.1 (by omega)).symm
      · rw [Int.zero_add]
        refine Inv_up (A := 4) (j := c) hI (by unfold PL; omega) ?_ (okS_lo i3 (fun j hj => eo j (by omega))) (by rw [eo 50 (by omega)]; exact i3')
        unfold okT at i2 ⊢
        obtain ⟨o1, o2, o3, o4, o5⟩ := i2
        rw [eo 8 (by omega)]
        refine ⟨o1, fun x x0 x1 => ?_, fun i j0 j1 => by rw [eo _ (by omega)]; exact o3 i j0 j1, fun i j0 j1 => by rw [eo _ (by omega)]; exact o4 i j0 j1, fun s s0 s1 => by rw [eo _ (by omega), eo _ (by omega), eo _ (by omega), eo _ (by omega), eo _ (by omega)]; exact o5 s s0 s1⟩
        by_cases e : x = c
        · subst e; rw [ur_s]; exact qk
        · rw [eo x e]; exact o2 x x0 x1
    · refine yr_if_ne (pq := 16) (t := 22) rfl dX7_quarter_13 rfl (by omega) (fun q9 => absurd (by decide) q9) (fun _ => ?_)
      refine yr_aload_n (pq := 17) rfl dX7_quarter_16 rfl ?_
      refine yr_iconst (pq := 18) rfl dX7_quarter_17 ?_
      refine yr_vI1 (pq := 21) rfl dX7_quarter_18 kM_7_66 (by decide) (by decide) cat0 (c_finding (by decide) ?_)
      refine yr_iret dX7_quarter_21 rfl ?_
      show ClI (d + 30) mX8_quarter [vr 108, vi c, vi z] _ _
      refine cl_in (al := [vr 108, vi c, vi z]) rfl (Nat.le_of_ble_eq_true rfl) (by simp [vi_cat, vr_cat, vs_cat]) ?_
      refine yr_iload_n (pq := 1) rfl dX8_quarter_0 rfl ?_
      refine yr_sI1 (pq := 4) rfl dX8_quarter_1 kM_8_98 (by decide) cat0 (m_isCorner hc (fun _ => ?_) (fun q9 => absurd q q9))
      refine yr_if_eq (pq := 7) (t := 27) rfl dX8_quarter_4 rfl (by omega) (fun q9 => absurd q9 (by decide)) (fun _ => ?_)
      refine yr_iload_n (pq := 8) rfl dX8_quarter_7 rfl ?_
      refine yr_iconst (pq := 9) rfl dX8_quarter_8 ?_
      refine yr_iconst (pq := 10) rfl dX8_quarter_9 ?_
      refine yr_sI3 (pq := 13) rfl dX8_quarter_10 kM_8_78 (by decide) cat0 (m_within hz (by decide) (by decide) (fun q9 => absurd q9 qk) (fun _ => ?_))
      refine yr_if_eq (pq := 16) (t := 27) rfl dX8_quarter_13 rfl (by omega) (fun _ => ?_) (fun q9 => absurd (by decide) q9)
      refine yr_aload_n (pq := 28) rfl dX8_quarter_27 rfl ?_
      refine yr_ldc (pq := 30) rfl dX8_quarter_28 kN_8_73 ?_
      refine yr_vI1 (pq := 33) rfl dX8_quarter_30 kM_8_101 (by decide) (by decide) cat0 (m_finding (by decide) (fun e e0 e1 => ?_))
      refine yr_iret dX8_quarter_33 rfl ⟨rfl, find2 (k := 0) hI (by decide) (by decide) (fun a q1 q2 => up_ne q2) (up_row _ _ _ _) (fun j _ => by rw [up_ne (by decide)]) e0 e1⟩
  · refine yr_if_eq (pq := 7) (t := 16) rfl dX7_quarter_4 rfl (by omega) (fun _ => ?_) (fun q9 => absurd (by decide) q9)
    refine yr_aload_n (pq := 17) rfl dX7_quarter_16 rfl ?_
    refine yr_iconst (pq := 18) rfl dX7_quarter_17 ?_
    refine yr_vI1 (pq := 21) rfl dX7_quarter_18 kM_7_66 (by decide) (by decide) cat0 (c_finding (by decide) ?_)
    refine yr_iret dX7_quarter_21 rfl ?_
    show ClI (d + 30) mX8_quarter [vr 108, vi c, vi z] _ _
    refine cl_in (al := [vr 108, vi c, vi z]) rfl (Nat.le_of_ble_eq_true rfl) (by simp [vi_cat, vr_cat, vs_cat]) ?_
    refine yr_iload_n (pq := 1) rfl dX8_quarter_0 rfl ?_
    refine yr_sI1 (pq := 4) rfl dX8_quarter_1 kM_8_98 (by decide) cat0 (m_isCorner hc (fun q9 => absurd q9 q) (fun _ => ?_))
    refine yr_if_eq (pq := 7) (t := 27) rfl dX8_quarter_4 rfl (by omega) (fun _ => ?_) (fun q9 => absurd (by decide) q9)
    refine yr_aload_n (pq := 28) rfl dX8_quarter_27 rfl ?_
    refine yr_ldc (pq := 30) rfl dX8_quarter_28 kN_8_73 ?_
    refine yr_vI1 (pq := 33) rfl dX8_quarter_30 kM_8_101 (by decide) (by decide) cat0 (m_finding (by decide) (fun e e0 e1 => ?_))
    refine yr_iret dX8_quarter_33 rfl ⟨rfl, find2 (k := 0) hI (by decide) (by decide) (fun a q1 q2 => up_ne q2) (up_row _ _ _ _) (fun j _ => by rw [up_ne (by decide)]) e0 e1⟩
end S15
