/-! loss -/
section S9
variable {d : Nat} {h : hT} {g : Int}
theorem s_loss {s k : Int} (hI : Inv h) (hs : -2147483648 ≤ s ∧ s ≤ 2147483647) (hk : -2147483648 ≤ k ∧ k ≤ 2147483647) : Sm (d + 30) mX7_loss mX8_loss [vi s, vi k] h := by
  have hI0 := hI
  obtain ⟨⟨i1, i2, i3, i3'⟩, -, -, -, -, -, i11⟩ := hI0
  have h8 := i2.1
  have hu : ∀ z, up h 99 0 z 109 = h 109 := fun z => up_ne (by decide)
  show ClI (d + 30) mX7_loss [vr 0, vi s, vi k] h _
  refine cl_in (al := [vr 0, vi s, vi k, .null]) rfl (Nat.le_of_ble_eq_true rfl) (by simp [vi_cat, vr_cat, vs_cat]) ?_
  refine yr_aload_n (pq := 1) rfl dX7_loss_0 rfl ?_
  refine yr_getR (pq := 4) (b := 1) 0 rfl dX7_loss_1 kF_7_10 (by decide) rfl ?_
  refine yr_getR (pq := 7) (b := 2) 0 rfl dX7_loss_4 kF_7_70 (by decide) rfl ?_
  refine yr_iload_n (pq := 8) rfl dX7_loss_7 rfl ?_
  refine yr_vI1 (pq := 11) rfl dX7_loss_8 kM_7_81 (by decide) (tw_c (by decide)) cat0 (c_has (N := h 109) (T := 2) (by decide) hs i1.1.1 h8 (fun q => ?_) (fun q => ?_))
  · refine yr_if_eq (pq := 14) (t := 24) rfl dX7_loss_11 rfl (by omega) (fun q9 => absurd q9 (by decide)) (fun _ => ?_)
    refine yr_iload_n (pq := 15) rfl dX7_loss_14 rfl ?_
    refine yr_iconst (pq := 16) rfl dX7_loss_15 ?_
    refine yr_bipush (pq := 18) rfl dX7_loss_16 rfl ?_
    refine yr_sI3 (pq := 21) rfl dX7_loss_18 kM_7_62 (by decide) cat0 (c_isIn hk (by decide) (by decide) (fun qk => ?_) (fun qk => ?_))
    · refine yr_if_ne (pq := 24) (t := 30) rfl dX7_loss_21 rfl (by omega) (fun _ => ?_) (fun q9 => absurd q9 (by decide))
      obtain ⟨o0, o3, o4, o5⟩ := rt_okst i1.1 i2 q.1 q.2
      obtain ⟨t0, -, -, t3, t4⟩ := i1.1.2.2.2.2 s q.1 q.2
      have w1 := i2.2.2.1 k qk.1 (by omega)
      have w2 := i2.2.2.2.1 k qk.1 (by omega)
      refine yr_aload_n (pq := 31) rfl dX7_loss_30 rfl ?_
      refine yr_getR (pq := 34) (b := 1) 0 rfl dX7_loss_31 kF_7_10 (by decide) rfl ?_
      refine yr_getR (pq := 37) (b := 2) 0 rfl dX7_loss_34 kF_7_70 (by decide) rfl ?_
      refine yr_astore3 (pq := 38) rfl dX7_loss_37 ?_
      refine yr_aload_n (pq := 39) rfl dX7_loss_38 rfl ?_
      refine yr_getR (pq := 42) 0 rfl dX7_loss_39 kF_7_84 (tw_c (by decide)) (fr_6_0 (by decide)) ?_
      refine yr_iload_n (pq := 43) rfl dX7_loss_42 rfl ?_
      refine yr_aald (pq := 44) rfl dX7_loss_43 (tw_k1 (by decide)) (by decide) (by omega) (st_q (by decide) (by omega) (by omega)) ?_
      refine yr_aload_n (pq := 45) rfl dX7_loss_44 rfl ?_
      refine yr_getR (pq := 48) 3 rfl dX7_loss_45 kF_7_129 (tw_c (by decide)) (fr_6_3 (by decide)) ?_
      refine yr_iload_n (pq := 49) rfl dX7_loss_48 rfl ?_
      refine yr_iald (pq := 50) rfl dX7_loss_49 (tw_k3 (by decide)) (tw_n (by decide) 3 (by decide)) (by omega) ?_
      refine yr_aload_n (pq := 51) rfl dX7_loss_50 rfl ?_
      refine yr_getR (pq := 54) 4 rfl dX7_loss_51 kF_7_132 (tw_c (by decide)) (fr_6_4 (by decide)) ?_
      refine yr_iload_n (pq := 55) rfl dX7_loss_54 rfl ?_
      refine yr_iald (pq := 56) rfl dX7_loss_55 (tw_k4 (by decide)) (tw_n (by decide) 4 (by decide)) (by omega) ?_
      refine yr_aload_n (pq := 57) rfl dX7_loss_56 rfl ?_
      refine yr_getR (pq := 60) (b := 1) 0 rfl dX7_loss_57 kF_7_10 (by decide) rfl ?_
      refine yr_getR (pq := 63) (b := 22) 1 rfl dX7_loss_60 kF_7_135 (by decide) rfl ?_
      refine yr_getI (pq := 66) 1 rfl dX7_loss_63 kF_7_139 (by decide) rfl (by decide) ?_
      rw [i1.1.2.2.1 k qk.1 (by omega), i1.1.2.2.2.1 k qk.1 (by omega), i1.2.2.1]
      refine yr_vI3 (pq := 69) rfl dX7_loss_66 kM_7_144 (by decide) (st_c (by decide) (by omega) (by omega)) cat0 (c_lossBy (st_c (by decide) q.1 (by omega)) o0 o4 w1 w2 i3.1 ?_)
      rw [t0, t4]
      refine yr_iret dX7_loss_69 rfl ?_
      show ClI (d + 30) mX8_loss [vr 108, vi s, vi k] _ _
      refine cl_in (al := [vr 108, vi s, vi k]) rfl (Nat.le_of_ble_eq_true rfl) (by simp [vi_cat, vr_cat, vs_cat]) ?_
      refine yr_aload_n (pq := 1) rfl dX8_loss_0 rfl ?_
      refine yr_iload_n (pq := 2) rfl dX8_loss_1 rfl ?_
      refine yr_vI1 (pq := 5) rfl dX8_loss_2 kM_8_123 (by decide) (by decide) cat0 (m_isStreet hs h8 (fun _ => ?_) (fun q9 => absurd q q9))
      refine yr_if_eq (pq := 8) (t := 24) rfl dX8_loss_5 rfl (by omega) (fun q9 => absurd q9 (by decide)) (fun _ => ?_)
      refine yr_iload_n (pq := 9) rfl dX8_loss_8 rfl ?_
      refine yr_sI1 (pq := 12) rfl dX8_loss_9 kM_8_132 (by decide) cat0 (m_isSpell hk (fun _ => ?_) (fun q9 => absurd qk q9))
      refine yr_if_eq (pq := 15) (t := 24) rfl dX8_loss_12 rfl (by omega) (fun q9 => absurd q9 (by decide)) (fun _ => ?_)
      refine yr_aload_n (pq := 16) rfl dX8_loss_15 rfl ?_
      refine yr_iload_n (pq := 17) rfl dX8_loss_16 rfl ?_
      refine yr_iload_n (pq := 18) rfl dX8_loss_17 rfl ?_
      refine yr_vI2 (pq := 21) rfl dX8_loss_18 kM_8_135 (by decide) (by decide) cat0 (m_lossOf i2 i3.1 q.1 q.2 qk.1 (by omega) ?_)
      refine yr_goto (t := 30) dX8_loss_21 rfl ?_
      refine yr_iret dX8_loss_30 rfl ⟨rfl, hI⟩
    · refine yr_if_ne (pq := 24) (t := 30) rfl dX7_loss_21 rfl (by omega) (fun q9 => absurd (by decide) q9) (fun _ => ?_)
      refine yr_aload_n (pq := 25) rfl dX7_loss_24 rfl ?_
      refine yr_iconst (pq := 26) rfl dX7_loss_25 ?_
      refine yr_vI1 (pq := 29) rfl dX7_loss_26 kM_7_66 (by decide) (by decide) cat0 (c_finding (by decide) ?_)
      refine yr_iret dX7_loss_29 rfl ?_
      show ClI (d + 30) mX8_loss [vr 108, vi s, vi k] _ _
      refine cl_in (al := [vr 108, vi s, vi k]) rfl (Nat.le_of_ble_eq_true rfl) (by simp [vi_cat, vr_cat, vs_cat]) ?_
      refine yr_aload_n (pq := 1) rfl dX8_loss_0 rfl ?_
      refine yr_iload_n (pq := 2) rfl dX8_loss_1 rfl ?_
      refine yr_vI1 (pq := 5) rfl dX8_loss_2 kM_8_123 (by decide) (by decide) cat0 (m_isStreet hs (by rw [hu]; exact h8) (fun _ => ?_) (fun q9 => absurd (by rw [hu]; exact q) q9))
      refine yr_if_eq (pq := 8) (t := 24) rfl dX8_loss_5 rfl (by omega) (fun q9 => absurd q9 (by decide)) (fun _ => ?_)
      refine yr_iload_n (pq := 9) rfl dX8_loss_8 rfl ?_
      refine yr_sI1 (pq := 12) rfl dX8_loss_9 kM_8_132 (by decide) cat0 (m_isSpell hk (fun q9 => absurd q9 qk) (fun _ => ?_))
      refine yr_if_eq (pq := 15) (t := 24) rfl dX8_loss_12 rfl (by omega) (fun _ => ?_) (fun q9 => absurd (by decide) q9)
      refine yr_aload_n (pq := 25) rfl dX8_loss_24 rfl ?_
      refine yr_ldc (pq := 27) rfl dX8_loss_25 kN_8_73 ?_
      refine yr_vI1 (pq := 30) rfl dX8_loss_27 kM_8_101 (by decide) (by decide) cat0 (m_finding (by decide) (fun e e0 e1 => ?_))
      refine yr_iret dX8_loss_30 rfl ⟨rfl, find2 (k := 0) hI (by decide) (by decide) (fun a q1 q2 => up_ne q2) (up_row _ _ _ _) (fun j _ => by rw [up_ne (by decide)]) e0 e1⟩
  · refine yr_if_eq (pq := 14) (t := 24) rfl dX7_loss_11 rfl (by omega) (fun _ => ?_) (fun q9 => absurd (by decide) q9)
    refine yr_aload_n (pq := 25) rfl dX7_loss_24 rfl ?_
    refine yr_iconst (pq := 26) rfl dX7_loss_25 ?_
    refine yr_vI1 (pq := 29) rfl dX7_loss_26 kM_7_66 (by decide) (by decide) cat0 (c_finding (by decide) ?_)
    refine yr_iret dX7_loss_29 rfl ?_
    show ClI (d + 30) mX8_loss [vr 108, vi s, vi k] _ _
    refine cl_in (al := [vr 108, vi s, vi k]) rfl (Nat.le_of_ble_eq_true rfl) (by simp [vi_cat, vr_cat, vs_cat]) ?_
    refine yr_aload_n (pq := 1) rfl dX8_loss_0 rfl ?_
    refine yr_iload_n (pq := 2) rfl dX8_loss_1 rfl ?_
    refine yr_vI1 (pq := 5) rfl dX8_loss_2 kM_8_123 (by decide) (by decide) cat0 (m_isStreet hs (by rw [hu]; exact h8) (fun q9 => absurd q9 (by rw [hu]; exact q)) (fun _ => ?_))
    refine yr_if_eq (pq := 8) (t := 24) rfl dX8_loss_5 rfl (by omega) (fun _ => ?_) (fun q9 => absurd (by decide) q9)
    refine yr_aload_n (pq := 25) rfl dX8_loss_24 rfl ?_
    refine yr_ldc (pq := 27) rfl dX8_loss_25 kN_8_73 ?_
    refine yr_vI1 (pq := 30) rfl dX8_loss_27 kM_8_101 (by decide) (by decide) cat0 (m_finding (by decide) (fun e e0 e1 => ?_))
    refine yr_iret dX8_loss_30 rfl ⟨rfl, find2 (k := 0) hI (by decide) (by decide) (fun a q1 q2 => up_ne q2) (up_row _ _ _ _) (fun j _ => by rw [up_ne (by decide)]) e0 e1⟩
end S9
