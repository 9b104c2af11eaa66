/-! round, rounds -/
def IA (A : aT) : Prop := (A.1 = 0 ∧ A.2.1 = -1 ∧ A.2.2.1 = 0) ∨ (0 < A.1 ∧ 0 ≤ A.2.1)
theorem carN_tot (N : Int → Int) (s c : Int) : 0 ≤ totF (carN N s c) := by
  show 0 ≤ mltP (lossT N s) 0 (N 45) + mltP (lossT N s) (N 45) (N 46) + mltP (lossT N s) (N 45 + N 46) (N 47) + mltP (lossT N s) (N 45 + N 46 + N 47) (N 48)
  unfold mltP
  omega
theorem note_ia {A : aT} {l k m : Int} {p : Int → Int} (hA : IA A) (hl : 0 ≤ l) : IA (noteF A l k m p) := by
  unfold IA at hA ⊢
  unfold noteF
  split
  · show (A.1 + 1 = 0 ∧ l = -1 ∧ k = 0) ∨ (0 < A.1 + 1 ∧ 0 ≤ l)
    omega
  · show (A.1 + 1 = 0 ∧ A.2.1 = -1 ∧ A.2.2.1 = 0) ∨ (0 < A.1 + 1 ∧ 0 ≤ A.2.1)
    omega
theorem lp_ia {f : Nat → aT → aT} (hf : ∀ c A, IA A → IA (f c A)) : ∀ (m c : Nat) (A : aT), IA A → IA (lpF f c m A) := by
  intro m
  induction m with
  | zero => intro c A hA; exact hA
  | succ m ih => intro c A hA; rw [lpF]; exact ih (c + 1) (f c A) (hf c A hA)
theorem dfs_ia {g w o due b : Int} : ∀ (n : Nat) (N : Int → Int) (v : Nat) (k : Int) (p : Int → Int) (A : aT), 0 ≤ totF N → IA A → IA (dfsF g w o due b n N v k p A) := by
  intro n
  induction n with
  | zero => intro N v k p A _ hA; exact hA
  | succ n ih =>
    intro N v k p A hN hA
    rw [dfsF]
    split
    · exact note_ia hA hN
    · refine lp_ia (fun c B hB => ?_) 8 0 _ ?_
      · split
        · exact hB
        · split
          · exact ih _ _ _ _ _ (carN_tot _ _ _) hB
          · exact hB
      · unfold clsF
        split
        · exact note_ia hA (carN_tot _ _ _)
        · exact hA
theorem fnd_ia {g w : Int} {N : Int → Int} (hS : okS N) : IA (fndF g w N) := dfs_ia (g := g) (w := w) (o := N 49) (due := dueF N 0 0 (N 8).toNat) (b := N 50) 8 N (2 ^ (N 49).toNat) 0 p0F (0, -1, 0, 999, p0F) (okS_tot hS).1 (Or.inl ⟨rfl, rfl, rfl⟩)
section S4
variable {d : Nat} {h : hT} {g : Int}
theorem s_rounds (hI : Inv h) : Sm (d + 30) mX7_rounds mX8_rounds [] h := by
  have hI0 := hI
  obtain ⟨⟨i1, i2, i3, i3'⟩, -, -, -, -, -, i11⟩ := hI0
  have hia := fnd_ia (g := -1) (w := -1) i3
  have hm := i3.2.2.1
  show ClI (d + 30) mX7_rounds [vr 0] h _
  refine cl_in (al := [vr 0]) rfl (Nat.le_of_ble_eq_true rfl) (by simp [vi_cat, vr_cat, vs_cat]) ?_
  refine yr_aload_n (pq := 1) rfl dX7_rounds_0 rfl ?_
  refine yr_vI0 (pq := 4) rfl dX7_rounds_1 kM_7_212 (by decide) (by decide) cat0 (c_isPast i1 i3 (fun q => ?_) (fun q => ?_))
  · refine yr_if_eq (pq := 7) (t := 13) rfl dX7_rounds_4 rfl (by omega) (fun q9 => absurd q9 (by decide)) (fun _ => ?_)
    refine yr_aload_n (pq := 8) rfl dX7_rounds_7 rfl ?_
    refine yr_iconst (pq := 9) rfl dX7_rounds_8 ?_
    refine yr_vI1 (pq := 12) rfl dX7_rounds_9 kM_7_66 (by decide) (by decide) cat0 (c_finding (by decide) ?_)
    refine yr_iret dX7_rounds_12 rfl ?_
    show ClI (d + 30) mX8_rounds [vr 108] _ _
    have e9 : up h 99 4 (h 99 4 + 1) 109 = h 109 := up_ne (by decide)
    refine cl_in (al := [vr 108]) rfl (Nat.le_of_ble_eq_true rfl) (by simp [vi_cat, vr_cat, vs_cat]) ?_
    refine yr_aload_n (pq := 1) rfl dX8_rounds_0 rfl ?_
    refine yr_vI0 (pq := 4) rfl dX8_rounds_1 kM_8_201 (by decide) (by decide) cat0 (m_isLate (by rw [e9]; omega) (fun _ => ?_) (fun q9 => absurd q9 (by rw [e9]; omega)))
    refine yr_if_eq (pq := 7) (t := 14) rfl dX8_rounds_4 rfl (by omega) (fun q9 => absurd q9 (by decide)) (fun _ => ?_)
    refine yr_aload_n (pq := 8) rfl dX8_rounds_7 rfl ?_
    refine yr_ldc (pq := 10) rfl dX8_rounds_8 kN_8_159 ?_
    refine yr_vI1 (pq := 13) rfl dX8_rounds_10 kM_8_101 (by decide) (by decide) cat0 (m_finding (by decide) (fun e e0 e1 => ?_))
    refine yr_iret dX8_rounds_13 rfl ⟨rfl, find2 (k := 4) hI (by decide) (by decide) (fun a q1 q2 => up_ne q2) (up_row _ _ _ _) (fun j _ => by rw [up_ne (by decide)]) e0 e1⟩
  · refine yr_if_eq (pq := 7) (t := 13) rfl dX7_rounds_4 rfl (by omega) (fun _ => ?_) (fun q9 => absurd (by decide) q9)
    refine yr_aload_n (pq := 14) rfl dX7_rounds_13 rfl ?_
    refine yr_aload_n (pq := 15) rfl dX7_rounds_14 rfl ?_
    refine yr_getR (pq := 18) (b := 1) 0 rfl dX7_rounds_15 kF_7_10 (by decide) rfl ?_
    refine yr_getR (pq := 21) (b := 2) 0 rfl dX7_rounds_18 kF_7_70 (by decide) rfl ?_
    refine yr_aload_n (pq := 22) rfl dX7_rounds_21 rfl ?_
    refine yr_getR (pq := 25) (b := 1) 0 rfl dX7_rounds_22 kF_7_10 (by decide) rfl ?_
    refine yr_getR (pq := 28) (b := 22) 1 rfl dX7_rounds_25 kF_7_135 (by decide) rfl ?_
    refine yr_getI (pq := 31) 1 rfl dX7_rounds_28 kF_7_139 (by decide) rfl (by decide) ?_
    refine yr_iconst (pq := 32) rfl dX7_rounds_31 ?_
    rw [i1.2.2.1]
    refine yr_vV3 (pq := 35) rfl dX7_rounds_32 kM_7_215 (by decide) (by decide) cat0 (c_seekRounds (N := h 109) (T := 2) (w := -1) (by decide) i1.1 i2 i3 rfl i1.2.1 i1.2.2.2.1 i1.2.2.2.2.1 i1.2.2.2.2.2.1 (by decide) i3' (fun f f0 f1 => ?_))
    refine yr_aload_n (pq := 36) rfl dX7_rounds_35 rfl ?_
    refine yr_getR (pq := 39) (b := 69) 4 rfl dX7_rounds_36 kF_7_33 (by decide) rfl ?_
    refine yr_getI (pq := 42) 12 rfl dX7_rounds_39 kF_7_209 (by decide) rfl (by decide) ?_
    rw [f1.1]
    refine yr_iret dX7_rounds_42 rfl ?_
    show ClI (d + 30) mX8_rounds [vr 108] _ _
    have e9 : f 109 = h 109 := f0 109 (by decide)
    have e8 : f 108 = h 108 := f0 108 (by decide)
    have hb := f1.2.2.2.2.2.2.1.1
    refine cl_in (al := [vr 108]) rfl (Nat.le_of_ble_eq_true rfl) (by simp [vi_cat, vr_cat, vs_cat]) ?_
    refine yr_aload_n (pq := 1) rfl dX8_rounds_0 rfl ?_
    refine yr_vI0 (pq := 4) rfl dX8_rounds_1 kM_8_201 (by decide) (by decide) cat0 (m_isLate (by rw [e9]; omega) (fun q9 => absurd q9 (by rw [e9]; omega)) (fun _ => ?_))
    refine yr_if_eq (pq := 7) (t := 14) rfl dX8_rounds_4 rfl (by omega) (fun _ => ?_) (fun q9 => absurd (by decide) q9)
    refine yr_aload_n (pq := 15) rfl dX8_rounds_14 rfl ?_
    refine yr_vI0 (pq := 18) rfl dX8_rounds_15 kM_8_220 (by decide) (by decide) cat0 (m_bestRound (w := -1) (by rw [e9]; exact i2) (by rw [e9]; exact i3) (by rw [e8]; exact i11) (by decide) (by rw [e9]; exact i3') (fun x x0 x1 => ?_))
    rw [e9] at x1 ⊢
    unfold IA at hia
    refine yr_if_ge (pq := 21) (t := 25) rfl dX8_rounds_18 rfl (by omega) (fun q5 => ?_) (fun q5 => ?_)
    · refine yr_aload_n (pq := 26) rfl dX8_rounds_25 rfl ?_
      refine yr_getI (pq := 29) 11 rfl dX8_rounds_26 kF_8_170 (by decide) rfl (by decide) ?_
      rw [x1.1]
      refine yr_iret dX8_rounds_29 rfl ⟨rfl, Inv_sr hI f0 x0⟩
    · refine yr_iconst (pq := 22) rfl dX8_rounds_21 ?_
      refine yr_goto (t := 29) dX8_rounds_22 rfl ?_
      refine yr_iret dX8_rounds_29 rfl ⟨by omega, Inv_sr hI f0 x0⟩
end S4
