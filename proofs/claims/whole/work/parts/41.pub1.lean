/-! calls that seek ways -/
theorem lp_lo {f : Nat → aT → aT} (hf : ∀ c A, A.1 ≤ (f c A).1) : ∀ (m c : Nat) (A : aT), A.1 ≤ (lpF f c m A).1 := by
  intro m
  induction m with
  | zero => intro c A; exact Int.le_refl _
  | succ m ih => intro c A; rw [lpF]; exact Int.le_trans (hf c A) (ih (c + 1) (f c A))
theorem dfs_lo {g w o due b : Int} : ∀ (n : Nat) (N : Int → Int) (v : Nat) (k : Int) (p : Int → Int) (A : aT), A.1 ≤ (dfsF g w o due b n N v k p A).1 := by
  intro n
  induction n with
  | zero => intro N v k p A; exact Int.le_refl _
  | succ n ih =>
    intro N v k p A
    rw [dfsF]
    split
    · rw [noteF_1]; omega
    · refine Int.le_trans (clsF_1 g w o due N k p A).1 (lp_lo (fun c B => ?_) 8 0 _)
      split
      · exact Int.le_refl _
      · split
        · exact ih _ _ _ _ _
        · exact Int.le_refl _
theorem fndF_0 (g w : Int) (N : Int → Int) : 0 ≤ (fndF g w N).1 := dfs_lo (g := g) (w := w) (o := N 49) (due := dueF N 0 0 (N 8).toNat) (b := N 50) 8 N (2 ^ (N 49).toNat) 0 p0F (0, -1, 0, 999, p0F)
/-- a finding of both -/
theorem find2 {h f e : hT} {k w : Int} (hI : Inv h) (hk : 0 ≤ k ∧ k ≤ 6) (hw : -1000000 - w = k + 1) (a1 : ∀ a, CR a → a ≠ 99 → f a = h a) (a2 : f 99 = ur (h 99) k (h 99 k + 1)) (a3 : ∀ j, j = 3 ∨ j = 5 ∨ j = 16 → f 108 j = h 108 j)
    (e0 : ∀ b, b ≠ 112 → e b = f b) (e1 : e 112 = ur (ur (f 112) (-1000000 - w) (f 112 (-1000000 - w) + 1)) 0 (f 112 0 + 1)) : Inv e := by
  have c112 : f 112 = h 112 := a1 112 (by unfold CR; omega) (by decide)
  rw [hw, c112] at e1
  refine Inv_find hI hk (fun a q1 q2 q3 => by rw [e0 a q3, a1 a q1 q2]) (by rw [e0 99 (by decide), a2]) e1 ?_ ?_ ?_
  · rw [e0 108 (by decide)]; exact a3 3 (by omega)
  · rw [e0 108 (by decide)]; exact a3 5 (by omega)
  · rw [e0 108 (by decide)]; exact a3 16 (by omega)
section S1
variable {d : Nat} {h : hT} {g : Int}
theorem s_ways (hI : Inv h) (hg : -2147483648 ≤ g ∧ g ≤ 2147483647) : Sm (d + 30) mX7_ways mX8_ways [vi g] h := by
  have hI0 := hI
  obtain ⟨⟨i1, i2, i3, i3'⟩, -, -, -, -, -, i11⟩ := hI0
  show ClI (d + 30) mX7_ways [vr 0, vi g] h _
  refine cl_in (al := [vr 0, vi g]) rfl (Nat.le_of_ble_eq_true rfl) (by simp [vi_cat, vr_cat, vs_cat]) ?_
  refine yr_iload_n (pq := 1) rfl dX7_ways_0 rfl ?_
  refine yr_sI1 (pq := 4) rfl dX7_ways_1 kM_7_59 (by decide) cat0 (c_isCorner hg (fun q => ?_) (fun q => ?_))
  · refine yr_if_ne (pq := 7) (t := 13) rfl dX7_ways_4 rfl (by decide) (fun _ => ?_) (fun q9 => absurd q9 (by decide))
    refine yr_aload_n (pq := 14) rfl dX7_ways_13 rfl ?_
    refine yr_iload_n (pq := 15) rfl dX7_ways_14 rfl ?_
    refine yr_vV1 (pq := 18) rfl dX7_ways_15 kM_7_205 (by decide) (by decide) cat0 (c_seekWays (N := h 109) i1 i2 i3 q i3' (fun f f0 f1 => ?_))
    refine yr_aload_n (pq := 19) rfl dX7_ways_18 rfl ?_
    refine yr_getR (pq := 22) (b := 69) 4 rfl dX7_ways_19 kF_7_33 (by decide) rfl ?_
    refine yr_getI (pq := 25) 12 rfl dX7_ways_22 kF_7_209 (by decide) rfl (by decide) ?_
    rw [f1.1]
    refine yr_iret dX7_ways_25 rfl ?_
    show ClI (d + 30) mX8_ways [vr 108, vi g] f _
    have e9 : f 109 = h 109 := f0 109 (by decide)
    have e8 : f 108 = h 108 := f0 108 (by decide)
    refine cl_in (al := [vr 108, vi g]) rfl (Nat.le_of_ble_eq_true rfl) (by simp [vi_cat, vr_cat, vs_cat]) ?_
    refine yr_iload_n (pq := 1) rfl dX8_ways_0 rfl ?_
    refine yr_sI1 (pq := 4) rfl dX8_ways_1 kM_8_98 (by decide) cat0 (m_isCorner hg (fun _ => ?_) (fun q9 => absurd q q9))
    refine yr_if_ne (pq := 7) (t := 14) rfl dX8_ways_4 rfl (by omega) (fun _ => ?_) (fun q9 => absurd q9 (by decide))
    refine yr_aload_n (pq := 15) rfl dX8_ways_14 rfl ?_
    refine yr_iload_n (pq := 16) rfl dX8_ways_15 rfl ?_
    refine yr_vV1 (pq := 19) rfl dX8_ways_16 kM_8_205 (by decide) (by decide) cat0 (m_findWays (by rw [e9]; exact i2) (by rw [e9]; exact i3) (by rw [e8]; exact i11) q (by rw [e9]; exact i3') (fun e e0 e1 => ?_))
    refine yr_aload_n (pq := 20) rfl dX8_ways_19 rfl ?_
    refine yr_getI (pq := 23) 11 rfl dX8_ways_20 kF_8_170 (by decide) rfl (by decide) ?_
    rw [e1.1, e9]
    refine yr_iret dX8_ways_23 rfl ⟨rfl, Inv_fr hI (fun a ha => ?_) ?_ ?_ ?_⟩
    · unfold CR at ha
      by_cases q9 : a = 109
      · subst q9; rw [e0.2.1, e9]
      · rw [e0.1 a (by omega) q9 (by omega) (by omega) (by omega), f0 a (by omega)]
    · rw [e0.2.2.1 3 (by decide) (by decide) (by decide) (by decide), e8]
    · rw [e0.2.2.1 5 (by decide) (by decide) (by decide) (by decide), e8]
    · rw [e0.2.2.1 16 (by decide) (by decide) (by decide) (by decide), e8]
  · refine yr_if_ne (pq := 7) (t := 13) rfl dX7_ways_4 rfl (by decide) (fun q9 => absurd (by decide) q9) (fun _ => ?_)
    refine yr_aload_n (pq := 8) rfl dX7_ways_7 rfl ?_
    refine yr_iconst (pq := 9) rfl dX7_ways_8 ?_
    refine yr_vI1 (pq := 12) rfl dX7_ways_9 kM_7_66 (by decide) (by decide) cat0 (c_finding (by decide) ?_)
    refine yr_iret dX7_ways_12 rfl ?_
    show ClI (d + 30) mX8_ways [vr 108, vi g] _ _
    refine cl_in (al := [vr 108, vi g]) rfl (Nat.le_of_ble_eq_true rfl) (by simp [vi_cat, vr_cat, vs_cat]) ?_
    refine yr_iload_n (pq := 1) rfl dX8_ways_0 rfl ?_
    refine yr_sI1 (pq := 4) rfl dX8_ways_1 kM_8_98 (by decide) cat0 (m_isCorner hg (fun q9 => absurd q9 q) (fun _ => ?_))
    refine yr_if_ne (pq := 7) (t := 14) rfl dX8_ways_4 rfl (by omega) (fun q9 => absurd (by decide) q9) (fun _ => ?_)
    refine yr_aload_n (pq := 8) rfl dX8_ways_7 rfl ?_
    refine yr_ldc (pq := 10) rfl dX8_ways_8 kN_8_73 ?_
    refine yr_vI1 (pq := 13) rfl dX8_ways_10 kM_8_101 (by decide) (by decide) cat0 (m_finding (by decide) (fun e e0 e1 => ?_))
    refine yr_iret dX8_ways_13 rfl ⟨rfl, find2 (k := 0) hI (by decide) (by decide) (fun a q1 q2 => up_ne q2) (up_row _ _ _ _) (fun j _ => by rw [up_ne (by decide)]) e0 e1⟩
end S1
