/-! both seek alike -/
def p0F : Int → Int := fun _ => 0
/-- what is found from the row N, w thought away: g = -1: rounds -/
def fndF (g w : Int) (N : Int → Int) : aT := dfsF g w (N 49) (dueF N 0 0 (N 8).toNat) (N 50) 8 N (2 ^ (N 49).toNat) 0 p0F (0, -1, 0, 999, p0F)
theorem fndF_n (g w : Int) (N : Int → Int) : (fndF g w N).1 ≤ 1000000000 := by
  have h1 := dfs_n (g := g) (w := w) (o := N 49) (due := dueF N 0 0 (N 8).toNat) (b := N 50) 8 N (2 ^ (N 49).toNat) 0 p0F (0, -1, 0, 999, p0F)
  have h2 := cnF_8
  have h3 : (fndF g w N).1 ≤ 0 + cnF 8 := h1
  omega
section CF
variable {d : Nat} {h : hT} {K : Int → hT → Prop} {KV : hT → Prop} {N : Int → Int} {g w : Int}
theorem c_seekRounds {T salt : Int} (hT : tw T) (hR : RT h T N) (hO : okT N) (hS : okS N) (hsalt : N 44 = salt) (hG : h 23 0 = N 45 ∧ h 23 1 = N 46 ∧ h 23 2 = N 47 ∧ h 23 3 = N 48) (hc : h 22 2 = N 49) (hm : h 22 3 = N 50) (hs : h 22 4 = N 51) (hw : -1 ≤ w ∧ w ≤ 14) (hl : N 50 ≤ 999)
    (kk : ∀ h', (∀ a, a < 69 ∨ 75 < a → h' a = h a) → AC (-1) h' (fndF (-1) w N) → KV h') : ClV (d + 8 + 6) mX7_seekRounds [vr 0, vr T, vi salt, vi w] h KV := by
  obtain ⟨a1, a2, a3, a4, a5, a6⟩ := hS
  refine cl_in (al := [vr 0, vr T, vi salt, vi w]) rfl (Nat.le_of_ble_eq_true rfl) (by simp [vi_cat, vr_cat, vs_cat]) ?_
  refine yr_aload_n (pq := 1) rfl dX7_seekRounds_0 rfl ?_
  refine yr_getR (pq := 4) (b := 69) 4 rfl dX7_seekRounds_1 kF_7_33 (by decide) rfl ?_
  refine yr_aload_n (pq := 5) rfl dX7_seekRounds_4 rfl ?_
  refine yr_aload_n (pq := 6) rfl dX7_seekRounds_5 rfl ?_
  refine yr_getR (pq := 9) (b := 1) 0 rfl dX7_seekRounds_6 kF_7_10 (by decide) rfl ?_
  refine yr_getR (pq := 12) (b := 22) 1 rfl dX7_seekRounds_9 kF_7_135 (by decide) rfl ?_
  refine yr_iload_n (pq := 13) rfl dX7_seekRounds_12 rfl ?_
  refine yr_iload_n (pq := 14) rfl dX7_seekRounds_13 rfl ?_
  refine yr_vV4 (pq := 17) rfl dX7_seekRounds_14 kM_7_219 (by decide) (by decide) cat0 (c_prepare (N := N) (w := w) hT hR hO hsalt (by omega) hG (by omega) hc hs hw (fun f f0 f1 f2 f3 f4 f5 f6 => ?_))
  refine yr_aload_n (pq := 18) rfl dX7_seekRounds_17 rfl ?_
  refine yr_getR (pq := 21) (b := 69) 4 rfl dX7_seekRounds_18 kF_7_33 (by decide) rfl ?_
  refine yr_iconst (pq := 22) rfl dX7_seekRounds_21 ?_
  refine yr_aload_n (pq := 23) rfl dX7_seekRounds_22 rfl ?_
  refine yr_getR (pq := 26) (b := 1) 0 rfl dX7_seekRounds_23 kF_7_10 (by decide) rfl ?_
  refine yr_getR (pq := 29) (b := 22) 1 rfl dX7_seekRounds_26 kF_7_135 (by decide) rfl ?_
  refine yr_getI (pq := 32) 3 rfl dX7_seekRounds_29 kF_7_163 (by decide) rfl (by decide) ?_
  rw [f0 22 (by decide), hm]
  refine yr_vV2 (pq := 35) rfl dX7_seekRounds_32 kM_7_223 (by decide) (by decide) cat0 (c_seek (N := N) (w := w) (p := p0F) (d := d) hO ⟨a1, a2, a3, a4, a5, a6⟩ f1 f2 f3 f4 f5 f6 (by decide) rfl hl (fun e e0 e1 e2 => ?_))
  refine yr_vret dX7_seekRounds_35 rfl (kk e (fun a ha => ?_) e2)
  rw [e0 a (by omega) (by omega) (by omega), f0 a (by omega)]
theorem c_seekWays (hR : RS1 h N) (hO : okT N) (hS : okS N) (hg : 0 ≤ g ∧ g ≤ 7) (hl : N 50 ≤ 999)
    (kk : ∀ h', (∀ a, a < 69 ∨ 75 < a → h' a = h a) → AC g h' (fndF g (-1) N) → KV h') : ClV (d + 8 + 6) mX7_seekWays [vr 0, vi g] h KV := by
  obtain ⟨a1, a2, a3, a4, a5, a6⟩ := hS
  obtain ⟨r0, r1, r2, r3, r4, r5, r6, r7, r8⟩ := hR
  refine cl_in (al := [vr 0, vi g]) rfl (Nat.le_of_ble_eq_true rfl) (by simp [vi_cat, vr_cat, vs_cat]) ?_
  refine yr_aload_n (pq := 1) rfl dX7_seekWays_0 rfl ?_
  refine yr_getR (pq := 4) (b := 69) 4 rfl dX7_seekWays_1 kF_7_33 (by decide) rfl ?_
  refine yr_aload_n (pq := 5) rfl dX7_seekWays_4 rfl ?_
  refine yr_getR (pq := 8) (b := 1) 0 rfl dX7_seekWays_5 kF_7_10 (by decide) rfl ?_
  refine yr_getR (pq := 11) (b := 2) 0 rfl dX7_seekWays_8 kF_7_70 (by decide) rfl ?_
  refine yr_aload_n (pq := 12) rfl dX7_seekWays_11 rfl ?_
  refine yr_getR (pq := 15) (b := 1) 0 rfl dX7_seekWays_12 kF_7_10 (by decide) rfl ?_
  refine yr_getR (pq := 18) (b := 22) 1 rfl dX7_seekWays_15 kF_7_135 (by decide) rfl ?_
  refine yr_aload_n (pq := 19) rfl dX7_seekWays_18 rfl ?_
  refine yr_getR (pq := 22) (b := 1) 0 rfl dX7_seekWays_19 kF_7_10 (by decide) rfl ?_
  refine yr_getR (pq := 25) (b := 22) 1 rfl dX7_seekWays_22 kF_7_135 (by decide) rfl ?_
  refine yr_getI (pq := 28) 1 rfl dX7_seekWays_25 kF_7_139 (by decide) rfl (by decide) ?_
  refine yr_iconst (pq := 29) rfl dX7_seekWays_28 ?_
  rw [r2]
  refine yr_vV4 (pq := 32) rfl dX7_seekWays_29 kM_7_219 (by decide) (by decide) cat0 (c_prepare (N := N) (w := -1) (T := 2) (by decide) r0 hO rfl a1 r1 (by omega) r3 r5 (by decide) (fun f f0 f1 f2 f3 f4 f5 f6 => ?_))
  refine yr_aload_n (pq := 33) rfl dX7_seekWays_32 rfl ?_
  refine yr_getR (pq := 36) (b := 69) 4 rfl dX7_seekWays_33 kF_7_33 (by decide) rfl ?_
  refine yr_iload_n (pq := 37) rfl dX7_seekWays_36 rfl ?_
  refine yr_aload_n (pq := 38) rfl dX7_seekWays_37 rfl ?_
  refine yr_getR (pq := 41) (b := 1) 0 rfl dX7_seekWays_38 kF_7_10 (by decide) rfl ?_
  refine yr_getR (pq := 44) (b := 22) 1 rfl dX7_seekWays_41 kF_7_135 (by decide) rfl ?_
  refine yr_getI (pq := 47) 3 rfl dX7_seekWays_44 kF_7_163 (by decide) rfl (by decide) ?_
  rw [f0 22 (by decide), r4]
  refine yr_vV2 (pq := 50) rfl dX7_seekWays_47 kM_7_223 (by decide) (by decide) cat0 (c_seek (N := N) (w := -1) (p := p0F) (d := d) hO ⟨a1, a2, a3, a4, a5, a6⟩ f1 f2 f3 f4 f5 f6 (by omega) rfl hl (fun e e0 e1 e2 => ?_))
  refine yr_vret dX7_seekWays_50 rfl (kk e (fun a ha => ?_) e2)
  rw [e0 a (by omega) (by omega) (by omega), f0 a (by omega)]
theorem c_findWays (hR : RS1 h N) (hO : okT N) (hS : okS N) (hg : -2147483648 ≤ g ∧ g ≤ 2147483647) (k0 : ¬ (0 ≤ g ∧ g ≤ 7) → K (-1000001 - 0) (up h 99 0 (h 99 0 + 1))) (k1 : (0 ≤ g ∧ g ≤ 7) → 700 < N 50 → K (-1000001 - 4) (up h 99 4 (h 99 4 + 1)))
    (k2 : (0 ≤ g ∧ g ≤ 7) → N 50 ≤ 700 → (fndF g (-1) N).1 = 0 → ∀ h', (∀ a, a < 69 ∨ 75 < a → h' a = h a) → K (-1000001 - 3) (up h' 99 3 (h' 99 3 + 1)))
    (k3 : (0 ≤ g ∧ g ≤ 7) → N 50 ≤ 700 → (fndF g (-1) N).1 ≠ 0 → ∀ h', (∀ a, a < 69 ∨ 75 < a → h' a = h a) → AC g h' (fndF g (-1) N) → K 0 h') : ClI (d + 8 + 7) mX7_findWays [vr 0, vi g] h K := by
  have hn := fndF_n g (-1) N
  refine cl_in (al := [vr 0, vi g]) rfl (Nat.le_of_ble_eq_true rfl) (by simp [vi_cat, vr_cat, vs_cat]) ?_
  refine yr_iload_n (pq := 1) rfl dX7_findWays_0 rfl ?_
  refine yr_sI1 (pq := 4) rfl dX7_findWays_1 kM_7_59 (by decide) cat0 (c_isCorner hg (fun q => ?_) (fun q => ?_))
  · refine yr_if_ne (pq := 7) (t := 13) rfl dX7_findWays_4 rfl (by decide) (fun _ => ?_) (fun q9 => absurd q9 (by decide))
    refine yr_aload_n (pq := 14) rfl dX7_findWays_13 rfl ?_
    refine yr_vI0 (pq := 17) rfl dX7_findWays_14 kM_7_212 (by decide) (by decide) cat0 (c_isPast hR hS (fun q1 => ?_) (fun q1 => ?_))
    · refine yr_if_eq (pq := 20) (t := 26) rfl dX7_findWays_17 rfl (by decide) (fun q9 => absurd q9 (by decide)) (fun _ => ?_)
      refine yr_aload_n (pq := 21) rfl dX7_findWays_20 rfl ?_
      refine yr_iconst (pq := 22) rfl dX7_findWays_21 ?_
      refine yr_vI1 (pq := 25) rfl dX7_findWays_22 kM_7_66 (by decide) (by decide) cat0 (c_finding (by decide) ?_)
      exact yr_iret dX7_findWays_25 rfl (k1 q q1)
    · refine yr_if_eq (pq := 20) (t := 26) rfl dX7_findWays_17 rfl (by decide) (fun _ => ?_) (fun q9 => absurd (by decide) q9)
      refine yr_aload_n (pq := 27) rfl dX7_findWays_26 rfl ?_
      refine yr_iload_n (pq := 28) rfl dX7_findWays_27 rfl ?_
      refine yr_vV1 (pq := 31) rfl dX7_findWays_28 kM_7_205 (by decide) (by decide) cat0 (c_seekWays (N := N) hR hO hS q (by omega) (fun f f0 f1 => ?_))
      have f2 := f1.2.2.2.2.2.2.2
      refine yr_aload_n (pq := 32) rfl dX7_findWays_31 rfl ?_
      refine yr_getR (pq := 35) (b := 69) 4 rfl dX7_findWays_32 kF_7_33 (by decide) rfl ?_
      refine yr_getI (pq := 38) 12 rfl dX7_findWays_35 kF_7_209 (by decide) rfl (by decide) ?_
      rw [f1.1]
      refine yr_if_ne (pq := 41) (t := 49) rfl dX7_findWays_38 rfl (by omega) (fun q2 => ?_) (fun q2 => ?_)
      · refine yr_iconst (pq := 50) rfl dX7_findWays_49 ?_
        exact yr_iret dX7_findWays_50 rfl (k3 q q1 q2 f f0 f1)
      · refine yr_aload_n (pq := 42) rfl dX7_findWays_41 rfl ?_
        refine yr_iconst (pq := 43) rfl dX7_findWays_42 ?_
        refine yr_vI1 (pq := 46) rfl dX7_findWays_43 kM_7_66 (by decide) (by decide) cat0 (c_finding (by decide) ?_)
        refine yr_goto (t := 50) dX7_findWays_46 rfl ?_
        exact yr_iret dX7_findWays_50 rfl (k2 q q1 (by omega) f f0)
  · refine yr_if_ne (pq := 7) (t := 13) rfl dX7_findWays_4 rfl (by decide) (fun q9 => absurd (by decide) q9) (fun _ => ?_)
    refine yr_aload_n (pq := 8) rfl dX7_findWays_7 rfl ?_
    refine yr_iconst (pq := 9) rfl dX7_findWays_8 ?_
    refine yr_vI1 (pq := 12) rfl dX7_findWays_9 kM_7_66 (by decide) (by decide) cat0 (c_finding (by decide) ?_)
    exact yr_iret dX7_findWays_12 rfl (k0 q)
theorem m_due (hO : okT (h 109)) (k : K (dueF (h 109) 0 0 (h 109 8).toNat) h) : ClI (d + 3) mX8_due [vr 108] h K := by
  have h8 := hO.1
  have key : ∀ (n : Nat) (i acc : Int), 0 ≤ i → i + n = h 109 8 → K (dueF (h 109) acc i n) h → Yr (d + 2) mX8_due 4 [vr 108, vi acc, vi i] [] h (rI K) := by
    intro n
    induction n with
    | zero =>
      intro i acc hi hn kk
      refine yr_iload_n (pq := 5) rfl dX8_due_4 rfl ?_
      refine yr_aload_n (pq := 6) rfl dX8_due_5 rfl ?_
      refine yr_getR (pq := 9) (b := 109) 0 rfl dX8_due_6 kF_8_9 (by decide) rfl ?_
      refine yr_bipush (pq := 11) rfl dX8_due_9 rfl ?_
      refine yr_iald (pq := 12) rfl dX8_due_11 rfl (by decide) (by omega) ?_
      refine yr_ic_ge (pq := 15) (t := 55) rfl dX8_due_12 rfl (by omega) (by omega) (fun _ => ?_) (fun q9 => absurd (by omega) q9)
      refine yr_iload_n (pq := 56) rfl dX8_due_55 rfl ?_
      exact yr_iret dX8_due_56 rfl (kk)
    | succ n ih =>
      intro i acc hi hn kk
      obtain ⟨-, o1, -⟩ := hO.2.2.2.2 i hi (by omega)
      rw [dueF] at kk
      refine yr_iload_n (pq := 5) rfl dX8_due_4 rfl ?_
      refine yr_aload_n (pq := 6) rfl dX8_due_5 rfl ?_
      refine yr_getR (pq := 9) (b := 109) 0 rfl dX8_due_6 kF_8_9 (by decide) rfl ?_
      refine yr_bipush (pq := 11) rfl dX8_due_9 rfl ?_
      refine yr_iald (pq := 12) rfl dX8_due_11 rfl (by decide) (by omega) ?_
      refine yr_ic_ge (pq := 15) (t := 55) rfl dX8_due_12 rfl (by omega) (by omega) (fun q9 => absurd q9 (by omega)) (fun _ => ?_)
      refine yr_iload_n (pq := 16) rfl dX8_due_15 rfl ?_
      refine yr_iconst (pq := 17) rfl dX8_due_16 ?_
      refine yr_aload_n (pq := 18) rfl dX8_due_17 rfl ?_
      refine yr_getR (pq := 21) (b := 109) 0 rfl dX8_due_18 kF_8_9 (by decide) rfl ?_
      refine yr_iconst (pq := 22) rfl dX8_due_21 ?_
      refine yr_aload_n (pq := 23) rfl dX8_due_22 rfl ?_
      refine yr_iload_n (pq := 24) rfl dX8_due_23 rfl ?_
      refine yr_iconst (pq := 25) rfl dX8_due_24 ?_
      refine yr_vI2 (pq := 28) rfl dX8_due_25 kM_8_113 (by decide) (by decide) (Nat.le_of_ble_eq_true rfl) (m_streetIs (by omega) (by decide) ?_)
      refine yr_iadd (pq := 29) rfl dX8_due_28 ?_
      refine yr_iald (pq := 30) rfl dX8_due_29 rfl (by decide) (by omega) ?_
      refine yr_ishl (pq := 31) rfl dX8_due_30 ?_
      refine yr_iconst (pq := 32) rfl dX8_due_31 ?_
      refine yr_aload_n (pq := 33) rfl dX8_due_32 rfl ?_
      refine yr_getR (pq := 36) (b := 109) 0 rfl dX8_due_33 kF_8_9 (by decide) rfl ?_
      refine yr_iconst (pq := 37) rfl dX8_due_36 ?_
      refine yr_aload_n (pq := 38) rfl dX8_due_37 rfl ?_
      refine yr_iload_n (pq := 39) rfl dX8_due_38 rfl ?_
      refine yr_iconst (pq := 40) rfl dX8_due_39 ?_
      refine yr_vI2 (pq := 43) rfl dX8_due_40 kM_8_113 (by decide) (by decide) (Nat.le_of_ble_eq_true rfl) (m_streetIs (by omega) (by decide) ?_)
      refine yr_iadd (pq := 44) rfl dX8_due_43 ?_
      refine yr_iald (pq := 45) rfl dX8_due_44 rfl (by decide) (by omega) ?_
      refine yr_ishl (pq := 46) rfl dX8_due_45 ?_
      refine yr_ior (pq := 47) rfl dX8_due_46 ?_
      refine yr_ior (pq := 48) rfl dX8_due_47 ?_
      refine yr_istore1 (pq := 49) rfl dX8_due_48 ?_
      refine yr_iinc2 (pq := 52) rfl dX8_due_49 ?_
      refine yr_goto (t := 4) dX8_due_52 rfl ?_
      refine ih _ _ (by omega) (by omega) ?_
      simp only [Int.zero_add]
      exact kk
  refine cl_in (al := [vr 108, .null, .null]) rfl (Nat.le_of_ble_eq_true rfl) (by simp [vi_cat, vr_cat, vs_cat]) ?_
  refine yr_iconst (pq := 1) rfl dX8_due_0 ?_
  refine yr_istore1 (pq := 2) rfl dX8_due_1 ?_
  refine yr_iconst (pq := 3) rfl dX8_due_2 ?_
  refine yr_istore2 (pq := 4) rfl dX8_due_3 ?_
  exact key (h 109 8).toNat 0 0 (by omega) (by omega) k
theorem m_findWays (hO : okT (h 109)) (hS : okS (h 109)) (h5 : h 108 5 = -1) (hg : 0 ≤ g ∧ g ≤ 7) (hl : h 109 50 ≤ 999)
    (kk : ∀ h', FR 0 h h' → AR h' (fndF g (-1) (h 109)) → KV h') : ClV (d + 8 + 8) mX8_findWays [vr 108, vi g] h KV := by
  have hS0 := hS
  obtain ⟨a1, a2, a3, a4, a5, a6⟩ := hS0
  obtain ⟨c, ec⟩ := Int.eq_ofNat_of_zero_le a2.1
  have hpc := pc_one ⟨c, by omega⟩
  simp only at hpc
  have el : il 1 (h 109 49) = ((2 ^ c : Nat) : Int) := by rw [ec, il_nat (by omega)]
  have et : (h 109 49).toNat = c := by omega
  unfold fndF at kk
  rw [et] at kk
  refine cl_in (al := [vr 108, vi g]) rfl (Nat.le_of_ble_eq_true rfl) (by simp [vi_cat, vr_cat, vs_cat]) ?_
  refine yr_aload_n (pq := 1) rfl dX8_findWays_0 rfl ?_
  refine yr_vV0 (pq := 4) rfl dX8_findWays_1 kM_8_198 (by decide) (by decide) cat0 (m_none (fun f f0 f1 f2 => ?_))
  have e9 : f 109 = h 109 := f0 109 (by decide)
  refine yr_aload_n (pq := 5) rfl dX8_findWays_4 rfl ?_
  refine yr_iload_n (pq := 6) rfl dX8_findWays_5 rfl ?_
  refine yr_iconst (pq := 7) rfl dX8_findWays_6 ?_
  refine yr_aload_n (pq := 8) rfl dX8_findWays_7 rfl ?_
  refine yr_getR (pq := 11) (b := 109) 0 rfl dX8_findWays_8 kF_8_9 (by decide) rfl ?_
  refine yr_bipush (pq := 13) rfl dX8_findWays_11 rfl ?_
  refine yr_iald (pq := 14) rfl dX8_findWays_13 rfl (by decide) (by omega) ?_
  refine yr_ishl (pq := 15) rfl dX8_findWays_14 ?_
  refine yr_iconst (pq := 16) rfl dX8_findWays_15 ?_
  refine yr_aload_n (pq := 17) rfl dX8_findWays_16 rfl ?_
  refine yr_getR (pq := 20) (b := 109) 0 rfl dX8_findWays_17 kF_8_9 (by decide) rfl ?_
  refine yr_bipush (pq := 22) rfl dX8_findWays_20 rfl ?_
  refine yr_iald (pq := 23) rfl dX8_findWays_22 rfl (by decide) (by omega) ?_
  rw [e9, el]
  refine yr_vV4 (pq := 26) rfl dX8_findWays_23 kM_8_191 (by decide) (by decide) cat0 (m_waysOn (w := -1) (o := h 109 49) (due := dueF (h 109) 0 0 (h 109 8).toNat) hg (by decide) ⟨a3.1, hl⟩ 8 d f (h 109) (2 ^ c) 0 p0F (0, -1, 0, 999, p0F) _ e9 hO hS (by omega) (Int.le_refl _) hpc.1 (by omega) (by decide) (by decide) (by rw [f1 5 (by decide) (by decide) (by decide) (by decide)]; exact h5) (f2 _) (fun j j0 j1 => by omega) (fun e e0 e1 => ?_))
  refine yr_vret dX8_findWays_26 rfl (kk e (FR_t ⟨fun a q1 _ _ _ _ => f0 a q1, e9, f1, fun j _ => by rw [f0 113 (by decide)], fun j _ => by rw [f0 114 (by decide)]⟩ e0) e1)
theorem m_bestRound (hO : okT (h 109)) (hS : okS (h 109)) (h5 : h 108 5 = w) (hw : -1 ≤ w ∧ w ≤ 14) (hl : h 109 50 ≤ 999)
    (kk : ∀ h', FR 0 h h' → AR h' (fndF (-1) w (h 109)) → K (fndF (-1) w (h 109)).2.1 h') : ClI (d + 8 + 8) mX8_bestRound [vr 108] h K := by
  have hS0 := hS
  obtain ⟨a1, a2, a3, a4, a5, a6⟩ := hS0
  obtain ⟨c, ec⟩ := Int.eq_ofNat_of_zero_le a2.1
  have hpc := pc_one ⟨c, by omega⟩
  simp only at hpc
  have el : il 1 (h 109 49) = ((2 ^ c : Nat) : Int) := by rw [ec, il_nat (by omega)]
  have et : (h 109 49).toNat = c := by omega
  unfold fndF at kk
  rw [et] at kk
  refine cl_in (al := [vr 108]) rfl (Nat.le_of_ble_eq_true rfl) (by simp [vi_cat, vr_cat, vs_cat]) ?_
  refine yr_aload_n (pq := 1) rfl dX8_bestRound_0 rfl ?_
  refine yr_vV0 (pq := 4) rfl dX8_bestRound_1 kM_8_198 (by decide) (by decide) cat0 (m_none (fun f f0 f1 f2 => ?_))
  have e9 : f 109 = h 109 := f0 109 (by decide)
  refine yr_aload_n (pq := 5) rfl dX8_bestRound_4 rfl ?_
  refine yr_aload_n (pq := 6) rfl dX8_bestRound_5 rfl ?_
  refine yr_getR (pq := 9) (b := 109) 0 rfl dX8_bestRound_6 kF_8_9 (by decide) rfl ?_
  refine yr_bipush (pq := 11) rfl dX8_bestRound_9 rfl ?_
  refine yr_iald (pq := 12) rfl dX8_bestRound_11 rfl (by decide) (by omega) ?_
  refine yr_iconst (pq := 13) rfl dX8_bestRound_12 ?_
  refine yr_aload_n (pq := 14) rfl dX8_bestRound_13 rfl ?_
  refine yr_getR (pq := 17) (b := 109) 0 rfl dX8_bestRound_14 kF_8_9 (by decide) rfl ?_
  refine yr_bipush (pq := 19) rfl dX8_bestRound_17 rfl ?_
  refine yr_iald (pq := 20) rfl dX8_bestRound_19 rfl (by decide) (by omega) ?_
  refine yr_ishl (pq := 21) rfl dX8_bestRound_20 ?_
  refine yr_iconst (pq := 22) rfl dX8_bestRound_21 ?_
  refine yr_aload_n (pq := 23) rfl dX8_bestRound_22 rfl ?_
  rw [e9, el]
  refine yr_vI0 (pq := 26) rfl dX8_bestRound_23 kM_8_217 (by decide) (by decide) (Nat.le_of_ble_eq_true rfl) (m_due (by rw [e9]; exact hO) ?_)
  rw [e9]
  refine yr_vV4 (pq := 29) rfl dX8_bestRound_26 kM_8_214 (by decide) (by decide) cat0 (m_roundsOn (g := -1) (b := h 109 50) (w := w) rfl a2 hw ⟨a3.1, hl⟩ 8 d f (h 109) (2 ^ c) 0 p0F (0, -1, 0, 999, p0F) _ e9 hO hS (by omega) hpc.1 (by omega) (by decide) (by decide) (by rw [f1 5 (by decide) (by decide) (by decide) (by decide)]; exact h5) (f2 _) (fun j j0 j1 => by omega) (fun e e0 e1 => ?_))
  refine yr_aload_n (pq := 30) rfl dX8_bestRound_29 rfl ?_
  refine yr_getI (pq := 33) 10 rfl dX8_bestRound_30 kF_8_176 (by decide) rfl (by decide) ?_
  rw [e1.2.1]
  exact yr_iret dX8_bestRound_33 rfl (kk e (FR_t ⟨fun a q1 _ _ _ _ => f0 a q1, e9, f1, fun j _ => by rw [f0 113 (by decide)], fun j _ => by rw [f0 114 (by decide)]⟩ e0) e1)
theorem m_refusesWays (hO : okT (h 109)) (hS : okS (h 109)) (h5 : h 108 5 = -1) (hg : -2147483648 ≤ g ∧ g ≤ 2147483647) (k0 : ¬ (0 ≤ g ∧ g ≤ 7) → K (-1000001) h) (k1 : (0 ≤ g ∧ g ≤ 7) → 700 < h 109 50 → K (-1000005) h)
    (k2 : (0 ≤ g ∧ g ≤ 7) → h 109 50 ≤ 700 → (fndF g (-1) (h 109)).1 = 0 → ∀ h', FR 0 h h' → K (-1000004) h')
    (k3 : (0 ≤ g ∧ g ≤ 7) → h 109 50 ≤ 700 → (fndF g (-1) (h 109)).1 ≠ 0 → 0 ≤ (fndF g (-1) (h 109)).1 → ∀ h', FR 0 h h' → AR h' (fndF g (-1) (h 109)) → K 0 h') (hn0 : 0 ≤ (fndF g (-1) (h 109)).1) : ClI (d + 8 + 9) mX8_refusesWays [vr 108, vi g] h K := by
  have hn := fndF_n g (-1) (h 109)
  have hm := hS.2.2.1
  refine cl_in (al := [vr 108, vi g]) rfl (Nat.le_of_ble_eq_true rfl) (by simp [vi_cat, vr_cat, vs_cat]) ?_
  refine yr_iload_n (pq := 1) rfl dX8_refusesWays_0 rfl ?_
  refine yr_sI1 (pq := 4) rfl dX8_refusesWays_1 kM_8_98 (by decide) cat0 (m_isCorner hg (fun q => ?_) (fun q => ?_))
  · refine yr_if_ne (pq := 7) (t := 10) rfl dX8_refusesWays_4 rfl (by decide) (fun _ => ?_) (fun q9 => absurd q9 (by decide))
    refine yr_aload_n (pq := 11) rfl dX8_refusesWays_10 rfl ?_
    refine yr_vI0 (pq := 14) rfl dX8_refusesWays_11 kM_8_201 (by decide) (by decide) cat0 (m_isLate (by omega) (fun q1 => ?_) (fun q1 => ?_))
    · refine yr_if_eq (pq := 17) (t := 20) rfl dX8_refusesWays_14 rfl (by decide) (fun q9 => absurd q9 (by decide)) (fun _ => ?_)
      refine yr_ldc (pq := 19) rfl dX8_refusesWays_17 kN_8_159 ?_
      exact yr_iret dX8_refusesWays_19 rfl (k1 q q1)
    · refine yr_if_eq (pq := 17) (t := 20) rfl dX8_refusesWays_14 rfl (by decide) (fun _ => ?_) (fun q9 => absurd (by decide) q9)
      refine yr_aload_n (pq := 21) rfl dX8_refusesWays_20 rfl ?_
      refine yr_iload_n (pq := 22) rfl dX8_refusesWays_21 rfl ?_
      refine yr_vV1 (pq := 25) rfl dX8_refusesWays_22 kM_8_205 (by decide) (by decide) cat0 (m_findWays hO hS h5 q (by omega) (fun f f0 f1 => ?_))
      refine yr_aload_n (pq := 26) rfl dX8_refusesWays_25 rfl ?_
      refine yr_getI (pq := 29) 11 rfl dX8_refusesWays_26 kF_8_170 (by decide) rfl (by decide) ?_
      rw [f1.1]
      refine yr_if_ne (pq := 32) (t := 37) rfl dX8_refusesWays_29 rfl (by omega) (fun q2 => ?_) (fun q2 => ?_)
      · refine yr_iconst (pq := 38) rfl dX8_refusesWays_37 ?_
        exact yr_iret dX8_refusesWays_38 rfl (k3 q q1 q2 hn0 f f0 f1)
      · refine yr_ldc (pq := 34) rfl dX8_refusesWays_32 kN_8_144 ?_
        refine yr_goto (t := 38) dX8_refusesWays_34 rfl ?_
        exact yr_iret dX8_refusesWays_38 rfl (k2 q q1 (by omega) f f0)
  · refine yr_if_ne (pq := 7) (t := 10) rfl dX8_refusesWays_4 rfl (by decide) (fun q9 => absurd (by decide) q9) (fun _ => ?_)
    refine yr_ldc (pq := 9) rfl dX8_refusesWays_7 kN_8_73 ?_
    exact yr_iret dX8_refusesWays_9 rfl (k0 q)
end CF
