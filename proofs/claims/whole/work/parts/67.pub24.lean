/-! carry, sky -/
theorem car_min {N : Int → Int} {s c : Int} (hS : okS N) (hl : 0 ≤ lossT N s) : totF N - totF (carN N s c) = min (lossT N s) (totF N) := by
  obtain ⟨a1, a2, a3, a4, a5, a6⟩ := hS
  show totF N - (mltP (lossT N s) 0 (N 45) + mltP (lossT N s) (N 45) (N 46) + mltP (lossT N s) (N 45 + N 46) (N 47) + mltP (lossT N s) (N 45 + N 46 + N 47) (N 48)) = _
  unfold totF mltP
  omega
theorem Inv_rs {h f e : hT} {M : Int → Int} (hI : Inv h) (f0 : ∀ a, (a = 0 ∨ 25 ≤ a) → f a = h a) (f1 : RS1 f M) (e0 : ∀ a, a ≠ 109 → e a = f a) (e1 : e 109 = M) (hO : okT M) (hS : okS M) (hm : M 50 ≤ 999) : Inv e := by
  refine Inv_row hI ?_ (by rw [e1]; exact hO) (by rw [e1]; exact hS) (by rw [e1]; exact hm) (fun a q1 q2 q3 => by rw [e0 a q3, f0 a q2]) ?_ ?_ ?_
  · rw [e1]; exact RS1_fr f1 hO (fun a ha => e0 a (by omega))
  · rw [e0 108 (by decide), f0 108 (by decide)]
  · rw [e0 108 (by decide), f0 108 (by decide)]
  · rw [e0 108 (by decide), f0 108 (by decide)]
theorem carN_T {N : Int → Int} {s c : Int} (hO : okT N) : okT (carN N s c) := okT_row hO (fun j hj => carN_lo (by omega))
section S24
variable {d : Nat} {h : hT} {K : Int → hT → Prop}
theorem r_carry {c : Int} {N : Int → Int} (hB : RB h N) (hO : okT N) (hS : okS N) (hc : -2147483648 ≤ c ∧ c ≤ 2147483647) (k0 : ¬ (0 ≤ c ∧ c ≤ 7) → ∀ e, FD (-1000001) h e → K (-1000001) e) (k1 : (0 ≤ c ∧ c ≤ 7) → byF N (-1) (N 49) c < 0 → ∀ e, FD (-1000004) h e → K (-1000004) e)
    (k2 : (0 ≤ c ∧ c ≤ 7) → 0 ≤ byF N (-1) (N 49) c → 999 < N 50 + takesF N (byF N (-1) (N 49) c) → ∀ e, FD (-1000005) h e → K (-1000005) e)
    (k3 : (0 ≤ c ∧ c ≤ 7) → 0 ≤ byF N (-1) (N 49) c → N 50 + takesF N (byF N (-1) (N 49) c) ≤ 999 → ∀ e, (∀ a, a ≠ 109 → e a = h a) → e 109 = carN N (byF N (-1) (N 49) c) c → K (totF N - totF (carN N (byF N (-1) (N 49) c) c)) e) : ClI (d + 7) mX8_carry [vr 108, vi c] h K := by
  obtain ⟨e9, h5⟩ := hB
  subst e9
  have h8 := hO.1
  have a2 := hS.2.1
  have a3 := hS.2.2.1
  have hb := byF_b (N := h 109) (w := -1) (a := h 109 49) (b := c)
  refine cl_in (al := [vr 108, vi c, .null, .null]) rfl (Nat.le_of_ble_eq_true rfl) (by simp [vi_cat, vr_cat, vs_cat]) ?_
  refine yr_iload_n (pq := 1) rfl dX8_carry_0 rfl ?_
  refine yr_sI1 (pq := 4) rfl dX8_carry_1 kM_8_98 (by decide) cat0 (m_isCorner hc (fun q1 => ?_) (fun q1 => ?_))
  · refine yr_if_ne (pq := 7) (t := 14) rfl dX8_carry_4 rfl (by decide) (fun _ => ?_) (fun q9 => absurd q9 (by decide))
    refine yr_aload_n (pq := 15) rfl dX8_carry_14 rfl ?_
    refine yr_aload_n (pq := 16) rfl dX8_carry_15 rfl ?_
    refine yr_getR (pq := 19) (b := 109) 0 rfl dX8_carry_16 kF_8_9 (by decide) rfl ?_
    refine yr_bipush (pq := 21) rfl dX8_carry_19 rfl ?_
    refine yr_iald (pq := 22) rfl dX8_carry_21 rfl (by decide) (by omega) ?_
    refine yr_iload_n (pq := 23) rfl dX8_carry_22 rfl ?_
    refine yr_vI2 (pq := 26) rfl dX8_carry_23 kM_8_138 (by decide) (by decide) cat0 (m_streetBy (w := -1) hO h5 (by decide) (by omega) hc ?_)
    refine yr_istore2 (pq := 27) rfl dX8_carry_26 ?_
    refine yr_iload_n (pq := 28) rfl dX8_carry_27 rfl ?_
    refine yr_if_ge (pq := 31) (t := 38) rfl dX8_carry_28 rfl (by omega) (fun q2 => ?_) (fun q2 => ?_)
    · have ht := takesF_b hO q2 (by omega)
      refine yr_aload_n (pq := 39) rfl dX8_carry_38 rfl ?_
      refine yr_aload_n (pq := 40) rfl dX8_carry_39 rfl ?_
      refine yr_iload_n (pq := 41) rfl dX8_carry_40 rfl ?_
      refine yr_vI1 (pq := 44) rfl dX8_carry_41 kM_8_126 (by decide) (by decide) (Nat.le_of_ble_eq_true rfl) (m_takes hO (by omega) (by omega) ?_)
      refine yr_vI1 (pq := 47) rfl dX8_carry_44 kM_8_156 (by decide) (by decide) cat0 (m_isTooLate (by omega) (by omega) (fun q3 => ?_) (fun q3 => ?_))
      · refine yr_if_eq (pq := 50) (t := 57) rfl dX8_carry_47 rfl (by decide) (fun q9 => absurd q9 (by decide)) (fun _ => ?_)
        refine yr_aload_n (pq := 51) rfl dX8_carry_50 rfl ?_
        refine yr_ldc (pq := 53) rfl dX8_carry_51 kN_8_159 ?_
        refine yr_vI1 (pq := 56) rfl dX8_carry_53 kM_8_101 (by decide) (by decide) cat0 (r_fnd (by decide) (fun e hf => ?_))
        exact yr_iret dX8_carry_56 rfl (k2 q1 (by omega) q3 e hf)
      · refine yr_if_eq (pq := 50) (t := 57) rfl dX8_carry_47 rfl (by decide) (fun _ => ?_) (fun q9 => absurd (by decide) q9)
        refine yr_aload_n (pq := 58) rfl dX8_carry_57 rfl ?_
        refine yr_vI0 (pq := 61) rfl dX8_carry_58 kM_8_145 (by decide) (by decide) cat0 (m_allGrains ?_)
        refine yr_istore3 (pq := 62) rfl dX8_carry_61 ?_
        refine yr_aload_n (pq := 63) rfl dX8_carry_62 rfl ?_
        refine yr_iload_n (pq := 64) rfl dX8_carry_63 rfl ?_
        refine yr_iload_n (pq := 65) rfl dX8_carry_64 rfl ?_
        refine yr_vV2 (pq := 68) rfl dX8_carry_65 kM_8_160 (by decide) (by decide) cat0 (m_carried hO hS (by omega) (by omega) q1 (fun e e0 e1 => ?_))
        refine yr_iload_n (pq := 69) rfl dX8_carry_68 rfl ?_
        refine yr_aload_n (pq := 70) rfl dX8_carry_69 rfl ?_
        refine yr_vI0 (pq := 73) rfl dX8_carry_70 kM_8_145 (by decide) (by decide) (Nat.le_of_ble_eq_true rfl) (m_allGrains ?_)
        rw [e1]
        refine yr_isub (pq := 74) rfl dX8_carry_73 ?_
        exact yr_iret dX8_carry_74 rfl (k3 q1 (by omega) q3 e e0 e1)
    · refine yr_aload_n (pq := 32) rfl dX8_carry_31 rfl ?_
      refine yr_ldc (pq := 34) rfl dX8_carry_32 kN_8_144 ?_
      refine yr_vI1 (pq := 37) rfl dX8_carry_34 kM_8_101 (by decide) (by decide) cat0 (r_fnd (by decide) (fun e hf => ?_))
      exact yr_iret dX8_carry_37 rfl (k1 q1 (by omega) e hf)
  · refine yr_if_ne (pq := 7) (t := 14) rfl dX8_carry_4 rfl (by decide) (fun q9 => absurd (by decide) q9) (fun _ => ?_)
    refine yr_aload_n (pq := 8) rfl dX8_carry_7 rfl ?_
    refine yr_ldc (pq := 10) rfl dX8_carry_8 kN_8_73 ?_
    refine yr_vI1 (pq := 13) rfl dX8_carry_10 kM_8_101 (by decide) (by decide) cat0 (r_fnd (by decide) (fun e hf => ?_))
    exact yr_iret dX8_carry_13 rfl (k0 q1 e hf)
theorem s_carry {c : Int} (hI : Inv h) (hc : -2147483648 ≤ c ∧ c ≤ 2147483647) : Sm (d + 30) mX7_carry mX8_carry [vi c] h := by
  have hI0 := hI
  obtain ⟨⟨i1, i2, i3, i3'⟩, -, -, -, -, -, i11⟩ := hI0
  have h8 := i2.1
  have a2 := i3.2.1
  have a3 := i3.2.2.1
  have hb := byF_b (N := h 109) (w := -1) (a := h 109 49) (b := c)
  show ClI (d + 30) mX7_carry [vr 0, vi c] h (SKn (d + 30) mX8_carry [vr 108, vi c])
  refine cl_in (al := [vr 0, vi c, .null]) rfl (Nat.le_of_ble_eq_true rfl) (by simp [vi_cat, vr_cat, vs_cat]) ?_
  refine yr_iload_n (pq := 1) rfl dX7_carry_0 rfl ?_
  refine yr_sI1 (pq := 4) rfl dX7_carry_1 kM_7_59 (by decide) cat0 (c_isCorner hc (fun q1 => ?_) (fun q1 => ?_))
  · refine yr_if_ne (pq := 7) (t := 13) rfl dX7_carry_4 rfl (by decide) (fun _ => ?_) (fun q9 => absurd q9 (by decide))
    refine yr_aload_n (pq := 14) rfl dX7_carry_13 rfl ?_
    refine yr_getR (pq := 17) (b := 1) 0 rfl dX7_carry_14 kF_7_10 (by decide) rfl ?_
    refine yr_getR (pq := 20) (b := 2) 0 rfl dX7_carry_17 kF_7_70 (by decide) rfl ?_
    refine yr_aload_n (pq := 21) rfl dX7_carry_20 rfl ?_
    refine yr_getR (pq := 24) (b := 1) 0 rfl dX7_carry_21 kF_7_10 (by decide) rfl ?_
    refine yr_getR (pq := 27) (b := 22) 1 rfl dX7_carry_24 kF_7_135 (by decide) rfl ?_
    refine yr_getI (pq := 30) 2 rfl dX7_carry_27 kF_7_160 (by decide) rfl (by decide) ?_
    refine yr_iload_n (pq := 31) rfl dX7_carry_30 rfl ?_
    rw [i1.2.2.2.1]
    refine yr_vI2 (pq := 34) rfl dX7_carry_31 kM_7_151 (by decide) (tw_c (by decide)) cat0 (c_between (N := h 109) (T := 2) (by decide) i1.1 i2 (by omega) q1 ?_)
    refine yr_istore2 (pq := 35) rfl dX7_carry_34 ?_
    refine yr_iload_n (pq := 36) rfl dX7_carry_35 rfl ?_
    refine yr_if_ge (pq := 39) (t := 45) rfl dX7_carry_36 rfl (by omega) (fun q2 => ?_) (fun q2 => ?_)
    · have q2' : byF (h 109) (-1) (h 109 49) c < h 109 8 := by omega
      have ht := takesF_b i2 q2 q2'
      refine yr_aload_n (pq := 46) rfl dX7_carry_45 rfl ?_
      refine yr_getR (pq := 49) (b := 1) 0 rfl dX7_carry_46 kF_7_10 (by decide) rfl ?_
      refine yr_iload_n (pq := 50) rfl dX7_carry_49 rfl ?_
      refine yr_vI1 (pq := 53) rfl dX7_carry_50 kM_7_172 (by decide) (by decide) cat0 (c_isTooLate (N := h 109) i1 i2 i3 q2 q2' (fun q3 => ?_) (fun q3 => ?_))
      · refine yr_if_eq (pq := 56) (t := 62) rfl dX7_carry_53 rfl (by decide) (fun q9 => absurd q9 (by decide)) (fun _ => ?_)
        refine yr_aload_n (pq := 57) rfl dX7_carry_56 rfl ?_
        refine yr_iconst (pq := 58) rfl dX7_carry_57 ?_
        refine yr_vI1 (pq := 61) rfl dX7_carry_58 kM_7_66 (by decide) (by decide) cat0 (c_finding (by decide) ?_)
        exact yr_iret dX7_carry_61 rfl (r_carry (rb_u hI (by decide) (by decide)) i2 i3 hc (fun q9 => absurd q1 q9) (fun _ q9 => absurd q9 (by omega)) (fun _ _ _ e hf => fd_end hI (by decide) (by decide) hf) (fun _ _ q9 => absurd q9 (by omega)))
      · refine yr_if_eq (pq := 56) (t := 62) rfl dX7_carry_53 rfl (by decide) (fun _ => ?_) (fun q9 => absurd (by decide) q9)
        refine yr_aload_n (pq := 63) rfl dX7_carry_62 rfl ?_
        refine yr_getR (pq := 66) (b := 1) 0 rfl dX7_carry_63 kF_7_10 (by decide) rfl ?_
        refine yr_iload_n (pq := 67) rfl dX7_carry_66 rfl ?_
        refine yr_iload_n (pq := 68) rfl dX7_carry_67 rfl ?_
        refine yr_vI2 (pq := 71) rfl dX7_carry_68 kM_7_175 (by decide) (by decide) cat0 (c_carryAlong (N := h 109) i1 i2 i3 q2 q2' q1 (fun f f0 f1 => ?_))
        refine yr_iret dX7_carry_71 rfl ?_
        refine r_carry (N := h 109) ⟨f0 109 (by decide) (by decide) (by decide), by rw [f0 108 (by decide) (by decide) (by decide)]; exact i11⟩ i2 i3 hc (fun q9 => absurd q1 q9) (fun _ q9 => absurd q9 (by omega)) (fun _ _ q9 => absurd q9 (by omega)) (fun _ _ _ e e0 e1 => ⟨car_min i3 (lossT_b i2 a3.1 q2 q2').1, ?_⟩)
        exact Inv_rs hI (fun a ha => f0 a (by omega) (by omega) (by omega)) f1 e0 e1 (carN_T i2) (carN_okS i2 i3 q2 q2' q1 (by omega)) q3
    · refine yr_aload_n (pq := 40) rfl dX7_carry_39 rfl ?_
      refine yr_iconst (pq := 41) rfl dX7_carry_40 ?_
      refine yr_vI1 (pq := 44) rfl dX7_carry_41 kM_7_66 (by decide) (by decide) cat0 (c_finding (by decide) ?_)
      exact yr_iret dX7_carry_44 rfl (r_carry (rb_u hI (by decide) (by decide)) i2 i3 hc (fun q9 => absurd q1 q9) (fun _ _ e hf => fd_end hI (by decide) (by decide) hf) (fun _ q9 => absurd q9 (by omega)) (fun _ q9 => absurd q9 (by omega)))
  · refine yr_if_ne (pq := 7) (t := 13) rfl dX7_carry_4 rfl (by decide) (fun q9 => absurd (by decide) q9) (fun _ => ?_)
    refine yr_aload_n (pq := 8) rfl dX7_carry_7 rfl ?_
    refine yr_iconst (pq := 9) rfl dX7_carry_8 ?_
    refine yr_vI1 (pq := 12) rfl dX7_carry_9 kM_7_66 (by decide) (by decide) cat0 (c_finding (by decide) ?_)
    exact yr_iret dX7_carry_12 rfl (r_carry (rb_u hI (by decide) (by decide)) i2 i3 hc (fun _ e hf => fd_end hI (by decide) (by decide) hf) (fun q9 => absurd q9 q1) (fun q9 => absurd q9 q1) (fun q9 => absurd q9 q1))
def zF (z : Int) : Int := z * 1103515245 + 12345
theorem okS_9 {N : Int → Int} {r v : Int} (hS : okS N) (hr : r = 9 ∨ (20 ≤ r ∧ r < 44)) : okS (ur N r v) := by
  refine okS_u hS (ur_o (by omega)) (fun s s0 s1 => ur_o (by omega)) ?_ ?_ ?_ ?_ ?_
  · rw [ur_o (by omega)]; exact hS.1
  · rw [ur_o (by omega)]; exact hS.2.1
  · rw [ur_o (by omega)]; exact hS.2.2.1
  · rw [ur_o (by omega)]; exact hS.2.2.2.1
  · rw [ur_o (by omega), ur_o (by omega), ur_o (by omega), ur_o (by omega)]; exact hS.2.2.2.2.1
/-- one draw of the sky -/
def skyN (N : Int → Int) : Int → Int := ur (ur (ur (ur (ur N 9 (zF (N 9))) 9 (zF (zF (N 9)))) (20 + drwF (N 9) % 12) (drwF (zF (N 9)) % 10)) 9 (zF (zF (zF (N 9))))) (32 + drwF (N 9) % 12) (max 0 (drwF (zF (zF (N 9))) % 10 - 5))
def skyI (N : Int → Int) : Nat → Int → Int
  | 0 => N
  | n + 1 => skyI (skyN N) n
theorem skyN_ok {N : Int → Int} (hO : okT N) (hS : okS N) (hm : N 50 ≤ 999) : okT (skyN N) ∧ okS (skyN N) ∧ skyN N 50 ≤ 999 := by
  have i0 : 0 ≤ drwF (N 9) % 12 ∧ drwF (N 9) % 12 < 12 := by omega
  have v0 : 0 ≤ drwF (zF (N 9)) % 10 ∧ drwF (zF (N 9)) % 10 ≤ 9 := by omega
  have v1 : 0 ≤ max 0 (drwF (zF (zF (N 9))) % 10 - 5) ∧ max 0 (drwF (zF (zF (N 9))) % 10 - 5) ≤ 9 := by omega
  unfold skyN
  refine ⟨?_, ?_, ?_⟩
  · exact okT_sky (okT_mid (okT_sky (okT_mid (okT_mid hO (by omega)) (by omega)) (by omega) v0) (by omega)) (by omega) v1
  · exact okS_9 (okS_9 (okS_9 (okS_9 (okS_9 hS (by omega)) (by omega)) (by omega)) (by omega)) (by omega)
  · rw [ur_o (by omega), ur_o (by omega), ur_o (by omega), ur_o (by omega), ur_o (by omega)]; exact hm
theorem skyI_ok : ∀ (n : Nat) {N : Int → Int}, okT N → okS N → N 50 ≤ 999 → okT (skyI N n) ∧ okS (skyI N n) ∧ skyI N n 50 ≤ 999 := by
  intro n
  induction n with
  | zero => intro N h1 h2 h3; exact ⟨h1, h2, h3⟩
  | succ n ih =>
    intro N h1 h2 h3
    obtain ⟨k1, k2, k3⟩ := skyN_ok h1 h2 h3
    exact ih k1 k2 k3
theorem drw_b (z : Int) : 0 ≤ drwF z ∧ drwF z ≤ 16777215 := iu_8 _
/-- a draw of the class, as one place -/
theorem c_drawU (k : K (drwF (h 1 3)) (up h 1 3 (zF (h 1 3)))) : ClI (d + 1) mX2_draw [vr 1] h K := by
  refine c_draw (fun f f0 f1 f2 => ?_)
  have e : f = up h 1 3 (zF (h 1 3)) := by
    funext a j
    by_cases q : a = 1
    · subst q
      by_cases q2 : j = 3
      · subst q2; rw [up_s, f2]; rfl
      · rw [up_k q2, f1 j q2]
    · rw [up_o q, f0 a q]
  rw [e]; exact k
theorem r_sky {n : Int} {N : Int → Int} (hB : RB h N) (hn : -2147483648 ≤ n ∧ n ≤ 2147483647) (k0 : ¬ (1 ≤ n ∧ n ≤ 12) → ∀ e, FD (-1000001) h e → K (-1000001) e) (k1 : (1 ≤ n ∧ n ≤ 12) → ∀ e, (∀ a, a ≠ 109 → e a = h a) → e 109 = skyI N n.toNat → K (sumA (fun j => skyI N n.toNat (32 + j)) 0 0 12) e) : ClI (d + 2) mX8_sky [vr 108, vi n] h K := by
  obtain ⟨e9, h5⟩ := hB
  subst e9
  refine cl_in (al := [vr 108, vi n, .null, .null]) rfl (Nat.le_of_ble_eq_true rfl) (by simp [vi_cat, vr_cat, vs_cat]) ?_
  refine yr_iload_n (pq := 1) rfl dX8_sky_0 rfl ?_
  refine yr_iconst (pq := 2) rfl dX8_sky_1 ?_
  refine yr_bipush (pq := 4) rfl dX8_sky_2 rfl ?_
  refine yr_sI3 (pq := 7) rfl dX8_sky_4 kM_8_78 (by decide) cat0 (m_within hn (by decide) (by decide) (fun q1 => ?_) (fun q1 => ?_))
  · have key : ∀ (c : Nat) (i : Int) (g : hT) (P : Int → Int), 0 ≤ i → i + c = n → (∀ a, a ≠ 109 → g a = h a) → g 109 = P → skyI P c = skyI (h 109) n.toNat → ∀ x, Yr (d + 1) mX8_sky 19 [vr 108, vi n, vi i, x] [] g (rI K) := by
      intro c
      induction c with
      | zero =>
        intro i g P hi hc g0 g1 g2 x
        have g2' : P = skyI (h 109) n.toNat := g2
        refine yr_iload_n (pq := 20) rfl dX8_sky_19 rfl ?_
        refine yr_iload_n (pq := 21) rfl dX8_sky_20 rfl ?_
        refine yr_ic_ge (pq := 24) (t := 73) rfl dX8_sky_21 rfl (by omega) (by omega) (fun _ => ?_) (fun q9 => absurd (by omega) q9)
        refine yr_aload_n (pq := 74) rfl dX8_sky_73 rfl ?_
        refine yr_bipush (pq := 76) rfl dX8_sky_74 rfl ?_
        refine yr_bipush (pq := 78) rfl dX8_sky_76 rfl ?_
        refine yr_vI2 (pq := 81) rfl dX8_sky_78 kM_8_246 (by decide) (by decide) cat0 (m_sum (by decide) (by decide) (by decide) ?_)
        rw [g1, g2']
        exact yr_iret dX8_sky_81 rfl (k1 q1 g g0 (by rw [g1, g2']))
      | succ c ih =>
        intro i g P hi hc g0 g1 gs x
        subst g1
        have d1 := drw_b (g 109 9)
        have d2 := drw_b (zF (g 109 9))
        have d3 := drw_b (zF (zF (g 109 9)))
        refine yr_iload_n (pq := 20) rfl dX8_sky_19 rfl ?_
        refine yr_iload_n (pq := 21) rfl dX8_sky_20 rfl ?_
        refine yr_ic_ge (pq := 24) (t := 73) rfl dX8_sky_21 rfl (by omega) (by omega) (fun q9 => absurd q9 (by omega)) (fun _ => ?_)
        refine yr_aload_n (pq := 25) rfl dX8_sky_24 rfl ?_
        refine yr_bipush (pq := 27) rfl dX8_sky_25 rfl ?_
        refine yr_vI1 (pq := 30) rfl dX8_sky_27 kM_8_243 (by decide) (by decide) cat0 (m_drawn (by decide) (fun g1 u0 u1 => ?_))
        have w1 : g1 109 9 = zF (g 109 9) := by rw [u1, ur_s]; rfl
        refine yr_istore3 (pq := 31) rfl dX8_sky_30 ?_
        refine yr_aload_n (pq := 32) rfl dX8_sky_31 rfl ?_
        refine yr_getR (pq := 35) (b := 109) 0 rfl dX8_sky_32 kF_8_9 (by decide) rfl ?_
        refine yr_bipush (pq := 37) rfl dX8_sky_35 rfl ?_
        refine yr_iload_n (pq := 38) rfl dX8_sky_37 rfl ?_
        refine yr_iadd (pq := 39) rfl dX8_sky_38 ?_
        refine yr_aload_n (pq := 40) rfl dX8_sky_39 rfl ?_
        refine yr_bipush (pq := 42) rfl dX8_sky_40 rfl ?_
        refine yr_vI1 (pq := 45) rfl dX8_sky_42 kM_8_243 (by decide) (by decide) (Nat.le_of_ble_eq_true rfl) (m_drawn (by decide) (fun g2 v0 v1 => ?_))
        have w2 : g2 109 9 = zF (zF (g 109 9)) := by rw [v1, ur_s, w1]; rfl
        rw [w1]
        refine yr_iast (pq := 46) rfl dX8_sky_45 rfl (by decide) (by omega) ?_
        refine yr_aload_n (pq := 47) rfl dX8_sky_46 rfl ?_
        refine yr_getR (pq := 50) (b := 109) 0 rfl dX8_sky_47 kF_8_9 (by decide) rfl ?_
        refine yr_bipush (pq := 52) rfl dX8_sky_50 rfl ?_
        refine yr_iload_n (pq := 53) rfl dX8_sky_52 rfl ?_
        refine yr_iadd (pq := 54) rfl dX8_sky_53 ?_
        refine yr_iconst (pq := 55) rfl dX8_sky_54 ?_
        refine yr_aload_n (pq := 56) rfl dX8_sky_55 rfl ?_
        refine yr_bipush (pq := 58) rfl dX8_sky_56 rfl ?_
        refine yr_vI1 (pq := 61) rfl dX8_sky_58 kM_8_243 (by decide) (by decide) (Nat.le_of_ble_eq_true rfl) (m_drawn (by decide) (fun g3 z0 z1 => ?_))
        rw [up_k (by omega), w2]
        refine yr_iconst (pq := 62) rfl dX8_sky_61 ?_
        refine yr_isub (pq := 63) rfl dX8_sky_62 ?_
        refine yr_sI2 (pq := 66) rfl dX8_sky_63 kM_8_91 (by decide) (Nat.le_of_ble_eq_true rfl) (j_max (by decide) (by omega) ?_)
        refine yr_iast (pq := 67) rfl dX8_sky_66 rfl (by decide) (by omega) ?_
        refine yr_iinc2 (pq := 70) rfl dX8_sky_67 ?_
        refine yr_goto (t := 19) dX8_sky_70 rfl ?_
        have z1' : g3 109 = ur (ur (g2 109) (20 + drwF (g 109 9) % 12) (drwF (zF (g 109 9)) % 10)) 9 (zF (zF (zF (g 109 9)))) := by
          rw [z1, up_row, ur_o (by omega), w2]
          rfl
        have v1' : g2 109 = ur (g1 109) 9 (zF (zF (g 109 9))) := by
          rw [v1, w1]
          rfl
        refine ih _ _ (skyN (g 109)) (by omega) (by omega) (fun a ha => by rw [up_ne ha, z0 a ha, up_ne ha, v0 a ha, u0 a ha]; exact g0 a ha) ?_ gs _
        rw [up_row, z1', v1', u1]
        rfl
    refine yr_if_ne (pq := 10) (t := 17) rfl dX8_sky_7 rfl (by decide) (fun _ => ?_) (fun q9 => absurd q9 (by decide))
    refine yr_iconst (pq := 18) rfl dX8_sky_17 ?_
    refine yr_istore2 (pq := 19) rfl dX8_sky_18 ?_
    exact key n.toNat 0 h (h 109) (by omega) (by omega) (fun _ _ => rfl) rfl rfl _
  · refine yr_if_ne (pq := 10) (t := 17) rfl dX8_sky_7 rfl (by decide) (fun q9 => absurd (by decide) q9) (fun _ => ?_)
    refine yr_aload_n (pq := 11) rfl dX8_sky_10 rfl ?_
    refine yr_ldc (pq := 13) rfl dX8_sky_11 kN_8_73 ?_
    refine yr_vI1 (pq := 16) rfl dX8_sky_13 kM_8_101 (by decide) (by decide) cat0 (r_fnd (by decide) (fun e hf => ?_))
    exact yr_iret dX8_sky_16 rfl (k0 q1 e hf)
theorem s_sky {n : Int} (hI : Inv h) (hn : -2147483648 ≤ n ∧ n ≤ 2147483647) : Sm (d + 30) mX7_sky mX8_sky [vi n] h := by
  have hI0 := hI
  obtain ⟨⟨i1, i2, i3, i3'⟩, -, -, -, -, -, i11⟩ := hI0
  show ClI (d + 30) mX7_sky [vr 0, vi n] h (SKn (d + 30) mX8_sky [vr 108, vi n])
  refine cl_in (al := [vr 0, vi n, .null, .null]) rfl (Nat.le_of_ble_eq_true rfl) (by simp [vi_cat, vr_cat, vs_cat]) ?_
  refine yr_iload_n (pq := 1) rfl dX7_sky_0 rfl ?_
  refine yr_iconst (pq := 2) rfl dX7_sky_1 ?_
  refine yr_bipush (pq := 4) rfl dX7_sky_2 rfl ?_
  refine yr_sI3 (pq := 7) rfl dX7_sky_4 kM_7_62 (by decide) cat0 (c_isIn hn (by decide) (by decide) (fun q1 => ?_) (fun q1 => ?_))
  · obtain ⟨z1, z2, z3⟩ := skyI_ok n.toNat i2 i3 i3'
    have key : ∀ (c : Nat) (i : Int) (g : hT) (P : Int → Int), 0 ≤ i → i + c = n → (∀ a, a ≠ 1 → a ≠ 5 → a ≠ 6 → g a = h a) → RS1 g P → okT P → skyI P c = skyI (h 109) n.toNat → ∀ x, Yr (d + 29) mX7_sky 18 [vr 0, vi n, vi i, x] [] g (rI (SKn (d + 30) mX8_sky [vr 108, vi n])) := by
      intro c
      induction c with
      | zero =>
        intro i g P hi hc g0 g1 gO g2 x
        have g2' : P = skyI (h 109) n.toNat := g2
        refine yr_iload_n (pq := 19) rfl dX7_sky_18 rfl ?_
        refine yr_iload_n (pq := 20) rfl dX7_sky_19 rfl ?_
        refine yr_ic_ge (pq := 23) (t := 90) rfl dX7_sky_20 rfl (by omega) (by omega) (fun _ => ?_) (fun q9 => absurd (by omega) q9)
        refine yr_aload_n (pq := 91) rfl dX7_sky_90 rfl ?_
        refine yr_getR (pq := 94) (b := 1) 0 rfl dX7_sky_91 kF_7_10 (by decide) rfl ?_
        refine yr_getR (pq := 97) (b := 2) 0 rfl dX7_sky_94 kF_7_70 (by decide) rfl ?_
        refine yr_getR (pq := 100) 4 rfl dX7_sky_97 kF_7_132 (tw_c (by decide)) (fr_6_4 (by decide)) ?_
        refine yr_sI1 (pq := 103) rfl dX7_sky_100 kM_7_241 (by decide) cat0 (c_sumOf (L := 12) rfl (by decide) (by decide) ?_)
        refine yr_iret dX7_sky_103 rfl ?_
        refine r_sky (N := h 109) ⟨g0 109 (by decide) (by decide) (by decide), by rw [g0 108 (by decide) (by decide) (by decide)]; exact i11⟩ hn (fun q9 => absurd q1 q9) (fun _ e e0 e1 => ⟨?_, ?_⟩)
        · refine sumA_cong _ _ _ (fun j j0 j1 => ?_)
          rw [← g2']
          exact (g1.1.2.2.2.1 j j0 (by omega)).symm
        · rw [g2'] at g1
          exact Inv_rs hI (fun a ha => g0 a (by omega) (by omega) (by omega)) g1 e0 e1 z1 z2 z3
      | succ c ih =>
        intro i g P hi hc g0 g1 gO g2 x
        have d1 := drw_b (P 9)
        have d2 := drw_b (zF (P 9))
        have d3 := drw_b (zF (zF (P 9)))
        have e9 : g 1 3 = P 9 := g1.2.2.2.2.2.2.2.2
        refine yr_iload_n (pq := 19) rfl dX7_sky_18 rfl ?_
        refine yr_iload_n (pq := 20) rfl dX7_sky_19 rfl ?_
        refine yr_ic_ge (pq := 23) (t := 90) rfl dX7_sky_20 rfl (by omega) (by omega) (fun q9 => absurd q9 (by omega)) (fun _ => ?_)
        refine yr_aload_n (pq := 24) rfl dX7_sky_23 rfl ?_
        refine yr_getR (pq := 27) (b := 1) 0 rfl dX7_sky_24 kF_7_10 (by decide) rfl ?_
        refine yr_vI0 (pq := 30) rfl dX7_sky_27 kM_7_238 (by decide) (by decide) cat0 (c_drawU ?_)
        rw [e9]
        refine yr_bipush (pq := 32) rfl dX7_sky_30 rfl ?_
        refine yr_irem (pq := 33) rfl dX7_sky_32 (by omega) (by omega) ?_
        refine yr_istore3 (pq := 34) rfl dX7_sky_33 ?_
        refine yr_aload_n (pq := 35) rfl dX7_sky_34 rfl ?_
        refine yr_getR (pq := 38) (b := 1) 0 rfl dX7_sky_35 kF_7_10 (by decide) rfl ?_
        refine yr_getR (pq := 41) (b := 2) 0 rfl dX7_sky_38 kF_7_70 (by decide) rfl ?_
        refine yr_getR (pq := 44) 3 rfl dX7_sky_41 kF_7_129 (tw_c (by decide)) (fr_6_3 (by decide)) ?_
        refine yr_iload_n (pq := 45) rfl dX7_sky_44 rfl ?_
        refine yr_aload_n (pq := 46) rfl dX7_sky_45 rfl ?_
        refine yr_getR (pq := 49) (b := 1) 0 rfl dX7_sky_46 kF_7_10 (by decide) rfl ?_
        refine yr_vI0 (pq := 52) rfl dX7_sky_49 kM_7_238 (by decide) (by decide) (Nat.le_of_ble_eq_true rfl) (c_drawU ?_)
        rw [up_s]
        refine yr_bipush (pq := 54) rfl dX7_sky_52 rfl ?_
        refine yr_irem (pq := 55) rfl dX7_sky_54 (by omega) (by omega) ?_
        refine yr_iast (pq := 56) rfl dX7_sky_55 (tw_k3 (by decide)) (tw_n (by decide) 3 (by decide)) (by omega) ?_
        refine yr_aload_n (pq := 57) rfl dX7_sky_56 rfl ?_
        refine yr_getR (pq := 60) (b := 1) 0 rfl dX7_sky_57 kF_7_10 (by decide) rfl ?_
        refine yr_getR (pq := 63) (b := 2) 0 rfl dX7_sky_60 kF_7_70 (by decide) rfl ?_
        refine yr_getR (pq := 66) 4 rfl dX7_sky_63 kF_7_132 (tw_c (by decide)) (fr_6_4 (by decide)) ?_
        refine yr_iload_n (pq := 67) rfl dX7_sky_66 rfl ?_
        refine yr_iconst (pq := 68) rfl dX7_sky_67 ?_
        refine yr_aload_n (pq := 69) rfl dX7_sky_68 rfl ?_
        refine yr_getR (pq := 72) (b := 1) 0 rfl dX7_sky_69 kF_7_10 (by decide) rfl ?_
        refine yr_vI0 (pq := 75) rfl dX7_sky_72 kM_7_238 (by decide) (by decide) (Nat.le_of_ble_eq_true rfl) (c_drawU ?_)
        rw [show (2 : Int) + 3 = 5 from rfl, up_ne (show (1 : Int) ≠ 5 by decide), up_s]
        refine yr_bipush (pq := 77) rfl dX7_sky_75 rfl ?_
        refine yr_irem (pq := 78) rfl dX7_sky_77 (by omega) (by omega) ?_
        refine yr_iconst (pq := 79) rfl dX7_sky_78 ?_
        refine yr_isub (pq := 80) rfl dX7_sky_79 ?_
        refine yr_sI2 (pq := 83) rfl dX7_sky_80 kM_7_106 (by decide) (Nat.le_of_ble_eq_true rfl) (j_max (by decide) (by omega) ?_)
        refine yr_iast (pq := 84) rfl dX7_sky_83 (tw_k4 (by decide)) (tw_n (by decide) 4 (by decide)) (by omega) ?_
        refine yr_iinc2 (pq := 87) rfl dX7_sky_84 ?_
        refine yr_goto (t := 18) dX7_sky_87 rfl ?_
        rw [show (2 : Int) + 4 = 6 from rfl]
        have i0 : 0 ≤ drwF (P 9) % 12 ∧ drwF (P 9) % 12 < 12 := by omega
        have v0 : 0 ≤ drwF (zF (P 9)) % 10 ∧ drwF (zF (P 9)) % 10 ≤ 9 := by omega
        have v1 : 0 ≤ max 0 (drwF (zF (zF (P 9))) % 10 - 5) ∧ max 0 (drwF (zF (zF (P 9))) % 10 - 5) ≤ 9 := by omega
        have O1 : okT (ur P 9 (zF (P 9))) := okT_mid gO (by omega)
        have O2 : okT (ur (ur P 9 (zF (P 9))) 9 (zF (zF (P 9)))) := okT_mid O1 (by omega)
        have O3 := okT_sky (r := 20 + drwF (P 9) % 12) O2 (by omega) v0
        have O4 := okT_mid (r := 9) (v := zF (zF (zF (P 9)))) O3 (by omega)
        have O5 := okT_sky (r := 32 + drwF (P 9) % 12) O4 (by omega) v1
        have R1 := RS1_up (A := 1) (j := 3) (r := 9) (z := zF (P 9)) g1 gO (by unfold PL; omega)
        have R2 := RS1_up (A := 1) (j := 3) (r := 9) (z := zF (zF (P 9))) R1 O1 (by unfold PL; omega)
        have R3 := RS1_up (A := 5) (j := drwF (P 9) % 12) (r := 20 + drwF (P 9) % 12) (z := drwF (zF (P 9)) % 10) R2 O2 (by unfold PL; omega)
        have R4 := RS1_up (A := 1) (j := 3) (r := 9) (z := zF (zF (zF (P 9)))) R3 O3 (by unfold PL; omega)
        have R5 := RS1_up (A := 6) (j := drwF (P 9) % 12) (r := 32 + drwF (P 9) % 12) (z := max 0 (drwF (zF (zF (P 9))) % 10 - 5)) R4 O4 (by unfold PL; omega)
        exact ih _ _ (skyN P) (by omega) (by omega) (fun a q1 q2 q3 => by rw [up_ne q3, up_ne q1, up_ne q2, up_ne q1, up_ne q1]; exact g0 a q1 q2 q3) R5 O5 g2 _
    refine yr_if_ne (pq := 10) (t := 16) rfl dX7_sky_7 rfl (by decide) (fun _ => ?_) (fun q9 => absurd q9 (by decide))
    refine yr_iconst (pq := 17) rfl dX7_sky_16 ?_
    refine yr_istore2 (pq := 18) rfl dX7_sky_17 ?_
    exact key n.toNat 0 h (h 109) (by omega) (by omega) (fun _ _ _ _ => rfl) i1 i2 rfl _
  · refine yr_if_ne (pq := 10) (t := 16) rfl dX7_sky_7 rfl (by decide) (fun q9 => absurd (by decide) q9) (fun _ => ?_)
    refine yr_aload_n (pq := 11) rfl dX7_sky_10 rfl ?_
    refine yr_iconst (pq := 12) rfl dX7_sky_11 ?_
    refine yr_vI1 (pq := 15) rfl dX7_sky_12 kM_7_66 (by decide) (by decide) cat0 (c_finding (by decide) ?_)
    exact yr_iret dX7_sky_15 rfl (r_sky (rb_u hI (by decide) (by decide)) hn (fun _ e hf => fd_end hI (by decide) (by decide) hf) (fun q9 => absurd q9 q1))
end S24
