/-! needed, kindFor -/
theorem io_b (a b : Int) : -2147483648 ≤ io a b ∧ io a b ≤ 2147483647 := by
  unfold io
  have h1 := Int32.le_toInt (Int32.ofInt a ||| Int32.ofInt b)
  have h2 := Int32.toInt_lt (Int32.ofInt a ||| Int32.ofInt b)
  omega
theorem io_z {a : Int} (ha : -2147483648 ≤ a ∧ a ≤ 2147483647) : io a 0 = a := by
  unfold io
  have e : Int32.ofInt a ||| Int32.ofInt 0 = Int32.ofInt a := by
    rw [show Int32.ofInt 0 = 0 from rfl]
    exact Int32.or_zero
  rw [e, z_of ha]
/-- the streets without which there is no round -/
def ndF (N : Int → Int) (k acc : Int) : Nat → Int
  | 0 => acc
  | n + 1 => ndF N (k + 1) (if (fndF (-1) k N).1 = 0 then io acc (il 1 k) else acc) n
section S29
variable {d : Nat} {h : hT} {K : Int → hT → Prop}
theorem r_needed {N : Int → Int} (hB : RB h N) (hO : okT N) (hS : okS N) (hl : N 50 ≤ 999) (k0 : 700 < N 50 → ∀ e, FD (-1000005) h e → K (-1000005) e)
    (k1 : N 50 ≤ 700 → (fndF (-1) (-1) N).1 = 0 → ∀ e e', RF h e → FD (-1000004) e e' → K (-1000004) e') (k2 : N 50 ≤ 700 → (fndF (-1) (-1) N).1 ≠ 0 → ∀ e, RF h e → K (ndF N 0 0 (N 8).toNat) e) : ClI (d + 8 + 9) mX8_needed [vr 108] h K := by
  obtain ⟨e9, h5⟩ := hB
  subst e9
  have a3 := hS.2.2.1
  have h8 := hO.1
  have ia := fnd_ia (g := -1) (w := -1) hS
  unfold IA at ia
  refine cl_in (al := [vr 108, .null, .null]) rfl (Nat.le_of_ble_eq_true rfl) (by simp [vi_cat, vr_cat, vs_cat]) ?_
  refine yr_aload_n (pq := 1) rfl dX8_needed_0 rfl ?_
  refine yr_vI0 (pq := 4) rfl dX8_needed_1 kM_8_201 (by decide) (by decide) cat0 (m_isLate (by omega) (fun q1 => ?_) (fun q1 => ?_))
  · refine yr_if_eq (pq := 7) (t := 14) rfl dX8_needed_4 rfl (by decide) (fun q9 => absurd q9 (by decide)) (fun _ => ?_)
    refine yr_aload_n (pq := 8) rfl dX8_needed_7 rfl ?_
    refine yr_ldc (pq := 10) rfl dX8_needed_8 kN_8_159 ?_
    refine yr_vI1 (pq := 13) rfl dX8_needed_10 kM_8_101 (by decide) (by decide) cat0 (r_fnd (by decide) (fun e hf => ?_))
    exact yr_iret dX8_needed_13 rfl (k0 q1 e hf)
  · have key : ∀ (c : Nat) (n acc : Int) (g : hT), 0 ≤ n → n + c = h 109 8 → (∀ a, a ≠ 108 → a ≠ 113 → a ≠ 114 → a ≠ 115 → g a = h a) → (∀ j, (j < 9 ∨ 14 < j) → j ≠ 5 → g 108 j = h 108 j) → (-2147483648 ≤ acc ∧ acc ≤ 2147483647) → ndF (h 109) n acc c = ndF (h 109) 0 0 (h 109 8).toNat → (fndF (-1) (-1) (h 109)).1 ≠ 0 → Yr (d + 8 + 8) mX8_needed 32 [vr 108, vi acc, vi n] [] g (rI K) := by
      intro c
      induction c with
      | zero =>
        intro n acc g hn hc g0 g1 ha hb q2
        have hb' : acc = ndF (h 109) 0 0 (h 109 8).toNat := hb
        have g9 : g 109 = h 109 := g0 109 (by decide) (by decide) (by decide) (by decide)
        have rf : RF h (up g 108 5 (-1)) := by
          refine ⟨fun a q1 q2 q3 q4 => by rw [up_ne q1]; exact g0 a q1 q2 q3 q4, fun j hj => ?_⟩
          by_cases e : j = 5
          · subst e; rw [up_s]; exact h5.symm
          · rw [up_k e]; exact g1 j hj e
        refine yr_iload_n (pq := 33) rfl dX8_needed_32 rfl ?_
        refine yr_aload_n (pq := 34) rfl dX8_needed_33 rfl ?_
        refine yr_getR (pq := 37) (b := 109) 0 rfl dX8_needed_34 kF_8_9 (by decide) rfl ?_
        refine yr_bipush (pq := 39) rfl dX8_needed_37 rfl ?_
        refine yr_iald (pq := 40) rfl dX8_needed_39 rfl (by decide) (by omega) ?_
        rw [g9]
        refine yr_ic_ge (pq := 43) (t := 71) rfl dX8_needed_40 rfl (by omega) (by omega) (fun _ => ?_) (fun q9 => absurd (by omega) q9)
        refine yr_aload_n (pq := 72) rfl dX8_needed_71 rfl ?_
        refine yr_iconst (pq := 73) rfl dX8_needed_72 ?_
        refine yr_putI (pq := 76) 5 rfl dX8_needed_73 kF_8_22 (by decide) rfl rfl (by decide) ?_
        refine yr_iload_n (pq := 77) rfl dX8_needed_76 rfl ?_
        rw [hb']
        exact yr_iret dX8_needed_77 rfl (k2 q1 q2 _ rf)
      | succ c ih =>
        intro n acc g hn hc g0 g1 ha hb q2
        have g9 : g 109 = h 109 := g0 109 (by decide) (by decide) (by decide) (by decide)
        have f9 : up g 108 5 n 109 = h 109 := by rw [up_ne (by decide)]; exact g9
        have ian := fnd_ia (g := -1) (w := n) hS
        unfold IA at ian
        rw [ndF] at hb
        refine yr_iload_n (pq := 33) rfl dX8_needed_32 rfl ?_
        refine yr_aload_n (pq := 34) rfl dX8_needed_33 rfl ?_
        refine yr_getR (pq := 37) (b := 109) 0 rfl dX8_needed_34 kF_8_9 (by decide) rfl ?_
        refine yr_bipush (pq := 39) rfl dX8_needed_37 rfl ?_
        refine yr_iald (pq := 40) rfl dX8_needed_39 rfl (by decide) (by omega) ?_
        rw [g9]
        refine yr_ic_ge (pq := 43) (t := 71) rfl dX8_needed_40 rfl (by omega) (by omega) (fun q9 => absurd q9 (by omega)) (fun _ => ?_)
        refine yr_aload_n (pq := 44) rfl dX8_needed_43 rfl ?_
        refine yr_iload_n (pq := 45) rfl dX8_needed_44 rfl ?_
        refine yr_putI (pq := 48) 5 rfl dX8_needed_45 kF_8_22 (by decide) rfl rfl (by decide) ?_
        refine yr_iload_n (pq := 49) rfl dX8_needed_48 rfl ?_
        refine yr_aload_n (pq := 50) rfl dX8_needed_49 rfl ?_
        refine yr_vI0 (pq := 53) rfl dX8_needed_50 kM_8_220 (by decide) (by decide) (Nat.le_of_ble_eq_true rfl) (m_bestRound (w := n) (by rw [f9]; exact hO) (by rw [f9]; exact hS) (up_s _ _ _ _) (by omega) (by rw [f9]; exact hl) (fun f r0 r1 => ?_))
        rw [f9] at r1 ⊢
        have lb := fnd_ok r1.2.2.2.2.2
        have w0 : ∀ a, a ≠ 108 → a ≠ 113 → a ≠ 114 → a ≠ 115 → f a = h a := fun a q1 q3 q4 q5 => by
          by_cases q : a = 109
          · subst q; rw [r0.2.1, f9]
          · rw [r0.1 a q1 q q3 q4 q5, up_ne q1]; exact g0 a q1 q3 q4 q5
        have w1 : ∀ j, (j < 9 ∨ 14 < j) → j ≠ 5 → f 108 j = h 108 j := fun j hj j5 => by rw [r0.2.2.1 j (by omega) (by omega) (by omega) (by omega), up_k j5]; exact g1 j hj j5
        refine yr_if_ge (pq := 56) (t := 62) rfl dX8_needed_53 rfl (by omega) (fun q3 => ?_) (fun q3 => ?_)
        · rw [if_neg (by omega)] at hb
          refine yr_iconst (pq := 63) rfl dX8_needed_62 ?_
          refine yr_ior (pq := 64) rfl dX8_needed_63 ?_
          refine yr_istore1 (pq := 65) rfl dX8_needed_64 ?_
          refine yr_iinc2 (pq := 68) rfl dX8_needed_65 ?_
          refine yr_goto (t := 32) dX8_needed_68 rfl ?_
          rw [io_z ha]
          exact ih _ _ f (by omega) (by omega) w0 w1 ha hb q2
        · rw [if_pos (by omega)] at hb
          refine yr_iconst (pq := 57) rfl dX8_needed_56 ?_
          refine yr_iload_n (pq := 58) rfl dX8_needed_57 rfl ?_
          refine yr_ishl (pq := 59) rfl dX8_needed_58 ?_
          refine yr_goto (t := 63) dX8_needed_59 rfl ?_
          refine yr_ior (pq := 64) rfl dX8_needed_63 ?_
          refine yr_istore1 (pq := 65) rfl dX8_needed_64 ?_
          refine yr_iinc2 (pq := 68) rfl dX8_needed_65 ?_
          refine yr_goto (t := 32) dX8_needed_68 rfl ?_
          exact ih _ _ f (by omega) (by omega) w0 w1 (io_b _ _) hb q2
    refine yr_if_eq (pq := 7) (t := 14) rfl dX8_needed_4 rfl (by decide) (fun _ => ?_) (fun q9 => absurd (by decide) q9)
    refine yr_aload_n (pq := 15) rfl dX8_needed_14 rfl ?_
    refine yr_vI0 (pq := 18) rfl dX8_needed_15 kM_8_220 (by decide) (by decide) cat0 (m_bestRound (w := -1) hO hS h5 (by decide) hl (fun f r0 r1 => ?_))
    have lb := fnd_ok r1.2.2.2.2.2
    have w0 : ∀ a, a ≠ 108 → a ≠ 113 → a ≠ 114 → a ≠ 115 → f a = h a := fun a q1 q3 q4 q5 => by
      by_cases q : a = 109
      · subst q; rw [r0.2.1]
      · rw [r0.1 a q1 q q3 q4 q5]
    have w1 : ∀ j, (j < 9 ∨ 14 < j) → f 108 j = h 108 j := fun j hj => by rw [r0.2.2.1 j (by omega) (by omega) (by omega) (by omega)]
    refine yr_if_ge (pq := 21) (t := 28) rfl dX8_needed_18 rfl (by omega) (fun q2 => ?_) (fun q2 => ?_)
    · refine yr_iconst (pq := 29) rfl dX8_needed_28 ?_
      refine yr_istore1 (pq := 30) rfl dX8_needed_29 ?_
      refine yr_iconst (pq := 31) rfl dX8_needed_30 ?_
      refine yr_istore2 (pq := 32) rfl dX8_needed_31 ?_
      exact key (h 109 8).toNat 0 0 f (by omega) (by omega) w0 (fun j hj _ => w1 j hj) (by decide) rfl (by omega)
    · refine yr_aload_n (pq := 22) rfl dX8_needed_21 rfl ?_
      refine yr_ldc (pq := 24) rfl dX8_needed_22 kN_8_144 ?_
      refine yr_vI1 (pq := 27) rfl dX8_needed_24 kM_8_101 (by decide) (by decide) cat0 (r_fnd (by decide) (fun e hf => ?_))
      exact yr_iret dX8_needed_27 rfl (k1 q1 (by omega) f e ⟨w0, w1⟩ hf)
theorem s_needed (hI : Inv h) : Sm (d + 30) mX7_needed mX8_needed [] h := by
  have hI0 := hI
  obtain ⟨⟨i1, i2, i3, i3'⟩, -, -, -, -, -, i11⟩ := hI0
  have h8 := i2.1
  have hm := i3.2.2.1
  have ia := fnd_ia (g := -1) (w := -1) i3
  have hn := fndF_n (-1) (-1) (h 109)
  unfold IA at ia
  show ClI (d + 30) mX7_needed [vr 0] h (SKn (d + 30) mX8_needed [vr 108])
  refine cl_in (al := [vr 0, .null, .null]) rfl (Nat.le_of_ble_eq_true rfl) (by simp [vi_cat, vr_cat, vs_cat]) ?_
  refine yr_aload_n (pq := 1) rfl dX7_needed_0 rfl ?_
  refine yr_vI0 (pq := 4) rfl dX7_needed_1 kM_7_212 (by decide) (by decide) cat0 (c_isPast i1 i3 (fun q1 => ?_) (fun q1 => ?_))
  · refine yr_if_eq (pq := 7) (t := 13) rfl dX7_needed_4 rfl (by decide) (fun q9 => absurd q9 (by decide)) (fun _ => ?_)
    refine yr_aload_n (pq := 8) rfl dX7_needed_7 rfl ?_
    refine yr_iconst (pq := 9) rfl dX7_needed_8 ?_
    refine yr_vI1 (pq := 12) rfl dX7_needed_9 kM_7_66 (by decide) (by decide) cat0 (c_finding (by decide) ?_)
    exact yr_iret dX7_needed_12 rfl (r_needed (rb_u hI (by decide) (by decide)) i2 i3 i3' (fun _ e hf => fd_end hI (by decide) (by decide) hf) (fun q9 => absurd q9 (by omega)) (fun q9 => absurd q9 (by omega)))
  · have key : ∀ (c : Nat) (n acc : Int) (g : hT), 0 ≤ n → n + c = h 109 8 → (∀ a, a < 69 ∨ 75 < a → g a = h a) → (fndF (-1) (-1) (h 109)).1 ≠ 0 → ndF (h 109) n acc c = ndF (h 109) 0 0 (h 109 8).toNat → Yr (d + 29) mX7_needed 55 [vr 0, vi acc, vi n] [] g (rI (SKn (d + 30) mX8_needed [vr 108])) := by
      intro c
      induction c with
      | zero =>
        intro n acc g hn hc g0 q2 hb
        have hb' : acc = ndF (h 109) 0 0 (h 109 8).toNat := hb
        refine yr_iload_n (pq := 56) rfl dX7_needed_55 rfl ?_
        refine yr_aload_n (pq := 57) rfl dX7_needed_56 rfl ?_
        refine yr_getR (pq := 60) (b := 1) 0 rfl dX7_needed_57 kF_7_10 (by decide) rfl ?_
        refine yr_getR (pq := 63) (b := 2) 0 rfl dX7_needed_60 kF_7_70 (by decide) rfl ?_
        refine yr_getI (pq := 66) 1 rfl dX7_needed_63 kF_7_231 (by decide) rfl (tw_c (by decide)) ?_
        rw [g0 2 (by decide), i1.1.1]
        refine yr_ic_ge (pq := 69) (t := 113) rfl dX7_needed_66 rfl (by omega) (by omega) (fun _ => ?_) (fun q9 => absurd (by omega) q9)
        refine yr_iload_n (pq := 114) rfl dX7_needed_113 rfl ?_
        refine yr_iret dX7_needed_114 rfl ?_
        exact r_needed (N := h 109) ⟨g0 109 (by decide), by rw [g0 108 (by decide)]; exact i11⟩ i2 i3 i3' (fun q9 => absurd q9 (by omega)) (fun _ q9 => absurd q9 q2) (fun _ _ e rf => ⟨hb'.symm, Inv_rf hI (fun a ha => g0 a (by have := cr_lo ha; omega)) (g0 108 (by decide)) rf⟩)
      | succ c ih =>
        intro n acc g hn hc g0 q2 hb
        have fn := fndF_n (-1) n (h 109)
        have gR : RT g 2 (h 109) := RT_cong i1.1 i2 (fun j j0 j1 j2 => g0 _ (by omega))
        rw [ndF] at hb
        refine yr_iload_n (pq := 56) rfl dX7_needed_55 rfl ?_
        refine yr_aload_n (pq := 57) rfl dX7_needed_56 rfl ?_
        refine yr_getR (pq := 60) (b := 1) 0 rfl dX7_needed_57 kF_7_10 (by decide) rfl ?_
        refine yr_getR (pq := 63) (b := 2) 0 rfl dX7_needed_60 kF_7_70 (by decide) rfl ?_
        refine yr_getI (pq := 66) 1 rfl dX7_needed_63 kF_7_231 (by decide) rfl (tw_c (by decide)) ?_
        rw [g0 2 (by decide), i1.1.1]
        refine yr_ic_ge (pq := 69) (t := 113) rfl dX7_needed_66 rfl (by omega) (by omega) (fun q9 => absurd q9 (by omega)) (fun _ => ?_)
        refine yr_aload_n (pq := 70) rfl dX7_needed_69 rfl ?_
        refine yr_aload_n (pq := 71) rfl dX7_needed_70 rfl ?_
        refine yr_getR (pq := 74) (b := 1) 0 rfl dX7_needed_71 kF_7_10 (by decide) rfl ?_
        refine yr_getR (pq := 77) (b := 2) 0 rfl dX7_needed_74 kF_7_70 (by decide) rfl ?_
        refine yr_aload_n (pq := 78) rfl dX7_needed_77 rfl ?_
        refine yr_getR (pq := 81) (b := 1) 0 rfl dX7_needed_78 kF_7_10 (by decide) rfl ?_
        refine yr_getR (pq := 84) (b := 22) 1 rfl dX7_needed_81 kF_7_135 (by decide) rfl ?_
        refine yr_getI (pq := 87) 1 rfl dX7_needed_84 kF_7_139 (by decide) rfl (by decide) ?_
        refine yr_iload_n (pq := 88) rfl dX7_needed_87 rfl ?_
        rw [g0 22 (by decide), i1.2.2.1]
        refine yr_vV3 (pq := 91) rfl dX7_needed_88 kM_7_215 (by decide) (by decide) cat0 (c_seekRounds (N := h 109) (T := 2) (w := n) (by decide) gR i2 i3 rfl (by rw [g0 23 (by decide)]; exact i1.2.1) (by rw [g0 22 (by decide)]; exact i1.2.2.2.1) (by rw [g0 22 (by decide)]; exact i1.2.2.2.2.1) (by rw [g0 22 (by decide)]; exact i1.2.2.2.2.2.1) (by omega) i3' (fun f f0 f2 => ?_))
        have fz := f2.2.2.2.2.2.2.2
        have fs : ∀ a, a < 69 ∨ 75 < a → f a = h a := fun a ha => by rw [f0 a ha]; exact g0 a ha
        refine yr_aload_n (pq := 92) rfl dX7_needed_91 rfl ?_
        refine yr_getR (pq := 95) (b := 69) 4 rfl dX7_needed_92 kF_7_33 (by decide) rfl ?_
        refine yr_getI (pq := 98) 12 rfl dX7_needed_95 kF_7_209 (by decide) rfl (by decide) ?_
        rw [f2.1]
        refine yr_if_ne (pq := 101) (t := 107) rfl dX7_needed_98 rfl (by omega) (fun q3 => ?_) (fun q3 => ?_)
        · rw [if_neg q3] at hb
          refine yr_iinc2 (pq := 110) rfl dX7_needed_107 ?_
          refine yr_goto (t := 55) dX7_needed_110 rfl ?_
          exact ih _ _ f (by omega) (by omega) fs q2 hb
        · rw [if_pos (by omega)] at hb
          refine yr_iload_n (pq := 102) rfl dX7_needed_101 rfl ?_
          refine yr_iconst (pq := 103) rfl dX7_needed_102 ?_
          refine yr_iload_n (pq := 104) rfl dX7_needed_103 rfl ?_
          refine yr_ishl (pq := 105) rfl dX7_needed_104 ?_
          refine yr_ior (pq := 106) rfl dX7_needed_105 ?_
          refine yr_istore1 (pq := 107) rfl dX7_needed_106 ?_
          refine yr_iinc2 (pq := 110) rfl dX7_needed_107 ?_
          refine yr_goto (t := 55) dX7_needed_110 rfl ?_
          exact ih _ _ f (by omega) (by omega) fs q2 hb
    refine yr_if_eq (pq := 7) (t := 13) rfl dX7_needed_4 rfl (by decide) (fun _ => ?_) (fun q9 => absurd (by decide) q9)
    refine yr_aload_n (pq := 14) rfl dX7_needed_13 rfl ?_
    refine yr_aload_n (pq := 15) rfl dX7_needed_14 rfl ?_
    refine yr_getR (pq := 18) (b := 1) 0 rfl dX7_needed_15 kF_7_10 (by decide) rfl ?_
    refine yr_getR (pq := 21) (b := 2) 0 rfl dX7_needed_18 kF_7_70 (by decide) rfl ?_
    refine yr_aload_n (pq := 22) rfl dX7_needed_21 rfl ?_
    refine yr_getR (pq := 25) (b := 1) 0 rfl dX7_needed_22 kF_7_10 (by decide) rfl ?_
    refine yr_getR (pq := 28) (b := 22) 1 rfl dX7_needed_25 kF_7_135 (by decide) rfl ?_
    refine yr_getI (pq := 31) 1 rfl dX7_needed_28 kF_7_139 (by decide) rfl (by decide) ?_
    refine yr_iconst (pq := 32) rfl dX7_needed_31 ?_
    rw [i1.2.2.1]
    refine yr_vV3 (pq := 35) rfl dX7_needed_32 kM_7_215 (by decide) (by decide) cat0 (c_seekRounds (N := h 109) (T := 2) (w := -1) (by decide) i1.1 i2 i3 rfl i1.2.1 i1.2.2.2.1 i1.2.2.2.2.1 i1.2.2.2.2.2.1 (by decide) i3' (fun f f0 f2 => ?_))
    have fz := f2.2.2.2.2.2.2.2
    refine yr_aload_n (pq := 36) rfl dX7_needed_35 rfl ?_
    refine yr_getR (pq := 39) (b := 69) 4 rfl dX7_needed_36 kF_7_33 (by decide) rfl ?_
    refine yr_getI (pq := 42) 12 rfl dX7_needed_39 kF_7_209 (by decide) rfl (by decide) ?_
    rw [f2.1]
    refine yr_if_ne (pq := 45) (t := 51) rfl dX7_needed_42 rfl (by omega) (fun q2 => ?_) (fun q2 => ?_)
    · refine yr_iconst (pq := 52) rfl dX7_needed_51 ?_
      refine yr_istore1 (pq := 53) rfl dX7_needed_52 ?_
      refine yr_iconst (pq := 54) rfl dX7_needed_53 ?_
      refine yr_istore2 (pq := 55) rfl dX7_needed_54 ?_
      exact key (h 109 8).toNat 0 0 f (by omega) (by omega) f0 q2 rfl
    · refine yr_aload_n (pq := 46) rfl dX7_needed_45 rfl ?_
      refine yr_iconst (pq := 47) rfl dX7_needed_46 ?_
      refine yr_vI1 (pq := 50) rfl dX7_needed_47 kM_7_66 (by decide) (by decide) cat0 (c_finding (by decide) ?_)
      refine yr_iret dX7_needed_50 rfl ?_
      exact r_needed (N := h 109) ⟨by rw [up_ne (by decide)]; exact f0 109 (by decide), by rw [up_ne (by decide), f0 108 (by decide)]; exact i11⟩ i2 i3 i3' (fun q9 => absurd q9 (by omega)) (fun _ _ e e' rf hf => rf_find hI (by decide) (by decide) (fun a ha => f0 a (by have := cr_lo ha; omega)) (f0 108 (by decide)) rf hf) (fun _ q9 => absurd (by omega) q9)
/-- what is left behind the street s, were it of the kind k -/
def kfF (N : Int → Int) (s : Int) : Int → Int := fun k => totF N - min (totF N) (sumM (lossF (ur N (53 + 5 * s + 0) k) (N 44) s) (N 50) (takesF (ur N (53 + 5 * s + 0) k) s).toNat)
theorem kfF_b {N : Int → Int} {s k : Int} (hO : okT N) (hS : okS N) (s0 : 0 ≤ s) (s1 : s < N 8) (hk : 0 ≤ k ∧ k ≤ 6) : 0 ≤ kfF N s k ∧ kfF N s k ≤ 99999 ∧ kfF N s k ≤ totF N := by
  obtain ⟨a1, a2, a3, a4, a5, a6⟩ := hS
  have o := okT_chg (j := 0) (v := k) hO s0 s1 (by omega)
  have b := sumM_b (f := lossF (ur N (53 + 5 * s + 0) k) (N 44) s) (B := 117) (fun i i0 i1 => lossF_b o i0 i1) (takesF (ur N (53 + 5 * s + 0) k) s).toNat (N 50) a3.1
  unfold kfF totF
  omega
theorem r_kindFor {s : Int} {N : Int → Int} (hB : RB h N) (hO : okT N) (hS : okS N) (hl : N 50 ≤ 999) (hs : -2147483648 ≤ s ∧ s ≤ 2147483647) (k0 : ¬ (0 ≤ s ∧ s < N 8) → ∀ e, FD (-1000001) h e → K (-1000001) e)
    (k1 : (0 ≤ s ∧ s < N 8) → ∀ e, RF h e → K (bsF nosk (kfF N s) 0 7 (-1, -1)).1 e) : ClI (d + 6) mX8_kindFor [vr 108, vi s] h K := by
  obtain ⟨e9, h5⟩ := hB
  subst e9
  have a3 := hS.2.2.1
  have h8 := hO.1
  refine cl_in (al := [vr 108, vi s, .null, .null]) rfl (Nat.le_of_ble_eq_true rfl) (by simp [vi_cat, vr_cat, vs_cat]) ?_
  refine yr_aload_n (pq := 1) rfl dX8_kindFor_0 rfl ?_
  refine yr_iload_n (pq := 2) rfl dX8_kindFor_1 rfl ?_
  refine yr_vI1 (pq := 5) rfl dX8_kindFor_2 kM_8_123 (by decide) (by decide) cat0 (m_isStreet hs h8 (fun q1 => ?_) (fun q1 => ?_))
  · have key : ∀ (c : Nat) (n x : Int) (p : Int × Int) (g : hT), 0 ≤ n → n + c = 7 → (∀ a, a ≠ 108 → a ≠ 109 → g a = h a) → (∀ j, (j < 9 ∨ 14 < j) → g 108 j = h 108 j) → g 109 = ur (h 109) (53 + 5 * s + 0) x → g 108 13 = p.1 → g 108 14 = p.2 → ((-1 ≤ p.1 ∧ p.1 ≤ 60) ∧ (-1 ≤ p.2 ∧ p.2 ≤ 99999)) → bsF nosk (kfF (h 109) s) n c p = bsF nosk (kfF (h 109) s) 0 7 (-1, -1) → Yr (d + 5) mX8_kindFor 28 [vr 108, vi s, vi (h 109 (53 + 5 * s + 0)), vi n] [] g (rI K) := by
      intro c
      induction c with
      | zero =>
        intro n x p g hn hc g0 g1 g2 g3 g4 hp hb
        have hb' : p = bsF nosk (kfF (h 109) s) 0 7 (-1, -1) := hb
        have rf : RF h (up g 109 (53 + 5 * s + 0) (h 109 (53 + 5 * s + 0))) := by
          refine ⟨fun a q1 q2 q3 q4 => ?_, fun j hj => by rw [up_ne (by decide)]; exact g1 j hj⟩
          by_cases q : a = 109
          · subst q; rw [up_row, g2, ur_ur, ur_id]
          · rw [up_ne q]; exact g0 a q1 q
        refine yr_iload_n (pq := 29) rfl dX8_kindFor_28 rfl ?_
        refine yr_bipush (pq := 31) rfl dX8_kindFor_29 rfl ?_
        refine yr_ic_gt (pq := 34) (t := 73) rfl dX8_kindFor_31 rfl (by omega) (by omega) (fun _ => ?_) (fun q9 => absurd (by omega) q9)
        refine yr_aload_n (pq := 74) rfl dX8_kindFor_73 rfl ?_
        refine yr_getR (pq := 77) (b := 109) 0 rfl dX8_kindFor_74 kF_8_9 (by decide) rfl ?_
        refine yr_iload_n (pq := 78) rfl dX8_kindFor_77 rfl ?_
        refine yr_iconst (pq := 79) rfl dX8_kindFor_78 ?_
        refine yr_sI2 (pq := 82) rfl dX8_kindFor_79 kM_8_82 (by decide) (Nat.le_of_ble_eq_true rfl) (m_at ?_)
        refine yr_iload_n (pq := 83) rfl dX8_kindFor_82 rfl ?_
        refine yr_iast (pq := 84) rfl dX8_kindFor_83 rfl (by decide) (by omega) ?_
        refine yr_aload_n (pq := 85) rfl dX8_kindFor_84 rfl ?_
        refine yr_getI (pq := 88) 13 rfl dX8_kindFor_85 kF_8_226 (by decide) rfl (by decide) ?_
        rw [up_ne (show (108 : Int) ≠ 109 by decide), g3, hb']
        exact yr_iret dX8_kindFor_88 rfl (k1 q1 _ rf)
      | succ c ih =>
        intro n x p g hn hc g0 g1 g2 g3 g4 hp hb
        have f9 : up g 109 (53 + 5 * s + 0) n 109 = ur (h 109) (53 + 5 * s + 0) n := by rw [up_row, g2, ur_ur]
        have eo : ∀ j, j ≠ 53 + 5 * s + 0 → ur (h 109) (53 + 5 * s + 0) n j = h 109 j := fun j q => ur_o q
        have lb := kfF_b (k := n) hO hS q1.1 q1.2 (by omega)
        have et : totF (ur (h 109) (53 + 5 * s + 0) n) = totF (h 109) := by unfold totF; rw [eo 45 (by omega), eo 46 (by omega), eo 47 (by omega), eo 48 (by omega)]
        refine yr_iload_n (pq := 29) rfl dX8_kindFor_28 rfl ?_
        refine yr_bipush (pq := 31) rfl dX8_kindFor_29 rfl ?_
        refine yr_ic_gt (pq := 34) (t := 73) rfl dX8_kindFor_31 rfl (by omega) (by omega) (fun q9 => absurd q9 (by omega)) (fun _ => ?_)
        refine yr_aload_n (pq := 35) rfl dX8_kindFor_34 rfl ?_
        refine yr_getR (pq := 38) (b := 109) 0 rfl dX8_kindFor_35 kF_8_9 (by decide) rfl ?_
        refine yr_iload_n (pq := 39) rfl dX8_kindFor_38 rfl ?_
        refine yr_iconst (pq := 40) rfl dX8_kindFor_39 ?_
        refine yr_sI2 (pq := 43) rfl dX8_kindFor_40 kM_8_82 (by decide) (Nat.le_of_ble_eq_true rfl) (m_at ?_)
        refine yr_iload_n (pq := 44) rfl dX8_kindFor_43 rfl ?_
        refine yr_iast (pq := 45) rfl dX8_kindFor_44 rfl (by decide) (by omega) ?_
        refine yr_aload_n (pq := 46) rfl dX8_kindFor_45 rfl ?_
        refine yr_iload_n (pq := 47) rfl dX8_kindFor_46 rfl ?_
        refine yr_aload_n (pq := 48) rfl dX8_kindFor_47 rfl ?_
        refine yr_vI0 (pq := 51) rfl dX8_kindFor_48 kM_8_145 (by decide) (by decide) (Nat.le_of_ble_eq_true rfl) (m_allGrains ?_)
        refine yr_aload_n (pq := 52) rfl dX8_kindFor_51 rfl ?_
        refine yr_iload_n (pq := 53) rfl dX8_kindFor_52 rfl ?_
        refine yr_aload_n (pq := 54) rfl dX8_kindFor_53 rfl ?_
        refine yr_getR (pq := 57) (b := 109) 0 rfl dX8_kindFor_54 kF_8_9 (by decide) rfl ?_
        refine yr_bipush (pq := 59) rfl dX8_kindFor_57 rfl ?_
        refine yr_iald (pq := 60) rfl dX8_kindFor_59 rfl (by decide) (by omega) ?_
        rw [f9, et, eo 50 (by omega)]
        refine yr_vI2 (pq := 63) rfl dX8_kindFor_60 kM_8_167 (by decide) (by decide) (Nat.le_of_ble_eq_true rfl) (m_costsOf (by rw [f9]; exact okT_chg hO q1.1 q1.2 (by omega)) (by rw [f9]; exact okS_hi hS (by omega)) q1.1 (by rw [f9, eo 8 (by omega)]; exact q1.2) (by omega) ?_)
        rw [f9, et, eo 44 (by omega)]
        refine yr_isub (pq := 64) rfl dX8_kindFor_63 ?_
        refine yr_vV2 (pq := 67) rfl dX8_kindFor_64 kM_8_232 (by decide) (by decide) cat0 (m_tried (p := p) (l := kfF (h 109) s n) (by rw [up_ne (by decide)]; exact g3) (by rw [up_ne (by decide)]; exact g4) hp.2 (by omega) (fun e e0 e1 e2 e3 => ?_))
        refine yr_iinc3 (pq := 70) rfl dX8_kindFor_67 ?_
        refine yr_goto (t := 28) dX8_kindFor_70 rfl ?_
        refine ih _ n _ e (by omega) (by omega) (fun a q1 q2 => ?_) (fun j hj => ?_) ?_ e2 e3 (pr_b (sk := nosk) hp (by omega) (by omega)) hb
        · rw [e0 a q1, up_ne q2]; exact g0 a q1 q2
        · rw [e1 j (by omega) (by omega), up_ne (by decide)]; exact g1 j hj
        · rw [e0 109 (by decide), f9]
    refine yr_if_ne (pq := 8) (t := 15) rfl dX8_kindFor_5 rfl (by decide) (fun _ => ?_) (fun q9 => absurd q9 (by decide))
    refine yr_aload_n (pq := 16) rfl dX8_kindFor_15 rfl ?_
    refine yr_vV0 (pq := 19) rfl dX8_kindFor_16 kM_8_229 (by decide) (by decide) cat0 (m_nothing (fun e e0 e1 e2 e3 => ?_))
    have w9 : e 109 = h 109 := e0 109 (by decide)
    refine yr_aload_n (pq := 20) rfl dX8_kindFor_19 rfl ?_
    refine yr_iload_n (pq := 21) rfl dX8_kindFor_20 rfl ?_
    refine yr_iconst (pq := 22) rfl dX8_kindFor_21 ?_
    refine yr_vI2 (pq := 25) rfl dX8_kindFor_22 kM_8_113 (by decide) (by decide) cat0 (m_streetIs (by omega) (by decide) ?_)
    rw [w9]
    refine yr_istore2 (pq := 26) rfl dX8_kindFor_25 ?_
    refine yr_iconst (pq := 27) rfl dX8_kindFor_26 ?_
    refine yr_istore3 (pq := 28) rfl dX8_kindFor_27 ?_
    exact key 7 0 (h 109 (53 + 5 * s + 0)) (-1, -1) e (by omega) (by omega) (fun a q1 _ => e0 a q1) (fun j hj => e1 j (by omega) (by omega)) (by rw [w9, ur_id]) e2 e3 (by decide) rfl
  · refine yr_if_ne (pq := 8) (t := 15) rfl dX8_kindFor_5 rfl (by decide) (fun q9 => absurd (by decide) q9) (fun _ => ?_)
    refine yr_aload_n (pq := 9) rfl dX8_kindFor_8 rfl ?_
    refine yr_ldc (pq := 11) rfl dX8_kindFor_9 kN_8_73 ?_
    refine yr_vI1 (pq := 14) rfl dX8_kindFor_11 kM_8_101 (by decide) (by decide) cat0 (r_fnd (by decide) (fun e hf => ?_))
    exact yr_iret dX8_kindFor_14 rfl (k0 q1 e hf)
theorem s_kindFor {s : Int} (hI : Inv h) (hs : -2147483648 ≤ s ∧ s ≤ 2147483647) : Sm (d + 30) mX7_kindFor mX8_kindFor [vi s] h := by
  have hI0 := hI
  obtain ⟨⟨i1, i2, i3, i3'⟩, -, -, -, -, -, i11⟩ := hI0
  have h8 := i2.1
  have hm := i3.2.2.1
  show ClI (d + 30) mX7_kindFor [vr 0, vi s] h (SKn (d + 30) mX8_kindFor [vr 108, vi s])
  refine cl_in (al := [vr 0, vi s, .null, .null, .null, .null]) rfl (Nat.le_of_ble_eq_true rfl) (by simp [vi_cat, vr_cat, vs_cat]) ?_
  refine yr_aload_n (pq := 1) rfl dX7_kindFor_0 rfl ?_
  refine yr_getR (pq := 4) (b := 1) 0 rfl dX7_kindFor_1 kF_7_10 (by decide) rfl ?_
  refine yr_getR (pq := 7) (b := 2) 0 rfl dX7_kindFor_4 kF_7_70 (by decide) rfl ?_
  refine yr_iload_n (pq := 8) rfl dX7_kindFor_7 rfl ?_
  refine yr_vI1 (pq := 11) rfl dX7_kindFor_8 kM_7_81 (by decide) (tw_c (by decide)) cat0 (c_has (N := h 109) (by decide) hs i1.1.1 h8 (fun q1 => ?_) (fun q1 => ?_))
  · have key : ∀ (c : Nat) (n x b l : Int) (p : Int × Int) (g : hT), 0 ≤ n → n + c = 7 → (∀ a, a < 49 ∨ 75 < a → g a = h a) → RT g 49 (ur (h 109) (53 + 5 * s + 0) x) → (0 ≤ x ∧ x ≤ 6) → (n = 0 → p = (-1, -1)) → (0 < n → b = p.1 ∧ l = totF (h 109) - p.2) → ((-1 ≤ p.1 ∧ p.1 ≤ 60) ∧ (-1 ≤ p.2 ∧ p.2 ≤ 99999)) → (0 < n → p.2 ≤ totF (h 109) ∧ 0 ≤ p.2) → bsF nosk (kfF (h 109) s) n c p = bsF nosk (kfF (h 109) s) 0 7 (-1, -1) → ∀ z, Yr (d + 29) mX7_kindFor 41 [vr 0, vi s, vi b, vi l, vi n, z] [] g (rI (SKn (d + 30) mX8_kindFor [vr 108, vi s])) := by
      intro c
      induction c with
      | zero =>
        intro n x b l p g hn hc g0 gR hx hp0 hp1 hp hp2 hb z
        have hb' : p = bsF nosk (kfF (h 109) s) 0 7 (-1, -1) := hb
        refine yr_iload (pq := 43) rfl dX7_kindFor_41 rfl ?_
        refine yr_bipush (pq := 45) rfl dX7_kindFor_43 rfl ?_
        refine yr_ic_ge (pq := 48) (t := 106) rfl dX7_kindFor_45 rfl (by omega) (by omega) (fun _ => ?_) (fun q9 => absurd (by omega) q9)
        refine yr_iload_n (pq := 107) rfl dX7_kindFor_106 rfl ?_
        refine yr_iret dX7_kindFor_107 rfl ?_
        exact r_kindFor (N := h 109) ⟨g0 109 (by decide), by rw [g0 108 (by decide)]; exact i11⟩ i2 i3 i3' hs (fun q9 => absurd q1 q9) (fun _ e rf => ⟨by rw [← hb']; exact (hp1 (by omega)).1.symm, Inv_rf hI (fun a ha => g0 a (cr_lo ha)) (g0 108 (by decide)) rf⟩)
      | succ c ih =>
        intro n x b l p g hn hc g0 gR hx hp0 hp1 hp hp2 hb z
        have oX := okT_chg (j := 0) (v := x) i2 q1.1 q1.2 (by omega)
        have oN := okT_chg (j := 0) (v := n) i2 q1.1 q1.2 (by omega)
        have eo : ∀ y j, j ≠ 53 + 5 * s + 0 → ur (h 109) (53 + 5 * s + 0) y j = h 109 j := fun y j q => ur_o q
        have gU : RT (up g (49 + 6 + s) 0 n) 49 (ur (h 109) (53 + 5 * s + 0) n) := by
          have w := RT_st (s := s) (j := 0) (z := n) gR oX q1.1 (by rw [eo _ 8 (by omega)]; exact q1.2) (by decide)
          rw [ur_ur] at w
          exact w
        have gu : ∀ a, a < 49 ∨ 75 < a → up g (49 + 6 + s) 0 n a = h a := fun a ha => by rw [up_ne (by omega)]; exact g0 a ha
        have lb := kfF_b (k := n) i2 i3 q1.1 q1.2 (by omega)
        have ek : kfF (h 109) s n = totF (h 109) - min (totF (h 109)) (sumM (lossF (ur (h 109) (53 + 5 * s + 0) n) (h 109 44) s) (h 109 50) (takesF (ur (h 109) (53 + 5 * s + 0) n) s).toNat) := rfl
        have ht : 0 ≤ totF (h 109) ∧ totF (h 109) ≤ 99999 := by
          have := i3.2.2.2.2.1
          unfold totF
          omega
        rw [bsF, if_neg (show ¬ nosk n = true from Bool.false_ne_true)] at hb
        refine yr_iload (pq := 43) rfl dX7_kindFor_41 rfl ?_
        refine yr_bipush (pq := 45) rfl dX7_kindFor_43 rfl ?_
        refine yr_ic_ge (pq := 48) (t := 106) rfl dX7_kindFor_45 rfl (by omega) (by omega) (fun q9 => absurd q9 (by omega)) (fun _ => ?_)
        refine yr_aload_n (pq := 49) rfl dX7_kindFor_48 rfl ?_
        refine yr_getR (pq := 52) (b := 49) 3 rfl dX7_kindFor_49 kF_7_26 (by decide) rfl ?_
        refine yr_getR (pq := 55) 0 rfl dX7_kindFor_52 kF_7_84 (tw_c (by decide)) (fr_6_0 (by decide)) ?_
        refine yr_iload_n (pq := 56) rfl dX7_kindFor_55 rfl ?_
        refine yr_aald (pq := 57) rfl dX7_kindFor_56 (tw_k1 (by decide)) (by decide) (by omega) (st_q (by decide) (by omega) (by omega)) ?_
        refine yr_iload (pq := 59) rfl dX7_kindFor_57 rfl ?_
        refine yr_putI (pq := 62) 0 rfl dX7_kindFor_59 kF_7_88 (by decide) rfl rfl (st_c (by decide) (by omega) (by omega)) ?_
        refine yr_aload_n (pq := 63) rfl dX7_kindFor_62 rfl ?_
        refine yr_aload_n (pq := 64) rfl dX7_kindFor_63 rfl ?_
        refine yr_getR (pq := 67) (b := 49) 3 rfl dX7_kindFor_64 kF_7_26 (by decide) rfl ?_
        refine yr_iload_n (pq := 68) rfl dX7_kindFor_67 rfl ?_
        refine yr_aload_n (pq := 69) rfl dX7_kindFor_68 rfl ?_
        refine yr_getR (pq := 72) (b := 1) 0 rfl dX7_kindFor_69 kF_7_10 (by decide) rfl ?_
        refine yr_getR (pq := 75) (b := 22) 1 rfl dX7_kindFor_72 kF_7_135 (by decide) rfl ?_
        refine yr_getI (pq := 78) 3 rfl dX7_kindFor_75 kF_7_163 (by decide) rfl (by decide) ?_
        rw [gu 22 (by decide), i1.2.2.2.2.1]
        refine yr_vI3 (pq := 81) rfl dX7_kindFor_78 kM_7_186 (by decide) (by decide) cat0 (c_costsIn (N := h 109) (P := ur (h 109) (53 + 5 * s + 0) n) (T := 49) (by decide) (by rw [gu 23 (by decide)]; exact i1.2.1) (by rw [gu 22 (by decide)]; exact i1.2.2.1) i3 gU oN (by rw [eo _ 8 (by omega)]; exact q1) (by omega) (fun f f0 => ?_))
        have fs : ∀ a, a < 49 ∨ 75 < a → f a = h a := fun a ha => by rw [f0 a (by omega)]; exact gu a ha
        have fR : RT f 49 (ur (h 109) (53 + 5 * s + 0) n) := RT_cong gU oN (fun j j0 j1 j2 => f0 _ (by omega))
        generalize hC : min (totF (h 109)) (sumM (lossF (ur (h 109) (53 + 5 * s + 0) n) (h 109 44) s) (h 109 50) (takesF (ur (h 109) (53 + 5 * s + 0) n) s).toNat) = C at ek ⊢
        have take : p.2 < kfF (h 109) s n → Yr (d + 29) mX7_kindFor 94 [vr 0, vi s, vi b, vi l, vi n, vi C] [] f (rI (SKn (d + 30) mX8_kindFor [vr 108, vi s])) := by
          intro lt
          rw [if_pos lt] at hb
          refine yr_iload (pq := 96) rfl dX7_kindFor_94 rfl ?_
          refine yr_istore3 (pq := 97) rfl dX7_kindFor_96 ?_
          refine yr_iload (pq := 99) rfl dX7_kindFor_97 rfl ?_
          refine yr_istore2 (pq := 100) rfl dX7_kindFor_99 ?_
          refine yr_iinc4 (pq := 103) rfl dX7_kindFor_100 ?_
          refine yr_goto (t := 41) dX7_kindFor_103 rfl ?_
          exact ih _ n _ _ (n, kfF (h 109) s n) f (by omega) (by omega) fs fR (by omega) (fun q => by omega) (fun _ => ⟨rfl, by simp only; omega⟩) ⟨by simp only; omega, by simp only; omega⟩ (fun _ => ⟨by simp only; omega, by simp only; omega⟩) hb _
        refine yr_istore5 (pq := 83) rfl dX7_kindFor_81 ?_
        refine yr_iload (pq := 85) rfl dX7_kindFor_83 rfl ?_
        refine yr_if_eq (pq := 88) (t := 94) rfl dX7_kindFor_85 rfl (by omega) (fun q2 => ?_) (fun q2 => ?_)
        · have hp0' := hp0 (by omega)
          refine take ?_
          rw [hp0']
          simp only
          omega
        · obtain ⟨e1, e2⟩ := hp1 (by omega)
          obtain ⟨e3, e4⟩ := hp2 (by omega)
          refine yr_iload (pq := 90) rfl dX7_kindFor_88 rfl ?_
          refine yr_iload_n (pq := 91) rfl dX7_kindFor_90 rfl ?_
          refine yr_ic_ge (pq := 94) (t := 100) rfl dX7_kindFor_91 rfl (by omega) (by omega) (fun q3 => ?_) (fun q3 => ?_)
          · rw [if_neg (by omega)] at hb
            refine yr_iinc4 (pq := 103) rfl dX7_kindFor_100 ?_
            refine yr_goto (t := 41) dX7_kindFor_103 rfl ?_
            exact ih _ n _ _ p f (by omega) (by omega) fs fR (by omega) (fun q => by omega) (fun _ => ⟨e1, e2⟩) hp (fun _ => ⟨e3, e4⟩) hb _
          · exact take (by omega)
    refine yr_if_ne (pq := 14) (t := 20) rfl dX7_kindFor_11 rfl (by decide) (fun _ => ?_) (fun q9 => absurd q9 (by decide))
    refine yr_aload_n (pq := 21) rfl dX7_kindFor_20 rfl ?_
    refine yr_getR (pq := 24) (b := 49) 3 rfl dX7_kindFor_21 kF_7_26 (by decide) rfl ?_
    refine yr_aload_n (pq := 25) rfl dX7_kindFor_24 rfl ?_
    refine yr_getR (pq := 28) (b := 1) 0 rfl dX7_kindFor_25 kF_7_10 (by decide) rfl ?_
    refine yr_getR (pq := 31) (b := 2) 0 rfl dX7_kindFor_28 kF_7_70 (by decide) rfl ?_
    refine yr_vV1 (pq := 34) rfl dX7_kindFor_31 kM_7_227 (by decide) (tw_c (by decide)) cat0 (c_twTake (T := 49) (U := 2) (N := h 109) (by decide) (by decide) (by decide) i1.1 i2 (fun f f0 f1 => ?_))
    refine yr_iconst (pq := 35) rfl dX7_kindFor_34 ?_
    refine yr_istore2 (pq := 36) rfl dX7_kindFor_35 ?_
    refine yr_iconst (pq := 37) rfl dX7_kindFor_36 ?_
    refine yr_istore3 (pq := 38) rfl dX7_kindFor_37 ?_
    refine yr_iconst (pq := 39) rfl dX7_kindFor_38 ?_
    refine yr_istore4 (pq := 41) rfl dX7_kindFor_39 ?_
    refine key 7 0 (h 109 (53 + 5 * s + 0)) 0 0 (-1, -1) f (by omega) (by omega) (fun a ha => f0 a (by omega)) (by rw [ur_id]; exact f1) (i2.2.2.2.2 s q1.1 q1.2).1 (fun _ => rfl) (fun q => by omega) (by decide) (fun q => by omega) rfl _
  · refine yr_if_ne (pq := 14) (t := 20) rfl dX7_kindFor_11 rfl (by decide) (fun q9 => absurd (by decide) q9) (fun _ => ?_)
    refine yr_aload_n (pq := 15) rfl dX7_kindFor_14 rfl ?_
    refine yr_iconst (pq := 16) rfl dX7_kindFor_15 ?_
    refine yr_vI1 (pq := 19) rfl dX7_kindFor_16 kM_7_66 (by decide) (by decide) cat0 (c_finding (by decide) ?_)
    exact yr_iret dX7_kindFor_19 rfl (r_kindFor (rb_u hI (by decide) (by decide)) i2 i3 i3' hs (fun _ e hf => fd_end hI (by decide) (by decide) hf) (fun q9 => absurd q9 q1))
end S29
