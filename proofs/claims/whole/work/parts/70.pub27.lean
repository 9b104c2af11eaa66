/-! better -/
section S27
variable {d : Nat} {h : hT} {K : Int → hT → Prop}
theorem r_better {N : Int → Int} (hB : RB h N) (hO : okT N) (hS : okS N) (hl : N 50 ≤ 999) (k0 : 700 < N 50 → ∀ e, FD (-1000005) h e → K (-1000005) e)
    (k1 : N 50 ≤ 700 → (bsF nosk (btF N) 0 2 (-1, -1)).1 < 0 → ∀ e e', RF h e → FD (-1000004) e e' → K (-1000004) e') (k2 : N 50 ≤ 700 → 0 ≤ (bsF nosk (btF N) 0 2 (-1, -1)).1 → ∀ e, RF h e → K (bsF nosk (btF N) 0 2 (-1, -1)).1 e) : ClI (d + 8 + 9) mX8_better [vr 108] h K := by
  obtain ⟨e9, h5⟩ := hB
  subst e9
  have a3 := hS.2.2.1
  refine cl_in (al := [vr 108, .null, .null]) rfl (Nat.le_of_ble_eq_true rfl) (by simp [vi_cat, vr_cat, vs_cat]) ?_
  refine yr_aload_n (pq := 1) rfl dX8_better_0 rfl ?_
  refine yr_vI0 (pq := 4) rfl dX8_better_1 kM_8_201 (by decide) (by decide) cat0 (m_isLate (by omega) (fun q1 => ?_) (fun q1 => ?_))
  · refine yr_if_eq (pq := 7) (t := 14) rfl dX8_better_4 rfl (by decide) (fun q9 => absurd q9 (by decide)) (fun _ => ?_)
    refine yr_aload_n (pq := 8) rfl dX8_better_7 rfl ?_
    refine yr_ldc (pq := 10) rfl dX8_better_8 kN_8_159 ?_
    refine yr_vI1 (pq := 13) rfl dX8_better_10 kM_8_101 (by decide) (by decide) cat0 (r_fnd (by decide) (fun e hf => ?_))
    exact yr_iret dX8_better_13 rfl (k0 q1 e hf)
  · have key : ∀ (c : Nat) (n x : Int) (p : Int × Int) (g : hT), 0 ≤ n → n + c = 2 → (∀ a, a ≠ 108 → a ≠ 109 → a ≠ 113 → a ≠ 114 → a ≠ 115 → g a = h a) → (∀ j, (j < 9 ∨ 14 < j) → g 108 j = h 108 j) → g 109 = ur (h 109) 44 x → g 108 13 = p.1 → g 108 14 = p.2 → ((-1 ≤ p.1 ∧ p.1 ≤ 60) ∧ (-1 ≤ p.2 ∧ p.2 ≤ 99999)) → bsF nosk (btF (h 109)) n c p = bsF nosk (btF (h 109)) 0 2 (-1, -1) → Yr (d + 8 + 8) mX8_better 28 [vr 108, vi (h 109 44), vi n] [] g (rI K) := by
      intro c
      induction c with
      | zero =>
        intro n x p g hn hc g0 g1 g2 g3 g4 hp hb
        have hb' : p = bsF nosk (btF (h 109)) 0 2 (-1, -1) := hb
        have rf : RF h (up g 109 44 (h 109 44)) := by
          refine ⟨fun a q1 q2 q3 q4 => ?_, fun j hj => by rw [up_ne (by decide)]; exact g1 j hj⟩
          by_cases q : a = 109
          · subst q; rw [up_row, g2, ur_ur, ur_id]
          · rw [up_ne q]; exact g0 a q1 q q2 q3 q4
        have e13 : up g 109 44 (h 109 44) 108 13 = p.1 := by rw [up_ne (by decide)]; exact g3
        refine yr_iload_n (pq := 29) rfl dX8_better_28 rfl ?_
        refine yr_iconst (pq := 30) rfl dX8_better_29 ?_
        refine yr_ic_gt (pq := 33) (t := 56) rfl dX8_better_30 rfl (by omega) (by omega) (fun _ => ?_) (fun q9 => absurd (by omega) q9)
        refine yr_aload_n (pq := 57) rfl dX8_better_56 rfl ?_
        refine yr_getR (pq := 60) (b := 109) 0 rfl dX8_better_57 kF_8_9 (by decide) rfl ?_
        refine yr_bipush (pq := 62) rfl dX8_better_60 rfl ?_
        refine yr_iload_n (pq := 63) rfl dX8_better_62 rfl ?_
        refine yr_iast (pq := 64) rfl dX8_better_63 rfl (by decide) (by omega) ?_
        refine yr_aload_n (pq := 65) rfl dX8_better_64 rfl ?_
        refine yr_vI0 (pq := 68) rfl dX8_better_65 kM_8_235 (by decide) (by decide) cat0 (m_bestTried (by rw [e13]; omega) (fun q2 e hf => ?_) (fun q2 => ?_))
        · rw [e13, hb'] at q2
          exact yr_iret dX8_better_68 rfl (k1 q1 q2 _ e rf hf)
        · rw [e13, hb'] at q2
          rw [e13, hb']
          exact yr_iret dX8_better_68 rfl (k2 q1 q2 _ rf)
      | succ c ih =>
        intro n x p g hn hc g0 g1 g2 g3 g4 hp hb
        have f9 : up g 109 44 n 109 = ur (h 109) 44 n := by rw [up_row, g2, ur_ur]
        refine yr_iload_n (pq := 29) rfl dX8_better_28 rfl ?_
        refine yr_iconst (pq := 30) rfl dX8_better_29 ?_
        refine yr_ic_gt (pq := 33) (t := 56) rfl dX8_better_30 rfl (by omega) (by omega) (fun q9 => absurd q9 (by omega)) (fun _ => ?_)
        refine yr_aload_n (pq := 34) rfl dX8_better_33 rfl ?_
        refine yr_getR (pq := 37) (b := 109) 0 rfl dX8_better_34 kF_8_9 (by decide) rfl ?_
        refine yr_bipush (pq := 39) rfl dX8_better_37 rfl ?_
        refine yr_iload_n (pq := 40) rfl dX8_better_39 rfl ?_
        refine yr_iast (pq := 41) rfl dX8_better_40 rfl (by decide) (by omega) ?_
        refine yr_aload_n (pq := 42) rfl dX8_better_41 rfl ?_
        refine yr_iload_n (pq := 43) rfl dX8_better_42 rfl ?_
        refine yr_aload_n (pq := 44) rfl dX8_better_43 rfl ?_
        refine yr_vI0 (pq := 47) rfl dX8_better_44 kM_8_220 (by decide) (by decide) (Nat.le_of_ble_eq_true rfl) (m_bestRound (w := -1) (by rw [f9]; exact okT_mid hO (by omega)) (by rw [f9]; exact okS_44 hS (by omega)) (by rw [up_ne (by decide), g1 5 (by decide)]; exact h5) (by decide) (by rw [f9, ur_o (by decide)]; omega) (fun f r0 r1 => ?_))
        rw [f9] at r1 ⊢
        have lb := fnd_ok r1.2.2.2.2.2
        have f13 : f 108 13 = p.1 := by rw [r0.2.2.1 13 (by decide) (by decide) (by decide) (by decide), up_ne (by decide)]; exact g3
        have f14 : f 108 14 = p.2 := by rw [r0.2.2.1 14 (by decide) (by decide) (by decide) (by decide), up_ne (by decide)]; exact g4
        refine yr_vV2 (pq := 50) rfl dX8_better_47 kM_8_232 (by decide) (by decide) cat0 (m_tried (p := p) f13 f14 hp.2 lb (fun e e0 e1 e2 e3 => ?_))
        refine yr_iinc2 (pq := 53) rfl dX8_better_50 ?_
        refine yr_goto (t := 28) dX8_better_53 rfl ?_
        refine ih _ n _ e (by omega) (by omega) (fun a q1 q2 q3 q4 q5 => ?_) (fun j hj => ?_) ?_ e2 e3 (pr_b (sk := nosk) hp (by omega) lb) hb
        · rw [e0 a q1, r0.1 a q1 q2 q3 q4 q5, up_ne q2]; exact g0 a q1 q2 q3 q4 q5
        · rw [e1 j (by omega) (by omega), r0.2.2.1 j (by omega) (by omega) (by omega) (by omega), up_ne (by decide)]; exact g1 j hj
        · rw [e0 109 (by decide), r0.2.1, f9]
    refine yr_if_eq (pq := 7) (t := 14) rfl dX8_better_4 rfl (by decide) (fun _ => ?_) (fun q9 => absurd (by decide) q9)
    refine yr_aload_n (pq := 15) rfl dX8_better_14 rfl ?_
    refine yr_vV0 (pq := 18) rfl dX8_better_15 kM_8_229 (by decide) (by decide) cat0 (m_nothing (fun e e0 e1 e2 e3 => ?_))
    refine yr_aload_n (pq := 19) rfl dX8_better_18 rfl ?_
    refine yr_getR (pq := 22) (b := 109) 0 rfl dX8_better_19 kF_8_9 (by decide) rfl ?_
    refine yr_bipush (pq := 24) rfl dX8_better_22 rfl ?_
    refine yr_iald (pq := 25) rfl dX8_better_24 rfl (by decide) (by omega) ?_
    refine yr_istore1 (pq := 26) rfl dX8_better_25 ?_
    refine yr_iconst (pq := 27) rfl dX8_better_26 ?_
    refine yr_istore2 (pq := 28) rfl dX8_better_27 ?_
    rw [e0 109 (by decide)]
    exact key 2 0 (h 109 44) (-1, -1) e (by omega) (by omega) (fun a q1 _ _ _ _ => e0 a q1) (fun j hj => e1 j (by omega) (by omega)) (by rw [e0 109 (by decide), ur_id]) e2 e3 (by decide) rfl
theorem s_better (hI : Inv h) : Sm (d + 30) mX7_better mX8_better [] h := by
  have hI0 := hI
  obtain ⟨⟨i1, i2, i3, i3'⟩, -, -, -, -, -, i11⟩ := hI0
  have h8 := i2.1
  have hm := i3.2.2.1
  show ClI (d + 30) mX7_better [vr 0] h (SKn (d + 30) mX8_better [vr 108])
  refine cl_in (al := [vr 0, .null, .null, .null]) rfl (Nat.le_of_ble_eq_true rfl) (by simp [vi_cat, vr_cat, vs_cat]) ?_
  refine yr_aload_n (pq := 1) rfl dX7_better_0 rfl ?_
  refine yr_vI0 (pq := 4) rfl dX7_better_1 kM_7_212 (by decide) (by decide) cat0 (c_isPast i1 i3 (fun q1 => ?_) (fun q1 => ?_))
  · refine yr_if_eq (pq := 7) (t := 13) rfl dX7_better_4 rfl (by decide) (fun q9 => absurd q9 (by decide)) (fun _ => ?_)
    refine yr_aload_n (pq := 8) rfl dX7_better_7 rfl ?_
    refine yr_iconst (pq := 9) rfl dX7_better_8 ?_
    refine yr_vI1 (pq := 12) rfl dX7_better_9 kM_7_66 (by decide) (by decide) cat0 (c_finding (by decide) ?_)
    exact yr_iret dX7_better_12 rfl (r_better (rb_u hI (by decide) (by decide)) i2 i3 i3' (fun _ e hf => fd_end hI (by decide) (by decide) hf) (fun q9 => absurd q9 (by omega)) (fun q9 => absurd q9 (by omega)))
  · have fin : ∀ (p : Int × Int) (g : hT), (∀ a, a < 69 ∨ 75 < a → g a = h a) → p = bsF nosk (btF (h 109)) 0 2 (-1, -1) → ((-1 ≤ p.1 ∧ p.1 ≤ 60) ∧ (-1 ≤ p.2 ∧ p.2 ≤ 99999)) → ∀ x, Yr (d + 29) mX7_better 64 [vr 0, vi p.1, vi p.2, x] [] g (rI (SKn (d + 30) mX8_better [vr 108])) := by
      intro p g g0 hb hp x
      refine yr_iload_n (pq := 65) rfl dX7_better_64 rfl ?_
      refine yr_if_ge (pq := 68) (t := 76) rfl dX7_better_65 rfl (by omega) (fun q2 => ?_) (fun q2 => ?_)
      · refine yr_iload_n (pq := 77) rfl dX7_better_76 rfl ?_
        refine yr_iret dX7_better_77 rfl ?_
        exact r_better (N := h 109) ⟨g0 109 (by decide), by rw [g0 108 (by decide)]; exact i11⟩ i2 i3 i3' (fun q9 => absurd q9 (by omega)) (fun _ q9 => absurd q9 (by rw [← hb]; omega)) (fun _ _ e rf => ⟨by rw [hb], Inv_rf hI (fun a ha => g0 a (by have := cr_lo ha; omega)) (g0 108 (by decide)) rf⟩)
      · refine yr_aload_n (pq := 69) rfl dX7_better_68 rfl ?_
        refine yr_iconst (pq := 70) rfl dX7_better_69 ?_
        refine yr_vI1 (pq := 73) rfl dX7_better_70 kM_7_66 (by decide) (by decide) cat0 (c_finding (by decide) ?_)
        refine yr_goto (t := 77) dX7_better_73 rfl ?_
        refine yr_iret dX7_better_77 rfl ?_
        exact r_better (N := h 109) ⟨by rw [up_ne (by decide)]; exact g0 109 (by decide), by rw [up_ne (by decide), g0 108 (by decide)]; exact i11⟩ i2 i3 i3' (fun q9 => absurd q9 (by omega)) (fun _ _ e e' rf hf => rf_find hI (by decide) (by decide) (fun a ha => g0 a (by have := cr_lo ha; omega)) (g0 108 (by decide)) rf hf) (fun _ q9 => absurd q9 (by rw [← hb]; omega))
    have key : ∀ (c : Nat) (n : Int) (p : Int × Int) (g : hT), 0 ≤ n → n + c = 2 → (∀ a, a < 69 ∨ 75 < a → g a = h a) → ((-1 ≤ p.1 ∧ p.1 ≤ 60) ∧ (-1 ≤ p.2 ∧ p.2 ≤ 99999)) → bsF nosk (btF (h 109)) n c p = bsF nosk (btF (h 109)) 0 2 (-1, -1) → Yr (d + 29) mX7_better 19 [vr 0, vi p.1, vi p.2, vi n] [] g (rI (SKn (d + 30) mX8_better [vr 108])) := by
      intro c
      induction c with
      | zero =>
        intro n p g hn hc g0 hp hb
        refine yr_iload_n (pq := 20) rfl dX7_better_19 rfl ?_
        refine yr_iconst (pq := 21) rfl dX7_better_20 ?_
        refine yr_ic_gt (pq := 24) (t := 64) rfl dX7_better_21 rfl (by omega) (by omega) (fun _ => ?_) (fun q9 => absurd (by omega) q9)
        exact fin p g g0 hb hp _
      | succ c ih =>
        intro n p g hn hc g0 hp hb
        have eo : ∀ j, j ≠ 44 → ur (h 109) 44 n j = h 109 j := fun j q => ur_o q
        have gR : RT g 2 (ur (h 109) 44 n) := RT_row (N := h 109) (RT_cong i1.1 i2 (fun j j0 j1 j2 => g0 _ (by omega))) (fun j hj => eo j (by omega))
        refine yr_iload_n (pq := 20) rfl dX7_better_19 rfl ?_
        refine yr_iconst (pq := 21) rfl dX7_better_20 ?_
        refine yr_ic_gt (pq := 24) (t := 64) rfl dX7_better_21 rfl (by omega) (by omega) (fun q9 => absurd q9 (by omega)) (fun _ => ?_)
        refine yr_aload_n (pq := 25) rfl dX7_better_24 rfl ?_
        refine yr_aload_n (pq := 26) rfl dX7_better_25 rfl ?_
        refine yr_getR (pq := 29) (b := 1) 0 rfl dX7_better_26 kF_7_10 (by decide) rfl ?_
        refine yr_getR (pq := 32) (b := 2) 0 rfl dX7_better_29 kF_7_70 (by decide) rfl ?_
        refine yr_iload_n (pq := 33) rfl dX7_better_32 rfl ?_
        refine yr_iconst (pq := 34) rfl dX7_better_33 ?_
        refine yr_vV3 (pq := 37) rfl dX7_better_34 kM_7_215 (by decide) (by decide) cat0 (c_seekRounds (N := ur (h 109) 44 n) (T := 2) (w := -1) (by decide) gR (okT_mid i2 (by omega)) (okS_44 i3 (by omega)) (ur_s _ _ _) (by rw [g0 23 (by decide), eo 45 (by decide), eo 46 (by decide), eo 47 (by decide), eo 48 (by decide)]; exact i1.2.1) (by rw [g0 22 (by decide), eo 49 (by decide)]; exact i1.2.2.2.1) (by rw [g0 22 (by decide), eo 50 (by decide)]; exact i1.2.2.2.2.1) (by rw [g0 22 (by decide), eo 51 (by decide)]; exact i1.2.2.2.2.2.1) (by decide) (by rw [eo 50 (by decide)]; exact i3') (fun f f0 f2 => ?_))
        have lb := fnd_ok f2.2.2.2.2.2.2.1
        have fl : f 69 13 = btF (h 109) n := f2.2.1
        have fs : ∀ a, a < 69 ∨ 75 < a → f a = h a := fun a ha => by rw [f0 a ha]; exact g0 a ha
        have nx := ih (n + 1) (if nosk n = true then p else if p.2 < btF (h 109) n then (n, btF (h 109) n) else p) f (by omega) (by omega) fs (pr_b hp (by omega) lb) hb
        rw [if_neg (show ¬ nosk n = true from Bool.false_ne_true)] at nx
        have lb' : -1 ≤ btF (h 109) n ∧ btF (h 109) n ≤ 99999 := lb
        refine yr_aload_n (pq := 38) rfl dX7_better_37 rfl ?_
        refine yr_getR (pq := 41) (b := 69) 4 rfl dX7_better_38 kF_7_33 (by decide) rfl ?_
        refine yr_getI (pq := 44) 13 rfl dX7_better_41 kF_7_193 (by decide) rfl (by decide) ?_
        refine yr_iload_n (pq := 45) rfl dX7_better_44 rfl ?_
        rw [fl]
        refine yr_ic_le (pq := 48) (t := 58) rfl dX7_better_45 rfl (by omega) (by omega) (fun q3 => ?_) (fun q3 => ?_)
        · rw [if_neg (by omega)] at nx
          refine yr_iinc3 (pq := 61) rfl dX7_better_58 ?_
          refine yr_goto (t := 19) dX7_better_61 rfl ?_
          exact nx
        · rw [if_pos (by omega)] at nx
          refine yr_aload_n (pq := 49) rfl dX7_better_48 rfl ?_
          refine yr_getR (pq := 52) (b := 69) 4 rfl dX7_better_49 kF_7_33 (by decide) rfl ?_
          refine yr_getI (pq := 55) 13 rfl dX7_better_52 kF_7_193 (by decide) rfl (by decide) ?_
          refine yr_istore2 (pq := 56) rfl dX7_better_55 ?_
          refine yr_iload_n (pq := 57) rfl dX7_better_56 rfl ?_
          refine yr_istore1 (pq := 58) rfl dX7_better_57 ?_
          refine yr_iinc3 (pq := 61) rfl dX7_better_58 ?_
          refine yr_goto (t := 19) dX7_better_61 rfl ?_
          rw [fl]
          exact nx
    refine yr_if_eq (pq := 7) (t := 13) rfl dX7_better_4 rfl (by decide) (fun _ => ?_) (fun q9 => absurd (by decide) q9)
    refine yr_iconst (pq := 14) rfl dX7_better_13 ?_
    refine yr_istore1 (pq := 15) rfl dX7_better_14 ?_
    refine yr_iconst (pq := 16) rfl dX7_better_15 ?_
    refine yr_istore2 (pq := 17) rfl dX7_better_16 ?_
    refine yr_iconst (pq := 18) rfl dX7_better_17 ?_
    refine yr_istore3 (pq := 19) rfl dX7_better_18 ?_
    exact key 2 0 (-1, -1) h (by omega) (by omega) (fun _ _ => rfl) (by decide) rfl
end S27
