/-! umbrella, shade -/
theorem RT_st {h : hT} {T : Int} {N : Int → Int} {s j z : Int} (hR : RT h T N) (hO : okT N) (s0 : 0 ≤ s) (s1 : s < N 8) (hj : j = 0 ∨ j = 3 ∨ j = 4) : RT (up h (T + 6 + s) j z) T (ur N (53 + 5 * s + j) z) := by
  have h8 := hO.1
  obtain ⟨t1, t2, t3, t4, t5⟩ := hR
  have e8 : ur N (53 + 5 * s + j) z 8 = N 8 := ur_o (by omega)
  refine ⟨up_ur t1 (by omega), fun c c0 c1 => up_ur (t2 c c0 c1) (by omega), fun i i0 i1 => up_ur (t3 i i0 i1) (by omega), fun i i0 i1 => up_ur (t4 i i0 i1) (by omega), fun t t0 u1 => ?_⟩
  rw [e8] at u1
  obtain ⟨v0, v1, v2, v3, v4⟩ := t5 t t0 u1
  have m1 : up h (T + 6 + s) j z (T + 6 + t) 1 = h (T + 6 + t) 1 := by
    unfold up
    rw [if_neg (by omega)]
  have m2 : up h (T + 6 + s) j z (T + 6 + t) 2 = h (T + 6 + t) 2 := by
    unfold up
    rw [if_neg (by omega)]
  refine ⟨up_ur v0 (by omega), ?_, ?_, up_ur v3 (by omega), up_ur v4 (by omega)⟩
  · rw [m1, m2, ur_o (by omega)]; exact v1
  · rw [m1, m2, ur_o (by omega)]; exact v2
def wiF (N : Int → Int) (f v : Int) : Int → Int := fun s => (fndF (-1) (-1) (ur N (53 + 5 * s + f) v)).2.1
def umS (N : Int → Int) : Int → Bool := fun s => decide (N (53 + 5 * s + 4) = 1)
section S28
variable {d : Nat} {h : hT} {K : Int → hT → Prop}
theorem r_bestWith {N : Int → Int} {f v also : Int} {sk : Int → Bool} (hB : RB h N) (hO : okT N) (hS : okS N) (hl : N 50 ≤ 999) (hal : also = 0 ∨ also = 1) (hv : (f = 0 ∧ 0 ≤ v ∧ v ≤ 6) ∨ (f = 3 ∧ 1 ≤ v ∧ v ≤ 20) ∨ (f = 4 ∧ 0 ≤ v ∧ v ≤ 1)) (hsk : ∀ s, 0 ≤ s → s < N 8 → (sk s = true ↔ (also = 0 ∧ N (53 + 5 * s + f) = v))) (k0 : 700 < N 50 → ∀ e, FD (-1000005) h e → K (-1000005) e)
    (k1 : N 50 ≤ 700 → (bsF sk (wiF N f v) 0 (N 8).toNat (-1, -1)).1 < 0 → ∀ e e', RF h e → FD (-1000004) e e' → K (-1000004) e') (k2 : N 50 ≤ 700 → 0 ≤ (bsF sk (wiF N f v) 0 (N 8).toNat (-1, -1)).1 → ∀ e, RF h e → K (bsF sk (wiF N f v) 0 (N 8).toNat (-1, -1)).1 e) : ClI (d + 8 + 9) mX8_bestWith [vr 108, vi f, vi v, vi also] h K := by
  obtain ⟨e9, h5⟩ := hB
  subst e9
  have a3 := hS.2.2.1
  have h8 := hO.1
  refine cl_in (al := [vr 108, vi f, vi v, vi also, .null, .null]) rfl (Nat.le_of_ble_eq_true rfl) (by simp [vi_cat, vr_cat, vs_cat]) ?_
  refine yr_aload_n (pq := 1) rfl dX8_bestWith_0 rfl ?_
  refine yr_vI0 (pq := 4) rfl dX8_bestWith_1 kM_8_201 (by decide) (by decide) cat0 (m_isLate (by omega) (fun q1 => ?_) (fun q1 => ?_))
  · refine yr_if_eq (pq := 7) (t := 14) rfl dX8_bestWith_4 rfl (by decide) (fun q9 => absurd q9 (by decide)) (fun _ => ?_)
    refine yr_aload_n (pq := 8) rfl dX8_bestWith_7 rfl ?_
    refine yr_ldc (pq := 10) rfl dX8_bestWith_8 kN_8_159 ?_
    refine yr_vI1 (pq := 13) rfl dX8_bestWith_10 kM_8_101 (by decide) (by decide) cat0 (r_fnd (by decide) (fun e hf => ?_))
    exact yr_iret dX8_bestWith_13 rfl (k0 q1 e hf)
  · have key : ∀ (c : Nat) (s : Int) (p : Int × Int) (g : hT), 0 ≤ s → s + c = h 109 8 → (∀ a, a ≠ 108 → a ≠ 113 → a ≠ 114 → a ≠ 115 → g a = h a) → (∀ j, (j < 9 ∨ 14 < j) → g 108 j = h 108 j) → g 108 13 = p.1 → g 108 14 = p.2 → ((-1 ≤ p.1 ∧ p.1 ≤ 60) ∧ (-1 ≤ p.2 ∧ p.2 ≤ 99999)) → bsF sk (wiF (h 109) f v) s c p = bsF sk (wiF (h 109) f v) 0 (h 109 8).toNat (-1, -1) → ∀ x, Yr (d + 8 + 8) mX8_bestWith 21 [vr 108, vi f, vi v, vi also, vi s, x] [] g (rI K) := by
      intro c
      induction c with
      | zero =>
        intro s p g hs hc g0 g1 g3 g4 hp hb x
        have hb' : p = bsF sk (wiF (h 109) f v) 0 (h 109 8).toNat (-1, -1) := hb
        have g9 : g 109 = h 109 := g0 109 (by decide) (by decide) (by decide) (by decide)
        refine yr_iload (pq := 23) rfl dX8_bestWith_21 rfl ?_
        refine yr_aload_n (pq := 24) rfl dX8_bestWith_23 rfl ?_
        refine yr_getR (pq := 27) (b := 109) 0 rfl dX8_bestWith_24 kF_8_9 (by decide) rfl ?_
        refine yr_bipush (pq := 29) rfl dX8_bestWith_27 rfl ?_
        refine yr_iald (pq := 30) rfl dX8_bestWith_29 rfl (by decide) (by omega) ?_
        rw [g9]
        refine yr_ic_ge (pq := 33) (t := 90) rfl dX8_bestWith_30 rfl (by omega) (by omega) (fun _ => ?_) (fun q9 => absurd (by omega) q9)
        refine yr_aload_n (pq := 91) rfl dX8_bestWith_90 rfl ?_
        refine yr_vI0 (pq := 94) rfl dX8_bestWith_91 kM_8_235 (by decide) (by decide) cat0 (m_bestTried (by rw [g3]; omega) (fun q2 e hf => ?_) (fun q2 => ?_))
        · rw [g3, hb'] at q2
          exact yr_iret dX8_bestWith_94 rfl (k1 q1 q2 _ e ⟨g0, g1⟩ hf)
        · rw [g3, hb'] at q2
          rw [g3, hb']
          exact yr_iret dX8_bestWith_94 rfl (k2 q1 q2 _ ⟨g0, g1⟩)
      | succ c ih =>
        intro s p g hs hc g0 g1 g3 g4 hp hb x
        have g9 : g 109 = h 109 := g0 109 (by decide) (by decide) (by decide) (by decide)
        have hs1 : s < h 109 8 := by omega
        have sk1 := hsk s hs hs1
        rw [bsF] at hb
        have p48 : ¬ sk s = true → Yr (d + 8 + 8) mX8_bestWith 48 [vr 108, vi f, vi v, vi also, vi s, x] [] g (rI K) := by
          intro ns
          rw [if_neg ns] at hb
          have f9 : up g 109 (53 + 5 * s + f) v 109 = ur (h 109) (53 + 5 * s + f) v := by rw [up_row, g9]
          refine yr_aload_n (pq := 49) rfl dX8_bestWith_48 rfl ?_
          refine yr_iload (pq := 51) rfl dX8_bestWith_49 rfl ?_
          refine yr_iload_n (pq := 52) rfl dX8_bestWith_51 rfl ?_
          refine yr_sI2 (pq := 55) rfl dX8_bestWith_52 kM_8_82 (by decide) (Nat.le_of_ble_eq_true rfl) (m_at ?_)
          refine yr_iload_n (pq := 56) rfl dX8_bestWith_55 rfl ?_
          refine yr_vI2 (pq := 59) rfl dX8_bestWith_56 kM_8_129 (by decide) (by decide) cat0 (m_become (by omega) ?_)
          rw [g9]
          refine yr_istore5 (pq := 61) rfl dX8_bestWith_59 ?_
          refine yr_aload_n (pq := 62) rfl dX8_bestWith_61 rfl ?_
          refine yr_iload (pq := 64) rfl dX8_bestWith_62 rfl ?_
          refine yr_aload_n (pq := 65) rfl dX8_bestWith_64 rfl ?_
          refine yr_vI0 (pq := 68) rfl dX8_bestWith_65 kM_8_220 (by decide) (by decide) (Nat.le_of_ble_eq_true rfl) (m_bestRound (w := -1) (by rw [f9]; exact okT_chg hO hs hs1 hv) (by rw [f9]; exact okS_hi hS (by omega)) (by rw [up_ne (by decide), g1 5 (by decide)]; exact h5) (by decide) (by rw [f9, ur_o (by omega)]; omega) (fun f r0 r1 => ?_))
          rw [f9] at r1 ⊢
          have lb := fnd_ok r1.2.2.2.2.2
          have f13 : f 108 13 = p.1 := by rw [r0.2.2.1 13 (by decide) (by decide) (by decide) (by decide), up_ne (by decide)]; exact g3
          have f14 : f 108 14 = p.2 := by rw [r0.2.2.1 14 (by decide) (by decide) (by decide) (by decide), up_ne (by decide)]; exact g4
          refine yr_vV2 (pq := 71) rfl dX8_bestWith_68 kM_8_232 (by decide) (by decide) cat0 (m_tried (p := p) f13 f14 hp.2 lb (fun e e0 e1 e2 e3 => ?_))
          refine yr_aload_n (pq := 72) rfl dX8_bestWith_71 rfl ?_
          refine yr_getR (pq := 75) (b := 109) 0 rfl dX8_bestWith_72 kF_8_9 (by decide) rfl ?_
          refine yr_iload (pq := 77) rfl dX8_bestWith_75 rfl ?_
          refine yr_iload_n (pq := 78) rfl dX8_bestWith_77 rfl ?_
          refine yr_sI2 (pq := 81) rfl dX8_bestWith_78 kM_8_82 (by decide) (Nat.le_of_ble_eq_true rfl) (m_at ?_)
          refine yr_iload (pq := 83) rfl dX8_bestWith_81 rfl ?_
          refine yr_iast (pq := 84) rfl dX8_bestWith_83 rfl (by decide) (by omega) ?_
          refine yr_iinc4 (pq := 87) rfl dX8_bestWith_84 ?_
          refine yr_goto (t := 21) dX8_bestWith_87 rfl ?_
          have pb := pr_b (sk := nosk) hp (show 0 ≤ s ∧ s ≤ 60 by omega) lb
          rw [if_neg (show ¬ nosk s = true from Bool.false_ne_true)] at pb
          refine ih _ _ _ (by omega) (by omega) (fun a q1 q3 q4 q5 => ?_) (fun j hj => ?_) (by rw [up_ne (by decide)]; exact e2) (by rw [up_ne (by decide)]; exact e3) pb hb _
          · by_cases q2 : a = 109
            · subst q2; rw [up_row, e0 109 (by decide), r0.2.1, f9, ur_ur, ur_id]
            · rw [up_ne q2, e0 a q1, r0.1 a q1 q2 q3 q4 q5, up_ne q2]; exact g0 a q1 q3 q4 q5
          · rw [up_ne (by decide), e1 j (by omega) (by omega), r0.2.2.1 j (by omega) (by omega) (by omega) (by omega), up_ne (by decide)]; exact g1 j hj
        refine yr_iload (pq := 23) rfl dX8_bestWith_21 rfl ?_
        refine yr_aload_n (pq := 24) rfl dX8_bestWith_23 rfl ?_
        refine yr_getR (pq := 27) (b := 109) 0 rfl dX8_bestWith_24 kF_8_9 (by decide) rfl ?_
        refine yr_bipush (pq := 29) rfl dX8_bestWith_27 rfl ?_
        refine yr_iald (pq := 30) rfl dX8_bestWith_29 rfl (by decide) (by omega) ?_
        rw [g9]
        refine yr_ic_ge (pq := 33) (t := 90) rfl dX8_bestWith_30 rfl (by omega) (by omega) (fun q9 => absurd q9 (by omega)) (fun _ => ?_)
        refine yr_iload_n (pq := 34) rfl dX8_bestWith_33 rfl ?_
        refine yr_if_ne (pq := 37) (t := 48) rfl dX8_bestWith_34 rfl (by omega) (fun q2 => ?_) (fun q2 => ?_)
        · exact p48 (fun q9 => q2 (sk1.mp q9).1)
        · refine yr_aload_n (pq := 38) rfl dX8_bestWith_37 rfl ?_
          refine yr_iload (pq := 40) rfl dX8_bestWith_38 rfl ?_
          refine yr_iload_n (pq := 41) rfl dX8_bestWith_40 rfl ?_
          refine yr_vI2 (pq := 44) rfl dX8_bestWith_41 kM_8_113 (by decide) (by decide) cat0 (m_streetIs (by omega) (by omega) ?_)
          rw [g9]
          obtain ⟨o0, -, o3, o4⟩ := hO.2.2.2.2 s hs hs1
          have hr : -2147483648 ≤ h 109 (53 + 5 * s + f) ∧ h 109 (53 + 5 * s + f) ≤ 2147483647 := by
            rcases hv with ⟨rfl, -⟩ | ⟨rfl, -⟩ | ⟨rfl, -⟩ <;> omega
          refine yr_iload_n (pq := 45) rfl dX8_bestWith_44 rfl ?_
          refine yr_ic_eq (pq := 48) (t := 84) rfl dX8_bestWith_45 rfl (by omega) (by omega) (fun q3 => ?_) (fun q3 => ?_)
          · rw [if_pos (sk1.mpr ⟨q2, q3⟩)] at hb
            refine yr_iinc4 (pq := 87) rfl dX8_bestWith_84 ?_
            refine yr_goto (t := 21) dX8_bestWith_87 rfl ?_
            exact ih _ _ g (by omega) (by omega) g0 g1 g3 g4 hp hb _
          · exact p48 (fun q9 => q3 (sk1.mp q9).2)
    refine yr_if_eq (pq := 7) (t := 14) rfl dX8_bestWith_4 rfl (by decide) (fun _ => ?_) (fun q9 => absurd (by decide) q9)
    refine yr_aload_n (pq := 15) rfl dX8_bestWith_14 rfl ?_
    refine yr_vV0 (pq := 18) rfl dX8_bestWith_15 kM_8_229 (by decide) (by decide) cat0 (m_nothing (fun e e0 e1 e2 e3 => ?_))
    refine yr_iconst (pq := 19) rfl dX8_bestWith_18 ?_
    refine yr_istore4 (pq := 21) rfl dX8_bestWith_19 ?_
    exact key (h 109 8).toNat 0 (-1, -1) e (by omega) (by omega) (fun a q1 _ _ _ => e0 a q1) (fun j hj => e1 j (by omega) (by omega)) e2 e3 (by decide) rfl _
theorem umS_ok {N : Int → Int} : ∀ s, 0 ≤ s → s < N 8 → (umS N s = true ↔ ((0 : Int) = 0 ∧ N (53 + 5 * s + 4) = 1)) := fun s _ _ => by
  unfold umS
  rw [decide_eq_true_eq]
  exact ⟨fun q => ⟨rfl, q⟩, fun q => q.2⟩
theorem s_umbrella (hI : Inv h) : Sm (d + 30) mX7_umbrella mX8_umbrella [] h := by
  have hI0 := hI
  obtain ⟨⟨i1, i2, i3, i3'⟩, -, -, -, -, -, i11⟩ := hI0
  have h8 := i2.1
  have hm := i3.2.2.1
  have rr : ∀ {K : Int → hT → Prop} {f : hT}, RB f (h 109) → (700 < h 109 50 → ∀ e, FD (-1000005) f e → K (-1000005) e) → (h 109 50 ≤ 700 → (bsF (umS (h 109)) (wiF (h 109) 4 1) 0 (h 109 8).toNat (-1, -1)).1 < 0 → ∀ e e', RF f e → FD (-1000004) e e' → K (-1000004) e') → (h 109 50 ≤ 700 → 0 ≤ (bsF (umS (h 109)) (wiF (h 109) 4 1) 0 (h 109 8).toNat (-1, -1)).1 → ∀ e, RF f e → K (bsF (umS (h 109)) (wiF (h 109) 4 1) 0 (h 109 8).toNat (-1, -1)).1 e) → ClI (d + 30) mX8_umbrella [vr 108] f K := by
    intro K f hB k0 k1 k2
    refine cl_in (al := [vr 108]) rfl (Nat.le_of_ble_eq_true rfl) (by simp [vi_cat, vr_cat, vs_cat]) ?_
    refine yr_aload_n (pq := 1) rfl dX8_umbrella_0 rfl ?_
    refine yr_iconst (pq := 2) rfl dX8_umbrella_1 ?_
    refine yr_iconst (pq := 3) rfl dX8_umbrella_2 ?_
    refine yr_iconst (pq := 4) rfl dX8_umbrella_3 ?_
    refine yr_vI3 (pq := 7) rfl dX8_umbrella_4 kM_8_238 (by decide) (by decide) cat0 (r_bestWith hB i2 i3 i3' (by decide) (by decide) umS_ok (fun q e hf => ?_) (fun q q2 e e' rf hf => ?_) (fun q q2 e rf => ?_))
    · exact yr_iret dX8_umbrella_7 rfl (k0 q e hf)
    · exact yr_iret dX8_umbrella_7 rfl (k1 q q2 e e' rf hf)
    · exact yr_iret dX8_umbrella_7 rfl (k2 q q2 e rf)
  show ClI (d + 30) mX7_umbrella [vr 0] h (SKn (d + 30) mX8_umbrella [vr 108])
  refine cl_in (al := [vr 0, .null, .null, .null, .null]) rfl (Nat.le_of_ble_eq_true rfl) (by simp [vi_cat, vr_cat, vs_cat]) ?_
  refine yr_aload_n (pq := 1) rfl dX7_umbrella_0 rfl ?_
  refine yr_vI0 (pq := 4) rfl dX7_umbrella_1 kM_7_212 (by decide) (by decide) cat0 (c_isPast i1 i3 (fun q1 => ?_) (fun q1 => ?_))
  · refine yr_if_eq (pq := 7) (t := 13) rfl dX7_umbrella_4 rfl (by decide) (fun q9 => absurd q9 (by decide)) (fun _ => ?_)
    refine yr_aload_n (pq := 8) rfl dX7_umbrella_7 rfl ?_
    refine yr_iconst (pq := 9) rfl dX7_umbrella_8 ?_
    refine yr_vI1 (pq := 12) rfl dX7_umbrella_9 kM_7_66 (by decide) (by decide) cat0 (c_finding (by decide) ?_)
    exact yr_iret dX7_umbrella_12 rfl (rr (rb_u hI (by decide) (by decide)) (fun _ e hf => fd_end hI (by decide) (by decide) hf) (fun q9 => absurd q9 (by omega)) (fun q9 => absurd q9 (by omega)))
  · have fin : ∀ (p : Int × Int) (g : hT), (∀ a, a < 49 ∨ 75 < a → g a = h a) → p = bsF (umS (h 109)) (wiF (h 109) 4 1) 0 (h 109 8).toNat (-1, -1) → ((-1 ≤ p.1 ∧ p.1 ≤ 60) ∧ (-1 ≤ p.2 ∧ p.2 ≤ 99999)) → ∀ x y, Yr (d + 29) mX7_umbrella 121 [vr 0, vi p.1, vi p.2, x, y] [] g (rI (SKn (d + 30) mX8_umbrella [vr 108])) := by
      intro p g g0 hb hp x y
      refine yr_iload_n (pq := 122) rfl dX7_umbrella_121 rfl ?_
      refine yr_if_ge (pq := 125) (t := 133) rfl dX7_umbrella_122 rfl (by omega) (fun q2 => ?_) (fun q2 => ?_)
      · refine yr_iload_n (pq := 134) rfl dX7_umbrella_133 rfl ?_
        refine yr_iret dX7_umbrella_134 rfl ?_
        exact rr ⟨g0 109 (by decide), by rw [g0 108 (by decide)]; exact i11⟩ (fun q9 => absurd q9 (by omega)) (fun _ q9 => absurd q9 (by rw [← hb]; omega)) (fun _ _ e rf => ⟨by rw [hb], Inv_rf hI (fun a ha => g0 a (cr_lo ha)) (g0 108 (by decide)) rf⟩)
      · refine yr_aload_n (pq := 126) rfl dX7_umbrella_125 rfl ?_
        refine yr_iconst (pq := 127) rfl dX7_umbrella_126 ?_
        refine yr_vI1 (pq := 130) rfl dX7_umbrella_127 kM_7_66 (by decide) (by decide) cat0 (c_finding (by decide) ?_)
        refine yr_goto (t := 134) dX7_umbrella_130 rfl ?_
        refine yr_iret dX7_umbrella_134 rfl ?_
        exact rr ⟨by rw [up_ne (by decide)]; exact g0 109 (by decide), by rw [up_ne (by decide), g0 108 (by decide)]; exact i11⟩ (fun q9 => absurd q9 (by omega)) (fun _ _ e e' rf hf => rf_find hI (by decide) (by decide) (fun a ha => g0 a (cr_lo ha)) (g0 108 (by decide)) rf hf) (fun _ q9 => absurd q9 (by rw [← hb]; omega))
    have key : ∀ (c : Nat) (n : Int) (p : Int × Int) (g : hT), 0 ≤ n → n + c = h 109 8 → (∀ a, a < 49 ∨ 75 < a → g a = h a) → RT g 49 (h 109) → ((-1 ≤ p.1 ∧ p.1 ≤ 60) ∧ (-1 ≤ p.2 ∧ p.2 ≤ 99999)) → bsF (umS (h 109)) (wiF (h 109) 4 1) n c p = bsF (umS (h 109)) (wiF (h 109) 4 1) 0 (h 109 8).toNat (-1, -1) → ∀ x, Yr (d + 29) mX7_umbrella 33 [vr 0, vi p.1, vi p.2, vi n, x] [] g (rI (SKn (d + 30) mX8_umbrella [vr 108])) := by
      intro c
      induction c with
      | zero =>
        intro n p g hn hc g0 gR hp hb x
        refine yr_iload_n (pq := 34) rfl dX7_umbrella_33 rfl ?_
        refine yr_aload_n (pq := 35) rfl dX7_umbrella_34 rfl ?_
        refine yr_getR (pq := 38) (b := 49) 3 rfl dX7_umbrella_35 kF_7_26 (by decide) rfl ?_
        refine yr_getI (pq := 41) 1 rfl dX7_umbrella_38 kF_7_231 (by decide) rfl (tw_c (by decide)) ?_
        rw [gR.1]
        refine yr_ic_ge (pq := 44) (t := 121) rfl dX7_umbrella_41 rfl (by omega) (by omega) (fun _ => ?_) (fun q9 => absurd (by omega) q9)
        exact fin p g g0 hb hp _ _
      | succ c ih =>
        intro n p g hn hc g0 gR hp hb x
        have n1 : n < h 109 8 := by omega
        have eo : ∀ j, j ≠ 53 + 5 * n + 4 → ur (h 109) (53 + 5 * n + 4) 1 j = h 109 j := fun j q => ur_o q
        obtain ⟨o0, o3, o4, o5⟩ := rt_okst gR i2 hn n1
        have v4 := (gR.2.2.2.2 n hn n1).2.2.2.2
        rw [bsF] at hb
        refine yr_iload_n (pq := 34) rfl dX7_umbrella_33 rfl ?_
        refine yr_aload_n (pq := 35) rfl dX7_umbrella_34 rfl ?_
        refine yr_getR (pq := 38) (b := 49) 3 rfl dX7_umbrella_35 kF_7_26 (by decide) rfl ?_
        refine yr_getI (pq := 41) 1 rfl dX7_umbrella_38 kF_7_231 (by decide) rfl (tw_c (by decide)) ?_
        rw [gR.1]
        refine yr_ic_ge (pq := 44) (t := 121) rfl dX7_umbrella_41 rfl (by omega) (by omega) (fun q9 => absurd q9 (by omega)) (fun _ => ?_)
        refine yr_aload_n (pq := 45) rfl dX7_umbrella_44 rfl ?_
        refine yr_getR (pq := 48) (b := 49) 3 rfl dX7_umbrella_45 kF_7_26 (by decide) rfl ?_
        refine yr_getR (pq := 51) 0 rfl dX7_umbrella_48 kF_7_84 (tw_c (by decide)) (fr_6_0 (by decide)) ?_
        refine yr_iload_n (pq := 52) rfl dX7_umbrella_51 rfl ?_
        refine yr_aald (pq := 53) rfl dX7_umbrella_52 (tw_k1 (by decide)) (by decide) (by omega) (st_q (by decide) (by omega) (by omega)) ?_
        refine yr_astore4 (pq := 55) rfl dX7_umbrella_53 ?_
        refine yr_aload (pq := 57) rfl dX7_umbrella_55 rfl ?_
        refine yr_getI (pq := 60) 4 rfl dX7_umbrella_57 kF_7_112 (by decide) rfl (st_c (by decide) (by omega) (by omega)) ?_
        rw [v4] at o4 ⊢
        refine yr_if_ne (pq := 63) (t := 115) rfl dX7_umbrella_60 rfl (by omega) (fun q2 => ?_) (fun q2 => ?_)
        · rw [if_pos (show umS (h 109) n = true by unfold umS; rw [decide_eq_true_eq]; omega)] at hb
          refine yr_iinc3 (pq := 118) rfl dX7_umbrella_115 ?_
          refine yr_goto (t := 33) dX7_umbrella_118 rfl ?_
          exact ih _ p g (by omega) (by omega) g0 gR hp hb _
        · rw [if_neg (show ¬ umS (h 109) n = true by unfold umS; rw [decide_eq_true_eq]; omega)] at hb
          have gU : RT (up g (49 + 6 + n) 4 1) 49 (ur (h 109) (53 + 5 * n + 4) 1) := RT_st gR i2 hn n1 (by decide)
          have gu : ∀ a, a < 49 ∨ 75 < a → up g (49 + 6 + n) 4 1 a = h a := fun a ha => by rw [up_ne (by omega)]; exact g0 a ha
          refine yr_aload (pq := 65) rfl dX7_umbrella_63 rfl ?_
          refine yr_iconst (pq := 66) rfl dX7_umbrella_65 ?_
          refine yr_putI (pq := 69) 4 rfl dX7_umbrella_66 kF_7_112 (by decide) rfl rfl (st_c (by decide) (by omega) (by omega)) ?_
          refine yr_aload_n (pq := 70) rfl dX7_umbrella_69 rfl ?_
          refine yr_aload_n (pq := 71) rfl dX7_umbrella_70 rfl ?_
          refine yr_getR (pq := 74) (b := 49) 3 rfl dX7_umbrella_71 kF_7_26 (by decide) rfl ?_
          refine yr_aload_n (pq := 75) rfl dX7_umbrella_74 rfl ?_
          refine yr_getR (pq := 78) (b := 1) 0 rfl dX7_umbrella_75 kF_7_10 (by decide) rfl ?_
          refine yr_getR (pq := 81) (b := 22) 1 rfl dX7_umbrella_78 kF_7_135 (by decide) rfl ?_
          refine yr_getI (pq := 84) 1 rfl dX7_umbrella_81 kF_7_139 (by decide) rfl (by decide) ?_
          refine yr_iconst (pq := 85) rfl dX7_umbrella_84 ?_
          rw [gu 22 (by decide), i1.2.2.1]
          refine yr_vV3 (pq := 88) rfl dX7_umbrella_85 kM_7_215 (by decide) (by decide) cat0 (c_seekRounds (N := ur (h 109) (53 + 5 * n + 4) 1) (T := 49) (w := -1) (by decide) gU (okT_chg i2 hn n1 (by decide)) (okS_hi i3 (by omega)) (eo 44 (by omega)) (by rw [gu 23 (by decide), eo 45 (by omega), eo 46 (by omega), eo 47 (by omega), eo 48 (by omega)]; exact i1.2.1) (by rw [gu 22 (by decide), eo 49 (by omega)]; exact i1.2.2.2.1) (by rw [gu 22 (by decide), eo 50 (by omega)]; exact i1.2.2.2.2.1) (by rw [gu 22 (by decide), eo 51 (by omega)]; exact i1.2.2.2.2.2.1) (by decide) (by rw [eo 50 (by omega)]; exact i3') (fun f f0 f2 => ?_))
          have lb := fnd_ok f2.2.2.2.2.2.2.1
          have lb' : -1 ≤ wiF (h 109) 4 1 n ∧ wiF (h 109) 4 1 n ≤ 99999 := lb
          have fl : up f (49 + 6 + n) 4 0 69 13 = wiF (h 109) 4 1 n := by rw [up_ne (by omega)]; exact f2.2.1
          have fs : ∀ a, a < 49 ∨ 75 < a → up f (49 + 6 + n) 4 0 a = h a := fun a ha => by rw [up_ne (by omega), f0 a (by omega)]; exact gu a ha
          have fR : RT (up f (49 + 6 + n) 4 0) 49 (h 109) := by
            have z := RT_st (s := n) (j := 4) (z := 0) (RT_cong gU (okT_chg i2 hn n1 (by decide)) (fun j j0 j1 j2 => f0 _ (by omega))) (okT_chg i2 hn n1 (by decide)) hn (by rw [eo 8 (by omega)]; exact n1) (by decide)
            rw [ur_ur] at z
            have e0 : (0 : Int) = h 109 (53 + 5 * n + 4) := by omega
            have z2 : ur (h 109) (53 + 5 * n + 4) 0 = h 109 := by
              have := ur_id (h 109) (53 + 5 * n + 4)
              rw [← e0] at this
              exact this
            rw [z2] at z
            exact z
          have pb := pr_b (sk := nosk) hp (show 0 ≤ n ∧ n ≤ 60 by omega) lb'
          rw [if_neg (show ¬ nosk n = true from Bool.false_ne_true)] at pb
          have nx := ih (n + 1) (if p.2 < wiF (h 109) 4 1 n then (n, wiF (h 109) 4 1 n) else p) (up f (49 + 6 + n) 4 0) (by omega) (by omega) fs fR pb hb
          refine yr_aload (pq := 90) rfl dX7_umbrella_88 rfl ?_
          refine yr_iconst (pq := 91) rfl dX7_umbrella_90 ?_
          refine yr_putI (pq := 94) 4 rfl dX7_umbrella_91 kF_7_112 (by decide) rfl rfl (st_c (by decide) (by omega) (by omega)) ?_
          refine yr_aload_n (pq := 95) rfl dX7_umbrella_94 rfl ?_
          refine yr_getR (pq := 98) (b := 69) 4 rfl dX7_umbrella_95 kF_7_33 (by decide) rfl ?_
          refine yr_getI (pq := 101) 13 rfl dX7_umbrella_98 kF_7_193 (by decide) rfl (by decide) ?_
          refine yr_iload_n (pq := 102) rfl dX7_umbrella_101 rfl ?_
          rw [fl]
          refine yr_ic_le (pq := 105) (t := 115) rfl dX7_umbrella_102 rfl (by omega) (by omega) (fun q3 => ?_) (fun q3 => ?_)
          · rw [if_neg (by omega)] at nx
            refine yr_iinc3 (pq := 118) rfl dX7_umbrella_115 ?_
            refine yr_goto (t := 33) dX7_umbrella_118 rfl ?_
            exact nx _
          · rw [if_pos (by omega)] at nx
            refine yr_aload_n (pq := 106) rfl dX7_umbrella_105 rfl ?_
            refine yr_getR (pq := 109) (b := 69) 4 rfl dX7_umbrella_106 kF_7_33 (by decide) rfl ?_
            refine yr_getI (pq := 112) 13 rfl dX7_umbrella_109 kF_7_193 (by decide) rfl (by decide) ?_
            refine yr_istore2 (pq := 113) rfl dX7_umbrella_112 ?_
            refine yr_iload_n (pq := 114) rfl dX7_umbrella_113 rfl ?_
            refine yr_istore1 (pq := 115) rfl dX7_umbrella_114 ?_
            refine yr_iinc3 (pq := 118) rfl dX7_umbrella_115 ?_
            refine yr_goto (t := 33) dX7_umbrella_118 rfl ?_
            rw [fl]
            exact nx _
    refine yr_if_eq (pq := 7) (t := 13) rfl dX7_umbrella_4 rfl (by decide) (fun _ => ?_) (fun q9 => absurd (by decide) q9)
    refine yr_iconst (pq := 14) rfl dX7_umbrella_13 ?_
    refine yr_istore1 (pq := 15) rfl dX7_umbrella_14 ?_
    refine yr_iconst (pq := 16) rfl dX7_umbrella_15 ?_
    refine yr_istore2 (pq := 17) rfl dX7_umbrella_16 ?_
    refine yr_aload_n (pq := 18) rfl dX7_umbrella_17 rfl ?_
    refine yr_getR (pq := 21) (b := 49) 3 rfl dX7_umbrella_18 kF_7_26 (by decide) rfl ?_
    refine yr_aload_n (pq := 22) rfl dX7_umbrella_21 rfl ?_
    refine yr_getR (pq := 25) (b := 1) 0 rfl dX7_umbrella_22 kF_7_10 (by decide) rfl ?_
    refine yr_getR (pq := 28) (b := 2) 0 rfl dX7_umbrella_25 kF_7_70 (by decide) rfl ?_
    refine yr_vV1 (pq := 31) rfl dX7_umbrella_28 kM_7_227 (by decide) (tw_c (by decide)) cat0 (c_twTake (T := 49) (U := 2) (N := h 109) (by decide) (by decide) (by decide) i1.1 i2 (fun f f0 f1 => ?_))
    refine yr_iconst (pq := 32) rfl dX7_umbrella_31 ?_
    refine yr_istore3 (pq := 33) rfl dX7_umbrella_32 ?_
    exact key (h 109 8).toNat 0 (-1, -1) f (by omega) (by omega) (fun a ha => f0 a (by omega)) f1 (by decide) rfl _
theorem noS_ok {N : Int → Int} : ∀ s, 0 ≤ s → s < N 8 → (nosk s = true ↔ ((1 : Int) = 0 ∧ N (53 + 5 * s + 0) = 1)) := fun s _ _ => ⟨fun q => absurd q Bool.false_ne_true, fun q => absurd q.1 (by decide)⟩
theorem s_shade (hI : Inv h) : Sm (d + 30) mX7_shade mX8_shade [] h := by
  have hI0 := hI
  obtain ⟨⟨i1, i2, i3, i3'⟩, -, -, -, -, -, i11⟩ := hI0
  have h8 := i2.1
  have hm := i3.2.2.1
  have rr : ∀ {K : Int → hT → Prop} {f : hT}, RB f (h 109) → (700 < h 109 50 → ∀ e, FD (-1000005) f e → K (-1000005) e) → (h 109 50 ≤ 700 → (bsF nosk (wiF (h 109) 0 1) 0 (h 109 8).toNat (-1, -1)).1 < 0 → ∀ e e', RF f e → FD (-1000004) e e' → K (-1000004) e') → (h 109 50 ≤ 700 → 0 ≤ (bsF nosk (wiF (h 109) 0 1) 0 (h 109 8).toNat (-1, -1)).1 → ∀ e, RF f e → K (bsF nosk (wiF (h 109) 0 1) 0 (h 109 8).toNat (-1, -1)).1 e) → ClI (d + 30) mX8_shade [vr 108] f K := by
    intro K f hB k0 k1 k2
    refine cl_in (al := [vr 108]) rfl (Nat.le_of_ble_eq_true rfl) (by simp [vi_cat, vr_cat, vs_cat]) ?_
    refine yr_aload_n (pq := 1) rfl dX8_shade_0 rfl ?_
    refine yr_iconst (pq := 2) rfl dX8_shade_1 ?_
    refine yr_iconst (pq := 3) rfl dX8_shade_2 ?_
    refine yr_iconst (pq := 4) rfl dX8_shade_3 ?_
    refine yr_vI3 (pq := 7) rfl dX8_shade_4 kM_8_238 (by decide) (by decide) cat0 (r_bestWith hB i2 i3 i3' (by decide) (by decide) noS_ok (fun q e hf => ?_) (fun q q2 e e' rf hf => ?_) (fun q q2 e rf => ?_))
    · exact yr_iret dX8_shade_7 rfl (k0 q e hf)
    · exact yr_iret dX8_shade_7 rfl (k1 q q2 e e' rf hf)
    · exact yr_iret dX8_shade_7 rfl (k2 q q2 e rf)
  show ClI (d + 30) mX7_shade [vr 0] h (SKn (d + 30) mX8_shade [vr 108])
  refine cl_in (al := [vr 0, .null, .null, .null, .null, .null]) rfl (Nat.le_of_ble_eq_true rfl) (by simp [vi_cat, vr_cat, vs_cat]) ?_
  refine yr_aload_n (pq := 1) rfl dX7_shade_0 rfl ?_
  refine yr_vI0 (pq := 4) rfl dX7_shade_1 kM_7_212 (by decide) (by decide) cat0 (c_isPast i1 i3 (fun q1 => ?_) (fun q1 => ?_))
  · refine yr_if_eq (pq := 7) (t := 13) rfl dX7_shade_4 rfl (by decide) (fun q9 => absurd q9 (by decide)) (fun _ => ?_)
    refine yr_aload_n (pq := 8) rfl dX7_shade_7 rfl ?_
    refine yr_iconst (pq := 9) rfl dX7_shade_8 ?_
    refine yr_vI1 (pq := 12) rfl dX7_shade_9 kM_7_66 (by decide) (by decide) cat0 (c_finding (by decide) ?_)
    exact yr_iret dX7_shade_12 rfl (rr (rb_u hI (by decide) (by decide)) (fun _ e hf => fd_end hI (by decide) (by decide) hf) (fun q9 => absurd q9 (by omega)) (fun q9 => absurd q9 (by omega)))
  · have fin : ∀ (p : Int × Int) (g : hT), (∀ a, a < 49 ∨ 75 < a → g a = h a) → p = bsF nosk (wiF (h 109) 0 1) 0 (h 109 8).toNat (-1, -1) → ((-1 ≤ p.1 ∧ p.1 ≤ 60) ∧ (-1 ≤ p.2 ∧ p.2 ≤ 99999)) → ∀ x y z, Yr (d + 29) mX7_shade 121 [vr 0, vi p.1, vi p.2, x, y, z] [] g (rI (SKn (d + 30) mX8_shade [vr 108])) := by
      intro p g g0 hb hp x y z
      refine yr_iload_n (pq := 122) rfl dX7_shade_121 rfl ?_
      refine yr_if_ge (pq := 125) (t := 133) rfl dX7_shade_122 rfl (by omega) (fun q2 => ?_) (fun q2 => ?_)
      · refine yr_iload_n (pq := 134) rfl dX7_shade_133 rfl ?_
        refine yr_iret dX7_shade_134 rfl ?_
        exact rr ⟨g0 109 (by decide), by rw [g0 108 (by decide)]; exact i11⟩ (fun q9 => absurd q9 (by omega)) (fun _ q9 => absurd q9 (by rw [← hb]; omega)) (fun _ _ e rf => ⟨by rw [hb], Inv_rf hI (fun a ha => g0 a (cr_lo ha)) (g0 108 (by decide)) rf⟩)
      · refine yr_aload_n (pq := 126) rfl dX7_shade_125 rfl ?_
        refine yr_iconst (pq := 127) rfl dX7_shade_126 ?_
        refine yr_vI1 (pq := 130) rfl dX7_shade_127 kM_7_66 (by decide) (by decide) cat0 (c_finding (by decide) ?_)
        refine yr_goto (t := 134) dX7_shade_130 rfl ?_
        refine yr_iret dX7_shade_134 rfl ?_
        exact rr ⟨by rw [up_ne (by decide)]; exact g0 109 (by decide), by rw [up_ne (by decide), g0 108 (by decide)]; exact i11⟩ (fun q9 => absurd q9 (by omega)) (fun _ _ e e' rf hf => rf_find hI (by decide) (by decide) (fun a ha => g0 a (cr_lo ha)) (g0 108 (by decide)) rf hf) (fun _ q9 => absurd q9 (by rw [← hb]; omega))
    have key : ∀ (c : Nat) (n : Int) (p : Int × Int) (g : hT), 0 ≤ n → n + c = h 109 8 → (∀ a, a < 49 ∨ 75 < a → g a = h a) → RT g 49 (h 109) → ((-1 ≤ p.1 ∧ p.1 ≤ 60) ∧ (-1 ≤ p.2 ∧ p.2 ≤ 99999)) → bsF nosk (wiF (h 109) 0 1) n c p = bsF nosk (wiF (h 109) 0 1) 0 (h 109 8).toNat (-1, -1) → ∀ x y, Yr (d + 29) mX7_shade 33 [vr 0, vi p.1, vi p.2, vi n, x, y] [] g (rI (SKn (d + 30) mX8_shade [vr 108])) := by
      intro c
      induction c with
      | zero =>
        intro n p g hn hc g0 gR hp hb x y
        refine yr_iload_n (pq := 34) rfl dX7_shade_33 rfl ?_
        refine yr_aload_n (pq := 35) rfl dX7_shade_34 rfl ?_
        refine yr_getR (pq := 38) (b := 49) 3 rfl dX7_shade_35 kF_7_26 (by decide) rfl ?_
        refine yr_getI (pq := 41) 1 rfl dX7_shade_38 kF_7_231 (by decide) rfl (tw_c (by decide)) ?_
        rw [gR.1]
        refine yr_ic_ge (pq := 44) (t := 121) rfl dX7_shade_41 rfl (by omega) (by omega) (fun _ => ?_) (fun q9 => absurd (by omega) q9)
        exact fin p g g0 hb hp _ _ _
      | succ c ih =>
        intro n p g hn hc g0 gR hp hb x y
        have n1 : n < h 109 8 := by omega
        have eo : ∀ j, j ≠ 53 + 5 * n + 0 → ur (h 109) (53 + 5 * n + 0) 1 j = h 109 j := fun j q => ur_o q
        obtain ⟨o0, o3, o4, o5⟩ := rt_okst gR i2 hn n1
        have v0 := (gR.2.2.2.2 n hn n1).1
        rw [bsF, if_neg (show ¬ nosk n = true from Bool.false_ne_true)] at hb
        refine yr_iload_n (pq := 34) rfl dX7_shade_33 rfl ?_
        refine yr_aload_n (pq := 35) rfl dX7_shade_34 rfl ?_
        refine yr_getR (pq := 38) (b := 49) 3 rfl dX7_shade_35 kF_7_26 (by decide) rfl ?_
        refine yr_getI (pq := 41) 1 rfl dX7_shade_38 kF_7_231 (by decide) rfl (tw_c (by decide)) ?_
        rw [gR.1]
        refine yr_ic_ge (pq := 44) (t := 121) rfl dX7_shade_41 rfl (by omega) (by omega) (fun q9 => absurd q9 (by omega)) (fun _ => ?_)
        have gU : RT (up g (49 + 6 + n) 0 1) 49 (ur (h 109) (53 + 5 * n + 0) 1) := RT_st gR i2 hn n1 (by decide)
        have gu : ∀ a, a < 49 ∨ 75 < a → up g (49 + 6 + n) 0 1 a = h a := fun a ha => by rw [up_ne (by omega)]; exact g0 a ha
        refine yr_aload_n (pq := 45) rfl dX7_shade_44 rfl ?_
        refine yr_getR (pq := 48) (b := 49) 3 rfl dX7_shade_45 kF_7_26 (by decide) rfl ?_
        refine yr_getR (pq := 51) 0 rfl dX7_shade_48 kF_7_84 (tw_c (by decide)) (fr_6_0 (by decide)) ?_
        refine yr_iload_n (pq := 52) rfl dX7_shade_51 rfl ?_
        refine yr_aald (pq := 53) rfl dX7_shade_52 (tw_k1 (by decide)) (by decide) (by omega) (st_q (by decide) (by omega) (by omega)) ?_
        refine yr_astore4 (pq := 55) rfl dX7_shade_53 ?_
        refine yr_aload (pq := 57) rfl dX7_shade_55 rfl ?_
        refine yr_getI (pq := 60) 0 rfl dX7_shade_57 kF_7_88 (by decide) rfl (st_c (by decide) (by omega) (by omega)) ?_
        refine yr_istore5 (pq := 62) rfl dX7_shade_60 ?_
        refine yr_aload (pq := 64) rfl dX7_shade_62 rfl ?_
        refine yr_iconst (pq := 65) rfl dX7_shade_64 ?_
        refine yr_putI (pq := 68) 0 rfl dX7_shade_65 kF_7_88 (by decide) rfl rfl (st_c (by decide) (by omega) (by omega)) ?_
        refine yr_aload_n (pq := 69) rfl dX7_shade_68 rfl ?_
        refine yr_aload_n (pq := 70) rfl dX7_shade_69 rfl ?_
        refine yr_getR (pq := 73) (b := 49) 3 rfl dX7_shade_70 kF_7_26 (by decide) rfl ?_
        refine yr_aload_n (pq := 74) rfl dX7_shade_73 rfl ?_
        refine yr_getR (pq := 77) (b := 1) 0 rfl dX7_shade_74 kF_7_10 (by decide) rfl ?_
        refine yr_getR (pq := 80) (b := 22) 1 rfl dX7_shade_77 kF_7_135 (by decide) rfl ?_
        refine yr_getI (pq := 83) 1 rfl dX7_shade_80 kF_7_139 (by decide) rfl (by decide) ?_
        refine yr_iconst (pq := 84) rfl dX7_shade_83 ?_
        rw [gu 22 (by decide), i1.2.2.1]
        refine yr_vV3 (pq := 87) rfl dX7_shade_84 kM_7_215 (by decide) (by decide) cat0 (c_seekRounds (N := ur (h 109) (53 + 5 * n + 0) 1) (T := 49) (w := -1) (by decide) gU (okT_chg i2 hn n1 (by decide)) (okS_hi i3 (by omega)) (eo 44 (by omega)) (by rw [gu 23 (by decide), eo 45 (by omega), eo 46 (by omega), eo 47 (by omega), eo 48 (by omega)]; exact i1.2.1) (by rw [gu 22 (by decide), eo 49 (by omega)]; exact i1.2.2.2.1) (by rw [gu 22 (by decide), eo 50 (by omega)]; exact i1.2.2.2.2.1) (by rw [gu 22 (by decide), eo 51 (by omega)]; exact i1.2.2.2.2.2.1) (by decide) (by rw [eo 50 (by omega)]; exact i3') (fun f f0 f2 => ?_))
        rw [v0]
        have lb := fnd_ok f2.2.2.2.2.2.2.1
        have lb' : -1 ≤ wiF (h 109) 0 1 n ∧ wiF (h 109) 0 1 n ≤ 99999 := lb
        have fl : ∀ z, up f (49 + 6 + n) 0 z 69 13 = wiF (h 109) 0 1 n := fun z => by rw [up_ne (by omega)]; exact f2.2.1
        have fs : ∀ z a, a < 49 ∨ 75 < a → up f (49 + 6 + n) 0 z a = h a := fun z a ha => by rw [up_ne (by omega), f0 a (by omega)]; exact gu a ha
        have fR : RT (up f (49 + 6 + n) 0 (h 109 (53 + 5 * n + 0))) 49 (h 109) := by
          have z := RT_st (s := n) (j := 0) (z := h 109 (53 + 5 * n + 0)) (RT_cong gU (okT_chg i2 hn n1 (by decide)) (fun j j0 j1 j2 => f0 _ (by omega))) (okT_chg i2 hn n1 (by decide)) hn (by rw [eo 8 (by omega)]; exact n1) (by decide)
          rw [ur_ur, ur_id] at z
          exact z
        have pb := pr_b (sk := nosk) hp (show 0 ≤ n ∧ n ≤ 60 by omega) lb'
        rw [if_neg (show ¬ nosk n = true from Bool.false_ne_true)] at pb
        have nx := ih (n + 1) (if p.2 < wiF (h 109) 0 1 n then (n, wiF (h 109) 0 1 n) else p) _ (by omega) (by omega) (fs _) fR pb hb
        refine yr_aload (pq := 89) rfl dX7_shade_87 rfl ?_
        refine yr_iload (pq := 91) rfl dX7_shade_89 rfl ?_
        refine yr_putI (pq := 94) 0 rfl dX7_shade_91 kF_7_88 (by decide) rfl rfl (st_c (by decide) (by omega) (by omega)) ?_
        refine yr_aload_n (pq := 95) rfl dX7_shade_94 rfl ?_
        refine yr_getR (pq := 98) (b := 69) 4 rfl dX7_shade_95 kF_7_33 (by decide) rfl ?_
        refine yr_getI (pq := 101) 13 rfl dX7_shade_98 kF_7_193 (by decide) rfl (by decide) ?_
        refine yr_iload_n (pq := 102) rfl dX7_shade_101 rfl ?_
        rw [fl]
        refine yr_ic_le (pq := 105) (t := 115) rfl dX7_shade_102 rfl (by omega) (by omega) (fun q3 => ?_) (fun q3 => ?_)
        · rw [if_neg (by omega)] at nx
          refine yr_iinc3 (pq := 118) rfl dX7_shade_115 ?_
          refine yr_goto (t := 33) dX7_shade_118 rfl ?_
          exact nx _ _
        · rw [if_pos (by omega)] at nx
          refine yr_aload_n (pq := 106) rfl dX7_shade_105 rfl ?_
          refine yr_getR (pq := 109) (b := 69) 4 rfl dX7_shade_106 kF_7_33 (by decide) rfl ?_
          refine yr_getI (pq := 112) 13 rfl dX7_shade_109 kF_7_193 (by decide) rfl (by decide) ?_
          refine yr_istore2 (pq := 113) rfl dX7_shade_112 ?_
          refine yr_iload_n (pq := 114) rfl dX7_shade_113 rfl ?_
          refine yr_istore1 (pq := 115) rfl dX7_shade_114 ?_
          refine yr_iinc3 (pq := 118) rfl dX7_shade_115 ?_
          refine yr_goto (t := 33) dX7_shade_118 rfl ?_
          rw [fl]
          exact nx _ _
    refine yr_if_eq (pq := 7) (t := 13) rfl dX7_shade_4 rfl (by decide) (fun _ => ?_) (fun q9 => absurd (by decide) q9)
    refine yr_iconst (pq := 14) rfl dX7_shade_13 ?_
    refine yr_istore1 (pq := 15) rfl dX7_shade_14 ?_
    refine yr_iconst (pq := 16) rfl dX7_shade_15 ?_
    refine yr_istore2 (pq := 17) rfl dX7_shade_16 ?_
    refine yr_aload_n (pq := 18) rfl dX7_shade_17 rfl ?_
    refine yr_getR (pq := 21) (b := 49) 3 rfl dX7_shade_18 kF_7_26 (by decide) rfl ?_
    refine yr_aload_n (pq := 22) rfl dX7_shade_21 rfl ?_
    refine yr_getR (pq := 25) (b := 1) 0 rfl dX7_shade_22 kF_7_10 (by decide) rfl ?_
    refine yr_getR (pq := 28) (b := 2) 0 rfl dX7_shade_25 kF_7_70 (by decide) rfl ?_
    refine yr_vV1 (pq := 31) rfl dX7_shade_28 kM_7_227 (by decide) (tw_c (by decide)) cat0 (c_twTake (T := 49) (U := 2) (N := h 109) (by decide) (by decide) (by decide) i1.1 i2 (fun f f0 f1 => ?_))
    refine yr_iconst (pq := 32) rfl dX7_shade_31 ?_
    refine yr_istore3 (pq := 33) rfl dX7_shade_32 ?_
    exact key (h 109 8).toNat 0 (-1, -1) f (by omega) (by omega) (fun a ha => f0 a (by omega)) f1 (by decide) rfl _ _
end S28
