/-! sheet, write -/
theorem Inv_sh {h e : hT} (hI : Inv h) (c : ∀ a, CR a → (a < 100 ∨ 107 < a) → a ≠ 119 → a ≠ 120 → a ≠ 121 → e a = h a) (e8 : ∀ j, j = 3 ∨ j = 5 ∨ j = 16 → e 108 j = h 108 j) (sh : ∀ s, 0 ≤ s → s < 4 → shI e s) : Inv e := by
  have key : Inv (fun a => if (100 ≤ a ∧ a ≤ 108) ∨ (119 ≤ a ∧ a ≤ 121) then h a else e a) := by
    refine Inv_fr hI (fun a ha => ?_) rfl rfl rfl
    by_cases q : (100 ≤ a ∧ a ≤ 108) ∨ (119 ≤ a ∧ a ≤ 121)
    · simp only [if_pos q]
    · simp only [if_neg q]
      exact c a ha (by omega) (by omega) (by omega) (by omega)
  have w : ∀ a : Int, ¬ ((100 ≤ a ∧ a ≤ 108) ∨ (119 ≤ a ∧ a ≤ 121)) → (if (100 ≤ a ∧ a ≤ 108) ∨ (119 ≤ a ∧ a ≤ 121) then h a else e a) = e a := fun a ha => by
    rw [if_neg ha]
  obtain ⟨⟨j1, j2, j3⟩, ⟨k4, k5, k6⟩, j7, j8, j9, -, j11⟩ := key
  refine ⟨⟨RS1_fr j1 j2 (fun a ha => (w a (by omega)).symm), j2, j3⟩, ⟨?_, k5, fun q => ?_⟩, j7, j8, ⟨?_, j9.2⟩, sh, ?_⟩
  · rw [e8 3 (by omega)]; exact k4
  · obtain ⟨m1, m2, m3⟩ := k6 q
    exact ⟨RS2_fr m1 m2 (fun a ha => (w a (by omega)).symm), m2, m3⟩
  · rw [e8 16 (by omega)]; exact j9.1
  · rw [e8 5 (by omega)]; exact j11
theorem Inv_s {h : hT} (hI : Inv h) {s : Int} (s0 : 0 ≤ s) (s1 : s < 4) : shI h s := hI.2.2.2.2.2.1 s s0 s1
section S21
variable {d : Nat} {h : hT} {K : Int → hT → Prop}
def gdB (s b : Int) : Prop := (0 ≤ s ∧ s ≤ 3) ∧ (b = 0 ∨ b = 8 ∨ b = 16 ∨ b = 32)
theorem r_sheet {s b n : Int} (hs : -2147483648 ≤ s ∧ s ≤ 2147483647) (hb : -2147483648 ≤ b ∧ b ≤ 2147483647) (hn : -2147483648 ≤ n ∧ n ≤ 2147483647) (k0 : ¬ (gdB s b ∧ n ≤ 40) → ¬ (gdB s b ∧ n < 0) → ∀ e, FD (-1000001) h e → K (-1000001) e) (k1 : gdB s b → n < 0 → ∀ e, FD (-1000007) h e → K (-1000007) e)
    (k2 : gdB s b → (0 ≤ n ∧ n ≤ 40) → ∀ e, (∀ c, c ≠ 119 → c ≠ 120 → c ≠ 121 → e c = h c) → e 119 = ur (h 119) s b → e 120 = ur (h 120) s (if b = 0 then 0 else n) → (∀ j, 40 * s ≤ j → j < 40 * s + 40 → e 121 j = 0) → (∀ j, (j < 40 * s ∨ 40 * s + 40 ≤ j) → e 121 j = h 121 j) → K (if b = 0 then 0 else n) e) : ClI (d + 3) mX8_sheet [vr 108, vi s, vi b, vi n] h K := by
  have bad : ¬ gdB s b → Yr (d + 2) mX8_sheet 29 [vr 108, vi s, vi b, vi n, .null] [] h (rI K) := by
    intro no
    refine yr_aload_n (pq := 30) rfl dX8_sheet_29 rfl ?_
    refine yr_ldc (pq := 32) rfl dX8_sheet_30 kN_8_73 ?_
    refine yr_vI1 (pq := 35) rfl dX8_sheet_32 kM_8_101 (by decide) (by decide) cat0 (r_fnd (by decide) (fun e hf => ?_))
    exact yr_iret dX8_sheet_35 rfl (k0 (fun q => no q.1) (fun q => no q.1) e hf)
  have p86 : gdB s b → (0 ≤ n ∧ n ≤ 40) → ∀ (m : Nat) (i : Int) (g : hT), 0 ≤ i → i + m = 40 → (∀ c, c ≠ 119 → c ≠ 120 → c ≠ 121 → g c = h c) → g 119 = ur (h 119) s b → g 120 = ur (h 120) s (if b = 0 then 0 else n) → (∀ j, 40 * s ≤ j → j < 40 * s + i → g 121 j = 0) → (∀ j, (j < 40 * s ∨ 40 * s + i ≤ j) → g 121 j = h 121 j) → Yr (d + 2) mX8_sheet 86 [vr 108, vi s, vi b, vi n, vi i] [] g (rI K) := by
    intro gd hn' m
    have gs := gd.1
    induction m with
    | zero =>
      intro i g hi hm g0 g1 g2 g3 g4
      have hi : i = 40 := by omega
      subst hi
      refine yr_iload (pq := 88) rfl dX8_sheet_86 rfl ?_
      refine yr_bipush (pq := 90) rfl dX8_sheet_88 rfl ?_
      refine yr_ic_ge (pq := 93) (t := 112) rfl dX8_sheet_90 rfl (by omega) (by omega) (fun _ => ?_) (fun q9 => absurd (by omega) q9)
      refine yr_aload_n (pq := 113) rfl dX8_sheet_112 rfl ?_
      refine yr_getR (pq := 116) (b := 120) 28 rfl dX8_sheet_113 kF_8_64 (by decide) rfl ?_
      refine yr_iload_n (pq := 117) rfl dX8_sheet_116 rfl ?_
      refine yr_iald (pq := 118) rfl dX8_sheet_117 rfl (by decide) (by omega) ?_
      rw [g2, ur_s]
      exact yr_iret dX8_sheet_118 rfl (k2 gd hn' g g0 g1 g2 g3 g4)
    | succ m ih =>
      intro i g hi hm g0 g1 g2 g3 g4
      refine yr_iload (pq := 88) rfl dX8_sheet_86 rfl ?_
      refine yr_bipush (pq := 90) rfl dX8_sheet_88 rfl ?_
      refine yr_ic_ge (pq := 93) (t := 112) rfl dX8_sheet_90 rfl (by omega) (by omega) (fun q9 => absurd q9 (by omega)) (fun _ => ?_)
      refine yr_aload_n (pq := 94) rfl dX8_sheet_93 rfl ?_
      refine yr_getR (pq := 97) (b := 121) 29 rfl dX8_sheet_94 kF_8_67 (by decide) rfl ?_
      refine yr_bipush (pq := 99) rfl dX8_sheet_97 rfl ?_
      refine yr_iload_n (pq := 100) rfl dX8_sheet_99 rfl ?_
      refine yr_imul (pq := 101) rfl dX8_sheet_100 ?_
      refine yr_iload (pq := 103) rfl dX8_sheet_101 rfl ?_
      refine yr_iadd (pq := 104) rfl dX8_sheet_103 ?_
      refine yr_iconst (pq := 105) rfl dX8_sheet_104 ?_
      refine yr_iast (pq := 106) rfl dX8_sheet_105 rfl (by decide) (by omega) ?_
      refine yr_iinc4 (pq := 109) rfl dX8_sheet_106 ?_
      refine yr_goto (t := 86) dX8_sheet_109 rfl ?_
      refine ih _ _ (by omega) (by omega) (fun c q1 q2 q3 => by rw [up_ne q3]; exact g0 c q1 q2 q3) (by rw [up_ne (by decide)]; exact g1) (by rw [up_ne (by decide)]; exact g2) (fun j j0 j1 => ?_) (fun j hj => ?_)
      · by_cases e : j = 40 * s + i
        · subst e; rw [up_s]
        · rw [up_k e]; exact g3 j j0 (by omega)
      · rw [up_k (by omega)]; exact g4 j (by omega)
  have p36 : gdB s b → Yr (d + 2) mX8_sheet 36 [vr 108, vi s, vi b, vi n, .null] [] h (rI K) := by
    intro gd
    have gs := gd.1
    refine yr_iload_n (pq := 37) rfl dX8_sheet_36 rfl ?_
    refine yr_if_ge (pq := 40) (t := 48) rfl dX8_sheet_37 rfl (by omega) (fun q1 => ?_) (fun q1 => ?_)
    · refine yr_iload_n (pq := 49) rfl dX8_sheet_48 rfl ?_
      refine yr_bipush (pq := 51) rfl dX8_sheet_49 rfl ?_
      refine yr_ic_le (pq := 54) (t := 61) rfl dX8_sheet_51 rfl (by omega) (by omega) (fun q2 => ?_) (fun q2 => ?_)
      · have p86 := p86 gd (by omega) 40 0
        refine yr_aload_n (pq := 62) rfl dX8_sheet_61 rfl ?_
        refine yr_getR (pq := 65) (b := 119) 27 rfl dX8_sheet_62 kF_8_61 (by decide) rfl ?_
        refine yr_iload_n (pq := 66) rfl dX8_sheet_65 rfl ?_
        refine yr_iload_n (pq := 67) rfl dX8_sheet_66 rfl ?_
        refine yr_iast (pq := 68) rfl dX8_sheet_67 rfl (by decide) (by omega) ?_
        refine yr_aload_n (pq := 69) rfl dX8_sheet_68 rfl ?_
        refine yr_getR (pq := 72) (b := 120) 28 rfl dX8_sheet_69 kF_8_64 (by decide) rfl ?_
        refine yr_iload_n (pq := 73) rfl dX8_sheet_72 rfl ?_
        refine yr_iload_n (pq := 74) rfl dX8_sheet_73 rfl ?_
        refine yr_if_ne (pq := 77) (t := 81) rfl dX8_sheet_74 rfl (by omega) (fun q3 => ?_) (fun q3 => ?_)
        · rw [if_neg q3] at p86
          refine yr_iload_n (pq := 82) rfl dX8_sheet_81 rfl ?_
          refine yr_iast (pq := 83) rfl dX8_sheet_82 rfl (by decide) (by omega) ?_
          refine yr_iconst (pq := 84) rfl dX8_sheet_83 ?_
          refine yr_istore4 (pq := 86) rfl dX8_sheet_84 ?_
          exact p86 _ (by omega) (by omega) (fun c c1 c2 c3 => by rw [up_ne c2, up_ne c1]) (by rw [up_ne (by decide), up_row]) (by rw [up_row, up_ne (by decide)]) (fun j j0 j1 => by omega) (fun j _ => by rw [up_ne (by decide), up_ne (by decide)])
        · rw [if_pos q3] at p86
          refine yr_iconst (pq := 78) rfl dX8_sheet_77 ?_
          refine yr_goto (t := 82) dX8_sheet_78 rfl ?_
          refine yr_iast (pq := 83) rfl dX8_sheet_82 rfl (by decide) (by omega) ?_
          refine yr_iconst (pq := 84) rfl dX8_sheet_83 ?_
          refine yr_istore4 (pq := 86) rfl dX8_sheet_84 ?_
          exact p86 _ (by omega) (by omega) (fun c c1 c2 c3 => by rw [up_ne c2, up_ne c1]) (by rw [up_ne (by decide), up_row]) (by rw [up_row, up_ne (by decide)]) (fun j j0 j1 => by omega) (fun j _ => by rw [up_ne (by decide), up_ne (by decide)])
      · refine yr_aload_n (pq := 55) rfl dX8_sheet_54 rfl ?_
        refine yr_ldc (pq := 57) rfl dX8_sheet_55 kN_8_73 ?_
        refine yr_vI1 (pq := 60) rfl dX8_sheet_57 kM_8_101 (by decide) (by decide) cat0 (r_fnd (by decide) (fun e hf => ?_))
        exact yr_iret dX8_sheet_60 rfl (k0 (by omega) (by omega) e hf)
    · refine yr_aload_n (pq := 41) rfl dX8_sheet_40 rfl ?_
      refine yr_ldc_w (pq := 44) rfl dX8_sheet_41 kN_8_344 ?_
      refine yr_vI1 (pq := 47) rfl dX8_sheet_44 kM_8_101 (by decide) (by decide) cat0 (r_fnd (by decide) (fun e hf => ?_))
      exact yr_iret dX8_sheet_47 rfl (k1 gd (by omega) e hf)
  unfold gdB at bad p36
  refine cl_in (al := [vr 108, vi s, vi b, vi n, .null]) rfl (Nat.le_of_ble_eq_true rfl) (by simp [vi_cat, vr_cat, vs_cat]) ?_
  refine yr_iload_n (pq := 1) rfl dX8_sheet_0 rfl ?_
  refine yr_sI1 (pq := 4) rfl dX8_sheet_1 kM_8_341 (by decide) cat0 (m_isSheet hs (fun q1 => ?_) (fun q1 => ?_))
  · refine yr_if_eq (pq := 7) (t := 29) rfl dX8_sheet_4 rfl (by decide) (fun q9 => absurd q9 (by decide)) (fun _ => ?_)
    refine yr_iload_n (pq := 8) rfl dX8_sheet_7 rfl ?_
    refine yr_if_eq (pq := 11) (t := 36) rfl dX8_sheet_8 rfl (by omega) (fun q2 => ?_) (fun q2 => ?_)
    · exact p36 (by omega)
    · refine yr_iload_n (pq := 12) rfl dX8_sheet_11 rfl ?_
      refine yr_bipush (pq := 14) rfl dX8_sheet_12 rfl ?_
      refine yr_ic_eq (pq := 17) (t := 36) rfl dX8_sheet_14 rfl (by omega) (by omega) (fun q3 => ?_) (fun q3 => ?_)
      · exact p36 (by omega)
      · refine yr_iload_n (pq := 18) rfl dX8_sheet_17 rfl ?_
        refine yr_bipush (pq := 20) rfl dX8_sheet_18 rfl ?_
        refine yr_ic_eq (pq := 23) (t := 36) rfl dX8_sheet_20 rfl (by omega) (by omega) (fun q4 => ?_) (fun q4 => ?_)
        · exact p36 (by omega)
        · refine yr_iload_n (pq := 24) rfl dX8_sheet_23 rfl ?_
          refine yr_bipush (pq := 26) rfl dX8_sheet_24 rfl ?_
          refine yr_ic_eq (pq := 29) (t := 36) rfl dX8_sheet_26 rfl (by omega) (by omega) (fun q5 => ?_) (fun q5 => ?_)
          · exact p36 (by omega)
          · exact bad (by omega)
  · refine yr_if_eq (pq := 7) (t := 29) rfl dX8_sheet_4 rfl (by decide) (fun _ => ?_) (fun q9 => absurd (by decide) q9)
    exact bad (by omega)
theorem s_sheet {s b n : Int} (hI : Inv h) (hs : -2147483648 ≤ s ∧ s ≤ 2147483647) (hb : -2147483648 ≤ b ∧ b ≤ 2147483647) (hn : -2147483648 ≤ n ∧ n ≤ 2147483647) : Sm (d + 30) mX7_sheet mX8_sheet [vi s, vi b, vi n] h := by
  have bad : ¬ gdB s b → Yr (d + 29) mX7_sheet 29 [vr 0, vi s, vi b, vi n] [] h (rI (SKn (d + 30) mX8_sheet [vr 108, vi s, vi b, vi n])) := by
    intro no
    refine yr_aload_n (pq := 30) rfl dX7_sheet_29 rfl ?_
    refine yr_iconst (pq := 31) rfl dX7_sheet_30 ?_
    refine yr_vI1 (pq := 34) rfl dX7_sheet_31 kM_7_66 (by decide) (by decide) cat0 (c_finding (by decide) ?_)
    exact yr_iret dX7_sheet_34 rfl (r_sheet hs hb hn (fun _ _ e hf => fd_end hI (by decide) (by decide) hf) (fun q9 => absurd q9 no) (fun q9 => absurd q9 no))
  have p35 : gdB s b → Yr (d + 29) mX7_sheet 35 [vr 0, vi s, vi b, vi n] [] h (rI (SKn (d + 30) mX8_sheet [vr 108, vi s, vi b, vi n])) := by
    intro gd
    have gs := gd.1
    have gb := gd.2
    refine yr_iload_n (pq := 36) rfl dX7_sheet_35 rfl ?_
    refine yr_if_ge (pq := 39) (t := 46) rfl dX7_sheet_36 rfl (by omega) (fun q1 => ?_) (fun q1 => ?_)
    · refine yr_iload_n (pq := 47) rfl dX7_sheet_46 rfl ?_
      refine yr_bipush (pq := 49) rfl dX7_sheet_47 rfl ?_
      refine yr_ic_le (pq := 52) (t := 58) rfl dX7_sheet_49 rfl (by omega) (by omega) (fun q2 => ?_) (fun q2 => ?_)
      · refine yr_aload_n (pq := 59) rfl dX7_sheet_58 rfl ?_
        refine yr_getR (pq := 62) (b := 98) 6 rfl dX7_sheet_59 kF_7_46 (by decide) rfl ?_
        refine yr_iload_n (pq := 63) rfl dX7_sheet_62 rfl ?_
        refine yr_aald (pq := 64) rfl dX7_sheet_63 (a := 98) (L := 4) rfl (by decide) (by omega) (sq_b (by omega) (by omega)).2 ?_
        refine yr_iload_n (pq := 65) rfl dX7_sheet_64 rfl ?_
        refine yr_iload_n (pq := 66) rfl dX7_sheet_65 rfl ?_
        refine yr_vV2 (pq := 69) rfl dX7_sheet_66 kM_7_272 (by decide) (sq_c (sq_b (by omega) (by omega)).1) cat0 (c_shRemake (sq_b (by omega) (by omega)).1 hb (fun f f0 f1 f2 f3 => ?_))
        refine yr_aload_n (pq := 70) rfl dX7_sheet_69 rfl ?_
        refine yr_getR (pq := 73) (b := 98) 6 rfl dX7_sheet_70 kF_7_46 (by decide) rfl ?_
        refine yr_iload_n (pq := 74) rfl dX7_sheet_73 rfl ?_
        refine yr_aald (pq := 75) rfl dX7_sheet_74 (a := 98) (L := 4) rfl (by decide) (by omega) (sq_b (by omega) (by omega)).2 ?_
        refine yr_getI (pq := 78) 1 rfl dX7_sheet_75 kF_7_274 (by decide) rfl (sq_c (sq_b (by omega) (by omega)).1) ?_
        rw [f2]
        refine yr_iret dX7_sheet_78 rfl ?_
        refine r_sheet hs hb hn (fun q9 => absurd ⟨gd, q2⟩ q9) (fun _ q9 => absurd q9 (by omega)) (fun _ _ e e0 e1 e2 e3 e4 => ⟨rfl, ?_⟩)
        have w : ∀ a, a ≠ 119 → a ≠ 120 → a ≠ 121 → a ≠ 100 + 2 * s → a ≠ 100 + 2 * s + 1 → e a = h a := fun a q1 q2 q3 q4 q5 => by rw [e0 a q1 q2 q3, f0 a q4 q5]
        refine Inv_sh hI (fun a q1 q2 q3 q4 q5 => w a q3 q4 q5 (by omega) (by omega)) (fun j _ => by rw [w 108 (by decide) (by decide) (by decide) (by omega) (by omega)]) (fun t t0 t1 => ?_)
        have o := Inv_s hI t0 t1
        unfold shI at o ⊢
        by_cases e : t = s
        · subst e
          rw [e0 (100 + 2 * t) (by omega) (by omega) (by omega), e0 (100 + 2 * t + 1) (by omega) (by omega) (by omega), f1, f2, e1, e2, ur_s, ur_s]
          refine ⟨rfl, by omega, rfl, ?_, fun i i0 i1 => ?_⟩
          · split <;> omega
          · have i2 : i < 40 := by
              revert i1
              split <;> omega
            rw [f3 i i0 i2, e3 _ (by omega) (by omega)]
            decide
        · rw [w (100 + 2 * t) (by omega) (by omega) (by omega) (by omega) (by omega), w (100 + 2 * t + 1) (by omega) (by omega) (by omega) (by omega) (by omega), e1, e2, ur_o e, ur_o e, f0 119 (by omega) (by omega), f0 120 (by omega) (by omega)]
          obtain ⟨o1, o2, o3, o4, o5⟩ := o
          refine ⟨o1, o2, o3, o4, fun i i0 i1 => ?_⟩
          rw [e4 _ (by omega), f0 121 (by omega) (by omega)]
          exact o5 i i0 i1
      · refine yr_aload_n (pq := 53) rfl dX7_sheet_52 rfl ?_
        refine yr_iconst (pq := 54) rfl dX7_sheet_53 ?_
        refine yr_vI1 (pq := 57) rfl dX7_sheet_54 kM_7_66 (by decide) (by decide) cat0 (c_finding (by decide) ?_)
        exact yr_iret dX7_sheet_57 rfl (r_sheet hs hb hn (fun _ _ e hf => fd_end hI (by decide) (by decide) hf) (fun _ q9 => absurd q9 (by omega)) (fun _ q9 => absurd q9 (by omega)))
    · refine yr_aload_n (pq := 40) rfl dX7_sheet_39 rfl ?_
      refine yr_bipush (pq := 42) rfl dX7_sheet_40 rfl ?_
      refine yr_vI1 (pq := 45) rfl dX7_sheet_42 kM_7_66 (by decide) (by decide) cat0 (c_finding (by decide) ?_)
      exact yr_iret dX7_sheet_45 rfl (r_sheet hs hb hn (fun _ q9 => absurd ⟨gd, by omega⟩ q9) (fun _ _ e hf => fd_end hI (by decide) (by decide) hf) (fun _ q9 => absurd q9 (by omega)))
  unfold gdB at bad p35
  show ClI (d + 30) mX7_sheet [vr 0, vi s, vi b, vi n] h (SKn (d + 30) mX8_sheet [vr 108, vi s, vi b, vi n])
  refine cl_in (al := [vr 0, vi s, vi b, vi n]) rfl (Nat.le_of_ble_eq_true rfl) (by simp [vi_cat, vr_cat, vs_cat]) ?_
  refine yr_iload_n (pq := 1) rfl dX7_sheet_0 rfl ?_
  refine yr_sI1 (pq := 4) rfl dX7_sheet_1 kM_7_269 (by decide) cat0 (c_isSheet hs (fun q1 => ?_) (fun q1 => ?_))
  · refine yr_if_eq (pq := 7) (t := 29) rfl dX7_sheet_4 rfl (by decide) (fun q9 => absurd q9 (by decide)) (fun _ => ?_)
    refine yr_iload_n (pq := 8) rfl dX7_sheet_7 rfl ?_
    refine yr_if_eq (pq := 11) (t := 35) rfl dX7_sheet_8 rfl (by omega) (fun q2 => ?_) (fun q2 => ?_)
    · exact p35 (by omega)
    · refine yr_iload_n (pq := 12) rfl dX7_sheet_11 rfl ?_
      refine yr_bipush (pq := 14) rfl dX7_sheet_12 rfl ?_
      refine yr_ic_eq (pq := 17) (t := 35) rfl dX7_sheet_14 rfl (by omega) (by omega) (fun q3 => ?_) (fun q3 => ?_)
      · exact p35 (by omega)
      · refine yr_iload_n (pq := 18) rfl dX7_sheet_17 rfl ?_
        refine yr_bipush (pq := 20) rfl dX7_sheet_18 rfl ?_
        refine yr_ic_eq (pq := 23) (t := 35) rfl dX7_sheet_20 rfl (by omega) (by omega) (fun q4 => ?_) (fun q4 => ?_)
        · exact p35 (by omega)
        · refine yr_iload_n (pq := 24) rfl dX7_sheet_23 rfl ?_
          refine yr_bipush (pq := 26) rfl dX7_sheet_24 rfl ?_
          refine yr_ic_eq (pq := 29) (t := 35) rfl dX7_sheet_26 rfl (by omega) (by omega) (fun q5 => ?_) (fun q5 => ?_)
          · exact p35 (by omega)
          · exact bad (by omega)
  · refine yr_if_eq (pq := 7) (t := 29) rfl dX7_sheet_4 rfl (by decide) (fun _ => ?_) (fun q9 => absurd (by decide) q9)
    exact bad (by omega)
theorem ib_b (v : Int) : -2147483648 ≤ ib v ∧ ib v ≤ 2147483647 := by
  unfold ib
  have h1 := Int32.le_toInt ((Int32.ofInt v).toInt8.toInt32)
  have h2 := Int32.toInt_lt ((Int32.ofInt v).toInt8.toInt32)
  omega
theorem ih_b (v : Int) : -2147483648 ≤ ih v ∧ ih v ≤ 2147483647 := by
  unfold ih
  have h1 := Int32.le_toInt ((Int32.ofInt v).toInt16.toInt32)
  have h2 := Int32.toInt_lt ((Int32.ofInt v).toInt16.toInt32)
  omega
theorem cutF_b {v b : Int} (hv : -2147483648 ≤ v ∧ v ≤ 2147483647) : -2147483648 ≤ cutF v b ∧ cutF v b ≤ 2147483647 := by
  have h1 := ib_b v
  have h2 := ih_b v
  unfold cutF
  split
  · exact h1
  · split
    · exact h2
    · exact hv
theorem m_cutTo {v b : Int} (hb : -2147483648 ≤ b ∧ b ≤ 2147483647) (k : K (cutF v b) h) : ClI (d + 1) mX8_cutTo [vi v, vi b] h K := by
  unfold cutF at k
  refine cl_in (al := [vi v, vi b]) rfl (Nat.le_of_ble_eq_true rfl) (by simp [vi_cat, vr_cat, vs_cat]) ?_
  refine yr_iload_n (pq := 1) rfl dX8_cutTo_0 rfl ?_
  refine yr_bipush (pq := 3) rfl dX8_cutTo_1 rfl ?_
  refine yr_ic_ne (pq := 6) (t := 11) rfl dX8_cutTo_3 rfl (by omega) (by omega) (fun q1 => ?_) (fun q1 => ?_)
  · rw [if_neg q1] at k
    refine yr_iload_n (pq := 12) rfl dX8_cutTo_11 rfl ?_
    refine yr_bipush (pq := 14) rfl dX8_cutTo_12 rfl ?_
    refine yr_ic_ne (pq := 17) (t := 22) rfl dX8_cutTo_14 rfl (by omega) (by omega) (fun q2 => ?_) (fun q2 => ?_)
    · rw [if_neg q2] at k
      refine yr_iload_n (pq := 23) rfl dX8_cutTo_22 rfl ?_
      exact yr_iret dX8_cutTo_23 rfl (k)
    · rw [if_pos q2] at k
      refine yr_iload_n (pq := 18) rfl dX8_cutTo_17 rfl ?_
      refine yr_i2s (pq := 19) rfl dX8_cutTo_18 ?_
      refine yr_goto (t := 23) dX8_cutTo_19 rfl ?_
      exact yr_iret dX8_cutTo_23 rfl (k)
  · rw [if_pos q1] at k
    refine yr_iload_n (pq := 7) rfl dX8_cutTo_6 rfl ?_
    refine yr_i2b (pq := 8) rfl dX8_cutTo_7 ?_
    refine yr_goto (t := 23) dX8_cutTo_8 rfl ?_
    exact yr_iret dX8_cutTo_23 rfl (k)
theorem r_write {s i v w z : Int} (hs : -2147483648 ≤ s ∧ s ≤ 2147483647) (hi : -2147483648 ≤ i ∧ i ≤ 2147483647) (ew : (0 ≤ s ∧ s ≤ 3) → h 119 s = w) (ez : (0 ≤ s ∧ s ≤ 3) → h 120 s = z) (hw : -2147483648 ≤ w ∧ w ≤ 2147483647) (hz : 0 ≤ z ∧ z ≤ 40) (k0 : ¬ (0 ≤ s ∧ s ≤ 3) → ∀ e, FD (-1000001) h e → K (-1000001) e) (k1 : (0 ≤ s ∧ s ≤ 3) → w = 0 → ∀ e, FD (-1000006) h e → K (-1000006) e)
    (k2 : (0 ≤ s ∧ s ≤ 3) → w ≠ 0 → ¬ (0 ≤ i ∧ i < z) → ∀ e, FD (-1000001) h e → K (-1000001) e) (k3 : (0 ≤ s ∧ s ≤ 3) → w ≠ 0 → (0 ≤ i ∧ i < z) → K 1 (up h 121 (40 * s + i) (cutF v w))) : ClI (d + 3) mX8_write [vr 108, vi s, vi i, vi v] h K := by
  refine cl_in (al := [vr 108, vi s, vi i, vi v]) rfl (Nat.le_of_ble_eq_true rfl) (by simp [vi_cat, vr_cat, vs_cat]) ?_
  refine yr_iload_n (pq := 1) rfl dX8_write_0 rfl ?_
  refine yr_sI1 (pq := 4) rfl dX8_write_1 kM_8_341 (by decide) cat0 (m_isSheet hs (fun q1 => ?_) (fun q1 => ?_))
  · refine yr_if_ne (pq := 7) (t := 14) rfl dX8_write_4 rfl (by decide) (fun _ => ?_) (fun q9 => absurd q9 (by decide))
    refine yr_aload_n (pq := 15) rfl dX8_write_14 rfl ?_
    refine yr_getR (pq := 18) (b := 119) 27 rfl dX8_write_15 kF_8_61 (by decide) rfl ?_
    refine yr_iload_n (pq := 19) rfl dX8_write_18 rfl ?_
    refine yr_iald (pq := 20) rfl dX8_write_19 rfl (by decide) (by omega) ?_
    rw [ew q1]
    refine yr_if_ne (pq := 23) (t := 31) rfl dX8_write_20 rfl (by omega) (fun q2 => ?_) (fun q2 => ?_)
    · refine yr_iload_n (pq := 32) rfl dX8_write_31 rfl ?_
      refine yr_iconst (pq := 33) rfl dX8_write_32 ?_
      refine yr_aload_n (pq := 34) rfl dX8_write_33 rfl ?_
      refine yr_getR (pq := 37) (b := 120) 28 rfl dX8_write_34 kF_8_64 (by decide) rfl ?_
      refine yr_iload_n (pq := 38) rfl dX8_write_37 rfl ?_
      refine yr_iald (pq := 39) rfl dX8_write_38 rfl (by decide) (by omega) ?_
      refine yr_iconst (pq := 40) rfl dX8_write_39 ?_
      refine yr_isub (pq := 41) rfl dX8_write_40 ?_
      rw [ez q1]
      refine yr_sI3 (pq := 44) rfl dX8_write_41 kM_8_78 (by decide) cat0 (m_within hi (by decide) (by omega) (fun q3 => ?_) (fun q3 => ?_))
      · refine yr_if_ne (pq := 47) (t := 54) rfl dX8_write_44 rfl (by decide) (fun _ => ?_) (fun q9 => absurd q9 (by decide))
        refine yr_aload_n (pq := 55) rfl dX8_write_54 rfl ?_
        refine yr_getR (pq := 58) (b := 121) 29 rfl dX8_write_55 kF_8_67 (by decide) rfl ?_
        refine yr_bipush (pq := 60) rfl dX8_write_58 rfl ?_
        refine yr_iload_n (pq := 61) rfl dX8_write_60 rfl ?_
        refine yr_imul (pq := 62) rfl dX8_write_61 ?_
        refine yr_iload_n (pq := 63) rfl dX8_write_62 rfl ?_
        refine yr_iadd (pq := 64) rfl dX8_write_63 ?_
        refine yr_iload_n (pq := 65) rfl dX8_write_64 rfl ?_
        refine yr_aload_n (pq := 66) rfl dX8_write_65 rfl ?_
        refine yr_getR (pq := 69) (b := 119) 27 rfl dX8_write_66 kF_8_61 (by decide) rfl ?_
        refine yr_iload_n (pq := 70) rfl dX8_write_69 rfl ?_
        refine yr_iald (pq := 71) rfl dX8_write_70 rfl (by decide) (by omega) ?_
        rw [ew q1]
        refine yr_sI2 (pq := 74) rfl dX8_write_71 kM_8_345 (by decide) (Nat.le_of_ble_eq_true rfl) (m_cutTo hw ?_)
        refine yr_iast (pq := 75) rfl dX8_write_74 rfl (by decide) (by omega) ?_
        refine yr_iconst (pq := 76) rfl dX8_write_75 ?_
        exact yr_iret dX8_write_76 rfl (k3 q1 q2 (by omega))
      · refine yr_if_ne (pq := 47) (t := 54) rfl dX8_write_44 rfl (by decide) (fun q9 => absurd (by decide) q9) (fun _ => ?_)
        refine yr_aload_n (pq := 48) rfl dX8_write_47 rfl ?_
        refine yr_ldc (pq := 50) rfl dX8_write_48 kN_8_73 ?_
        refine yr_vI1 (pq := 53) rfl dX8_write_50 kM_8_101 (by decide) (by decide) cat0 (r_fnd (by decide) (fun e hf => ?_))
        exact yr_iret dX8_write_53 rfl (k2 q1 q2 (by omega) e hf)
    · refine yr_aload_n (pq := 24) rfl dX8_write_23 rfl ?_
      refine yr_ldc_w (pq := 27) rfl dX8_write_24 kN_8_339 ?_
      refine yr_vI1 (pq := 30) rfl dX8_write_27 kM_8_101 (by decide) (by decide) cat0 (r_fnd (by decide) (fun e hf => ?_))
      exact yr_iret dX8_write_30 rfl (k1 q1 q2 e hf)
  · refine yr_if_ne (pq := 7) (t := 14) rfl dX8_write_4 rfl (by decide) (fun q9 => absurd (by decide) q9) (fun _ => ?_)
    refine yr_aload_n (pq := 8) rfl dX8_write_7 rfl ?_
    refine yr_ldc (pq := 10) rfl dX8_write_8 kN_8_73 ?_
    refine yr_vI1 (pq := 13) rfl dX8_write_10 kM_8_101 (by decide) (by decide) cat0 (r_fnd (by decide) (fun e hf => ?_))
    exact yr_iret dX8_write_13 rfl (k0 q1 e hf)
theorem s_write {s i v : Int} (hI : Inv h) (hs : -2147483648 ≤ s ∧ s ≤ 2147483647) (hi : -2147483648 ≤ i ∧ i ≤ 2147483647) (hv : -2147483648 ≤ v ∧ v ≤ 2147483647) : Sm (d + 30) mX7_write mX8_write [vi s, vi i, vi v] h := by
  show ClI (d + 30) mX7_write [vr 0, vi s, vi i, vi v] h (SKn (d + 30) mX8_write [vr 108, vi s, vi i, vi v])
  refine cl_in (al := [vr 0, vi s, vi i, vi v]) rfl (Nat.le_of_ble_eq_true rfl) (by simp [vi_cat, vr_cat, vs_cat]) ?_
  refine yr_iload_n (pq := 1) rfl dX7_write_0 rfl ?_
  refine yr_sI1 (pq := 4) rfl dX7_write_1 kM_7_269 (by decide) cat0 (c_isSheet hs (fun q1 => ?_) (fun q1 => ?_))
  · obtain ⟨o1, o2, o3, o4, o5⟩ := Inv_s hI q1.1 (by omega)
    have f9 : ∀ k z, up h 99 k z 119 s = h 119 s := fun k z => by rw [up_ne (by decide)]
    have f0 : ∀ k z, up h 99 k z 120 s = h 120 s := fun k z => by rw [up_ne (by decide)]
    refine yr_if_ne (pq := 7) (t := 13) rfl dX7_write_4 rfl (by decide) (fun _ => ?_) (fun q9 => absurd q9 (by decide))
    refine yr_aload_n (pq := 14) rfl dX7_write_13 rfl ?_
    refine yr_getR (pq := 17) (b := 98) 6 rfl dX7_write_14 kF_7_46 (by decide) rfl ?_
    refine yr_iload_n (pq := 18) rfl dX7_write_17 rfl ?_
    refine yr_aald (pq := 19) rfl dX7_write_18 (a := 98) (L := 4) rfl (by decide) (by omega) (sq_b (by omega) (by omega)).2 ?_
    refine yr_vI0 (pq := 22) rfl dX7_write_19 kM_7_275 (by decide) (sq_c (sq_b (by omega) (by omega)).1) cat0 (c_isMissing (sq_b (by omega) (by omega)).1 (by omega) (fun q2 => ?_) (fun q2 => ?_))
    · refine yr_if_eq (pq := 25) (t := 31) rfl dX7_write_22 rfl (by decide) (fun q9 => absurd q9 (by decide)) (fun _ => ?_)
      refine yr_aload_n (pq := 26) rfl dX7_write_25 rfl ?_
      refine yr_iconst (pq := 27) rfl dX7_write_26 ?_
      refine yr_vI1 (pq := 30) rfl dX7_write_27 kM_7_66 (by decide) (by decide) cat0 (c_finding (by decide) ?_)
      exact yr_iret dX7_write_30 rfl (r_write hs hi (fun _ => f9 _ _) (fun _ => f0 _ _) (by omega) o4 (fun q9 => absurd q1 q9) (fun _ _ e hf => fd_end hI (by decide) (by decide) hf) (fun _ q9 => absurd (by omega) q9) (fun _ q9 => absurd (by omega) q9))
    · refine yr_if_eq (pq := 25) (t := 31) rfl dX7_write_22 rfl (by decide) (fun _ => ?_) (fun q9 => absurd (by decide) q9)
      refine yr_iload_n (pq := 32) rfl dX7_write_31 rfl ?_
      refine yr_iconst (pq := 33) rfl dX7_write_32 ?_
      refine yr_aload_n (pq := 34) rfl dX7_write_33 rfl ?_
      refine yr_getR (pq := 37) (b := 98) 6 rfl dX7_write_34 kF_7_46 (by decide) rfl ?_
      refine yr_iload_n (pq := 38) rfl dX7_write_37 rfl ?_
      refine yr_aald (pq := 39) rfl dX7_write_38 (a := 98) (L := 4) rfl (by decide) (by omega) (sq_b (by omega) (by omega)).2 ?_
      refine yr_getI (pq := 42) 1 rfl dX7_write_39 kF_7_274 (by decide) rfl (sq_c (sq_b (by omega) (by omega)).1) ?_
      refine yr_iconst (pq := 43) rfl dX7_write_42 ?_
      refine yr_isub (pq := 44) rfl dX7_write_43 ?_
      rw [o3]
      refine yr_sI3 (pq := 47) rfl dX7_write_44 kM_7_62 (by decide) cat0 (c_isIn hi (by decide) (by omega) (fun q3 => ?_) (fun q3 => ?_))
      · refine yr_if_ne (pq := 50) (t := 56) rfl dX7_write_47 rfl (by decide) (fun _ => ?_) (fun q9 => absurd q9 (by decide))
        refine yr_aload_n (pq := 57) rfl dX7_write_56 rfl ?_
        refine yr_getR (pq := 60) (b := 98) 6 rfl dX7_write_57 kF_7_46 (by decide) rfl ?_
        refine yr_iload_n (pq := 61) rfl dX7_write_60 rfl ?_
        refine yr_aald (pq := 62) rfl dX7_write_61 (a := 98) (L := 4) rfl (by decide) (by omega) (sq_b (by omega) (by omega)).2 ?_
        refine yr_iload_n (pq := 63) rfl dX7_write_62 rfl ?_
        refine yr_iload_n (pq := 64) rfl dX7_write_63 rfl ?_
        refine yr_vV2 (pq := 67) rfl dX7_write_64 kM_7_278 (by decide) (sq_c (sq_b (by omega) (by omega)).1) cat0 (c_shSet (sq_b (by omega) (by omega)).1 (by omega) (by omega) ?_)
        refine yr_iconst (pq := 68) rfl dX7_write_67 ?_
        refine yr_iret dX7_write_68 rfl ?_
        have n9 : (119 : Int) ≠ 100 + 2 * s + 1 := by omega
        have n0 : (120 : Int) ≠ 100 + 2 * s + 1 := by omega
        rw [o1]
        refine r_write (w := h 119 s) (z := h 120 s) hs hi (fun _ => by rw [up_ne n9]) (fun _ => by rw [up_ne n0]) (by omega) o4 (fun q9 => absurd q1 q9) (fun _ q9 => absurd q9 (by omega)) (fun _ _ q9 => absurd (by omega) q9) (fun _ _ _ => ⟨rfl, ?_⟩)
        have cb := cutF_b (b := h 119 s) hv
        refine Inv_sh hI (fun a q1 q2 q3 q4 q5 => by rw [up_ne q5, up_ne (by omega)]) (fun j _ => by rw [up_ne (by decide), up_ne (by omega)]) (fun t t0 t1 => ?_)
        have o := Inv_s hI t0 t1
        unfold shI at o ⊢
        rw [up_ne (show 100 + 2 * t ≠ 121 by omega), up_ne (show 100 + 2 * t ≠ 100 + 2 * s + 1 by omega), up_ne (show (119 : Int) ≠ 121 by decide), up_ne n9, up_ne (show (120 : Int) ≠ 121 by decide), up_ne n0]
        obtain ⟨u1, u2, u3, u4, u5⟩ := o
        refine ⟨u1, u2, u3, u4, fun j j0 j1 => ?_⟩
        rw [up_ne (show 100 + 2 * t + 1 ≠ 121 by omega)]
        by_cases e : t = s ∧ j = i
        · obtain ⟨rfl, rfl⟩ := e
          rw [up_s, up_s]
          exact ⟨rfl, cb⟩
        · have e1 : up h (100 + 2 * s + 1) i (cutF v (h 119 s)) (100 + 2 * t + 1) j = h (100 + 2 * t + 1) j := by
            unfold up
            rw [if_neg (by omega)]
          rw [e1, up_k (by omega), up_ne (by omega)]
          exact u5 j j0 j1
      · refine yr_if_ne (pq := 50) (t := 56) rfl dX7_write_47 rfl (by decide) (fun q9 => absurd (by decide) q9) (fun _ => ?_)
        refine yr_aload_n (pq := 51) rfl dX7_write_50 rfl ?_
        refine yr_iconst (pq := 52) rfl dX7_write_51 ?_
        refine yr_vI1 (pq := 55) rfl dX7_write_52 kM_7_66 (by decide) (by decide) cat0 (c_finding (by decide) ?_)
        exact yr_iret dX7_write_55 rfl (r_write hs hi (fun _ => f9 _ _) (fun _ => f0 _ _) (by omega) o4 (fun q9 => absurd q1 q9) (fun _ q9 => absurd q9 (by omega)) (fun _ _ _ e hf => fd_end hI (by decide) (by decide) hf) (fun _ _ q9 => absurd q9 (by omega)))
  · refine yr_if_ne (pq := 7) (t := 13) rfl dX7_write_4 rfl (by decide) (fun q9 => absurd (by decide) q9) (fun _ => ?_)
    refine yr_aload_n (pq := 8) rfl dX7_write_7 rfl ?_
    refine yr_iconst (pq := 9) rfl dX7_write_8 ?_
    refine yr_vI1 (pq := 12) rfl dX7_write_9 kM_7_66 (by decide) (by decide) cat0 (c_finding (by decide) ?_)
    exact yr_iret dX7_write_12 rfl (r_write (w := 0) (z := 0) hs hi (fun q9 => absurd q9 q1) (fun q9 => absurd q9 q1) (by decide) (by decide) (fun _ e hf => fd_end hI (by decide) (by decide) hf) (fun q9 => absurd q9 q1) (fun q9 => absurd q9 q1) (fun q9 => absurd q9 q1))
end S21
