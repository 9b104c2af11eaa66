/-! judge -/
/-- how the way of the numbers r goes: 0 and the row at its end, or why not -/
def jgF (r : Int → Int) (k : Int) : Nat → (Int → Int) → Int × (Int → Int)
  | 0, P => (0, P)
  | n + 1, P => if ¬ (0 ≤ r k ∧ r k ≤ 7) ∨ byF P (-1) (P 49) (r k) < 0 then (-1000004, P) else if 999 < P 50 + takesF P (byF P (-1) (P 49) (r k)) then (-1000005, P) else jgF r (k + 1) n (carN P (byF P (-1) (P 49) (r k)) (r k))
theorem jgF_w (r : Int → Int) : ∀ (n : Nat) (k : Int) (P : Int → Int), (jgF r k n P).1 = 0 ∨ (jgF r k n P).1 = -1000004 ∨ (jgF r k n P).1 = -1000005 := by
  intro n
  induction n with
  | zero => intro k P; exact Or.inl rfl
  | succ n ih =>
    intro k P
    rw [jgF]
    split
    · exact Or.inr (Or.inl rfl)
    · split
      · exact Or.inr (Or.inr rfl)
      · exact ih _ _
section S32
variable {d : Nat} {h : hT} {K : Int → hT → Prop}
theorem m_putBack {v : Int} (k : ∀ e, (∀ c, c ≠ 109 → e c = h c) → (∀ j, 0 ≤ j → j < 123 → e 109 j = h 111 j) → (∀ j, (j < 0 ∨ 123 ≤ j) → e 109 j = h 109 j) → K v e) : ClI (d + 2) mX8_putBack [vr 108, vi v] h K := by
  refine cl_in (al := [vr 108, vi v]) rfl (Nat.le_of_ble_eq_true rfl) (by simp [vi_cat, vr_cat, vs_cat]) ?_
  refine yr_aload_n (pq := 1) rfl dX8_putBack_0 rfl ?_
  refine yr_getR (pq := 4) (b := 111) 2 rfl dX8_putBack_1 kF_8_16 (by decide) rfl ?_
  refine yr_aload_n (pq := 5) rfl dX8_putBack_4 rfl ?_
  refine yr_getR (pq := 8) (b := 109) 0 rfl dX8_putBack_5 kF_8_9 (by decide) rfl ?_
  refine yr_sV2 (pq := 11) rfl dX8_putBack_8 kM_8_74 (by decide) cat0 (m_copyRow (a := 111) (b := 109) rfl (by decide) rfl (by decide) (by decide) (fun e e0 e1 e2 => ?_))
  refine yr_iload_n (pq := 12) rfl dX8_putBack_11 rfl ?_
  exact yr_iret dX8_putBack_12 rfl (k e e0 e1 e2)
theorem r_judge {s : Int} {N W Z r : Int → Int} (hB : RB h N) (hO : okT N) (hS : okS N) (hl : N 50 ≤ 999) (eW : h 119 = W) (eZ : h 120 = Z) (er : (0 ≤ s ∧ s ≤ 3) → ∀ i, 0 ≤ i → i < Z s → h 121 (40 * s + i) = r i ∧ (-2147483648 ≤ r i ∧ r i ≤ 2147483647)) (hW : ∀ s, 0 ≤ s → s < 4 → (W s = 0 ∨ W s = 8 ∨ W s = 16 ∨ W s = 32) ∧ (0 ≤ Z s ∧ Z s ≤ 40)) (hs : -2147483648 ≤ s ∧ s ≤ 2147483647)
    (k0 : ¬ (0 ≤ s ∧ s ≤ 3) → ∀ e, FD (-1000001) h e → K (-1000001) e) (k1 : (0 ≤ s ∧ s ≤ 3) → W s = 0 → ∀ e, FD (-1000006) h e → K (-1000006) e)
    (k2 : (0 ≤ s ∧ s ≤ 3) → W s ≠ 0 → (jgF r 0 (Z s).toNat N).1 ≠ 0 → ∀ e e', (∀ a, a ≠ 111 → e a = h a) → FD (jgF r 0 (Z s).toNat N).1 e e' → K (jgF r 0 (Z s).toNat N).1 e')
    (k3 : (0 ≤ s ∧ s ≤ 3) → W s ≠ 0 → (jgF r 0 (Z s).toNat N).1 = 0 → ∀ e, (∀ a, a ≠ 111 → e a = h a) → K (totF (jgF r 0 (Z s).toNat N).2) e) : ClI (d + 7) mX8_judge [vr 108, vi s] h K := by
  obtain ⟨e9, h5⟩ := hB
  subst e9
  subst eW
  subst eZ
  refine cl_in (al := [vr 108, vi s, .null, .null, .null, .null]) rfl (Nat.le_of_ble_eq_true rfl) (by simp [vi_cat, vr_cat, vs_cat]) ?_
  refine yr_iload_n (pq := 1) rfl dX8_judge_0 rfl ?_
  refine yr_sI1 (pq := 4) rfl dX8_judge_1 kM_8_341 (by decide) cat0 (m_isSheet hs (fun q1 => ?_) (fun q1 => ?_))
  · obtain ⟨w1, z1⟩ := hW s q1.1 (by omega)
    have er := er q1
    refine yr_if_ne (pq := 7) (t := 14) rfl dX8_judge_4 rfl (by decide) (fun _ => ?_) (fun q9 => absurd q9 (by decide))
    refine yr_aload_n (pq := 15) rfl dX8_judge_14 rfl ?_
    refine yr_getR (pq := 18) (b := 119) 27 rfl dX8_judge_15 kF_8_61 (by decide) rfl ?_
    refine yr_iload_n (pq := 19) rfl dX8_judge_18 rfl ?_
    refine yr_iald (pq := 20) rfl dX8_judge_19 rfl (by decide) (by omega) ?_
    refine yr_if_ne (pq := 23) (t := 31) rfl dX8_judge_20 rfl (by omega) (fun q2 => ?_) (fun q2 => ?_)
    · refine yr_aload_n (pq := 32) rfl dX8_judge_31 rfl ?_
      refine yr_getR (pq := 35) (b := 109) 0 rfl dX8_judge_32 kF_8_9 (by decide) rfl ?_
      refine yr_aload_n (pq := 36) rfl dX8_judge_35 rfl ?_
      refine yr_getR (pq := 39) (b := 111) 2 rfl dX8_judge_36 kF_8_16 (by decide) rfl ?_
      refine yr_sV2 (pq := 42) rfl dX8_judge_39 kM_8_74 (by decide) cat0 (m_copyRow (a := 109) (b := 111) rfl (by decide) rfl (by decide) (by decide) (fun f f0 f1 f2 => ?_))
      have jw := jgF_w r (h 120 s).toNat 0 (h 109)
      have fin : ∀ (w i : Int) (P : Int → Int) (g : hT), (∀ a, a ≠ 109 → g a = f a) → g 109 = P → (∀ j, j < 45 ∨ 53 ≤ j → P j = h 109 j) → (w, P) = jgF r 0 (h 120 s).toNat (h 109) → ∀ x y, Yr (d + 6) mX8_judge 148 [vr 108, vi s, vi w, vi i, x, y] [] g (rI K) := by
        intro w i P g g0 g1 g2 hj x y
        have j1 : (jgF r 0 (h 120 s).toNat (h 109)).1 = w := by rw [← hj]
        have j2 : (jgF r 0 (h 120 s).toNat (h 109)).2 = P := by rw [← hj]
        rw [j1] at jw k2 k3
        rw [j2] at k3
        refine yr_aload_n (pq := 149) rfl dX8_judge_148 rfl ?_
        refine yr_aload_n (pq := 150) rfl dX8_judge_149 rfl ?_
        refine yr_vI0 (pq := 153) rfl dX8_judge_150 kM_8_145 (by decide) (by decide) (Nat.le_of_ble_eq_true rfl) (m_allGrains ?_)
        rw [g1]
        refine yr_vI1 (pq := 156) rfl dX8_judge_153 kM_8_348 (by decide) (by decide) cat0 (m_putBack (fun e e0 e1 e2 => ?_))
        have ee : ∀ a, a ≠ 111 → e a = h a := by
          intro a qa
          by_cases q : a = 109
          · subst q
            funext j
            by_cases qj : 0 ≤ j ∧ j < 123
            · rw [e1 j qj.1 qj.2, g0 111 (by decide), f1 j qj.1 qj.2]
            · rw [e2 j (by omega), g1, g2 j (by omega)]
          · rw [e0 a q, g0 a q, f0 a qa]
        refine yr_istore3 (pq := 157) rfl dX8_judge_156 ?_
        refine yr_iload_n (pq := 158) rfl dX8_judge_157 rfl ?_
        refine yr_if_eq (pq := 161) (t := 169) rfl dX8_judge_158 rfl (by omega) (fun q3 => ?_) (fun q3 => ?_)
        · refine yr_iload_n (pq := 170) rfl dX8_judge_169 rfl ?_
          exact yr_iret dX8_judge_170 rfl (k3 q1 q2 q3 e ee)
        · refine yr_aload_n (pq := 162) rfl dX8_judge_161 rfl ?_
          refine yr_iload_n (pq := 163) rfl dX8_judge_162 rfl ?_
          refine yr_vI1 (pq := 166) rfl dX8_judge_163 kM_8_101 (by decide) (by decide) cat0 (r_fnd (by omega) (fun e' hf => ?_))
          refine yr_goto (t := 170) dX8_judge_166 rfl ?_
          exact yr_iret dX8_judge_170 rfl (k2 q1 q2 q3 e e' ee hf)
      have stop : ∀ (w i : Int) (P : Int → Int) (g : hT), 0 ≤ i → i ≤ 41 → (w = -1000004 ∨ w = -1000005) → (∀ a, a ≠ 109 → g a = f a) → g 109 = P → (∀ j, j < 45 ∨ 53 ≤ j → P j = h 109 j) → (w, P) = jgF r 0 (h 120 s).toNat (h 109) → ∀ x y, Yr (d + 6) mX8_judge 46 [vr 108, vi s, vi w, vi i, x, y] [] g (rI K) := by
        intro w i P g i0 i1 hw g0 g1 g2 hj x y
        refine yr_iload_n (pq := 47) rfl dX8_judge_46 rfl ?_
        refine yr_aload_n (pq := 48) rfl dX8_judge_47 rfl ?_
        refine yr_getR (pq := 51) (b := 120) 28 rfl dX8_judge_48 kF_8_64 (by decide) rfl ?_
        refine yr_iload_n (pq := 52) rfl dX8_judge_51 rfl ?_
        refine yr_iald (pq := 53) rfl dX8_judge_52 rfl (by decide) (by omega) ?_
        rw [g0 120 (by decide), f0 120 (by decide)]
        refine yr_ic_ge (pq := 56) (t := 148) rfl dX8_judge_53 rfl (by omega) (by omega) (fun q => ?_) (fun q => ?_)
        · exact fin w i P g g0 g1 g2 hj _ _
        · refine yr_iload_n (pq := 57) rfl dX8_judge_56 rfl ?_
          refine yr_if_ne (pq := 60) (t := 148) rfl dX8_judge_57 rfl (by omega) (fun _ => ?_) (fun q9 => absurd q9 (by omega))
          exact fin w i P g g0 g1 g2 hj _ _
      have key : ∀ (c : Nat) (i : Int) (P : Int → Int) (g : hT), 0 ≤ i → i + c = h 120 s → (∀ a, a ≠ 109 → g a = f a) → g 109 = P → (∀ j, j < 45 ∨ 53 ≤ j → P j = h 109 j) → okT P → okS P → P 50 ≤ 999 → jgF r i c P = jgF r 0 (h 120 s).toNat (h 109) → ∀ x y, Yr (d + 6) mX8_judge 46 [vr 108, vi s, vi 0, vi i, x, y] [] g (rI K) := by
        intro c
        induction c with
        | zero =>
          intro i P g hi hc g0 g1 g2 gO gS gl hj x y
          refine yr_iload_n (pq := 47) rfl dX8_judge_46 rfl ?_
          refine yr_aload_n (pq := 48) rfl dX8_judge_47 rfl ?_
          refine yr_getR (pq := 51) (b := 120) 28 rfl dX8_judge_48 kF_8_64 (by decide) rfl ?_
          refine yr_iload_n (pq := 52) rfl dX8_judge_51 rfl ?_
          refine yr_iald (pq := 53) rfl dX8_judge_52 rfl (by decide) (by omega) ?_
          rw [g0 120 (by decide), f0 120 (by decide)]
          refine yr_ic_ge (pq := 56) (t := 148) rfl dX8_judge_53 rfl (by omega) (by omega) (fun _ => ?_) (fun q9 => absurd (by omega) q9)
          exact fin 0 i P g g0 g1 g2 hj _ _
        | succ c ih =>
          intro i P g hi hc g0 g1 g2 gO gS gl hj x y
          subst g1
          obtain ⟨r1, r2⟩ := er i hi (by omega)
          have a2 := gS.2.1
          have a3 := gS.2.2.1
          have h8 := gO.1
          have hb := byF_b (N := g 109) (w := -1) (a := g 109 49) (b := r i)
          have w5 : g 108 5 = -1 := by rw [g0 108 (by decide), f0 108 (by decide)]; exact h5
          rw [jgF] at hj
          have none : ∀ (b : Int), b < 0 → (-2147483648 ≤ b ∧ b ≤ 2147483647) → (-1000004, g 109) = jgF r 0 (h 120 s).toNat (h 109) → ∀ y, Yr (d + 6) mX8_judge 98 [vr 108, vi s, vi 0, vi i, vi (r i), y] [vi b] g (rI K) := by
            intro b b0 b1 hj y
            refine yr_istore5 (pq := 100) rfl dX8_judge_98 ?_
            refine yr_iload (pq := 102) rfl dX8_judge_100 rfl ?_
            refine yr_if_ge (pq := 105) (t := 110) rfl dX8_judge_102 rfl (by omega) (fun q9 => absurd q9 (by omega)) (fun _ => ?_)
            refine yr_ldc (pq := 107) rfl dX8_judge_105 kN_8_144 ?_
            refine yr_goto (t := 129) dX8_judge_107 rfl ?_
            refine yr_istore2 (pq := 130) rfl dX8_judge_129 ?_
            refine yr_iload_n (pq := 131) rfl dX8_judge_130 rfl ?_
            refine yr_if_ne (pq := 134) (t := 142) rfl dX8_judge_131 rfl (by decide) (fun _ => ?_) (fun q9 => absurd q9 (by decide))
            refine yr_iinc3 (pq := 145) rfl dX8_judge_142 ?_
            refine yr_goto (t := 46) dX8_judge_145 rfl ?_
            exact stop _ _ _ g (by omega) (by omega) (by decide) g0 rfl g2 hj _ _
          refine yr_iload_n (pq := 47) rfl dX8_judge_46 rfl ?_
          refine yr_aload_n (pq := 48) rfl dX8_judge_47 rfl ?_
          refine yr_getR (pq := 51) (b := 120) 28 rfl dX8_judge_48 kF_8_64 (by decide) rfl ?_
          refine yr_iload_n (pq := 52) rfl dX8_judge_51 rfl ?_
          refine yr_iald (pq := 53) rfl dX8_judge_52 rfl (by decide) (by omega) ?_
          rw [g0 120 (by decide), f0 120 (by decide)]
          refine yr_ic_ge (pq := 56) (t := 148) rfl dX8_judge_53 rfl (by omega) (by omega) (fun q9 => absurd q9 (by omega)) (fun _ => ?_)
          refine yr_iload_n (pq := 57) rfl dX8_judge_56 rfl ?_
          refine yr_if_ne (pq := 60) (t := 148) rfl dX8_judge_57 rfl (by decide) (fun q9 => absurd (by decide) q9) (fun _ => ?_)
          refine yr_aload_n (pq := 61) rfl dX8_judge_60 rfl ?_
          refine yr_getR (pq := 64) (b := 121) 29 rfl dX8_judge_61 kF_8_67 (by decide) rfl ?_
          refine yr_bipush (pq := 66) rfl dX8_judge_64 rfl ?_
          refine yr_iload_n (pq := 67) rfl dX8_judge_66 rfl ?_
          refine yr_imul (pq := 68) rfl dX8_judge_67 ?_
          refine yr_iload_n (pq := 69) rfl dX8_judge_68 rfl ?_
          refine yr_iadd (pq := 70) rfl dX8_judge_69 ?_
          refine yr_iald (pq := 71) rfl dX8_judge_70 rfl (by decide) (by omega) ?_
          refine yr_istore4 (pq := 73) rfl dX8_judge_71 ?_
          refine yr_iload (pq := 75) rfl dX8_judge_73 rfl ?_
          rw [g0 121 (by decide), f0 121 (by decide), r1]
          refine yr_sI1 (pq := 78) rfl dX8_judge_75 kM_8_98 (by decide) cat0 (m_isCorner r2 (fun q3 => ?_) (fun q3 => ?_))
          · refine yr_if_eq (pq := 81) (t := 97) rfl dX8_judge_78 rfl (by decide) (fun q9 => absurd q9 (by decide)) (fun _ => ?_)
            refine yr_aload_n (pq := 82) rfl dX8_judge_81 rfl ?_
            refine yr_aload_n (pq := 83) rfl dX8_judge_82 rfl ?_
            refine yr_getR (pq := 86) (b := 109) 0 rfl dX8_judge_83 kF_8_9 (by decide) rfl ?_
            refine yr_bipush (pq := 88) rfl dX8_judge_86 rfl ?_
            refine yr_iald (pq := 89) rfl dX8_judge_88 rfl (by decide) (by omega) ?_
            refine yr_iload (pq := 91) rfl dX8_judge_89 rfl ?_
            refine yr_vI2 (pq := 94) rfl dX8_judge_91 kM_8_138 (by decide) (by decide) cat0 (m_streetBy (w := -1) gO w5 (by decide) (by omega) r2 ?_)
            refine yr_goto (t := 98) dX8_judge_94 rfl ?_
            by_cases q4 : byF (g 109) (-1) (g 109 49) (r i) < 0
            · rw [if_pos (Or.inr q4)] at hj
              exact none _ q4 (by omega) hj _
            · rw [if_neg (by omega)] at hj
              have q4' : 0 ≤ byF (g 109) (-1) (g 109 49) (r i) := by omega
              have q4'' : byF (g 109) (-1) (g 109 49) (r i) < g 109 8 := by omega
              have tk := takesF_b gO q4' q4''
              refine yr_istore5 (pq := 100) rfl dX8_judge_98 ?_
              refine yr_iload (pq := 102) rfl dX8_judge_100 rfl ?_
              refine yr_if_ge (pq := 105) (t := 110) rfl dX8_judge_102 rfl (by omega) (fun _ => ?_) (fun q9 => absurd (by omega) q9)
              refine yr_aload_n (pq := 111) rfl dX8_judge_110 rfl ?_
              refine yr_aload_n (pq := 112) rfl dX8_judge_111 rfl ?_
              refine yr_iload (pq := 114) rfl dX8_judge_112 rfl ?_
              refine yr_vI1 (pq := 117) rfl dX8_judge_114 kM_8_126 (by decide) (by decide) (Nat.le_of_ble_eq_true rfl) (m_takes gO q4' q4'' ?_)
              refine yr_vI1 (pq := 120) rfl dX8_judge_117 kM_8_156 (by decide) (by decide) cat0 (m_isTooLate (by omega) (by omega) (fun q5 => ?_) (fun q5 => ?_))
              · rw [if_pos q5] at hj
                refine yr_if_eq (pq := 123) (t := 128) rfl dX8_judge_120 rfl (by decide) (fun q9 => absurd q9 (by decide)) (fun _ => ?_)
                refine yr_ldc (pq := 125) rfl dX8_judge_123 kN_8_159 ?_
                refine yr_goto (t := 129) dX8_judge_125 rfl ?_
                refine yr_istore2 (pq := 130) rfl dX8_judge_129 ?_
                refine yr_iload_n (pq := 131) rfl dX8_judge_130 rfl ?_
                refine yr_if_ne (pq := 134) (t := 142) rfl dX8_judge_131 rfl (by decide) (fun _ => ?_) (fun q9 => absurd q9 (by decide))
                refine yr_iinc3 (pq := 145) rfl dX8_judge_142 ?_
                refine yr_goto (t := 46) dX8_judge_145 rfl ?_
                exact stop _ _ _ g (by omega) (by omega) (by decide) g0 rfl g2 hj _ _
              · rw [if_neg (by omega)] at hj
                refine yr_if_eq (pq := 123) (t := 128) rfl dX8_judge_120 rfl (by decide) (fun _ => ?_) (fun q9 => absurd (by decide) q9)
                refine yr_iconst (pq := 129) rfl dX8_judge_128 ?_
                refine yr_istore2 (pq := 130) rfl dX8_judge_129 ?_
                refine yr_iload_n (pq := 131) rfl dX8_judge_130 rfl ?_
                refine yr_if_ne (pq := 134) (t := 142) rfl dX8_judge_131 rfl (by decide) (fun q9 => absurd (by decide) q9) (fun _ => ?_)
                refine yr_aload_n (pq := 135) rfl dX8_judge_134 rfl ?_
                refine yr_iload (pq := 137) rfl dX8_judge_135 rfl ?_
                refine yr_iload (pq := 139) rfl dX8_judge_137 rfl ?_
                refine yr_vV2 (pq := 142) rfl dX8_judge_139 kM_8_160 (by decide) (by decide) cat0 (m_carried gO gS q4' q4'' q3 (fun e e0 e1 => ?_))
                refine yr_iinc3 (pq := 145) rfl dX8_judge_142 ?_
                refine yr_goto (t := 46) dX8_judge_145 rfl ?_
                exact ih _ _ e (by omega) (by omega) (fun a ha => by rw [e0 a ha]; exact g0 a ha) e1 (fun j hj => by rw [carN_lo hj]; exact g2 j hj) (carN_T gO) (carN_okS gO gS q4' q4'' q3 (by omega)) q5 hj _ _
          · rw [if_pos (Or.inl q3)] at hj
            refine yr_if_eq (pq := 81) (t := 97) rfl dX8_judge_78 rfl (by decide) (fun _ => ?_) (fun q9 => absurd (by decide) q9)
            refine yr_iconst (pq := 98) rfl dX8_judge_97 ?_
            exact none _ (by decide) (by decide) hj _
      refine yr_iconst (pq := 43) rfl dX8_judge_42 ?_
      refine yr_istore2 (pq := 44) rfl dX8_judge_43 ?_
      refine yr_iconst (pq := 45) rfl dX8_judge_44 ?_
      refine yr_istore3 (pq := 46) rfl dX8_judge_45 ?_
      exact key (h 120 s).toNat 0 (h 109) f (by omega) (by omega) (fun _ _ => rfl) (f0 109 (by decide)) (fun _ _ => rfl) hO hS hl rfl _ _
    · refine yr_aload_n (pq := 24) rfl dX8_judge_23 rfl ?_
      refine yr_ldc_w (pq := 27) rfl dX8_judge_24 kN_8_339 ?_
      refine yr_vI1 (pq := 30) rfl dX8_judge_27 kM_8_101 (by decide) (by decide) cat0 (r_fnd (by decide) (fun e hf => ?_))
      exact yr_iret dX8_judge_30 rfl (k1 q1 q2 e hf)
  · refine yr_if_ne (pq := 7) (t := 14) rfl dX8_judge_4 rfl (by decide) (fun q9 => absurd (by decide) q9) (fun _ => ?_)
    refine yr_aload_n (pq := 8) rfl dX8_judge_7 rfl ?_
    refine yr_ldc (pq := 10) rfl dX8_judge_8 kN_8_73 ?_
    refine yr_vI1 (pq := 13) rfl dX8_judge_10 kM_8_101 (by decide) (by decide) cat0 (r_fnd (by decide) (fun e hf => ?_))
    exact yr_iret dX8_judge_13 rfl (k0 q1 e hf)
theorem s_judge {s : Int} (hI : Inv h) (hs : -2147483648 ≤ s ∧ s ≤ 2147483647) : Sm (d + 30) mX7_judge mX8_judge [vi s] h := by
  have hI0 := hI
  obtain ⟨⟨i1, i2, i3, i3'⟩, -, -, -, -, -, i11⟩ := hI0
  have hW : ∀ s, 0 ≤ s → s < 4 → (h 119 s = 0 ∨ h 119 s = 8 ∨ h 119 s = 16 ∨ h 119 s = 32) ∧ (0 ≤ h 120 s ∧ h 120 s ≤ 40) := fun s s0 s1 => ⟨(Inv_s hI s0 s1).2.1, (Inv_s hI s0 s1).2.2.2.1⟩
  have er : (0 ≤ s ∧ s ≤ 3) → ∀ i, 0 ≤ i → i < h 120 s → h 121 (40 * s + i) = h 121 (40 * s + i) ∧ (-2147483648 ≤ h 121 (40 * s + i) ∧ h 121 (40 * s + i) ≤ 2147483647) := fun q i j0 j1 => ⟨rfl, ((Inv_s hI q.1 (by omega)).2.2.2.2 i j0 j1).2⟩
  have hP := okS_P i3
  show ClI (d + 30) mX7_judge [vr 0, vi s] h (SKn (d + 30) mX8_judge [vr 108, vi s])
  refine cl_in (al := [vr 0, vi s, .null, .null, .null, .null, .null, .null, .null]) rfl (Nat.le_of_ble_eq_true rfl) (by simp [vi_cat, vr_cat, vs_cat]) ?_
  refine yr_iload_n (pq := 1) rfl dX7_judge_0 rfl ?_
  refine yr_sI1 (pq := 4) rfl dX7_judge_1 kM_7_269 (by decide) cat0 (c_isSheet hs (fun q1 => ?_) (fun q1 => ?_))
  · obtain ⟨o1, o2, o3, o4, o5⟩ := Inv_s hI q1.1 (by omega)
    refine yr_if_ne (pq := 7) (t := 13) rfl dX7_judge_4 rfl (by decide) (fun _ => ?_) (fun q9 => absurd q9 (by decide))
    refine yr_aload_n (pq := 14) rfl dX7_judge_13 rfl ?_
    refine yr_getR (pq := 17) (b := 98) 6 rfl dX7_judge_14 kF_7_46 (by decide) rfl ?_
    refine yr_iload_n (pq := 18) rfl dX7_judge_17 rfl ?_
    refine yr_aald (pq := 19) rfl dX7_judge_18 (a := 98) (L := 4) rfl (by decide) (by omega) (sq_b (by omega) (by omega)).2 ?_
    refine yr_vI0 (pq := 22) rfl dX7_judge_19 kM_7_275 (by decide) (sq_c (sq_b (by omega) (by omega)).1) cat0 (c_isMissing (sq_b (by omega) (by omega)).1 (by omega) (fun q2 => ?_) (fun q2 => ?_))
    · refine yr_if_eq (pq := 25) (t := 31) rfl dX7_judge_22 rfl (by decide) (fun q9 => absurd q9 (by decide)) (fun _ => ?_)
      refine yr_aload_n (pq := 26) rfl dX7_judge_25 rfl ?_
      refine yr_iconst (pq := 27) rfl dX7_judge_26 ?_
      refine yr_vI1 (pq := 30) rfl dX7_judge_27 kM_7_66 (by decide) (by decide) cat0 (c_finding (by decide) ?_)
      exact yr_iret dX7_judge_30 rfl (r_judge (r := fun i => h 121 (40 * s + i)) (W := h 119) (Z := h 120) (rb_u hI (by decide) (by decide)) i2 i3 i3' (up_ne (by decide)) (up_ne (by decide)) (fun q i j0 j1 => by rw [up_ne (by decide)]; exact er q i j0 j1) hW hs (fun q9 => absurd q1 q9) (fun _ _ e hf => fd_end hI (by decide) (by decide) hf) (fun _ q9 => absurd (by omega) q9) (fun _ q9 => absurd (by omega) q9))
    · have bad : ∀ (w k : Int) (g : hT), (∀ a, a ≠ 7 → g a = h a) → (0 ≤ k ∧ k ≤ 6) → w = -1000001 - k → w ≠ 0 → (jgF (fun i => h 121 (40 * s + i)) 0 (h 120 s).toNat (h 109)).1 = w → SKn (d + 30) mX8_judge [vr 108, vi s] (-1000001 - k) (up g 99 k (g 99 k + 1)) := by
        intro w k g g0 hk hw w0 hj
        have u : ∀ a, a ≠ 99 → a ≠ 7 → up g 99 k (g 99 k + 1) a = h a := fun a q1 q2 => by rw [up_ne q1]; exact g0 a q2
        refine r_judge (N := h 109) (r := fun i => h 121 (40 * s + i)) (W := h 119) (Z := h 120) ⟨u 109 (by decide) (by decide), by rw [u 108 (by decide) (by decide)]; exact i11⟩ i2 i3 i3' (u 119 (by decide) (by decide)) (u 120 (by decide) (by decide)) (fun q i j0 j1 => by rw [u 121 (by decide) (by decide)]; exact er q i j0 j1) hW hs (fun q9 => absurd q1 q9) (fun _ q9 => absurd q9 (by omega)) (fun _ _ _ e e' e0 hf => ?_) (fun _ _ q9 => absurd q9 (by rw [hj]; exact w0))
        rw [hj] at hf ⊢
        refine ⟨hw, find2 (k := k) hI hk (by omega) (fun a c1 c2 => ?_) ?_ (fun j hj => ?_) hf.1 hf.2⟩
        · rw [e0 a (by unfold CR at c1; omega), u a c2 (by unfold CR at c1; omega)]
        · rw [e0 99 (by decide), up_row, g0 99 (by decide)]
        · rw [e0 108 (by decide), u 108 (by decide) (by decide)]
      have key : ∀ (c : Nat) (i L : Int) (P : Int → Int) (g : hT), 0 ≤ i → i + c = h 120 s → (∀ a, a ≠ 7 → g a = h a) → (∀ j, j < 45 ∨ 53 ≤ j → P j = h 109 j) → ND (h 109) P L → (0 ≤ L ∧ L ≤ 3510 * i) → okT P → okS P → P 50 ≤ 999 → jgF (fun i => h 121 (40 * s + i)) i c P = jgF (fun i => h 121 (40 * s + i)) 0 (h 120 s).toNat (h 109) → ∀ x y, Yr (d + 29) mX7_judge 68 [vr 0, vi s, vr 2, vi (P 49), vi (P 50), vi L, vi i, x, y] [] g (rI (SKn (d + 30) mX8_judge [vr 108, vi s])) := by
        intro c
        induction c with
        | zero =>
          intro i L P g hi hc g0 g2 gD gL gO gS gl hj x y
          have ht := okS_tot i3
          have et := ND_tot hP gD gL.1
          have hj' : (0, P) = jgF (fun i => h 121 (40 * s + i)) 0 (h 120 s).toNat (h 109) := hj
          refine yr_iload (pq := 70) rfl dX7_judge_68 rfl ?_
          refine yr_aload_n (pq := 71) rfl dX7_judge_70 rfl ?_
          refine yr_getR (pq := 74) (b := 98) 6 rfl dX7_judge_71 kF_7_46 (by decide) rfl ?_
          refine yr_iload_n (pq := 75) rfl dX7_judge_74 rfl ?_
          refine yr_aald (pq := 76) rfl dX7_judge_75 (a := 98) (L := 4) rfl (by decide) (by omega) (sq_b (by omega) (by omega)).2 ?_
          refine yr_getI (pq := 79) 1 rfl dX7_judge_76 kF_7_274 (by decide) rfl (sq_c (sq_b (by omega) (by omega)).1) ?_
          rw [g0 (100 + 2 * s) (by omega), o3]
          refine yr_ic_ge (pq := 82) (t := 189) rfl dX7_judge_79 rfl (by omega) (by omega) (fun _ => ?_) (fun q9 => absurd (by omega) q9)
          refine yr_iconst (pq := 190) rfl dX7_judge_189 ?_
          refine yr_aload_n (pq := 191) rfl dX7_judge_190 rfl ?_
          refine yr_getR (pq := 194) (b := 1) 0 rfl dX7_judge_191 kF_7_10 (by decide) rfl ?_
          refine yr_getR (pq := 197) (b := 22) 1 rfl dX7_judge_194 kF_7_135 (by decide) rfl ?_
          refine yr_vI0 (pq := 200) rfl dX7_judge_197 kM_7_157 (by decide) (by decide) (Nat.le_of_ble_eq_true rfl) (c_total (N := h 109) (by rw [g0 23 (by decide)]; exact i1.2.1) ?_)
          refine yr_iload (pq := 202) rfl dX7_judge_200 rfl ?_
          refine yr_isub (pq := 203) rfl dX7_judge_202 ?_
          refine yr_sI2 (pq := 206) rfl dX7_judge_203 kM_7_106 (by decide) cat0 (j_max (by decide) (by omega) ?_)
          refine yr_iret dX7_judge_206 rfl ?_
          rw [← et]
          refine r_judge (N := h 109) (r := fun i => h 121 (40 * s + i)) (W := h 119) (Z := h 120) ⟨g0 109 (by decide), by rw [g0 108 (by decide)]; exact i11⟩ i2 i3 i3' (g0 119 (by decide)) (g0 120 (by decide)) (fun q i j0 j1 => by rw [g0 121 (by decide)]; exact er q i j0 j1) hW hs (fun q9 => absurd q1 q9) (fun _ q9 => absurd q9 (by omega)) (fun _ _ q9 => absurd (by rw [← hj']) q9) (fun _ _ _ e e0 => ⟨by rw [← hj'], ?_⟩)
          exact Inv_fr hI (fun a ha => by rw [e0 a (by unfold CR at ha; omega), g0 a (by unfold CR at ha; omega)]) (by rw [e0 108 (by decide), g0 108 (by decide)]) (by rw [e0 108 (by decide), g0 108 (by decide)]) (by rw [e0 108 (by decide), g0 108 (by decide)])
        | succ c ih =>
          intro i L P g hi hc g0 g2 gD gL gO gS gl hj x y
          obtain ⟨r1, r2⟩ := o5 i hi (by omega)
          have a1 := gS.1
          have a2 := gS.2.1
          have a3 := gS.2.2.1
          have h8 := gO.1
          have hb := byF_b (N := P) (w := -1) (a := P 49) (b := h 121 (40 * s + i))
          have gR : RT g 2 P := RT_row (N := h 109) (RT_cong i1.1 i2 (fun j j0 j1 j2 => g0 _ (by omega))) (fun j hj => g2 j (by omega))
          have e44 : g 22 1 = P 44 := by rw [g0 22 (by decide), g2 44 (by omega)]; exact i1.2.2.1
          rw [jgF] at hj
          have none : ∀ (b : Int), b < 0 → (-2147483648 ≤ b ∧ b ≤ 2147483647) → (-1000004, P) = jgF (fun i => h 121 (40 * s + i)) 0 (h 120 s).toNat (h 109) → ∀ y, Yr (d + 29) mX7_judge 115 [vr 0, vi s, vr 2, vi (P 49), vi (P 50), vi L, vi i, vi (h 121 (40 * s + i)), y] [vi b] g (rI (SKn (d + 30) mX8_judge [vr 108, vi s])) := by
            intro b b0 b1 hj y
            refine yr_istore8 (pq := 117) rfl dX7_judge_115 ?_
            refine yr_iload (pq := 119) rfl dX7_judge_117 rfl ?_
            refine yr_if_ge (pq := 122) (t := 128) rfl dX7_judge_119 rfl (by omega) (fun q9 => absurd q9 (by omega)) (fun _ => ?_)
            refine yr_aload_n (pq := 123) rfl dX7_judge_122 rfl ?_
            refine yr_iconst (pq := 124) rfl dX7_judge_123 ?_
            refine yr_vI1 (pq := 127) rfl dX7_judge_124 kM_7_66 (by decide) (by decide) cat0 (c_finding (by decide) ?_)
            exact yr_iret dX7_judge_127 rfl (bad (-1000004) 3 g g0 (by decide) (by decide) (by decide) (by rw [← hj]))
          refine yr_iload (pq := 70) rfl dX7_judge_68 rfl ?_
          refine yr_aload_n (pq := 71) rfl dX7_judge_70 rfl ?_
          refine yr_getR (pq := 74) (b := 98) 6 rfl dX7_judge_71 kF_7_46 (by decide) rfl ?_
          refine yr_iload_n (pq := 75) rfl dX7_judge_74 rfl ?_
          refine yr_aald (pq := 76) rfl dX7_judge_75 (a := 98) (L := 4) rfl (by decide) (by omega) (sq_b (by omega) (by omega)).2 ?_
          refine yr_getI (pq := 79) 1 rfl dX7_judge_76 kF_7_274 (by decide) rfl (sq_c (sq_b (by omega) (by omega)).1) ?_
          rw [g0 (100 + 2 * s) (by omega), o3]
          refine yr_ic_ge (pq := 82) (t := 189) rfl dX7_judge_79 rfl (by omega) (by omega) (fun q9 => absurd q9 (by omega)) (fun _ => ?_)
          refine yr_aload_n (pq := 83) rfl dX7_judge_82 rfl ?_
          refine yr_getR (pq := 86) (b := 98) 6 rfl dX7_judge_83 kF_7_46 (by decide) rfl ?_
          refine yr_iload_n (pq := 87) rfl dX7_judge_86 rfl ?_
          refine yr_aald (pq := 88) rfl dX7_judge_87 (a := 98) (L := 4) rfl (by decide) (by omega) (sq_b (by omega) (by omega)).2 ?_
          refine yr_getR (pq := 91) 2 rfl dX7_judge_88 kF_7_287 (sq_c (sq_b (by omega) (by omega)).1) (fr_4_2 (sq_b (by omega) (by omega)).1) ?_
          refine yr_iload (pq := 93) rfl dX7_judge_91 rfl ?_
          refine yr_iald (pq := 94) rfl dX7_judge_93 (sq_k1 (sq_b (by omega) (by omega)).1) (sq_n (sq_b (by omega) (by omega)).1 1 (by decide)) (by omega) ?_
          refine yr_istore7 (pq := 96) rfl dX7_judge_94 ?_
          refine yr_iload (pq := 98) rfl dX7_judge_96 rfl ?_
          rw [g0 (100 + 2 * s + 1) (by omega), r1]
          refine yr_sI1 (pq := 101) rfl dX7_judge_98 kM_7_59 (by decide) cat0 (c_isCorner r2 (fun q3 => ?_) (fun q3 => ?_))
          · refine yr_if_eq (pq := 104) (t := 114) rfl dX7_judge_101 rfl (by decide) (fun q9 => absurd q9 (by decide)) (fun _ => ?_)
            refine yr_aload_n (pq := 105) rfl dX7_judge_104 rfl ?_
            refine yr_iload_n (pq := 106) rfl dX7_judge_105 rfl ?_
            refine yr_iload (pq := 108) rfl dX7_judge_106 rfl ?_
            refine yr_vI2 (pq := 111) rfl dX7_judge_108 kM_7_151 (by decide) (tw_c (by decide)) cat0 (c_between (N := P) (T := 2) (by decide) gR gO (by omega) q3 ?_)
            refine yr_goto (t := 115) dX7_judge_111 rfl ?_
            by_cases q4 : byF P (-1) (P 49) (h 121 (40 * s + i)) < 0
            · rw [if_pos (Or.inr q4)] at hj
              exact none _ q4 (by omega) hj _
            · rw [if_neg (by omega)] at hj
              have q4' : 0 ≤ byF P (-1) (P 49) (h 121 (40 * s + i)) := by omega
              have q4'' : byF P (-1) (P 49) (h 121 (40 * s + i)) < P 8 := by omega
              have tk := takesF_b gO q4' q4''
              have lt := lossT_b gO a3.1 q4' q4''
              obtain ⟨u0, u3, u4, u5⟩ := rt_okst gR gO q4' q4''
              refine yr_istore8 (pq := 117) rfl dX7_judge_115 ?_
              refine yr_iload (pq := 119) rfl dX7_judge_117 rfl ?_
              refine yr_if_ge (pq := 122) (t := 128) rfl dX7_judge_119 rfl (by omega) (fun _ => ?_) (fun q9 => absurd (by omega) q9)
              refine yr_iload (pq := 130) rfl dX7_judge_128 rfl ?_
              refine yr_aload_n (pq := 131) rfl dX7_judge_130 rfl ?_
              refine yr_iload (pq := 133) rfl dX7_judge_131 rfl ?_
              refine yr_iload (pq := 135) rfl dX7_judge_133 rfl ?_
              refine yr_aload_n (pq := 136) rfl dX7_judge_135 rfl ?_
              refine yr_getR (pq := 139) (b := 1) 0 rfl dX7_judge_136 kF_7_10 (by decide) rfl ?_
              refine yr_getR (pq := 142) (b := 22) 1 rfl dX7_judge_139 kF_7_135 (by decide) rfl ?_
              refine yr_getI (pq := 145) 1 rfl dX7_judge_142 kF_7_139 (by decide) rfl (by decide) ?_
              rw [e44]
              refine yr_vI3 (pq := 148) rfl dX7_judge_145 kM_7_296 (by decide) (tw_c (by decide)) (Nat.le_of_ble_eq_true rfl) (c_lossAlong (N := P) (T := 2) (by decide) gR gO ⟨q4', q4''⟩ (by omega) a1 (fun f f0 => ?_))
              have es : f (2 + 6 + byF P (-1) (P 49) (h 121 (40 * s + i))) = g (2 + 6 + byF P (-1) (P 49) (h 121 (40 * s + i))) := f0 _ (by omega)
              have fs : ∀ a, a ≠ 7 → f a = h a := fun a qa => by rw [f0 a (by omega)]; exact g0 a qa
              refine yr_iadd (pq := 149) rfl dX7_judge_148 ?_
              refine yr_istore5 (pq := 151) rfl dX7_judge_149 ?_
              refine yr_iload (pq := 153) rfl dX7_judge_151 rfl ?_
              refine yr_aload_n (pq := 154) rfl dX7_judge_153 rfl ?_
              refine yr_getR (pq := 157) 0 rfl dX7_judge_154 kF_7_84 (tw_c (by decide)) (fr_6_0 (by decide)) ?_
              refine yr_iload (pq := 159) rfl dX7_judge_157 rfl ?_
              refine yr_aald (pq := 160) rfl dX7_judge_159 (tw_k1 (by decide)) (by decide) (by omega) (st_q (by decide) (by omega) (by omega)) ?_
              refine yr_vI0 (pq := 163) rfl dX7_judge_160 kM_7_115 (by decide) (st_c (by decide) (by omega) (by omega)) (Nat.le_of_ble_eq_true rfl) (c_takes (st_c (by decide) q4' (by omega)) (by rw [es]; exact u0) (by rw [es]; exact u3) ?_)
              rw [es, u5]
              refine yr_iadd (pq := 164) rfl dX7_judge_163 ?_
              refine yr_istore4 (pq := 166) rfl dX7_judge_164 ?_
              refine yr_iload (pq := 168) rfl dX7_judge_166 rfl ?_
              refine yr_sipush (pq := 171) rfl dX7_judge_168 rfl ?_
              refine yr_ic_le (pq := 174) (t := 180) rfl dX7_judge_171 rfl (by omega) (by omega) (fun q5 => ?_) (fun q5 => ?_)
              · rw [if_neg (by omega)] at hj
                have nx := ih (i + 1) (L + lossT P (byF P (-1) (P 49) (h 121 (40 * s + i)))) (carN P (byF P (-1) (P 49) (h 121 (40 * s + i))) (h 121 (40 * s + i))) f (by omega) (by omega) fs (fun j hj => by rw [carN_lo hj]; exact g2 j hj) (ND_car hP gD gL.1 lt.1) (by omega) (carN_T gO) (carN_okS gO gS q4' q4'' q3 (by omega)) q5 hj
                refine yr_iload (pq := 182) rfl dX7_judge_180 rfl ?_
                refine yr_istore3 (pq := 183) rfl dX7_judge_182 ?_
                refine yr_iinc6 (pq := 186) rfl dX7_judge_183 ?_
                refine yr_goto (t := 68) dX7_judge_186 rfl ?_
                exact nx _ _
              · rw [if_pos (by omega)] at hj
                refine yr_aload_n (pq := 175) rfl dX7_judge_174 rfl ?_
                refine yr_iconst (pq := 176) rfl dX7_judge_175 ?_
                refine yr_vI1 (pq := 179) rfl dX7_judge_176 kM_7_66 (by decide) (by decide) cat0 (c_finding (by decide) ?_)
                exact yr_iret dX7_judge_179 rfl (bad (-1000005) 4 f fs (by decide) (by decide) (by decide) (by rw [← hj]))
          · rw [if_pos (Or.inl q3)] at hj
            refine yr_if_eq (pq := 104) (t := 114) rfl dX7_judge_101 rfl (by decide) (fun _ => ?_) (fun q9 => absurd (by decide) q9)
            refine yr_iconst (pq := 115) rfl dX7_judge_114 ?_
            exact none _ (by decide) (by decide) hj _
      refine yr_if_eq (pq := 25) (t := 31) rfl dX7_judge_22 rfl (by decide) (fun _ => ?_) (fun q9 => absurd (by decide) q9)
      refine yr_aload_n (pq := 32) rfl dX7_judge_31 rfl ?_
      refine yr_getR (pq := 35) (b := 1) 0 rfl dX7_judge_32 kF_7_10 (by decide) rfl ?_
      refine yr_getR (pq := 38) (b := 2) 0 rfl dX7_judge_35 kF_7_70 (by decide) rfl ?_
      refine yr_astore2 (pq := 39) rfl dX7_judge_38 ?_
      refine yr_aload_n (pq := 40) rfl dX7_judge_39 rfl ?_
      refine yr_getR (pq := 43) (b := 1) 0 rfl dX7_judge_40 kF_7_10 (by decide) rfl ?_
      refine yr_getR (pq := 46) (b := 22) 1 rfl dX7_judge_43 kF_7_135 (by decide) rfl ?_
      refine yr_getI (pq := 49) 2 rfl dX7_judge_46 kF_7_160 (by decide) rfl (by decide) ?_
      refine yr_istore3 (pq := 50) rfl dX7_judge_49 ?_
      refine yr_aload_n (pq := 51) rfl dX7_judge_50 rfl ?_
      refine yr_getR (pq := 54) (b := 1) 0 rfl dX7_judge_51 kF_7_10 (by decide) rfl ?_
      refine yr_getR (pq := 57) (b := 22) 1 rfl dX7_judge_54 kF_7_135 (by decide) rfl ?_
      refine yr_getI (pq := 60) 3 rfl dX7_judge_57 kF_7_163 (by decide) rfl (by decide) ?_
      refine yr_istore4 (pq := 62) rfl dX7_judge_60 ?_
      refine yr_iconst (pq := 63) rfl dX7_judge_62 ?_
      refine yr_istore5 (pq := 65) rfl dX7_judge_63 ?_
      refine yr_iconst (pq := 66) rfl dX7_judge_65 ?_
      refine yr_istore6 (pq := 68) rfl dX7_judge_66 ?_
      rw [i1.2.2.2.1, i1.2.2.2.2.1]
      exact key (h 120 s).toNat 0 0 (h 109) h (by omega) (by omega) (fun _ _ => rfl) (fun _ _ => rfl) (ND_0 hP) (by decide) i2 i3 i3' rfl _ _
  · refine yr_if_ne (pq := 7) (t := 13) rfl dX7_judge_4 rfl (by decide) (fun q9 => absurd (by decide) q9) (fun _ => ?_)
    refine yr_aload_n (pq := 8) rfl dX7_judge_7 rfl ?_
    refine yr_iconst (pq := 9) rfl dX7_judge_8 ?_
    refine yr_vI1 (pq := 12) rfl dX7_judge_9 kM_7_66 (by decide) (by decide) cat0 (c_finding (by decide) ?_)
    exact yr_iret dX7_judge_12 rfl (r_judge (r := fun i => h 121 (40 * s + i)) (W := h 119) (Z := h 120) (rb_u hI (by decide) (by decide)) i2 i3 i3' (up_ne (by decide)) (up_ne (by decide)) (fun q i j0 j1 => by rw [up_ne (by decide)]; exact er q i j0 j1) hW hs (fun _ e hf => fd_end hI (by decide) (by decide) hf) (fun q9 => absurd q9 q1) (fun q9 => absurd q9 q1) (fun q9 => absurd q9 q1))
end S32
