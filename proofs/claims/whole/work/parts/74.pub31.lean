/-! copy -/
section S31
variable {d : Nat} {h : hT} {K : Int → hT → Prop}
def gdR (Z : Int → Int) (s f t o n : Int) : Prop := 0 ≤ f ∧ 0 ≤ o ∧ 0 ≤ n ∧ f + n ≤ Z s ∧ o + n ≤ Z t
theorem r_copy {s f t o n : Int} {W Z : Int → Int} (eW : h 119 = W) (eZ : h 120 = Z) (hW : ∀ s, 0 ≤ s → s < 4 → (W s = 0 ∨ W s = 8 ∨ W s = 16 ∨ W s = 32) ∧ (0 ≤ Z s ∧ Z s ≤ 40)) (hs : -2147483648 ≤ s ∧ s ≤ 2147483647) (hf : -2147483648 ≤ f ∧ f ≤ 2147483647) (ht : -2147483648 ≤ t ∧ t ≤ 2147483647) (ho : -2147483648 ≤ o ∧ o ≤ 2147483647) (hn : -2147483648 ≤ n ∧ n ≤ 2147483647)
    (k0 : ¬ ((0 ≤ s ∧ s ≤ 3) ∧ (0 ≤ t ∧ t ≤ 3)) → ∀ e, FD (-1000001) h e → K (-1000001) e) (k1 : (0 ≤ s ∧ s ≤ 3) → (0 ≤ t ∧ t ≤ 3) → (W s = 0 ∨ W t = 0) → ∀ e, FD (-1000006) h e → K (-1000006) e)
    (k2 : (0 ≤ s ∧ s ≤ 3) → (0 ≤ t ∧ t ≤ 3) → W s ≠ 0 → W t ≠ 0 → W s ≠ W t → ∀ e, FD (-1000003) h e → K (-1000003) e) (k3 : (0 ≤ s ∧ s ≤ 3) → (0 ≤ t ∧ t ≤ 3) → W s ≠ 0 → W t ≠ 0 → W s = W t → ¬ gdR Z s f t o n → ∀ e, FD (-1000001) h e → K (-1000001) e)
    (k4 : (0 ≤ s ∧ s ≤ 3) → (0 ≤ t ∧ t ≤ 3) → W s ≠ 0 → W t ≠ 0 → W s = W t → gdR Z s f t o n → ∀ e, (∀ a, a ≠ 121 → a ≠ 122 → e a = h a) → (∀ j, 0 ≤ j → j < n → e 121 (40 * t + o + j) = h 121 (40 * s + f + j)) → (∀ j, (j < 40 * t + o ∨ 40 * t + o + n ≤ j) → e 121 j = h 121 j) → K n e) : ClI (d + 3) mX8_copy [vr 108, vi s, vi f, vi t, vi o, vi n] h K := by
  subst eW
  subst eZ
  refine cl_in (al := [vr 108, vi s, vi f, vi t, vi o, vi n, .null]) rfl (Nat.le_of_ble_eq_true rfl) (by simp [vi_cat, vr_cat, vs_cat]) ?_
  refine yr_iload_n (pq := 1) rfl dX8_copy_0 rfl ?_
  refine yr_sI1 (pq := 4) rfl dX8_copy_1 kM_8_341 (by decide) cat0 (m_isSheet hs (fun q1 => ?_) (fun q1 => ?_))
  · refine yr_if_eq (pq := 7) (t := 14) rfl dX8_copy_4 rfl (by decide) (fun q9 => absurd q9 (by decide)) (fun _ => ?_)
    refine yr_iload_n (pq := 8) rfl dX8_copy_7 rfl ?_
    refine yr_sI1 (pq := 11) rfl dX8_copy_8 kM_8_341 (by decide) cat0 (m_isSheet ht (fun q2 => ?_) (fun q2 => ?_))
    · obtain ⟨w1, z1⟩ := hW s q1.1 (by omega)
      obtain ⟨w2, z2⟩ := hW t q2.1 (by omega)
      have mis : (h 119 s = 0 ∨ h 119 t = 0) → Yr (d + 2) mX8_copy 39 [vr 108, vi s, vi f, vi t, vi o, vi n, .null] [] h (rI K) := by
        intro q
        refine yr_aload_n (pq := 40) rfl dX8_copy_39 rfl ?_
        refine yr_ldc_w (pq := 43) rfl dX8_copy_40 kN_8_339 ?_
        refine yr_vI1 (pq := 46) rfl dX8_copy_43 kM_8_101 (by decide) (by decide) cat0 (r_fnd (by decide) (fun e hf => ?_))
        exact yr_iret dX8_copy_46 rfl (k1 q1 q2 q e hf)
      refine yr_if_ne (pq := 14) (t := 21) rfl dX8_copy_11 rfl (by decide) (fun _ => ?_) (fun q9 => absurd q9 (by decide))
      refine yr_aload_n (pq := 22) rfl dX8_copy_21 rfl ?_
      refine yr_getR (pq := 25) (b := 119) 27 rfl dX8_copy_22 kF_8_61 (by decide) rfl ?_
      refine yr_iload_n (pq := 26) rfl dX8_copy_25 rfl ?_
      refine yr_iald (pq := 27) rfl dX8_copy_26 rfl (by decide) (by omega) ?_
      refine yr_if_eq (pq := 30) (t := 39) rfl dX8_copy_27 rfl (by omega) (fun q3 => ?_) (fun q3 => ?_)
      · exact mis (Or.inl q3)
      · refine yr_aload_n (pq := 31) rfl dX8_copy_30 rfl ?_
        refine yr_getR (pq := 34) (b := 119) 27 rfl dX8_copy_31 kF_8_61 (by decide) rfl ?_
        refine yr_iload_n (pq := 35) rfl dX8_copy_34 rfl ?_
        refine yr_iald (pq := 36) rfl dX8_copy_35 rfl (by decide) (by omega) ?_
        refine yr_if_ne (pq := 39) (t := 47) rfl dX8_copy_36 rfl (by omega) (fun q4 => ?_) (fun q4 => ?_)
        · refine yr_aload_n (pq := 48) rfl dX8_copy_47 rfl ?_
          refine yr_getR (pq := 51) (b := 119) 27 rfl dX8_copy_48 kF_8_61 (by decide) rfl ?_
          refine yr_iload_n (pq := 52) rfl dX8_copy_51 rfl ?_
          refine yr_iald (pq := 53) rfl dX8_copy_52 rfl (by decide) (by omega) ?_
          refine yr_aload_n (pq := 54) rfl dX8_copy_53 rfl ?_
          refine yr_getR (pq := 57) (b := 119) 27 rfl dX8_copy_54 kF_8_61 (by decide) rfl ?_
          refine yr_iload_n (pq := 58) rfl dX8_copy_57 rfl ?_
          refine yr_iald (pq := 59) rfl dX8_copy_58 rfl (by decide) (by omega) ?_
          refine yr_ic_eq (pq := 62) (t := 70) rfl dX8_copy_59 rfl (by omega) (by omega) (fun q5 => ?_) (fun q5 => ?_)
          · have bad : ¬ gdR (h 120) s f t o n → Yr (d + 2) mX8_copy 119 [vr 108, vi s, vi f, vi t, vi o, vi n, .null] [] h (rI K) := by
              intro q
              refine yr_aload_n (pq := 120) rfl dX8_copy_119 rfl ?_
              refine yr_ldc (pq := 122) rfl dX8_copy_120 kN_8_73 ?_
              refine yr_vI1 (pq := 125) rfl dX8_copy_122 kM_8_101 (by decide) (by decide) cat0 (r_fnd (by decide) (fun e hf => ?_))
              exact yr_iret dX8_copy_125 rfl (k3 q1 q2 q3 q4 q5 q e hf)
            have good : gdR (h 120) s f t o n → Yr (d + 2) mX8_copy 126 [vr 108, vi s, vi f, vi t, vi o, vi n, .null] [] h (rI K) := by
              intro gd
              have gd' := gd
              unfold gdR at gd'
              have two : ∀ (c : Nat) (i : Int) (g : hT), 0 ≤ i → i + c = n → (∀ a, a ≠ 121 → a ≠ 122 → g a = h a) → (∀ j, 0 ≤ j → j < n → g 122 j = h 121 (40 * s + f + j)) → (∀ j, 0 ≤ j → j < i → g 121 (40 * t + o + j) = h 121 (40 * s + f + j)) → (∀ j, (j < 40 * t + o ∨ 40 * t + o + i ≤ j) → g 121 j = h 121 j) → Yr (d + 2) mX8_copy 166 [vr 108, vi s, vi f, vi t, vi o, vi n, vi i] [] g (rI K) := by
                intro c
                induction c with
                | zero =>
                  intro i g hi hc g0 g1 g2 g3
                  have hi : i = n := by omega
                  subst hi
                  refine yr_iload (pq := 168) rfl dX8_copy_166 rfl ?_
                  refine yr_iload (pq := 170) rfl dX8_copy_168 rfl ?_
                  refine yr_ic_ge (pq := 173) (t := 201) rfl dX8_copy_170 rfl (by omega) (by omega) (fun _ => ?_) (fun q9 => absurd (by omega) q9)
                  refine yr_iload (pq := 203) rfl dX8_copy_201 rfl ?_
                  exact yr_iret dX8_copy_203 rfl (k4 q1 q2 q3 q4 q5 gd g g0 g2 g3)
                | succ c ih =>
                  intro i g hi hc g0 g1 g2 g3
                  refine yr_iload (pq := 168) rfl dX8_copy_166 rfl ?_
                  refine yr_iload (pq := 170) rfl dX8_copy_168 rfl ?_
                  refine yr_ic_ge (pq := 173) (t := 201) rfl dX8_copy_170 rfl (by omega) (by omega) (fun q9 => absurd q9 (by omega)) (fun _ => ?_)
                  refine yr_aload_n (pq := 174) rfl dX8_copy_173 rfl ?_
                  refine yr_getR (pq := 177) (b := 121) 29 rfl dX8_copy_174 kF_8_67 (by decide) rfl ?_
                  refine yr_bipush (pq := 179) rfl dX8_copy_177 rfl ?_
                  refine yr_iload_n (pq := 180) rfl dX8_copy_179 rfl ?_
                  refine yr_imul (pq := 181) rfl dX8_copy_180 ?_
                  refine yr_iload (pq := 183) rfl dX8_copy_181 rfl ?_
                  refine yr_iadd (pq := 184) rfl dX8_copy_183 ?_
                  refine yr_iload (pq := 186) rfl dX8_copy_184 rfl ?_
                  refine yr_iadd (pq := 187) rfl dX8_copy_186 ?_
                  refine yr_aload_n (pq := 188) rfl dX8_copy_187 rfl ?_
                  refine yr_getR (pq := 191) (b := 122) 30 rfl dX8_copy_188 kF_8_70 (by decide) rfl ?_
                  refine yr_iload (pq := 193) rfl dX8_copy_191 rfl ?_
                  refine yr_iald (pq := 194) rfl dX8_copy_193 rfl (by decide) (by omega) ?_
                  refine yr_iast (pq := 195) rfl dX8_copy_194 rfl (by decide) (by omega) ?_
                  refine yr_iinc6 (pq := 198) rfl dX8_copy_195 ?_
                  refine yr_goto (t := 166) dX8_copy_198 rfl ?_
                  refine ih _ _ (by omega) (by omega) (fun a q1 q2 => by rw [up_ne q1]; exact g0 a q1 q2) (fun j j0 j1 => by rw [up_ne (by decide)]; exact g1 j j0 j1) (fun j j0 j1 => ?_) (fun j hj => by rw [up_k (by omega)]; exact g3 j (by omega))
                  by_cases e : j = i
                  · subst e; rw [up_s]; exact g1 j j0 (by omega)
                  · rw [up_k (by omega)]; exact g2 j j0 (by omega)
              have one : ∀ (c : Nat) (i : Int) (g : hT), 0 ≤ i → i + c = n → (∀ a, a ≠ 122 → g a = h a) → (∀ j, 0 ≤ j → j < i → g 122 j = h 121 (40 * s + f + j)) → Yr (d + 2) mX8_copy 129 [vr 108, vi s, vi f, vi t, vi o, vi n, vi i] [] g (rI K) := by
                intro c
                induction c with
                | zero =>
                  intro i g hi hc g0 g1
                  refine yr_iload (pq := 131) rfl dX8_copy_129 rfl ?_
                  refine yr_iload (pq := 133) rfl dX8_copy_131 rfl ?_
                  refine yr_ic_ge (pq := 136) (t := 163) rfl dX8_copy_133 rfl (by omega) (by omega) (fun _ => ?_) (fun q9 => absurd (by omega) q9)
                  refine yr_iconst (pq := 164) rfl dX8_copy_163 ?_
                  refine yr_istore6 (pq := 166) rfl dX8_copy_164 ?_
                  exact two n.toNat 0 g (by omega) (by omega) (fun a _ q2 => g0 a q2) (fun j j0 j1 => g1 j j0 (by omega)) (fun j j0 j1 => by omega) (fun j _ => by rw [g0 121 (by decide)])
                | succ c ih =>
                  intro i g hi hc g0 g1
                  refine yr_iload (pq := 131) rfl dX8_copy_129 rfl ?_
                  refine yr_iload (pq := 133) rfl dX8_copy_131 rfl ?_
                  refine yr_ic_ge (pq := 136) (t := 163) rfl dX8_copy_133 rfl (by omega) (by omega) (fun q9 => absurd q9 (by omega)) (fun _ => ?_)
                  refine yr_aload_n (pq := 137) rfl dX8_copy_136 rfl ?_
                  refine yr_getR (pq := 140) (b := 122) 30 rfl dX8_copy_137 kF_8_70 (by decide) rfl ?_
                  refine yr_iload (pq := 142) rfl dX8_copy_140 rfl ?_
                  refine yr_aload_n (pq := 143) rfl dX8_copy_142 rfl ?_
                  refine yr_getR (pq := 146) (b := 121) 29 rfl dX8_copy_143 kF_8_67 (by decide) rfl ?_
                  refine yr_bipush (pq := 148) rfl dX8_copy_146 rfl ?_
                  refine yr_iload_n (pq := 149) rfl dX8_copy_148 rfl ?_
                  refine yr_imul (pq := 150) rfl dX8_copy_149 ?_
                  refine yr_iload_n (pq := 151) rfl dX8_copy_150 rfl ?_
                  refine yr_iadd (pq := 152) rfl dX8_copy_151 ?_
                  refine yr_iload (pq := 154) rfl dX8_copy_152 rfl ?_
                  refine yr_iadd (pq := 155) rfl dX8_copy_154 ?_
                  refine yr_iald (pq := 156) rfl dX8_copy_155 rfl (by decide) (by omega) ?_
                  refine yr_iast (pq := 157) rfl dX8_copy_156 rfl (by decide) (by omega) ?_
                  refine yr_iinc6 (pq := 160) rfl dX8_copy_157 ?_
                  refine yr_goto (t := 129) dX8_copy_160 rfl ?_
                  refine ih _ _ (by omega) (by omega) (fun a q1 => by rw [up_ne q1]; exact g0 a q1) (fun j j0 j1 => ?_)
                  by_cases e : j = i
                  · subst e; rw [up_s, g0 121 (by decide)]
                  · rw [up_k e]; exact g1 j j0 (by omega)
              refine yr_iconst (pq := 127) rfl dX8_copy_126 ?_
              refine yr_istore6 (pq := 129) rfl dX8_copy_127 ?_
              exact one n.toNat 0 h (by omega) (by omega) (fun _ _ => rfl) (fun j j0 j1 => by omega)
            unfold gdR at bad good
            refine yr_iload_n (pq := 71) rfl dX8_copy_70 rfl ?_
            refine yr_if_lt (pq := 74) (t := 119) rfl dX8_copy_71 rfl (by omega) (fun q6 => ?_) (fun q6 => ?_)
            · exact bad (by omega)
            · refine yr_iload (pq := 76) rfl dX8_copy_74 rfl ?_
              refine yr_if_lt (pq := 79) (t := 119) rfl dX8_copy_76 rfl (by omega) (fun q7 => ?_) (fun q7 => ?_)
              · exact bad (by omega)
              · refine yr_iload (pq := 81) rfl dX8_copy_79 rfl ?_
                refine yr_if_lt (pq := 84) (t := 119) rfl dX8_copy_81 rfl (by omega) (fun q8 => ?_) (fun q8 => ?_)
                · exact bad (by omega)
                · refine yr_iload_n (pq := 85) rfl dX8_copy_84 rfl ?_
                  refine yr_i2l (pq := 86) rfl dX8_copy_85 (by omega) ?_
                  refine yr_iload (pq := 88) rfl dX8_copy_86 rfl ?_
                  refine yr_i2l (pq := 89) rfl dX8_copy_88 (by omega) ?_
                  refine yr_ladd (pq := 90) rfl dX8_copy_89 ?_
                  refine yr_aload_n (pq := 91) rfl dX8_copy_90 rfl ?_
                  refine yr_getR (pq := 94) (b := 120) 28 rfl dX8_copy_91 kF_8_64 (by decide) rfl ?_
                  refine yr_iload_n (pq := 95) rfl dX8_copy_94 rfl ?_
                  refine yr_iald (pq := 96) rfl dX8_copy_95 rfl (by decide) (by omega) ?_
                  refine yr_i2l (pq := 97) rfl dX8_copy_96 (by omega) ?_
                  refine yr_lcmp (pq := 98) rfl dX8_copy_97 (by omega) (by omega) (fun q => ?_) (fun q => ?_) (fun q => ?_)
                  · refine yr_if_gt (pq := 101) (t := 119) rfl dX8_copy_98 rfl (by decide) (fun _ => ?_) (fun q9 => absurd (by decide) q9)
                    exact bad (by omega)
                  · refine yr_if_gt (pq := 101) (t := 119) rfl dX8_copy_98 rfl (by decide) (fun q9 => absurd q9 (by decide)) (fun _ => ?_)
                    refine yr_iload (pq := 103) rfl dX8_copy_101 rfl ?_
                    refine yr_i2l (pq := 104) rfl dX8_copy_103 (by omega) ?_
                    refine yr_iload (pq := 106) rfl dX8_copy_104 rfl ?_
                    refine yr_i2l (pq := 107) rfl dX8_copy_106 (by omega) ?_
                    refine yr_ladd (pq := 108) rfl dX8_copy_107 ?_
                    refine yr_aload_n (pq := 109) rfl dX8_copy_108 rfl ?_
                    refine yr_getR (pq := 112) (b := 120) 28 rfl dX8_copy_109 kF_8_64 (by decide) rfl ?_
                    refine yr_iload_n (pq := 113) rfl dX8_copy_112 rfl ?_
                    refine yr_iald (pq := 114) rfl dX8_copy_113 rfl (by decide) (by omega) ?_
                    refine yr_i2l (pq := 115) rfl dX8_copy_114 (by omega) ?_
                    refine yr_lcmp (pq := 116) rfl dX8_copy_115 (by omega) (by omega) (fun q => ?_) (fun q => ?_) (fun q => ?_)
                    · refine yr_if_le (pq := 119) (t := 126) rfl dX8_copy_116 rfl (by decide) (fun q9 => absurd q9 (by decide)) (fun _ => ?_)
                      exact bad (by omega)
                    · refine yr_if_le (pq := 119) (t := 126) rfl dX8_copy_116 rfl (by decide) (fun _ => ?_) (fun q9 => absurd (by decide) q9)
                      exact good (by omega)
                    · refine yr_if_le (pq := 119) (t := 126) rfl dX8_copy_116 rfl (by decide) (fun _ => ?_) (fun q9 => absurd (by decide) q9)
                      exact good (by omega)
                  · refine yr_if_gt (pq := 101) (t := 119) rfl dX8_copy_98 rfl (by decide) (fun q9 => absurd q9 (by decide)) (fun _ => ?_)
                    refine yr_iload (pq := 103) rfl dX8_copy_101 rfl ?_
                    refine yr_i2l (pq := 104) rfl dX8_copy_103 (by omega) ?_
                    refine yr_iload (pq := 106) rfl dX8_copy_104 rfl ?_
                    refine yr_i2l (pq := 107) rfl dX8_copy_106 (by omega) ?_
                    refine yr_ladd (pq := 108) rfl dX8_copy_107 ?_
                    refine yr_aload_n (pq := 109) rfl dX8_copy_108 rfl ?_
                    refine yr_getR (pq := 112) (b := 120) 28 rfl dX8_copy_109 kF_8_64 (by decide) rfl ?_
                    refine yr_iload_n (pq := 113) rfl dX8_copy_112 rfl ?_
                    refine yr_iald (pq := 114) rfl dX8_copy_113 rfl (by decide) (by omega) ?_
                    refine yr_i2l (pq := 115) rfl dX8_copy_114 (by omega) ?_
                    refine yr_lcmp (pq := 116) rfl dX8_copy_115 (by omega) (by omega) (fun q => ?_) (fun q => ?_) (fun q => ?_)
                    · refine yr_if_le (pq := 119) (t := 126) rfl dX8_copy_116 rfl (by decide) (fun q9 => absurd q9 (by decide)) (fun _ => ?_)
                      exact bad (by omega)
                    · refine yr_if_le (pq := 119) (t := 126) rfl dX8_copy_116 rfl (by decide) (fun _ => ?_) (fun q9 => absurd (by decide) q9)
                      exact good (by omega)
                    · refine yr_if_le (pq := 119) (t := 126) rfl dX8_copy_116 rfl (by decide) (fun _ => ?_) (fun q9 => absurd (by decide) q9)
                      exact good (by omega)
          · refine yr_aload_n (pq := 63) rfl dX8_copy_62 rfl ?_
            refine yr_ldc_w (pq := 66) rfl dX8_copy_63 kN_8_340 ?_
            refine yr_vI1 (pq := 69) rfl dX8_copy_66 kM_8_101 (by decide) (by decide) cat0 (r_fnd (by decide) (fun e hf => ?_))
            exact yr_iret dX8_copy_69 rfl (k2 q1 q2 q3 q4 q5 e hf)
        · exact mis (Or.inr (by omega))
    · refine yr_if_ne (pq := 14) (t := 21) rfl dX8_copy_11 rfl (by decide) (fun q9 => absurd (by decide) q9) (fun _ => ?_)
      refine yr_aload_n (pq := 15) rfl dX8_copy_14 rfl ?_
      refine yr_ldc (pq := 17) rfl dX8_copy_15 kN_8_73 ?_
      refine yr_vI1 (pq := 20) rfl dX8_copy_17 kM_8_101 (by decide) (by decide) cat0 (r_fnd (by decide) (fun e hf => ?_))
      exact yr_iret dX8_copy_20 rfl (k0 (by omega) e hf)
  · refine yr_if_eq (pq := 7) (t := 14) rfl dX8_copy_4 rfl (by decide) (fun _ => ?_) (fun q9 => absurd (by decide) q9)
    refine yr_aload_n (pq := 15) rfl dX8_copy_14 rfl ?_
    refine yr_ldc (pq := 17) rfl dX8_copy_15 kN_8_73 ?_
    refine yr_vI1 (pq := 20) rfl dX8_copy_17 kM_8_101 (by decide) (by decide) cat0 (r_fnd (by decide) (fun e hf => ?_))
    exact yr_iret dX8_copy_20 rfl (k0 (by omega) e hf)
theorem s_copy {s f t o n : Int} (hI : Inv h) (hs : -2147483648 ≤ s ∧ s ≤ 2147483647) (hf : -2147483648 ≤ f ∧ f ≤ 2147483647) (ht : -2147483648 ≤ t ∧ t ≤ 2147483647) (ho : -2147483648 ≤ o ∧ o ≤ 2147483647) (hn : -2147483648 ≤ n ∧ n ≤ 2147483647) : Sm (d + 30) mX7_copy mX8_copy [vi s, vi f, vi t, vi o, vi n] h := by
  have hW : ∀ s, 0 ≤ s → s < 4 → (h 119 s = 0 ∨ h 119 s = 8 ∨ h 119 s = 16 ∨ h 119 s = 32) ∧ (0 ≤ h 120 s ∧ h 120 s ≤ 40) := fun s s0 s1 => ⟨(Inv_s hI s0 s1).2.1, (Inv_s hI s0 s1).2.2.2.1⟩
  have u9 : ∀ k z, up h 99 k z 119 = h 119 := fun k z => up_ne (by decide)
  have u0 : ∀ k z, up h 99 k z 120 = h 120 := fun k z => up_ne (by decide)
  show ClI (d + 30) mX7_copy [vr 0, vi s, vi f, vi t, vi o, vi n] h (SKn (d + 30) mX8_copy [vr 108, vi s, vi f, vi t, vi o, vi n])
  refine cl_in (al := [vr 0, vi s, vi f, vi t, vi o, vi n, .null, .null]) rfl (Nat.le_of_ble_eq_true rfl) (by simp [vi_cat, vr_cat, vs_cat]) ?_
  refine yr_iload_n (pq := 1) rfl dX7_copy_0 rfl ?_
  refine yr_sI1 (pq := 4) rfl dX7_copy_1 kM_7_269 (by decide) cat0 (c_isSheet hs (fun q1 => ?_) (fun q1 => ?_))
  · refine yr_if_eq (pq := 7) (t := 14) rfl dX7_copy_4 rfl (by decide) (fun q9 => absurd q9 (by decide)) (fun _ => ?_)
    refine yr_iload_n (pq := 8) rfl dX7_copy_7 rfl ?_
    refine yr_sI1 (pq := 11) rfl dX7_copy_8 kM_7_269 (by decide) cat0 (c_isSheet ht (fun q2 => ?_) (fun q2 => ?_))
    · obtain ⟨o1, o2, o3, o4, o5⟩ := Inv_s hI q1.1 (by omega)
      obtain ⟨p1, p2, p3, p4, p5⟩ := Inv_s hI q2.1 (by omega)
      have mis : (h 119 s = 0 ∨ h 119 t = 0) → Yr (d + 29) mX7_copy 52 [vr 0, vi s, vi f, vi t, vi o, vi n, vr (100 + 2 * s), vr (100 + 2 * t)] [] h (rI (SKn (d + 30) mX8_copy [vr 108, vi s, vi f, vi t, vi o, vi n])) := by
        intro q
        refine yr_aload_n (pq := 53) rfl dX7_copy_52 rfl ?_
        refine yr_iconst (pq := 54) rfl dX7_copy_53 ?_
        refine yr_vI1 (pq := 57) rfl dX7_copy_54 kM_7_66 (by decide) (by decide) cat0 (c_finding (by decide) ?_)
        exact yr_iret dX7_copy_57 rfl (r_copy (u9 _ _) (u0 _ _) hW hs hf ht ho hn (fun q9 => absurd ⟨q1, q2⟩ q9) (fun _ _ _ e hf => fd_end hI (by decide) (by decide) hf) (fun _ _ q8 q9 => absurd q (by omega)) (fun _ _ q8 q9 => absurd q (by omega)) (fun _ _ q8 q9 => absurd q (by omega)))
      refine yr_if_ne (pq := 14) (t := 20) rfl dX7_copy_11 rfl (by decide) (fun _ => ?_) (fun q9 => absurd q9 (by decide))
      refine yr_aload_n (pq := 21) rfl dX7_copy_20 rfl ?_
      refine yr_getR (pq := 24) (b := 98) 6 rfl dX7_copy_21 kF_7_46 (by decide) rfl ?_
      refine yr_iload_n (pq := 25) rfl dX7_copy_24 rfl ?_
      refine yr_aald (pq := 26) rfl dX7_copy_25 (a := 98) (L := 4) rfl (by decide) (by omega) (sq_b (by omega) (by omega)).2 ?_
      refine yr_astore6 (pq := 28) rfl dX7_copy_26 ?_
      refine yr_aload_n (pq := 29) rfl dX7_copy_28 rfl ?_
      refine yr_getR (pq := 32) (b := 98) 6 rfl dX7_copy_29 kF_7_46 (by decide) rfl ?_
      refine yr_iload_n (pq := 33) rfl dX7_copy_32 rfl ?_
      refine yr_aald (pq := 34) rfl dX7_copy_33 (a := 98) (L := 4) rfl (by decide) (by omega) (sq_b (by omega) (by omega)).2 ?_
      refine yr_astore7 (pq := 36) rfl dX7_copy_34 ?_
      refine yr_aload (pq := 38) rfl dX7_copy_36 rfl ?_
      refine yr_vI0 (pq := 41) rfl dX7_copy_38 kM_7_275 (by decide) (sq_c (sq_b (by omega) (by omega)).1) cat0 (c_isMissing (sq_b (by omega) (by omega)).1 (by omega) (fun q3 => ?_) (fun q3 => ?_))
      · refine yr_if_ne (pq := 44) (t := 52) rfl dX7_copy_41 rfl (by decide) (fun _ => ?_) (fun q9 => absurd q9 (by decide))
        exact mis (by omega)
      · refine yr_if_ne (pq := 44) (t := 52) rfl dX7_copy_41 rfl (by decide) (fun q9 => absurd (by decide) q9) (fun _ => ?_)
        refine yr_aload (pq := 46) rfl dX7_copy_44 rfl ?_
        refine yr_vI0 (pq := 49) rfl dX7_copy_46 kM_7_275 (by decide) (sq_c (sq_b (by omega) (by omega)).1) cat0 (c_isMissing (sq_b (by omega) (by omega)).1 (by omega) (fun q4 => ?_) (fun q4 => ?_))
        · refine yr_if_eq (pq := 52) (t := 58) rfl dX7_copy_49 rfl (by decide) (fun q9 => absurd q9 (by decide)) (fun _ => ?_)
          exact mis (by omega)
        · refine yr_if_eq (pq := 52) (t := 58) rfl dX7_copy_49 rfl (by decide) (fun _ => ?_) (fun q9 => absurd (by decide) q9)
          refine yr_aload (pq := 60) rfl dX7_copy_58 rfl ?_
          refine yr_getI (pq := 63) 0 rfl dX7_copy_60 kF_7_281 (by decide) rfl (sq_c (sq_b (by omega) (by omega)).1) ?_
          refine yr_aload (pq := 65) rfl dX7_copy_63 rfl ?_
          refine yr_getI (pq := 68) 0 rfl dX7_copy_65 kF_7_281 (by decide) rfl (sq_c (sq_b (by omega) (by omega)).1) ?_
          rw [o1, p1]
          refine yr_ic_eq (pq := 71) (t := 77) rfl dX7_copy_68 rfl (by omega) (by omega) (fun q5 => ?_) (fun q5 => ?_)
          · have bad : ¬ gdR (h 120) s f t o n → Yr (d + 29) mX7_copy 100 [vr 0, vi s, vi f, vi t, vi o, vi n, vr (100 + 2 * s), vr (100 + 2 * t)] [] h (rI (SKn (d + 30) mX8_copy [vr 108, vi s, vi f, vi t, vi o, vi n])) := by
              intro q
              refine yr_aload_n (pq := 101) rfl dX7_copy_100 rfl ?_
              refine yr_iconst (pq := 102) rfl dX7_copy_101 ?_
              refine yr_vI1 (pq := 105) rfl dX7_copy_102 kM_7_66 (by decide) (by decide) cat0 (c_finding (by decide) ?_)
              exact yr_iret dX7_copy_105 rfl (r_copy (u9 _ _) (u0 _ _) hW hs hf ht ho hn (fun q9 => absurd ⟨q1, q2⟩ q9) (fun _ _ q9 => absurd q9 (by omega)) (fun _ _ _ _ q9 => absurd q5 q9) (fun _ _ _ _ _ _ e hf => fd_end hI (by decide) (by decide) hf) (fun _ _ _ _ _ q9 => absurd q9 q))
            unfold gdR at bad
            refine yr_aload (pq := 79) rfl dX7_copy_77 rfl ?_
            refine yr_iload_n (pq := 80) rfl dX7_copy_79 rfl ?_
            refine yr_iload (pq := 82) rfl dX7_copy_80 rfl ?_
            refine yr_vI2 (pq := 85) rfl dX7_copy_82 kM_7_284 (by decide) (sq_c (sq_b (by omega) (by omega)).1) cat0 (c_hasRange (sq_b (by omega) (by omega)).1 (by omega) hf hn (fun q6 => ?_) (fun q6 => ?_))
            · refine yr_if_eq (pq := 88) (t := 100) rfl dX7_copy_85 rfl (by decide) (fun q9 => absurd q9 (by decide)) (fun _ => ?_)
              refine yr_aload (pq := 90) rfl dX7_copy_88 rfl ?_
              refine yr_iload (pq := 92) rfl dX7_copy_90 rfl ?_
              refine yr_iload (pq := 94) rfl dX7_copy_92 rfl ?_
              refine yr_vI2 (pq := 97) rfl dX7_copy_94 kM_7_284 (by decide) (sq_c (sq_b (by omega) (by omega)).1) cat0 (c_hasRange (sq_b (by omega) (by omega)).1 (by omega) ho hn (fun q7 => ?_) (fun q7 => ?_))
              · have gd : gdR (h 120) s f t o n := ⟨by omega, by omega, by omega, by omega, by omega⟩
                have w : ∀ a, a ≠ 100 + 2 * t + 1 → cp h (100 + 2 * s + 1) f (100 + 2 * t + 1) o n a = h a := fun a q => cp_o q
                refine yr_if_ne (pq := 100) (t := 106) rfl dX7_copy_97 rfl (by decide) (fun _ => ?_) (fun q9 => absurd q9 (by decide))
                refine yr_aload (pq := 108) rfl dX7_copy_106 rfl ?_
                refine yr_getR (pq := 111) 2 rfl dX7_copy_108 kF_7_287 (sq_c (sq_b (by omega) (by omega)).1) (fr_4_2 (sq_b (by omega) (by omega)).1) ?_
                refine yr_iload_n (pq := 112) rfl dX7_copy_111 rfl ?_
                refine yr_aload (pq := 114) rfl dX7_copy_112 rfl ?_
                refine yr_getR (pq := 117) 2 rfl dX7_copy_114 kF_7_287 (sq_c (sq_b (by omega) (by omega)).1) (fr_4_2 (sq_b (by omega) (by omega)).1) ?_
                refine yr_iload (pq := 119) rfl dX7_copy_117 rfl ?_
                refine yr_iload (pq := 121) rfl dX7_copy_119 rfl ?_
                refine yr_cpy (pq := 124) rfl dX7_copy_121 kO_7_290 kX_7_290 (sq_k1 (sq_b (by omega) (by omega)).1) (sq_k1 (sq_b (by omega) (by omega)).1) ⟨(sq_n (sq_b (by omega) (by omega)).1 1 (by decide)), (sq_n (sq_b (by omega) (by omega)).1 1 (by decide))⟩ (by omega) (by omega) (by omega) cat0 ?_
                refine yr_iload (pq := 126) rfl dX7_copy_124 rfl ?_
                refine yr_iret dX7_copy_126 rfl ?_
                refine r_copy (W := h 119) (Z := h 120) (w 119 (by omega)) (w 120 (by omega)) hW hs hf ht ho hn (fun q9 => absurd ⟨q1, q2⟩ q9) (fun _ _ q9 => absurd q9 (by omega)) (fun _ _ _ _ q9 => absurd q5 q9) (fun _ _ _ _ _ q9 => absurd gd q9) (fun _ _ _ _ _ _ e e0 e1 e2 => ⟨rfl, ?_⟩)
                rw [w 121 (by omega)] at e1 e2
                have w2 : ∀ a, a ≠ 121 → a ≠ 122 → a ≠ 100 + 2 * t + 1 → e a = h a := fun a q1 q2 q3 => by rw [e0 a q1 q2, w a q3]
                refine Inv_sh hI (fun a q1 q2 q3 q4 q5 => w2 a q5 (by unfold CR at q1; omega) (by omega)) (fun j _ => by rw [w2 108 (by decide) (by decide) (by omega)]) (fun u u0 u1 => ?_)
                have z := Inv_s hI u0 u1
                unfold shI at z ⊢
                rw [w2 (100 + 2 * u) (by omega) (by omega) (by omega), w2 119 (by decide) (by decide) (by omega), w2 120 (by decide) (by decide) (by omega)]
                obtain ⟨y1, y2, y3, y4, y5⟩ := z
                refine ⟨y1, y2, y3, y4, fun i j0 j1 => ?_⟩
                rw [e0 (100 + 2 * u + 1) (by omega) (by omega)]
                by_cases eu : u = t
                · subst eu
                  by_cases ei : o ≤ i ∧ i < o + n
                  · have z1 := e1 (i - o) (by omega) (by omega)
                    have z2 := o5 (f + (i - o)) (by omega) (by omega)
                    rw [show 40 * u + o + (i - o) = 40 * u + i by omega, show 40 * s + f + (i - o) = 40 * s + (f + (i - o)) by omega] at z1
                    rw [cp_i ei.1 ei.2, z1]
                    exact z2
                  · rw [cp_x (by omega), e2 _ (by omega)]
                    exact y5 i j0 j1
                · rw [w _ (by omega), e2 _ (by omega)]
                  exact y5 i j0 j1
              · refine yr_if_ne (pq := 100) (t := 106) rfl dX7_copy_97 rfl (by decide) (fun q9 => absurd (by decide) q9) (fun _ => ?_)
                exact bad (by omega)
            · refine yr_if_eq (pq := 88) (t := 100) rfl dX7_copy_85 rfl (by decide) (fun _ => ?_) (fun q9 => absurd (by decide) q9)
              exact bad (by omega)
          · refine yr_aload_n (pq := 72) rfl dX7_copy_71 rfl ?_
            refine yr_iconst (pq := 73) rfl dX7_copy_72 ?_
            refine yr_vI1 (pq := 76) rfl dX7_copy_73 kM_7_66 (by decide) (by decide) cat0 (c_finding (by decide) ?_)
            exact yr_iret dX7_copy_76 rfl (r_copy (u9 _ _) (u0 _ _) hW hs hf ht ho hn (fun q9 => absurd ⟨q1, q2⟩ q9) (fun _ _ q9 => absurd q9 (by omega)) (fun _ _ _ _ _ e hf => fd_end hI (by decide) (by decide) hf) (fun _ _ _ _ q9 => absurd q9 q5) (fun _ _ _ _ q9 => absurd q9 q5))
    · refine yr_if_ne (pq := 14) (t := 20) rfl dX7_copy_11 rfl (by decide) (fun q9 => absurd (by decide) q9) (fun _ => ?_)
      refine yr_aload_n (pq := 15) rfl dX7_copy_14 rfl ?_
      refine yr_iconst (pq := 16) rfl dX7_copy_15 ?_
      refine yr_vI1 (pq := 19) rfl dX7_copy_16 kM_7_66 (by decide) (by decide) cat0 (c_finding (by decide) ?_)
      exact yr_iret dX7_copy_19 rfl (r_copy (u9 _ _) (u0 _ _) hW hs hf ht ho hn (fun _ e hf => fd_end hI (by decide) (by decide) hf) (fun _ q9 => absurd q9 q2) (fun _ q9 => absurd q9 q2) (fun _ q9 => absurd q9 q2) (fun _ q9 => absurd q9 q2))
  · refine yr_if_eq (pq := 7) (t := 14) rfl dX7_copy_4 rfl (by decide) (fun _ => ?_) (fun q9 => absurd (by decide) q9)
    refine yr_aload_n (pq := 15) rfl dX7_copy_14 rfl ?_
    refine yr_iconst (pq := 16) rfl dX7_copy_15 ?_
    refine yr_vI1 (pq := 19) rfl dX7_copy_16 kM_7_66 (by decide) (by decide) cat0 (c_finding (by decide) ?_)
    exact yr_iret dX7_copy_19 rfl (r_copy (u9 _ _) (u0 _ _) hW hs hf ht ho hn (fun _ e hf => fd_end hI (by decide) (by decide) hf) (fun q9 => absurd q9 q1) (fun q9 => absurd q9 q1) (fun q9 => absurd q9 q1) (fun q9 => absurd q9 q1))
end S31
